set_option maxHeartbeats 4000000 in
set_option maxRecDepth 100000 in
theorem lp_X_makeHull_48 {κ : jk_K} {cI cL : ClassId} {ad : Nat → Nat} {Q : Int32 → SX → Prop} (C : jk_C κ b_X_makeHull R_X rm_X_makeHull 9 [(cI, .int), (cL, .long)]) (E : jk_E κ (some .int) (va_Qi Q (jk_B (jk_G κ) [(cI, .int), (cL, .long)] (jk_A κ) (wX cI cL ad)) (jk_A κ)) rm_X_makeHull.cells rm_X_makeHull.slots) (y3 : Int32) (y4 : Int64) : ∀ (n : Nat) (y2 : Int32) (y6 : Int32) (y7 : Int32) (y8 : Int32) (σ : SX), wl_X_makeHull_48 y3 y4 Q n y2 y6 y7 y8 σ → jk_J κ (wX cI cL ad σ) 48 [(0, .ref (ad 0)), (2, .int y2), (3, .int y3), (4, .long y4), (6, .int y6), (7, .int y7), (8, .int y8)] [] 0 0 := by
  intro n
  induction n with
  | zero => intro y2 y6 y7 y8 σ hw; exact hw.elim
  | succ n ih =>
    intro y2 y6 y7 y8 σ hw
    rw [wl_X_makeHull_48] at hw
    refine j_iload (pc := 48) C d_X_makeHull_48 6 rfl ?_
    refine j_iload_n (pc := 50) C d_X_makeHull_50 rfl 2 rfl ?_
    refine j_icmp_gt (pc := 51) (tgt := 146) C d_X_makeHull_51 (by decide) (fun c11 => ?_) (fun c11 => ?_)
    · have hw := hw.1 c11
      refine j_iload (pc := 146) C d_X_makeHull_146 5 rfl ?_
      exact j_iret (pc := 148) C E hw (Nat.le_of_ble_eq_true rfl) (Nat.le_of_ble_eq_true rfl) d_X_makeHull_148
    · have hw := hw.2 c11
      refine j_iload (pc := 54) C d_X_makeHull_54 6 rfl ?_
      refine j_iload (pc := 56) C d_X_makeHull_56 4 rfl ?_
      refine j_icmp_ne (pc := 58) (tgt := 124) C d_X_makeHull_58 (by decide) (fun c12 => ?_) (fun c12 => ?_)
      · have hw := hw.1 c12
        refine j_aload_n (pc := 124) C d_X_makeHull_124 rfl 0 rfl ?_
        refine j_get (pc := 125) C i_X 0 rfl rfl 14 (Nat.le_of_ble_eq_true rfl) k_41 rfl d_X_makeHull_125 ?_
        refine j_iload (pc := 128) C d_X_makeHull_128 6 rfl ?_
        refine j_iconst (v := 0) (pc := 130) C d_X_makeHull_130 (by decide) ?_
        obtain ⟨hi13, hw⟩ := hw
        obtain ⟨σ14, e_σ14⟩ : ∃ z : SX, z = uX_costs σ (upd (sX_costs σ) (Int32.toNatClampNeg y8) 0) := ⟨_, rfl⟩
        have hw := hw σ14 e_σ14
        refine j_iast (pc := 131) (ws' := wX cI cL ad σ14) C 11 0 rfl rfl hi13 (by rw [e_σ14]; rfl) d_X_makeHull_131 ?_
        refine j_aload_n (pc := 132) C d_X_makeHull_132 rfl 0 rfl ?_
        refine j_get (pc := 133) C i_X 0 rfl rfl 13 (Nat.le_of_ble_eq_true rfl) k_42 rfl d_X_makeHull_133 ?_
        refine j_iload (pc := 136) C d_X_makeHull_136 6 rfl ?_
        refine j_lconst (v := 0) (pc := 138) C d_X_makeHull_138 (by decide) ?_
        obtain ⟨hi15, hw⟩ := hw
        obtain ⟨σ16, e_σ16⟩ : ∃ z : SX, z = uX_rises σ14 (vp_updL (sX_rises σ14) (Int32.toNatClampNeg y8) 0) := ⟨_, rfl⟩
        have hw := hw σ16 e_σ16
        refine j_last (pc := 139) (ws' := wX cI cL ad σ16) C 10 1 rfl rfl hi15 (by rw [e_σ16]; rfl) d_X_makeHull_139 ?_
        refine j_iinc (pc := 140) (lv' := [(8, .int (y8 + 1)), (0, .ref (ad 0)), (2, .int y2), (3, .int y3), (4, .long y4), (6, .int y6), (7, .int y7)]) C d_X_makeHull_140 (k := 6) rfl rfl (Nat.le_of_ble_eq_true rfl) rfl ?_
        refine j_goto (pc := 143) (tgt := 48) C d_X_makeHull_143 (by decide) ?_
        refine j_locs [1, 2, 3, 4, 5, 6, 0] rfl ?_
        exact ih y2 y6 y7 (y8 + 1) σ16 hw
      · have hw := hw.2 c12
        refine j_aload_n (pc := 61) C d_X_makeHull_61 rfl 0 rfl ?_
        refine j_get (pc := 62) C i_X 0 rfl rfl 14 (Nat.le_of_ble_eq_true rfl) k_41 rfl d_X_makeHull_62 ?_
        refine j_iload (pc := 65) C d_X_makeHull_65 6 rfl ?_
        refine j_aload_n (pc := 67) C d_X_makeHull_67 rfl 0 rfl ?_
        refine j_get (pc := 68) C i_X 0 rfl rfl 11 (Nat.le_of_ble_eq_true rfl) k_25 rfl d_X_makeHull_68 ?_
        refine j_iload (pc := 71) C d_X_makeHull_71 6 rfl ?_
        obtain ⟨hi17, hw⟩ := hw
        refine j_iald (pc := 73) C 8 0 rfl rfl hi17 d_X_makeHull_73 ?_
        refine j_aload_n (pc := 74) C d_X_makeHull_74 rfl 0 rfl ?_
        refine j_get (pc := 75) C i_X 0 rfl rfl 11 (Nat.le_of_ble_eq_true rfl) k_25 rfl d_X_makeHull_75 ?_
        refine j_iload_n (pc := 78) C d_X_makeHull_78 rfl 1 rfl ?_
        obtain ⟨hi18, hw⟩ := hw
        refine j_iald (pc := 79) C 8 0 rfl rfl hi18 d_X_makeHull_79 ?_
        refine j_isub (pc := 80) C d_X_makeHull_80 ?_
        obtain ⟨hi19, hw⟩ := hw
        obtain ⟨σ20, e_σ20⟩ : ∃ z : SX, z = uX_costs σ (upd (sX_costs σ) (Int32.toNatClampNeg y8) ((sX_ls σ (Int32.toNatClampNeg y8)) - (sX_ls σ (Int32.toNatClampNeg y2)))) := ⟨_, rfl⟩
        have hw := hw σ20 e_σ20
        refine j_iast (pc := 81) (ws' := wX cI cL ad σ20) C 11 0 rfl rfl hi19 (by rw [e_σ20]; rfl) d_X_makeHull_81 ?_
        refine j_aload_n (pc := 82) C d_X_makeHull_82 rfl 0 rfl ?_
        refine j_get (pc := 83) C i_X 0 rfl rfl 13 (Nat.le_of_ble_eq_true rfl) k_42 rfl d_X_makeHull_83 ?_
        refine j_iload (pc := 86) C d_X_makeHull_86 6 rfl ?_
        refine j_aload_n (pc := 88) C d_X_makeHull_88 rfl 0 rfl ?_
        refine j_get (pc := 89) C i_X 0 rfl rfl 12 (Nat.le_of_ble_eq_true rfl) k_26 rfl d_X_makeHull_89 ?_
        refine j_iload (pc := 92) C d_X_makeHull_92 6 rfl ?_
        obtain ⟨hi21, hw⟩ := hw
        refine j_iald (pc := 94) C 9 0 rfl rfl hi21 d_X_makeHull_94 ?_
        refine j_aload_n (pc := 95) C d_X_makeHull_95 rfl 0 rfl ?_
        refine j_get (pc := 96) C i_X 0 rfl rfl 12 (Nat.le_of_ble_eq_true rfl) k_26 rfl d_X_makeHull_96 ?_
        refine j_iload_n (pc := 99) C d_X_makeHull_99 rfl 1 rfl ?_
        obtain ⟨hi22, hw⟩ := hw
        refine j_iald (pc := 100) C 9 0 rfl rfl hi22 d_X_makeHull_100 ?_
        refine j_isub (pc := 101) C d_X_makeHull_101 ?_
        refine j_i2l (pc := 102) C d_X_makeHull_102 ?_
        refine j_lload (pc := 103) C d_X_makeHull_103 3 rfl ?_
        refine j_lmul (pc := 105) C d_X_makeHull_105 ?_
        obtain ⟨hi23, hw⟩ := hw
        obtain ⟨σ24, e_σ24⟩ : ∃ z : SX, z = uX_rises σ20 (vp_updL (sX_rises σ20) (Int32.toNatClampNeg y8) ((Int32.toInt64 ((sX_gs σ20 (Int32.toNatClampNeg y8)) - (sX_gs σ20 (Int32.toNatClampNeg y2)))) * y4)) := ⟨_, rfl⟩
        have hw := hw σ24 e_σ24
        refine j_last (pc := 106) (ws' := wX cI cL ad σ24) C 10 1 rfl rfl hi23 (by rw [e_σ24]; rfl) d_X_makeHull_106 ?_
        refine j_iinc (pc := 107) (lv' := [(7, .int (y7 + 1)), (0, .ref (ad 0)), (2, .int y2), (3, .int y3), (4, .long y4), (6, .int y6), (8, .int y8)]) C d_X_makeHull_107 (k := 5) rfl rfl (Nat.le_of_ble_eq_true rfl) rfl ?_
        refine j_iload (pc := 110) C d_X_makeHull_110 6 rfl ?_
        refine j_istore_n (pc := 112) (lv' := [(2, .int y8), (7, .int (y7 + 1)), (0, .ref (ad 0)), (3, .int y3), (4, .long y4), (6, .int y6), (8, .int y8)]) C d_X_makeHull_112 rfl (Nat.le_of_ble_eq_true rfl) rfl ?_
        refine j_aload_n (pc := 113) C d_X_makeHull_113 rfl 2 rfl ?_
        refine j_iload_n (pc := 114) C d_X_makeHull_114 rfl 0 rfl ?_
        refine j_iload_n (pc := 115) C d_X_makeHull_115 rfl 3 rfl ?_
        refine j_callVi0 (pc := 116) (st := []) (As := [.int y8, .int y3]) (wf := wX cI cL ad) C (c_X_steepestFrom (jk_l κ) (jk_G κ) cI cL ad σ24 y8 y3 _ hw) g_X_174 hdV_X_steepestFrom ⟨(Nat.le_of_ble_eq_true rfl), (Nat.le_of_ble_eq_true rfl)⟩ rfl (q0 := 0) rfl rfl rfl rfl (Nat.le_of_ble_eq_true rfl) d_X_makeHull_116 ⟨(Nat.le_of_ble_eq_true rfl), (Nat.le_of_ble_eq_true rfl)⟩ (fun r26 σ25 hw => ?_)
        refine j_istore (pc := 119) (lv' := [(6, .int r26), (2, .int y8), (7, .int (y7 + 1)), (0, .ref (ad 0)), (3, .int y3), (4, .long y4), (8, .int y8)]) C d_X_makeHull_119 (Nat.le_of_ble_eq_true rfl) rfl ?_
        refine j_goto (pc := 121) (tgt := 140) C d_X_makeHull_121 (by decide) ?_
        refine j_iinc (pc := 140) (lv' := [(8, .int (y8 + 1)), (6, .int r26), (2, .int y8), (7, .int (y7 + 1)), (0, .ref (ad 0)), (3, .int y3), (4, .long y4)]) C d_X_makeHull_140 (k := 6) rfl rfl (Nat.le_of_ble_eq_true rfl) rfl ?_
        refine j_goto (pc := 143) (tgt := 48) C d_X_makeHull_143 (by decide) ?_
        refine j_locs [4, 2, 5, 6, 1, 3, 0] rfl ?_
        exact ih y8 r26 (y7 + 1) (y8 + 1) σ25 hw
set_option maxHeartbeats 4000000 in
set_option maxRecDepth 100000 in
theorem c_X_makeHull (l : Launch) (G : va_G) (cI cL : ClassId) (ad : Nat → Nat) (σ : SX) (p1 : Int32) (Q : Int32 → SX → Prop) (hw : wp_X_makeHull σ p1 Q) : jm_i l G [(cI, .int), (cL, .long)] y_X_makeHull b_X_makeHull 9 .int rm_X_makeHull [.ref (ad 0), .int p1] (wX cI cL ad σ) (wX cI cL ad) Q := by
  refine jm_open_i (by decide +kernel) (Nat.le_of_ble_eq_true rfl) ?_
  intro κ hl hG C E hi
  subst hl; subst hG
  unfold wp_X_makeHull at hw
  refine j_iload_n (pc := 0) C d_X_makeHull_0 rfl 1 rfl ?_
  refine j_callSi0 (pc := 1) (st := []) (As := [.int p1]) (wf := wX cI cL ad) C (c_X_startOf (jk_l κ) (jk_G κ) cI cL ad σ p1 _ hw) g_X_90 hdS_X_startOf ⟨(Nat.le_of_ble_eq_true rfl), (Nat.le_of_ble_eq_true rfl)⟩ rfl rfl (Nat.le_of_ble_eq_true rfl) d_X_makeHull_1 ⟨(Nat.le_of_ble_eq_true rfl), (Nat.le_of_ble_eq_true rfl)⟩ (fun r2 σ1 hw => ?_)
  refine j_istore_n (pc := 4) (lv' := [(2, .int r2), (0, .ref (ad 0)), (1, .int p1)]) C d_X_makeHull_4 rfl (Nat.le_of_ble_eq_true rfl) rfl ?_
  refine j_iload_n (pc := 5) C d_X_makeHull_5 rfl 0 rfl ?_
  refine j_aload_n (pc := 6) C d_X_makeHull_6 rfl 1 rfl ?_
  refine j_get (pc := 7) C i_X 0 rfl rfl 8 (Nat.le_of_ble_eq_true rfl) k_3 rfl d_X_makeHull_7 ?_
  refine j_iload_n (pc := 10) C d_X_makeHull_10 rfl 2 rfl ?_
  obtain ⟨hi3, hw⟩ := hw
  refine j_iald (pc := 11) C 7 0 rfl rfl hi3 d_X_makeHull_11 ?_
  refine j_iadd (pc := 12) C d_X_makeHull_12 ?_
  refine j_nmi (fun x4 e_x4 => ?_)
  have hw := hw x4 e_x4
  refine j_istore_n (pc := 13) (lv' := [(3, .int x4), (2, .int r2), (0, .ref (ad 0)), (1, .int p1)]) C d_X_makeHull_13 rfl (Nat.le_of_ble_eq_true rfl) rfl ?_
  refine j_aload_n (pc := 14) C d_X_makeHull_14 rfl 2 rfl ?_
  refine j_get (pc := 15) C i_X 0 rfl rfl 6 (Nat.le_of_ble_eq_true rfl) k_1 rfl d_X_makeHull_15 ?_
  refine j_iload_n (pc := 18) C d_X_makeHull_18 rfl 3 rfl ?_
  obtain ⟨hi5, hw⟩ := hw
  refine j_iald (pc := 19) C 5 0 rfl rfl hi5 d_X_makeHull_19 ?_
  refine j_i2l (pc := 20) C d_X_makeHull_20 ?_
  refine j_iconst (v := 2) (pc := 21) C d_X_makeHull_21 (by decide) ?_
  refine j_aload_n (pc := 22) C d_X_makeHull_22 rfl 2 rfl ?_
  refine j_get (pc := 23) C i_X 0 rfl rfl 7 (Nat.le_of_ble_eq_true rfl) k_2 rfl d_X_makeHull_23 ?_
  refine j_iload_n (pc := 26) C d_X_makeHull_26 rfl 3 rfl ?_
  obtain ⟨hi6, hw⟩ := hw
  refine j_iald (pc := 27) C 6 0 rfl rfl hi6 d_X_makeHull_27 ?_
  refine j_imul (pc := 28) C d_X_makeHull_28 ?_
  refine j_lshl (pc := 29) C d_X_makeHull_29 ?_
  refine j_nml (fun x7 e_x7 => ?_)
  have hw := hw x7 e_x7
  refine j_lstore (pc := 30) (lv' := [(4, .long x7), (3, .int x4), (2, .int r2), (0, .ref (ad 0)), (1, .int p1)]) C d_X_makeHull_30 (Nat.le_of_ble_eq_true rfl) rfl ?_
  refine j_aload_n (pc := 32) C d_X_makeHull_32 rfl 3 rfl ?_
  refine j_iload_n (pc := 33) C d_X_makeHull_33 rfl 2 rfl ?_
  refine j_iload_n (pc := 34) C d_X_makeHull_34 rfl 1 rfl ?_
  refine j_callVi0 (pc := 35) (st := []) (As := [.int r2, .int x4]) (wf := wX cI cL ad) C (c_X_steepestFrom (jk_l κ) (jk_G κ) cI cL ad σ1 r2 x4 _ hw) g_X_174 hdV_X_steepestFrom ⟨(Nat.le_of_ble_eq_true rfl), (Nat.le_of_ble_eq_true rfl)⟩ rfl (q0 := 0) rfl rfl rfl rfl (Nat.le_of_ble_eq_true rfl) d_X_makeHull_35 ⟨(Nat.le_of_ble_eq_true rfl), (Nat.le_of_ble_eq_true rfl)⟩ (fun r9 σ8 hw => ?_)
  refine j_istore (pc := 38) (lv' := [(6, .int r9), (4, .long x7), (3, .int x4), (2, .int r2), (0, .ref (ad 0)), (1, .int p1)]) C d_X_makeHull_38 (Nat.le_of_ble_eq_true rfl) rfl ?_
  refine j_iconst (v := 0) (pc := 40) C d_X_makeHull_40 (by decide) ?_
  refine j_istore (pc := 41) (lv' := [(7, .int 0), (6, .int r9), (4, .long x7), (3, .int x4), (2, .int r2), (0, .ref (ad 0)), (1, .int p1)]) C d_X_makeHull_41 (Nat.le_of_ble_eq_true rfl) rfl ?_
  refine j_iload_n (pc := 43) C d_X_makeHull_43 rfl 4 rfl ?_
  refine j_iconst (v := 1) (pc := 44) C d_X_makeHull_44 (by decide) ?_
  refine j_iadd (pc := 45) C d_X_makeHull_45 ?_
  refine j_nmi (fun x10 e_x10 => ?_)
  have hw := hw x10 e_x10
  refine j_istore (pc := 46) (lv' := [(8, .int x10), (7, .int 0), (6, .int r9), (4, .long x7), (3, .int x4), (2, .int r2), (0, .ref (ad 0)), (1, .int p1)]) C d_X_makeHull_46 (Nat.le_of_ble_eq_true rfl) rfl ?_
  obtain ⟨n27, hw⟩ := hw
  refine j_locs [6, 5, 4, 3, 2, 1, 0] rfl ?_
  exact lp_X_makeHull_48 C E x4 x7 n27 r2 r9 0 x10 σ8 hw
set_option maxHeartbeats 4000000 in
set_option maxRecDepth 100000 in
theorem c_JL_compare (l : Launch) (G : va_G) (cI cL : ClassId) (ad : Nat → Nat) (σ : SX) (p0 : Int64) (p2 : Int64) (Q : Int32 → SX → Prop) (hw : wp_JL_compare σ p0 p2 Q) : jm_i l G [(cI, .int), (cL, .long)] y_JL_compare b_JL_compare 4 .int rm_JL_compare [.long p0, .long p2] (wX cI cL ad σ) (wX cI cL ad) Q := by
  refine jm_open_i (by decide +kernel) (Nat.le_of_ble_eq_true rfl) ?_
  intro κ hl hG C E hi
  subst hl; subst hG
  unfold wp_JL_compare at hw
  refine j_lload_n (pc := 0) C d_JL_compare_0 rfl 0 rfl ?_
  refine j_lload_n (pc := 1) C d_JL_compare_1 rfl 1 rfl ?_
  refine j_lcmp (pc := 2) C d_JL_compare_2 ?_
  refine j_if_ge (pc := 3) (tgt := 10) C d_JL_compare_3 (by decide) (fun c1 => ?_) (fun c1 => ?_)
  · have hw := hw.1 c1
    refine j_lload_n (pc := 10) C d_JL_compare_10 rfl 0 rfl ?_
    refine j_lload_n (pc := 11) C d_JL_compare_11 rfl 1 rfl ?_
    refine j_lcmp (pc := 12) C d_JL_compare_12 ?_
    refine j_if_ne (pc := 13) (tgt := 20) C d_JL_compare_13 (by decide) (fun c2 => ?_) (fun c2 => ?_)
    · have hw := hw.1 c2
      refine j_iconst (v := 1) (pc := 20) C d_JL_compare_20 (by decide) ?_
      exact j_iret (pc := 21) C E hw (Nat.le_of_ble_eq_true rfl) (Nat.le_of_ble_eq_true rfl) d_JL_compare_21
    · have hw := hw.2 c2
      refine j_iconst (v := 0) (pc := 16) C d_JL_compare_16 (by decide) ?_
      refine j_goto (pc := 17) (tgt := 21) C d_JL_compare_17 (by decide) ?_
      exact j_iret (pc := 21) C E hw (Nat.le_of_ble_eq_true rfl) (Nat.le_of_ble_eq_true rfl) d_JL_compare_21
  · have hw := hw.2 c1
    refine j_iconst (v := (-1)) (pc := 6) C d_JL_compare_6 (by decide) ?_
    refine j_goto (pc := 7) (tgt := 21) C d_JL_compare_7 (by decide) ?_
    exact j_iret (pc := 21) C E hw (Nat.le_of_ble_eq_true rfl) (Nat.le_of_ble_eq_true rfl) d_JL_compare_21
set_option maxHeartbeats 4000000 in
set_option maxRecDepth 100000 in
theorem c_X_compareSlopes (l : Launch) (G : va_G) (cI cL : ClassId) (ad : Nat → Nat) (σ : SX) (p1 : Int32) (p2 : Int32) (Q : Int32 → SX → Prop) (hw : wp_X_compareSlopes σ p1 p2 Q) : jm_i l G [(cI, .int), (cL, .long)] y_X_compareSlopes b_X_compareSlopes 3 .int rm_X_compareSlopes [.ref (ad 0), .int p1, .int p2] (wX cI cL ad σ) (wX cI cL ad) Q := by
  refine jm_open_i (by decide +kernel) (Nat.le_of_ble_eq_true rfl) ?_
  intro κ hl hG C E hi
  subst hl; subst hG
  unfold wp_X_compareSlopes at hw
  refine j_aload_n (pc := 0) C d_X_compareSlopes_0 rfl 0 rfl ?_
  refine j_get (pc := 1) C i_X 0 rfl rfl 13 (Nat.le_of_ble_eq_true rfl) k_42 rfl d_X_compareSlopes_1 ?_
  refine j_iload_n (pc := 4) C d_X_compareSlopes_4 rfl 1 rfl ?_
  obtain ⟨hi1, hw⟩ := hw
  refine j_lald (pc := 5) C 10 1 rfl rfl hi1 d_X_compareSlopes_5 ?_
  refine j_aload_n (pc := 6) C d_X_compareSlopes_6 rfl 0 rfl ?_
  refine j_get (pc := 7) C i_X 0 rfl rfl 14 (Nat.le_of_ble_eq_true rfl) k_41 rfl d_X_compareSlopes_7 ?_
  refine j_iload_n (pc := 10) C d_X_compareSlopes_10 rfl 2 rfl ?_
  obtain ⟨hi2, hw⟩ := hw
  refine j_iald (pc := 11) C 11 0 rfl rfl hi2 d_X_compareSlopes_11 ?_
  refine j_i2l (pc := 12) C d_X_compareSlopes_12 ?_
  refine j_lmul (pc := 13) C d_X_compareSlopes_13 ?_
  refine j_aload_n (pc := 14) C d_X_compareSlopes_14 rfl 0 rfl ?_
  refine j_get (pc := 15) C i_X 0 rfl rfl 13 (Nat.le_of_ble_eq_true rfl) k_42 rfl d_X_compareSlopes_15 ?_
  refine j_iload_n (pc := 18) C d_X_compareSlopes_18 rfl 2 rfl ?_
  obtain ⟨hi3, hw⟩ := hw
  refine j_lald (pc := 19) C 10 1 rfl rfl hi3 d_X_compareSlopes_19 ?_
  refine j_aload_n (pc := 20) C d_X_compareSlopes_20 rfl 0 rfl ?_
  refine j_get (pc := 21) C i_X 0 rfl rfl 14 (Nat.le_of_ble_eq_true rfl) k_41 rfl d_X_compareSlopes_21 ?_
  refine j_iload_n (pc := 24) C d_X_compareSlopes_24 rfl 1 rfl ?_
  obtain ⟨hi4, hw⟩ := hw
  refine j_iald (pc := 25) C 11 0 rfl rfl hi4 d_X_compareSlopes_25 ?_
  refine j_i2l (pc := 26) C d_X_compareSlopes_26 ?_
  refine j_lmul (pc := 27) C d_X_compareSlopes_27 ?_
  refine j_callSi0 (pc := 28) (st := []) (As := [.long ((sX_rises σ (Int32.toNatClampNeg p1)) * (Int32.toInt64 (sX_costs σ (Int32.toNatClampNeg p2)))), .long ((sX_rises σ (Int32.toNatClampNeg p2)) * (Int32.toInt64 (sX_costs σ (Int32.toNatClampNeg p1))))]) (wf := wX cI cL ad) C (c_JL_compare (jk_l κ) (jk_G κ) cI cL ad σ ((sX_rises σ (Int32.toNatClampNeg p1)) * (Int32.toInt64 (sX_costs σ (Int32.toNatClampNeg p2)))) ((sX_rises σ (Int32.toNatClampNeg p2)) * (Int32.toInt64 (sX_costs σ (Int32.toNatClampNeg p1)))) _ hw) g_X_184 hdS_JL_compare ⟨(Nat.le_of_ble_eq_true rfl), (Nat.le_of_ble_eq_true rfl)⟩ rfl rfl (Nat.le_of_ble_eq_true rfl) d_X_compareSlopes_28 ⟨(Nat.le_of_ble_eq_true rfl), (Nat.le_of_ble_eq_true rfl)⟩ (fun r6 σ5 hw => ?_)
  exact j_iret (pc := 31) C E hw (Nat.le_of_ble_eq_true rfl) (Nat.le_of_ble_eq_true rfl) d_X_compareSlopes_31
set_option maxHeartbeats 4000000 in
set_option maxRecDepth 100000 in
theorem c_X_comesBefore (l : Launch) (G : va_G) (cI cL : ClassId) (ad : Nat → Nat) (σ : SX) (p1 : Int32) (p2 : Int32) (Q : Int32 → SX → Prop) (hw : wp_X_comesBefore σ p1 p2 Q) : jm_i l G [(cI, .int), (cL, .long)] y_X_comesBefore b_X_comesBefore 4 .boolean rm_X_comesBefore [.ref (ad 0), .int p1, .int p2] (wX cI cL ad σ) (wX cI cL ad) Q := by
  refine jm_open_i (by decide +kernel) (Nat.le_of_ble_eq_true rfl) ?_
  intro κ hl hG C E hi
  subst hl; subst hG
  unfold wp_X_comesBefore at hw
  refine j_aload_n (pc := 0) C d_X_comesBefore_0 rfl 0 rfl ?_
  refine j_iload_n (pc := 1) C d_X_comesBefore_1 rfl 1 rfl ?_
  refine j_iload_n (pc := 2) C d_X_comesBefore_2 rfl 2 rfl ?_
  refine j_callVi0 (pc := 3) (st := []) (As := [.int p1, .int p2]) (wf := wX cI cL ad) C (c_X_compareSlopes (jk_l κ) (jk_G κ) cI cL ad σ p1 p2 _ hw) g_X_181 hdV_X_compareSlopes ⟨(Nat.le_of_ble_eq_true rfl), (Nat.le_of_ble_eq_true rfl)⟩ rfl (q0 := 0) rfl rfl rfl rfl (Nat.le_of_ble_eq_true rfl) d_X_comesBefore_3 ⟨(Nat.le_of_ble_eq_true rfl), (Nat.le_of_ble_eq_true rfl)⟩ (fun r2 σ1 hw => ?_)
  refine j_istore_n (pc := 6) (lv' := [(3, .int r2), (0, .ref (ad 0)), (1, .int p1), (2, .int p2)]) C d_X_comesBefore_6 rfl (Nat.le_of_ble_eq_true rfl) rfl ?_
  refine j_iload_n (pc := 7) C d_X_comesBefore_7 rfl 0 rfl ?_
  refine j_if_gt (pc := 8) (tgt := 20) C d_X_comesBefore_8 (by decide) (fun c3 => ?_) (fun c3 => ?_)
  · have hw := hw.1 c3
    refine j_iconst (v := 1) (pc := 20) C d_X_comesBefore_20 (by decide) ?_
    refine j_goto (pc := 21) (tgt := 25) C d_X_comesBefore_21 (by decide) ?_
    exact j_zret (pc := 25) C E hw rfl (Nat.le_of_ble_eq_true rfl) (Nat.le_of_ble_eq_true rfl) d_X_comesBefore_25
  · have hw := hw.2 c3
    refine j_iload_n (pc := 11) C d_X_comesBefore_11 rfl 0 rfl ?_
    refine j_if_ne (pc := 12) (tgt := 24) C d_X_comesBefore_12 (by decide) (fun c4 => ?_) (fun c4 => ?_)
    · have hw := hw.1 c4
      refine j_iconst (v := 0) (pc := 24) C d_X_comesBefore_24 (by decide) ?_
      exact j_zret (pc := 25) C E hw rfl (Nat.le_of_ble_eq_true rfl) (Nat.le_of_ble_eq_true rfl) d_X_comesBefore_25
    · have hw := hw.2 c4
      refine j_iload_n (pc := 15) C d_X_comesBefore_15 rfl 2 rfl ?_
      refine j_iload_n (pc := 16) C d_X_comesBefore_16 rfl 3 rfl ?_
      refine j_icmp_ge (pc := 17) (tgt := 24) C d_X_comesBefore_17 (by decide) (fun c5 => ?_) (fun c5 => ?_)
      · have hw := hw.1 c5
        refine j_iconst (v := 0) (pc := 24) C d_X_comesBefore_24 (by decide) ?_
        exact j_zret (pc := 25) C E hw rfl (Nat.le_of_ble_eq_true rfl) (Nat.le_of_ble_eq_true rfl) d_X_comesBefore_25
      · have hw := hw.2 c5
        refine j_iconst (v := 1) (pc := 20) C d_X_comesBefore_20 (by decide) ?_
        refine j_goto (pc := 21) (tgt := 25) C d_X_comesBefore_21 (by decide) ?_
        exact j_zret (pc := 25) C E hw rfl (Nat.le_of_ble_eq_true rfl) (Nat.le_of_ble_eq_true rfl) d_X_comesBefore_25
set_option maxHeartbeats 4000000 in
set_option maxRecDepth 100000 in
theorem lp_X_mergeIntoRow_49 {κ : jk_K} {cI cL : ClassId} {ad : Nat → Nat} {Q : SX → Prop} {k33 : Int32 → Int32 → Int32 → SX → Prop} (C : jk_C κ b_X_mergeIntoRow R_X rm_X_mergeIntoRow 7 [(cI, .int), (cL, .long)]) (E : jk_E κ none (va_Qv Q (jk_B (jk_G κ) [(cI, .int), (cL, .long)] (jk_A κ) (wX cI cL ad)) (jk_A κ)) rm_X_mergeIntoRow.cells rm_X_mergeIntoRow.slots) (y2 : Int32) (y3 : Int32) (y6 : Int32) (hk33 : ∀ (y4 : Int32) (y5 : Int32) (y6 : Int32) (σ : SX), k33 y4 y5 y6 σ → jk_J κ (wX cI cL ad σ) 33 [(0, .ref (ad 0)), (2, .int y2), (3, .int y3), (4, .int y4), (5, .int y5), (6, .int y6)] [] 0 0) : ∀ (n : Nat) (y4 : Int32) (y5 : Int32) (σ : SX), wl_X_mergeIntoRow_49 y2 y3 y6 Q k33 n y4 y5 σ → jk_J κ (wX cI cL ad σ) 49 [(0, .ref (ad 0)), (2, .int y2), (3, .int y3), (4, .int y4), (5, .int y5), (6, .int y6)] [] 0 0 := by
  intro n
  induction n with
  | zero => intro y4 y5 σ hw; exact hw.elim
  | succ n ih =>
    intro y4 y5 σ hw
    rw [wl_X_mergeIntoRow_49] at hw
    refine j_iload (pc := 49) C d_X_mergeIntoRow_49 3 rfl ?_
    refine j_if_lt (pc := 51) (tgt := 93) C d_X_mergeIntoRow_51 (by decide) (fun c11 => ?_) (fun c11 => ?_)
    · have hw := hw.1 c11
      refine j_aload_n (pc := 93) C d_X_mergeIntoRow_93 rfl 0 rfl ?_
      refine j_get (pc := 94) C i_X 0 rfl rfl 15 (Nat.le_of_ble_eq_true rfl) k_29 rfl d_X_mergeIntoRow_94 ?_
      refine j_iload (pc := 97) C d_X_mergeIntoRow_97 4 rfl ?_
      refine j_iload (pc := 99) C d_X_mergeIntoRow_99 5 rfl ?_
      obtain ⟨hi12, hw⟩ := hw
      obtain ⟨σ13, e_σ13⟩ : ∃ z : SX, z = uX_order σ (upd (sX_order σ) (Int32.toNatClampNeg y5) y6) := ⟨_, rfl⟩
      have hw := hw σ13 e_σ13
      refine j_iast (pc := 101) (ws' := wX cI cL ad σ13) C 12 0 rfl rfl hi12 (by rw [e_σ13]; rfl) d_X_mergeIntoRow_101 ?_
      refine j_iinc (pc := 102) (lv' := [(5, .int (y5 + (-1))), (0, .ref (ad 0)), (2, .int y2), (3, .int y3), (4, .int y4), (6, .int y6)]) C d_X_mergeIntoRow_102 (k := 4) rfl rfl (Nat.le_of_ble_eq_true rfl) rfl ?_
      refine j_iinc (pc := 105) (lv' := [(6, .int (y6 + (-1))), (5, .int (y5 + (-1))), (0, .ref (ad 0)), (2, .int y2), (3, .int y3), (4, .int y4)]) C d_X_mergeIntoRow_105 (k := 5) rfl rfl (Nat.le_of_ble_eq_true rfl) rfl ?_
      refine j_goto (pc := 108) (tgt := 33) C d_X_mergeIntoRow_108 (by decide) ?_
      refine j_locs [2, 3, 4, 5, 1, 0] rfl ?_
      exact hk33 y4 (y5 + (-1)) (y6 + (-1)) σ13 hw
    · have hw := hw.2 c11
      refine j_aload_n (pc := 54) C d_X_mergeIntoRow_54 rfl 0 rfl ?_
      refine j_iload (pc := 55) C d_X_mergeIntoRow_55 5 rfl ?_
      refine j_aload_n (pc := 57) C d_X_mergeIntoRow_57 rfl 0 rfl ?_
      refine j_get (pc := 58) C i_X 0 rfl rfl 15 (Nat.le_of_ble_eq_true rfl) k_29 rfl d_X_mergeIntoRow_58 ?_
      refine j_iload (pc := 61) C d_X_mergeIntoRow_61 3 rfl ?_
      obtain ⟨hi14, hw⟩ := hw
      refine j_iald (pc := 63) C 12 0 rfl rfl hi14 d_X_mergeIntoRow_63 ?_
      refine j_callVi0 (pc := 64) (st := []) (As := [.int y6, .int (sX_order σ (Int32.toNatClampNeg y4))]) (wf := wX cI cL ad) C (c_X_comesBefore (jk_l κ) (jk_G κ) cI cL ad σ y6 (sX_order σ (Int32.toNatClampNeg y4)) _ hw) g_X_177 hdV_X_comesBefore ⟨(Nat.le_of_ble_eq_true rfl), (Nat.le_of_ble_eq_true rfl)⟩ rfl (q0 := 0) rfl rfl rfl rfl (Nat.le_of_ble_eq_true rfl) d_X_mergeIntoRow_64 ⟨(Nat.le_of_ble_eq_true rfl), (Nat.le_of_ble_eq_true rfl)⟩ (fun r16 σ15 hw => ?_)
      refine j_if_eq (pc := 67) (tgt := 93) C d_X_mergeIntoRow_67 (by decide) (fun c17 => ?_) (fun c17 => ?_)
      · have hw := hw.1 c17
        refine j_aload_n (pc := 93) C d_X_mergeIntoRow_93 rfl 0 rfl ?_
        refine j_get (pc := 94) C i_X 0 rfl rfl 15 (Nat.le_of_ble_eq_true rfl) k_29 rfl d_X_mergeIntoRow_94 ?_
        refine j_iload (pc := 97) C d_X_mergeIntoRow_97 4 rfl ?_
        refine j_iload (pc := 99) C d_X_mergeIntoRow_99 5 rfl ?_
        obtain ⟨hi18, hw⟩ := hw
        obtain ⟨σ19, e_σ19⟩ : ∃ z : SX, z = uX_order σ15 (upd (sX_order σ15) (Int32.toNatClampNeg y5) y6) := ⟨_, rfl⟩
        have hw := hw σ19 e_σ19
        refine j_iast (pc := 101) (ws' := wX cI cL ad σ19) C 12 0 rfl rfl hi18 (by rw [e_σ19]; rfl) d_X_mergeIntoRow_101 ?_
        refine j_iinc (pc := 102) (lv' := [(5, .int (y5 + (-1))), (0, .ref (ad 0)), (2, .int y2), (3, .int y3), (4, .int y4), (6, .int y6)]) C d_X_mergeIntoRow_102 (k := 4) rfl rfl (Nat.le_of_ble_eq_true rfl) rfl ?_
        refine j_iinc (pc := 105) (lv' := [(6, .int (y6 + (-1))), (5, .int (y5 + (-1))), (0, .ref (ad 0)), (2, .int y2), (3, .int y3), (4, .int y4)]) C d_X_mergeIntoRow_105 (k := 5) rfl rfl (Nat.le_of_ble_eq_true rfl) rfl ?_
        refine j_goto (pc := 108) (tgt := 33) C d_X_mergeIntoRow_108 (by decide) ?_
        refine j_locs [2, 3, 4, 5, 1, 0] rfl ?_
        exact hk33 y4 (y5 + (-1)) (y6 + (-1)) σ19 hw
      · have hw := hw.2 c17
        refine j_aload_n (pc := 70) C d_X_mergeIntoRow_70 rfl 0 rfl ?_
        refine j_get (pc := 71) C i_X 0 rfl rfl 15 (Nat.le_of_ble_eq_true rfl) k_29 rfl d_X_mergeIntoRow_71 ?_
        refine j_iload (pc := 74) C d_X_mergeIntoRow_74 4 rfl ?_
        refine j_aload_n (pc := 76) C d_X_mergeIntoRow_76 rfl 0 rfl ?_
        refine j_get (pc := 77) C i_X 0 rfl rfl 15 (Nat.le_of_ble_eq_true rfl) k_29 rfl d_X_mergeIntoRow_77 ?_
        refine j_iload (pc := 80) C d_X_mergeIntoRow_80 3 rfl ?_
        obtain ⟨hi20, hw⟩ := hw
        refine j_iald (pc := 82) C 12 0 rfl rfl hi20 d_X_mergeIntoRow_82 ?_
        obtain ⟨hi21, hw⟩ := hw
        obtain ⟨σ22, e_σ22⟩ : ∃ z : SX, z = uX_order σ15 (upd (sX_order σ15) (Int32.toNatClampNeg y5) (sX_order σ15 (Int32.toNatClampNeg y4))) := ⟨_, rfl⟩
        have hw := hw σ22 e_σ22
        refine j_iast (pc := 83) (ws' := wX cI cL ad σ22) C 12 0 rfl rfl hi21 (by rw [e_σ22]; rfl) d_X_mergeIntoRow_83 ?_
        refine j_iinc (pc := 84) (lv' := [(4, .int (y4 + (-1))), (0, .ref (ad 0)), (2, .int y2), (3, .int y3), (5, .int y5), (6, .int y6)]) C d_X_mergeIntoRow_84 (k := 3) rfl rfl (Nat.le_of_ble_eq_true rfl) rfl ?_
        refine j_iinc (pc := 87) (lv' := [(5, .int (y5 + (-1))), (4, .int (y4 + (-1))), (0, .ref (ad 0)), (2, .int y2), (3, .int y3), (6, .int y6)]) C d_X_mergeIntoRow_87 (k := 4) rfl rfl (Nat.le_of_ble_eq_true rfl) rfl ?_
        refine j_goto (pc := 90) (tgt := 49) C d_X_mergeIntoRow_90 (by decide) ?_
        refine j_locs [2, 3, 4, 1, 0, 5] rfl ?_
        exact ih (y4 + (-1)) (y5 + (-1)) σ22 hw
set_option maxHeartbeats 4000000 in
set_option maxRecDepth 100000 in
theorem lp_X_mergeIntoRow_33 {κ : jk_K} {cI cL : ClassId} {ad : Nat → Nat} {Q : SX → Prop} (C : jk_C κ b_X_mergeIntoRow R_X rm_X_mergeIntoRow 7 [(cI, .int), (cL, .long)]) (E : jk_E κ none (va_Qv Q (jk_B (jk_G κ) [(cI, .int), (cL, .long)] (jk_A κ) (wX cI cL ad)) (jk_A κ)) rm_X_mergeIntoRow.cells rm_X_mergeIntoRow.slots) (y2 : Int32) (y3 : Int32) : ∀ (n : Nat) (y4 : Int32) (y5 : Int32) (y6 : Int32) (σ : SX), wl_X_mergeIntoRow_33 y2 y3 Q n y4 y5 y6 σ → jk_J κ (wX cI cL ad σ) 33 [(0, .ref (ad 0)), (2, .int y2), (3, .int y3), (4, .int y4), (5, .int y5), (6, .int y6)] [] 0 0 := by
  intro n
  induction n with
  | zero => intro y4 y5 y6 σ hw; exact hw.elim
  | succ n ih =>
    intro y4 y5 y6 σ hw
    rw [wl_X_mergeIntoRow_33] at hw
    refine j_iload (pc := 33) C d_X_mergeIntoRow_33 5 rfl ?_
    refine j_iload_n (pc := 35) C d_X_mergeIntoRow_35 rfl 2 rfl ?_
    refine j_icmp_le (pc := 36) (tgt := 111) C d_X_mergeIntoRow_36 (by decide) (fun c7 => ?_) (fun c7 => ?_)
    · have hw := hw.1 c7
      refine j_aload_n (pc := 111) C d_X_mergeIntoRow_111 rfl 0 rfl ?_
      refine j_dup (pc := 112) C d_X_mergeIntoRow_112 rfl ?_
      refine j_get (pc := 113) C i_X 0 rfl rfl 16 (Nat.le_of_ble_eq_true rfl) k_28 rfl d_X_mergeIntoRow_113 ?_
      refine j_iload_n (pc := 116) C d_X_mergeIntoRow_116 rfl 1 rfl ?_
      refine j_iadd (pc := 117) C d_X_mergeIntoRow_117 ?_
      obtain ⟨σ8, e_σ8⟩ : ∃ z : SX, z = uX_ol σ ((sX_ol σ) + y2) := ⟨_, rfl⟩
      have hw := hw σ8 e_σ8
      refine j_put (pc := 118) (ws' := wX cI cL ad σ8) C i_X t_X t_X_ok n_X 0 rfl rfl 16 (Nat.le_of_ble_eq_true rfl) k_28 rfl (ty := .int) (by decide +kernel) rfl rfl (Nat.le_of_ble_eq_true rfl) (by rw [e_σ8]; rfl) d_X_mergeIntoRow_118 ?_
      exact j_vret (pc := 121) C E hw (Nat.le_of_ble_eq_true rfl) (Nat.le_of_ble_eq_true rfl) d_X_mergeIntoRow_121
    · have hw := hw.2 c7
      refine j_aload_n (pc := 39) C d_X_mergeIntoRow_39 rfl 0 rfl ?_
      refine j_get (pc := 40) C i_X 0 rfl rfl 14 (Nat.le_of_ble_eq_true rfl) k_41 rfl d_X_mergeIntoRow_40 ?_
      refine j_iload (pc := 43) C d_X_mergeIntoRow_43 5 rfl ?_
      obtain ⟨hi9, hw⟩ := hw
      refine j_iald (pc := 45) C 11 0 rfl rfl hi9 d_X_mergeIntoRow_45 ?_
      refine j_if_le (pc := 46) (tgt := 105) C d_X_mergeIntoRow_46 (by decide) (fun c10 => ?_) (fun c10 => ?_)
      · have hw := hw.1 c10
        refine j_iinc (pc := 105) (lv' := [(6, .int (y6 + (-1))), (0, .ref (ad 0)), (2, .int y2), (3, .int y3), (4, .int y4), (5, .int y5)]) C d_X_mergeIntoRow_105 (k := 5) rfl rfl (Nat.le_of_ble_eq_true rfl) rfl ?_
        refine j_goto (pc := 108) (tgt := 33) C d_X_mergeIntoRow_108 (by decide) ?_
        refine j_locs [1, 2, 3, 4, 5, 0] rfl ?_
        exact ih y4 y5 (y6 + (-1)) σ hw
      · have hw := hw.2 c10
        obtain ⟨n23, hw⟩ := hw
        refine j_locs [0, 1, 2, 3, 4, 5] rfl ?_
        exact lp_X_mergeIntoRow_49 C E y2 y3 y6 (fun y4 y5 y6 σ hw => ih y4 y5 y6 σ hw) n23 y4 y5 σ hw
set_option maxHeartbeats 4000000 in
set_option maxRecDepth 100000 in
theorem c_X_mergeIntoRow (l : Launch) (G : va_G) (cI cL : ClassId) (ad : Nat → Nat) (σ : SX) (p1 : Int32) (p2 : Int32) (Q : SX → Prop) (hw : wp_X_mergeIntoRow σ p1 p2 Q) : jm_v l G [(cI, .int), (cL, .long)] y_X_mergeIntoRow b_X_mergeIntoRow 7 rm_X_mergeIntoRow [.ref (ad 0), .int p1, .int p2] (wX cI cL ad σ) (wX cI cL ad) Q := by
  refine jm_open_v (by decide +kernel) (Nat.le_of_ble_eq_true rfl) ?_
  intro κ hl hG C E hi
  subst hl; subst hG
  unfold wp_X_mergeIntoRow at hw
  refine j_iload_n (pc := 0) C d_X_mergeIntoRow_0 rfl 1 rfl ?_
  refine j_callSi0 (pc := 1) (st := []) (As := [.int p1]) (wf := wX cI cL ad) C (c_X_startOf (jk_l κ) (jk_G κ) cI cL ad σ p1 _ hw) g_X_90 hdS_X_startOf ⟨(Nat.le_of_ble_eq_true rfl), (Nat.le_of_ble_eq_true rfl)⟩ rfl rfl (Nat.le_of_ble_eq_true rfl) d_X_mergeIntoRow_1 ⟨(Nat.le_of_ble_eq_true rfl), (Nat.le_of_ble_eq_true rfl)⟩ (fun r2 σ1 hw => ?_)
  refine j_istore_n (pc := 4) (lv' := [(3, .int r2), (0, .ref (ad 0)), (1, .int p1), (2, .int p2)]) C d_X_mergeIntoRow_4 rfl (Nat.le_of_ble_eq_true rfl) rfl ?_
  refine j_aload_n (pc := 5) C d_X_mergeIntoRow_5 rfl 1 rfl ?_
  refine j_get (pc := 6) C i_X 0 rfl rfl 16 (Nat.le_of_ble_eq_true rfl) k_28 rfl d_X_mergeIntoRow_6 ?_
  refine j_iconst (v := 1) (pc := 9) C d_X_mergeIntoRow_9 (by decide) ?_
  refine j_isub (pc := 10) C d_X_mergeIntoRow_10 ?_
  refine j_nmi (fun x3 e_x3 => ?_)
  have hw := hw x3 e_x3
  refine j_istore (pc := 11) (lv' := [(4, .int x3), (3, .int r2), (0, .ref (ad 0)), (1, .int p1), (2, .int p2)]) C d_X_mergeIntoRow_11 (Nat.le_of_ble_eq_true rfl) rfl ?_
  refine j_aload_n (pc := 13) C d_X_mergeIntoRow_13 rfl 2 rfl ?_
  refine j_get (pc := 14) C i_X 0 rfl rfl 16 (Nat.le_of_ble_eq_true rfl) k_28 rfl d_X_mergeIntoRow_14 ?_
  refine j_iload_n (pc := 17) C d_X_mergeIntoRow_17 rfl 4 rfl ?_
  refine j_iadd (pc := 18) C d_X_mergeIntoRow_18 ?_
  refine j_iconst (v := 1) (pc := 19) C d_X_mergeIntoRow_19 (by decide) ?_
  refine j_isub (pc := 20) C d_X_mergeIntoRow_20 ?_
  refine j_nmi (fun x4 e_x4 => ?_)
  have hw := hw x4 e_x4
  refine j_istore (pc := 21) (lv' := [(5, .int x4), (4, .int x3), (3, .int r2), (0, .ref (ad 0)), (1, .int p1), (2, .int p2)]) C d_X_mergeIntoRow_21 (Nat.le_of_ble_eq_true rfl) rfl ?_
  refine j_iload_n (pc := 23) C d_X_mergeIntoRow_23 rfl 2 rfl ?_
  refine j_aload_n (pc := 24) C d_X_mergeIntoRow_24 rfl 3 rfl ?_
  refine j_get (pc := 25) C i_X 0 rfl rfl 8 (Nat.le_of_ble_eq_true rfl) k_3 rfl d_X_mergeIntoRow_25 ?_
  refine j_iload_n (pc := 28) C d_X_mergeIntoRow_28 rfl 4 rfl ?_
  obtain ⟨hi5, hw⟩ := hw
  refine j_iald (pc := 29) C 7 0 rfl rfl hi5 d_X_mergeIntoRow_29 ?_
  refine j_iadd (pc := 30) C d_X_mergeIntoRow_30 ?_
  refine j_nmi (fun x6 e_x6 => ?_)
  have hw := hw x6 e_x6
  refine j_istore (pc := 31) (lv' := [(6, .int x6), (5, .int x4), (4, .int x3), (3, .int r2), (0, .ref (ad 0)), (1, .int p1), (2, .int p2)]) C d_X_mergeIntoRow_31 (Nat.le_of_ble_eq_true rfl) rfl ?_
  obtain ⟨n24, hw⟩ := hw
  refine j_locs [4, 6, 3, 2, 1, 0] rfl ?_
  exact lp_X_mergeIntoRow_33 C E p2 r2 n24 x3 x4 x6 σ1 hw
set_option maxHeartbeats 4000000 in
set_option maxRecDepth 100000 in
theorem c_X_renewBlock (l : Launch) (G : va_G) (cI cL : ClassId) (ad : Nat → Nat) (σ : SX) (p1 : Int32) (Q : SX → Prop) (hw : wp_X_renewBlock σ p1 Q) : jm_v l G [(cI, .int), (cL, .long)] y_X_renewBlock b_X_renewBlock 3 rm_X_renewBlock [.ref (ad 0), .int p1] (wX cI cL ad σ) (wX cI cL ad) Q := by
  refine jm_open_v (by decide +kernel) (Nat.le_of_ble_eq_true rfl) ?_
  intro κ hl hG C E hi
  subst hl; subst hG
  unfold wp_X_renewBlock at hw
  refine j_aload_n (pc := 0) C d_X_renewBlock_0 rfl 0 rfl ?_
  refine j_iload_n (pc := 1) C d_X_renewBlock_1 rfl 1 rfl ?_
  refine j_callVv0 (pc := 2) (st := []) (As := [.int p1]) (wf := wX cI cL ad) C (c_X_takeFromRow (jk_l κ) (jk_G κ) cI cL ad σ p1 _ hw) g_X_164 hdV_X_takeFromRow ⟨(Nat.le_of_ble_eq_true rfl), (Nat.le_of_ble_eq_true rfl)⟩ rfl (q0 := 0) rfl rfl rfl rfl (Nat.le_of_ble_eq_true rfl) d_X_renewBlock_2 ⟨(Nat.le_of_ble_eq_true rfl), (Nat.le_of_ble_eq_true rfl)⟩ (fun σ1 hw => ?_)
  refine j_aload_n (pc := 5) C d_X_renewBlock_5 rfl 0 rfl ?_
  refine j_iload_n (pc := 6) C d_X_renewBlock_6 rfl 1 rfl ?_
  refine j_callVi0 (pc := 7) (st := []) (As := [.int p1]) (wf := wX cI cL ad) C (c_X_makeHull (jk_l κ) (jk_G κ) cI cL ad σ1 p1 _ hw) g_X_167 hdV_X_makeHull ⟨(Nat.le_of_ble_eq_true rfl), (Nat.le_of_ble_eq_true rfl)⟩ rfl (q0 := 0) rfl rfl rfl rfl (Nat.le_of_ble_eq_true rfl) d_X_renewBlock_7 ⟨(Nat.le_of_ble_eq_true rfl), (Nat.le_of_ble_eq_true rfl)⟩ (fun r3 σ2 hw => ?_)
  refine j_istore_n (pc := 10) (lv' := [(2, .int r3), (0, .ref (ad 0)), (1, .int p1)]) C d_X_renewBlock_10 rfl (Nat.le_of_ble_eq_true rfl) rfl ?_
  refine j_aload_n (pc := 11) C d_X_renewBlock_11 rfl 1 rfl ?_
  refine j_iload_n (pc := 12) C d_X_renewBlock_12 rfl 2 rfl ?_
  refine j_iload_n (pc := 13) C d_X_renewBlock_13 rfl 0 rfl ?_
  refine j_callVv0 (pc := 14) (st := []) (As := [.int p1, .int r3]) (wf := wX cI cL ad) C (c_X_mergeIntoRow (jk_l κ) (jk_G κ) cI cL ad σ2 p1 r3 _ hw) g_X_170 hdV_X_mergeIntoRow ⟨(Nat.le_of_ble_eq_true rfl), (Nat.le_of_ble_eq_true rfl)⟩ rfl (q0 := 0) rfl rfl rfl rfl (Nat.le_of_ble_eq_true rfl) d_X_renewBlock_14 ⟨(Nat.le_of_ble_eq_true rfl), (Nat.le_of_ble_eq_true rfl)⟩ (fun σ4 hw => ?_)
  refine j_aload_n (pc := 17) C d_X_renewBlock_17 rfl 1 rfl ?_
  refine j_iconst (v := 0) (pc := 18) C d_X_renewBlock_18 (by decide) ?_
  obtain ⟨σ5, e_σ5⟩ : ∃ z : SX, z = uX_shared σ4 0 := ⟨_, rfl⟩
  have hw := hw σ5 e_σ5
  refine j_put (pc := 19) (ws' := wX cI cL ad σ5) C i_X t_X t_X_ok n_X 0 rfl rfl 5 (Nat.le_of_ble_eq_true rfl) k_4 rfl (ty := .boolean) (by decide +kernel) rfl rfl (Nat.le_of_ble_eq_true rfl) (by rw [e_σ5]; rfl) d_X_renewBlock_19 ?_
  exact j_vret (pc := 22) C E hw (Nat.le_of_ble_eq_true rfl) (Nat.le_of_ble_eq_true rfl) d_X_renewBlock_22
