set_option maxHeartbeats 4000000 in
set_option maxRecDepth 100000 in
theorem c_X_pass (l : Launch) (hlt : l.stackTraces = false) (G : va_G) (cI cL : ClassId) (ad : Nat → Nat) (σ : SX) (p1 : Int32) (p2 : Int32) (p3 : Int32) (Q : Int32 → SX → Prop) (QX : String → SX → Prop) (hw : wp_X_pass σ p1 p2 p3 Q QX) : jx_i l G [(cI, .int), (cL, .long)] y_X_pass b_X_pass 6 .int rm_X_pass [.ref (ad 0), .int p1, .int p2, .int p3] (wX cI cL ad σ) (wX cI cL ad) Q QX := by
  refine jx_open_i hlt (by decide +kernel) (Nat.le_of_ble_eq_true rfl) ?_
  intro κ hl hG C Z E
  subst hl; subst hG
  unfold wp_X_pass at hw
  refine j_aload_n (pc := 0) C d_X_pass_0 rfl 0 rfl ?_
  refine j_iload_n (pc := 1) C d_X_pass_1 rfl 1 rfl ?_
  refine jx_callVv0 (pc := 2) (st := []) (As := [.int p1]) (wf := wX cI cL ad) C Z E (c_X_needBlock (jk_l κ) Z.1 (jk_G κ) cI cL ad σ p1 _ _ hw) g_X_74 hdV_X_needBlock ⟨(Nat.le_of_ble_eq_true rfl), (Nat.le_of_ble_eq_true rfl)⟩ rfl (q0 := 0) rfl rfl rfl rfl (Nat.le_of_ble_eq_true rfl) d_X_pass_2 ⟨(Nat.le_of_ble_eq_true rfl), (Nat.le_of_ble_eq_true rfl)⟩ (Nat.le_of_ble_eq_true rfl) (Nat.le_of_ble_eq_true rfl) (fun σ1 hw => ?_)
  refine j_widen (k := 1) (n := 6) (Nat.le_of_ble_eq_true rfl) (Nat.le_of_ble_eq_true rfl) ?_
  refine j_iload_n (pc := 5) C d_X_pass_5 rfl 2 rfl ?_
  refine j_i2l (pc := 6) C d_X_pass_6 ?_
  refine j_lconst (v := 1) (pc := 7) C d_X_pass_7 (by decide) ?_
  refine j_ldc2 (v := 10000) (pc := 8) C d_X_pass_8 k_14 ?_
  refine jx_callSv0 (pc := 11) (st := []) (As := [.long (Int32.toInt64 p2), .long 1, .long 10000]) (wf := wX cI cL ad) C Z E (c_X_needWithin (jk_l κ) Z.1 (jk_G κ) cI cL ad σ1 (Int32.toInt64 p2) 1 10000 _ _ hw) g_X_80 hdS_X_needWithin ⟨(Nat.le_of_ble_eq_true rfl), (Nat.le_of_ble_eq_true rfl)⟩ rfl rfl (Nat.le_of_ble_eq_true rfl) d_X_pass_11 ⟨(Nat.le_of_ble_eq_true rfl), (Nat.le_of_ble_eq_true rfl)⟩ (Nat.le_of_ble_eq_true rfl) (Nat.le_of_ble_eq_true rfl) (fun σ2 hw => ?_)
  refine j_widen (k := 2) (n := 12) (Nat.le_of_ble_eq_true rfl) (Nat.le_of_ble_eq_true rfl) ?_
  refine j_iload_n (pc := 14) C d_X_pass_14 rfl 3 rfl ?_
  refine j_i2l (pc := 15) C d_X_pass_15 ?_
  refine j_ldc2 (v := (-1000000)) (pc := 16) C d_X_pass_16 k_20 ?_
  refine j_ldc2 (v := 1000000) (pc := 19) C d_X_pass_19 k_21 ?_
  refine jx_callSv0 (pc := 22) (st := []) (As := [.long (Int32.toInt64 p3), .long (-1000000), .long 1000000]) (wf := wX cI cL ad) C Z E (c_X_needWithin (jk_l κ) Z.1 (jk_G κ) cI cL ad σ2 (Int32.toInt64 p3) (-1000000) 1000000 _ _ hw) g_X_80 hdS_X_needWithin ⟨(Nat.le_of_ble_eq_true rfl), (Nat.le_of_ble_eq_true rfl)⟩ rfl rfl (Nat.le_of_ble_eq_true rfl) d_X_pass_22 ⟨(Nat.le_of_ble_eq_true rfl), (Nat.le_of_ble_eq_true rfl)⟩ (Nat.le_of_ble_eq_true rfl) (Nat.le_of_ble_eq_true rfl) (fun σ3 hw => ?_)
  refine j_widen (k := 3) (n := 18) (Nat.le_of_ble_eq_true rfl) (Nat.le_of_ble_eq_true rfl) ?_
  refine j_aload_n (pc := 25) C d_X_pass_25 rfl 0 rfl ?_
  refine j_get (pc := 26) C i_X 0 rfl rfl 8 (Nat.le_of_ble_eq_true rfl) k_3 rfl d_X_pass_26 ?_
  refine j_iload_n (pc := 29) C d_X_pass_29 rfl 1 rfl ?_
  obtain ⟨hi4, hw⟩ := hw
  refine j_iald (pc := 30) C 7 0 rfl rfl hi4 d_X_pass_30 ?_
  refine j_bipush (v := 24) (pc := 31) C d_X_pass_31 (by decide) ?_
  refine j_icmp_lt (pc := 33) (tgt := 46) C d_X_pass_33 (by decide) (fun c5 => ?_) (fun c5 => ?_)
  · have hw := hw.1 c5
    refine j_aload_n (pc := 46) C d_X_pass_46 rfl 0 rfl ?_
    refine j_get (pc := 47) C i_X 0 rfl rfl 8 (Nat.le_of_ble_eq_true rfl) k_3 rfl d_X_pass_47 ?_
    refine j_iload_n (pc := 50) C d_X_pass_50 rfl 1 rfl ?_
    obtain ⟨hi6, hw⟩ := hw
    refine j_iald (pc := 51) C 7 0 rfl rfl hi6 d_X_pass_51 ?_
    refine j_nmi (fun x7 e_x7 => ?_)
    have hw := hw x7 e_x7
    refine j_istore (pc := 52) (lv' := [(4, .int x7), (0, .ref (ad 0)), (1, .int p1), (2, .int p2), (3, .int p3)]) C d_X_pass_52 (Nat.le_of_ble_eq_true rfl) rfl ?_
    refine j_iload_n (pc := 54) C d_X_pass_54 rfl 2 rfl ?_
    refine j_callSi0 (pc := 55) (st := []) (As := [.int p1]) (wf := wX cI cL ad) C (c_X_startOf (jk_l κ) (jk_G κ) cI cL ad σ3 p1 _ hw) g_X_90 hdS_X_startOf ⟨(Nat.le_of_ble_eq_true rfl), (Nat.le_of_ble_eq_true rfl)⟩ rfl rfl (Nat.le_of_ble_eq_true rfl) d_X_pass_55 ⟨(Nat.le_of_ble_eq_true rfl), (Nat.le_of_ble_eq_true rfl)⟩ (fun r9 σ8 hw => ?_)
    refine j_iload (pc := 58) C d_X_pass_58 0 rfl ?_
    refine j_iadd (pc := 60) C d_X_pass_60 ?_
    refine j_nmi (fun x10 e_x10 => ?_)
    have hw := hw x10 e_x10
    refine j_istore (pc := 61) (lv' := [(5, .int x10), (4, .int x7), (0, .ref (ad 0)), (1, .int p1), (2, .int p2), (3, .int p3)]) C d_X_pass_61 (Nat.le_of_ble_eq_true rfl) rfl ?_
    refine j_aload_n (pc := 63) C d_X_pass_63 rfl 2 rfl ?_
    refine j_get (pc := 64) C i_X 0 rfl rfl 11 (Nat.le_of_ble_eq_true rfl) k_25 rfl d_X_pass_64 ?_
    refine j_iload (pc := 67) C d_X_pass_67 0 rfl ?_
    refine j_iconst (v := 1) (pc := 69) C d_X_pass_69 (by decide) ?_
    refine j_iadd (pc := 70) C d_X_pass_70 ?_
    refine j_aload_n (pc := 71) C d_X_pass_71 rfl 2 rfl ?_
    refine j_get (pc := 72) C i_X 0 rfl rfl 11 (Nat.le_of_ble_eq_true rfl) k_25 rfl d_X_pass_72 ?_
    refine j_iload (pc := 75) C d_X_pass_75 0 rfl ?_
    obtain ⟨hi11, hw⟩ := hw
    refine j_iald (pc := 77) C 8 0 rfl rfl hi11 d_X_pass_77 ?_
    refine j_iload_n (pc := 78) C d_X_pass_78 rfl 4 rfl ?_
    refine j_iadd (pc := 79) C d_X_pass_79 ?_
    obtain ⟨hi12, hw⟩ := hw
    obtain ⟨σ13, e_σ13⟩ : ∃ z : SX, z = uX_ls σ8 (upd (sX_ls σ8) (Int32.toNatClampNeg (x10 + 1)) ((sX_ls σ8 (Int32.toNatClampNeg x10)) + p2)) := ⟨_, rfl⟩
    have hw := hw σ13 e_σ13
    refine j_iast (pc := 80) (ws' := wX cI cL ad σ13) C 8 0 rfl rfl hi12 (by rw [e_σ13]; rfl) d_X_pass_80 ?_
    refine j_aload_n (pc := 81) C d_X_pass_81 rfl 2 rfl ?_
    refine j_get (pc := 82) C i_X 0 rfl rfl 12 (Nat.le_of_ble_eq_true rfl) k_26 rfl d_X_pass_82 ?_
    refine j_iload (pc := 85) C d_X_pass_85 0 rfl ?_
    refine j_iconst (v := 1) (pc := 87) C d_X_pass_87 (by decide) ?_
    refine j_iadd (pc := 88) C d_X_pass_88 ?_
    refine j_aload_n (pc := 89) C d_X_pass_89 rfl 2 rfl ?_
    refine j_get (pc := 90) C i_X 0 rfl rfl 12 (Nat.le_of_ble_eq_true rfl) k_26 rfl d_X_pass_90 ?_
    refine j_iload (pc := 93) C d_X_pass_93 0 rfl ?_
    obtain ⟨hi14, hw⟩ := hw
    refine j_iald (pc := 95) C 9 0 rfl rfl hi14 d_X_pass_95 ?_
    refine j_iload_n (pc := 96) C d_X_pass_96 rfl 5 rfl ?_
    refine j_iadd (pc := 97) C d_X_pass_97 ?_
    obtain ⟨hi15, hw⟩ := hw
    obtain ⟨σ16, e_σ16⟩ : ∃ z : SX, z = uX_gs σ13 (upd (sX_gs σ13) (Int32.toNatClampNeg (x10 + 1)) ((sX_gs σ13 (Int32.toNatClampNeg x10)) + p3)) := ⟨_, rfl⟩
    have hw := hw σ16 e_σ16
    refine j_iast (pc := 98) (ws' := wX cI cL ad σ16) C 9 0 rfl rfl hi15 (by rw [e_σ16]; rfl) d_X_pass_98 ?_
    refine j_aload_n (pc := 99) C d_X_pass_99 rfl 2 rfl ?_
    refine j_get (pc := 100) C i_X 0 rfl rfl 8 (Nat.le_of_ble_eq_true rfl) k_3 rfl d_X_pass_100 ?_
    refine j_iload_n (pc := 103) C d_X_pass_103 rfl 3 rfl ?_
    refine j_dup2 (pc := 104) C d_X_pass_104 rfl rfl ?_
    obtain ⟨hi17, hw⟩ := hw
    refine j_iald (pc := 105) C 7 0 rfl rfl hi17 d_X_pass_105 ?_
    refine j_iconst (v := 1) (pc := 106) C d_X_pass_106 (by decide) ?_
    refine j_iadd (pc := 107) C d_X_pass_107 ?_
    obtain ⟨hi18, hw⟩ := hw
    obtain ⟨σ19, e_σ19⟩ : ∃ z : SX, z = uX_counts σ16 (upd (sX_counts σ16) (Int32.toNatClampNeg p1) ((sX_counts σ16 (Int32.toNatClampNeg p1)) + 1)) := ⟨_, rfl⟩
    have hw := hw σ19 e_σ19
    refine j_iast (pc := 108) (ws' := wX cI cL ad σ19) C 7 0 rfl rfl hi18 (by rw [e_σ19]; rfl) d_X_pass_108 ?_
    refine j_aload_n (pc := 109) C d_X_pass_109 rfl 2 rfl ?_
    refine j_dup (pc := 110) C d_X_pass_110 rfl ?_
    refine j_get (pc := 111) C i_X 0 rfl rfl 10 (Nat.le_of_ble_eq_true rfl) k_27 rfl d_X_pass_111 ?_
    refine j_iconst (v := 1) (pc := 114) C d_X_pass_114 (by decide) ?_
    refine j_iadd (pc := 115) C d_X_pass_115 ?_
    obtain ⟨σ20, e_σ20⟩ : ∃ z : SX, z = uX_pc σ19 ((sX_pc σ19) + 1) := ⟨_, rfl⟩
    have hw := hw σ20 e_σ20
    refine j_put (pc := 116) (ws' := wX cI cL ad σ20) C i_X t_X t_X_ok n_X 0 rfl rfl 10 (Nat.le_of_ble_eq_true rfl) k_27 rfl (ty := .int) (by decide +kernel) rfl rfl (Nat.le_of_ble_eq_true rfl) (by rw [e_σ20]; rfl) d_X_pass_116 ?_
    refine j_aload_n (pc := 119) C d_X_pass_119 rfl 2 rfl ?_
    refine j_iload_n (pc := 120) C d_X_pass_120 rfl 3 rfl ?_
    refine j_callVv0 (pc := 121) (st := []) (As := [.int p1]) (wf := wX cI cL ad) C (c_X_renewBlock (jk_l κ) (jk_G κ) cI cL ad σ20 p1 _ hw) g_X_97 hdV_X_renewBlock ⟨(Nat.le_of_ble_eq_true rfl), (Nat.le_of_ble_eq_true rfl)⟩ rfl (q0 := 0) rfl rfl rfl rfl (Nat.le_of_ble_eq_true rfl) d_X_pass_121 ⟨(Nat.le_of_ble_eq_true rfl), (Nat.le_of_ble_eq_true rfl)⟩ (fun σ21 hw => ?_)
    refine j_iload (pc := 124) C d_X_pass_124 1 rfl ?_
    exact jx_iret (pc := 126) C E hw (Nat.le_of_ble_eq_true rfl) (Nat.le_of_ble_eq_true rfl) d_X_pass_126
  · have hw := hw.2 c5
    exact jx_throwS (pc := 36) C Z E (names := ["java/lang/RuntimeException", "java/lang/Exception"]) (by decide +kernel) (by decide +kernel) k_5 k_6 (List.mem_of_getElem? (i := 3) rfl) ka_X_67 d_X_pass_36 d_X_pass_39 d_X_pass_40 d_X_pass_42 d_X_pass_45 (Nat.le_of_ble_eq_true rfl) (Nat.le_of_ble_eq_true rfl) (Nat.le_of_ble_eq_true rfl) (Nat.le_of_ble_eq_true rfl) (Nat.le_of_ble_eq_true rfl) (Nat.le_of_ble_eq_true rfl) hw
set_option maxHeartbeats 4000000 in
set_option maxRecDepth 100000 in
theorem c_X_weight (l : Launch) (hlt : l.stackTraces = false) (G : va_G) (cI cL : ClassId) (ad : Nat → Nat) (σ : SX) (p1 : Int32) (p2 : Int32) (Q : Int32 → SX → Prop) (QX : String → SX → Prop) (hw : wp_X_weight σ p1 p2 Q QX) : jx_i l G [(cI, .int), (cL, .long)] y_X_weight b_X_weight 4 .int rm_X_weight [.ref (ad 0), .int p1, .int p2] (wX cI cL ad σ) (wX cI cL ad) Q QX := by
  refine jx_open_i hlt (by decide +kernel) (Nat.le_of_ble_eq_true rfl) ?_
  intro κ hl hG C Z E
  subst hl; subst hG
  unfold wp_X_weight at hw
  refine j_aload_n (pc := 0) C d_X_weight_0 rfl 0 rfl ?_
  refine j_iload_n (pc := 1) C d_X_weight_1 rfl 1 rfl ?_
  refine jx_callVv0 (pc := 2) (st := []) (As := [.int p1]) (wf := wX cI cL ad) C Z E (c_X_needBlock (jk_l κ) Z.1 (jk_G κ) cI cL ad σ p1 _ _ hw) g_X_74 hdV_X_needBlock ⟨(Nat.le_of_ble_eq_true rfl), (Nat.le_of_ble_eq_true rfl)⟩ rfl (q0 := 0) rfl rfl rfl rfl (Nat.le_of_ble_eq_true rfl) d_X_weight_2 ⟨(Nat.le_of_ble_eq_true rfl), (Nat.le_of_ble_eq_true rfl)⟩ (Nat.le_of_ble_eq_true rfl) (Nat.le_of_ble_eq_true rfl) (fun σ1 hw => ?_)
  refine j_widen (k := 1) (n := 6) (Nat.le_of_ble_eq_true rfl) (Nat.le_of_ble_eq_true rfl) ?_
  refine j_iload_n (pc := 5) C d_X_weight_5 rfl 2 rfl ?_
  refine j_i2l (pc := 6) C d_X_weight_6 ?_
  refine j_lconst (v := 1) (pc := 7) C d_X_weight_7 (by decide) ?_
  refine j_ldc2 (v := 100) (pc := 8) C d_X_weight_8 k_67 ?_
  refine jx_callSv0 (pc := 11) (st := []) (As := [.long (Int32.toInt64 p2), .long 1, .long 100]) (wf := wX cI cL ad) C Z E (c_X_needWithin (jk_l κ) Z.1 (jk_G κ) cI cL ad σ1 (Int32.toInt64 p2) 1 100 _ _ hw) g_X_80 hdS_X_needWithin ⟨(Nat.le_of_ble_eq_true rfl), (Nat.le_of_ble_eq_true rfl)⟩ rfl rfl (Nat.le_of_ble_eq_true rfl) d_X_weight_11 ⟨(Nat.le_of_ble_eq_true rfl), (Nat.le_of_ble_eq_true rfl)⟩ (Nat.le_of_ble_eq_true rfl) (Nat.le_of_ble_eq_true rfl) (fun σ2 hw => ?_)
  refine j_widen (k := 2) (n := 12) (Nat.le_of_ble_eq_true rfl) (Nat.le_of_ble_eq_true rfl) ?_
  refine j_aload_n (pc := 14) C d_X_weight_14 rfl 0 rfl ?_
  refine j_get (pc := 15) C i_X 0 rfl rfl 6 (Nat.le_of_ble_eq_true rfl) k_1 rfl d_X_weight_15 ?_
  refine j_iload_n (pc := 18) C d_X_weight_18 rfl 1 rfl ?_
  obtain ⟨hi3, hw⟩ := hw
  refine j_iald (pc := 19) C 5 0 rfl rfl hi3 d_X_weight_19 ?_
  refine j_nmi (fun x4 e_x4 => ?_)
  have hw := hw x4 e_x4
  refine j_istore_n (pc := 20) (lv' := [(3, .int x4), (0, .ref (ad 0)), (1, .int p1), (2, .int p2)]) C d_X_weight_20 rfl (Nat.le_of_ble_eq_true rfl) rfl ?_
  refine j_aload_n (pc := 21) C d_X_weight_21 rfl 1 rfl ?_
  refine j_get (pc := 22) C i_X 0 rfl rfl 6 (Nat.le_of_ble_eq_true rfl) k_1 rfl d_X_weight_22 ?_
  refine j_iload_n (pc := 25) C d_X_weight_25 rfl 2 rfl ?_
  refine j_iload_n (pc := 26) C d_X_weight_26 rfl 3 rfl ?_
  obtain ⟨hi5, hw⟩ := hw
  obtain ⟨σ6, e_σ6⟩ : ∃ z : SX, z = uX_weights σ2 (upd (sX_weights σ2) (Int32.toNatClampNeg p1) p2) := ⟨_, rfl⟩
  have hw := hw σ6 e_σ6
  refine j_iast (pc := 27) (ws' := wX cI cL ad σ6) C 5 0 rfl rfl hi5 (by rw [e_σ6]; rfl) d_X_weight_27 ?_
  refine j_aload_n (pc := 28) C d_X_weight_28 rfl 1 rfl ?_
  refine j_iload_n (pc := 29) C d_X_weight_29 rfl 2 rfl ?_
  refine j_callVv0 (pc := 30) (st := []) (As := [.int p1]) (wf := wX cI cL ad) C (c_X_renewBlock (jk_l κ) (jk_G κ) cI cL ad σ6 p1 _ hw) g_X_97 hdV_X_renewBlock ⟨(Nat.le_of_ble_eq_true rfl), (Nat.le_of_ble_eq_true rfl)⟩ rfl (q0 := 0) rfl rfl rfl rfl (Nat.le_of_ble_eq_true rfl) d_X_weight_30 ⟨(Nat.le_of_ble_eq_true rfl), (Nat.le_of_ble_eq_true rfl)⟩ (fun σ7 hw => ?_)
  refine j_iload_n (pc := 33) C d_X_weight_33 rfl 0 rfl ?_
  exact jx_iret (pc := 34) C E hw (Nat.le_of_ble_eq_true rfl) (Nat.le_of_ble_eq_true rfl) d_X_weight_34
set_option maxHeartbeats 4000000 in
set_option maxRecDepth 100000 in
theorem c_X_shift (l : Launch) (hlt : l.stackTraces = false) (G : va_G) (cI cL : ClassId) (ad : Nat → Nat) (σ : SX) (p1 : Int32) (p2 : Int32) (Q : Int32 → SX → Prop) (QX : String → SX → Prop) (hw : wp_X_shift σ p1 p2 Q QX) : jx_i l G [(cI, .int), (cL, .long)] y_X_shift b_X_shift 4 .int rm_X_shift [.ref (ad 0), .int p1, .int p2] (wX cI cL ad σ) (wX cI cL ad) Q QX := by
  refine jx_open_i hlt (by decide +kernel) (Nat.le_of_ble_eq_true rfl) ?_
  intro κ hl hG C Z E
  subst hl; subst hG
  unfold wp_X_shift at hw
  refine j_aload_n (pc := 0) C d_X_shift_0 rfl 0 rfl ?_
  refine j_iload_n (pc := 1) C d_X_shift_1 rfl 1 rfl ?_
  refine jx_callVv0 (pc := 2) (st := []) (As := [.int p1]) (wf := wX cI cL ad) C Z E (c_X_needBlock (jk_l κ) Z.1 (jk_G κ) cI cL ad σ p1 _ _ hw) g_X_74 hdV_X_needBlock ⟨(Nat.le_of_ble_eq_true rfl), (Nat.le_of_ble_eq_true rfl)⟩ rfl (q0 := 0) rfl rfl rfl rfl (Nat.le_of_ble_eq_true rfl) d_X_shift_2 ⟨(Nat.le_of_ble_eq_true rfl), (Nat.le_of_ble_eq_true rfl)⟩ (Nat.le_of_ble_eq_true rfl) (Nat.le_of_ble_eq_true rfl) (fun σ1 hw => ?_)
  refine j_widen (k := 1) (n := 6) (Nat.le_of_ble_eq_true rfl) (Nat.le_of_ble_eq_true rfl) ?_
  refine j_iload_n (pc := 5) C d_X_shift_5 rfl 2 rfl ?_
  refine j_i2l (pc := 6) C d_X_shift_6 ?_
  refine j_lconst (v := 0) (pc := 7) C d_X_shift_7 (by decide) ?_
  refine j_ldc2 (v := 3) (pc := 8) C d_X_shift_8 k_68 ?_
  refine jx_callSv0 (pc := 11) (st := []) (As := [.long (Int32.toInt64 p2), .long 0, .long 3]) (wf := wX cI cL ad) C Z E (c_X_needWithin (jk_l κ) Z.1 (jk_G κ) cI cL ad σ1 (Int32.toInt64 p2) 0 3 _ _ hw) g_X_80 hdS_X_needWithin ⟨(Nat.le_of_ble_eq_true rfl), (Nat.le_of_ble_eq_true rfl)⟩ rfl rfl (Nat.le_of_ble_eq_true rfl) d_X_shift_11 ⟨(Nat.le_of_ble_eq_true rfl), (Nat.le_of_ble_eq_true rfl)⟩ (Nat.le_of_ble_eq_true rfl) (Nat.le_of_ble_eq_true rfl) (fun σ2 hw => ?_)
  refine j_widen (k := 2) (n := 12) (Nat.le_of_ble_eq_true rfl) (Nat.le_of_ble_eq_true rfl) ?_
  refine j_aload_n (pc := 14) C d_X_shift_14 rfl 0 rfl ?_
  refine j_get (pc := 15) C i_X 0 rfl rfl 7 (Nat.le_of_ble_eq_true rfl) k_2 rfl d_X_shift_15 ?_
  refine j_iload_n (pc := 18) C d_X_shift_18 rfl 1 rfl ?_
  obtain ⟨hi3, hw⟩ := hw
  refine j_iald (pc := 19) C 6 0 rfl rfl hi3 d_X_shift_19 ?_
  refine j_nmi (fun x4 e_x4 => ?_)
  have hw := hw x4 e_x4
  refine j_istore_n (pc := 20) (lv' := [(3, .int x4), (0, .ref (ad 0)), (1, .int p1), (2, .int p2)]) C d_X_shift_20 rfl (Nat.le_of_ble_eq_true rfl) rfl ?_
  refine j_aload_n (pc := 21) C d_X_shift_21 rfl 1 rfl ?_
  refine j_get (pc := 22) C i_X 0 rfl rfl 7 (Nat.le_of_ble_eq_true rfl) k_2 rfl d_X_shift_22 ?_
  refine j_iload_n (pc := 25) C d_X_shift_25 rfl 2 rfl ?_
  refine j_iload_n (pc := 26) C d_X_shift_26 rfl 3 rfl ?_
  obtain ⟨hi5, hw⟩ := hw
  obtain ⟨σ6, e_σ6⟩ : ∃ z : SX, z = uX_shifts σ2 (upd (sX_shifts σ2) (Int32.toNatClampNeg p1) p2) := ⟨_, rfl⟩
  have hw := hw σ6 e_σ6
  refine j_iast (pc := 27) (ws' := wX cI cL ad σ6) C 6 0 rfl rfl hi5 (by rw [e_σ6]; rfl) d_X_shift_27 ?_
  refine j_aload_n (pc := 28) C d_X_shift_28 rfl 1 rfl ?_
  refine j_iload_n (pc := 29) C d_X_shift_29 rfl 2 rfl ?_
  refine j_callVv0 (pc := 30) (st := []) (As := [.int p1]) (wf := wX cI cL ad) C (c_X_renewBlock (jk_l κ) (jk_G κ) cI cL ad σ6 p1 _ hw) g_X_97 hdV_X_renewBlock ⟨(Nat.le_of_ble_eq_true rfl), (Nat.le_of_ble_eq_true rfl)⟩ rfl (q0 := 0) rfl rfl rfl rfl (Nat.le_of_ble_eq_true rfl) d_X_shift_30 ⟨(Nat.le_of_ble_eq_true rfl), (Nat.le_of_ble_eq_true rfl)⟩ (fun σ7 hw => ?_)
  refine j_iload_n (pc := 33) C d_X_shift_33 rfl 0 rfl ?_
  exact jx_iret (pc := 34) C E hw (Nat.le_of_ble_eq_true rfl) (Nat.le_of_ble_eq_true rfl) d_X_shift_34
set_option maxHeartbeats 4000000 in
set_option maxRecDepth 100000 in
theorem c_X_needLayer (l : Launch) (hlt : l.stackTraces = false) (G : va_G) (cI cL : ClassId) (ad : Nat → Nat) (σ : SX) (p1 : Int32) (Q : SX → Prop) (QX : String → SX → Prop) (hw : wp_X_needLayer σ p1 Q QX) : jx_v l G [(cI, .int), (cL, .long)] y_X_needLayer b_X_needLayer 2 rm_X_needLayer [.ref (ad 0), .int p1] (wX cI cL ad σ) (wX cI cL ad) Q QX := by
  refine jx_open_v hlt (by decide +kernel) (Nat.le_of_ble_eq_true rfl) ?_
  intro κ hl hG C Z E
  subst hl; subst hG
  unfold wp_X_needLayer at hw
  refine j_iload_n (pc := 0) C d_X_needLayer_0 rfl 1 rfl ?_
  refine j_if_lt (pc := 1) (tgt := 12) C d_X_needLayer_1 (by decide) (fun c1 => ?_) (fun c1 => ?_)
  · have hw := hw.1 c1
    exact jx_throwS (pc := 12) C Z E (names := ["java/lang/RuntimeException", "java/lang/Exception"]) (by decide +kernel) (by decide +kernel) k_7 k_8 (List.mem_of_getElem? (i := 4) rfl) ka_X_121 d_X_needLayer_12 d_X_needLayer_15 d_X_needLayer_16 d_X_needLayer_18 d_X_needLayer_21 (Nat.le_of_ble_eq_true rfl) (Nat.le_of_ble_eq_true rfl) (Nat.le_of_ble_eq_true rfl) (Nat.le_of_ble_eq_true rfl) (Nat.le_of_ble_eq_true rfl) (Nat.le_of_ble_eq_true rfl) hw
  · have hw := hw.2 c1
    refine j_iload_n (pc := 4) C d_X_needLayer_4 rfl 1 rfl ?_
    refine j_aload_n (pc := 5) C d_X_needLayer_5 rfl 0 rfl ?_
    refine j_get (pc := 6) C i_X 0 rfl rfl 0 (Nat.le_of_ble_eq_true rfl) k_70 rfl d_X_needLayer_6 ?_
    refine j_icmp_lt (pc := 9) (tgt := 22) C d_X_needLayer_9 (by decide) (fun c2 => ?_) (fun c2 => ?_)
    · have hw := hw.1 c2
      exact jx_vret (pc := 22) C E hw (Nat.le_of_ble_eq_true rfl) (Nat.le_of_ble_eq_true rfl) d_X_needLayer_22
    · have hw := hw.2 c2
      exact jx_throwS (pc := 12) C Z E (names := ["java/lang/RuntimeException", "java/lang/Exception"]) (by decide +kernel) (by decide +kernel) k_7 k_8 (List.mem_of_getElem? (i := 4) rfl) ka_X_121 d_X_needLayer_12 d_X_needLayer_15 d_X_needLayer_16 d_X_needLayer_18 d_X_needLayer_21 (Nat.le_of_ble_eq_true rfl) (Nat.le_of_ble_eq_true rfl) (Nat.le_of_ble_eq_true rfl) (Nat.le_of_ble_eq_true rfl) (Nat.le_of_ble_eq_true rfl) (Nat.le_of_ble_eq_true rfl) hw
set_option maxHeartbeats 4000000 in
set_option maxRecDepth 100000 in
theorem c_X_tellLayer_at1 (l : Launch) (hlt : l.stackTraces = false) (G : va_G) (cI cL : ClassId) (ad : Nat → Nat) (σ : SX) (p2 : Int32) (p3 : Int32) (Q : Int32 → SX → Prop) (QX : String → SX → Prop) (hw : wp_X_tellLayer_at1 σ p2 p3 Q QX) : jx_i l G [(cI, .int), (cL, .long)] y_X_tellLayer b_X_tellLayer 5 .int rm_X_tellLayer_at1 [.ref (ad 0), .ref (ad 1), .int p2, .int p3] (wX cI cL ad σ) (wX cI cL ad) Q QX := by
  refine jx_open_i hlt (by decide +kernel) (Nat.le_of_ble_eq_true rfl) ?_
  intro κ hl hG C Z E
  subst hl; subst hG
  unfold wp_X_tellLayer_at1 at hw
  refine j_aload_n (pc := 0) C d_X_tellLayer_0 rfl 0 rfl ?_
  refine j_iload_n (pc := 1) C d_X_tellLayer_1 rfl 2 rfl ?_
  refine jx_callVv0 (pc := 2) (st := []) (As := [.int p2]) (wf := wX cI cL ad) C Z E (c_X_needLayer (jk_l κ) Z.1 (jk_G κ) cI cL ad σ p2 _ _ hw) g_X_142 hdV_X_needLayer ⟨(Nat.le_of_ble_eq_true rfl), (Nat.le_of_ble_eq_true rfl)⟩ rfl (q0 := 0) rfl rfl rfl rfl (Nat.le_of_ble_eq_true rfl) d_X_tellLayer_2 ⟨(Nat.le_of_ble_eq_true rfl), (Nat.le_of_ble_eq_true rfl)⟩ (Nat.le_of_ble_eq_true rfl) (Nat.le_of_ble_eq_true rfl) (fun σ1 hw => ?_)
  refine j_widen (k := 1) (n := 6) (Nat.le_of_ble_eq_true rfl) (Nat.le_of_ble_eq_true rfl) ?_
  refine j_iload_n (pc := 5) C d_X_tellLayer_5 rfl 3 rfl ?_
  refine j_i2l (pc := 6) C d_X_tellLayer_6 ?_
  refine j_lconst (v := 0) (pc := 7) C d_X_tellLayer_7 (by decide) ?_
  refine j_ldc2 (v := 10000000) (pc := 8) C d_X_tellLayer_8 k_75 ?_
  refine jx_callSv0 (pc := 11) (st := []) (As := [.long (Int32.toInt64 p3), .long 0, .long 10000000]) (wf := wX cI cL ad) C Z E (c_X_needWithin (jk_l κ) Z.1 (jk_G κ) cI cL ad σ1 (Int32.toInt64 p3) 0 10000000 _ _ hw) g_X_80 hdS_X_needWithin ⟨(Nat.le_of_ble_eq_true rfl), (Nat.le_of_ble_eq_true rfl)⟩ rfl rfl (Nat.le_of_ble_eq_true rfl) d_X_tellLayer_11 ⟨(Nat.le_of_ble_eq_true rfl), (Nat.le_of_ble_eq_true rfl)⟩ (Nat.le_of_ble_eq_true rfl) (Nat.le_of_ble_eq_true rfl) (fun σ2 hw => ?_)
  refine j_widen (k := 2) (n := 12) (Nat.le_of_ble_eq_true rfl) (Nat.le_of_ble_eq_true rfl) ?_
  refine j_aload_n (pc := 14) C d_X_tellLayer_14 rfl 1 rfl ?_
  refine j_iload_n (pc := 15) C d_X_tellLayer_15 rfl 2 rfl ?_
  obtain ⟨hi3, hw⟩ := hw
  refine j_iald (pc := 16) C 1 0 rfl rfl hi3 d_X_tellLayer_16 ?_
  refine j_nmi (fun x4 e_x4 => ?_)
  have hw := hw x4 e_x4
  refine j_istore (pc := 17) (lv' := [(4, .int x4), (0, .ref (ad 0)), (1, .ref (ad 1)), (2, .int p2), (3, .int p3)]) C d_X_tellLayer_17 (Nat.le_of_ble_eq_true rfl) rfl ?_
  refine j_aload_n (pc := 19) C d_X_tellLayer_19 rfl 2 rfl ?_
  refine j_iload_n (pc := 20) C d_X_tellLayer_20 rfl 3 rfl ?_
  refine j_iload_n (pc := 21) C d_X_tellLayer_21 rfl 4 rfl ?_
  obtain ⟨hi5, hw⟩ := hw
  obtain ⟨σ6, e_σ6⟩ : ∃ z : SX, z = uX_sizes σ2 (upd (sX_sizes σ2) (Int32.toNatClampNeg p2) p3) := ⟨_, rfl⟩
  have hw := hw σ6 e_σ6
  refine j_iast (pc := 22) (ws' := wX cI cL ad σ6) C 1 0 rfl rfl hi5 (by rw [e_σ6]; rfl) d_X_tellLayer_22 ?_
  refine j_aload_n (pc := 23) C d_X_tellLayer_23 rfl 1 rfl ?_
  refine j_iconst (v := 0) (pc := 24) C d_X_tellLayer_24 (by decide) ?_
  obtain ⟨σ7, e_σ7⟩ : ∃ z : SX, z = uX_shared σ6 0 := ⟨_, rfl⟩
  have hw := hw σ7 e_σ7
  refine j_put (pc := 25) (ws' := wX cI cL ad σ7) C i_X t_X t_X_ok n_X 0 rfl rfl 5 (Nat.le_of_ble_eq_true rfl) k_4 rfl (ty := .boolean) (by decide +kernel) rfl rfl (Nat.le_of_ble_eq_true rfl) (by rw [e_σ7]; rfl) d_X_tellLayer_25 ?_
  refine j_iload (pc := 28) C d_X_tellLayer_28 0 rfl ?_
  exact jx_iret (pc := 30) C E hw (Nat.le_of_ble_eq_true rfl) (Nat.le_of_ble_eq_true rfl) d_X_tellLayer_30
set_option maxHeartbeats 4000000 in
set_option maxRecDepth 100000 in
theorem c_X_size (l : Launch) (hlt : l.stackTraces = false) (G : va_G) (cI cL : ClassId) (ad : Nat → Nat) (σ : SX) (p1 : Int32) (p2 : Int32) (Q : Int32 → SX → Prop) (QX : String → SX → Prop) (hw : wp_X_size σ p1 p2 Q QX) : jx_i l G [(cI, .int), (cL, .long)] y_X_size b_X_size 3 .int rm_X_size [.ref (ad 0), .int p1, .int p2] (wX cI cL ad σ) (wX cI cL ad) Q QX := by
  refine jx_open_i hlt (by decide +kernel) (Nat.le_of_ble_eq_true rfl) ?_
  intro κ hl hG C Z E
  subst hl; subst hG
  unfold wp_X_size at hw
  refine j_aload_n (pc := 0) C d_X_size_0 rfl 0 rfl ?_
  refine j_aload_n (pc := 1) C d_X_size_1 rfl 0 rfl ?_
  refine j_get (pc := 2) C i_X 0 rfl rfl 1 (Nat.le_of_ble_eq_true rfl) k_69 rfl d_X_size_2 ?_
  refine j_iload_n (pc := 5) C d_X_size_5 rfl 1 rfl ?_
  refine j_iload_n (pc := 6) C d_X_size_6 rfl 2 rfl ?_
  refine jx_callVi0 (pc := 7) (st := []) (As := [.ref (ad 1), .int p1, .int p2]) (wf := wX cI cL ad) C Z E (c_X_tellLayer_at1 (jk_l κ) Z.1 (jk_G κ) cI cL ad σ p1 p2 _ _ hw) g_X_104 hdV_X_tellLayer ⟨(Nat.le_of_ble_eq_true rfl), (Nat.le_of_ble_eq_true rfl)⟩ rfl (q0 := 0) rfl rfl rfl rfl (Nat.le_of_ble_eq_true rfl) d_X_size_7 ⟨(Nat.le_of_ble_eq_true rfl), (Nat.le_of_ble_eq_true rfl)⟩ (Nat.le_of_ble_eq_true rfl) (Nat.le_of_ble_eq_true rfl) (fun r2 σ1 hw => ?_)
  refine j_widen (k := 2) (n := 12) (Nat.le_of_ble_eq_true rfl) (Nat.le_of_ble_eq_true rfl) ?_
  exact jx_iret (pc := 10) C E hw (Nat.le_of_ble_eq_true rfl) (Nat.le_of_ble_eq_true rfl) d_X_size_10
set_option maxHeartbeats 4000000 in
set_option maxRecDepth 100000 in
theorem c_X_tellLayer_at2 (l : Launch) (hlt : l.stackTraces = false) (G : va_G) (cI cL : ClassId) (ad : Nat → Nat) (σ : SX) (p2 : Int32) (p3 : Int32) (Q : Int32 → SX → Prop) (QX : String → SX → Prop) (hw : wp_X_tellLayer_at2 σ p2 p3 Q QX) : jx_i l G [(cI, .int), (cL, .long)] y_X_tellLayer b_X_tellLayer 5 .int rm_X_tellLayer_at2 [.ref (ad 0), .ref (ad 2), .int p2, .int p3] (wX cI cL ad σ) (wX cI cL ad) Q QX := by
  refine jx_open_i hlt (by decide +kernel) (Nat.le_of_ble_eq_true rfl) ?_
  intro κ hl hG C Z E
  subst hl; subst hG
  unfold wp_X_tellLayer_at2 at hw
  refine j_aload_n (pc := 0) C d_X_tellLayer_0 rfl 0 rfl ?_
  refine j_iload_n (pc := 1) C d_X_tellLayer_1 rfl 2 rfl ?_
  refine jx_callVv0 (pc := 2) (st := []) (As := [.int p2]) (wf := wX cI cL ad) C Z E (c_X_needLayer (jk_l κ) Z.1 (jk_G κ) cI cL ad σ p2 _ _ hw) g_X_142 hdV_X_needLayer ⟨(Nat.le_of_ble_eq_true rfl), (Nat.le_of_ble_eq_true rfl)⟩ rfl (q0 := 0) rfl rfl rfl rfl (Nat.le_of_ble_eq_true rfl) d_X_tellLayer_2 ⟨(Nat.le_of_ble_eq_true rfl), (Nat.le_of_ble_eq_true rfl)⟩ (Nat.le_of_ble_eq_true rfl) (Nat.le_of_ble_eq_true rfl) (fun σ1 hw => ?_)
  refine j_widen (k := 1) (n := 6) (Nat.le_of_ble_eq_true rfl) (Nat.le_of_ble_eq_true rfl) ?_
  refine j_iload_n (pc := 5) C d_X_tellLayer_5 rfl 3 rfl ?_
  refine j_i2l (pc := 6) C d_X_tellLayer_6 ?_
  refine j_lconst (v := 0) (pc := 7) C d_X_tellLayer_7 (by decide) ?_
  refine j_ldc2 (v := 10000000) (pc := 8) C d_X_tellLayer_8 k_75 ?_
  refine jx_callSv0 (pc := 11) (st := []) (As := [.long (Int32.toInt64 p3), .long 0, .long 10000000]) (wf := wX cI cL ad) C Z E (c_X_needWithin (jk_l κ) Z.1 (jk_G κ) cI cL ad σ1 (Int32.toInt64 p3) 0 10000000 _ _ hw) g_X_80 hdS_X_needWithin ⟨(Nat.le_of_ble_eq_true rfl), (Nat.le_of_ble_eq_true rfl)⟩ rfl rfl (Nat.le_of_ble_eq_true rfl) d_X_tellLayer_11 ⟨(Nat.le_of_ble_eq_true rfl), (Nat.le_of_ble_eq_true rfl)⟩ (Nat.le_of_ble_eq_true rfl) (Nat.le_of_ble_eq_true rfl) (fun σ2 hw => ?_)
  refine j_widen (k := 2) (n := 12) (Nat.le_of_ble_eq_true rfl) (Nat.le_of_ble_eq_true rfl) ?_
  refine j_aload_n (pc := 14) C d_X_tellLayer_14 rfl 1 rfl ?_
  refine j_iload_n (pc := 15) C d_X_tellLayer_15 rfl 2 rfl ?_
  obtain ⟨hi3, hw⟩ := hw
  refine j_iald (pc := 16) C 2 0 rfl rfl hi3 d_X_tellLayer_16 ?_
  refine j_nmi (fun x4 e_x4 => ?_)
  have hw := hw x4 e_x4
  refine j_istore (pc := 17) (lv' := [(4, .int x4), (0, .ref (ad 0)), (1, .ref (ad 2)), (2, .int p2), (3, .int p3)]) C d_X_tellLayer_17 (Nat.le_of_ble_eq_true rfl) rfl ?_
  refine j_aload_n (pc := 19) C d_X_tellLayer_19 rfl 2 rfl ?_
  refine j_iload_n (pc := 20) C d_X_tellLayer_20 rfl 3 rfl ?_
  refine j_iload_n (pc := 21) C d_X_tellLayer_21 rfl 4 rfl ?_
  obtain ⟨hi5, hw⟩ := hw
  obtain ⟨σ6, e_σ6⟩ : ∃ z : SX, z = uX_heads σ2 (upd (sX_heads σ2) (Int32.toNatClampNeg p2) p3) := ⟨_, rfl⟩
  have hw := hw σ6 e_σ6
  refine j_iast (pc := 22) (ws' := wX cI cL ad σ6) C 2 0 rfl rfl hi5 (by rw [e_σ6]; rfl) d_X_tellLayer_22 ?_
  refine j_aload_n (pc := 23) C d_X_tellLayer_23 rfl 1 rfl ?_
  refine j_iconst (v := 0) (pc := 24) C d_X_tellLayer_24 (by decide) ?_
  obtain ⟨σ7, e_σ7⟩ : ∃ z : SX, z = uX_shared σ6 0 := ⟨_, rfl⟩
  have hw := hw σ7 e_σ7
  refine j_put (pc := 25) (ws' := wX cI cL ad σ7) C i_X t_X t_X_ok n_X 0 rfl rfl 5 (Nat.le_of_ble_eq_true rfl) k_4 rfl (ty := .boolean) (by decide +kernel) rfl rfl (Nat.le_of_ble_eq_true rfl) (by rw [e_σ7]; rfl) d_X_tellLayer_25 ?_
  refine j_iload (pc := 28) C d_X_tellLayer_28 0 rfl ?_
  exact jx_iret (pc := 30) C E hw (Nat.le_of_ble_eq_true rfl) (Nat.le_of_ble_eq_true rfl) d_X_tellLayer_30
set_option maxHeartbeats 4000000 in
set_option maxRecDepth 100000 in
theorem c_X_head (l : Launch) (hlt : l.stackTraces = false) (G : va_G) (cI cL : ClassId) (ad : Nat → Nat) (σ : SX) (p1 : Int32) (p2 : Int32) (Q : Int32 → SX → Prop) (QX : String → SX → Prop) (hw : wp_X_head σ p1 p2 Q QX) : jx_i l G [(cI, .int), (cL, .long)] y_X_head b_X_head 3 .int rm_X_head [.ref (ad 0), .int p1, .int p2] (wX cI cL ad σ) (wX cI cL ad) Q QX := by
  refine jx_open_i hlt (by decide +kernel) (Nat.le_of_ble_eq_true rfl) ?_
  intro κ hl hG C Z E
  subst hl; subst hG
  unfold wp_X_head at hw
  refine j_aload_n (pc := 0) C d_X_head_0 rfl 0 rfl ?_
  refine j_aload_n (pc := 1) C d_X_head_1 rfl 0 rfl ?_
  refine j_get (pc := 2) C i_X 0 rfl rfl 2 (Nat.le_of_ble_eq_true rfl) k_80 rfl d_X_head_2 ?_
  refine j_iload_n (pc := 5) C d_X_head_5 rfl 1 rfl ?_
  refine j_iload_n (pc := 6) C d_X_head_6 rfl 2 rfl ?_
  refine jx_callVi0 (pc := 7) (st := []) (As := [.ref (ad 2), .int p1, .int p2]) (wf := wX cI cL ad) C Z E (c_X_tellLayer_at2 (jk_l κ) Z.1 (jk_G κ) cI cL ad σ p1 p2 _ _ hw) g_X_104 hdV_X_tellLayer ⟨(Nat.le_of_ble_eq_true rfl), (Nat.le_of_ble_eq_true rfl)⟩ rfl (q0 := 0) rfl rfl rfl rfl (Nat.le_of_ble_eq_true rfl) d_X_head_7 ⟨(Nat.le_of_ble_eq_true rfl), (Nat.le_of_ble_eq_true rfl)⟩ (Nat.le_of_ble_eq_true rfl) (Nat.le_of_ble_eq_true rfl) (fun r2 σ1 hw => ?_)
  refine j_widen (k := 2) (n := 12) (Nat.le_of_ble_eq_true rfl) (Nat.le_of_ble_eq_true rfl) ?_
  exact jx_iret (pc := 10) C E hw (Nat.le_of_ble_eq_true rfl) (Nat.le_of_ble_eq_true rfl) d_X_head_10
set_option maxHeartbeats 4000000 in
set_option maxRecDepth 100000 in
theorem lp_X_fillLayer_10 {κ : jk_K} {cI cL : ClassId} {ad : Nat → Nat} {Q : Int32 → SX → Prop} (C : jk_C κ b_X_fillLayer R_X rm_X_fillLayer 5 [(cI, .int), (cL, .long)]) (E : jk_E κ (some .int) (va_Qi Q (jk_B (jk_G κ) [(cI, .int), (cL, .long)] (jk_A κ) (wX cI cL ad)) (jk_A κ)) rm_X_fillLayer.cells rm_X_fillLayer.slots) (y1 : Int32) : ∀ (n : Nat) (y3 : Int32) (y4 : Int32) (σ : SX), wl_X_fillLayer_10 y1 Q n y3 y4 σ → jk_J κ (wX cI cL ad σ) 10 [(0, .ref (ad 0)), (1, .int y1), (3, .int y3), (4, .int y4)] [] 0 0 := by
  intro n
  induction n with
  | zero => intro y3 y4 σ hw; exact hw.elim
  | succ n ih =>
    intro y3 y4 σ hw
    rw [wl_X_fillLayer_10] at hw
    refine j_iload (pc := 10) C d_X_fillLayer_10 3 rfl ?_
    refine j_aload_n (pc := 12) C d_X_fillLayer_12 rfl 0 rfl ?_
    refine j_get (pc := 13) C i_X 0 rfl rfl 16 (Nat.le_of_ble_eq_true rfl) k_28 rfl d_X_fillLayer_13 ?_
    refine j_icmp_ge (pc := 16) (tgt := 63) C d_X_fillLayer_16 (by decide) (fun c3 => ?_) (fun c3 => ?_)
    · have hw := hw.1 c3
      refine j_aload_n (pc := 63) C d_X_fillLayer_63 rfl 0 rfl ?_
      refine j_get (pc := 64) C i_X 0 rfl rfl 3 (Nat.le_of_ble_eq_true rfl) k_81 rfl d_X_fillLayer_64 ?_
      refine j_iload_n (pc := 67) C d_X_fillLayer_67 rfl 1 rfl ?_
      refine j_iload_n (pc := 68) C d_X_fillLayer_68 rfl 2 rfl ?_
      obtain ⟨hi4, hw⟩ := hw
      obtain ⟨σ5, e_σ5⟩ : ∃ z : SX, z = uX_held σ (upd (sX_held σ) (Int32.toNatClampNeg y1) y3) := ⟨_, rfl⟩
      have hw := hw σ5 e_σ5
      refine j_iast (pc := 69) (ws' := wX cI cL ad σ5) C 3 0 rfl rfl hi4 (by rw [e_σ5]; rfl) d_X_fillLayer_69 ?_
      refine j_iload (pc := 70) C d_X_fillLayer_70 3 rfl ?_
      exact j_iret (pc := 72) C E hw (Nat.le_of_ble_eq_true rfl) (Nat.le_of_ble_eq_true rfl) d_X_fillLayer_72
    · have hw := hw.2 c3
      refine j_iload_n (pc := 19) C d_X_fillLayer_19 rfl 2 rfl ?_
      refine j_aload_n (pc := 20) C d_X_fillLayer_20 rfl 0 rfl ?_
      refine j_get (pc := 21) C i_X 0 rfl rfl 14 (Nat.le_of_ble_eq_true rfl) k_41 rfl d_X_fillLayer_21 ?_
      refine j_aload_n (pc := 24) C d_X_fillLayer_24 rfl 0 rfl ?_
      refine j_get (pc := 25) C i_X 0 rfl rfl 15 (Nat.le_of_ble_eq_true rfl) k_29 rfl d_X_fillLayer_25 ?_
      refine j_iload (pc := 28) C d_X_fillLayer_28 3 rfl ?_
      obtain ⟨hi6, hw⟩ := hw
      refine j_iald (pc := 30) C 12 0 rfl rfl hi6 d_X_fillLayer_30 ?_
      obtain ⟨hi7, hw⟩ := hw
      refine j_iald (pc := 31) C 11 0 rfl rfl hi7 d_X_fillLayer_31 ?_
      refine j_iadd (pc := 32) C d_X_fillLayer_32 ?_
      refine j_aload_n (pc := 33) C d_X_fillLayer_33 rfl 0 rfl ?_
      refine j_get (pc := 34) C i_X 0 rfl rfl 1 (Nat.le_of_ble_eq_true rfl) k_69 rfl d_X_fillLayer_34 ?_
      refine j_iload_n (pc := 37) C d_X_fillLayer_37 rfl 1 rfl ?_
      obtain ⟨hi8, hw⟩ := hw
      refine j_iald (pc := 38) C 1 0 rfl rfl hi8 d_X_fillLayer_38 ?_
      refine j_icmp_gt (pc := 39) (tgt := 63) C d_X_fillLayer_39 (by decide) (fun c9 => ?_) (fun c9 => ?_)
      · have hw := hw.1 c9
        refine j_aload_n (pc := 63) C d_X_fillLayer_63 rfl 0 rfl ?_
        refine j_get (pc := 64) C i_X 0 rfl rfl 3 (Nat.le_of_ble_eq_true rfl) k_81 rfl d_X_fillLayer_64 ?_
        refine j_iload_n (pc := 67) C d_X_fillLayer_67 rfl 1 rfl ?_
        refine j_iload_n (pc := 68) C d_X_fillLayer_68 rfl 2 rfl ?_
        obtain ⟨hi10, hw⟩ := hw
        obtain ⟨σ11, e_σ11⟩ : ∃ z : SX, z = uX_held σ (upd (sX_held σ) (Int32.toNatClampNeg y1) y3) := ⟨_, rfl⟩
        have hw := hw σ11 e_σ11
        refine j_iast (pc := 69) (ws' := wX cI cL ad σ11) C 3 0 rfl rfl hi10 (by rw [e_σ11]; rfl) d_X_fillLayer_69 ?_
        refine j_iload (pc := 70) C d_X_fillLayer_70 3 rfl ?_
        exact j_iret (pc := 72) C E hw (Nat.le_of_ble_eq_true rfl) (Nat.le_of_ble_eq_true rfl) d_X_fillLayer_72
      · have hw := hw.2 c9
        refine j_iload_n (pc := 42) C d_X_fillLayer_42 rfl 2 rfl ?_
        refine j_aload_n (pc := 43) C d_X_fillLayer_43 rfl 0 rfl ?_
        refine j_get (pc := 44) C i_X 0 rfl rfl 14 (Nat.le_of_ble_eq_true rfl) k_41 rfl d_X_fillLayer_44 ?_
        refine j_aload_n (pc := 47) C d_X_fillLayer_47 rfl 0 rfl ?_
        refine j_get (pc := 48) C i_X 0 rfl rfl 15 (Nat.le_of_ble_eq_true rfl) k_29 rfl d_X_fillLayer_48 ?_
        refine j_iload (pc := 51) C d_X_fillLayer_51 3 rfl ?_
        obtain ⟨hi12, hw⟩ := hw
        refine j_iald (pc := 53) C 12 0 rfl rfl hi12 d_X_fillLayer_53 ?_
        obtain ⟨hi13, hw⟩ := hw
        refine j_iald (pc := 54) C 11 0 rfl rfl hi13 d_X_fillLayer_54 ?_
        refine j_iadd (pc := 55) C d_X_fillLayer_55 ?_
        refine j_nmi (fun x14 e_x14 => ?_)
        have hw := hw x14 e_x14
        refine j_istore_n (pc := 56) (lv' := [(3, .int x14), (0, .ref (ad 0)), (1, .int y1), (4, .int y4)]) C d_X_fillLayer_56 rfl (Nat.le_of_ble_eq_true rfl) rfl ?_
        refine j_iinc (pc := 57) (lv' := [(4, .int (y4 + 1)), (3, .int x14), (0, .ref (ad 0)), (1, .int y1)]) C d_X_fillLayer_57 (k := 3) rfl rfl (Nat.le_of_ble_eq_true rfl) rfl ?_
        refine j_goto (pc := 60) (tgt := 10) C d_X_fillLayer_60 (by decide) ?_
        refine j_locs [2, 3, 1, 0] rfl ?_
        exact ih x14 (y4 + 1) σ hw
set_option maxHeartbeats 4000000 in
set_option maxRecDepth 100000 in
theorem c_X_fillLayer (l : Launch) (G : va_G) (cI cL : ClassId) (ad : Nat → Nat) (σ : SX) (p1 : Int32) (p2 : Int32) (Q : Int32 → SX → Prop) (hw : wp_X_fillLayer σ p1 p2 Q) : jm_i l G [(cI, .int), (cL, .long)] y_X_fillLayer b_X_fillLayer 5 .int rm_X_fillLayer [.ref (ad 0), .int p1, .int p2] (wX cI cL ad σ) (wX cI cL ad) Q := by
  refine jm_open_i (by decide +kernel) (Nat.le_of_ble_eq_true rfl) ?_
  intro κ hl hG C E hi
  subst hl; subst hG
  unfold wp_X_fillLayer at hw
  refine j_aload_n (pc := 0) C d_X_fillLayer_0 rfl 0 rfl ?_
  refine j_get (pc := 1) C i_X 0 rfl rfl 2 (Nat.le_of_ble_eq_true rfl) k_80 rfl d_X_fillLayer_1 ?_
  refine j_iload_n (pc := 4) C d_X_fillLayer_4 rfl 1 rfl ?_
  obtain ⟨hi1, hw⟩ := hw
  refine j_iald (pc := 5) C 2 0 rfl rfl hi1 d_X_fillLayer_5 ?_
  refine j_nmi (fun x2 e_x2 => ?_)
  have hw := hw x2 e_x2
  refine j_istore_n (pc := 6) (lv' := [(3, .int x2), (0, .ref (ad 0)), (1, .int p1), (2, .int p2)]) C d_X_fillLayer_6 rfl (Nat.le_of_ble_eq_true rfl) rfl ?_
  refine j_iload_n (pc := 7) C d_X_fillLayer_7 rfl 3 rfl ?_
  refine j_istore (pc := 8) (lv' := [(4, .int p2), (3, .int x2), (0, .ref (ad 0)), (1, .int p1), (2, .int p2)]) C d_X_fillLayer_8 (Nat.le_of_ble_eq_true rfl) rfl ?_
  obtain ⟨n15, hw⟩ := hw
  refine j_locs [2, 3, 1, 0] rfl ?_
  exact lp_X_fillLayer_10 C E p1 n15 x2 p2 σ hw
