set_option maxHeartbeats 4000000 in
set_option maxRecDepth 100000 in
theorem lp_M_above_52 {κ : jk_K} {cI cL : ClassId} {ad : Nat → Nat} {Q : Int32 → SM → Prop} (C : jk_C κ b_M_above R_M rm_M_above 5 [(cI, .int), (cL, .long)]) (E : jk_E κ (some .int) (va_Qi Q (jk_B (jk_G κ) [(cI, .int), (cL, .long)] (jk_A κ) (wM cI cL ad)) (jk_A κ)) rm_M_above.cells rm_M_above.slots) (y1 : Int64) (y3 : Int32) : ∀ (n : Nat) (y4 : Int32) (μ : SM), wl_M_above_52 y1 y3 Q n y4 μ → jk_J κ (wM cI cL ad μ) 52 [(0, .ref (ad 0)), (1, .long y1), (3, .int y3), (4, .int y4)] [] 0 0 := by
  intro n
  induction n with
  | zero => intro y4 μ hw; exact hw.elim
  | succ n ih =>
    intro y4 μ hw
    rw [wl_M_above_52] at hw
    refine j_iload (pc := 52) C d_M_above_52 3 rfl ?_
    refine j_aload_n (pc := 54) C d_M_above_54 rfl 0 rfl ?_
    refine j_get (pc := 55) C i_M 0 rfl rfl 13 (Nat.le_of_ble_eq_true rfl) k_159 rfl d_M_above_55 ?_
    refine j_icmp_ge (pc := 58) (tgt := 101) C d_M_above_58 (by decide) (fun c9 => ?_) (fun c9 => ?_)
    · have hw := hw.1 c9
      refine j_iload (pc := 101) C d_M_above_101 3 rfl ?_
      exact j_iret (pc := 103) C E hw (Nat.le_of_ble_eq_true rfl) (Nat.le_of_ble_eq_true rfl) d_M_above_103
    · have hw := hw.2 c9
      refine j_aload_n (pc := 61) C d_M_above_61 rfl 0 rfl ?_
      refine j_get (pc := 62) C i_M 0 rfl rfl 12 (Nat.le_of_ble_eq_true rfl) k_157 rfl d_M_above_62 ?_
      refine j_aload_n (pc := 65) C d_M_above_65 rfl 0 rfl ?_
      refine j_get (pc := 66) C i_M 0 rfl rfl 14 (Nat.le_of_ble_eq_true rfl) k_164 rfl d_M_above_66 ?_
      refine j_iload (pc := 69) C d_M_above_69 3 rfl ?_
      obtain ⟨hi10, hw⟩ := hw
      refine j_iald (pc := 71) C 10 0 rfl rfl hi10 d_M_above_71 ?_
      obtain ⟨hi11, hw⟩ := hw
      refine j_lald (pc := 72) C 9 1 rfl rfl hi11 d_M_above_72 ?_
      refine j_iload_n (pc := 73) C d_M_above_73 rfl 2 rfl ?_
      refine j_i2l (pc := 74) C d_M_above_74 ?_
      refine j_lmul (pc := 75) C d_M_above_75 ?_
      refine j_lload_n (pc := 76) C d_M_above_76 rfl 1 rfl ?_
      refine j_aload_n (pc := 77) C d_M_above_77 rfl 0 rfl ?_
      refine j_get (pc := 78) C i_M 0 rfl rfl 11 (Nat.le_of_ble_eq_true rfl) k_158 rfl d_M_above_78 ?_
      refine j_aload_n (pc := 81) C d_M_above_81 rfl 0 rfl ?_
      refine j_get (pc := 82) C i_M 0 rfl rfl 14 (Nat.le_of_ble_eq_true rfl) k_164 rfl d_M_above_82 ?_
      refine j_iload (pc := 85) C d_M_above_85 3 rfl ?_
      obtain ⟨hi12, hw⟩ := hw
      refine j_iald (pc := 87) C 10 0 rfl rfl hi12 d_M_above_87 ?_
      obtain ⟨hi13, hw⟩ := hw
      refine j_iald (pc := 88) C 8 0 rfl rfl hi13 d_M_above_88 ?_
      refine j_i2l (pc := 89) C d_M_above_89 ?_
      refine j_lmul (pc := 90) C d_M_above_90 ?_
      refine j_lcmp (pc := 91) C d_M_above_91 ?_
      refine j_if_lt (pc := 92) (tgt := 101) C d_M_above_92 (by decide) (fun c14 => ?_) (fun c14 => ?_)
      · have hw := hw.1 c14
        refine j_iload (pc := 101) C d_M_above_101 3 rfl ?_
        exact j_iret (pc := 103) C E hw (Nat.le_of_ble_eq_true rfl) (Nat.le_of_ble_eq_true rfl) d_M_above_103
      · have hw := hw.2 c14
        refine j_iinc (pc := 95) (lv' := [(4, .int (y4 + 1)), (0, .ref (ad 0)), (1, .long y1), (3, .int y3)]) C d_M_above_95 (k := 3) rfl rfl (Nat.le_of_ble_eq_true rfl) rfl ?_
        refine j_goto (pc := 98) (tgt := 52) C d_M_above_98 (by decide) ?_
        refine j_locs [1, 2, 3, 0] rfl ?_
        exact ih (y4 + 1) μ hw
set_option maxHeartbeats 4000000 in
set_option maxRecDepth 100000 in
theorem c_M_above (l : Launch) (G : va_G) (cI cL : ClassId) (ad : Nat → Nat) (μ : SM) (p1 : Int64) (p3 : Int32) (Q : Int32 → SM → Prop) (hw : wp_M_above μ p1 p3 Q) : jm_i l G [(cI, .int), (cL, .long)] y_M_above b_M_above 5 .int rm_M_above [.ref (ad 0), .long p1, .int p3] (wM cI cL ad μ) (wM cI cL ad) Q := by
  refine jm_open_i (by decide +kernel) (Nat.le_of_ble_eq_true rfl) ?_
  intro κ hl hG C E hi
  subst hl; subst hG
  unfold wp_M_above at hw
  refine j_aload_n (pc := 0) C d_M_above_0 rfl 0 rfl ?_
  refine j_iconst (v := 0) (pc := 1) C d_M_above_1 (by decide) ?_
  obtain ⟨μ1, e_μ1⟩ : ∃ z : SM, z = uM_thr μ 0 := ⟨_, rfl⟩
  have hw := hw μ1 e_μ1
  refine j_put (pc := 2) (ws' := wM cI cL ad μ1) C i_M t_M t_M_ok n_M 0 rfl rfl 0 (Nat.le_of_ble_eq_true rfl) k_110 rfl (ty := .int) (by decide +kernel) rfl rfl (Nat.le_of_ble_eq_true rfl) (by rw [e_μ1]; rfl) d_M_above_2 ?_
  refine j_aload_n (pc := 5) C d_M_above_5 rfl 0 rfl ?_
  refine j_callVv0 (pc := 6) (st := []) (As := []) (wf := wM cI cL ad) C (c_M_layRow (jk_l κ) (jk_G κ) cI cL ad μ1 _ hw) g_M_111 hdV_M_layRow ⟨(Nat.le_of_ble_eq_true rfl), (Nat.le_of_ble_eq_true rfl)⟩ rfl (q0 := 0) rfl rfl rfl rfl (Nat.le_of_ble_eq_true rfl) d_M_above_6 ⟨(Nat.le_of_ble_eq_true rfl), (Nat.le_of_ble_eq_true rfl)⟩ (fun μ2 hw => ?_)
  refine j_aload_n (pc := 9) C d_M_above_9 rfl 0 rfl ?_
  refine j_iload_n (pc := 10) C d_M_above_10 rfl 2 rfl ?_
  refine j_i2l (pc := 11) C d_M_above_11 ?_
  refine j_lconst (v := 1) (pc := 12) C d_M_above_12 (by decide) ?_
  refine j_ldc2 (v := 1000000) (pc := 13) C d_M_above_13 k_138 ?_
  refine j_callSi0 (pc := 16) (st := [.ref (ad 0)]) (As := [.long (Int32.toInt64 p3), .long 1, .long 1000000]) (wf := wM cI cL ad) C (c_M_within (jk_l κ) (jk_G κ) cI cL ad μ2 (Int32.toInt64 p3) 1 1000000 _ hw) g_M_74 hdS_M_within ⟨(Nat.le_of_ble_eq_true rfl), (Nat.le_of_ble_eq_true rfl)⟩ rfl rfl (Nat.le_of_ble_eq_true rfl) d_M_above_16 ⟨(Nat.le_of_ble_eq_true rfl), (Nat.le_of_ble_eq_true rfl)⟩ (fun r4 μ3 hw => ?_)
  refine j_if_eq (pc := 19) (tgt := 35) C d_M_above_19 (by decide) (fun c5 => ?_) (fun c5 => ?_)
  · have hw := hw.1 c5
    refine j_iconst (v := 1) (pc := 35) C d_M_above_35 (by decide) ?_
    refine j_goto (pc := 36) (tgt := 40) C d_M_above_36 (by decide) ?_
    refine j_iconst (v := 1) (pc := 40) C d_M_above_40 (by decide) ?_
    refine j_callVi0 (pc := 41) (st := []) (As := [.int 1, .int 1]) (wf := wM cI cL ad) C (c_M_fails (jk_l κ) (jk_G κ) cI cL ad μ3 1 1 _ hw) g_M_65 hdV_M_fails ⟨(Nat.le_of_ble_eq_true rfl), (Nat.le_of_ble_eq_true rfl)⟩ rfl (q0 := 0) rfl rfl rfl rfl (Nat.le_of_ble_eq_true rfl) d_M_above_41 ⟨(Nat.le_of_ble_eq_true rfl), (Nat.le_of_ble_eq_true rfl)⟩ (fun r7 μ6 hw => ?_)
    refine j_if_eq (pc := 44) (tgt := 49) C d_M_above_44 (by decide) (fun c8 => ?_) (fun c8 => ?_)
    · have hw := hw.1 c8
      refine j_iconst (v := 0) (pc := 49) C d_M_above_49 (by decide) ?_
      refine j_istore (pc := 50) (lv' := [(4, .int 0), (0, .ref (ad 0)), (1, .long p1), (3, .int p3)]) C d_M_above_50 (Nat.le_of_ble_eq_true rfl) rfl ?_
      obtain ⟨n15, hw⟩ := hw
      refine j_locs [1, 2, 3, 0] rfl ?_
      exact lp_M_above_52 C E p1 p3 n15 0 μ6 hw
    · have hw := hw.2 c8
      refine j_iconst (v := 0) (pc := 47) C d_M_above_47 (by decide) ?_
      exact j_iret (pc := 48) C E hw (Nat.le_of_ble_eq_true rfl) (Nat.le_of_ble_eq_true rfl) d_M_above_48
  · have hw := hw.2 c5
    refine j_lload_n (pc := 22) C d_M_above_22 rfl 1 rfl ?_
    refine j_ldc2 (v := (-1000000000000)) (pc := 23) C d_M_above_23 k_190 ?_
    refine j_ldc2 (v := 1000000000000) (pc := 26) C d_M_above_26 k_191 ?_
    refine j_callSi0 (pc := 29) (st := [.ref (ad 0)]) (As := [.long p1, .long (-1000000000000), .long 1000000000000]) (wf := wM cI cL ad) C (c_M_within (jk_l κ) (jk_G κ) cI cL ad μ3 p1 (-1000000000000) 1000000000000 _ hw) g_M_74 hdS_M_within ⟨(Nat.le_of_ble_eq_true rfl), (Nat.le_of_ble_eq_true rfl)⟩ rfl rfl (Nat.le_of_ble_eq_true rfl) d_M_above_29 ⟨(Nat.le_of_ble_eq_true rfl), (Nat.le_of_ble_eq_true rfl)⟩ (fun r17 μ16 hw => ?_)
    refine j_if_ne (pc := 32) (tgt := 39) C d_M_above_32 (by decide) (fun c18 => ?_) (fun c18 => ?_)
    · have hw := hw.1 c18
      refine j_iconst (v := 0) (pc := 39) C d_M_above_39 (by decide) ?_
      refine j_iconst (v := 1) (pc := 40) C d_M_above_40 (by decide) ?_
      refine j_callVi0 (pc := 41) (st := []) (As := [.int 0, .int 1]) (wf := wM cI cL ad) C (c_M_fails (jk_l κ) (jk_G κ) cI cL ad μ16 0 1 _ hw) g_M_65 hdV_M_fails ⟨(Nat.le_of_ble_eq_true rfl), (Nat.le_of_ble_eq_true rfl)⟩ rfl (q0 := 0) rfl rfl rfl rfl (Nat.le_of_ble_eq_true rfl) d_M_above_41 ⟨(Nat.le_of_ble_eq_true rfl), (Nat.le_of_ble_eq_true rfl)⟩ (fun r20 μ19 hw => ?_)
      refine j_if_eq (pc := 44) (tgt := 49) C d_M_above_44 (by decide) (fun c21 => ?_) (fun c21 => ?_)
      · have hw := hw.1 c21
        refine j_iconst (v := 0) (pc := 49) C d_M_above_49 (by decide) ?_
        refine j_istore (pc := 50) (lv' := [(4, .int 0), (0, .ref (ad 0)), (1, .long p1), (3, .int p3)]) C d_M_above_50 (Nat.le_of_ble_eq_true rfl) rfl ?_
        obtain ⟨n22, hw⟩ := hw
        refine j_locs [1, 2, 3, 0] rfl ?_
        exact lp_M_above_52 C E p1 p3 n22 0 μ19 hw
      · have hw := hw.2 c21
        refine j_iconst (v := 0) (pc := 47) C d_M_above_47 (by decide) ?_
        exact j_iret (pc := 48) C E hw (Nat.le_of_ble_eq_true rfl) (Nat.le_of_ble_eq_true rfl) d_M_above_48
    · have hw := hw.2 c18
      refine j_iconst (v := 1) (pc := 35) C d_M_above_35 (by decide) ?_
      refine j_goto (pc := 36) (tgt := 40) C d_M_above_36 (by decide) ?_
      refine j_iconst (v := 1) (pc := 40) C d_M_above_40 (by decide) ?_
      refine j_callVi0 (pc := 41) (st := []) (As := [.int 1, .int 1]) (wf := wM cI cL ad) C (c_M_fails (jk_l κ) (jk_G κ) cI cL ad μ16 1 1 _ hw) g_M_65 hdV_M_fails ⟨(Nat.le_of_ble_eq_true rfl), (Nat.le_of_ble_eq_true rfl)⟩ rfl (q0 := 0) rfl rfl rfl rfl (Nat.le_of_ble_eq_true rfl) d_M_above_41 ⟨(Nat.le_of_ble_eq_true rfl), (Nat.le_of_ble_eq_true rfl)⟩ (fun r24 μ23 hw => ?_)
      refine j_if_eq (pc := 44) (tgt := 49) C d_M_above_44 (by decide) (fun c25 => ?_) (fun c25 => ?_)
      · have hw := hw.1 c25
        refine j_iconst (v := 0) (pc := 49) C d_M_above_49 (by decide) ?_
        refine j_istore (pc := 50) (lv' := [(4, .int 0), (0, .ref (ad 0)), (1, .long p1), (3, .int p3)]) C d_M_above_50 (Nat.le_of_ble_eq_true rfl) rfl ?_
        obtain ⟨n26, hw⟩ := hw
        refine j_locs [1, 2, 3, 0] rfl ?_
        exact lp_M_above_52 C E p1 p3 n26 0 μ23 hw
      · have hw := hw.2 c25
        refine j_iconst (v := 0) (pc := 47) C d_M_above_47 (by decide) ?_
        exact j_iret (pc := 48) C E hw (Nat.le_of_ble_eq_true rfl) (Nat.le_of_ble_eq_true rfl) d_M_above_48
set_option maxHeartbeats 4000000 in
set_option maxRecDepth 100000 in
theorem lp_M_told_9 {κ : jk_K} {cI cL : ClassId} {ad : Nat → Nat} {Q : Int32 → SM → Prop} (C : jk_C κ b_M_told R_M rm_M_told 4 [(cI, .int), (cL, .long)]) (E : jk_E κ (some .int) (va_Qi Q (jk_B (jk_G κ) [(cI, .int), (cL, .long)] (jk_A κ) (wM cI cL ad)) (jk_A κ)) rm_M_told.cells rm_M_told.slots) (y1 : Int32) : ∀ (n : Nat) (y2 : Int32) (y3 : Int32) (μ : SM), wl_M_told_9 y1 Q n y2 y3 μ → jk_J κ (wM cI cL ad μ) 9 [(0, .ref (ad 0)), (1, .int y1), (2, .int y2), (3, .int y3)] [] 0 0 := by
  intro n
  induction n with
  | zero => intro y2 y3 μ hw; exact hw.elim
  | succ n ih =>
    intro y2 y3 μ hw
    rw [wl_M_told_9] at hw
    refine j_iload_n (pc := 9) C d_M_told_9 rfl 3 rfl ?_
    refine j_aload_n (pc := 10) C d_M_told_10 rfl 0 rfl ?_
    refine j_get (pc := 11) C i_M 0 rfl rfl 2 (Nat.le_of_ble_eq_true rfl) k_111 rfl d_M_told_11 ?_
    refine j_icmp_ge (pc := 14) (tgt := 32) C d_M_told_14 (by decide) (fun c2 => ?_) (fun c2 => ?_)
    · have hw := hw.1 c2
      refine j_iload_n (pc := 32) C d_M_told_32 rfl 1 rfl ?_
      refine j_if_ne (pc := 33) (tgt := 43) C d_M_told_33 (by decide) (fun c3 => ?_) (fun c3 => ?_)
      · have hw := hw.1 c3
        refine j_iload_n (pc := 43) C d_M_told_43 rfl 1 rfl ?_
        refine j_iconst (v := 1) (pc := 44) C d_M_told_44 (by decide) ?_
        refine j_icmp_ne (pc := 45) (tgt := 55) C d_M_told_45 (by decide) (fun c4 => ?_) (fun c4 => ?_)
        · have hw := hw.1 c4
          refine j_iload_n (pc := 55) C d_M_told_55 rfl 1 rfl ?_
          refine j_iconst (v := 2) (pc := 56) C d_M_told_56 (by decide) ?_
          refine j_icmp_ne (pc := 57) (tgt := 64) C d_M_told_57 (by decide) (fun c5 => ?_) (fun c5 => ?_)
          · have hw := hw.1 c5
            refine j_iload_n (pc := 64) C d_M_told_64 rfl 1 rfl ?_
            refine j_iconst (v := 3) (pc := 65) C d_M_told_65 (by decide) ?_
            refine j_icmp_ne (pc := 66) (tgt := 84) C d_M_told_66 (by decide) (fun c6 => ?_) (fun c6 => ?_)
            · have hw := hw.1 c6
              refine j_iconst (v := (-1)) (pc := 84) C d_M_told_84 (by decide) ?_
              exact j_iret (pc := 85) C E hw (Nat.le_of_ble_eq_true rfl) (Nat.le_of_ble_eq_true rfl) d_M_told_85
            · have hw := hw.2 c6
              refine j_aload_n (pc := 69) C d_M_told_69 rfl 0 rfl ?_
              refine j_get (pc := 70) C i_M 0 rfl rfl 15 (Nat.le_of_ble_eq_true rfl) k_120 rfl d_M_told_70 ?_
              refine j_if_eq (pc := 73) (tgt := 80) C d_M_told_73 (by decide) (fun c7 => ?_) (fun c7 => ?_)
              · have hw := hw.1 c7
                refine j_iconst (v := 0) (pc := 80) C d_M_told_80 (by decide) ?_
                refine j_goto (pc := 81) (tgt := 85) C d_M_told_81 (by decide) ?_
                exact j_iret (pc := 85) C E hw (Nat.le_of_ble_eq_true rfl) (Nat.le_of_ble_eq_true rfl) d_M_told_85
              · have hw := hw.2 c7
                refine j_iconst (v := 1) (pc := 76) C d_M_told_76 (by decide) ?_
                refine j_goto (pc := 77) (tgt := 85) C d_M_told_77 (by decide) ?_
                exact j_iret (pc := 85) C E hw (Nat.le_of_ble_eq_true rfl) (Nat.le_of_ble_eq_true rfl) d_M_told_85
          · have hw := hw.2 c5
            refine j_iload_n (pc := 60) C d_M_told_60 rfl 2 rfl ?_
            refine j_goto (pc := 61) (tgt := 85) C d_M_told_61 (by decide) ?_
            exact j_iret (pc := 85) C E hw (Nat.le_of_ble_eq_true rfl) (Nat.le_of_ble_eq_true rfl) d_M_told_85
        · have hw := hw.2 c4
          refine j_aload_n (pc := 48) C d_M_told_48 rfl 0 rfl ?_
          refine j_get (pc := 49) C i_M 0 rfl rfl 2 (Nat.le_of_ble_eq_true rfl) k_111 rfl d_M_told_49 ?_
          refine j_goto (pc := 52) (tgt := 85) C d_M_told_52 (by decide) ?_
          exact j_iret (pc := 85) C E hw (Nat.le_of_ble_eq_true rfl) (Nat.le_of_ble_eq_true rfl) d_M_told_85
      · have hw := hw.2 c3
        refine j_aload_n (pc := 36) C d_M_told_36 rfl 0 rfl ?_
        refine j_get (pc := 37) C i_M 0 rfl rfl 1 (Nat.le_of_ble_eq_true rfl) k_118 rfl d_M_told_37 ?_
        refine j_goto (pc := 40) (tgt := 85) C d_M_told_40 (by decide) ?_
        exact j_iret (pc := 85) C E hw (Nat.le_of_ble_eq_true rfl) (Nat.le_of_ble_eq_true rfl) d_M_told_85
    · have hw := hw.2 c2
      refine j_iload_n (pc := 17) C d_M_told_17 rfl 2 rfl ?_
      refine j_aload_n (pc := 18) C d_M_told_18 rfl 0 rfl ?_
      refine j_get (pc := 19) C i_M 0 rfl rfl 3 (Nat.le_of_ble_eq_true rfl) k_117 rfl d_M_told_19 ?_
      refine j_iload_n (pc := 22) C d_M_told_22 rfl 3 rfl ?_
      obtain ⟨hi8, hw⟩ := hw
      refine j_iald (pc := 23) C 1 0 rfl rfl hi8 d_M_told_23 ?_
      refine j_iadd (pc := 24) C d_M_told_24 ?_
      refine j_nmi (fun x9 e_x9 => ?_)
      have hw := hw x9 e_x9
      refine j_istore_n (pc := 25) (lv' := [(2, .int x9), (0, .ref (ad 0)), (1, .int y1), (3, .int y3)]) C d_M_told_25 rfl (Nat.le_of_ble_eq_true rfl) rfl ?_
      refine j_iinc (pc := 26) (lv' := [(3, .int (y3 + 1)), (2, .int x9), (0, .ref (ad 0)), (1, .int y1)]) C d_M_told_26 (k := 3) rfl rfl (Nat.le_of_ble_eq_true rfl) rfl ?_
      refine j_goto (pc := 29) (tgt := 9) C d_M_told_29 (by decide) ?_
      refine j_locs [2, 3, 1, 0] rfl ?_
      exact ih x9 (y3 + 1) μ hw
set_option maxHeartbeats 4000000 in
set_option maxRecDepth 100000 in
theorem c_M_told (l : Launch) (G : va_G) (cI cL : ClassId) (ad : Nat → Nat) (μ : SM) (p1 : Int32) (Q : Int32 → SM → Prop) (hw : wp_M_told μ p1 Q) : jm_i l G [(cI, .int), (cL, .long)] y_M_told b_M_told 4 .int rm_M_told [.ref (ad 0), .int p1] (wM cI cL ad μ) (wM cI cL ad) Q := by
  refine jm_open_i (by decide +kernel) (Nat.le_of_ble_eq_true rfl) ?_
  intro κ hl hG C E hi
  subst hl; subst hG
  unfold wp_M_told at hw
  refine j_aload_n (pc := 0) C d_M_told_0 rfl 0 rfl ?_
  refine j_iconst (v := 0) (pc := 1) C d_M_told_1 (by decide) ?_
  obtain ⟨μ1, e_μ1⟩ : ∃ z : SM, z = uM_thr μ 0 := ⟨_, rfl⟩
  have hw := hw μ1 e_μ1
  refine j_put (pc := 2) (ws' := wM cI cL ad μ1) C i_M t_M t_M_ok n_M 0 rfl rfl 0 (Nat.le_of_ble_eq_true rfl) k_110 rfl (ty := .int) (by decide +kernel) rfl rfl (Nat.le_of_ble_eq_true rfl) (by rw [e_μ1]; rfl) d_M_told_2 ?_
  refine j_iconst (v := 0) (pc := 5) C d_M_told_5 (by decide) ?_
  refine j_istore_n (pc := 6) (lv' := [(2, .int 0), (0, .ref (ad 0)), (1, .int p1)]) C d_M_told_6 rfl (Nat.le_of_ble_eq_true rfl) rfl ?_
  refine j_iconst (v := 0) (pc := 7) C d_M_told_7 (by decide) ?_
  refine j_istore_n (pc := 8) (lv' := [(3, .int 0), (2, .int 0), (0, .ref (ad 0)), (1, .int p1)]) C d_M_told_8 rfl (Nat.le_of_ble_eq_true rfl) rfl ?_
  obtain ⟨n10, hw⟩ := hw
  refine j_locs [2, 3, 1, 0] rfl ?_
  exact lp_M_told_9 C E p1 n10 0 0 μ1 hw
set_option maxHeartbeats 4000000 in
set_option maxRecDepth 100000 in
theorem lp_M_clear_12 {κ : jk_K} {cI cL : ClassId} {ad : Nat → Nat} {Q : SM → Prop} (C : jk_C κ b_M_clear R_M rm_M_clear 2 [(cI, .int), (cL, .long)]) (E : jk_E κ none (va_Qv Q (jk_B (jk_G κ) [(cI, .int), (cL, .long)] (jk_A κ) (wM cI cL ad)) (jk_A κ)) rm_M_clear.cells rm_M_clear.slots)  : ∀ (n : Nat) (y1 : Int32) (μ : SM), wl_M_clear_12 Q n y1 μ → jk_J κ (wM cI cL ad μ) 12 [(0, .ref (ad 0)), (1, .int y1)] [] 0 0 := by
  intro n
  induction n with
  | zero => intro y1 μ hw; exact hw.elim
  | succ n ih =>
    intro y1 μ hw
    rw [wl_M_clear_12] at hw
    refine j_iload_n (pc := 12) C d_M_clear_12 rfl 1 rfl ?_
    refine j_bipush (v := 16) (pc := 13) C d_M_clear_13 (by decide) ?_
    refine j_icmp_ge (pc := 15) (tgt := 38) C d_M_clear_15 (by decide) (fun c3 => ?_) (fun c3 => ?_)
    · have hw := hw.1 c3
      refine j_aload_n (pc := 38) C d_M_clear_38 rfl 0 rfl ?_
      refine j_callVv0 (pc := 39) (st := []) (As := []) (wf := wM cI cL ad) C (c_M_spoil (jk_l κ) (jk_G κ) cI cL ad μ _ hw) g_M_69 hdV_M_spoil ⟨(Nat.le_of_ble_eq_true rfl), (Nat.le_of_ble_eq_true rfl)⟩ rfl (q0 := 0) rfl rfl rfl rfl (Nat.le_of_ble_eq_true rfl) d_M_clear_39 ⟨(Nat.le_of_ble_eq_true rfl), (Nat.le_of_ble_eq_true rfl)⟩ (fun μ4 hw => ?_)
      exact j_vret (pc := 42) C E hw (Nat.le_of_ble_eq_true rfl) (Nat.le_of_ble_eq_true rfl) d_M_clear_42
    · have hw := hw.2 c3
      refine j_aload_n (pc := 18) C d_M_clear_18 rfl 0 rfl ?_
      refine j_get (pc := 19) C i_M 0 rfl rfl 8 (Nat.le_of_ble_eq_true rfl) k_146 rfl d_M_clear_19 ?_
      refine j_iload_n (pc := 22) C d_M_clear_22 rfl 1 rfl ?_
      refine j_iconst (v := 0) (pc := 23) C d_M_clear_23 (by decide) ?_
      obtain ⟨hi5, hw⟩ := hw
      obtain ⟨μ6, e_μ6⟩ : ∃ z : SM, z = uM_sizes μ (upd (sM_sizes μ) (Int32.toNatClampNeg y1) 0) := ⟨_, rfl⟩
      have hw := hw μ6 e_μ6
      refine j_iast (pc := 24) (ws' := wM cI cL ad μ6) C 6 0 rfl rfl hi5 (by rw [e_μ6]; rfl) d_M_clear_24 ?_
      refine j_aload_n (pc := 25) C d_M_clear_25 rfl 0 rfl ?_
      refine j_get (pc := 26) C i_M 0 rfl rfl 9 (Nat.le_of_ble_eq_true rfl) k_147 rfl d_M_clear_26 ?_
      refine j_iload_n (pc := 29) C d_M_clear_29 rfl 1 rfl ?_
      refine j_iconst (v := 0) (pc := 30) C d_M_clear_30 (by decide) ?_
      obtain ⟨hi7, hw⟩ := hw
      obtain ⟨μ8, e_μ8⟩ : ∃ z : SM, z = uM_heads μ6 (upd (sM_heads μ6) (Int32.toNatClampNeg y1) 0) := ⟨_, rfl⟩
      have hw := hw μ8 e_μ8
      refine j_iast (pc := 31) (ws' := wM cI cL ad μ8) C 7 0 rfl rfl hi7 (by rw [e_μ8]; rfl) d_M_clear_31 ?_
      refine j_iinc (pc := 32) (lv' := [(1, .int (y1 + 1)), (0, .ref (ad 0))]) C d_M_clear_32 (k := 1) rfl rfl (Nat.le_of_ble_eq_true rfl) rfl ?_
      refine j_goto (pc := 35) (tgt := 12) C d_M_clear_35 (by decide) ?_
      refine j_locs [1, 0] rfl ?_
      exact ih (y1 + 1) μ8 hw
set_option maxHeartbeats 4000000 in
set_option maxRecDepth 100000 in
theorem c_M_clear (l : Launch) (G : va_G) (cI cL : ClassId) (ad : Nat → Nat) (μ : SM) (Q : SM → Prop) (hw : wp_M_clear μ Q) : jm_v l G [(cI, .int), (cL, .long)] y_M_clear b_M_clear 2 rm_M_clear [.ref (ad 0)] (wM cI cL ad μ) (wM cI cL ad) Q := by
  refine jm_open_v (by decide +kernel) (Nat.le_of_ble_eq_true rfl) ?_
  intro κ hl hG C E hi
  subst hl; subst hG
  unfold wp_M_clear at hw
  refine j_aload_n (pc := 0) C d_M_clear_0 rfl 0 rfl ?_
  refine j_iconst (v := 0) (pc := 1) C d_M_clear_1 (by decide) ?_
  obtain ⟨μ1, e_μ1⟩ : ∃ z : SM, z = uM_thr μ 0 := ⟨_, rfl⟩
  have hw := hw μ1 e_μ1
  refine j_put (pc := 2) (ws' := wM cI cL ad μ1) C i_M t_M t_M_ok n_M 0 rfl rfl 0 (Nat.le_of_ble_eq_true rfl) k_110 rfl (ty := .int) (by decide +kernel) rfl rfl (Nat.le_of_ble_eq_true rfl) (by rw [e_μ1]; rfl) d_M_clear_2 ?_
  refine j_aload_n (pc := 5) C d_M_clear_5 rfl 0 rfl ?_
  refine j_iconst (v := 0) (pc := 6) C d_M_clear_6 (by decide) ?_
  obtain ⟨μ2, e_μ2⟩ : ∃ z : SM, z = uM_blocks μ1 0 := ⟨_, rfl⟩
  have hw := hw μ2 e_μ2
  refine j_put (pc := 7) (ws' := wM cI cL ad μ2) C i_M t_M t_M_ok n_M 0 rfl rfl 2 (Nat.le_of_ble_eq_true rfl) k_111 rfl (ty := .int) (by decide +kernel) rfl rfl (Nat.le_of_ble_eq_true rfl) (by rw [e_μ2]; rfl) d_M_clear_7 ?_
  refine j_iconst (v := 0) (pc := 10) C d_M_clear_10 (by decide) ?_
  refine j_istore_n (pc := 11) (lv' := [(1, .int 0), (0, .ref (ad 0))]) C d_M_clear_11 rfl (Nat.le_of_ble_eq_true rfl) rfl ?_
  obtain ⟨n9, hw⟩ := hw
  refine j_locs [1, 0] rfl ?_
  exact lp_M_clear_12 C E  n9 0 μ2 hw
set_option maxHeartbeats 4000000 in
set_option maxRecDepth 100000 in
theorem c_M_init (l : Launch) (G : va_G) (cI cL : ClassId) (h0 : Nat) (p1 : Int32) (Q : SM → Prop) (hw : wp_M_init p1 Q) : jm_v l G [(cI, .int), (cL, .long)] y_M_init b_M_init 2 rm_M_init [.ref h0, .int p1] [(h0, .inr (1, [.int 0, .int 0, .int 0, .null, .null, .null, .null, .null, .null, .null, .int 0, .null, .null, .int 0, .null, .int 0, .null]))] (fun u : (Nat → Nat) × SM => wM cI cL u.1 u.2) (fun u => u.1 0 = h0 ∧ Q u.2) := by
  refine jm_open_v (by decide +kernel) (Nat.le_of_ble_eq_true rfl) ?_
  intro κ hl hG C E hi
  subst hl; subst hG
  unfold wp_M_init at hw
  refine j_aload_n (pc := 0) C d_M_init_0 rfl 0 rfl ?_
  refine j_oinit (pc := 1) C k_204 k_193 k_194 (Nat.le_of_ble_eq_true rfl) (Nat.le_of_ble_eq_true rfl) d_M_init_1 ?_
  refine j_aload_n (pc := 4) C d_M_init_4 rfl 0 rfl ?_
  refine j_bipush (v := 40) (pc := 5) C d_M_init_5 (by decide) ?_
  refine j_newa (pc := 7) C (ty := .int) rfl k_195 0 rfl (fun h => h) (a0 := (40, .inl (fun _ => 0))) (fun _ => rfl) (by decide) rfl (by decide) (Nat.le_of_ble_eq_true rfl) (Nat.le_of_ble_eq_true rfl) d_M_init_7 (fun q7 => ?_)
  refine j_widen (k := 1) (n := 40) (Nat.le_of_ble_eq_true rfl) (Nat.le_of_ble_eq_true rfl) ?_
  refine j_ws (ws' := [(h0, .inr (1, [.int 0, .int 0, .int 0, .null, .null, .null, .null, .null, .null, .null, .int 0, .null, .null, .int 0, .null, .int 0, .null])), (q7, .inl (cI, 40, .inl (fun _ => 0)))]) rfl ?_
  refine j_putF (pc := 9) (ws' := [(h0, .inr (1, [.int 0, .int 0, .int 0, .ref q7, .null, .null, .null, .null, .null, .null, .int 0, .null, .null, .int 0, .null, .int 0, .null])), (q7, .inl (cI, 40, .inl (fun _ => 0)))]) C i_M t_M t_M_ok n_M 0 rfl rfl 3 (Nat.le_of_ble_eq_true rfl) k_117 rfl (hi rfl) rfl (ty := (.array .int)) (by decide +kernel) rfl rfl (Nat.le_of_ble_eq_true rfl) rfl d_M_init_9 ?_
  refine j_aload_n (pc := 12) C d_M_init_12 rfl 0 rfl ?_
  refine j_bipush (v := 40) (pc := 13) C d_M_init_13 (by decide) ?_
  refine j_newa (pc := 15) C (ty := .int) rfl k_195 0 rfl (fun h => h) (a0 := (40, .inl (fun _ => 0))) (fun _ => rfl) (by decide) rfl (by decide) (Nat.le_of_ble_eq_true rfl) (Nat.le_of_ble_eq_true rfl) d_M_init_15 (fun q15 => ?_)
  refine j_widen (k := 2) (n := 80) (Nat.le_of_ble_eq_true rfl) (Nat.le_of_ble_eq_true rfl) ?_
  refine j_ws (ws' := [(h0, .inr (1, [.int 0, .int 0, .int 0, .ref q7, .null, .null, .null, .null, .null, .null, .int 0, .null, .null, .int 0, .null, .int 0, .null])), (q7, .inl (cI, 40, .inl (fun _ => 0))), (q15, .inl (cI, 40, .inl (fun _ => 0)))]) rfl ?_
  refine j_putF (pc := 17) (ws' := [(h0, .inr (1, [.int 0, .int 0, .int 0, .ref q7, .ref q15, .null, .null, .null, .null, .null, .int 0, .null, .null, .int 0, .null, .int 0, .null])), (q7, .inl (cI, 40, .inl (fun _ => 0))), (q15, .inl (cI, 40, .inl (fun _ => 0)))]) C i_M t_M t_M_ok n_M 0 rfl rfl 4 (Nat.le_of_ble_eq_true rfl) k_125 rfl (hi rfl) rfl (ty := (.array .int)) (by decide +kernel) rfl rfl (Nat.le_of_ble_eq_true rfl) rfl d_M_init_17 ?_
  refine j_aload_n (pc := 20) C d_M_init_20 rfl 0 rfl ?_
  refine j_bipush (v := 40) (pc := 21) C d_M_init_21 (by decide) ?_
  refine j_newa (pc := 23) C (ty := .int) rfl k_195 0 rfl (fun h => h) (a0 := (40, .inl (fun _ => 0))) (fun _ => rfl) (by decide) rfl (by decide) (Nat.le_of_ble_eq_true rfl) (Nat.le_of_ble_eq_true rfl) d_M_init_23 (fun q23 => ?_)
  refine j_widen (k := 3) (n := 120) (Nat.le_of_ble_eq_true rfl) (Nat.le_of_ble_eq_true rfl) ?_
  refine j_ws (ws' := [(h0, .inr (1, [.int 0, .int 0, .int 0, .ref q7, .ref q15, .null, .null, .null, .null, .null, .int 0, .null, .null, .int 0, .null, .int 0, .null])), (q7, .inl (cI, 40, .inl (fun _ => 0))), (q15, .inl (cI, 40, .inl (fun _ => 0))), (q23, .inl (cI, 40, .inl (fun _ => 0)))]) rfl ?_
  refine j_putF (pc := 25) (ws' := [(h0, .inr (1, [.int 0, .int 0, .int 0, .ref q7, .ref q15, .ref q23, .null, .null, .null, .null, .int 0, .null, .null, .int 0, .null, .int 0, .null])), (q7, .inl (cI, 40, .inl (fun _ => 0))), (q15, .inl (cI, 40, .inl (fun _ => 0))), (q23, .inl (cI, 40, .inl (fun _ => 0)))]) C i_M t_M t_M_ok n_M 0 rfl rfl 5 (Nat.le_of_ble_eq_true rfl) k_126 rfl (hi rfl) rfl (ty := (.array .int)) (by decide +kernel) rfl rfl (Nat.le_of_ble_eq_true rfl) rfl d_M_init_25 ?_
  refine j_aload_n (pc := 28) C d_M_init_28 rfl 0 rfl ?_
  refine j_sipush (v := 960) (pc := 29) C d_M_init_29 (by decide) ?_
  refine j_newa (pc := 32) C (ty := .int) rfl k_195 0 rfl (fun h => h) (a0 := (960, .inl (fun _ => 0))) (fun _ => rfl) (by decide) rfl (by decide) (Nat.le_of_ble_eq_true rfl) (Nat.le_of_ble_eq_true rfl) d_M_init_32 (fun q32 => ?_)
  refine j_widen (k := 4) (n := 1080) (Nat.le_of_ble_eq_true rfl) (Nat.le_of_ble_eq_true rfl) ?_
  refine j_ws (ws' := [(h0, .inr (1, [.int 0, .int 0, .int 0, .ref q7, .ref q15, .ref q23, .null, .null, .null, .null, .int 0, .null, .null, .int 0, .null, .int 0, .null])), (q7, .inl (cI, 40, .inl (fun _ => 0))), (q15, .inl (cI, 40, .inl (fun _ => 0))), (q23, .inl (cI, 40, .inl (fun _ => 0))), (q32, .inl (cI, 960, .inl (fun _ => 0)))]) rfl ?_
  refine j_putF (pc := 34) (ws' := [(h0, .inr (1, [.int 0, .int 0, .int 0, .ref q7, .ref q15, .ref q23, .ref q32, .null, .null, .null, .int 0, .null, .null, .int 0, .null, .int 0, .null])), (q7, .inl (cI, 40, .inl (fun _ => 0))), (q15, .inl (cI, 40, .inl (fun _ => 0))), (q23, .inl (cI, 40, .inl (fun _ => 0))), (q32, .inl (cI, 960, .inl (fun _ => 0)))]) C i_M t_M t_M_ok n_M 0 rfl rfl 6 (Nat.le_of_ble_eq_true rfl) k_135 rfl (hi rfl) rfl (ty := (.array .int)) (by decide +kernel) rfl rfl (Nat.le_of_ble_eq_true rfl) rfl d_M_init_34 ?_
  refine j_aload_n (pc := 37) C d_M_init_37 rfl 0 rfl ?_
  refine j_sipush (v := 960) (pc := 38) C d_M_init_38 (by decide) ?_
  refine j_newa (pc := 41) C (ty := .long) rfl k_196 1 rfl (fun h => h) (a0 := (960, .inr (.inl (fun _ => 0)))) (fun _ => rfl) (by decide) rfl (by decide) (Nat.le_of_ble_eq_true rfl) (Nat.le_of_ble_eq_true rfl) d_M_init_41 (fun q41 => ?_)
  refine j_widen (k := 5) (n := 2040) (Nat.le_of_ble_eq_true rfl) (Nat.le_of_ble_eq_true rfl) ?_
  refine j_ws (ws' := [(h0, .inr (1, [.int 0, .int 0, .int 0, .ref q7, .ref q15, .ref q23, .ref q32, .null, .null, .null, .int 0, .null, .null, .int 0, .null, .int 0, .null])), (q7, .inl (cI, 40, .inl (fun _ => 0))), (q15, .inl (cI, 40, .inl (fun _ => 0))), (q23, .inl (cI, 40, .inl (fun _ => 0))), (q32, .inl (cI, 960, .inl (fun _ => 0))), (q41, .inl (cL, 960, .inr (.inl (fun _ => 0))))]) rfl ?_
  refine j_putF (pc := 43) (ws' := [(h0, .inr (1, [.int 0, .int 0, .int 0, .ref q7, .ref q15, .ref q23, .ref q32, .ref q41, .null, .null, .int 0, .null, .null, .int 0, .null, .int 0, .null])), (q7, .inl (cI, 40, .inl (fun _ => 0))), (q15, .inl (cI, 40, .inl (fun _ => 0))), (q23, .inl (cI, 40, .inl (fun _ => 0))), (q32, .inl (cI, 960, .inl (fun _ => 0))), (q41, .inl (cL, 960, .inr (.inl (fun _ => 0))))]) C i_M t_M t_M_ok n_M 0 rfl rfl 7 (Nat.le_of_ble_eq_true rfl) k_136 rfl (hi rfl) rfl (ty := (.array .long)) (by decide +kernel) rfl rfl (Nat.le_of_ble_eq_true rfl) rfl d_M_init_43 ?_
  refine j_aload_n (pc := 46) C d_M_init_46 rfl 0 rfl ?_
  refine j_bipush (v := 16) (pc := 47) C d_M_init_47 (by decide) ?_
  refine j_newa (pc := 49) C (ty := .int) rfl k_195 0 rfl (fun h => h) (a0 := (16, .inl (fun _ => 0))) (fun _ => rfl) (by decide) rfl (by decide) (Nat.le_of_ble_eq_true rfl) (Nat.le_of_ble_eq_true rfl) d_M_init_49 (fun q49 => ?_)
  refine j_widen (k := 6) (n := 2056) (Nat.le_of_ble_eq_true rfl) (Nat.le_of_ble_eq_true rfl) ?_
  refine j_ws (ws' := [(h0, .inr (1, [.int 0, .int 0, .int 0, .ref q7, .ref q15, .ref q23, .ref q32, .ref q41, .null, .null, .int 0, .null, .null, .int 0, .null, .int 0, .null])), (q7, .inl (cI, 40, .inl (fun _ => 0))), (q15, .inl (cI, 40, .inl (fun _ => 0))), (q23, .inl (cI, 40, .inl (fun _ => 0))), (q32, .inl (cI, 960, .inl (fun _ => 0))), (q41, .inl (cL, 960, .inr (.inl (fun _ => 0)))), (q49, .inl (cI, 16, .inl (fun _ => 0)))]) rfl ?_
  refine j_putF (pc := 51) (ws' := [(h0, .inr (1, [.int 0, .int 0, .int 0, .ref q7, .ref q15, .ref q23, .ref q32, .ref q41, .ref q49, .null, .int 0, .null, .null, .int 0, .null, .int 0, .null])), (q7, .inl (cI, 40, .inl (fun _ => 0))), (q15, .inl (cI, 40, .inl (fun _ => 0))), (q23, .inl (cI, 40, .inl (fun _ => 0))), (q32, .inl (cI, 960, .inl (fun _ => 0))), (q41, .inl (cL, 960, .inr (.inl (fun _ => 0)))), (q49, .inl (cI, 16, .inl (fun _ => 0)))]) C i_M t_M t_M_ok n_M 0 rfl rfl 8 (Nat.le_of_ble_eq_true rfl) k_146 rfl (hi rfl) rfl (ty := (.array .int)) (by decide +kernel) rfl rfl (Nat.le_of_ble_eq_true rfl) rfl d_M_init_51 ?_
  refine j_aload_n (pc := 54) C d_M_init_54 rfl 0 rfl ?_
  refine j_bipush (v := 16) (pc := 55) C d_M_init_55 (by decide) ?_
  refine j_newa (pc := 57) C (ty := .int) rfl k_195 0 rfl (fun h => h) (a0 := (16, .inl (fun _ => 0))) (fun _ => rfl) (by decide) rfl (by decide) (Nat.le_of_ble_eq_true rfl) (Nat.le_of_ble_eq_true rfl) d_M_init_57 (fun q57 => ?_)
  refine j_widen (k := 7) (n := 2072) (Nat.le_of_ble_eq_true rfl) (Nat.le_of_ble_eq_true rfl) ?_
  refine j_ws (ws' := [(h0, .inr (1, [.int 0, .int 0, .int 0, .ref q7, .ref q15, .ref q23, .ref q32, .ref q41, .ref q49, .null, .int 0, .null, .null, .int 0, .null, .int 0, .null])), (q7, .inl (cI, 40, .inl (fun _ => 0))), (q15, .inl (cI, 40, .inl (fun _ => 0))), (q23, .inl (cI, 40, .inl (fun _ => 0))), (q32, .inl (cI, 960, .inl (fun _ => 0))), (q41, .inl (cL, 960, .inr (.inl (fun _ => 0)))), (q49, .inl (cI, 16, .inl (fun _ => 0))), (q57, .inl (cI, 16, .inl (fun _ => 0)))]) rfl ?_
  refine j_putF (pc := 59) (ws' := [(h0, .inr (1, [.int 0, .int 0, .int 0, .ref q7, .ref q15, .ref q23, .ref q32, .ref q41, .ref q49, .ref q57, .int 0, .null, .null, .int 0, .null, .int 0, .null])), (q7, .inl (cI, 40, .inl (fun _ => 0))), (q15, .inl (cI, 40, .inl (fun _ => 0))), (q23, .inl (cI, 40, .inl (fun _ => 0))), (q32, .inl (cI, 960, .inl (fun _ => 0))), (q41, .inl (cL, 960, .inr (.inl (fun _ => 0)))), (q49, .inl (cI, 16, .inl (fun _ => 0))), (q57, .inl (cI, 16, .inl (fun _ => 0)))]) C i_M t_M t_M_ok n_M 0 rfl rfl 9 (Nat.le_of_ble_eq_true rfl) k_147 rfl (hi rfl) rfl (ty := (.array .int)) (by decide +kernel) rfl rfl (Nat.le_of_ble_eq_true rfl) rfl d_M_init_59 ?_
  refine j_aload_n (pc := 62) C d_M_init_62 rfl 0 rfl ?_
  refine j_sipush (v := 960) (pc := 63) C d_M_init_63 (by decide) ?_
  refine j_newa (pc := 66) C (ty := .int) rfl k_195 0 rfl (fun h => h) (a0 := (960, .inl (fun _ => 0))) (fun _ => rfl) (by decide) rfl (by decide) (Nat.le_of_ble_eq_true rfl) (Nat.le_of_ble_eq_true rfl) d_M_init_66 (fun q66 => ?_)
  refine j_widen (k := 8) (n := 3032) (Nat.le_of_ble_eq_true rfl) (Nat.le_of_ble_eq_true rfl) ?_
  refine j_ws (ws' := [(h0, .inr (1, [.int 0, .int 0, .int 0, .ref q7, .ref q15, .ref q23, .ref q32, .ref q41, .ref q49, .ref q57, .int 0, .null, .null, .int 0, .null, .int 0, .null])), (q7, .inl (cI, 40, .inl (fun _ => 0))), (q15, .inl (cI, 40, .inl (fun _ => 0))), (q23, .inl (cI, 40, .inl (fun _ => 0))), (q32, .inl (cI, 960, .inl (fun _ => 0))), (q41, .inl (cL, 960, .inr (.inl (fun _ => 0)))), (q49, .inl (cI, 16, .inl (fun _ => 0))), (q57, .inl (cI, 16, .inl (fun _ => 0))), (q66, .inl (cI, 960, .inl (fun _ => 0)))]) rfl ?_
  refine j_putF (pc := 68) (ws' := [(h0, .inr (1, [.int 0, .int 0, .int 0, .ref q7, .ref q15, .ref q23, .ref q32, .ref q41, .ref q49, .ref q57, .int 0, .ref q66, .null, .int 0, .null, .int 0, .null])), (q7, .inl (cI, 40, .inl (fun _ => 0))), (q15, .inl (cI, 40, .inl (fun _ => 0))), (q23, .inl (cI, 40, .inl (fun _ => 0))), (q32, .inl (cI, 960, .inl (fun _ => 0))), (q41, .inl (cL, 960, .inr (.inl (fun _ => 0)))), (q49, .inl (cI, 16, .inl (fun _ => 0))), (q57, .inl (cI, 16, .inl (fun _ => 0))), (q66, .inl (cI, 960, .inl (fun _ => 0)))]) C i_M t_M t_M_ok n_M 0 rfl rfl 11 (Nat.le_of_ble_eq_true rfl) k_158 rfl (hi rfl) rfl (ty := (.array .int)) (by decide +kernel) rfl rfl (Nat.le_of_ble_eq_true rfl) rfl d_M_init_68 ?_
  refine j_aload_n (pc := 71) C d_M_init_71 rfl 0 rfl ?_
  refine j_sipush (v := 960) (pc := 72) C d_M_init_72 (by decide) ?_
  refine j_newa (pc := 75) C (ty := .long) rfl k_196 1 rfl (fun h => h) (a0 := (960, .inr (.inl (fun _ => 0)))) (fun _ => rfl) (by decide) rfl (by decide) (Nat.le_of_ble_eq_true rfl) (Nat.le_of_ble_eq_true rfl) d_M_init_75 (fun q75 => ?_)
  refine j_widen (k := 9) (n := 3992) (Nat.le_of_ble_eq_true rfl) (Nat.le_of_ble_eq_true rfl) ?_
  refine j_ws (ws' := [(h0, .inr (1, [.int 0, .int 0, .int 0, .ref q7, .ref q15, .ref q23, .ref q32, .ref q41, .ref q49, .ref q57, .int 0, .ref q66, .null, .int 0, .null, .int 0, .null])), (q7, .inl (cI, 40, .inl (fun _ => 0))), (q15, .inl (cI, 40, .inl (fun _ => 0))), (q23, .inl (cI, 40, .inl (fun _ => 0))), (q32, .inl (cI, 960, .inl (fun _ => 0))), (q41, .inl (cL, 960, .inr (.inl (fun _ => 0)))), (q49, .inl (cI, 16, .inl (fun _ => 0))), (q57, .inl (cI, 16, .inl (fun _ => 0))), (q66, .inl (cI, 960, .inl (fun _ => 0))), (q75, .inl (cL, 960, .inr (.inl (fun _ => 0))))]) rfl ?_
  refine j_putF (pc := 77) (ws' := [(h0, .inr (1, [.int 0, .int 0, .int 0, .ref q7, .ref q15, .ref q23, .ref q32, .ref q41, .ref q49, .ref q57, .int 0, .ref q66, .ref q75, .int 0, .null, .int 0, .null])), (q7, .inl (cI, 40, .inl (fun _ => 0))), (q15, .inl (cI, 40, .inl (fun _ => 0))), (q23, .inl (cI, 40, .inl (fun _ => 0))), (q32, .inl (cI, 960, .inl (fun _ => 0))), (q41, .inl (cL, 960, .inr (.inl (fun _ => 0)))), (q49, .inl (cI, 16, .inl (fun _ => 0))), (q57, .inl (cI, 16, .inl (fun _ => 0))), (q66, .inl (cI, 960, .inl (fun _ => 0))), (q75, .inl (cL, 960, .inr (.inl (fun _ => 0))))]) C i_M t_M t_M_ok n_M 0 rfl rfl 12 (Nat.le_of_ble_eq_true rfl) k_157 rfl (hi rfl) rfl (ty := (.array .long)) (by decide +kernel) rfl rfl (Nat.le_of_ble_eq_true rfl) rfl d_M_init_77 ?_
  refine j_aload_n (pc := 80) C d_M_init_80 rfl 0 rfl ?_
  refine j_sipush (v := 960) (pc := 81) C d_M_init_81 (by decide) ?_
  refine j_newa (pc := 84) C (ty := .int) rfl k_195 0 rfl (fun h => h) (a0 := (960, .inl (fun _ => 0))) (fun _ => rfl) (by decide) rfl (by decide) (Nat.le_of_ble_eq_true rfl) (Nat.le_of_ble_eq_true rfl) d_M_init_84 (fun q84 => ?_)
  refine j_widen (k := 10) (n := 4952) (Nat.le_of_ble_eq_true rfl) (Nat.le_of_ble_eq_true rfl) ?_
  refine j_ws (ws' := [(h0, .inr (1, [.int 0, .int 0, .int 0, .ref q7, .ref q15, .ref q23, .ref q32, .ref q41, .ref q49, .ref q57, .int 0, .ref q66, .ref q75, .int 0, .null, .int 0, .null])), (q7, .inl (cI, 40, .inl (fun _ => 0))), (q15, .inl (cI, 40, .inl (fun _ => 0))), (q23, .inl (cI, 40, .inl (fun _ => 0))), (q32, .inl (cI, 960, .inl (fun _ => 0))), (q41, .inl (cL, 960, .inr (.inl (fun _ => 0)))), (q49, .inl (cI, 16, .inl (fun _ => 0))), (q57, .inl (cI, 16, .inl (fun _ => 0))), (q66, .inl (cI, 960, .inl (fun _ => 0))), (q75, .inl (cL, 960, .inr (.inl (fun _ => 0)))), (q84, .inl (cI, 960, .inl (fun _ => 0)))]) rfl ?_
  refine j_putF (pc := 86) (ws' := [(h0, .inr (1, [.int 0, .int 0, .int 0, .ref q7, .ref q15, .ref q23, .ref q32, .ref q41, .ref q49, .ref q57, .int 0, .ref q66, .ref q75, .int 0, .ref q84, .int 0, .null])), (q7, .inl (cI, 40, .inl (fun _ => 0))), (q15, .inl (cI, 40, .inl (fun _ => 0))), (q23, .inl (cI, 40, .inl (fun _ => 0))), (q32, .inl (cI, 960, .inl (fun _ => 0))), (q41, .inl (cL, 960, .inr (.inl (fun _ => 0)))), (q49, .inl (cI, 16, .inl (fun _ => 0))), (q57, .inl (cI, 16, .inl (fun _ => 0))), (q66, .inl (cI, 960, .inl (fun _ => 0))), (q75, .inl (cL, 960, .inr (.inl (fun _ => 0)))), (q84, .inl (cI, 960, .inl (fun _ => 0)))]) C i_M t_M t_M_ok n_M 0 rfl rfl 14 (Nat.le_of_ble_eq_true rfl) k_164 rfl (hi rfl) rfl (ty := (.array .int)) (by decide +kernel) rfl rfl (Nat.le_of_ble_eq_true rfl) rfl d_M_init_86 ?_
  refine j_aload_n (pc := 89) C d_M_init_89 rfl 0 rfl ?_
  refine j_bipush (v := 17) (pc := 90) C d_M_init_90 (by decide) ?_
  refine j_newa (pc := 92) C (ty := .int) rfl k_195 0 rfl (fun h => h) (a0 := (17, .inl (fun _ => 0))) (fun _ => rfl) (by decide) rfl (by decide) (Nat.le_of_ble_eq_true rfl) (Nat.le_of_ble_eq_true rfl) d_M_init_92 (fun q92 => ?_)
  refine j_widen (k := 11) (n := 4969) (Nat.le_of_ble_eq_true rfl) (Nat.le_of_ble_eq_true rfl) ?_
  refine j_ws (ws' := [(h0, .inr (1, [.int 0, .int 0, .int 0, .ref q7, .ref q15, .ref q23, .ref q32, .ref q41, .ref q49, .ref q57, .int 0, .ref q66, .ref q75, .int 0, .ref q84, .int 0, .null])), (q7, .inl (cI, 40, .inl (fun _ => 0))), (q15, .inl (cI, 40, .inl (fun _ => 0))), (q23, .inl (cI, 40, .inl (fun _ => 0))), (q32, .inl (cI, 960, .inl (fun _ => 0))), (q41, .inl (cL, 960, .inr (.inl (fun _ => 0)))), (q49, .inl (cI, 16, .inl (fun _ => 0))), (q57, .inl (cI, 16, .inl (fun _ => 0))), (q66, .inl (cI, 960, .inl (fun _ => 0))), (q75, .inl (cL, 960, .inr (.inl (fun _ => 0)))), (q84, .inl (cI, 960, .inl (fun _ => 0))), (q92, .inl (cI, 17, .inl (fun _ => 0)))]) rfl ?_
  refine j_putF (pc := 94) (ws' := [(h0, .inr (1, [.int 0, .int 0, .int 0, .ref q7, .ref q15, .ref q23, .ref q32, .ref q41, .ref q49, .ref q57, .int 0, .ref q66, .ref q75, .int 0, .ref q84, .int 0, .ref q92])), (q7, .inl (cI, 40, .inl (fun _ => 0))), (q15, .inl (cI, 40, .inl (fun _ => 0))), (q23, .inl (cI, 40, .inl (fun _ => 0))), (q32, .inl (cI, 960, .inl (fun _ => 0))), (q41, .inl (cL, 960, .inr (.inl (fun _ => 0)))), (q49, .inl (cI, 16, .inl (fun _ => 0))), (q57, .inl (cI, 16, .inl (fun _ => 0))), (q66, .inl (cI, 960, .inl (fun _ => 0))), (q75, .inl (cL, 960, .inr (.inl (fun _ => 0)))), (q84, .inl (cI, 960, .inl (fun _ => 0))), (q92, .inl (cI, 17, .inl (fun _ => 0)))]) C i_M t_M t_M_ok n_M 0 rfl rfl 16 (Nat.le_of_ble_eq_true rfl) k_173 rfl (hi rfl) rfl (ty := (.array .int)) (by decide +kernel) rfl rfl (Nat.le_of_ble_eq_true rfl) rfl d_M_init_94 ?_
  refine j_aload_n (pc := 97) C d_M_init_97 rfl 0 rfl ?_
  refine j_iload_n (pc := 98) C d_M_init_98 rfl 1 rfl ?_
  refine j_iconst (v := 1) (pc := 99) C d_M_init_99 (by decide) ?_
  refine j_icmp_ge (pc := 100) (tgt := 107) C d_M_init_100 (by decide) (fun c1 => ?_) (fun c1 => ?_)
  · have hw := hw.1 c1
    refine j_iload_n (pc := 107) C d_M_init_107 rfl 1 rfl ?_
    refine j_bipush (v := 16) (pc := 108) C d_M_init_108 (by decide) ?_
    refine j_icmp_le (pc := 110) (tgt := 118) C d_M_init_110 (by decide) (fun c2 => ?_) (fun c2 => ?_)
    · have hw := hw.1 c2
      refine j_iload_n (pc := 118) C d_M_init_118 rfl 1 rfl ?_
      refine j_putF (pc := 119) (ws' := [(h0, .inr (1, [.int 0, .int p1, .int 0, .ref q7, .ref q15, .ref q23, .ref q32, .ref q41, .ref q49, .ref q57, .int 0, .ref q66, .ref q75, .int 0, .ref q84, .int 0, .ref q92])), (q7, .inl (cI, 40, .inl (fun _ => 0))), (q15, .inl (cI, 40, .inl (fun _ => 0))), (q23, .inl (cI, 40, .inl (fun _ => 0))), (q32, .inl (cI, 960, .inl (fun _ => 0))), (q41, .inl (cL, 960, .inr (.inl (fun _ => 0)))), (q49, .inl (cI, 16, .inl (fun _ => 0))), (q57, .inl (cI, 16, .inl (fun _ => 0))), (q66, .inl (cI, 960, .inl (fun _ => 0))), (q75, .inl (cL, 960, .inr (.inl (fun _ => 0)))), (q84, .inl (cI, 960, .inl (fun _ => 0))), (q92, .inl (cI, 17, .inl (fun _ => 0)))]) C i_M t_M t_M_ok n_M 0 rfl rfl 1 (Nat.le_of_ble_eq_true rfl) k_118 rfl (hi rfl) rfl (ty := .int) (by decide +kernel) rfl rfl (Nat.le_of_ble_eq_true rfl) rfl d_M_init_119 ?_
      obtain ⟨σ0, e_σ0⟩ : ∃ z : SM, z = (0, p1, 0, (fun _ => 0), (fun _ => 0), (fun _ => 0), (fun _ => 0), (fun _ => 0), (fun _ => 0), (fun _ => 0), 0, (fun _ => 0), (fun _ => 0), 0, (fun _ => 0), 0, (fun _ => 0)) := ⟨_, rfl⟩
      have hw := hw σ0 e_σ0
      refine j_perm (ws' := wM cI cL (fun k => match k with | 0 => h0 | 1 => q7 | 2 => q15 | 3 => q23 | 4 => q32 | 5 => q41 | 6 => q49 | 7 => q57 | 8 => q66 | 9 => q75 | 10 => q84 | 11 => q92 | _ => 0) σ0) [0, 1, 2, 3, 4, 5, 6, 7, 8, 9, 10, 11] (by decide) (by rw [e_σ0]; rfl) ?_
      exact j_vret (pc := 122) (wf := fun u : (Nat → Nat) × SM => wM cI cL u.1 u.2) (u := ((fun k => match k with | 0 => h0 | 1 => q7 | 2 => q15 | 3 => q23 | 4 => q32 | 5 => q41 | 6 => q49 | 7 => q57 | 8 => q66 | 9 => q75 | 10 => q84 | 11 => q92 | _ => 0), σ0)) C E ⟨rfl, hw⟩ (Nat.le_of_ble_eq_true rfl) (Nat.le_of_ble_eq_true rfl) d_M_init_122
    · have hw := hw.2 c2
      refine j_bipush (v := 16) (pc := 113) C d_M_init_113 (by decide) ?_
      refine j_goto (pc := 115) (tgt := 119) C d_M_init_115 (by decide) ?_
      refine j_putF (pc := 119) (ws' := [(h0, .inr (1, [.int 0, .int 16, .int 0, .ref q7, .ref q15, .ref q23, .ref q32, .ref q41, .ref q49, .ref q57, .int 0, .ref q66, .ref q75, .int 0, .ref q84, .int 0, .ref q92])), (q7, .inl (cI, 40, .inl (fun _ => 0))), (q15, .inl (cI, 40, .inl (fun _ => 0))), (q23, .inl (cI, 40, .inl (fun _ => 0))), (q32, .inl (cI, 960, .inl (fun _ => 0))), (q41, .inl (cL, 960, .inr (.inl (fun _ => 0)))), (q49, .inl (cI, 16, .inl (fun _ => 0))), (q57, .inl (cI, 16, .inl (fun _ => 0))), (q66, .inl (cI, 960, .inl (fun _ => 0))), (q75, .inl (cL, 960, .inr (.inl (fun _ => 0)))), (q84, .inl (cI, 960, .inl (fun _ => 0))), (q92, .inl (cI, 17, .inl (fun _ => 0)))]) C i_M t_M t_M_ok n_M 0 rfl rfl 1 (Nat.le_of_ble_eq_true rfl) k_118 rfl (hi rfl) rfl (ty := .int) (by decide +kernel) rfl rfl (Nat.le_of_ble_eq_true rfl) rfl d_M_init_119 ?_
      obtain ⟨σ0, e_σ0⟩ : ∃ z : SM, z = (0, 16, 0, (fun _ => 0), (fun _ => 0), (fun _ => 0), (fun _ => 0), (fun _ => 0), (fun _ => 0), (fun _ => 0), 0, (fun _ => 0), (fun _ => 0), 0, (fun _ => 0), 0, (fun _ => 0)) := ⟨_, rfl⟩
      have hw := hw σ0 e_σ0
      refine j_perm (ws' := wM cI cL (fun k => match k with | 0 => h0 | 1 => q7 | 2 => q15 | 3 => q23 | 4 => q32 | 5 => q41 | 6 => q49 | 7 => q57 | 8 => q66 | 9 => q75 | 10 => q84 | 11 => q92 | _ => 0) σ0) [0, 1, 2, 3, 4, 5, 6, 7, 8, 9, 10, 11] (by decide) (by rw [e_σ0]; rfl) ?_
      exact j_vret (pc := 122) (wf := fun u : (Nat → Nat) × SM => wM cI cL u.1 u.2) (u := ((fun k => match k with | 0 => h0 | 1 => q7 | 2 => q15 | 3 => q23 | 4 => q32 | 5 => q41 | 6 => q49 | 7 => q57 | 8 => q66 | 9 => q75 | 10 => q84 | 11 => q92 | _ => 0), σ0)) C E ⟨rfl, hw⟩ (Nat.le_of_ble_eq_true rfl) (Nat.le_of_ble_eq_true rfl) d_M_init_122
  · have hw := hw.2 c1
    refine j_iconst (v := 1) (pc := 103) C d_M_init_103 (by decide) ?_
    refine j_goto (pc := 104) (tgt := 119) C d_M_init_104 (by decide) ?_
    refine j_putF (pc := 119) (ws' := [(h0, .inr (1, [.int 0, .int 1, .int 0, .ref q7, .ref q15, .ref q23, .ref q32, .ref q41, .ref q49, .ref q57, .int 0, .ref q66, .ref q75, .int 0, .ref q84, .int 0, .ref q92])), (q7, .inl (cI, 40, .inl (fun _ => 0))), (q15, .inl (cI, 40, .inl (fun _ => 0))), (q23, .inl (cI, 40, .inl (fun _ => 0))), (q32, .inl (cI, 960, .inl (fun _ => 0))), (q41, .inl (cL, 960, .inr (.inl (fun _ => 0)))), (q49, .inl (cI, 16, .inl (fun _ => 0))), (q57, .inl (cI, 16, .inl (fun _ => 0))), (q66, .inl (cI, 960, .inl (fun _ => 0))), (q75, .inl (cL, 960, .inr (.inl (fun _ => 0)))), (q84, .inl (cI, 960, .inl (fun _ => 0))), (q92, .inl (cI, 17, .inl (fun _ => 0)))]) C i_M t_M t_M_ok n_M 0 rfl rfl 1 (Nat.le_of_ble_eq_true rfl) k_118 rfl (hi rfl) rfl (ty := .int) (by decide +kernel) rfl rfl (Nat.le_of_ble_eq_true rfl) rfl d_M_init_119 ?_
    obtain ⟨σ0, e_σ0⟩ : ∃ z : SM, z = (0, 1, 0, (fun _ => 0), (fun _ => 0), (fun _ => 0), (fun _ => 0), (fun _ => 0), (fun _ => 0), (fun _ => 0), 0, (fun _ => 0), (fun _ => 0), 0, (fun _ => 0), 0, (fun _ => 0)) := ⟨_, rfl⟩
    have hw := hw σ0 e_σ0
    refine j_perm (ws' := wM cI cL (fun k => match k with | 0 => h0 | 1 => q7 | 2 => q15 | 3 => q23 | 4 => q32 | 5 => q41 | 6 => q49 | 7 => q57 | 8 => q66 | 9 => q75 | 10 => q84 | 11 => q92 | _ => 0) σ0) [0, 1, 2, 3, 4, 5, 6, 7, 8, 9, 10, 11] (by decide) (by rw [e_σ0]; rfl) ?_
    exact j_vret (pc := 122) (wf := fun u : (Nat → Nat) × SM => wM cI cL u.1 u.2) (u := ((fun k => match k with | 0 => h0 | 1 => q7 | 2 => q15 | 3 => q23 | 4 => q32 | 5 => q41 | 6 => q49 | 7 => q57 | 8 => q66 | 9 => q75 | 10 => q84 | 11 => q92 | _ => 0), σ0)) C E ⟨rfl, hw⟩ (Nat.le_of_ble_eq_true rfl) (Nat.le_of_ble_eq_true rfl) d_M_init_122
