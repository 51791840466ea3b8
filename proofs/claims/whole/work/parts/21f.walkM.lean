set_option maxHeartbeats 4000000 in
set_option maxRecDepth 100000 in
theorem c_M_hull (l : Launch) (G : va_G) (cI cL : ClassId) (ad : Nat → Nat) (μ : SM) (p1 : Int32) (p2 : Int32) (Q : Int32 → SM → Prop) (hw : wp_M_hull μ p1 p2 Q) : jm_i l G [(cI, .int), (cL, .long)] y_M_hull b_M_hull 3 .boolean rm_M_hull [.ref (ad 0), .int p1, .int p2] (wM cI cL ad μ) (wM cI cL ad) Q := by
  refine jm_open_i (by decide +kernel) (Nat.le_of_ble_eq_true rfl) ?_
  intro κ hl hG C E hi
  subst hl; subst hG
  unfold wp_M_hull at hw
  refine j_aload_n (pc := 0) C d_M_hull_0 rfl 0 rfl ?_
  refine j_iconst (v := 0) (pc := 1) C d_M_hull_1 (by decide) ?_
  obtain ⟨μ1, e_μ1⟩ : ∃ z : SM, z = uM_thr μ 0 := ⟨_, rfl⟩
  have hw := hw μ1 e_μ1
  refine j_put (pc := 2) (ws' := wM cI cL ad μ1) C i_M t_M t_M_ok n_M 0 rfl rfl 0 (Nat.le_of_ble_eq_true rfl) k_110 rfl (ty := .int) (by decide +kernel) rfl rfl (Nat.le_of_ble_eq_true rfl) (by rw [e_μ1]; rfl) d_M_hull_2 ?_
  refine j_aload_n (pc := 5) C d_M_hull_5 rfl 0 rfl ?_
  refine j_aload_n (pc := 6) C d_M_hull_6 rfl 0 rfl ?_
  refine j_iload_n (pc := 7) C d_M_hull_7 rfl 1 rfl ?_
  refine j_iload_n (pc := 8) C d_M_hull_8 rfl 2 rfl ?_
  refine j_callVi0 (pc := 9) (st := [.ref (ad 0)]) (As := [.int p1, .int p2]) (wf := wM cI cL ad) C (c_M_isPass (jk_l κ) (jk_G κ) cI cL ad μ1 p1 p2 _ hw) g_M_114 hdV_M_isPass ⟨(Nat.le_of_ble_eq_true rfl), (Nat.le_of_ble_eq_true rfl)⟩ rfl (q0 := 0) rfl rfl rfl rfl (Nat.le_of_ble_eq_true rfl) d_M_hull_9 ⟨(Nat.le_of_ble_eq_true rfl), (Nat.le_of_ble_eq_true rfl)⟩ (fun r3 μ2 hw => ?_)
  refine j_if_ne (pc := 12) (tgt := 19) C d_M_hull_12 (by decide) (fun c4 => ?_) (fun c4 => ?_)
  · have hw := hw.1 c4
    refine j_iconst (v := 0) (pc := 19) C d_M_hull_19 (by decide) ?_
    refine j_iconst (v := 1) (pc := 20) C d_M_hull_20 (by decide) ?_
    refine j_callVi0 (pc := 21) (st := []) (As := [.int 0, .int 1]) (wf := wM cI cL ad) C (c_M_fails (jk_l κ) (jk_G κ) cI cL ad μ2 0 1 _ hw) g_M_65 hdV_M_fails ⟨(Nat.le_of_ble_eq_true rfl), (Nat.le_of_ble_eq_true rfl)⟩ rfl (q0 := 0) rfl rfl rfl rfl (Nat.le_of_ble_eq_true rfl) d_M_hull_21 ⟨(Nat.le_of_ble_eq_true rfl), (Nat.le_of_ble_eq_true rfl)⟩ (fun r6 μ5 hw => ?_)
    refine j_if_ne (pc := 24) (tgt := 40) C d_M_hull_24 (by decide) (fun c7 => ?_) (fun c7 => ?_)
    · have hw := hw.1 c7
      refine j_iconst (v := 0) (pc := 40) C d_M_hull_40 (by decide) ?_
      exact j_zret (pc := 41) C E hw rfl (Nat.le_of_ble_eq_true rfl) (Nat.le_of_ble_eq_true rfl) d_M_hull_41
    · have hw := hw.2 c7
      refine j_aload_n (pc := 27) C d_M_hull_27 rfl 0 rfl ?_
      refine j_iload_n (pc := 28) C d_M_hull_28 rfl 1 rfl ?_
      refine j_iload_n (pc := 29) C d_M_hull_29 rfl 2 rfl ?_
      refine j_callVi0 (pc := 30) (st := []) (As := [.int p1, .int p2]) (wf := wM cI cL ad) C (c_M_isHull (jk_l κ) (jk_G κ) cI cL ad μ5 p1 p2 _ hw) g_M_104 hdV_M_isHull ⟨(Nat.le_of_ble_eq_true rfl), (Nat.le_of_ble_eq_true rfl)⟩ rfl (q0 := 0) rfl rfl rfl rfl (Nat.le_of_ble_eq_true rfl) d_M_hull_30 ⟨(Nat.le_of_ble_eq_true rfl), (Nat.le_of_ble_eq_true rfl)⟩ (fun r9 μ8 hw => ?_)
      refine j_if_eq (pc := 33) (tgt := 40) C d_M_hull_33 (by decide) (fun c10 => ?_) (fun c10 => ?_)
      · have hw := hw.1 c10
        refine j_iconst (v := 0) (pc := 40) C d_M_hull_40 (by decide) ?_
        exact j_zret (pc := 41) C E hw rfl (Nat.le_of_ble_eq_true rfl) (Nat.le_of_ble_eq_true rfl) d_M_hull_41
      · have hw := hw.2 c10
        refine j_iconst (v := 1) (pc := 36) C d_M_hull_36 (by decide) ?_
        refine j_goto (pc := 37) (tgt := 41) C d_M_hull_37 (by decide) ?_
        exact j_zret (pc := 41) C E hw rfl (Nat.le_of_ble_eq_true rfl) (Nat.le_of_ble_eq_true rfl) d_M_hull_41
  · have hw := hw.2 c4
    refine j_iconst (v := 1) (pc := 15) C d_M_hull_15 (by decide) ?_
    refine j_goto (pc := 16) (tgt := 20) C d_M_hull_16 (by decide) ?_
    refine j_iconst (v := 1) (pc := 20) C d_M_hull_20 (by decide) ?_
    refine j_callVi0 (pc := 21) (st := []) (As := [.int 1, .int 1]) (wf := wM cI cL ad) C (c_M_fails (jk_l κ) (jk_G κ) cI cL ad μ2 1 1 _ hw) g_M_65 hdV_M_fails ⟨(Nat.le_of_ble_eq_true rfl), (Nat.le_of_ble_eq_true rfl)⟩ rfl (q0 := 0) rfl rfl rfl rfl (Nat.le_of_ble_eq_true rfl) d_M_hull_21 ⟨(Nat.le_of_ble_eq_true rfl), (Nat.le_of_ble_eq_true rfl)⟩ (fun r12 μ11 hw => ?_)
    refine j_if_ne (pc := 24) (tgt := 40) C d_M_hull_24 (by decide) (fun c13 => ?_) (fun c13 => ?_)
    · have hw := hw.1 c13
      refine j_iconst (v := 0) (pc := 40) C d_M_hull_40 (by decide) ?_
      exact j_zret (pc := 41) C E hw rfl (Nat.le_of_ble_eq_true rfl) (Nat.le_of_ble_eq_true rfl) d_M_hull_41
    · have hw := hw.2 c13
      refine j_aload_n (pc := 27) C d_M_hull_27 rfl 0 rfl ?_
      refine j_iload_n (pc := 28) C d_M_hull_28 rfl 1 rfl ?_
      refine j_iload_n (pc := 29) C d_M_hull_29 rfl 2 rfl ?_
      refine j_callVi0 (pc := 30) (st := []) (As := [.int p1, .int p2]) (wf := wM cI cL ad) C (c_M_isHull (jk_l κ) (jk_G κ) cI cL ad μ11 p1 p2 _ hw) g_M_104 hdV_M_isHull ⟨(Nat.le_of_ble_eq_true rfl), (Nat.le_of_ble_eq_true rfl)⟩ rfl (q0 := 0) rfl rfl rfl rfl (Nat.le_of_ble_eq_true rfl) d_M_hull_30 ⟨(Nat.le_of_ble_eq_true rfl), (Nat.le_of_ble_eq_true rfl)⟩ (fun r15 μ14 hw => ?_)
      refine j_if_eq (pc := 33) (tgt := 40) C d_M_hull_33 (by decide) (fun c16 => ?_) (fun c16 => ?_)
      · have hw := hw.1 c16
        refine j_iconst (v := 0) (pc := 40) C d_M_hull_40 (by decide) ?_
        exact j_zret (pc := 41) C E hw rfl (Nat.le_of_ble_eq_true rfl) (Nat.le_of_ble_eq_true rfl) d_M_hull_41
      · have hw := hw.2 c16
        refine j_iconst (v := 1) (pc := 36) C d_M_hull_36 (by decide) ?_
        refine j_goto (pc := 37) (tgt := 41) C d_M_hull_37 (by decide) ?_
        exact j_zret (pc := 41) C E hw rfl (Nat.le_of_ble_eq_true rfl) (Nat.le_of_ble_eq_true rfl) d_M_hull_41
set_option maxHeartbeats 4000000 in
set_option maxRecDepth 100000 in
theorem jn_M_slope_20 {κ : jk_K} {cI cL : ClassId} {ad : Nat → Nat} {Q : Int64 → SM → Prop} (C : jk_C κ b_M_slope R_M rm_M_slope 4 [(cI, .int), (cL, .long)]) (E : jk_E κ (some .long) (va_Ql Q (jk_B (jk_G κ) [(cI, .int), (cL, .long)] (jk_A κ) (wM cI cL ad)) (jk_A κ)) rm_M_slope.cells rm_M_slope.slots) (y1 : Int32) (y2 : Int32) (y3 : Int32) (s0 : Int32) (μ : SM) (hw : wj_M_slope_20 Q y1 y2 y3 s0 μ) : jk_J κ (wM cI cL ad μ) 20 [(0, .ref (ad 0)), (1, .int y1), (2, .int y2), (3, .int y3)] [.int s0, .ref (ad 0)] 0 0 := by
  unfold wj_M_slope_20 at hw
  refine j_iconst (v := 1) (pc := 20) C d_M_slope_20 (by decide) ?_
  refine j_callVi0 (pc := 21) (st := []) (As := [.int s0, .int 1]) (wf := wM cI cL ad) C (c_M_fails (jk_l κ) (jk_G κ) cI cL ad μ s0 1 _ hw) g_M_65 hdV_M_fails ⟨(Nat.le_of_ble_eq_true rfl), (Nat.le_of_ble_eq_true rfl)⟩ rfl (q0 := 0) rfl rfl rfl rfl (Nat.le_of_ble_eq_true rfl) d_M_slope_21 ⟨(Nat.le_of_ble_eq_true rfl), (Nat.le_of_ble_eq_true rfl)⟩ (fun r6 μ5 hw => ?_)
  refine j_if_eq (pc := 24) (tgt := 29) C d_M_slope_24 (by decide) (fun c7 => ?_) (fun c7 => ?_)
  · have hw := hw.1 c7
    refine j_aload_n (pc := 29) C d_M_slope_29 rfl 0 rfl ?_
    refine j_callVv0 (pc := 30) (st := []) (As := []) (wf := wM cI cL ad) C (c_M_layRow (jk_l κ) (jk_G κ) cI cL ad μ5 _ hw) g_M_111 hdV_M_layRow ⟨(Nat.le_of_ble_eq_true rfl), (Nat.le_of_ble_eq_true rfl)⟩ rfl (q0 := 0) rfl rfl rfl rfl (Nat.le_of_ble_eq_true rfl) d_M_slope_30 ⟨(Nat.le_of_ble_eq_true rfl), (Nat.le_of_ble_eq_true rfl)⟩ (fun μ8 hw => ?_)
    refine j_iload_n (pc := 33) C d_M_slope_33 rfl 3 rfl ?_
    refine j_if_eq (pc := 34) (tgt := 51) C d_M_slope_34 (by decide) (fun c9 => ?_) (fun c9 => ?_)
    · have hw := hw.1 c9
      refine j_aload_n (pc := 51) C d_M_slope_51 rfl 0 rfl ?_
      refine j_get (pc := 52) C i_M 0 rfl rfl 11 (Nat.le_of_ble_eq_true rfl) k_158 rfl d_M_slope_52 ?_
      refine j_bipush (v := 24) (pc := 55) C d_M_slope_55 (by decide) ?_
      refine j_iload_n (pc := 57) C d_M_slope_57 rfl 1 rfl ?_
      refine j_imul (pc := 58) C d_M_slope_58 ?_
      refine j_iload_n (pc := 59) C d_M_slope_59 rfl 2 rfl ?_
      refine j_iadd (pc := 60) C d_M_slope_60 ?_
      obtain ⟨hi10, hw⟩ := hw
      refine j_iald (pc := 61) C 8 0 rfl rfl hi10 d_M_slope_61 ?_
      refine j_i2l (pc := 62) C d_M_slope_62 ?_
      exact j_lret (pc := 63) C E hw (Nat.le_of_ble_eq_true rfl) (Nat.le_of_ble_eq_true rfl) d_M_slope_63
    · have hw := hw.2 c9
      refine j_aload_n (pc := 37) C d_M_slope_37 rfl 0 rfl ?_
      refine j_get (pc := 38) C i_M 0 rfl rfl 12 (Nat.le_of_ble_eq_true rfl) k_157 rfl d_M_slope_38 ?_
      refine j_bipush (v := 24) (pc := 41) C d_M_slope_41 (by decide) ?_
      refine j_iload_n (pc := 43) C d_M_slope_43 rfl 1 rfl ?_
      refine j_imul (pc := 44) C d_M_slope_44 ?_
      refine j_iload_n (pc := 45) C d_M_slope_45 rfl 2 rfl ?_
      refine j_iadd (pc := 46) C d_M_slope_46 ?_
      obtain ⟨hi11, hw⟩ := hw
      refine j_lald (pc := 47) C 9 1 rfl rfl hi11 d_M_slope_47 ?_
      refine j_goto (pc := 48) (tgt := 63) C d_M_slope_48 (by decide) ?_
      exact j_lret (pc := 63) C E hw (Nat.le_of_ble_eq_true rfl) (Nat.le_of_ble_eq_true rfl) d_M_slope_63
  · have hw := hw.2 c7
    refine j_lconst (v := 0) (pc := 27) C d_M_slope_27 (by decide) ?_
    exact j_lret (pc := 28) C E hw (Nat.le_of_ble_eq_true rfl) (Nat.le_of_ble_eq_true rfl) d_M_slope_28
set_option maxHeartbeats 4000000 in
set_option maxRecDepth 100000 in
theorem c_M_slope (l : Launch) (G : va_G) (cI cL : ClassId) (ad : Nat → Nat) (μ : SM) (p1 : Int32) (p2 : Int32) (p3 : Int32) (Q : Int64 → SM → Prop) (hw : wp_M_slope μ p1 p2 p3 Q) : jm_l l G [(cI, .int), (cL, .long)] y_M_slope b_M_slope 4 rm_M_slope [.ref (ad 0), .int p1, .int p2, .int p3] (wM cI cL ad μ) (wM cI cL ad) Q := by
  refine jm_open_l (by decide +kernel) (Nat.le_of_ble_eq_true rfl) ?_
  intro κ hl hG C E hi
  subst hl; subst hG
  unfold wp_M_slope at hw
  refine j_aload_n (pc := 0) C d_M_slope_0 rfl 0 rfl ?_
  refine j_iconst (v := 0) (pc := 1) C d_M_slope_1 (by decide) ?_
  obtain ⟨μ1, e_μ1⟩ : ∃ z : SM, z = uM_thr μ 0 := ⟨_, rfl⟩
  have hw := hw μ1 e_μ1
  refine j_put (pc := 2) (ws' := wM cI cL ad μ1) C i_M t_M t_M_ok n_M 0 rfl rfl 0 (Nat.le_of_ble_eq_true rfl) k_110 rfl (ty := .int) (by decide +kernel) rfl rfl (Nat.le_of_ble_eq_true rfl) (by rw [e_μ1]; rfl) d_M_slope_2 ?_
  refine j_aload_n (pc := 5) C d_M_slope_5 rfl 0 rfl ?_
  refine j_aload_n (pc := 6) C d_M_slope_6 rfl 0 rfl ?_
  refine j_iload_n (pc := 7) C d_M_slope_7 rfl 1 rfl ?_
  refine j_iload_n (pc := 8) C d_M_slope_8 rfl 2 rfl ?_
  refine j_callVi0 (pc := 9) (st := [.ref (ad 0)]) (As := [.int p1, .int p2]) (wf := wM cI cL ad) C (c_M_isPass (jk_l κ) (jk_G κ) cI cL ad μ1 p1 p2 _ hw) g_M_114 hdV_M_isPass ⟨(Nat.le_of_ble_eq_true rfl), (Nat.le_of_ble_eq_true rfl)⟩ rfl (q0 := 0) rfl rfl rfl rfl (Nat.le_of_ble_eq_true rfl) d_M_slope_9 ⟨(Nat.le_of_ble_eq_true rfl), (Nat.le_of_ble_eq_true rfl)⟩ (fun r3 μ2 hw => ?_)
  refine j_if_ne (pc := 12) (tgt := 19) C d_M_slope_12 (by decide) (fun c4 => ?_) (fun c4 => ?_)
  · have hw := hw.1 c4
    refine j_iconst (v := 0) (pc := 19) C d_M_slope_19 (by decide) ?_
    refine j_locs [0, 1, 2, 3] rfl ?_
    exact jn_M_slope_20 C E p1 p2 p3 0 μ2 hw
  · have hw := hw.2 c4
    refine j_iconst (v := 1) (pc := 15) C d_M_slope_15 (by decide) ?_
    refine j_goto (pc := 16) (tgt := 20) C d_M_slope_16 (by decide) ?_
    refine j_locs [0, 1, 2, 3] rfl ?_
    exact jn_M_slope_20 C E p1 p2 p3 1 μ2 hw
set_option maxHeartbeats 4000000 in
set_option maxRecDepth 100000 in
theorem c_M_row (l : Launch) (G : va_G) (cI cL : ClassId) (ad : Nat → Nat) (μ : SM) (Q : Int32 → SM → Prop) (hw : wp_M_row μ Q) : jm_i l G [(cI, .int), (cL, .long)] y_M_row b_M_row 1 .int rm_M_row [.ref (ad 0)] (wM cI cL ad μ) (wM cI cL ad) Q := by
  refine jm_open_i (by decide +kernel) (Nat.le_of_ble_eq_true rfl) ?_
  intro κ hl hG C E hi
  subst hl; subst hG
  unfold wp_M_row at hw
  refine j_aload_n (pc := 0) C d_M_row_0 rfl 0 rfl ?_
  refine j_iconst (v := 0) (pc := 1) C d_M_row_1 (by decide) ?_
  obtain ⟨μ1, e_μ1⟩ : ∃ z : SM, z = uM_thr μ 0 := ⟨_, rfl⟩
  have hw := hw μ1 e_μ1
  refine j_put (pc := 2) (ws' := wM cI cL ad μ1) C i_M t_M t_M_ok n_M 0 rfl rfl 0 (Nat.le_of_ble_eq_true rfl) k_110 rfl (ty := .int) (by decide +kernel) rfl rfl (Nat.le_of_ble_eq_true rfl) (by rw [e_μ1]; rfl) d_M_row_2 ?_
  refine j_aload_n (pc := 5) C d_M_row_5 rfl 0 rfl ?_
  refine j_callVv0 (pc := 6) (st := []) (As := []) (wf := wM cI cL ad) C (c_M_layRow (jk_l κ) (jk_G κ) cI cL ad μ1 _ hw) g_M_111 hdV_M_layRow ⟨(Nat.le_of_ble_eq_true rfl), (Nat.le_of_ble_eq_true rfl)⟩ rfl (q0 := 0) rfl rfl rfl rfl (Nat.le_of_ble_eq_true rfl) d_M_row_6 ⟨(Nat.le_of_ble_eq_true rfl), (Nat.le_of_ble_eq_true rfl)⟩ (fun μ2 hw => ?_)
  refine j_aload_n (pc := 9) C d_M_row_9 rfl 0 rfl ?_
  refine j_get (pc := 10) C i_M 0 rfl rfl 13 (Nat.le_of_ble_eq_true rfl) k_159 rfl d_M_row_10 ?_
  exact j_iret (pc := 13) C E hw (Nat.le_of_ble_eq_true rfl) (Nat.le_of_ble_eq_true rfl) d_M_row_13
set_option maxHeartbeats 4000000 in
set_option maxRecDepth 100000 in
theorem lp_M_alike_4 {κ : jk_K} {cI cL : ClassId} {ad : Nat → Nat} {Q : Int32 → SM → Prop} (C : jk_C κ b_M_alike R_M rm_M_alike 4 [(cI, .int), (cL, .long)]) (E : jk_E κ (some .int) (va_Qi Q (jk_B (jk_G κ) [(cI, .int), (cL, .long)] (jk_A κ) (wM cI cL ad)) (jk_A κ)) rm_M_alike.cells rm_M_alike.slots) (y1 : Int32) : ∀ (n : Nat) (y2 : Int32) (y3 : Int32) (μ : SM), wl_M_alike_4 y1 Q n y2 y3 μ → jk_J κ (wM cI cL ad μ) 4 [(0, .ref (ad 0)), (1, .int y1), (2, .int y2), (3, .int y3)] [] 0 0 := by
  intro n
  induction n with
  | zero => intro y2 y3 μ hw; exact hw.elim
  | succ n ih =>
    intro y2 y3 μ hw
    rw [wl_M_alike_4] at hw
    refine j_iload_n (pc := 4) C d_M_alike_4 rfl 3 rfl ?_
    refine j_aload_n (pc := 5) C d_M_alike_5 rfl 0 rfl ?_
    refine j_get (pc := 6) C i_M 0 rfl rfl 13 (Nat.le_of_ble_eq_true rfl) k_159 rfl d_M_alike_6 ?_
    refine j_icmp_ge (pc := 9) (tgt := 78) C d_M_alike_9 (by decide) (fun c1 => ?_) (fun c1 => ?_)
    · have hw := hw.1 c1
      refine j_iload_n (pc := 78) C d_M_alike_78 rfl 2 rfl ?_
      exact j_iret (pc := 79) C E hw (Nat.le_of_ble_eq_true rfl) (Nat.le_of_ble_eq_true rfl) d_M_alike_79
    · have hw := hw.2 c1
      refine j_iload_n (pc := 12) C d_M_alike_12 rfl 2 rfl ?_
      refine j_aload_n (pc := 13) C d_M_alike_13 rfl 0 rfl ?_
      refine j_get (pc := 14) C i_M 0 rfl rfl 12 (Nat.le_of_ble_eq_true rfl) k_157 rfl d_M_alike_14 ?_
      refine j_aload_n (pc := 17) C d_M_alike_17 rfl 0 rfl ?_
      refine j_get (pc := 18) C i_M 0 rfl rfl 14 (Nat.le_of_ble_eq_true rfl) k_164 rfl d_M_alike_18 ?_
      refine j_iload_n (pc := 21) C d_M_alike_21 rfl 3 rfl ?_
      obtain ⟨hi2, hw⟩ := hw
      refine j_iald (pc := 22) C 10 0 rfl rfl hi2 d_M_alike_22 ?_
      obtain ⟨hi3, hw⟩ := hw
      refine j_lald (pc := 23) C 9 1 rfl rfl hi3 d_M_alike_23 ?_
      refine j_aload_n (pc := 24) C d_M_alike_24 rfl 0 rfl ?_
      refine j_get (pc := 25) C i_M 0 rfl rfl 11 (Nat.le_of_ble_eq_true rfl) k_158 rfl d_M_alike_25 ?_
      refine j_aload_n (pc := 28) C d_M_alike_28 rfl 0 rfl ?_
      refine j_get (pc := 29) C i_M 0 rfl rfl 14 (Nat.le_of_ble_eq_true rfl) k_164 rfl d_M_alike_29 ?_
      refine j_iload_n (pc := 32) C d_M_alike_32 rfl 1 rfl ?_
      obtain ⟨hi4, hw⟩ := hw
      refine j_iald (pc := 33) C 10 0 rfl rfl hi4 d_M_alike_33 ?_
      obtain ⟨hi5, hw⟩ := hw
      refine j_iald (pc := 34) C 8 0 rfl rfl hi5 d_M_alike_34 ?_
      refine j_i2l (pc := 35) C d_M_alike_35 ?_
      refine j_lmul (pc := 36) C d_M_alike_36 ?_
      refine j_aload_n (pc := 37) C d_M_alike_37 rfl 0 rfl ?_
      refine j_get (pc := 38) C i_M 0 rfl rfl 12 (Nat.le_of_ble_eq_true rfl) k_157 rfl d_M_alike_38 ?_
      refine j_aload_n (pc := 41) C d_M_alike_41 rfl 0 rfl ?_
      refine j_get (pc := 42) C i_M 0 rfl rfl 14 (Nat.le_of_ble_eq_true rfl) k_164 rfl d_M_alike_42 ?_
      refine j_iload_n (pc := 45) C d_M_alike_45 rfl 1 rfl ?_
      obtain ⟨hi6, hw⟩ := hw
      refine j_iald (pc := 46) C 10 0 rfl rfl hi6 d_M_alike_46 ?_
      obtain ⟨hi7, hw⟩ := hw
      refine j_lald (pc := 47) C 9 1 rfl rfl hi7 d_M_alike_47 ?_
      refine j_aload_n (pc := 48) C d_M_alike_48 rfl 0 rfl ?_
      refine j_get (pc := 49) C i_M 0 rfl rfl 11 (Nat.le_of_ble_eq_true rfl) k_158 rfl d_M_alike_49 ?_
      refine j_aload_n (pc := 52) C d_M_alike_52 rfl 0 rfl ?_
      refine j_get (pc := 53) C i_M 0 rfl rfl 14 (Nat.le_of_ble_eq_true rfl) k_164 rfl d_M_alike_53 ?_
      refine j_iload_n (pc := 56) C d_M_alike_56 rfl 3 rfl ?_
      obtain ⟨hi8, hw⟩ := hw
      refine j_iald (pc := 57) C 10 0 rfl rfl hi8 d_M_alike_57 ?_
      obtain ⟨hi9, hw⟩ := hw
      refine j_iald (pc := 58) C 8 0 rfl rfl hi9 d_M_alike_58 ?_
      refine j_i2l (pc := 59) C d_M_alike_59 ?_
      refine j_lmul (pc := 60) C d_M_alike_60 ?_
      refine j_lcmp (pc := 61) C d_M_alike_61 ?_
      refine j_if_ne (pc := 62) (tgt := 69) C d_M_alike_62 (by decide) (fun c10 => ?_) (fun c10 => ?_)
      · have hw := hw.1 c10
        refine j_iconst (v := 0) (pc := 69) C d_M_alike_69 (by decide) ?_
        refine j_iadd (pc := 70) C d_M_alike_70 ?_
        refine j_nmi (fun x11 e_x11 => ?_)
        have hw := hw x11 e_x11
        refine j_istore_n (pc := 71) (lv' := [(2, .int x11), (0, .ref (ad 0)), (1, .int y1), (3, .int y3)]) C d_M_alike_71 rfl (Nat.le_of_ble_eq_true rfl) rfl ?_
        refine j_iinc (pc := 72) (lv' := [(3, .int (y3 + 1)), (2, .int x11), (0, .ref (ad 0)), (1, .int y1)]) C d_M_alike_72 (k := 3) rfl rfl (Nat.le_of_ble_eq_true rfl) rfl ?_
        refine j_goto (pc := 75) (tgt := 4) C d_M_alike_75 (by decide) ?_
        refine j_locs [2, 3, 1, 0] rfl ?_
        exact ih x11 (y3 + 1) μ hw
      · have hw := hw.2 c10
        refine j_iconst (v := 1) (pc := 65) C d_M_alike_65 (by decide) ?_
        refine j_goto (pc := 66) (tgt := 70) C d_M_alike_66 (by decide) ?_
        refine j_iadd (pc := 70) C d_M_alike_70 ?_
        refine j_nmi (fun x12 e_x12 => ?_)
        have hw := hw x12 e_x12
        refine j_istore_n (pc := 71) (lv' := [(2, .int x12), (0, .ref (ad 0)), (1, .int y1), (3, .int y3)]) C d_M_alike_71 rfl (Nat.le_of_ble_eq_true rfl) rfl ?_
        refine j_iinc (pc := 72) (lv' := [(3, .int (y3 + 1)), (2, .int x12), (0, .ref (ad 0)), (1, .int y1)]) C d_M_alike_72 (k := 3) rfl rfl (Nat.le_of_ble_eq_true rfl) rfl ?_
        refine j_goto (pc := 75) (tgt := 4) C d_M_alike_75 (by decide) ?_
        refine j_locs [2, 3, 1, 0] rfl ?_
        exact ih x12 (y3 + 1) μ hw
set_option maxHeartbeats 4000000 in
set_option maxRecDepth 100000 in
theorem c_M_alike (l : Launch) (G : va_G) (cI cL : ClassId) (ad : Nat → Nat) (μ : SM) (p1 : Int32) (Q : Int32 → SM → Prop) (hw : wp_M_alike μ p1 Q) : jm_i l G [(cI, .int), (cL, .long)] y_M_alike b_M_alike 4 .int rm_M_alike [.ref (ad 0), .int p1] (wM cI cL ad μ) (wM cI cL ad) Q := by
  refine jm_open_i (by decide +kernel) (Nat.le_of_ble_eq_true rfl) ?_
  intro κ hl hG C E hi
  subst hl; subst hG
  unfold wp_M_alike at hw
  refine j_iconst (v := 0) (pc := 0) C d_M_alike_0 (by decide) ?_
  refine j_istore_n (pc := 1) (lv' := [(2, .int 0), (0, .ref (ad 0)), (1, .int p1)]) C d_M_alike_1 rfl (Nat.le_of_ble_eq_true rfl) rfl ?_
  refine j_iconst (v := 0) (pc := 2) C d_M_alike_2 (by decide) ?_
  refine j_istore_n (pc := 3) (lv' := [(3, .int 0), (2, .int 0), (0, .ref (ad 0)), (1, .int p1)]) C d_M_alike_3 rfl (Nat.le_of_ble_eq_true rfl) rfl ?_
  obtain ⟨n13, hw⟩ := hw
  refine j_locs [2, 3, 1, 0] rfl ?_
  exact lp_M_alike_4 C E p1 n13 0 0 μ hw
set_option maxHeartbeats 4000000 in
set_option maxRecDepth 100000 in
theorem lp_M_layerOf_2 {κ : jk_K} {cI cL : ClassId} {ad : Nat → Nat} {Q : Int32 → SM → Prop} (C : jk_C κ b_M_layerOf R_M rm_M_layerOf 3 [(cI, .int), (cL, .long)]) (E : jk_E κ (some .int) (va_Qi Q (jk_B (jk_G κ) [(cI, .int), (cL, .long)] (jk_A κ) (wM cI cL ad)) (jk_A κ)) rm_M_layerOf.cells rm_M_layerOf.slots) (y1 : Int32) : ∀ (n : Nat) (y2 : Int32) (μ : SM), wl_M_layerOf_2 y1 Q n y2 μ → jk_J κ (wM cI cL ad μ) 2 [(0, .ref (ad 0)), (1, .int y1), (2, .int y2)] [] 0 0 := by
  intro n
  induction n with
  | zero => intro y2 μ hw; exact hw.elim
  | succ n ih =>
    intro y2 μ hw
    rw [wl_M_layerOf_2] at hw
    refine j_iload_n (pc := 2) C d_M_layerOf_2 rfl 2 rfl ?_
    refine j_aload_n (pc := 3) C d_M_layerOf_3 rfl 0 rfl ?_
    refine j_get (pc := 4) C i_M 0 rfl rfl 1 (Nat.le_of_ble_eq_true rfl) k_118 rfl d_M_layerOf_4 ?_
    refine j_icmp_ge (pc := 7) (tgt := 30) C d_M_layerOf_7 (by decide) (fun c1 => ?_) (fun c1 => ?_)
    · have hw := hw.1 c1
      refine j_iconst (v := (-1)) (pc := 30) C d_M_layerOf_30 (by decide) ?_
      exact j_iret (pc := 31) C E hw (Nat.le_of_ble_eq_true rfl) (Nat.le_of_ble_eq_true rfl) d_M_layerOf_31
    · have hw := hw.2 c1
      refine j_iload_n (pc := 10) C d_M_layerOf_10 rfl 1 rfl ?_
      refine j_aload_n (pc := 11) C d_M_layerOf_11 rfl 0 rfl ?_
      refine j_get (pc := 12) C i_M 0 rfl rfl 16 (Nat.le_of_ble_eq_true rfl) k_173 rfl d_M_layerOf_12 ?_
      refine j_iload_n (pc := 15) C d_M_layerOf_15 rfl 2 rfl ?_
      refine j_iconst (v := 1) (pc := 16) C d_M_layerOf_16 (by decide) ?_
      refine j_iadd (pc := 17) C d_M_layerOf_17 ?_
      obtain ⟨hi2, hw⟩ := hw
      refine j_iald (pc := 18) C 11 0 rfl rfl hi2 d_M_layerOf_18 ?_
      refine j_icmp_ge (pc := 19) (tgt := 24) C d_M_layerOf_19 (by decide) (fun c3 => ?_) (fun c3 => ?_)
      · have hw := hw.1 c3
        refine j_iinc (pc := 24) (lv' := [(2, .int (y2 + 1)), (0, .ref (ad 0)), (1, .int y1)]) C d_M_layerOf_24 (k := 2) rfl rfl (Nat.le_of_ble_eq_true rfl) rfl ?_
        refine j_goto (pc := 27) (tgt := 2) C d_M_layerOf_27 (by decide) ?_
        refine j_locs [1, 2, 0] rfl ?_
        exact ih (y2 + 1) μ hw
      · have hw := hw.2 c3
        refine j_iload_n (pc := 22) C d_M_layerOf_22 rfl 2 rfl ?_
        exact j_iret (pc := 23) C E hw (Nat.le_of_ble_eq_true rfl) (Nat.le_of_ble_eq_true rfl) d_M_layerOf_23
set_option maxHeartbeats 4000000 in
set_option maxRecDepth 100000 in
theorem c_M_layerOf (l : Launch) (G : va_G) (cI cL : ClassId) (ad : Nat → Nat) (μ : SM) (p1 : Int32) (Q : Int32 → SM → Prop) (hw : wp_M_layerOf μ p1 Q) : jm_i l G [(cI, .int), (cL, .long)] y_M_layerOf b_M_layerOf 3 .int rm_M_layerOf [.ref (ad 0), .int p1] (wM cI cL ad μ) (wM cI cL ad) Q := by
  refine jm_open_i (by decide +kernel) (Nat.le_of_ble_eq_true rfl) ?_
  intro κ hl hG C E hi
  subst hl; subst hG
  unfold wp_M_layerOf at hw
  refine j_iconst (v := 0) (pc := 0) C d_M_layerOf_0 (by decide) ?_
  refine j_istore_n (pc := 1) (lv' := [(2, .int 0), (0, .ref (ad 0)), (1, .int p1)]) C d_M_layerOf_1 rfl (Nat.le_of_ble_eq_true rfl) rfl ?_
  obtain ⟨n4, hw⟩ := hw
  refine j_locs [1, 2, 0] rfl ?_
  exact lp_M_layerOf_2 C E p1 n4 0 μ hw
