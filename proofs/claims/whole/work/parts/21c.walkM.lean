set_option maxHeartbeats 4000000 in
set_option maxRecDepth 100000 in
theorem jn_M_size_44 {κ : jk_K} {cI cL : ClassId} {ad : Nat → Nat} {Q : Int32 → SM → Prop} (C : jk_C κ b_M_size R_M rm_M_size 4 [(cI, .int), (cL, .long)]) (E : jk_E κ (some .int) (va_Qi Q (jk_B (jk_G κ) [(cI, .int), (cL, .long)] (jk_A κ) (wM cI cL ad)) (jk_A κ)) rm_M_size.cells rm_M_size.slots) (y1 : Int32) (y2 : Int32) (s0 : Int32) (μ : SM) (hw : wj_M_size_44 Q y1 y2 s0 μ) : jk_J κ (wM cI cL ad μ) 44 [(0, .ref (ad 0)), (1, .int y1), (2, .int y2)] [.int s0, .ref (ad 0)] 0 0 := by
  unfold wj_M_size_44 at hw
  refine j_iconst (v := 2) (pc := 44) C d_M_size_44 (by decide) ?_
  refine j_callVi0 (pc := 45) (st := []) (As := [.int s0, .int 2]) (wf := wM cI cL ad) C (c_M_fails (jk_l κ) (jk_G κ) cI cL ad μ s0 2 _ hw) g_M_65 hdV_M_fails ⟨(Nat.le_of_ble_eq_true rfl), (Nat.le_of_ble_eq_true rfl)⟩ rfl (q0 := 0) rfl rfl rfl rfl (Nat.le_of_ble_eq_true rfl) d_M_size_45 ⟨(Nat.le_of_ble_eq_true rfl), (Nat.le_of_ble_eq_true rfl)⟩ (fun r12 μ11 hw => ?_)
  refine j_if_eq (pc := 48) (tgt := 53) C d_M_size_48 (by decide) (fun c13 => ?_) (fun c13 => ?_)
  · have hw := hw.1 c13
    refine j_aload_n (pc := 53) C d_M_size_53 rfl 0 rfl ?_
    refine j_get (pc := 54) C i_M 0 rfl rfl 8 (Nat.le_of_ble_eq_true rfl) k_146 rfl d_M_size_54 ?_
    refine j_iload_n (pc := 57) C d_M_size_57 rfl 1 rfl ?_
    obtain ⟨hi14, hw⟩ := hw
    refine j_iald (pc := 58) C 6 0 rfl rfl hi14 d_M_size_58 ?_
    refine j_nmi (fun x15 e_x15 => ?_)
    have hw := hw x15 e_x15
    refine j_istore_n (pc := 59) (lv' := [(3, .int x15), (0, .ref (ad 0)), (1, .int y1), (2, .int y2)]) C d_M_size_59 rfl (Nat.le_of_ble_eq_true rfl) rfl ?_
    refine j_aload_n (pc := 60) C d_M_size_60 rfl 1 rfl ?_
    refine j_get (pc := 61) C i_M 0 rfl rfl 8 (Nat.le_of_ble_eq_true rfl) k_146 rfl d_M_size_61 ?_
    refine j_iload_n (pc := 64) C d_M_size_64 rfl 2 rfl ?_
    refine j_iload_n (pc := 65) C d_M_size_65 rfl 3 rfl ?_
    obtain ⟨hi16, hw⟩ := hw
    obtain ⟨μ17, e_μ17⟩ : ∃ z : SM, z = uM_sizes μ11 (upd (sM_sizes μ11) (Int32.toNatClampNeg y1) y2) := ⟨_, rfl⟩
    have hw := hw μ17 e_μ17
    refine j_iast (pc := 66) (ws' := wM cI cL ad μ17) C 6 0 rfl rfl hi16 (by rw [e_μ17]; rfl) d_M_size_66 ?_
    refine j_aload_n (pc := 67) C d_M_size_67 rfl 1 rfl ?_
    refine j_callVv0 (pc := 68) (st := []) (As := []) (wf := wM cI cL ad) C (c_M_spoil (jk_l κ) (jk_G κ) cI cL ad μ17 _ hw) g_M_69 hdV_M_spoil ⟨(Nat.le_of_ble_eq_true rfl), (Nat.le_of_ble_eq_true rfl)⟩ rfl (q0 := 0) rfl rfl rfl rfl (Nat.le_of_ble_eq_true rfl) d_M_size_68 ⟨(Nat.le_of_ble_eq_true rfl), (Nat.le_of_ble_eq_true rfl)⟩ (fun μ18 hw => ?_)
    refine j_iload_n (pc := 71) C d_M_size_71 rfl 0 rfl ?_
    exact j_iret (pc := 72) C E hw (Nat.le_of_ble_eq_true rfl) (Nat.le_of_ble_eq_true rfl) d_M_size_72
  · have hw := hw.2 c13
    refine j_iconst (v := 0) (pc := 51) C d_M_size_51 (by decide) ?_
    exact j_iret (pc := 52) C E hw (Nat.le_of_ble_eq_true rfl) (Nat.le_of_ble_eq_true rfl) d_M_size_52
set_option maxHeartbeats 4000000 in
set_option maxRecDepth 100000 in
theorem jn_M_size_19 {κ : jk_K} {cI cL : ClassId} {ad : Nat → Nat} {Q : Int32 → SM → Prop} (C : jk_C κ b_M_size R_M rm_M_size 4 [(cI, .int), (cL, .long)]) (E : jk_E κ (some .int) (va_Qi Q (jk_B (jk_G κ) [(cI, .int), (cL, .long)] (jk_A κ) (wM cI cL ad)) (jk_A κ)) rm_M_size.cells rm_M_size.slots) (y1 : Int32) (y2 : Int32) (s0 : Int32) (μ : SM) (hw : wj_M_size_19 Q y1 y2 s0 μ) : jk_J κ (wM cI cL ad μ) 19 [(0, .ref (ad 0)), (1, .int y1), (2, .int y2)] [.int s0, .ref (ad 0)] 0 0 := by
  unfold wj_M_size_19 at hw
  refine j_iconst (v := 1) (pc := 19) C d_M_size_19 (by decide) ?_
  refine j_callVi0 (pc := 20) (st := []) (As := [.int s0, .int 1]) (wf := wM cI cL ad) C (c_M_fails (jk_l κ) (jk_G κ) cI cL ad μ s0 1 _ hw) g_M_65 hdV_M_fails ⟨(Nat.le_of_ble_eq_true rfl), (Nat.le_of_ble_eq_true rfl)⟩ rfl (q0 := 0) rfl rfl rfl rfl (Nat.le_of_ble_eq_true rfl) d_M_size_20 ⟨(Nat.le_of_ble_eq_true rfl), (Nat.le_of_ble_eq_true rfl)⟩ (fun r6 μ5 hw => ?_)
  refine j_if_ne (pc := 23) (tgt := 51) C d_M_size_23 (by decide) (fun c7 => ?_) (fun c7 => ?_)
  · have hw := hw.1 c7
    refine j_iconst (v := 0) (pc := 51) C d_M_size_51 (by decide) ?_
    exact j_iret (pc := 52) C E hw (Nat.le_of_ble_eq_true rfl) (Nat.le_of_ble_eq_true rfl) d_M_size_52
  · have hw := hw.2 c7
    refine j_aload_n (pc := 26) C d_M_size_26 rfl 0 rfl ?_
    refine j_iload_n (pc := 27) C d_M_size_27 rfl 2 rfl ?_
    refine j_i2l (pc := 28) C d_M_size_28 ?_
    refine j_lconst (v := 0) (pc := 29) C d_M_size_29 (by decide) ?_
    refine j_ldc2 (v := 10000000) (pc := 30) C d_M_size_30 k_145 ?_
    refine j_callSi0 (pc := 33) (st := [.ref (ad 0)]) (As := [.long (Int32.toInt64 y2), .long 0, .long 10000000]) (wf := wM cI cL ad) C (c_M_within (jk_l κ) (jk_G κ) cI cL ad μ5 (Int32.toInt64 y2) 0 10000000 _ hw) g_M_74 hdS_M_within ⟨(Nat.le_of_ble_eq_true rfl), (Nat.le_of_ble_eq_true rfl)⟩ rfl rfl (Nat.le_of_ble_eq_true rfl) d_M_size_33 ⟨(Nat.le_of_ble_eq_true rfl), (Nat.le_of_ble_eq_true rfl)⟩ (fun r9 μ8 hw => ?_)
    refine j_if_ne (pc := 36) (tgt := 43) C d_M_size_36 (by decide) (fun c10 => ?_) (fun c10 => ?_)
    · have hw := hw.1 c10
      refine j_iconst (v := 0) (pc := 43) C d_M_size_43 (by decide) ?_
      refine j_locs [0, 1, 2] rfl ?_
      exact jn_M_size_44 C E y1 y2 0 μ8 hw
    · have hw := hw.2 c10
      refine j_iconst (v := 1) (pc := 39) C d_M_size_39 (by decide) ?_
      refine j_goto (pc := 40) (tgt := 44) C d_M_size_40 (by decide) ?_
      refine j_locs [0, 1, 2] rfl ?_
      exact jn_M_size_44 C E y1 y2 1 μ8 hw
set_option maxHeartbeats 4000000 in
set_option maxRecDepth 100000 in
theorem c_M_size (l : Launch) (G : va_G) (cI cL : ClassId) (ad : Nat → Nat) (μ : SM) (p1 : Int32) (p2 : Int32) (Q : Int32 → SM → Prop) (hw : wp_M_size μ p1 p2 Q) : jm_i l G [(cI, .int), (cL, .long)] y_M_size b_M_size 4 .int rm_M_size [.ref (ad 0), .int p1, .int p2] (wM cI cL ad μ) (wM cI cL ad) Q := by
  refine jm_open_i (by decide +kernel) (Nat.le_of_ble_eq_true rfl) ?_
  intro κ hl hG C E hi
  subst hl; subst hG
  unfold wp_M_size at hw
  refine j_aload_n (pc := 0) C d_M_size_0 rfl 0 rfl ?_
  refine j_iconst (v := 0) (pc := 1) C d_M_size_1 (by decide) ?_
  obtain ⟨μ1, e_μ1⟩ : ∃ z : SM, z = uM_thr μ 0 := ⟨_, rfl⟩
  have hw := hw μ1 e_μ1
  refine j_put (pc := 2) (ws' := wM cI cL ad μ1) C i_M t_M t_M_ok n_M 0 rfl rfl 0 (Nat.le_of_ble_eq_true rfl) k_110 rfl (ty := .int) (by decide +kernel) rfl rfl (Nat.le_of_ble_eq_true rfl) (by rw [e_μ1]; rfl) d_M_size_2 ?_
  refine j_aload_n (pc := 5) C d_M_size_5 rfl 0 rfl ?_
  refine j_aload_n (pc := 6) C d_M_size_6 rfl 0 rfl ?_
  refine j_iload_n (pc := 7) C d_M_size_7 rfl 1 rfl ?_
  refine j_callVi0 (pc := 8) (st := [.ref (ad 0)]) (As := [.int p1]) (wf := wM cI cL ad) C (c_M_isLayer (jk_l κ) (jk_G κ) cI cL ad μ1 p1 _ hw) g_M_86 hdV_M_isLayer ⟨(Nat.le_of_ble_eq_true rfl), (Nat.le_of_ble_eq_true rfl)⟩ rfl (q0 := 0) rfl rfl rfl rfl (Nat.le_of_ble_eq_true rfl) d_M_size_8 ⟨(Nat.le_of_ble_eq_true rfl), (Nat.le_of_ble_eq_true rfl)⟩ (fun r3 μ2 hw => ?_)
  refine j_if_ne (pc := 11) (tgt := 18) C d_M_size_11 (by decide) (fun c4 => ?_) (fun c4 => ?_)
  · have hw := hw.1 c4
    refine j_iconst (v := 0) (pc := 18) C d_M_size_18 (by decide) ?_
    refine j_locs [0, 1, 2] rfl ?_
    exact jn_M_size_19 C E p1 p2 0 μ2 hw
  · have hw := hw.2 c4
    refine j_iconst (v := 1) (pc := 14) C d_M_size_14 (by decide) ?_
    refine j_goto (pc := 15) (tgt := 19) C d_M_size_15 (by decide) ?_
    refine j_locs [0, 1, 2] rfl ?_
    exact jn_M_size_19 C E p1 p2 1 μ2 hw
set_option maxHeartbeats 4000000 in
set_option maxRecDepth 100000 in
theorem jn_M_head_44 {κ : jk_K} {cI cL : ClassId} {ad : Nat → Nat} {Q : Int32 → SM → Prop} (C : jk_C κ b_M_head R_M rm_M_head 4 [(cI, .int), (cL, .long)]) (E : jk_E κ (some .int) (va_Qi Q (jk_B (jk_G κ) [(cI, .int), (cL, .long)] (jk_A κ) (wM cI cL ad)) (jk_A κ)) rm_M_head.cells rm_M_head.slots) (y1 : Int32) (y2 : Int32) (s0 : Int32) (μ : SM) (hw : wj_M_head_44 Q y1 y2 s0 μ) : jk_J κ (wM cI cL ad μ) 44 [(0, .ref (ad 0)), (1, .int y1), (2, .int y2)] [.int s0, .ref (ad 0)] 0 0 := by
  unfold wj_M_head_44 at hw
  refine j_iconst (v := 2) (pc := 44) C d_M_head_44 (by decide) ?_
  refine j_callVi0 (pc := 45) (st := []) (As := [.int s0, .int 2]) (wf := wM cI cL ad) C (c_M_fails (jk_l κ) (jk_G κ) cI cL ad μ s0 2 _ hw) g_M_65 hdV_M_fails ⟨(Nat.le_of_ble_eq_true rfl), (Nat.le_of_ble_eq_true rfl)⟩ rfl (q0 := 0) rfl rfl rfl rfl (Nat.le_of_ble_eq_true rfl) d_M_head_45 ⟨(Nat.le_of_ble_eq_true rfl), (Nat.le_of_ble_eq_true rfl)⟩ (fun r12 μ11 hw => ?_)
  refine j_if_eq (pc := 48) (tgt := 53) C d_M_head_48 (by decide) (fun c13 => ?_) (fun c13 => ?_)
  · have hw := hw.1 c13
    refine j_aload_n (pc := 53) C d_M_head_53 rfl 0 rfl ?_
    refine j_get (pc := 54) C i_M 0 rfl rfl 9 (Nat.le_of_ble_eq_true rfl) k_147 rfl d_M_head_54 ?_
    refine j_iload_n (pc := 57) C d_M_head_57 rfl 1 rfl ?_
    obtain ⟨hi14, hw⟩ := hw
    refine j_iald (pc := 58) C 7 0 rfl rfl hi14 d_M_head_58 ?_
    refine j_nmi (fun x15 e_x15 => ?_)
    have hw := hw x15 e_x15
    refine j_istore_n (pc := 59) (lv' := [(3, .int x15), (0, .ref (ad 0)), (1, .int y1), (2, .int y2)]) C d_M_head_59 rfl (Nat.le_of_ble_eq_true rfl) rfl ?_
    refine j_aload_n (pc := 60) C d_M_head_60 rfl 1 rfl ?_
    refine j_get (pc := 61) C i_M 0 rfl rfl 9 (Nat.le_of_ble_eq_true rfl) k_147 rfl d_M_head_61 ?_
    refine j_iload_n (pc := 64) C d_M_head_64 rfl 2 rfl ?_
    refine j_iload_n (pc := 65) C d_M_head_65 rfl 3 rfl ?_
    obtain ⟨hi16, hw⟩ := hw
    obtain ⟨μ17, e_μ17⟩ : ∃ z : SM, z = uM_heads μ11 (upd (sM_heads μ11) (Int32.toNatClampNeg y1) y2) := ⟨_, rfl⟩
    have hw := hw μ17 e_μ17
    refine j_iast (pc := 66) (ws' := wM cI cL ad μ17) C 7 0 rfl rfl hi16 (by rw [e_μ17]; rfl) d_M_head_66 ?_
    refine j_aload_n (pc := 67) C d_M_head_67 rfl 1 rfl ?_
    refine j_callVv0 (pc := 68) (st := []) (As := []) (wf := wM cI cL ad) C (c_M_spoil (jk_l κ) (jk_G κ) cI cL ad μ17 _ hw) g_M_69 hdV_M_spoil ⟨(Nat.le_of_ble_eq_true rfl), (Nat.le_of_ble_eq_true rfl)⟩ rfl (q0 := 0) rfl rfl rfl rfl (Nat.le_of_ble_eq_true rfl) d_M_head_68 ⟨(Nat.le_of_ble_eq_true rfl), (Nat.le_of_ble_eq_true rfl)⟩ (fun μ18 hw => ?_)
    refine j_iload_n (pc := 71) C d_M_head_71 rfl 0 rfl ?_
    exact j_iret (pc := 72) C E hw (Nat.le_of_ble_eq_true rfl) (Nat.le_of_ble_eq_true rfl) d_M_head_72
  · have hw := hw.2 c13
    refine j_iconst (v := 0) (pc := 51) C d_M_head_51 (by decide) ?_
    exact j_iret (pc := 52) C E hw (Nat.le_of_ble_eq_true rfl) (Nat.le_of_ble_eq_true rfl) d_M_head_52
set_option maxHeartbeats 4000000 in
set_option maxRecDepth 100000 in
theorem jn_M_head_19 {κ : jk_K} {cI cL : ClassId} {ad : Nat → Nat} {Q : Int32 → SM → Prop} (C : jk_C κ b_M_head R_M rm_M_head 4 [(cI, .int), (cL, .long)]) (E : jk_E κ (some .int) (va_Qi Q (jk_B (jk_G κ) [(cI, .int), (cL, .long)] (jk_A κ) (wM cI cL ad)) (jk_A κ)) rm_M_head.cells rm_M_head.slots) (y1 : Int32) (y2 : Int32) (s0 : Int32) (μ : SM) (hw : wj_M_head_19 Q y1 y2 s0 μ) : jk_J κ (wM cI cL ad μ) 19 [(0, .ref (ad 0)), (1, .int y1), (2, .int y2)] [.int s0, .ref (ad 0)] 0 0 := by
  unfold wj_M_head_19 at hw
  refine j_iconst (v := 1) (pc := 19) C d_M_head_19 (by decide) ?_
  refine j_callVi0 (pc := 20) (st := []) (As := [.int s0, .int 1]) (wf := wM cI cL ad) C (c_M_fails (jk_l κ) (jk_G κ) cI cL ad μ s0 1 _ hw) g_M_65 hdV_M_fails ⟨(Nat.le_of_ble_eq_true rfl), (Nat.le_of_ble_eq_true rfl)⟩ rfl (q0 := 0) rfl rfl rfl rfl (Nat.le_of_ble_eq_true rfl) d_M_head_20 ⟨(Nat.le_of_ble_eq_true rfl), (Nat.le_of_ble_eq_true rfl)⟩ (fun r6 μ5 hw => ?_)
  refine j_if_ne (pc := 23) (tgt := 51) C d_M_head_23 (by decide) (fun c7 => ?_) (fun c7 => ?_)
  · have hw := hw.1 c7
    refine j_iconst (v := 0) (pc := 51) C d_M_head_51 (by decide) ?_
    exact j_iret (pc := 52) C E hw (Nat.le_of_ble_eq_true rfl) (Nat.le_of_ble_eq_true rfl) d_M_head_52
  · have hw := hw.2 c7
    refine j_aload_n (pc := 26) C d_M_head_26 rfl 0 rfl ?_
    refine j_iload_n (pc := 27) C d_M_head_27 rfl 2 rfl ?_
    refine j_i2l (pc := 28) C d_M_head_28 ?_
    refine j_lconst (v := 0) (pc := 29) C d_M_head_29 (by decide) ?_
    refine j_ldc2 (v := 10000000) (pc := 30) C d_M_head_30 k_145 ?_
    refine j_callSi0 (pc := 33) (st := [.ref (ad 0)]) (As := [.long (Int32.toInt64 y2), .long 0, .long 10000000]) (wf := wM cI cL ad) C (c_M_within (jk_l κ) (jk_G κ) cI cL ad μ5 (Int32.toInt64 y2) 0 10000000 _ hw) g_M_74 hdS_M_within ⟨(Nat.le_of_ble_eq_true rfl), (Nat.le_of_ble_eq_true rfl)⟩ rfl rfl (Nat.le_of_ble_eq_true rfl) d_M_head_33 ⟨(Nat.le_of_ble_eq_true rfl), (Nat.le_of_ble_eq_true rfl)⟩ (fun r9 μ8 hw => ?_)
    refine j_if_ne (pc := 36) (tgt := 43) C d_M_head_36 (by decide) (fun c10 => ?_) (fun c10 => ?_)
    · have hw := hw.1 c10
      refine j_iconst (v := 0) (pc := 43) C d_M_head_43 (by decide) ?_
      refine j_locs [0, 1, 2] rfl ?_
      exact jn_M_head_44 C E y1 y2 0 μ8 hw
    · have hw := hw.2 c10
      refine j_iconst (v := 1) (pc := 39) C d_M_head_39 (by decide) ?_
      refine j_goto (pc := 40) (tgt := 44) C d_M_head_40 (by decide) ?_
      refine j_locs [0, 1, 2] rfl ?_
      exact jn_M_head_44 C E y1 y2 1 μ8 hw
set_option maxHeartbeats 4000000 in
set_option maxRecDepth 100000 in
theorem c_M_head (l : Launch) (G : va_G) (cI cL : ClassId) (ad : Nat → Nat) (μ : SM) (p1 : Int32) (p2 : Int32) (Q : Int32 → SM → Prop) (hw : wp_M_head μ p1 p2 Q) : jm_i l G [(cI, .int), (cL, .long)] y_M_head b_M_head 4 .int rm_M_head [.ref (ad 0), .int p1, .int p2] (wM cI cL ad μ) (wM cI cL ad) Q := by
  refine jm_open_i (by decide +kernel) (Nat.le_of_ble_eq_true rfl) ?_
  intro κ hl hG C E hi
  subst hl; subst hG
  unfold wp_M_head at hw
  refine j_aload_n (pc := 0) C d_M_head_0 rfl 0 rfl ?_
  refine j_iconst (v := 0) (pc := 1) C d_M_head_1 (by decide) ?_
  obtain ⟨μ1, e_μ1⟩ : ∃ z : SM, z = uM_thr μ 0 := ⟨_, rfl⟩
  have hw := hw μ1 e_μ1
  refine j_put (pc := 2) (ws' := wM cI cL ad μ1) C i_M t_M t_M_ok n_M 0 rfl rfl 0 (Nat.le_of_ble_eq_true rfl) k_110 rfl (ty := .int) (by decide +kernel) rfl rfl (Nat.le_of_ble_eq_true rfl) (by rw [e_μ1]; rfl) d_M_head_2 ?_
  refine j_aload_n (pc := 5) C d_M_head_5 rfl 0 rfl ?_
  refine j_aload_n (pc := 6) C d_M_head_6 rfl 0 rfl ?_
  refine j_iload_n (pc := 7) C d_M_head_7 rfl 1 rfl ?_
  refine j_callVi0 (pc := 8) (st := [.ref (ad 0)]) (As := [.int p1]) (wf := wM cI cL ad) C (c_M_isLayer (jk_l κ) (jk_G κ) cI cL ad μ1 p1 _ hw) g_M_86 hdV_M_isLayer ⟨(Nat.le_of_ble_eq_true rfl), (Nat.le_of_ble_eq_true rfl)⟩ rfl (q0 := 0) rfl rfl rfl rfl (Nat.le_of_ble_eq_true rfl) d_M_head_8 ⟨(Nat.le_of_ble_eq_true rfl), (Nat.le_of_ble_eq_true rfl)⟩ (fun r3 μ2 hw => ?_)
  refine j_if_ne (pc := 11) (tgt := 18) C d_M_head_11 (by decide) (fun c4 => ?_) (fun c4 => ?_)
  · have hw := hw.1 c4
    refine j_iconst (v := 0) (pc := 18) C d_M_head_18 (by decide) ?_
    refine j_locs [0, 1, 2] rfl ?_
    exact jn_M_head_19 C E p1 p2 0 μ2 hw
  · have hw := hw.2 c4
    refine j_iconst (v := 1) (pc := 14) C d_M_head_14 (by decide) ?_
    refine j_goto (pc := 15) (tgt := 19) C d_M_head_15 (by decide) ?_
    refine j_locs [0, 1, 2] rfl ?_
    exact jn_M_head_19 C E p1 p2 1 μ2 hw
set_option maxHeartbeats 4000000 in
set_option maxRecDepth 100000 in
theorem lp_M_g_31 {κ : jk_K} {cI cL : ClassId} {ad : Nat → Nat} {Q : Int64 → SM → Prop} (C : jk_C κ b_M_g R_M rm_M_g 6 [(cI, .int), (cL, .long)]) (E : jk_E κ (some .long) (va_Ql Q (jk_B (jk_G κ) [(cI, .int), (cL, .long)] (jk_A κ) (wM cI cL ad)) (jk_A κ)) rm_M_g.cells rm_M_g.slots) (y1 : Int32) : ∀ (n : Nat) (y3 : Int64) (y5 : Int32) (μ : SM), wl_M_g_31 y1 Q n y3 y5 μ → jk_J κ (wM cI cL ad μ) 31 [(0, .ref (ad 0)), (1, .int y1), (3, .long y3), (5, .int y5)] [] 0 0 := by
  intro n
  induction n with
  | zero => intro y3 y5 μ hw; exact hw.elim
  | succ n ih =>
    intro y3 y5 μ hw
    rw [wl_M_g_31] at hw
    refine j_iload (pc := 31) C d_M_g_31 3 rfl ?_
    refine j_aload_n (pc := 33) C d_M_g_33 rfl 0 rfl ?_
    refine j_get (pc := 34) C i_M 0 rfl rfl 5 (Nat.le_of_ble_eq_true rfl) k_126 rfl d_M_g_34 ?_
    refine j_iload_n (pc := 37) C d_M_g_37 rfl 1 rfl ?_
    obtain ⟨hi5, hw⟩ := hw
    refine j_iald (pc := 38) C 3 0 rfl rfl hi5 d_M_g_38 ?_
    refine j_icmp_ge (pc := 39) (tgt := 54) C d_M_g_39 (by decide) (fun c6 => ?_) (fun c6 => ?_)
    · have hw := hw.1 c6
      refine j_lload_n (pc := 54) C d_M_g_54 rfl 2 rfl ?_
      exact j_lret (pc := 55) C E hw (Nat.le_of_ble_eq_true rfl) (Nat.le_of_ble_eq_true rfl) d_M_g_55
    · have hw := hw.2 c6
      refine j_lload_n (pc := 42) C d_M_g_42 rfl 2 rfl ?_
      refine j_ldc2 (v := 4) (pc := 43) C d_M_g_43 k_148 ?_
      refine j_lmul (pc := 46) C d_M_g_46 ?_
      refine j_nml (fun x7 e_x7 => ?_)
      have hw := hw x7 e_x7
      refine j_lstore_n (pc := 47) (lv' := [(3, .long x7), (0, .ref (ad 0)), (1, .int y1), (5, .int y5)]) C d_M_g_47 rfl (Nat.le_of_ble_eq_true rfl) rfl ?_
      refine j_iinc (pc := 48) (lv' := [(5, .int (y5 + 1)), (3, .long x7), (0, .ref (ad 0)), (1, .int y1)]) C d_M_g_48 (k := 3) rfl rfl (Nat.le_of_ble_eq_true rfl) rfl ?_
      refine j_goto (pc := 51) (tgt := 31) C d_M_g_51 (by decide) ?_
      refine j_locs [2, 3, 1, 0] rfl ?_
      exact ih x7 (y5 + 1) μ hw
set_option maxHeartbeats 4000000 in
set_option maxRecDepth 100000 in
theorem c_M_g (l : Launch) (G : va_G) (cI cL : ClassId) (ad : Nat → Nat) (μ : SM) (p1 : Int32) (p2 : Int32) (Q : Int64 → SM → Prop) (hw : wp_M_g μ p1 p2 Q) : jm_l l G [(cI, .int), (cL, .long)] y_M_g b_M_g 6 rm_M_g [.ref (ad 0), .int p1, .int p2] (wM cI cL ad μ) (wM cI cL ad) Q := by
  refine jm_open_l (by decide +kernel) (Nat.le_of_ble_eq_true rfl) ?_
  intro κ hl hG C E hi
  subst hl; subst hG
  unfold wp_M_g at hw
  refine j_iload_n (pc := 0) C d_M_g_0 rfl 2 rfl ?_
  refine j_if_ge (pc := 1) (tgt := 8) C d_M_g_1 (by decide) (fun c1 => ?_) (fun c1 => ?_)
  · have hw := hw.1 c1
    refine j_aload_n (pc := 8) C d_M_g_8 rfl 0 rfl ?_
    refine j_get (pc := 9) C i_M 0 rfl rfl 7 (Nat.le_of_ble_eq_true rfl) k_136 rfl d_M_g_9 ?_
    refine j_bipush (v := 24) (pc := 12) C d_M_g_12 (by decide) ?_
    refine j_iload_n (pc := 14) C d_M_g_14 rfl 1 rfl ?_
    refine j_imul (pc := 15) C d_M_g_15 ?_
    refine j_iload_n (pc := 16) C d_M_g_16 rfl 2 rfl ?_
    refine j_iadd (pc := 17) C d_M_g_17 ?_
    obtain ⟨hi2, hw⟩ := hw
    refine j_lald (pc := 18) C 5 1 rfl rfl hi2 d_M_g_18 ?_
    refine j_aload_n (pc := 19) C d_M_g_19 rfl 0 rfl ?_
    refine j_get (pc := 20) C i_M 0 rfl rfl 4 (Nat.le_of_ble_eq_true rfl) k_125 rfl d_M_g_20 ?_
    refine j_iload_n (pc := 23) C d_M_g_23 rfl 1 rfl ?_
    obtain ⟨hi3, hw⟩ := hw
    refine j_iald (pc := 24) C 2 0 rfl rfl hi3 d_M_g_24 ?_
    refine j_i2l (pc := 25) C d_M_g_25 ?_
    refine j_lmul (pc := 26) C d_M_g_26 ?_
    refine j_nml (fun x4 e_x4 => ?_)
    have hw := hw x4 e_x4
    refine j_lstore_n (pc := 27) (lv' := [(3, .long x4), (0, .ref (ad 0)), (1, .int p1), (2, .int p2)]) C d_M_g_27 rfl (Nat.le_of_ble_eq_true rfl) rfl ?_
    refine j_iconst (v := 0) (pc := 28) C d_M_g_28 (by decide) ?_
    refine j_istore (pc := 29) (lv' := [(5, .int 0), (3, .long x4), (0, .ref (ad 0)), (1, .int p1), (2, .int p2)]) C d_M_g_29 (Nat.le_of_ble_eq_true rfl) rfl ?_
    obtain ⟨n8, hw⟩ := hw
    refine j_locs [2, 3, 1, 0] rfl ?_
    exact lp_M_g_31 C E p1 n8 x4 0 μ hw
  · have hw := hw.2 c1
    refine j_lconst (v := 0) (pc := 4) C d_M_g_4 (by decide) ?_
    refine j_goto (pc := 5) (tgt := 27) C d_M_g_5 (by decide) ?_
    refine j_lstore_n (pc := 27) (lv' := [(3, .long 0), (0, .ref (ad 0)), (1, .int p1), (2, .int p2)]) C d_M_g_27 rfl (Nat.le_of_ble_eq_true rfl) rfl ?_
    refine j_iconst (v := 0) (pc := 28) C d_M_g_28 (by decide) ?_
    refine j_istore (pc := 29) (lv' := [(5, .int 0), (3, .long 0), (0, .ref (ad 0)), (1, .int p1), (2, .int p2)]) C d_M_g_29 (Nat.le_of_ble_eq_true rfl) rfl ?_
    obtain ⟨n9, hw⟩ := hw
    refine j_locs [2, 3, 1, 0] rfl ?_
    exact lp_M_g_31 C E p1 n9 0 0 μ hw
set_option maxHeartbeats 4000000 in
set_option maxRecDepth 100000 in
theorem c_M_l (l : Launch) (G : va_G) (cI cL : ClassId) (ad : Nat → Nat) (μ : SM) (p1 : Int32) (p2 : Int32) (Q : Int32 → SM → Prop) (hw : wp_M_l μ p1 p2 Q) : jm_i l G [(cI, .int), (cL, .long)] y_M_l b_M_l 3 .int rm_M_l [.ref (ad 0), .int p1, .int p2] (wM cI cL ad μ) (wM cI cL ad) Q := by
  refine jm_open_i (by decide +kernel) (Nat.le_of_ble_eq_true rfl) ?_
  intro κ hl hG C E hi
  subst hl; subst hG
  unfold wp_M_l at hw
  refine j_iload_n (pc := 0) C d_M_l_0 rfl 2 rfl ?_
  refine j_if_ge (pc := 1) (tgt := 8) C d_M_l_1 (by decide) (fun c1 => ?_) (fun c1 => ?_)
  · have hw := hw.1 c1
    refine j_aload_n (pc := 8) C d_M_l_8 rfl 0 rfl ?_
    refine j_get (pc := 9) C i_M 0 rfl rfl 6 (Nat.le_of_ble_eq_true rfl) k_135 rfl d_M_l_9 ?_
    refine j_bipush (v := 24) (pc := 12) C d_M_l_12 (by decide) ?_
    refine j_iload_n (pc := 14) C d_M_l_14 rfl 1 rfl ?_
    refine j_imul (pc := 15) C d_M_l_15 ?_
    refine j_iload_n (pc := 16) C d_M_l_16 rfl 2 rfl ?_
    refine j_iadd (pc := 17) C d_M_l_17 ?_
    obtain ⟨hi2, hw⟩ := hw
    refine j_iald (pc := 18) C 4 0 rfl rfl hi2 d_M_l_18 ?_
    exact j_iret (pc := 19) C E hw (Nat.le_of_ble_eq_true rfl) (Nat.le_of_ble_eq_true rfl) d_M_l_19
  · have hw := hw.2 c1
    refine j_iconst (v := 0) (pc := 4) C d_M_l_4 (by decide) ?_
    refine j_goto (pc := 5) (tgt := 19) C d_M_l_5 (by decide) ?_
    exact j_iret (pc := 19) C E hw (Nat.le_of_ble_eq_true rfl) (Nat.le_of_ble_eq_true rfl) d_M_l_19
