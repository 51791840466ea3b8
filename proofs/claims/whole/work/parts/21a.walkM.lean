set_option maxHeartbeats 4000000 in
set_option maxRecDepth 100000 in
theorem c_M_thrown (l : Launch) (G : va_G) (cI cL : ClassId) (ad : Nat → Nat) (μ : SM) (Q : Int32 → SM → Prop) (hw : wp_M_thrown μ Q) : jm_i l G [(cI, .int), (cL, .long)] y_M_thrown b_M_thrown 1 .int rm_M_thrown [.ref (ad 0)] (wM cI cL ad μ) (wM cI cL ad) Q := by
  refine jm_open_i (by decide +kernel) (Nat.le_of_ble_eq_true rfl) ?_
  intro κ hl hG C E hi
  subst hl; subst hG
  unfold wp_M_thrown at hw
  refine j_aload_n (pc := 0) C d_M_thrown_0 rfl 0 rfl ?_
  refine j_get (pc := 1) C i_M 0 rfl rfl 0 (Nat.le_of_ble_eq_true rfl) k_110 rfl d_M_thrown_1 ?_
  exact j_iret (pc := 4) C E hw (Nat.le_of_ble_eq_true rfl) (Nat.le_of_ble_eq_true rfl) d_M_thrown_4
set_option maxHeartbeats 4000000 in
set_option maxRecDepth 100000 in
theorem c_M_fails (l : Launch) (G : va_G) (cI cL : ClassId) (ad : Nat → Nat) (μ : SM) (p1 : Int32) (p2 : Int32) (Q : Int32 → SM → Prop) (hw : wp_M_fails μ p1 p2 Q) : jm_i l G [(cI, .int), (cL, .long)] y_M_fails b_M_fails 3 .boolean rm_M_fails [.ref (ad 0), .int p1, .int p2] (wM cI cL ad μ) (wM cI cL ad) Q := by
  refine jm_open_i (by decide +kernel) (Nat.le_of_ble_eq_true rfl) ?_
  intro κ hl hG C E hi
  subst hl; subst hG
  unfold wp_M_fails at hw
  refine j_aload_n (pc := 0) C d_M_fails_0 rfl 0 rfl ?_
  refine j_get (pc := 1) C i_M 0 rfl rfl 0 (Nat.le_of_ble_eq_true rfl) k_110 rfl d_M_fails_1 ?_
  refine j_if_ne (pc := 4) (tgt := 16) C d_M_fails_4 (by decide) (fun c1 => ?_) (fun c1 => ?_)
  · have hw := hw.1 c1
    refine j_aload_n (pc := 16) C d_M_fails_16 rfl 0 rfl ?_
    refine j_get (pc := 17) C i_M 0 rfl rfl 0 (Nat.le_of_ble_eq_true rfl) k_110 rfl d_M_fails_17 ?_
    refine j_if_le (pc := 20) (tgt := 27) C d_M_fails_20 (by decide) (fun c2 => ?_) (fun c2 => ?_)
    · have hw := hw.1 c2
      refine j_iconst (v := 0) (pc := 27) C d_M_fails_27 (by decide) ?_
      exact j_zret (pc := 28) C E hw rfl (Nat.le_of_ble_eq_true rfl) (Nat.le_of_ble_eq_true rfl) d_M_fails_28
    · have hw := hw.2 c2
      refine j_iconst (v := 1) (pc := 23) C d_M_fails_23 (by decide) ?_
      refine j_goto (pc := 24) (tgt := 28) C d_M_fails_24 (by decide) ?_
      exact j_zret (pc := 28) C E hw rfl (Nat.le_of_ble_eq_true rfl) (Nat.le_of_ble_eq_true rfl) d_M_fails_28
  · have hw := hw.2 c1
    refine j_iload_n (pc := 7) C d_M_fails_7 rfl 1 rfl ?_
    refine j_if_eq (pc := 8) (tgt := 16) C d_M_fails_8 (by decide) (fun c3 => ?_) (fun c3 => ?_)
    · have hw := hw.1 c3
      refine j_aload_n (pc := 16) C d_M_fails_16 rfl 0 rfl ?_
      refine j_get (pc := 17) C i_M 0 rfl rfl 0 (Nat.le_of_ble_eq_true rfl) k_110 rfl d_M_fails_17 ?_
      refine j_if_le (pc := 20) (tgt := 27) C d_M_fails_20 (by decide) (fun c4 => ?_) (fun c4 => ?_)
      · have hw := hw.1 c4
        refine j_iconst (v := 0) (pc := 27) C d_M_fails_27 (by decide) ?_
        exact j_zret (pc := 28) C E hw rfl (Nat.le_of_ble_eq_true rfl) (Nat.le_of_ble_eq_true rfl) d_M_fails_28
      · have hw := hw.2 c4
        refine j_iconst (v := 1) (pc := 23) C d_M_fails_23 (by decide) ?_
        refine j_goto (pc := 24) (tgt := 28) C d_M_fails_24 (by decide) ?_
        exact j_zret (pc := 28) C E hw rfl (Nat.le_of_ble_eq_true rfl) (Nat.le_of_ble_eq_true rfl) d_M_fails_28
    · have hw := hw.2 c3
      refine j_aload_n (pc := 11) C d_M_fails_11 rfl 0 rfl ?_
      refine j_iload_n (pc := 12) C d_M_fails_12 rfl 2 rfl ?_
      obtain ⟨μ5, e_μ5⟩ : ∃ z : SM, z = uM_thr μ p2 := ⟨_, rfl⟩
      have hw := hw μ5 e_μ5
      refine j_put (pc := 13) (ws' := wM cI cL ad μ5) C i_M t_M t_M_ok n_M 0 rfl rfl 0 (Nat.le_of_ble_eq_true rfl) k_110 rfl (ty := .int) (by decide +kernel) rfl rfl (Nat.le_of_ble_eq_true rfl) (by rw [e_μ5]; rfl) d_M_fails_13 ?_
      refine j_aload_n (pc := 16) C d_M_fails_16 rfl 0 rfl ?_
      refine j_get (pc := 17) C i_M 0 rfl rfl 0 (Nat.le_of_ble_eq_true rfl) k_110 rfl d_M_fails_17 ?_
      refine j_if_le (pc := 20) (tgt := 27) C d_M_fails_20 (by decide) (fun c6 => ?_) (fun c6 => ?_)
      · have hw := hw.1 c6
        refine j_iconst (v := 0) (pc := 27) C d_M_fails_27 (by decide) ?_
        exact j_zret (pc := 28) C E hw rfl (Nat.le_of_ble_eq_true rfl) (Nat.le_of_ble_eq_true rfl) d_M_fails_28
      · have hw := hw.2 c6
        refine j_iconst (v := 1) (pc := 23) C d_M_fails_23 (by decide) ?_
        refine j_goto (pc := 24) (tgt := 28) C d_M_fails_24 (by decide) ?_
        exact j_zret (pc := 28) C E hw rfl (Nat.le_of_ble_eq_true rfl) (Nat.le_of_ble_eq_true rfl) d_M_fails_28
set_option maxHeartbeats 4000000 in
set_option maxRecDepth 100000 in
theorem c_M_within (l : Launch) (G : va_G) (cI cL : ClassId) (ad : Nat → Nat) (μ : SM) (p0 : Int64) (p2 : Int64) (p4 : Int64) (Q : Int32 → SM → Prop) (hw : wp_M_within μ p0 p2 p4 Q) : jm_i l G [(cI, .int), (cL, .long)] y_M_within b_M_within 6 .boolean rm_M_within [.long p0, .long p2, .long p4] (wM cI cL ad μ) (wM cI cL ad) Q := by
  refine jm_open_i (by decide +kernel) (Nat.le_of_ble_eq_true rfl) ?_
  intro κ hl hG C E hi
  subst hl; subst hG
  unfold wp_M_within at hw
  refine j_lload_n (pc := 0) C d_M_within_0 rfl 0 rfl ?_
  refine j_lload_n (pc := 1) C d_M_within_1 rfl 1 rfl ?_
  refine j_lcmp (pc := 2) C d_M_within_2 ?_
  refine j_if_lt (pc := 3) (tgt := 17) C d_M_within_3 (by decide) (fun c1 => ?_) (fun c1 => ?_)
  · have hw := hw.1 c1
    refine j_iconst (v := 0) (pc := 17) C d_M_within_17 (by decide) ?_
    exact j_zret (pc := 18) C E hw rfl (Nat.le_of_ble_eq_true rfl) (Nat.le_of_ble_eq_true rfl) d_M_within_18
  · have hw := hw.2 c1
    refine j_lload_n (pc := 6) C d_M_within_6 rfl 0 rfl ?_
    refine j_lload (pc := 7) C d_M_within_7 2 rfl ?_
    refine j_lcmp (pc := 9) C d_M_within_9 ?_
    refine j_if_gt (pc := 10) (tgt := 17) C d_M_within_10 (by decide) (fun c2 => ?_) (fun c2 => ?_)
    · have hw := hw.1 c2
      refine j_iconst (v := 0) (pc := 17) C d_M_within_17 (by decide) ?_
      exact j_zret (pc := 18) C E hw rfl (Nat.le_of_ble_eq_true rfl) (Nat.le_of_ble_eq_true rfl) d_M_within_18
    · have hw := hw.2 c2
      refine j_iconst (v := 1) (pc := 13) C d_M_within_13 (by decide) ?_
      refine j_goto (pc := 14) (tgt := 18) C d_M_within_14 (by decide) ?_
      exact j_zret (pc := 18) C E hw rfl (Nat.le_of_ble_eq_true rfl) (Nat.le_of_ble_eq_true rfl) d_M_within_18
set_option maxHeartbeats 4000000 in
set_option maxRecDepth 100000 in
theorem c_M_isBlock (l : Launch) (G : va_G) (cI cL : ClassId) (ad : Nat → Nat) (μ : SM) (p1 : Int32) (Q : Int32 → SM → Prop) (hw : wp_M_isBlock μ p1 Q) : jm_i l G [(cI, .int), (cL, .long)] y_M_isBlock b_M_isBlock 2 .boolean rm_M_isBlock [.ref (ad 0), .int p1] (wM cI cL ad μ) (wM cI cL ad) Q := by
  refine jm_open_i (by decide +kernel) (Nat.le_of_ble_eq_true rfl) ?_
  intro κ hl hG C E hi
  subst hl; subst hG
  unfold wp_M_isBlock at hw
  refine j_iload_n (pc := 0) C d_M_isBlock_0 rfl 1 rfl ?_
  refine j_if_lt (pc := 1) (tgt := 16) C d_M_isBlock_1 (by decide) (fun c1 => ?_) (fun c1 => ?_)
  · have hw := hw.1 c1
    refine j_iconst (v := 0) (pc := 16) C d_M_isBlock_16 (by decide) ?_
    exact j_zret (pc := 17) C E hw rfl (Nat.le_of_ble_eq_true rfl) (Nat.le_of_ble_eq_true rfl) d_M_isBlock_17
  · have hw := hw.2 c1
    refine j_iload_n (pc := 4) C d_M_isBlock_4 rfl 1 rfl ?_
    refine j_aload_n (pc := 5) C d_M_isBlock_5 rfl 0 rfl ?_
    refine j_get (pc := 6) C i_M 0 rfl rfl 2 (Nat.le_of_ble_eq_true rfl) k_111 rfl d_M_isBlock_6 ?_
    refine j_icmp_ge (pc := 9) (tgt := 16) C d_M_isBlock_9 (by decide) (fun c2 => ?_) (fun c2 => ?_)
    · have hw := hw.1 c2
      refine j_iconst (v := 0) (pc := 16) C d_M_isBlock_16 (by decide) ?_
      exact j_zret (pc := 17) C E hw rfl (Nat.le_of_ble_eq_true rfl) (Nat.le_of_ble_eq_true rfl) d_M_isBlock_17
    · have hw := hw.2 c2
      refine j_iconst (v := 1) (pc := 12) C d_M_isBlock_12 (by decide) ?_
      refine j_goto (pc := 13) (tgt := 17) C d_M_isBlock_13 (by decide) ?_
      exact j_zret (pc := 17) C E hw rfl (Nat.le_of_ble_eq_true rfl) (Nat.le_of_ble_eq_true rfl) d_M_isBlock_17
set_option maxHeartbeats 4000000 in
set_option maxRecDepth 100000 in
theorem c_M_isPass (l : Launch) (G : va_G) (cI cL : ClassId) (ad : Nat → Nat) (μ : SM) (p1 : Int32) (p2 : Int32) (Q : Int32 → SM → Prop) (hw : wp_M_isPass μ p1 p2 Q) : jm_i l G [(cI, .int), (cL, .long)] y_M_isPass b_M_isPass 3 .boolean rm_M_isPass [.ref (ad 0), .int p1, .int p2] (wM cI cL ad μ) (wM cI cL ad) Q := by
  refine jm_open_i (by decide +kernel) (Nat.le_of_ble_eq_true rfl) ?_
  intro κ hl hG C E hi
  subst hl; subst hG
  unfold wp_M_isPass at hw
  refine j_aload_n (pc := 0) C d_M_isPass_0 rfl 0 rfl ?_
  refine j_iload_n (pc := 1) C d_M_isPass_1 rfl 1 rfl ?_
  refine j_callVi0 (pc := 2) (st := []) (As := [.int p1]) (wf := wM cI cL ad) C (c_M_isBlock (jk_l κ) (jk_G κ) cI cL ad μ p1 _ hw) g_M_54 hdV_M_isBlock ⟨(Nat.le_of_ble_eq_true rfl), (Nat.le_of_ble_eq_true rfl)⟩ rfl (q0 := 0) rfl rfl rfl rfl (Nat.le_of_ble_eq_true rfl) d_M_isPass_2 ⟨(Nat.le_of_ble_eq_true rfl), (Nat.le_of_ble_eq_true rfl)⟩ (fun r2 μ1 hw => ?_)
  refine j_if_eq (pc := 5) (tgt := 26) C d_M_isPass_5 (by decide) (fun c3 => ?_) (fun c3 => ?_)
  · have hw := hw.1 c3
    refine j_iconst (v := 0) (pc := 26) C d_M_isPass_26 (by decide) ?_
    exact j_zret (pc := 27) C E hw rfl (Nat.le_of_ble_eq_true rfl) (Nat.le_of_ble_eq_true rfl) d_M_isPass_27
  · have hw := hw.2 c3
    refine j_iload_n (pc := 8) C d_M_isPass_8 rfl 2 rfl ?_
    refine j_if_lt (pc := 9) (tgt := 26) C d_M_isPass_9 (by decide) (fun c4 => ?_) (fun c4 => ?_)
    · have hw := hw.1 c4
      refine j_iconst (v := 0) (pc := 26) C d_M_isPass_26 (by decide) ?_
      exact j_zret (pc := 27) C E hw rfl (Nat.le_of_ble_eq_true rfl) (Nat.le_of_ble_eq_true rfl) d_M_isPass_27
    · have hw := hw.2 c4
      refine j_iload_n (pc := 12) C d_M_isPass_12 rfl 2 rfl ?_
      refine j_aload_n (pc := 13) C d_M_isPass_13 rfl 0 rfl ?_
      refine j_get (pc := 14) C i_M 0 rfl rfl 3 (Nat.le_of_ble_eq_true rfl) k_117 rfl d_M_isPass_14 ?_
      refine j_iload_n (pc := 17) C d_M_isPass_17 rfl 1 rfl ?_
      obtain ⟨hi5, hw⟩ := hw
      refine j_iald (pc := 18) C 1 0 rfl rfl hi5 d_M_isPass_18 ?_
      refine j_icmp_ge (pc := 19) (tgt := 26) C d_M_isPass_19 (by decide) (fun c6 => ?_) (fun c6 => ?_)
      · have hw := hw.1 c6
        refine j_iconst (v := 0) (pc := 26) C d_M_isPass_26 (by decide) ?_
        exact j_zret (pc := 27) C E hw rfl (Nat.le_of_ble_eq_true rfl) (Nat.le_of_ble_eq_true rfl) d_M_isPass_27
      · have hw := hw.2 c6
        refine j_iconst (v := 1) (pc := 22) C d_M_isPass_22 (by decide) ?_
        refine j_goto (pc := 23) (tgt := 27) C d_M_isPass_23 (by decide) ?_
        exact j_zret (pc := 27) C E hw rfl (Nat.le_of_ble_eq_true rfl) (Nat.le_of_ble_eq_true rfl) d_M_isPass_27
set_option maxHeartbeats 4000000 in
set_option maxRecDepth 100000 in
theorem c_M_isLayer (l : Launch) (G : va_G) (cI cL : ClassId) (ad : Nat → Nat) (μ : SM) (p1 : Int32) (Q : Int32 → SM → Prop) (hw : wp_M_isLayer μ p1 Q) : jm_i l G [(cI, .int), (cL, .long)] y_M_isLayer b_M_isLayer 2 .boolean rm_M_isLayer [.ref (ad 0), .int p1] (wM cI cL ad μ) (wM cI cL ad) Q := by
  refine jm_open_i (by decide +kernel) (Nat.le_of_ble_eq_true rfl) ?_
  intro κ hl hG C E hi
  subst hl; subst hG
  unfold wp_M_isLayer at hw
  refine j_iload_n (pc := 0) C d_M_isLayer_0 rfl 1 rfl ?_
  refine j_if_lt (pc := 1) (tgt := 16) C d_M_isLayer_1 (by decide) (fun c1 => ?_) (fun c1 => ?_)
  · have hw := hw.1 c1
    refine j_iconst (v := 0) (pc := 16) C d_M_isLayer_16 (by decide) ?_
    exact j_zret (pc := 17) C E hw rfl (Nat.le_of_ble_eq_true rfl) (Nat.le_of_ble_eq_true rfl) d_M_isLayer_17
  · have hw := hw.2 c1
    refine j_iload_n (pc := 4) C d_M_isLayer_4 rfl 1 rfl ?_
    refine j_aload_n (pc := 5) C d_M_isLayer_5 rfl 0 rfl ?_
    refine j_get (pc := 6) C i_M 0 rfl rfl 1 (Nat.le_of_ble_eq_true rfl) k_118 rfl d_M_isLayer_6 ?_
    refine j_icmp_ge (pc := 9) (tgt := 16) C d_M_isLayer_9 (by decide) (fun c2 => ?_) (fun c2 => ?_)
    · have hw := hw.1 c2
      refine j_iconst (v := 0) (pc := 16) C d_M_isLayer_16 (by decide) ?_
      exact j_zret (pc := 17) C E hw rfl (Nat.le_of_ble_eq_true rfl) (Nat.le_of_ble_eq_true rfl) d_M_isLayer_17
    · have hw := hw.2 c2
      refine j_iconst (v := 1) (pc := 12) C d_M_isLayer_12 (by decide) ?_
      refine j_goto (pc := 13) (tgt := 17) C d_M_isLayer_13 (by decide) ?_
      exact j_zret (pc := 17) C E hw rfl (Nat.le_of_ble_eq_true rfl) (Nat.le_of_ble_eq_true rfl) d_M_isLayer_17
set_option maxHeartbeats 4000000 in
set_option maxRecDepth 100000 in
theorem c_M_spoil (l : Launch) (G : va_G) (cI cL : ClassId) (ad : Nat → Nat) (μ : SM) (Q : SM → Prop) (hw : wp_M_spoil μ Q) : jm_v l G [(cI, .int), (cL, .long)] y_M_spoil b_M_spoil 1 rm_M_spoil [.ref (ad 0)] (wM cI cL ad μ) (wM cI cL ad) Q := by
  refine jm_open_v (by decide +kernel) (Nat.le_of_ble_eq_true rfl) ?_
  intro κ hl hG C E hi
  subst hl; subst hG
  unfold wp_M_spoil at hw
  refine j_aload_n (pc := 0) C d_M_spoil_0 rfl 0 rfl ?_
  refine j_iconst (v := 0) (pc := 1) C d_M_spoil_1 (by decide) ?_
  obtain ⟨μ1, e_μ1⟩ : ∃ z : SM, z = uM_laid μ 0 := ⟨_, rfl⟩
  have hw := hw μ1 e_μ1
  refine j_put (pc := 2) (ws' := wM cI cL ad μ1) C i_M t_M t_M_ok n_M 0 rfl rfl 10 (Nat.le_of_ble_eq_true rfl) k_119 rfl (ty := .boolean) (by decide +kernel) rfl rfl (Nat.le_of_ble_eq_true rfl) (by rw [e_μ1]; rfl) d_M_spoil_2 ?_
  refine j_aload_n (pc := 5) C d_M_spoil_5 rfl 0 rfl ?_
  refine j_iconst (v := 0) (pc := 6) C d_M_spoil_6 (by decide) ?_
  obtain ⟨μ2, e_μ2⟩ : ∃ z : SM, z = uM_shared μ1 0 := ⟨_, rfl⟩
  have hw := hw μ2 e_μ2
  refine j_put (pc := 7) (ws' := wM cI cL ad μ2) C i_M t_M t_M_ok n_M 0 rfl rfl 15 (Nat.le_of_ble_eq_true rfl) k_120 rfl (ty := .boolean) (by decide +kernel) rfl rfl (Nat.le_of_ble_eq_true rfl) (by rw [e_μ2]; rfl) d_M_spoil_7 ?_
  exact j_vret (pc := 10) C E hw (Nat.le_of_ble_eq_true rfl) (Nat.le_of_ble_eq_true rfl) d_M_spoil_10
set_option maxHeartbeats 4000000 in
set_option maxRecDepth 100000 in
theorem jn_M_block_20 {κ : jk_K} {cI cL : ClassId} {ad : Nat → Nat} {Q : Int32 → SM → Prop} (C : jk_C κ b_M_block R_M rm_M_block 1 [(cI, .int), (cL, .long)]) (E : jk_E κ (some .int) (va_Qi Q (jk_B (jk_G κ) [(cI, .int), (cL, .long)] (jk_A κ) (wM cI cL ad)) (jk_A κ)) rm_M_block.cells rm_M_block.slots) (s0 : Int32) (μ : SM) (hw : wj_M_block_20 Q s0 μ) : jk_J κ (wM cI cL ad μ) 20 [(0, .ref (ad 0))] [.int s0, .ref (ad 0)] 0 0 := by
  unfold wj_M_block_20 at hw
  refine j_iconst (v := 1) (pc := 20) C d_M_block_20 (by decide) ?_
  refine j_callVi0 (pc := 21) (st := []) (As := [.int s0, .int 1]) (wf := wM cI cL ad) C (c_M_fails (jk_l κ) (jk_G κ) cI cL ad μ s0 1 _ hw) g_M_65 hdV_M_fails ⟨(Nat.le_of_ble_eq_true rfl), (Nat.le_of_ble_eq_true rfl)⟩ rfl (q0 := 0) rfl rfl rfl rfl (Nat.le_of_ble_eq_true rfl) d_M_block_21 ⟨(Nat.le_of_ble_eq_true rfl), (Nat.le_of_ble_eq_true rfl)⟩ (fun r4 μ3 hw => ?_)
  refine j_if_eq (pc := 24) (tgt := 29) C d_M_block_24 (by decide) (fun c5 => ?_) (fun c5 => ?_)
  · have hw := hw.1 c5
    refine j_aload_n (pc := 29) C d_M_block_29 rfl 0 rfl ?_
    refine j_get (pc := 30) C i_M 0 rfl rfl 3 (Nat.le_of_ble_eq_true rfl) k_117 rfl d_M_block_30 ?_
    refine j_aload_n (pc := 33) C d_M_block_33 rfl 0 rfl ?_
    refine j_get (pc := 34) C i_M 0 rfl rfl 2 (Nat.le_of_ble_eq_true rfl) k_111 rfl d_M_block_34 ?_
    refine j_iconst (v := 0) (pc := 37) C d_M_block_37 (by decide) ?_
    obtain ⟨hi6, hw⟩ := hw
    obtain ⟨μ7, e_μ7⟩ : ∃ z : SM, z = uM_many μ3 (upd (sM_many μ3) (Int32.toNatClampNeg (sM_blocks μ3)) 0) := ⟨_, rfl⟩
    have hw := hw μ7 e_μ7
    refine j_iast (pc := 38) (ws' := wM cI cL ad μ7) C 1 0 rfl rfl hi6 (by rw [e_μ7]; rfl) d_M_block_38 ?_
    refine j_aload_n (pc := 39) C d_M_block_39 rfl 0 rfl ?_
    refine j_get (pc := 40) C i_M 0 rfl rfl 4 (Nat.le_of_ble_eq_true rfl) k_125 rfl d_M_block_40 ?_
    refine j_aload_n (pc := 43) C d_M_block_43 rfl 0 rfl ?_
    refine j_get (pc := 44) C i_M 0 rfl rfl 2 (Nat.le_of_ble_eq_true rfl) k_111 rfl d_M_block_44 ?_
    refine j_iconst (v := 1) (pc := 47) C d_M_block_47 (by decide) ?_
    obtain ⟨hi8, hw⟩ := hw
    obtain ⟨μ9, e_μ9⟩ : ∃ z : SM, z = uM_weights μ7 (upd (sM_weights μ7) (Int32.toNatClampNeg (sM_blocks μ7)) 1) := ⟨_, rfl⟩
    have hw := hw μ9 e_μ9
    refine j_iast (pc := 48) (ws' := wM cI cL ad μ9) C 2 0 rfl rfl hi8 (by rw [e_μ9]; rfl) d_M_block_48 ?_
    refine j_aload_n (pc := 49) C d_M_block_49 rfl 0 rfl ?_
    refine j_get (pc := 50) C i_M 0 rfl rfl 5 (Nat.le_of_ble_eq_true rfl) k_126 rfl d_M_block_50 ?_
    refine j_aload_n (pc := 53) C d_M_block_53 rfl 0 rfl ?_
    refine j_get (pc := 54) C i_M 0 rfl rfl 2 (Nat.le_of_ble_eq_true rfl) k_111 rfl d_M_block_54 ?_
    refine j_iconst (v := 0) (pc := 57) C d_M_block_57 (by decide) ?_
    obtain ⟨hi10, hw⟩ := hw
    obtain ⟨μ11, e_μ11⟩ : ∃ z : SM, z = uM_shifts μ9 (upd (sM_shifts μ9) (Int32.toNatClampNeg (sM_blocks μ9)) 0) := ⟨_, rfl⟩
    have hw := hw μ11 e_μ11
    refine j_iast (pc := 58) (ws' := wM cI cL ad μ11) C 3 0 rfl rfl hi10 (by rw [e_μ11]; rfl) d_M_block_58 ?_
    refine j_aload_n (pc := 59) C d_M_block_59 rfl 0 rfl ?_
    refine j_dup (pc := 60) C d_M_block_60 rfl ?_
    refine j_get (pc := 61) C i_M 0 rfl rfl 2 (Nat.le_of_ble_eq_true rfl) k_111 rfl d_M_block_61 ?_
    refine j_iconst (v := 1) (pc := 64) C d_M_block_64 (by decide) ?_
    refine j_iadd (pc := 65) C d_M_block_65 ?_
    obtain ⟨μ12, e_μ12⟩ : ∃ z : SM, z = uM_blocks μ11 ((sM_blocks μ11) + 1) := ⟨_, rfl⟩
    have hw := hw μ12 e_μ12
    refine j_put (pc := 66) (ws' := wM cI cL ad μ12) C i_M t_M t_M_ok n_M 0 rfl rfl 2 (Nat.le_of_ble_eq_true rfl) k_111 rfl (ty := .int) (by decide +kernel) rfl rfl (Nat.le_of_ble_eq_true rfl) (by rw [e_μ12]; rfl) d_M_block_66 ?_
    refine j_aload_n (pc := 69) C d_M_block_69 rfl 0 rfl ?_
    refine j_callVv0 (pc := 70) (st := []) (As := []) (wf := wM cI cL ad) C (c_M_spoil (jk_l κ) (jk_G κ) cI cL ad μ12 _ hw) g_M_69 hdV_M_spoil ⟨(Nat.le_of_ble_eq_true rfl), (Nat.le_of_ble_eq_true rfl)⟩ rfl (q0 := 0) rfl rfl rfl rfl (Nat.le_of_ble_eq_true rfl) d_M_block_70 ⟨(Nat.le_of_ble_eq_true rfl), (Nat.le_of_ble_eq_true rfl)⟩ (fun μ13 hw => ?_)
    refine j_aload_n (pc := 73) C d_M_block_73 rfl 0 rfl ?_
    refine j_get (pc := 74) C i_M 0 rfl rfl 2 (Nat.le_of_ble_eq_true rfl) k_111 rfl d_M_block_74 ?_
    refine j_iconst (v := 1) (pc := 77) C d_M_block_77 (by decide) ?_
    refine j_isub (pc := 78) C d_M_block_78 ?_
    exact j_iret (pc := 79) C E hw (Nat.le_of_ble_eq_true rfl) (Nat.le_of_ble_eq_true rfl) d_M_block_79
  · have hw := hw.2 c5
    refine j_iconst (v := 0) (pc := 27) C d_M_block_27 (by decide) ?_
    exact j_iret (pc := 28) C E hw (Nat.le_of_ble_eq_true rfl) (Nat.le_of_ble_eq_true rfl) d_M_block_28
set_option maxHeartbeats 4000000 in
set_option maxRecDepth 100000 in
theorem c_M_block (l : Launch) (G : va_G) (cI cL : ClassId) (ad : Nat → Nat) (μ : SM) (Q : Int32 → SM → Prop) (hw : wp_M_block μ Q) : jm_i l G [(cI, .int), (cL, .long)] y_M_block b_M_block 1 .int rm_M_block [.ref (ad 0)] (wM cI cL ad μ) (wM cI cL ad) Q := by
  refine jm_open_i (by decide +kernel) (Nat.le_of_ble_eq_true rfl) ?_
  intro κ hl hG C E hi
  subst hl; subst hG
  unfold wp_M_block at hw
  refine j_aload_n (pc := 0) C d_M_block_0 rfl 0 rfl ?_
  refine j_iconst (v := 0) (pc := 1) C d_M_block_1 (by decide) ?_
  obtain ⟨μ1, e_μ1⟩ : ∃ z : SM, z = uM_thr μ 0 := ⟨_, rfl⟩
  have hw := hw μ1 e_μ1
  refine j_put (pc := 2) (ws' := wM cI cL ad μ1) C i_M t_M t_M_ok n_M 0 rfl rfl 0 (Nat.le_of_ble_eq_true rfl) k_110 rfl (ty := .int) (by decide +kernel) rfl rfl (Nat.le_of_ble_eq_true rfl) (by rw [e_μ1]; rfl) d_M_block_2 ?_
  refine j_aload_n (pc := 5) C d_M_block_5 rfl 0 rfl ?_
  refine j_aload_n (pc := 6) C d_M_block_6 rfl 0 rfl ?_
  refine j_get (pc := 7) C i_M 0 rfl rfl 2 (Nat.le_of_ble_eq_true rfl) k_111 rfl d_M_block_7 ?_
  refine j_bipush (v := 40) (pc := 10) C d_M_block_10 (by decide) ?_
  refine j_icmp_ne (pc := 12) (tgt := 19) C d_M_block_12 (by decide) (fun c2 => ?_) (fun c2 => ?_)
  · have hw := hw.1 c2
    refine j_iconst (v := 0) (pc := 19) C d_M_block_19 (by decide) ?_
    refine j_locs [0] rfl ?_
    exact jn_M_block_20 C E 0 μ1 hw
  · have hw := hw.2 c2
    refine j_iconst (v := 1) (pc := 15) C d_M_block_15 (by decide) ?_
    refine j_goto (pc := 16) (tgt := 20) C d_M_block_16 (by decide) ?_
    refine j_locs [0] rfl ?_
    exact jn_M_block_20 C E 1 μ1 hw
