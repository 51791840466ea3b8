set_option maxHeartbeats 4000000 in
set_option maxRecDepth 100000 in
theorem c_L_block (l : Launch) (hlt : l.stackTraces = false) (G : va_G) (cI cL : ClassId) (ad : Nat → Nat) (o : Nat) (σ : SX) (f : Nat → Int64) (Q : Int32 → SX × (Nat → Int64) → Prop) (hw : wp_L_block σ f Q) : jh_i l G [(cI, .int), (cL, .long)] y_L_block b_L_block 3 [(0, 8, 11, 13)] rm_L_block [.ref (ad 0), .ref o] (wO cI cL ad o (σ, f)) (wO cI cL ad o) Q := by
  refine jh_open_i hlt (by decide +kernel) (Nat.le_of_ble_eq_true rfl) ?_
  intro κ hl hG C Z E
  subst hl; subst hG
  unfold wp_L_block at hw
  refine j_aload_n (pc := 0) C d_L_block_0 rfl 1 rfl ?_
  refine j_iconst (v := 0) (pc := 1) C d_L_block_1 (by decide) ?_
  refine j_aload_n (pc := 2) C d_L_block_2 rfl 0 rfl ?_
  refine jh_callVi (pc := 3) (st := [.int 0, .ref o]) (As := []) (wc := wX cI cL ad σ) (wr := [(o, .inl (cL, 1, .inr (.inl f)))]) (wf := wX cI cL ad) (wn := fun u => wO cI cL ad o (u, f)) C Z (c_X_block (jk_l κ) Z.1 (jk_G κ) cI cL ad σ _ _ hw) g_L_7 hdV_X_block ⟨(Nat.le_of_ble_eq_true rfl), (Nat.le_of_ble_eq_true rfl)⟩ rfl (q0 := 0) rfl rfl rfl [0, 1, 2, 3, 4, 5, 6, 7, 8, 9, 10, 11, 12] [13] rfl rfl (by decide) (by decide) (by decide) rfl (Nat.le_of_ble_eq_true rfl) d_L_block_3 ⟨(Nat.le_of_ble_eq_true rfl), (Nat.le_of_ble_eq_true rfl)⟩ [1, 2, 3, 4, 5, 6, 7, 8, 9, 10, 11, 12, 13, 0] (by decide) (fun _ => rfl) (fun E1 σ1 hw => ?_) (fun r2 σ1 hw => ?_)
  · obtain ⟨rfl, hw⟩ := hw
    refine ⟨11, ⟨[], ⟨0, 8, 11, 13⟩, [], "java/lang/UnsupportedOperationException", rfl, (fun z hz => (List.not_mem_nil hz).elim), rfl, by decide, k_209, by decide +kernel, rfl⟩, fun q9 => ?_⟩
    refine j_astore_n (pc := 11) (lv' := [(2, .ref q9), (0, .ref (ad 0)), (1, .ref o)]) C d_L_block_11 rfl (Nat.le_of_ble_eq_true rfl) rfl ?_
    refine j_iconst (v := 1) (pc := 12) C d_L_block_12 (by decide) ?_
    exact j_iret (pc := 13) (u := (σ1, f)) C E hw (Nat.le_of_ble_eq_true rfl) (Nat.le_of_ble_eq_true rfl) d_L_block_13
  · refine j_i2l (pc := 6) C d_L_block_6 ?_
    obtain ⟨f3, e_f3⟩ : ∃ z : Nat → Int64, z = vp_updL f (Int32.toNatClampNeg 0) (Int32.toInt64 r2) := ⟨_, rfl⟩
    have hw := hw f3 e_f3
    refine j_last (pc := 7) (ws' := wO cI cL ad o (σ1, f3)) C 13 1 rfl rfl (by unfold vp_in; decide) (by rw [e_f3]; rfl) d_L_block_7 ?_
    refine j_goto (pc := 8) (tgt := 14) C d_L_block_8 (by decide) ?_
    refine j_iconst (v := 0) (pc := 14) C d_L_block_14 (by decide) ?_
    exact j_iret (pc := 15) (u := (σ1, f3)) C E hw (Nat.le_of_ble_eq_true rfl) (Nat.le_of_ble_eq_true rfl) d_L_block_15
set_option maxHeartbeats 4000000 in
set_option maxRecDepth 100000 in
theorem c_L_pass (l : Launch) (hlt : l.stackTraces = false) (G : va_G) (cI cL : ClassId) (ad : Nat → Nat) (o : Nat) (σ : SX) (f : Nat → Int64) (p1 : Int32) (p2 : Int32) (p3 : Int32) (Q : Int32 → SX × (Nat → Int64) → Prop) (hw : wp_L_pass σ f p1 p2 p3 Q) : jh_i l G [(cI, .int), (cL, .long)] y_L_pass b_L_pass 6 [(0, 12, 15, 19), (0, 12, 19, 21), (0, 12, 23, 13)] rm_L_pass [.ref (ad 0), .int p1, .int p2, .int p3, .ref o] (wO cI cL ad o (σ, f)) (wO cI cL ad o) Q := by
  refine jh_open_i hlt (by decide +kernel) (Nat.le_of_ble_eq_true rfl) ?_
  intro κ hl hG C Z E
  subst hl; subst hG
  unfold wp_L_pass at hw
  refine j_aload (pc := 0) C d_L_pass_0 4 rfl ?_
  refine j_iconst (v := 0) (pc := 2) C d_L_pass_2 (by decide) ?_
  refine j_aload_n (pc := 3) C d_L_pass_3 rfl 0 rfl ?_
  refine j_iload_n (pc := 4) C d_L_pass_4 rfl 1 rfl ?_
  refine j_iload_n (pc := 5) C d_L_pass_5 rfl 2 rfl ?_
  refine j_iload_n (pc := 6) C d_L_pass_6 rfl 3 rfl ?_
  refine jh_callVi (pc := 7) (st := [.int 0, .ref o]) (As := [.int p1, .int p2, .int p3]) (wc := wX cI cL ad σ) (wr := [(o, .inl (cL, 1, .inr (.inl f)))]) (wf := wX cI cL ad) (wn := fun u => wO cI cL ad o (u, f)) C Z (c_X_pass (jk_l κ) Z.1 (jk_G κ) cI cL ad σ p1 p2 p3 _ _ hw) g_L_15 hdV_X_pass ⟨(Nat.le_of_ble_eq_true rfl), (Nat.le_of_ble_eq_true rfl)⟩ rfl (q0 := 0) rfl rfl rfl [0, 1, 2, 3, 4, 5, 6, 7, 8, 9, 10, 11, 12] [13] rfl rfl (by decide) (by decide) (by decide) rfl (Nat.le_of_ble_eq_true rfl) d_L_pass_7 ⟨(Nat.le_of_ble_eq_true rfl), (Nat.le_of_ble_eq_true rfl)⟩ [1, 2, 3, 4, 5, 6, 7, 8, 9, 10, 11, 12, 13, 0] (by decide) (fun _ => rfl) (fun E1 σ1 hw => ?_) (fun r2 σ1 hw => ?_)
  · rcases hw with ⟨rfl, hw⟩ | ⟨rfl, hw⟩ | ⟨rfl, hw⟩
    · refine ⟨15, ⟨[], ⟨0, 12, 15, 19⟩, [⟨0, 12, 19, 21⟩, ⟨0, 12, 23, 13⟩], "java/lang/IndexOutOfBoundsException", rfl, (fun z hz => (List.not_mem_nil hz).elim), rfl, by decide, k_214, by decide +kernel, rfl⟩, fun q9 => ?_⟩
      refine j_astore (pc := 15) (lv' := [(5, .ref q9), (0, .ref (ad 0)), (1, .int p1), (2, .int p2), (3, .int p3), (4, .ref o)]) C d_L_pass_15 (Nat.le_of_ble_eq_true rfl) rfl ?_
      refine j_iconst (v := 1) (pc := 17) C d_L_pass_17 (by decide) ?_
      exact j_iret (pc := 18) (u := (σ1, f)) C E hw (Nat.le_of_ble_eq_true rfl) (Nat.le_of_ble_eq_true rfl) d_L_pass_18
    · refine ⟨19, ⟨[⟨0, 12, 15, 19⟩], ⟨0, 12, 19, 21⟩, [⟨0, 12, 23, 13⟩], "java/lang/IllegalArgumentException", rfl, (fun z hz => by
        simp only [List.mem_cons, List.not_mem_nil, or_false] at hz
        subst hz
        · exact Or.inr ⟨by decide, "java/lang/IndexOutOfBoundsException", k_214, (Z.2.2.2.2.2.1 ("java/lang/IllegalArgumentException", "java/lang/IndexOutOfBoundsException") (List.mem_of_getElem? (i := 0) rfl))⟩), rfl, by decide, k_215, by decide +kernel, rfl⟩, fun q9 => ?_⟩
      refine j_astore (pc := 19) (lv' := [(5, .ref q9), (0, .ref (ad 0)), (1, .int p1), (2, .int p2), (3, .int p3), (4, .ref o)]) C d_L_pass_19 (Nat.le_of_ble_eq_true rfl) rfl ?_
      refine j_iconst (v := 2) (pc := 21) C d_L_pass_21 (by decide) ?_
      exact j_iret (pc := 22) (u := (σ1, f)) C E hw (Nat.le_of_ble_eq_true rfl) (Nat.le_of_ble_eq_true rfl) d_L_pass_22
    · refine ⟨23, ⟨[⟨0, 12, 15, 19⟩, ⟨0, 12, 19, 21⟩], ⟨0, 12, 23, 13⟩, [], "java/lang/UnsupportedOperationException", rfl, (fun z hz => by
        simp only [List.mem_cons, List.not_mem_nil, or_false] at hz
        rcases hz with rfl | rfl
        · exact Or.inr ⟨by decide, "java/lang/IndexOutOfBoundsException", k_214, (Z.2.2.2.2.2.1 ("java/lang/UnsupportedOperationException", "java/lang/IndexOutOfBoundsException") (List.mem_of_getElem? (i := 1) rfl))⟩
        · exact Or.inr ⟨by decide, "java/lang/IllegalArgumentException", k_215, (Z.2.2.2.2.2.1 ("java/lang/UnsupportedOperationException", "java/lang/IllegalArgumentException") (List.mem_of_getElem? (i := 2) rfl))⟩), rfl, by decide, k_209, by decide +kernel, rfl⟩, fun q9 => ?_⟩
      refine j_astore (pc := 23) (lv' := [(5, .ref q9), (0, .ref (ad 0)), (1, .int p1), (2, .int p2), (3, .int p3), (4, .ref o)]) C d_L_pass_23 (Nat.le_of_ble_eq_true rfl) rfl ?_
      refine j_iconst (v := 3) (pc := 25) C d_L_pass_25 (by decide) ?_
      exact j_iret (pc := 26) (u := (σ1, f)) C E hw (Nat.le_of_ble_eq_true rfl) (Nat.le_of_ble_eq_true rfl) d_L_pass_26
  · refine j_i2l (pc := 10) C d_L_pass_10 ?_
    obtain ⟨f3, e_f3⟩ : ∃ z : Nat → Int64, z = vp_updL f (Int32.toNatClampNeg 0) (Int32.toInt64 r2) := ⟨_, rfl⟩
    have hw := hw f3 e_f3
    refine j_last (pc := 11) (ws' := wO cI cL ad o (σ1, f3)) C 13 1 rfl rfl (by unfold vp_in; decide) (by rw [e_f3]; rfl) d_L_pass_11 ?_
    refine j_goto (pc := 12) (tgt := 27) C d_L_pass_12 (by decide) ?_
    refine j_iconst (v := 0) (pc := 27) C d_L_pass_27 (by decide) ?_
    exact j_iret (pc := 28) (u := (σ1, f3)) C E hw (Nat.le_of_ble_eq_true rfl) (Nat.le_of_ble_eq_true rfl) d_L_pass_28
set_option maxHeartbeats 4000000 in
set_option maxRecDepth 100000 in
theorem c_L_weight (l : Launch) (hlt : l.stackTraces = false) (G : va_G) (cI cL : ClassId) (ad : Nat → Nat) (o : Nat) (σ : SX) (f : Nat → Int64) (p1 : Int32) (p2 : Int32) (Q : Int32 → SX × (Nat → Int64) → Prop) (hw : wp_L_weight σ f p1 p2 Q) : jh_i l G [(cI, .int), (cL, .long)] y_L_weight b_L_weight 5 [(0, 10, 13, 19), (0, 10, 17, 21)] rm_L_weight [.ref (ad 0), .int p1, .int p2, .ref o] (wO cI cL ad o (σ, f)) (wO cI cL ad o) Q := by
  refine jh_open_i hlt (by decide +kernel) (Nat.le_of_ble_eq_true rfl) ?_
  intro κ hl hG C Z E
  subst hl; subst hG
  unfold wp_L_weight at hw
  refine j_aload_n (pc := 0) C d_L_weight_0 rfl 3 rfl ?_
  refine j_iconst (v := 0) (pc := 1) C d_L_weight_1 (by decide) ?_
  refine j_aload_n (pc := 2) C d_L_weight_2 rfl 0 rfl ?_
  refine j_iload_n (pc := 3) C d_L_weight_3 rfl 1 rfl ?_
  refine j_iload_n (pc := 4) C d_L_weight_4 rfl 2 rfl ?_
  refine jh_callVi (pc := 5) (st := [.int 0, .ref o]) (As := [.int p1, .int p2]) (wc := wX cI cL ad σ) (wr := [(o, .inl (cL, 1, .inr (.inl f)))]) (wf := wX cI cL ad) (wn := fun u => wO cI cL ad o (u, f)) C Z (c_X_weight (jk_l κ) Z.1 (jk_G κ) cI cL ad σ p1 p2 _ _ hw) g_L_23 hdV_X_weight ⟨(Nat.le_of_ble_eq_true rfl), (Nat.le_of_ble_eq_true rfl)⟩ rfl (q0 := 0) rfl rfl rfl [0, 1, 2, 3, 4, 5, 6, 7, 8, 9, 10, 11, 12] [13] rfl rfl (by decide) (by decide) (by decide) rfl (Nat.le_of_ble_eq_true rfl) d_L_weight_5 ⟨(Nat.le_of_ble_eq_true rfl), (Nat.le_of_ble_eq_true rfl)⟩ [1, 2, 3, 4, 5, 6, 7, 8, 9, 10, 11, 12, 13, 0] (by decide) (fun _ => rfl) (fun E1 σ1 hw => ?_) (fun r2 σ1 hw => ?_)
  · rcases hw with ⟨rfl, hw⟩ | ⟨rfl, hw⟩
    · refine ⟨13, ⟨[], ⟨0, 10, 13, 19⟩, [⟨0, 10, 17, 21⟩], "java/lang/IndexOutOfBoundsException", rfl, (fun z hz => (List.not_mem_nil hz).elim), rfl, by decide, k_214, by decide +kernel, rfl⟩, fun q9 => ?_⟩
      refine j_astore (pc := 13) (lv' := [(4, .ref q9), (0, .ref (ad 0)), (1, .int p1), (2, .int p2), (3, .ref o)]) C d_L_weight_13 (Nat.le_of_ble_eq_true rfl) rfl ?_
      refine j_iconst (v := 1) (pc := 15) C d_L_weight_15 (by decide) ?_
      exact j_iret (pc := 16) (u := (σ1, f)) C E hw (Nat.le_of_ble_eq_true rfl) (Nat.le_of_ble_eq_true rfl) d_L_weight_16
    · refine ⟨17, ⟨[⟨0, 10, 13, 19⟩], ⟨0, 10, 17, 21⟩, [], "java/lang/IllegalArgumentException", rfl, (fun z hz => by
        simp only [List.mem_cons, List.not_mem_nil, or_false] at hz
        subst hz
        · exact Or.inr ⟨by decide, "java/lang/IndexOutOfBoundsException", k_214, (Z.2.2.2.2.2.1 ("java/lang/IllegalArgumentException", "java/lang/IndexOutOfBoundsException") (List.mem_of_getElem? (i := 0) rfl))⟩), rfl, by decide, k_215, by decide +kernel, rfl⟩, fun q9 => ?_⟩
      refine j_astore (pc := 17) (lv' := [(4, .ref q9), (0, .ref (ad 0)), (1, .int p1), (2, .int p2), (3, .ref o)]) C d_L_weight_17 (Nat.le_of_ble_eq_true rfl) rfl ?_
      refine j_iconst (v := 2) (pc := 19) C d_L_weight_19 (by decide) ?_
      exact j_iret (pc := 20) (u := (σ1, f)) C E hw (Nat.le_of_ble_eq_true rfl) (Nat.le_of_ble_eq_true rfl) d_L_weight_20
  · refine j_i2l (pc := 8) C d_L_weight_8 ?_
    obtain ⟨f3, e_f3⟩ : ∃ z : Nat → Int64, z = vp_updL f (Int32.toNatClampNeg 0) (Int32.toInt64 r2) := ⟨_, rfl⟩
    have hw := hw f3 e_f3
    refine j_last (pc := 9) (ws' := wO cI cL ad o (σ1, f3)) C 13 1 rfl rfl (by unfold vp_in; decide) (by rw [e_f3]; rfl) d_L_weight_9 ?_
    refine j_goto (pc := 10) (tgt := 21) C d_L_weight_10 (by decide) ?_
    refine j_iconst (v := 0) (pc := 21) C d_L_weight_21 (by decide) ?_
    exact j_iret (pc := 22) (u := (σ1, f3)) C E hw (Nat.le_of_ble_eq_true rfl) (Nat.le_of_ble_eq_true rfl) d_L_weight_22
set_option maxHeartbeats 4000000 in
set_option maxRecDepth 100000 in
theorem c_L_shift (l : Launch) (hlt : l.stackTraces = false) (G : va_G) (cI cL : ClassId) (ad : Nat → Nat) (o : Nat) (σ : SX) (f : Nat → Int64) (p1 : Int32) (p2 : Int32) (Q : Int32 → SX × (Nat → Int64) → Prop) (hw : wp_L_shift σ f p1 p2 Q) : jh_i l G [(cI, .int), (cL, .long)] y_L_shift b_L_shift 5 [(0, 10, 13, 19), (0, 10, 17, 21)] rm_L_shift [.ref (ad 0), .int p1, .int p2, .ref o] (wO cI cL ad o (σ, f)) (wO cI cL ad o) Q := by
  refine jh_open_i hlt (by decide +kernel) (Nat.le_of_ble_eq_true rfl) ?_
  intro κ hl hG C Z E
  subst hl; subst hG
  unfold wp_L_shift at hw
  refine j_aload_n (pc := 0) C d_L_shift_0 rfl 3 rfl ?_
  refine j_iconst (v := 0) (pc := 1) C d_L_shift_1 (by decide) ?_
  refine j_aload_n (pc := 2) C d_L_shift_2 rfl 0 rfl ?_
  refine j_iload_n (pc := 3) C d_L_shift_3 rfl 1 rfl ?_
  refine j_iload_n (pc := 4) C d_L_shift_4 rfl 2 rfl ?_
  refine jh_callVi (pc := 5) (st := [.int 0, .ref o]) (As := [.int p1, .int p2]) (wc := wX cI cL ad σ) (wr := [(o, .inl (cL, 1, .inr (.inl f)))]) (wf := wX cI cL ad) (wn := fun u => wO cI cL ad o (u, f)) C Z (c_X_shift (jk_l κ) Z.1 (jk_G κ) cI cL ad σ p1 p2 _ _ hw) g_L_27 hdV_X_shift ⟨(Nat.le_of_ble_eq_true rfl), (Nat.le_of_ble_eq_true rfl)⟩ rfl (q0 := 0) rfl rfl rfl [0, 1, 2, 3, 4, 5, 6, 7, 8, 9, 10, 11, 12] [13] rfl rfl (by decide) (by decide) (by decide) rfl (Nat.le_of_ble_eq_true rfl) d_L_shift_5 ⟨(Nat.le_of_ble_eq_true rfl), (Nat.le_of_ble_eq_true rfl)⟩ [1, 2, 3, 4, 5, 6, 7, 8, 9, 10, 11, 12, 13, 0] (by decide) (fun _ => rfl) (fun E1 σ1 hw => ?_) (fun r2 σ1 hw => ?_)
  · rcases hw with ⟨rfl, hw⟩ | ⟨rfl, hw⟩
    · refine ⟨13, ⟨[], ⟨0, 10, 13, 19⟩, [⟨0, 10, 17, 21⟩], "java/lang/IndexOutOfBoundsException", rfl, (fun z hz => (List.not_mem_nil hz).elim), rfl, by decide, k_214, by decide +kernel, rfl⟩, fun q9 => ?_⟩
      refine j_astore (pc := 13) (lv' := [(4, .ref q9), (0, .ref (ad 0)), (1, .int p1), (2, .int p2), (3, .ref o)]) C d_L_shift_13 (Nat.le_of_ble_eq_true rfl) rfl ?_
      refine j_iconst (v := 1) (pc := 15) C d_L_shift_15 (by decide) ?_
      exact j_iret (pc := 16) (u := (σ1, f)) C E hw (Nat.le_of_ble_eq_true rfl) (Nat.le_of_ble_eq_true rfl) d_L_shift_16
    · refine ⟨17, ⟨[⟨0, 10, 13, 19⟩], ⟨0, 10, 17, 21⟩, [], "java/lang/IllegalArgumentException", rfl, (fun z hz => by
        simp only [List.mem_cons, List.not_mem_nil, or_false] at hz
        subst hz
        · exact Or.inr ⟨by decide, "java/lang/IndexOutOfBoundsException", k_214, (Z.2.2.2.2.2.1 ("java/lang/IllegalArgumentException", "java/lang/IndexOutOfBoundsException") (List.mem_of_getElem? (i := 0) rfl))⟩), rfl, by decide, k_215, by decide +kernel, rfl⟩, fun q9 => ?_⟩
      refine j_astore (pc := 17) (lv' := [(4, .ref q9), (0, .ref (ad 0)), (1, .int p1), (2, .int p2), (3, .ref o)]) C d_L_shift_17 (Nat.le_of_ble_eq_true rfl) rfl ?_
      refine j_iconst (v := 2) (pc := 19) C d_L_shift_19 (by decide) ?_
      exact j_iret (pc := 20) (u := (σ1, f)) C E hw (Nat.le_of_ble_eq_true rfl) (Nat.le_of_ble_eq_true rfl) d_L_shift_20
  · refine j_i2l (pc := 8) C d_L_shift_8 ?_
    obtain ⟨f3, e_f3⟩ : ∃ z : Nat → Int64, z = vp_updL f (Int32.toNatClampNeg 0) (Int32.toInt64 r2) := ⟨_, rfl⟩
    have hw := hw f3 e_f3
    refine j_last (pc := 9) (ws' := wO cI cL ad o (σ1, f3)) C 13 1 rfl rfl (by unfold vp_in; decide) (by rw [e_f3]; rfl) d_L_shift_9 ?_
    refine j_goto (pc := 10) (tgt := 21) C d_L_shift_10 (by decide) ?_
    refine j_iconst (v := 0) (pc := 21) C d_L_shift_21 (by decide) ?_
    exact j_iret (pc := 22) (u := (σ1, f3)) C E hw (Nat.le_of_ble_eq_true rfl) (Nat.le_of_ble_eq_true rfl) d_L_shift_22
set_option maxHeartbeats 4000000 in
set_option maxRecDepth 100000 in
theorem c_L_size (l : Launch) (hlt : l.stackTraces = false) (G : va_G) (cI cL : ClassId) (ad : Nat → Nat) (o : Nat) (σ : SX) (f : Nat → Int64) (p1 : Int32) (p2 : Int32) (Q : Int32 → SX × (Nat → Int64) → Prop) (hw : wp_L_size σ f p1 p2 Q) : jh_i l G [(cI, .int), (cL, .long)] y_L_size b_L_size 5 [(0, 10, 13, 19), (0, 10, 17, 21)] rm_L_size [.ref (ad 0), .int p1, .int p2, .ref o] (wO cI cL ad o (σ, f)) (wO cI cL ad o) Q := by
  refine jh_open_i hlt (by decide +kernel) (Nat.le_of_ble_eq_true rfl) ?_
  intro κ hl hG C Z E
  subst hl; subst hG
  unfold wp_L_size at hw
  refine j_aload_n (pc := 0) C d_L_size_0 rfl 3 rfl ?_
  refine j_iconst (v := 0) (pc := 1) C d_L_size_1 (by decide) ?_
  refine j_aload_n (pc := 2) C d_L_size_2 rfl 0 rfl ?_
  refine j_iload_n (pc := 3) C d_L_size_3 rfl 1 rfl ?_
  refine j_iload_n (pc := 4) C d_L_size_4 rfl 2 rfl ?_
  refine jh_callVi (pc := 5) (st := [.int 0, .ref o]) (As := [.int p1, .int p2]) (wc := wX cI cL ad σ) (wr := [(o, .inl (cL, 1, .inr (.inl f)))]) (wf := wX cI cL ad) (wn := fun u => wO cI cL ad o (u, f)) C Z (c_X_size (jk_l κ) Z.1 (jk_G κ) cI cL ad σ p1 p2 _ _ hw) g_L_30 hdV_X_size ⟨(Nat.le_of_ble_eq_true rfl), (Nat.le_of_ble_eq_true rfl)⟩ rfl (q0 := 0) rfl rfl rfl [0, 1, 2, 3, 4, 5, 6, 7, 8, 9, 10, 11, 12] [13] rfl rfl (by decide) (by decide) (by decide) rfl (Nat.le_of_ble_eq_true rfl) d_L_size_5 ⟨(Nat.le_of_ble_eq_true rfl), (Nat.le_of_ble_eq_true rfl)⟩ [1, 2, 3, 4, 5, 6, 7, 8, 9, 10, 11, 12, 13, 0] (by decide) (fun _ => rfl) (fun E1 σ1 hw => ?_) (fun r2 σ1 hw => ?_)
  · rcases hw with ⟨rfl, hw⟩ | ⟨rfl, hw⟩
    · refine ⟨13, ⟨[], ⟨0, 10, 13, 19⟩, [⟨0, 10, 17, 21⟩], "java/lang/IndexOutOfBoundsException", rfl, (fun z hz => (List.not_mem_nil hz).elim), rfl, by decide, k_214, by decide +kernel, rfl⟩, fun q9 => ?_⟩
      refine j_astore (pc := 13) (lv' := [(4, .ref q9), (0, .ref (ad 0)), (1, .int p1), (2, .int p2), (3, .ref o)]) C d_L_size_13 (Nat.le_of_ble_eq_true rfl) rfl ?_
      refine j_iconst (v := 1) (pc := 15) C d_L_size_15 (by decide) ?_
      exact j_iret (pc := 16) (u := (σ1, f)) C E hw (Nat.le_of_ble_eq_true rfl) (Nat.le_of_ble_eq_true rfl) d_L_size_16
    · refine ⟨17, ⟨[⟨0, 10, 13, 19⟩], ⟨0, 10, 17, 21⟩, [], "java/lang/IllegalArgumentException", rfl, (fun z hz => by
        simp only [List.mem_cons, List.not_mem_nil, or_false] at hz
        subst hz
        · exact Or.inr ⟨by decide, "java/lang/IndexOutOfBoundsException", k_214, (Z.2.2.2.2.2.1 ("java/lang/IllegalArgumentException", "java/lang/IndexOutOfBoundsException") (List.mem_of_getElem? (i := 0) rfl))⟩), rfl, by decide, k_215, by decide +kernel, rfl⟩, fun q9 => ?_⟩
      refine j_astore (pc := 17) (lv' := [(4, .ref q9), (0, .ref (ad 0)), (1, .int p1), (2, .int p2), (3, .ref o)]) C d_L_size_17 (Nat.le_of_ble_eq_true rfl) rfl ?_
      refine j_iconst (v := 2) (pc := 19) C d_L_size_19 (by decide) ?_
      exact j_iret (pc := 20) (u := (σ1, f)) C E hw (Nat.le_of_ble_eq_true rfl) (Nat.le_of_ble_eq_true rfl) d_L_size_20
  · refine j_i2l (pc := 8) C d_L_size_8 ?_
    obtain ⟨f3, e_f3⟩ : ∃ z : Nat → Int64, z = vp_updL f (Int32.toNatClampNeg 0) (Int32.toInt64 r2) := ⟨_, rfl⟩
    have hw := hw f3 e_f3
    refine j_last (pc := 9) (ws' := wO cI cL ad o (σ1, f3)) C 13 1 rfl rfl (by unfold vp_in; decide) (by rw [e_f3]; rfl) d_L_size_9 ?_
    refine j_goto (pc := 10) (tgt := 21) C d_L_size_10 (by decide) ?_
    refine j_iconst (v := 0) (pc := 21) C d_L_size_21 (by decide) ?_
    exact j_iret (pc := 22) (u := (σ1, f3)) C E hw (Nat.le_of_ble_eq_true rfl) (Nat.le_of_ble_eq_true rfl) d_L_size_22
set_option maxHeartbeats 4000000 in
set_option maxRecDepth 100000 in
theorem c_L_head (l : Launch) (hlt : l.stackTraces = false) (G : va_G) (cI cL : ClassId) (ad : Nat → Nat) (o : Nat) (σ : SX) (f : Nat → Int64) (p1 : Int32) (p2 : Int32) (Q : Int32 → SX × (Nat → Int64) → Prop) (hw : wp_L_head σ f p1 p2 Q) : jh_i l G [(cI, .int), (cL, .long)] y_L_head b_L_head 5 [(0, 10, 13, 19), (0, 10, 17, 21)] rm_L_head [.ref (ad 0), .int p1, .int p2, .ref o] (wO cI cL ad o (σ, f)) (wO cI cL ad o) Q := by
  refine jh_open_i hlt (by decide +kernel) (Nat.le_of_ble_eq_true rfl) ?_
  intro κ hl hG C Z E
  subst hl; subst hG
  unfold wp_L_head at hw
  refine j_aload_n (pc := 0) C d_L_head_0 rfl 3 rfl ?_
  refine j_iconst (v := 0) (pc := 1) C d_L_head_1 (by decide) ?_
  refine j_aload_n (pc := 2) C d_L_head_2 rfl 0 rfl ?_
  refine j_iload_n (pc := 3) C d_L_head_3 rfl 1 rfl ?_
  refine j_iload_n (pc := 4) C d_L_head_4 rfl 2 rfl ?_
  refine jh_callVi (pc := 5) (st := [.int 0, .ref o]) (As := [.int p1, .int p2]) (wc := wX cI cL ad σ) (wr := [(o, .inl (cL, 1, .inr (.inl f)))]) (wf := wX cI cL ad) (wn := fun u => wO cI cL ad o (u, f)) C Z (c_X_head (jk_l κ) Z.1 (jk_G κ) cI cL ad σ p1 p2 _ _ hw) g_L_33 hdV_X_head ⟨(Nat.le_of_ble_eq_true rfl), (Nat.le_of_ble_eq_true rfl)⟩ rfl (q0 := 0) rfl rfl rfl [0, 1, 2, 3, 4, 5, 6, 7, 8, 9, 10, 11, 12] [13] rfl rfl (by decide) (by decide) (by decide) rfl (Nat.le_of_ble_eq_true rfl) d_L_head_5 ⟨(Nat.le_of_ble_eq_true rfl), (Nat.le_of_ble_eq_true rfl)⟩ [1, 2, 3, 4, 5, 6, 7, 8, 9, 10, 11, 12, 13, 0] (by decide) (fun _ => rfl) (fun E1 σ1 hw => ?_) (fun r2 σ1 hw => ?_)
  · rcases hw with ⟨rfl, hw⟩ | ⟨rfl, hw⟩
    · refine ⟨13, ⟨[], ⟨0, 10, 13, 19⟩, [⟨0, 10, 17, 21⟩], "java/lang/IndexOutOfBoundsException", rfl, (fun z hz => (List.not_mem_nil hz).elim), rfl, by decide, k_214, by decide +kernel, rfl⟩, fun q9 => ?_⟩
      refine j_astore (pc := 13) (lv' := [(4, .ref q9), (0, .ref (ad 0)), (1, .int p1), (2, .int p2), (3, .ref o)]) C d_L_head_13 (Nat.le_of_ble_eq_true rfl) rfl ?_
      refine j_iconst (v := 1) (pc := 15) C d_L_head_15 (by decide) ?_
      exact j_iret (pc := 16) (u := (σ1, f)) C E hw (Nat.le_of_ble_eq_true rfl) (Nat.le_of_ble_eq_true rfl) d_L_head_16
    · refine ⟨17, ⟨[⟨0, 10, 13, 19⟩], ⟨0, 10, 17, 21⟩, [], "java/lang/IllegalArgumentException", rfl, (fun z hz => by
        simp only [List.mem_cons, List.not_mem_nil, or_false] at hz
        subst hz
        · exact Or.inr ⟨by decide, "java/lang/IndexOutOfBoundsException", k_214, (Z.2.2.2.2.2.1 ("java/lang/IllegalArgumentException", "java/lang/IndexOutOfBoundsException") (List.mem_of_getElem? (i := 0) rfl))⟩), rfl, by decide, k_215, by decide +kernel, rfl⟩, fun q9 => ?_⟩
      refine j_astore (pc := 17) (lv' := [(4, .ref q9), (0, .ref (ad 0)), (1, .int p1), (2, .int p2), (3, .ref o)]) C d_L_head_17 (Nat.le_of_ble_eq_true rfl) rfl ?_
      refine j_iconst (v := 2) (pc := 19) C d_L_head_19 (by decide) ?_
      exact j_iret (pc := 20) (u := (σ1, f)) C E hw (Nat.le_of_ble_eq_true rfl) (Nat.le_of_ble_eq_true rfl) d_L_head_20
  · refine j_i2l (pc := 8) C d_L_head_8 ?_
    obtain ⟨f3, e_f3⟩ : ∃ z : Nat → Int64, z = vp_updL f (Int32.toNatClampNeg 0) (Int32.toInt64 r2) := ⟨_, rfl⟩
    have hw := hw f3 e_f3
    refine j_last (pc := 9) (ws' := wO cI cL ad o (σ1, f3)) C 13 1 rfl rfl (by unfold vp_in; decide) (by rw [e_f3]; rfl) d_L_head_9 ?_
    refine j_goto (pc := 10) (tgt := 21) C d_L_head_10 (by decide) ?_
    refine j_iconst (v := 0) (pc := 21) C d_L_head_21 (by decide) ?_
    exact j_iret (pc := 22) (u := (σ1, f3)) C E hw (Nat.le_of_ble_eq_true rfl) (Nat.le_of_ble_eq_true rfl) d_L_head_22
set_option maxHeartbeats 4000000 in
set_option maxRecDepth 100000 in
theorem c_L_hull (l : Launch) (hlt : l.stackTraces = false) (G : va_G) (cI cL : ClassId) (ad : Nat → Nat) (o : Nat) (σ : SX) (f : Nat → Int64) (p1 : Int32) (p2 : Int32) (Q : Int32 → SX × (Nat → Int64) → Prop) (hw : wp_L_hull σ f p1 p2 Q) : jh_i l G [(cI, .int), (cL, .long)] y_L_hull b_L_hull 5 [(0, 17, 20, 19)] rm_L_hull [.ref (ad 0), .int p1, .int p2, .ref o] (wO cI cL ad o (σ, f)) (wO cI cL ad o) Q := by
  refine jh_open_i hlt (by decide +kernel) (Nat.le_of_ble_eq_true rfl) ?_
  intro κ hl hG C Z E
  subst hl; subst hG
  unfold wp_L_hull at hw
  refine j_aload_n (pc := 0) C d_L_hull_0 rfl 3 rfl ?_
  refine j_iconst (v := 0) (pc := 1) C d_L_hull_1 (by decide) ?_
  refine j_aload_n (pc := 2) C d_L_hull_2 rfl 0 rfl ?_
  refine j_iload_n (pc := 3) C d_L_hull_3 rfl 1 rfl ?_
  refine j_iload_n (pc := 4) C d_L_hull_4 rfl 2 rfl ?_
  refine jh_callVi (pc := 5) (st := [.int 0, .ref o]) (As := [.int p1, .int p2]) (wc := wX cI cL ad σ) (wr := [(o, .inl (cL, 1, .inr (.inl f)))]) (wf := wX cI cL ad) (wn := fun u => wO cI cL ad o (u, f)) C Z (c_X_hull (jk_l κ) Z.1 (jk_G κ) cI cL ad σ p1 p2 _ _ hw) g_L_36 hdV_X_hull ⟨(Nat.le_of_ble_eq_true rfl), (Nat.le_of_ble_eq_true rfl)⟩ rfl (q0 := 0) rfl rfl rfl [0, 1, 2, 3, 4, 5, 6, 7, 8, 9, 10, 11, 12] [13] rfl rfl (by decide) (by decide) (by decide) rfl (Nat.le_of_ble_eq_true rfl) d_L_hull_5 ⟨(Nat.le_of_ble_eq_true rfl), (Nat.le_of_ble_eq_true rfl)⟩ [1, 2, 3, 4, 5, 6, 7, 8, 9, 10, 11, 12, 13, 0] (by decide) (fun _ => rfl) (fun E1 σ1 hw => ?_) (fun r2 σ1 hw => ?_)
  · obtain ⟨rfl, hw⟩ := hw
    refine ⟨20, ⟨[], ⟨0, 17, 20, 19⟩, [], "java/lang/IndexOutOfBoundsException", rfl, (fun z hz => (List.not_mem_nil hz).elim), rfl, by decide, k_214, by decide +kernel, rfl⟩, fun q9 => ?_⟩
    refine j_astore (pc := 20) (lv' := [(4, .ref q9), (0, .ref (ad 0)), (1, .int p1), (2, .int p2), (3, .ref o)]) C d_L_hull_20 (Nat.le_of_ble_eq_true rfl) rfl ?_
    refine j_iconst (v := 1) (pc := 22) C d_L_hull_22 (by decide) ?_
    exact j_iret (pc := 23) (u := (σ1, f)) C E hw (Nat.le_of_ble_eq_true rfl) (Nat.le_of_ble_eq_true rfl) d_L_hull_23
  · refine j_if_eq (pc := 8) (tgt := 15) C d_L_hull_8 (by decide) (fun c3 => ?_) (fun c3 => ?_)
    · have hw := hw.1 c3
      refine j_lconst (v := 0) (pc := 15) C d_L_hull_15 (by decide) ?_
      obtain ⟨f4, e_f4⟩ : ∃ z : Nat → Int64, z = vp_updL f (Int32.toNatClampNeg 0) 0 := ⟨_, rfl⟩
      have hw := hw f4 e_f4
      refine j_last (pc := 16) (ws' := wO cI cL ad o (σ1, f4)) C 13 1 rfl rfl (by unfold vp_in; decide) (by rw [e_f4]; rfl) d_L_hull_16 ?_
      refine j_goto (pc := 17) (tgt := 24) C d_L_hull_17 (by decide) ?_
      refine j_iconst (v := 0) (pc := 24) C d_L_hull_24 (by decide) ?_
      exact j_iret (pc := 25) (u := (σ1, f4)) C E hw (Nat.le_of_ble_eq_true rfl) (Nat.le_of_ble_eq_true rfl) d_L_hull_25
    · have hw := hw.2 c3
      refine j_lconst (v := 1) (pc := 11) C d_L_hull_11 (by decide) ?_
      refine j_goto (pc := 12) (tgt := 16) C d_L_hull_12 (by decide) ?_
      obtain ⟨f5, e_f5⟩ : ∃ z : Nat → Int64, z = vp_updL f (Int32.toNatClampNeg 0) 1 := ⟨_, rfl⟩
      have hw := hw f5 e_f5
      refine j_last (pc := 16) (ws' := wO cI cL ad o (σ1, f5)) C 13 1 rfl rfl (by unfold vp_in; decide) (by rw [e_f5]; rfl) d_L_hull_16 ?_
      refine j_goto (pc := 17) (tgt := 24) C d_L_hull_17 (by decide) ?_
      refine j_iconst (v := 0) (pc := 24) C d_L_hull_24 (by decide) ?_
      exact j_iret (pc := 25) (u := (σ1, f5)) C E hw (Nat.le_of_ble_eq_true rfl) (Nat.le_of_ble_eq_true rfl) d_L_hull_25
set_option maxHeartbeats 4000000 in
set_option maxRecDepth 100000 in
theorem c_L_slope (l : Launch) (hlt : l.stackTraces = false) (G : va_G) (cI cL : ClassId) (ad : Nat → Nat) (o : Nat) (σ : SX) (f : Nat → Int64) (p1 : Int32) (p2 : Int32) (p3 : Int32) (Q : Int32 → SX × (Nat → Int64) → Prop) (hw : wp_L_slope σ f p1 p2 p3 Q) : jh_i l G [(cI, .int), (cL, .long)] y_L_slope b_L_slope 6 [(0, 11, 14, 19)] rm_L_slope [.ref (ad 0), .int p1, .int p2, .int p3, .ref o] (wO cI cL ad o (σ, f)) (wO cI cL ad o) Q := by
  refine jh_open_i hlt (by decide +kernel) (Nat.le_of_ble_eq_true rfl) ?_
  intro κ hl hG C Z E
  subst hl; subst hG
  unfold wp_L_slope at hw
  refine j_aload (pc := 0) C d_L_slope_0 4 rfl ?_
  refine j_iconst (v := 0) (pc := 2) C d_L_slope_2 (by decide) ?_
  refine j_aload_n (pc := 3) C d_L_slope_3 rfl 0 rfl ?_
  refine j_iload_n (pc := 4) C d_L_slope_4 rfl 1 rfl ?_
  refine j_iload_n (pc := 5) C d_L_slope_5 rfl 2 rfl ?_
  refine j_iload_n (pc := 6) C d_L_slope_6 rfl 3 rfl ?_
  refine jh_callVl (pc := 7) (st := [.int 0, .ref o]) (As := [.int p1, .int p2, .int p3]) (wc := wX cI cL ad σ) (wr := [(o, .inl (cL, 1, .inr (.inl f)))]) (wf := wX cI cL ad) (wn := fun u => wO cI cL ad o (u, f)) C Z (c_X_slope (jk_l κ) Z.1 (jk_G κ) cI cL ad σ p1 p2 p3 _ _ hw) g_L_40 hdV_X_slope ⟨(Nat.le_of_ble_eq_true rfl), (Nat.le_of_ble_eq_true rfl)⟩ rfl (q0 := 0) rfl rfl rfl [0, 1, 2, 3, 4, 5, 6, 7, 8, 9, 10, 11, 12] [13] rfl rfl (by decide) (by decide) (by decide) rfl (Nat.le_of_ble_eq_true rfl) d_L_slope_7 ⟨(Nat.le_of_ble_eq_true rfl), (Nat.le_of_ble_eq_true rfl)⟩ [1, 2, 3, 4, 5, 6, 7, 8, 9, 10, 11, 12, 13, 0] (by decide) (fun _ => rfl) (fun E1 σ1 hw => ?_) (fun r2 σ1 hw => ?_)
  · obtain ⟨rfl, hw⟩ := hw
    refine ⟨14, ⟨[], ⟨0, 11, 14, 19⟩, [], "java/lang/IndexOutOfBoundsException", rfl, (fun z hz => (List.not_mem_nil hz).elim), rfl, by decide, k_214, by decide +kernel, rfl⟩, fun q9 => ?_⟩
    refine j_astore (pc := 14) (lv' := [(5, .ref q9), (0, .ref (ad 0)), (1, .int p1), (2, .int p2), (3, .int p3), (4, .ref o)]) C d_L_slope_14 (Nat.le_of_ble_eq_true rfl) rfl ?_
    refine j_iconst (v := 1) (pc := 16) C d_L_slope_16 (by decide) ?_
    exact j_iret (pc := 17) (u := (σ1, f)) C E hw (Nat.le_of_ble_eq_true rfl) (Nat.le_of_ble_eq_true rfl) d_L_slope_17
  · obtain ⟨f3, e_f3⟩ : ∃ z : Nat → Int64, z = vp_updL f (Int32.toNatClampNeg 0) r2 := ⟨_, rfl⟩
    have hw := hw f3 e_f3
    refine j_last (pc := 10) (ws' := wO cI cL ad o (σ1, f3)) C 13 1 rfl rfl (by unfold vp_in; decide) (by rw [e_f3]; rfl) d_L_slope_10 ?_
    refine j_goto (pc := 11) (tgt := 18) C d_L_slope_11 (by decide) ?_
    refine j_iconst (v := 0) (pc := 18) C d_L_slope_18 (by decide) ?_
    exact j_iret (pc := 19) (u := (σ1, f3)) C E hw (Nat.le_of_ble_eq_true rfl) (Nat.le_of_ble_eq_true rfl) d_L_slope_19
set_option maxHeartbeats 4000000 in
set_option maxRecDepth 100000 in
theorem c_L_at (l : Launch) (hlt : l.stackTraces = false) (G : va_G) (cI cL : ClassId) (ad : Nat → Nat) (o : Nat) (σ : SX) (f : Nat → Int64) (p1 : Int32) (p2 : Int32) (Q : Int32 → SX × (Nat → Int64) → Prop) (hw : wp_L_at σ f p1 p2 Q) : jh_i l G [(cI, .int), (cL, .long)] y_L_at b_L_at 5 [(0, 10, 13, 19), (0, 10, 17, 21), (0, 10, 21, 47)] rm_L_at [.ref (ad 0), .int p1, .int p2, .ref o] (wO cI cL ad o (σ, f)) (wO cI cL ad o) Q := by
  refine jh_open_i hlt (by decide +kernel) (Nat.le_of_ble_eq_true rfl) ?_
  intro κ hl hG C Z E
  subst hl; subst hG
  unfold wp_L_at at hw
  refine j_aload_n (pc := 0) C d_L_at_0 rfl 3 rfl ?_
  refine j_iconst (v := 0) (pc := 1) C d_L_at_1 (by decide) ?_
  refine j_aload_n (pc := 2) C d_L_at_2 rfl 0 rfl ?_
  refine j_iload_n (pc := 3) C d_L_at_3 rfl 1 rfl ?_
  refine j_iload_n (pc := 4) C d_L_at_4 rfl 2 rfl ?_
  refine jh_callVi (pc := 5) (st := [.int 0, .ref o]) (As := [.int p1, .int p2]) (wc := wX cI cL ad σ) (wr := [(o, .inl (cL, 1, .inr (.inl f)))]) (wf := wX cI cL ad) (wn := fun u => wO cI cL ad o (u, f)) C Z (c_X_at (jk_l κ) Z.1 (jk_G κ) cI cL ad σ p1 p2 _ _ hw) g_L_44 hdV_X_at ⟨(Nat.le_of_ble_eq_true rfl), (Nat.le_of_ble_eq_true rfl)⟩ rfl (q0 := 0) rfl rfl rfl [0, 1, 2, 3, 4, 5, 6, 7, 8, 9, 10, 11, 12] [13] rfl rfl (by decide) (by decide) (by decide) rfl (Nat.le_of_ble_eq_true rfl) d_L_at_5 ⟨(Nat.le_of_ble_eq_true rfl), (Nat.le_of_ble_eq_true rfl)⟩ [1, 2, 3, 4, 5, 6, 7, 8, 9, 10, 11, 12, 13, 0] (by decide) (fun _ => rfl) (fun E1 σ1 hw => ?_) (fun r2 σ1 hw => ?_)
  · rcases hw with ⟨rfl, hw⟩ | ⟨rfl, hw⟩ | ⟨rfl, hw⟩
    · refine ⟨13, ⟨[], ⟨0, 10, 13, 19⟩, [⟨0, 10, 17, 21⟩, ⟨0, 10, 21, 47⟩], "java/lang/IndexOutOfBoundsException", rfl, (fun z hz => (List.not_mem_nil hz).elim), rfl, by decide, k_214, by decide +kernel, rfl⟩, fun q9 => ?_⟩
      refine j_astore (pc := 13) (lv' := [(4, .ref q9), (0, .ref (ad 0)), (1, .int p1), (2, .int p2), (3, .ref o)]) C d_L_at_13 (Nat.le_of_ble_eq_true rfl) rfl ?_
      refine j_iconst (v := 1) (pc := 15) C d_L_at_15 (by decide) ?_
      exact j_iret (pc := 16) (u := (σ1, f)) C E hw (Nat.le_of_ble_eq_true rfl) (Nat.le_of_ble_eq_true rfl) d_L_at_16
    · refine ⟨17, ⟨[⟨0, 10, 13, 19⟩], ⟨0, 10, 17, 21⟩, [⟨0, 10, 21, 47⟩], "java/lang/IllegalArgumentException", rfl, (fun z hz => by
        simp only [List.mem_cons, List.not_mem_nil, or_false] at hz
        subst hz
        · exact Or.inr ⟨by decide, "java/lang/IndexOutOfBoundsException", k_214, (Z.2.2.2.2.2.1 ("java/lang/IllegalArgumentException", "java/lang/IndexOutOfBoundsException") (List.mem_of_getElem? (i := 0) rfl))⟩), rfl, by decide, k_215, by decide +kernel, rfl⟩, fun q9 => ?_⟩
      refine j_astore (pc := 17) (lv' := [(4, .ref q9), (0, .ref (ad 0)), (1, .int p1), (2, .int p2), (3, .ref o)]) C d_L_at_17 (Nat.le_of_ble_eq_true rfl) rfl ?_
      refine j_iconst (v := 2) (pc := 19) C d_L_at_19 (by decide) ?_
      exact j_iret (pc := 20) (u := (σ1, f)) C E hw (Nat.le_of_ble_eq_true rfl) (Nat.le_of_ble_eq_true rfl) d_L_at_20
    · refine ⟨21, ⟨[⟨0, 10, 13, 19⟩, ⟨0, 10, 17, 21⟩], ⟨0, 10, 21, 47⟩, [], "java/lang/IllegalStateException", rfl, (fun z hz => by
        simp only [List.mem_cons, List.not_mem_nil, or_false] at hz
        rcases hz with rfl | rfl
        · exact Or.inr ⟨by decide, "java/lang/IndexOutOfBoundsException", k_214, (Z.2.2.2.2.2.1 ("java/lang/IllegalStateException", "java/lang/IndexOutOfBoundsException") (List.mem_of_getElem? (i := 3) rfl))⟩
        · exact Or.inr ⟨by decide, "java/lang/IllegalArgumentException", k_215, (Z.2.2.2.2.2.1 ("java/lang/IllegalStateException", "java/lang/IllegalArgumentException") (List.mem_of_getElem? (i := 4) rfl))⟩), rfl, by decide, k_244, by decide +kernel, rfl⟩, fun q9 => ?_⟩
      refine j_astore (pc := 21) (lv' := [(4, .ref q9), (0, .ref (ad 0)), (1, .int p1), (2, .int p2), (3, .ref o)]) C d_L_at_21 (Nat.le_of_ble_eq_true rfl) rfl ?_
      refine j_iconst (v := 3) (pc := 23) C d_L_at_23 (by decide) ?_
      exact j_iret (pc := 24) (u := (σ1, f)) C E hw (Nat.le_of_ble_eq_true rfl) (Nat.le_of_ble_eq_true rfl) d_L_at_24
  · refine j_i2l (pc := 8) C d_L_at_8 ?_
    obtain ⟨f3, e_f3⟩ : ∃ z : Nat → Int64, z = vp_updL f (Int32.toNatClampNeg 0) (Int32.toInt64 r2) := ⟨_, rfl⟩
    have hw := hw f3 e_f3
    refine j_last (pc := 9) (ws' := wO cI cL ad o (σ1, f3)) C 13 1 rfl rfl (by unfold vp_in; decide) (by rw [e_f3]; rfl) d_L_at_9 ?_
    refine j_goto (pc := 10) (tgt := 25) C d_L_at_10 (by decide) ?_
    refine j_iconst (v := 0) (pc := 25) C d_L_at_25 (by decide) ?_
    exact j_iret (pc := 26) (u := (σ1, f3)) C E hw (Nat.le_of_ble_eq_true rfl) (Nat.le_of_ble_eq_true rfl) d_L_at_26
set_option maxHeartbeats 4000000 in
set_option maxRecDepth 100000 in
theorem c_L_passes (l : Launch) (hlt : l.stackTraces = false) (G : va_G) (cI cL : ClassId) (ad : Nat → Nat) (o : Nat) (σ : SX) (f : Nat → Int64) (p1 : Int32) (p2 : Int32) (Q : Int32 → SX × (Nat → Int64) → Prop) (hw : wp_L_passes σ f p1 p2 Q) : jh_i l G [(cI, .int), (cL, .long)] y_L_passes b_L_passes 5 [(0, 10, 13, 47), (0, 10, 17, 19)] rm_L_passes [.ref (ad 0), .int p1, .int p2, .ref o] (wO cI cL ad o (σ, f)) (wO cI cL ad o) Q := by
  refine jh_open_i hlt (by decide +kernel) (Nat.le_of_ble_eq_true rfl) ?_
  intro κ hl hG C Z E
  subst hl; subst hG
  unfold wp_L_passes at hw
  refine j_aload_n (pc := 0) C d_L_passes_0 rfl 3 rfl ?_
  refine j_iconst (v := 0) (pc := 1) C d_L_passes_1 (by decide) ?_
  refine j_aload_n (pc := 2) C d_L_passes_2 rfl 0 rfl ?_
  refine j_iload_n (pc := 3) C d_L_passes_3 rfl 1 rfl ?_
  refine j_iload_n (pc := 4) C d_L_passes_4 rfl 2 rfl ?_
  refine jh_callVi (pc := 5) (st := [.int 0, .ref o]) (As := [.int p1, .int p2]) (wc := wX cI cL ad σ) (wr := [(o, .inl (cL, 1, .inr (.inl f)))]) (wf := wX cI cL ad) (wn := fun u => wO cI cL ad o (u, f)) C Z (c_X_passes (jk_l κ) Z.1 (jk_G κ) cI cL ad σ p1 p2 _ _ hw) g_L_49 hdV_X_passes ⟨(Nat.le_of_ble_eq_true rfl), (Nat.le_of_ble_eq_true rfl)⟩ rfl (q0 := 0) rfl rfl rfl [0, 1, 2, 3, 4, 5, 6, 7, 8, 9, 10, 11, 12] [13] rfl rfl (by decide) (by decide) (by decide) rfl (Nat.le_of_ble_eq_true rfl) d_L_passes_5 ⟨(Nat.le_of_ble_eq_true rfl), (Nat.le_of_ble_eq_true rfl)⟩ [1, 2, 3, 4, 5, 6, 7, 8, 9, 10, 11, 12, 13, 0] (by decide) (fun _ => rfl) (fun E1 σ1 hw => ?_) (fun r2 σ1 hw => ?_)
  · rcases hw with ⟨rfl, hw⟩ | ⟨rfl, hw⟩
    · refine ⟨13, ⟨[], ⟨0, 10, 13, 47⟩, [⟨0, 10, 17, 19⟩], "java/lang/IllegalStateException", rfl, (fun z hz => (List.not_mem_nil hz).elim), rfl, by decide, k_244, by decide +kernel, rfl⟩, fun q9 => ?_⟩
      refine j_astore (pc := 13) (lv' := [(4, .ref q9), (0, .ref (ad 0)), (1, .int p1), (2, .int p2), (3, .ref o)]) C d_L_passes_13 (Nat.le_of_ble_eq_true rfl) rfl ?_
      refine j_iconst (v := 1) (pc := 15) C d_L_passes_15 (by decide) ?_
      exact j_iret (pc := 16) (u := (σ1, f)) C E hw (Nat.le_of_ble_eq_true rfl) (Nat.le_of_ble_eq_true rfl) d_L_passes_16
    · refine ⟨17, ⟨[⟨0, 10, 13, 47⟩], ⟨0, 10, 17, 19⟩, [], "java/lang/IndexOutOfBoundsException", rfl, (fun z hz => by
        simp only [List.mem_cons, List.not_mem_nil, or_false] at hz
        subst hz
        · exact Or.inr ⟨by decide, "java/lang/IllegalStateException", k_244, (Z.2.2.2.2.2.1 ("java/lang/IndexOutOfBoundsException", "java/lang/IllegalStateException") (List.mem_of_getElem? (i := 5) rfl))⟩), rfl, by decide, k_214, by decide +kernel, rfl⟩, fun q9 => ?_⟩
      refine j_astore (pc := 17) (lv' := [(4, .ref q9), (0, .ref (ad 0)), (1, .int p1), (2, .int p2), (3, .ref o)]) C d_L_passes_17 (Nat.le_of_ble_eq_true rfl) rfl ?_
      refine j_iconst (v := 2) (pc := 19) C d_L_passes_19 (by decide) ?_
      exact j_iret (pc := 20) (u := (σ1, f)) C E hw (Nat.le_of_ble_eq_true rfl) (Nat.le_of_ble_eq_true rfl) d_L_passes_20
  · refine j_i2l (pc := 8) C d_L_passes_8 ?_
    obtain ⟨f3, e_f3⟩ : ∃ z : Nat → Int64, z = vp_updL f (Int32.toNatClampNeg 0) (Int32.toInt64 r2) := ⟨_, rfl⟩
    have hw := hw f3 e_f3
    refine j_last (pc := 9) (ws' := wO cI cL ad o (σ1, f3)) C 13 1 rfl rfl (by unfold vp_in; decide) (by rw [e_f3]; rfl) d_L_passes_9 ?_
    refine j_goto (pc := 10) (tgt := 21) C d_L_passes_10 (by decide) ?_
    refine j_iconst (v := 0) (pc := 21) C d_L_passes_21 (by decide) ?_
    exact j_iret (pc := 22) (u := (σ1, f3)) C E hw (Nat.le_of_ble_eq_true rfl) (Nat.le_of_ble_eq_true rfl) d_L_passes_22
set_option maxHeartbeats 4000000 in
set_option maxRecDepth 100000 in
theorem c_L_bytes (l : Launch) (hlt : l.stackTraces = false) (G : va_G) (cI cL : ClassId) (ad : Nat → Nat) (o : Nat) (σ : SX) (f : Nat → Int64) (p1 : Int32) (Q : Int32 → SX × (Nat → Int64) → Prop) (hw : wp_L_bytes σ f p1 Q) : jh_i l G [(cI, .int), (cL, .long)] y_L_bytes b_L_bytes 4 [(0, 9, 12, 47), (0, 9, 15, 19)] rm_L_bytes [.ref (ad 0), .int p1, .ref o] (wO cI cL ad o (σ, f)) (wO cI cL ad o) Q := by
  refine jh_open_i hlt (by decide +kernel) (Nat.le_of_ble_eq_true rfl) ?_
  intro κ hl hG C Z E
  subst hl; subst hG
  unfold wp_L_bytes at hw
  refine j_aload_n (pc := 0) C d_L_bytes_0 rfl 2 rfl ?_
  refine j_iconst (v := 0) (pc := 1) C d_L_bytes_1 (by decide) ?_
  refine j_aload_n (pc := 2) C d_L_bytes_2 rfl 0 rfl ?_
  refine j_iload_n (pc := 3) C d_L_bytes_3 rfl 1 rfl ?_
  refine jh_callVi (pc := 4) (st := [.int 0, .ref o]) (As := [.int p1]) (wc := wX cI cL ad σ) (wr := [(o, .inl (cL, 1, .inr (.inl f)))]) (wf := wX cI cL ad) (wn := fun u => wO cI cL ad o (u, f)) C Z (c_X_bytes (jk_l κ) Z.1 (jk_G κ) cI cL ad σ p1 _ _ hw) g_L_52 hdV_X_bytes ⟨(Nat.le_of_ble_eq_true rfl), (Nat.le_of_ble_eq_true rfl)⟩ rfl (q0 := 0) rfl rfl rfl [0, 1, 2, 3, 4, 5, 6, 7, 8, 9, 10, 11, 12] [13] rfl rfl (by decide) (by decide) (by decide) rfl (Nat.le_of_ble_eq_true rfl) d_L_bytes_4 ⟨(Nat.le_of_ble_eq_true rfl), (Nat.le_of_ble_eq_true rfl)⟩ [1, 2, 3, 4, 5, 6, 7, 8, 9, 10, 11, 12, 13, 0] (by decide) (fun _ => rfl) (fun E1 σ1 hw => ?_) (fun r2 σ1 hw => ?_)
  · rcases hw with ⟨rfl, hw⟩ | ⟨rfl, hw⟩
    · refine ⟨12, ⟨[], ⟨0, 9, 12, 47⟩, [⟨0, 9, 15, 19⟩], "java/lang/IllegalStateException", rfl, (fun z hz => (List.not_mem_nil hz).elim), rfl, by decide, k_244, by decide +kernel, rfl⟩, fun q9 => ?_⟩
      refine j_astore_n (pc := 12) (lv' := [(3, .ref q9), (0, .ref (ad 0)), (1, .int p1), (2, .ref o)]) C d_L_bytes_12 rfl (Nat.le_of_ble_eq_true rfl) rfl ?_
      refine j_iconst (v := 1) (pc := 13) C d_L_bytes_13 (by decide) ?_
      exact j_iret (pc := 14) (u := (σ1, f)) C E hw (Nat.le_of_ble_eq_true rfl) (Nat.le_of_ble_eq_true rfl) d_L_bytes_14
    · refine ⟨15, ⟨[⟨0, 9, 12, 47⟩], ⟨0, 9, 15, 19⟩, [], "java/lang/IndexOutOfBoundsException", rfl, (fun z hz => by
        simp only [List.mem_cons, List.not_mem_nil, or_false] at hz
        subst hz
        · exact Or.inr ⟨by decide, "java/lang/IllegalStateException", k_244, (Z.2.2.2.2.2.1 ("java/lang/IndexOutOfBoundsException", "java/lang/IllegalStateException") (List.mem_of_getElem? (i := 5) rfl))⟩), rfl, by decide, k_214, by decide +kernel, rfl⟩, fun q9 => ?_⟩
      refine j_astore_n (pc := 15) (lv' := [(3, .ref q9), (0, .ref (ad 0)), (1, .int p1), (2, .ref o)]) C d_L_bytes_15 rfl (Nat.le_of_ble_eq_true rfl) rfl ?_
      refine j_iconst (v := 2) (pc := 16) C d_L_bytes_16 (by decide) ?_
      exact j_iret (pc := 17) (u := (σ1, f)) C E hw (Nat.le_of_ble_eq_true rfl) (Nat.le_of_ble_eq_true rfl) d_L_bytes_17
  · refine j_i2l (pc := 7) C d_L_bytes_7 ?_
    obtain ⟨f3, e_f3⟩ : ∃ z : Nat → Int64, z = vp_updL f (Int32.toNatClampNeg 0) (Int32.toInt64 r2) := ⟨_, rfl⟩
    have hw := hw f3 e_f3
    refine j_last (pc := 8) (ws' := wO cI cL ad o (σ1, f3)) C 13 1 rfl rfl (by unfold vp_in; decide) (by rw [e_f3]; rfl) d_L_bytes_8 ?_
    refine j_goto (pc := 9) (tgt := 18) C d_L_bytes_9 (by decide) ?_
    refine j_iconst (v := 0) (pc := 18) C d_L_bytes_18 (by decide) ?_
    exact j_iret (pc := 19) (u := (σ1, f3)) C E hw (Nat.le_of_ble_eq_true rfl) (Nat.le_of_ble_eq_true rfl) d_L_bytes_19
set_option maxHeartbeats 4000000 in
set_option maxRecDepth 100000 in
theorem c_L_gained (l : Launch) (hlt : l.stackTraces = false) (G : va_G) (cI cL : ClassId) (ad : Nat → Nat) (o : Nat) (σ : SX) (f : Nat → Int64) (p1 : Int32) (Q : Int32 → SX × (Nat → Int64) → Prop) (hw : wp_L_gained σ f p1 Q) : jh_i l G [(cI, .int), (cL, .long)] y_L_gained b_L_gained 4 [(0, 8, 11, 47), (0, 8, 14, 19)] rm_L_gained [.ref (ad 0), .int p1, .ref o] (wO cI cL ad o (σ, f)) (wO cI cL ad o) Q := by
  refine jh_open_i hlt (by decide +kernel) (Nat.le_of_ble_eq_true rfl) ?_
  intro κ hl hG C Z E
  subst hl; subst hG
  unfold wp_L_gained at hw
  refine j_aload_n (pc := 0) C d_L_gained_0 rfl 2 rfl ?_
  refine j_iconst (v := 0) (pc := 1) C d_L_gained_1 (by decide) ?_
  refine j_aload_n (pc := 2) C d_L_gained_2 rfl 0 rfl ?_
  refine j_iload_n (pc := 3) C d_L_gained_3 rfl 1 rfl ?_
  refine jh_callVl (pc := 4) (st := [.int 0, .ref o]) (As := [.int p1]) (wc := wX cI cL ad σ) (wr := [(o, .inl (cL, 1, .inr (.inl f)))]) (wf := wX cI cL ad) (wn := fun u => wO cI cL ad o (u, f)) C Z (c_X_gained (jk_l κ) Z.1 (jk_G κ) cI cL ad σ p1 _ _ hw) g_L_56 hdV_X_gained ⟨(Nat.le_of_ble_eq_true rfl), (Nat.le_of_ble_eq_true rfl)⟩ rfl (q0 := 0) rfl rfl rfl [0, 1, 2, 3, 4, 5, 6, 7, 8, 9, 10, 11, 12] [13] rfl rfl (by decide) (by decide) (by decide) rfl (Nat.le_of_ble_eq_true rfl) d_L_gained_4 ⟨(Nat.le_of_ble_eq_true rfl), (Nat.le_of_ble_eq_true rfl)⟩ [1, 2, 3, 4, 5, 6, 7, 8, 9, 10, 11, 12, 13, 0] (by decide) (fun _ => rfl) (fun E1 σ1 hw => ?_) (fun r2 σ1 hw => ?_)
  · rcases hw with ⟨rfl, hw⟩ | ⟨rfl, hw⟩
    · refine ⟨11, ⟨[], ⟨0, 8, 11, 47⟩, [⟨0, 8, 14, 19⟩], "java/lang/IllegalStateException", rfl, (fun z hz => (List.not_mem_nil hz).elim), rfl, by decide, k_244, by decide +kernel, rfl⟩, fun q9 => ?_⟩
      refine j_astore_n (pc := 11) (lv' := [(3, .ref q9), (0, .ref (ad 0)), (1, .int p1), (2, .ref o)]) C d_L_gained_11 rfl (Nat.le_of_ble_eq_true rfl) rfl ?_
      refine j_iconst (v := 1) (pc := 12) C d_L_gained_12 (by decide) ?_
      exact j_iret (pc := 13) (u := (σ1, f)) C E hw (Nat.le_of_ble_eq_true rfl) (Nat.le_of_ble_eq_true rfl) d_L_gained_13
    · refine ⟨14, ⟨[⟨0, 8, 11, 47⟩], ⟨0, 8, 14, 19⟩, [], "java/lang/IndexOutOfBoundsException", rfl, (fun z hz => by
        simp only [List.mem_cons, List.not_mem_nil, or_false] at hz
        subst hz
        · exact Or.inr ⟨by decide, "java/lang/IllegalStateException", k_244, (Z.2.2.2.2.2.1 ("java/lang/IndexOutOfBoundsException", "java/lang/IllegalStateException") (List.mem_of_getElem? (i := 5) rfl))⟩), rfl, by decide, k_214, by decide +kernel, rfl⟩, fun q9 => ?_⟩
      refine j_astore_n (pc := 14) (lv' := [(3, .ref q9), (0, .ref (ad 0)), (1, .int p1), (2, .ref o)]) C d_L_gained_14 rfl (Nat.le_of_ble_eq_true rfl) rfl ?_
      refine j_iconst (v := 2) (pc := 15) C d_L_gained_15 (by decide) ?_
      exact j_iret (pc := 16) (u := (σ1, f)) C E hw (Nat.le_of_ble_eq_true rfl) (Nat.le_of_ble_eq_true rfl) d_L_gained_16
  · obtain ⟨f3, e_f3⟩ : ∃ z : Nat → Int64, z = vp_updL f (Int32.toNatClampNeg 0) r2 := ⟨_, rfl⟩
    have hw := hw f3 e_f3
    refine j_last (pc := 7) (ws' := wO cI cL ad o (σ1, f3)) C 13 1 rfl rfl (by unfold vp_in; decide) (by rw [e_f3]; rfl) d_L_gained_7 ?_
    refine j_goto (pc := 8) (tgt := 17) C d_L_gained_8 (by decide) ?_
    refine j_iconst (v := 0) (pc := 17) C d_L_gained_17 (by decide) ?_
    exact j_iret (pc := 18) (u := (σ1, f3)) C E hw (Nat.le_of_ble_eq_true rfl) (Nat.le_of_ble_eq_true rfl) d_L_gained_18
set_option maxHeartbeats 4000000 in
set_option maxRecDepth 100000 in
theorem c_L_least (l : Launch) (hlt : l.stackTraces = false) (G : va_G) (cI cL : ClassId) (ad : Nat → Nat) (o : Nat) (σ : SX) (f : Nat → Int64) (p1 : Int32) (Q : Int32 → SX × (Nat → Int64) → Prop) (hw : wp_L_least σ f p1 Q) : jh_i l G [(cI, .int), (cL, .long)] y_L_least b_L_least 4 [(0, 9, 12, 21)] rm_L_least [.ref (ad 0), .int p1, .ref o] (wO cI cL ad o (σ, f)) (wO cI cL ad o) Q := by
  refine jh_open_i hlt (by decide +kernel) (Nat.le_of_ble_eq_true rfl) ?_
  intro κ hl hG C Z E
  subst hl; subst hG
  unfold wp_L_least at hw
  refine j_aload_n (pc := 0) C d_L_least_0 rfl 2 rfl ?_
  refine j_iconst (v := 0) (pc := 1) C d_L_least_1 (by decide) ?_
  refine j_aload_n (pc := 2) C d_L_least_2 rfl 0 rfl ?_
  refine j_iload_n (pc := 3) C d_L_least_3 rfl 1 rfl ?_
  refine jh_callVi (pc := 4) (st := [.int 0, .ref o]) (As := [.int p1]) (wc := wX cI cL ad σ) (wr := [(o, .inl (cL, 1, .inr (.inl f)))]) (wf := wX cI cL ad) (wn := fun u => wO cI cL ad o (u, f)) C Z (c_X_least (jk_l κ) Z.1 (jk_G κ) cI cL ad σ p1 _ _ hw) g_L_60 hdV_X_least ⟨(Nat.le_of_ble_eq_true rfl), (Nat.le_of_ble_eq_true rfl)⟩ rfl (q0 := 0) rfl rfl rfl [0, 1, 2, 3, 4, 5, 6, 7, 8, 9, 10, 11, 12] [13] rfl rfl (by decide) (by decide) (by decide) rfl (Nat.le_of_ble_eq_true rfl) d_L_least_4 ⟨(Nat.le_of_ble_eq_true rfl), (Nat.le_of_ble_eq_true rfl)⟩ [1, 2, 3, 4, 5, 6, 7, 8, 9, 10, 11, 12, 13, 0] (by decide) (fun _ => rfl) (fun E1 σ1 hw => ?_) (fun r2 σ1 hw => ?_)
  · obtain ⟨rfl, hw⟩ := hw
    refine ⟨12, ⟨[], ⟨0, 9, 12, 21⟩, [], "java/lang/IllegalArgumentException", rfl, (fun z hz => (List.not_mem_nil hz).elim), rfl, by decide, k_215, by decide +kernel, rfl⟩, fun q9 => ?_⟩
    refine j_astore_n (pc := 12) (lv' := [(3, .ref q9), (0, .ref (ad 0)), (1, .int p1), (2, .ref o)]) C d_L_least_12 rfl (Nat.le_of_ble_eq_true rfl) rfl ?_
    refine j_iconst (v := 1) (pc := 13) C d_L_least_13 (by decide) ?_
    exact j_iret (pc := 14) (u := (σ1, f)) C E hw (Nat.le_of_ble_eq_true rfl) (Nat.le_of_ble_eq_true rfl) d_L_least_14
  · refine j_i2l (pc := 7) C d_L_least_7 ?_
    obtain ⟨f3, e_f3⟩ : ∃ z : Nat → Int64, z = vp_updL f (Int32.toNatClampNeg 0) (Int32.toInt64 r2) := ⟨_, rfl⟩
    have hw := hw f3 e_f3
    refine j_last (pc := 8) (ws' := wO cI cL ad o (σ1, f3)) C 13 1 rfl rfl (by unfold vp_in; decide) (by rw [e_f3]; rfl) d_L_least_8 ?_
    refine j_goto (pc := 9) (tgt := 15) C d_L_least_9 (by decide) ?_
    refine j_iconst (v := 0) (pc := 15) C d_L_least_15 (by decide) ?_
    exact j_iret (pc := 16) (u := (σ1, f3)) C E hw (Nat.le_of_ble_eq_true rfl) (Nat.le_of_ble_eq_true rfl) d_L_least_16
