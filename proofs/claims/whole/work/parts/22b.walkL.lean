set_option maxHeartbeats 4000000 in
set_option maxRecDepth 100000 in
theorem c_L_above (l : Launch) (hlt : l.stackTraces = false) (G : va_G) (cI cL : ClassId) (ad : Nat → Nat) (o : Nat) (σ : SX) (f : Nat → Int64) (p1 : Int64) (p3 : Int32) (Q : Int32 → SX × (Nat → Int64) → Prop) (hw : wp_L_above σ f p1 p3 Q) : jh_i l G [(cI, .int), (cL, .long)] y_L_above b_L_above 6 [(0, 11, 14, 21)] rm_L_above [.ref (ad 0), .long p1, .int p3, .ref o] (wO cI cL ad o (σ, f)) (wO cI cL ad o) Q := by
  refine jh_open_i hlt (by decide +kernel) (Nat.le_of_ble_eq_true rfl) ?_
  intro κ hl hG C Z E
  subst hl; subst hG
  unfold wp_L_above at hw
  refine j_aload (pc := 0) C d_L_above_0 3 rfl ?_
  refine j_iconst (v := 0) (pc := 2) C d_L_above_2 (by decide) ?_
  refine j_aload_n (pc := 3) C d_L_above_3 rfl 0 rfl ?_
  refine j_lload_n (pc := 4) C d_L_above_4 rfl 1 rfl ?_
  refine j_iload_n (pc := 5) C d_L_above_5 rfl 2 rfl ?_
  refine jh_callVi (pc := 6) (st := [.int 0, .ref o]) (As := [.long p1, .int p3]) (wc := wX cI cL ad σ) (wr := [(o, .inl (cL, 1, .inr (.inl f)))]) (wf := wX cI cL ad) (wn := fun u => wO cI cL ad o (u, f)) C Z (c_X_above (jk_l κ) Z.1 (jk_G κ) cI cL ad σ p1 p3 _ _ hw) g_L_63 hdV_X_above ⟨(Nat.le_of_ble_eq_true rfl), (Nat.le_of_ble_eq_true rfl)⟩ rfl (q0 := 0) rfl rfl rfl [0, 1, 2, 3, 4, 5, 6, 7, 8, 9, 10, 11, 12] [13] rfl rfl (by decide) (by decide) (by decide) rfl (Nat.le_of_ble_eq_true rfl) d_L_above_6 ⟨(Nat.le_of_ble_eq_true rfl), (Nat.le_of_ble_eq_true rfl)⟩ [1, 2, 3, 4, 5, 6, 7, 8, 9, 10, 11, 12, 13, 0] (by decide) (fun _ => rfl) (fun E1 σ1 hw => ?_) (fun r2 σ1 hw => ?_)
  · obtain ⟨rfl, hw⟩ := hw
    refine ⟨14, ⟨[], ⟨0, 11, 14, 21⟩, [], "java/lang/IllegalArgumentException", rfl, (fun z hz => (List.not_mem_nil hz).elim), rfl, by decide, k_215, by decide +kernel, rfl⟩, fun q9 => ?_⟩
    refine j_astore (pc := 14) (lv' := [(5, .ref q9), (0, .ref (ad 0)), (1, .long p1), (3, .int p3), (4, .ref o)]) C d_L_above_14 (Nat.le_of_ble_eq_true rfl) rfl ?_
    refine j_iconst (v := 1) (pc := 16) C d_L_above_16 (by decide) ?_
    exact j_iret (pc := 17) (u := (σ1, f)) C E hw (Nat.le_of_ble_eq_true rfl) (Nat.le_of_ble_eq_true rfl) d_L_above_17
  · refine j_i2l (pc := 9) C d_L_above_9 ?_
    obtain ⟨f3, e_f3⟩ : ∃ z : Nat → Int64, z = vp_updL f (Int32.toNatClampNeg 0) (Int32.toInt64 r2) := ⟨_, rfl⟩
    have hw := hw f3 e_f3
    refine j_last (pc := 10) (ws' := wO cI cL ad o (σ1, f3)) C 13 1 rfl rfl (by unfold vp_in; decide) (by rw [e_f3]; rfl) d_L_above_10 ?_
    refine j_goto (pc := 11) (tgt := 18) C d_L_above_11 (by decide) ?_
    refine j_iconst (v := 0) (pc := 18) C d_L_above_18 (by decide) ?_
    exact j_iret (pc := 19) (u := (σ1, f3)) C E hw (Nat.le_of_ble_eq_true rfl) (Nat.le_of_ble_eq_true rfl) d_L_above_19
