/-! the law's loop: class and reference stay side by side -/
theorem law_lp {L : Nat} {xs : Nat → Int32} (hL : L ≤ 2049) {nl : Nat} : ∀ (n j : Nat) (i : Int32) (D : BD) (σ : SX) (μ : SM) (f : Nat → Int64), i = nI (1 + 4 * j) → j ≤ 512 → 512 - j < n → RR D nl σ μ → wl_law L xs n j i σ μ f := by
  intro n
  induction n with
  | zero => intro j i D σ μ f _ _ h; omega
  | succ n ih =>
    intro j i D σ μ f ei hj hn h
    rw [wl_law]
    refine ⟨hj, fun _ => trivial, fun c => ?_⟩
    have hlt : 1 + 4 * j + 4 ≤ L := by
      have c' : ¬ (nI L - 4).toInt < i.toInt := fun z => c (Int32.lt_iff_toInt_lt.mpr z)
      rw [nu_sub (by rw [nI_toInt (by omega)]; show _ ≤ _ - (4 : Int); omega) (by rw [nI_toInt (by omega)]; show _ - (4 : Int) < _; omega), ei, nI_toInt (by omega), nI_toInt (by omega)] at c'
      have e4 : (4 : Int32).toInt = 4 := by decide
      rw [e4] at c'
      omega
    have v0 : vp_in i L := pk_in _ _ (by omega) ei (by omega)
    have v1 : vp_in (i + 1) L := pk_in (1 + 4 * j + 1) _ (by omega) (by rw [ei]; exact nI_add _ 1) (by omega)
    have v2 : vp_in (i + 2) L := pk_in (1 + 4 * j + 2) _ (by omega) (by rw [ei]; exact nI_add _ 2) (by omega)
    have v3 : vp_in (i + 3) L := pk_in (1 + 4 * j + 3) _ (by omega) (by rw [ei]; exact nI_add _ 3) (by omega)
    have e4 : i + 4 = nI (1 + 4 * (j + 1)) := by rw [ei]; exact nI_add _ 4
    have hK : ∀ (D' : BD) (σ' : SX) (μ' : SM) (f' : Nat → Int64), RR D' nl σ' μ' → wl_law L xs n (j + 1) (i + 4) σ' μ' f' := fun D' σ' μ' f' h' => ih (j + 1) (i + 4) D' σ' μ' f' e4 (by omega) (by omega) h'
    exact ⟨by omega, v0, fun sw3 _ => ⟨fun _ => lc_0 h hK, fun _ => ⟨fun _ => lc_1 v1 v2 v3 h hK, fun _ => ⟨fun _ => lc_2 v1 v2 h hK, fun _ => ⟨fun _ => lc_3 v1 v2 h hK, fun _ => ⟨fun _ => lc_4 v1 v2 h hK, fun _ => ⟨fun _ => lc_5 v1 v2 h hK, fun _ => ⟨fun _ => lc_6 h hK, fun _ => ⟨fun _ => lc_7 v1 v2 h hK, fun _ => ⟨fun _ => lc_8 v1 v2 v3 h hK, fun _ => ⟨fun _ => lc_9 h hK, fun _ => ⟨fun _ => lc_10 v1 v2 h hK, fun _ => ⟨fun _ => lc_11 v1 v2 h hK, fun _ => ⟨fun _ => lc_12 v1 h hK, fun _ => ⟨fun _ => lc_13 v1 h hK, fun _ => ⟨fun _ => lc_14 v1 h hK, fun _ => ⟨fun _ => lc_15 v1 v2 v3 h hK, fun _ => ⟨fun _ => lc_16 v1 h hK, fun _ => ⟨fun _ => lc_17 h hK, fun _ => hK D σ μ f h⟩⟩⟩⟩⟩⟩⟩⟩⟩⟩⟩⟩⟩⟩⟩⟩⟩⟩⟩
theorem law_wp (L : Nat) (xs : Nat → Int32) (hL : L ≤ 2049) : wp_start L xs :=
  init_RR (Q := fun σ μ => ∃ n : Nat, wl_law L xs n 0 1 σ μ (fun _ => 0)) (fun nl σ μ h => ⟨513, law_lp hL 513 0 1 d_e σ μ _ rfl (by omega) (by omega) h⟩)
