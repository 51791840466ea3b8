/-! the law's cases that change something; told; row -/
theorem lg_self (a : Int64) : lg_cmp a a = 0 := (lg_eq0 a a).mpr rfl
theorem tl0 {v r : Int64} {f : Nat → Int64} {σ : SX} {K : SM → Prop} {μ : SM} (ht : sM_thr μ = 0) (hv : v = r) (hK : K μ) : wp_M_thrown μ (fun (r8 : Int32) (μ9 : SM) => (r8 = 0 → (¬ (0 : Int32) = 0 → K μ9) ∧ ((0 : Int32) = 0 → ((lg_cmp ((σ, vp_updL f (Int32.toNatClampNeg 0) v).2 (Int32.toNatClampNeg 0)) r) = 0 → K μ9) ∧ (¬ (lg_cmp ((σ, vp_updL f (Int32.toNatClampNeg 0) v).2 (Int32.toNatClampNeg 0)) r) = 0 → False))) ∧ (¬ r8 = 0 → False)) := by
  have e : lg_cmp ((σ, vp_updL f (Int32.toNatClampNeg 0) v).2 (Int32.toNatClampNeg 0)) r = 0 := by
    show lg_cmp (vp_updL f (Int32.toNatClampNeg 0) v (Int32.toNatClampNeg 0)) r = 0
    rw [pk_uLs, hv]
    exact lg_self r
  unfold wp_M_thrown
  exact ⟨fun _ => ⟨fun _ => hK, fun _ => ⟨fun _ => hK, fun c => c e⟩⟩, fun c => c ht⟩
theorem tlx {k4 cmp : Int32} {K : SM → Prop} {μ : SM} (h0 : k4 ≠ 0) (ht : sM_thr μ = k4) (hK : K μ) : wp_M_thrown μ (fun (r8 : Int32) (μ9 : SM) => (r8 = k4 → (¬ k4 = 0 → K μ9) ∧ (k4 = 0 → (cmp = 0 → K μ9) ∧ (¬ cmp = 0 → False))) ∧ (¬ r8 = k4 → False)) := by
  unfold wp_M_thrown
  exact ⟨fun _ => ⟨fun _ => hK, fun c => absurd c h0⟩, fun c => c ht⟩
theorem lc_0 {L : Nat} {xs : Nat → Int32} {k : Nat → Int32 → SX → SM → (Nat → Int64) → Prop} {j : Nat} {i : Int32} {D : BD} {nl : Nat} {σ : SX} {μ : SM} {f : Nat → Int64} (h : RR D nl σ μ) (hK : ∀ D' σ' μ' f', RR D' nl σ' μ' → k (j + 1) (i + 4) σ' μ' f') : wc_law_0 L xs k j i σ μ f := by
  have hn := h.1.1.1
  have hm := h.2.2.1
  unfold wc_law_0 wp_L_block
  refine X_block h (fun c => ⟨rfl, M_block hn hm.1 (fun _ => tlx (by decide) (by rw [rM_thr_thr]) (hK D _ _ _ (RR_thr h 1))) (fun c' => absurd c' (by omega))⟩) (fun c τ y1 y2 y3 y4 f3 e3 => ?_)
  subst e3
  refine M_block hn hm.1 (fun c' => absurd c (by omega)) (fun _ => tl0 ?_ rfl (hK (db D) _ _ _ (RR_new h y3 ?_ y1 y2 (m_b_db hm ?_ ?_ ?_ ?_ ?_ ?_) ?_)))
  · simp only [rM_thr_shared, rM_thr_laid, rM_thr_blocks, rM_thr_shifts, rM_thr_weights, rM_thr_many, rM_thr_thr]
  · unfold kM
    simp only [rM_layers_shared, rM_layers_laid, rM_layers_blocks, rM_layers_shifts, rM_layers_weights, rM_layers_many, rM_layers_thr, rM_sizes_shared, rM_sizes_laid, rM_sizes_blocks, rM_sizes_shifts, rM_sizes_weights, rM_sizes_many, rM_sizes_thr, rM_heads_shared, rM_heads_laid, rM_heads_blocks, rM_heads_shifts, rM_heads_weights, rM_heads_many, rM_heads_thr, rM_given_shared, rM_given_laid, rM_given_blocks, rM_given_shifts, rM_given_weights, rM_given_many, rM_given_thr, rM_laid_shared, rM_laid_laid, rM_laid_blocks, rM_laid_shifts, rM_laid_weights, rM_laid_many, rM_laid_thr, rM_shared_shared, rM_shared_laid, rM_shared_blocks, rM_shared_shifts, rM_shared_weights, rM_shared_many, rM_shared_thr]
    exact ⟨trivial, trivial, trivial, trivial, trivial, trivial⟩
  · simp only [rM_blocks_shared, rM_blocks_laid, rM_blocks_blocks]
  · simp only [rM_many_shared, rM_many_laid, rM_many_blocks, rM_many_shifts, rM_many_weights, rM_many_many]
  · simp only [rM_weights_shared, rM_weights_laid, rM_weights_blocks, rM_weights_shifts, rM_weights_weights]
  · simp only [rM_shifts_shared, rM_shifts_laid, rM_shifts_blocks, rM_shifts_shifts]
  · simp only [rM_lens_shared, rM_lens_laid, rM_lens_blocks, rM_lens_shifts, rM_lens_weights, rM_lens_many, rM_lens_thr]
  · simp only [rM_gains_shared, rM_gains_laid, rM_gains_blocks, rM_gains_shifts, rM_gains_weights, rM_gains_many, rM_gains_thr]
  · rw [y4, db_sum]; exact h.2.2.2.2.1
theorem lc_1 {L : Nat} {xs : Nat → Int32} {k : Nat → Int32 → SX → SM → (Nat → Int64) → Prop} {j : Nat} {i : Int32} {D : BD} {nl : Nat} {σ : SX} {μ : SM} {f : Nat → Int64} (v1 : vp_in (i + 1) L) (v2 : vp_in (i + 2) L) (v3 : vp_in (i + 3) L) (h : RR D nl σ μ) (hK : ∀ D' σ' μ' f', RR D' nl σ' μ' → k (j + 1) (i + 4) σ' μ' f') : wc_law_1 L xs k j i σ μ f := by
  have hn := h.1.1.1
  have hm := h.2.2.1
  unfold wc_law_1 wp_L_pass
  refine ⟨v1, v2, v3, X_pass h (fun c => Or.inl ⟨rfl, v1, v2, v3, M_pass h.1.1 hm (fun _ => tlx (by decide) (by rw [rM_thr_thr]) (hK D _ _ _ (RR_thr h 1))) (fun b hb e _ => (no_in c (by omega) hb e).elim) (fun b hb e _ _ => (no_in c (by omega) hb e).elim) (fun b hb e _ _ => (no_in c (by omega) hb e).elim)⟩) (fun b hb e hw => Or.inr (Or.inl ⟨rfl, v1, v2, v3, M_pass h.1.1 hm (fun c => (no_in c (by omega) hb e).elim) (fun _ _ _ _ => tlx (by decide) (by rw [rM_thr_thr]) (hK D _ _ _ (RR_thr h 2))) (fun _ _ _ z => absurd z hw) (fun _ _ _ z => absurd z hw)⟩)) (fun b hb e hw h24 => Or.inr (Or.inr ⟨rfl, v1, v2, v3, M_pass h.1.1 hm (fun c => (no_in c (by omega) hb e).elim) (fun _ _ _ z => absurd hw z) (fun _ _ _ _ _ => tlx (by decide) (by rw [rM_thr_thr]) (hK D _ _ _ (RR_thr h 3))) (fun b' hb' e' _ z => ?_)⟩)) (fun b hb e hw h24 τ y1 y2 y3 y4 f3 e3 => ?_)⟩
  · have := (nI_eq (by omega) (by omega)).mp (e'.symm.trans e)
    subst this
    omega
  · subst e3
    refine ⟨v1, v2, v3, M_pass h.1.1 hm (fun c => (no_in c (by omega) hb e).elim) (fun _ _ _ z => absurd hw z) (fun b' hb' e' _ z => ?_) (fun b' hb' e' _ _ ν z1 z2 z3 => ?_)⟩
    · have := (nI_eq (by omega) (by omega)).mp (e'.symm.trans e)
      subst this
      omega
    · have := (nI_eq (by omega) (by omega)).mp (e'.symm.trans e)
      subst this
      refine tl0 z3 rfl (hK _ _ _ _ (RR_new h y3 z2 y1 y2 z1 ?_))
      rw [y4, h.2.2.2.2.1, nI_1]
      have := d_sum_up (D := D) (b := b') (cn := d_cn D b' + 1) (L := dpL D b' (xs (i + 2).toNatClampNeg).toInt) (G := dpG D b' (xs (i + 3).toNatClampNeg).toInt) (w := d_w D b') (s := d_s D b') (d_nb D) hb'
      exact congrArg nI (by unfold dp; rw [du_nb]; omega)
theorem lc_2 {L : Nat} {xs : Nat → Int32} {k : Nat → Int32 → SX → SM → (Nat → Int64) → Prop} {j : Nat} {i : Int32} {D : BD} {nl : Nat} {σ : SX} {μ : SM} {f : Nat → Int64} (v1 : vp_in (i + 1) L) (v2 : vp_in (i + 2) L) (h : RR D nl σ μ) (hK : ∀ D' σ' μ' f', RR D' nl σ' μ' → k (j + 1) (i + 4) σ' μ' f') : wc_law_2 L xs k j i σ μ f := by
  have hn := h.1.1.1
  have hm := h.2.2.1
  unfold wc_law_2 wp_L_weight
  refine ⟨v1, v2, X_weight h (fun c => Or.inl ⟨rfl, v1, v2, M_weight hn hm.1 (fun _ => tlx (by decide) (by rw [rM_thr_thr]) (hK D _ _ _ (RR_thr h 1))) (fun b hb e _ => (no_in c (by omega) hb e).elim) (fun b hb e _ => (no_in c (by omega) hb e).elim)⟩) (fun b hb e hw => Or.inr ⟨rfl, v1, v2, M_weight hn hm.1 (fun c => (no_in c (by omega) hb e).elim) (fun _ _ _ _ => tlx (by decide) (by rw [rM_thr_thr]) (hK D _ _ _ (RR_thr h 2))) (fun _ _ _ z => absurd z hw)⟩) (fun b hb e hw τ y1 y2 y3 y4 f3 e3 => ?_)⟩
  subst e3
  refine ⟨v1, v2, M_weight hn hm.1 (fun c => (no_in c (by omega) hb e).elim) (fun _ _ _ z => absurd hw z) (fun b' hb' e' _ => ?_)⟩
  have := (nI_eq (by omega) (by omega)).mp (e'.symm.trans e)
  subst this
  obtain ⟨x1, x2, x3⟩ := h.1.2.2.1 b' hb'
  obtain ⟨z1, z2, z3⟩ := hm.2.1 b' hb'
  have hp := wn_32 rfl rfl hw
  have ev := nI_ofInt (v := xs (i + 2).toNatClampNeg) (Int.le_trans (by decide) hp.1)
  refine tl0 ?_ ?_ (hK _ _ _ _ (RR_new h y3 ?_ y1 y2 ?_ ?_))
  · simp only [rM_thr_shared, rM_thr_laid, rM_thr_weights, rM_thr_thr]
  · first | rw [x2, z2] | rw [x3, z3]
  · unfold kM
    simp only [rM_layers_shared, rM_layers_laid, rM_layers_weights, rM_layers_thr, rM_sizes_shared, rM_sizes_laid, rM_sizes_weights, rM_sizes_thr, rM_heads_shared, rM_heads_laid, rM_heads_weights, rM_heads_thr, rM_given_shared, rM_given_laid, rM_given_weights, rM_given_thr, rM_laid_shared, rM_laid_laid, rM_laid_weights, rM_laid_thr, rM_shared_shared, rM_shared_laid, rM_shared_weights, rM_shared_thr]
    exact ⟨trivial, trivial, trivial, trivial, trivial, trivial⟩
  · refine m_b_du h.1.1 hm ?_ ?_ ?_ ?_ ?_ <;> simp only [rM_blocks_shared, rM_blocks_laid, rM_blocks_weights, rM_blocks_thr, rM_many_shared, rM_many_laid, rM_many_weights, rM_many_thr, rM_weights_shared, rM_weights_laid, rM_weights_weights, rM_weights_thr, rM_shifts_shared, rM_shifts_laid, rM_shifts_weights, rM_shifts_thr, rM_lens_shared, rM_lens_laid, rM_lens_weights, rM_lens_thr, rM_gains_shared, rM_gains_laid, rM_gains_weights, rM_gains_thr]
    · intro c hc
      simp only [pk_un hc]
      exact ⟨trivial, trivial, trivial⟩
    · simp only [pk_us, ← ev]
      refine ⟨?_, ?_, ?_⟩
      all_goals first | trivial | exact z1 | exact z2 | exact z3
    · intro c _ j _; exact ⟨trivial, trivial⟩
    · intro j hj; exact hm.2.2 b' hb' j hj
  · rw [y4, du_nb, d_sum_same]; exact h.2.2.2.2.1
theorem lc_3 {L : Nat} {xs : Nat → Int32} {k : Nat → Int32 → SX → SM → (Nat → Int64) → Prop} {j : Nat} {i : Int32} {D : BD} {nl : Nat} {σ : SX} {μ : SM} {f : Nat → Int64} (v1 : vp_in (i + 1) L) (v2 : vp_in (i + 2) L) (h : RR D nl σ μ) (hK : ∀ D' σ' μ' f', RR D' nl σ' μ' → k (j + 1) (i + 4) σ' μ' f') : wc_law_3 L xs k j i σ μ f := by
  have hn := h.1.1.1
  have hm := h.2.2.1
  unfold wc_law_3 wp_L_shift
  refine ⟨v1, v2, X_shift h (fun c => Or.inl ⟨rfl, v1, v2, M_shift hn hm.1 (fun _ => tlx (by decide) (by rw [rM_thr_thr]) (hK D _ _ _ (RR_thr h 1))) (fun b hb e _ => (no_in c (by omega) hb e).elim) (fun b hb e _ => (no_in c (by omega) hb e).elim)⟩) (fun b hb e hw => Or.inr ⟨rfl, v1, v2, M_shift hn hm.1 (fun c => (no_in c (by omega) hb e).elim) (fun _ _ _ _ => tlx (by decide) (by rw [rM_thr_thr]) (hK D _ _ _ (RR_thr h 2))) (fun _ _ _ z => absurd z hw)⟩) (fun b hb e hw τ y1 y2 y3 y4 f3 e3 => ?_)⟩
  subst e3
  refine ⟨v1, v2, M_shift hn hm.1 (fun c => (no_in c (by omega) hb e).elim) (fun _ _ _ z => absurd hw z) (fun b' hb' e' _ => ?_)⟩
  have := (nI_eq (by omega) (by omega)).mp (e'.symm.trans e)
  subst this
  obtain ⟨x1, x2, x3⟩ := h.1.2.2.1 b' hb'
  obtain ⟨z1, z2, z3⟩ := hm.2.1 b' hb'
  have hp := wn_32 rfl rfl hw
  have ev := nI_ofInt (v := xs (i + 2).toNatClampNeg) (Int.le_trans (by decide) hp.1)
  refine tl0 ?_ ?_ (hK _ _ _ _ (RR_new h y3 ?_ y1 y2 ?_ ?_))
  · simp only [rM_thr_shared, rM_thr_laid, rM_thr_shifts, rM_thr_thr]
  · first | rw [x2, z2] | rw [x3, z3]
  · unfold kM
    simp only [rM_layers_shared, rM_layers_laid, rM_layers_shifts, rM_layers_thr, rM_sizes_shared, rM_sizes_laid, rM_sizes_shifts, rM_sizes_thr, rM_heads_shared, rM_heads_laid, rM_heads_shifts, rM_heads_thr, rM_given_shared, rM_given_laid, rM_given_shifts, rM_given_thr, rM_laid_shared, rM_laid_laid, rM_laid_shifts, rM_laid_thr, rM_shared_shared, rM_shared_laid, rM_shared_shifts, rM_shared_thr]
    exact ⟨trivial, trivial, trivial, trivial, trivial, trivial⟩
  · refine m_b_du h.1.1 hm ?_ ?_ ?_ ?_ ?_ <;> simp only [rM_blocks_shared, rM_blocks_laid, rM_blocks_shifts, rM_blocks_thr, rM_many_shared, rM_many_laid, rM_many_shifts, rM_many_thr, rM_weights_shared, rM_weights_laid, rM_weights_shifts, rM_weights_thr, rM_shifts_shared, rM_shifts_laid, rM_shifts_shifts, rM_shifts_thr, rM_lens_shared, rM_lens_laid, rM_lens_shifts, rM_lens_thr, rM_gains_shared, rM_gains_laid, rM_gains_shifts, rM_gains_thr]
    · intro c hc
      simp only [pk_un hc]
      exact ⟨trivial, trivial, trivial⟩
    · simp only [pk_us, ← ev]
      refine ⟨?_, ?_, ?_⟩
      all_goals first | trivial | exact z1 | exact z2 | exact z3
    · intro c _ j _; exact ⟨trivial, trivial⟩
    · intro j hj; exact hm.2.2 b' hb' j hj
  · rw [y4, du_nb, d_sum_same]; exact h.2.2.2.2.1
theorem lc_4 {L : Nat} {xs : Nat → Int32} {k : Nat → Int32 → SX → SM → (Nat → Int64) → Prop} {j : Nat} {i : Int32} {D : BD} {nl : Nat} {σ : SX} {μ : SM} {f : Nat → Int64} (v1 : vp_in (i + 1) L) (v2 : vp_in (i + 2) L) (h : RR D nl σ μ) (hK : ∀ D' σ' μ' f', RR D' nl σ' μ' → k (j + 1) (i + 4) σ' μ' f') : wc_law_4 L xs k j i σ μ f := by
  obtain ⟨l1, hn, l3, l4, hm, l6⟩ := h.2.2.2.1
  unfold wc_law_4 wp_L_size
  refine ⟨v1, v2, X_size h (fun c => Or.inl ⟨rfl, v1, v2, M_size hn hm (fun _ => tlx (by decide) (by rw [rM_thr_thr]) (hK D _ _ _ (RR_thr h 1))) (fun b hb e _ => (no_in c (by omega) hb e).elim) (fun b hb e _ => (no_in c (by omega) hb e).elim)⟩) (fun b hb e hw => Or.inr ⟨rfl, v1, v2, M_size hn hm (fun c => (no_in c (by omega) hb e).elim) (fun _ _ _ _ => tlx (by decide) (by rw [rM_thr_thr]) (hK D _ _ _ (RR_thr h 2))) (fun _ _ _ z => absurd z hw)⟩) (fun b hb e hw f3 e3 => ?_)⟩
  subst e3
  refine ⟨v1, v2, M_size hn hm (fun c => (no_in c (by omega) hb e).elim) (fun _ _ _ z => absurd hw z) (fun b' hb' e' _ => ?_)⟩
  have := (nI_eq (by omega) (by omega)).mp (e'.symm.trans e)
  subst this
  refine tl0 ?_ ?_ (hK D _ _ _ (RR_size h))
  · simp only [rM_thr_shared, rM_thr_laid, rM_thr_sizes, rM_thr_thr]
  · rw [(l6 b' hb').1]
theorem lc_5 {L : Nat} {xs : Nat → Int32} {k : Nat → Int32 → SX → SM → (Nat → Int64) → Prop} {j : Nat} {i : Int32} {D : BD} {nl : Nat} {σ : SX} {μ : SM} {f : Nat → Int64} (v1 : vp_in (i + 1) L) (v2 : vp_in (i + 2) L) (h : RR D nl σ μ) (hK : ∀ D' σ' μ' f', RR D' nl σ' μ' → k (j + 1) (i + 4) σ' μ' f') : wc_law_5 L xs k j i σ μ f := by
  obtain ⟨l1, hn, l3, l4, hm, l6⟩ := h.2.2.2.1
  unfold wc_law_5 wp_L_head
  refine ⟨v1, v2, X_head h (fun c => Or.inl ⟨rfl, v1, v2, M_head hn hm (fun _ => tlx (by decide) (by rw [rM_thr_thr]) (hK D _ _ _ (RR_thr h 1))) (fun b hb e _ => (no_in c (by omega) hb e).elim) (fun b hb e _ => (no_in c (by omega) hb e).elim)⟩) (fun b hb e hw => Or.inr ⟨rfl, v1, v2, M_head hn hm (fun c => (no_in c (by omega) hb e).elim) (fun _ _ _ _ => tlx (by decide) (by rw [rM_thr_thr]) (hK D _ _ _ (RR_thr h 2))) (fun _ _ _ z => absurd z hw)⟩) (fun b hb e hw f3 e3 => ?_)⟩
  subst e3
  refine ⟨v1, v2, M_head hn hm (fun c => (no_in c (by omega) hb e).elim) (fun _ _ _ z => absurd hw z) (fun b' hb' e' _ => ?_)⟩
  have := (nI_eq (by omega) (by omega)).mp (e'.symm.trans e)
  subst this
  refine tl0 ?_ ?_ (hK D _ _ _ (RR_head h))
  · simp only [rM_thr_shared, rM_thr_laid, rM_thr_heads, rM_thr_thr]
  · rw [(l6 b' hb').2]
theorem lc_17 {L : Nat} {xs : Nat → Int32} {k : Nat → Int32 → SX → SM → (Nat → Int64) → Prop} {j : Nat} {i : Int32} {D : BD} {nl : Nat} {σ : SX} {μ : SM} {f : Nat → Int64} (h : RR D nl σ μ) (hK : ∀ D' σ' μ' f', RR D' nl σ' μ' → k (j + 1) (i + 4) σ' μ' f') : wc_law_17 L xs k j i σ μ f := by
  obtain ⟨l1, hn, l3, l4, hm, l6⟩ := h.2.2.2.1
  unfold wc_law_17
  exact X_clear hn l3 l4 (fun a h' z1 => M_clear (fun a2 h2 z2 => hK d_e _ _ _ (RR_clear h z1 z2)))
theorem lc_9 {L : Nat} {xs : Nat → Int32} {k : Nat → Int32 → SX → SM → (Nat → Int64) → Prop} {j : Nat} {i : Int32} {D : BD} {nl : Nat} {σ : SX} {μ : SM} {f : Nat → Int64} (h : RR D nl σ μ) (hK : ∀ D' σ' μ' f', RR D' nl σ' μ' → k (j + 1) (i + 4) σ' μ' f') : wc_law_9 L xs k j i σ μ f := by
  obtain ⟨R, hv⟩ := vX_of h.1.1 h.2.1
  unfold wc_law_9 wp_X_row wp_M_row
  intro μ1 e1
  have hr1 : RR D nl σ μ1 := by rw [e1]; exact RR_thr h 0
  refine ly_wp hr1 (fun μ2 hr2 hl2 _ => cg ?_ (hK D _ _ _ hr2))
  rw [hv.2.2.1, (vM_of h.1.1 hv.1 hl2).2.1]
theorem sh_eq {D : BD} {nl : Nat} {σ : SX} {μ : SM} (h : RR D nl σ μ) : sX_shared σ = sM_shared μ ∧ (sM_shared μ = 0 ∨ sM_shared μ = 1) := by
  rcases h.2.2.2.2.2.2.2 with ⟨h1, h2⟩ | ⟨h1, h2, _⟩
  · exact ⟨h1.trans h2.symm, Or.inl h2⟩
  · exact ⟨h1.trans h2.symm, Or.inr h2⟩
theorem d_sum_le {D : BD} (hd : d_ok D) : ∀ n, n ≤ d_nb D → d_sum D n ≤ 24 * n := by
  intro n
  induction n with
  | zero => intro _; exact Nat.le_refl _
  | succ n ih => intro hn; rw [d_sum]; have := ih (by omega); have := (hd.2 n (by omega)).1; omega
theorem mt_lp {D : BD} (hd : d_ok D) {μ : SM} (hm : m_b D μ) {y1 : Int32} {Q : Int32 → SM → Prop} (hQ : (y1 = 0 → Q (sM_layers μ) μ) ∧ (¬ y1 = 0 → (y1 = 1 → Q (nI (d_nb D)) μ) ∧ (¬ y1 = 1 → (y1 = 2 → Q (nI (d_sum D (d_nb D))) μ) ∧ (¬ y1 = 2 → (y1 = 3 → ((sM_shared μ) = 0 → Q 0 μ) ∧ (¬ (sM_shared μ) = 0 → Q 1 μ)) ∧ (¬ y1 = 3 → Q (-1) μ))))) : ∀ (m b : Nat), b ≤ d_nb D → d_nb D - b < m → wl_M_told_9 y1 Q m (nI (d_sum D b)) (nI b) μ := by
  have h40 := hd.1
  intro m
  induction m with
  | zero => intro b _ h; omega
  | succ m ih =>
    intro b hb hm'
    rw [wl_M_told_9]
    refine pk_le (d_nb D) b (fun c => ?_) (fun c => ⟨pk_in b 40 (by omega), fun x9 e9 => ?_⟩) hm.1 rfl
    · have : b = d_nb D := by omega
      subst this
      refine ⟨fun c1 => ⟨fun c2 => ⟨fun c3 => ⟨fun c4 => (((hQ.2 c1).2 c2).2 c3).2 c4, fun c4 => (((hQ.2 c1).2 c2).2 c3).1 c4⟩, fun c3 => ((hQ.2 c1).2 c2).1 c3⟩, fun c2 => ?_⟩, fun c1 => hQ.1 c1⟩
      rw [hm.1]
      exact (hQ.2 c1).1 c2
    · rw [nI_clamp (by omega), (hm.2.1 b c).1, nI_add] at e9
      rw [e9, nI_1]
      exact ih (b + 1) (by omega) (by omega)
theorem lc_16 {L : Nat} {xs : Nat → Int32} {k : Nat → Int32 → SX → SM → (Nat → Int64) → Prop} {j : Nat} {i : Int32} {D : BD} {nl : Nat} {σ : SX} {μ : SM} {f : Nat → Int64} (v1 : vp_in (i + 1) L) (h : RR D nl σ μ) (hK : ∀ D' σ' μ' f', RR D' nl σ' μ' → k (j + 1) (i + 4) σ' μ' f') : wc_law_16 L xs k j i σ μ f := by
  obtain ⟨l1, hn, l3, l4, l5, l6⟩ := h.2.2.2.1
  have h1 := RR_thr h 0
  obtain ⟨s1, s2⟩ := sh_eq h1
  have fin : ∀ r : Int32, ((xs (i + 1).toNatClampNeg = 0 → r = sM_layers (uM_thr μ 0)) ∧ (¬ xs (i + 1).toNatClampNeg = 0 → (xs (i + 1).toNatClampNeg = 1 → r = nI (d_nb D)) ∧ (¬ xs (i + 1).toNatClampNeg = 1 → (xs (i + 1).toNatClampNeg = 2 → r = nI (d_sum D (d_nb D))) ∧ (¬ xs (i + 1).toNatClampNeg = 2 → (xs (i + 1).toNatClampNeg = 3 → r = sM_shared (uM_thr μ 0)) ∧ (¬ xs (i + 1).toNatClampNeg = 3 → r = -1))))) → vp_in (i + 1) L ∧ wp_M_told μ (xs (i + 1).toNatClampNeg) (fun (r227 : Int32) (μ228 : SM) => (r = r227 → k (j + 1) (i + 4) σ μ228 f) ∧ (¬ r = r227 → False)) := by
    intro r hr
    refine ⟨v1, ?_⟩
    unfold wp_M_told
    intro μ1 e1
    rw [← e1] at hr h1 s1 s2
    refine ⟨d_nb D + 1, mt_lp h.1.1 h1.2.2.1 ?_ (d_nb D + 1) 0 (by omega) (by omega)⟩
    refine ⟨fun c1 => cg (hr.1 c1) (hK D _ _ _ h1), fun c1 => ⟨fun c2 => cg ((hr.2 c1).1 c2) (hK D _ _ _ h1), fun c2 => ⟨fun c3 => cg (((hr.2 c1).2 c2).1 c3) (hK D _ _ _ h1), fun c3 => ⟨fun c4 => ⟨fun c5 => cg ((((((hr.2 c1).2 c2).2 c3).1 c4).trans c5)) (hK D _ _ _ h1), fun c5 => cg ((((((hr.2 c1).2 c2).2 c3).1 c4).trans (s2.resolve_left c5))) (hK D _ _ _ h1)⟩, fun c4 => cg ((((hr.2 c1).2 c2).2 c3).2 c4) (hK D _ _ _ h1)⟩⟩⟩⟩
  have e4 : sM_layers (uM_thr μ 0) = sX_layers σ := by rw [rM_layers_thr, l5, l4]
  unfold wc_law_16 wp_X_told
  refine ⟨v1, fun c1 => fin _ ⟨fun _ => e4.symm, fun c => absurd c1 c⟩, fun c1 => ⟨fun c2 => fin _ ⟨fun c => absurd c c1, fun _ => ⟨fun _ => h.1.2.1, fun c => absurd c2 c⟩⟩, fun c2 => ⟨fun c3 => fin _ ⟨fun c => absurd c c1, fun _ => ⟨fun c => absurd c c2, fun _ => ⟨fun _ => h.2.2.2.2.1, fun c => absurd c3 c⟩⟩⟩, fun c3 => ⟨fun c4 => ⟨fun c5 => fin _ ⟨fun c => absurd c c1, fun _ => ⟨fun c => absurd c c2, fun _ => ⟨fun c => absurd c c3, fun _ => ⟨fun _ => by rw [← s1]; exact c5.symm, fun c => absurd c4 c⟩⟩⟩⟩, fun c5 => fin _ ⟨fun c => absurd c c1, fun _ => ⟨fun c => absurd c c2, fun _ => ⟨fun c => absurd c c3, fun _ => ⟨fun _ => (s2.resolve_left (by rw [← s1]; exact c5)).symm, fun c => absurd c4 c⟩⟩⟩⟩⟩, fun c4 => fin _ ⟨fun c => absurd c c1, fun _ => ⟨fun c => absurd c c2, fun _ => ⟨fun c => absurd c c3, fun _ => ⟨fun c => absurd c c4, fun _ => rfl⟩⟩⟩⟩⟩⟩⟩⟩
