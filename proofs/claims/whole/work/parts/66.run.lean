/-! run -/
def cf (h S : Nat → Int32) : Nat → Nat
  | 0 => 0
  | k + 1 => if S k < h k then cf h S k else cf h S k + 1
theorem cf_le (h S : Nat → Int32) : ∀ k, cf h S k ≤ k := by
  intro k
  induction k with
  | zero => exact Nat.le_refl _
  | succ k ih => rw [cf]; split <;> omega
theorem xf_lp {D : BD} {R : List Nat} {σ : SX} (hv : vX D R σ) {k : Nat} (hk : k < sX_nl σ) (hn : sX_nl σ ≤ 16) {Q : Int32 → SX → Prop} : ∀ (m i : Nat) (s : Int32), i ≤ R.length → R.length - i < m → Q (nI (i + flN (cI D) (sX_sizes σ k) (R.drop i) s)) (uX_held σ (upd (sX_held σ) k (flS (cI D) (sX_sizes σ k) (R.drop i) s))) → wl_X_fillLayer_10 (nI k) Q m s (nI i) σ := by
  obtain ⟨v1, v2, v3, v4⟩ := hv
  intro m
  induction m with
  | zero => intro i s _ h; omega
  | succ m ih =>
    intro i s hi hm hQ
    rw [wl_X_fillLayer_10]
    have hin : vp_in (nI k) (sX_nl σ) := pk_in k _ hk rfl (by omega)
    have ck : (nI k).toNatClampNeg = k := nI_clamp (by omega)
    refine pk_le R.length i (fun c => ⟨hin, fun σ5 e5 => ?_⟩) (fun c => ?_) v3 rfl
    · rw [List.drop_eq_nil_of_le c, flN, flS, Nat.add_zero] at hQ
      rw [e5, ck]
      exact hQ
    · obtain ⟨x, hx, ed⟩ := dr c
      obtain ⟨o1, o2, o3, o4, o5⟩ := v4 i x hx
      have ci : (nI i).toNatClampNeg = i := nI_clamp (by omega)
      have cx : (nI x).toNatClampNeg = x := nI_clamp (by omega)
      have hi1 : vp_in (nI i) 960 := pk_in i 960 (by omega)
      have hx1 : vp_in (nI x) 1000 := pk_in x 1000 (by omega)
      rw [ci, o1, cx, ck, o4]
      rw [ed, flN, flS] at hQ
      refine ⟨hi1, hx1, hin, fun c2 => ⟨hin, fun σ11 e11 => ?_⟩, fun c2 => ⟨hi1, hx1, fun x14 e14 => ?_⟩⟩
      · rw [if_pos c2, if_pos c2, Nat.add_zero] at hQ
        rw [e11]
        exact hQ
      · rw [if_neg c2, if_neg c2] at hQ
        rw [e14, nI_1]
        refine ih (i + 1) _ (by omega) (by omega) ?_
        rw [show ∀ z, i + 1 + z = i + (z + 1) by intro z; omega]
        exact hQ
theorem vX_mv {D : BD} {R : List Nat} {σ τ : SX} (h : vX D R σ) (h1 : sX_ol τ = sX_ol σ) (h2 : sX_order τ = sX_order σ) (h3 : sX_costs τ = sX_costs σ) (h4 : sX_rises τ = sX_rises σ) : vX D R τ := by
  unfold vX at h ⊢
  rw [h1, h2, h3, h4]
  exact h
theorem vM_mv {D : BD} {R : List Nat} {μ ν : SM} (h : vM D R μ) (h1 : sM_len ν = sM_len μ) (h2 : sM_row ν = sM_row μ) (h3 : sM_costs ν = sM_costs μ) (h4 : sM_rises ν = sM_rises μ) : vM D R ν := by
  unfold vM at h ⊢
  rw [h1, h2, h3, h4]
  exact h
noncomputable def hdk (D : BD) (R : List Nat) (h S : Nat → Int32) (k : Nat) : Int32 := if S k < h k then 0 else flS (cI D) (S k) (R.drop (en (cI D) h S R k)) (h k)
theorem xr_lp {D : BD} {R : List Nat} {σ : SX} (hv : vX D R σ) {nl : Nat} (hn : nl ≤ 16) (h1 : sX_nl σ = nl) (h2 : sX_layers σ = nI nl) {Q : Int32 → SX → Prop} (hQ : ∀ hd ed : Nat → Int32, (∀ k, k < nl → ed k = nI (en (cI D) (sX_heads σ) (sX_sizes σ) R (k + 1)) ∧ hd k = hdk D R (sX_heads σ) (sX_sizes σ) k) → Q (nI (cf (sX_heads σ) (sX_sizes σ) nl)) (uX_shared (uX_ends (uX_held σ hd) ed) 1)) : ∀ (m k : Nat) (hd ed : Nat → Int32), k ≤ nl → nl - k < m → (∀ i, i < k → ed i = nI (en (cI D) (sX_heads σ) (sX_sizes σ) R (i + 1)) ∧ hd i = hdk D R (sX_heads σ) (sX_sizes σ) i) → wl_X_run_6 Q m (nI (cf (sX_heads σ) (sX_sizes σ) k)) (nI (en (cI D) (sX_heads σ) (sX_sizes σ) R k)) (nI k) (uX_ends (uX_held σ hd) ed) := by
  intro m
  induction m with
  | zero => intro k hd ed _ h; omega
  | succ m ih =>
    intro k hd ed hk hm hz
    rw [wl_X_run_6]
    refine pk_le nl k (fun c σ2 e2 => ?_) (fun c => ?_) (by simp only [rX_layers_ends, rX_layers_held]; exact h2) rfl
    · have ek : k = nl := by omega
      subst ek
      rw [e2]
      exact hQ hd ed hz
    · have hnl : ∀ a b : Nat → Int32, sX_nl (uX_ends (uX_held σ a) b) = nl := by intro a b; simp only [rX_nl_ends, rX_nl_held]; exact h1
      have ck : (nI k).toNatClampNeg = k := nI_clamp (by omega)
      refine ⟨pk_in k _ (by rw [hnl]; exact c) rfl (by rw [hnl]; omega), fun σ4 e4 => ?_⟩
      have e4' : σ4 = uX_ends (uX_held σ (upd hd k 0)) ed := by
        rw [e4, ck]
        simp only [rX_held_ends, rX_held_held, pX_held_ends, oX_held]
      have hin4 : vp_in (nI k) (sX_nl σ4) := pk_in k _ (by rw [e4', hnl]; exact c) rfl (by rw [e4', hnl]; omega)
      have s4 : sX_sizes σ4 = sX_sizes σ := by rw [e4']; simp only [rX_sizes_ends, rX_sizes_held]
      have g4 : sX_heads σ4 = sX_heads σ := by rw [e4']; simp only [rX_heads_ends, rX_heads_held]
      refine ⟨hin4, hin4, ?_⟩
      rw [ck, s4, g4]
      refine ⟨fun c2 => ⟨hin4, fun σ9 e9 => ?_⟩, fun c2 => ?_⟩
      · have e9' : σ9 = uX_ends (uX_held σ (upd hd k 0)) (upd ed k (nI (en (cI D) (sX_heads σ) (sX_sizes σ) R k))) := by
          rw [e9, e4']
          simp only [rX_ends_ends, oX_ends]
        rw [e9', nI_1]
        have q1 : cf (sX_heads σ) (sX_sizes σ) (k + 1) = cf (sX_heads σ) (sX_sizes σ) k := by rw [cf, if_pos c2]
        have q2 : en (cI D) (sX_heads σ) (sX_sizes σ) R (k + 1) = en (cI D) (sX_heads σ) (sX_sizes σ) R k := by rw [en, if_pos c2]
        rw [← q1, ← q2]
        refine ih (k + 1) _ _ (by omega) (by omega) (fun i hi => ?_)
        by_cases ei : i = k
        · rw [ei, pk_us, pk_us, hdk, if_pos c2]; exact ⟨rfl, rfl⟩
        · rw [pk_un ei, pk_un ei]; exact hz i (by omega)
      · unfold wp_X_fillLayer
        refine ⟨hin4, fun x2 e2 => ⟨R.length + 1, ?_⟩⟩
        have hv4 : vX D R σ4 := vX_mv hv (by rw [e4']; simp only [rX_ol_ends, rX_ol_held]) (by rw [e4']; simp only [rX_order_ends, rX_order_held]) (by rw [e4']; simp only [rX_costs_ends, rX_costs_held]) (by rw [e4']; simp only [rX_rises_ends, rX_rises_held])
        have hle := en_le (cI D) (sX_heads σ) (sX_sizes σ) R k
        refine xf_lp hv4 (by rw [e4', hnl]; exact c) (by rw [e4', hnl]; exact hn) (R.length + 1) _ x2 hle (by omega) ?_
        rw [ck, g4] at e2
        rw [e2, s4]
        have q1 : cf (sX_heads σ) (sX_sizes σ) (k + 1) = cf (sX_heads σ) (sX_sizes σ) k + 1 := by rw [cf, if_neg c2]
        have q2 : en (cI D) (sX_heads σ) (sX_sizes σ) R (k + 1) = en (cI D) (sX_heads σ) (sX_sizes σ) R k + flN (cI D) (sX_sizes σ k) (R.drop (en (cI D) (sX_heads σ) (sX_sizes σ) R k)) (sX_heads σ k) := by rw [en, if_neg c2]
        have q3 : flS (cI D) (sX_sizes σ k) (R.drop (en (cI D) (sX_heads σ) (sX_sizes σ) R k)) (sX_heads σ k) = hdk D R (sX_heads σ) (sX_sizes σ) k := by rw [hdk, if_neg c2]
        rw [← q2, q3]
        refine ⟨pk_in k _ (by rw [rX_nl_held, e4', hnl]; exact c) rfl (by rw [rX_nl_held, e4', hnl]; omega), fun σ13 e13 => ?_⟩
        have e13' : σ13 = uX_ends (uX_held σ (upd (upd hd k 0) k (hdk D R (sX_heads σ) (sX_sizes σ) k))) (upd ed k (nI (en (cI D) (sX_heads σ) (sX_sizes σ) R (k + 1)))) := by
          rw [e13, e4']
          simp only [rX_ends_ends, rX_ends_held, rX_held_ends, rX_held_held, pX_held_ends, oX_held, oX_ends]
        rw [e13', nI_1, nI_1, ← q1]
        refine ih (k + 1) _ _ (by omega) (by omega) (fun i hi => ?_)
        by_cases ei : i = k
        · rw [ei, pk_us, pk_us]; exact ⟨rfl, rfl⟩
        · rw [pk_un ei, pk_un ei, pk_un ei]; exact hz i (by omega)
theorem mf_lp {D : BD} {R : List Nat} {μ : SM} (hv : vM D R μ) {k : Nat} (hk : k < 16) {y2 : Int32} {Q : Int32 → SM → Prop} {k15 : Int32 → Int32 → Int32 → SM → Prop} : ∀ (m i : Nat) (s : Int32), i ≤ R.length → R.length - i < m → k15 (nI (i + flN (cI D) (sM_sizes μ k) (R.drop i) s)) y2 (nI (k + 1)) (uM_given μ (upd (sM_given μ) (k + 1) (nI (i + flN (cI D) (sM_sizes μ k) (R.drop i) s)))) → wl_M_run_45 y2 (nI k) Q k15 m (nI i) s μ := by
  obtain ⟨v2, v3, v4⟩ := hv
  intro m
  induction m with
  | zero => intro i s _ h; omega
  | succ m ih =>
    intro i s hi hm hQ
    rw [wl_M_run_45, nI_1]
    have hin : vp_in (nI k) 16 := pk_in k 16 hk
    have hin1 : vp_in (nI (k + 1)) 17 := pk_in (k + 1) 17 (by omega)
    have ck : (nI k).toNatClampNeg = k := nI_clamp (by omega)
    have ck1 : (nI (k + 1)).toNatClampNeg = k + 1 := nI_clamp (by omega)
    rw [ck1]
    refine pk_le R.length i (fun c => ⟨hin1, fun σ5 e5 => ?_⟩) (fun c => ?_) v3 rfl
    · rw [List.drop_eq_nil_of_le c, flN, Nat.add_zero] at hQ
      rw [e5]
      exact hQ
    · obtain ⟨x, hx, ed⟩ := dr c
      obtain ⟨o1, o2, o3, o4, o5⟩ := v4 i x hx
      have ci : (nI i).toNatClampNeg = i := nI_clamp (by omega)
      have cx : (nI (mi x)).toNatClampNeg = mi x := nI_clamp (by omega)
      have hi1 : vp_in (nI i) 960 := pk_in i 960 (by omega)
      have hx1 : vp_in (nI (mi x)) 960 := pk_in (mi x) 960 (by omega)
      rw [ci, o1, cx, ck, o4]
      rw [ed, flN] at hQ
      refine ⟨hi1, hx1, hin, fun c2 => ⟨hin1, fun σ11 e11 => ?_⟩, fun c2 => ⟨hi1, hx1, fun x14 e14 => ?_⟩⟩
      · rw [if_pos c2, Nat.add_zero] at hQ
        rw [e11]
        exact hQ
      · rw [if_neg c2] at hQ
        rw [e14, nI_1]
        refine ih (i + 1) _ (by omega) (by omega) ?_
        rw [show ∀ z, i + 1 + z = i + (z + 1) by intro z; omega]
        exact hQ
theorem mr_lp {D : BD} {R : List Nat} {μ : SM} (hv : vM D R μ) {nl : Nat} (hn : nl ≤ 16) (h2 : sM_layers μ = nI nl) {h S : Nat → Int32} (hS : ∀ k, k < nl → S k = sM_sizes μ k ∧ h k = sM_heads μ k) {Q : Int32 → SM → Prop} (hQ : ∀ g : Nat → Int32, (∀ k, k < nl → g (k + 1) = nI (en (cI D) h S R (k + 1))) → g 0 = sM_given μ 0 → Q (nI (cf h S nl)) (uM_shared (uM_given μ g) 1)) : ∀ (m k : Nat) (g : Nat → Int32), k ≤ nl → nl - k < m → (∀ i, i < k → g (i + 1) = nI (en (cI D) h S R (i + 1))) → g 0 = sM_given μ 0 → wl_M_run_15 Q m (nI (en (cI D) h S R k)) (nI (cf h S k)) (nI k) (uM_given μ g) := by
  intro m
  induction m with
  | zero => intro k g _ h; omega
  | succ m ih =>
    intro k g hk hm hz h0
    rw [wl_M_run_15]
    refine pk_le nl k (fun c σ2 e2 => ?_) (fun c => ?_) (by simp only [rM_layers_given]; exact h2) rfl
    · have ek : k = nl := by omega
      subst ek
      rw [e2]
      exact hQ g hz h0
    · have ck : (nI k).toNatClampNeg = k := nI_clamp (by omega)
      have hin : vp_in (nI k) 16 := pk_in k 16 (by omega)
      obtain ⟨s1, s2⟩ := hS k c
      have last : ∀ v : Nat, v = en (cI D) h S R (k + 1) → ∀ y : Int32, y = nI (cf h S (k + 1)) → ∀ ν : SM, ν = uM_given μ (upd g (k + 1) (nI v)) → wl_M_run_15 Q m (nI v) y (nI (k + 1)) ν := by
        intro v ev y ey ν en'
        rw [en', ev, ey]
        refine ih (k + 1) _ (by omega) (by omega) (fun i hi => ?_) ?_
        · by_cases ei : i = k
          · rw [ei, pk_us]
          · rw [pk_un (by omega)]; exact hz i (by omega)
        · rw [pk_un (by omega)]; exact h0
      refine ⟨hin, fun x6 e6 => ⟨hin, ?_⟩⟩
      simp only [rM_heads_given, rM_sizes_given, rM_given_given, ck, ← s1, ← s2] at e6 ⊢
      rw [e6]
      refine ⟨fun c2 => ?_, fun c2 => ⟨R.length + 1, ?_⟩⟩
      · rw [nI_1, nI_clamp (by omega)]
        refine ⟨pk_in (k + 1) 17 (by omega), fun μ10 e10 => ?_⟩
        refine last _ (by rw [en, if_pos c2]) _ (by rw [cf, if_pos c2]) μ10 ?_
        rw [e10, oM_given]
      · have hv4 : vM D R (uM_given μ g) := vM_mv hv (by simp only [rM_len_given]) (by simp only [rM_row_given]) (by simp only [rM_costs_given]) (by simp only [rM_rises_given])
        have hle := en_le (cI D) h S R k
        refine mf_lp hv4 (by omega) (R.length + 1) _ (h k) hle (by omega) ?_
        simp only [rM_sizes_given, rM_given_given, ← s1, oM_given]
        refine last _ (by rw [en, if_neg c2]) _ (by rw [cf, if_neg c2, nI_1]) _ rfl
theorem RR_run {D : BD} {nl : Nat} {σ : SX} {μ : SM} {R : List Nat} (h : RR D nl σ μ) (hR : d_row D R) (hl : m_l1 D μ) {hd ed g : Nat → Int32} (h1 : ∀ k, k < nl → ed k = nI (en (cI D) (sX_heads σ) (sX_sizes σ) R (k + 1)) ∧ hd k = hdk D R (sX_heads σ) (sX_sizes σ) k) (h2 : ∀ k, k < nl → g (k + 1) = nI (en (cI D) (sX_heads σ) (sX_sizes σ) R (k + 1))) (h3 : g 0 = sM_given μ 0) : RR D nl (uX_shared (uX_ends (uX_held σ hd) ed) 1) (uM_shared (uM_given μ g) 1) := by
  obtain ⟨k1, k2, k3, k4, k5, k6, k7, k8⟩ := h
  have hl' : m_l1 D (uM_shared (uM_given μ g) 1) := by
    unfold m_l1 at hl ⊢
    simp only [rM_laid_shared, rM_laid_given, rM_costs_shared, rM_costs_given, rM_rises_shared, rM_rises_given, rM_len_shared, rM_len_given, rM_row_shared, rM_row_given]
    exact hl
  refine ⟨?_, ?_, ?_, ?_, ?_, Or.inr hl', ?_, Or.inr ⟨?_, ?_, hl', R, hR, fun k hk => ?_⟩⟩
  · unfold x_b at k1 ⊢; simp only [rX_bc_shared, rX_bc_ends, rX_bc_held, rX_counts_shared, rX_counts_ends, rX_counts_held, rX_weights_shared, rX_weights_ends, rX_weights_held, rX_shifts_shared, rX_shifts_ends, rX_shifts_held, rX_ls_shared, rX_ls_ends, rX_ls_held, rX_gs_shared, rX_gs_ends, rX_gs_held]; exact k1
  · unfold x_r at k2 ⊢; simp only [rX_costs_shared, rX_costs_ends, rX_costs_held, rX_rises_shared, rX_rises_ends, rX_rises_held, rX_ol_shared, rX_ol_ends, rX_ol_held, rX_order_shared, rX_order_ends, rX_order_held]; exact k2
  · unfold m_b at k3 ⊢; simp only [rM_blocks_shared, rM_blocks_given, rM_many_shared, rM_many_given, rM_weights_shared, rM_weights_given, rM_shifts_shared, rM_shifts_given, rM_lens_shared, rM_lens_given, rM_gains_shared, rM_gains_given]; exact k3
  · unfold lr at k4 ⊢
    simp only [rX_nl_shared, rX_nl_ends, rX_nl_held, rX_layers_shared, rX_layers_ends, rX_layers_held, rX_sizes_shared, rX_sizes_ends, rX_sizes_held, rX_heads_shared, rX_heads_ends, rX_heads_held, rM_layers_shared, rM_layers_given, rM_sizes_shared, rM_sizes_given, rM_heads_shared, rM_heads_given]
    exact k4
  · simp only [rX_pc_shared, rX_pc_ends, rX_pc_held]; exact k5
  · simp only [rM_given_shared, rM_given_given]; rw [h3]; exact k7
  · simp only [rX_shared_shared]
  · simp only [rM_shared_shared]
  · unfold sh_k
    simp only [rX_ends_shared, rX_ends_ends, rX_ends_held, rX_held_shared, rX_held_ends, rX_held_held, rX_heads_shared, rX_heads_ends, rX_heads_held, rX_sizes_shared, rX_sizes_ends, rX_sizes_held, rM_given_shared, rM_given_given]
    exact ⟨(h1 k hk).1, h2 k hk, (h1 k hk).2⟩
theorem cg {p q : Prop} (h1 : p) (h2 : q) : (p → q) ∧ (¬ p → False) := ⟨fun _ => h2, fun c => c h1⟩
theorem lc_6 {L : Nat} {xs : Nat → Int32} {k : Nat → Int32 → SX → SM → (Nat → Int64) → Prop} {j : Nat} {i : Int32} {D : BD} {nl : Nat} {σ : SX} {μ : SM} {f : Nat → Int64} (h : RR D nl σ μ) (hK : ∀ D' σ' μ' f', RR D' nl σ' μ' → k (j + 1) (i + 4) σ' μ' f') : wc_law_6 L xs k j i σ μ f := by
  obtain ⟨R, hv⟩ := vX_of h.1.1 h.2.1
  obtain ⟨l1, l2, l3, l4, l5, l6⟩ := h.2.2.2.1
  unfold wc_law_6 wp_X_run
  refine ⟨nl + 1, ?_⟩
  have x := xr_lp hv l2 l3 l4 (Q := fun (r80 : Int32) (σ81 : SX) => wp_M_run μ (fun (r82 : Int32) (μ83 : SM) => (r80 = r82 → k (j + 1) (i + 4) σ81 μ83 f) ∧ (¬ r80 = r82 → False))) ?_ (nl + 1) 0 (sX_held σ) (sX_ends σ) (by omega) (by omega) (fun i hi => by omega)
  · rw [eX_held, eX_ends] at x
    exact x
  · intro hd ed he
    unfold wp_M_run
    intro μ1 e1
    have hr1 : RR D nl σ μ1 := by rw [e1]; exact RR_thr h 0
    refine ly_wp hr1 (fun μ2 hr2 hl2 _ => ⟨nl + 1, ?_⟩)
    obtain ⟨_, _, _, _, m5, m6⟩ := hr2.2.2.2.1
    have y := mr_lp (vM_of h.1.1 hv.1 hl2) l2 m5 (h := sX_heads σ) (S := sX_sizes σ) m6 (Q := fun (r82 : Int32) (μ83 : SM) => (nI (cf (sX_heads σ) (sX_sizes σ) nl) = r82 → k (j + 1) (i + 4) (uX_shared (uX_ends (uX_held σ hd) ed) 1) μ83 f) ∧ (¬ nI (cf (sX_heads σ) (sX_sizes σ) nl) = r82 → False)) ?_ (nl + 1) 0 (sM_given μ2) (by omega) (by omega) (fun i hi => by omega) rfl
    · rw [eM_given] at y
      exact y
    · intro g hg h0
      exact cg rfl (hK D _ _ _ (RR_run hr2 hv.1 hl2 he hg h0))
