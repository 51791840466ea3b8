/-! mergeIntoRow's outer loop, renewBlock -/
theorem hq_pw {D : BD} (hd : d_ok D) {b : Nat} (hb : b < d_nb D) : ∀ q, q ≤ d_cn D b → (hq (d_on D b) (25 * b) q).Pairwise (d_bf D) := by
  intro q
  induction q with
  | zero => intro _; exact List.Pairwise.nil
  | succ q ih =>
    intro hqn
    rw [hq]
    by_cases h : d_on D b (q + 1)
    · rw [if_pos h]
      refine List.pairwise_append.mpr ⟨ih (by omega), List.pairwise_singleton _ _, fun x hx y hy => ?_⟩
      obtain ⟨p, h1, h2, h3, h4⟩ := (hq_mem _ _ _ _).mp hx
      rw [List.mem_singleton.mp hy, h4]
      exact Or.inl (d_fall hd hb (q + 1) p h1 (by omega) h3 h)
    · rw [if_neg h]; exact ih (by omega)
theorem x_h_pt {D : BD} (hd : d_ok D) {σ : SX} {b : Nat} (hb : b < d_nb D) (hh : x_h D b (d_cn D b) (sX_costs σ) (sX_rises σ)) {p : Nat} (h1 : d_on D b p) : x_pt D σ (25 * b + p) := by
  have h40 := hd.1
  have h24 := (hd.2 b hb).1
  have hp := h1.2.1
  have e1 : (25 * b + p) / 25 = b := by omega
  have e2 : (25 * b + p) % 25 = p := by omega
  refine ⟨by unfold d_hp; rw [e1, e2]; exact ⟨hb, h1⟩, by omega, (hh p h1.1 hp).1 h1⟩
theorem mg_outer {D : BD} (hd : d_ok D) {σ : SX} {b : Nat} (hb : b < d_nb D) (hh : x_h D b (d_cn D b) (sX_costs σ) (sX_rises σ)) {N N0 hc : Nat} (hN : N ≤ 960) (hN0 : N0 + hc = N) (hol : sX_ol σ = nI N0) {Q : SX → Prop} {mem : Nat → Prop}
    (hQ : ∀ (l : List Nat) (a : Nat → Int32), l.length = N → l.Pairwise (d_bf D) → (∀ x, x ∈ l ↔ mem x) → ah a 0 l → Q (uX_ol (uX_order σ a) (nI N))) :
    ∀ (m q : Nat) (A S : List Nat) (a : Nat → Int32), q ≤ d_cn D b → q < m → A.length + (hq (d_on D b) (25 * b) q).length + S.length = N → mg_ok D A (hq (d_on D b) (25 * b) q) S → (∀ x ∈ A ++ S, x_pt D σ x) → ah a 0 A → ah a (A.length + (hq (d_on D b) (25 * b) q).length) S → (∀ x, x ∈ A ∨ x ∈ hq (d_on D b) (25 * b) q ∨ x ∈ S ↔ mem x) → (∀ x ∈ A, x / 25 ≠ b) →
      wl_X_mergeIntoRow_33 (nI hc) (nI (25 * b)) Q m (nI A.length - 1) (nI (A.length + (hq (d_on D b) (25 * b) q).length) - 1) (nI (25 * b + q)) (uX_order σ a) := by
  have h40 := hd.1
  have h24 := (hd.2 b hb).1
  intro m
  induction m with
  | zero => intro q A S a _ h; omega
  | succ m ih =>
    intro q A S a hqn hqm hlen hok hpt ha1 ha2 hmem hAb
    rw [wl_X_mergeIntoRow_33]
    simp only [rX_costs_order, rX_ol_order]
    refine ⟨fun c1 => ?_, fun c1 => ?_⟩
    · have h1 := (nI_leI (by omega) (by omega)).mp c1
      have hq0 : q = 0 := by omega
      subst hq0
      intro σ8 e8
      have e8' : σ8 = uX_ol (uX_order σ a) (nI N) := by
        rw [e8, hol, nI_add, hN0]
      rw [e8']
      rw [hq] at hlen ha2 hmem hok
      obtain ⟨o1, _, o3, o4, _⟩ := hok
      refine hQ (A ++ S) a (by rw [List.length_append]; simp only [List.length_nil] at hlen; omega) (List.pairwise_append.mpr ⟨o1, o3, o4⟩) (fun x => ?_) (ah_app ha1 ?_)
      · rw [List.mem_append, ← hmem]; simp
      · rw [Nat.zero_add]; simpa using ha2
    · have hq1 : 0 < q := by
        rcases Nat.eq_zero_or_pos q with h | h
        · exact absurd (by rw [h]; exact nI_le (Nat.le_refl _) (by omega)) c1
        · exact h
      obtain ⟨q', rfl⟩ : ∃ z, q = z + 1 := ⟨q - 1, by omega⟩
      have eq1 : nI (25 * b + (q' + 1)) + (-1) = nI (25 * b + q') := by rw [← Nat.add_assoc]; exact pk_m1 _
      refine ⟨vp_in_nI (by omega) (by omega), ?_⟩
      rw [nI_clamp (by omega)]
      have hh1 := hh (q' + 1) (by omega) hqn
      refine ⟨fun c2 => ?_, fun c2 => ?_⟩
      · have hno : ¬ d_on D b (q' + 1) := by
          intro h
          have h2 := (hh1.1 h).1
          have h3 := (d_hpos hd (x_h_pt hd hb hh h).1).1
          have h4 := Int32.le_iff_toInt_le.mp c2
          rw [show (0 : Int32).toInt = 0 from rfl] at h4
          omega
        have e : hq (d_on D b) (25 * b) (q' + 1) = hq (d_on D b) (25 * b) q' := by rw [hq, if_neg hno]
        rw [e] at hlen hok ha2 hmem ⊢
        rw [eq1]
        exact ih q' A S a (by omega) (by omega) hlen hok hpt ha1 ha2 hmem hAb
      · have hon : d_on D b (q' + 1) := by
          by_cases h : d_on D b (q' + 1)
          · exact h
          · have h2 := (hh1.2 h).1
            exact absurd (by rw [h2]; decide) c2
        have e : hq (d_on D b) (25 * b) (q' + 1) = hq (d_on D b) (25 * b) q' ++ [25 * b + (q' + 1)] := by rw [hq, if_pos hon]
        have el : (hq (d_on D b) (25 * b) (q' + 1)).length = (hq (d_on D b) (25 * b) q').length + 1 := by rw [e, List.length_append]; rfl
        rw [el] at hlen ha2 ⊢
        rw [e] at hok hmem
        refine ⟨A.length + 1, ?_⟩
        refine mg_inner (D := D) hd (σ := σ) (N := N) hN (b := b) (c := 25 * b + (q' + 1)) (by omega) (x_h_pt hd hb hh hon) (C0 := hq (d_on D b) (25 * b) q') (mem := fun x => x ∈ A ∨ x = 25 * b + (q' + 1) ∨ x ∈ S) (fun A1 S1 a1 l1 k1 p1 h1 h2 m1 n1 => ?_) (A.length + 1) A S a (Nat.lt_succ_self _) hlen hok hpt ha1 ha2 (fun x => Iff.rfl) hAb (fun x hx => ?_)
        · rw [eq1]
          refine ih q' A1 S1 a1 (by omega) (by omega) l1 k1 p1 h1 h2 (fun x => ?_) n1
          · rw [← hmem, List.mem_append, List.mem_singleton]
            have := m1 x
            constructor
            · rintro (h | h | h)
              · rcases this.mp (Or.inl h) with z | z | z
                · exact Or.inl z
                · exact Or.inr (Or.inl (Or.inr z))
                · exact Or.inr (Or.inr z)
              · exact Or.inr (Or.inl (Or.inl h))
              · rcases this.mp (Or.inr h) with z | z | z
                · exact Or.inl z
                · exact Or.inr (Or.inl (Or.inr z))
                · exact Or.inr (Or.inr z)
            · rintro (h | (h | h) | h)
              · rcases this.mpr (Or.inl h) with z | z
                · exact Or.inl z
                · exact Or.inr (Or.inr z)
              · exact Or.inr (Or.inl h)
              · rcases this.mpr (Or.inr (Or.inl h)) with z | z
                · exact Or.inl z
                · exact Or.inr (Or.inr z)
              · rcases this.mpr (Or.inr (Or.inr h)) with z | z
                · exact Or.inl z
                · exact Or.inr (Or.inr z)
        · obtain ⟨p, p1, p2, p3, p4⟩ := (hq_mem _ _ _ _).mp hx
          rw [p4]; exact x_h_pt hd hb hh p3

/-- the pigeon holes -/
theorem pg_le {l : List Nat} (hn : l.Nodup) (h : ∀ x ∈ l, x < 1000 ∧ 0 < x % 25) : l.length ≤ 960 := by
  have h2 : (l.map (fun x => x / 25 * 24 + (x % 25 - 1))).Nodup := by
    refine List.pairwise_map.mpr (List.Pairwise.imp_of_mem ?_ hn)
    intro a b ha hb hab e
    obtain ⟨a1, a2⟩ := h a ha
    obtain ⟨b1, b2⟩ := h b hb
    exact hab (by omega)
  have h3 : (l.map (fun x => x / 25 * 24 + (x % 25 - 1))).length ≤ (List.range 960).length := by
    refine List.Nodup.length_le_of_subset h2 (fun y hy => ?_)
    obtain ⟨x, hx, rfl⟩ := List.mem_map.mp hy
    obtain ⟨a1, a2⟩ := h x hx
    exact List.mem_range.mpr (by omega)
  simpa using h3
theorem pw_nd {D : BD} {l : List Nat} (h : l.Pairwise (d_bf D)) : l.Nodup := List.Pairwise.imp (fun {a b} hab e => by subst e; exact d_bf_as hab hab) h
theorem row_le {D : BD} (hd : d_ok D) {l : List Nat} (h1 : l.Pairwise (d_bf D)) (h2 : ∀ x ∈ l, d_hp D x) : l.length ≤ 960 := pg_le (pw_nd h1) (fun x hx => x_pt_lt hd (h2 x hx))
/-- D and D' tell the same of all blocks but b -/
def d_but (D D' : BD) (b : Nat) : Prop := d_nb D = d_nb D' ∧ ∀ c, c ≠ b → d_cn D c = d_cn D' c ∧ d_L D c = d_L D' c ∧ d_G D c = d_G D' c ∧ d_w D c = d_w D' c ∧ d_s D c = d_s D' c
theorem d_but_on {D D' : BD} {b c : Nat} (h : d_but D D' b) (hc : c ≠ b) : d_on D c = d_on D' c := by
  obtain ⟨e1, e2, e3, _⟩ := h.2 c hc
  unfold d_on
  rw [e1, e2, e3]
theorem d_but_x {D D' : BD} {b x : Nat} (h : d_but D D' b) (hx : x / 25 ≠ b) : (d_hp D x ↔ d_hp D' x) ∧ d_cost D x = d_cost D' x ∧ d_rise D x = d_rise D' x := by
  obtain ⟨e1, e2, e3, e4, e5⟩ := h.2 _ hx
  unfold d_hp d_cost d_rise d_pv d_sc
  rw [d_but_on h hx, h.1, e2, e3, e4, e5]
  exact ⟨Iff.rfl, rfl, rfl⟩
theorem d_but_bf {D D' : BD} {b x y : Nat} (h : d_but D D' b) (hx : x / 25 ≠ b) (hy : y / 25 ≠ b) : d_bf D x y ↔ d_bf D' x y := by
  obtain ⟨_, e1, e2⟩ := d_but_x h hx
  obtain ⟨_, e3, e4⟩ := d_but_x h hy
  unfold d_bf
  rw [e1, e2, e3, e4]
/-- the arrays and the row stand for D -/
def x_r (D : BD) (σ : SX) : Prop := (∀ b, b < d_nb D → x_h D b (d_cn D b) (sX_costs σ) (sX_rises σ)) ∧ ∃ l : List Nat, d_row D l ∧ sX_ol σ = nI l.length ∧ ah (sX_order σ) 0 l
theorem rn_wp {D D' : BD} {σ : SX} {b : Nat} (hx : x_b D' σ) (hb : b < d_nb D') (hd : d_ok D) (hbut : d_but D D' b) (hh : ∀ c, c < d_nb D → c ≠ b → x_h D c (d_cn D c) (sX_costs σ) (sX_rises σ)) (hrow : ∃ l : List Nat, d_row D l ∧ sX_ol σ = nI l.length ∧ ah (sX_order σ) 0 l) {Q : SX → Prop}
    (hQ : ∀ (c : Nat → Int32) (r : Nat → Int64) (a : Nat → Int32) (n : Int32), x_r D' (uX_ol (uX_order (uX_costs (uX_rises σ r) c) a) n) → Q (uX_ol (uX_order (uX_costs (uX_rises (uX_shared σ 0) r) c) a) n)) : wp_X_renewBlock σ (nI b) Q := by
  have hd' := hx.1
  have h40 := hd'.1
  have h24 := (hd'.2 b hb).1
  obtain ⟨l, ⟨l1, l2⟩, l3, l4⟩ := hrow
  have hll := row_le hd l1 (fun x hx => (l2 x).mp hx)
  unfold wp_X_renewBlock wp_X_takeFromRow
  refine ⟨l.length + 1, ?_⟩
  have t0 := tk_lp (σ := σ) (b := b) (N := l.length) (by omega) hll l3 (Q := fun (σ1 : SX) => wp_X_makeHull σ1 (nI b) (fun (r3 : Int32) (σ2 : SX) => wp_X_mergeIntoRow σ2 (nI b) r3 (fun (σ4 : SX) => ∀ σ5 : SX, σ5 = uX_shared σ4 0 → Q σ5))) (l.length + 1) l 0 [] (sX_order σ) (Nat.lt_succ_self _) (Nat.zero_add _) (Nat.le_refl _) ah_nil l4 (fun x hx => (x_pt_lt hd ((l2 x).mp hx)).1) ?_
  · rwa [eX_order] at t0
  · intro a' l' el ha'
    rw [List.nil_append] at el
    have m' : ∀ x, x ∈ l' ↔ d_hp D' x ∧ x / 25 ≠ b := by
      intro x
      rw [el, List.mem_filter, l2]
      simp only [decide_eq_true_eq]
      constructor
      · rintro ⟨h1, h2⟩; exact ⟨(d_but_x hbut h2).1.mp h1, h2⟩
      · rintro ⟨h1, h2⟩; exact ⟨(d_but_x hbut h2).1.mpr h1, h2⟩
    have p' : l'.Pairwise (d_bf D') := by
      have h1 : l'.Pairwise (d_bf D) := by rw [el]; exact List.Pairwise.filter _ l1
      refine List.Pairwise.imp_of_mem ?_ h1
      intro x y hx hy h
      exact (d_but_bf hbut ((m' x).mp hx).2 ((m' y).mp hy).2).mp h
    refine mh_wp (D := D') (σ := uX_ol (uX_order σ a') (nI l'.length)) (by unfold x_b at hx ⊢; simp only [rX_bc_ol, rX_bc_order, rX_counts_ol, rX_counts_order, rX_weights_ol, rX_weights_order, rX_shifts_ol, rX_shifts_order, rX_ls_ol, rX_ls_order, rX_gs_ol, rX_gs_order]; exact hx) hb (fun c r hc ho => ?_)
    simp only [rX_costs_ol, rX_costs_order, rX_rises_ol, rX_rises_order] at ho
    unfold wp_X_mergeIntoRow wp_X_startOf
    simp only [rX_ol_costs, rX_ol_rises, rX_ol_ol, rX_counts_costs, rX_counts_rises, rX_counts_ol, rX_counts_order]
    have es : nI b * 25 = nI (25 * b) := by rw [show (25 : Int32) = nI 25 from rfl, pk_mul, Nat.mul_comm]
    have ec : (nI b).toNatClampNeg = b := nI_clamp (by omega)
    intro x3 e3 x4 e4
    refine ⟨vp_in_nI (by omega) (by omega), fun x6 e6 => ⟨d_cn D' b + 1, ?_⟩⟩
    rw [es] at e6 ⊢
    rw [ec] at e6
    have e3' : x3 = nI l'.length - 1 := e3
    have e4' : x4 = nI (l'.length + (hq (d_on D' b) (25 * b) (d_cn D' b)).length) - 1 := by rw [e4, ← nI_add]
    have e6' : x6 = nI (25 * b + d_cn D' b) := by
      rw [e6, (hx.2.2.1 b hb).1, nI_add]
    rw [e3', e4', e6']
    obtain ⟨σ2, eσ2⟩ : ∃ z : SX, z = uX_ol (uX_costs (uX_rises σ r) c) (nI l'.length) := ⟨_, rfl⟩
    have hst : uX_costs (uX_rises (uX_ol (uX_order σ a') (nI l'.length)) r) c = uX_order σ2 a' := by
      rw [eσ2]; simp only [pX_rises_costs, pX_rises_order, pX_rises_ol, pX_costs_order, pX_costs_ol, pX_order_ol]
    have hc2 : sX_costs σ2 = c := by rw [eσ2]; simp only [rX_costs_ol, rX_costs_costs]
    have hr2 : sX_rises σ2 = r := by rw [eσ2]; simp only [rX_rises_ol, rX_rises_costs, rX_rises_rises]
    have ho2 : sX_ol σ2 = nI l'.length := by rw [eσ2]; simp only [rX_ol_ol]
    have hh2 : ∀ c', c' < d_nb D' → x_h D' c' (d_cn D' c') c r := by
      intro c' hc'
      by_cases hcb : c' = b
      · rw [hcb]; exact hc
      · obtain ⟨q1, q2, q3, q4, q5⟩ := hbut.2 c' hcb
        intro p p1 p2
        have hc24 := (hd'.2 c' hc').1
        have k := hh c' (by rw [hbut.1]; exact hc') hcb p p1 (by rw [q1]; exact p2)
        have h25 : (25 * c' + p) / 25 = c' := by omega
        obtain ⟨o1, o2⟩ := ho (25 * c' + p) (by omega)
        obtain ⟨_, x1, x2⟩ := d_but_x hbut (x := 25 * c' + p) (by rw [h25]; exact hcb)
        rw [o1, o2, ← d_but_on hbut hcb, ← x1, ← x2]
        exact k
    have hn : ∀ x ∈ l' ++ hq (d_on D' b) (25 * b) (d_cn D' b), d_hp D' x := by
      intro x hx9
      rcases List.mem_append.mp hx9 with h | h
      · exact ((m' x).mp h).1
      · obtain ⟨p, p1, p2, p3, p4⟩ := (hq_mem _ _ _ _).mp h
        rw [p4]; unfold d_hp
        rw [show (25 * b + p) / 25 = b by omega, show (25 * b + p) % 25 = p by omega]
        exact ⟨hb, p3⟩
    have hnd : (l' ++ hq (d_on D' b) (25 * b) (d_cn D' b)).Nodup := by
      refine List.pairwise_append.mpr ⟨pw_nd p', pw_nd (hq_pw hd' hb _ (Nat.le_refl _)), fun x hx9 y hy e => ?_⟩
      obtain ⟨p, p1, p2, p3, p4⟩ := (hq_mem _ _ _ _).mp hy
      exact ((m' x).mp hx9).2 (by rw [e, p4]; omega)
    have hlen := pg_le hnd (fun x hx9 => x_pt_lt hd' (hn x hx9))
    rw [List.length_append] at hlen
    have hpt : ∀ x, d_hp D' x → x_pt D' σ2 x := by
      intro x hx9
      obtain ⟨h1, h2⟩ := id hx9
      have := x_h_pt (σ := σ2) hd' h1 (by rw [hc2, hr2]; exact hh2 _ h1) h2
      rwa [show 25 * (x / 25) + x % 25 = x by omega] at this
    have main := mg_outer (D := D') hd' (σ := σ2) hb (by rw [hc2, hr2]; exact hc) (N := l'.length + (hq (d_on D' b) (25 * b) (d_cn D' b)).length) (N0 := l'.length) (hc := (hq (d_on D' b) (25 * b) (d_cn D' b)).length) hlen rfl ho2 (Q := fun (σ4 : SX) => ∀ σ5 : SX, σ5 = uX_shared σ4 0 → Q σ5) (mem := d_hp D') ?_ (d_cn D' b + 1) (d_cn D' b) l' [] a' (Nat.le_refl _) (Nat.lt_succ_self _) (by simp) ⟨p', hq_pw hd' hb _ (Nat.le_refl _), List.Pairwise.nil, fun _ _ s hs => absurd hs List.not_mem_nil, fun _ _ s hs => absurd hs List.not_mem_nil⟩ (fun x hx9 => hpt x ((m' x).mp (by simpa using hx9)).1) ha' ah_nil ?_ (fun x hx9 => ((m' x).mp hx9).2)
    · rw [hst]; exact main
    · intro l9 a9 n9 p9 m9 h9 σ5 e5
      have e6 : σ5 = uX_ol (uX_order (uX_costs (uX_rises (uX_shared σ 0) r) c) a9) (nI (l'.length + (hq (d_on D' b) (25 * b) (d_cn D' b)).length)) := by
        rw [e5, eσ2]; simp only [pX_order_ol, oX_ol, pX_shared_ol, pX_shared_order, pX_shared_costs, pX_shared_rises]
      rw [e6]
      refine hQ c r a9 (nI (l'.length + (hq (d_on D' b) (25 * b) (d_cn D' b)).length)) ?_
      unfold x_r
      simp only [rX_costs_ol, rX_costs_order, rX_costs_costs, rX_rises_ol, rX_rises_order, rX_rises_costs, rX_rises_rises, rX_ol_ol, rX_order_ol, rX_order_order]
      exact ⟨hh2, l9, ⟨p9, m9⟩, by rw [n9], h9⟩
    · intro x
      constructor
      · rintro (h | h | h)
        · exact ((m' x).mp h).1
        · exact hn x (List.mem_append_right _ h)
        · cases h
      · intro h
        by_cases hxb : x / 25 = b
        · refine Or.inr (Or.inl ((hq_mem _ _ _ _).mpr ⟨x % 25, h.2.1, ?_, ?_, by omega⟩))
          · rw [← hxb]; exact h.2.2.1
          · rw [← hxb]; exact h.2
        · exact Or.inl ((m' x).mpr ⟨h, hxb⟩)
