/-! comesBefore, mergeIntoRow -/
/-- a point of the row, as the arrays have it -/
def x_pt (D : BD) (σ : SX) (x : Nat) : Prop := d_hp D x ∧ x < 1000 ∧ (sX_costs σ x).toInt = d_cost D x ∧ (sX_rises σ x).toInt = d_rise D x
theorem x_pt_lt {D : BD} (h : d_ok D) {x : Nat} (hx : d_hp D x) : x < 1000 ∧ 0 < x % 25 := by
  have h1 := h.1
  obtain ⟨a, b⟩ := hx
  exact ⟨by omega, b.1⟩
theorem x_pt_o {D : BD} {σ : SX} {a : Nat → Int32} {x : Nat} (h : x_pt D σ x) : x_pt D (uX_order σ a) x := by unfold x_pt at h ⊢; simp only [rX_costs_order, rX_rises_order]; exact h
theorem cs_wp {D : BD} (hd : d_ok D) {σ : SX} {x y : Nat} (hx : x_pt D σ x) (hy : x_pt D σ y) {Q : Int32 → SX → Prop} (h1 : d_rise D y * d_cost D x < d_rise D x * d_cost D y → Q 1 σ) (h0 : d_rise D x * d_cost D y = d_rise D y * d_cost D x → Q 0 σ) (h2 : d_rise D x * d_cost D y < d_rise D y * d_cost D x → Q (-1) σ) : wp_X_compareSlopes σ (nI x) (nI y) Q := by
  obtain ⟨x1, x2, x3, x4⟩ := hx
  obtain ⟨y1, y2, y3, y4⟩ := hy
  obtain ⟨a1, a2, a3, a4⟩ := d_hpos hd x1
  obtain ⟨b1, b2, b3, b4⟩ := d_hpos hd y1
  unfold wp_X_compareSlopes wp_JL_compare
  refine ⟨vp_in_nI x2 (by omega), vp_in_nI y2 (by omega), vp_in_nI y2 (by omega), vp_in_nI x2 (by omega), ?_⟩
  rw [nI_clamp (by omega), nI_clamp (by omega)]
  have m1 := nu_bd (a := d_rise D x) (b := d_cost D y) (A := 307200000000) (B := 240000) (by omega) (by omega) (by omega) (by omega)
  have m2 := nu_bd (a := d_rise D y) (b := d_cost D x) (A := 307200000000) (B := 240000) (by omega) (by omega) (by omega) (by omega)
  have t1 : (sX_rises σ x * (sX_costs σ y).toInt64).toInt = d_rise D x * d_cost D y := by
    rw [nl_mul (by rw [Int32.toInt_toInt64, x4, y3]; omega) (by rw [Int32.toInt_toInt64, x4, y3]; omega), Int32.toInt_toInt64, x4, y3]
  have t2 : (sX_rises σ y * (sX_costs σ x).toInt64).toInt = d_rise D y * d_cost D x := by
    rw [nl_mul (by rw [Int32.toInt_toInt64, y4, x3]; omega) (by rw [Int32.toInt_toInt64, y4, x3]; omega), Int32.toInt_toInt64, y4, x3]
  rw [lg_ge0, lg_eq0, t1, t2]
  exact ⟨fun c => ⟨fun c2 => h1 (by omega), fun c2 => h0 c2⟩, fun c => h2 (by omega)⟩
theorem cb_wp {D : BD} (hd : d_ok D) {σ : SX} {x y : Nat} (hx : x_pt D σ x) (hy : x_pt D σ y) {Q : Int32 → SX → Prop} (h1 : d_bf D x y → Q 1 σ) (h0 : ¬ d_bf D x y → Q 0 σ) : wp_X_comesBefore σ (nI x) (nI y) Q := by
  have x2 := hx.2.1
  have y2 := hy.2.1
  unfold wp_X_comesBefore
  refine cs_wp hd hx hy (fun c => ?_) (fun c => ?_) (fun c => ?_)
  · exact ⟨fun _ => h1 (Or.inl c), fun q => absurd (by decide) q⟩
  · refine ⟨fun q => absurd q (by decide), fun _ => ⟨fun q => absurd rfl q, fun _ => ⟨fun q => h0 ?_, fun q => h1 ?_⟩⟩⟩
    · have := (nI_leI (by omega) (by omega)).mp q
      unfold d_bf; omega
    · refine Or.inr ⟨c, ?_⟩
      rcases Nat.lt_or_ge x y with z | z
      · exact z
      · exact absurd (nI_le z (by omega)) q
  · exact ⟨fun q => absurd q (by decide), fun _ => ⟨fun _ => h0 (by unfold d_bf; omega), fun q => absurd q (by decide)⟩⟩
theorem nI_m1 (n : Nat) : nI (n + 1) - 1 = nI n := nI_pred n
theorem nI_neg1 : nI 0 - 1 < (0 : Int32) := by decide
theorem i_addneg (x : Int32) : x + (-1) = x - 1 := by rw [Int32.sub_eq_add_neg]
/-- how the row, unread part A, hull points C to come, and what is placed, S, stand -/
def mg_ok (D : BD) (A C S : List Nat) : Prop := A.Pairwise (d_bf D) ∧ C.Pairwise (d_bf D) ∧ S.Pairwise (d_bf D) ∧ (∀ a ∈ A, ∀ s ∈ S, d_bf D a s) ∧ (∀ c ∈ C, ∀ s ∈ S, d_bf D c s)
theorem mg_inner {D : BD} (hd : d_ok D) {σ : SX} {N : Nat} (hN : N ≤ 960) {y2 y3 : Int32} {Q : SX → Prop} {k33 : Int32 → Int32 → Int32 → SX → Prop} {b c : Nat} (hcb : c / 25 = b) (hc : x_pt D σ c) {C0 : List Nat} {mem : Nat → Prop}
    (hk : ∀ (A S : List Nat) (a : Nat → Int32), A.length + C0.length + S.length = N → mg_ok D A C0 S → (∀ x ∈ A ++ S, x_pt D σ x) → ah a 0 A → ah a (A.length + C0.length) S → (∀ x, x ∈ A ∨ x ∈ S ↔ mem x) → (∀ x ∈ A, x / 25 ≠ b) → k33 (nI A.length - 1) (nI (A.length + C0.length) - 1) (nI c + (-1)) (uX_order σ a)) :
    ∀ (m : Nat) (A S : List Nat) (a : Nat → Int32), A.length < m → A.length + (C0.length + 1) + S.length = N → mg_ok D A (C0 ++ [c]) S → (∀ x ∈ A ++ S, x_pt D σ x) → ah a 0 A → ah a (A.length + (C0.length + 1)) S → (∀ x, x ∈ A ∨ x = c ∨ x ∈ S ↔ mem x) → (∀ x ∈ A, x / 25 ≠ b) → (∀ x ∈ C0, x_pt D σ x) →
      wl_X_mergeIntoRow_49 y2 y3 (nI c) Q k33 m (nI A.length - 1) (nI (A.length + (C0.length + 1)) - 1) (uX_order σ a) := by
  intro m
  induction m with
  | zero => intro A S a h; omega
  | succ m ih =>
    intro A S a hm hlen hok hpt ha1 ha2 hmem hne hpc
    obtain ⟨o1, o2, o3, o4, o5⟩ := hok
    have c1000 := hc.2.1
    have ew : nI (A.length + (C0.length + 1)) - 1 = nI (A.length + C0.length) := by rw [← Nat.add_assoc, nI_pred]
    -- c is placed
    have place : (∀ x ∈ A, d_bf D x c) → k33 (nI A.length - 1) (nI (A.length + (C0.length + 1)) - 1 + (-1)) (nI c + (-1)) (uX_order σ (upd a (A.length + C0.length) (nI c))) := by
      intro hA
      rw [ew, i_addneg]
      obtain ⟨q1, q2, q3⟩ := List.pairwise_append.mp o2
      refine hk A (c :: S) _ (by simp only [List.length_cons]; omega) ⟨o1, q1, ?_, ?_, ?_⟩ (fun x hx => ?_) (ah_upd ha1 (Or.inr (by omega))) ?_ (fun x => ?_) hne
      · exact List.pairwise_cons.mpr ⟨fun s hs => o5 c (List.mem_append_right _ List.mem_cons_self) s hs, o3⟩
      · intro x hx s hs
        rcases List.mem_cons.mp hs with rfl | hs
        · exact hA x hx
        · exact o4 x hx s hs
      · intro x hx s hs
        rcases List.mem_cons.mp hs with rfl | hs
        · exact q3 x hx _ List.mem_cons_self
        · exact o5 x (List.mem_append_left _ hx) s hs
      · rcases List.mem_append.mp hx with hx | hx
        · exact hpt x (List.mem_append_left _ hx)
        · rcases List.mem_cons.mp hx with rfl | hx
          · exact hc
          · exact hpt x (List.mem_append_right _ hx)
      · refine ah_cons pk_us (ah_upd ?_ (Or.inl (by omega)))
        rw [Nat.add_assoc]; exact ha2
      · rw [← hmem, List.mem_cons]
    rw [wl_X_mergeIntoRow_49]
    simp only [rX_order_order, oX_order]
    refine ⟨fun c1 => ?_, fun c1 => ?_⟩
    · have hA : A = [] := by
        cases hA : A with
        | nil => rfl
        | cons z l =>
          rw [hA] at c1
          rw [List.length_cons, nI_pred] at c1
          have hl : l.length < 2 ^ 31 := by rw [hA] at hlen; simp only [List.length_cons] at hlen; omega
          exact absurd c1 (nI_pos hl)
      refine ⟨by rw [ew]; exact vp_in_nI (by omega) (by omega), fun σ13 e13 => ?_⟩
      rw [ew, nI_clamp (by omega)] at e13
      rw [e13]
      exact place (fun x hx => by rw [hA] at hx; cases hx)
    · rcases List.eq_nil_or_concat A with hA | ⟨A0, z, hA⟩
      · exact absurd (by rw [hA]; exact nI_neg1) c1
      · rw [List.concat_eq_append] at hA
        subst hA
        have hl : (A0 ++ [z]).length = A0.length + 1 := by simp
        have hz : x_pt D σ z := hpt z (by simp)
        rw [hl] at hlen ha2 hm ew place ⊢
        have er : nI (A0.length + 1) - 1 = nI A0.length := nI_pred _
        have ez : a A0.length = nI z := by
          have := ha1 A0.length z (by simp)
          rwa [Nat.zero_add] at this
        refine ⟨by rw [er]; exact vp_in_nI (by omega) (by omega), ?_⟩
        rw [er, nI_clamp (by omega)]
        rw [ez]
        refine cb_wp (σ := uX_order σ a) hd (x_pt_o hc) (x_pt_o hz) (fun hb => ?_) (fun hb => ?_)
        · -- z moves
          refine ⟨fun q => absurd q (by decide), fun _ => ⟨vp_in_nI (by omega) (by omega), by rw [ew]; exact vp_in_nI (by omega) (by omega), fun σ22 e22 => ?_⟩⟩
          simp only [rX_order_order, oX_order] at e22
          rw [ew, nI_clamp (by omega)] at e22
          have e22' : σ22 = uX_order σ (upd a (A0.length + 1 + C0.length) (nI z)) := by rw [e22, ez]
          rw [e22', ew, i_addneg, i_addneg]
          have e5 : A0.length + 1 + C0.length = A0.length + (C0.length + 1) := by omega
          rw [e5]
          obtain ⟨q1, q2, q3⟩ := List.pairwise_append.mp o1
          refine ih A0 (z :: S) _ (by omega) (by simp only [List.length_cons]; omega) ⟨q1, o2, ?_, ?_, ?_⟩ (fun x hx => ?_) (ah_upd (ah_left ha1) (Or.inr (by omega))) ?_ (fun x => ?_) (fun x hx => hne x (List.mem_append_left _ hx)) hpc
          · exact List.pairwise_cons.mpr ⟨fun s hs => o4 z (by simp) s hs, o3⟩
          · intro x hx s hs
            rcases List.mem_cons.mp hs with rfl | hs
            · exact q3 x hx _ List.mem_cons_self
            · exact o4 x (List.mem_append_left _ hx) s hs
          · intro x hx s hs
            rcases List.mem_cons.mp hs with rfl | hs
            · rcases List.mem_append.mp hx with hx | hx
              · exact d_bf_tr hd (hpc x hx).1 hc.1 hz.1 ((List.pairwise_append.mp o2).2.2 x hx c List.mem_cons_self) hb
              · rw [List.mem_singleton.mp hx]; exact hb
            · exact o5 x hx s hs
          · rcases List.mem_append.mp hx with hx | hx
            · exact hpt x (by simp [hx])
            · rcases List.mem_cons.mp hx with rfl | hx
              · exact hz
              · exact hpt x (List.mem_append_right _ hx)
          · refine ah_cons pk_us (ah_upd ?_ (Or.inl (by omega)))
            rw [show A0.length + (C0.length + 1) + 1 = A0.length + 1 + (C0.length + 1) by omega]; exact ha2
          · rw [← hmem, List.mem_cons, List.mem_append, List.mem_singleton]
            constructor
            · rintro (h | h | h | h)
              · exact Or.inl (Or.inl h)
              · exact Or.inr (Or.inl h)
              · exact Or.inl (Or.inr h)
              · exact Or.inr (Or.inr h)
            · rintro ((h | h) | h | h)
              · exact Or.inl h
              · exact Or.inr (Or.inr (Or.inl h))
              · exact Or.inr (Or.inl h)
              · exact Or.inr (Or.inr (Or.inr h))
        · -- c is placed behind z
          refine ⟨fun _ => ⟨by rw [ew]; exact vp_in_nI (by omega) (by omega), fun σ19 e19 => ?_⟩, fun q => absurd rfl q⟩
          simp only [rX_order_order, oX_order] at e19
          rw [ew, nI_clamp (by omega)] at e19
          have e19' : σ19 = uX_order σ (upd a (A0.length + 1 + C0.length) (nI c)) := e19
          rw [e19', ← er]
          have hzc : d_bf D z c := (d_bf_tot (fun e => hne z (by simp) (by rw [e]; exact hcb))).resolve_right hb
          have hp := place (fun x hx => ?_)
          · exact hp
          · rcases List.mem_append.mp hx with hx | hx
            · exact d_bf_tr hd (hpt x (by simp [hx])).1 hz.1 hc.1 ((List.pairwise_append.mp o1).2.2 x hx z List.mem_cons_self) hzc
            · rw [List.mem_singleton.mp hx]; exact hzc
