/-! the row: an array that holds a list of points -/
def ah (a : Nat → Int32) (o : Nat) (l : List Nat) : Prop := ∀ m x, l[m]? = some x → a (o + m) = nI x
theorem ah_nil {a : Nat → Int32} {o : Nat} : ah a o [] := fun m x h => by simp at h
theorem ah_hd {a : Nat → Int32} {o x : Nat} {l : List Nat} (h : ah a o (x :: l)) : a o = nI x := h 0 x rfl
theorem ah_tl {a : Nat → Int32} {o x : Nat} {l : List Nat} (h : ah a o (x :: l)) : ah a (o + 1) l := fun m y hm => by
  have h1 := h (m + 1) y (by simpa using hm)
  rw [show o + 1 + m = o + (m + 1) by omega]; exact h1
theorem ah_cons {a : Nat → Int32} {o x : Nat} {l : List Nat} (h0 : a o = nI x) (h : ah a (o + 1) l) : ah a o (x :: l) := fun m y hm => by
  cases m with
  | zero => simp at hm; subst hm; exact h0
  | succ m => simp at hm; rw [show o + (m + 1) = o + 1 + m by omega]; exact h m y hm
theorem ah_app {a : Nat → Int32} {o : Nat} {l1 l2 : List Nat} (h1 : ah a o l1) (h2 : ah a (o + l1.length) l2) : ah a o (l1 ++ l2) := fun m y hm => by
  rcases Nat.lt_or_ge m l1.length with h | h
  · rw [List.getElem?_append_left h] at hm; exact h1 m y hm
  · rw [List.getElem?_append_right h] at hm
    have := h2 _ y hm
    rwa [show o + l1.length + (m - l1.length) = o + m by omega] at this
theorem ah_left {a : Nat → Int32} {o : Nat} {l1 l2 : List Nat} (h : ah a o (l1 ++ l2)) : ah a o l1 := fun m y hm => by
  have hl : m < l1.length := (List.getElem?_eq_some_iff.mp hm).1
  exact h m y (by rw [List.getElem?_append_left hl]; exact hm)
theorem ah_right {a : Nat → Int32} {o : Nat} {l1 l2 : List Nat} (h : ah a o (l1 ++ l2)) : ah a (o + l1.length) l2 := fun m y hm => by
  have := h (l1.length + m) y (by rw [List.getElem?_append_right (by omega)]; rw [show l1.length + m - l1.length = m by omega]; exact hm)
  rwa [show o + (l1.length + m) = o + l1.length + m by omega] at this
theorem ah_upd {a : Nat → Int32} {o k : Nat} {x : Int32} {l : List Nat} (h : ah a o l) (hk : k < o ∨ o + l.length ≤ k) : ah (upd a k x) o l := fun m y hm => by
  have hl : m < l.length := (List.getElem?_eq_some_iff.mp hm).1
  rw [pk_un (by omega)]; exact h m y hm
theorem nI_div25 {x : Nat} (h : x < 1000) : nI x / 25 = nI (x / 25) := pk_div (d := 25) (by omega) (by omega) (by omega)
/-- the loop of takeFromRow -/
theorem tk_lp {σ : SX} {b N : Nat} (hb : b < 40) (hN : N ≤ 960) (hol : sX_ol σ = nI N) {Q : SX → Prop} : ∀ (m : Nat) (rest : List Nat) (i : Nat) (dn : List Nat) (a : Nat → Int32), rest.length < m → i + rest.length = N → dn.length ≤ i → ah a 0 dn → ah a i rest → (∀ x ∈ rest, x < 1000) →
    (∀ (a' : Nat → Int32) (l : List Nat), l = dn ++ rest.filter (fun x => decide (x / 25 ≠ b)) → ah a' 0 l → Q (uX_ol (uX_order σ a') (nI l.length))) →
    wl_X_takeFromRow_4 (nI b) Q m (nI dn.length) (nI i) (uX_order σ a) := by
  intro m
  induction m with
  | zero => intro rest i dn a h; omega
  | succ m ih =>
    intro rest i dn a hm hi hd ha1 ha2 hx hQ
    rw [wl_X_takeFromRow_4]
    refine ⟨fun c => ?_, fun c => ?_⟩
    · have hc : N ≤ i := (nI_leI (by omega) (by omega)).mp (by rw [← hol]; exact c)
      have hr : rest = [] := List.eq_nil_of_length_eq_zero (by omega)
      intro σ2 e2
      rw [e2]
      have := hQ a dn (by rw [hr]; simp) ha1
      exact this
    · have hc : i < N := by
        rcases Nat.lt_or_ge i N with h | h
        · exact h
        · exact absurd (by show sX_ol σ ≤ nI i; rw [hol]; exact nI_le h (by omega)) c
      cases rest with
      | nil => simp at hi; omega
      | cons x rest =>
        have hx0 : x < 1000 := hx x List.mem_cons_self
        have e0 : a i = nI x := ah_hd ha2
        refine ⟨vp_in_nI (by omega) (by omega), ?_⟩
        rw [wp_X_blockOf]
        have ec : (sX_order (uX_order σ a)) (nI i).toNatClampNeg = nI x := by rw [nI_clamp (by omega)]; exact e0
        rw [ec, nI_div25 hx0]
        simp only [List.length_cons] at hm hi
        refine ⟨fun c1 => ?_, fun c1 => ?_⟩
        · have hxb : x / 25 = b := (nI_eq (by omega) (by omega)).mp c1
          rw [nI_1]
          refine ih rest (i + 1) dn a (by omega) (by omega) (by omega) ha1 (ah_tl ha2) (fun y hy => hx y (List.mem_cons_of_mem _ hy)) (fun a' l hl ha' => hQ a' l ?_ ha')
          rw [hl, List.filter_cons_of_neg (by simp [hxb])]
        · have hxb : ¬ x / 25 = b := fun h => c1 (by rw [h])
          refine ⟨vp_in_nI (by omega) (by omega), vp_in_nI (by omega) (by omega), fun σ9 e9 => ?_⟩
          rw [nI_clamp (by omega)] at e9
          have e9' : σ9 = uX_order σ (upd a dn.length (nI x)) := by rw [e9]; rfl
          rw [e9', nI_1, nI_1]
          have hl2 : (dn ++ [x]).length = dn.length + 1 := by simp
          rw [← hl2]
          refine ih rest (i + 1) (dn ++ [x]) (upd a dn.length (nI x)) (by omega) (by omega) (by rw [hl2]; omega) (ah_app (ah_upd ha1 (Or.inr (by omega))) (ah_cons (by rw [Nat.zero_add]; exact pk_us) ah_nil)) ?_ (fun y hy => hx y (List.mem_cons_of_mem _ hy)) (fun a' l hl ha' => hQ a' l ?_ ha')
          · refine ah_upd (ah_tl ha2) (Or.inl (by omega))
          · rw [hl, List.filter_cons_of_pos (by simp [hxb]), List.append_assoc, List.singleton_append]
