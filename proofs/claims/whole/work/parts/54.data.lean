/-! the blocks as numbers: how many, their passes, sums of lengths and of gains up to each point, weight, shift -/
abbrev BD : Type := Nat × (Nat → Nat) × (Nat → Nat → Int) × (Nat → Nat → Int) × (Nat → Nat) × (Nat → Nat)
abbrev d_nb (D : BD) : Nat := D.1
abbrev d_cn (D : BD) : Nat → Nat := D.2.1
abbrev d_L (D : BD) : Nat → Nat → Int := D.2.2.1
abbrev d_G (D : BD) : Nat → Nat → Int := D.2.2.2.1
abbrev d_w (D : BD) : Nat → Nat := D.2.2.2.2.1
abbrev d_s (D : BD) : Nat → Nat := D.2.2.2.2.2
/-- what is told of numbers -/
def d_ok (D : BD) : Prop := d_nb D ≤ 40 ∧ ∀ b, b < d_nb D → d_cn D b ≤ 24 ∧ 1 ≤ d_w D b ∧ d_w D b ≤ 100 ∧ d_s D b ≤ 3 ∧ d_L D b 0 = 0 ∧ d_G D b 0 = 0 ∧ ∀ j, j < d_cn D b → d_L D b j + 1 ≤ d_L D b (j + 1) ∧ d_L D b (j + 1) ≤ d_L D b j + 10000 ∧ d_G D b j - 1000000 ≤ d_G D b (j + 1) ∧ d_G D b (j + 1) ≤ d_G D b j + 1000000
def d_on (D : BD) (b p : Nat) : Prop := hu_on (d_L D b) (d_G D b) (d_cn D b) p
/-- the last before p of which P holds, or 0 -/
noncomputable def pv (P : Nat → Prop) : Nat → Nat
  | 0 => 0
  | p + 1 => @ite _ (P p) (Classical.propDecidable _) p (pv P p)
theorem pv_is {P : Nat → Prop} {f k : Nat} (h1 : f = 0 ∨ P f) (h2 : f < k) (h3 : ∀ j, f < j → j < k → ¬ P j) : pv P k = f := by
  induction k with
  | zero => omega
  | succ k ih =>
    rw [pv]
    rcases Nat.lt_or_ge f k with h | h
    · rw [if_neg (h3 k h (Nat.lt_succ_self k))]
      exact ih h (fun j a b => h3 j a (by omega))
    · have e : f = k := by omega
      subst e
      rcases h1 with rfl | h1
      · by_cases hp : P 0
        · rw [if_pos hp]
        · rw [if_neg hp, pv]
      · rw [if_pos h1]
theorem pv_spec (P : Nat → Prop) : ∀ k, 0 < k → (pv P k = 0 ∨ P (pv P k)) ∧ pv P k < k ∧ ∀ j, pv P k < j → j < k → ¬ P j := by
  intro k
  induction k with
  | zero => intro h; omega
  | succ k ih =>
    intro _
    rw [pv]
    by_cases hp : P k
    · rw [if_pos hp]
      exact ⟨Or.inr hp, Nat.lt_succ_self k, fun j a b => by omega⟩
    · rw [if_neg hp]
      rcases Nat.eq_zero_or_pos k with rfl | hk
      · exact ⟨Or.inl rfl, by rw [pv]; omega, fun j a b => by rw [pv] at a; omega⟩
      · obtain ⟨a1, a2, a3⟩ := ih hk
        refine ⟨a1, by omega, fun j b1 b2 => ?_⟩
        rcases Nat.lt_or_ge j k with h | h
        · exact a3 j b1 h
        · rw [show j = k by omega]; exact hp
def d_sc (D : BD) (b : Nat) : Int := (d_w D b : Int) * 4 ^ (d_s D b)
noncomputable def d_pv (D : BD) (b p : Nat) : Nat := pv (d_on D b) p
noncomputable def d_cost (D : BD) (x : Nat) : Int := d_L D (x / 25) (x % 25) - d_L D (x / 25) (d_pv D (x / 25) (x % 25))
noncomputable def d_rise (D : BD) (x : Nat) : Int := (d_G D (x / 25) (x % 25) - d_G D (x / 25) (d_pv D (x / 25) (x % 25))) * d_sc D (x / 25)
def d_hp (D : BD) (x : Nat) : Prop := x / 25 < d_nb D ∧ d_on D (x / 25) (x % 25)
def d_bf (D : BD) (x y : Nat) : Prop := d_rise D y * d_cost D x < d_rise D x * d_cost D y ∨ (d_rise D x * d_cost D y = d_rise D y * d_cost D x ∧ x < y)
def d_row (D : BD) (l : List Nat) : Prop := l.Pairwise (d_bf D) ∧ ∀ x, x ∈ l ↔ d_hp D x
theorem d_mono {D : BD} (h : d_ok D) {b : Nat} (hb : b < d_nb D) : ∀ i j, i < j → j ≤ d_cn D b → d_L D b i < d_L D b j := by
  obtain ⟨_, h⟩ := h
  obtain ⟨_, _, _, _, _, _, h⟩ := h b hb
  intro i j hij
  induction j with
  | zero => omega
  | succ j ih =>
    intro hj
    have h1 := (h j (by omega)).1
    rcases Nat.lt_or_ge i j with q | q
    · have := ih q (by omega); omega
    · rw [show i = j by omega]; omega
theorem d_bd {D : BD} (h : d_ok D) {b : Nat} (hb : b < d_nb D) : ∀ k, k ≤ d_cn D b → 0 ≤ d_L D b k ∧ d_L D b k ≤ 10000 * (k : Int) ∧ -(1000000 * (k : Int)) ≤ d_G D b k ∧ d_G D b k ≤ 1000000 * (k : Int) := by
  obtain ⟨_, h⟩ := h
  obtain ⟨_, _, _, _, h0, g0, h⟩ := h b hb
  intro k
  induction k with
  | zero => intro _; rw [h0, g0]; omega
  | succ k ih =>
    intro hk
    obtain ⟨a1, a2, a3, a4⟩ := ih (by omega)
    obtain ⟨b1, b2, b3, b4⟩ := h k (by omega)
    omega
theorem d_bd24 {D : BD} (h : d_ok D) {b : Nat} (hb : b < d_nb D) {k : Nat} (hk : k ≤ d_cn D b) : 0 ≤ d_L D b k ∧ d_L D b k ≤ 240000 ∧ -24000000 ≤ d_G D b k ∧ d_G D b k ≤ 24000000 := by
  have h1 := d_bd h hb k hk
  have h2 := (h.2 b hb).1
  omega
theorem d_sc_bd {D : BD} (h : d_ok D) {b : Nat} (hb : b < d_nb D) : 1 ≤ d_sc D b ∧ d_sc D b ≤ 6400 := by
  obtain ⟨_, h1, h2, h3, _⟩ := h.2 b hb
  unfold d_sc
  rcases (show d_s D b = 0 ∨ d_s D b = 1 ∨ d_s D b = 2 ∨ d_s D b = 3 by omega) with e | e | e | e <;> rw [e] <;> omega
/-- a hull point's cost and rise: above 0, and bounded -/
theorem d_hpos {D : BD} (h : d_ok D) {x : Nat} (hx : d_hp D x) : 1 ≤ d_cost D x ∧ d_cost D x ≤ 240000 ∧ 1 ≤ d_rise D x ∧ d_rise D x ≤ 307200000000 := by
  obtain ⟨hb, hon⟩ := hx
  obtain ⟨p1, p2, p3⟩ := id hon
  obtain ⟨a1, a2, a3⟩ := pv_spec (d_on D (x / 25)) (x % 25) p1
  have hm := d_mono h hb (pv (d_on D (x / 25)) (x % 25)) (x % 25) a2 p2
  have hg := (p3 _ a2).1
  obtain ⟨b1, b2, b3, b4⟩ := d_bd24 h hb p2
  obtain ⟨b5, b6, b7, b8⟩ := d_bd24 h hb (k := pv (d_on D (x / 25)) (x % 25)) (by omega)
  obtain ⟨s1, s2⟩ := d_sc_bd h hb
  unfold d_cost d_rise d_pv
  refine ⟨by omega, by omega, ?_, ?_⟩
  · have := Int.mul_le_mul (show (1 : Int) ≤ d_G D (x / 25) (x % 25) - d_G D (x / 25) (pv (d_on D (x / 25)) (x % 25)) by omega) s1 (by omega) (by omega)
    omega
  · have := Int.mul_le_mul (show d_G D (x / 25) (x % 25) - d_G D (x / 25) (pv (d_on D (x / 25)) (x % 25)) ≤ 48000000 by omega) s2 (by omega) (by omega)
    omega
theorem d_bf_tr {D : BD} (h : d_ok D) {x y z : Nat} (hx : d_hp D x) (hy : d_hp D y) (hz : d_hp D z) (h1 : d_bf D x y) (h2 : d_bf D y z) : d_bf D x z := by
  obtain ⟨x1, _, _, _⟩ := d_hpos h hx
  obtain ⟨y1, _, _, _⟩ := d_hpos h hy
  obtain ⟨z1, _, _, _⟩ := d_hpos h hz
  rcases h1 with h1 | ⟨h1, l1⟩ <;> rcases h2 with h2 | ⟨h2, l2⟩
  · exact Or.inl (fr_trl (b := d_cost D z) (c := d_rise D y) (d := d_cost D y) (by omega) (by omega) (by omega) h2 (Int.le_of_lt h1))
  · exact Or.inl (fr_trr (b := d_cost D z) (c := d_rise D y) (d := d_cost D y) (by omega) (by omega) (by omega) (by rw [h2]; exact Int.le_refl _) h1)
  · exact Or.inl (fr_trl (b := d_cost D z) (c := d_rise D y) (d := d_cost D y) (by omega) (by omega) (by omega) h2 (by rw [h1]; exact Int.le_refl _))
  · refine Or.inr ⟨Int.le_antisymm ?_ ?_, by omega⟩
    · exact fr_tr (b := d_cost D x) (c := d_rise D y) (d := d_cost D y) (by omega) (by omega) (by omega) (by rw [h1]; exact Int.le_refl _) (by rw [h2]; exact Int.le_refl _)
    · exact fr_tr (b := d_cost D z) (c := d_rise D y) (d := d_cost D y) (by omega) (by omega) (by omega) (by rw [h2]; exact Int.le_refl _) (by rw [h1]; exact Int.le_refl _)
theorem d_bf_as {D : BD} {x y : Nat} (h1 : d_bf D x y) : ¬ d_bf D y x := by
  unfold d_bf at *
  omega
theorem d_bf_tot {D : BD} {x y : Nat} (h : x ≠ y) : d_bf D x y ∨ d_bf D y x := by
  unfold d_bf
  omega
/-- two rows of the same blocks are one -/
theorem d_row_eq {D : BD} : ∀ {l1 l2 : List Nat}, l1.Pairwise (d_bf D) → l2.Pairwise (d_bf D) → (∀ x, x ∈ l1 ↔ x ∈ l2) → l1 = l2 := by
  intro l1
  induction l1 with
  | nil => intro l2 _ _ h; cases l2 with
    | nil => rfl
    | cons a l => exact absurd ((h a).mpr List.mem_cons_self) List.not_mem_nil
  | cons a l1 ih => intro l2 h1 h2 h; cases l2 with
    | nil => exact absurd ((h a).mp List.mem_cons_self) List.not_mem_nil
    | cons b l2 =>
      obtain ⟨ha, h1'⟩ := List.pairwise_cons.mp h1
      obtain ⟨hb, h2'⟩ := List.pairwise_cons.mp h2
      have e : a = b := by
        rcases List.mem_cons.mp ((h a).mp List.mem_cons_self) with e | m1
        · exact e
        · rcases List.mem_cons.mp ((h b).mpr List.mem_cons_self) with e | m2
          · exact e.symm
          · exact absurd (ha b m2) (d_bf_as (hb a m1))
      subst e
      have irr : ∀ {x : Nat}, ¬ d_bf D x x := fun hx => d_bf_as hx hx
      refine congrArg (List.cons a) (ih h1' h2' (fun x => ?_))
      constructor
      · intro hx
        rcases List.mem_cons.mp ((h x).mp (List.mem_cons_of_mem _ hx)) with e | m
        · exact absurd (ha x hx) (by rw [e]; exact irr)
        · exact m
      · intro hx
        rcases List.mem_cons.mp ((h x).mpr (List.mem_cons_of_mem _ hx)) with e | m
        · exact absurd (hb x hx) (by rw [e]; exact irr)
        · exact m
theorem d_row_uq {D : BD} {l1 l2 : List Nat} (h1 : d_row D l1) (h2 : d_row D l2) : l1 = l2 := d_row_eq h1.1 h2.1 (fun x => (h1.2 x).trans (h2.2 x).symm)
/-- within a block the slopes fall -/
theorem d_fall {D : BD} (h : d_ok D) {b : Nat} (hb : b < d_nb D) : ∀ q p, 0 < p → p < q → d_on D b p → d_on D b q → d_rise D (25 * b + q) * d_cost D (25 * b + p) < d_rise D (25 * b + p) * d_cost D (25 * b + q) := by
  have h24 := (h.2 b hb).1
  intro q
  induction q using Nat.strongRecOn with
  | ind q ih =>
    intro p hp hpq hop hoq
    have hq24 : q ≤ 24 := Nat.le_trans hoq.2.1 h24
    obtain ⟨a1, a2, a3⟩ := pv_spec (d_on D b) q (by omega)
    have e1 : (25 * b + q) / 25 = b := by omega
    have e2 : (25 * b + q) % 25 = q := by omega
    have e3 : (25 * b + p) / 25 = b := by omega
    have e4 : (25 * b + p) % 25 = p := by omega
    have hge : p ≤ pv (d_on D b) q := by
      rcases Nat.lt_or_ge (pv (d_on D b) q) p with z | z
      · exact absurd hop (a3 p z hpq)
      · exact z
    have step : ∀ r, 0 < r → d_on D b r → pv (d_on D b) q = r → d_rise D (25 * b + q) * d_cost D (25 * b + r) < d_rise D (25 * b + r) * d_cost D (25 * b + q) := by
      intro r hr hor er
      have hrq : r < q := by omega
      have e5 : (25 * b + r) / 25 = b := by omega
      have e6 : (25 * b + r) % 25 = r := by omega
      obtain ⟨c1, c2, c3⟩ := pv_spec (d_on D b) r hr
      have k := (hor.2.2 _ c2).2 q hrq hoq.2.1
      obtain ⟨s1, _⟩ := d_sc_bd h hb
      unfold d_rise d_cost d_pv
      rw [e1, e2, e5, e6, er]
      have := Int.mul_lt_mul_of_pos_right k (show 0 < d_sc D b by omega)
      rw [Int.mul_right_comm, Int.mul_right_comm (d_G D b r - d_G D b (pv (d_on D b) r))]
      exact this
    rcases Nat.lt_or_ge p (pv (d_on D b) q) with z | z
    · have hor : d_on D b (pv (d_on D b) q) := a1.resolve_left (by omega)
      have k1 := ih (pv (d_on D b) q) a2 p hp z hop hor
      have k2 := step _ (by omega) hor rfl
      have hx : d_hp D (25 * b + p) := by unfold d_hp; rw [e3, e4]; exact ⟨hb, hop⟩
      have hz : d_hp D (25 * b + q) := by unfold d_hp; rw [e1, e2]; exact ⟨hb, hoq⟩
      have hy : d_hp D (25 * b + pv (d_on D b) q) := by
        unfold d_hp
        rw [show (25 * b + pv (d_on D b) q) / 25 = b by omega, show (25 * b + pv (d_on D b) q) % 25 = pv (d_on D b) q by omega]
        exact ⟨hb, hor⟩
      obtain ⟨x1, _⟩ := d_hpos h hx
      obtain ⟨y1, _⟩ := d_hpos h hy
      obtain ⟨z1, _⟩ := d_hpos h hz
      exact fr_trl (b := d_cost D (25 * b + q)) (c := d_rise D (25 * b + pv (d_on D b) q)) (d := d_cost D (25 * b + pv (d_on D b) q)) (by omega) (by omega) (by omega) k2 (Int.le_of_lt k1)
    · exact step p hp hop (by omega)
