/-! fractions by cross products, and the hull of points: pure -/
theorem fr_tr {a b c d e f : Int} (hb : 0 < b) (hd : 0 < d) (hf : 0 < f) (h1 : a * d ≤ c * b) (h2 : c * f ≤ e * d) : a * f ≤ e * b := by
  have e1 : (a * f) * d ≤ (e * b) * d := by
    calc (a * f) * d = (a * d) * f := Int.mul_right_comm a f d
      _ ≤ (c * b) * f := Int.mul_le_mul_of_nonneg_right h1 (Int.le_of_lt hf)
      _ = (c * f) * b := Int.mul_right_comm c b f
      _ ≤ (e * d) * b := Int.mul_le_mul_of_nonneg_right h2 (Int.le_of_lt hb)
      _ = (e * b) * d := Int.mul_right_comm e d b
  exact Int.le_of_mul_le_mul_right e1 hd
theorem fr_trl {a b c d e f : Int} (hb : 0 < b) (hd : 0 < d) (hf : 0 < f) (h1 : a * d < c * b) (h2 : c * f ≤ e * d) : a * f < e * b := by
  have e1 : (a * f) * d < (e * b) * d := by
    calc (a * f) * d = (a * d) * f := Int.mul_right_comm a f d
      _ < (c * b) * f := Int.mul_lt_mul_of_pos_right h1 hf
      _ = (c * f) * b := Int.mul_right_comm c b f
      _ ≤ (e * d) * b := Int.mul_le_mul_of_nonneg_right h2 (Int.le_of_lt hb)
      _ = (e * b) * d := Int.mul_right_comm e d b
  exact Int.lt_of_mul_lt_mul_right e1 (Int.le_of_lt hd)
theorem fr_trr {a b c d e f : Int} (hb : 0 < b) (hd : 0 < d) (hf : 0 < f) (h1 : a * d ≤ c * b) (h2 : c * f < e * d) : a * f < e * b := by
  have e1 : (a * f) * d < (e * b) * d := by
    calc (a * f) * d = (a * d) * f := Int.mul_right_comm a f d
      _ ≤ (c * b) * f := Int.mul_le_mul_of_nonneg_right h1 (Int.le_of_lt hf)
      _ = (c * f) * b := Int.mul_right_comm c b f
      _ < (e * d) * b := Int.mul_lt_mul_of_pos_right h2 hb
      _ = (e * b) * d := Int.mul_right_comm e d b
  exact Int.lt_of_mul_lt_mul_right e1 (Int.le_of_lt hd)
theorem fr_a {x y u v : Int} (h : x * u < y * v) : (x - y) * u < y * (v - u) := by rw [Int.sub_mul, Int.mul_sub]; omega
theorem fr_b {x v y u : Int} (h : x * v ≤ y * u) : y * (v - u) ≤ (y - x) * v := by rw [Int.mul_sub, Int.sub_mul]; omega
theorem fr_c {y q p v : Int} (h : y * q < p * v) : y * (v + q) ≤ (y + p) * v := by rw [Int.mul_add, Int.add_mul]; omega
theorem fr_d {x v y u : Int} (h1 : x * v ≤ y * u) : ¬ (y - x) * u < x * (v - u) := by rw [Int.sub_mul, Int.mul_sub]; omega
/-- a point on the hull: from all points before it the slopes to it are above 0 and above all slopes from it to those behind -/
def hu_on (L G : Nat → Int) (n p : Nat) : Prop := 0 < p ∧ p ≤ n ∧ ∀ i, i < p → G i < G p ∧ ∀ j, p < j → j ≤ n → (G j - G p) * (L p - L i) < (G p - G i) * (L j - L p)
/-- b is the last of the steepest from f, its slope above 0; or b = f, and none is above 0 -/
def hu_st (L G : Nat → Int) (f n b : Nat) : Prop := (b = f ∧ ∀ k, f < k → k ≤ n → G k ≤ G f) ∨ (f < b ∧ b ≤ n ∧ G f < G b ∧ (∀ k, f < k → k ≤ b → (G k - G f) * (L b - L f) ≤ (G b - G f) * (L k - L f)) ∧ ∀ k, b < k → k ≤ n → (G k - G f) * (L b - L f) < (G b - G f) * (L k - L f))
theorem hu_none {L G : Nat → Int} {f n : Nat} (h : ∀ k, f < k → k ≤ n → G k ≤ G f) {k : Nat} (hk : f < k) : ¬ hu_on L G n k := by
  intro ⟨_, h2, h3⟩
  have h4 := (h3 f hk).1
  have h5 := h k hk h2
  omega
theorem hu_mid {L G : Nat → Int} {f n b : Nat} (hb : b ≤ n) (hle : ∀ k, f < k → k ≤ b → (G k - G f) * (L b - L f) ≤ (G b - G f) * (L k - L f)) {k : Nat} (hk : f < k) (hkb : k < b) : ¬ hu_on L G n k := by
  intro ⟨_, _, h3⟩
  have h4 := (h3 f hk).2 b hkb hb
  have h5 := hle k hk (Nat.le_of_lt hkb)
  have e1 : G b - G k = (G b - G f) - (G k - G f) := by omega
  have e2 : L b - L k = (L b - L f) - (L k - L f) := by omega
  rw [e1, e2] at h4
  exact fr_d h5 h4
theorem hu_next {L G : Nat → Int} {f n b : Nat} (hL : ∀ i j, i < j → j ≤ n → L i < L j) (hf : f = 0 ∨ hu_on L G n f) (hs : f < b) (hbn : b ≤ n) (hpos : G f < G b) (hle : ∀ k, f < k → k ≤ b → (G k - G f) * (L b - L f) ≤ (G b - G f) * (L k - L f)) (hlt : ∀ k, b < k → k ≤ n → (G k - G f) * (L b - L f) < (G b - G f) * (L k - L f)) : hu_on L G n b := by
  refine ⟨by omega, hbn, fun i hi => ?_⟩
  have hfb := hL f b hs hbn
  have hib := hL i b hi hbn
  have key : (G b - G f) * (L b - L i) ≤ (G b - G i) * (L b - L f) := by
    rcases Nat.lt_trichotomy i f with h | h | h
    · rcases hf with rfl | hf
      · omega
      · have h1 := (hf.2.2 i h).2 b hs hbn
        have e1 : L b - L i = (L b - L f) + (L f - L i) := by omega
        have e2 : G b - G i = (G b - G f) + (G f - G i) := by omega
        rw [e1, e2]
        exact fr_c h1
    · subst h; exact Int.le_refl _
    · have h1 := hle i h (Nat.le_of_lt hi)
      have e1 : L b - L i = (L b - L f) - (L i - L f) := by omega
      have e2 : G b - G i = (G b - G f) - (G i - G f) := by omega
      rw [e1, e2]
      exact fr_b h1
  refine ⟨?_, fun j hj hjn => ?_⟩
  · have h1 : 0 < (G b - G f) * (L b - L i) := Int.mul_pos (by omega) (by omega)
    have h2 : 0 < (G b - G i) * (L b - L f) := Int.lt_of_lt_of_le h1 key
    have h3 : 0 < G b - G i := by
      rcases (show 0 < G b - G i ∨ G b - G i ≤ 0 by omega) with h | h
      · exact h
      · have h4 := Int.mul_le_mul_of_nonneg_right h (show 0 ≤ L b - L f by omega)
        rw [Int.zero_mul] at h4
        omega
    omega
  · have hbj := hL b j hj hjn
    have h1 : (G j - G b) * (L b - L f) < (G b - G f) * (L j - L b) := by
      have h2 := hlt j hj hjn
      have e1 : G j - G b = (G j - G f) - (G b - G f) := by omega
      have e2 : L j - L b = (L j - L f) - (L b - L f) := by omega
      rw [e1, e2]
      exact fr_a h2
    exact fr_trl (b := L j - L b) (c := G b - G f) (d := L b - L f) (by omega) (by omega) (by omega) h1 key
/-- one more point looked at -/
theorem hu_st_0 {L G : Nat → Int} {f : Nat} : hu_st L G f f f := Or.inl ⟨rfl, fun k h1 h2 => by omega⟩
theorem hu_st_low {L G : Nat → Int} {f n b : Nat} (hL : ∀ i j, i < j → j ≤ n + 1 → L i < L j) (hfn : f ≤ n) (h : hu_st L G f n b) (hk : G (n + 1) ≤ G f) : hu_st L G f (n + 1) b := by
  rcases h with ⟨h1, h2⟩ | ⟨h1, h2, h3, h4, h5⟩
  · refine Or.inl ⟨h1, fun k a1 a2 => ?_⟩
    rcases Nat.lt_or_ge n k with q | q
    · rw [show k = n + 1 by omega]; exact hk
    · exact h2 k a1 q
  · refine Or.inr ⟨h1, by omega, h3, h4, fun k a1 a2 => ?_⟩
    rcases Nat.lt_or_ge n k with q | q
    · rw [show k = n + 1 by omega]
      have p1 := hL f b h1 (by omega)
      have p2 := hL f (n + 1) (by omega) (by omega)
      have p3 : (G (n + 1) - G f) * (L b - L f) ≤ 0 := by
        have := Int.mul_le_mul_of_nonneg_right (show G (n + 1) - G f ≤ 0 by omega) (show 0 ≤ L b - L f by omega)
        rwa [Int.zero_mul] at this
      have p4 : 0 < (G b - G f) * (L (n + 1) - L f) := Int.mul_pos (by omega) (by omega)
      omega
    · exact h5 k a1 q
theorem hu_st_less {L G : Nat → Int} {f n b : Nat} (hb : f < b) (h : hu_st L G f n b) (hk : (G (n + 1) - G f) * (L b - L f) < (G b - G f) * (L (n + 1) - L f)) : hu_st L G f (n + 1) b := by
  rcases h with ⟨h1, h2⟩ | ⟨h1, h2, h3, h4, h5⟩
  · omega
  · refine Or.inr ⟨h1, by omega, h3, h4, fun k a1 a2 => ?_⟩
    rcases Nat.lt_or_ge n k with q | q
    · rw [show k = n + 1 by omega]; exact hk
    · exact h5 k a1 q
theorem hu_st_more {L G : Nat → Int} {f n b : Nat} (hL : ∀ i j, i < j → j ≤ n + 1 → L i < L j) (hfn : f ≤ n) (h : hu_st L G f n b) (hp : G f < G (n + 1)) (hk : f < b → (G b - G f) * (L (n + 1) - L f) ≤ (G (n + 1) - G f) * (L b - L f)) : hu_st L G f (n + 1) (n + 1) := by
  have p0 := hL f (n + 1) (by omega) (by omega)
  refine Or.inr ⟨by omega, Nat.le_refl _, hp, fun k a1 a2 => ?_, fun k a1 a2 => by omega⟩
  rcases Nat.lt_or_ge n k with q | q
  · rw [show k = n + 1 by omega]; exact Int.le_refl _
  have p1 := hL f k a1 (by omega)
  rcases h with ⟨h1, h2⟩ | ⟨h1, h2, h3, h4, h5⟩
  · have h6 := h2 k a1 q
    have p3 : (G k - G f) * (L (n + 1) - L f) ≤ 0 := by
      have := Int.mul_le_mul_of_nonneg_right (show G k - G f ≤ 0 by omega) (show 0 ≤ L (n + 1) - L f by omega)
      rwa [Int.zero_mul] at this
    have p4 : 0 < (G (n + 1) - G f) * (L k - L f) := Int.mul_pos (by omega) (by omega)
    omega
  · have p2 := hL f b h1 (by omega)
    have h6 : (G k - G f) * (L b - L f) ≤ (G b - G f) * (L k - L f) := by
      rcases Nat.lt_or_ge b k with z | z
      · exact Int.le_of_lt (h5 k z q)
      · exact h4 k a1 z
    exact fr_tr (b := L k - L f) (c := G b - G f) (d := L b - L f) (by omega) (by omega) (by omega) h6 (hk h1)
