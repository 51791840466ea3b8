/-! steepestFrom, on the points B + 0 .. B + n of a block -/
def bl_ok (σ : SX) (B n : Nat) (L G : Nat → Int) : Prop := B + n < 1000 ∧ (∀ k, k ≤ n → (sX_ls σ (B + k)).toInt = L k ∧ (sX_gs σ (B + k)).toInt = G k) ∧ (∀ i j, i < j → j ≤ n → L i < L j) ∧ (∀ k, k ≤ n → 0 ≤ L k ∧ L k ≤ 240000 ∧ -24000000 ≤ G k ∧ G k ≤ 24000000)
theorem st_lp {σ : SX} {B n f : Nat} {L G : Nat → Int} (hb : bl_ok σ B n L G) (hf : f ≤ n) {Q : Int32 → SX → Prop} (hQ : ∀ b, hu_st L G f n b → Q (nI (B + b)) σ) : ∀ (m k b : Nat) (y4 y6 : Int64), f < k → k ≤ n + 1 → n + 1 - k < m → hu_st L G f (k - 1) b → ((b = f ∧ y4 = 0 ∧ y6 = 1) ∨ (f < b ∧ y4.toInt = G b - G f ∧ y6.toInt = L b - L f)) →
    wl_X_steepestFrom_13 (nI (B + f)) (nI (B + n)) Q m (nI (B + b)) y4 y6 (nI (B + k)) σ := by
  obtain ⟨hB, hLG, hmo, hbd⟩ := hb
  intro m
  induction m with
  | zero => intro k b y4 y6 _ _ h; omega
  | succ m ih =>
    intro k b y4 y6 hk1 hk2 hm hst hy
    rw [wl_X_steepestFrom_13]
    refine ⟨fun c => ?_, fun c => ?_⟩
    · have h1 := (nI_ltI (by omega) (by omega)).mp c
      have e : k - 1 = n := by omega
      rw [e] at hst
      exact hQ b hst
    · have hkn : k ≤ n := by
        rcases Nat.lt_or_ge n k with q | q
        · exact absurd (nI_lt (by omega) (by omega)) c
        · exact q
      obtain ⟨lk, gk⟩ := hLG k hkn
      obtain ⟨lf, gf⟩ := hLG f hf
      obtain ⟨b1, b2, b3, b4⟩ := hbd k hkn
      obtain ⟨b5, b6, b7, b8⟩ := hbd f hf
      refine ⟨vp_in_nI (by omega) (by omega), vp_in_nI (by omega) (by omega), fun x5 e5 => ⟨vp_in_nI (by omega) (by omega), vp_in_nI (by omega) (by omega), fun x8 e8 => ?_⟩⟩
      rw [nI_clamp (by omega), nI_clamp (by omega)] at e5 e8
      have t5 : x5.toInt = G k - G f := by rw [e5, Int32.toInt_toInt64, nu_sub (by omega) (by omega), gk, gf]
      have t8 : x8.toInt = L k - L f := by rw [e8, Int32.toInt_toInt64, nu_sub (by omega) (by omega), lk, lf]
      have ek : nI (B + k) + 1 = nI (B + (k + 1)) := by rw [nI_1, Nat.add_assoc]
      have hk3 : k + 1 - 1 = k - 1 + 1 := by omega
      have hmo' : ∀ i j, i < j → j ≤ k - 1 + 1 → L i < L j := fun i j h1 h2 => hmo i j h1 (by omega)
      have hk4 : k - 1 + 1 = k := by omega
      rw [ek]
      refine ⟨fun c1 => ?_, fun c1 => ⟨fun c2 => ?_, fun c2 => ?_⟩⟩
      · have d1 := (lg_le0 _ _).mp c1
        rw [t5, show (0 : Int64).toInt = 0 from rfl] at d1
        refine ih (k + 1) b y4 y6 (by omega) (by omega) (by omega) ?_ hy
        rw [hk3]
        exact hu_st_low hmo' (by omega) hst (by rw [hk4]; omega)
      · have d1 : ¬ x5.toInt ≤ 0 := fun q => c1 ((lg_le0 _ _).mpr q)
        rw [t5] at d1
        have d2 := (lg_lt0 _ _).mp c2
        rcases hy with ⟨y1, y2, y3⟩ | ⟨y1, y2, y3⟩
        · exfalso
          rw [y2, y3, Int64.mul_one, Int64.zero_mul, t5, show (0 : Int64).toInt = 0 from rfl] at d2
          omega
        · have hbn : b ≤ n := by
            rcases hst with ⟨q, _⟩ | ⟨_, q, _⟩ <;> omega
          obtain ⟨b9, b10, b11, b12⟩ := hbd b hbn
          have m1 := nu_bd (a := G k - G f) (b := L b - L f) (A := 48000000) (B := 240000) (by omega) (by omega) (by omega) (by omega)
          have m2 := nu_bd (a := G b - G f) (b := L k - L f) (A := 48000000) (B := 240000) (by omega) (by omega) (by omega) (by omega)
          rw [nl_mul (by rw [t5, y3]; omega) (by rw [t5, y3]; omega), nl_mul (by rw [t8, y2]; omega) (by rw [t8, y2]; omega), t5, t8, y2, y3] at d2
          refine ih (k + 1) b y4 y6 (by omega) (by omega) (by omega) ?_ (Or.inr ⟨y1, y2, y3⟩)
          rw [hk3]
          exact hu_st_less y1 hst (by rw [hk4]; exact d2)
      · have d1 : ¬ x5.toInt ≤ 0 := fun q => c1 ((lg_le0 _ _).mpr q)
        rw [t5] at d1
        have d2 : ¬ (x5 * y6).toInt < (y4 * x8).toInt := fun q => c2 ((lg_lt0 _ _).mpr q)
        refine ih (k + 1) k x5 x8 (by omega) (by omega) (by omega) ?_ (Or.inr ⟨hk1, t5, t8⟩)
        rw [hk3]
        have key : f < b → (G b - G f) * (L (k - 1 + 1) - L f) ≤ (G (k - 1 + 1) - G f) * (L b - L f) := by
          intro hfb
          rw [hk4]
          rcases hy with ⟨y1, y2, y3⟩ | ⟨y1, y2, y3⟩
          · omega
          · have hbn : b ≤ n := by
              rcases hst with ⟨q, _⟩ | ⟨_, q, _⟩ <;> omega
            obtain ⟨b9, b10, b11, b12⟩ := hbd b hbn
            have m1 := nu_bd (a := G k - G f) (b := L b - L f) (A := 48000000) (B := 240000) (by omega) (by omega) (by omega) (by omega)
            have m2 := nu_bd (a := G b - G f) (b := L k - L f) (A := 48000000) (B := 240000) (by omega) (by omega) (by omega) (by omega)
            rw [nl_mul (by rw [t5, y3]; omega) (by rw [t5, y3]; omega), nl_mul (by rw [t8, y2]; omega) (by rw [t8, y2]; omega), t5, t8, y2, y3] at d2
            omega
        have := hu_st_more hmo' (by omega) hst (by rw [hk4]; omega) key
        rw [hk4] at this ⊢
        exact this
theorem st_wp {σ : SX} {B n f : Nat} {L G : Nat → Int} (hb : bl_ok σ B n L G) (hf : f ≤ n) {Q : Int32 → SX → Prop} (hQ : ∀ b, hu_st L G f n b → Q (nI (B + b)) σ) : wp_X_steepestFrom σ (nI (B + f)) (nI (B + n)) Q := by
  intro x1 e1
  refine ⟨n + 2, ?_⟩
  rw [e1, nI_1, Nat.add_assoc]
  exact st_lp hb hf hQ (n + 2) (f + 1) f 0 1 (by omega) (by omega) (by omega) (by rw [Nat.add_sub_cancel]; exact hu_st_0) (Or.inl ⟨rfl, rfl, rfl⟩)
