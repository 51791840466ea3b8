/-! the reference: its points, its hull -/
def m_b (D : BD) (μ : SM) : Prop := sM_blocks μ = nI (d_nb D) ∧ (∀ b, b < d_nb D → sM_many μ b = nI (d_cn D b) ∧ sM_weights μ b = nI (d_w D b) ∧ sM_shifts μ b = nI (d_s D b)) ∧ ∀ b, b < d_nb D → ∀ p, p < d_cn D b → (sM_lens μ (24 * b + p)).toInt = d_L D b (p + 1) ∧ (sM_gains μ (24 * b + p)).toInt = d_G D b (p + 1)
theorem sc_cmp {A B C E s : Int} (hs : 0 < s) : (A * s) * B ≤ (C * s) * E ↔ A * B ≤ C * E := by
  rw [Int.mul_right_comm A s B, Int.mul_right_comm C s E]
  exact ⟨fun h => Int.le_of_mul_le_mul_right h hs, fun h => Int.mul_le_mul_of_nonneg_right h (Int.le_of_lt hs)⟩
theorem nI_24 (b p : Nat) : 24 * nI b + nI p = nI (24 * b + p) := by rw [show (24 : Int32) = nI 24 from rfl, pk_mul, nI_add]
theorem pw_4 : ∀ k, k ≤ 3 → (1 : Int) ≤ 4 ^ k ∧ (4 : Int) ^ k ≤ 64 := by decide
theorem g_lp {D : BD} (hd : d_ok D) {μ : SM} (hm : m_b D μ) {b : Nat} (hb : b < d_nb D) {v0 : Int} (h1 : -2400000000 ≤ v0) (h2 : v0 ≤ 2400000000) {Q : Int64 → SM → Prop} (hQ : ∀ v : Int64, v.toInt = v0 * 4 ^ (d_s D b) → Q v μ) : ∀ (m k : Nat) (y : Int64), k ≤ d_s D b → d_s D b - k < m → y.toInt = v0 * 4 ^ k → wl_M_g_31 (nI b) Q m y (nI k) μ := by
  have h40 := hd.1
  obtain ⟨_, _, _, hs3, _⟩ := hd.2 b hb
  have es := (hm.2.1 b hb).2.2
  intro m
  induction m with
  | zero => intro k y _ h; omega
  | succ m ih =>
    intro k y hk hkm hy
    rw [wl_M_g_31]
    refine ⟨vp_in_nI (by omega) (by omega), ?_⟩
    rw [nI_clamp (by omega), es]
    refine ⟨fun c => ?_, fun c => ?_⟩
    · have := (nI_leI (by omega) (by omega)).mp c
      exact hQ y (by rw [hy, show k = d_s D b by omega])
    · have hlt : k < d_s D b := by
        rcases Nat.lt_or_ge k (d_s D b) with q | q
        · exact q
        · exact absurd (nI_le q (by omega)) c
      intro x7 e7
      rw [nI_1]
      have p4 := pw_4 k (by omega)
      have m1 := nu_bd (a := v0) (b := 4 ^ k) (A := 2400000000) (B := 64) (by omega) h2 (by omega) (by omega)
      refine ih (k + 1) x7 (by omega) (by omega) ?_
      rw [e7, nl_mul (by rw [hy, show (4 : Int64).toInt = 4 from rfl]; omega) (by rw [hy, show (4 : Int64).toInt = 4 from rfl]; omega), hy, show (4 : Int64).toInt = 4 from rfl, Int.pow_succ, Int.mul_assoc]
theorem g_wp {D : BD} (hd : d_ok D) {μ : SM} (hm : m_b D μ) {b : Nat} (hb : b < d_nb D) {q : Nat} (hq : q ≤ d_cn D b) {y : Int32} (hy : y = nI q - 1) {Q : Int64 → SM → Prop} (hQ : ∀ v : Int64, v.toInt = d_G D b q * d_sc D b → Q v μ) : wp_M_g μ (nI b) y Q := by
  have h40 := hd.1
  obtain ⟨h24, hw1, hw2, hs3, hL0, hG0, _⟩ := hd.2 b hb
  subst hy
  unfold wp_M_g
  cases q with
  | zero =>
    refine ⟨fun c => absurd c (by decide), fun _ => ⟨d_s D b + 1, ?_⟩⟩
    exact g_lp hd hm hb (v0 := 0) (by omega) (by omega) (fun v hv => hQ v (by rw [hv, hG0]; simp)) (d_s D b + 1) 0 0 (by omega) (by omega) (by simp)
  | succ q =>
    rw [nI_pred]
    refine ⟨fun _ => ?_, fun c => absurd (nI_pos' (by omega)) c⟩
    rw [nI_24]
    refine ⟨vp_in_nI (by omega) (by omega), vp_in_nI (by omega) (by omega), fun x4 e4 => ⟨d_s D b + 1, ?_⟩⟩
    rw [nI_clamp (by omega), nI_clamp (by omega), (hm.2.1 b hb).2.1] at e4
    have eg := (hm.2.2 b hb q (by omega)).2
    obtain ⟨_, _, b3, b4⟩ := d_bd24 hd hb hq
    have m1 := nu_bd (a := d_G D b (q + 1)) (b := (d_w D b : Int)) (A := 24000000) (B := 100) (by omega) (by omega) (by omega) (by omega)
    have t4 : x4.toInt = d_G D b (q + 1) * (d_w D b : Int) := by
      rw [e4, nl_mul (by rw [Int32.toInt_toInt64, eg, nI_toInt (by omega)]; omega) (by rw [Int32.toInt_toInt64, eg, nI_toInt (by omega)]; omega), Int32.toInt_toInt64, eg, nI_toInt (by omega)]
    refine g_lp hd hm hb (v0 := d_G D b (q + 1) * (d_w D b : Int)) (by omega) (by omega) (fun v hv => hQ v ?_) (d_s D b + 1) 0 x4 (by omega) (by omega) (by rw [t4]; simp)
    rw [hv]; unfold d_sc; rw [Int.mul_assoc]
theorem l_wp {D : BD} (hd : d_ok D) {μ : SM} (hm : m_b D μ) {b : Nat} (hb : b < d_nb D) {q : Nat} (hq : q ≤ d_cn D b) {y : Int32} (hy : y = nI q - 1) {Q : Int32 → SM → Prop} (hQ : ∀ v : Int32, v.toInt = d_L D b q → Q v μ) : wp_M_l μ (nI b) y Q := by
  have h40 := hd.1
  obtain ⟨h24, hw1, hw2, hs3, hL0, hG0, _⟩ := hd.2 b hb
  subst hy
  unfold wp_M_l
  cases q with
  | zero => exact ⟨fun c => absurd c (by decide), fun _ => hQ 0 (by rw [hL0]; rfl)⟩
  | succ q =>
    rw [nI_pred]
    refine ⟨fun _ => ?_, fun c => absurd (nI_pos' (by omega)) c⟩
    rw [nI_24]
    refine ⟨vp_in_nI (by omega) (by omega), ?_⟩
    rw [nI_clamp (by omega)]
    exact hQ _ (hm.2.2 b hb q (by omega)).1
/-- what the hull asks of the point q against the point i before it -/
def h_at (D : BD) (b q i : Nat) : Prop := d_G D b i < d_G D b q ∧ ∀ j, q < j → j ≤ d_cn D b → (d_G D b j - d_G D b q) * (d_L D b q - d_L D b i) < (d_G D b q - d_G D b i) * (d_L D b j - d_L D b q)
theorem nI_p1 (i : Nat) : nI i - 1 + 1 = nI (i + 1) - 1 := by rw [nI_pred, Int32.sub_add_cancel]
theorem hl_in {D : BD} (hd : d_ok D) {μ : SM} (hm : m_b D μ) {b : Nat} (hb : b < d_nb D) {q i : Nat} (hq : q + 1 ≤ d_cn D b) (hi : i ≤ q) {y4 : Int32} {up : Int64} {ov : Int32} (hup : up.toInt = (d_G D b (q + 1) - d_G D b i) * d_sc D b) (hov : ov.toInt = d_L D b (q + 1) - d_L D b i) {Q : Int32 → SM → Prop} {k5 : Int32 → Int32 → SM → Prop} (h1 : h_at D b (q + 1) i → k5 1 (y4 + 1) μ) (h0 : ¬ h_at D b (q + 1) i → k5 0 (y4 + 1) μ) :
    ∀ (m j : Nat) (y3 : Int32), q + 1 ≤ j → j ≤ d_cn D b → d_cn D b - j < m → ((y3 = 1 ∧ d_G D b i < d_G D b (q + 1) ∧ ∀ j', q + 1 < j' → j' ≤ j → (d_G D b j' - d_G D b (q + 1)) * (d_L D b (q + 1) - d_L D b i) < (d_G D b (q + 1) - d_G D b i) * (d_L D b j' - d_L D b (q + 1))) ∨ (y3 = 0 ∧ ¬ h_at D b (q + 1) i)) → wl_M_isHull_65 (nI b) (nI q) y4 up ov Q k5 m y3 (nI j) μ := by
  have h40 := hd.1
  have h24 := (hd.2 b hb).1
  obtain ⟨s1, s2⟩ := d_sc_bd hd hb
  have hiq := d_mono hd hb i (q + 1) (by omega) hq
  obtain ⟨a1, a2, a3, a4⟩ := d_bd24 hd hb hq
  obtain ⟨a5, a6, a7, a8⟩ := d_bd24 hd hb (k := i) (by omega)
  intro m
  induction m with
  | zero => intro j y3 _ _ h; omega
  | succ m ih =>
    intro j y3 hj1 hj2 hjm hinv
    rw [wl_M_isHull_65]
    refine ⟨vp_in_nI (by omega) (by omega), ?_⟩
    rw [nI_clamp (by omega), (hm.2.1 b hb).1]
    refine ⟨fun c => ?_, fun c => ⟨fun c3 => ?_, fun c3 => ?_⟩⟩
    · have := (nI_leI (by omega) (by omega)).mp c
      rcases hinv with ⟨e, g, h⟩ | ⟨e, h⟩
      · rw [e]; exact h1 ⟨g, fun j' b1 b2 => h j' b1 (by omega)⟩
      · rw [e]; exact h0 h
    · rcases hinv with ⟨e, g, h⟩ | ⟨e, h⟩
      · exact absurd (e.symm.trans c3) (by decide)
      · rw [e]; exact h0 h
    · have hlt : j < d_cn D b := by
        rcases Nat.lt_or_ge j (d_cn D b) with z | z
        · exact z
        · exact absurd (nI_le z (by omega)) c
      obtain ⟨e, g, h⟩ := hinv.resolve_right (fun z => c3 z.1)
      obtain ⟨b1, b2, b3, b4⟩ := d_bd24 hd hb (k := j + 1) (by omega)
      refine g_wp hd hm hb (q := j + 1) (by omega) (nI_pred j).symm (fun r21 t21 => ?_)
      refine g_wp hd hm hb (q := q + 1) hq (nI_pred q).symm (fun r23 t23 => ?_)
      intro x24 e24
      refine l_wp hd hm hb (q := j + 1) (by omega) (nI_pred j).symm (fun r26 t26 => ?_)
      refine l_wp hd hm hb (q := q + 1) hq (nI_pred q).symm (fun r28 t28 => ?_)
      intro x29 e29
      have n1 := nu_bd (a := d_G D b (j + 1)) (b := d_sc D b) (A := 24000000) (B := 6400) (by omega) (by omega) (by omega) (by omega)
      have n2 := nu_bd (a := d_G D b (q + 1)) (b := d_sc D b) (A := 24000000) (B := 6400) (by omega) (by omega) (by omega) (by omega)
      have t24 : x24.toInt = (d_G D b (j + 1) - d_G D b (q + 1)) * d_sc D b := by rw [e24, nl_sub (by omega) (by omega), t21, t23, Int.sub_mul]
      have t29 : x29.toInt = d_L D b (j + 1) - d_L D b (q + 1) := by rw [e29, nu_sub (by omega) (by omega), t26, t28]
      have n3 := nu_bd (a := d_G D b (q + 1) - d_G D b i) (b := d_sc D b) (A := 48000000) (B := 6400) (by omega) (by omega) (by omega) (by omega)
      have n4 := nu_bd (a := d_G D b (j + 1) - d_G D b (q + 1)) (b := d_sc D b) (A := 48000000) (B := 6400) (by omega) (by omega) (by omega) (by omega)
      have n5 := nu_bd (a := (d_G D b (q + 1) - d_G D b i) * d_sc D b) (b := d_L D b (j + 1) - d_L D b (q + 1)) (A := 48000000 * 6400) (B := 240000) n3.1 n3.2 (by omega) (by omega)
      have n6 := nu_bd (a := (d_G D b (j + 1) - d_G D b (q + 1)) * d_sc D b) (b := d_L D b (q + 1) - d_L D b i) (A := 48000000 * 6400) (B := 240000) n4.1 n4.2 (by omega) (by omega)
      have u1 : (up * x29.toInt64).toInt = (d_G D b (q + 1) - d_G D b i) * d_sc D b * (d_L D b (j + 1) - d_L D b (q + 1)) := by rw [nl_mul (by rw [Int32.toInt_toInt64, hup, t29]; omega) (by rw [Int32.toInt_toInt64, hup, t29]; omega), Int32.toInt_toInt64, hup, t29]
      have u2 : (x24 * ov.toInt64).toInt = (d_G D b (j + 1) - d_G D b (q + 1)) * d_sc D b * (d_L D b (q + 1) - d_L D b i) := by rw [nl_mul (by rw [Int32.toInt_toInt64, t24, hov]; omega) (by rw [Int32.toInt_toInt64, t24, hov]; omega), Int32.toInt_toInt64, t24, hov]
      rw [nI_1, lg_le0, u1, u2, sc_cmp (by omega)]
      refine ⟨fun c5 => ?_, fun c5 => ?_⟩
      · exact ih (j + 1) 0 (by omega) (by omega) (by omega) (Or.inr ⟨rfl, fun hh => absurd (hh.2 (j + 1) (by omega) (by omega)) (by omega)⟩)
      · refine ih (j + 1) 1 (by omega) (by omega) (by omega) (Or.inl ⟨rfl, g, fun j' d1 d2 => ?_⟩)
        rcases Nat.lt_or_ge j j' with z | z
        · rw [show j' = j + 1 by omega]; omega
        · exact h j' d1 z
theorem hl_out {D : BD} (hd : d_ok D) {μ : SM} (hm : m_b D μ) {b : Nat} (hb : b < d_nb D) {q : Nat} (hq : q + 1 ≤ d_cn D b) {Q : Int32 → SM → Prop} (h1 : d_on D b (q + 1) → Q 1 μ) (h0 : ¬ d_on D b (q + 1) → Q 0 μ) :
    ∀ (m i : Nat) (y3 : Int32), i ≤ q + 1 → q + 1 - i < m → ((y3 = 1 ∧ ∀ i', i' < i → h_at D b (q + 1) i') ∨ (y3 = 0 ∧ ¬ d_on D b (q + 1))) → wl_M_isHull_5 (nI b) (nI q) Q m y3 (nI i - 1) μ := by
  have h40 := hd.1
  have h24 := (hd.2 b hb).1
  obtain ⟨s1, s2⟩ := d_sc_bd hd hb
  obtain ⟨a1, a2, a3, a4⟩ := d_bd24 hd hb hq
  have fin : ∀ y3 : Int32, ((y3 = 1 ∧ ∀ i', i' < q + 1 → h_at D b (q + 1) i') ∨ (y3 = 0 ∧ ¬ d_on D b (q + 1))) → (y3 = 0 ∨ y3 = 1) ∧ Q y3 μ := by
    rintro y3 (⟨e, h⟩ | ⟨e, h⟩)
    · exact ⟨Or.inr e, by rw [e]; exact h1 ⟨by omega, hq, h⟩⟩
    · exact ⟨Or.inl e, by rw [e]; exact h0 h⟩
  intro m
  induction m with
  | zero => intro i y3 _ h; omega
  | succ m ih =>
    intro i y3 hi him hinv
    rw [wl_M_isHull_5]
    refine ⟨fun c => ?_, fun c => ⟨fun c3 => ?_, fun c3 => ?_⟩⟩
    · have hiq : i = q + 1 := by
        cases i with
        | zero =>
          have h5 : ¬ nI q ≤ nI 0 - 1 := by
            intro h6
            have h7 := Int32.le_iff_toInt_le.mp h6
            rw [nI_toInt (by omega), show (nI 0 - 1).toInt = -1 from rfl] at h7
            omega
          exact absurd c h5
        | succ i =>
          rw [nI_pred] at c
          have := (nI_leI (by omega) (by omega)).mp c
          omega
      rw [hiq] at hinv
      exact fin y3 hinv
    · rcases hinv with ⟨e, h⟩ | ⟨e, h⟩
      · exact absurd (e.symm.trans c3) (by decide)
      · exact fin y3 (Or.inr ⟨e, h⟩)
    · obtain ⟨e, h⟩ := hinv.resolve_right (fun z => c3 z.1)
      have hiq : i ≤ q := by
        rcases Nat.lt_or_ge q i with z | z
        · exact absurd (by rw [show i = q + 1 by omega, nI_pred]; exact nI_le (Nat.le_refl _) (by omega)) c
        · exact z
      obtain ⟨b1, b2, b3, b4⟩ := d_bd24 hd hb (k := i) (by omega)
      refine g_wp hd hm hb (q := q + 1) hq (nI_pred q).symm (fun r6 t6 => ?_)
      refine g_wp hd hm hb (q := i) (by omega) rfl (fun r8 t8 => ?_)
      intro x9 e9
      refine l_wp hd hm hb (q := q + 1) hq (nI_pred q).symm (fun r11 t11 => ?_)
      refine l_wp hd hm hb (q := i) (by omega) rfl (fun r13 t13 => ?_)
      intro x14 e14
      have n1 := nu_bd (a := d_G D b (q + 1)) (b := d_sc D b) (A := 24000000) (B := 6400) (by omega) (by omega) (by omega) (by omega)
      have n2 := nu_bd (a := d_G D b i) (b := d_sc D b) (A := 24000000) (B := 6400) (by omega) (by omega) (by omega) (by omega)
      have t9 : x9.toInt = (d_G D b (q + 1) - d_G D b i) * d_sc D b := by rw [e9, nl_sub (by omega) (by omega), t6, t8, Int.sub_mul]
      have t14 : x14.toInt = d_L D b (q + 1) - d_L D b i := by rw [e14, nu_sub (by omega) (by omega), t11, t13]
      have k1 : h_at D b (q + 1) i → wl_M_isHull_5 (nI b) (nI q) Q m 1 (nI i - 1 + 1) μ := by
        intro ha
        rw [nI_p1]
        refine ih (i + 1) 1 (by omega) (by omega) (Or.inl ⟨rfl, fun i' d1 => ?_⟩)
        rcases Nat.lt_or_ge i' i with z | z
        · exact h i' z
        · rw [show i' = i by omega]; exact ha
      have k0 : ¬ h_at D b (q + 1) i → wl_M_isHull_5 (nI b) (nI q) Q m 0 (nI i - 1 + 1) μ := by
        intro ha
        rw [nI_p1]
        exact ih (i + 1) 0 (by omega) (by omega) (Or.inr ⟨rfl, fun hon => ha (hon.2.2 i (by omega))⟩)
      rw [lg_le0, t9, show (0 : Int64).toInt = 0 from rfl]
      refine ⟨fun c5 => ?_, fun c5 => ?_⟩
      · intro x16 e16
        refine ⟨d_cn D b + 1, ?_⟩
        rw [e16, nI_1]
        refine hl_in hd hm hb hq hiq t9 t14 k1 k0 (d_cn D b + 1) (q + 1) 0 (Nat.le_refl _) hq (by omega) (Or.inr ⟨rfl, fun ha => ?_⟩)
        have := Int.mul_pos (show 0 < d_G D b (q + 1) - d_G D b i by have := ha.1; omega) (show 0 < d_sc D b by omega)
        omega
      · intro x16 e16
        refine ⟨d_cn D b + 1, ?_⟩
        rw [e16, nI_1]
        refine hl_in hd hm hb hq hiq t9 t14 k1 k0 (d_cn D b + 1) (q + 1) 1 (Nat.le_refl _) hq (by omega) (Or.inl ⟨rfl, ?_, fun j' d1 d2 => by omega⟩)
        rcases (show 0 < d_G D b (q + 1) - d_G D b i ∨ d_G D b (q + 1) - d_G D b i ≤ 0 by omega) with z | z
        · omega
        · have := Int.mul_le_mul_of_nonneg_right z (show 0 ≤ d_sc D b by omega)
          rw [Int.zero_mul] at this
          omega
theorem hl_wp {D : BD} (hd : d_ok D) {μ : SM} (hm : m_b D μ) {b : Nat} (hb : b < d_nb D) {q : Nat} (hq : q + 1 ≤ d_cn D b) {Q : Int32 → SM → Prop} (h1 : d_on D b (q + 1) → Q 1 μ) (h0 : ¬ d_on D b (q + 1) → Q 0 μ) : wp_M_isHull μ (nI b) (nI q) Q :=
  ⟨q + 2, hl_out hd hm hb hq h1 h0 (q + 2) 0 1 (by omega) (by omega) (Or.inl ⟨rfl, fun i' h => by omega⟩)⟩
