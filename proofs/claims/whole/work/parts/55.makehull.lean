/-! makeHull -/
def x_b (D : BD) (σ : SX) : Prop := d_ok D ∧ sX_bc σ = nI (d_nb D) ∧ (∀ b, b < d_nb D → sX_counts σ b = nI (d_cn D b) ∧ sX_weights σ b = nI (d_w D b) ∧ sX_shifts σ b = nI (d_s D b)) ∧ (∀ b, b < 40 → sX_ls σ (25 * b) = 0 ∧ sX_gs σ (25 * b) = 0) ∧ (∀ b, b < d_nb D → ∀ j, j ≤ d_cn D b → (sX_ls σ (25 * b + j)).toInt = d_L D b j ∧ (sX_gs σ (25 * b + j)).toInt = d_G D b j)
/-- costs c and rises r of the passes 1 .. n of a block are right -/
def x_h (D : BD) (b n : Nat) (c : Nat → Int32) (r : Nat → Int64) : Prop := ∀ p, 0 < p → p ≤ n → (d_on D b p → (c (25 * b + p)).toInt = d_cost D (25 * b + p) ∧ (r (25 * b + p)).toInt = d_rise D (25 * b + p)) ∧ (¬ d_on D b p → c (25 * b + p) = 0 ∧ r (25 * b + p) = 0)
/-- the hull points up to a pass, as a list -/
noncomputable def hq (P : Nat → Prop) (B : Nat) : Nat → List Nat
  | 0 => []
  | q + 1 => @ite _ (P (q + 1)) (Classical.propDecidable _) (hq P B q ++ [B + (q + 1)]) (hq P B q)
theorem hq_len (P : Nat → Prop) (B : Nat) : ∀ q, (hq P B q).length ≤ q := by
  intro q
  induction q with
  | zero => exact Nat.le_refl _
  | succ q ih =>
    rw [hq]
    by_cases h : P (q + 1)
    · rw [if_pos h, List.length_append]; simp only [List.length_singleton]; omega
    · rw [if_neg h]; omega
theorem hq_mem (P : Nat → Prop) (B : Nat) : ∀ q x, x ∈ hq P B q ↔ ∃ p, 0 < p ∧ p ≤ q ∧ P p ∧ x = B + p := by
  intro q
  induction q with
  | zero => intro x; constructor
            · intro h; cases h
            · rintro ⟨p, h1, h2, _⟩; omega
  | succ q ih =>
    intro x
    rw [hq]
    by_cases h : P (q + 1)
    · rw [if_pos h, List.mem_append, ih, List.mem_singleton]
      constructor
      · rintro (⟨p, h1, h2, h3, h4⟩ | e)
        · exact ⟨p, h1, by omega, h3, h4⟩
        · exact ⟨q + 1, by omega, Nat.le_refl _, h, e⟩
      · rintro ⟨p, h1, h2, h3, h4⟩
        rcases Nat.lt_or_ge p (q + 1) with z | z
        · exact Or.inl ⟨p, h1, by omega, h3, h4⟩
        · exact Or.inr (by rw [h4, show p = q + 1 by omega])
    · rw [if_neg h, ih]
      constructor
      · rintro ⟨p, h1, h2, h3, h4⟩
        exact ⟨p, h1, by omega, h3, h4⟩
      · rintro ⟨p, h1, h2, h3, h4⟩
        rcases Nat.lt_or_ge p (q + 1) with z | z
        · exact ⟨p, h1, by omega, h3, h4⟩
        · exact absurd h3 (by rw [show p = q + 1 by omega]; exact h)
theorem x_bl {D : BD} {σ : SX} (hx : x_b D σ) {b : Nat} (hb : b < d_nb D) : bl_ok σ (25 * b) (d_cn D b) (d_L D b) (d_G D b) := by
  obtain ⟨h1, h2, h3, h4, h5⟩ := hx
  have h6 := h1.1
  have h7 := (h1.2 b hb).1
  exact ⟨by omega, fun k hk => h5 b hb k hk, d_mono h1 hb, fun k hk => d_bd24 h1 hb hk⟩
set_option maxRecDepth 4000 in
theorem mh_lp {D : BD} {σ : SX} (hx : x_b D σ) {b : Nat} (hb : b < d_nb D) {y4 : Int64} (hy4 : y4.toInt = d_sc D b) {Q : Int32 → SX → Prop} (hQ : ∀ c r, x_h D b (d_cn D b) c r → (∀ x, x ≤ 25 * b ∨ 25 * b + d_cn D b < x → c x = sX_costs σ x ∧ r x = sX_rises σ x) → Q (nI (hq (d_on D b) (25 * b) (d_cn D b)).length) (uX_costs (uX_rises σ r) c)) :
    ∀ (m k f nx : Nat) (c : Nat → Int32) (r : Nat → Int64), 0 < k → k ≤ d_cn D b + 1 → d_cn D b + 1 - k < m → f < k → (f = 0 ∨ d_on D b f) → (∀ j, f < j → j < k → ¬ d_on D b j) → hu_st (d_L D b) (d_G D b) f (d_cn D b) nx → x_h D b (k - 1) c r → (∀ x, x ≤ 25 * b ∨ 25 * b + d_cn D b < x → c x = sX_costs σ x ∧ r x = sX_rises σ x) →
    wl_X_makeHull_48 (nI (25 * b + d_cn D b)) y4 Q m (nI (25 * b + f)) (nI (25 * b + nx)) (nI (hq (d_on D b) (25 * b) (k - 1)).length) (nI (25 * b + k)) (uX_costs (uX_rises σ r) c) := by
  have hbl := x_bl hx hb
  obtain ⟨hd, hx2, hx3, hx4, hx5⟩ := id hx
  have h40 := hd.1
  have h24 := (hd.2 b hb).1
  have hmo := d_mono hd hb
  intro m
  induction m with
  | zero => intro k f nx c r _ _ h; omega
  | succ m ih =>
    intro k f nx c r hk0 hk1 hm hfk hf hfj hst hh ho
    have hfn : f ≤ d_cn D b := by omega
    have hnx : nx ≤ d_cn D b := by rcases hst with ⟨q, _⟩ | ⟨_, q, _⟩ <;> omega
    rw [wl_X_makeHull_48]
    simp only [rX_costs_costs, rX_ls_costs, rX_ls_rises]
    refine ⟨fun c1 => ?_, fun c1 => ⟨fun c2 => ?_, fun c2 => ?_⟩⟩
    · have h1 := (nI_ltI (by omega) (by omega)).mp c1
      have e : k - 1 = d_cn D b := by omega
      rw [e] at hh ⊢
      exact hQ c r hh ho
    · have hkn : k ≤ d_cn D b := by
        rcases Nat.lt_or_ge (d_cn D b) k with q | q
        · exact absurd (nI_lt (by omega) (by omega)) c1
        · exact q
      have hne : k ≠ nx := fun e => c2 (by rw [e])
      have hno : ¬ d_on D b k := by
        rcases hst with ⟨e, h⟩ | ⟨h1, h2, h3, h4, h5⟩
        · exact hu_none h hfk
        · rcases Nat.lt_or_ge k nx with q | q
          · exact hu_mid h2 h4 hfk q
          · exact absurd (hu_next hmo hf h1 h2 h3 h4 h5) (hfj nx h1 (by omega))
      refine ⟨vp_in_nI (by omega) (by omega), fun σ14 e14 => ⟨vp_in_nI (by omega) (by omega), fun σ16 e16 => ?_⟩⟩
      rw [nI_clamp (by omega)] at e14 e16
      have e : σ16 = uX_costs (uX_rises σ (vp_updL r (25 * b + k) 0)) (upd c (25 * b + k) 0) := by
        rw [e16, e14]; simp only [rX_rises_costs, rX_rises_rises, pX_rises_costs, oX_costs, oX_rises]
      have ek : nI (25 * b + k) + 1 = nI (25 * b + (k + 1)) := by rw [nI_1, Nat.add_assoc]
      have el : (hq (d_on D b) (25 * b) (k - 1)).length = (hq (d_on D b) (25 * b) (k + 1 - 1)).length := by
        rw [show k + 1 - 1 = (k - 1) + 1 by omega, hq, if_neg (by rw [show k - 1 + 1 = k by omega]; exact hno)]
      rw [e, ek, el]
      refine ih (k + 1) f nx _ _ (by omega) (by omega) (by omega) (by omega) hf (fun j a1 a2 => ?_) hst (fun p a1 a2 => ?_) (fun x a1 => ?_)
      · rcases Nat.lt_or_ge j k with q | q
        · exact hfj j a1 q
        · rw [show j = k by omega]; exact hno
      · rcases Nat.lt_or_ge p k with q | q
        · rw [pk_un (by omega), pk_uLn (by omega)]; exact hh p a1 (by omega)
        · rw [show p = k by omega, pk_us, pk_uLs]; exact ⟨fun z => absurd z hno, fun _ => ⟨rfl, rfl⟩⟩
      · rw [pk_un (by omega), pk_uLn (by omega)]; exact ho x a1
    · have hkn : k ≤ d_cn D b := by
        rcases Nat.lt_or_ge (d_cn D b) k with q | q
        · exact absurd (nI_lt (by omega) (by omega)) c1
        · exact q
      have hek : k = nx := by
        have := (nI_eq (by omega) (by omega)).mp c2
        omega
      subst hek
      have hon : d_on D b k := by
        rcases hst with ⟨e, h⟩ | ⟨h1, h2, h3, h4, h5⟩
        · omega
        · exact hu_next hmo hf h1 h2 h3 h4 h5
      have hpv : d_pv D b k = f := pv_is hf hfk hfj
      obtain ⟨lk, gk⟩ := hx5 b hb k hkn
      obtain ⟨lf, gf⟩ := hx5 b hb f hfn
      obtain ⟨b1, b2, b3, b4⟩ := d_bd24 hd hb hkn
      obtain ⟨b5, b6, b7, b8⟩ := d_bd24 hd hb hfn
      obtain ⟨s1, s2⟩ := d_sc_bd hd hb
      refine ⟨vp_in_nI (by omega) (by omega), vp_in_nI (by omega) (by omega), vp_in_nI (by omega) (by omega), fun σ20 e20 => ⟨vp_in_nI (by omega) (by omega), vp_in_nI (by omega) (by omega), vp_in_nI (by omega) (by omega), fun σ24 e24 => ?_⟩⟩
      rw [nI_clamp (by omega), nI_clamp (by omega)] at e20 e24
      have e : σ24 = uX_costs (uX_rises σ (vp_updL r (25 * b + k) ((sX_gs σ (25 * b + k) - sX_gs σ (25 * b + f)).toInt64 * y4))) (upd c (25 * b + k) (sX_ls σ (25 * b + k) - sX_ls σ (25 * b + f))) := by
        rw [e24, e20]; simp only [rX_rises_costs, rX_rises_rises, rX_gs_costs, rX_gs_rises, pX_rises_costs, oX_costs, oX_rises]
      have ek : nI (25 * b + k) + 1 = nI (25 * b + (k + 1)) := by rw [nI_1, Nat.add_assoc]
      have el : nI (hq (d_on D b) (25 * b) (k - 1)).length + 1 = nI (hq (d_on D b) (25 * b) (k + 1 - 1)).length := by
        rw [nI_1, show k + 1 - 1 = (k - 1) + 1 by omega, hq, if_pos (by rw [show k - 1 + 1 = k by omega]; exact hon), List.length_append]
        rfl
      rw [e]
      refine st_wp (σ := uX_costs (uX_rises σ (vp_updL r (25 * b + k) ((sX_gs σ (25 * b + k) - sX_gs σ (25 * b + f)).toInt64 * y4))) (upd c (25 * b + k) (sX_ls σ (25 * b + k) - sX_ls σ (25 * b + f)))) (B := 25 * b) (n := d_cn D b) (f := k) (L := d_L D b) (G := d_G D b) (by unfold bl_ok at hbl ⊢; simp only [rX_ls_costs, rX_ls_rises, rX_gs_costs, rX_gs_rises]; exact hbl) hkn (fun nx2 hst2 => ?_)
      rw [ek, el]
      refine ih (k + 1) k nx2 _ _ (by omega) (by omega) (by omega) (by omega) (Or.inr hon) (fun j a1 a2 => by omega) hst2 (fun p a1 a2 => ?_) (fun x a1 => ?_)
      · rcases Nat.lt_or_ge p k with q | q
        · rw [pk_un (by omega), pk_uLn (by omega)]; exact hh p a1 (by omega)
        · rw [show p = k by omega, pk_us, pk_uLs]
          refine ⟨fun _ => ?_, fun z => absurd hon z⟩
          have e1 : (25 * b + k) / 25 = b := by omega
          have e2 : (25 * b + k) % 25 = k := by omega
          unfold d_cost d_rise
          rw [e1, e2, hpv]
          have t1 : (sX_gs σ (25 * b + k) - sX_gs σ (25 * b + f)).toInt = d_G D b k - d_G D b f := by rw [nu_sub (by omega) (by omega), gk, gf]
          have m1 := nu_bd (a := d_G D b k - d_G D b f) (b := d_sc D b) (A := 48000000) (B := 6400) (by omega) (by omega) (by omega) (by omega)
          refine ⟨by rw [nu_sub (by omega) (by omega), lk, lf], ?_⟩
          rw [nl_mul (by rw [Int32.toInt_toInt64, t1, hy4]; omega) (by rw [Int32.toInt_toInt64, t1, hy4]; omega), Int32.toInt_toInt64, t1, hy4]
      · rw [pk_un (by omega), pk_uLn (by omega)]; exact ho x a1
/-- weight and shift as a long -/
theorem sc_long {w s : Nat} (hw : w ≤ 100) (hs : s ≤ 3) : ((nI w).toInt64 <<< ((2 * nI s).toInt64 &&& 63)).toInt = (w : Int) * 4 ^ s := by
  have e1 : (nI w).toInt64 = lN w := nI_l (by omega)
  have e2 : 2 * nI s = nI (2 * s) := by rw [show (2 : Int32) = nI 2 from rfl, pk_mul]
  have e3 : (2 : Nat) ^ (2 * s) = 4 ^ s := by rw [Nat.pow_mul]
  have h4 : 4 ^ s ≤ 64 := by
    rcases (show s = 0 ∨ s = 1 ∨ s = 2 ∨ s = 3 by omega) with rfl | rfl | rfl | rfl <;> decide
  have h5 : w * 4 ^ s ≤ 100 * 64 := Nat.mul_le_mul hw h4
  rw [e1, e2, wb_shl w (by omega), e3, lN_toInt (by omega)]
  simp
theorem mh_wp {D : BD} {σ : SX} (hx : x_b D σ) {b : Nat} (hb : b < d_nb D) {Q : Int32 → SX → Prop} (hQ : ∀ c r, x_h D b (d_cn D b) c r → (∀ x, x ≤ 25 * b ∨ 25 * b + d_cn D b < x → c x = sX_costs σ x ∧ r x = sX_rises σ x) → Q (nI (hq (d_on D b) (25 * b) (d_cn D b)).length) (uX_costs (uX_rises σ r) c)) : wp_X_makeHull σ (nI b) Q := by
  obtain ⟨hd, hx2, hx3, hx4, hx5⟩ := id hx
  have h40 := hd.1
  obtain ⟨h24, hw1, hw2, hs3, _⟩ := hd.2 b hb
  obtain ⟨e1, e2, e3⟩ := hx3 b hb
  have hin : vp_in (nI b) 40 := vp_in_nI (by omega) (by omega)
  have ec : (nI b).toNatClampNeg = b := nI_clamp (by omega)
  unfold wp_X_makeHull wp_X_startOf
  refine ⟨hin, fun x4 e4 => ⟨hin, hin, fun x7 e7 => ?_⟩⟩
  rw [ec] at e4 e7
  have es : nI b * 25 = nI (25 * b) := by rw [show (25 : Int32) = nI 25 from rfl, pk_mul, Nat.mul_comm]
  rw [es] at e4 ⊢
  have e4' : x4 = nI (25 * b + d_cn D b) := by rw [e4, e1, nI_add]
  have e7' : x7.toInt = d_sc D b := by rw [e7, e2, e3]; exact sc_long hw2 hs3
  rw [e4']
  have es0 : nI (25 * b) = nI (25 * b + 0) := rfl
  rw [es0]
  refine st_wp (B := 25 * b) (n := d_cn D b) (f := 0) (L := d_L D b) (G := d_G D b) (x_bl hx hb) (Nat.zero_le _) (fun nx hst => ?_)
  intro x10 e10
  refine ⟨d_cn D b + 2, ?_⟩
  rw [e10, nI_1]
  have := mh_lp hx hb e7' hQ (d_cn D b + 2) 1 0 nx (sX_costs σ) (sX_rises σ) (by omega) (by omega) (by omega) (by omega) (Or.inl rfl) (fun j a1 a2 => by omega) hst (fun p a1 a2 => by omega) (fun x _ => ⟨rfl, rfl⟩)
  rwa [eX_rises, eX_costs] at this
