/-! hull, slope, least, above, bytes -/
def no_p (D : BD) (p1 p2 : Int32) : Prop := no_n p1 (d_nb D) ∨ ∃ b, b < d_nb D ∧ p1 = nI b ∧ no_n p2 (d_cn D b)
theorem no_pin {D : BD} (hd : d_ok D) {p1 p2 : Int32} (h : no_p D p1 p2) {b q : Nat} (hb : b < d_nb D) (e1 : p1 = nI b) (hq : q < d_cn D b) (e2 : p2 = nI q) : False := by
  have h40 := hd.1
  rcases h with h | ⟨b', hb', e', h⟩
  · exact no_in h (by omega) hb e1
  · have := (nI_eq (by omega) (by omega)).mp (e'.symm.trans e1)
    subst this
    have h24 := (hd.2 b' hb').1
    exact no_in h (by omega) hq e2
theorem po_wp {D : BD} {σ : SX} (hx : x_b D σ) {p1 p2 : Int32} {Q : Int32 → SX → Prop} {QX : String → SX → Prop} (h1 : ∀ b q, b < d_nb D → p1 = nI b → q < d_cn D b → p2 = nI q → Q (nI (25 * b + (q + 1))) σ) (h0 : no_p D p1 p2 → QX "java/lang/IndexOutOfBoundsException" σ) : wp_X_pointOf σ p1 p2 Q QX := by
  have h40 := hx.1.1
  unfold wp_X_pointOf
  refine nb_wp (by omega) hx.2.1 (fun b hb e => ?_) (fun c => h0 (Or.inl c))
  have h24 := (hx.1.2 b hb).1
  refine ⟨fun c => h0 (Or.inr ⟨b, hb, e, Or.inl c⟩), fun c => ⟨pk_in b 40 (by omega) e, ?_⟩⟩
  rw [pk_cl b e, (hx.2.2.1 b hb).1]
  refine ⟨fun c2 => ?_, fun c2 => h0 (Or.inr ⟨b, hb, e, Or.inr c2⟩)⟩
  rcases in_n (x := p2) (n := d_cn D b) (by omega) with ⟨q, hq, e2⟩ | z | z
  · unfold wp_X_startOf
    have : p1 * 25 + 1 + p2 = nI (25 * b + (q + 1)) := by
      rw [e, e2, show (25 : Int32) = nI 25 from rfl, pk_mul, nI_1, nI_add]
      exact congrArg nI (by omega)
    show Q (p1 * 25 + 1 + p2) σ
    rw [this]
    exact h1 b q hb e hq e2
  · exact absurd z c
  · exact absurd c2 z
theorem ip_wp {D : BD} (hd : d_ok D) {μ : SM} (hm : m_b D μ) {p1 p2 : Int32} {Q : Int32 → SM → Prop} (h1 : ∀ b q, b < d_nb D → p1 = nI b → q < d_cn D b → p2 = nI q → Q 1 μ) (h0 : no_p D p1 p2 → Q 0 μ) : wp_M_isPass μ p1 p2 Q := by
  have h40 := hd.1
  unfold wp_M_isPass
  refine ibl_wp (by omega) hm.1 (fun b hb e => ⟨fun c => absurd c (by decide), fun _ => ?_⟩) (fun c => ⟨fun _ => h0 (Or.inl c), fun c' => absurd rfl c'⟩)
  have h24 := (hd.2 b hb).1
  refine ⟨fun c => h0 (Or.inr ⟨b, hb, e, Or.inl c⟩), fun c => ⟨pk_in b 40 (by omega) e, ?_⟩⟩
  rw [pk_cl b e, (hm.2.1 b hb).1, ge_lt]
  refine ⟨fun c2 => h0 (Or.inr ⟨b, hb, e, Or.inr c2⟩), fun c2 => ?_⟩
  rcases in_n (x := p2) (n := d_cn D b) (by omega) with ⟨q, hq, e2⟩ | z | z
  · exact h1 b q hb e hq e2
  · exact absurd z c
  · exact absurd z c2
theorem M_hull {D : BD} (hd : d_ok D) {μ : SM} (hm : m_b D μ) {p1 p2 : Int32} {Q : Int32 → SM → Prop} (h1 : ∀ b q, b < d_nb D → p1 = nI b → q < d_cn D b → p2 = nI q → d_on D b (q + 1) → Q 1 (uM_thr μ 0)) (h2 : ∀ b q, b < d_nb D → p1 = nI b → q < d_cn D b → p2 = nI q → ¬ d_on D b (q + 1) → Q 0 (uM_thr μ 0)) (h0 : no_p D p1 p2 → Q 0 (uM_thr μ 1)) : wp_M_hull μ p1 p2 Q := by
  unfold wp_M_hull
  intro μ1 e1
  have t1 : sM_thr μ1 = 0 := by rw [e1, rM_thr_thr]
  have hm1 : m_b D μ1 := by rw [e1]; unfold m_b at hm ⊢; simp only [rM_blocks_thr, rM_many_thr, rM_weights_thr, rM_shifts_thr, rM_lens_thr, rM_gains_thr]; exact hm
  refine ip_wp hd hm1 (fun b q hb e hq e2 => ⟨fun _ => fa_0 t1 rfl ⟨fun c => absurd rfl c, fun _ => ?_⟩, fun c => absurd c (by decide)⟩) (fun c => ⟨fun c' => absurd rfl c', fun _ => fa_1 t1 rfl (by decide) ⟨fun _ => ?_, fun c' => absurd c' (by decide)⟩⟩)
  · rw [e, e2]
    refine hl_wp hd hm1 hb (by omega) (fun hon => ⟨fun c => absurd c (by decide), fun _ => ?_⟩) (fun hon => ⟨fun _ => ?_, fun c => absurd rfl c⟩)
    · rw [e1]; exact h1 b q hb e hq e2 hon
    · rw [e1]; exact h2 b q hb e hq e2 hon
  · rw [e1, oM_thr]; exact h0 c
theorem tlh {a : Int64} {k4 r : Int32} {f : Nat → Int64} {σ : SX} {K : SM → Prop} {μ : SM} (ht : sM_thr μ = k4) (hv : k4 = 0 → (r = 0 → (σ, f).2 (Int32.toNatClampNeg 0) = 0) ∧ (¬ r = 0 → (σ, f).2 (Int32.toNatClampNeg 0) = 1)) (hK : K μ) : wp_M_thrown μ (fun (r93 : Int32) (μ94 : SM) => (r93 = k4 → (¬ k4 = 0 → K μ94) ∧ (k4 = 0 → (r = 0 → ((lg_cmp ((σ, f).2 (Int32.toNatClampNeg 0)) 0) = 0 → K μ94) ∧ (¬ (lg_cmp ((σ, f).2 (Int32.toNatClampNeg 0)) 0) = 0 → False)) ∧ (¬ r = 0 → ((lg_cmp ((σ, f).2 (Int32.toNatClampNeg 0)) 1) = 0 → K μ94) ∧ (¬ (lg_cmp ((σ, f).2 (Int32.toNatClampNeg 0)) 1) = 0 → False)))) ∧ (¬ r93 = k4 → False)) := by
  unfold wp_M_thrown
  refine ⟨fun _ => ⟨fun _ => hK, fun c => ⟨fun c2 => ⟨fun _ => hK, fun c3 => c3 ?_⟩, fun c2 => ⟨fun _ => hK, fun c3 => c3 ?_⟩⟩⟩, fun c => c ht⟩
  · rw [(hv c).1 c2]; exact lg_self 0
  · rw [(hv c).2 c2]; exact lg_self 1
theorem uz {σ : SX} {f : Nat → Int64} {v : Int64} : (σ, vp_updL f (Int32.toNatClampNeg 0) v).2 (Int32.toNatClampNeg 0) = v := by
  show vp_updL f (Int32.toNatClampNeg 0) v (Int32.toNatClampNeg 0) = v
  exact pk_uLs
theorem lc_7 {L : Nat} {xs : Nat → Int32} {k : Nat → Int32 → SX → SM → (Nat → Int64) → Prop} {j : Nat} {i : Int32} {D : BD} {nl : Nat} {σ : SX} {μ : SM} {f : Nat → Int64} (v1 : vp_in (i + 1) L) (v2 : vp_in (i + 2) L) (h : RR D nl σ μ) (hK : ∀ D' σ' μ' f', RR D' nl σ' μ' → k (j + 1) (i + 4) σ' μ' f') : wc_law_7 L xs k j i σ μ f := by
  have hd := h.1.1
  have hm := h.2.2.1
  unfold wc_law_7 wp_L_hull wp_X_hull
  refine ⟨v1, v2, po_wp h.1 (fun b q hb e hq e2 => ?_) (fun c => ⟨rfl, v1, v2, M_hull hd hm (fun b q hb e hq e2 _ => (no_pin hd c hb e hq e2).elim) (fun b q hb e hq e2 _ => (no_pin hd c hb e hq e2).elim) (fun _ => tlh (a := 0) (by rw [rM_thr_thr]) (fun z => absurd z (by decide)) (hK D _ _ _ (RR_thr h 1)))⟩)⟩
  have h40 := hd.1
  have h24 := (hd.2 b hb).1
  have e25 : (nI (25 * b + (q + 1))).toNatClampNeg = 25 * b + (q + 1) := nI_clamp (by omega)
  refine ⟨pk_in _ 1000 (by omega) rfl, ?_⟩
  rw [e25]
  have hh := h.2.1.1 b hb (q + 1) (by omega) (by omega)
  by_cases hon : d_on D b (q + 1)
  · have hc := (hh.1 hon).1
    have hp := (d_hpos hd (x := 25 * b + (q + 1)) ⟨by rw [show (25 * b + (q + 1)) / 25 = b by omega]; exact hb, by rw [show (25 * b + (q + 1)) / 25 = b by omega, show (25 * b + (q + 1)) % 25 = q + 1 by omega]; exact hon⟩).1
    refine ⟨fun c => ?_, fun _ => ⟨fun c => absurd c (by decide), fun _ f5 e5 => ?_⟩⟩
    · have := Int32.le_iff_toInt_le.mp c
      rw [hc, show (0 : Int32).toInt = 0 from rfl] at this
      omega
    · refine ⟨v1, v2, M_hull hd hm (fun _ _ _ _ _ _ _ => tlh (a := 0) (by rw [rM_thr_thr]) (fun _ => ⟨fun c => absurd c (by decide), fun _ => by rw [e5]; exact uz⟩) (hK D _ _ _ (RR_thr h 0))) (fun b' q' hb' e' hq' e2' z => ?_) (fun c => (no_pin hd c hb e hq e2).elim)⟩
      have t := (nI_eq (by omega) (by omega)).mp (e'.symm.trans e)
      subst t
      have t := (nI_eq (by omega) (by omega)).mp (e2'.symm.trans e2)
      subst t
      exact absurd hon z
  · have hc := (hh.2 hon).1
    refine ⟨fun _ => ⟨fun _ f5 e5 => ?_, fun c => absurd rfl c⟩, fun c => absurd (by rw [hc]; decide) c⟩
    refine ⟨v1, v2, M_hull hd hm (fun b' q' hb' e' hq' e2' z => ?_) (fun _ _ _ _ _ _ _ => tlh (a := 0) (by rw [rM_thr_thr]) (fun _ => ⟨fun _ => by rw [e5]; exact uz, fun c => absurd rfl c⟩) (hK D _ _ _ (RR_thr h 0))) (fun c => (no_pin hd c hb e hq e2).elim)⟩
    have t := (nI_eq (by omega) (by omega)).mp (e'.symm.trans e)
    subst t
    have t := (nI_eq (by omega) (by omega)).mp (e2'.symm.trans e2)
    subst t
    exact absurd z hon
theorem cr_eq {D : BD} {nl : Nat} {σ : SX} {μ : SM} (h : RR D nl σ μ) (hl : m_l1 D μ) {b q : Nat} (hb : b < d_nb D) (hq : q < d_cn D b) : sX_costs σ (25 * b + (q + 1)) = sM_costs μ (24 * b + q) ∧ sX_rises σ (25 * b + (q + 1)) = sM_rises μ (24 * b + q) := by
  obtain ⟨_, R, _, hh, _⟩ := hl
  have a := h.2.1.1 b hb (q + 1) (by omega) (by omega)
  have c := hh b hb q hq
  by_cases hon : d_on D b (q + 1)
  · obtain ⟨a1, a2⟩ := a.1 hon
    obtain ⟨c1, c2⟩ := c.1 hon
    exact ⟨Int32.toInt_inj.mp (a1.trans c1.symm), Int64.toInt_inj.mp (a2.trans c2.symm)⟩
  · obtain ⟨a1, a2⟩ := a.2 hon
    obtain ⟨c1, c2⟩ := c.2 hon
    exact ⟨a1.trans c1.symm, a2.trans c2.symm⟩
theorem M_slope {D : BD} {nl : Nat} {σ : SX} {μ : SM} (h : RR D nl σ μ) {p1 p2 p3 : Int32} {Q : Int64 → SM → Prop} (h1 : ∀ b q, b < d_nb D → p1 = nI b → q < d_cn D b → p2 = nI q → ∀ μ2, RR D nl σ μ2 → sM_thr μ2 = 0 → (p3 = 0 → Q (Int32.toInt64 (sX_costs σ (25 * b + (q + 1)))) μ2) ∧ (¬ p3 = 0 → Q (sX_rises σ (25 * b + (q + 1))) μ2)) (h0 : no_p D p1 p2 → Q 0 (uM_thr μ 1)) : wp_M_slope μ p1 p2 p3 Q := by
  have hd := h.1.1
  unfold wp_M_slope
  intro μ1 e1
  have t1 : sM_thr μ1 = 0 := by rw [e1, rM_thr_thr]
  have hr1 : RR D nl σ μ1 := by rw [e1]; exact RR_thr h 0
  refine ip_wp hd hr1.2.2.1 (fun b q hb e hq e2 => ⟨fun _ => ?_, fun c => absurd c (by decide)⟩) (fun c => ⟨fun c' => absurd rfl c', fun _ => ?_⟩)
  · unfold wj_M_slope_20
    refine fa_0 t1 rfl ⟨fun _ => ly_wp hr1 (fun μ2 hr2 hl2 t2 => ?_), fun c => absurd rfl c⟩
    have h40 := hd.1
    have h24 := (hd.2 b hb).1
    have ei : 24 * p1 + p2 = nI (24 * b + q) := by rw [e, e2, nI_24]
    have hin := pk_in (x := 24 * p1 + p2) _ 960 (by omega) ei
    obtain ⟨c1, c2⟩ := cr_eq hr2 hl2 hb hq
    rw [pk_cl _ ei, ← c1, ← c2]
    obtain ⟨q1, q2⟩ := h1 b q hb e hq e2 μ2 hr2 (t2.trans t1)
    exact ⟨fun c => ⟨hin, q1 c⟩, fun c => ⟨hin, q2 c⟩⟩
  · unfold wj_M_slope_20
    refine fa_1 t1 rfl (by decide) ⟨fun c' => absurd c' (by decide), fun _ => ?_⟩
    rw [e1, oM_thr]
    exact h0 c
theorem X_slope {D : BD} {σ : SX} (hx : x_b D σ) {p1 p2 p3 : Int32} {Q : Int64 → SX → Prop} {QX : String → SX → Prop} (h1 : ∀ b q, b < d_nb D → p1 = nI b → q < d_cn D b → p2 = nI q → (p3 = 0 → Q (Int32.toInt64 (sX_costs σ (25 * b + (q + 1)))) σ) ∧ (¬ p3 = 0 → Q (sX_rises σ (25 * b + (q + 1))) σ)) (h0 : no_p D p1 p2 → QX "java/lang/IndexOutOfBoundsException" σ) : wp_X_slope σ p1 p2 p3 Q QX := by
  unfold wp_X_slope
  refine po_wp hx (fun b q hb e hq e2 => ?_) h0
  have h40 := hx.1.1
  have h24 := (hx.1.2 b hb).1
  have hin : vp_in (nI (25 * b + (q + 1))) 1000 := pk_in _ 1000 (by omega) rfl
  rw [nI_clamp (by omega)]
  obtain ⟨q1, q2⟩ := h1 b q hb e hq e2
  exact ⟨fun c => ⟨hin, q1 c⟩, fun c => ⟨hin, q2 c⟩⟩
theorem lc_8 {L : Nat} {xs : Nat → Int32} {k : Nat → Int32 → SX → SM → (Nat → Int64) → Prop} {j : Nat} {i : Int32} {D : BD} {nl : Nat} {σ : SX} {μ : SM} {f : Nat → Int64} (v1 : vp_in (i + 1) L) (v2 : vp_in (i + 2) L) (v3 : vp_in (i + 3) L) (h : RR D nl σ μ) (hK : ∀ D' σ' μ' f', RR D' nl σ' μ' → k (j + 1) (i + 4) σ' μ' f') : wc_law_8 L xs k j i σ μ f := by
  have hd := h.1.1
  unfold wc_law_8 wp_L_slope
  refine ⟨v1, v2, v3, fun c3 => X_slope h.1 (fun b q hb e hq e2 => ⟨fun _ f3 e3 => ?_, fun c => absurd rfl c⟩) (fun c => ⟨rfl, v1, v2, v3, fun _ => M_slope h (fun b q hb e hq e2 => (no_pin hd c hb e hq e2).elim) (fun _ => tlx (by decide) (by rw [rM_thr_thr]) (hK D _ _ _ (RR_thr h 1))), fun z => absurd c3 z⟩), fun c3 => X_slope h.1 (fun b q hb e hq e2 => ⟨fun z => absurd z (by decide), fun _ f3 e3 => ?_⟩) (fun c => ⟨rfl, v1, v2, v3, fun z => absurd z c3, fun _ => M_slope h (fun b q hb e hq e2 => (no_pin hd c hb e hq e2).elim) (fun _ => tlx (by decide) (by rw [rM_thr_thr]) (hK D _ _ _ (RR_thr h 1)))⟩)⟩
  · subst e3
    have h40 := hd.1
    have h24 := (hd.2 b hb).1
    refine ⟨v1, v2, v3, fun _ => M_slope h (fun b' q' hb' e' hq' e2' μ2 hr2 t2 => ⟨fun _ => ?_, fun c => absurd rfl c⟩) (fun c => (no_pin hd c hb e hq e2).elim), fun z => absurd c3 z⟩
    have t := (nI_eq (by omega) (by omega)).mp (e'.symm.trans e)
    subst t
    have t := (nI_eq (by omega) (by omega)).mp (e2'.symm.trans e2)
    subst t
    exact tl0 t2 rfl (hK D _ _ _ hr2)
  · subst e3
    have h40 := hd.1
    have h24 := (hd.2 b hb).1
    refine ⟨v1, v2, v3, fun z => absurd z c3, fun _ => M_slope h (fun b' q' hb' e' hq' e2' μ2 hr2 t2 => ⟨fun z => absurd z (by decide), fun _ => ?_⟩) (fun c => (no_pin hd c hb e hq e2).elim)⟩
    have t := (nI_eq (by omega) (by omega)).mp (e'.symm.trans e)
    subst t
    have t := (nI_eq (by omega) (by omega)).mp (e2'.symm.trans e2)
    subst t
    exact tl0 t2 rfl (hK D _ _ _ hr2)
/-- least -/
def lsm (c : Nat → Int32) (R : List Nat) : Nat → Nat → Int32 → Int32
  | 0, _, s => s
  | m + 1, i, s => lsm c R m (i + 1) (s + c (R.getD i 0))
theorem gD {R : List Nat} {i x : Nat} (h : R[i]? = some x) : R.getD i 0 = x := by rw [List.getD_eq_getElem?_getD, h]; rfl
theorem xl_lp {D : BD} {R : List Nat} {σ : SX} (hv : vX D R σ) {n : Nat} (hn : n ≤ R.length) {Q : Int32 → SX → Prop} {QX : String → SX → Prop} : ∀ (m i : Nat) (s : Int32), i ≤ n → n - i < m → Q (lsm (cI D) R (n - i) i s) σ → wl_X_least_15 (nI n) Q QX m s (nI i) σ := by
  obtain ⟨v1, v2, v3, v4⟩ := hv
  intro m
  induction m with
  | zero => intro i s _ h; omega
  | succ m ih =>
    intro i s hi hm hQ
    rw [wl_X_least_15]
    refine pk_le n i (fun c => ?_) (fun c => ?_) rfl rfl
    · rw [show n - i = 0 by omega, lsm] at hQ; exact hQ
    · obtain ⟨x, hx, ed⟩ := dr (R := R) (m := i) (by omega)
      obtain ⟨o1, o2, o3, o4, o5⟩ := v4 i x hx
      rw [nI_clamp (n := i) (by omega), o1, nI_clamp (n := x) (by omega), o4]
      refine ⟨pk_in i 960 (by omega), pk_in x 1000 (by omega), fun x5 e5 => ?_⟩
      rw [e5, nI_1]
      refine ih (i + 1) _ (by omega) (by omega) ?_
      rw [show n - i = n - (i + 1) + 1 by omega, lsm, gD hx] at hQ
      exact hQ
theorem ml_lp {D : BD} {R : List Nat} {μ : SM} (hv : vM D R μ) {n : Nat} (hn : n ≤ R.length) {Q : Int32 → SM → Prop} : ∀ (m i : Nat) (s : Int32), i ≤ n → n - i < m → Q (lsm (cI D) R (n - i) i s) μ → wl_M_least_40 (nI n) Q m s (nI i) μ := by
  obtain ⟨v2, v3, v4⟩ := hv
  intro m
  induction m with
  | zero => intro i s _ h; omega
  | succ m ih =>
    intro i s hi hm hQ
    rw [wl_M_least_40]
    refine pk_le n i (fun c => ?_) (fun c => ?_) rfl rfl
    · rw [show n - i = 0 by omega, lsm] at hQ; exact hQ
    · obtain ⟨x, hx, ed⟩ := dr (R := R) (m := i) (by omega)
      obtain ⟨o1, o2, o3, o4, o5⟩ := v4 i x hx
      rw [nI_clamp (n := i) (by omega), o1, nI_clamp (n := mi x) (by omega), o4]
      refine ⟨pk_in i 960 (by omega), pk_in (mi x) 960 (by omega), fun x5 e5 => ?_⟩
      rw [e5, nI_1]
      refine ih (i + 1) _ (by omega) (by omega) ?_
      rw [show n - i = n - (i + 1) + 1 by omega, lsm, gD hx] at hQ
      exact hQ
theorem le_no {p : Int32} {N : Nat} (hN : N < 1000) : wn p.toInt64 0 (nI N).toInt64 ↔ ∃ n, n ≤ N ∧ p = nI n := by
  have e0 : (0 : Int64).toInt = 0 := by decide
  unfold wn
  rw [Int32.toInt_toInt64, Int32.toInt_toInt64, nI_toInt (by omega), e0]
  constructor
  · intro h
    exact ⟨p.toInt.toNat, by omega, nI_ofInt h.1⟩
  · rintro ⟨n, hn, e⟩
    rw [e, nI_toInt (by omega)]
    omega
theorem X_least {D : BD} {R : List Nat} {σ : SX} (hv : vX D R σ) {p : Int32} {Q : Int32 → SX → Prop} {QX : String → SX → Prop} (h1 : ∀ n, n ≤ R.length → p = nI n → Q (lsm (cI D) R n 0 0) σ) (h0 : (∀ n, n ≤ R.length → p ≠ nI n) → QX "java/lang/IllegalArgumentException" σ) : wp_X_least σ p Q QX := by
  have h960 := hv.2.1
  unfold wp_X_least
  rw [hv.2.2.1]
  refine nw_wp (fun hw => ?_) (fun hw => h0 (fun n hn e => hw ((le_no (by omega)).mpr ⟨n, hn, e⟩)))
  obtain ⟨n, hn, e⟩ := (le_no (by omega)).mp hw
  have := h1 n hn e
  rw [e]
  exact ⟨n + 1, xl_lp hv hn (n + 1) 0 0 (by omega) (by omega) this⟩
theorem M_least {D : BD} {nl : Nat} {σ : SX} {μ : SM} {R : List Nat} (h : RR D nl σ μ) (hR : d_row D R) {p : Int32} {Q : Int32 → SM → Prop} (h1 : ∀ n, n ≤ R.length → p = nI n → ∀ μ2, RR D nl σ μ2 → sM_thr μ2 = 0 → Q (lsm (cI D) R n 0 0) μ2) (h0 : (∀ n, n ≤ R.length → p ≠ nI n) → ∀ μ2, RR D nl σ μ2 → sM_thr μ2 = 1 → Q 0 μ2) : wp_M_least μ p Q := by
  unfold wp_M_least
  intro μ1 e1
  have t1 : sM_thr μ1 = 0 := by rw [e1, rM_thr_thr]
  have hr1 : RR D nl σ μ1 := by rw [e1]; exact RR_thr h 0
  refine ly_wp hr1 (fun μ2 hr2 hl2 t2 => ?_)
  rw [t1] at t2
  have hvm := vM_of h.1.1 hR hl2
  have h960 := hvm.1
  have bad : (∀ n, n ≤ R.length → p ≠ nI n) → wp_M_fails μ2 1 1 (fun (r5 : Int32) (μ4 : SM) => (r5 = 0 → ∃ n11 : Nat, wl_M_least_40 p Q n11 0 0 μ4) ∧ (¬ r5 = 0 → Q 0 μ4)) := fun c => fa_1 t2 rfl (by decide) ⟨fun c' => absurd c' (by decide), fun _ => h0 c _ (RR_thr hr2 1) (by rw [rM_thr_thr])⟩
  rcases in_n (x := p) (n := R.length + 1) (by omega) with ⟨n, hn, e⟩ | z
  · have := h1 n (by omega) e μ2 hr2 t2
    rw [e] at bad ⊢
    exact ⟨fun c => absurd c (nI_pos (by omega)), fun _ => ⟨fun _ => fa_0 t2 rfl ⟨fun _ => ⟨n + 1, ml_lp hvm (by omega) (n + 1) 0 0 (by omega) (by omega) this⟩, fun c => absurd rfl c⟩, fun c => absurd (by rw [hvm.2.1]; exact nI_le (by omega) (by omega)) c⟩⟩
  · have z' : ∀ n, n ≤ R.length → p ≠ nI n := fun n hn e => no_in z (by omega) (show n < R.length + 1 by omega) e
    refine ⟨fun _ => bad z', fun c => ⟨fun c2 => ?_, fun _ => bad z'⟩⟩
    exfalso
    rcases z with z | z
    · exact c z
    · apply z
      rw [hvm.2.1] at c2
      have := Int32.le_iff_toInt_le.mp c2
      rw [nI_toInt (by omega)] at this
      exact Int32.lt_iff_toInt_lt.mpr (by rw [nI_toInt (by omega)]; omega)
theorem lc_14 {L : Nat} {xs : Nat → Int32} {k : Nat → Int32 → SX → SM → (Nat → Int64) → Prop} {j : Nat} {i : Int32} {D : BD} {nl : Nat} {σ : SX} {μ : SM} {f : Nat → Int64} (v1 : vp_in (i + 1) L) (h : RR D nl σ μ) (hK : ∀ D' σ' μ' f', RR D' nl σ' μ' → k (j + 1) (i + 4) σ' μ' f') : wc_law_14 L xs k j i σ μ f := by
  obtain ⟨R, hv⟩ := vX_of h.1.1 h.2.1
  have h960 := hv.2.1
  unfold wc_law_14 wp_L_least
  refine ⟨v1, X_least hv (fun n hn e f3 e3 => ?_) (fun c => ⟨rfl, v1, M_least h hv.1 (fun n hn e => absurd e (c n hn)) (fun _ μ2 hr2 t2 => tlx (by decide) t2 (hK D _ _ _ hr2))⟩)⟩
  subst e3
  refine ⟨v1, M_least h hv.1 (fun n' hn' e' μ2 hr2 t2 => ?_) (fun c => absurd e (c n hn))⟩
  have t := (nI_eq (by omega) (by omega)).mp (e'.symm.trans e)
  subst t
  exact tl0 t2 rfl (hK D _ _ _ hr2)
/-- above -/
def abn (c : Nat → Int32) (r : Nat → Int64) (g : Int64) (l : Int32) : List Nat → Nat
  | [] => 0
  | x :: t => if lg_cmp (r x * l.toInt64) (g * (c x).toInt64) < 0 then 0 else abn c r g l t + 1
theorem xa_lp {D : BD} {R : List Nat} {σ : SX} (hv : vX D R σ) {g : Int64} {l : Int32} {Q : Int32 → SX → Prop} {QX : String → SX → Prop} : ∀ (m i : Nat), i ≤ R.length → R.length - i < m → Q (nI (i + abn (cI D) (rI D) g l (R.drop i))) σ → wl_X_above_22 g l Q QX m (nI i) σ := by
  obtain ⟨v1, v2, v3, v4⟩ := hv
  intro m
  induction m with
  | zero => intro i _ h; omega
  | succ m ih =>
    intro i hi hm hQ
    rw [wl_X_above_22]
    refine pk_le R.length i (fun c => ?_) (fun c => ?_) v3 rfl
    · rw [List.drop_eq_nil_of_le c, abn, Nat.add_zero] at hQ; exact hQ
    · obtain ⟨x, hx, ed⟩ := dr c
      obtain ⟨o1, o2, o3, o4, o5⟩ := v4 i x hx
      have hi1 : vp_in (nI i) 960 := pk_in i 960 (by omega)
      have hx1 : vp_in (nI x) 1000 := pk_in x 1000 (by omega)
      rw [nI_clamp (n := i) (by omega), o1, nI_clamp (n := x) (by omega), o4, o5]
      rw [ed, abn] at hQ
      refine ⟨hi1, hx1, hi1, hx1, fun c2 => ?_, fun c2 => ?_⟩
      · rw [if_pos c2, Nat.add_zero] at hQ; exact hQ
      · rw [if_neg c2] at hQ
        rw [nI_1]
        refine ih (i + 1) (by omega) (by omega) ?_
        rw [show ∀ z, i + 1 + z = i + (z + 1) by intro z; omega]
        exact hQ
theorem ma_lp {D : BD} {R : List Nat} {μ : SM} (hv : vM D R μ) {g : Int64} {l : Int32} {Q : Int32 → SM → Prop} : ∀ (m i : Nat), i ≤ R.length → R.length - i < m → Q (nI (i + abn (cI D) (rI D) g l (R.drop i))) μ → wl_M_above_52 g l Q m (nI i) μ := by
  obtain ⟨v2, v3, v4⟩ := hv
  intro m
  induction m with
  | zero => intro i _ h; omega
  | succ m ih =>
    intro i hi hm hQ
    rw [wl_M_above_52]
    refine pk_le R.length i (fun c => ?_) (fun c => ?_) v3 rfl
    · rw [List.drop_eq_nil_of_le c, abn, Nat.add_zero] at hQ; exact hQ
    · obtain ⟨x, hx, ed⟩ := dr c
      obtain ⟨o1, o2, o3, o4, o5⟩ := v4 i x hx
      have hi1 : vp_in (nI i) 960 := pk_in i 960 (by omega)
      have hx1 : vp_in (nI (mi x)) 960 := pk_in (mi x) 960 (by omega)
      rw [nI_clamp (n := i) (by omega), o1, nI_clamp (n := mi x) (by omega), o4, o5]
      rw [ed, abn] at hQ
      refine ⟨hi1, hx1, hi1, hx1, fun c2 => ?_, fun c2 => ?_⟩
      · rw [if_pos c2, Nat.add_zero] at hQ; exact hQ
      · rw [if_neg c2] at hQ
        rw [nI_1]
        refine ih (i + 1) (by omega) (by omega) ?_
        rw [show ∀ z, i + 1 + z = i + (z + 1) by intro z; omega]
        exact hQ
def wn3 (g : Int64) (l : Int32) : Prop := wn l.toInt64 1 1000000 ∧ wn g (-1000000000000) 1000000000000
theorem X_above {D : BD} {R : List Nat} {σ : SX} (hv : vX D R σ) {g : Int64} {l : Int32} {Q : Int32 → SX → Prop} {QX : String → SX → Prop} (h1 : wn3 g l → Q (nI (abn (cI D) (rI D) g l R)) σ) (h0 : ¬ wn3 g l → QX "java/lang/IllegalArgumentException" σ) : wp_X_above σ g l Q QX := by
  unfold wp_X_above
  refine nw_wp (fun w1 => nw_wp (fun w2 => ⟨R.length + 1, xa_lp hv (R.length + 1) 0 (by omega) (by omega) ?_⟩) (fun w => h0 (fun z => w z.2))) (fun w => h0 (fun z => w z.1))
  rw [Nat.zero_add, List.drop_zero]
  exact h1 ⟨w1, w2⟩
theorem M_above {D : BD} {nl : Nat} {σ : SX} {μ : SM} {R : List Nat} (h : RR D nl σ μ) (hR : d_row D R) {g : Int64} {l : Int32} {Q : Int32 → SM → Prop} (h1 : wn3 g l → ∀ μ2, RR D nl σ μ2 → sM_thr μ2 = 0 → Q (nI (abn (cI D) (rI D) g l R)) μ2) (h0 : ¬ wn3 g l → ∀ μ2, RR D nl σ μ2 → sM_thr μ2 = 1 → Q 0 μ2) : wp_M_above μ g l Q := by
  unfold wp_M_above
  intro μ1 e1
  have t1 : sM_thr μ1 = 0 := by rw [e1, rM_thr_thr]
  have hr1 : RR D nl σ μ1 := by rw [e1]; exact RR_thr h 0
  refine ly_wp hr1 (fun μ2 hr2 hl2 t2 => ?_)
  rw [t1] at t2
  have hvm := vM_of h.1.1 hR hl2
  have bad : ¬ wn3 g l → wp_M_fails μ2 1 1 (fun (r5 : Int32) (μ4 : SM) => (r5 = 0 → ∃ n11 : Nat, wl_M_above_52 g l Q n11 0 μ4) ∧ (¬ r5 = 0 → Q 0 μ4)) := fun c => fa_1 t2 rfl (by decide) ⟨fun c' => absurd c' (by decide), fun _ => h0 c _ (RR_thr hr2 1) (by rw [rM_thr_thr])⟩
  refine wi_wp (fun w1 => ⟨fun c => absurd c (by decide), fun _ => wi_wp (fun w2 => ⟨fun _ => fa_0 t2 rfl ⟨fun _ => ⟨R.length + 1, ma_lp hvm (R.length + 1) 0 (by omega) (by omega) ?_⟩, fun c => absurd rfl c⟩, fun c => absurd c (by decide)⟩) (fun w => ⟨fun c => absurd rfl c, fun _ => bad (fun z => w z.2)⟩)⟩) (fun w => ⟨fun _ => bad (fun z => w z.1), fun c => absurd rfl c⟩)
  rw [Nat.zero_add, List.drop_zero]
  exact h1 ⟨w1, w2⟩ μ2 hr2 t2
theorem lc_15 {L : Nat} {xs : Nat → Int32} {k : Nat → Int32 → SX → SM → (Nat → Int64) → Prop} {j : Nat} {i : Int32} {D : BD} {nl : Nat} {σ : SX} {μ : SM} {f : Nat → Int64} (v1 : vp_in (i + 1) L) (v2 : vp_in (i + 2) L) (v3 : vp_in (i + 3) L) (h : RR D nl σ μ) (hK : ∀ D' σ' μ' f', RR D' nl σ' μ' → k (j + 1) (i + 4) σ' μ' f') : wc_law_15 L xs k j i σ μ f := by
  obtain ⟨R, hv⟩ := vX_of h.1.1 h.2.1
  unfold wc_law_15 wp_L_above
  refine ⟨v1, v2, v3, X_above hv (fun w f3 e3 => ?_) (fun w => ⟨rfl, v1, v2, v3, M_above h hv.1 (fun w' => absurd w' w) (fun _ μ2 hr2 t2 => tlx (by decide) t2 (hK D _ _ _ hr2))⟩)⟩
  subst e3
  exact ⟨v1, v2, v3, M_above h hv.1 (fun _ μ2 hr2 t2 => tl0 t2 rfl (hK D _ _ _ hr2)) (fun w' => absurd w w')⟩
/-- the class and the reference are shared, or neither -/
theorem ns_wp {D : BD} {nl : Nat} {σ : SX} {μ : SM} (h : RR D nl σ μ) {Q : SX → Prop} {QX : String → SX → Prop} (h1 : sX_shared σ = 1 → Q σ) (h0 : sX_shared σ = 0 → QX "java/lang/IllegalStateException" σ) : wp_X_needShared σ Q QX := by
  unfold wp_X_needShared
  obtain ⟨s1, s2⟩ := sh_eq h
  rw [← s1] at s2
  exact ⟨fun c => h1 (s2.resolve_left c), fun c => h0 c⟩
theorem sh_of {D : BD} {nl : Nat} {σ : SX} {μ : SM} (h : RR D nl σ μ) (h1 : sX_shared σ = 1) : sM_shared μ = 1 ∧ m_l1 D μ ∧ ∃ R, d_row D R ∧ vX D R σ ∧ vM D R μ ∧ ∀ k, k < nl → sh_k D R σ (sM_given μ) k := by
  rcases h.2.2.2.2.2.2.2 with ⟨z, _⟩ | ⟨_, z2, z3, R, z4, z5⟩
  · rw [h1] at z; exact absurd z (by decide)
  · obtain ⟨R', hv⟩ := vX_of h.1.1 h.2.1
    have := d_row_uq hv.1 z4
    subst this
    exact ⟨z2, z3, R', z4, hv, vM_of h.1.1 z4 z3, z5⟩
theorem mb_lp {D : BD} {R : List Nat} {μ : SM} (hv : vM D R μ) {k : Nat} (hk : k < 16) {S : Int32} {tg : Nat} (hg : sM_given μ (k + 1) = nI tg) (htg : tg ≤ R.length) {Q : Int32 → SM → Prop} : ∀ (m i : Nat) (s : Int32), tg = i + flN (cI D) S (R.drop i) s → tg - i < m → Q (flS (cI D) S (R.drop i) s) μ → wl_M_bytes_79 (nI k) Q m s (nI i) μ := by
  obtain ⟨v2, v3, v4⟩ := hv
  intro m
  induction m with
  | zero => intro i s _ h; omega
  | succ m ih =>
    intro i s hi hm hQ
    rw [wl_M_bytes_79, nI_1, nI_clamp (n := k + 1) (by omega)]
    refine ⟨pk_in (k + 1) 17 (by omega), pk_le tg i (fun c => ?_) (fun c => ?_) hg rfl⟩
    · have h0 : flN (cI D) S (R.drop i) s = 0 := by omega
      have : flS (cI D) S (R.drop i) s = s := by
        cases hd : R.drop i with
        | nil => rw [flS]
        | cons x r =>
          rw [hd, flN] at h0
          by_cases c2 : S < s + cI D x
          · rw [flS, if_pos c2]
          · rw [if_neg c2] at h0; omega
      rw [this] at hQ
      exact hQ
    · obtain ⟨x, hx, ed⟩ := dr (R := R) (m := i) (by omega)
      obtain ⟨o1, o2, o3, o4, o5⟩ := v4 i x hx
      rw [nI_clamp (n := i) (by omega), o1, nI_clamp (n := mi x) (by omega), o4]
      rw [ed, flS] at hQ
      rw [ed, flN] at hi
      by_cases c2 : S < s + cI D x
      · rw [if_pos c2] at hi; omega
      · rw [if_neg c2] at hi hQ
        refine ⟨pk_in i 960 (by omega), pk_in (mi x) 960 (by omega), fun x23 e23 => ?_⟩
        rw [e23, nI_1]
        exact ih (i + 1) _ (by omega) (by omega) hQ
theorem M_bytes {D : BD} {nl : Nat} {σ : SX} {μ : SM} (h : RR D nl σ μ) {p : Int32} {Q : Int32 → SM → Prop} (h1 : sX_shared σ = 0 → Q 0 (uM_thr μ 1)) (h2 : sX_shared σ = 1 → no_n p nl → Q 0 (uM_thr μ 2)) (h0 : ∀ k, sX_shared σ = 1 → k < nl → p = nI k → Q (sX_held σ k) (uM_thr μ 0)) : wp_M_bytes μ p Q := by
  unfold wp_M_bytes
  intro μ1 e1
  have t1 : sM_thr μ1 = 0 := by rw [e1, rM_thr_thr]
  have hr1 : RR D nl σ μ1 := by rw [e1]; exact RR_thr h 0
  obtain ⟨l1, l2, l3, l4, l5, l6⟩ := hr1.2.2.2.1
  obtain ⟨s1, s2⟩ := sh_eq hr1
  refine ⟨fun c => ?_, fun c => ?_⟩
  · have sh1 : sX_shared σ = 1 := by rw [s1]; exact s2.resolve_left c
    obtain ⟨_, _, R, z4, hv, hvm, z5⟩ := sh_of hr1 sh1
    unfold wj_M_bytes_18
    refine fa_0 t1 rfl ⟨fun c => absurd rfl c, fun _ => ila_wp (by omega) l5 (fun k hk e => ⟨fun _ => ?_, fun c => absurd c (by decide)⟩) (fun c => ⟨fun c' => absurd rfl c', fun _ => ?_⟩)⟩
    · have q := h0 k sh1 hk e
      rw [← e1] at q
      unfold wj_M_bytes_39
      refine fa_0 t1 rfl ⟨fun _ => ?_, fun c => absurd rfl c⟩
      have hin : vp_in p 16 := pk_in k 16 (by omega) e
      have hin17 : vp_in p 17 := pk_in k 17 (by omega) e
      rw [pk_cl k e, ← (l6 k hk).1, ← (l6 k hk).2]
      obtain ⟨w1, w2, w3⟩ := z5 k hk
      have hle : ∀ a b : Int32, a ≤ b ↔ ¬ b < a := fun a b => by rw [Int32.le_iff_toInt_le, Int32.lt_iff_toInt_lt]; omega
      rw [w3] at q
      refine ⟨hin, hin, fun c2 => ⟨hin, fun x16 e16 => ⟨hin17, fun x18 e18 => ?_⟩⟩, fun c2 => ?_⟩
      · rw [hle] at c2
        rw [if_neg c2] at q
        have g0 : sM_given μ1 k = nI (en (cI D) (sX_heads σ) (sX_sizes σ) R k) := by
          cases k with
          | zero => exact hr1.2.2.2.2.2.2.1
          | succ k => exact (z5 k (by omega)).2.1
        rw [e18, g0, e16, e]
        have hen := en_le (cI D) (sX_heads σ) (sX_sizes σ) R (k + 1)
        refine ⟨R.length + 1, mb_lp hvm (by omega) w2 hen (R.length + 1) _ _ ?_ (by omega) q⟩
        rw [en, if_neg c2]
      · rw [hle, Classical.not_not] at c2
        rw [if_pos c2] at q
        exact q
    · unfold wj_M_bytes_39
      refine fa_1 t1 rfl (by decide) ⟨fun c' => absurd c' (by decide), fun _ => ?_⟩
      rw [e1, oM_thr]
      exact h2 sh1 c
  · unfold wj_M_bytes_18
    refine fa_1 t1 rfl (by decide) ⟨fun _ => ?_, fun c' => absurd c' (by decide)⟩
    rw [e1, oM_thr]
    exact h1 (by rw [s1]; exact c)
theorem lc_12 {L : Nat} {xs : Nat → Int32} {k : Nat → Int32 → SX → SM → (Nat → Int64) → Prop} {j : Nat} {i : Int32} {D : BD} {nl : Nat} {σ : SX} {μ : SM} {f : Nat → Int64} (v1 : vp_in (i + 1) L) (h : RR D nl σ μ) (hK : ∀ D' σ' μ' f', RR D' nl σ' μ' → k (j + 1) (i + 4) σ' μ' f') : wc_law_12 L xs k j i σ μ f := by
  obtain ⟨l1, l2, l3, l4, l5, l6⟩ := h.2.2.2.1
  have ne : ∀ {q : Prop}, sX_shared σ = 1 → sX_shared σ = 0 → q := fun a b => absurd (a.symm.trans b) (by decide)
  unfold wc_law_12 wp_L_bytes wp_X_bytes
  refine ⟨v1, ns_wp h (fun sh => nl_wp (by omega) l4 (fun b hb e => ⟨pk_in b _ (by rw [l3]; exact hb) e (by rw [l3]; omega), fun f3 e3 => ?_⟩) (fun c => Or.inr ⟨rfl, v1, M_bytes h (fun z => ne sh z) (fun _ _ => tlx (by decide) (by rw [rM_thr_thr]) (hK D _ _ _ (RR_thr h 2))) (fun b _ hb e => (no_in c (by omega) hb e).elim)⟩)) (fun sh => Or.inl ⟨rfl, v1, M_bytes h (fun _ => tlx (by decide) (by rw [rM_thr_thr]) (hK D _ _ _ (RR_thr h 1))) (fun z => ne z sh) (fun b z => ne z sh)⟩)⟩
  rw [pk_cl b e] at e3
  subst e3
  refine ⟨v1, M_bytes h (fun z => ne sh z) (fun _ c => (no_in c (by omega) hb e).elim) (fun b' _ hb' e' => ?_)⟩
  have t := (nI_eq (by omega) (by omega)).mp (e'.symm.trans e)
  subst t
  exact tl0 (by rw [rM_thr_thr]) rfl (hK D _ _ _ (RR_thr h 0))
