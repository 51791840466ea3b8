/-! at, passes, gained -/
theorem cI_int {D : BD} (hd : d_ok D) {x : Nat} (hx : d_hp D x) : (cI D x).toInt = d_cost D x := by
  obtain ⟨a1, a2, a3, a4⟩ := d_hpos hd hx
  rw [cI]
  exact Int32.toInt_ofInt_of_le (by omega) (by omega)
theorem rI_int {D : BD} (hd : d_ok D) {x : Nat} (hx : d_hp D x) : (rI D x).toInt = d_rise D x := by
  obtain ⟨a1, a2, a3, a4⟩ := d_hpos hd hx
  rw [rI]
  exact Int64.toInt_ofInt_of_le (by omega) (by omega)
theorem rc_int {D : BD} (hd : d_ok D) {x y : Nat} (hx : d_hp D x) (hy : d_hp D y) : (rI D x * (cI D y).toInt64).toInt = d_rise D x * d_cost D y := by
  obtain ⟨a1, a2, a3, a4⟩ := d_hpos hd hx
  obtain ⟨b1, b2, b3, b4⟩ := d_hpos hd hy
  have m1 := nu_bd (a := d_rise D x) (b := d_cost D y) (A := 307200000000) (B := 240000) (by omega) (by omega) (by omega) (by omega)
  rw [nl_mul (by rw [Int32.toInt_toInt64, rI_int hd hx, cI_int hd hy]; omega) (by rw [Int32.toInt_toInt64, rI_int hd hx, cI_int hd hy]; omega), Int32.toInt_toInt64, rI_int hd hx, cI_int hd hy]
/-- how many have x's slope -/
noncomputable def alk (D : BD) (x : Nat) : List Nat → Nat
  | [] => 0
  | y :: r => if d_rise D x * d_cost D y = d_rise D y * d_cost D x then alk D x r + 1 else alk D x r
theorem alk_le (D : BD) (x : Nat) : ∀ r : List Nat, alk D x r ≤ r.length := by
  intro r
  induction r with
  | nil => exact Nat.le_refl _
  | cons y r ih => rw [alk, List.length_cons]; split <;> omega
theorem xp_of {D : BD} {σ : SX} (hd : d_ok D) (h : x_r D σ) {x : Nat} (hp : d_hp D x) : x_pt D σ x := by
  have k := x_h_pt hd hp.1 (h.1 _ hp.1) hp.2
  rw [show 25 * (x / 25) + x % 25 = x by omega] at k
  exact k
theorem xk_lp {D : BD} {R : List Nat} {σ : SX} (hd : d_ok D) (hr : x_r D σ) (hv : vX D R σ) {x : Nat} (hx : d_hp D x) {Q : Int32 → SX → Prop} : ∀ (m i n : Nat), i ≤ R.length → R.length - i < m → Q (nI (n + alk D x (R.drop i))) σ → wl_X_countSameSlope_4 (nI x) Q m (nI n) (nI i) σ := by
  obtain ⟨v1, v2, v3, v4⟩ := hv
  intro m
  induction m with
  | zero => intro i n _ h; omega
  | succ m ih =>
    intro i n hi hm hQ
    rw [wl_X_countSameSlope_4]
    refine pk_le R.length i (fun c => ?_) (fun c => ?_) v3 rfl
    · rw [List.drop_eq_nil_of_le c, alk, Nat.add_zero] at hQ; exact hQ
    · obtain ⟨y, hy, ed⟩ := dr c
      obtain ⟨o1, o2, o3, o4, o5⟩ := v4 i y hy
      have hyp := (v1.2 y).mp (List.mem_of_getElem? hy)
      rw [nI_clamp (n := i) (by omega), o1]
      rw [ed, alk] at hQ
      refine ⟨pk_in i 960 (by omega), cs_wp hd (xp_of hd hr hx) (xp_of hd hr hyp) (fun c1 => ⟨fun _ => ?_, fun z => absurd z (by decide)⟩) (fun c1 => ⟨fun z => absurd rfl z, fun _ => ?_⟩) (fun c1 => ⟨fun _ => ?_, fun z => absurd z (by decide)⟩)⟩
      · rw [if_neg (by omega)] at hQ
        rw [nI_1]
        exact ih (i + 1) n (by omega) (by omega) hQ
      · rw [if_pos c1] at hQ
        rw [nI_1, nI_1]
        refine ih (i + 1) (n + 1) (by omega) (by omega) ?_
        rw [show ∀ z, n + 1 + z = n + (z + 1) by intro z; omega]
        exact hQ
      · rw [if_neg (by omega)] at hQ
        rw [nI_1]
        exact ih (i + 1) n (by omega) (by omega) hQ
theorem mk_lp {D : BD} {R : List Nat} {μ : SM} (hd : d_ok D) (hR : d_row D R) (hv : vM D R μ) {pl x : Nat} (hx : R[pl]? = some x) {Q : Int32 → SM → Prop} : ∀ (m i n : Nat), i ≤ R.length → R.length - i < m → Q (nI (n + alk D x (R.drop i))) μ → wl_M_alike_4 (nI pl) Q m (nI n) (nI i) μ := by
  obtain ⟨v2, v3, v4⟩ := hv
  have hpl := (List.getElem?_eq_some_iff.mp hx).1
  have hxp := (hR.2 x).mp (List.mem_of_getElem? hx)
  obtain ⟨p1, p2, p3, p4, p5⟩ := v4 pl x hx
  intro m
  induction m with
  | zero => intro i n _ h; omega
  | succ m ih =>
    intro i n hi hm hQ
    rw [wl_M_alike_4]
    refine pk_le R.length i (fun c => ?_) (fun c => ?_) v3 rfl
    · rw [List.drop_eq_nil_of_le c, alk, Nat.add_zero] at hQ; exact hQ
    · obtain ⟨y, hy, ed⟩ := dr c
      obtain ⟨o1, o2, o3, o4, o5⟩ := v4 i y hy
      have hyp := (hR.2 y).mp (List.mem_of_getElem? hy)
      have i1 : vp_in (nI i) 960 := pk_in i 960 (by omega)
      have i2 : vp_in (nI (mi y)) 960 := pk_in (mi y) 960 (by omega)
      have i3 : vp_in (nI pl) 960 := pk_in pl 960 (by omega)
      have i4 : vp_in (nI (mi x)) 960 := pk_in (mi x) 960 (by omega)
      rw [nI_clamp (n := i) (by omega), nI_clamp (n := pl) (by omega), o1, p1, nI_clamp (n := mi y) (by omega), nI_clamp (n := mi x) (by omega), o4, o5, p4, p5, lg_eq0, rc_int hd hyp hxp, rc_int hd hxp hyp]
      rw [ed, alk] at hQ
      refine ⟨i1, i2, i3, i4, i3, i4, i1, i2, fun c1 x11 e11 => ?_, fun c1 x12 e12 => ?_⟩
      · rw [if_neg (fun z => c1 z.symm)] at hQ
        rw [e11, show nI n + 0 = nI n from by rw [Int32.add_zero], nI_1]
        exact ih (i + 1) n (by omega) (by omega) hQ
      · rw [if_pos c1.symm] at hQ
        rw [e12, nI_1, nI_1]
        refine ih (i + 1) (n + 1) (by omega) (by omega) ?_
        rw [show ∀ z, n + 1 + z = n + (z + 1) by intro z; omega]
        exact hQ
/-- the layer of a place -/
def lo (e : Nat → Nat) (p : Nat) : Nat → Nat → Int32
  | 0, _ => -1
  | m + 1, k => if e (k + 1) ≤ p then lo e p m (k + 1) else nI k
theorem xo_lp {σ : SX} {nl : Nat} (hn : nl ≤ 16) (h1 : sX_nl σ = nl) (h2 : sX_layers σ = nI nl) {e : Nat → Nat} (he : ∀ k, k < nl → sX_ends σ k = nI (e (k + 1)) ∧ e (k + 1) ≤ 960) {p : Nat} (hp : p < 960) {Q : Int32 → SX → Prop} : ∀ (m k : Nat), k ≤ nl → nl - k < m → Q (lo e p (nl - k) k) σ → wl_X_layerOf_2 (nI p) Q m (nI k) σ := by
  intro m
  induction m with
  | zero => intro k _ h; omega
  | succ m ih =>
    intro k hk hm hQ
    rw [wl_X_layerOf_2]
    refine pk_le nl k (fun c => ?_) (fun c => ⟨pk_in k _ (by omega) rfl (by omega), ?_⟩) h2 rfl
    · rw [show nl - k = 0 by omega, lo] at hQ; exact hQ
    · rw [show nl - k = nl - (k + 1) + 1 by omega, lo] at hQ
      rw [nI_clamp (n := k) (by omega)]
      have h9 := (he k c).2
      refine pk_le (e (k + 1)) p (fun c2 => ?_) (fun c2 => ?_) (he k c).1 rfl
      · rw [if_pos c2] at hQ
        rw [nI_1]
        exact ih (k + 1) (by omega) (by omega) hQ
      · rw [if_neg (by omega)] at hQ
        exact hQ
theorem mo_lp {μ : SM} {nl : Nat} (hn : nl ≤ 16) (h2 : sM_layers μ = nI nl) {e : Nat → Nat} (he : ∀ k, k < nl → sM_given μ (k + 1) = nI (e (k + 1)) ∧ e (k + 1) ≤ 960) {p : Nat} (hp : p < 960) {Q : Int32 → SM → Prop} : ∀ (m k : Nat), k ≤ nl → nl - k < m → Q (lo e p (nl - k) k) μ → wl_M_layerOf_2 (nI p) Q m (nI k) μ := by
  intro m
  induction m with
  | zero => intro k _ h; omega
  | succ m ih =>
    intro k hk hm hQ
    rw [wl_M_layerOf_2, nI_1]
    refine pk_le nl k (fun c => ?_) (fun c => ⟨pk_in (k + 1) 17 (by omega), ?_⟩) h2 rfl
    · rw [show nl - k = 0 by omega, lo] at hQ; exact hQ
    · rw [show nl - k = nl - (k + 1) + 1 by omega, lo] at hQ
      rw [nI_clamp (n := k + 1) (by omega)]
      have h9 := (he k c).2
      refine pk_le (e (k + 1)) p (fun c2 => ?_) (fun c2 => ?_) (he k c).1 rfl
      · rw [if_pos c2] at hQ
        exact ih (k + 1) (by omega) (by omega) hQ
      · rw [if_neg (by omega)] at hQ
        exact hQ
theorem w04 {p : Int32} : wn p.toInt64 0 4 ↔ p = 0 ∨ p = 1 ∨ p = 2 ∨ p = 3 ∨ p = 4 := by
  have e0 : (0 : Int64).toInt = 0 := by decide
  have e4 : (4 : Int64).toInt = 4 := by decide
  unfold wn
  rw [Int32.toInt_toInt64, e0, e4]
  constructor
  · intro h
    have h1 : p.toInt = 0 ∨ p.toInt = 1 ∨ p.toInt = 2 ∨ p.toInt = 3 ∨ p.toInt = 4 := by omega
    rcases h1 with h | h | h | h | h
    · exact Or.inl (Int32.toInt_inj.mp h)
    · exact Or.inr (Or.inl (Int32.toInt_inj.mp h))
    · exact Or.inr (Or.inr (Or.inl (Int32.toInt_inj.mp h)))
    · exact Or.inr (Or.inr (Or.inr (Or.inl (Int32.toInt_inj.mp h))))
    · exact Or.inr (Or.inr (Or.inr (Or.inr (Int32.toInt_inj.mp h))))
  · rintro (h | h | h | h | h) <;> subst h <;> decide
/-- what at answers -/
noncomputable def av (D : BD) (R : List Nat) (σ : SX) (nl pl x : Nat) (p : Int32) : Int32 := if p = 0 then nI (x / 25) else if p = 1 then nI (x % 25) - 1 else if p = 2 then cI D x else if p = 3 then nI (alk D x R) else lo (en (cI D) (sX_heads σ) (sX_sizes σ) R) pl nl 0
theorem X_at {D : BD} {nl : Nat} {σ : SX} {μ : SM} {R : List Nat} (h : RR D nl σ μ) (hv : vX D R σ) {p1 p2 : Int32} {Q : Int32 → SX → Prop} {QX : String → SX → Prop} (h1 : no_n p1 R.length → QX "java/lang/IndexOutOfBoundsException" σ) (h2 : ∀ pl x, R[pl]? = some x → p1 = nI pl → ¬ wn p2.toInt64 0 4 → QX "java/lang/IllegalArgumentException" σ) (h3 : ∀ pl x, R[pl]? = some x → p1 = nI pl → p2 = 4 → sX_shared σ = 0 → QX "java/lang/IllegalStateException" σ) (h0 : ∀ pl x, R[pl]? = some x → p1 = nI pl → wn p2.toInt64 0 4 → (p2 = 4 → sX_shared σ = 1) → Q (av D R σ nl pl x p2) σ) : wp_X_at σ p1 p2 Q QX := by
  have hd := h.1.1
  obtain ⟨v1, v2, v3, v4⟩ := id hv
  obtain ⟨l1, l2, l3, l4, l5, l6⟩ := h.2.2.2.1
  unfold wp_X_at
  rw [v3]
  refine ⟨fun c => h1 (Or.inl c), fun c => ⟨fun c2 => ?_, fun c2 => h1 (Or.inr c2)⟩⟩
  rcases in_n (x := p1) (n := R.length) (by omega) with ⟨pl, hpl, e⟩ | z | z
  · obtain ⟨x, hx, _⟩ := dr hpl
    obtain ⟨o1, o2, o3, o4, o5⟩ := v4 pl x hx
    have hxp := (v1.2 x).mp (List.mem_of_getElem? hx)
    refine ⟨pk_in pl 960 (by omega) e, fun x4 e4 => ?_⟩
    rw [pk_cl pl e, o1] at e4
    have q := h0 pl x hx e
    refine ⟨fun a0 => ?_, fun a0 => ⟨fun a1 => ?_, fun a1 => ⟨fun a2 => ?_, fun a2 => ⟨fun a3 => ?_, fun a3 => ⟨fun a4 => ?_, fun a4 => ?_⟩⟩⟩⟩⟩
    · have q := q (w04.mpr (Or.inl a0)) (fun z => absurd (a0.symm.trans z) (by decide))
      rw [av, if_pos a0] at q
      unfold wp_X_blockOf
      rw [e4, nI_div25 o2]
      exact q
    · have q := q (w04.mpr (Or.inr (Or.inl a1))) (fun z => absurd (a1.symm.trans z) (by decide))
      rw [av, if_neg a0, if_pos a1] at q
      unfold wp_X_passesUpTo
      rw [e4, show nI x - nI x / 25 * 25 = nI (x % 25) from pk_rem (d := 25) (by omega) (by omega) (by omega)]
      exact q
    · have q := q (w04.mpr (Or.inr (Or.inr (Or.inl a2)))) (fun z => absurd (a2.symm.trans z) (by decide))
      rw [av, if_neg a0, if_neg a1, if_pos a2] at q
      rw [e4, nI_clamp (n := x) (by omega), o4]
      exact ⟨pk_in x 1000 o2, q⟩
    · have q := q (w04.mpr (Or.inr (Or.inr (Or.inr (Or.inl a3))))) (fun z => absurd (a3.symm.trans z) (by decide))
      rw [av, if_neg a0, if_neg a1, if_neg a2, if_pos a3] at q
      rw [e4]
      unfold wp_X_countSameSlope
      refine ⟨R.length + 1, xk_lp hd h.2.1 hv hxp (R.length + 1) 0 0 (by omega) (by omega) ?_⟩
      rw [Nat.zero_add, List.drop_zero]
      exact q
    · refine ns_wp h (fun sh => ?_) (fun sh => h3 pl x hx e a4 sh)
      have q := q (w04.mpr (Or.inr (Or.inr (Or.inr (Or.inr a4))))) (fun _ => sh)
      rw [av, if_neg a0, if_neg a1, if_neg a2, if_neg a3] at q
      obtain ⟨_, _, R', z4, _, _, z5⟩ := sh_of h sh
      have := d_row_uq z4 v1
      subst this
      rw [e]
      unfold wp_X_layerOf
      exact ⟨nl + 1, xo_lp l2 l3 l4 (fun k hk => ⟨(z5 k hk).1, Nat.le_trans (en_le _ _ _ _ _) v2⟩) (by omega) (nl + 1) 0 (by omega) (by omega) q⟩
    · refine h2 pl x hx e (fun z => ?_)
      rcases w04.mp z with z | z | z | z | z
      · exact a0 z
      · exact a1 z
      · exact a2 z
      · exact a3 z
      · exact a4 z
  · exact absurd z c
  · exact absurd c2 z
theorem M_at {D : BD} {nl : Nat} {σ : SX} {μ : SM} {R : List Nat} (h : RR D nl σ μ) (hv : vX D R σ) {p1 p2 : Int32} {Q : Int32 → SM → Prop} (h1 : no_n p1 R.length → ∀ μ2, RR D nl σ μ2 → sM_thr μ2 = 1 → Q 0 μ2) (h2 : ∀ pl x, R[pl]? = some x → p1 = nI pl → ¬ wn p2.toInt64 0 4 → ∀ μ2, RR D nl σ μ2 → sM_thr μ2 = 2 → Q 0 μ2) (h3 : ∀ pl x, R[pl]? = some x → p1 = nI pl → p2 = 4 → sX_shared σ = 0 → ∀ μ2, RR D nl σ μ2 → sM_thr μ2 = 3 → Q 0 μ2) (h0 : ∀ pl x, R[pl]? = some x → p1 = nI pl → wn p2.toInt64 0 4 → (p2 = 4 → sX_shared σ = 1) → ∀ μ2, RR D nl σ μ2 → sM_thr μ2 = 0 → Q (av D R σ nl pl x p2) μ2) : wp_M_at μ p1 p2 Q := by
  have hd := h.1.1
  obtain ⟨v1, v2, v3, v4⟩ := id hv
  unfold wp_M_at
  intro μ1 e1
  have t1 : sM_thr μ1 = 0 := by rw [e1, rM_thr_thr]
  have hr1 : RR D nl σ μ1 := by rw [e1]; exact RR_thr h 0
  refine ly_wp hr1 (fun μ2 hr2 hl2 t2 => ?_)
  rw [t1] at t2
  have hvm := vM_of hd v1 hl2
  obtain ⟨l1, l2, l3, l4, l5, l6⟩ := hr2.2.2.2.1
  have done : ∀ (s0 : Int32) (ν : SM), ¬ sM_thr ν ≤ 0 → Q 0 ν → wj_M_at_73 Q p1 p2 s0 ν := by
    intro s0 ν hν q
    unfold wj_M_at_73
    exact fa_2 hν ⟨fun c => absurd c (by decide), fun _ => q⟩
  have bad : no_n p1 R.length → wj_M_at_22 Q p1 p2 μ2 := by
    intro c
    have q := h1 c _ (RR_thr hr2 1) (by rw [rM_thr_thr])
    have hν : ¬ sM_thr (uM_thr μ2 1) ≤ 0 := by rw [rM_thr_thr]; decide
    have k50 : ∀ s0 : Int32, wj_M_at_50 Q p1 p2 s0 (uM_thr μ2 1) := by
      intro s0
      unfold wj_M_at_50
      refine fa_2 hν ⟨fun _ => ?_, fun _ => ⟨fun _ => ?_, fun _ => ?_⟩⟩
      · unfold wj_M_at_72; exact done 0 _ hν q
      · unfold wj_M_at_72; exact done 0 _ hν q
      · exact done 1 _ hν q
    unfold wj_M_at_22 wj_M_at_27
    refine fa_1 t2 rfl (by decide) ?_
    exact wi_wp (fun _ => ⟨fun _ => k50 0, fun _ => k50 1⟩) (fun _ => ⟨fun _ => k50 0, fun _ => k50 1⟩)
  rw [hvm.2.1]
  refine ⟨fun c => bad (Or.inl c), fun c => ⟨fun c2 => ?_, fun c2 => bad (Or.inr c2)⟩⟩
  rcases in_n (x := p1) (n := R.length) (by omega) with ⟨pl, hpl, e⟩ | z | z
  · obtain ⟨x, hx, _⟩ := dr hpl
    obtain ⟨o1, o2, o3, o4, o5⟩ := hvm.2.2 pl x hx
    have hx1000 := (v4 pl x hx).2.1
    have hxp := (v1.2 x).mp (List.mem_of_getElem? hx)
    unfold wj_M_at_27
    refine fa_0 t2 rfl (wi_wp (fun hw => ⟨fun _ => ?_, fun c => absurd c (by decide)⟩) (fun hw => ⟨fun c => absurd rfl c, fun _ => ?_⟩))
    · unfold wj_M_at_50
      have good : (p2 = 4 → sX_shared σ = 1) → wj_M_at_72 Q p1 p2 μ2 := by
        intro hs
        have q := h0 pl x hx e hw hs μ2 hr2 t2
        unfold wj_M_at_72 wj_M_at_73
        refine fa_0 t2 rfl ⟨fun _ => ⟨pk_in pl 960 (by omega) e, fun x16 e16 => ?_⟩, fun c => absurd rfl c⟩
        rw [pk_cl pl e, o1] at e16
        refine ⟨fun a0 => ⟨fun a1 => ⟨fun a2 => ⟨fun a3 => ?_, fun a3 => ?_⟩, fun a2 => ?_⟩, fun a1 => ?_⟩, fun a0 => ?_⟩
        · rw [av, if_neg a0, if_neg a1, if_neg a2, if_neg a3] at q
          have a4 : p2 = 4 := by
            rcases w04.mp hw with z | z | z | z | z
            · exact absurd z a0
            · exact absurd z a1
            · exact absurd z a2
            · exact absurd z a3
            · exact z
          obtain ⟨_, _, R', z4, _, _, z5⟩ := sh_of hr2 (hs a4)
          have := d_row_uq z4 v1
          subst this
          rw [e]
          unfold wp_M_layerOf
          exact ⟨nl + 1, mo_lp l2 l5 (fun k hk => ⟨(z5 k hk).2.1, Nat.le_trans (en_le _ _ _ _ _) v2⟩) (by omega) (nl + 1) 0 (by omega) (by omega) q⟩
        · rw [av, if_neg a0, if_neg a1, if_neg a2, if_pos a3] at q
          rw [e]
          unfold wp_M_alike
          refine ⟨R.length + 1, mk_lp hd v1 hvm hx (R.length + 1) 0 0 (by omega) (by omega) ?_⟩
          rw [Nat.zero_add, List.drop_zero]
          exact q
        · rw [av, if_neg a0, if_neg a1, if_pos a2] at q
          rw [e16, nI_clamp (n := mi x) (by omega), o4]
          exact ⟨pk_in (mi x) 960 o2, q⟩
        · rw [av, if_neg a0, if_pos a1] at q
          rw [e16, show nI (mi x) - nI (mi x) / 24 * 24 = nI (mi x % 24) from pk_rem (d := 24) (by omega) (by omega) (by omega)]
          have : nI (mi x % 24) = nI (x % 25) - 1 := by
            rw [show x % 25 = mi x % 24 + 1 by unfold mi; omega, nI_pred]
          rw [this]
          exact q
        · rw [av, if_pos a0] at q
          rw [e16, show nI (mi x) / 24 = nI (mi x / 24) from pk_div (d := 24) (by omega) (by omega) (by omega), show mi x / 24 = x / 25 by unfold mi; omega]
          exact q
      obtain ⟨s1, s2⟩ := sh_eq hr2
      refine fa_0 t2 rfl ⟨fun c4 => good (fun z => absurd z c4), fun c4 => ⟨fun cs => good (fun _ => by rw [s1]; exact s2.resolve_left cs), fun cs => ?_⟩⟩
      unfold wj_M_at_73
      refine fa_1 t2 rfl (by decide) ⟨fun c => absurd c (by decide), fun _ => ?_⟩
      exact h3 pl x hx e c4 (by rw [s1]; exact cs) _ (RR_thr hr2 3) (by rw [rM_thr_thr])
    · have q := h2 pl x hx e hw _ (RR_thr hr2 2) (by rw [rM_thr_thr])
      have hν : ¬ sM_thr (uM_thr μ2 2) ≤ 0 := by rw [rM_thr_thr]; decide
      unfold wj_M_at_50
      refine fa_1 t2 rfl (by decide) ⟨fun _ => ?_, fun _ => ⟨fun _ => ?_, fun _ => ?_⟩⟩
      · unfold wj_M_at_72; exact done 0 _ hν q
      · unfold wj_M_at_72; exact done 0 _ hν q
      · exact done 1 _ hν q
  · exact absurd z c
  · exact absurd c2 z
theorem lc_10 {L : Nat} {xs : Nat → Int32} {k : Nat → Int32 → SX → SM → (Nat → Int64) → Prop} {j : Nat} {i : Int32} {D : BD} {nl : Nat} {σ : SX} {μ : SM} {f : Nat → Int64} (v1 : vp_in (i + 1) L) (v2 : vp_in (i + 2) L) (h : RR D nl σ μ) (hK : ∀ D' σ' μ' f', RR D' nl σ' μ' → k (j + 1) (i + 4) σ' μ' f') : wc_law_10 L xs k j i σ μ f := by
  obtain ⟨R, hv⟩ := vX_of h.1.1 h.2.1
  have h960 := hv.2.1
  have lt : ∀ {pl x : Nat}, R[pl]? = some x → pl < R.length := fun hx => (List.getElem?_eq_some_iff.mp hx).1
  have no4 : ∀ {p : Int32}, p = 4 → wn p.toInt64 0 4 := fun e => w04.mpr (Or.inr (Or.inr (Or.inr (Or.inr e))))
  have ne : ∀ {q : Prop}, sX_shared σ = 1 → sX_shared σ = 0 → q := fun a b => absurd (a.symm.trans b) (by decide)
  unfold wc_law_10 wp_L_at
  refine ⟨v1, v2, X_at h hv (fun c => Or.inl ⟨rfl, v1, v2, M_at h hv (fun _ μ2 hr2 t2 => tlx (by decide) t2 (hK D _ _ _ hr2)) (fun pl x hx e _ => (no_in c (by omega) (lt hx) e).elim) (fun pl x hx e _ => (no_in c (by omega) (lt hx) e).elim) (fun pl x hx e _ => (no_in c (by omega) (lt hx) e).elim)⟩) (fun pl x hx e hw => Or.inr (Or.inl ⟨rfl, v1, v2, M_at h hv (fun c => (no_in c (by omega) (lt hx) e).elim) (fun _ _ _ _ _ μ2 hr2 t2 => tlx (by decide) t2 (hK D _ _ _ hr2)) (fun _ _ _ _ z => absurd (no4 z) hw) (fun _ _ _ _ z => absurd z hw)⟩)) (fun pl x hx e e4 sh => Or.inr (Or.inr ⟨rfl, v1, v2, M_at h hv (fun c => (no_in c (by omega) (lt hx) e).elim) (fun _ _ _ _ z => absurd (no4 e4) z) (fun _ _ _ _ _ _ μ2 hr2 t2 => tlx (by decide) t2 (hK D _ _ _ hr2)) (fun _ _ _ _ _ z => ne (z e4) sh)⟩)) (fun pl x hx e hw hs f3 e3 => ?_)⟩
  subst e3
  refine ⟨v1, v2, M_at h hv (fun c => (no_in c (by omega) (lt hx) e).elim) (fun _ _ _ _ z => absurd hw z) (fun _ _ _ _ z4 z0 => ne (hs z4) z0) (fun pl' x' hx' e' _ _ μ2 hr2 t2 => ?_)⟩
  have l1 := lt hx
  have l2 := lt hx'
  have t := (nI_eq (by omega) (by omega)).mp (e'.symm.trans e)
  subst t
  rw [hx] at hx'
  cases hx'
  exact tl0 t2 rfl (hK D _ _ _ hr2)
