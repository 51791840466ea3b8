/-! passes, gained -/
/-- the last pass of block b in a list, by v where none is -/
def la (b : Nat) : List Nat → Nat → Nat
  | [], v => v
  | x :: r, v => if x / 25 = b then la b r (x % 25) else la b r v
theorem la_app (b : Nat) : ∀ (A B : List Nat) (v : Nat), la b (A ++ B) v = la b B (la b A v) := by
  intro A
  induction A with
  | nil => intro B v; rfl
  | cons x A ih => intro B v; rw [List.cons_append, la, la]; split <;> exact ih _ _
theorem la_snoc (b : Nat) (A : List Nat) (x v : Nat) : la b (A ++ [x]) v = if x / 25 = b then x % 25 else la b A v := by
  rw [la_app, la, la, la]
theorem la_mem (b : Nat) : ∀ (A : List Nat) (v : Nat), la b A v = v ∨ ∃ y, y ∈ A ∧ y / 25 = b ∧ la b A v = y % 25 := by
  intro A
  induction A with
  | nil => intro v; exact Or.inl rfl
  | cons x A ih =>
    intro v
    rw [la]
    by_cases c : x / 25 = b
    · rw [if_pos c]
      rcases ih (x % 25) with h | ⟨y, h1, h2, h3⟩
      · exact Or.inr ⟨x, List.mem_cons_self, c, h⟩
      · exact Or.inr ⟨y, List.mem_cons_of_mem _ h1, h2, h3⟩
    · rw [if_neg c]
      rcases ih v with h | ⟨y, h1, h2, h3⟩
      · exact Or.inl h
      · exact Or.inr ⟨y, List.mem_cons_of_mem _ h1, h2, h3⟩
theorem tk {R : List Nat} {i x : Nat} (hx : R[i]? = some x) : R.take (i + 1) = R.take i ++ [x] := by
  rw [List.take_succ, hx]; rfl
theorem sp {R : List Nat} {i x : Nat} (hx : R[i]? = some x) : R = R.take i ++ x :: R.drop (i + 1) := by
  obtain ⟨y, hy, ed⟩ := dr (List.getElem?_eq_some_iff.mp hx).1
  rw [hx] at hy
  cases hy
  rw [← ed, List.take_append_drop]
theorem bf_blk {D : BD} (hd : d_ok D) {x y : Nat} (hx : d_hp D x) (hy : d_hp D y) (e : x / 25 = y / 25) (h : x % 25 < y % 25) : d_bf D x y := by
  have := d_fall hd hx.1 (y % 25) (x % 25) hx.2.1 h hx.2 (by rw [e]; exact hy.2)
  rw [show 25 * (x / 25) + x % 25 = x by omega, e, show 25 * (y / 25) + y % 25 = y by omega] at this
  exact Or.inl this
theorem bf_lt {D : BD} (hd : d_ok D) {x y : Nat} (hx : d_hp D x) (hy : d_hp D y) (e : x / 25 = y / 25) (h : d_bf D x y) : x % 25 < y % 25 := by
  rcases Nat.lt_trichotomy (x % 25) (y % 25) with z | z | z
  · exact z
  · have : x = y := by omega
    subst this
    exact absurd h (d_bf_as h)
  · exact absurd h (d_bf_as (bf_blk hd hy hx e.symm z))
theorem pw_at {D : BD} {R : List Nat} (hR : d_row D R) {i x : Nat} (hx : R[i]? = some x) : (∀ y ∈ R.take i, d_bf D y x ∧ d_hp D y) ∧ (∀ y ∈ R.drop (i + 1), d_bf D x y) ∧ d_hp D x := by
  have hp := hR.1
  rw [sp hx, List.pairwise_append] at hp
  refine ⟨fun y hy => ⟨hp.2.2 y hy x List.mem_cons_self, (hR.2 y).mp (List.mem_of_mem_take hy)⟩, fun y hy => ?_, (hR.2 x).mp (List.mem_of_getElem? hx)⟩
  exact (List.pairwise_cons.mp hp.2.1).1 y hy
theorem la_lt {D : BD} (hd : d_ok D) {R : List Nat} (hR : d_row D R) {i x : Nat} (hx : R[i]? = some x) : la (x / 25) (R.take i) 0 < x % 25 := by
  obtain ⟨h1, h2, h3⟩ := pw_at hR hx
  rcases la_mem (x / 25) (R.take i) 0 with h | ⟨y, y1, y2, y3⟩
  · rw [h]; exact h3.2.1
  · rw [y3]; exact bf_lt hd (h1 y y1).2 h3 y2 (h1 y y1).1
theorem la_ge {D : BD} (hd : d_ok D) {R : List Nat} (hR : d_row D R) {b : Nat} : ∀ i, i ≤ R.length → ∀ y ∈ R.take i, y / 25 = b → y % 25 ≤ la b (R.take i) 0 := by
  intro i
  induction i with
  | zero => intro _ y hy; rw [List.take_zero] at hy; exact absurd hy List.not_mem_nil
  | succ i ih =>
    intro hi y hy hb
    obtain ⟨x, hx, _⟩ := dr (R := R) (m := i) (by omega)
    rw [tk hx] at hy ⊢
    rw [la_snoc]
    rcases List.mem_append.mp hy with hy | hy
    · have k := ih (by omega) y hy hb
      by_cases c : x / 25 = b
      · rw [if_pos c]
        have := la_lt hd hR hx
        rw [c] at this
        omega
      · rw [if_neg c]; exact k
    · rw [List.mem_singleton] at hy
      subst hy
      rw [if_pos hb]
      exact Nat.le_refl _
theorem la_on {D : BD} {R : List Nat} (hR : d_row D R) {b i : Nat} : la b (R.take i) 0 = 0 ∨ d_on D b (la b (R.take i) 0) := by
  rcases la_mem b (R.take i) 0 with h | ⟨y, y1, y2, y3⟩
  · exact Or.inl h
  · right
    rw [y3, ← y2]
    exact ((hR.2 y).mp (List.mem_of_mem_take y1)).2
theorem la_le {D : BD} {R : List Nat} (hR : d_row D R) {b i : Nat} : la b (R.take i) 0 ≤ d_cn D b := by
  rcases la_on hR (b := b) (i := i) with h | h
  · rw [h]; exact Nat.zero_le _
  · exact h.2.1
theorem la_24 {D : BD} {R : List Nat} (hd : d_ok D) (hR : d_row D R) {b i : Nat} (hb : b < d_nb D) : la b (R.take i) 0 ≤ 24 := Nat.le_trans (la_le hR) (hd.2 b hb).1
/-- what stands before x of its block is the pass before on the hull -/
theorem la_pv {D : BD} (hd : d_ok D) {R : List Nat} (hR : d_row D R) {i x : Nat} (hx : R[i]? = some x) : d_pv D (x / 25) (x % 25) = la (x / 25) (R.take i) 0 := by
  obtain ⟨h1, h2, h3⟩ := pw_at hR hx
  have hi := (List.getElem?_eq_some_iff.mp hx).1
  refine pv_is (la_on hR) (la_lt hd hR hx) (fun j j1 j2 hj => ?_)
  have h24 := (hd.2 _ h3.1).1
  have hjc := hj.2.1
  have e1 : (25 * (x / 25) + j) / 25 = x / 25 := by omega
  have e2 : (25 * (x / 25) + j) % 25 = j := by omega
  have hp : d_hp D (25 * (x / 25) + j) := by unfold d_hp; rw [e1, e2]; exact ⟨h3.1, hj⟩
  have hb := bf_blk hd hp h3 e1 (by omega)
  have hm := (hR.2 _).mpr hp
  rw [sp hx] at hm
  rcases List.mem_append.mp hm with m | m
  · have := la_ge hd hR i (by omega) _ m e1
    omega
  · rcases List.mem_cons.mp m with m | m
    · omega
    · exact d_bf_as hb (h2 _ m)
theorem xp_lp {D : BD} {R : List Nat} {σ : SX} (hv : vX D R σ) {b : Nat} (hb : b < 40) {Q : Int32 → SX → Prop} {QX : String → SX → Prop} : ∀ (m t : Nat), t ≤ R.length → t < m → Q (nI (la b (R.take t) 0)) σ → wl_X_passes_23 (nI b) Q QX m (nI t - 1) σ := by
  obtain ⟨v1, v2, v3, v4⟩ := hv
  intro m
  induction m with
  | zero => intro t _ h; omega
  | succ m ih =>
    intro t ht hm hQ
    rw [wl_X_passes_23]
    cases t with
    | zero =>
      refine ⟨fun _ => ?_, fun c => absurd nI_neg1 c⟩
      exact hQ
    | succ t =>
      rw [nI_pred]
      obtain ⟨x, hx, _⟩ := dr (R := R) (m := t) (by omega)
      obtain ⟨o1, o2, o3, o4, o5⟩ := v4 t x hx
      have hin : vp_in (nI t) 960 := pk_in t 960 (by omega)
      refine ⟨fun c => absurd c (nI_pos (by omega)), fun _ => ⟨hin, ?_⟩⟩
      rw [nI_clamp (n := t) (by omega)]
      unfold wp_X_blockOf wp_X_passesUpTo
      rw [o1, nI_div25 o2, i_addneg]
      rw [tk hx, la_snoc] at hQ
      refine And.symm (pk_eq (x / 25) b (fun c => ⟨hin, ?_⟩) (fun c => ?_) rfl rfl)
      · rw [if_pos c] at hQ
        show Q (sX_order σ t - sX_order σ t / 25 * 25) σ
        rw [o1, show nI x - nI x / 25 * 25 = nI (x % 25) from pk_rem (d := 25) (by omega) (by omega) (by omega)]
        exact hQ
      · rw [if_neg c] at hQ
        exact ih t (by omega) (by omega) hQ
theorem ml9_lp {D : BD} {R : List Nat} {μ : SM} (hd : d_ok D) (hR : d_row D R) (hv : vM D R μ) {k tg : Nat} (hk : k < 16) (hg : sM_given μ (k + 1) = nI tg) (ht : tg ≤ R.length) {b : Nat} (hb : b < d_nb D) {Q : Int32 → SM → Prop} (hQ : Q (nI (la b (R.take tg) 0) - 1) μ) : ∀ (m i : Nat), i ≤ tg → tg - i < m → wl_M_last_5 (nI k) (nI b) Q m (nI (la b (R.take i) 0) - 1) (nI i) μ := by
  obtain ⟨v2, v3, v4⟩ := hv
  have h40 := hd.1
  intro m
  induction m with
  | zero => intro i _ h; omega
  | succ m ih =>
    intro i hi hm
    rw [wl_M_last_5, nI_1, nI_clamp (n := k + 1) (by omega)]
    refine ⟨pk_in (k + 1) 17 (by omega), pk_le tg i (fun c => ?_) (fun c => ?_) hg rfl⟩
    · have : i = tg := by omega
      subst this
      exact hQ
    · obtain ⟨x, hx, _⟩ := dr (R := R) (m := i) (by omega)
      obtain ⟨o1, o2, o3, o4, o5⟩ := v4 i x hx
      have hxp := (hR.2 x).mp (List.mem_of_getElem? hx)
      have hx1 := (x_pt_lt hd hxp).1
      have hin : vp_in (nI i) 960 := pk_in i 960 (by omega)
      have ed : nI (mi x) / 24 = nI (x / 25) := by
        rw [show nI (mi x) / 24 = nI (mi x / 24) from pk_div (d := 24) (by omega) (by omega) (by omega), show mi x / 24 = x / 25 by unfold mi; omega]
      have er : nI (mi x) - nI (mi x) / 24 * 24 = nI (x % 25) - 1 := by
        rw [show nI (mi x) - nI (mi x) / 24 * 24 = nI (mi x % 24) from pk_rem (d := 24) (by omega) (by omega) (by omega), show x % 25 = mi x % 24 + 1 by unfold mi; omega, nI_pred]
      have tkx := tk hx
      have hs := la_snoc b (R.take i) x 0
      rw [← tkx] at hs
      rw [nI_clamp (n := i) (by omega), o1, er, ed, nI_1]
      refine ⟨hin, And.symm (pk_eq (x / 25) b (fun c => ⟨hin, ?_⟩) (fun c => ?_) rfl rfl)⟩
      · rw [if_pos c] at hs
        have hl := la_lt hd hR hx
        rw [c] at hl
        refine ⟨fun c2 => ?_, fun _ => ⟨hin, fun x8 e8 => ?_⟩⟩
        · exfalso
          have := Int32.le_iff_toInt_le.mp c2
          rw [nu_sub (by rw [nI_toInt (by omega)]; show _ ≤ _ - (1 : Int); omega) (by rw [nI_toInt (by omega)]; show _ - (1 : Int) < _; omega), nu_sub (by rw [nI_toInt (by omega)]; show _ ≤ _ - (1 : Int); omega) (by rw [nI_toInt (by omega)]; show _ - (1 : Int) < _; omega), nI_toInt (by omega), nI_toInt (by omega)] at this
          omega
        · rw [e8, ← hs]
          exact ih (i + 1) (by omega) (by omega)
      · rw [if_neg c] at hs
        rw [← hs]
        exact ih (i + 1) (by omega) (by omega)
theorem M_last {D : BD} {R : List Nat} {μ : SM} (hd : d_ok D) (hR : d_row D R) (hv : vM D R μ) {k tg : Nat} (hk : k < 16) (hg : sM_given μ (k + 1) = nI tg) (ht : tg ≤ R.length) {b : Nat} (hb : b < d_nb D) {Q : Int32 → SM → Prop} (hQ : Q (nI (la b (R.take tg) 0) - 1) μ) : wp_M_last μ (nI k) (nI b) Q := by
  unfold wp_M_last
  exact ⟨tg + 1, ml9_lp hd hR hv hk hg ht hb hQ (tg + 1) 0 (by omega) (by omega)⟩
theorem M_passes {D : BD} {nl : Nat} {σ : SX} {μ : SM} (h : RR D nl σ μ) {p1 p2 : Int32} {Q : Int32 → SM → Prop} (h1 : sX_shared σ = 0 → Q 0 (uM_thr μ 1)) (h2 : sX_shared σ = 1 → (no_n p1 nl ∨ no_n p2 (d_nb D)) → Q 0 (uM_thr μ 2)) (h0 : ∀ (k b : Nat) (R : List Nat), vX D R σ → sX_shared σ = 1 → k < nl → p1 = nI k → b < d_nb D → p2 = nI b → Q (nI (la b (R.take (en (cI D) (sX_heads σ) (sX_sizes σ) R (k + 1))) 0)) (uM_thr μ 0)) : wp_M_passes μ p1 p2 Q := by
  have hd := h.1.1
  have h40 := hd.1
  unfold wp_M_passes
  intro μ1 e1
  have t1 : sM_thr μ1 = 0 := by rw [e1, rM_thr_thr]
  have hr1 : RR D nl σ μ1 := by rw [e1]; exact RR_thr h 0
  obtain ⟨l1, l2, l3, l4, l5, l6⟩ := hr1.2.2.2.1
  obtain ⟨s1, s2⟩ := sh_eq hr1
  refine ⟨fun c => ?_, fun c => ?_⟩
  · have sh1 : sX_shared σ = 1 := by rw [s1]; exact s2.resolve_left c
    obtain ⟨_, _, R, z4, hv, hvm, z5⟩ := sh_of hr1 sh1
    have bad : (no_n p1 nl ∨ no_n p2 (d_nb D)) → wp_M_fails μ1 1 2 (fun (r10 : Int32) (μ9 : SM) => (r10 = 0 → wp_M_last μ9 p1 p2 (fun (r13 : Int32) (μ12 : SM) => Q (r13 + 1) μ12)) ∧ (¬ r10 = 0 → Q 0 μ9)) := by
      intro z
      refine fa_1 t1 rfl (by decide) ⟨fun c' => absurd c' (by decide), fun _ => ?_⟩
      rw [e1, oM_thr]
      exact h2 sh1 z
    unfold wj_M_passes_18
    refine fa_0 t1 rfl ⟨fun c => absurd rfl c, fun _ => ila_wp (by omega) l5 (fun k hk e => ⟨fun c => absurd c (by decide), fun _ => ibl_wp (by omega) hr1.2.2.1.1 (fun b hb e2 => ⟨fun _ => ?_, fun c => absurd c (by decide)⟩) (fun c => ⟨fun c' => absurd rfl c', fun _ => bad (Or.inr c)⟩)⟩) (fun c => ⟨fun _ => bad (Or.inl c), fun c' => absurd rfl c'⟩)⟩
    have q := h0 k b R hv sh1 hk e hb e2
    rw [← e1] at q
    refine fa_0 t1 rfl ⟨fun _ => ?_, fun c => absurd rfl c⟩
    rw [e, e2]
    refine M_last hd z4 hvm (by omega) (z5 k hk).2.1 (en_le _ _ _ _ _) hb ?_
    show Q (nI _ - 1 + 1) μ1
    rw [Int32.sub_add_cancel]
    exact q
  · unfold wj_M_passes_18
    refine fa_1 t1 rfl (by decide) ⟨fun _ => ?_, fun c' => absurd c' (by decide)⟩
    rw [e1, oM_thr]
    exact h1 (by rw [s1]; exact c)
theorem vX_uq {D : BD} {R R' : List Nat} {σ : SX} (h1 : vX D R σ) (h2 : vX D R' σ) : R = R' := d_row_uq h1.1 h2.1
theorem lc_11 {L : Nat} {xs : Nat → Int32} {k : Nat → Int32 → SX → SM → (Nat → Int64) → Prop} {j : Nat} {i : Int32} {D : BD} {nl : Nat} {σ : SX} {μ : SM} {f : Nat → Int64} (v1 : vp_in (i + 1) L) (v2 : vp_in (i + 2) L) (h : RR D nl σ μ) (hK : ∀ D' σ' μ' f', RR D' nl σ' μ' → k (j + 1) (i + 4) σ' μ' f') : wc_law_11 L xs k j i σ μ f := by
  have hd := h.1.1
  have h40 := hd.1
  obtain ⟨l1, l2, l3, l4, l5, l6⟩ := h.2.2.2.1
  have ne : ∀ {q : Prop}, sX_shared σ = 1 → sX_shared σ = 0 → q := fun a b => absurd (a.symm.trans b) (by decide)
  unfold wc_law_11 wp_L_passes wp_X_passes
  refine ⟨v1, v2, ns_wp h (fun sh => nl_wp (by omega) l4 (fun a ha e => nb_wp (by omega) h.1.2.1 (fun b hb e2 => ⟨pk_in a _ (by rw [l3]; exact ha) e (by rw [l3]; omega), fun x5 e5 => ?_⟩) (fun c => Or.inr ⟨rfl, v1, v2, M_passes h (fun z => ne sh z) (fun _ _ => tlx (by decide) (by rw [rM_thr_thr]) (hK D _ _ _ (RR_thr h 2))) (fun _ _ _ _ _ _ _ hb e => (no_in c (by omega) hb e).elim)⟩)) (fun c => Or.inr ⟨rfl, v1, v2, M_passes h (fun z => ne sh z) (fun _ _ => tlx (by decide) (by rw [rM_thr_thr]) (hK D _ _ _ (RR_thr h 2))) (fun _ _ _ _ _ ha e _ _ => (no_in c (by omega) ha e).elim)⟩)) (fun sh => Or.inl ⟨rfl, v1, v2, M_passes h (fun _ => tlx (by decide) (by rw [rM_thr_thr]) (hK D _ _ _ (RR_thr h 1))) (fun z => ne z sh) (fun _ _ _ _ z => ne z sh)⟩)⟩
  obtain ⟨_, _, R, z4, hv, hvm, z5⟩ := sh_of h sh
  rw [pk_cl a e, (z5 a ha).1] at e5
  rw [e5, e2]
  refine ⟨R.length + 1, xp_lp hv (by omega) (R.length + 1) _ (en_le _ _ _ _ _) (by have := en_le (cI D) (sX_heads σ) (sX_sizes σ) R (a + 1); omega) (fun f3 e3 => ?_)⟩
  subst e3
  rw [← e2]
  refine ⟨v1, v2, M_passes h (fun z => ne sh z) (fun _ z => (z.elim (fun c => no_in c (by omega) ha e) (fun c => no_in c (by omega) hb e2)).elim) (fun a' b' R' hv' _ ha' e' hb' e2' => ?_)⟩
  have t := vX_uq hv' hv
  subst t
  have t := (nI_eq (by omega) (by omega)).mp (e'.symm.trans e)
  subst t
  have t := (nI_eq (by omega) (by omega)).mp (e2'.symm.trans e2)
  subst t
  exact tl0 (by rw [rM_thr_thr]) rfl (hK D _ _ _ (RR_thr h 0))
/-- gained -/
noncomputable def sr (D : BD) : List Nat → Int
  | [] => 0
  | x :: r => d_rise D x + sr D r
theorem sr_app (D : BD) : ∀ (A B : List Nat), sr D (A ++ B) = sr D A + sr D B := by
  intro A
  induction A with
  | nil => intro B; rw [List.nil_append, sr, Int.zero_add]
  | cons x A ih => intro B; rw [List.cons_append, sr, sr, ih, Int.add_assoc]
theorem sr_snoc (D : BD) (A : List Nat) (x : Nat) : sr D (A ++ [x]) = sr D A + d_rise D x := by
  rw [sr_app, sr, sr, Int.add_zero]
def sg (D : BD) (T : List Nat) : Nat → Int
  | 0 => 0
  | n + 1 => sg D T n + d_G D n (la n T 0) * d_sc D n
theorem sg_same {D : BD} {T : List Nat} {x : Nat} : ∀ n, n ≤ x / 25 → sg D (T ++ [x]) n = sg D T n := by
  intro n
  induction n with
  | zero => intro _; rfl
  | succ n ih => intro hn; rw [sg, sg, ih (by omega), la_snoc, if_neg (by omega)]
theorem sg_snoc {D : BD} {T : List Nat} {x : Nat} : ∀ n, x / 25 < n → sg D (T ++ [x]) n = sg D T n + (d_G D (x / 25) (x % 25) - d_G D (x / 25) (la (x / 25) T 0)) * d_sc D (x / 25) := by
  intro n
  induction n with
  | zero => intro h; omega
  | succ n ih =>
    intro hn
    rw [sg, sg, la_snoc]
    by_cases c : x / 25 = n
    · rw [if_pos c, sg_same n (by omega), c, Int.sub_mul]; omega
    · rw [if_neg c, ih (by omega)]; omega
theorem sr_sg {D : BD} (hd : d_ok D) {R : List Nat} (hR : d_row D R) : ∀ t, t ≤ R.length → sr D (R.take t) = sg D (R.take t) (d_nb D) := by
  intro t
  induction t with
  | zero =>
    intro _
    rw [List.take_zero, sr]
    have : ∀ n, n ≤ d_nb D → sg D [] n = 0 := by
      intro n
      induction n with
      | zero => intro _; rfl
      | succ n ih => intro hn; rw [sg, ih (by omega), la, (hd.2 n (by omega)).2.2.2.2.2.1, Int.zero_mul, Int.add_zero]
    exact (this _ (Nat.le_refl _)).symm
  | succ t ih =>
    intro ht
    obtain ⟨x, hx, _⟩ := dr (R := R) (m := t) (by omega)
    have hxp := (hR.2 x).mp (List.mem_of_getElem? hx)
    rw [tk hx, sr_snoc, sg_snoc _ hxp.1, ih (by omega), d_rise, la_pv hd hR hx]
theorem xg_lp {D : BD} {R : List Nat} {σ : SX} (hv : vX D R σ) {a tg : Nat} (ha : a < sX_nl σ) (hn : sX_nl σ ≤ 16) (hg : sX_ends σ a = nI tg) (ht : tg ≤ R.length) {Q : Int64 → SX → Prop} {QX : String → SX → Prop} (hQ : Q (Int64.ofInt (sr D (R.take tg))) σ) : ∀ (m i : Nat), i ≤ tg → tg - i < m → wl_X_gained_14 (nI a) Q QX m (Int64.ofInt (sr D (R.take i))) (nI i) σ := by
  obtain ⟨v1, v2, v3, v4⟩ := hv
  intro m
  induction m with
  | zero => intro i _ h; omega
  | succ m ih =>
    intro i hi hm
    rw [wl_X_gained_14, nI_clamp (n := a) (by omega)]
    refine ⟨pk_in a _ ha rfl (by omega), pk_le tg i (fun c => ?_) (fun c => ?_) hg rfl⟩
    · have : i = tg := by omega
      subst this
      exact hQ
    · obtain ⟨x, hx, _⟩ := dr (R := R) (m := i) (by omega)
      obtain ⟨o1, o2, o3, o4, o5⟩ := v4 i x hx
      rw [nI_clamp (n := i) (by omega), o1, nI_clamp (n := x) (by omega), o5]
      refine ⟨pk_in i 960 (by omega), pk_in x 1000 (by omega), fun x7 e7 => ?_⟩
      have : x7 = Int64.ofInt (sr D (R.take (i + 1))) := by
        rw [e7, tk hx, sr_snoc, Int64.ofInt_add]; rfl
      rw [this, nI_1]
      exact ih (i + 1) (by omega) (by omega)
theorem mg_lp {D : BD} {R : List Nat} {μ : SM} (hd : d_ok D) (hR : d_row D R) (hm : m_b D μ) (hv : vM D R μ) {k tg : Nat} (hk : k < 16) (hg : sM_given μ (k + 1) = nI tg) (ht : tg ≤ R.length) {Q : Int64 → SM → Prop} (hQ : Q (Int64.ofInt (sg D (R.take tg) (d_nb D))) μ) : ∀ (m b : Nat), b ≤ d_nb D → d_nb D - b < m → wl_M_gained_53 (nI k) Q m (Int64.ofInt (sg D (R.take tg) b)) (nI b) μ := by
  have h40 := hd.1
  intro m
  induction m with
  | zero => intro b _ h; omega
  | succ m ih =>
    intro b hb hm'
    rw [wl_M_gained_53]
    refine pk_le (d_nb D) b (fun c => ?_) (fun c => ?_) hm.1 rfl
    · have : b = d_nb D := by omega
      subst this
      exact hQ
    · refine M_last hd hR hv hk hg ht c (g_wp hd hm c (q := la b (R.take tg) 0) (la_le hR) rfl (fun v hv' x17 e17 => ?_))
      have : x17 = Int64.ofInt (sg D (R.take tg) (b + 1)) := by
        rw [e17, sg, Int64.ofInt_add, ← hv', Int64.ofInt_toInt]
      rw [this, nI_1]
      exact ih (b + 1) (by omega) (by omega)
theorem M_gained {D : BD} {nl : Nat} {σ : SX} {μ : SM} (h : RR D nl σ μ) {p1 : Int32} {Q : Int64 → SM → Prop} (h1 : sX_shared σ = 0 → Q 0 (uM_thr μ 1)) (h2 : sX_shared σ = 1 → no_n p1 nl → Q 0 (uM_thr μ 2)) (h0 : ∀ (k : Nat) (R : List Nat), vX D R σ → sX_shared σ = 1 → k < nl → p1 = nI k → Q (Int64.ofInt (sr D (R.take (en (cI D) (sX_heads σ) (sX_sizes σ) R (k + 1))))) (uM_thr μ 0)) : wp_M_gained μ p1 Q := by
  have hd := h.1.1
  have h40 := hd.1
  unfold wp_M_gained
  intro μ1 e1
  have t1 : sM_thr μ1 = 0 := by rw [e1, rM_thr_thr]
  have hr1 : RR D nl σ μ1 := by rw [e1]; exact RR_thr h 0
  obtain ⟨l1, l2, l3, l4, l5, l6⟩ := hr1.2.2.2.1
  obtain ⟨s1, s2⟩ := sh_eq hr1
  refine ⟨fun c => ?_, fun c => ?_⟩
  · have sh1 : sX_shared σ = 1 := by rw [s1]; exact s2.resolve_left c
    obtain ⟨_, _, R, z4, hv, hvm, z5⟩ := sh_of hr1 sh1
    unfold wj_M_gained_18
    refine fa_0 t1 rfl ⟨fun c => absurd rfl c, fun _ => ila_wp (by omega) l5 (fun k hk e => ⟨fun _ => fa_0 t1 rfl ⟨fun _ => ?_, fun c => absurd rfl c⟩, fun c => absurd c (by decide)⟩) (fun c => ⟨fun c' => absurd rfl c', fun _ => fa_1 t1 rfl (by decide) ⟨fun c' => absurd c' (by decide), fun _ => ?_⟩⟩)⟩
    · have q := h0 k R hv sh1 hk e
      rw [← e1, sr_sg hd z4 _ (en_le _ _ _ _ _)] at q
      rw [e]
      exact ⟨d_nb D + 1, mg_lp hd z4 hr1.2.2.1 hvm (by omega) (z5 k hk).2.1 (en_le _ _ _ _ _) q (d_nb D + 1) 0 (by omega) (by omega)⟩
    · rw [e1, oM_thr]
      exact h2 sh1 c
  · unfold wj_M_gained_18
    refine fa_1 t1 rfl (by decide) ⟨fun _ => ?_, fun c' => absurd c' (by decide)⟩
    rw [e1, oM_thr]
    exact h1 (by rw [s1]; exact c)
theorem lc_13 {L : Nat} {xs : Nat → Int32} {k : Nat → Int32 → SX → SM → (Nat → Int64) → Prop} {j : Nat} {i : Int32} {D : BD} {nl : Nat} {σ : SX} {μ : SM} {f : Nat → Int64} (v1 : vp_in (i + 1) L) (h : RR D nl σ μ) (hK : ∀ D' σ' μ' f', RR D' nl σ' μ' → k (j + 1) (i + 4) σ' μ' f') : wc_law_13 L xs k j i σ μ f := by
  obtain ⟨l1, l2, l3, l4, l5, l6⟩ := h.2.2.2.1
  have ne : ∀ {q : Prop}, sX_shared σ = 1 → sX_shared σ = 0 → q := fun a b => absurd (a.symm.trans b) (by decide)
  unfold wc_law_13 wp_L_gained wp_X_gained
  refine ⟨v1, ns_wp h (fun sh => nl_wp (by omega) l4 (fun a ha e => ?_) (fun c => Or.inr ⟨rfl, v1, M_gained h (fun z => ne sh z) (fun _ _ => tlx (by decide) (by rw [rM_thr_thr]) (hK D _ _ _ (RR_thr h 2))) (fun _ _ _ _ ha e => (no_in c (by omega) ha e).elim)⟩)) (fun sh => Or.inl ⟨rfl, v1, M_gained h (fun _ => tlx (by decide) (by rw [rM_thr_thr]) (hK D _ _ _ (RR_thr h 1))) (fun z => ne z sh) (fun _ _ _ z => ne z sh)⟩)⟩
  obtain ⟨_, _, R, z4, hv, hvm, z5⟩ := sh_of h sh
  rw [e]
  refine ⟨R.length + 1, xg_lp hv (by omega) (by omega) (z5 a ha).1 (en_le _ _ _ _ _) (fun f3 e3 => ?_) (R.length + 1) 0 (by omega) (by have := en_le (cI D) (sX_heads σ) (sX_sizes σ) R (a + 1); omega)⟩
  subst e3
  rw [← e]
  refine ⟨v1, M_gained h (fun z => ne sh z) (fun _ c => (no_in c (by omega) ha e).elim) (fun a' R' hv' _ ha' e' => ?_)⟩
  have t := vX_uq hv' hv
  subst t
  have t := (nI_eq (by omega) (by omega)).mp (e'.symm.trans e)
  subst t
  exact tl0 (by rw [rM_thr_thr]) rfl (hK D _ _ _ (RR_thr h 0))
