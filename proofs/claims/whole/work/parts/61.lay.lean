/-! the reference's row: layRow -/
def mi (x : Nat) : Nat := 24 * (x / 25) + (x % 25 - 1)
def m_pt (D : BD) (c : Nat → Int32) (r : Nat → Int64) (x : Nat) : Prop := d_hp D x ∧ (c (mi x)).toInt = d_cost D x ∧ (r (mi x)).toInt = d_rise D x
theorem mi_lt {D : BD} (hd : d_ok D) {x : Nat} (hx : d_hp D x) : mi x < 960 ∧ x < 1000 ∧ 0 < x % 25 := by
  obtain ⟨h1, h2⟩ := x_pt_lt hd hx
  unfold mi
  omega
theorem ib_wp {D : BD} (hd : d_ok D) {μ : SM} {x y : Nat} (hx : m_pt D (sM_costs μ) (sM_rises μ) x) (hy : m_pt D (sM_costs μ) (sM_rises μ) y) {Q : Int32 → SM → Prop} (h1 : d_bf D x y → Q 1 μ) (h0 : ¬ d_bf D x y → Q 0 μ) : wp_M_isBefore μ (nI (mi x)) (nI (mi y)) Q := by
  obtain ⟨x1, x3, x4⟩ := hx
  obtain ⟨y1, y3, y4⟩ := hy
  obtain ⟨x2, x5, x6⟩ := mi_lt hd x1
  obtain ⟨y2, y5, y6⟩ := mi_lt hd y1
  obtain ⟨a1, a2, a3, a4⟩ := d_hpos hd x1
  obtain ⟨b1, b2, b3, b4⟩ := d_hpos hd y1
  have m1 := nu_bd (a := d_rise D x) (b := d_cost D y) (A := 307200000000) (B := 240000) (by omega) (by omega) (by omega) (by omega)
  have m2 := nu_bd (a := d_rise D y) (b := d_cost D x) (A := 307200000000) (B := 240000) (by omega) (by omega) (by omega) (by omega)
  unfold wp_M_isBefore
  refine ⟨vp_in_nI x2 (by omega), vp_in_nI y2 (by omega), fun x3' e3 => ⟨vp_in_nI y2 (by omega), vp_in_nI x2 (by omega), fun x6' e6 => ?_⟩⟩
  rw [nI_clamp (by omega), nI_clamp (by omega)] at e3 e6
  have t1 : x3'.toInt = d_rise D x * d_cost D y := by
    rw [e3, nl_mul (by rw [Int32.toInt_toInt64, x4, y3]; omega) (by rw [Int32.toInt_toInt64, x4, y3]; omega), Int32.toInt_toInt64, x4, y3]
  have t2 : x6'.toInt = d_rise D y * d_cost D x := by
    rw [e6, nl_mul (by rw [Int32.toInt_toInt64, y4, x3]; omega) (by rw [Int32.toInt_toInt64, y4, x3]; omega), Int32.toInt_toInt64, y4, x3]
  rw [lg_eq0, lg_le0, t1, t2]
  refine ⟨fun c => ⟨fun c2 => h0 ?_, fun c2 => h1 ?_⟩, fun c => ⟨fun c2 => h0 ?_, fun c2 => h1 ?_⟩⟩
  · have := (nI_leI (by omega) (by omega)).mp c2
    unfold mi at this
    unfold d_bf
    omega
  · refine Or.inr ⟨c, ?_⟩
    rcases Nat.lt_or_ge x y with z | z
    · exact z
    · exact absurd (nI_le (show mi y ≤ mi x by unfold mi; omega) (by omega)) c2
  · unfold d_bf; omega
  · exact Or.inl (by omega)
theorem in_lp {D : BD} (hd : d_ok D) {μ : SM} {x : Nat} (hx : m_pt D (sM_costs μ) (sM_rises μ) x) {R : List Nat} (hR : R.Pairwise (d_bf D)) (hpt : ∀ y ∈ R, m_pt D (sM_costs μ) (sM_rises μ) y ∧ y ≠ x) (hN : R.length < 960) (hlen : sM_len μ = nI R.length) {y1 y2 y3 : Int32} {Q : SM → Prop} {k20 : Int32 → SM → Prop} {k32 : Int32 → Int32 → SM → Prop}
    (hk : ∀ (A S : List Nat) (a : Nat → Int32), R = A ++ S → (∀ s ∈ A, d_bf D s x) → (∀ s ∈ S, d_bf D x s) → ah a 0 ((A ++ x :: S).map mi) → k32 y2 (y3 + 1) (uM_row (uM_len μ (nI (R.length + 1))) a)) :
    ∀ (m : Nat) (A S : List Nat) (a : Nat → Int32), A.length < m → R = A ++ S → (∀ s ∈ S, d_bf D x s) → ah a 0 (A.map mi) → ah a (A.length + 1) (S.map mi) → wl_M_layRow_132 y1 y2 y3 (nI (mi x)) Q k20 k32 m (nI A.length) (uM_row μ a) := by
  obtain ⟨x2, x5, x6⟩ := mi_lt hd hx.1
  intro m
  induction m with
  | zero => intro A S a h; omega
  | succ m ih =>
    intro A S a hm hRA hS ha1 ha2
    have hAl : A.length ≤ R.length := by rw [hRA, List.length_append]; omega
    have place : (∀ s ∈ A, d_bf D s x) → ∀ μ28 : SM, μ28 = uM_len (uM_row μ (upd a A.length (nI (mi x)))) (nI (R.length + 1)) → k32 y2 (y3 + 1) μ28 := by
      intro hA μ28 e28
      rw [e28, pM_len_row]
      refine hk A S _ hRA hA hS ?_
      rw [List.map_append, List.map_cons]
      refine ah_app (ah_upd ha1 (Or.inr (by rw [List.length_map]; omega))) (ah_cons (by rw [List.length_map, Nat.zero_add]; exact pk_us) (ah_upd ?_ (Or.inl (by rw [List.length_map]; omega))))
      rw [List.length_map, Nat.zero_add]; exact ha2
    rw [wl_M_layRow_132]
    simp only [rM_row_row, oM_row, rM_len_row]
    refine ⟨fun c => ?_, fun c => ?_⟩
    · have h0 : A.length = 0 := by
        rcases Nat.eq_zero_or_pos A.length with z | z
        · exact z
        · exact absurd c (nI_nle z (by omega))
      refine ⟨vp_in_nI (by omega) (by omega), fun μ27 e27 μ28 e28 => ?_⟩
      rw [nI_clamp (by omega)] at e27
      refine place (fun s hs => by rw [List.eq_nil_of_length_eq_zero h0] at hs; cases hs) μ28 ?_
      rw [e28, e27, rM_len_row, hlen, nI_1]
    · rcases List.eq_nil_or_concat A with hA | ⟨A0, z, hA⟩
      · exact absurd (by rw [hA]; decide) c
      · rw [List.concat_eq_append] at hA
        subst hA
        have hl : (A0 ++ [z]).length = A0.length + 1 := by simp
        have hzR : z ∈ R := by rw [hRA]; simp
        obtain ⟨hz, hzx⟩ := hpt z hzR
        rw [hl] at hm ha2 hAl place ⊢
        have er : nI (A0.length + 1) - 1 = nI A0.length := nI_pred _
        have ez : a A0.length = nI (mi z) := by
          have := ha1 A0.length (mi z) (by simp)
          rwa [Nat.zero_add] at this
        refine ⟨by rw [er]; exact vp_in_nI (by omega) (by omega), ?_⟩
        rw [er, nI_clamp (by omega), ez]
        refine ib_wp (μ := uM_row μ a) hd (by unfold m_pt at hx ⊢; simp only [rM_costs_row, rM_rises_row]; exact hx) (by unfold m_pt at hz ⊢; simp only [rM_costs_row, rM_rises_row]; exact hz) (fun hb => ?_) (fun hb => ?_)
        · refine ⟨fun q => absurd q (by decide), fun _ => ⟨vp_in_nI (by omega) (by omega), vp_in_nI (by omega) (by omega), fun μ38 e38 => ?_⟩⟩
          simp only [rM_row_row, oM_row] at e38
          rw [nI_clamp (by omega), ez] at e38
          rw [e38, i_addneg, nI_pred]
          refine ih A0 (z :: S) _ (by omega) (by rw [hRA, List.append_assoc]; rfl) ?_ (ah_upd ?_ (Or.inr (by rw [List.length_map]; omega))) ?_
          · intro s hs
            rcases List.mem_cons.mp hs with rfl | hs
            · exact hb
            · exact hS s hs
          · rw [List.map_append] at ha1; exact ah_left ha1
          · rw [List.map_cons]
            exact ah_cons pk_us (ah_upd ha2 (Or.inl (by omega)))
        · refine ⟨fun _ => ⟨vp_in_nI (by omega) (by omega), fun μ34 e34 μ35 e35 => ?_⟩, fun q => absurd rfl q⟩
          simp only [rM_row_row, oM_row] at e34
          rw [nI_clamp (by omega)] at e34
          have hzc : d_bf D z x := (d_bf_tot hzx).resolve_right hb
          refine place (fun s hs => ?_) μ35 (by rw [e35, e34, rM_len_row, hlen, nI_1])
          rcases List.mem_append.mp hs with hs | hs
          · refine d_bf_tr hd (hpt s (by rw [hRA]; simp [hs])).1.1 hz.1 hx.1 ?_ hzc
            rw [hRA] at hR
            exact (List.pairwise_append.mp (List.pairwise_append.mp hR).1).2.2 s hs z List.mem_cons_self
          · rw [List.mem_singleton.mp hs]; exact hzc
/-- costs and rises of a block's passes 0 .. n - 1 as the reference has them -/
def m_h (D : BD) (b n : Nat) (c : Nat → Int32) (r : Nat → Int64) : Prop := ∀ p, p < n → (d_on D b (p + 1) → (c (24 * b + p)).toInt = d_cost D (25 * b + (p + 1)) ∧ (r (24 * b + p)).toInt = d_rise D (25 * b + (p + 1))) ∧ (¬ d_on D b (p + 1) → c (24 * b + p) = 0 ∧ r (24 * b + p) = 0)
theorem m_h_pt {D : BD} (hd : d_ok D) {b n : Nat} (hb : b < d_nb D) {c : Nat → Int32} {r : Nat → Int64} (h : m_h D b n c r) {x : Nat} (hx : d_hp D x) (e : x / 25 = b) (hn : x % 25 ≤ n) : m_pt D c r x := by
  obtain ⟨_, _, h3⟩ := mi_lt hd hx
  obtain ⟨h1, h2⟩ := id hx
  rw [e] at h2
  have k := (h (x % 25 - 1) (by omega)).1 (by rw [show x % 25 - 1 + 1 = x % 25 by omega]; exact h2)
  rw [show 25 * b + (x % 25 - 1 + 1) = x by omega] at k
  refine ⟨hx, ?_, ?_⟩ <;> unfold mi <;> rw [e]
  · exact k.1
  · exact k.2
theorem m_b_st {D : BD} {μ : SM} (h : m_b D μ) (c : Nat → Int32) (r : Nat → Int64) (n : Int32) (a : Nat → Int32) : m_b D (uM_row (uM_len (uM_rises (uM_costs μ c) r) n) a) := by
  unfold m_b at h ⊢
  simp only [rM_blocks_row, rM_blocks_len, rM_blocks_rises, rM_blocks_costs, rM_many_row, rM_many_len, rM_many_rises, rM_many_costs, rM_weights_row, rM_weights_len, rM_weights_rises, rM_weights_costs, rM_shifts_row, rM_shifts_len, rM_shifts_rises, rM_shifts_costs, rM_lens_row, rM_lens_len, rM_lens_rises, rM_lens_costs, rM_gains_row, rM_gains_len, rM_gains_rises, rM_gains_costs]
  exact h
/-- the row of the points ahead of pass p of block b, laid -/
def m_ly (D : BD) (b p : Nat) (c : Nat → Int32) (r : Nat → Int64) (a : Nat → Int32) (R : List Nat) : Prop := R.Pairwise (d_bf D) ∧ (∀ x, x ∈ R ↔ d_hp D x ∧ (x / 25 < b ∨ (x / 25 = b ∧ x % 25 ≤ p))) ∧ (∀ b', b' < b → m_h D b' (d_cn D b') c r) ∧ m_h D b p c r ∧ ah a 0 (R.map mi)
theorem ly_p {D : BD} (hd : d_ok D) {μ : SM} (hm : m_b D μ) {b : Nat} (hb : b < d_nb D) {Q : SM → Prop} {k20 : Int32 → SM → Prop}
    (hk : ∀ (c : Nat → Int32) (r : Nat → Int64) (a : Nat → Int32) (R : List Nat), m_ly D b (d_cn D b) c r a R → k20 (nI (b + 1)) (uM_row (uM_len (uM_rises (uM_costs μ c) r) (nI R.length)) a)) :
    ∀ (m p : Nat) (c : Nat → Int32) (r : Nat → Int64) (a : Nat → Int32) (R : List Nat), p ≤ d_cn D b → d_cn D b - p < m → m_ly D b p c r a R → wl_M_layRow_32 (nI b) Q k20 m (nI (d_pv D b (p + 1)) - 1) (nI p) (uM_row (uM_len (uM_rises (uM_costs μ c) r) (nI R.length)) a) := by
  have h40 := hd.1
  have h24 := (hd.2 b hb).1
  obtain ⟨s1, s2⟩ := d_sc_bd hd hb
  intro m
  induction m with
  | zero => intro p c r a R _ h; omega
  | succ m ih =>
    intro p c r a R hp hpm hly
    obtain ⟨l1, l2, l3, l4, l5⟩ := id hly
    have hm1 := m_b_st hm c r (nI R.length) a
    rw [wl_M_layRow_32]
    refine ⟨vp_in_nI (by omega) (by omega), ?_⟩
    rw [nI_clamp (by omega), (hm1.2.1 b hb).1]
    refine ⟨fun q => ?_, fun q => ?_⟩
    · have := (nI_leI (by omega) (by omega)).mp q
      have e : p = d_cn D b := by omega
      rw [nI_1]
      rw [e] at hly
      exact hk c r a R hly
    · have hlt : p < d_cn D b := by
        rcases Nat.lt_or_ge p (d_cn D b) with z | z
        · exact z
        · exact absurd (nI_le z (by omega)) q
      intro x7 e7
      rw [nI_24] at e7
      subst e7
      have eb : (25 * b + (p + 1)) / 25 = b := by omega
      have ep : (25 * b + (p + 1)) % 25 = p + 1 := by omega
      obtain ⟨v1, v2, v3⟩ := pv_spec (d_on D b) (p + 1) (by omega)
      have v4 : d_pv D b (p + 1) ≤ p := by unfold d_pv; omega
      have hRl : R.length < 960 ∧ 25 * b + (p + 1) ∉ R := by
        have hn : 25 * b + (p + 1) ∉ R := fun h => by
          have := ((l2 _).mp h).2
          omega
        refine ⟨?_, hn⟩
        have nd : ((25 * b + (p + 1)) :: R).Nodup := List.nodup_cons.mpr ⟨hn, pw_nd l1⟩
        have := pg_le nd (fun x hx => by
          rcases List.mem_cons.mp hx with e | hx
          · rw [e]; omega
          · exact x_pt_lt hd ((l2 x).mp hx).1)
        simp only [List.length_cons] at this
        omega
      -- the arrays behind a store at 24 b + p
      have keepB : ∀ (c0 : Int32) (r0 : Int64), ∀ b', b' < b → m_h D b' (d_cn D b') (upd c (24 * b + p) c0) (vp_updL r (24 * b + p) r0) := by
        intro c0 r0 b' hb' p' hp'
        have h24' := (hd.2 b' (by omega)).1
        rw [pk_un (by omega), pk_uLn (by omega)]
        exact l3 b' hb' p' hp'
      have keepP : ∀ (c0 : Int32) (r0 : Int64), ((d_on D b (p + 1) → c0.toInt = d_cost D (25 * b + (p + 1)) ∧ r0.toInt = d_rise D (25 * b + (p + 1))) ∧ (¬ d_on D b (p + 1) → c0 = 0 ∧ r0 = 0)) → m_h D b (p + 1) (upd c (24 * b + p) c0) (vp_updL r (24 * b + p) r0) := by
        intro c0 r0 h0 p' hp'
        rcases Nat.lt_or_ge p' p with z | z
        · rw [pk_un (by omega), pk_uLn (by omega)]; exact l4 p' z
        · rw [show p' = p by omega, pk_us, pk_uLs]; exact h0
      refine hl_wp hd hm1 hb (by omega) (fun hon => ⟨fun z => absurd z (by decide), fun _ => ?_⟩) (fun hno => ⟨fun _ => ?_, fun z => absurd rfl z⟩)
      · refine l_wp hd hm1 hb (q := p + 1) (by omega) (nI_pred p).symm (fun r41 t41 => ?_)
        refine l_wp hd hm1 hb (q := d_pv D b (p + 1)) (by omega) rfl (fun r43 t43 => ?_)
        unfold wj_M_layRow_86
        refine ⟨vp_in_nI (by omega) (by omega), fun μ12 e12 => ⟨fun z => absurd z (by decide), fun _ => ?_⟩⟩
        rw [nI_clamp (by omega)] at e12
        have e12' : μ12 = uM_row (uM_len (uM_rises (uM_costs μ (upd c (24 * b + p) (r41 - r43))) r) (nI R.length)) a := by
          rw [e12]; simp only [rM_costs_row, rM_costs_len, rM_costs_rises, rM_costs_costs, pM_costs_row, pM_costs_len, pM_costs_rises, oM_costs]
        have hm2 : m_b D μ12 := by rw [e12']; exact m_b_st hm _ _ _ _
        refine g_wp hd hm2 hb (q := p + 1) (by omega) (nI_pred p).symm (fun r18 t18 => ?_)
        refine g_wp hd hm2 hb (q := d_pv D b (p + 1)) (by omega) rfl (fun r20 t20 => ?_)
        refine ⟨vp_in_nI (by omega) (by omega), fun μ22 e22 x24 e24 => ⟨R.length + 1, ?_⟩⟩
        rw [nI_clamp (by omega)] at e22
        have e22' : μ22 = uM_row (uM_len (uM_rises (uM_costs μ (upd c (24 * b + p) (r41 - r43))) (vp_updL r (24 * b + p) (r18 - r20))) (nI R.length)) a := by
          rw [e22, e12']; simp only [rM_rises_row, rM_rises_len, rM_rises_rises, pM_rises_row, pM_rises_len, oM_rises]
        have e24' : x24 = nI R.length := by rw [e24, e22']; simp only [rM_len_row, rM_len_len]
        obtain ⟨a1, a2, a3, a4⟩ := d_bd24 hd hb (k := p + 1) (by omega)
        obtain ⟨a5, a6, a7, a8⟩ := d_bd24 hd hb (k := d_pv D b (p + 1)) (by omega)
        have n1 := nu_bd (a := d_G D b (p + 1)) (b := d_sc D b) (A := 24000000) (B := 6400) (by omega) (by omega) (by omega) (by omega)
        have n2 := nu_bd (a := d_G D b (d_pv D b (p + 1))) (b := d_sc D b) (A := 24000000) (B := 6400) (by omega) (by omega) (by omega) (by omega)
        have hh2 := keepP (r41 - r43) (r18 - r20) ⟨fun _ => by
          unfold d_cost d_rise
          rw [eb, ep, nu_sub (by omega) (by omega), t41, t43, nl_sub (by omega) (by omega), t18, t20, Int.sub_mul]
          exact ⟨rfl, rfl⟩, fun z => absurd hon z⟩
        have hB2 := keepB (r41 - r43) (r18 - r20)
        have hxp : d_hp D (25 * b + (p + 1)) := by unfold d_hp; rw [eb, ep]; exact ⟨hb, hon⟩
        obtain ⟨μ3, e3⟩ : ∃ z : SM, z = uM_len (uM_rises (uM_costs μ (upd c (24 * b + p) (r41 - r43))) (vp_updL r (24 * b + p) (r18 - r20))) (nI R.length) := ⟨_, rfl⟩
        have q1 : sM_costs μ3 = upd c (24 * b + p) (r41 - r43) := by rw [e3]; simp only [rM_costs_len, rM_costs_rises, rM_costs_costs]
        have q2 : sM_rises μ3 = vp_updL r (24 * b + p) (r18 - r20) := by rw [e3]; simp only [rM_rises_len, rM_rises_rises]
        have q3 : sM_len μ3 = nI R.length := by rw [e3]; simp only [rM_len_len]
        have hxm : m_pt D (sM_costs μ3) (sM_rises μ3) (25 * b + (p + 1)) := by rw [q1, q2]; exact m_h_pt hd hb hh2 hxp eb (by omega)
        rw [e24', e22', ← e3]
        have emi : mi (25 * b + (p + 1)) = 24 * b + p := by unfold mi; omega
        rw [← emi]
        refine in_lp hd hxm l1 (fun y hy => ⟨?_, fun e => hRl.2 (by rw [← e]; exact hy)⟩) hRl.1 q3 (fun A S a' hRA hA hS ha' => ?_) (R.length + 1) R [] a (Nat.lt_succ_self _) (by simp) (fun s hs => absurd hs List.not_mem_nil) l5 (by exact ah_nil)
        · rw [q1, q2]
          obtain ⟨y1, y2⟩ := (l2 y).mp hy
          rcases y2 with y2 | ⟨y2, y3⟩
          · have h3 := y1.2.2.1
            exact m_h_pt hd y1.1 (hB2 (y / 25) y2) y1 rfl h3
          · exact m_h_pt hd hb hh2 y1 y2 (by omega)
        · have est : uM_row (uM_len μ3 (nI (R.length + 1))) a' = uM_row (uM_len (uM_rises (uM_costs μ (upd c (24 * b + p) (r41 - r43))) (vp_updL r (24 * b + p) (r18 - r20))) (nI (A ++ (25 * b + (p + 1)) :: S).length)) a' := by
            rw [e3, oM_len, hRA]; simp only [List.length_append, List.length_cons, Nat.add_assoc]
          rw [est, nI_1]
          have epv : nI p = nI (d_pv D b (p + 1 + 1)) - 1 := by
            have : d_pv D b (p + 1 + 1) = p + 1 := by unfold d_pv; rw [pv, if_pos hon]
            rw [this, nI_pred]
          have := ih (p + 1) _ _ a' (A ++ (25 * b + (p + 1)) :: S) (by omega) (by omega) ⟨?_, fun x => ?_, hB2, hh2, ha'⟩
          · rw [← epv] at this; exact this
          · rw [hRA] at l1
            obtain ⟨w1, w2, w3⟩ := List.pairwise_append.mp l1
            refine List.pairwise_append.mpr ⟨w1, List.pairwise_cons.mpr ⟨hS, w2⟩, fun u hu v hv => ?_⟩
            rcases List.mem_cons.mp hv with rfl | hv
            · exact hA u hu
            · exact w3 u hu v hv
          · have hx0 := l2 x
            rw [hRA, List.mem_append] at hx0
            rw [List.mem_append, List.mem_cons]
            constructor
            · rintro (h | rfl | h)
              · obtain ⟨z1, z2⟩ := hx0.mp (Or.inl h); exact ⟨z1, by omega⟩
              · exact ⟨hxp, by omega⟩
              · obtain ⟨z1, z2⟩ := hx0.mp (Or.inr h); exact ⟨z1, by omega⟩
            · rintro ⟨z1, z2⟩
              by_cases he : x = 25 * b + (p + 1)
              · exact Or.inr (Or.inl he)
              · rcases hx0.mpr ⟨z1, by omega⟩ with z | z
                · exact Or.inl z
                · exact Or.inr (Or.inr z)
      · unfold wj_M_layRow_86
        refine ⟨vp_in_nI (by omega) (by omega), fun μ12 e12 => ⟨fun _ => ⟨vp_in_nI (by omega) (by omega), fun μ15 e15 => ?_⟩, fun z => absurd rfl z⟩⟩
        rw [nI_clamp (by omega)] at e12 e15
        have e15' : μ15 = uM_row (uM_len (uM_rises (uM_costs μ (upd c (24 * b + p) 0)) (vp_updL r (24 * b + p) 0)) (nI R.length)) a := by
          rw [e15, e12]; simp only [rM_costs_row, rM_costs_len, rM_costs_rises, rM_costs_costs, pM_costs_row, pM_costs_len, pM_costs_rises, oM_costs, rM_rises_row, rM_rises_len, rM_rises_rises, pM_rises_row, pM_rises_len, oM_rises]
        rw [e15', nI_1]
        have epv : d_pv D b (p + 1) = d_pv D b (p + 1 + 1) := by
          have : d_pv D b (p + 1 + 1) = d_pv D b (p + 1) := by
            show pv (d_on D b) (p + 1 + 1) = pv (d_on D b) (p + 1)
            rw [pv, if_neg hno]
          rw [this]
        rw [epv]
        refine ih (p + 1) _ _ a R (by omega) (by omega) ⟨l1, fun x => ?_, keepB 0 0, keepP 0 0 ⟨fun z => absurd z hno, fun _ => ⟨rfl, rfl⟩⟩, l5⟩
        rw [l2]
        constructor
        · rintro ⟨z1, z2⟩; exact ⟨z1, by omega⟩
        · rintro ⟨z1, z2⟩
          refine ⟨z1, ?_⟩
          rcases z2 with z2 | ⟨z2, z3⟩
          · exact Or.inl z2
          · refine Or.inr ⟨z2, ?_⟩
            rcases Nat.lt_or_ge p (x % 25) with w | w
            · have h5 := z1.2
              rw [z2, show x % 25 = p + 1 by omega] at h5
              exact absurd h5 hno
            · exact w
theorem ly_b {D : BD} (hd : d_ok D) {μ : SM} (hm : m_b D μ) {Q : SM → Prop}
    (hQ : ∀ (c : Nat → Int32) (r : Nat → Int64) (a : Nat → Int32) (R : List Nat), d_row D R → (∀ b, b < d_nb D → m_h D b (d_cn D b) c r) → ah a 0 (R.map mi) → Q (uM_row (uM_len (uM_rises (uM_costs μ c) r) (nI R.length)) a)) :
    ∀ (m b : Nat) (c : Nat → Int32) (r : Nat → Int64) (a : Nat → Int32) (R : List Nat), b ≤ d_nb D → d_nb D - b < m → R.Pairwise (d_bf D) → (∀ x, x ∈ R ↔ d_hp D x ∧ x / 25 < b) → (∀ b', b' < b → m_h D b' (d_cn D b') c r) → ah a 0 (R.map mi) → wl_M_layRow_20 Q m (nI b) (uM_row (uM_len (uM_rises (uM_costs μ c) r) (nI R.length)) a) := by
  have h40 := hd.1
  intro m
  induction m with
  | zero => intro b c r a R _ h; omega
  | succ m ih =>
    intro b c r a R hb hbm h1 h2 h3 h4
    have hm1 := m_b_st hm c r (nI R.length) a
    rw [wl_M_layRow_20, hm1.1]
    refine ⟨fun q => ?_, fun q => ?_⟩
    · have := (nI_leI (by omega) (by omega)).mp q
      exact hQ c r a R ⟨h1, fun x => (h2 x).trans ⟨fun z => z.1, fun z => ⟨z, by have := z.1; omega⟩⟩⟩ (fun b' hb' => h3 b' (by omega)) h4
    · have hlt : b < d_nb D := by
        rcases Nat.lt_or_ge b (d_nb D) with z | z
        · exact z
        · exact absurd (nI_le z (by omega)) q
      refine ⟨d_cn D b + 1, ?_⟩
      have e0 : nI (d_pv D b (0 + 1)) - 1 = (-1 : Int32) := by
        have : d_pv D b (0 + 1) = 0 := by
          unfold d_pv
          have := (pv_spec (d_on D b) (0 + 1) (by omega)).2.1
          omega
        rw [this]; decide
      have := ly_p hd hm hlt (Q := Q) (k20 := wl_M_layRow_20 Q m) (fun c r a R hly => ?_) (d_cn D b + 1) 0 c r a R (by omega) (by omega) ⟨h1, fun x => ?_, h3, fun p hp => by omega, h4⟩
      · rw [e0] at this; exact this
      · obtain ⟨l1, l2, l3, l4, l5⟩ := hly
        refine ih (b + 1) c r a R (by omega) (by omega) l1 (fun x => ?_) (fun b' hb' => ?_) l5
        · rw [l2]
          constructor
          · rintro ⟨z1, z2⟩; exact ⟨z1, by omega⟩
          · rintro ⟨z1, z2⟩
            refine ⟨z1, ?_⟩
            have h5 := z1.2.2.1
            rcases Nat.lt_or_ge (x / 25) b with w | w
            · exact Or.inl w
            · have e : x / 25 = b := by omega
              rw [e] at h5
              exact Or.inr ⟨e, h5⟩
        · rcases Nat.lt_or_ge b' b with w | w
          · exact l3 b' w
          · rw [show b' = b by omega]; exact l4
      · rw [h2]
        constructor
        · rintro ⟨z1, z2⟩; exact ⟨z1, Or.inl z2⟩
        · rintro ⟨z1, z2⟩
          refine ⟨z1, ?_⟩
          have h5 := z1.2.1
          omega
