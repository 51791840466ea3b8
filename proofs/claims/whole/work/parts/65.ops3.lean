/-! the reference's pass; clear; the start -/
theorem M_pass {D : BD} (hd : d_ok D) {μ : SM} (hm : m_b D μ) {p l g : Int32} {Q : Int32 → SM → Prop} (h1 : no_n p (d_nb D) → Q 0 (uM_thr μ 1)) (h2 : ∀ b, b < d_nb D → p = nI b → ¬ wn2 l g → Q 0 (uM_thr μ 2)) (h3 : ∀ b, b < d_nb D → p = nI b → wn2 l g → d_cn D b = 24 → Q 0 (uM_thr μ 3)) (h0 : ∀ b, b < d_nb D → p = nI b → wn2 l g → d_cn D b < 24 → ∀ ν, m_b (dp D b l.toInt g.toInt) ν → kM μ ν → sM_thr ν = 0 → Q (nI (d_cn D b)) ν) : wp_M_pass μ p l g Q := by
  have h40 := hd.1
  unfold wp_M_pass
  intro μ1 e1
  have t1 : sM_thr μ1 = 0 := by rw [e1, rM_thr_thr]
  have hm1 : m_b D μ1 := by rw [e1]; unfold m_b at hm ⊢; simp only [rM_blocks_thr, rM_many_thr, rM_weights_thr, rM_shifts_thr, rM_lens_thr, rM_gains_thr]; exact hm
  refine ibl_wp (by omega) hm1.1 (fun b hb e => ⟨fun _ => ?_, fun c => absurd c (by decide)⟩) (fun c => ⟨fun c' => absurd rfl c', fun _ => ?_⟩)
  · unfold wj_M_pass_19
    refine fa_0 t1 rfl ?_
    have bad : ¬ wn2 l g → wj_M_pass_51 Q p l g μ1 := by
      intro hw
      unfold wj_M_pass_51 wj_M_pass_56
      refine fa_1 t1 rfl (by decide) ⟨fun _ => ?_, fun c => absurd (by rw [rM_thr_thr]; decide) c⟩
      rw [e1, oM_thr]
      exact h2 b hb e hw
    refine wi_wp (fun hw1 => ⟨fun c => absurd c (by decide), fun _ => wi_wp (fun hw2 => ⟨fun _ => ?_, fun c => absurd c (by decide)⟩) (fun hw2 => ⟨fun c => absurd rfl c, fun _ => bad (fun z => hw2 z.2)⟩)⟩) (fun hw1 => ⟨fun _ => bad (fun z => hw1 z.1), fun c => absurd rfl c⟩)
    obtain ⟨o1, o2, o3, o4, o5, o6, o7⟩ := hd.2 b hb
    obtain ⟨c1, c2, c3⟩ := hm1.2.1 b hb
    have hin := pk_in (x := p) b 40 (by omega) e
    have ecl := pk_cl (x := p) b e
    unfold wj_M_pass_56
    refine fa_0 t1 rfl ⟨fun c => absurd c (by rw [t1]; decide), fun _ => ⟨hin, ?_⟩⟩
    rw [ecl]
    refine And.symm (pk_eq (d_cn D b) 24 (fun h24 => ?_) (fun h24 => ?_) c1 rfl)
    · unfold wj_M_pass_85
      refine fa_1 t1 rfl (by decide) ⟨fun c => absurd c (by decide), fun _ => ?_⟩
      rw [e1, oM_thr]
      exact h3 b hb e ⟨hw1, hw2⟩ h24
    · have hlt : d_cn D b < 24 := by omega
      unfold wj_M_pass_85
      refine fa_0 t1 rfl ⟨fun _ => ⟨hin, fun x19 e19 => ⟨hin, ?_⟩⟩, fun c => absurd rfl c⟩
      rw [ecl]
      rw [ecl, c1, e, nI_24] at e19
      obtain ⟨l1, l2⟩ := wn_32 (x := 1) (y := 10000) (by decide +kernel) (by decide +kernel) hw1
      obtain ⟨g1, g2⟩ := wn_32 (x := -1000000) (y := 1000000) (by decide +kernel) (by decide +kernel) hw2
      obtain ⟨y1, y2, y3, y4⟩ := d_bd24 hd hb (Nat.le_refl (d_cn D b))
      have hin9 := pk_in (x := x19) _ 960 (by omega) e19
      have ecl9 := pk_cl (x := x19) _ e19
      have key2 : ∀ (s0 : Int64) (s9 : Int32) (μ23 : SM), s0.toInt = d_G D b (d_cn D b) → s9.toInt = d_L D b (d_cn D b) → μ23 = uM_lens μ1 (upd (sM_lens μ1) (24 * b + d_cn D b) (l + s9)) → wj_M_pass_168 Q p s0 (Int32.toInt64 g) x19 μ23 := by
        intro s0 s9 μ23 hs0 hs9 e23
        unfold wj_M_pass_168
        refine ⟨hin9, fun μ27 e27 => ⟨hin, hin, fun μ30 e30 => ?_⟩⟩
        unfold wp_M_spoil
        intro μa ea μb eb
        refine ⟨hin, ?_⟩
        rw [ecl9] at e27
        rw [ecl] at e30 ⊢
        have ef : μb = uM_shared (uM_laid (uM_many (uM_gains (uM_lens μ1 (upd (sM_lens μ1) (24 * b + d_cn D b) (l + s9))) (vp_updL (sM_gains μ1) (24 * b + d_cn D b) (Int32.toInt64 g + s0))) (upd (sM_many μ1) b (nI (d_cn D b + 1)))) 0) 0 := by
          rw [eb, ea, e30, e27, e23]
          simp only [rM_many_many, rM_many_lens, rM_many_gains, rM_lens_many, rM_lens_lens, rM_lens_gains, rM_gains_many, rM_gains_lens, rM_gains_gains, c1, nI_1]
        have er : sM_many μb b - 1 = nI (d_cn D b) := by
          rw [ef]
          simp only [rM_many_shared, rM_many_laid, rM_many_many, pk_us]
          exact nI_pred _
        rw [er]
        refine h0 b hb e ⟨hw1, hw2⟩ hlt μb ?_ ?_ ?_
        · rw [ef]
          refine m_b_du hd hm1 ?_ ?_ ?_ ?_ ?_ <;> simp only [rM_blocks_shared, rM_blocks_laid, rM_blocks_many, rM_blocks_gains, rM_blocks_lens, rM_many_shared, rM_many_laid, rM_many_many, rM_many_gains, rM_many_lens, rM_weights_shared, rM_weights_laid, rM_weights_many, rM_weights_gains, rM_weights_lens, rM_shifts_shared, rM_shifts_laid, rM_shifts_many, rM_shifts_gains, rM_shifts_lens, rM_lens_shared, rM_lens_laid, rM_lens_many, rM_lens_gains, rM_lens_lens, rM_gains_shared, rM_gains_laid, rM_gains_many, rM_gains_gains, rM_gains_lens]
          · intro c hc
            exact ⟨pk_un hc, trivial, trivial⟩
          · exact ⟨pk_us, c2, c3⟩
          · intro c hc j hj
            exact ⟨pk_un (by omega), pk_uLn (by omega)⟩
          · intro j hj
            unfold dpL dpG
            by_cases ej : j = d_cn D b
            · rw [if_pos (by omega), if_pos (by omega), ej, pk_us, pk_uLs, nu_add (by omega) (by omega), nl_add (by rw [Int32.toInt_toInt64]; omega) (by rw [Int32.toInt_toInt64]; omega), Int32.toInt_toInt64, hs0, hs9]
              exact ⟨Int.add_comm _ _, Int.add_comm _ _⟩
            · rw [if_neg (by omega), if_neg (by omega), pk_un (by omega), pk_uLn (by omega)]
              exact hm1.2.2 b hb j (by omega)
        · rw [ef, e1]
          unfold kM
          simp only [rM_layers_shared, rM_layers_laid, rM_layers_many, rM_layers_gains, rM_layers_lens, rM_layers_thr, rM_sizes_shared, rM_sizes_laid, rM_sizes_many, rM_sizes_gains, rM_sizes_lens, rM_sizes_thr, rM_heads_shared, rM_heads_laid, rM_heads_many, rM_heads_gains, rM_heads_lens, rM_heads_thr, rM_given_shared, rM_given_laid, rM_given_many, rM_given_gains, rM_given_lens, rM_given_thr, rM_laid_shared, rM_laid_laid, rM_laid_many, rM_laid_gains, rM_laid_lens, rM_laid_thr, rM_shared_shared, rM_shared_laid, rM_shared_many, rM_shared_gains, rM_shared_lens, rM_shared_thr]
          exact ⟨trivial, trivial, trivial, trivial, trivial, trivial⟩
        · rw [ef]
          simp only [rM_thr_shared, rM_thr_laid, rM_thr_many, rM_thr_gains, rM_thr_lens]
          exact t1
      have key1 : ∀ s9 : Int32, s9.toInt = d_L D b (d_cn D b) → wj_M_pass_136 Q p g x19 s9 l x19 μ1 := by
        intro s9 hs9
        unfold wj_M_pass_136
        refine ⟨hin9, fun μ23 e23 => ⟨hin, ?_⟩⟩
        rw [ecl9] at e23
        rw [ecl]
        have c23 : sM_many μ23 b = nI (d_cn D b) := by rw [e23, rM_many_lens]; exact c1
        refine pk_le (d_cn D b) 0 (fun hz => ?_) (fun hz => ?_) c23 rfl
        · refine key2 0 s9 μ23 ?_ hs9 e23
          rw [show d_cn D b = 0 by omega, o6]; rfl
        · have e18 : x19 - 1 = nI (24 * b + (d_cn D b - 1)) := by
            rw [e19, show 24 * b + d_cn D b = 24 * b + (d_cn D b - 1) + 1 by omega, nI_pred]
          refine ⟨pk_in _ 960 (by omega) e18, ?_⟩
          rw [pk_cl _ e18]
          refine key2 _ s9 μ23 ?_ hs9 e23
          rw [e23, rM_gains_lens]
          have := (hm1.2.2 b hb (d_cn D b - 1) (by omega)).2
          rw [show d_cn D b - 1 + 1 = d_cn D b by omega] at this
          exact this
      refine pk_le (d_cn D b) 0 (fun hz => ?_) (fun hz => ?_) c1 rfl
      · refine key1 0 ?_
        rw [show d_cn D b = 0 by omega, o5]; rfl
      · have e18 : x19 - 1 = nI (24 * b + (d_cn D b - 1)) := by
          rw [e19, show 24 * b + d_cn D b = 24 * b + (d_cn D b - 1) + 1 by omega, nI_pred]
        refine ⟨pk_in _ 960 (by omega) e18, ?_⟩
        rw [pk_cl _ e18]
        refine key1 _ ?_
        have := (hm1.2.2 b hb (d_cn D b - 1) (by omega)).1
        rw [show d_cn D b - 1 + 1 = d_cn D b by omega] at this
        exact this
  · have kk : ∀ s0 : Int32, wj_M_pass_56 Q p l g s0 (uM_thr μ1 1) := by
      intro s0
      unfold wj_M_pass_56
      refine fa_2 (by rw [rM_thr_thr]; decide) ⟨fun _ => ?_, fun c' => absurd (by rw [rM_thr_thr]; decide) c'⟩
      rw [e1, oM_thr]
      exact h1 c
    unfold wj_M_pass_19
    refine fa_1 t1 rfl (by decide) ?_
    refine wi_wp (fun hw1 => ⟨fun c' => absurd c' (by decide), fun _ => wi_wp (fun hw2 => ⟨fun _ => kk 0, fun c' => absurd c' (by decide)⟩) (fun hw2 => ⟨fun c' => absurd rfl c', fun _ => kk 1⟩)⟩) (fun hw1 => ⟨fun _ => kk 1, fun c' => absurd rfl c'⟩)
/-- nothing told yet -/
def d_e : BD := (0, fun _ => 0, fun _ _ => 0, fun _ _ => 0, fun _ => 0, fun _ => 0)
theorem d_e_ok : d_ok d_e := ⟨Nat.zero_le _, fun b hb => absurd hb (Nat.not_lt_zero _)⟩
theorem d_e_row : d_row d_e [] := ⟨List.Pairwise.nil, fun x => ⟨fun h => absurd h List.not_mem_nil, fun h => absurd h.1 (Nat.not_lt_zero _)⟩⟩
theorem RR_e {nl : Nat} {σ : SX} {μ : SM} (h1 : sX_bc σ = 0) (h2 : ∀ b, b < 40 → sX_ls σ (25 * b) = 0 ∧ sX_gs σ (25 * b) = 0) (h3 : sX_ol σ = 0) (h4 : sM_blocks μ = 0) (h5 : lr nl σ μ) (h6 : sX_pc σ = 0) (h7 : sM_laid μ = 0) (h8 : sM_given μ 0 = 0) (h9 : sX_shared σ = 0) (h10 : sM_shared μ = 0) : RR d_e nl σ μ :=
  ⟨⟨d_e_ok, h1, fun b hb => absurd hb (Nat.not_lt_zero _), h2, fun b hb => absurd hb (Nat.not_lt_zero _)⟩, ⟨fun b hb => absurd hb (Nat.not_lt_zero _), [], d_e_row, h3, ah_nil⟩, ⟨h4, fun b hb => absurd hb (Nat.not_lt_zero _), fun b hb => absurd hb (Nat.not_lt_zero _)⟩, h5, h6, Or.inl h7, h8, Or.inl ⟨h9, h10⟩⟩
theorem xc_lp {nl : Nat} (hn : nl ≤ 16) {σ : SX} (h1 : sX_nl σ = nl) (h2 : sX_layers σ = nI nl) {Q : SX → Prop} (hQ : ∀ a h : Nat → Int32, (∀ k, k < nl → a k = 0 ∧ h k = 0) → Q (uX_shared (uX_ol (uX_pc (uX_bc (uX_heads (uX_sizes σ a) h) 0) 0) 0) 0)) : ∀ (m k : Nat) (a h : Nat → Int32), k ≤ nl → nl - k < m → (∀ i, i < k → a i = 0 ∧ h i = 0) → wl_X_clear_2 Q m (nI k) (uX_heads (uX_sizes σ a) h) := by
  intro m
  induction m with
  | zero => intro k a h _ hm; omega
  | succ m ih =>
    intro k a h hk hm hz
    rw [wl_X_clear_2]
    refine pk_le nl k (fun c σ2 e2 σ3 e3 σ4 e4 σ5 e5 => ?_) (fun c => ?_) (by simp only [rX_layers_heads, rX_layers_sizes]; exact h2) rfl
    · rw [e5, e4, e3, e2]
      exact hQ a h (fun i hi => hz i (by omega))
    · refine ⟨pk_in k _ (by simp only [rX_nl_heads, rX_nl_sizes]; omega) rfl (by simp only [rX_nl_heads, rX_nl_sizes]; omega), fun σ7 e7 => ?_⟩
      have n7 : sX_nl σ7 = nl := by rw [e7]; simp only [rX_nl_heads, rX_nl_sizes]; exact h1
      refine ⟨pk_in k _ (by omega) rfl (by omega), fun σ9 e9 => ?_⟩
      rw [nI_clamp (by omega)] at e7 e9
      have ef : σ9 = uX_heads (uX_sizes σ (upd a k 0)) (upd h k 0) := by
        rw [e9, e7]
        simp only [rX_heads_heads, rX_heads_sizes, rX_sizes_heads, rX_sizes_sizes, pX_sizes_heads, oX_sizes, oX_heads]
      rw [ef, nI_1]
      refine ih (k + 1) _ _ (by omega) (by omega) (fun i hi => ?_)
      by_cases e : i = k
      · rw [e]; exact ⟨pk_us, pk_us⟩
      · rw [pk_un e, pk_un e]; exact hz i (by omega)
theorem mc_lp {μ : SM} {Q : SM → Prop} (hQ : ∀ a h : Nat → Int32, (∀ k, k < 16 → a k = 0 ∧ h k = 0) → Q (uM_shared (uM_laid (uM_heads (uM_sizes μ a) h) 0) 0)) : ∀ (m k : Nat) (a h : Nat → Int32), k ≤ 16 → 16 - k < m → (∀ i, i < k → a i = 0 ∧ h i = 0) → wl_M_clear_12 Q m (nI k) (uM_heads (uM_sizes μ a) h) := by
  intro m
  induction m with
  | zero => intro k a h _ hm; omega
  | succ m ih =>
    intro k a h hk hm hz
    rw [wl_M_clear_12]
    refine pk_le 16 k (fun c => ?_) (fun c => ?_) rfl rfl
    · unfold wp_M_spoil
      intro μa ea μb eb
      rw [eb, ea]
      exact hQ a h (fun i hi => hz i (by omega))
    · refine ⟨pk_in k 16 (by omega) rfl, fun σ7 e7 => ⟨pk_in k 16 (by omega) rfl, fun σ9 e9 => ?_⟩⟩
      rw [nI_clamp (by omega)] at e7 e9
      have ef : σ9 = uM_heads (uM_sizes μ (upd a k 0)) (upd h k 0) := by
        rw [e9, e7]
        simp only [rM_heads_heads, rM_heads_sizes, rM_sizes_heads, rM_sizes_sizes, pM_sizes_heads, oM_sizes, oM_heads]
      rw [ef, nI_1]
      refine ih (k + 1) _ _ (by omega) (by omega) (fun i hi => ?_)
      by_cases e : i = k
      · rw [e]; exact ⟨pk_us, pk_us⟩
      · rw [pk_un e, pk_un e]; exact hz i (by omega)
theorem X_clear {nl : Nat} (hn : nl ≤ 16) {σ : SX} (h1 : sX_nl σ = nl) (h2 : sX_layers σ = nI nl) {Q : SX → Prop} (hQ : ∀ a h : Nat → Int32, (∀ k, k < nl → a k = 0 ∧ h k = 0) → Q (uX_shared (uX_ol (uX_pc (uX_bc (uX_heads (uX_sizes σ a) h) 0) 0) 0) 0)) : wp_X_clear σ Q := by
  have := xc_lp hn h1 h2 hQ (nl + 1) 0 (sX_sizes σ) (sX_heads σ) (by omega) (by omega) (fun i hi => by omega)
  rw [eX_sizes, eX_heads] at this
  exact ⟨nl + 1, this⟩
theorem M_clear {μ : SM} {Q : SM → Prop} (hQ : ∀ a h : Nat → Int32, (∀ k, k < 16 → a k = 0 ∧ h k = 0) → Q (uM_shared (uM_laid (uM_heads (uM_sizes (uM_blocks (uM_thr μ 0) 0) a) h) 0) 0)) : wp_M_clear μ Q := by
  unfold wp_M_clear
  intro μ1 e1 μ2 e2
  rw [e2, e1]
  have := mc_lp hQ 17 0 (sM_sizes (uM_blocks (uM_thr μ 0) 0)) (sM_heads (uM_blocks (uM_thr μ 0) 0)) (by omega) (by omega) (fun i hi => by omega)
  rw [eM_sizes, eM_heads] at this
  exact ⟨17, this⟩
theorem RR_clear {D : BD} {nl : Nat} {σ : SX} {μ : SM} (h : RR D nl σ μ) {a h' a2 h2 : Nat → Int32} (z1 : ∀ k, k < nl → a k = 0 ∧ h' k = 0) (z2 : ∀ k, k < 16 → a2 k = 0 ∧ h2 k = 0) : RR d_e nl (uX_shared (uX_ol (uX_pc (uX_bc (uX_heads (uX_sizes σ a) h') 0) 0) 0) 0) (uM_shared (uM_laid (uM_heads (uM_sizes (uM_blocks (uM_thr μ 0) 0) a2) h2) 0) 0) := by
  obtain ⟨k1, k2, k3, k4, k5, k6, k7, k8⟩ := h
  refine RR_e ?_ ?_ ?_ ?_ ?_ ?_ ?_ ?_ ?_ ?_
  · simp only [rX_bc_shared, rX_bc_ol, rX_bc_pc, rX_bc_bc]
  · simp only [rX_ls_shared, rX_ls_ol, rX_ls_pc, rX_ls_bc, rX_ls_heads, rX_ls_sizes, rX_gs_shared, rX_gs_ol, rX_gs_pc, rX_gs_bc, rX_gs_heads, rX_gs_sizes]; exact k1.2.2.2.1
  · simp only [rX_ol_shared, rX_ol_ol]
  · simp only [rM_blocks_shared, rM_blocks_laid, rM_blocks_heads, rM_blocks_sizes, rM_blocks_blocks]
  · unfold lr at k4 ⊢
    simp only [rX_nl_shared, rX_nl_ol, rX_nl_pc, rX_nl_bc, rX_nl_heads, rX_nl_sizes, rX_layers_shared, rX_layers_ol, rX_layers_pc, rX_layers_bc, rX_layers_heads, rX_layers_sizes, rX_sizes_shared, rX_sizes_ol, rX_sizes_pc, rX_sizes_bc, rX_sizes_heads, rX_sizes_sizes, rX_heads_shared, rX_heads_ol, rX_heads_pc, rX_heads_bc, rX_heads_heads, rX_heads_sizes, rM_layers_shared, rM_layers_laid, rM_layers_heads, rM_layers_sizes, rM_layers_blocks, rM_layers_thr, rM_sizes_shared, rM_sizes_laid, rM_sizes_heads, rM_sizes_sizes, rM_sizes_blocks, rM_sizes_thr, rM_heads_shared, rM_heads_laid, rM_heads_heads, rM_heads_sizes, rM_heads_blocks, rM_heads_thr]
    obtain ⟨q1, q2, q3, q4, q5, q6⟩ := k4
    refine ⟨q1, q2, q3, q4, q5, fun k hk => ?_⟩
    rw [(z1 k hk).1, (z1 k hk).2, (z2 k (by omega)).1, (z2 k (by omega)).2]
    exact ⟨rfl, rfl⟩
  · simp only [rX_pc_shared, rX_pc_ol, rX_pc_pc]
  · simp only [rM_laid_shared, rM_laid_laid]
  · simp only [rM_given_shared, rM_given_laid, rM_given_heads, rM_given_sizes, rM_given_blocks, rM_given_thr]; exact k7
  · simp only [rX_shared_shared]
  · simp only [rM_shared_shared]
theorem init_RR {p : Int32} {Q : SX → SM → Prop} (hQ : ∀ (nl : Nat) (σ : SX) (μ : SM), RR d_e nl σ μ → Q σ μ) : wp_X_init p (fun σ => wp_M_init p (fun μ => Q σ μ)) := by
  have hp : ∃ n : Nat, 1 ≤ n ∧ n ≤ 16 ∧ (if 1 < (if p < 16 then p else 16) then (if p < 16 then p else 16) else 1) = nI n ∧ (1 ≤ p → (p ≤ 16 → p = nI n) ∧ (¬ p ≤ 16 → (16 : Int32) = nI n)) ∧ (¬ 1 ≤ p → (1 : Int32) = nI n) := by
    have e1 : (1 : Int32).toInt = 1 := by decide
    have e16 : (16 : Int32).toInt = 16 := by decide
    by_cases c1 : 1 ≤ p
    · have d1 := Int32.le_iff_toInt_le.mp c1
      by_cases c2 : p ≤ 16
      · have d2 := Int32.le_iff_toInt_le.mp c2
        refine ⟨p.toInt.toNat, by omega, by omega, ?_, fun _ => ⟨fun _ => nI_ofInt (by omega), fun c => absurd c2 c⟩, fun c => absurd c1 c⟩
        rw [← nI_ofInt (v := p) (by omega)]
        by_cases c3 : p < 16
        · rw [if_pos c3]
          by_cases c4 : 1 < p
          · rw [if_pos c4]
          · rw [if_neg c4]
            have : ¬ (1 : Int32).toInt < p.toInt := fun z => c4 (Int32.lt_iff_toInt_lt.mpr z)
            exact Int32.toInt_inj.mp (by omega)
        · rw [if_neg c3]
          have : ¬ p.toInt < (16 : Int32).toInt := fun z => c3 (Int32.lt_iff_toInt_lt.mpr z)
          rw [if_pos (by decide)]
          exact Int32.toInt_inj.mp (by omega)
      · have d2 : ¬ p.toInt ≤ (16 : Int32).toInt := fun z => c2 (Int32.le_iff_toInt_le.mpr z)
        refine ⟨16, by omega, by omega, ?_, fun _ => ⟨fun c => absurd c c2, fun _ => rfl⟩, fun c => absurd c1 c⟩
        have c3 : ¬ p < 16 := fun z => by have := Int32.lt_iff_toInt_lt.mp z; omega
        rw [if_neg c3, if_pos (by decide)]
        rfl
    · have d1 : ¬ (1 : Int32).toInt ≤ p.toInt := fun z => c1 (Int32.le_iff_toInt_le.mpr z)
      refine ⟨1, by omega, by omega, ?_, fun c => absurd c c1, fun _ => rfl⟩
      have c3 : p < 16 := Int32.lt_iff_toInt_lt.mpr (by omega)
      have c4 : ¬ 1 < p := fun z => by have := Int32.lt_iff_toInt_lt.mp z; omega
      rw [if_pos c3, if_neg c4]
      rfl
  obtain ⟨n, n1, n2, e1, e2, e3⟩ := hp
  have key : ∀ σ0 : SX, σ0 = ((n, nI n, (fun _ => 0), (fun _ => 0), (fun _ => 0), (fun _ => 0), 0, (fun _ => 0), (fun _ => 0), (fun _ => 0), 0, 0, (fun _ => 0), (fun _ => 0), (fun _ => 0), (fun _ => 0), (fun _ => 0), 0) : SX) → ∀ μ0 : SM, μ0 = ((0, nI n, 0, (fun _ => 0), (fun _ => 0), (fun _ => 0), (fun _ => 0), (fun _ => 0), (fun _ => 0), (fun _ => 0), 0, (fun _ => 0), (fun _ => 0), 0, (fun _ => 0), 0, (fun _ => 0)) : SM) → Q σ0 μ0 := by
    intro σ0 h1 μ0 h2
    subst h1 h2
    exact hQ n _ _ (RR_e rfl (fun b _ => ⟨rfl, rfl⟩) rfl rfl ⟨n1, n2, rfl, rfl, rfl, fun k _ => ⟨rfl, rfl⟩⟩ rfl rfl rfl rfl rfl)
  unfold wp_X_init
  intro x1 ex
  rw [e1] at ex
  have cl := pk_cl n ex
  have ng : ¬ x1 < 0 := by rw [ex]; exact nI_pos (by omega)
  rw [cl]
  refine ⟨ng, n2, ng, n2, ng, n2, ng, n2, fun σ0 es => ?_⟩
  rw [ex] at es
  unfold wp_M_init
  refine ⟨fun c1 => ⟨fun c2 μ0 em => ?_, fun c2 μ0 em => ?_⟩, fun c1 μ0 em => ?_⟩
  · rw [(e2 c1).1 c2] at em; exact key σ0 es μ0 em
  · rw [(e2 c1).2 c2] at em; exact key σ0 es μ0 em
  · rw [e3 c1] at em; exact key σ0 es μ0 em
