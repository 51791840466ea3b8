/-! class and reference side by side -/
def d_sum (D : BD) : Nat → Nat
  | 0 => 0
  | n + 1 => d_sum D n + d_cn D n
/-- the first n costs of a row together -/
noncomputable def d_cs (D : BD) (R : List Nat) : Nat → Int
  | 0 => 0
  | n + 1 => d_cs D R n + d_cost D (R.getD n 0)
/-- a layer of size S with head h takes the places e0 .. e1 - 1 -/
def d_fs (D : BD) (R : List Nat) (h S : Int) (e0 e1 : Nat) : Prop := e0 ≤ e1 ∧ e1 ≤ R.length ∧ h + (d_cs D R e1 - d_cs D R e0) ≤ S ∧ (e1 = R.length ∨ S < h + (d_cs D R (e1 + 1) - d_cs D R e0))
def d_rs (D : BD) (R : List Nat) (nl : Nat) (h S : Nat → Int) (e : Nat → Nat) : Prop := e 0 = 0 ∧ ∀ k, k < nl → (S k < h k → e (k + 1) = e k) ∧ (h k ≤ S k → d_fs D R (h k) (S k) (e k) (e (k + 1)))
def lr (nl : Nat) (σ : SX) (μ : SM) : Prop := 1 ≤ nl ∧ nl ≤ 16 ∧ sX_nl σ = nl ∧ sX_layers σ = nI nl ∧ sM_layers μ = nI nl ∧ ∀ k, k < nl → sX_sizes σ k = sM_sizes μ k ∧ sX_heads σ k = sM_heads μ k ∧ 0 ≤ (sX_sizes σ k).toInt ∧ (sX_sizes σ k).toInt ≤ 10000000 ∧ 0 ≤ (sX_heads σ k).toInt ∧ (sX_heads σ k).toInt ≤ 10000000
/-- the reference's row is laid -/
def m_l1 (D : BD) (μ : SM) : Prop := sM_laid μ = 1 ∧ ∃ R : List Nat, d_row D R ∧ (∀ b, b < d_nb D → m_h D b (d_cn D b) (sM_costs μ) (sM_rises μ)) ∧ sM_len μ = nI R.length ∧ ah (sM_row μ) 0 (R.map mi)
def sh_r (D : BD) (nl : Nat) (σ : SX) (μ : SM) : Prop := (sX_shared σ = 0 ∧ sM_shared μ = 0) ∨ (sX_shared σ = 1 ∧ sM_shared μ = 1 ∧ m_l1 D μ ∧ ∃ (R : List Nat) (e : Nat → Nat), d_row D R ∧ d_rs D R nl (fun k => (sX_heads σ k).toInt) (fun k => (sX_sizes σ k).toInt) e ∧ ∀ k, k < nl → sX_ends σ k = nI (e (k + 1)) ∧ sM_given μ (k + 1) = nI (e (k + 1)) ∧ ((sX_sizes σ k).toInt < (sX_heads σ k).toInt → sX_held σ k = 0) ∧ ((sX_heads σ k).toInt ≤ (sX_sizes σ k).toInt → (sX_held σ k).toInt = (sX_heads σ k).toInt + (d_cs D R (e (k + 1)) - d_cs D R (e k))))
def RR (D : BD) (nl : Nat) (σ : SX) (μ : SM) : Prop := x_b D σ ∧ x_r D σ ∧ m_b D μ ∧ lr nl σ μ ∧ sX_pc σ = nI (d_sum D (d_nb D)) ∧ (sM_laid μ = 0 ∨ m_l1 D μ) ∧ sM_given μ 0 = 0 ∧ sh_r D nl σ μ
theorem RR_thr {D : BD} {nl : Nat} {σ : SX} {μ : SM} (h : RR D nl σ μ) (t : Int32) : RR D nl σ (uM_thr μ t) := by
  unfold RR m_b lr m_l1 sh_r m_l1 at h ⊢
  simp only [rM_blocks_thr, rM_many_thr, rM_weights_thr, rM_shifts_thr, rM_lens_thr, rM_gains_thr, rM_layers_thr, rM_sizes_thr, rM_heads_thr, rM_laid_thr, rM_costs_thr, rM_rises_thr, rM_len_thr, rM_row_thr, rM_given_thr, rM_shared_thr]
  exact h
theorem RR_lay {D : BD} {nl : Nat} {σ : SX} {μ : SM} {l : Int32} {c : Nat → Int32} {r : Nat → Int64} {n : Int32} {a : Nat → Int32} (h : RR D nl σ μ) (h1 : m_l1 D (uM_row (uM_len (uM_rises (uM_costs (uM_laid μ l) c) r) n) a)) : RR D nl σ (uM_row (uM_len (uM_rises (uM_costs (uM_laid μ l) c) r) n) a) := by
  obtain ⟨k1, k2, k3, k4, k5, k6, k7, k8⟩ := h
  refine ⟨k1, k2, ?_, ?_, k5, Or.inr h1, ?_, ?_⟩
  · unfold m_b at k3 ⊢
    simp only [rM_blocks_row, rM_blocks_len, rM_blocks_rises, rM_blocks_costs, rM_blocks_laid, rM_many_row, rM_many_len, rM_many_rises, rM_many_costs, rM_many_laid, rM_weights_row, rM_weights_len, rM_weights_rises, rM_weights_costs, rM_weights_laid, rM_shifts_row, rM_shifts_len, rM_shifts_rises, rM_shifts_costs, rM_shifts_laid, rM_lens_row, rM_lens_len, rM_lens_rises, rM_lens_costs, rM_lens_laid, rM_gains_row, rM_gains_len, rM_gains_rises, rM_gains_costs, rM_gains_laid]
    exact k3
  · unfold lr at k4 ⊢
    simp only [rM_layers_row, rM_layers_len, rM_layers_rises, rM_layers_costs, rM_layers_laid, rM_sizes_row, rM_sizes_len, rM_sizes_rises, rM_sizes_costs, rM_sizes_laid, rM_heads_row, rM_heads_len, rM_heads_rises, rM_heads_costs, rM_heads_laid]
    exact k4
  · simp only [rM_given_row, rM_given_len, rM_given_rises, rM_given_costs, rM_given_laid]
    exact k7
  · unfold sh_r at k8 ⊢
    rcases k8 with k8 | ⟨k8, k9, _, k10⟩
    · refine Or.inl ⟨k8.1, ?_⟩
      simp only [rM_shared_row, rM_shared_len, rM_shared_rises, rM_shared_costs, rM_shared_laid]
      exact k8.2
    · refine Or.inr ⟨k8, ?_, h1, ?_⟩
      · simp only [rM_shared_row, rM_shared_len, rM_shared_rises, rM_shared_costs, rM_shared_laid]
        exact k9
      · simp only [rM_given_row, rM_given_len, rM_given_rises, rM_given_costs, rM_given_laid]
        exact k10
/-- layRow -/
theorem ly_wp {D : BD} (hd : d_ok D) {μ : SM} (hm : m_b D μ) (hl : sM_laid μ = 0 ∨ m_l1 D μ) {Q : SM → Prop} (hQ : ∀ (l : Int32) (c : Nat → Int32) (r : Nat → Int64) (n : Int32) (a : Nat → Int32), m_l1 D (uM_row (uM_len (uM_rises (uM_costs (uM_laid μ l) c) r) n) a) → Q (uM_row (uM_len (uM_rises (uM_costs (uM_laid μ l) c) r) n) a)) : wp_M_layRow μ Q := by
  unfold wp_M_layRow
  refine ⟨fun c0 μ2 e2 μ3 e3 => ⟨d_nb D + 1, ?_⟩, fun c0 => ?_⟩
  · have hm2 : m_b D (uM_laid μ 1) := by
      unfold m_b at hm ⊢
      simp only [rM_blocks_laid, rM_many_laid, rM_weights_laid, rM_shifts_laid, rM_lens_laid, rM_gains_laid]
      exact hm
    have e3' : μ3 = uM_row (uM_len (uM_rises (uM_costs (uM_laid μ 1) (sM_costs μ)) (sM_rises μ)) (nI ([] : List Nat).length)) (sM_row μ) := by
      rw [e3, e2]
      have q1 : uM_costs (uM_laid μ 1) (sM_costs μ) = uM_laid μ 1 := by rw [← rM_costs_laid μ 1, eM_costs]
      have q2 : uM_rises (uM_laid μ 1) (sM_rises μ) = uM_laid μ 1 := by rw [← rM_rises_laid μ 1, eM_rises]
      have q3 : uM_row (uM_len (uM_laid μ 1) (nI ([] : List Nat).length)) (sM_row μ) = uM_len (uM_laid μ 1) (nI ([] : List Nat).length) := by
        rw [show sM_row μ = sM_row (uM_len (uM_laid μ 1) (nI ([] : List Nat).length)) by rw [rM_row_len, rM_row_laid], eM_row]
      rw [q1, q2, q3]; rfl
    rw [e3']
    refine ly_b hd hm2 (fun c r a R hR hh ha => hQ 1 c r (nI R.length) a ⟨?_, R, hR, ?_, ?_, ?_⟩) (d_nb D + 1) 0 _ _ _ [] (by omega) (by omega) List.Pairwise.nil (fun x => ⟨fun z => absurd z List.not_mem_nil, fun z => absurd z.2 (Nat.not_lt_zero _)⟩) (fun b' hb' => by omega) ah_nil
    · simp only [rM_laid_row, rM_laid_len, rM_laid_rises, rM_laid_costs, rM_laid_laid]
    · simp only [rM_costs_row, rM_costs_len, rM_costs_rises, rM_costs_costs, rM_rises_row, rM_rises_len, rM_rises_rises]; exact hh
    · simp only [rM_len_row, rM_len_len]
    · simp only [rM_row_row]; exact ha
  · have h1 : m_l1 D μ := hl.resolve_left c0
    have e0 : uM_row (uM_len (uM_rises (uM_costs (uM_laid μ (sM_laid μ)) (sM_costs μ)) (sM_rises μ)) (sM_len μ)) (sM_row μ) = μ := by
      rw [eM_laid, eM_costs, eM_rises, eM_len, eM_row]
    have := hQ (sM_laid μ) (sM_costs μ) (sM_rises μ) (sM_len μ) (sM_row μ)
    rw [e0] at this
    exact this h1
/-- fails: nothing wrong; something wrong; wrong already -/
theorem fa_0 {μ : SM} {p1 p2 : Int32} {Q : Int32 → SM → Prop} (h : sM_thr μ = 0) (hp : p1 = 0) (hQ : Q 0 μ) : wp_M_fails μ p1 p2 Q := by
  unfold wp_M_fails
  rw [h, hp]
  exact ⟨fun c => absurd rfl c, fun _ => ⟨fun _ => ⟨fun _ => hQ, fun c => absurd (by decide) c⟩, fun c => absurd rfl c⟩⟩
theorem fa_1 {μ : SM} {p1 p2 : Int32} {Q : Int32 → SM → Prop} (h : sM_thr μ = 0) (hp : p1 = 1) (h2 : ¬ p2 ≤ 0) (hQ : Q 1 (uM_thr μ p2)) : wp_M_fails μ p1 p2 Q := by
  unfold wp_M_fails
  rw [h, hp]
  refine ⟨fun c => absurd rfl c, fun _ => ⟨fun c => absurd c (by decide), fun _ μ5 e5 => ?_⟩⟩
  rw [e5, rM_thr_thr]
  exact ⟨fun c => absurd c h2, fun _ => hQ⟩
theorem fa_2 {μ : SM} {p1 p2 : Int32} {Q : Int32 → SM → Prop} (h : ¬ sM_thr μ ≤ 0) (hQ : Q 1 μ) : wp_M_fails μ p1 p2 Q := by
  have h0 : ¬ sM_thr μ = 0 := fun e => h (by rw [e]; decide)
  unfold wp_M_fails
  exact ⟨fun _ => ⟨fun c => absurd c h, fun _ => hQ⟩, fun c => absurd c h0⟩
theorem wi_wp {μ : SM} {v a b : Int64} {Q : Int32 → SM → Prop} (h1 : (a.toInt ≤ v.toInt ∧ v.toInt ≤ b.toInt) → Q 1 μ) (h0 : ¬ (a.toInt ≤ v.toInt ∧ v.toInt ≤ b.toInt) → Q 0 μ) : wp_M_within μ v a b Q := by
  unfold wp_M_within
  rw [lg_lt0, lg_gt0]
  exact ⟨fun c => h0 (by omega), fun c => ⟨fun c2 => h0 (by omega), fun c2 => h1 (by omega)⟩⟩
theorem nw_wp {σ : SX} {v a b : Int64} {Q : SX → Prop} {QX : String → SX → Prop} (h1 : (a.toInt ≤ v.toInt ∧ v.toInt ≤ b.toInt) → Q σ) (h0 : ¬ (a.toInt ≤ v.toInt ∧ v.toInt ≤ b.toInt) → QX "java/lang/IllegalArgumentException" σ) : wp_X_needWithin σ v a b Q QX := by
  unfold wp_X_needWithin
  rw [lg_lt0, lg_le0]
  exact ⟨fun c => h0 (by omega), fun c => ⟨fun c2 => h1 (by omega), fun c2 => h0 (by omega)⟩⟩
/-- a number is one of n places, or none -/
theorem in_n {x : Int32} {n : Nat} (hn : n < 2 ^ 31) : (∃ b, b < n ∧ x = nI b) ∨ (x < 0 ∨ ¬ x < nI n) := by
  rcases pk_ix x hn with h | h | h
  · exact Or.inr (Or.inl h)
  · exact Or.inr (Or.inr (fun q => by have := Int32.lt_iff_toInt_lt.mp q; have := Int32.le_iff_toInt_le.mp h; omega))
  · exact Or.inl h
theorem nb_wp {σ : SX} {n : Nat} (hn : n < 2 ^ 31) (hbc : sX_bc σ = nI n) {x : Int32} {Q : SX → Prop} {QX : String → SX → Prop} (h1 : ∀ b, b < n → x = nI b → Q σ) (h0 : (x < 0 ∨ ¬ x < nI n) → QX "java/lang/IndexOutOfBoundsException" σ) : wp_X_needBlock σ x Q QX := by
  unfold wp_X_needBlock
  rw [hbc]
  refine ⟨fun c => h0 (Or.inl c), fun c => ⟨fun c2 => ?_, fun c2 => h0 (Or.inr c2)⟩⟩
  rcases in_n (x := x) hn with ⟨b, hb, e⟩ | z | z
  · exact h1 b hb e
  · exact absurd z c
  · exact absurd c2 z
theorem nl_wp {σ : SX} {n : Nat} (hn : n < 2 ^ 31) (hbc : sX_layers σ = nI n) {x : Int32} {Q : SX → Prop} {QX : String → SX → Prop} (h1 : ∀ b, b < n → x = nI b → Q σ) (h0 : (x < 0 ∨ ¬ x < nI n) → QX "java/lang/IndexOutOfBoundsException" σ) : wp_X_needLayer σ x Q QX := by
  unfold wp_X_needLayer
  rw [hbc]
  refine ⟨fun c => h0 (Or.inl c), fun c => ⟨fun c2 => ?_, fun c2 => h0 (Or.inr c2)⟩⟩
  rcases in_n (x := x) hn with ⟨b, hb, e⟩ | z | z
  · exact h1 b hb e
  · exact absurd z c
  · exact absurd c2 z
theorem ge_lt {x : Int32} {n : Nat} : nI n ≤ x ↔ ¬ x < nI n := by
  rw [Int32.le_iff_toInt_le, Int32.lt_iff_toInt_lt]; omega
theorem ibl_wp {μ : SM} {n : Nat} (hn : n < 2 ^ 31) (hbc : sM_blocks μ = nI n) {x : Int32} {Q : Int32 → SM → Prop} (h1 : ∀ b, b < n → x = nI b → Q 1 μ) (h0 : (x < 0 ∨ ¬ x < nI n) → Q 0 μ) : wp_M_isBlock μ x Q := by
  unfold wp_M_isBlock
  rw [hbc, ge_lt]
  refine ⟨fun c => h0 (Or.inl c), fun c => ⟨fun c2 => h0 (Or.inr c2), fun c2 => ?_⟩⟩
  rcases in_n (x := x) hn with ⟨b, hb, e⟩ | z | z
  · exact h1 b hb e
  · exact absurd z c
  · exact absurd z c2
theorem ila_wp {μ : SM} {n : Nat} (hn : n < 2 ^ 31) (hbc : sM_layers μ = nI n) {x : Int32} {Q : Int32 → SM → Prop} (h1 : ∀ b, b < n → x = nI b → Q 1 μ) (h0 : (x < 0 ∨ ¬ x < nI n) → Q 0 μ) : wp_M_isLayer μ x Q := by
  unfold wp_M_isLayer
  rw [hbc, ge_lt]
  refine ⟨fun c => h0 (Or.inl c), fun c => ⟨fun c2 => h0 (Or.inr c2), fun c2 => ?_⟩⟩
  rcases in_n (x := x) hn with ⟨b, hb, e⟩ | z | z
  · exact h1 b hb e
  · exact absurd z c
  · exact absurd z c2
