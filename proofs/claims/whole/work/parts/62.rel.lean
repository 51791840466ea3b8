/-! class and reference side by side -/
def d_sum (D : BD) : Nat → Nat
  | 0 => 0
  | n + 1 => d_sum D n + d_cn D n
noncomputable def cI (D : BD) (x : Nat) : Int32 := Int32.ofInt (d_cost D x)
noncomputable def rI (D : BD) (x : Nat) : Int64 := Int64.ofInt (d_rise D x)
theorem cI_of {D : BD} {x : Nat} {v : Int32} (h : v.toInt = d_cost D x) : v = cI D x := by rw [cI, ← h, Int32.ofInt_toInt]
theorem rI_of {D : BD} {x : Nat} {v : Int64} (h : v.toInt = d_rise D x) : v = rI D x := by rw [rI, ← h, Int64.ofInt_toInt]
/-- how many of a list a layer of size S takes that holds s already; what it then holds -/
def flN (c : Nat → Int32) (S : Int32) : List Nat → Int32 → Nat
  | [], _ => 0
  | x :: r, s => if S < s + c x then 0 else flN c S r (s + c x) + 1
def flS (c : Nat → Int32) (S : Int32) : List Nat → Int32 → Int32
  | [], s => s
  | x :: r, s => if S < s + c x then s else flS c S r (s + c x)
/-- where the layers before k end -/
def en (c : Nat → Int32) (h S : Nat → Int32) (R : List Nat) : Nat → Nat
  | 0 => 0
  | k + 1 => if S k < h k then en c h S R k else en c h S R k + flN c (S k) (R.drop (en c h S R k)) (h k)
theorem flN_le (c : Nat → Int32) (S : Int32) : ∀ (r : List Nat) (s : Int32), flN c S r s ≤ r.length := by
  intro r
  induction r with
  | nil => intro s; exact Nat.le_refl _
  | cons x r ih =>
    intro s
    rw [flN, List.length_cons]
    split
    · omega
    · have := ih (s + c x); omega
theorem en_le (c : Nat → Int32) (h S : Nat → Int32) (R : List Nat) : ∀ k, en c h S R k ≤ R.length := by
  intro k
  induction k with
  | zero => exact Nat.zero_le _
  | succ k ih =>
    rw [en]
    split
    · exact ih
    · have := flN_le c (S k) (R.drop (en c h S R k)) (h k)
      rw [List.length_drop] at this
      omega
def lr (nl : Nat) (σ : SX) (μ : SM) : Prop := 1 ≤ nl ∧ nl ≤ 16 ∧ sX_nl σ = nl ∧ sX_layers σ = nI nl ∧ sM_layers μ = nI nl ∧ ∀ k, k < nl → sX_sizes σ k = sM_sizes μ k ∧ sX_heads σ k = sM_heads μ k
/-- the reference's row is laid -/
def m_l1 (D : BD) (μ : SM) : Prop := sM_laid μ = 1 ∧ ∃ R : List Nat, d_row D R ∧ (∀ b, b < d_nb D → m_h D b (d_cn D b) (sM_costs μ) (sM_rises μ)) ∧ sM_len μ = nI R.length ∧ ah (sM_row μ) 0 (R.map mi)
def sh_k (D : BD) (R : List Nat) (σ : SX) (g : Nat → Int32) (k : Nat) : Prop := sX_ends σ k = nI (en (cI D) (sX_heads σ) (sX_sizes σ) R (k + 1)) ∧ g (k + 1) = nI (en (cI D) (sX_heads σ) (sX_sizes σ) R (k + 1)) ∧ sX_held σ k = (if sX_sizes σ k < sX_heads σ k then 0 else flS (cI D) (sX_sizes σ k) (R.drop (en (cI D) (sX_heads σ) (sX_sizes σ) R k)) (sX_heads σ k))
def sh_r (D : BD) (nl : Nat) (σ : SX) (μ : SM) : Prop := (sX_shared σ = 0 ∧ sM_shared μ = 0) ∨ (sX_shared σ = 1 ∧ sM_shared μ = 1 ∧ m_l1 D μ ∧ ∃ R : List Nat, d_row D R ∧ ∀ k, k < nl → sh_k D R σ (sM_given μ) k)
def RR (D : BD) (nl : Nat) (σ : SX) (μ : SM) : Prop := x_b D σ ∧ x_r D σ ∧ m_b D μ ∧ lr nl σ μ ∧ sX_pc σ = nI (d_sum D (d_nb D)) ∧ (sM_laid μ = 0 ∨ m_l1 D μ) ∧ sM_given μ 0 = 0 ∧ sh_r D nl σ μ
theorem m_l1_thr {D : BD} {μ : SM} {t : Int32} (h : m_l1 D μ) : m_l1 D (uM_thr μ t) := by
  unfold m_l1 at h ⊢
  simp only [rM_laid_thr, rM_costs_thr, rM_rises_thr, rM_len_thr, rM_row_thr]
  exact h
theorem RR_thr {D : BD} {nl : Nat} {σ : SX} {μ : SM} (h : RR D nl σ μ) (t : Int32) : RR D nl σ (uM_thr μ t) := by
  unfold RR m_b lr m_l1 sh_r m_l1 at h ⊢
  simp only [rM_blocks_thr, rM_many_thr, rM_weights_thr, rM_shifts_thr, rM_lens_thr, rM_gains_thr, rM_layers_thr, rM_sizes_thr, rM_heads_thr, rM_laid_thr, rM_costs_thr, rM_rises_thr, rM_len_thr, rM_row_thr, rM_given_thr, rM_shared_thr]
  exact h
/-- the row is laid when one asks for it -/
theorem RR_lay {D : BD} {nl : Nat} {σ : SX} {μ : SM} {l : Int32} {c : Nat → Int32} {r : Nat → Int64} {n : Int32} {a : Nat → Int32} (h : RR D nl σ μ) (h1 : m_l1 D (uM_row (uM_len (uM_rises (uM_costs (uM_laid μ l) c) r) n) a)) : RR D nl σ (uM_row (uM_len (uM_rises (uM_costs (uM_laid μ l) c) r) n) a) := by
  obtain ⟨k1, k2, k3, k4, k5, k6, k7, k8⟩ := h
  refine ⟨k1, k2, ?_, ?_, k5, Or.inr h1, ?_, ?_⟩
  · unfold m_b at k3 ⊢
    simp only [rM_blocks_row, rM_blocks_len, rM_blocks_rises, rM_blocks_costs, rM_blocks_laid, rM_many_row, rM_many_len, rM_many_rises, rM_many_costs, rM_many_laid, rM_weights_row, rM_weights_len, rM_weights_rises, rM_weights_costs, rM_weights_laid, rM_shifts_row, rM_shifts_len, rM_shifts_rises, rM_shifts_costs, rM_shifts_laid, rM_lens_row, rM_lens_len, rM_lens_rises, rM_lens_costs, rM_lens_laid, rM_gains_row, rM_gains_len, rM_gains_rises, rM_gains_costs, rM_gains_laid]
    exact k3
  · unfold lr at k4 ⊢
    simp only [rM_layers_row, rM_layers_len, rM_layers_rises, rM_layers_costs, rM_layers_laid, rM_sizes_row, rM_sizes_len, rM_sizes_rises, rM_sizes_costs, rM_sizes_laid, rM_heads_row, rM_heads_len, rM_heads_rises, rM_heads_costs, rM_heads_laid]
    exact k4
  · simp only [rM_given_row, rM_given_len, rM_given_rises, rM_given_costs, rM_given_laid]
    exact k7
  · unfold sh_r at k8 ⊢
    rcases k8 with k8 | ⟨k8, k9, _, k10⟩
    · refine Or.inl ⟨k8.1, ?_⟩
      simp only [rM_shared_row, rM_shared_len, rM_shared_rises, rM_shared_costs, rM_shared_laid]
      exact k8.2
    · refine Or.inr ⟨k8, ?_, h1, ?_⟩
      · simp only [rM_shared_row, rM_shared_len, rM_shared_rises, rM_shared_costs, rM_shared_laid]
        exact k9
      · simp only [rM_given_row, rM_given_len, rM_given_rises, rM_given_costs, rM_given_laid]
        exact k10
theorem ly_wp0 {D : BD} (hd : d_ok D) {μ : SM} (hm : m_b D μ) (hl : sM_laid μ = 0 ∨ m_l1 D μ) {Q : SM → Prop} (hQ : ∀ (l : Int32) (c : Nat → Int32) (r : Nat → Int64) (n : Int32) (a : Nat → Int32), m_l1 D (uM_row (uM_len (uM_rises (uM_costs (uM_laid μ l) c) r) n) a) → Q (uM_row (uM_len (uM_rises (uM_costs (uM_laid μ l) c) r) n) a)) : wp_M_layRow μ Q := by
  unfold wp_M_layRow
  refine ⟨fun c0 μ2 e2 μ3 e3 => ⟨d_nb D + 1, ?_⟩, fun c0 => ?_⟩
  · have hm2 : m_b D (uM_laid μ 1) := by
      unfold m_b at hm ⊢
      simp only [rM_blocks_laid, rM_many_laid, rM_weights_laid, rM_shifts_laid, rM_lens_laid, rM_gains_laid]
      exact hm
    have e3' : μ3 = uM_row (uM_len (uM_rises (uM_costs (uM_laid μ 1) (sM_costs μ)) (sM_rises μ)) (nI ([] : List Nat).length)) (sM_row μ) := by
      rw [e3, e2]
      have q1 : uM_costs (uM_laid μ 1) (sM_costs μ) = uM_laid μ 1 := by rw [← rM_costs_laid μ 1, eM_costs]
      have q2 : uM_rises (uM_laid μ 1) (sM_rises μ) = uM_laid μ 1 := by rw [← rM_rises_laid μ 1, eM_rises]
      have q3 : uM_row (uM_len (uM_laid μ 1) (nI ([] : List Nat).length)) (sM_row μ) = uM_len (uM_laid μ 1) (nI ([] : List Nat).length) := by
        rw [show sM_row μ = sM_row (uM_len (uM_laid μ 1) (nI ([] : List Nat).length)) by rw [rM_row_len, rM_row_laid], eM_row]
      rw [q1, q2, q3]; rfl
    rw [e3']
    refine ly_b hd hm2 (fun c r a R hR hh ha => hQ 1 c r (nI R.length) a ⟨?_, R, hR, ?_, ?_, ?_⟩) (d_nb D + 1) 0 _ _ _ [] (by omega) (by omega) List.Pairwise.nil (fun x => ⟨fun z => absurd z List.not_mem_nil, fun z => absurd z.2 (Nat.not_lt_zero _)⟩) (fun b' hb' => by omega) ah_nil
    · simp only [rM_laid_row, rM_laid_len, rM_laid_rises, rM_laid_costs, rM_laid_laid]
    · simp only [rM_costs_row, rM_costs_len, rM_costs_rises, rM_costs_costs, rM_rises_row, rM_rises_len, rM_rises_rises]; exact hh
    · simp only [rM_len_row, rM_len_len]
    · simp only [rM_row_row]; exact ha
  · have h1 : m_l1 D μ := hl.resolve_left c0
    have e0 : uM_row (uM_len (uM_rises (uM_costs (uM_laid μ (sM_laid μ)) (sM_costs μ)) (sM_rises μ)) (sM_len μ)) (sM_row μ) = μ := by
      rw [eM_laid, eM_costs, eM_rises, eM_len, eM_row]
    have := hQ (sM_laid μ) (sM_costs μ) (sM_rises μ) (sM_len μ) (sM_row μ)
    rw [e0] at this
    exact this h1
/-- layRow -/
theorem ly_wp {D : BD} {nl : Nat} {σ : SX} {μ : SM} (h : RR D nl σ μ) {Q : SM → Prop} (hQ : ∀ μ' : SM, RR D nl σ μ' → m_l1 D μ' → sM_thr μ' = sM_thr μ → Q μ') : wp_M_layRow μ Q :=
  ly_wp0 h.1.1 h.2.2.1 h.2.2.2.2.2.1 (fun l c r n a h1 => hQ _ (RR_lay h h1) h1 (by simp only [rM_thr_row, rM_thr_len, rM_thr_rises, rM_thr_costs, rM_thr_laid]))
/-- fails: nothing wrong; something wrong; wrong already -/
theorem fa_0 {μ : SM} {p1 p2 : Int32} {Q : Int32 → SM → Prop} (h : sM_thr μ = 0) (hp : p1 = 0) (hQ : Q 0 μ) : wp_M_fails μ p1 p2 Q := by
  unfold wp_M_fails
  rw [h, hp]
  exact ⟨fun c => absurd rfl c, fun _ => ⟨fun _ => ⟨fun _ => hQ, fun c => absurd (by decide) c⟩, fun c => absurd rfl c⟩⟩
theorem fa_1 {μ : SM} {p1 p2 : Int32} {Q : Int32 → SM → Prop} (h : sM_thr μ = 0) (hp : p1 = 1) (h2 : ¬ p2 ≤ 0) (hQ : Q 1 (uM_thr μ p2)) : wp_M_fails μ p1 p2 Q := by
  unfold wp_M_fails
  rw [h, hp]
  refine ⟨fun c => absurd rfl c, fun _ => ⟨fun c => absurd c (by decide), fun _ μ5 e5 => ?_⟩⟩
  rw [e5, rM_thr_thr]
  exact ⟨fun c => absurd c h2, fun _ => hQ⟩
theorem fa_2 {μ : SM} {p1 p2 : Int32} {Q : Int32 → SM → Prop} (h : ¬ sM_thr μ ≤ 0) (hQ : Q 1 μ) : wp_M_fails μ p1 p2 Q := by
  have h0 : ¬ sM_thr μ = 0 := fun e => h (by rw [e]; decide)
  unfold wp_M_fails
  exact ⟨fun _ => ⟨fun c => absurd c h, fun _ => hQ⟩, fun c => absurd c h0⟩
/-- a number between two others -/
def wn (v a b : Int64) : Prop := a.toInt ≤ v.toInt ∧ v.toInt ≤ b.toInt
theorem wi_wp {μ : SM} {v a b : Int64} {Q : Int32 → SM → Prop} (h1 : wn v a b → Q 1 μ) (h0 : ¬ wn v a b → Q 0 μ) : wp_M_within μ v a b Q := by
  unfold wn at h1 h0
  unfold wp_M_within
  rw [lg_lt0, lg_gt0]
  exact ⟨fun c => h0 (by omega), fun c => ⟨fun c2 => h0 (by omega), fun c2 => h1 (by omega)⟩⟩
theorem nw_wp {σ : SX} {v a b : Int64} {Q : SX → Prop} {QX : String → SX → Prop} (h1 : wn v a b → Q σ) (h0 : ¬ wn v a b → QX "java/lang/IllegalArgumentException" σ) : wp_X_needWithin σ v a b Q QX := by
  unfold wn at h1 h0
  unfold wp_X_needWithin
  rw [lg_lt0, lg_le0]
  exact ⟨fun c => h0 (by omega), fun c => ⟨fun c2 => h1 (by omega), fun c2 => h0 (by omega)⟩⟩
/-- a number that is none of n places -/
def no_n (x : Int32) (n : Nat) : Prop := x < 0 ∨ ¬ x < nI n
theorem in_n {x : Int32} {n : Nat} (hn : n < 2 ^ 31) : (∃ b, b < n ∧ x = nI b) ∨ no_n x n := by
  rcases pk_ix x hn with h | h | h
  · exact Or.inr (Or.inl h)
  · exact Or.inr (Or.inr (fun q => by have := Int32.lt_iff_toInt_lt.mp q; have := Int32.le_iff_toInt_le.mp h; omega))
  · exact Or.inl h
theorem nb_wp {σ : SX} {n : Nat} (hn : n < 2 ^ 31) (hbc : sX_bc σ = nI n) {x : Int32} {Q : SX → Prop} {QX : String → SX → Prop} (h1 : ∀ b, b < n → x = nI b → Q σ) (h0 : no_n x n → QX "java/lang/IndexOutOfBoundsException" σ) : wp_X_needBlock σ x Q QX := by
  unfold wp_X_needBlock
  rw [hbc]
  refine ⟨fun c => h0 (Or.inl c), fun c => ⟨fun c2 => ?_, fun c2 => h0 (Or.inr c2)⟩⟩
  rcases in_n (x := x) hn with ⟨b, hb, e⟩ | z | z
  · exact h1 b hb e
  · exact absurd z c
  · exact absurd c2 z
theorem nl_wp {σ : SX} {n : Nat} (hn : n < 2 ^ 31) (hbc : sX_layers σ = nI n) {x : Int32} {Q : SX → Prop} {QX : String → SX → Prop} (h1 : ∀ b, b < n → x = nI b → Q σ) (h0 : no_n x n → QX "java/lang/IndexOutOfBoundsException" σ) : wp_X_needLayer σ x Q QX := by
  unfold wp_X_needLayer
  rw [hbc]
  refine ⟨fun c => h0 (Or.inl c), fun c => ⟨fun c2 => ?_, fun c2 => h0 (Or.inr c2)⟩⟩
  rcases in_n (x := x) hn with ⟨b, hb, e⟩ | z | z
  · exact h1 b hb e
  · exact absurd z c
  · exact absurd c2 z
theorem ge_lt {x : Int32} {n : Nat} : nI n ≤ x ↔ ¬ x < nI n := by
  rw [Int32.le_iff_toInt_le, Int32.lt_iff_toInt_lt]; omega
theorem ibl_wp {μ : SM} {n : Nat} (hn : n < 2 ^ 31) (hbc : sM_blocks μ = nI n) {x : Int32} {Q : Int32 → SM → Prop} (h1 : ∀ b, b < n → x = nI b → Q 1 μ) (h0 : no_n x n → Q 0 μ) : wp_M_isBlock μ x Q := by
  unfold wp_M_isBlock
  rw [hbc, ge_lt]
  refine ⟨fun c => h0 (Or.inl c), fun c => ⟨fun c2 => h0 (Or.inr c2), fun c2 => ?_⟩⟩
  rcases in_n (x := x) hn with ⟨b, hb, e⟩ | z | z
  · exact h1 b hb e
  · exact absurd z c
  · exact absurd z c2
theorem ila_wp {μ : SM} {n : Nat} (hn : n < 2 ^ 31) (hbc : sM_layers μ = nI n) {x : Int32} {Q : Int32 → SM → Prop} (h1 : ∀ b, b < n → x = nI b → Q 1 μ) (h0 : no_n x n → Q 0 μ) : wp_M_isLayer μ x Q := by
  unfold wp_M_isLayer
  rw [hbc, ge_lt]
  refine ⟨fun c => h0 (Or.inl c), fun c => ⟨fun c2 => h0 (Or.inr c2), fun c2 => ?_⟩⟩
  rcases in_n (x := x) hn with ⟨b, hb, e⟩ | z | z
  · exact h1 b hb e
  · exact absurd z c
  · exact absurd z c2
theorem no_in {x : Int32} {n b : Nat} (h : no_n x n) (hn : n < 2 ^ 31) (hb : b < n) (e : x = nI b) : False := by
  subst e
  rcases h with z | z
  · exact nI_pos (by omega) z
  · exact z (nI_lt hb hn)
/-- what the loops read of the class: the row R with its costs and rises -/
def vX (D : BD) (R : List Nat) (σ : SX) : Prop := d_row D R ∧ R.length ≤ 960 ∧ sX_ol σ = nI R.length ∧ ∀ m x, R[m]? = some x → sX_order σ m = nI x ∧ x < 1000 ∧ 0 < x % 25 ∧ sX_costs σ x = cI D x ∧ sX_rises σ x = rI D x
def vM (D : BD) (R : List Nat) (μ : SM) : Prop := R.length ≤ 960 ∧ sM_len μ = nI R.length ∧ ∀ m x, R[m]? = some x → sM_row μ m = nI (mi x) ∧ mi x < 960 ∧ 0 < x % 25 ∧ sM_costs μ (mi x) = cI D x ∧ sM_rises μ (mi x) = rI D x
theorem vX_of {D : BD} {σ : SX} (hd : d_ok D) (h : x_r D σ) : ∃ R, vX D R σ := by
  obtain ⟨h1, R, h2, h3, h4⟩ := h
  refine ⟨R, h2, row_le hd h2.1 (fun x hx => (h2.2 x).mp hx), h3, fun m x hx => ?_⟩
  have hp := (h2.2 x).mp (List.mem_of_getElem? hx)
  have e := h4 m x hx
  rw [Nat.zero_add] at e
  have k := x_h_pt hd hp.1 (h1 _ hp.1) hp.2
  rw [show 25 * (x / 25) + x % 25 = x by omega] at k
  exact ⟨e, k.2.1, (x_pt_lt hd hp).2, cI_of k.2.2.1, rI_of k.2.2.2⟩
theorem vM_of {D : BD} {μ : SM} {R : List Nat} (hd : d_ok D) (hR : d_row D R) (h : m_l1 D μ) : vM D R μ := by
  obtain ⟨_, R', h2, h1, h3, h4⟩ := h
  have := d_row_uq h2 hR
  subst this
  refine ⟨row_le hd h2.1 (fun x hx => (h2.2 x).mp hx), h3, fun m x hx => ?_⟩
  have hp := (h2.2 x).mp (List.mem_of_getElem? hx)
  have e := h4 m (mi x) (by rw [List.getElem?_map, hx]; rfl)
  rw [Nat.zero_add] at e
  have k := m_h_pt hd hp.1 (h1 _ hp.1) hp rfl hp.2.2.1
  exact ⟨e, (mi_lt hd hp).1, (x_pt_lt hd hp).2, cI_of k.2.1, rI_of k.2.2⟩
theorem dr {R : List Nat} {m : Nat} (h : m < R.length) : ∃ x, R[m]? = some x ∧ R.drop m = x :: R.drop (m + 1) :=
  ⟨R[m], List.getElem?_eq_getElem h, List.drop_eq_getElem_cons h⟩
