/-! the calls that change blocks and layers -/
/-- D with block b anew -/
def du (D : BD) (b cn : Nat) (L G : Nat → Int) (w s : Nat) : BD := (d_nb D, fun c => if c = b then cn else d_cn D c, fun c => if c = b then L else d_L D c, fun c => if c = b then G else d_G D c, fun c => if c = b then w else d_w D c, fun c => if c = b then s else d_s D c)
theorem du_nb {D : BD} {b cn : Nat} {L G : Nat → Int} {w s : Nat} : d_nb (du D b cn L G w s) = d_nb D := rfl
theorem du_cn {D : BD} {b cn : Nat} {L G : Nat → Int} {w s c : Nat} : d_cn (du D b cn L G w s) c = if c = b then cn else d_cn D c := rfl
theorem du_L {D : BD} {b cn : Nat} {L G : Nat → Int} {w s c : Nat} : d_L (du D b cn L G w s) c = if c = b then L else d_L D c := rfl
theorem du_G {D : BD} {b cn : Nat} {L G : Nat → Int} {w s c : Nat} : d_G (du D b cn L G w s) c = if c = b then G else d_G D c := rfl
theorem du_w {D : BD} {b cn : Nat} {L G : Nat → Int} {w s c : Nat} : d_w (du D b cn L G w s) c = if c = b then w else d_w D c := rfl
theorem du_s {D : BD} {b cn : Nat} {L G : Nat → Int} {w s c : Nat} : d_s (du D b cn L G w s) c = if c = b then s else d_s D c := rfl
theorem du_but {D : BD} {b cn : Nat} {L G : Nat → Int} {w s : Nat} : d_but D (du D b cn L G w s) b := by
  refine ⟨rfl, fun c hc => ?_⟩
  rw [du_cn, du_L, du_G, du_w, du_s, if_neg hc, if_neg hc, if_neg hc, if_neg hc, if_neg hc]
  exact ⟨rfl, rfl, rfl, rfl, rfl⟩
def b_ok (cn : Nat) (L G : Nat → Int) (w s : Nat) : Prop := cn ≤ 24 ∧ 1 ≤ w ∧ w ≤ 100 ∧ s ≤ 3 ∧ L 0 = 0 ∧ G 0 = 0 ∧ ∀ j, j < cn → L j + 1 ≤ L (j + 1) ∧ L (j + 1) ≤ L j + 10000 ∧ G j - 1000000 ≤ G (j + 1) ∧ G (j + 1) ≤ G j + 1000000
theorem du_ok {D : BD} {b cn : Nat} {L G : Nat → Int} {w s : Nat} (hd : d_ok D) (h : b_ok cn L G w s) : d_ok (du D b cn L G w s) := by
  refine ⟨hd.1, fun c hc => ?_⟩
  rw [du_cn, du_L, du_G, du_w, du_s]
  by_cases e : c = b
  · rw [if_pos e, if_pos e, if_pos e, if_pos e, if_pos e]; exact h
  · rw [if_neg e, if_neg e, if_neg e, if_neg e, if_neg e]; exact hd.2 c hc
theorem x_b_du {D : BD} {b cn : Nat} {L G : Nat → Int} {w s : Nat} {σ τ : SX} (hx : x_b D σ) (h : b_ok cn L G w s) (h1 : sX_bc τ = sX_bc σ) (h2 : ∀ c, c ≠ b → sX_counts τ c = sX_counts σ c ∧ sX_weights τ c = sX_weights σ c ∧ sX_shifts τ c = sX_shifts σ c) (h3 : sX_counts τ b = nI cn ∧ sX_weights τ b = nI w ∧ sX_shifts τ b = nI s) (h4 : ∀ c, c < 40 → sX_ls τ (25 * c) = 0 ∧ sX_gs τ (25 * c) = 0) (h5 : ∀ c, c ≠ b → ∀ j, j ≤ 24 → sX_ls τ (25 * c + j) = sX_ls σ (25 * c + j) ∧ sX_gs τ (25 * c + j) = sX_gs σ (25 * c + j)) (h6 : ∀ j, j ≤ cn → (sX_ls τ (25 * b + j)).toInt = L j ∧ (sX_gs τ (25 * b + j)).toInt = G j) : x_b (du D b cn L G w s) τ := by
  obtain ⟨k1, k2, k3, k4, k5⟩ := hx
  refine ⟨du_ok k1 h, by rw [h1, du_nb]; exact k2, fun c hc => ?_, h4, fun c hc j hj => ?_⟩
  · rw [du_cn, du_w, du_s]
    by_cases e : c = b
    · rw [if_pos e, if_pos e, if_pos e, e]; exact h3
    · rw [if_neg e, if_neg e, if_neg e, (h2 c e).1, (h2 c e).2.1, (h2 c e).2.2]; exact k3 c hc
  · rw [du_cn] at hj
    rw [du_L, du_G]
    by_cases e : c = b
    · rw [if_pos e] at hj; rw [if_pos e, if_pos e, e]; exact h6 j hj
    · rw [if_neg e] at hj
      rw [if_neg e, if_neg e]
      have := (k1.2 c hc).1
      rw [(h5 c e j (by omega)).1, (h5 c e j (by omega)).2]
      exact k5 c hc j hj
theorem m_b_du {D : BD} (hd : d_ok D) {b cn : Nat} {L G : Nat → Int} {w s : Nat} {μ ν : SM} (hm : m_b D μ) (h1 : sM_blocks ν = sM_blocks μ) (h2 : ∀ c, c ≠ b → sM_many ν c = sM_many μ c ∧ sM_weights ν c = sM_weights μ c ∧ sM_shifts ν c = sM_shifts μ c) (h3 : sM_many ν b = nI cn ∧ sM_weights ν b = nI w ∧ sM_shifts ν b = nI s) (h5 : ∀ c, c ≠ b → ∀ j, j < 24 → sM_lens ν (24 * c + j) = sM_lens μ (24 * c + j) ∧ sM_gains ν (24 * c + j) = sM_gains μ (24 * c + j)) (h6 : ∀ j, j < cn → (sM_lens ν (24 * b + j)).toInt = L (j + 1) ∧ (sM_gains ν (24 * b + j)).toInt = G (j + 1)) : m_b (du D b cn L G w s) ν := by
  obtain ⟨k2, k3, k5⟩ := hm
  refine ⟨by rw [h1, du_nb]; exact k2, fun c hc => ?_, fun c hc j hj => ?_⟩
  · rw [du_cn, du_w, du_s]
    by_cases e : c = b
    · rw [if_pos e, if_pos e, if_pos e, e]; exact h3
    · rw [if_neg e, if_neg e, if_neg e, (h2 c e).1, (h2 c e).2.1, (h2 c e).2.2]; exact k3 c hc
  · rw [du_cn] at hj
    rw [du_L, du_G]
    by_cases e : c = b
    · rw [if_pos e] at hj; rw [if_pos e, if_pos e, e]; exact h6 j hj
    · rw [if_neg e] at hj
      rw [if_neg e, if_neg e]
      have := (hd.2 c hc).1
      rw [(h5 c e j (by omega)).1, (h5 c e j (by omega)).2]
      exact k5 c hc j hj
/-- what a renewed block leaves -/
def kX (σ τ : SX) : Prop := sX_nl τ = sX_nl σ ∧ sX_layers τ = sX_layers σ ∧ sX_sizes τ = sX_sizes σ ∧ sX_heads τ = sX_heads σ ∧ sX_shared τ = 0
def kM (μ ν : SM) : Prop := sM_layers ν = sM_layers μ ∧ sM_sizes ν = sM_sizes μ ∧ sM_heads ν = sM_heads μ ∧ sM_given ν = sM_given μ ∧ sM_laid ν = 0 ∧ sM_shared ν = 0
theorem RR_new {D D' : BD} {nl : Nat} {σ τ : SX} {μ ν : SM} (h : RR D nl σ μ) (h1 : kX σ τ) (h2 : kM μ ν) (h3 : x_b D' τ) (h4 : x_r D' τ) (h5 : m_b D' ν) (h6 : sX_pc τ = nI (d_sum D' (d_nb D'))) : RR D' nl τ ν := by
  obtain ⟨a1, a2, a3, a4, a5⟩ := h1
  obtain ⟨b1, b2, b3, b4, b5, b6⟩ := h2
  obtain ⟨_, _, _, k4, _, _, k7, _⟩ := h
  refine ⟨h3, h4, h5, ?_, h6, Or.inl b5, by rw [b4]; exact k7, Or.inl ⟨a5, b6⟩⟩
  unfold lr at k4 ⊢
  rw [a1, a2, a3, a4, b1, b2, b3]
  exact k4
theorem ren {D : BD} {b cn : Nat} {L G : Nat → Int} {w s : Nat} {σ τ : SX} (hd : d_ok D) (hr : x_r D σ) (hb : b < d_nb D) (hx : x_b (du D b cn L G w s) τ) (h1 : sX_costs τ = sX_costs σ ∧ sX_rises τ = sX_rises σ ∧ sX_ol τ = sX_ol σ ∧ sX_order τ = sX_order σ) {Q : SX → Prop} (hQ : ∀ υ : SX, x_b (du D b cn L G w s) υ → x_r (du D b cn L G w s) υ → kX τ υ → sX_pc υ = sX_pc τ → Q υ) : wp_X_renewBlock τ (nI b) Q := by
  obtain ⟨e1, e2, e3, e4⟩ := h1
  obtain ⟨r1, r2⟩ := hr
  refine rn_wp hx hb hd du_but (fun c hc _ => by rw [e1, e2]; exact r1 c hc) (by rw [e3, e4]; exact r2) (fun c r a n h => hQ _ ?_ ?_ ?_ ?_)
  · unfold x_b at hx ⊢
    simp only [rX_bc_ol, rX_bc_order, rX_bc_costs, rX_bc_rises, rX_bc_shared, rX_counts_ol, rX_counts_order, rX_counts_costs, rX_counts_rises, rX_counts_shared, rX_weights_ol, rX_weights_order, rX_weights_costs, rX_weights_rises, rX_weights_shared, rX_shifts_ol, rX_shifts_order, rX_shifts_costs, rX_shifts_rises, rX_shifts_shared, rX_ls_ol, rX_ls_order, rX_ls_costs, rX_ls_rises, rX_ls_shared, rX_gs_ol, rX_gs_order, rX_gs_costs, rX_gs_rises, rX_gs_shared]
    exact hx
  · unfold x_r at h ⊢
    simp only [rX_costs_ol, rX_costs_order, rX_costs_costs, rX_costs_rises, rX_costs_shared, rX_rises_ol, rX_rises_order, rX_rises_costs, rX_rises_rises, rX_rises_shared, rX_ol_ol, rX_ol_order, rX_ol_costs, rX_ol_rises, rX_ol_shared, rX_order_ol, rX_order_order, rX_order_costs, rX_order_rises, rX_order_shared] at h ⊢
    exact h
  · unfold kX
    simp only [rX_nl_ol, rX_nl_order, rX_nl_costs, rX_nl_rises, rX_nl_shared, rX_layers_ol, rX_layers_order, rX_layers_costs, rX_layers_rises, rX_layers_shared, rX_sizes_ol, rX_sizes_order, rX_sizes_costs, rX_sizes_rises, rX_sizes_shared, rX_heads_ol, rX_heads_order, rX_heads_costs, rX_heads_rises, rX_heads_shared, rX_shared_ol, rX_shared_order, rX_shared_costs, rX_shared_rises, rX_shared_shared]
    exact ⟨trivial, trivial, trivial, trivial, trivial⟩
  · simp only [rX_pc_ol, rX_pc_order, rX_pc_costs, rX_pc_rises, rX_pc_shared]
theorem up_same {f : Nat → Int32} {b c : Nat} {v : Int32} : upd f b v c = if c = b then v else f c := rfl
theorem wn_32 {v : Int32} {a b : Int64} {x y : Int} (ha : a.toInt = x) (hb : b.toInt = y) (h : wn v.toInt64 a b) : x ≤ v.toInt ∧ v.toInt ≤ y := by
  unfold wn at h
  rw [Int32.toInt_toInt64, ha, hb] at h
  exact h
theorem nI_ofInt {v : Int32} (h : 0 ≤ v.toInt) : v = nI v.toInt.toNat := by
  have h2 := Int32.toInt_lt v
  refine Int32.toInt_inj.mp ?_
  rw [nI_toInt (by omega)]
  omega
theorem X_weight {D : BD} {nl : Nat} {σ : SX} {μ : SM} (h : RR D nl σ μ) {p v : Int32} {Q : Int32 → SX → Prop} {QX : String → SX → Prop} (h1 : no_n p (d_nb D) → QX "java/lang/IndexOutOfBoundsException" σ) (h2 : ∀ b, b < d_nb D → p = nI b → ¬ wn v.toInt64 1 100 → QX "java/lang/IllegalArgumentException" σ) (h0 : ∀ b, b < d_nb D → p = nI b → wn v.toInt64 1 100 → ∀ τ, x_b (du D b (d_cn D b) (d_L D b) (d_G D b) (v.toInt.toNat) (d_s D b)) τ → x_r (du D b (d_cn D b) (d_L D b) (d_G D b) (v.toInt.toNat) (d_s D b)) τ → kX σ τ → sX_pc τ = sX_pc σ → Q (sX_weights σ b) τ) : wp_X_weight σ p v Q QX := by
  obtain ⟨k1, k2, _⟩ := h
  have h40 := k1.1.1
  unfold wp_X_weight
  refine nb_wp (by omega) k1.2.1 (fun b hb e => nw_wp (fun hw => ?_) (fun hw => h2 b hb e hw)) h1
  refine ⟨pk_in b 40 (by omega) e, fun x4 e4 => ⟨pk_in b 40 (by omega) e, fun σ6 e6 => ?_⟩⟩
  rw [pk_cl b e] at e4 e6
  rw [e, e4]
  obtain ⟨w1, w2⟩ := wn_32 (x := 1) (y := 100) (by decide +kernel) (by decide +kernel) hw
  obtain ⟨o1, o2, o3, o4, o5⟩ := k1.1.2 b hb
  have ev := nI_ofInt (v := v) (by omega)
  have hx : x_b (du D b (d_cn D b) (d_L D b) (d_G D b) (v.toInt.toNat) (d_s D b)) σ6 := by
    rw [e6]
    refine x_b_du k1 ⟨o1, by omega, by omega, by omega, o5.1, o5.2.1, o5.2.2⟩ ?_ ?_ ?_ ?_ ?_ ?_ <;> simp only [rX_bc_weights, rX_counts_weights, rX_weights_weights, rX_shifts_weights, rX_ls_weights, rX_gs_weights]
    · intro c hc
      simp only [pk_un hc]
      exact ⟨trivial, trivial, trivial⟩
    · simp only [pk_us, ← ev]
      have := k1.2.2.1 b hb
      refine ⟨?_, ?_, ?_⟩
      all_goals first | trivial | exact this.1 | exact this.2.1 | exact this.2.2
    · exact k1.2.2.2.1
    · intro c _ j _; exact ⟨trivial, trivial⟩
    · intro j hj; exact k1.2.2.2.2 b hb j hj
  refine ren k1.1 k2 hb hx (by rw [e6]; simp only [rX_costs_weights, rX_rises_weights, rX_ol_weights, rX_order_weights]; exact ⟨trivial, trivial, trivial, trivial⟩) (fun υ y1 y2 y3 y4 => h0 b hb e hw υ y1 y2 ?_ ?_)
  · unfold kX at y3 ⊢
    rw [e6] at y3
    simp only [rX_nl_weights, rX_layers_weights, rX_sizes_weights, rX_heads_weights] at y3
    exact y3
  · rw [y4, e6]; simp only [rX_pc_weights]
theorem X_shift {D : BD} {nl : Nat} {σ : SX} {μ : SM} (h : RR D nl σ μ) {p v : Int32} {Q : Int32 → SX → Prop} {QX : String → SX → Prop} (h1 : no_n p (d_nb D) → QX "java/lang/IndexOutOfBoundsException" σ) (h2 : ∀ b, b < d_nb D → p = nI b → ¬ wn v.toInt64 0 3 → QX "java/lang/IllegalArgumentException" σ) (h0 : ∀ b, b < d_nb D → p = nI b → wn v.toInt64 0 3 → ∀ τ, x_b (du D b (d_cn D b) (d_L D b) (d_G D b) (d_w D b) (v.toInt.toNat)) τ → x_r (du D b (d_cn D b) (d_L D b) (d_G D b) (d_w D b) (v.toInt.toNat)) τ → kX σ τ → sX_pc τ = sX_pc σ → Q (sX_shifts σ b) τ) : wp_X_shift σ p v Q QX := by
  obtain ⟨k1, k2, _⟩ := h
  have h40 := k1.1.1
  unfold wp_X_shift
  refine nb_wp (by omega) k1.2.1 (fun b hb e => nw_wp (fun hw => ?_) (fun hw => h2 b hb e hw)) h1
  refine ⟨pk_in b 40 (by omega) e, fun x4 e4 => ⟨pk_in b 40 (by omega) e, fun σ6 e6 => ?_⟩⟩
  rw [pk_cl b e] at e4 e6
  rw [e, e4]
  obtain ⟨w1, w2⟩ := wn_32 (x := 0) (y := 3) (by decide +kernel) (by decide +kernel) hw
  obtain ⟨o1, o2, o3, o4, o5⟩ := k1.1.2 b hb
  have ev := nI_ofInt (v := v) (by omega)
  have hx : x_b (du D b (d_cn D b) (d_L D b) (d_G D b) (d_w D b) (v.toInt.toNat)) σ6 := by
    rw [e6]
    refine x_b_du k1 ⟨o1, by omega, by omega, by omega, o5.1, o5.2.1, o5.2.2⟩ ?_ ?_ ?_ ?_ ?_ ?_ <;> simp only [rX_bc_shifts, rX_counts_shifts, rX_weights_shifts, rX_shifts_shifts, rX_ls_shifts, rX_gs_shifts]
    · intro c hc
      simp only [pk_un hc]
      exact ⟨trivial, trivial, trivial⟩
    · simp only [pk_us, ← ev]
      have := k1.2.2.1 b hb
      refine ⟨?_, ?_, ?_⟩
      all_goals first | trivial | exact this.1 | exact this.2.1 | exact this.2.2
    · exact k1.2.2.2.1
    · intro c _ j _; exact ⟨trivial, trivial⟩
    · intro j hj; exact k1.2.2.2.2 b hb j hj
  refine ren k1.1 k2 hb hx (by rw [e6]; simp only [rX_costs_shifts, rX_rises_shifts, rX_ol_shifts, rX_order_shifts]; exact ⟨trivial, trivial, trivial, trivial⟩) (fun υ y1 y2 y3 y4 => h0 b hb e hw υ y1 y2 ?_ ?_)
  · unfold kX at y3 ⊢
    rw [e6] at y3
    simp only [rX_nl_shifts, rX_layers_shifts, rX_sizes_shifts, rX_heads_shifts] at y3
    exact y3
  · rw [y4, e6]; simp only [rX_pc_shifts]
theorem M_weight {μ : SM} {n : Nat} (hn : n ≤ 40) (hb : sM_blocks μ = nI n) {p v : Int32} {Q : Int32 → SM → Prop} (h1 : no_n p n → Q 0 (uM_thr μ 1)) (h2 : ∀ b, b < n → p = nI b → ¬ wn v.toInt64 1 100 → Q 0 (uM_thr μ 2)) (h0 : ∀ b, b < n → p = nI b → wn v.toInt64 1 100 → Q (sM_weights μ b) (uM_shared (uM_laid (uM_weights (uM_thr μ 0) (upd (sM_weights μ) b v)) 0) 0)) : wp_M_weight μ p v Q := by
  unfold wp_M_weight
  intro μ1 e1
  have hb1 : sM_blocks μ1 = nI n := by rw [e1, rM_blocks_thr]; exact hb
  have t1 : sM_thr μ1 = 0 := by rw [e1, rM_thr_thr]
  refine ibl_wp (by omega) hb1 (fun b hbn e => ⟨fun _ => ?_, fun c => absurd c (by decide)⟩) (fun c => ⟨fun c' => absurd rfl c', fun _ => ?_⟩)
  · unfold wj_M_weight_19
    refine fa_0 t1 rfl ⟨fun c => absurd rfl c, fun _ => ?_⟩
    refine wi_wp (fun hw => ⟨fun _ => ?_, fun c => absurd c (by decide)⟩) (fun hw => ⟨fun c => absurd rfl c, fun _ => ?_⟩)
    · unfold wj_M_weight_44
      refine fa_0 t1 rfl ⟨fun _ => ?_, fun c => absurd rfl c⟩
      refine ⟨pk_in b 40 (by omega) e, fun x15 e15 => ⟨pk_in b 40 (by omega) e, fun μ17 e17 => ?_⟩⟩
      unfold wp_M_spoil
      intro μa ea μb eb
      rw [pk_cl b e] at e15 e17
      rw [eb, ea, e17, e15, e1, rM_weights_thr]
      exact h0 b hbn e hw
    · unfold wj_M_weight_44
      refine fa_1 t1 rfl (by decide) ⟨fun c => absurd c (by decide), fun _ => ?_⟩
      rw [e1, oM_thr]
      exact h2 b hbn e hw
  · unfold wj_M_weight_19
    refine fa_1 t1 rfl (by decide) ⟨fun _ => ?_, fun c => absurd c (by decide)⟩
    rw [e1, oM_thr]
    exact h1 c
theorem M_shift {μ : SM} {n : Nat} (hn : n ≤ 40) (hb : sM_blocks μ = nI n) {p v : Int32} {Q : Int32 → SM → Prop} (h1 : no_n p n → Q 0 (uM_thr μ 1)) (h2 : ∀ b, b < n → p = nI b → ¬ wn v.toInt64 0 3 → Q 0 (uM_thr μ 2)) (h0 : ∀ b, b < n → p = nI b → wn v.toInt64 0 3 → Q (sM_shifts μ b) (uM_shared (uM_laid (uM_shifts (uM_thr μ 0) (upd (sM_shifts μ) b v)) 0) 0)) : wp_M_shift μ p v Q := by
  unfold wp_M_shift
  intro μ1 e1
  have hb1 : sM_blocks μ1 = nI n := by rw [e1, rM_blocks_thr]; exact hb
  have t1 : sM_thr μ1 = 0 := by rw [e1, rM_thr_thr]
  refine ibl_wp (by omega) hb1 (fun b hbn e => ⟨fun _ => ?_, fun c => absurd c (by decide)⟩) (fun c => ⟨fun c' => absurd rfl c', fun _ => ?_⟩)
  · unfold wj_M_shift_19
    refine fa_0 t1 rfl ⟨fun c => absurd rfl c, fun _ => ?_⟩
    refine wi_wp (fun hw => ⟨fun _ => ?_, fun c => absurd c (by decide)⟩) (fun hw => ⟨fun c => absurd rfl c, fun _ => ?_⟩)
    · unfold wj_M_shift_44
      refine fa_0 t1 rfl ⟨fun _ => ?_, fun c => absurd rfl c⟩
      refine ⟨pk_in b 40 (by omega) e, fun x15 e15 => ⟨pk_in b 40 (by omega) e, fun μ17 e17 => ?_⟩⟩
      unfold wp_M_spoil
      intro μa ea μb eb
      rw [pk_cl b e] at e15 e17
      rw [eb, ea, e17, e15, e1, rM_shifts_thr]
      exact h0 b hbn e hw
    · unfold wj_M_shift_44
      refine fa_1 t1 rfl (by decide) ⟨fun c => absurd c (by decide), fun _ => ?_⟩
      rw [e1, oM_thr]
      exact h2 b hbn e hw
  · unfold wj_M_shift_19
    refine fa_1 t1 rfl (by decide) ⟨fun _ => ?_, fun c => absurd c (by decide)⟩
    rw [e1, oM_thr]
    exact h1 c
theorem M_size {μ : SM} {n : Nat} (hn : n ≤ 16) (hb : sM_layers μ = nI n) {p v : Int32} {Q : Int32 → SM → Prop} (h1 : no_n p n → Q 0 (uM_thr μ 1)) (h2 : ∀ b, b < n → p = nI b → ¬ wn v.toInt64 0 10000000 → Q 0 (uM_thr μ 2)) (h0 : ∀ b, b < n → p = nI b → wn v.toInt64 0 10000000 → Q (sM_sizes μ b) (uM_shared (uM_laid (uM_sizes (uM_thr μ 0) (upd (sM_sizes μ) b v)) 0) 0)) : wp_M_size μ p v Q := by
  unfold wp_M_size
  intro μ1 e1
  have hb1 : sM_layers μ1 = nI n := by rw [e1, rM_layers_thr]; exact hb
  have t1 : sM_thr μ1 = 0 := by rw [e1, rM_thr_thr]
  refine ila_wp (by omega) hb1 (fun b hbn e => ⟨fun _ => ?_, fun c => absurd c (by decide)⟩) (fun c => ⟨fun c' => absurd rfl c', fun _ => ?_⟩)
  · unfold wj_M_size_19
    refine fa_0 t1 rfl ⟨fun c => absurd rfl c, fun _ => ?_⟩
    refine wi_wp (fun hw => ⟨fun _ => ?_, fun c => absurd c (by decide)⟩) (fun hw => ⟨fun c => absurd rfl c, fun _ => ?_⟩)
    · unfold wj_M_size_44
      refine fa_0 t1 rfl ⟨fun _ => ?_, fun c => absurd rfl c⟩
      refine ⟨pk_in b 16 (by omega) e, fun x15 e15 => ⟨pk_in b 16 (by omega) e, fun μ17 e17 => ?_⟩⟩
      unfold wp_M_spoil
      intro μa ea μb eb
      rw [pk_cl b e] at e15 e17
      rw [eb, ea, e17, e15, e1, rM_sizes_thr]
      exact h0 b hbn e hw
    · unfold wj_M_size_44
      refine fa_1 t1 rfl (by decide) ⟨fun c => absurd c (by decide), fun _ => ?_⟩
      rw [e1, oM_thr]
      exact h2 b hbn e hw
  · unfold wj_M_size_19
    refine fa_1 t1 rfl (by decide) ⟨fun _ => ?_, fun c => absurd c (by decide)⟩
    rw [e1, oM_thr]
    exact h1 c
theorem M_head {μ : SM} {n : Nat} (hn : n ≤ 16) (hb : sM_layers μ = nI n) {p v : Int32} {Q : Int32 → SM → Prop} (h1 : no_n p n → Q 0 (uM_thr μ 1)) (h2 : ∀ b, b < n → p = nI b → ¬ wn v.toInt64 0 10000000 → Q 0 (uM_thr μ 2)) (h0 : ∀ b, b < n → p = nI b → wn v.toInt64 0 10000000 → Q (sM_heads μ b) (uM_shared (uM_laid (uM_heads (uM_thr μ 0) (upd (sM_heads μ) b v)) 0) 0)) : wp_M_head μ p v Q := by
  unfold wp_M_head
  intro μ1 e1
  have hb1 : sM_layers μ1 = nI n := by rw [e1, rM_layers_thr]; exact hb
  have t1 : sM_thr μ1 = 0 := by rw [e1, rM_thr_thr]
  refine ila_wp (by omega) hb1 (fun b hbn e => ⟨fun _ => ?_, fun c => absurd c (by decide)⟩) (fun c => ⟨fun c' => absurd rfl c', fun _ => ?_⟩)
  · unfold wj_M_head_19
    refine fa_0 t1 rfl ⟨fun c => absurd rfl c, fun _ => ?_⟩
    refine wi_wp (fun hw => ⟨fun _ => ?_, fun c => absurd c (by decide)⟩) (fun hw => ⟨fun c => absurd rfl c, fun _ => ?_⟩)
    · unfold wj_M_head_44
      refine fa_0 t1 rfl ⟨fun _ => ?_, fun c => absurd rfl c⟩
      refine ⟨pk_in b 16 (by omega) e, fun x15 e15 => ⟨pk_in b 16 (by omega) e, fun μ17 e17 => ?_⟩⟩
      unfold wp_M_spoil
      intro μa ea μb eb
      rw [pk_cl b e] at e15 e17
      rw [eb, ea, e17, e15, e1, rM_heads_thr]
      exact h0 b hbn e hw
    · unfold wj_M_head_44
      refine fa_1 t1 rfl (by decide) ⟨fun c => absurd c (by decide), fun _ => ?_⟩
      rw [e1, oM_thr]
      exact h2 b hbn e hw
  · unfold wj_M_head_19
    refine fa_1 t1 rfl (by decide) ⟨fun _ => ?_, fun c => absurd c (by decide)⟩
    rw [e1, oM_thr]
    exact h1 c
theorem X_size {D : BD} {nl : Nat} {σ : SX} {μ : SM} (h : RR D nl σ μ) {p v : Int32} {Q : Int32 → SX → Prop} {QX : String → SX → Prop} (h1 : no_n p nl → QX "java/lang/IndexOutOfBoundsException" σ) (h2 : ∀ b, b < nl → p = nI b → ¬ wn v.toInt64 0 10000000 → QX "java/lang/IllegalArgumentException" σ) (h0 : ∀ b, b < nl → p = nI b → wn v.toInt64 0 10000000 → Q (sX_sizes σ b) (uX_shared (uX_sizes σ (upd (sX_sizes σ) b v)) 0)) : wp_X_size σ p v Q QX := by
  obtain ⟨_, _, _, ⟨l1, l2, l3, l4, _⟩, _⟩ := h
  unfold wp_X_size wp_X_tellLayer_at1
  refine nl_wp (by omega) l4 (fun b hb e => nw_wp (fun hw => ?_) (fun hw => h2 b hb e hw)) h1
  refine ⟨pk_in b _ (by rw [l3]; exact hb) e (by rw [l3]; omega), fun x4 e4 => ⟨pk_in b _ (by rw [l3]; exact hb) e (by rw [l3]; omega), fun σ6 e6 σ7 e7 => ?_⟩⟩
  rw [pk_cl b e] at e4 e6
  rw [e7, e6, e4]
  exact h0 b hb e hw
theorem RR_size {D : BD} {nl : Nat} {σ : SX} {μ : SM} (h : RR D nl σ μ) {b : Nat} {v : Int32} : RR D nl (uX_shared (uX_sizes σ (upd (sX_sizes σ) b v)) 0) (uM_shared (uM_laid (uM_sizes (uM_thr μ 0) (upd (sM_sizes μ) b v)) 0) 0) := by
  obtain ⟨k1, k2, k3, k4, k5, k6, k7, k8⟩ := h
  refine ⟨?_, ?_, ?_, ?_, ?_, Or.inl ?_, ?_, Or.inl ⟨?_, ?_⟩⟩
  · unfold x_b at k1 ⊢; simp only [rX_bc_sizes, rX_bc_shared, rX_counts_sizes, rX_counts_shared, rX_weights_sizes, rX_weights_shared, rX_shifts_sizes, rX_shifts_shared, rX_ls_sizes, rX_ls_shared, rX_gs_sizes, rX_gs_shared]; exact k1
  · unfold x_r at k2 ⊢; simp only [rX_costs_sizes, rX_costs_shared, rX_rises_sizes, rX_rises_shared, rX_ol_sizes, rX_ol_shared, rX_order_sizes, rX_order_shared]; exact k2
  · unfold m_b at k3 ⊢; simp only [rM_blocks_sizes, rM_blocks_shared, rM_blocks_laid, rM_blocks_thr, rM_many_sizes, rM_many_shared, rM_many_laid, rM_many_thr, rM_weights_sizes, rM_weights_shared, rM_weights_laid, rM_weights_thr, rM_shifts_sizes, rM_shifts_shared, rM_shifts_laid, rM_shifts_thr, rM_lens_sizes, rM_lens_shared, rM_lens_laid, rM_lens_thr, rM_gains_sizes, rM_gains_shared, rM_gains_laid, rM_gains_thr]; exact k3
  · unfold lr at k4 ⊢
    simp only [rX_nl_sizes, rX_nl_shared, rX_layers_sizes, rX_layers_shared, rX_sizes_sizes, rX_sizes_shared, rX_heads_sizes, rX_heads_shared, rM_layers_sizes, rM_layers_shared, rM_layers_laid, rM_layers_thr, rM_sizes_sizes, rM_sizes_shared, rM_sizes_laid, rM_sizes_thr, rM_heads_sizes, rM_heads_shared, rM_heads_laid, rM_heads_thr]
    obtain ⟨q1, q2, q3, q4, q5, q6⟩ := k4
    refine ⟨q1, q2, q3, q4, q5, fun k hk => ?_⟩
    obtain ⟨w1, w2⟩ := q6 k hk
    simp only [up_same, w1, w2]
    exact ⟨trivial, trivial⟩
  · simp only [rX_pc_sizes, rX_pc_shared]; exact k5
  · simp only [rM_laid_shared, rM_laid_laid]
  · simp only [rM_given_sizes, rM_given_shared, rM_given_laid, rM_given_thr]; exact k7
  · simp only [rX_shared_shared]
  · simp only [rM_shared_shared]
theorem X_head {D : BD} {nl : Nat} {σ : SX} {μ : SM} (h : RR D nl σ μ) {p v : Int32} {Q : Int32 → SX → Prop} {QX : String → SX → Prop} (h1 : no_n p nl → QX "java/lang/IndexOutOfBoundsException" σ) (h2 : ∀ b, b < nl → p = nI b → ¬ wn v.toInt64 0 10000000 → QX "java/lang/IllegalArgumentException" σ) (h0 : ∀ b, b < nl → p = nI b → wn v.toInt64 0 10000000 → Q (sX_heads σ b) (uX_shared (uX_heads σ (upd (sX_heads σ) b v)) 0)) : wp_X_head σ p v Q QX := by
  obtain ⟨_, _, _, ⟨l1, l2, l3, l4, _⟩, _⟩ := h
  unfold wp_X_head wp_X_tellLayer_at2
  refine nl_wp (by omega) l4 (fun b hb e => nw_wp (fun hw => ?_) (fun hw => h2 b hb e hw)) h1
  refine ⟨pk_in b _ (by rw [l3]; exact hb) e (by rw [l3]; omega), fun x4 e4 => ⟨pk_in b _ (by rw [l3]; exact hb) e (by rw [l3]; omega), fun σ6 e6 σ7 e7 => ?_⟩⟩
  rw [pk_cl b e] at e4 e6
  rw [e7, e6, e4]
  exact h0 b hb e hw
theorem RR_head {D : BD} {nl : Nat} {σ : SX} {μ : SM} (h : RR D nl σ μ) {b : Nat} {v : Int32} : RR D nl (uX_shared (uX_heads σ (upd (sX_heads σ) b v)) 0) (uM_shared (uM_laid (uM_heads (uM_thr μ 0) (upd (sM_heads μ) b v)) 0) 0) := by
  obtain ⟨k1, k2, k3, k4, k5, k6, k7, k8⟩ := h
  refine ⟨?_, ?_, ?_, ?_, ?_, Or.inl ?_, ?_, Or.inl ⟨?_, ?_⟩⟩
  · unfold x_b at k1 ⊢; simp only [rX_bc_heads, rX_bc_shared, rX_counts_heads, rX_counts_shared, rX_weights_heads, rX_weights_shared, rX_shifts_heads, rX_shifts_shared, rX_ls_heads, rX_ls_shared, rX_gs_heads, rX_gs_shared]; exact k1
  · unfold x_r at k2 ⊢; simp only [rX_costs_heads, rX_costs_shared, rX_rises_heads, rX_rises_shared, rX_ol_heads, rX_ol_shared, rX_order_heads, rX_order_shared]; exact k2
  · unfold m_b at k3 ⊢; simp only [rM_blocks_heads, rM_blocks_shared, rM_blocks_laid, rM_blocks_thr, rM_many_heads, rM_many_shared, rM_many_laid, rM_many_thr, rM_weights_heads, rM_weights_shared, rM_weights_laid, rM_weights_thr, rM_shifts_heads, rM_shifts_shared, rM_shifts_laid, rM_shifts_thr, rM_lens_heads, rM_lens_shared, rM_lens_laid, rM_lens_thr, rM_gains_heads, rM_gains_shared, rM_gains_laid, rM_gains_thr]; exact k3
  · unfold lr at k4 ⊢
    simp only [rX_nl_heads, rX_nl_shared, rX_layers_heads, rX_layers_shared, rX_sizes_heads, rX_sizes_shared, rX_heads_heads, rX_heads_shared, rM_layers_heads, rM_layers_shared, rM_layers_laid, rM_layers_thr, rM_sizes_heads, rM_sizes_shared, rM_sizes_laid, rM_sizes_thr, rM_heads_heads, rM_heads_shared, rM_heads_laid, rM_heads_thr]
    obtain ⟨q1, q2, q3, q4, q5, q6⟩ := k4
    refine ⟨q1, q2, q3, q4, q5, fun k hk => ?_⟩
    obtain ⟨w1, w2⟩ := q6 k hk
    simp only [up_same, w1, w2]
    exact ⟨trivial, trivial⟩
  · simp only [rX_pc_heads, rX_pc_shared]; exact k5
  · simp only [rM_laid_shared, rM_laid_laid]
  · simp only [rM_given_heads, rM_given_shared, rM_given_laid, rM_given_thr]; exact k7
  · simp only [rX_shared_shared]
  · simp only [rM_shared_shared]
