/-! block, pass, clear, the start -/
theorem d_sum_ext {D D' : BD} : ∀ n, (∀ c, c < n → d_cn D c = d_cn D' c) → d_sum D n = d_sum D' n := by
  intro n
  induction n with
  | zero => intro _; rfl
  | succ n ih => intro h; rw [d_sum, d_sum, ih (fun c hc => h c (by omega)), h n (by omega)]
theorem d_sum_up {D : BD} {b cn : Nat} {L G : Nat → Int} {w s : Nat} : ∀ n, b < n → d_sum (du D b cn L G w s) n + d_cn D b = d_sum D n + cn := by
  intro n
  induction n with
  | zero => intro h; omega
  | succ n ih =>
    intro h
    rw [d_sum, d_sum, du_cn]
    by_cases e : n = b
    · rw [if_pos e, d_sum_ext (D := du D b cn L G w s) (D' := D) n (fun c hc => by rw [du_cn, if_neg (by omega)]), e]; omega
    · rw [if_neg e]; have := ih (by omega); omega
theorem d_sum_same {D : BD} {b : Nat} {L G : Nat → Int} {w s n : Nat} : d_sum (du D b (d_cn D b) L G w s) n = d_sum D n := by
  refine d_sum_ext n (fun c _ => ?_)
  rw [du_cn]
  by_cases e : c = b
  · rw [if_pos e, e]
  · rw [if_neg e]
def db (D : BD) : BD := (d_nb D + 1, (du D (d_nb D) 0 (fun _ => 0) (fun _ => 0) 1 0).2)
theorem db_on {D : BD} {c p : Nat} : d_on (db D) c p = d_on (du D (d_nb D) 0 (fun _ => 0) (fun _ => 0) 1 0) c p := rfl
theorem db_hp {D : BD} {x : Nat} : d_hp (db D) x ↔ d_hp D x := by
  have hb : d_but D (du D (d_nb D) 0 (fun _ => 0) (fun _ => 0) 1 0) (d_nb D) := du_but
  unfold d_hp
  rw [db_on]
  constructor
  · rintro ⟨h1, h2⟩
    have h3 : x / 25 ≠ d_nb D := by
      intro e
      have := h2.2.1
      have h0 := h2.1
      rw [du_cn, if_pos e] at this
      omega
    have h4 : x / 25 < d_nb D + 1 := h1
    rw [← d_but_on hb h3] at h2
    exact ⟨by omega, h2⟩
  · rintro ⟨h1, h2⟩
    have h3 : x / 25 ≠ d_nb D := by omega
    rw [d_but_on hb h3] at h2
    exact ⟨Nat.lt_succ_of_lt h1, h2⟩
theorem db_ok {D : BD} (hd : d_ok D) (h : d_nb D < 40) : d_ok (db D) := by
  refine ⟨h, fun c hc => ?_⟩
  have hc' : c < d_nb D + 1 := hc
  by_cases e : c = d_nb D
  · have e1 : d_cn (db D) c = 0 := by show (if c = d_nb D then 0 else d_cn D c) = 0; rw [if_pos e]
    have e2 : d_L (db D) c = fun _ => 0 := by show (if c = d_nb D then (fun _ => 0) else d_L D c) = _; rw [if_pos e]
    have e3 : d_G (db D) c = fun _ => 0 := by show (if c = d_nb D then (fun _ => 0) else d_G D c) = _; rw [if_pos e]
    have e4 : d_w (db D) c = 1 := by show (if c = d_nb D then 1 else d_w D c) = 1; rw [if_pos e]
    have e5 : d_s (db D) c = 0 := by show (if c = d_nb D then 0 else d_s D c) = 0; rw [if_pos e]
    rw [e1, e2, e3, e4, e5]
    exact ⟨by omega, by omega, by omega, by omega, rfl, rfl, fun j hj => by omega⟩
  · have e1 : d_cn (db D) c = d_cn D c := by show (if c = d_nb D then 0 else d_cn D c) = _; rw [if_neg e]
    have e2 : d_L (db D) c = d_L D c := by show (if c = d_nb D then (fun _ => 0) else d_L D c) = _; rw [if_neg e]
    have e3 : d_G (db D) c = d_G D c := by show (if c = d_nb D then (fun _ => 0) else d_G D c) = _; rw [if_neg e]
    have e4 : d_w (db D) c = d_w D c := by show (if c = d_nb D then 1 else d_w D c) = _; rw [if_neg e]
    have e5 : d_s (db D) c = d_s D c := by show (if c = d_nb D then 0 else d_s D c) = _; rw [if_neg e]
    rw [e1, e2, e3, e4, e5]
    exact hd.2 c (by omega)
theorem db_cn {D : BD} {c : Nat} : d_cn (db D) c = if c = d_nb D then 0 else d_cn D c := rfl
theorem db_w {D : BD} {c : Nat} : d_w (db D) c = if c = d_nb D then 1 else d_w D c := rfl
theorem db_s {D : BD} {c : Nat} : d_s (db D) c = if c = d_nb D then 0 else d_s D c := rfl
theorem db_L {D : BD} {c : Nat} : d_L (db D) c = if c = d_nb D then (fun _ => 0) else d_L D c := rfl
theorem db_G {D : BD} {c : Nat} : d_G (db D) c = if c = d_nb D then (fun _ => 0) else d_G D c := rfl
theorem db_x {D : BD} {x : Nat} (hx : x / 25 < d_nb D) : d_cost (db D) x = d_cost D x ∧ d_rise (db D) x = d_rise D x := by
  have hb : d_but D (du D (d_nb D) 0 (fun _ => 0) (fun _ => 0) 1 0) (d_nb D) := du_but
  obtain ⟨_, h1, h2⟩ := d_but_x hb (x := x) (by omega)
  exact ⟨h1.symm, h2.symm⟩
theorem db_row {D : BD} {l : List Nat} (h : d_row D l) : d_row (db D) l := by
  refine ⟨List.Pairwise.imp_of_mem ?_ h.1, fun x => (h.2 x).trans db_hp.symm⟩
  intro x y hx hy hxy
  obtain ⟨a1, a2⟩ := db_x ((h.2 x).mp hx).1
  obtain ⟨b1, b2⟩ := db_x ((h.2 y).mp hy).1
  unfold d_bf at hxy ⊢
  rw [a1, a2, b1, b2]
  exact hxy
theorem db_h {D : BD} {c : Nat} (hc : c < d_nb D) {n : Nat} (hn : n ≤ 24) {co : Nat → Int32} {ri : Nat → Int64} (h : x_h D c n co ri) : x_h (db D) c n co ri := by
  have hb : d_but D (du D (d_nb D) 0 (fun _ => 0) (fun _ => 0) 1 0) (d_nb D) := du_but
  intro p p1 p2
  have := h p p1 p2
  obtain ⟨a1, a2⟩ := db_x (D := D) (x := 25 * c + p) (by omega)
  rw [db_on, ← d_but_on hb (by omega), a1, a2]
  exact this
theorem X_block {D : BD} {nl : Nat} {σ : SX} {μ : SM} (h : RR D nl σ μ) {Q : Int32 → SX → Prop} {QX : String → SX → Prop} (h1 : d_nb D = 40 → QX "java/lang/UnsupportedOperationException" σ) (h0 : d_nb D < 40 → ∀ τ, x_b (db D) τ → x_r (db D) τ → kX σ τ → sX_pc τ = sX_pc σ → Q (nI (d_nb D)) τ) : wp_X_block σ Q QX := by
  obtain ⟨k1, k2, _⟩ := h
  obtain ⟨q1, q2, q3, q4, q5⟩ := k1
  have h40 := q1.1
  unfold wp_X_block
  refine pk_lt (d_nb D) 40 (fun hlt x2 e2 => ?_) (fun hge => h1 (by omega)) q2 rfl
  have e2' : x2 = nI (d_nb D) := by rw [e2, q2]
  refine ⟨pk_in (d_nb D) 40 hlt e2', fun σ4 e4 => ⟨pk_in (d_nb D) 40 hlt e2', fun σ6 e6 => ⟨pk_in (d_nb D) 40 hlt e2', fun σ8 e8 σ9 e9 σ10 e10 => ?_⟩⟩⟩
  rw [pk_cl (d_nb D) e2'] at e4 e6 e8
  have ef : σ10 = uX_shared (uX_bc (uX_counts (uX_shifts (uX_weights σ (upd (sX_weights σ) (d_nb D) 1)) (upd (sX_shifts σ) (d_nb D) 0)) (upd (sX_counts σ) (d_nb D) 0)) (nI (d_nb D + 1))) 0 := by
    rw [e10, e9, e8, e6, e4]
    simp only [rX_bc_bc, rX_bc_counts, rX_bc_weights, rX_bc_shifts, rX_counts_bc, rX_counts_counts, rX_counts_weights, rX_counts_shifts, rX_weights_bc, rX_weights_counts, rX_weights_weights, rX_weights_shifts, rX_shifts_bc, rX_shifts_counts, rX_shifts_weights, rX_shifts_shifts, q2, nI_1]
  rw [e2', ef]
  refine h0 hlt _ ⟨db_ok q1 hlt, ?_, fun c hc => ?_, fun c hc => ?_, fun c hc j hj => ?_⟩ ⟨fun c hc => ?_, ?_⟩ ?_ ?_
  · simp only [rX_bc_shared, rX_bc_bc]; rfl
  · have hc' : c < d_nb D + 1 := hc
    simp only [rX_counts_shared, rX_counts_bc, rX_counts_counts, rX_counts_weights, rX_counts_shifts, rX_weights_shared, rX_weights_bc, rX_weights_counts, rX_weights_weights, rX_weights_shifts, rX_shifts_shared, rX_shifts_bc, rX_shifts_counts, rX_shifts_weights, rX_shifts_shifts]
    rw [db_cn, db_w, db_s]
    by_cases e : c = d_nb D
    · rw [if_pos e, if_pos e, if_pos e, e]
      exact ⟨pk_us, pk_us, pk_us⟩
    · rw [if_neg e, if_neg e, if_neg e, pk_un e, pk_un e, pk_un e]
      exact q3 c (by omega)
  · simp only [rX_ls_shared, rX_ls_bc, rX_ls_counts, rX_ls_weights, rX_ls_shifts, rX_gs_shared, rX_gs_bc, rX_gs_counts, rX_gs_weights, rX_gs_shifts]
    exact q4 c hc
  · have hc' : c < d_nb D + 1 := hc
    simp only [rX_ls_shared, rX_ls_bc, rX_ls_counts, rX_ls_weights, rX_ls_shifts, rX_gs_shared, rX_gs_bc, rX_gs_counts, rX_gs_weights, rX_gs_shifts]
    rw [db_cn] at hj
    rw [db_L, db_G]
    by_cases e : c = d_nb D
    · rw [if_pos e] at hj
      rw [if_pos e, if_pos e]
      have hj0 : j = 0 := by omega
      obtain ⟨z1, z2⟩ := q4 c (by omega)
      rw [hj0, Nat.add_zero, z1, z2]
      exact ⟨rfl, rfl⟩
    · rw [if_neg e] at hj
      rw [if_neg e, if_neg e]
      exact q5 c (by omega) j hj
  · have hc' : c < d_nb D + 1 := hc
    simp only [rX_costs_shared, rX_costs_bc, rX_costs_counts, rX_costs_weights, rX_costs_shifts, rX_rises_shared, rX_rises_bc, rX_rises_counts, rX_rises_weights, rX_rises_shifts]
    rw [db_cn]
    by_cases e : c = d_nb D
    · rw [if_pos e]; intro p p1 p2; omega
    · rw [if_neg e]; exact db_h (by omega) (q1.2 c (by omega)).1 (k2.1 c (by omega))
  · obtain ⟨_, l, l1, l2, l3⟩ := k2
    simp only [rX_ol_shared, rX_ol_bc, rX_ol_counts, rX_ol_weights, rX_ol_shifts, rX_order_shared, rX_order_bc, rX_order_counts, rX_order_weights, rX_order_shifts]
    exact ⟨l, db_row l1, l2, l3⟩
  · unfold kX
    simp only [rX_nl_shared, rX_nl_bc, rX_nl_counts, rX_nl_weights, rX_nl_shifts, rX_layers_shared, rX_layers_bc, rX_layers_counts, rX_layers_weights, rX_layers_shifts, rX_sizes_shared, rX_sizes_bc, rX_sizes_counts, rX_sizes_weights, rX_sizes_shifts, rX_heads_shared, rX_heads_bc, rX_heads_counts, rX_heads_weights, rX_heads_shifts, rX_shared_shared, rX_shared_bc, rX_shared_counts, rX_shared_weights, rX_shared_shifts]
    exact ⟨trivial, trivial, trivial, trivial, trivial⟩
  · simp only [rX_pc_shared, rX_pc_bc, rX_pc_counts, rX_pc_weights, rX_pc_shifts]
theorem M_block {μ : SM} {n : Nat} (hn : n ≤ 40) (hb : sM_blocks μ = nI n) {Q : Int32 → SM → Prop} (h1 : n = 40 → Q 0 (uM_thr μ 1)) (h0 : n < 40 → Q (nI n) (uM_shared (uM_laid (uM_blocks (uM_shifts (uM_weights (uM_many (uM_thr μ 0) (upd (sM_many μ) n 0)) (upd (sM_weights μ) n 1)) (upd (sM_shifts μ) n 0)) (nI (n + 1))) 0) 0)) : wp_M_block μ Q := by
  unfold wp_M_block
  intro μ1 e1
  have hb1 : sM_blocks μ1 = nI n := by rw [e1, rM_blocks_thr]; exact hb
  have t1 : sM_thr μ1 = 0 := by rw [e1, rM_thr_thr]
  refine And.symm (pk_eq n 40 (fun e => ?_) (fun e => ?_) hb1 rfl)
  · unfold wj_M_block_20
    refine fa_1 t1 rfl (by decide) ⟨fun c => absurd c (by decide), fun _ => ?_⟩
    rw [e1, oM_thr]
    exact h1 e
  · unfold wj_M_block_20
    have hlt : n < 40 := by omega
    refine fa_0 t1 rfl ⟨fun _ => ?_, fun c => absurd rfl c⟩
    refine ⟨pk_in n 40 hlt hb1, fun μ7 e7 => ?_⟩
    have b7 : sM_blocks μ7 = nI n := by rw [e7, rM_blocks_many]; exact hb1
    refine ⟨pk_in n 40 hlt b7, fun μ9 e9 => ?_⟩
    have b9 : sM_blocks μ9 = nI n := by rw [e9, rM_blocks_weights]; exact b7
    refine ⟨pk_in n 40 hlt b9, fun μ11 e11 μ12 e12 => ?_⟩
    have b11 : sM_blocks μ11 = nI n := by rw [e11, rM_blocks_shifts]; exact b9
    unfold wp_M_spoil
    intro μa ea μb eb
    rw [pk_cl n hb1] at e7
    rw [pk_cl n b7] at e9
    rw [pk_cl n b9] at e11
    rw [b11, nI_1] at e12
    have bb : sM_blocks μb - 1 = nI n := by
      rw [eb, ea, e12]
      simp only [rM_blocks_shared, rM_blocks_laid, rM_blocks_blocks]
      exact nI_pred n
    rw [bb, eb, ea, e12, e11, e9, e7, e1]
    simp only [rM_many_thr, rM_many_many, rM_many_weights, rM_weights_thr, rM_weights_many, rM_weights_weights, rM_shifts_thr, rM_shifts_many, rM_shifts_weights]
    exact h0 hlt
theorem m_b_db {D : BD} {μ ν : SM} (hm : m_b D μ) (h1 : sM_blocks ν = nI (d_nb D + 1)) (h2 : sM_many ν = upd (sM_many μ) (d_nb D) 0) (h3 : sM_weights ν = upd (sM_weights μ) (d_nb D) 1) (h4 : sM_shifts ν = upd (sM_shifts μ) (d_nb D) 0) (h5 : sM_lens ν = sM_lens μ) (h6 : sM_gains ν = sM_gains μ) : m_b (db D) ν := by
  obtain ⟨k1, k2, k3⟩ := hm
  refine ⟨h1, fun c hc => ?_, fun c hc j hj => ?_⟩
  · have hc' : c < d_nb D + 1 := hc
    rw [h2, h3, h4, db_cn, db_w, db_s]
    by_cases e : c = d_nb D
    · rw [if_pos e, if_pos e, if_pos e, e]
      exact ⟨pk_us, pk_us, pk_us⟩
    · rw [if_neg e, if_neg e, if_neg e, pk_un e, pk_un e, pk_un e]
      exact k2 c (by omega)
  · have hc' : c < d_nb D + 1 := hc
    rw [db_cn] at hj
    rw [h5, h6, db_L, db_G]
    by_cases e : c = d_nb D
    · rw [if_pos e] at hj; omega
    · rw [if_neg e] at hj
      rw [if_neg e, if_neg e]
      exact k3 c (by omega) j hj
theorem db_sum {D : BD} : d_sum (db D) (d_nb (db D)) = d_sum D (d_nb D) := by
  show d_sum (db D) (d_nb D) + d_cn (db D) (d_nb D) = _
  rw [db_cn, if_pos rfl, Nat.add_zero]
  exact d_sum_ext _ (fun c hc => by rw [db_cn, if_neg (by omega)])
/-- a pass more -/
def dpL (D : BD) (b : Nat) (l : Int) : Nat → Int := fun j => if j = d_cn D b + 1 then d_L D b (d_cn D b) + l else d_L D b j
def dpG (D : BD) (b : Nat) (g : Int) : Nat → Int := fun j => if j = d_cn D b + 1 then d_G D b (d_cn D b) + g else d_G D b j
def dp (D : BD) (b : Nat) (l g : Int) : BD := du D b (d_cn D b + 1) (dpL D b l) (dpG D b g) (d_w D b) (d_s D b)
theorem dp_ok {D : BD} (hd : d_ok D) {b : Nat} (hb : b < d_nb D) (hc : d_cn D b < 24) {l g : Int} (hl : 1 ≤ l ∧ l ≤ 10000) (hg : -1000000 ≤ g ∧ g ≤ 1000000) : b_ok (d_cn D b + 1) (dpL D b l) (dpG D b g) (d_w D b) (d_s D b) := by
  obtain ⟨o1, o2, o3, o4, o5, o6, o7⟩ := hd.2 b hb
  refine ⟨hc, o2, o3, o4, ?_, ?_, fun j hj => ?_⟩
  · unfold dpL; rw [if_neg (by omega)]; exact o5
  · unfold dpG; rw [if_neg (by omega)]; exact o6
  · unfold dpL dpG
    by_cases e : j = d_cn D b
    · rw [if_neg (by omega), if_pos (by omega), if_neg (by omega), if_pos (by omega), e]; omega
    · rw [if_neg (by omega), if_neg (by omega), if_neg (by omega), if_neg (by omega)]; exact o7 j (by omega)
def wn2 (l g : Int32) : Prop := wn l.toInt64 1 10000 ∧ wn g.toInt64 (-1000000) 1000000
theorem X_pass {D : BD} {nl : Nat} {σ : SX} {μ : SM} (h : RR D nl σ μ) {p l g : Int32} {Q : Int32 → SX → Prop} {QX : String → SX → Prop} (h1 : no_n p (d_nb D) → QX "java/lang/IndexOutOfBoundsException" σ) (h2 : ∀ b, b < d_nb D → p = nI b → ¬ wn2 l g → QX "java/lang/IllegalArgumentException" σ) (h3 : ∀ b, b < d_nb D → p = nI b → wn2 l g → d_cn D b = 24 → QX "java/lang/UnsupportedOperationException" σ) (h0 : ∀ b, b < d_nb D → p = nI b → wn2 l g → d_cn D b < 24 → ∀ τ, x_b (dp D b l.toInt g.toInt) τ → x_r (dp D b l.toInt g.toInt) τ → kX σ τ → sX_pc τ = sX_pc σ + 1 → Q (nI (d_cn D b)) τ) : wp_X_pass σ p l g Q QX := by
  obtain ⟨k1, k2, _⟩ := h
  have h40 := k1.1.1
  unfold wp_X_pass
  refine nb_wp (by omega) k1.2.1 (fun b hb e => nw_wp (fun hw1 => nw_wp (fun hw2 => ?_) (fun hw => h2 b hb e (fun z => hw z.2))) (fun hw => h2 b hb e (fun z => hw z.1))) h1
  obtain ⟨o1, o2, o3, o4, o5, o6, o7⟩ := k1.1.2 b hb
  obtain ⟨c1, c2, c3⟩ := k1.2.2.1 b hb
  have hin := pk_in (x := p) b 40 (by omega) e
  refine ⟨hin, ?_⟩
  rw [pk_cl b e]
  refine pk_lt (d_cn D b) 24 (fun hlt => ⟨hin, fun x7 e7 => ?_⟩) (fun hge => h3 b hb e ⟨hw1, hw2⟩ (by omega)) c1 rfl
  unfold wp_X_startOf
  intro x10 e10
  have e7' : x7 = nI (d_cn D b) := by rw [e7, c1]
  have e10' : x10 = nI (25 * b + d_cn D b) := by rw [e10, e, e7', show (25 : Int32) = nI 25 from rfl, pk_mul, nI_add, Nat.mul_comm]
  have e11 : x10 + 1 = nI (25 * b + d_cn D b + 1) := by rw [e10', nI_1]
  refine ⟨pk_in _ 1000 (by omega) e10', pk_in _ 1000 (by omega) e11, fun σ13 e13 => ⟨pk_in _ 1000 (by omega) e10', pk_in _ 1000 (by omega) e11, fun σ16 e16 => ⟨hin, hin, fun σ19 e19 σ20 e20 => ?_⟩⟩⟩
  rw [pk_cl _ e10', pk_cl _ e11] at e13 e16
  obtain ⟨l1, l2⟩ := wn_32 (x := 1) (y := 10000) (by decide +kernel) (by decide +kernel) hw1
  obtain ⟨g1, g2⟩ := wn_32 (x := -1000000) (y := 1000000) (by decide +kernel) (by decide +kernel) hw2
  have ef : σ20 = uX_pc (uX_counts (uX_gs (uX_ls σ (upd (sX_ls σ) (25 * b + d_cn D b + 1) (sX_ls σ (25 * b + d_cn D b) + l))) (upd (sX_gs σ) (25 * b + d_cn D b + 1) (sX_gs σ (25 * b + d_cn D b) + g))) (upd (sX_counts σ) b (nI (d_cn D b + 1)))) (sX_pc σ + 1) := by
    rw [e20, e19, e16, e13]
    simp only [rX_counts_counts, rX_counts_ls, rX_counts_gs, rX_ls_counts, rX_ls_ls, rX_ls_gs, rX_gs_counts, rX_gs_ls, rX_gs_gs, rX_pc_counts, rX_pc_ls, rX_pc_gs, c1, nI_1]
  obtain ⟨z1, z2⟩ := k1.2.2.2.2 b hb (d_cn D b) (Nat.le_refl _)
  obtain ⟨y1, y2, y3, y4⟩ := d_bd24 k1.1 hb (Nat.le_refl (d_cn D b))
  have hx : x_b (dp D b l.toInt g.toInt) σ20 := by
    rw [ef]
    refine x_b_du k1 (dp_ok k1.1 hb hlt ⟨l1, l2⟩ ⟨g1, g2⟩) ?_ ?_ ?_ ?_ ?_ ?_ <;> simp only [rX_bc_counts, rX_bc_ls, rX_bc_gs, rX_bc_pc, rX_counts_counts, rX_counts_ls, rX_counts_gs, rX_counts_pc, rX_weights_counts, rX_weights_ls, rX_weights_gs, rX_weights_pc, rX_shifts_counts, rX_shifts_ls, rX_shifts_gs, rX_shifts_pc, rX_ls_counts, rX_ls_ls, rX_ls_gs, rX_ls_pc, rX_gs_counts, rX_gs_ls, rX_gs_gs, rX_gs_pc]
    · intro c hc
      exact ⟨pk_un hc, trivial, trivial⟩
    · exact ⟨pk_us, c2, c3⟩
    · intro c hc
      rw [pk_un (by omega), pk_un (by omega)]
      exact k1.2.2.2.1 c hc
    · intro c hc j hj
      exact ⟨pk_un (by omega), pk_un (by omega)⟩
    · intro j hj
      unfold dpL dpG
      by_cases ej : j = d_cn D b + 1
      · rw [if_pos ej, if_pos ej, ej, ← Nat.add_assoc, pk_us, pk_us, nu_add (by omega) (by omega), nu_add (by omega) (by omega), z1, z2]
        exact ⟨rfl, rfl⟩
      · rw [if_neg ej, if_neg ej, pk_un (by omega), pk_un (by omega)]
        exact k1.2.2.2.2 b hb j (by omega)
  rw [e]
  refine ren k1.1 k2 hb hx (by rw [ef]; simp only [rX_costs_counts, rX_costs_ls, rX_costs_gs, rX_costs_pc, rX_rises_counts, rX_rises_ls, rX_rises_gs, rX_rises_pc, rX_ol_counts, rX_ol_ls, rX_ol_gs, rX_ol_pc, rX_order_counts, rX_order_ls, rX_order_gs, rX_order_pc]; exact ⟨trivial, trivial, trivial, trivial⟩) (fun υ u1 u2 u3 u4 => ?_)
  rw [e7']
  refine h0 b hb e ⟨hw1, hw2⟩ hlt υ u1 u2 ?_ ?_
  · unfold kX at u3 ⊢
    rw [ef] at u3
    simp only [rX_nl_counts, rX_nl_ls, rX_nl_gs, rX_nl_pc, rX_layers_counts, rX_layers_ls, rX_layers_gs, rX_layers_pc, rX_sizes_counts, rX_sizes_ls, rX_sizes_gs, rX_sizes_pc, rX_heads_counts, rX_heads_ls, rX_heads_gs, rX_heads_pc] at u3
    exact u3
  · rw [u4, ef]; simp only [rX_pc_pc]
