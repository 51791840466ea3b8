set_option maxHeartbeats 4000000 in
set_option maxRecDepth 100000 in
theorem lp_X_passes_23 {κ : jk_K} {cI cL : ClassId} {ad : Nat → Nat} {Q : Int32 → SX → Prop} {QX : String → SX → Prop} (C : jk_C κ b_X_passes R_X rm_X_passes 4 [(cI, .int), (cL, .long)]) (Z : jk_Cz κ) (E : jk_Ex κ (some .int) (va_Qi Q (jk_B (jk_G κ) [(cI, .int), (cL, .long)] (jk_A κ) (wX cI cL ad)) (jk_A κ)) (vx_X (fun u : String × SX => QX u.1 u.2) (jk_X (jk_G κ) [(cI, .int), (cL, .long)] (jk_A κ) (wX cI cL ad)) (jk_A κ)) rm_X_passes.cells rm_X_passes.slots) (y2 : Int32) : ∀ (n : Nat) (y3 : Int32) (σ : SX), wl_X_passes_23 y2 Q QX n y3 σ → jk_J κ (wX cI cL ad σ) 23 [(0, .ref (ad 0)), (2, .int y2), (3, .int y3)] [] 3 18 := by
  intro n
  induction n with
  | zero => intro y3 σ hw; exact hw.elim
  | succ n ih =>
    intro y3 σ hw
    rw [wl_X_passes_23] at hw
    refine j_iload_n (pc := 23) C d_X_passes_23 rfl 2 rfl ?_
    refine j_if_lt (pc := 24) (tgt := 56) C d_X_passes_24 (by decide) (fun c6 => ?_) (fun c6 => ?_)
    · have hw := hw.1 c6
      refine j_iconst (v := 0) (pc := 56) C d_X_passes_56 (by decide) ?_
      exact jx_iret (pc := 57) C E hw (Nat.le_of_ble_eq_true rfl) (Nat.le_of_ble_eq_true rfl) d_X_passes_57
    · have hw := hw.2 c6
      refine j_aload_n (pc := 27) C d_X_passes_27 rfl 0 rfl ?_
      refine j_get (pc := 28) C i_X 0 rfl rfl 15 (Nat.le_of_ble_eq_true rfl) k_29 rfl d_X_passes_28 ?_
      refine j_iload_n (pc := 31) C d_X_passes_31 rfl 2 rfl ?_
      obtain ⟨hi7, hw⟩ := hw
      refine j_iald (pc := 32) C 12 0 rfl rfl hi7 d_X_passes_32 ?_
      refine j_callSi0 (pc := 33) (st := []) (As := [.int (sX_order σ (Int32.toNatClampNeg y3))]) (wf := wX cI cL ad) C (c_X_blockOf (jk_l κ) (jk_G κ) cI cL ad σ (sX_order σ (Int32.toNatClampNeg y3)) _ hw) g_X_122 hdS_X_blockOf ⟨(Nat.le_of_ble_eq_true rfl), (Nat.le_of_ble_eq_true rfl)⟩ rfl rfl (Nat.le_of_ble_eq_true rfl) d_X_passes_33 ⟨(Nat.le_of_ble_eq_true rfl), (Nat.le_of_ble_eq_true rfl)⟩ (fun r9 σ8 hw => ?_)
      refine j_iload_n (pc := 36) C d_X_passes_36 rfl 1 rfl ?_
      refine j_icmp_ne (pc := 37) (tgt := 50) C d_X_passes_37 (by decide) (fun c10 => ?_) (fun c10 => ?_)
      · have hw := hw.1 c10
        refine j_iinc (pc := 50) (lv' := [(3, .int (y3 + (-1))), (0, .ref (ad 0)), (2, .int y2)]) C d_X_passes_50 (k := 2) rfl rfl (Nat.le_of_ble_eq_true rfl) rfl ?_
        refine j_goto (pc := 53) (tgt := 23) C d_X_passes_53 (by decide) ?_
        refine j_locs [1, 2, 0] rfl ?_
        exact ih (y3 + (-1)) σ8 hw
      · have hw := hw.2 c10
        refine j_aload_n (pc := 40) C d_X_passes_40 rfl 0 rfl ?_
        refine j_get (pc := 41) C i_X 0 rfl rfl 15 (Nat.le_of_ble_eq_true rfl) k_29 rfl d_X_passes_41 ?_
        refine j_iload_n (pc := 44) C d_X_passes_44 rfl 2 rfl ?_
        obtain ⟨hi11, hw⟩ := hw
        refine j_iald (pc := 45) C 12 0 rfl rfl hi11 d_X_passes_45 ?_
        refine j_callSi0 (pc := 46) (st := []) (As := [.int (sX_order σ8 (Int32.toNatClampNeg y3))]) (wf := wX cI cL ad) C (c_X_passesUpTo (jk_l κ) (jk_G κ) cI cL ad σ8 (sX_order σ8 (Int32.toNatClampNeg y3)) _ hw) g_X_125 hdS_X_passesUpTo ⟨(Nat.le_of_ble_eq_true rfl), (Nat.le_of_ble_eq_true rfl)⟩ rfl rfl (Nat.le_of_ble_eq_true rfl) d_X_passes_46 ⟨(Nat.le_of_ble_eq_true rfl), (Nat.le_of_ble_eq_true rfl)⟩ (fun r13 σ12 hw => ?_)
        exact jx_iret (pc := 49) C E hw (Nat.le_of_ble_eq_true rfl) (Nat.le_of_ble_eq_true rfl) d_X_passes_49
set_option maxHeartbeats 4000000 in
set_option maxRecDepth 100000 in
theorem c_X_passes (l : Launch) (hlt : l.stackTraces = false) (G : va_G) (cI cL : ClassId) (ad : Nat → Nat) (σ : SX) (p1 : Int32) (p2 : Int32) (Q : Int32 → SX → Prop) (QX : String → SX → Prop) (hw : wp_X_passes σ p1 p2 Q QX) : jx_i l G [(cI, .int), (cL, .long)] y_X_passes b_X_passes 4 .int rm_X_passes [.ref (ad 0), .int p1, .int p2] (wX cI cL ad σ) (wX cI cL ad) Q QX := by
  refine jx_open_i hlt (by decide +kernel) (Nat.le_of_ble_eq_true rfl) ?_
  intro κ hl hG C Z E
  subst hl; subst hG
  unfold wp_X_passes at hw
  refine j_aload_n (pc := 0) C d_X_passes_0 rfl 0 rfl ?_
  refine jx_callVv0 (pc := 1) (st := []) (As := []) (wf := wX cI cL ad) C Z E (c_X_needShared (jk_l κ) Z.1 (jk_G κ) cI cL ad σ _ _ hw) g_X_131 hdV_X_needShared ⟨(Nat.le_of_ble_eq_true rfl), (Nat.le_of_ble_eq_true rfl)⟩ rfl (q0 := 0) rfl rfl rfl rfl (Nat.le_of_ble_eq_true rfl) d_X_passes_1 ⟨(Nat.le_of_ble_eq_true rfl), (Nat.le_of_ble_eq_true rfl)⟩ (Nat.le_of_ble_eq_true rfl) (Nat.le_of_ble_eq_true rfl) (fun σ1 hw => ?_)
  refine j_widen (k := 1) (n := 6) (Nat.le_of_ble_eq_true rfl) (Nat.le_of_ble_eq_true rfl) ?_
  refine j_aload_n (pc := 4) C d_X_passes_4 rfl 0 rfl ?_
  refine j_iload_n (pc := 5) C d_X_passes_5 rfl 1 rfl ?_
  refine jx_callVv0 (pc := 6) (st := []) (As := [.int p1]) (wf := wX cI cL ad) C Z E (c_X_needLayer (jk_l κ) Z.1 (jk_G κ) cI cL ad σ1 p1 _ _ hw) g_X_142 hdV_X_needLayer ⟨(Nat.le_of_ble_eq_true rfl), (Nat.le_of_ble_eq_true rfl)⟩ rfl (q0 := 0) rfl rfl rfl rfl (Nat.le_of_ble_eq_true rfl) d_X_passes_6 ⟨(Nat.le_of_ble_eq_true rfl), (Nat.le_of_ble_eq_true rfl)⟩ (Nat.le_of_ble_eq_true rfl) (Nat.le_of_ble_eq_true rfl) (fun σ2 hw => ?_)
  refine j_widen (k := 2) (n := 12) (Nat.le_of_ble_eq_true rfl) (Nat.le_of_ble_eq_true rfl) ?_
  refine j_aload_n (pc := 9) C d_X_passes_9 rfl 0 rfl ?_
  refine j_iload_n (pc := 10) C d_X_passes_10 rfl 2 rfl ?_
  refine jx_callVv0 (pc := 11) (st := []) (As := [.int p2]) (wf := wX cI cL ad) C Z E (c_X_needBlock (jk_l κ) Z.1 (jk_G κ) cI cL ad σ2 p2 _ _ hw) g_X_74 hdV_X_needBlock ⟨(Nat.le_of_ble_eq_true rfl), (Nat.le_of_ble_eq_true rfl)⟩ rfl (q0 := 0) rfl rfl rfl rfl (Nat.le_of_ble_eq_true rfl) d_X_passes_11 ⟨(Nat.le_of_ble_eq_true rfl), (Nat.le_of_ble_eq_true rfl)⟩ (Nat.le_of_ble_eq_true rfl) (Nat.le_of_ble_eq_true rfl) (fun σ3 hw => ?_)
  refine j_widen (k := 3) (n := 18) (Nat.le_of_ble_eq_true rfl) (Nat.le_of_ble_eq_true rfl) ?_
  refine j_aload_n (pc := 14) C d_X_passes_14 rfl 0 rfl ?_
  refine j_get (pc := 15) C i_X 0 rfl rfl 4 (Nat.le_of_ble_eq_true rfl) k_82 rfl d_X_passes_15 ?_
  refine j_iload_n (pc := 18) C d_X_passes_18 rfl 1 rfl ?_
  obtain ⟨hi4, hw⟩ := hw
  refine j_iald (pc := 19) C 4 0 rfl rfl hi4 d_X_passes_19 ?_
  refine j_iconst (v := 1) (pc := 20) C d_X_passes_20 (by decide) ?_
  refine j_isub (pc := 21) C d_X_passes_21 ?_
  refine j_nmi (fun x5 e_x5 => ?_)
  have hw := hw x5 e_x5
  refine j_istore_n (pc := 22) (lv' := [(3, .int x5), (0, .ref (ad 0)), (1, .int p1), (2, .int p2)]) C d_X_passes_22 rfl (Nat.le_of_ble_eq_true rfl) rfl ?_
  obtain ⟨n14, hw⟩ := hw
  refine j_locs [1, 3, 0] rfl ?_
  exact lp_X_passes_23 C Z E p2 n14 x5 σ3 hw
set_option maxHeartbeats 4000000 in
set_option maxRecDepth 100000 in
theorem c_X_bytes (l : Launch) (hlt : l.stackTraces = false) (G : va_G) (cI cL : ClassId) (ad : Nat → Nat) (σ : SX) (p1 : Int32) (Q : Int32 → SX → Prop) (QX : String → SX → Prop) (hw : wp_X_bytes σ p1 Q QX) : jx_i l G [(cI, .int), (cL, .long)] y_X_bytes b_X_bytes 2 .int rm_X_bytes [.ref (ad 0), .int p1] (wX cI cL ad σ) (wX cI cL ad) Q QX := by
  refine jx_open_i hlt (by decide +kernel) (Nat.le_of_ble_eq_true rfl) ?_
  intro κ hl hG C Z E
  subst hl; subst hG
  unfold wp_X_bytes at hw
  refine j_aload_n (pc := 0) C d_X_bytes_0 rfl 0 rfl ?_
  refine jx_callVv0 (pc := 1) (st := []) (As := []) (wf := wX cI cL ad) C Z E (c_X_needShared (jk_l κ) Z.1 (jk_G κ) cI cL ad σ _ _ hw) g_X_131 hdV_X_needShared ⟨(Nat.le_of_ble_eq_true rfl), (Nat.le_of_ble_eq_true rfl)⟩ rfl (q0 := 0) rfl rfl rfl rfl (Nat.le_of_ble_eq_true rfl) d_X_bytes_1 ⟨(Nat.le_of_ble_eq_true rfl), (Nat.le_of_ble_eq_true rfl)⟩ (Nat.le_of_ble_eq_true rfl) (Nat.le_of_ble_eq_true rfl) (fun σ1 hw => ?_)
  refine j_widen (k := 1) (n := 6) (Nat.le_of_ble_eq_true rfl) (Nat.le_of_ble_eq_true rfl) ?_
  refine j_aload_n (pc := 4) C d_X_bytes_4 rfl 0 rfl ?_
  refine j_iload_n (pc := 5) C d_X_bytes_5 rfl 1 rfl ?_
  refine jx_callVv0 (pc := 6) (st := []) (As := [.int p1]) (wf := wX cI cL ad) C Z E (c_X_needLayer (jk_l κ) Z.1 (jk_G κ) cI cL ad σ1 p1 _ _ hw) g_X_142 hdV_X_needLayer ⟨(Nat.le_of_ble_eq_true rfl), (Nat.le_of_ble_eq_true rfl)⟩ rfl (q0 := 0) rfl rfl rfl rfl (Nat.le_of_ble_eq_true rfl) d_X_bytes_6 ⟨(Nat.le_of_ble_eq_true rfl), (Nat.le_of_ble_eq_true rfl)⟩ (Nat.le_of_ble_eq_true rfl) (Nat.le_of_ble_eq_true rfl) (fun σ2 hw => ?_)
  refine j_widen (k := 2) (n := 12) (Nat.le_of_ble_eq_true rfl) (Nat.le_of_ble_eq_true rfl) ?_
  refine j_aload_n (pc := 9) C d_X_bytes_9 rfl 0 rfl ?_
  refine j_get (pc := 10) C i_X 0 rfl rfl 3 (Nat.le_of_ble_eq_true rfl) k_81 rfl d_X_bytes_10 ?_
  refine j_iload_n (pc := 13) C d_X_bytes_13 rfl 1 rfl ?_
  obtain ⟨hi3, hw⟩ := hw
  refine j_iald (pc := 14) C 3 0 rfl rfl hi3 d_X_bytes_14 ?_
  exact jx_iret (pc := 15) C E hw (Nat.le_of_ble_eq_true rfl) (Nat.le_of_ble_eq_true rfl) d_X_bytes_15
set_option maxHeartbeats 4000000 in
set_option maxRecDepth 100000 in
theorem lp_X_gained_14 {κ : jk_K} {cI cL : ClassId} {ad : Nat → Nat} {Q : Int64 → SX → Prop} {QX : String → SX → Prop} (C : jk_C κ b_X_gained R_X rm_X_gained 5 [(cI, .int), (cL, .long)]) (Z : jk_Cz κ) (E : jk_Ex κ (some .long) (va_Ql Q (jk_B (jk_G κ) [(cI, .int), (cL, .long)] (jk_A κ) (wX cI cL ad)) (jk_A κ)) (vx_X (fun u : String × SX => QX u.1 u.2) (jk_X (jk_G κ) [(cI, .int), (cL, .long)] (jk_A κ) (wX cI cL ad)) (jk_A κ)) rm_X_gained.cells rm_X_gained.slots) (y1 : Int32) : ∀ (n : Nat) (y2 : Int64) (y4 : Int32) (σ : SX), wl_X_gained_14 y1 Q QX n y2 y4 σ → jk_J κ (wX cI cL ad σ) 14 [(0, .ref (ad 0)), (1, .int y1), (2, .long y2), (4, .int y4)] [] 2 12 := by
  intro n
  induction n with
  | zero => intro y2 y4 σ hw; exact hw.elim
  | succ n ih =>
    intro y2 y4 σ hw
    rw [wl_X_gained_14] at hw
    refine j_iload (pc := 14) C d_X_gained_14 3 rfl ?_
    refine j_aload_n (pc := 16) C d_X_gained_16 rfl 0 rfl ?_
    refine j_get (pc := 17) C i_X 0 rfl rfl 4 (Nat.le_of_ble_eq_true rfl) k_82 rfl d_X_gained_17 ?_
    refine j_iload_n (pc := 20) C d_X_gained_20 rfl 1 rfl ?_
    obtain ⟨hi3, hw⟩ := hw
    refine j_iald (pc := 21) C 4 0 rfl rfl hi3 d_X_gained_21 ?_
    refine j_icmp_ge (pc := 22) (tgt := 46) C d_X_gained_22 (by decide) (fun c4 => ?_) (fun c4 => ?_)
    · have hw := hw.1 c4
      refine j_lload_n (pc := 46) C d_X_gained_46 rfl 2 rfl ?_
      exact jx_lret (pc := 47) C E hw (Nat.le_of_ble_eq_true rfl) (Nat.le_of_ble_eq_true rfl) d_X_gained_47
    · have hw := hw.2 c4
      refine j_lload_n (pc := 25) C d_X_gained_25 rfl 2 rfl ?_
      refine j_aload_n (pc := 26) C d_X_gained_26 rfl 0 rfl ?_
      refine j_get (pc := 27) C i_X 0 rfl rfl 13 (Nat.le_of_ble_eq_true rfl) k_42 rfl d_X_gained_27 ?_
      refine j_aload_n (pc := 30) C d_X_gained_30 rfl 0 rfl ?_
      refine j_get (pc := 31) C i_X 0 rfl rfl 15 (Nat.le_of_ble_eq_true rfl) k_29 rfl d_X_gained_31 ?_
      refine j_iload (pc := 34) C d_X_gained_34 3 rfl ?_
      obtain ⟨hi5, hw⟩ := hw
      refine j_iald (pc := 36) C 12 0 rfl rfl hi5 d_X_gained_36 ?_
      obtain ⟨hi6, hw⟩ := hw
      refine j_lald (pc := 37) C 10 1 rfl rfl hi6 d_X_gained_37 ?_
      refine j_ladd (pc := 38) C d_X_gained_38 ?_
      refine j_nml (fun x7 e_x7 => ?_)
      have hw := hw x7 e_x7
      refine j_lstore_n (pc := 39) (lv' := [(2, .long x7), (0, .ref (ad 0)), (1, .int y1), (4, .int y4)]) C d_X_gained_39 rfl (Nat.le_of_ble_eq_true rfl) rfl ?_
      refine j_iinc (pc := 40) (lv' := [(4, .int (y4 + 1)), (2, .long x7), (0, .ref (ad 0)), (1, .int y1)]) C d_X_gained_40 (k := 3) rfl rfl (Nat.le_of_ble_eq_true rfl) rfl ?_
      refine j_goto (pc := 43) (tgt := 14) C d_X_gained_43 (by decide) ?_
      refine j_locs [2, 3, 1, 0] rfl ?_
      exact ih x7 (y4 + 1) σ hw
set_option maxHeartbeats 4000000 in
set_option maxRecDepth 100000 in
theorem c_X_gained (l : Launch) (hlt : l.stackTraces = false) (G : va_G) (cI cL : ClassId) (ad : Nat → Nat) (σ : SX) (p1 : Int32) (Q : Int64 → SX → Prop) (QX : String → SX → Prop) (hw : wp_X_gained σ p1 Q QX) : jx_l l G [(cI, .int), (cL, .long)] y_X_gained b_X_gained 5 rm_X_gained [.ref (ad 0), .int p1] (wX cI cL ad σ) (wX cI cL ad) Q QX := by
  refine jx_open_l hlt (by decide +kernel) (Nat.le_of_ble_eq_true rfl) ?_
  intro κ hl hG C Z E
  subst hl; subst hG
  unfold wp_X_gained at hw
  refine j_aload_n (pc := 0) C d_X_gained_0 rfl 0 rfl ?_
  refine jx_callVv0 (pc := 1) (st := []) (As := []) (wf := wX cI cL ad) C Z E (c_X_needShared (jk_l κ) Z.1 (jk_G κ) cI cL ad σ _ _ hw) g_X_131 hdV_X_needShared ⟨(Nat.le_of_ble_eq_true rfl), (Nat.le_of_ble_eq_true rfl)⟩ rfl (q0 := 0) rfl rfl rfl rfl (Nat.le_of_ble_eq_true rfl) d_X_gained_1 ⟨(Nat.le_of_ble_eq_true rfl), (Nat.le_of_ble_eq_true rfl)⟩ (Nat.le_of_ble_eq_true rfl) (Nat.le_of_ble_eq_true rfl) (fun σ1 hw => ?_)
  refine j_widen (k := 1) (n := 6) (Nat.le_of_ble_eq_true rfl) (Nat.le_of_ble_eq_true rfl) ?_
  refine j_aload_n (pc := 4) C d_X_gained_4 rfl 0 rfl ?_
  refine j_iload_n (pc := 5) C d_X_gained_5 rfl 1 rfl ?_
  refine jx_callVv0 (pc := 6) (st := []) (As := [.int p1]) (wf := wX cI cL ad) C Z E (c_X_needLayer (jk_l κ) Z.1 (jk_G κ) cI cL ad σ1 p1 _ _ hw) g_X_142 hdV_X_needLayer ⟨(Nat.le_of_ble_eq_true rfl), (Nat.le_of_ble_eq_true rfl)⟩ rfl (q0 := 0) rfl rfl rfl rfl (Nat.le_of_ble_eq_true rfl) d_X_gained_6 ⟨(Nat.le_of_ble_eq_true rfl), (Nat.le_of_ble_eq_true rfl)⟩ (Nat.le_of_ble_eq_true rfl) (Nat.le_of_ble_eq_true rfl) (fun σ2 hw => ?_)
  refine j_widen (k := 2) (n := 12) (Nat.le_of_ble_eq_true rfl) (Nat.le_of_ble_eq_true rfl) ?_
  refine j_lconst (v := 0) (pc := 9) C d_X_gained_9 (by decide) ?_
  refine j_lstore_n (pc := 10) (lv' := [(2, .long 0), (0, .ref (ad 0)), (1, .int p1)]) C d_X_gained_10 rfl (Nat.le_of_ble_eq_true rfl) rfl ?_
  refine j_iconst (v := 0) (pc := 11) C d_X_gained_11 (by decide) ?_
  refine j_istore (pc := 12) (lv' := [(4, .int 0), (2, .long 0), (0, .ref (ad 0)), (1, .int p1)]) C d_X_gained_12 (Nat.le_of_ble_eq_true rfl) rfl ?_
  obtain ⟨n8, hw⟩ := hw
  refine j_locs [2, 3, 1, 0] rfl ?_
  exact lp_X_gained_14 C Z E p1 n8 0 0 σ2 hw
set_option maxHeartbeats 4000000 in
set_option maxRecDepth 100000 in
theorem lp_X_least_15 {κ : jk_K} {cI cL : ClassId} {ad : Nat → Nat} {Q : Int32 → SX → Prop} {QX : String → SX → Prop} (C : jk_C κ b_X_least R_X rm_X_least 4 [(cI, .int), (cL, .long)]) (Z : jk_Cz κ) (E : jk_Ex κ (some .int) (va_Qi Q (jk_B (jk_G κ) [(cI, .int), (cL, .long)] (jk_A κ) (wX cI cL ad)) (jk_A κ)) (vx_X (fun u : String × SX => QX u.1 u.2) (jk_X (jk_G κ) [(cI, .int), (cL, .long)] (jk_A κ) (wX cI cL ad)) (jk_A κ)) rm_X_least.cells rm_X_least.slots) (y1 : Int32) : ∀ (n : Nat) (y2 : Int32) (y3 : Int32) (σ : SX), wl_X_least_15 y1 Q QX n y2 y3 σ → jk_J κ (wX cI cL ad σ) 15 [(0, .ref (ad 0)), (1, .int y1), (2, .int y2), (3, .int y3)] [] 1 6 := by
  intro n
  induction n with
  | zero => intro y2 y3 σ hw; exact hw.elim
  | succ n ih =>
    intro y2 y3 σ hw
    rw [wl_X_least_15] at hw
    refine j_iload_n (pc := 15) C d_X_least_15 rfl 3 rfl ?_
    refine j_iload_n (pc := 16) C d_X_least_16 rfl 1 rfl ?_
    refine j_icmp_ge (pc := 17) (tgt := 40) C d_X_least_17 (by decide) (fun c2 => ?_) (fun c2 => ?_)
    · have hw := hw.1 c2
      refine j_iload_n (pc := 40) C d_X_least_40 rfl 2 rfl ?_
      exact jx_iret (pc := 41) C E hw (Nat.le_of_ble_eq_true rfl) (Nat.le_of_ble_eq_true rfl) d_X_least_41
    · have hw := hw.2 c2
      refine j_iload_n (pc := 20) C d_X_least_20 rfl 2 rfl ?_
      refine j_aload_n (pc := 21) C d_X_least_21 rfl 0 rfl ?_
      refine j_get (pc := 22) C i_X 0 rfl rfl 14 (Nat.le_of_ble_eq_true rfl) k_41 rfl d_X_least_22 ?_
      refine j_aload_n (pc := 25) C d_X_least_25 rfl 0 rfl ?_
      refine j_get (pc := 26) C i_X 0 rfl rfl 15 (Nat.le_of_ble_eq_true rfl) k_29 rfl d_X_least_26 ?_
      refine j_iload_n (pc := 29) C d_X_least_29 rfl 3 rfl ?_
      obtain ⟨hi3, hw⟩ := hw
      refine j_iald (pc := 30) C 12 0 rfl rfl hi3 d_X_least_30 ?_
      obtain ⟨hi4, hw⟩ := hw
      refine j_iald (pc := 31) C 11 0 rfl rfl hi4 d_X_least_31 ?_
      refine j_iadd (pc := 32) C d_X_least_32 ?_
      refine j_nmi (fun x5 e_x5 => ?_)
      have hw := hw x5 e_x5
      refine j_istore_n (pc := 33) (lv' := [(2, .int x5), (0, .ref (ad 0)), (1, .int y1), (3, .int y3)]) C d_X_least_33 rfl (Nat.le_of_ble_eq_true rfl) rfl ?_
      refine j_iinc (pc := 34) (lv' := [(3, .int (y3 + 1)), (2, .int x5), (0, .ref (ad 0)), (1, .int y1)]) C d_X_least_34 (k := 3) rfl rfl (Nat.le_of_ble_eq_true rfl) rfl ?_
      refine j_goto (pc := 37) (tgt := 15) C d_X_least_37 (by decide) ?_
      refine j_locs [2, 3, 1, 0] rfl ?_
      exact ih x5 (y3 + 1) σ hw
set_option maxHeartbeats 4000000 in
set_option maxRecDepth 100000 in
theorem c_X_least (l : Launch) (hlt : l.stackTraces = false) (G : va_G) (cI cL : ClassId) (ad : Nat → Nat) (σ : SX) (p1 : Int32) (Q : Int32 → SX → Prop) (QX : String → SX → Prop) (hw : wp_X_least σ p1 Q QX) : jx_i l G [(cI, .int), (cL, .long)] y_X_least b_X_least 4 .int rm_X_least [.ref (ad 0), .int p1] (wX cI cL ad σ) (wX cI cL ad) Q QX := by
  refine jx_open_i hlt (by decide +kernel) (Nat.le_of_ble_eq_true rfl) ?_
  intro κ hl hG C Z E
  subst hl; subst hG
  unfold wp_X_least at hw
  refine j_iload_n (pc := 0) C d_X_least_0 rfl 1 rfl ?_
  refine j_i2l (pc := 1) C d_X_least_1 ?_
  refine j_lconst (v := 0) (pc := 2) C d_X_least_2 (by decide) ?_
  refine j_aload_n (pc := 3) C d_X_least_3 rfl 0 rfl ?_
  refine j_get (pc := 4) C i_X 0 rfl rfl 16 (Nat.le_of_ble_eq_true rfl) k_28 rfl d_X_least_4 ?_
  refine j_i2l (pc := 7) C d_X_least_7 ?_
  refine jx_callSv0 (pc := 8) (st := []) (As := [.long (Int32.toInt64 p1), .long 0, .long (Int32.toInt64 (sX_ol σ))]) (wf := wX cI cL ad) C Z E (c_X_needWithin (jk_l κ) Z.1 (jk_G κ) cI cL ad σ (Int32.toInt64 p1) 0 (Int32.toInt64 (sX_ol σ)) _ _ hw) g_X_80 hdS_X_needWithin ⟨(Nat.le_of_ble_eq_true rfl), (Nat.le_of_ble_eq_true rfl)⟩ rfl rfl (Nat.le_of_ble_eq_true rfl) d_X_least_8 ⟨(Nat.le_of_ble_eq_true rfl), (Nat.le_of_ble_eq_true rfl)⟩ (Nat.le_of_ble_eq_true rfl) (Nat.le_of_ble_eq_true rfl) (fun σ1 hw => ?_)
  refine j_widen (k := 1) (n := 6) (Nat.le_of_ble_eq_true rfl) (Nat.le_of_ble_eq_true rfl) ?_
  refine j_iconst (v := 0) (pc := 11) C d_X_least_11 (by decide) ?_
  refine j_istore_n (pc := 12) (lv' := [(2, .int 0), (0, .ref (ad 0)), (1, .int p1)]) C d_X_least_12 rfl (Nat.le_of_ble_eq_true rfl) rfl ?_
  refine j_iconst (v := 0) (pc := 13) C d_X_least_13 (by decide) ?_
  refine j_istore_n (pc := 14) (lv' := [(3, .int 0), (2, .int 0), (0, .ref (ad 0)), (1, .int p1)]) C d_X_least_14 rfl (Nat.le_of_ble_eq_true rfl) rfl ?_
  obtain ⟨n6, hw⟩ := hw
  refine j_locs [2, 3, 1, 0] rfl ?_
  exact lp_X_least_15 C Z E p1 n6 0 0 σ1 hw
set_option maxHeartbeats 4000000 in
set_option maxRecDepth 100000 in
theorem lp_X_above_22 {κ : jk_K} {cI cL : ClassId} {ad : Nat → Nat} {Q : Int32 → SX → Prop} {QX : String → SX → Prop} (C : jk_C κ b_X_above R_X rm_X_above 5 [(cI, .int), (cL, .long)]) (Z : jk_Cz κ) (E : jk_Ex κ (some .int) (va_Qi Q (jk_B (jk_G κ) [(cI, .int), (cL, .long)] (jk_A κ) (wX cI cL ad)) (jk_A κ)) (vx_X (fun u : String × SX => QX u.1 u.2) (jk_X (jk_G κ) [(cI, .int), (cL, .long)] (jk_A κ) (wX cI cL ad)) (jk_A κ)) rm_X_above.cells rm_X_above.slots) (y1 : Int64) (y3 : Int32) : ∀ (n : Nat) (y4 : Int32) (σ : SX), wl_X_above_22 y1 y3 Q QX n y4 σ → jk_J κ (wX cI cL ad σ) 22 [(0, .ref (ad 0)), (1, .long y1), (3, .int y3), (4, .int y4)] [] 2 12 := by
  intro n
  induction n with
  | zero => intro y4 σ hw; exact hw.elim
  | succ n ih =>
    intro y4 σ hw
    rw [wl_X_above_22] at hw
    refine j_iload (pc := 22) C d_X_above_22 3 rfl ?_
    refine j_aload_n (pc := 24) C d_X_above_24 rfl 0 rfl ?_
    refine j_get (pc := 25) C i_X 0 rfl rfl 16 (Nat.le_of_ble_eq_true rfl) k_28 rfl d_X_above_25 ?_
    refine j_icmp_ge (pc := 28) (tgt := 71) C d_X_above_28 (by decide) (fun c3 => ?_) (fun c3 => ?_)
    · have hw := hw.1 c3
      refine j_iload (pc := 71) C d_X_above_71 3 rfl ?_
      exact jx_iret (pc := 73) C E hw (Nat.le_of_ble_eq_true rfl) (Nat.le_of_ble_eq_true rfl) d_X_above_73
    · have hw := hw.2 c3
      refine j_aload_n (pc := 31) C d_X_above_31 rfl 0 rfl ?_
      refine j_get (pc := 32) C i_X 0 rfl rfl 13 (Nat.le_of_ble_eq_true rfl) k_42 rfl d_X_above_32 ?_
      refine j_aload_n (pc := 35) C d_X_above_35 rfl 0 rfl ?_
      refine j_get (pc := 36) C i_X 0 rfl rfl 15 (Nat.le_of_ble_eq_true rfl) k_29 rfl d_X_above_36 ?_
      refine j_iload (pc := 39) C d_X_above_39 3 rfl ?_
      obtain ⟨hi4, hw⟩ := hw
      refine j_iald (pc := 41) C 12 0 rfl rfl hi4 d_X_above_41 ?_
      obtain ⟨hi5, hw⟩ := hw
      refine j_lald (pc := 42) C 10 1 rfl rfl hi5 d_X_above_42 ?_
      refine j_iload_n (pc := 43) C d_X_above_43 rfl 2 rfl ?_
      refine j_i2l (pc := 44) C d_X_above_44 ?_
      refine j_lmul (pc := 45) C d_X_above_45 ?_
      refine j_lload_n (pc := 46) C d_X_above_46 rfl 1 rfl ?_
      refine j_aload_n (pc := 47) C d_X_above_47 rfl 0 rfl ?_
      refine j_get (pc := 48) C i_X 0 rfl rfl 14 (Nat.le_of_ble_eq_true rfl) k_41 rfl d_X_above_48 ?_
      refine j_aload_n (pc := 51) C d_X_above_51 rfl 0 rfl ?_
      refine j_get (pc := 52) C i_X 0 rfl rfl 15 (Nat.le_of_ble_eq_true rfl) k_29 rfl d_X_above_52 ?_
      refine j_iload (pc := 55) C d_X_above_55 3 rfl ?_
      obtain ⟨hi6, hw⟩ := hw
      refine j_iald (pc := 57) C 12 0 rfl rfl hi6 d_X_above_57 ?_
      obtain ⟨hi7, hw⟩ := hw
      refine j_iald (pc := 58) C 11 0 rfl rfl hi7 d_X_above_58 ?_
      refine j_i2l (pc := 59) C d_X_above_59 ?_
      refine j_lmul (pc := 60) C d_X_above_60 ?_
      refine j_lcmp (pc := 61) C d_X_above_61 ?_
      refine j_if_lt (pc := 62) (tgt := 71) C d_X_above_62 (by decide) (fun c8 => ?_) (fun c8 => ?_)
      · have hw := hw.1 c8
        refine j_iload (pc := 71) C d_X_above_71 3 rfl ?_
        exact jx_iret (pc := 73) C E hw (Nat.le_of_ble_eq_true rfl) (Nat.le_of_ble_eq_true rfl) d_X_above_73
      · have hw := hw.2 c8
        refine j_iinc (pc := 65) (lv' := [(4, .int (y4 + 1)), (0, .ref (ad 0)), (1, .long y1), (3, .int y3)]) C d_X_above_65 (k := 3) rfl rfl (Nat.le_of_ble_eq_true rfl) rfl ?_
        refine j_goto (pc := 68) (tgt := 22) C d_X_above_68 (by decide) ?_
        refine j_locs [1, 2, 3, 0] rfl ?_
        exact ih (y4 + 1) σ hw
set_option maxHeartbeats 4000000 in
set_option maxRecDepth 100000 in
theorem c_X_above (l : Launch) (hlt : l.stackTraces = false) (G : va_G) (cI cL : ClassId) (ad : Nat → Nat) (σ : SX) (p1 : Int64) (p3 : Int32) (Q : Int32 → SX → Prop) (QX : String → SX → Prop) (hw : wp_X_above σ p1 p3 Q QX) : jx_i l G [(cI, .int), (cL, .long)] y_X_above b_X_above 5 .int rm_X_above [.ref (ad 0), .long p1, .int p3] (wX cI cL ad σ) (wX cI cL ad) Q QX := by
  refine jx_open_i hlt (by decide +kernel) (Nat.le_of_ble_eq_true rfl) ?_
  intro κ hl hG C Z E
  subst hl; subst hG
  unfold wp_X_above at hw
  refine j_iload_n (pc := 0) C d_X_above_0 rfl 2 rfl ?_
  refine j_i2l (pc := 1) C d_X_above_1 ?_
  refine j_lconst (v := 1) (pc := 2) C d_X_above_2 (by decide) ?_
  refine j_ldc2 (v := 1000000) (pc := 3) C d_X_above_3 k_21 ?_
  refine jx_callSv0 (pc := 6) (st := []) (As := [.long (Int32.toInt64 p3), .long 1, .long 1000000]) (wf := wX cI cL ad) C Z E (c_X_needWithin (jk_l κ) Z.1 (jk_G κ) cI cL ad σ (Int32.toInt64 p3) 1 1000000 _ _ hw) g_X_80 hdS_X_needWithin ⟨(Nat.le_of_ble_eq_true rfl), (Nat.le_of_ble_eq_true rfl)⟩ rfl rfl (Nat.le_of_ble_eq_true rfl) d_X_above_6 ⟨(Nat.le_of_ble_eq_true rfl), (Nat.le_of_ble_eq_true rfl)⟩ (Nat.le_of_ble_eq_true rfl) (Nat.le_of_ble_eq_true rfl) (fun σ1 hw => ?_)
  refine j_widen (k := 1) (n := 6) (Nat.le_of_ble_eq_true rfl) (Nat.le_of_ble_eq_true rfl) ?_
  refine j_lload_n (pc := 9) C d_X_above_9 rfl 1 rfl ?_
  refine j_ldc2 (v := (-1000000000000)) (pc := 10) C d_X_above_10 k_108 ?_
  refine j_ldc2 (v := 1000000000000) (pc := 13) C d_X_above_13 k_109 ?_
  refine jx_callSv0 (pc := 16) (st := []) (As := [.long p1, .long (-1000000000000), .long 1000000000000]) (wf := wX cI cL ad) C Z E (c_X_needWithin (jk_l κ) Z.1 (jk_G κ) cI cL ad σ1 p1 (-1000000000000) 1000000000000 _ _ hw) g_X_80 hdS_X_needWithin ⟨(Nat.le_of_ble_eq_true rfl), (Nat.le_of_ble_eq_true rfl)⟩ rfl rfl (Nat.le_of_ble_eq_true rfl) d_X_above_16 ⟨(Nat.le_of_ble_eq_true rfl), (Nat.le_of_ble_eq_true rfl)⟩ (Nat.le_of_ble_eq_true rfl) (Nat.le_of_ble_eq_true rfl) (fun σ2 hw => ?_)
  refine j_widen (k := 2) (n := 12) (Nat.le_of_ble_eq_true rfl) (Nat.le_of_ble_eq_true rfl) ?_
  refine j_iconst (v := 0) (pc := 19) C d_X_above_19 (by decide) ?_
  refine j_istore (pc := 20) (lv' := [(4, .int 0), (0, .ref (ad 0)), (1, .long p1), (3, .int p3)]) C d_X_above_20 (Nat.le_of_ble_eq_true rfl) rfl ?_
  obtain ⟨n9, hw⟩ := hw
  refine j_locs [1, 2, 3, 0] rfl ?_
  exact lp_X_above_22 C Z E p1 p3 n9 0 σ2 hw
set_option maxHeartbeats 4000000 in
set_option maxRecDepth 100000 in
theorem c_X_told (l : Launch) (G : va_G) (cI cL : ClassId) (ad : Nat → Nat) (σ : SX) (p1 : Int32) (Q : Int32 → SX → Prop) (hw : wp_X_told σ p1 Q) : jm_i l G [(cI, .int), (cL, .long)] y_X_told b_X_told 2 .int rm_X_told [.ref (ad 0), .int p1] (wX cI cL ad σ) (wX cI cL ad) Q := by
  refine jm_open_i (by decide +kernel) (Nat.le_of_ble_eq_true rfl) ?_
  intro κ hl hG C E hi
  subst hl; subst hG
  unfold wp_X_told at hw
  refine j_iload_n (pc := 0) C d_X_told_0 rfl 1 rfl ?_
  refine (Decidable.em (p1 = 0)).elim (fun c1 => ?_) (fun c1 => ?_)
  · have hw := hw.1 c1
    refine j_tableIn (pc := 1) (tgt := 32) C d_X_told_1 (by rw [c1]; decide) (by rw [c1]; decide) (by rw [c1]; rfl) (by decide) ?_
    refine j_aload_n (pc := 32) C d_X_told_32 rfl 0 rfl ?_
    refine j_get (pc := 33) C i_X 0 rfl rfl 0 (Nat.le_of_ble_eq_true rfl) k_70 rfl d_X_told_33 ?_
    exact j_iret (pc := 36) C E hw (Nat.le_of_ble_eq_true rfl) (Nat.le_of_ble_eq_true rfl) d_X_told_36
  · have hw := hw.2 c1
    refine (Decidable.em (p1 = 1)).elim (fun c2 => ?_) (fun c2 => ?_)
    · have hw := hw.1 c2
      refine j_tableIn (pc := 1) (tgt := 37) C d_X_told_1 (by rw [c2]; decide) (by rw [c2]; decide) (by rw [c2]; rfl) (by decide) ?_
      refine j_aload_n (pc := 37) C d_X_told_37 rfl 0 rfl ?_
      refine j_get (pc := 38) C i_X 0 rfl rfl 9 (Nat.le_of_ble_eq_true rfl) k_0 rfl d_X_told_38 ?_
      exact j_iret (pc := 41) C E hw (Nat.le_of_ble_eq_true rfl) (Nat.le_of_ble_eq_true rfl) d_X_told_41
    · have hw := hw.2 c2
      refine (Decidable.em (p1 = 2)).elim (fun c3 => ?_) (fun c3 => ?_)
      · have hw := hw.1 c3
        refine j_tableIn (pc := 1) (tgt := 42) C d_X_told_1 (by rw [c3]; decide) (by rw [c3]; decide) (by rw [c3]; rfl) (by decide) ?_
        refine j_aload_n (pc := 42) C d_X_told_42 rfl 0 rfl ?_
        refine j_get (pc := 43) C i_X 0 rfl rfl 10 (Nat.le_of_ble_eq_true rfl) k_27 rfl d_X_told_43 ?_
        exact j_iret (pc := 46) C E hw (Nat.le_of_ble_eq_true rfl) (Nat.le_of_ble_eq_true rfl) d_X_told_46
      · have hw := hw.2 c3
        refine (Decidable.em (p1 = 3)).elim (fun c4 => ?_) (fun c4 => ?_)
        · have hw := hw.1 c4
          refine j_tableIn (pc := 1) (tgt := 47) C d_X_told_1 (by rw [c4]; decide) (by rw [c4]; decide) (by rw [c4]; rfl) (by decide) ?_
          refine j_aload_n (pc := 47) C d_X_told_47 rfl 0 rfl ?_
          refine j_get (pc := 48) C i_X 0 rfl rfl 5 (Nat.le_of_ble_eq_true rfl) k_4 rfl d_X_told_48 ?_
          refine j_if_eq (pc := 51) (tgt := 58) C d_X_told_51 (by decide) (fun c5 => ?_) (fun c5 => ?_)
          · have hw := hw.1 c5
            refine j_iconst (v := 0) (pc := 58) C d_X_told_58 (by decide) ?_
            exact j_iret (pc := 59) C E hw (Nat.le_of_ble_eq_true rfl) (Nat.le_of_ble_eq_true rfl) d_X_told_59
          · have hw := hw.2 c5
            refine j_iconst (v := 1) (pc := 54) C d_X_told_54 (by decide) ?_
            refine j_goto (pc := 55) (tgt := 59) C d_X_told_55 (by decide) ?_
            exact j_iret (pc := 59) C E hw (Nat.le_of_ble_eq_true rfl) (Nat.le_of_ble_eq_true rfl) d_X_told_59
        · have hw := hw.2 c4
          have n_c1 := lv_neT (a := 0) c1 rfl
          have n_c2 := lv_neT (a := 1) c2 rfl
          have n_c3 := lv_neT (a := 2) c3 rfl
          have n_c4 := lv_neT (a := 3) c4 rfl
          refine j_tableOut (pc := 1) (tgt := 60) C d_X_told_1 (by omega) (by decide) ?_
          refine j_iconst (v := (-1)) (pc := 60) C d_X_told_60 (by decide) ?_
          exact j_iret (pc := 61) C E hw (Nat.le_of_ble_eq_true rfl) (Nat.le_of_ble_eq_true rfl) d_X_told_61
set_option maxHeartbeats 4000000 in
set_option maxRecDepth 100000 in
theorem lp_X_clear_2 {κ : jk_K} {cI cL : ClassId} {ad : Nat → Nat} {Q : SX → Prop} (C : jk_C κ b_X_clear R_X rm_X_clear 2 [(cI, .int), (cL, .long)]) (E : jk_E κ none (va_Qv Q (jk_B (jk_G κ) [(cI, .int), (cL, .long)] (jk_A κ) (wX cI cL ad)) (jk_A κ)) rm_X_clear.cells rm_X_clear.slots)  : ∀ (n : Nat) (y1 : Int32) (σ : SX), wl_X_clear_2 Q n y1 σ → jk_J κ (wX cI cL ad σ) 2 [(0, .ref (ad 0)), (1, .int y1)] [] 0 0 := by
  intro n
  induction n with
  | zero => intro y1 σ hw; exact hw.elim
  | succ n ih =>
    intro y1 σ hw
    rw [wl_X_clear_2] at hw
    refine j_iload_n (pc := 2) C d_X_clear_2 rfl 1 rfl ?_
    refine j_aload_n (pc := 3) C d_X_clear_3 rfl 0 rfl ?_
    refine j_get (pc := 4) C i_X 0 rfl rfl 0 (Nat.le_of_ble_eq_true rfl) k_70 rfl d_X_clear_4 ?_
    refine j_icmp_ge (pc := 7) (tgt := 30) C d_X_clear_7 (by decide) (fun c1 => ?_) (fun c1 => ?_)
    · have hw := hw.1 c1
      refine j_aload_n (pc := 30) C d_X_clear_30 rfl 0 rfl ?_
      refine j_iconst (v := 0) (pc := 31) C d_X_clear_31 (by decide) ?_
      obtain ⟨σ2, e_σ2⟩ : ∃ z : SX, z = uX_bc σ 0 := ⟨_, rfl⟩
      have hw := hw σ2 e_σ2
      refine j_put (pc := 32) (ws' := wX cI cL ad σ2) C i_X t_X t_X_ok n_X 0 rfl rfl 9 (Nat.le_of_ble_eq_true rfl) k_0 rfl (ty := .int) (by decide +kernel) rfl rfl (Nat.le_of_ble_eq_true rfl) (by rw [e_σ2]; rfl) d_X_clear_32 ?_
      refine j_aload_n (pc := 35) C d_X_clear_35 rfl 0 rfl ?_
      refine j_iconst (v := 0) (pc := 36) C d_X_clear_36 (by decide) ?_
      obtain ⟨σ3, e_σ3⟩ : ∃ z : SX, z = uX_pc σ2 0 := ⟨_, rfl⟩
      have hw := hw σ3 e_σ3
      refine j_put (pc := 37) (ws' := wX cI cL ad σ3) C i_X t_X t_X_ok n_X 0 rfl rfl 10 (Nat.le_of_ble_eq_true rfl) k_27 rfl (ty := .int) (by decide +kernel) rfl rfl (Nat.le_of_ble_eq_true rfl) (by rw [e_σ3]; rfl) d_X_clear_37 ?_
      refine j_aload_n (pc := 40) C d_X_clear_40 rfl 0 rfl ?_
      refine j_iconst (v := 0) (pc := 41) C d_X_clear_41 (by decide) ?_
      obtain ⟨σ4, e_σ4⟩ : ∃ z : SX, z = uX_ol σ3 0 := ⟨_, rfl⟩
      have hw := hw σ4 e_σ4
      refine j_put (pc := 42) (ws' := wX cI cL ad σ4) C i_X t_X t_X_ok n_X 0 rfl rfl 16 (Nat.le_of_ble_eq_true rfl) k_28 rfl (ty := .int) (by decide +kernel) rfl rfl (Nat.le_of_ble_eq_true rfl) (by rw [e_σ4]; rfl) d_X_clear_42 ?_
      refine j_aload_n (pc := 45) C d_X_clear_45 rfl 0 rfl ?_
      refine j_iconst (v := 0) (pc := 46) C d_X_clear_46 (by decide) ?_
      obtain ⟨σ5, e_σ5⟩ : ∃ z : SX, z = uX_shared σ4 0 := ⟨_, rfl⟩
      have hw := hw σ5 e_σ5
      refine j_put (pc := 47) (ws' := wX cI cL ad σ5) C i_X t_X t_X_ok n_X 0 rfl rfl 5 (Nat.le_of_ble_eq_true rfl) k_4 rfl (ty := .boolean) (by decide +kernel) rfl rfl (Nat.le_of_ble_eq_true rfl) (by rw [e_σ5]; rfl) d_X_clear_47 ?_
      exact j_vret (pc := 50) C E hw (Nat.le_of_ble_eq_true rfl) (Nat.le_of_ble_eq_true rfl) d_X_clear_50
    · have hw := hw.2 c1
      refine j_aload_n (pc := 10) C d_X_clear_10 rfl 0 rfl ?_
      refine j_get (pc := 11) C i_X 0 rfl rfl 1 (Nat.le_of_ble_eq_true rfl) k_69 rfl d_X_clear_11 ?_
      refine j_iload_n (pc := 14) C d_X_clear_14 rfl 1 rfl ?_
      refine j_iconst (v := 0) (pc := 15) C d_X_clear_15 (by decide) ?_
      obtain ⟨hi6, hw⟩ := hw
      obtain ⟨σ7, e_σ7⟩ : ∃ z : SX, z = uX_sizes σ (upd (sX_sizes σ) (Int32.toNatClampNeg y1) 0) := ⟨_, rfl⟩
      have hw := hw σ7 e_σ7
      refine j_iast (pc := 16) (ws' := wX cI cL ad σ7) C 1 0 rfl rfl hi6 (by rw [e_σ7]; rfl) d_X_clear_16 ?_
      refine j_aload_n (pc := 17) C d_X_clear_17 rfl 0 rfl ?_
      refine j_get (pc := 18) C i_X 0 rfl rfl 2 (Nat.le_of_ble_eq_true rfl) k_80 rfl d_X_clear_18 ?_
      refine j_iload_n (pc := 21) C d_X_clear_21 rfl 1 rfl ?_
      refine j_iconst (v := 0) (pc := 22) C d_X_clear_22 (by decide) ?_
      obtain ⟨hi8, hw⟩ := hw
      obtain ⟨σ9, e_σ9⟩ : ∃ z : SX, z = uX_heads σ7 (upd (sX_heads σ7) (Int32.toNatClampNeg y1) 0) := ⟨_, rfl⟩
      have hw := hw σ9 e_σ9
      refine j_iast (pc := 23) (ws' := wX cI cL ad σ9) C 2 0 rfl rfl hi8 (by rw [e_σ9]; rfl) d_X_clear_23 ?_
      refine j_iinc (pc := 24) (lv' := [(1, .int (y1 + 1)), (0, .ref (ad 0))]) C d_X_clear_24 (k := 1) rfl rfl (Nat.le_of_ble_eq_true rfl) rfl ?_
      refine j_goto (pc := 27) (tgt := 2) C d_X_clear_27 (by decide) ?_
      refine j_locs [1, 0] rfl ?_
      exact ih (y1 + 1) σ9 hw
set_option maxHeartbeats 4000000 in
set_option maxRecDepth 100000 in
theorem c_X_clear (l : Launch) (G : va_G) (cI cL : ClassId) (ad : Nat → Nat) (σ : SX) (Q : SX → Prop) (hw : wp_X_clear σ Q) : jm_v l G [(cI, .int), (cL, .long)] y_X_clear b_X_clear 2 rm_X_clear [.ref (ad 0)] (wX cI cL ad σ) (wX cI cL ad) Q := by
  refine jm_open_v (by decide +kernel) (Nat.le_of_ble_eq_true rfl) ?_
  intro κ hl hG C E hi
  subst hl; subst hG
  unfold wp_X_clear at hw
  refine j_iconst (v := 0) (pc := 0) C d_X_clear_0 (by decide) ?_
  refine j_istore_n (pc := 1) (lv' := [(1, .int 0), (0, .ref (ad 0))]) C d_X_clear_1 rfl (Nat.le_of_ble_eq_true rfl) rfl ?_
  obtain ⟨n10, hw⟩ := hw
  refine j_locs [1, 0] rfl ?_
  exact lp_X_clear_2 C E  n10 0 σ hw
