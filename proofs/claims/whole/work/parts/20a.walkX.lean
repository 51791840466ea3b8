set_option maxHeartbeats 4000000 in
set_option maxRecDepth 100000 in
theorem c_X_block (l : Launch) (hlt : l.stackTraces = false) (G : va_G) (cI cL : ClassId) (ad : Nat → Nat) (σ : SX) (Q : Int32 → SX → Prop) (QX : String → SX → Prop) (hw : wp_X_block σ Q QX) : jx_i l G [(cI, .int), (cL, .long)] y_X_block b_X_block 2 .int rm_X_block [.ref (ad 0)] (wX cI cL ad σ) (wX cI cL ad) Q QX := by
  refine jx_open_i hlt (by decide +kernel) (Nat.le_of_ble_eq_true rfl) ?_
  intro κ hl hG C Z E
  subst hl; subst hG
  unfold wp_X_block at hw
  refine j_aload_n (pc := 0) C d_X_block_0 rfl 0 rfl ?_
  refine j_get (pc := 1) C i_X 0 rfl rfl 9 (Nat.le_of_ble_eq_true rfl) k_0 rfl d_X_block_1 ?_
  refine j_bipush (v := 40) (pc := 4) C d_X_block_4 (by decide) ?_
  refine j_icmp_lt (pc := 6) (tgt := 19) C d_X_block_6 (by decide) (fun c1 => ?_) (fun c1 => ?_)
  · have hw := hw.1 c1
    refine j_aload_n (pc := 19) C d_X_block_19 rfl 0 rfl ?_
    refine j_get (pc := 20) C i_X 0 rfl rfl 9 (Nat.le_of_ble_eq_true rfl) k_0 rfl d_X_block_20 ?_
    refine j_nmi (fun x2 e_x2 => ?_)
    have hw := hw x2 e_x2
    refine j_istore_n (pc := 23) (lv' := [(1, .int x2), (0, .ref (ad 0))]) C d_X_block_23 rfl (Nat.le_of_ble_eq_true rfl) rfl ?_
    refine j_aload_n (pc := 24) C d_X_block_24 rfl 1 rfl ?_
    refine j_get (pc := 25) C i_X 0 rfl rfl 6 (Nat.le_of_ble_eq_true rfl) k_1 rfl d_X_block_25 ?_
    refine j_iload_n (pc := 28) C d_X_block_28 rfl 0 rfl ?_
    refine j_iconst (v := 1) (pc := 29) C d_X_block_29 (by decide) ?_
    obtain ⟨hi3, hw⟩ := hw
    obtain ⟨σ4, e_σ4⟩ : ∃ z : SX, z = uX_weights σ (upd (sX_weights σ) (Int32.toNatClampNeg x2) 1) := ⟨_, rfl⟩
    have hw := hw σ4 e_σ4
    refine j_iast (pc := 30) (ws' := wX cI cL ad σ4) C 5 0 rfl rfl hi3 (by rw [e_σ4]; rfl) d_X_block_30 ?_
    refine j_aload_n (pc := 31) C d_X_block_31 rfl 1 rfl ?_
    refine j_get (pc := 32) C i_X 0 rfl rfl 7 (Nat.le_of_ble_eq_true rfl) k_2 rfl d_X_block_32 ?_
    refine j_iload_n (pc := 35) C d_X_block_35 rfl 0 rfl ?_
    refine j_iconst (v := 0) (pc := 36) C d_X_block_36 (by decide) ?_
    obtain ⟨hi5, hw⟩ := hw
    obtain ⟨σ6, e_σ6⟩ : ∃ z : SX, z = uX_shifts σ4 (upd (sX_shifts σ4) (Int32.toNatClampNeg x2) 0) := ⟨_, rfl⟩
    have hw := hw σ6 e_σ6
    refine j_iast (pc := 37) (ws' := wX cI cL ad σ6) C 6 0 rfl rfl hi5 (by rw [e_σ6]; rfl) d_X_block_37 ?_
    refine j_aload_n (pc := 38) C d_X_block_38 rfl 1 rfl ?_
    refine j_get (pc := 39) C i_X 0 rfl rfl 8 (Nat.le_of_ble_eq_true rfl) k_3 rfl d_X_block_39 ?_
    refine j_iload_n (pc := 42) C d_X_block_42 rfl 0 rfl ?_
    refine j_iconst (v := 0) (pc := 43) C d_X_block_43 (by decide) ?_
    obtain ⟨hi7, hw⟩ := hw
    obtain ⟨σ8, e_σ8⟩ : ∃ z : SX, z = uX_counts σ6 (upd (sX_counts σ6) (Int32.toNatClampNeg x2) 0) := ⟨_, rfl⟩
    have hw := hw σ8 e_σ8
    refine j_iast (pc := 44) (ws' := wX cI cL ad σ8) C 7 0 rfl rfl hi7 (by rw [e_σ8]; rfl) d_X_block_44 ?_
    refine j_aload_n (pc := 45) C d_X_block_45 rfl 1 rfl ?_
    refine j_dup (pc := 46) C d_X_block_46 rfl ?_
    refine j_get (pc := 47) C i_X 0 rfl rfl 9 (Nat.le_of_ble_eq_true rfl) k_0 rfl d_X_block_47 ?_
    refine j_iconst (v := 1) (pc := 50) C d_X_block_50 (by decide) ?_
    refine j_iadd (pc := 51) C d_X_block_51 ?_
    obtain ⟨σ9, e_σ9⟩ : ∃ z : SX, z = uX_bc σ8 ((sX_bc σ8) + 1) := ⟨_, rfl⟩
    have hw := hw σ9 e_σ9
    refine j_put (pc := 52) (ws' := wX cI cL ad σ9) C i_X t_X t_X_ok n_X 0 rfl rfl 9 (Nat.le_of_ble_eq_true rfl) k_0 rfl (ty := .int) (by decide +kernel) rfl rfl (Nat.le_of_ble_eq_true rfl) (by rw [e_σ9]; rfl) d_X_block_52 ?_
    refine j_aload_n (pc := 55) C d_X_block_55 rfl 1 rfl ?_
    refine j_iconst (v := 0) (pc := 56) C d_X_block_56 (by decide) ?_
    obtain ⟨σ10, e_σ10⟩ : ∃ z : SX, z = uX_shared σ9 0 := ⟨_, rfl⟩
    have hw := hw σ10 e_σ10
    refine j_put (pc := 57) (ws' := wX cI cL ad σ10) C i_X t_X t_X_ok n_X 0 rfl rfl 5 (Nat.le_of_ble_eq_true rfl) k_4 rfl (ty := .boolean) (by decide +kernel) rfl rfl (Nat.le_of_ble_eq_true rfl) (by rw [e_σ10]; rfl) d_X_block_57 ?_
    refine j_iload_n (pc := 60) C d_X_block_60 rfl 0 rfl ?_
    exact jx_iret (pc := 61) C E hw (Nat.le_of_ble_eq_true rfl) (Nat.le_of_ble_eq_true rfl) d_X_block_61
  · have hw := hw.2 c1
    exact jx_throwS (pc := 9) C Z E (names := ["java/lang/RuntimeException", "java/lang/Exception"]) (by decide +kernel) (by decide +kernel) k_5 k_6 (List.mem_of_getElem? (i := 0) rfl) ka_X_67 d_X_block_9 d_X_block_12 d_X_block_13 d_X_block_15 d_X_block_18 (Nat.le_of_ble_eq_true rfl) (Nat.le_of_ble_eq_true rfl) (Nat.le_of_ble_eq_true rfl) (Nat.le_of_ble_eq_true rfl) (Nat.le_of_ble_eq_true rfl) (Nat.le_of_ble_eq_true rfl) hw
set_option maxHeartbeats 4000000 in
set_option maxRecDepth 100000 in
theorem c_X_needBlock (l : Launch) (hlt : l.stackTraces = false) (G : va_G) (cI cL : ClassId) (ad : Nat → Nat) (σ : SX) (p1 : Int32) (Q : SX → Prop) (QX : String → SX → Prop) (hw : wp_X_needBlock σ p1 Q QX) : jx_v l G [(cI, .int), (cL, .long)] y_X_needBlock b_X_needBlock 2 rm_X_needBlock [.ref (ad 0), .int p1] (wX cI cL ad σ) (wX cI cL ad) Q QX := by
  refine jx_open_v hlt (by decide +kernel) (Nat.le_of_ble_eq_true rfl) ?_
  intro κ hl hG C Z E
  subst hl; subst hG
  unfold wp_X_needBlock at hw
  refine j_iload_n (pc := 0) C d_X_needBlock_0 rfl 1 rfl ?_
  refine j_if_lt (pc := 1) (tgt := 12) C d_X_needBlock_1 (by decide) (fun c1 => ?_) (fun c1 => ?_)
  · have hw := hw.1 c1
    exact jx_throwS (pc := 12) C Z E (names := ["java/lang/RuntimeException", "java/lang/Exception"]) (by decide +kernel) (by decide +kernel) k_7 k_8 (List.mem_of_getElem? (i := 1) rfl) ka_X_121 d_X_needBlock_12 d_X_needBlock_15 d_X_needBlock_16 d_X_needBlock_18 d_X_needBlock_21 (Nat.le_of_ble_eq_true rfl) (Nat.le_of_ble_eq_true rfl) (Nat.le_of_ble_eq_true rfl) (Nat.le_of_ble_eq_true rfl) (Nat.le_of_ble_eq_true rfl) (Nat.le_of_ble_eq_true rfl) hw
  · have hw := hw.2 c1
    refine j_iload_n (pc := 4) C d_X_needBlock_4 rfl 1 rfl ?_
    refine j_aload_n (pc := 5) C d_X_needBlock_5 rfl 0 rfl ?_
    refine j_get (pc := 6) C i_X 0 rfl rfl 9 (Nat.le_of_ble_eq_true rfl) k_0 rfl d_X_needBlock_6 ?_
    refine j_icmp_lt (pc := 9) (tgt := 22) C d_X_needBlock_9 (by decide) (fun c2 => ?_) (fun c2 => ?_)
    · have hw := hw.1 c2
      exact jx_vret (pc := 22) C E hw (Nat.le_of_ble_eq_true rfl) (Nat.le_of_ble_eq_true rfl) d_X_needBlock_22
    · have hw := hw.2 c2
      exact jx_throwS (pc := 12) C Z E (names := ["java/lang/RuntimeException", "java/lang/Exception"]) (by decide +kernel) (by decide +kernel) k_7 k_8 (List.mem_of_getElem? (i := 1) rfl) ka_X_121 d_X_needBlock_12 d_X_needBlock_15 d_X_needBlock_16 d_X_needBlock_18 d_X_needBlock_21 (Nat.le_of_ble_eq_true rfl) (Nat.le_of_ble_eq_true rfl) (Nat.le_of_ble_eq_true rfl) (Nat.le_of_ble_eq_true rfl) (Nat.le_of_ble_eq_true rfl) (Nat.le_of_ble_eq_true rfl) hw
set_option maxHeartbeats 4000000 in
set_option maxRecDepth 100000 in
theorem c_X_needWithin (l : Launch) (hlt : l.stackTraces = false) (G : va_G) (cI cL : ClassId) (ad : Nat → Nat) (σ : SX) (p0 : Int64) (p2 : Int64) (p4 : Int64) (Q : SX → Prop) (QX : String → SX → Prop) (hw : wp_X_needWithin σ p0 p2 p4 Q QX) : jx_v l G [(cI, .int), (cL, .long)] y_X_needWithin b_X_needWithin 6 rm_X_needWithin [.long p0, .long p2, .long p4] (wX cI cL ad σ) (wX cI cL ad) Q QX := by
  refine jx_open_v hlt (by decide +kernel) (Nat.le_of_ble_eq_true rfl) ?_
  intro κ hl hG C Z E
  subst hl; subst hG
  unfold wp_X_needWithin at hw
  refine j_lload_n (pc := 0) C d_X_needWithin_0 rfl 0 rfl ?_
  refine j_lload_n (pc := 1) C d_X_needWithin_1 rfl 1 rfl ?_
  refine j_lcmp (pc := 2) C d_X_needWithin_2 ?_
  refine j_if_lt (pc := 3) (tgt := 13) C d_X_needWithin_3 (by decide) (fun c1 => ?_) (fun c1 => ?_)
  · have hw := hw.1 c1
    exact jx_throwS (pc := 13) C Z E (names := ["java/lang/RuntimeException", "java/lang/Exception"]) (by decide +kernel) (by decide +kernel) k_15 k_16 (List.mem_of_getElem? (i := 2) rfl) ka_X_141 d_X_needWithin_13 d_X_needWithin_16 d_X_needWithin_17 d_X_needWithin_19 d_X_needWithin_22 (Nat.le_of_ble_eq_true rfl) (Nat.le_of_ble_eq_true rfl) (Nat.le_of_ble_eq_true rfl) (Nat.le_of_ble_eq_true rfl) (Nat.le_of_ble_eq_true rfl) (Nat.le_of_ble_eq_true rfl) hw
  · have hw := hw.2 c1
    refine j_lload_n (pc := 6) C d_X_needWithin_6 rfl 0 rfl ?_
    refine j_lload (pc := 7) C d_X_needWithin_7 2 rfl ?_
    refine j_lcmp (pc := 9) C d_X_needWithin_9 ?_
    refine j_if_le (pc := 10) (tgt := 23) C d_X_needWithin_10 (by decide) (fun c2 => ?_) (fun c2 => ?_)
    · have hw := hw.1 c2
      exact jx_vret (pc := 23) C E hw (Nat.le_of_ble_eq_true rfl) (Nat.le_of_ble_eq_true rfl) d_X_needWithin_23
    · have hw := hw.2 c2
      exact jx_throwS (pc := 13) C Z E (names := ["java/lang/RuntimeException", "java/lang/Exception"]) (by decide +kernel) (by decide +kernel) k_15 k_16 (List.mem_of_getElem? (i := 2) rfl) ka_X_141 d_X_needWithin_13 d_X_needWithin_16 d_X_needWithin_17 d_X_needWithin_19 d_X_needWithin_22 (Nat.le_of_ble_eq_true rfl) (Nat.le_of_ble_eq_true rfl) (Nat.le_of_ble_eq_true rfl) (Nat.le_of_ble_eq_true rfl) (Nat.le_of_ble_eq_true rfl) (Nat.le_of_ble_eq_true rfl) hw
set_option maxHeartbeats 4000000 in
set_option maxRecDepth 100000 in
theorem c_X_startOf (l : Launch) (G : va_G) (cI cL : ClassId) (ad : Nat → Nat) (σ : SX) (p0 : Int32) (Q : Int32 → SX → Prop) (hw : wp_X_startOf σ p0 Q) : jm_i l G [(cI, .int), (cL, .long)] y_X_startOf b_X_startOf 1 .int rm_X_startOf [.int p0] (wX cI cL ad σ) (wX cI cL ad) Q := by
  refine jm_open_i (by decide +kernel) (Nat.le_of_ble_eq_true rfl) ?_
  intro κ hl hG C E hi
  subst hl; subst hG
  unfold wp_X_startOf at hw
  refine j_iload_n (pc := 0) C d_X_startOf_0 rfl 0 rfl ?_
  refine j_bipush (v := 25) (pc := 1) C d_X_startOf_1 (by decide) ?_
  refine j_imul (pc := 3) C d_X_startOf_3 ?_
  exact j_iret (pc := 4) C E hw (Nat.le_of_ble_eq_true rfl) (Nat.le_of_ble_eq_true rfl) d_X_startOf_4
set_option maxHeartbeats 4000000 in
set_option maxRecDepth 100000 in
theorem c_X_blockOf (l : Launch) (G : va_G) (cI cL : ClassId) (ad : Nat → Nat) (σ : SX) (p0 : Int32) (Q : Int32 → SX → Prop) (hw : wp_X_blockOf σ p0 Q) : jm_i l G [(cI, .int), (cL, .long)] y_X_blockOf b_X_blockOf 1 .int rm_X_blockOf [.int p0] (wX cI cL ad σ) (wX cI cL ad) Q := by
  refine jm_open_i (by decide +kernel) (Nat.le_of_ble_eq_true rfl) ?_
  intro κ hl hG C E hi
  subst hl; subst hG
  unfold wp_X_blockOf at hw
  refine j_iload_n (pc := 0) C d_X_blockOf_0 rfl 0 rfl ?_
  refine j_bipush (v := 25) (pc := 1) C d_X_blockOf_1 (by decide) ?_
  refine j_idiv (pc := 3) C d_X_blockOf_3 (by decide) ?_
  exact j_iret (pc := 4) C E hw (Nat.le_of_ble_eq_true rfl) (Nat.le_of_ble_eq_true rfl) d_X_blockOf_4
set_option maxHeartbeats 4000000 in
set_option maxRecDepth 100000 in
theorem lp_X_takeFromRow_4 {κ : jk_K} {cI cL : ClassId} {ad : Nat → Nat} {Q : SX → Prop} (C : jk_C κ b_X_takeFromRow R_X rm_X_takeFromRow 4 [(cI, .int), (cL, .long)]) (E : jk_E κ none (va_Qv Q (jk_B (jk_G κ) [(cI, .int), (cL, .long)] (jk_A κ) (wX cI cL ad)) (jk_A κ)) rm_X_takeFromRow.cells rm_X_takeFromRow.slots) (y1 : Int32) : ∀ (n : Nat) (y2 : Int32) (y3 : Int32) (σ : SX), wl_X_takeFromRow_4 y1 Q n y2 y3 σ → jk_J κ (wX cI cL ad σ) 4 [(0, .ref (ad 0)), (1, .int y1), (2, .int y2), (3, .int y3)] [] 0 0 := by
  intro n
  induction n with
  | zero => intro y2 y3 σ hw; exact hw.elim
  | succ n ih =>
    intro y2 y3 σ hw
    rw [wl_X_takeFromRow_4] at hw
    refine j_iload_n (pc := 4) C d_X_takeFromRow_4 rfl 3 rfl ?_
    refine j_aload_n (pc := 5) C d_X_takeFromRow_5 rfl 0 rfl ?_
    refine j_get (pc := 6) C i_X 0 rfl rfl 16 (Nat.le_of_ble_eq_true rfl) k_28 rfl d_X_takeFromRow_6 ?_
    refine j_icmp_ge (pc := 9) (tgt := 46) C d_X_takeFromRow_9 (by decide) (fun c1 => ?_) (fun c1 => ?_)
    · have hw := hw.1 c1
      refine j_aload_n (pc := 46) C d_X_takeFromRow_46 rfl 0 rfl ?_
      refine j_iload_n (pc := 47) C d_X_takeFromRow_47 rfl 2 rfl ?_
      obtain ⟨σ2, e_σ2⟩ : ∃ z : SX, z = uX_ol σ y2 := ⟨_, rfl⟩
      have hw := hw σ2 e_σ2
      refine j_put (pc := 48) (ws' := wX cI cL ad σ2) C i_X t_X t_X_ok n_X 0 rfl rfl 16 (Nat.le_of_ble_eq_true rfl) k_28 rfl (ty := .int) (by decide +kernel) rfl rfl (Nat.le_of_ble_eq_true rfl) (by rw [e_σ2]; rfl) d_X_takeFromRow_48 ?_
      exact j_vret (pc := 51) C E hw (Nat.le_of_ble_eq_true rfl) (Nat.le_of_ble_eq_true rfl) d_X_takeFromRow_51
    · have hw := hw.2 c1
      refine j_aload_n (pc := 12) C d_X_takeFromRow_12 rfl 0 rfl ?_
      refine j_get (pc := 13) C i_X 0 rfl rfl 15 (Nat.le_of_ble_eq_true rfl) k_29 rfl d_X_takeFromRow_13 ?_
      refine j_iload_n (pc := 16) C d_X_takeFromRow_16 rfl 3 rfl ?_
      obtain ⟨hi3, hw⟩ := hw
      refine j_iald (pc := 17) C 12 0 rfl rfl hi3 d_X_takeFromRow_17 ?_
      refine j_callSi0 (pc := 18) (st := []) (As := [.int (sX_order σ (Int32.toNatClampNeg y3))]) (wf := wX cI cL ad) C (c_X_blockOf (jk_l κ) (jk_G κ) cI cL ad σ (sX_order σ (Int32.toNatClampNeg y3)) _ hw) g_X_122 hdS_X_blockOf ⟨(Nat.le_of_ble_eq_true rfl), (Nat.le_of_ble_eq_true rfl)⟩ rfl rfl (Nat.le_of_ble_eq_true rfl) d_X_takeFromRow_18 ⟨(Nat.le_of_ble_eq_true rfl), (Nat.le_of_ble_eq_true rfl)⟩ (fun r5 σ4 hw => ?_)
      refine j_iload_n (pc := 21) C d_X_takeFromRow_21 rfl 1 rfl ?_
      refine j_icmp_eq (pc := 22) (tgt := 40) C d_X_takeFromRow_22 (by decide) (fun c6 => ?_) (fun c6 => ?_)
      · have hw := hw.1 c6
        refine j_iinc (pc := 40) (lv' := [(3, .int (y3 + 1)), (0, .ref (ad 0)), (1, .int y1), (2, .int y2)]) C d_X_takeFromRow_40 (k := 3) rfl rfl (Nat.le_of_ble_eq_true rfl) rfl ?_
        refine j_goto (pc := 43) (tgt := 4) C d_X_takeFromRow_43 (by decide) ?_
        refine j_locs [1, 2, 3, 0] rfl ?_
        exact ih y2 (y3 + 1) σ4 hw
      · have hw := hw.2 c6
        refine j_aload_n (pc := 25) C d_X_takeFromRow_25 rfl 0 rfl ?_
        refine j_get (pc := 26) C i_X 0 rfl rfl 15 (Nat.le_of_ble_eq_true rfl) k_29 rfl d_X_takeFromRow_26 ?_
        refine j_iload_n (pc := 29) C d_X_takeFromRow_29 rfl 2 rfl ?_
        refine j_aload_n (pc := 30) C d_X_takeFromRow_30 rfl 0 rfl ?_
        refine j_get (pc := 31) C i_X 0 rfl rfl 15 (Nat.le_of_ble_eq_true rfl) k_29 rfl d_X_takeFromRow_31 ?_
        refine j_iload_n (pc := 34) C d_X_takeFromRow_34 rfl 3 rfl ?_
        obtain ⟨hi7, hw⟩ := hw
        refine j_iald (pc := 35) C 12 0 rfl rfl hi7 d_X_takeFromRow_35 ?_
        obtain ⟨hi8, hw⟩ := hw
        obtain ⟨σ9, e_σ9⟩ : ∃ z : SX, z = uX_order σ4 (upd (sX_order σ4) (Int32.toNatClampNeg y2) (sX_order σ4 (Int32.toNatClampNeg y3))) := ⟨_, rfl⟩
        have hw := hw σ9 e_σ9
        refine j_iast (pc := 36) (ws' := wX cI cL ad σ9) C 12 0 rfl rfl hi8 (by rw [e_σ9]; rfl) d_X_takeFromRow_36 ?_
        refine j_iinc (pc := 37) (lv' := [(2, .int (y2 + 1)), (0, .ref (ad 0)), (1, .int y1), (3, .int y3)]) C d_X_takeFromRow_37 (k := 2) rfl rfl (Nat.le_of_ble_eq_true rfl) rfl ?_
        refine j_iinc (pc := 40) (lv' := [(3, .int (y3 + 1)), (2, .int (y2 + 1)), (0, .ref (ad 0)), (1, .int y1)]) C d_X_takeFromRow_40 (k := 3) rfl rfl (Nat.le_of_ble_eq_true rfl) rfl ?_
        refine j_goto (pc := 43) (tgt := 4) C d_X_takeFromRow_43 (by decide) ?_
        refine j_locs [2, 3, 1, 0] rfl ?_
        exact ih (y2 + 1) (y3 + 1) σ9 hw
set_option maxHeartbeats 4000000 in
set_option maxRecDepth 100000 in
theorem c_X_takeFromRow (l : Launch) (G : va_G) (cI cL : ClassId) (ad : Nat → Nat) (σ : SX) (p1 : Int32) (Q : SX → Prop) (hw : wp_X_takeFromRow σ p1 Q) : jm_v l G [(cI, .int), (cL, .long)] y_X_takeFromRow b_X_takeFromRow 4 rm_X_takeFromRow [.ref (ad 0), .int p1] (wX cI cL ad σ) (wX cI cL ad) Q := by
  refine jm_open_v (by decide +kernel) (Nat.le_of_ble_eq_true rfl) ?_
  intro κ hl hG C E hi
  subst hl; subst hG
  unfold wp_X_takeFromRow at hw
  refine j_iconst (v := 0) (pc := 0) C d_X_takeFromRow_0 (by decide) ?_
  refine j_istore_n (pc := 1) (lv' := [(2, .int 0), (0, .ref (ad 0)), (1, .int p1)]) C d_X_takeFromRow_1 rfl (Nat.le_of_ble_eq_true rfl) rfl ?_
  refine j_iconst (v := 0) (pc := 2) C d_X_takeFromRow_2 (by decide) ?_
  refine j_istore_n (pc := 3) (lv' := [(3, .int 0), (2, .int 0), (0, .ref (ad 0)), (1, .int p1)]) C d_X_takeFromRow_3 rfl (Nat.le_of_ble_eq_true rfl) rfl ?_
  obtain ⟨n10, hw⟩ := hw
  refine j_locs [2, 3, 1, 0] rfl ?_
  exact lp_X_takeFromRow_4 C E p1 n10 0 0 σ hw
set_option maxHeartbeats 4000000 in
set_option maxRecDepth 100000 in
theorem lp_X_steepestFrom_13 {κ : jk_K} {cI cL : ClassId} {ad : Nat → Nat} {Q : Int32 → SX → Prop} (C : jk_C κ b_X_steepestFrom R_X rm_X_steepestFrom 13 [(cI, .int), (cL, .long)]) (E : jk_E κ (some .int) (va_Qi Q (jk_B (jk_G κ) [(cI, .int), (cL, .long)] (jk_A κ) (wX cI cL ad)) (jk_A κ)) rm_X_steepestFrom.cells rm_X_steepestFrom.slots) (y1 : Int32) (y2 : Int32) : ∀ (n : Nat) (y3 : Int32) (y4 : Int64) (y6 : Int64) (y8 : Int32) (σ : SX), wl_X_steepestFrom_13 y1 y2 Q n y3 y4 y6 y8 σ → jk_J κ (wX cI cL ad σ) 13 [(0, .ref (ad 0)), (1, .int y1), (2, .int y2), (3, .int y3), (4, .long y4), (6, .long y6), (8, .int y8)] [] 0 0 := by
  intro n
  induction n with
  | zero => intro y3 y4 y6 y8 σ hw; exact hw.elim
  | succ n ih =>
    intro y3 y4 y6 y8 σ hw
    rw [wl_X_steepestFrom_13] at hw
    refine j_iload (pc := 13) C d_X_steepestFrom_13 6 rfl ?_
    refine j_iload_n (pc := 15) C d_X_steepestFrom_15 rfl 2 rfl ?_
    refine j_icmp_gt (pc := 16) (tgt := 91) C d_X_steepestFrom_16 (by decide) (fun c2 => ?_) (fun c2 => ?_)
    · have hw := hw.1 c2
      refine j_iload_n (pc := 91) C d_X_steepestFrom_91 rfl 3 rfl ?_
      exact j_iret (pc := 92) C E hw (Nat.le_of_ble_eq_true rfl) (Nat.le_of_ble_eq_true rfl) d_X_steepestFrom_92
    · have hw := hw.2 c2
      refine j_aload_n (pc := 19) C d_X_steepestFrom_19 rfl 0 rfl ?_
      refine j_get (pc := 20) C i_X 0 rfl rfl 12 (Nat.le_of_ble_eq_true rfl) k_26 rfl d_X_steepestFrom_20 ?_
      refine j_iload (pc := 23) C d_X_steepestFrom_23 6 rfl ?_
      obtain ⟨hi3, hw⟩ := hw
      refine j_iald (pc := 25) C 9 0 rfl rfl hi3 d_X_steepestFrom_25 ?_
      refine j_aload_n (pc := 26) C d_X_steepestFrom_26 rfl 0 rfl ?_
      refine j_get (pc := 27) C i_X 0 rfl rfl 12 (Nat.le_of_ble_eq_true rfl) k_26 rfl d_X_steepestFrom_27 ?_
      refine j_iload_n (pc := 30) C d_X_steepestFrom_30 rfl 1 rfl ?_
      obtain ⟨hi4, hw⟩ := hw
      refine j_iald (pc := 31) C 9 0 rfl rfl hi4 d_X_steepestFrom_31 ?_
      refine j_isub (pc := 32) C d_X_steepestFrom_32 ?_
      refine j_i2l (pc := 33) C d_X_steepestFrom_33 ?_
      refine j_nml (fun x5 e_x5 => ?_)
      have hw := hw x5 e_x5
      refine j_lstore (pc := 34) (lv' := [(9, .long x5), (0, .ref (ad 0)), (1, .int y1), (2, .int y2), (3, .int y3), (4, .long y4), (6, .long y6), (8, .int y8)]) C d_X_steepestFrom_34 (Nat.le_of_ble_eq_true rfl) rfl ?_
      refine j_aload_n (pc := 36) C d_X_steepestFrom_36 rfl 1 rfl ?_
      refine j_get (pc := 37) C i_X 0 rfl rfl 11 (Nat.le_of_ble_eq_true rfl) k_25 rfl d_X_steepestFrom_37 ?_
      refine j_iload (pc := 40) C d_X_steepestFrom_40 7 rfl ?_
      obtain ⟨hi6, hw⟩ := hw
      refine j_iald (pc := 42) C 8 0 rfl rfl hi6 d_X_steepestFrom_42 ?_
      refine j_aload_n (pc := 43) C d_X_steepestFrom_43 rfl 1 rfl ?_
      refine j_get (pc := 44) C i_X 0 rfl rfl 11 (Nat.le_of_ble_eq_true rfl) k_25 rfl d_X_steepestFrom_44 ?_
      refine j_iload_n (pc := 47) C d_X_steepestFrom_47 rfl 2 rfl ?_
      obtain ⟨hi7, hw⟩ := hw
      refine j_iald (pc := 48) C 8 0 rfl rfl hi7 d_X_steepestFrom_48 ?_
      refine j_isub (pc := 49) C d_X_steepestFrom_49 ?_
      refine j_i2l (pc := 50) C d_X_steepestFrom_50 ?_
      refine j_nml (fun x8 e_x8 => ?_)
      have hw := hw x8 e_x8
      refine j_lstore (pc := 51) (lv' := [(11, .long x8), (9, .long x5), (0, .ref (ad 0)), (1, .int y1), (2, .int y2), (3, .int y3), (4, .long y4), (6, .long y6), (8, .int y8)]) C d_X_steepestFrom_51 (Nat.le_of_ble_eq_true rfl) rfl ?_
      refine j_lload (pc := 53) C d_X_steepestFrom_53 1 rfl ?_
      refine j_lconst (v := 0) (pc := 55) C d_X_steepestFrom_55 (by decide) ?_
      refine j_lcmp (pc := 56) C d_X_steepestFrom_56 ?_
      refine j_if_le (pc := 57) (tgt := 85) C d_X_steepestFrom_57 (by decide) (fun c9 => ?_) (fun c9 => ?_)
      · have hw := hw.1 c9
        refine j_iinc (pc := 85) (lv' := [(8, .int (y8 + 1)), (11, .long x8), (9, .long x5), (0, .ref (ad 0)), (1, .int y1), (2, .int y2), (3, .int y3), (4, .long y4), (6, .long y6)]) C d_X_steepestFrom_85 (k := 8) rfl rfl (Nat.le_of_ble_eq_true rfl) rfl ?_
        refine j_goto (pc := 88) (tgt := 13) C d_X_steepestFrom_88 (by decide) ?_
        refine j_locs [3, 4, 5, 6, 7, 8, 0] rfl ?_
        exact ih y3 y4 y6 (y8 + 1) σ hw
      · have hw := hw.2 c9
        refine j_lload (pc := 60) C d_X_steepestFrom_60 1 rfl ?_
        refine j_lload (pc := 62) C d_X_steepestFrom_62 7 rfl ?_
        refine j_lmul (pc := 64) C d_X_steepestFrom_64 ?_
        refine j_lload (pc := 65) C d_X_steepestFrom_65 6 rfl ?_
        refine j_lload (pc := 67) C d_X_steepestFrom_67 0 rfl ?_
        refine j_lmul (pc := 69) C d_X_steepestFrom_69 ?_
        refine j_lcmp (pc := 70) C d_X_steepestFrom_70 ?_
        refine j_if_lt (pc := 71) (tgt := 85) C d_X_steepestFrom_71 (by decide) (fun c10 => ?_) (fun c10 => ?_)
        · have hw := hw.1 c10
          refine j_iinc (pc := 85) (lv' := [(8, .int (y8 + 1)), (11, .long x8), (9, .long x5), (0, .ref (ad 0)), (1, .int y1), (2, .int y2), (3, .int y3), (4, .long y4), (6, .long y6)]) C d_X_steepestFrom_85 (k := 8) rfl rfl (Nat.le_of_ble_eq_true rfl) rfl ?_
          refine j_goto (pc := 88) (tgt := 13) C d_X_steepestFrom_88 (by decide) ?_
          refine j_locs [3, 4, 5, 6, 7, 8, 0] rfl ?_
          exact ih y3 y4 y6 (y8 + 1) σ hw
        · have hw := hw.2 c10
          refine j_iload (pc := 74) C d_X_steepestFrom_74 8 rfl ?_
          refine j_istore_n (pc := 76) (lv' := [(3, .int y8), (11, .long x8), (9, .long x5), (0, .ref (ad 0)), (1, .int y1), (2, .int y2), (4, .long y4), (6, .long y6), (8, .int y8)]) C d_X_steepestFrom_76 rfl (Nat.le_of_ble_eq_true rfl) rfl ?_
          refine j_lload (pc := 77) C d_X_steepestFrom_77 2 rfl ?_
          refine j_lstore (pc := 79) (lv' := [(4, .long x5), (3, .int y8), (11, .long x8), (9, .long x5), (0, .ref (ad 0)), (1, .int y1), (2, .int y2), (6, .long y6), (8, .int y8)]) C d_X_steepestFrom_79 (Nat.le_of_ble_eq_true rfl) rfl ?_
          refine j_lload (pc := 81) C d_X_steepestFrom_81 2 rfl ?_
          refine j_lstore (pc := 83) (lv' := [(6, .long x8), (4, .long x5), (3, .int y8), (11, .long x8), (9, .long x5), (0, .ref (ad 0)), (1, .int y1), (2, .int y2), (8, .int y8)]) C d_X_steepestFrom_83 (Nat.le_of_ble_eq_true rfl) rfl ?_
          refine j_iinc (pc := 85) (lv' := [(8, .int (y8 + 1)), (6, .long x8), (4, .long x5), (3, .int y8), (11, .long x8), (9, .long x5), (0, .ref (ad 0)), (1, .int y1), (2, .int y2)]) C d_X_steepestFrom_85 (k := 8) rfl rfl (Nat.le_of_ble_eq_true rfl) rfl ?_
          refine j_goto (pc := 88) (tgt := 13) C d_X_steepestFrom_88 (by decide) ?_
          refine j_locs [6, 7, 8, 3, 2, 1, 0] rfl ?_
          exact ih y8 x5 x8 (y8 + 1) σ hw
set_option maxHeartbeats 4000000 in
set_option maxRecDepth 100000 in
theorem c_X_steepestFrom (l : Launch) (G : va_G) (cI cL : ClassId) (ad : Nat → Nat) (σ : SX) (p1 : Int32) (p2 : Int32) (Q : Int32 → SX → Prop) (hw : wp_X_steepestFrom σ p1 p2 Q) : jm_i l G [(cI, .int), (cL, .long)] y_X_steepestFrom b_X_steepestFrom 13 .int rm_X_steepestFrom [.ref (ad 0), .int p1, .int p2] (wX cI cL ad σ) (wX cI cL ad) Q := by
  refine jm_open_i (by decide +kernel) (Nat.le_of_ble_eq_true rfl) ?_
  intro κ hl hG C E hi
  subst hl; subst hG
  unfold wp_X_steepestFrom at hw
  refine j_iload_n (pc := 0) C d_X_steepestFrom_0 rfl 1 rfl ?_
  refine j_istore_n (pc := 1) (lv' := [(3, .int p1), (0, .ref (ad 0)), (1, .int p1), (2, .int p2)]) C d_X_steepestFrom_1 rfl (Nat.le_of_ble_eq_true rfl) rfl ?_
  refine j_lconst (v := 0) (pc := 2) C d_X_steepestFrom_2 (by decide) ?_
  refine j_lstore (pc := 3) (lv' := [(4, .long 0), (3, .int p1), (0, .ref (ad 0)), (1, .int p1), (2, .int p2)]) C d_X_steepestFrom_3 (Nat.le_of_ble_eq_true rfl) rfl ?_
  refine j_lconst (v := 1) (pc := 5) C d_X_steepestFrom_5 (by decide) ?_
  refine j_lstore (pc := 6) (lv' := [(6, .long 1), (4, .long 0), (3, .int p1), (0, .ref (ad 0)), (1, .int p1), (2, .int p2)]) C d_X_steepestFrom_6 (Nat.le_of_ble_eq_true rfl) rfl ?_
  refine j_iload_n (pc := 8) C d_X_steepestFrom_8 rfl 4 rfl ?_
  refine j_iconst (v := 1) (pc := 9) C d_X_steepestFrom_9 (by decide) ?_
  refine j_iadd (pc := 10) C d_X_steepestFrom_10 ?_
  refine j_nmi (fun x1 e_x1 => ?_)
  have hw := hw x1 e_x1
  refine j_istore (pc := 11) (lv' := [(8, .int x1), (6, .long 1), (4, .long 0), (3, .int p1), (0, .ref (ad 0)), (1, .int p1), (2, .int p2)]) C d_X_steepestFrom_11 (Nat.le_of_ble_eq_true rfl) rfl ?_
  obtain ⟨n11, hw⟩ := hw
  refine j_locs [4, 5, 6, 3, 2, 1, 0] rfl ?_
  exact lp_X_steepestFrom_13 C E p1 p2 n11 p1 0 1 x1 σ hw
