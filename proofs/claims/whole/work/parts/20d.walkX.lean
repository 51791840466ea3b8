set_option maxHeartbeats 4000000 in
set_option maxRecDepth 100000 in
theorem lp_X_run_6 {κ : jk_K} {cI cL : ClassId} {ad : Nat → Nat} {Q : Int32 → SX → Prop} (C : jk_C κ b_X_run R_X rm_X_run 4 [(cI, .int), (cL, .long)]) (E : jk_E κ (some .int) (va_Qi Q (jk_B (jk_G κ) [(cI, .int), (cL, .long)] (jk_A κ) (wX cI cL ad)) (jk_A κ)) rm_X_run.cells rm_X_run.slots)  : ∀ (n : Nat) (y1 : Int32) (y2 : Int32) (y3 : Int32) (σ : SX), wl_X_run_6 Q n y1 y2 y3 σ → jk_J κ (wX cI cL ad σ) 6 [(0, .ref (ad 0)), (1, .int y1), (2, .int y2), (3, .int y3)] [] 0 0 := by
  intro n
  induction n with
  | zero => intro y1 y2 y3 σ hw; exact hw.elim
  | succ n ih =>
    intro y1 y2 y3 σ hw
    rw [wl_X_run_6] at hw
    refine j_iload_n (pc := 6) C d_X_run_6 rfl 3 rfl ?_
    refine j_aload_n (pc := 7) C d_X_run_7 rfl 0 rfl ?_
    refine j_get (pc := 8) C i_X 0 rfl rfl 0 (Nat.le_of_ble_eq_true rfl) k_70 rfl d_X_run_8 ?_
    refine j_icmp_ge (pc := 11) (tgt := 59) C d_X_run_11 (by decide) (fun c1 => ?_) (fun c1 => ?_)
    · have hw := hw.1 c1
      refine j_aload_n (pc := 59) C d_X_run_59 rfl 0 rfl ?_
      refine j_iconst (v := 1) (pc := 60) C d_X_run_60 (by decide) ?_
      obtain ⟨σ2, e_σ2⟩ : ∃ z : SX, z = uX_shared σ 1 := ⟨_, rfl⟩
      have hw := hw σ2 e_σ2
      refine j_put (pc := 61) (ws' := wX cI cL ad σ2) C i_X t_X t_X_ok n_X 0 rfl rfl 5 (Nat.le_of_ble_eq_true rfl) k_4 rfl (ty := .boolean) (by decide +kernel) rfl rfl (Nat.le_of_ble_eq_true rfl) (by rw [e_σ2]; rfl) d_X_run_61 ?_
      refine j_iload_n (pc := 64) C d_X_run_64 rfl 1 rfl ?_
      exact j_iret (pc := 65) C E hw (Nat.le_of_ble_eq_true rfl) (Nat.le_of_ble_eq_true rfl) d_X_run_65
    · have hw := hw.2 c1
      refine j_aload_n (pc := 14) C d_X_run_14 rfl 0 rfl ?_
      refine j_get (pc := 15) C i_X 0 rfl rfl 3 (Nat.le_of_ble_eq_true rfl) k_81 rfl d_X_run_15 ?_
      refine j_iload_n (pc := 18) C d_X_run_18 rfl 3 rfl ?_
      refine j_iconst (v := 0) (pc := 19) C d_X_run_19 (by decide) ?_
      obtain ⟨hi3, hw⟩ := hw
      obtain ⟨σ4, e_σ4⟩ : ∃ z : SX, z = uX_held σ (upd (sX_held σ) (Int32.toNatClampNeg y3) 0) := ⟨_, rfl⟩
      have hw := hw σ4 e_σ4
      refine j_iast (pc := 20) (ws' := wX cI cL ad σ4) C 3 0 rfl rfl hi3 (by rw [e_σ4]; rfl) d_X_run_20 ?_
      refine j_aload_n (pc := 21) C d_X_run_21 rfl 0 rfl ?_
      refine j_get (pc := 22) C i_X 0 rfl rfl 2 (Nat.le_of_ble_eq_true rfl) k_80 rfl d_X_run_22 ?_
      refine j_iload_n (pc := 25) C d_X_run_25 rfl 3 rfl ?_
      obtain ⟨hi5, hw⟩ := hw
      refine j_iald (pc := 26) C 2 0 rfl rfl hi5 d_X_run_26 ?_
      refine j_aload_n (pc := 27) C d_X_run_27 rfl 0 rfl ?_
      refine j_get (pc := 28) C i_X 0 rfl rfl 1 (Nat.le_of_ble_eq_true rfl) k_69 rfl d_X_run_28 ?_
      refine j_iload_n (pc := 31) C d_X_run_31 rfl 3 rfl ?_
      obtain ⟨hi6, hw⟩ := hw
      refine j_iald (pc := 32) C 1 0 rfl rfl hi6 d_X_run_32 ?_
      refine j_icmp_gt (pc := 33) (tgt := 46) C d_X_run_33 (by decide) (fun c7 => ?_) (fun c7 => ?_)
      · have hw := hw.1 c7
        refine j_aload_n (pc := 46) C d_X_run_46 rfl 0 rfl ?_
        refine j_get (pc := 47) C i_X 0 rfl rfl 4 (Nat.le_of_ble_eq_true rfl) k_82 rfl d_X_run_47 ?_
        refine j_iload_n (pc := 50) C d_X_run_50 rfl 3 rfl ?_
        refine j_iload_n (pc := 51) C d_X_run_51 rfl 2 rfl ?_
        obtain ⟨hi8, hw⟩ := hw
        obtain ⟨σ9, e_σ9⟩ : ∃ z : SX, z = uX_ends σ4 (upd (sX_ends σ4) (Int32.toNatClampNeg y3) y2) := ⟨_, rfl⟩
        have hw := hw σ9 e_σ9
        refine j_iast (pc := 52) (ws' := wX cI cL ad σ9) C 4 0 rfl rfl hi8 (by rw [e_σ9]; rfl) d_X_run_52 ?_
        refine j_iinc (pc := 53) (lv' := [(3, .int (y3 + 1)), (0, .ref (ad 0)), (1, .int y1), (2, .int y2)]) C d_X_run_53 (k := 3) rfl rfl (Nat.le_of_ble_eq_true rfl) rfl ?_
        refine j_goto (pc := 56) (tgt := 6) C d_X_run_56 (by decide) ?_
        refine j_locs [1, 2, 3, 0] rfl ?_
        exact ih y1 y2 (y3 + 1) σ9 hw
      · have hw := hw.2 c7
        refine j_aload_n (pc := 36) C d_X_run_36 rfl 0 rfl ?_
        refine j_iload_n (pc := 37) C d_X_run_37 rfl 3 rfl ?_
        refine j_iload_n (pc := 38) C d_X_run_38 rfl 2 rfl ?_
        refine j_callVi0 (pc := 39) (st := []) (As := [.int y3, .int y2]) (wf := wX cI cL ad) C (c_X_fillLayer (jk_l κ) (jk_G κ) cI cL ad σ4 y3 y2 _ hw) g_X_108 hdV_X_fillLayer ⟨(Nat.le_of_ble_eq_true rfl), (Nat.le_of_ble_eq_true rfl)⟩ rfl (q0 := 0) rfl rfl rfl rfl (Nat.le_of_ble_eq_true rfl) d_X_run_39 ⟨(Nat.le_of_ble_eq_true rfl), (Nat.le_of_ble_eq_true rfl)⟩ (fun r11 σ10 hw => ?_)
        refine j_istore_n (pc := 42) (lv' := [(2, .int r11), (0, .ref (ad 0)), (1, .int y1), (3, .int y3)]) C d_X_run_42 rfl (Nat.le_of_ble_eq_true rfl) rfl ?_
        refine j_iinc (pc := 43) (lv' := [(1, .int (y1 + 1)), (2, .int r11), (0, .ref (ad 0)), (3, .int y3)]) C d_X_run_43 (k := 2) rfl rfl (Nat.le_of_ble_eq_true rfl) rfl ?_
        refine j_aload_n (pc := 46) C d_X_run_46 rfl 2 rfl ?_
        refine j_get (pc := 47) C i_X 0 rfl rfl 4 (Nat.le_of_ble_eq_true rfl) k_82 rfl d_X_run_47 ?_
        refine j_iload_n (pc := 50) C d_X_run_50 rfl 3 rfl ?_
        refine j_iload_n (pc := 51) C d_X_run_51 rfl 1 rfl ?_
        obtain ⟨hi12, hw⟩ := hw
        obtain ⟨σ13, e_σ13⟩ : ∃ z : SX, z = uX_ends σ10 (upd (sX_ends σ10) (Int32.toNatClampNeg y3) r11) := ⟨_, rfl⟩
        have hw := hw σ13 e_σ13
        refine j_iast (pc := 52) (ws' := wX cI cL ad σ13) C 4 0 rfl rfl hi12 (by rw [e_σ13]; rfl) d_X_run_52 ?_
        refine j_iinc (pc := 53) (lv' := [(3, .int (y3 + 1)), (1, .int (y1 + 1)), (2, .int r11), (0, .ref (ad 0))]) C d_X_run_53 (k := 3) rfl rfl (Nat.le_of_ble_eq_true rfl) rfl ?_
        refine j_goto (pc := 56) (tgt := 6) C d_X_run_56 (by decide) ?_
        refine j_locs [3, 1, 2, 0] rfl ?_
        exact ih (y1 + 1) r11 (y3 + 1) σ13 hw
set_option maxHeartbeats 4000000 in
set_option maxRecDepth 100000 in
theorem c_X_run (l : Launch) (G : va_G) (cI cL : ClassId) (ad : Nat → Nat) (σ : SX) (Q : Int32 → SX → Prop) (hw : wp_X_run σ Q) : jm_i l G [(cI, .int), (cL, .long)] y_X_run b_X_run 4 .int rm_X_run [.ref (ad 0)] (wX cI cL ad σ) (wX cI cL ad) Q := by
  refine jm_open_i (by decide +kernel) (Nat.le_of_ble_eq_true rfl) ?_
  intro κ hl hG C E hi
  subst hl; subst hG
  unfold wp_X_run at hw
  refine j_iconst (v := 0) (pc := 0) C d_X_run_0 (by decide) ?_
  refine j_istore_n (pc := 1) (lv' := [(1, .int 0), (0, .ref (ad 0))]) C d_X_run_1 rfl (Nat.le_of_ble_eq_true rfl) rfl ?_
  refine j_iconst (v := 0) (pc := 2) C d_X_run_2 (by decide) ?_
  refine j_istore_n (pc := 3) (lv' := [(2, .int 0), (1, .int 0), (0, .ref (ad 0))]) C d_X_run_3 rfl (Nat.le_of_ble_eq_true rfl) rfl ?_
  refine j_iconst (v := 0) (pc := 4) C d_X_run_4 (by decide) ?_
  refine j_istore_n (pc := 5) (lv' := [(3, .int 0), (2, .int 0), (1, .int 0), (0, .ref (ad 0))]) C d_X_run_5 rfl (Nat.le_of_ble_eq_true rfl) rfl ?_
  obtain ⟨n14, hw⟩ := hw
  refine j_locs [3, 2, 1, 0] rfl ?_
  exact lp_X_run_6 C E  n14 0 0 0 σ hw
set_option maxHeartbeats 4000000 in
set_option maxRecDepth 100000 in
theorem c_X_pointOf (l : Launch) (hlt : l.stackTraces = false) (G : va_G) (cI cL : ClassId) (ad : Nat → Nat) (σ : SX) (p1 : Int32) (p2 : Int32) (Q : Int32 → SX → Prop) (QX : String → SX → Prop) (hw : wp_X_pointOf σ p1 p2 Q QX) : jx_i l G [(cI, .int), (cL, .long)] y_X_pointOf b_X_pointOf 3 .int rm_X_pointOf [.ref (ad 0), .int p1, .int p2] (wX cI cL ad σ) (wX cI cL ad) Q QX := by
  refine jx_open_i hlt (by decide +kernel) (Nat.le_of_ble_eq_true rfl) ?_
  intro κ hl hG C Z E
  subst hl; subst hG
  unfold wp_X_pointOf at hw
  refine j_aload_n (pc := 0) C d_X_pointOf_0 rfl 0 rfl ?_
  refine j_iload_n (pc := 1) C d_X_pointOf_1 rfl 1 rfl ?_
  refine jx_callVv0 (pc := 2) (st := []) (As := [.int p1]) (wf := wX cI cL ad) C Z E (c_X_needBlock (jk_l κ) Z.1 (jk_G κ) cI cL ad σ p1 _ _ hw) g_X_74 hdV_X_needBlock ⟨(Nat.le_of_ble_eq_true rfl), (Nat.le_of_ble_eq_true rfl)⟩ rfl (q0 := 0) rfl rfl rfl rfl (Nat.le_of_ble_eq_true rfl) d_X_pointOf_2 ⟨(Nat.le_of_ble_eq_true rfl), (Nat.le_of_ble_eq_true rfl)⟩ (Nat.le_of_ble_eq_true rfl) (Nat.le_of_ble_eq_true rfl) (fun σ1 hw => ?_)
  refine j_widen (k := 1) (n := 6) (Nat.le_of_ble_eq_true rfl) (Nat.le_of_ble_eq_true rfl) ?_
  refine j_iload_n (pc := 5) C d_X_pointOf_5 rfl 2 rfl ?_
  refine j_if_lt (pc := 6) (tgt := 19) C d_X_pointOf_6 (by decide) (fun c2 => ?_) (fun c2 => ?_)
  · have hw := hw.1 c2
    exact jx_throwS (pc := 19) C Z E (names := ["java/lang/RuntimeException", "java/lang/Exception"]) (by decide +kernel) (by decide +kernel) k_7 k_8 (List.mem_of_getElem? (i := 5) rfl) ka_X_121 d_X_pointOf_19 d_X_pointOf_22 d_X_pointOf_23 d_X_pointOf_25 d_X_pointOf_28 (Nat.le_of_ble_eq_true rfl) (Nat.le_of_ble_eq_true rfl) (Nat.le_of_ble_eq_true rfl) (Nat.le_of_ble_eq_true rfl) (Nat.le_of_ble_eq_true rfl) (Nat.le_of_ble_eq_true rfl) hw
  · have hw := hw.2 c2
    refine j_iload_n (pc := 9) C d_X_pointOf_9 rfl 2 rfl ?_
    refine j_aload_n (pc := 10) C d_X_pointOf_10 rfl 0 rfl ?_
    refine j_get (pc := 11) C i_X 0 rfl rfl 8 (Nat.le_of_ble_eq_true rfl) k_3 rfl d_X_pointOf_11 ?_
    refine j_iload_n (pc := 14) C d_X_pointOf_14 rfl 1 rfl ?_
    obtain ⟨hi3, hw⟩ := hw
    refine j_iald (pc := 15) C 7 0 rfl rfl hi3 d_X_pointOf_15 ?_
    refine j_icmp_lt (pc := 16) (tgt := 29) C d_X_pointOf_16 (by decide) (fun c4 => ?_) (fun c4 => ?_)
    · have hw := hw.1 c4
      refine j_iload_n (pc := 29) C d_X_pointOf_29 rfl 1 rfl ?_
      refine j_callSi0 (pc := 30) (st := []) (As := [.int p1]) (wf := wX cI cL ad) C (c_X_startOf (jk_l κ) (jk_G κ) cI cL ad σ1 p1 _ hw) g_X_90 hdS_X_startOf ⟨(Nat.le_of_ble_eq_true rfl), (Nat.le_of_ble_eq_true rfl)⟩ rfl rfl (Nat.le_of_ble_eq_true rfl) d_X_pointOf_30 ⟨(Nat.le_of_ble_eq_true rfl), (Nat.le_of_ble_eq_true rfl)⟩ (fun r6 σ5 hw => ?_)
      refine j_iconst (v := 1) (pc := 33) C d_X_pointOf_33 (by decide) ?_
      refine j_iadd (pc := 34) C d_X_pointOf_34 ?_
      refine j_iload_n (pc := 35) C d_X_pointOf_35 rfl 2 rfl ?_
      refine j_iadd (pc := 36) C d_X_pointOf_36 ?_
      exact jx_iret (pc := 37) C E hw (Nat.le_of_ble_eq_true rfl) (Nat.le_of_ble_eq_true rfl) d_X_pointOf_37
    · have hw := hw.2 c4
      exact jx_throwS (pc := 19) C Z E (names := ["java/lang/RuntimeException", "java/lang/Exception"]) (by decide +kernel) (by decide +kernel) k_7 k_8 (List.mem_of_getElem? (i := 5) rfl) ka_X_121 d_X_pointOf_19 d_X_pointOf_22 d_X_pointOf_23 d_X_pointOf_25 d_X_pointOf_28 (Nat.le_of_ble_eq_true rfl) (Nat.le_of_ble_eq_true rfl) (Nat.le_of_ble_eq_true rfl) (Nat.le_of_ble_eq_true rfl) (Nat.le_of_ble_eq_true rfl) (Nat.le_of_ble_eq_true rfl) hw
set_option maxHeartbeats 4000000 in
set_option maxRecDepth 100000 in
theorem c_X_hull (l : Launch) (hlt : l.stackTraces = false) (G : va_G) (cI cL : ClassId) (ad : Nat → Nat) (σ : SX) (p1 : Int32) (p2 : Int32) (Q : Int32 → SX → Prop) (QX : String → SX → Prop) (hw : wp_X_hull σ p1 p2 Q QX) : jx_i l G [(cI, .int), (cL, .long)] y_X_hull b_X_hull 3 .boolean rm_X_hull [.ref (ad 0), .int p1, .int p2] (wX cI cL ad σ) (wX cI cL ad) Q QX := by
  refine jx_open_i hlt (by decide +kernel) (Nat.le_of_ble_eq_true rfl) ?_
  intro κ hl hG C Z E
  subst hl; subst hG
  unfold wp_X_hull at hw
  refine j_aload_n (pc := 0) C d_X_hull_0 rfl 0 rfl ?_
  refine j_get (pc := 1) C i_X 0 rfl rfl 14 (Nat.le_of_ble_eq_true rfl) k_41 rfl d_X_hull_1 ?_
  refine j_aload_n (pc := 4) C d_X_hull_4 rfl 0 rfl ?_
  refine j_iload_n (pc := 5) C d_X_hull_5 rfl 1 rfl ?_
  refine j_iload_n (pc := 6) C d_X_hull_6 rfl 2 rfl ?_
  refine jx_callVi0 (pc := 7) (st := [.ref (ad 11)]) (As := [.int p1, .int p2]) (wf := wX cI cL ad) C Z E (c_X_pointOf (jk_l κ) Z.1 (jk_G κ) cI cL ad σ p1 p2 _ _ hw) g_X_111 hdV_X_pointOf ⟨(Nat.le_of_ble_eq_true rfl), (Nat.le_of_ble_eq_true rfl)⟩ rfl (q0 := 0) rfl rfl rfl rfl (Nat.le_of_ble_eq_true rfl) d_X_hull_7 ⟨(Nat.le_of_ble_eq_true rfl), (Nat.le_of_ble_eq_true rfl)⟩ (Nat.le_of_ble_eq_true rfl) (Nat.le_of_ble_eq_true rfl) (fun r2 σ1 hw => ?_)
  refine j_widen (k := 2) (n := 12) (Nat.le_of_ble_eq_true rfl) (Nat.le_of_ble_eq_true rfl) ?_
  obtain ⟨hi3, hw⟩ := hw
  refine j_iald (pc := 10) C 11 0 rfl rfl hi3 d_X_hull_10 ?_
  refine j_if_le (pc := 11) (tgt := 18) C d_X_hull_11 (by decide) (fun c4 => ?_) (fun c4 => ?_)
  · have hw := hw.1 c4
    refine j_iconst (v := 0) (pc := 18) C d_X_hull_18 (by decide) ?_
    exact jx_zret (pc := 19) C E hw rfl (Nat.le_of_ble_eq_true rfl) (Nat.le_of_ble_eq_true rfl) d_X_hull_19
  · have hw := hw.2 c4
    refine j_iconst (v := 1) (pc := 14) C d_X_hull_14 (by decide) ?_
    refine j_goto (pc := 15) (tgt := 19) C d_X_hull_15 (by decide) ?_
    exact jx_zret (pc := 19) C E hw rfl (Nat.le_of_ble_eq_true rfl) (Nat.le_of_ble_eq_true rfl) d_X_hull_19
set_option maxHeartbeats 4000000 in
set_option maxRecDepth 100000 in
theorem c_X_slope (l : Launch) (hlt : l.stackTraces = false) (G : va_G) (cI cL : ClassId) (ad : Nat → Nat) (σ : SX) (p1 : Int32) (p2 : Int32) (p3 : Int32) (Q : Int64 → SX → Prop) (QX : String → SX → Prop) (hw : wp_X_slope σ p1 p2 p3 Q QX) : jx_l l G [(cI, .int), (cL, .long)] y_X_slope b_X_slope 5 rm_X_slope [.ref (ad 0), .int p1, .int p2, .int p3] (wX cI cL ad σ) (wX cI cL ad) Q QX := by
  refine jx_open_l hlt (by decide +kernel) (Nat.le_of_ble_eq_true rfl) ?_
  intro κ hl hG C Z E
  subst hl; subst hG
  unfold wp_X_slope at hw
  refine j_aload_n (pc := 0) C d_X_slope_0 rfl 0 rfl ?_
  refine j_iload_n (pc := 1) C d_X_slope_1 rfl 1 rfl ?_
  refine j_iload_n (pc := 2) C d_X_slope_2 rfl 2 rfl ?_
  refine jx_callVi0 (pc := 3) (st := []) (As := [.int p1, .int p2]) (wf := wX cI cL ad) C Z E (c_X_pointOf (jk_l κ) Z.1 (jk_G κ) cI cL ad σ p1 p2 _ _ hw) g_X_111 hdV_X_pointOf ⟨(Nat.le_of_ble_eq_true rfl), (Nat.le_of_ble_eq_true rfl)⟩ rfl (q0 := 0) rfl rfl rfl rfl (Nat.le_of_ble_eq_true rfl) d_X_slope_3 ⟨(Nat.le_of_ble_eq_true rfl), (Nat.le_of_ble_eq_true rfl)⟩ (Nat.le_of_ble_eq_true rfl) (Nat.le_of_ble_eq_true rfl) (fun r2 σ1 hw => ?_)
  refine j_widen (k := 2) (n := 12) (Nat.le_of_ble_eq_true rfl) (Nat.le_of_ble_eq_true rfl) ?_
  refine j_istore (pc := 6) (lv' := [(4, .int r2), (0, .ref (ad 0)), (1, .int p1), (2, .int p2), (3, .int p3)]) C d_X_slope_6 (Nat.le_of_ble_eq_true rfl) rfl ?_
  refine j_iload_n (pc := 8) C d_X_slope_8 rfl 4 rfl ?_
  refine j_if_eq (pc := 9) (tgt := 22) C d_X_slope_9 (by decide) (fun c3 => ?_) (fun c3 => ?_)
  · have hw := hw.1 c3
    refine j_aload_n (pc := 22) C d_X_slope_22 rfl 1 rfl ?_
    refine j_get (pc := 23) C i_X 0 rfl rfl 14 (Nat.le_of_ble_eq_true rfl) k_41 rfl d_X_slope_23 ?_
    refine j_iload (pc := 26) C d_X_slope_26 0 rfl ?_
    obtain ⟨hi4, hw⟩ := hw
    refine j_iald (pc := 28) C 11 0 rfl rfl hi4 d_X_slope_28 ?_
    refine j_i2l (pc := 29) C d_X_slope_29 ?_
    exact jx_lret (pc := 30) C E hw (Nat.le_of_ble_eq_true rfl) (Nat.le_of_ble_eq_true rfl) d_X_slope_30
  · have hw := hw.2 c3
    refine j_aload_n (pc := 12) C d_X_slope_12 rfl 1 rfl ?_
    refine j_get (pc := 13) C i_X 0 rfl rfl 13 (Nat.le_of_ble_eq_true rfl) k_42 rfl d_X_slope_13 ?_
    refine j_iload (pc := 16) C d_X_slope_16 0 rfl ?_
    obtain ⟨hi5, hw⟩ := hw
    refine j_lald (pc := 18) C 10 1 rfl rfl hi5 d_X_slope_18 ?_
    refine j_goto (pc := 19) (tgt := 30) C d_X_slope_19 (by decide) ?_
    exact jx_lret (pc := 30) C E hw (Nat.le_of_ble_eq_true rfl) (Nat.le_of_ble_eq_true rfl) d_X_slope_30
set_option maxHeartbeats 4000000 in
set_option maxRecDepth 100000 in
theorem c_X_row (l : Launch) (G : va_G) (cI cL : ClassId) (ad : Nat → Nat) (σ : SX) (Q : Int32 → SX → Prop) (hw : wp_X_row σ Q) : jm_i l G [(cI, .int), (cL, .long)] y_X_row b_X_row 1 .int rm_X_row [.ref (ad 0)] (wX cI cL ad σ) (wX cI cL ad) Q := by
  refine jm_open_i (by decide +kernel) (Nat.le_of_ble_eq_true rfl) ?_
  intro κ hl hG C E hi
  subst hl; subst hG
  unfold wp_X_row at hw
  refine j_aload_n (pc := 0) C d_X_row_0 rfl 0 rfl ?_
  refine j_get (pc := 1) C i_X 0 rfl rfl 16 (Nat.le_of_ble_eq_true rfl) k_28 rfl d_X_row_1 ?_
  exact j_iret (pc := 4) C E hw (Nat.le_of_ble_eq_true rfl) (Nat.le_of_ble_eq_true rfl) d_X_row_4
set_option maxHeartbeats 4000000 in
set_option maxRecDepth 100000 in
theorem c_X_passesUpTo (l : Launch) (G : va_G) (cI cL : ClassId) (ad : Nat → Nat) (σ : SX) (p0 : Int32) (Q : Int32 → SX → Prop) (hw : wp_X_passesUpTo σ p0 Q) : jm_i l G [(cI, .int), (cL, .long)] y_X_passesUpTo b_X_passesUpTo 1 .int rm_X_passesUpTo [.int p0] (wX cI cL ad σ) (wX cI cL ad) Q := by
  refine jm_open_i (by decide +kernel) (Nat.le_of_ble_eq_true rfl) ?_
  intro κ hl hG C E hi
  subst hl; subst hG
  unfold wp_X_passesUpTo at hw
  refine j_iload_n (pc := 0) C d_X_passesUpTo_0 rfl 0 rfl ?_
  refine j_bipush (v := 25) (pc := 1) C d_X_passesUpTo_1 (by decide) ?_
  refine j_irem (pc := 3) C d_X_passesUpTo_3 (by decide) ?_
  exact j_iret (pc := 4) C E hw (Nat.le_of_ble_eq_true rfl) (Nat.le_of_ble_eq_true rfl) d_X_passesUpTo_4
set_option maxHeartbeats 4000000 in
set_option maxRecDepth 100000 in
theorem lp_X_countSameSlope_4 {κ : jk_K} {cI cL : ClassId} {ad : Nat → Nat} {Q : Int32 → SX → Prop} (C : jk_C κ b_X_countSameSlope R_X rm_X_countSameSlope 4 [(cI, .int), (cL, .long)]) (E : jk_E κ (some .int) (va_Qi Q (jk_B (jk_G κ) [(cI, .int), (cL, .long)] (jk_A κ) (wX cI cL ad)) (jk_A κ)) rm_X_countSameSlope.cells rm_X_countSameSlope.slots) (y1 : Int32) : ∀ (n : Nat) (y2 : Int32) (y3 : Int32) (σ : SX), wl_X_countSameSlope_4 y1 Q n y2 y3 σ → jk_J κ (wX cI cL ad σ) 4 [(0, .ref (ad 0)), (1, .int y1), (2, .int y2), (3, .int y3)] [] 0 0 := by
  intro n
  induction n with
  | zero => intro y2 y3 σ hw; exact hw.elim
  | succ n ih =>
    intro y2 y3 σ hw
    rw [wl_X_countSameSlope_4] at hw
    refine j_iload_n (pc := 4) C d_X_countSameSlope_4 rfl 3 rfl ?_
    refine j_aload_n (pc := 5) C d_X_countSameSlope_5 rfl 0 rfl ?_
    refine j_get (pc := 6) C i_X 0 rfl rfl 16 (Nat.le_of_ble_eq_true rfl) k_28 rfl d_X_countSameSlope_6 ?_
    refine j_icmp_ge (pc := 9) (tgt := 35) C d_X_countSameSlope_9 (by decide) (fun c1 => ?_) (fun c1 => ?_)
    · have hw := hw.1 c1
      refine j_iload_n (pc := 35) C d_X_countSameSlope_35 rfl 2 rfl ?_
      exact j_iret (pc := 36) C E hw (Nat.le_of_ble_eq_true rfl) (Nat.le_of_ble_eq_true rfl) d_X_countSameSlope_36
    · have hw := hw.2 c1
      refine j_aload_n (pc := 12) C d_X_countSameSlope_12 rfl 0 rfl ?_
      refine j_iload_n (pc := 13) C d_X_countSameSlope_13 rfl 1 rfl ?_
      refine j_aload_n (pc := 14) C d_X_countSameSlope_14 rfl 0 rfl ?_
      refine j_get (pc := 15) C i_X 0 rfl rfl 15 (Nat.le_of_ble_eq_true rfl) k_29 rfl d_X_countSameSlope_15 ?_
      refine j_iload_n (pc := 18) C d_X_countSameSlope_18 rfl 3 rfl ?_
      obtain ⟨hi2, hw⟩ := hw
      refine j_iald (pc := 19) C 12 0 rfl rfl hi2 d_X_countSameSlope_19 ?_
      refine j_callVi0 (pc := 20) (st := []) (As := [.int y1, .int (sX_order σ (Int32.toNatClampNeg y3))]) (wf := wX cI cL ad) C (c_X_compareSlopes (jk_l κ) (jk_G κ) cI cL ad σ y1 (sX_order σ (Int32.toNatClampNeg y3)) _ hw) g_X_181 hdV_X_compareSlopes ⟨(Nat.le_of_ble_eq_true rfl), (Nat.le_of_ble_eq_true rfl)⟩ rfl (q0 := 0) rfl rfl rfl rfl (Nat.le_of_ble_eq_true rfl) d_X_countSameSlope_20 ⟨(Nat.le_of_ble_eq_true rfl), (Nat.le_of_ble_eq_true rfl)⟩ (fun r4 σ3 hw => ?_)
      refine j_if_ne (pc := 23) (tgt := 29) C d_X_countSameSlope_23 (by decide) (fun c5 => ?_) (fun c5 => ?_)
      · have hw := hw.1 c5
        refine j_iinc (pc := 29) (lv' := [(3, .int (y3 + 1)), (0, .ref (ad 0)), (1, .int y1), (2, .int y2)]) C d_X_countSameSlope_29 (k := 3) rfl rfl (Nat.le_of_ble_eq_true rfl) rfl ?_
        refine j_goto (pc := 32) (tgt := 4) C d_X_countSameSlope_32 (by decide) ?_
        refine j_locs [1, 2, 3, 0] rfl ?_
        exact ih y2 (y3 + 1) σ3 hw
      · have hw := hw.2 c5
        refine j_iinc (pc := 26) (lv' := [(2, .int (y2 + 1)), (0, .ref (ad 0)), (1, .int y1), (3, .int y3)]) C d_X_countSameSlope_26 (k := 2) rfl rfl (Nat.le_of_ble_eq_true rfl) rfl ?_
        refine j_iinc (pc := 29) (lv' := [(3, .int (y3 + 1)), (2, .int (y2 + 1)), (0, .ref (ad 0)), (1, .int y1)]) C d_X_countSameSlope_29 (k := 3) rfl rfl (Nat.le_of_ble_eq_true rfl) rfl ?_
        refine j_goto (pc := 32) (tgt := 4) C d_X_countSameSlope_32 (by decide) ?_
        refine j_locs [2, 3, 1, 0] rfl ?_
        exact ih (y2 + 1) (y3 + 1) σ3 hw
set_option maxHeartbeats 4000000 in
set_option maxRecDepth 100000 in
theorem c_X_countSameSlope (l : Launch) (G : va_G) (cI cL : ClassId) (ad : Nat → Nat) (σ : SX) (p1 : Int32) (Q : Int32 → SX → Prop) (hw : wp_X_countSameSlope σ p1 Q) : jm_i l G [(cI, .int), (cL, .long)] y_X_countSameSlope b_X_countSameSlope 4 .int rm_X_countSameSlope [.ref (ad 0), .int p1] (wX cI cL ad σ) (wX cI cL ad) Q := by
  refine jm_open_i (by decide +kernel) (Nat.le_of_ble_eq_true rfl) ?_
  intro κ hl hG C E hi
  subst hl; subst hG
  unfold wp_X_countSameSlope at hw
  refine j_iconst (v := 0) (pc := 0) C d_X_countSameSlope_0 (by decide) ?_
  refine j_istore_n (pc := 1) (lv' := [(2, .int 0), (0, .ref (ad 0)), (1, .int p1)]) C d_X_countSameSlope_1 rfl (Nat.le_of_ble_eq_true rfl) rfl ?_
  refine j_iconst (v := 0) (pc := 2) C d_X_countSameSlope_2 (by decide) ?_
  refine j_istore_n (pc := 3) (lv' := [(3, .int 0), (2, .int 0), (0, .ref (ad 0)), (1, .int p1)]) C d_X_countSameSlope_3 rfl (Nat.le_of_ble_eq_true rfl) rfl ?_
  obtain ⟨n6, hw⟩ := hw
  refine j_locs [2, 3, 1, 0] rfl ?_
  exact lp_X_countSameSlope_4 C E p1 n6 0 0 σ hw
set_option maxHeartbeats 4000000 in
set_option maxRecDepth 100000 in
theorem c_X_needShared (l : Launch) (hlt : l.stackTraces = false) (G : va_G) (cI cL : ClassId) (ad : Nat → Nat) (σ : SX) (Q : SX → Prop) (QX : String → SX → Prop) (hw : wp_X_needShared σ Q QX) : jx_v l G [(cI, .int), (cL, .long)] y_X_needShared b_X_needShared 1 rm_X_needShared [.ref (ad 0)] (wX cI cL ad σ) (wX cI cL ad) Q QX := by
  refine jx_open_v hlt (by decide +kernel) (Nat.le_of_ble_eq_true rfl) ?_
  intro κ hl hG C Z E
  subst hl; subst hG
  unfold wp_X_needShared at hw
  refine j_aload_n (pc := 0) C d_X_needShared_0 rfl 0 rfl ?_
  refine j_get (pc := 1) C i_X 0 rfl rfl 5 (Nat.le_of_ble_eq_true rfl) k_4 rfl d_X_needShared_1 ?_
  refine j_if_ne (pc := 4) (tgt := 17) C d_X_needShared_4 (by decide) (fun c1 => ?_) (fun c1 => ?_)
  · have hw := hw.1 c1
    exact jx_vret (pc := 17) C E hw (Nat.le_of_ble_eq_true rfl) (Nat.le_of_ble_eq_true rfl) d_X_needShared_17
  · have hw := hw.2 c1
    exact jx_throwS (pc := 7) C Z E (names := ["java/lang/RuntimeException", "java/lang/Exception"]) (by decide +kernel) (by decide +kernel) k_98 k_99 (List.mem_of_getElem? (i := 7) rfl) ka_X_157 d_X_needShared_7 d_X_needShared_10 d_X_needShared_11 d_X_needShared_13 d_X_needShared_16 (Nat.le_of_ble_eq_true rfl) (Nat.le_of_ble_eq_true rfl) (Nat.le_of_ble_eq_true rfl) (Nat.le_of_ble_eq_true rfl) (Nat.le_of_ble_eq_true rfl) (Nat.le_of_ble_eq_true rfl) hw
set_option maxHeartbeats 4000000 in
set_option maxRecDepth 100000 in
theorem lp_X_layerOf_2 {κ : jk_K} {cI cL : ClassId} {ad : Nat → Nat} {Q : Int32 → SX → Prop} (C : jk_C κ b_X_layerOf R_X rm_X_layerOf 3 [(cI, .int), (cL, .long)]) (E : jk_E κ (some .int) (va_Qi Q (jk_B (jk_G κ) [(cI, .int), (cL, .long)] (jk_A κ) (wX cI cL ad)) (jk_A κ)) rm_X_layerOf.cells rm_X_layerOf.slots) (y1 : Int32) : ∀ (n : Nat) (y2 : Int32) (σ : SX), wl_X_layerOf_2 y1 Q n y2 σ → jk_J κ (wX cI cL ad σ) 2 [(0, .ref (ad 0)), (1, .int y1), (2, .int y2)] [] 0 0 := by
  intro n
  induction n with
  | zero => intro y2 σ hw; exact hw.elim
  | succ n ih =>
    intro y2 σ hw
    rw [wl_X_layerOf_2] at hw
    refine j_iload_n (pc := 2) C d_X_layerOf_2 rfl 2 rfl ?_
    refine j_aload_n (pc := 3) C d_X_layerOf_3 rfl 0 rfl ?_
    refine j_get (pc := 4) C i_X 0 rfl rfl 0 (Nat.le_of_ble_eq_true rfl) k_70 rfl d_X_layerOf_4 ?_
    refine j_icmp_ge (pc := 7) (tgt := 28) C d_X_layerOf_7 (by decide) (fun c1 => ?_) (fun c1 => ?_)
    · have hw := hw.1 c1
      refine j_iconst (v := (-1)) (pc := 28) C d_X_layerOf_28 (by decide) ?_
      exact j_iret (pc := 29) C E hw (Nat.le_of_ble_eq_true rfl) (Nat.le_of_ble_eq_true rfl) d_X_layerOf_29
    · have hw := hw.2 c1
      refine j_iload_n (pc := 10) C d_X_layerOf_10 rfl 1 rfl ?_
      refine j_aload_n (pc := 11) C d_X_layerOf_11 rfl 0 rfl ?_
      refine j_get (pc := 12) C i_X 0 rfl rfl 4 (Nat.le_of_ble_eq_true rfl) k_82 rfl d_X_layerOf_12 ?_
      refine j_iload_n (pc := 15) C d_X_layerOf_15 rfl 2 rfl ?_
      obtain ⟨hi2, hw⟩ := hw
      refine j_iald (pc := 16) C 4 0 rfl rfl hi2 d_X_layerOf_16 ?_
      refine j_icmp_ge (pc := 17) (tgt := 22) C d_X_layerOf_17 (by decide) (fun c3 => ?_) (fun c3 => ?_)
      · have hw := hw.1 c3
        refine j_iinc (pc := 22) (lv' := [(2, .int (y2 + 1)), (0, .ref (ad 0)), (1, .int y1)]) C d_X_layerOf_22 (k := 2) rfl rfl (Nat.le_of_ble_eq_true rfl) rfl ?_
        refine j_goto (pc := 25) (tgt := 2) C d_X_layerOf_25 (by decide) ?_
        refine j_locs [1, 2, 0] rfl ?_
        exact ih (y2 + 1) σ hw
      · have hw := hw.2 c3
        refine j_iload_n (pc := 20) C d_X_layerOf_20 rfl 2 rfl ?_
        exact j_iret (pc := 21) C E hw (Nat.le_of_ble_eq_true rfl) (Nat.le_of_ble_eq_true rfl) d_X_layerOf_21
set_option maxHeartbeats 4000000 in
set_option maxRecDepth 100000 in
theorem c_X_layerOf (l : Launch) (G : va_G) (cI cL : ClassId) (ad : Nat → Nat) (σ : SX) (p1 : Int32) (Q : Int32 → SX → Prop) (hw : wp_X_layerOf σ p1 Q) : jm_i l G [(cI, .int), (cL, .long)] y_X_layerOf b_X_layerOf 3 .int rm_X_layerOf [.ref (ad 0), .int p1] (wX cI cL ad σ) (wX cI cL ad) Q := by
  refine jm_open_i (by decide +kernel) (Nat.le_of_ble_eq_true rfl) ?_
  intro κ hl hG C E hi
  subst hl; subst hG
  unfold wp_X_layerOf at hw
  refine j_iconst (v := 0) (pc := 0) C d_X_layerOf_0 (by decide) ?_
  refine j_istore_n (pc := 1) (lv' := [(2, .int 0), (0, .ref (ad 0)), (1, .int p1)]) C d_X_layerOf_1 rfl (Nat.le_of_ble_eq_true rfl) rfl ?_
  obtain ⟨n4, hw⟩ := hw
  refine j_locs [1, 2, 0] rfl ?_
  exact lp_X_layerOf_2 C E p1 n4 0 σ hw
set_option maxHeartbeats 4000000 in
set_option maxRecDepth 100000 in
theorem c_X_at (l : Launch) (hlt : l.stackTraces = false) (G : va_G) (cI cL : ClassId) (ad : Nat → Nat) (σ : SX) (p1 : Int32) (p2 : Int32) (Q : Int32 → SX → Prop) (QX : String → SX → Prop) (hw : wp_X_at σ p1 p2 Q QX) : jx_i l G [(cI, .int), (cL, .long)] y_X_at b_X_at 4 .int rm_X_at [.ref (ad 0), .int p1, .int p2] (wX cI cL ad σ) (wX cI cL ad) Q QX := by
  refine jx_open_i hlt (by decide +kernel) (Nat.le_of_ble_eq_true rfl) ?_
  intro κ hl hG C Z E
  subst hl; subst hG
  unfold wp_X_at at hw
  refine j_iload_n (pc := 0) C d_X_at_0 rfl 1 rfl ?_
  refine j_if_lt (pc := 1) (tgt := 12) C d_X_at_1 (by decide) (fun c1 => ?_) (fun c1 => ?_)
  · have hw := hw.1 c1
    exact jx_throwS (pc := 12) C Z E (names := ["java/lang/RuntimeException", "java/lang/Exception"]) (by decide +kernel) (by decide +kernel) k_7 k_8 (List.mem_of_getElem? (i := 6) rfl) ka_X_121 d_X_at_12 d_X_at_15 d_X_at_16 d_X_at_18 d_X_at_21 (Nat.le_of_ble_eq_true rfl) (Nat.le_of_ble_eq_true rfl) (Nat.le_of_ble_eq_true rfl) (Nat.le_of_ble_eq_true rfl) (Nat.le_of_ble_eq_true rfl) (Nat.le_of_ble_eq_true rfl) hw
  · have hw := hw.2 c1
    refine j_iload_n (pc := 4) C d_X_at_4 rfl 1 rfl ?_
    refine j_aload_n (pc := 5) C d_X_at_5 rfl 0 rfl ?_
    refine j_get (pc := 6) C i_X 0 rfl rfl 16 (Nat.le_of_ble_eq_true rfl) k_28 rfl d_X_at_6 ?_
    refine j_icmp_lt (pc := 9) (tgt := 22) C d_X_at_9 (by decide) (fun c2 => ?_) (fun c2 => ?_)
    · have hw := hw.1 c2
      refine j_aload_n (pc := 22) C d_X_at_22 rfl 0 rfl ?_
      refine j_get (pc := 23) C i_X 0 rfl rfl 15 (Nat.le_of_ble_eq_true rfl) k_29 rfl d_X_at_23 ?_
      refine j_iload_n (pc := 26) C d_X_at_26 rfl 1 rfl ?_
      obtain ⟨hi3, hw⟩ := hw
      refine j_iald (pc := 27) C 12 0 rfl rfl hi3 d_X_at_27 ?_
      refine j_nmi (fun x4 e_x4 => ?_)
      have hw := hw x4 e_x4
      refine j_istore_n (pc := 28) (lv' := [(3, .int x4), (0, .ref (ad 0)), (1, .int p1), (2, .int p2)]) C d_X_at_28 rfl (Nat.le_of_ble_eq_true rfl) rfl ?_
      refine j_iload_n (pc := 29) C d_X_at_29 rfl 3 rfl ?_
      refine (Decidable.em (p2 = 0)).elim (fun c5 => ?_) (fun c5 => ?_)
      · have hw := hw.1 c5
        refine j_tableIn (pc := 30) (tgt := 64) C d_X_at_30 (by rw [c5]; decide) (by rw [c5]; decide) (by rw [c5]; rfl) (by decide) ?_
        refine j_iload_n (pc := 64) C d_X_at_64 rfl 0 rfl ?_
        refine j_callSi0 (pc := 65) (st := []) (As := [.int x4]) (wf := wX cI cL ad) C (c_X_blockOf (jk_l κ) (jk_G κ) cI cL ad σ x4 _ hw) g_X_122 hdS_X_blockOf ⟨(Nat.le_of_ble_eq_true rfl), (Nat.le_of_ble_eq_true rfl)⟩ rfl rfl (Nat.le_of_ble_eq_true rfl) d_X_at_65 ⟨(Nat.le_of_ble_eq_true rfl), (Nat.le_of_ble_eq_true rfl)⟩ (fun r7 σ6 hw => ?_)
        exact jx_iret (pc := 68) C E hw (Nat.le_of_ble_eq_true rfl) (Nat.le_of_ble_eq_true rfl) d_X_at_68
      · have hw := hw.2 c5
        refine (Decidable.em (p2 = 1)).elim (fun c8 => ?_) (fun c8 => ?_)
        · have hw := hw.1 c8
          refine j_tableIn (pc := 30) (tgt := 69) C d_X_at_30 (by rw [c8]; decide) (by rw [c8]; decide) (by rw [c8]; rfl) (by decide) ?_
          refine j_iload_n (pc := 69) C d_X_at_69 rfl 0 rfl ?_
          refine j_callSi0 (pc := 70) (st := []) (As := [.int x4]) (wf := wX cI cL ad) C (c_X_passesUpTo (jk_l κ) (jk_G κ) cI cL ad σ x4 _ hw) g_X_125 hdS_X_passesUpTo ⟨(Nat.le_of_ble_eq_true rfl), (Nat.le_of_ble_eq_true rfl)⟩ rfl rfl (Nat.le_of_ble_eq_true rfl) d_X_at_70 ⟨(Nat.le_of_ble_eq_true rfl), (Nat.le_of_ble_eq_true rfl)⟩ (fun r10 σ9 hw => ?_)
          refine j_iconst (v := 1) (pc := 73) C d_X_at_73 (by decide) ?_
          refine j_isub (pc := 74) C d_X_at_74 ?_
          exact jx_iret (pc := 75) C E hw (Nat.le_of_ble_eq_true rfl) (Nat.le_of_ble_eq_true rfl) d_X_at_75
        · have hw := hw.2 c8
          refine (Decidable.em (p2 = 2)).elim (fun c11 => ?_) (fun c11 => ?_)
          · have hw := hw.1 c11
            refine j_tableIn (pc := 30) (tgt := 76) C d_X_at_30 (by rw [c11]; decide) (by rw [c11]; decide) (by rw [c11]; rfl) (by decide) ?_
            refine j_aload_n (pc := 76) C d_X_at_76 rfl 1 rfl ?_
            refine j_get (pc := 77) C i_X 0 rfl rfl 14 (Nat.le_of_ble_eq_true rfl) k_41 rfl d_X_at_77 ?_
            refine j_iload_n (pc := 80) C d_X_at_80 rfl 0 rfl ?_
            obtain ⟨hi12, hw⟩ := hw
            refine j_iald (pc := 81) C 11 0 rfl rfl hi12 d_X_at_81 ?_
            exact jx_iret (pc := 82) C E hw (Nat.le_of_ble_eq_true rfl) (Nat.le_of_ble_eq_true rfl) d_X_at_82
          · have hw := hw.2 c11
            refine (Decidable.em (p2 = 3)).elim (fun c13 => ?_) (fun c13 => ?_)
            · have hw := hw.1 c13
              refine j_tableIn (pc := 30) (tgt := 83) C d_X_at_30 (by rw [c13]; decide) (by rw [c13]; decide) (by rw [c13]; rfl) (by decide) ?_
              refine j_aload_n (pc := 83) C d_X_at_83 rfl 1 rfl ?_
              refine j_iload_n (pc := 84) C d_X_at_84 rfl 0 rfl ?_
              refine j_callVi0 (pc := 85) (st := []) (As := [.int x4]) (wf := wX cI cL ad) C (c_X_countSameSlope (jk_l κ) (jk_G κ) cI cL ad σ x4 _ hw) g_X_128 hdV_X_countSameSlope ⟨(Nat.le_of_ble_eq_true rfl), (Nat.le_of_ble_eq_true rfl)⟩ rfl (q0 := 0) rfl rfl rfl rfl (Nat.le_of_ble_eq_true rfl) d_X_at_85 ⟨(Nat.le_of_ble_eq_true rfl), (Nat.le_of_ble_eq_true rfl)⟩ (fun r15 σ14 hw => ?_)
              exact jx_iret (pc := 88) C E hw (Nat.le_of_ble_eq_true rfl) (Nat.le_of_ble_eq_true rfl) d_X_at_88
            · have hw := hw.2 c13
              refine (Decidable.em (p2 = 4)).elim (fun c16 => ?_) (fun c16 => ?_)
              · have hw := hw.1 c16
                refine j_tableIn (pc := 30) (tgt := 89) C d_X_at_30 (by rw [c16]; decide) (by rw [c16]; decide) (by rw [c16]; rfl) (by decide) ?_
                refine j_aload_n (pc := 89) C d_X_at_89 rfl 1 rfl ?_
                refine jx_callVv0 (pc := 90) (st := []) (As := []) (wf := wX cI cL ad) C Z E (c_X_needShared (jk_l κ) Z.1 (jk_G κ) cI cL ad σ _ _ hw) g_X_131 hdV_X_needShared ⟨(Nat.le_of_ble_eq_true rfl), (Nat.le_of_ble_eq_true rfl)⟩ rfl (q0 := 0) rfl rfl rfl rfl (Nat.le_of_ble_eq_true rfl) d_X_at_90 ⟨(Nat.le_of_ble_eq_true rfl), (Nat.le_of_ble_eq_true rfl)⟩ (Nat.le_of_ble_eq_true rfl) (Nat.le_of_ble_eq_true rfl) (fun σ17 hw => ?_)
                refine j_widen (k := 1) (n := 6) (Nat.le_of_ble_eq_true rfl) (Nat.le_of_ble_eq_true rfl) ?_
                refine j_aload_n (pc := 93) C d_X_at_93 rfl 1 rfl ?_
                refine j_iload_n (pc := 94) C d_X_at_94 rfl 2 rfl ?_
                refine j_callVi0 (pc := 95) (st := []) (As := [.int p1]) (wf := wX cI cL ad) C (c_X_layerOf (jk_l κ) (jk_G κ) cI cL ad σ17 p1 _ hw) g_X_134 hdV_X_layerOf ⟨(Nat.le_of_ble_eq_true rfl), (Nat.le_of_ble_eq_true rfl)⟩ rfl (q0 := 0) rfl rfl rfl rfl (Nat.le_of_ble_eq_true rfl) d_X_at_95 ⟨(Nat.le_of_ble_eq_true rfl), (Nat.le_of_ble_eq_true rfl)⟩ (fun r19 σ18 hw => ?_)
                exact jx_iret (pc := 98) C E hw (Nat.le_of_ble_eq_true rfl) (Nat.le_of_ble_eq_true rfl) d_X_at_98
              · have hw := hw.2 c16
                have n_c5 := lv_neT (a := 0) c5 rfl
                have n_c8 := lv_neT (a := 1) c8 rfl
                have n_c11 := lv_neT (a := 2) c11 rfl
                have n_c13 := lv_neT (a := 3) c13 rfl
                have n_c16 := lv_neT (a := 4) c16 rfl
                refine j_tableOut (pc := 30) (tgt := 99) C d_X_at_30 (by omega) (by decide) ?_
                exact jx_throwS (pc := 99) C Z E (names := ["java/lang/RuntimeException", "java/lang/Exception"]) (by decide +kernel) (by decide +kernel) k_15 k_16 (List.mem_of_getElem? (i := 8) rfl) ka_X_141 d_X_at_99 d_X_at_102 d_X_at_103 d_X_at_105 d_X_at_108 (Nat.le_of_ble_eq_true rfl) (Nat.le_of_ble_eq_true rfl) (Nat.le_of_ble_eq_true rfl) (Nat.le_of_ble_eq_true rfl) (Nat.le_of_ble_eq_true rfl) (Nat.le_of_ble_eq_true rfl) hw
    · have hw := hw.2 c2
      exact jx_throwS (pc := 12) C Z E (names := ["java/lang/RuntimeException", "java/lang/Exception"]) (by decide +kernel) (by decide +kernel) k_7 k_8 (List.mem_of_getElem? (i := 6) rfl) ka_X_121 d_X_at_12 d_X_at_15 d_X_at_16 d_X_at_18 d_X_at_21 (Nat.le_of_ble_eq_true rfl) (Nat.le_of_ble_eq_true rfl) (Nat.le_of_ble_eq_true rfl) (Nat.le_of_ble_eq_true rfl) (Nat.le_of_ble_eq_true rfl) (Nat.le_of_ble_eq_true rfl) hw
