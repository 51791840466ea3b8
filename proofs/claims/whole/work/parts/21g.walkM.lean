set_option maxHeartbeats 4000000 in
set_option maxRecDepth 100000 in
theorem jn_M_at_73 {κ : jk_K} {cI cL : ClassId} {ad : Nat → Nat} {Q : Int32 → SM → Prop} (C : jk_C κ b_M_at R_M rm_M_at 4 [(cI, .int), (cL, .long)]) (E : jk_E κ (some .int) (va_Qi Q (jk_B (jk_G κ) [(cI, .int), (cL, .long)] (jk_A κ) (wM cI cL ad)) (jk_A κ)) rm_M_at.cells rm_M_at.slots) (y1 : Int32) (y2 : Int32) (s0 : Int32) (μ : SM) (hw : wj_M_at_73 Q y1 y2 s0 μ) : jk_J κ (wM cI cL ad μ) 73 [(0, .ref (ad 0)), (1, .int y1), (2, .int y2)] [.int s0, .ref (ad 0)] 0 0 := by
  unfold wj_M_at_73 at hw
  refine j_iconst (v := 3) (pc := 73) C d_M_at_73 (by decide) ?_
  refine j_callVi0 (pc := 74) (st := []) (As := [.int s0, .int 3]) (wf := wM cI cL ad) C (c_M_fails (jk_l κ) (jk_G κ) cI cL ad μ s0 3 _ hw) g_M_65 hdV_M_fails ⟨(Nat.le_of_ble_eq_true rfl), (Nat.le_of_ble_eq_true rfl)⟩ rfl (q0 := 0) rfl rfl rfl rfl (Nat.le_of_ble_eq_true rfl) d_M_at_74 ⟨(Nat.le_of_ble_eq_true rfl), (Nat.le_of_ble_eq_true rfl)⟩ (fun r13 μ12 hw => ?_)
  refine j_if_eq (pc := 77) (tgt := 82) C d_M_at_77 (by decide) (fun c14 => ?_) (fun c14 => ?_)
  · have hw := hw.1 c14
    refine j_aload_n (pc := 82) C d_M_at_82 rfl 0 rfl ?_
    refine j_get (pc := 83) C i_M 0 rfl rfl 14 (Nat.le_of_ble_eq_true rfl) k_164 rfl d_M_at_83 ?_
    refine j_iload_n (pc := 86) C d_M_at_86 rfl 1 rfl ?_
    obtain ⟨hi15, hw⟩ := hw
    refine j_iald (pc := 87) C 10 0 rfl rfl hi15 d_M_at_87 ?_
    refine j_nmi (fun x16 e_x16 => ?_)
    have hw := hw x16 e_x16
    refine j_istore_n (pc := 88) (lv' := [(3, .int x16), (0, .ref (ad 0)), (1, .int y1), (2, .int y2)]) C d_M_at_88 rfl (Nat.le_of_ble_eq_true rfl) rfl ?_
    refine j_iload_n (pc := 89) C d_M_at_89 rfl 3 rfl ?_
    refine j_if_ne (pc := 90) (tgt := 100) C d_M_at_90 (by decide) (fun c17 => ?_) (fun c17 => ?_)
    · have hw := hw.1 c17
      refine j_iload_n (pc := 100) C d_M_at_100 rfl 3 rfl ?_
      refine j_iconst (v := 1) (pc := 101) C d_M_at_101 (by decide) ?_
      refine j_icmp_ne (pc := 102) (tgt := 112) C d_M_at_102 (by decide) (fun c18 => ?_) (fun c18 => ?_)
      · have hw := hw.1 c18
        refine j_iload_n (pc := 112) C d_M_at_112 rfl 3 rfl ?_
        refine j_iconst (v := 2) (pc := 113) C d_M_at_113 (by decide) ?_
        refine j_icmp_ne (pc := 114) (tgt := 126) C d_M_at_114 (by decide) (fun c19 => ?_) (fun c19 => ?_)
        · have hw := hw.1 c19
          refine j_iload_n (pc := 126) C d_M_at_126 rfl 3 rfl ?_
          refine j_iconst (v := 3) (pc := 127) C d_M_at_127 (by decide) ?_
          refine j_icmp_ne (pc := 128) (tgt := 139) C d_M_at_128 (by decide) (fun c20 => ?_) (fun c20 => ?_)
          · have hw := hw.1 c20
            refine j_aload_n (pc := 139) C d_M_at_139 rfl 1 rfl ?_
            refine j_iload_n (pc := 140) C d_M_at_140 rfl 2 rfl ?_
            refine j_callVi0 (pc := 141) (st := []) (As := [.int y1]) (wf := wM cI cL ad) C (c_M_layerOf (jk_l κ) (jk_G κ) cI cL ad μ12 y1 _ hw) g_M_121 hdV_M_layerOf ⟨(Nat.le_of_ble_eq_true rfl), (Nat.le_of_ble_eq_true rfl)⟩ rfl (q0 := 0) rfl rfl rfl rfl (Nat.le_of_ble_eq_true rfl) d_M_at_141 ⟨(Nat.le_of_ble_eq_true rfl), (Nat.le_of_ble_eq_true rfl)⟩ (fun r22 μ21 hw => ?_)
            exact j_iret (pc := 144) C E hw (Nat.le_of_ble_eq_true rfl) (Nat.le_of_ble_eq_true rfl) d_M_at_144
          · have hw := hw.2 c20
            refine j_aload_n (pc := 131) C d_M_at_131 rfl 1 rfl ?_
            refine j_iload_n (pc := 132) C d_M_at_132 rfl 2 rfl ?_
            refine j_callVi0 (pc := 133) (st := []) (As := [.int y1]) (wf := wM cI cL ad) C (c_M_alike (jk_l κ) (jk_G κ) cI cL ad μ12 y1 _ hw) g_M_117 hdV_M_alike ⟨(Nat.le_of_ble_eq_true rfl), (Nat.le_of_ble_eq_true rfl)⟩ rfl (q0 := 0) rfl rfl rfl rfl (Nat.le_of_ble_eq_true rfl) d_M_at_133 ⟨(Nat.le_of_ble_eq_true rfl), (Nat.le_of_ble_eq_true rfl)⟩ (fun r24 μ23 hw => ?_)
            refine j_goto (pc := 136) (tgt := 144) C d_M_at_136 (by decide) ?_
            exact j_iret (pc := 144) C E hw (Nat.le_of_ble_eq_true rfl) (Nat.le_of_ble_eq_true rfl) d_M_at_144
        · have hw := hw.2 c19
          refine j_aload_n (pc := 117) C d_M_at_117 rfl 1 rfl ?_
          refine j_get (pc := 118) C i_M 0 rfl rfl 11 (Nat.le_of_ble_eq_true rfl) k_158 rfl d_M_at_118 ?_
          refine j_iload_n (pc := 121) C d_M_at_121 rfl 0 rfl ?_
          obtain ⟨hi25, hw⟩ := hw
          refine j_iald (pc := 122) C 8 0 rfl rfl hi25 d_M_at_122 ?_
          refine j_goto (pc := 123) (tgt := 144) C d_M_at_123 (by decide) ?_
          exact j_iret (pc := 144) C E hw (Nat.le_of_ble_eq_true rfl) (Nat.le_of_ble_eq_true rfl) d_M_at_144
      · have hw := hw.2 c18
        refine j_iload_n (pc := 105) C d_M_at_105 rfl 0 rfl ?_
        refine j_bipush (v := 24) (pc := 106) C d_M_at_106 (by decide) ?_
        refine j_irem (pc := 108) C d_M_at_108 (by decide) ?_
        refine j_goto (pc := 109) (tgt := 144) C d_M_at_109 (by decide) ?_
        exact j_iret (pc := 144) C E hw (Nat.le_of_ble_eq_true rfl) (Nat.le_of_ble_eq_true rfl) d_M_at_144
    · have hw := hw.2 c17
      refine j_iload_n (pc := 93) C d_M_at_93 rfl 0 rfl ?_
      refine j_bipush (v := 24) (pc := 94) C d_M_at_94 (by decide) ?_
      refine j_idiv (pc := 96) C d_M_at_96 (by decide) ?_
      refine j_goto (pc := 97) (tgt := 144) C d_M_at_97 (by decide) ?_
      exact j_iret (pc := 144) C E hw (Nat.le_of_ble_eq_true rfl) (Nat.le_of_ble_eq_true rfl) d_M_at_144
  · have hw := hw.2 c14
    refine j_iconst (v := 0) (pc := 80) C d_M_at_80 (by decide) ?_
    exact j_iret (pc := 81) C E hw (Nat.le_of_ble_eq_true rfl) (Nat.le_of_ble_eq_true rfl) d_M_at_81
set_option maxHeartbeats 4000000 in
set_option maxRecDepth 100000 in
theorem jn_M_at_72 {κ : jk_K} {cI cL : ClassId} {ad : Nat → Nat} {Q : Int32 → SM → Prop} (C : jk_C κ b_M_at R_M rm_M_at 4 [(cI, .int), (cL, .long)]) (E : jk_E κ (some .int) (va_Qi Q (jk_B (jk_G κ) [(cI, .int), (cL, .long)] (jk_A κ) (wM cI cL ad)) (jk_A κ)) rm_M_at.cells rm_M_at.slots) (y1 : Int32) (y2 : Int32) (μ : SM) (hw : wj_M_at_72 Q y1 y2 μ) : jk_J κ (wM cI cL ad μ) 72 [(0, .ref (ad 0)), (1, .int y1), (2, .int y2)] [.ref (ad 0)] 0 0 := by
  unfold wj_M_at_72 at hw
  refine j_iconst (v := 0) (pc := 72) C d_M_at_72 (by decide) ?_
  refine j_locs [0, 1, 2] rfl ?_
  exact jn_M_at_73 C E y1 y2 0 μ hw
set_option maxHeartbeats 4000000 in
set_option maxRecDepth 100000 in
theorem jn_M_at_50 {κ : jk_K} {cI cL : ClassId} {ad : Nat → Nat} {Q : Int32 → SM → Prop} (C : jk_C κ b_M_at R_M rm_M_at 4 [(cI, .int), (cL, .long)]) (E : jk_E κ (some .int) (va_Qi Q (jk_B (jk_G κ) [(cI, .int), (cL, .long)] (jk_A κ) (wM cI cL ad)) (jk_A κ)) rm_M_at.cells rm_M_at.slots) (y1 : Int32) (y2 : Int32) (s0 : Int32) (μ : SM) (hw : wj_M_at_50 Q y1 y2 s0 μ) : jk_J κ (wM cI cL ad μ) 50 [(0, .ref (ad 0)), (1, .int y1), (2, .int y2)] [.int s0, .ref (ad 0)] 0 0 := by
  unfold wj_M_at_50 at hw
  refine j_iconst (v := 2) (pc := 50) C d_M_at_50 (by decide) ?_
  refine j_callVi0 (pc := 51) (st := []) (As := [.int s0, .int 2]) (wf := wM cI cL ad) C (c_M_fails (jk_l κ) (jk_G κ) cI cL ad μ s0 2 _ hw) g_M_65 hdV_M_fails ⟨(Nat.le_of_ble_eq_true rfl), (Nat.le_of_ble_eq_true rfl)⟩ rfl (q0 := 0) rfl rfl rfl rfl (Nat.le_of_ble_eq_true rfl) d_M_at_51 ⟨(Nat.le_of_ble_eq_true rfl), (Nat.le_of_ble_eq_true rfl)⟩ (fun r10 μ9 hw => ?_)
  refine j_pop (pc := 54) C d_M_at_54 rfl ?_
  refine j_aload_n (pc := 55) C d_M_at_55 rfl 0 rfl ?_
  refine j_iload_n (pc := 56) C d_M_at_56 rfl 2 rfl ?_
  refine j_iconst (v := 4) (pc := 57) C d_M_at_57 (by decide) ?_
  refine j_icmp_ne (pc := 58) (tgt := 72) C d_M_at_58 (by decide) (fun c11 => ?_) (fun c11 => ?_)
  · have hw := hw.1 c11
    refine j_locs [0, 1, 2] rfl ?_
    exact jn_M_at_72 C E y1 y2 μ9 hw
  · have hw := hw.2 c11
    refine j_aload_n (pc := 61) C d_M_at_61 rfl 0 rfl ?_
    refine j_get (pc := 62) C i_M 0 rfl rfl 15 (Nat.le_of_ble_eq_true rfl) k_120 rfl d_M_at_62 ?_
    refine j_if_ne (pc := 65) (tgt := 72) C d_M_at_65 (by decide) (fun c26 => ?_) (fun c26 => ?_)
    · have hw := hw.1 c26
      refine j_locs [0, 1, 2] rfl ?_
      exact jn_M_at_72 C E y1 y2 μ9 hw
    · have hw := hw.2 c26
      refine j_iconst (v := 1) (pc := 68) C d_M_at_68 (by decide) ?_
      refine j_goto (pc := 69) (tgt := 73) C d_M_at_69 (by decide) ?_
      refine j_locs [0, 1, 2] rfl ?_
      exact jn_M_at_73 C E y1 y2 1 μ9 hw
set_option maxHeartbeats 4000000 in
set_option maxRecDepth 100000 in
theorem jn_M_at_27 {κ : jk_K} {cI cL : ClassId} {ad : Nat → Nat} {Q : Int32 → SM → Prop} (C : jk_C κ b_M_at R_M rm_M_at 4 [(cI, .int), (cL, .long)]) (E : jk_E κ (some .int) (va_Qi Q (jk_B (jk_G κ) [(cI, .int), (cL, .long)] (jk_A κ) (wM cI cL ad)) (jk_A κ)) rm_M_at.cells rm_M_at.slots) (y1 : Int32) (y2 : Int32) (s0 : Int32) (μ : SM) (hw : wj_M_at_27 Q y1 y2 s0 μ) : jk_J κ (wM cI cL ad μ) 27 [(0, .ref (ad 0)), (1, .int y1), (2, .int y2)] [.int s0, .ref (ad 0)] 0 0 := by
  unfold wj_M_at_27 at hw
  refine j_iconst (v := 1) (pc := 27) C d_M_at_27 (by decide) ?_
  refine j_callVi0 (pc := 28) (st := []) (As := [.int s0, .int 1]) (wf := wM cI cL ad) C (c_M_fails (jk_l κ) (jk_G κ) cI cL ad μ s0 1 _ hw) g_M_65 hdV_M_fails ⟨(Nat.le_of_ble_eq_true rfl), (Nat.le_of_ble_eq_true rfl)⟩ rfl (q0 := 0) rfl rfl rfl rfl (Nat.le_of_ble_eq_true rfl) d_M_at_28 ⟨(Nat.le_of_ble_eq_true rfl), (Nat.le_of_ble_eq_true rfl)⟩ (fun r5 μ4 hw => ?_)
  refine j_pop (pc := 31) C d_M_at_31 rfl ?_
  refine j_aload_n (pc := 32) C d_M_at_32 rfl 0 rfl ?_
  refine j_iload_n (pc := 33) C d_M_at_33 rfl 2 rfl ?_
  refine j_i2l (pc := 34) C d_M_at_34 ?_
  refine j_lconst (v := 0) (pc := 35) C d_M_at_35 (by decide) ?_
  refine j_ldc2 (v := 4) (pc := 36) C d_M_at_36 k_148 ?_
  refine j_callSi0 (pc := 39) (st := [.ref (ad 0)]) (As := [.long (Int32.toInt64 y2), .long 0, .long 4]) (wf := wM cI cL ad) C (c_M_within (jk_l κ) (jk_G κ) cI cL ad μ4 (Int32.toInt64 y2) 0 4 _ hw) g_M_74 hdS_M_within ⟨(Nat.le_of_ble_eq_true rfl), (Nat.le_of_ble_eq_true rfl)⟩ rfl rfl (Nat.le_of_ble_eq_true rfl) d_M_at_39 ⟨(Nat.le_of_ble_eq_true rfl), (Nat.le_of_ble_eq_true rfl)⟩ (fun r7 μ6 hw => ?_)
  refine j_if_ne (pc := 42) (tgt := 49) C d_M_at_42 (by decide) (fun c8 => ?_) (fun c8 => ?_)
  · have hw := hw.1 c8
    refine j_iconst (v := 0) (pc := 49) C d_M_at_49 (by decide) ?_
    refine j_locs [0, 1, 2] rfl ?_
    exact jn_M_at_50 C E y1 y2 0 μ6 hw
  · have hw := hw.2 c8
    refine j_iconst (v := 1) (pc := 45) C d_M_at_45 (by decide) ?_
    refine j_goto (pc := 46) (tgt := 50) C d_M_at_46 (by decide) ?_
    refine j_locs [0, 1, 2] rfl ?_
    exact jn_M_at_50 C E y1 y2 1 μ6 hw
set_option maxHeartbeats 4000000 in
set_option maxRecDepth 100000 in
theorem jn_M_at_22 {κ : jk_K} {cI cL : ClassId} {ad : Nat → Nat} {Q : Int32 → SM → Prop} (C : jk_C κ b_M_at R_M rm_M_at 4 [(cI, .int), (cL, .long)]) (E : jk_E κ (some .int) (va_Qi Q (jk_B (jk_G κ) [(cI, .int), (cL, .long)] (jk_A κ) (wM cI cL ad)) (jk_A κ)) rm_M_at.cells rm_M_at.slots) (y1 : Int32) (y2 : Int32) (μ : SM) (hw : wj_M_at_22 Q y1 y2 μ) : jk_J κ (wM cI cL ad μ) 22 [(0, .ref (ad 0)), (1, .int y1), (2, .int y2)] [.ref (ad 0)] 0 0 := by
  unfold wj_M_at_22 at hw
  refine j_iconst (v := 1) (pc := 22) C d_M_at_22 (by decide) ?_
  refine j_goto (pc := 23) (tgt := 27) C d_M_at_23 (by decide) ?_
  refine j_locs [0, 1, 2] rfl ?_
  exact jn_M_at_27 C E y1 y2 1 μ hw
set_option maxHeartbeats 4000000 in
set_option maxRecDepth 100000 in
theorem c_M_at (l : Launch) (G : va_G) (cI cL : ClassId) (ad : Nat → Nat) (μ : SM) (p1 : Int32) (p2 : Int32) (Q : Int32 → SM → Prop) (hw : wp_M_at μ p1 p2 Q) : jm_i l G [(cI, .int), (cL, .long)] y_M_at b_M_at 4 .int rm_M_at [.ref (ad 0), .int p1, .int p2] (wM cI cL ad μ) (wM cI cL ad) Q := by
  refine jm_open_i (by decide +kernel) (Nat.le_of_ble_eq_true rfl) ?_
  intro κ hl hG C E hi
  subst hl; subst hG
  unfold wp_M_at at hw
  refine j_aload_n (pc := 0) C d_M_at_0 rfl 0 rfl ?_
  refine j_iconst (v := 0) (pc := 1) C d_M_at_1 (by decide) ?_
  obtain ⟨μ1, e_μ1⟩ : ∃ z : SM, z = uM_thr μ 0 := ⟨_, rfl⟩
  have hw := hw μ1 e_μ1
  refine j_put (pc := 2) (ws' := wM cI cL ad μ1) C i_M t_M t_M_ok n_M 0 rfl rfl 0 (Nat.le_of_ble_eq_true rfl) k_110 rfl (ty := .int) (by decide +kernel) rfl rfl (Nat.le_of_ble_eq_true rfl) (by rw [e_μ1]; rfl) d_M_at_2 ?_
  refine j_aload_n (pc := 5) C d_M_at_5 rfl 0 rfl ?_
  refine j_callVv0 (pc := 6) (st := []) (As := []) (wf := wM cI cL ad) C (c_M_layRow (jk_l κ) (jk_G κ) cI cL ad μ1 _ hw) g_M_111 hdV_M_layRow ⟨(Nat.le_of_ble_eq_true rfl), (Nat.le_of_ble_eq_true rfl)⟩ rfl (q0 := 0) rfl rfl rfl rfl (Nat.le_of_ble_eq_true rfl) d_M_at_6 ⟨(Nat.le_of_ble_eq_true rfl), (Nat.le_of_ble_eq_true rfl)⟩ (fun μ2 hw => ?_)
  refine j_aload_n (pc := 9) C d_M_at_9 rfl 0 rfl ?_
  refine j_iload_n (pc := 10) C d_M_at_10 rfl 1 rfl ?_
  refine j_if_lt (pc := 11) (tgt := 22) C d_M_at_11 (by decide) (fun c3 => ?_) (fun c3 => ?_)
  · have hw := hw.1 c3
    refine j_locs [0, 1, 2] rfl ?_
    exact jn_M_at_22 C E p1 p2 μ2 hw
  · have hw := hw.2 c3
    refine j_iload_n (pc := 14) C d_M_at_14 rfl 1 rfl ?_
    refine j_aload_n (pc := 15) C d_M_at_15 rfl 0 rfl ?_
    refine j_get (pc := 16) C i_M 0 rfl rfl 13 (Nat.le_of_ble_eq_true rfl) k_159 rfl d_M_at_16 ?_
    refine j_icmp_lt (pc := 19) (tgt := 26) C d_M_at_19 (by decide) (fun c27 => ?_) (fun c27 => ?_)
    · have hw := hw.1 c27
      refine j_iconst (v := 0) (pc := 26) C d_M_at_26 (by decide) ?_
      refine j_locs [0, 1, 2] rfl ?_
      exact jn_M_at_27 C E p1 p2 0 μ2 hw
    · have hw := hw.2 c27
      refine j_locs [0, 1, 2] rfl ?_
      exact jn_M_at_22 C E p1 p2 μ2 hw
set_option maxHeartbeats 4000000 in
set_option maxRecDepth 100000 in
theorem lp_M_last_5 {κ : jk_K} {cI cL : ClassId} {ad : Nat → Nat} {Q : Int32 → SM → Prop} (C : jk_C κ b_M_last R_M rm_M_last 5 [(cI, .int), (cL, .long)]) (E : jk_E κ (some .int) (va_Qi Q (jk_B (jk_G κ) [(cI, .int), (cL, .long)] (jk_A κ) (wM cI cL ad)) (jk_A κ)) rm_M_last.cells rm_M_last.slots) (y1 : Int32) (y2 : Int32) : ∀ (n : Nat) (y3 : Int32) (y4 : Int32) (μ : SM), wl_M_last_5 y1 y2 Q n y3 y4 μ → jk_J κ (wM cI cL ad μ) 5 [(0, .ref (ad 0)), (1, .int y1), (2, .int y2), (3, .int y3), (4, .int y4)] [] 0 0 := by
  intro n
  induction n with
  | zero => intro y3 y4 μ hw; exact hw.elim
  | succ n ih =>
    intro y3 y4 μ hw
    rw [wl_M_last_5] at hw
    refine j_iload (pc := 5) C d_M_last_5 4 rfl ?_
    refine j_aload_n (pc := 7) C d_M_last_7 rfl 0 rfl ?_
    refine j_get (pc := 8) C i_M 0 rfl rfl 16 (Nat.le_of_ble_eq_true rfl) k_173 rfl d_M_last_8 ?_
    refine j_iload_n (pc := 11) C d_M_last_11 rfl 1 rfl ?_
    refine j_iconst (v := 1) (pc := 12) C d_M_last_12 (by decide) ?_
    refine j_iadd (pc := 13) C d_M_last_13 ?_
    obtain ⟨hi1, hw⟩ := hw
    refine j_iald (pc := 14) C 11 0 rfl rfl hi1 d_M_last_14 ?_
    refine j_icmp_ge (pc := 15) (tgt := 63) C d_M_last_15 (by decide) (fun c2 => ?_) (fun c2 => ?_)
    · have hw := hw.1 c2
      refine j_iload_n (pc := 63) C d_M_last_63 rfl 3 rfl ?_
      exact j_iret (pc := 64) C E hw (Nat.le_of_ble_eq_true rfl) (Nat.le_of_ble_eq_true rfl) d_M_last_64
    · have hw := hw.2 c2
      refine j_aload_n (pc := 18) C d_M_last_18 rfl 0 rfl ?_
      refine j_get (pc := 19) C i_M 0 rfl rfl 14 (Nat.le_of_ble_eq_true rfl) k_164 rfl d_M_last_19 ?_
      refine j_iload (pc := 22) C d_M_last_22 4 rfl ?_
      obtain ⟨hi3, hw⟩ := hw
      refine j_iald (pc := 24) C 10 0 rfl rfl hi3 d_M_last_24 ?_
      refine j_bipush (v := 24) (pc := 25) C d_M_last_25 (by decide) ?_
      refine j_idiv (pc := 27) C d_M_last_27 (by decide) ?_
      refine j_iload_n (pc := 28) C d_M_last_28 rfl 2 rfl ?_
      refine j_icmp_ne (pc := 29) (tgt := 57) C d_M_last_29 (by decide) (fun c4 => ?_) (fun c4 => ?_)
      · have hw := hw.1 c4
        refine j_iinc (pc := 57) (lv' := [(4, .int (y4 + 1)), (0, .ref (ad 0)), (1, .int y1), (2, .int y2), (3, .int y3)]) C d_M_last_57 (k := 4) rfl rfl (Nat.le_of_ble_eq_true rfl) rfl ?_
        refine j_goto (pc := 60) (tgt := 5) C d_M_last_60 (by decide) ?_
        refine j_locs [1, 2, 3, 4, 0] rfl ?_
        exact ih y3 (y4 + 1) μ hw
      · have hw := hw.2 c4
        refine j_aload_n (pc := 32) C d_M_last_32 rfl 0 rfl ?_
        refine j_get (pc := 33) C i_M 0 rfl rfl 14 (Nat.le_of_ble_eq_true rfl) k_164 rfl d_M_last_33 ?_
        refine j_iload (pc := 36) C d_M_last_36 4 rfl ?_
        obtain ⟨hi5, hw⟩ := hw
        refine j_iald (pc := 38) C 10 0 rfl rfl hi5 d_M_last_38 ?_
        refine j_bipush (v := 24) (pc := 39) C d_M_last_39 (by decide) ?_
        refine j_irem (pc := 41) C d_M_last_41 (by decide) ?_
        refine j_iload_n (pc := 42) C d_M_last_42 rfl 3 rfl ?_
        refine j_icmp_le (pc := 43) (tgt := 57) C d_M_last_43 (by decide) (fun c6 => ?_) (fun c6 => ?_)
        · have hw := hw.1 c6
          refine j_iinc (pc := 57) (lv' := [(4, .int (y4 + 1)), (0, .ref (ad 0)), (1, .int y1), (2, .int y2), (3, .int y3)]) C d_M_last_57 (k := 4) rfl rfl (Nat.le_of_ble_eq_true rfl) rfl ?_
          refine j_goto (pc := 60) (tgt := 5) C d_M_last_60 (by decide) ?_
          refine j_locs [1, 2, 3, 4, 0] rfl ?_
          exact ih y3 (y4 + 1) μ hw
        · have hw := hw.2 c6
          refine j_aload_n (pc := 46) C d_M_last_46 rfl 0 rfl ?_
          refine j_get (pc := 47) C i_M 0 rfl rfl 14 (Nat.le_of_ble_eq_true rfl) k_164 rfl d_M_last_47 ?_
          refine j_iload (pc := 50) C d_M_last_50 4 rfl ?_
          obtain ⟨hi7, hw⟩ := hw
          refine j_iald (pc := 52) C 10 0 rfl rfl hi7 d_M_last_52 ?_
          refine j_bipush (v := 24) (pc := 53) C d_M_last_53 (by decide) ?_
          refine j_irem (pc := 55) C d_M_last_55 (by decide) ?_
          refine j_nmi (fun x8 e_x8 => ?_)
          have hw := hw x8 e_x8
          refine j_istore_n (pc := 56) (lv' := [(3, .int x8), (0, .ref (ad 0)), (1, .int y1), (2, .int y2), (4, .int y4)]) C d_M_last_56 rfl (Nat.le_of_ble_eq_true rfl) rfl ?_
          refine j_iinc (pc := 57) (lv' := [(4, .int (y4 + 1)), (3, .int x8), (0, .ref (ad 0)), (1, .int y1), (2, .int y2)]) C d_M_last_57 (k := 4) rfl rfl (Nat.le_of_ble_eq_true rfl) rfl ?_
          refine j_goto (pc := 60) (tgt := 5) C d_M_last_60 (by decide) ?_
          refine j_locs [2, 3, 4, 1, 0] rfl ?_
          exact ih x8 (y4 + 1) μ hw
set_option maxHeartbeats 4000000 in
set_option maxRecDepth 100000 in
theorem c_M_last (l : Launch) (G : va_G) (cI cL : ClassId) (ad : Nat → Nat) (μ : SM) (p1 : Int32) (p2 : Int32) (Q : Int32 → SM → Prop) (hw : wp_M_last μ p1 p2 Q) : jm_i l G [(cI, .int), (cL, .long)] y_M_last b_M_last 5 .int rm_M_last [.ref (ad 0), .int p1, .int p2] (wM cI cL ad μ) (wM cI cL ad) Q := by
  refine jm_open_i (by decide +kernel) (Nat.le_of_ble_eq_true rfl) ?_
  intro κ hl hG C E hi
  subst hl; subst hG
  unfold wp_M_last at hw
  refine j_iconst (v := (-1)) (pc := 0) C d_M_last_0 (by decide) ?_
  refine j_istore_n (pc := 1) (lv' := [(3, .int (-1)), (0, .ref (ad 0)), (1, .int p1), (2, .int p2)]) C d_M_last_1 rfl (Nat.le_of_ble_eq_true rfl) rfl ?_
  refine j_iconst (v := 0) (pc := 2) C d_M_last_2 (by decide) ?_
  refine j_istore (pc := 3) (lv' := [(4, .int 0), (3, .int (-1)), (0, .ref (ad 0)), (1, .int p1), (2, .int p2)]) C d_M_last_3 (Nat.le_of_ble_eq_true rfl) rfl ?_
  obtain ⟨n9, hw⟩ := hw
  refine j_locs [2, 3, 4, 1, 0] rfl ?_
  exact lp_M_last_5 C E p1 p2 n9 (-1) 0 μ hw
set_option maxHeartbeats 4000000 in
set_option maxRecDepth 100000 in
theorem jn_M_passes_18 {κ : jk_K} {cI cL : ClassId} {ad : Nat → Nat} {Q : Int32 → SM → Prop} (C : jk_C κ b_M_passes R_M rm_M_passes 3 [(cI, .int), (cL, .long)]) (E : jk_E κ (some .int) (va_Qi Q (jk_B (jk_G κ) [(cI, .int), (cL, .long)] (jk_A κ) (wM cI cL ad)) (jk_A κ)) rm_M_passes.cells rm_M_passes.slots) (y1 : Int32) (y2 : Int32) (s0 : Int32) (μ : SM) (hw : wj_M_passes_18 Q y1 y2 s0 μ) : jk_J κ (wM cI cL ad μ) 18 [(0, .ref (ad 0)), (1, .int y1), (2, .int y2)] [.int s0, .ref (ad 0)] 0 0 := by
  unfold wj_M_passes_18 at hw
  refine j_iconst (v := 1) (pc := 18) C d_M_passes_18 (by decide) ?_
  refine j_callVi0 (pc := 19) (st := []) (As := [.int s0, .int 1]) (wf := wM cI cL ad) C (c_M_fails (jk_l κ) (jk_G κ) cI cL ad μ s0 1 _ hw) g_M_65 hdV_M_fails ⟨(Nat.le_of_ble_eq_true rfl), (Nat.le_of_ble_eq_true rfl)⟩ rfl (q0 := 0) rfl rfl rfl rfl (Nat.le_of_ble_eq_true rfl) d_M_passes_19 ⟨(Nat.le_of_ble_eq_true rfl), (Nat.le_of_ble_eq_true rfl)⟩ (fun r4 μ3 hw => ?_)
  refine j_if_ne (pc := 22) (tgt := 54) C d_M_passes_22 (by decide) (fun c5 => ?_) (fun c5 => ?_)
  · have hw := hw.1 c5
    refine j_iconst (v := 0) (pc := 54) C d_M_passes_54 (by decide) ?_
    exact j_iret (pc := 55) C E hw (Nat.le_of_ble_eq_true rfl) (Nat.le_of_ble_eq_true rfl) d_M_passes_55
  · have hw := hw.2 c5
    refine j_aload_n (pc := 25) C d_M_passes_25 rfl 0 rfl ?_
    refine j_aload_n (pc := 26) C d_M_passes_26 rfl 0 rfl ?_
    refine j_iload_n (pc := 27) C d_M_passes_27 rfl 1 rfl ?_
    refine j_callVi0 (pc := 28) (st := [.ref (ad 0)]) (As := [.int y1]) (wf := wM cI cL ad) C (c_M_isLayer (jk_l κ) (jk_G κ) cI cL ad μ3 y1 _ hw) g_M_86 hdV_M_isLayer ⟨(Nat.le_of_ble_eq_true rfl), (Nat.le_of_ble_eq_true rfl)⟩ rfl (q0 := 0) rfl rfl rfl rfl (Nat.le_of_ble_eq_true rfl) d_M_passes_28 ⟨(Nat.le_of_ble_eq_true rfl), (Nat.le_of_ble_eq_true rfl)⟩ (fun r7 μ6 hw => ?_)
    refine j_if_eq (pc := 31) (tgt := 42) C d_M_passes_31 (by decide) (fun c8 => ?_) (fun c8 => ?_)
    · have hw := hw.1 c8
      refine j_iconst (v := 1) (pc := 42) C d_M_passes_42 (by decide) ?_
      refine j_goto (pc := 43) (tgt := 47) C d_M_passes_43 (by decide) ?_
      refine j_iconst (v := 2) (pc := 47) C d_M_passes_47 (by decide) ?_
      refine j_callVi0 (pc := 48) (st := []) (As := [.int 1, .int 2]) (wf := wM cI cL ad) C (c_M_fails (jk_l κ) (jk_G κ) cI cL ad μ6 1 2 _ hw) g_M_65 hdV_M_fails ⟨(Nat.le_of_ble_eq_true rfl), (Nat.le_of_ble_eq_true rfl)⟩ rfl (q0 := 0) rfl rfl rfl rfl (Nat.le_of_ble_eq_true rfl) d_M_passes_48 ⟨(Nat.le_of_ble_eq_true rfl), (Nat.le_of_ble_eq_true rfl)⟩ (fun r10 μ9 hw => ?_)
      refine j_if_eq (pc := 51) (tgt := 56) C d_M_passes_51 (by decide) (fun c11 => ?_) (fun c11 => ?_)
      · have hw := hw.1 c11
        refine j_aload_n (pc := 56) C d_M_passes_56 rfl 0 rfl ?_
        refine j_iload_n (pc := 57) C d_M_passes_57 rfl 1 rfl ?_
        refine j_iload_n (pc := 58) C d_M_passes_58 rfl 2 rfl ?_
        refine j_callVi0 (pc := 59) (st := []) (As := [.int y1, .int y2]) (wf := wM cI cL ad) C (c_M_last (jk_l κ) (jk_G κ) cI cL ad μ9 y1 y2 _ hw) g_M_124 hdV_M_last ⟨(Nat.le_of_ble_eq_true rfl), (Nat.le_of_ble_eq_true rfl)⟩ rfl (q0 := 0) rfl rfl rfl rfl (Nat.le_of_ble_eq_true rfl) d_M_passes_59 ⟨(Nat.le_of_ble_eq_true rfl), (Nat.le_of_ble_eq_true rfl)⟩ (fun r13 μ12 hw => ?_)
        refine j_iconst (v := 1) (pc := 62) C d_M_passes_62 (by decide) ?_
        refine j_iadd (pc := 63) C d_M_passes_63 ?_
        exact j_iret (pc := 64) C E hw (Nat.le_of_ble_eq_true rfl) (Nat.le_of_ble_eq_true rfl) d_M_passes_64
      · have hw := hw.2 c11
        refine j_iconst (v := 0) (pc := 54) C d_M_passes_54 (by decide) ?_
        exact j_iret (pc := 55) C E hw (Nat.le_of_ble_eq_true rfl) (Nat.le_of_ble_eq_true rfl) d_M_passes_55
    · have hw := hw.2 c8
      refine j_aload_n (pc := 34) C d_M_passes_34 rfl 0 rfl ?_
      refine j_iload_n (pc := 35) C d_M_passes_35 rfl 2 rfl ?_
      refine j_callVi0 (pc := 36) (st := [.ref (ad 0)]) (As := [.int y2]) (wf := wM cI cL ad) C (c_M_isBlock (jk_l κ) (jk_G κ) cI cL ad μ6 y2 _ hw) g_M_54 hdV_M_isBlock ⟨(Nat.le_of_ble_eq_true rfl), (Nat.le_of_ble_eq_true rfl)⟩ rfl (q0 := 0) rfl rfl rfl rfl (Nat.le_of_ble_eq_true rfl) d_M_passes_36 ⟨(Nat.le_of_ble_eq_true rfl), (Nat.le_of_ble_eq_true rfl)⟩ (fun r15 μ14 hw => ?_)
      refine j_if_ne (pc := 39) (tgt := 46) C d_M_passes_39 (by decide) (fun c16 => ?_) (fun c16 => ?_)
      · have hw := hw.1 c16
        refine j_iconst (v := 0) (pc := 46) C d_M_passes_46 (by decide) ?_
        refine j_iconst (v := 2) (pc := 47) C d_M_passes_47 (by decide) ?_
        refine j_callVi0 (pc := 48) (st := []) (As := [.int 0, .int 2]) (wf := wM cI cL ad) C (c_M_fails (jk_l κ) (jk_G κ) cI cL ad μ14 0 2 _ hw) g_M_65 hdV_M_fails ⟨(Nat.le_of_ble_eq_true rfl), (Nat.le_of_ble_eq_true rfl)⟩ rfl (q0 := 0) rfl rfl rfl rfl (Nat.le_of_ble_eq_true rfl) d_M_passes_48 ⟨(Nat.le_of_ble_eq_true rfl), (Nat.le_of_ble_eq_true rfl)⟩ (fun r18 μ17 hw => ?_)
        refine j_if_eq (pc := 51) (tgt := 56) C d_M_passes_51 (by decide) (fun c19 => ?_) (fun c19 => ?_)
        · have hw := hw.1 c19
          refine j_aload_n (pc := 56) C d_M_passes_56 rfl 0 rfl ?_
          refine j_iload_n (pc := 57) C d_M_passes_57 rfl 1 rfl ?_
          refine j_iload_n (pc := 58) C d_M_passes_58 rfl 2 rfl ?_
          refine j_callVi0 (pc := 59) (st := []) (As := [.int y1, .int y2]) (wf := wM cI cL ad) C (c_M_last (jk_l κ) (jk_G κ) cI cL ad μ17 y1 y2 _ hw) g_M_124 hdV_M_last ⟨(Nat.le_of_ble_eq_true rfl), (Nat.le_of_ble_eq_true rfl)⟩ rfl (q0 := 0) rfl rfl rfl rfl (Nat.le_of_ble_eq_true rfl) d_M_passes_59 ⟨(Nat.le_of_ble_eq_true rfl), (Nat.le_of_ble_eq_true rfl)⟩ (fun r21 μ20 hw => ?_)
          refine j_iconst (v := 1) (pc := 62) C d_M_passes_62 (by decide) ?_
          refine j_iadd (pc := 63) C d_M_passes_63 ?_
          exact j_iret (pc := 64) C E hw (Nat.le_of_ble_eq_true rfl) (Nat.le_of_ble_eq_true rfl) d_M_passes_64
        · have hw := hw.2 c19
          refine j_iconst (v := 0) (pc := 54) C d_M_passes_54 (by decide) ?_
          exact j_iret (pc := 55) C E hw (Nat.le_of_ble_eq_true rfl) (Nat.le_of_ble_eq_true rfl) d_M_passes_55
      · have hw := hw.2 c16
        refine j_iconst (v := 1) (pc := 42) C d_M_passes_42 (by decide) ?_
        refine j_goto (pc := 43) (tgt := 47) C d_M_passes_43 (by decide) ?_
        refine j_iconst (v := 2) (pc := 47) C d_M_passes_47 (by decide) ?_
        refine j_callVi0 (pc := 48) (st := []) (As := [.int 1, .int 2]) (wf := wM cI cL ad) C (c_M_fails (jk_l κ) (jk_G κ) cI cL ad μ14 1 2 _ hw) g_M_65 hdV_M_fails ⟨(Nat.le_of_ble_eq_true rfl), (Nat.le_of_ble_eq_true rfl)⟩ rfl (q0 := 0) rfl rfl rfl rfl (Nat.le_of_ble_eq_true rfl) d_M_passes_48 ⟨(Nat.le_of_ble_eq_true rfl), (Nat.le_of_ble_eq_true rfl)⟩ (fun r23 μ22 hw => ?_)
        refine j_if_eq (pc := 51) (tgt := 56) C d_M_passes_51 (by decide) (fun c24 => ?_) (fun c24 => ?_)
        · have hw := hw.1 c24
          refine j_aload_n (pc := 56) C d_M_passes_56 rfl 0 rfl ?_
          refine j_iload_n (pc := 57) C d_M_passes_57 rfl 1 rfl ?_
          refine j_iload_n (pc := 58) C d_M_passes_58 rfl 2 rfl ?_
          refine j_callVi0 (pc := 59) (st := []) (As := [.int y1, .int y2]) (wf := wM cI cL ad) C (c_M_last (jk_l κ) (jk_G κ) cI cL ad μ22 y1 y2 _ hw) g_M_124 hdV_M_last ⟨(Nat.le_of_ble_eq_true rfl), (Nat.le_of_ble_eq_true rfl)⟩ rfl (q0 := 0) rfl rfl rfl rfl (Nat.le_of_ble_eq_true rfl) d_M_passes_59 ⟨(Nat.le_of_ble_eq_true rfl), (Nat.le_of_ble_eq_true rfl)⟩ (fun r26 μ25 hw => ?_)
          refine j_iconst (v := 1) (pc := 62) C d_M_passes_62 (by decide) ?_
          refine j_iadd (pc := 63) C d_M_passes_63 ?_
          exact j_iret (pc := 64) C E hw (Nat.le_of_ble_eq_true rfl) (Nat.le_of_ble_eq_true rfl) d_M_passes_64
        · have hw := hw.2 c24
          refine j_iconst (v := 0) (pc := 54) C d_M_passes_54 (by decide) ?_
          exact j_iret (pc := 55) C E hw (Nat.le_of_ble_eq_true rfl) (Nat.le_of_ble_eq_true rfl) d_M_passes_55
set_option maxHeartbeats 4000000 in
set_option maxRecDepth 100000 in
theorem c_M_passes (l : Launch) (G : va_G) (cI cL : ClassId) (ad : Nat → Nat) (μ : SM) (p1 : Int32) (p2 : Int32) (Q : Int32 → SM → Prop) (hw : wp_M_passes μ p1 p2 Q) : jm_i l G [(cI, .int), (cL, .long)] y_M_passes b_M_passes 3 .int rm_M_passes [.ref (ad 0), .int p1, .int p2] (wM cI cL ad μ) (wM cI cL ad) Q := by
  refine jm_open_i (by decide +kernel) (Nat.le_of_ble_eq_true rfl) ?_
  intro κ hl hG C E hi
  subst hl; subst hG
  unfold wp_M_passes at hw
  refine j_aload_n (pc := 0) C d_M_passes_0 rfl 0 rfl ?_
  refine j_iconst (v := 0) (pc := 1) C d_M_passes_1 (by decide) ?_
  obtain ⟨μ1, e_μ1⟩ : ∃ z : SM, z = uM_thr μ 0 := ⟨_, rfl⟩
  have hw := hw μ1 e_μ1
  refine j_put (pc := 2) (ws' := wM cI cL ad μ1) C i_M t_M t_M_ok n_M 0 rfl rfl 0 (Nat.le_of_ble_eq_true rfl) k_110 rfl (ty := .int) (by decide +kernel) rfl rfl (Nat.le_of_ble_eq_true rfl) (by rw [e_μ1]; rfl) d_M_passes_2 ?_
  refine j_aload_n (pc := 5) C d_M_passes_5 rfl 0 rfl ?_
  refine j_aload_n (pc := 6) C d_M_passes_6 rfl 0 rfl ?_
  refine j_get (pc := 7) C i_M 0 rfl rfl 15 (Nat.le_of_ble_eq_true rfl) k_120 rfl d_M_passes_7 ?_
  refine j_if_ne (pc := 10) (tgt := 17) C d_M_passes_10 (by decide) (fun c2 => ?_) (fun c2 => ?_)
  · have hw := hw.1 c2
    refine j_iconst (v := 0) (pc := 17) C d_M_passes_17 (by decide) ?_
    refine j_locs [0, 1, 2] rfl ?_
    exact jn_M_passes_18 C E p1 p2 0 μ1 hw
  · have hw := hw.2 c2
    refine j_iconst (v := 1) (pc := 13) C d_M_passes_13 (by decide) ?_
    refine j_goto (pc := 14) (tgt := 18) C d_M_passes_14 (by decide) ?_
    refine j_locs [0, 1, 2] rfl ?_
    exact jn_M_passes_18 C E p1 p2 1 μ1 hw
