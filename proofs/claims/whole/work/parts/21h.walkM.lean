set_option maxHeartbeats 4000000 in
set_option maxRecDepth 100000 in
theorem lp_M_bytes_79 {κ : jk_K} {cI cL : ClassId} {ad : Nat → Nat} {Q : Int32 → SM → Prop} (C : jk_C κ b_M_bytes R_M rm_M_bytes 4 [(cI, .int), (cL, .long)]) (E : jk_E κ (some .int) (va_Qi Q (jk_B (jk_G κ) [(cI, .int), (cL, .long)] (jk_A κ) (wM cI cL ad)) (jk_A κ)) rm_M_bytes.cells rm_M_bytes.slots) (y1 : Int32) : ∀ (n : Nat) (y2 : Int32) (y3 : Int32) (μ : SM), wl_M_bytes_79 y1 Q n y2 y3 μ → jk_J κ (wM cI cL ad μ) 79 [(0, .ref (ad 0)), (1, .int y1), (2, .int y2), (3, .int y3)] [] 0 0 := by
  intro n
  induction n with
  | zero => intro y2 y3 μ hw; exact hw.elim
  | succ n ih =>
    intro y2 y3 μ hw
    rw [wl_M_bytes_79] at hw
    refine j_iload_n (pc := 79) C d_M_bytes_79 rfl 3 rfl ?_
    refine j_aload_n (pc := 80) C d_M_bytes_80 rfl 0 rfl ?_
    refine j_get (pc := 81) C i_M 0 rfl rfl 16 (Nat.le_of_ble_eq_true rfl) k_173 rfl d_M_bytes_81 ?_
    refine j_iload_n (pc := 84) C d_M_bytes_84 rfl 1 rfl ?_
    refine j_iconst (v := 1) (pc := 85) C d_M_bytes_85 (by decide) ?_
    refine j_iadd (pc := 86) C d_M_bytes_86 ?_
    obtain ⟨hi19, hw⟩ := hw
    refine j_iald (pc := 87) C 11 0 rfl rfl hi19 d_M_bytes_87 ?_
    refine j_icmp_ge (pc := 88) (tgt := 111) C d_M_bytes_88 (by decide) (fun c20 => ?_) (fun c20 => ?_)
    · have hw := hw.1 c20
      refine j_iload_n (pc := 111) C d_M_bytes_111 rfl 2 rfl ?_
      exact j_iret (pc := 112) C E hw (Nat.le_of_ble_eq_true rfl) (Nat.le_of_ble_eq_true rfl) d_M_bytes_112
    · have hw := hw.2 c20
      refine j_iload_n (pc := 91) C d_M_bytes_91 rfl 2 rfl ?_
      refine j_aload_n (pc := 92) C d_M_bytes_92 rfl 0 rfl ?_
      refine j_get (pc := 93) C i_M 0 rfl rfl 11 (Nat.le_of_ble_eq_true rfl) k_158 rfl d_M_bytes_93 ?_
      refine j_aload_n (pc := 96) C d_M_bytes_96 rfl 0 rfl ?_
      refine j_get (pc := 97) C i_M 0 rfl rfl 14 (Nat.le_of_ble_eq_true rfl) k_164 rfl d_M_bytes_97 ?_
      refine j_iload_n (pc := 100) C d_M_bytes_100 rfl 3 rfl ?_
      obtain ⟨hi21, hw⟩ := hw
      refine j_iald (pc := 101) C 10 0 rfl rfl hi21 d_M_bytes_101 ?_
      obtain ⟨hi22, hw⟩ := hw
      refine j_iald (pc := 102) C 8 0 rfl rfl hi22 d_M_bytes_102 ?_
      refine j_iadd (pc := 103) C d_M_bytes_103 ?_
      refine j_nmi (fun x23 e_x23 => ?_)
      have hw := hw x23 e_x23
      refine j_istore_n (pc := 104) (lv' := [(2, .int x23), (0, .ref (ad 0)), (1, .int y1), (3, .int y3)]) C d_M_bytes_104 rfl (Nat.le_of_ble_eq_true rfl) rfl ?_
      refine j_iinc (pc := 105) (lv' := [(3, .int (y3 + 1)), (2, .int x23), (0, .ref (ad 0)), (1, .int y1)]) C d_M_bytes_105 (k := 3) rfl rfl (Nat.le_of_ble_eq_true rfl) rfl ?_
      refine j_goto (pc := 108) (tgt := 79) C d_M_bytes_108 (by decide) ?_
      refine j_locs [2, 3, 1, 0] rfl ?_
      exact ih x23 (y3 + 1) μ hw
set_option maxHeartbeats 4000000 in
set_option maxRecDepth 100000 in
theorem jn_M_bytes_39 {κ : jk_K} {cI cL : ClassId} {ad : Nat → Nat} {Q : Int32 → SM → Prop} (C : jk_C κ b_M_bytes R_M rm_M_bytes 4 [(cI, .int), (cL, .long)]) (E : jk_E κ (some .int) (va_Qi Q (jk_B (jk_G κ) [(cI, .int), (cL, .long)] (jk_A κ) (wM cI cL ad)) (jk_A κ)) rm_M_bytes.cells rm_M_bytes.slots) (y1 : Int32) (s0 : Int32) (μ : SM) (hw : wj_M_bytes_39 Q y1 s0 μ) : jk_J κ (wM cI cL ad μ) 39 [(0, .ref (ad 0)), (1, .int y1)] [.int s0, .ref (ad 0)] 0 0 := by
  unfold wj_M_bytes_39 at hw
  refine j_iconst (v := 2) (pc := 39) C d_M_bytes_39 (by decide) ?_
  refine j_callVi0 (pc := 40) (st := []) (As := [.int s0, .int 2]) (wf := wM cI cL ad) C (c_M_fails (jk_l κ) (jk_G κ) cI cL ad μ s0 2 _ hw) g_M_65 hdV_M_fails ⟨(Nat.le_of_ble_eq_true rfl), (Nat.le_of_ble_eq_true rfl)⟩ rfl (q0 := 0) rfl rfl rfl rfl (Nat.le_of_ble_eq_true rfl) d_M_bytes_40 ⟨(Nat.le_of_ble_eq_true rfl), (Nat.le_of_ble_eq_true rfl)⟩ (fun r10 μ9 hw => ?_)
  refine j_if_eq (pc := 43) (tgt := 48) C d_M_bytes_43 (by decide) (fun c11 => ?_) (fun c11 => ?_)
  · have hw := hw.1 c11
    refine j_aload_n (pc := 48) C d_M_bytes_48 rfl 0 rfl ?_
    refine j_get (pc := 49) C i_M 0 rfl rfl 9 (Nat.le_of_ble_eq_true rfl) k_147 rfl d_M_bytes_49 ?_
    refine j_iload_n (pc := 52) C d_M_bytes_52 rfl 1 rfl ?_
    obtain ⟨hi12, hw⟩ := hw
    refine j_iald (pc := 53) C 7 0 rfl rfl hi12 d_M_bytes_53 ?_
    refine j_aload_n (pc := 54) C d_M_bytes_54 rfl 0 rfl ?_
    refine j_get (pc := 55) C i_M 0 rfl rfl 8 (Nat.le_of_ble_eq_true rfl) k_146 rfl d_M_bytes_55 ?_
    refine j_iload_n (pc := 58) C d_M_bytes_58 rfl 1 rfl ?_
    obtain ⟨hi13, hw⟩ := hw
    refine j_iald (pc := 59) C 6 0 rfl rfl hi13 d_M_bytes_59 ?_
    refine j_icmp_le (pc := 60) (tgt := 65) C d_M_bytes_60 (by decide) (fun c14 => ?_) (fun c14 => ?_)
    · have hw := hw.1 c14
      refine j_aload_n (pc := 65) C d_M_bytes_65 rfl 0 rfl ?_
      refine j_get (pc := 66) C i_M 0 rfl rfl 9 (Nat.le_of_ble_eq_true rfl) k_147 rfl d_M_bytes_66 ?_
      refine j_iload_n (pc := 69) C d_M_bytes_69 rfl 1 rfl ?_
      obtain ⟨hi15, hw⟩ := hw
      refine j_iald (pc := 70) C 7 0 rfl rfl hi15 d_M_bytes_70 ?_
      refine j_nmi (fun x16 e_x16 => ?_)
      have hw := hw x16 e_x16
      refine j_istore_n (pc := 71) (lv' := [(2, .int x16), (0, .ref (ad 0)), (1, .int y1)]) C d_M_bytes_71 rfl (Nat.le_of_ble_eq_true rfl) rfl ?_
      refine j_aload_n (pc := 72) C d_M_bytes_72 rfl 1 rfl ?_
      refine j_get (pc := 73) C i_M 0 rfl rfl 16 (Nat.le_of_ble_eq_true rfl) k_173 rfl d_M_bytes_73 ?_
      refine j_iload_n (pc := 76) C d_M_bytes_76 rfl 2 rfl ?_
      obtain ⟨hi17, hw⟩ := hw
      refine j_iald (pc := 77) C 11 0 rfl rfl hi17 d_M_bytes_77 ?_
      refine j_nmi (fun x18 e_x18 => ?_)
      have hw := hw x18 e_x18
      refine j_istore_n (pc := 78) (lv' := [(3, .int x18), (2, .int x16), (0, .ref (ad 0)), (1, .int y1)]) C d_M_bytes_78 rfl (Nat.le_of_ble_eq_true rfl) rfl ?_
      obtain ⟨n24, hw⟩ := hw
      refine j_locs [2, 3, 1, 0] rfl ?_
      exact lp_M_bytes_79 C E y1 n24 x16 x18 μ9 hw
    · have hw := hw.2 c14
      refine j_iconst (v := 0) (pc := 63) C d_M_bytes_63 (by decide) ?_
      exact j_iret (pc := 64) C E hw (Nat.le_of_ble_eq_true rfl) (Nat.le_of_ble_eq_true rfl) d_M_bytes_64
  · have hw := hw.2 c11
    refine j_iconst (v := 0) (pc := 46) C d_M_bytes_46 (by decide) ?_
    exact j_iret (pc := 47) C E hw (Nat.le_of_ble_eq_true rfl) (Nat.le_of_ble_eq_true rfl) d_M_bytes_47
set_option maxHeartbeats 4000000 in
set_option maxRecDepth 100000 in
theorem jn_M_bytes_18 {κ : jk_K} {cI cL : ClassId} {ad : Nat → Nat} {Q : Int32 → SM → Prop} (C : jk_C κ b_M_bytes R_M rm_M_bytes 4 [(cI, .int), (cL, .long)]) (E : jk_E κ (some .int) (va_Qi Q (jk_B (jk_G κ) [(cI, .int), (cL, .long)] (jk_A κ) (wM cI cL ad)) (jk_A κ)) rm_M_bytes.cells rm_M_bytes.slots) (y1 : Int32) (s0 : Int32) (μ : SM) (hw : wj_M_bytes_18 Q y1 s0 μ) : jk_J κ (wM cI cL ad μ) 18 [(0, .ref (ad 0)), (1, .int y1)] [.int s0, .ref (ad 0)] 0 0 := by
  unfold wj_M_bytes_18 at hw
  refine j_iconst (v := 1) (pc := 18) C d_M_bytes_18 (by decide) ?_
  refine j_callVi0 (pc := 19) (st := []) (As := [.int s0, .int 1]) (wf := wM cI cL ad) C (c_M_fails (jk_l κ) (jk_G κ) cI cL ad μ s0 1 _ hw) g_M_65 hdV_M_fails ⟨(Nat.le_of_ble_eq_true rfl), (Nat.le_of_ble_eq_true rfl)⟩ rfl (q0 := 0) rfl rfl rfl rfl (Nat.le_of_ble_eq_true rfl) d_M_bytes_19 ⟨(Nat.le_of_ble_eq_true rfl), (Nat.le_of_ble_eq_true rfl)⟩ (fun r4 μ3 hw => ?_)
  refine j_if_ne (pc := 22) (tgt := 46) C d_M_bytes_22 (by decide) (fun c5 => ?_) (fun c5 => ?_)
  · have hw := hw.1 c5
    refine j_iconst (v := 0) (pc := 46) C d_M_bytes_46 (by decide) ?_
    exact j_iret (pc := 47) C E hw (Nat.le_of_ble_eq_true rfl) (Nat.le_of_ble_eq_true rfl) d_M_bytes_47
  · have hw := hw.2 c5
    refine j_aload_n (pc := 25) C d_M_bytes_25 rfl 0 rfl ?_
    refine j_aload_n (pc := 26) C d_M_bytes_26 rfl 0 rfl ?_
    refine j_iload_n (pc := 27) C d_M_bytes_27 rfl 1 rfl ?_
    refine j_callVi0 (pc := 28) (st := [.ref (ad 0)]) (As := [.int y1]) (wf := wM cI cL ad) C (c_M_isLayer (jk_l κ) (jk_G κ) cI cL ad μ3 y1 _ hw) g_M_86 hdV_M_isLayer ⟨(Nat.le_of_ble_eq_true rfl), (Nat.le_of_ble_eq_true rfl)⟩ rfl (q0 := 0) rfl rfl rfl rfl (Nat.le_of_ble_eq_true rfl) d_M_bytes_28 ⟨(Nat.le_of_ble_eq_true rfl), (Nat.le_of_ble_eq_true rfl)⟩ (fun r7 μ6 hw => ?_)
    refine j_if_ne (pc := 31) (tgt := 38) C d_M_bytes_31 (by decide) (fun c8 => ?_) (fun c8 => ?_)
    · have hw := hw.1 c8
      refine j_iconst (v := 0) (pc := 38) C d_M_bytes_38 (by decide) ?_
      refine j_locs [0, 1] rfl ?_
      exact jn_M_bytes_39 C E y1 0 μ6 hw
    · have hw := hw.2 c8
      refine j_iconst (v := 1) (pc := 34) C d_M_bytes_34 (by decide) ?_
      refine j_goto (pc := 35) (tgt := 39) C d_M_bytes_35 (by decide) ?_
      refine j_locs [0, 1] rfl ?_
      exact jn_M_bytes_39 C E y1 1 μ6 hw
set_option maxHeartbeats 4000000 in
set_option maxRecDepth 100000 in
theorem c_M_bytes (l : Launch) (G : va_G) (cI cL : ClassId) (ad : Nat → Nat) (μ : SM) (p1 : Int32) (Q : Int32 → SM → Prop) (hw : wp_M_bytes μ p1 Q) : jm_i l G [(cI, .int), (cL, .long)] y_M_bytes b_M_bytes 4 .int rm_M_bytes [.ref (ad 0), .int p1] (wM cI cL ad μ) (wM cI cL ad) Q := by
  refine jm_open_i (by decide +kernel) (Nat.le_of_ble_eq_true rfl) ?_
  intro κ hl hG C E hi
  subst hl; subst hG
  unfold wp_M_bytes at hw
  refine j_aload_n (pc := 0) C d_M_bytes_0 rfl 0 rfl ?_
  refine j_iconst (v := 0) (pc := 1) C d_M_bytes_1 (by decide) ?_
  obtain ⟨μ1, e_μ1⟩ : ∃ z : SM, z = uM_thr μ 0 := ⟨_, rfl⟩
  have hw := hw μ1 e_μ1
  refine j_put (pc := 2) (ws' := wM cI cL ad μ1) C i_M t_M t_M_ok n_M 0 rfl rfl 0 (Nat.le_of_ble_eq_true rfl) k_110 rfl (ty := .int) (by decide +kernel) rfl rfl (Nat.le_of_ble_eq_true rfl) (by rw [e_μ1]; rfl) d_M_bytes_2 ?_
  refine j_aload_n (pc := 5) C d_M_bytes_5 rfl 0 rfl ?_
  refine j_aload_n (pc := 6) C d_M_bytes_6 rfl 0 rfl ?_
  refine j_get (pc := 7) C i_M 0 rfl rfl 15 (Nat.le_of_ble_eq_true rfl) k_120 rfl d_M_bytes_7 ?_
  refine j_if_ne (pc := 10) (tgt := 17) C d_M_bytes_10 (by decide) (fun c2 => ?_) (fun c2 => ?_)
  · have hw := hw.1 c2
    refine j_iconst (v := 0) (pc := 17) C d_M_bytes_17 (by decide) ?_
    refine j_locs [0, 1] rfl ?_
    exact jn_M_bytes_18 C E p1 0 μ1 hw
  · have hw := hw.2 c2
    refine j_iconst (v := 1) (pc := 13) C d_M_bytes_13 (by decide) ?_
    refine j_goto (pc := 14) (tgt := 18) C d_M_bytes_14 (by decide) ?_
    refine j_locs [0, 1] rfl ?_
    exact jn_M_bytes_18 C E p1 1 μ1 hw
set_option maxHeartbeats 4000000 in
set_option maxRecDepth 100000 in
theorem lp_M_gained_53 {κ : jk_K} {cI cL : ClassId} {ad : Nat → Nat} {Q : Int64 → SM → Prop} (C : jk_C κ b_M_gained R_M rm_M_gained 5 [(cI, .int), (cL, .long)]) (E : jk_E κ (some .long) (va_Ql Q (jk_B (jk_G κ) [(cI, .int), (cL, .long)] (jk_A κ) (wM cI cL ad)) (jk_A κ)) rm_M_gained.cells rm_M_gained.slots) (y1 : Int32) : ∀ (n : Nat) (y2 : Int64) (y4 : Int32) (μ : SM), wl_M_gained_53 y1 Q n y2 y4 μ → jk_J κ (wM cI cL ad μ) 53 [(0, .ref (ad 0)), (1, .int y1), (2, .long y2), (4, .int y4)] [] 0 0 := by
  intro n
  induction n with
  | zero => intro y2 y4 μ hw; exact hw.elim
  | succ n ih =>
    intro y2 y4 μ hw
    rw [wl_M_gained_53] at hw
    refine j_iload (pc := 53) C d_M_gained_53 3 rfl ?_
    refine j_aload_n (pc := 55) C d_M_gained_55 rfl 0 rfl ?_
    refine j_get (pc := 56) C i_M 0 rfl rfl 2 (Nat.le_of_ble_eq_true rfl) k_111 rfl d_M_gained_56 ?_
    refine j_icmp_ge (pc := 59) (tgt := 84) C d_M_gained_59 (by decide) (fun c12 => ?_) (fun c12 => ?_)
    · have hw := hw.1 c12
      refine j_lload_n (pc := 84) C d_M_gained_84 rfl 2 rfl ?_
      exact j_lret (pc := 85) C E hw (Nat.le_of_ble_eq_true rfl) (Nat.le_of_ble_eq_true rfl) d_M_gained_85
    · have hw := hw.2 c12
      refine j_lload_n (pc := 62) C d_M_gained_62 rfl 2 rfl ?_
      refine j_aload_n (pc := 63) C d_M_gained_63 rfl 0 rfl ?_
      refine j_iload (pc := 64) C d_M_gained_64 3 rfl ?_
      refine j_aload_n (pc := 66) C d_M_gained_66 rfl 0 rfl ?_
      refine j_iload_n (pc := 67) C d_M_gained_67 rfl 1 rfl ?_
      refine j_iload (pc := 68) C d_M_gained_68 3 rfl ?_
      refine j_callVi0 (pc := 70) (st := [.int y4, .ref (ad 0), .long y2]) (As := [.int y1, .int y4]) (wf := wM cI cL ad) C (c_M_last (jk_l κ) (jk_G κ) cI cL ad μ y1 y4 _ hw) g_M_124 hdV_M_last ⟨(Nat.le_of_ble_eq_true rfl), (Nat.le_of_ble_eq_true rfl)⟩ rfl (q0 := 0) rfl rfl rfl rfl (Nat.le_of_ble_eq_true rfl) d_M_gained_70 ⟨(Nat.le_of_ble_eq_true rfl), (Nat.le_of_ble_eq_true rfl)⟩ (fun r14 μ13 hw => ?_)
      refine j_callVl0 (pc := 73) (st := [.long y2]) (As := [.int y4, .int r14]) (wf := wM cI cL ad) C (c_M_g (jk_l κ) (jk_G κ) cI cL ad μ13 y4 r14 _ hw) g_M_93 hdV_M_g ⟨(Nat.le_of_ble_eq_true rfl), (Nat.le_of_ble_eq_true rfl)⟩ rfl (q0 := 0) rfl rfl rfl rfl (Nat.le_of_ble_eq_true rfl) d_M_gained_73 ⟨(Nat.le_of_ble_eq_true rfl), (Nat.le_of_ble_eq_true rfl)⟩ (fun r16 μ15 hw => ?_)
      refine j_ladd (pc := 76) C d_M_gained_76 ?_
      refine j_nml (fun x17 e_x17 => ?_)
      have hw := hw x17 e_x17
      refine j_lstore_n (pc := 77) (lv' := [(2, .long x17), (0, .ref (ad 0)), (1, .int y1), (4, .int y4)]) C d_M_gained_77 rfl (Nat.le_of_ble_eq_true rfl) rfl ?_
      refine j_iinc (pc := 78) (lv' := [(4, .int (y4 + 1)), (2, .long x17), (0, .ref (ad 0)), (1, .int y1)]) C d_M_gained_78 (k := 3) rfl rfl (Nat.le_of_ble_eq_true rfl) rfl ?_
      refine j_goto (pc := 81) (tgt := 53) C d_M_gained_81 (by decide) ?_
      refine j_locs [2, 3, 1, 0] rfl ?_
      exact ih x17 (y4 + 1) μ15 hw
set_option maxHeartbeats 4000000 in
set_option maxRecDepth 100000 in
theorem jn_M_gained_18 {κ : jk_K} {cI cL : ClassId} {ad : Nat → Nat} {Q : Int64 → SM → Prop} (C : jk_C κ b_M_gained R_M rm_M_gained 5 [(cI, .int), (cL, .long)]) (E : jk_E κ (some .long) (va_Ql Q (jk_B (jk_G κ) [(cI, .int), (cL, .long)] (jk_A κ) (wM cI cL ad)) (jk_A κ)) rm_M_gained.cells rm_M_gained.slots) (y1 : Int32) (s0 : Int32) (μ : SM) (hw : wj_M_gained_18 Q y1 s0 μ) : jk_J κ (wM cI cL ad μ) 18 [(0, .ref (ad 0)), (1, .int y1)] [.int s0, .ref (ad 0)] 0 0 := by
  unfold wj_M_gained_18 at hw
  refine j_iconst (v := 1) (pc := 18) C d_M_gained_18 (by decide) ?_
  refine j_callVi0 (pc := 19) (st := []) (As := [.int s0, .int 1]) (wf := wM cI cL ad) C (c_M_fails (jk_l κ) (jk_G κ) cI cL ad μ s0 1 _ hw) g_M_65 hdV_M_fails ⟨(Nat.le_of_ble_eq_true rfl), (Nat.le_of_ble_eq_true rfl)⟩ rfl (q0 := 0) rfl rfl rfl rfl (Nat.le_of_ble_eq_true rfl) d_M_gained_19 ⟨(Nat.le_of_ble_eq_true rfl), (Nat.le_of_ble_eq_true rfl)⟩ (fun r4 μ3 hw => ?_)
  refine j_if_ne (pc := 22) (tgt := 46) C d_M_gained_22 (by decide) (fun c5 => ?_) (fun c5 => ?_)
  · have hw := hw.1 c5
    refine j_lconst (v := 0) (pc := 46) C d_M_gained_46 (by decide) ?_
    exact j_lret (pc := 47) C E hw (Nat.le_of_ble_eq_true rfl) (Nat.le_of_ble_eq_true rfl) d_M_gained_47
  · have hw := hw.2 c5
    refine j_aload_n (pc := 25) C d_M_gained_25 rfl 0 rfl ?_
    refine j_aload_n (pc := 26) C d_M_gained_26 rfl 0 rfl ?_
    refine j_iload_n (pc := 27) C d_M_gained_27 rfl 1 rfl ?_
    refine j_callVi0 (pc := 28) (st := [.ref (ad 0)]) (As := [.int y1]) (wf := wM cI cL ad) C (c_M_isLayer (jk_l κ) (jk_G κ) cI cL ad μ3 y1 _ hw) g_M_86 hdV_M_isLayer ⟨(Nat.le_of_ble_eq_true rfl), (Nat.le_of_ble_eq_true rfl)⟩ rfl (q0 := 0) rfl rfl rfl rfl (Nat.le_of_ble_eq_true rfl) d_M_gained_28 ⟨(Nat.le_of_ble_eq_true rfl), (Nat.le_of_ble_eq_true rfl)⟩ (fun r7 μ6 hw => ?_)
    refine j_if_ne (pc := 31) (tgt := 38) C d_M_gained_31 (by decide) (fun c8 => ?_) (fun c8 => ?_)
    · have hw := hw.1 c8
      refine j_iconst (v := 0) (pc := 38) C d_M_gained_38 (by decide) ?_
      refine j_iconst (v := 2) (pc := 39) C d_M_gained_39 (by decide) ?_
      refine j_callVi0 (pc := 40) (st := []) (As := [.int 0, .int 2]) (wf := wM cI cL ad) C (c_M_fails (jk_l κ) (jk_G κ) cI cL ad μ6 0 2 _ hw) g_M_65 hdV_M_fails ⟨(Nat.le_of_ble_eq_true rfl), (Nat.le_of_ble_eq_true rfl)⟩ rfl (q0 := 0) rfl rfl rfl rfl (Nat.le_of_ble_eq_true rfl) d_M_gained_40 ⟨(Nat.le_of_ble_eq_true rfl), (Nat.le_of_ble_eq_true rfl)⟩ (fun r10 μ9 hw => ?_)
      refine j_if_eq (pc := 43) (tgt := 48) C d_M_gained_43 (by decide) (fun c11 => ?_) (fun c11 => ?_)
      · have hw := hw.1 c11
        refine j_lconst (v := 0) (pc := 48) C d_M_gained_48 (by decide) ?_
        refine j_lstore_n (pc := 49) (lv' := [(2, .long 0), (0, .ref (ad 0)), (1, .int y1)]) C d_M_gained_49 rfl (Nat.le_of_ble_eq_true rfl) rfl ?_
        refine j_iconst (v := 0) (pc := 50) C d_M_gained_50 (by decide) ?_
        refine j_istore (pc := 51) (lv' := [(4, .int 0), (2, .long 0), (0, .ref (ad 0)), (1, .int y1)]) C d_M_gained_51 (Nat.le_of_ble_eq_true rfl) rfl ?_
        obtain ⟨n18, hw⟩ := hw
        refine j_locs [2, 3, 1, 0] rfl ?_
        exact lp_M_gained_53 C E y1 n18 0 0 μ9 hw
      · have hw := hw.2 c11
        refine j_lconst (v := 0) (pc := 46) C d_M_gained_46 (by decide) ?_
        exact j_lret (pc := 47) C E hw (Nat.le_of_ble_eq_true rfl) (Nat.le_of_ble_eq_true rfl) d_M_gained_47
    · have hw := hw.2 c8
      refine j_iconst (v := 1) (pc := 34) C d_M_gained_34 (by decide) ?_
      refine j_goto (pc := 35) (tgt := 39) C d_M_gained_35 (by decide) ?_
      refine j_iconst (v := 2) (pc := 39) C d_M_gained_39 (by decide) ?_
      refine j_callVi0 (pc := 40) (st := []) (As := [.int 1, .int 2]) (wf := wM cI cL ad) C (c_M_fails (jk_l κ) (jk_G κ) cI cL ad μ6 1 2 _ hw) g_M_65 hdV_M_fails ⟨(Nat.le_of_ble_eq_true rfl), (Nat.le_of_ble_eq_true rfl)⟩ rfl (q0 := 0) rfl rfl rfl rfl (Nat.le_of_ble_eq_true rfl) d_M_gained_40 ⟨(Nat.le_of_ble_eq_true rfl), (Nat.le_of_ble_eq_true rfl)⟩ (fun r20 μ19 hw => ?_)
      refine j_if_eq (pc := 43) (tgt := 48) C d_M_gained_43 (by decide) (fun c21 => ?_) (fun c21 => ?_)
      · have hw := hw.1 c21
        refine j_lconst (v := 0) (pc := 48) C d_M_gained_48 (by decide) ?_
        refine j_lstore_n (pc := 49) (lv' := [(2, .long 0), (0, .ref (ad 0)), (1, .int y1)]) C d_M_gained_49 rfl (Nat.le_of_ble_eq_true rfl) rfl ?_
        refine j_iconst (v := 0) (pc := 50) C d_M_gained_50 (by decide) ?_
        refine j_istore (pc := 51) (lv' := [(4, .int 0), (2, .long 0), (0, .ref (ad 0)), (1, .int y1)]) C d_M_gained_51 (Nat.le_of_ble_eq_true rfl) rfl ?_
        obtain ⟨n22, hw⟩ := hw
        refine j_locs [2, 3, 1, 0] rfl ?_
        exact lp_M_gained_53 C E y1 n22 0 0 μ19 hw
      · have hw := hw.2 c21
        refine j_lconst (v := 0) (pc := 46) C d_M_gained_46 (by decide) ?_
        exact j_lret (pc := 47) C E hw (Nat.le_of_ble_eq_true rfl) (Nat.le_of_ble_eq_true rfl) d_M_gained_47
set_option maxHeartbeats 4000000 in
set_option maxRecDepth 100000 in
theorem c_M_gained (l : Launch) (G : va_G) (cI cL : ClassId) (ad : Nat → Nat) (μ : SM) (p1 : Int32) (Q : Int64 → SM → Prop) (hw : wp_M_gained μ p1 Q) : jm_l l G [(cI, .int), (cL, .long)] y_M_gained b_M_gained 5 rm_M_gained [.ref (ad 0), .int p1] (wM cI cL ad μ) (wM cI cL ad) Q := by
  refine jm_open_l (by decide +kernel) (Nat.le_of_ble_eq_true rfl) ?_
  intro κ hl hG C E hi
  subst hl; subst hG
  unfold wp_M_gained at hw
  refine j_aload_n (pc := 0) C d_M_gained_0 rfl 0 rfl ?_
  refine j_iconst (v := 0) (pc := 1) C d_M_gained_1 (by decide) ?_
  obtain ⟨μ1, e_μ1⟩ : ∃ z : SM, z = uM_thr μ 0 := ⟨_, rfl⟩
  have hw := hw μ1 e_μ1
  refine j_put (pc := 2) (ws' := wM cI cL ad μ1) C i_M t_M t_M_ok n_M 0 rfl rfl 0 (Nat.le_of_ble_eq_true rfl) k_110 rfl (ty := .int) (by decide +kernel) rfl rfl (Nat.le_of_ble_eq_true rfl) (by rw [e_μ1]; rfl) d_M_gained_2 ?_
  refine j_aload_n (pc := 5) C d_M_gained_5 rfl 0 rfl ?_
  refine j_aload_n (pc := 6) C d_M_gained_6 rfl 0 rfl ?_
  refine j_get (pc := 7) C i_M 0 rfl rfl 15 (Nat.le_of_ble_eq_true rfl) k_120 rfl d_M_gained_7 ?_
  refine j_if_ne (pc := 10) (tgt := 17) C d_M_gained_10 (by decide) (fun c2 => ?_) (fun c2 => ?_)
  · have hw := hw.1 c2
    refine j_iconst (v := 0) (pc := 17) C d_M_gained_17 (by decide) ?_
    refine j_locs [0, 1] rfl ?_
    exact jn_M_gained_18 C E p1 0 μ1 hw
  · have hw := hw.2 c2
    refine j_iconst (v := 1) (pc := 13) C d_M_gained_13 (by decide) ?_
    refine j_goto (pc := 14) (tgt := 18) C d_M_gained_14 (by decide) ?_
    refine j_locs [0, 1] rfl ?_
    exact jn_M_gained_18 C E p1 1 μ1 hw
set_option maxHeartbeats 4000000 in
set_option maxRecDepth 100000 in
theorem lp_M_least_40 {κ : jk_K} {cI cL : ClassId} {ad : Nat → Nat} {Q : Int32 → SM → Prop} (C : jk_C κ b_M_least R_M rm_M_least 4 [(cI, .int), (cL, .long)]) (E : jk_E κ (some .int) (va_Qi Q (jk_B (jk_G κ) [(cI, .int), (cL, .long)] (jk_A κ) (wM cI cL ad)) (jk_A κ)) rm_M_least.cells rm_M_least.slots) (y1 : Int32) : ∀ (n : Nat) (y2 : Int32) (y3 : Int32) (μ : SM), wl_M_least_40 y1 Q n y2 y3 μ → jk_J κ (wM cI cL ad μ) 40 [(0, .ref (ad 0)), (1, .int y1), (2, .int y2), (3, .int y3)] [] 0 0 := by
  intro n
  induction n with
  | zero => intro y2 y3 μ hw; exact hw.elim
  | succ n ih =>
    intro y2 y3 μ hw
    rw [wl_M_least_40] at hw
    refine j_iload_n (pc := 40) C d_M_least_40 rfl 3 rfl ?_
    refine j_iload_n (pc := 41) C d_M_least_41 rfl 1 rfl ?_
    refine j_icmp_ge (pc := 42) (tgt := 65) C d_M_least_42 (by decide) (fun c7 => ?_) (fun c7 => ?_)
    · have hw := hw.1 c7
      refine j_iload_n (pc := 65) C d_M_least_65 rfl 2 rfl ?_
      exact j_iret (pc := 66) C E hw (Nat.le_of_ble_eq_true rfl) (Nat.le_of_ble_eq_true rfl) d_M_least_66
    · have hw := hw.2 c7
      refine j_iload_n (pc := 45) C d_M_least_45 rfl 2 rfl ?_
      refine j_aload_n (pc := 46) C d_M_least_46 rfl 0 rfl ?_
      refine j_get (pc := 47) C i_M 0 rfl rfl 11 (Nat.le_of_ble_eq_true rfl) k_158 rfl d_M_least_47 ?_
      refine j_aload_n (pc := 50) C d_M_least_50 rfl 0 rfl ?_
      refine j_get (pc := 51) C i_M 0 rfl rfl 14 (Nat.le_of_ble_eq_true rfl) k_164 rfl d_M_least_51 ?_
      refine j_iload_n (pc := 54) C d_M_least_54 rfl 3 rfl ?_
      obtain ⟨hi8, hw⟩ := hw
      refine j_iald (pc := 55) C 10 0 rfl rfl hi8 d_M_least_55 ?_
      obtain ⟨hi9, hw⟩ := hw
      refine j_iald (pc := 56) C 8 0 rfl rfl hi9 d_M_least_56 ?_
      refine j_iadd (pc := 57) C d_M_least_57 ?_
      refine j_nmi (fun x10 e_x10 => ?_)
      have hw := hw x10 e_x10
      refine j_istore_n (pc := 58) (lv' := [(2, .int x10), (0, .ref (ad 0)), (1, .int y1), (3, .int y3)]) C d_M_least_58 rfl (Nat.le_of_ble_eq_true rfl) rfl ?_
      refine j_iinc (pc := 59) (lv' := [(3, .int (y3 + 1)), (2, .int x10), (0, .ref (ad 0)), (1, .int y1)]) C d_M_least_59 (k := 3) rfl rfl (Nat.le_of_ble_eq_true rfl) rfl ?_
      refine j_goto (pc := 62) (tgt := 40) C d_M_least_62 (by decide) ?_
      refine j_locs [2, 3, 1, 0] rfl ?_
      exact ih x10 (y3 + 1) μ hw
set_option maxHeartbeats 4000000 in
set_option maxRecDepth 100000 in
theorem c_M_least (l : Launch) (G : va_G) (cI cL : ClassId) (ad : Nat → Nat) (μ : SM) (p1 : Int32) (Q : Int32 → SM → Prop) (hw : wp_M_least μ p1 Q) : jm_i l G [(cI, .int), (cL, .long)] y_M_least b_M_least 4 .int rm_M_least [.ref (ad 0), .int p1] (wM cI cL ad μ) (wM cI cL ad) Q := by
  refine jm_open_i (by decide +kernel) (Nat.le_of_ble_eq_true rfl) ?_
  intro κ hl hG C E hi
  subst hl; subst hG
  unfold wp_M_least at hw
  refine j_aload_n (pc := 0) C d_M_least_0 rfl 0 rfl ?_
  refine j_iconst (v := 0) (pc := 1) C d_M_least_1 (by decide) ?_
  obtain ⟨μ1, e_μ1⟩ : ∃ z : SM, z = uM_thr μ 0 := ⟨_, rfl⟩
  have hw := hw μ1 e_μ1
  refine j_put (pc := 2) (ws' := wM cI cL ad μ1) C i_M t_M t_M_ok n_M 0 rfl rfl 0 (Nat.le_of_ble_eq_true rfl) k_110 rfl (ty := .int) (by decide +kernel) rfl rfl (Nat.le_of_ble_eq_true rfl) (by rw [e_μ1]; rfl) d_M_least_2 ?_
  refine j_aload_n (pc := 5) C d_M_least_5 rfl 0 rfl ?_
  refine j_callVv0 (pc := 6) (st := []) (As := []) (wf := wM cI cL ad) C (c_M_layRow (jk_l κ) (jk_G κ) cI cL ad μ1 _ hw) g_M_111 hdV_M_layRow ⟨(Nat.le_of_ble_eq_true rfl), (Nat.le_of_ble_eq_true rfl)⟩ rfl (q0 := 0) rfl rfl rfl rfl (Nat.le_of_ble_eq_true rfl) d_M_least_6 ⟨(Nat.le_of_ble_eq_true rfl), (Nat.le_of_ble_eq_true rfl)⟩ (fun μ2 hw => ?_)
  refine j_aload_n (pc := 9) C d_M_least_9 rfl 0 rfl ?_
  refine j_iload_n (pc := 10) C d_M_least_10 rfl 1 rfl ?_
  refine j_if_lt (pc := 11) (tgt := 22) C d_M_least_11 (by decide) (fun c3 => ?_) (fun c3 => ?_)
  · have hw := hw.1 c3
    refine j_iconst (v := 1) (pc := 22) C d_M_least_22 (by decide) ?_
    refine j_goto (pc := 23) (tgt := 27) C d_M_least_23 (by decide) ?_
    refine j_iconst (v := 1) (pc := 27) C d_M_least_27 (by decide) ?_
    refine j_callVi0 (pc := 28) (st := []) (As := [.int 1, .int 1]) (wf := wM cI cL ad) C (c_M_fails (jk_l κ) (jk_G κ) cI cL ad μ2 1 1 _ hw) g_M_65 hdV_M_fails ⟨(Nat.le_of_ble_eq_true rfl), (Nat.le_of_ble_eq_true rfl)⟩ rfl (q0 := 0) rfl rfl rfl rfl (Nat.le_of_ble_eq_true rfl) d_M_least_28 ⟨(Nat.le_of_ble_eq_true rfl), (Nat.le_of_ble_eq_true rfl)⟩ (fun r5 μ4 hw => ?_)
    refine j_if_eq (pc := 31) (tgt := 36) C d_M_least_31 (by decide) (fun c6 => ?_) (fun c6 => ?_)
    · have hw := hw.1 c6
      refine j_iconst (v := 0) (pc := 36) C d_M_least_36 (by decide) ?_
      refine j_istore_n (pc := 37) (lv' := [(2, .int 0), (0, .ref (ad 0)), (1, .int p1)]) C d_M_least_37 rfl (Nat.le_of_ble_eq_true rfl) rfl ?_
      refine j_iconst (v := 0) (pc := 38) C d_M_least_38 (by decide) ?_
      refine j_istore_n (pc := 39) (lv' := [(3, .int 0), (2, .int 0), (0, .ref (ad 0)), (1, .int p1)]) C d_M_least_39 rfl (Nat.le_of_ble_eq_true rfl) rfl ?_
      obtain ⟨n11, hw⟩ := hw
      refine j_locs [2, 3, 1, 0] rfl ?_
      exact lp_M_least_40 C E p1 n11 0 0 μ4 hw
    · have hw := hw.2 c6
      refine j_iconst (v := 0) (pc := 34) C d_M_least_34 (by decide) ?_
      exact j_iret (pc := 35) C E hw (Nat.le_of_ble_eq_true rfl) (Nat.le_of_ble_eq_true rfl) d_M_least_35
  · have hw := hw.2 c3
    refine j_iload_n (pc := 14) C d_M_least_14 rfl 1 rfl ?_
    refine j_aload_n (pc := 15) C d_M_least_15 rfl 0 rfl ?_
    refine j_get (pc := 16) C i_M 0 rfl rfl 13 (Nat.le_of_ble_eq_true rfl) k_159 rfl d_M_least_16 ?_
    refine j_icmp_le (pc := 19) (tgt := 26) C d_M_least_19 (by decide) (fun c12 => ?_) (fun c12 => ?_)
    · have hw := hw.1 c12
      refine j_iconst (v := 0) (pc := 26) C d_M_least_26 (by decide) ?_
      refine j_iconst (v := 1) (pc := 27) C d_M_least_27 (by decide) ?_
      refine j_callVi0 (pc := 28) (st := []) (As := [.int 0, .int 1]) (wf := wM cI cL ad) C (c_M_fails (jk_l κ) (jk_G κ) cI cL ad μ2 0 1 _ hw) g_M_65 hdV_M_fails ⟨(Nat.le_of_ble_eq_true rfl), (Nat.le_of_ble_eq_true rfl)⟩ rfl (q0 := 0) rfl rfl rfl rfl (Nat.le_of_ble_eq_true rfl) d_M_least_28 ⟨(Nat.le_of_ble_eq_true rfl), (Nat.le_of_ble_eq_true rfl)⟩ (fun r14 μ13 hw => ?_)
      refine j_if_eq (pc := 31) (tgt := 36) C d_M_least_31 (by decide) (fun c15 => ?_) (fun c15 => ?_)
      · have hw := hw.1 c15
        refine j_iconst (v := 0) (pc := 36) C d_M_least_36 (by decide) ?_
        refine j_istore_n (pc := 37) (lv' := [(2, .int 0), (0, .ref (ad 0)), (1, .int p1)]) C d_M_least_37 rfl (Nat.le_of_ble_eq_true rfl) rfl ?_
        refine j_iconst (v := 0) (pc := 38) C d_M_least_38 (by decide) ?_
        refine j_istore_n (pc := 39) (lv' := [(3, .int 0), (2, .int 0), (0, .ref (ad 0)), (1, .int p1)]) C d_M_least_39 rfl (Nat.le_of_ble_eq_true rfl) rfl ?_
        obtain ⟨n16, hw⟩ := hw
        refine j_locs [2, 3, 1, 0] rfl ?_
        exact lp_M_least_40 C E p1 n16 0 0 μ13 hw
      · have hw := hw.2 c15
        refine j_iconst (v := 0) (pc := 34) C d_M_least_34 (by decide) ?_
        exact j_iret (pc := 35) C E hw (Nat.le_of_ble_eq_true rfl) (Nat.le_of_ble_eq_true rfl) d_M_least_35
    · have hw := hw.2 c12
      refine j_iconst (v := 1) (pc := 22) C d_M_least_22 (by decide) ?_
      refine j_goto (pc := 23) (tgt := 27) C d_M_least_23 (by decide) ?_
      refine j_iconst (v := 1) (pc := 27) C d_M_least_27 (by decide) ?_
      refine j_callVi0 (pc := 28) (st := []) (As := [.int 1, .int 1]) (wf := wM cI cL ad) C (c_M_fails (jk_l κ) (jk_G κ) cI cL ad μ2 1 1 _ hw) g_M_65 hdV_M_fails ⟨(Nat.le_of_ble_eq_true rfl), (Nat.le_of_ble_eq_true rfl)⟩ rfl (q0 := 0) rfl rfl rfl rfl (Nat.le_of_ble_eq_true rfl) d_M_least_28 ⟨(Nat.le_of_ble_eq_true rfl), (Nat.le_of_ble_eq_true rfl)⟩ (fun r18 μ17 hw => ?_)
      refine j_if_eq (pc := 31) (tgt := 36) C d_M_least_31 (by decide) (fun c19 => ?_) (fun c19 => ?_)
      · have hw := hw.1 c19
        refine j_iconst (v := 0) (pc := 36) C d_M_least_36 (by decide) ?_
        refine j_istore_n (pc := 37) (lv' := [(2, .int 0), (0, .ref (ad 0)), (1, .int p1)]) C d_M_least_37 rfl (Nat.le_of_ble_eq_true rfl) rfl ?_
        refine j_iconst (v := 0) (pc := 38) C d_M_least_38 (by decide) ?_
        refine j_istore_n (pc := 39) (lv' := [(3, .int 0), (2, .int 0), (0, .ref (ad 0)), (1, .int p1)]) C d_M_least_39 rfl (Nat.le_of_ble_eq_true rfl) rfl ?_
        obtain ⟨n20, hw⟩ := hw
        refine j_locs [2, 3, 1, 0] rfl ?_
        exact lp_M_least_40 C E p1 n20 0 0 μ17 hw
      · have hw := hw.2 c19
        refine j_iconst (v := 0) (pc := 34) C d_M_least_34 (by decide) ?_
        exact j_iret (pc := 35) C E hw (Nat.le_of_ble_eq_true rfl) (Nat.le_of_ble_eq_true rfl) d_M_least_35
