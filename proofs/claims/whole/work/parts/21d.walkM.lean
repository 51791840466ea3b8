set_option maxHeartbeats 4000000 in
set_option maxRecDepth 100000 in
theorem lp_M_isHull_65 {κ : jk_K} {cI cL : ClassId} {ad : Nat → Nat} {Q : Int32 → SM → Prop} {k5 : Int32 → Int32 → SM → Prop} (C : jk_C κ b_M_isHull R_M rm_M_isHull 12 [(cI, .int), (cL, .long)]) (E : jk_E κ (some .boolean) (va_Qi Q (jk_B (jk_G κ) [(cI, .int), (cL, .long)] (jk_A κ) (wM cI cL ad)) (jk_A κ)) rm_M_isHull.cells rm_M_isHull.slots) (y1 : Int32) (y2 : Int32) (y4 : Int32) (y5 : Int64) (y7 : Int32) (hk5 : ∀ (y3 : Int32) (y4 : Int32) (μ : SM), k5 y3 y4 μ → jk_J κ (wM cI cL ad μ) 5 [(0, .ref (ad 0)), (1, .int y1), (2, .int y2), (3, .int y3), (4, .int y4)] [] 0 0) : ∀ (n : Nat) (y3 : Int32) (y8 : Int32) (μ : SM), wl_M_isHull_65 y1 y2 y4 y5 y7 Q k5 n y3 y8 μ → jk_J κ (wM cI cL ad μ) 65 [(0, .ref (ad 0)), (1, .int y1), (2, .int y2), (3, .int y3), (4, .int y4), (5, .long y5), (7, .int y7), (8, .int y8)] [] 0 0 := by
  intro n
  induction n with
  | zero => intro y3 y8 μ hw; exact hw.elim
  | succ n ih =>
    intro y3 y8 μ hw
    rw [wl_M_isHull_65] at hw
    refine j_iload (pc := 65) C d_M_isHull_65 7 rfl ?_
    refine j_aload_n (pc := 67) C d_M_isHull_67 rfl 0 rfl ?_
    refine j_get (pc := 68) C i_M 0 rfl rfl 3 (Nat.le_of_ble_eq_true rfl) k_117 rfl d_M_isHull_68 ?_
    refine j_iload_n (pc := 71) C d_M_isHull_71 rfl 1 rfl ?_
    obtain ⟨hi17, hw⟩ := hw
    refine j_iald (pc := 72) C 1 0 rfl rfl hi17 d_M_isHull_72 ?_
    refine j_icmp_ge (pc := 73) (tgt := 140) C d_M_isHull_73 (by decide) (fun c18 => ?_) (fun c18 => ?_)
    · have hw := hw.1 c18
      refine j_iinc (pc := 140) (lv' := [(4, .int (y4 + 1)), (0, .ref (ad 0)), (1, .int y1), (2, .int y2), (3, .int y3), (5, .long y5), (7, .int y7), (8, .int y8)]) C d_M_isHull_140 (k := 4) rfl rfl (Nat.le_of_ble_eq_true rfl) rfl ?_
      refine j_goto (pc := 143) (tgt := 5) C d_M_isHull_143 (by decide) ?_
      refine j_locs [1, 2, 3, 4, 0] rfl ?_
      exact hk5 y3 (y4 + 1) μ hw
    · have hw := hw.2 c18
      refine j_iload_n (pc := 76) C d_M_isHull_76 rfl 3 rfl ?_
      refine j_if_eq (pc := 77) (tgt := 140) C d_M_isHull_77 (by decide) (fun c19 => ?_) (fun c19 => ?_)
      · have hw := hw.1 c19
        refine j_iinc (pc := 140) (lv' := [(4, .int (y4 + 1)), (0, .ref (ad 0)), (1, .int y1), (2, .int y2), (3, .int y3), (5, .long y5), (7, .int y7), (8, .int y8)]) C d_M_isHull_140 (k := 4) rfl rfl (Nat.le_of_ble_eq_true rfl) rfl ?_
        refine j_goto (pc := 143) (tgt := 5) C d_M_isHull_143 (by decide) ?_
        refine j_locs [1, 2, 3, 4, 0] rfl ?_
        exact hk5 y3 (y4 + 1) μ hw
      · have hw := hw.2 c19
        refine j_aload_n (pc := 80) C d_M_isHull_80 rfl 0 rfl ?_
        refine j_iload_n (pc := 81) C d_M_isHull_81 rfl 1 rfl ?_
        refine j_iload (pc := 82) C d_M_isHull_82 7 rfl ?_
        refine j_callVl0 (pc := 84) (st := []) (As := [.int y1, .int y8]) (wf := wM cI cL ad) C (c_M_g (jk_l κ) (jk_G κ) cI cL ad μ y1 y8 _ hw) g_M_93 hdV_M_g ⟨(Nat.le_of_ble_eq_true rfl), (Nat.le_of_ble_eq_true rfl)⟩ rfl (q0 := 0) rfl rfl rfl rfl (Nat.le_of_ble_eq_true rfl) d_M_isHull_84 ⟨(Nat.le_of_ble_eq_true rfl), (Nat.le_of_ble_eq_true rfl)⟩ (fun r21 μ20 hw => ?_)
        refine j_aload_n (pc := 87) C d_M_isHull_87 rfl 0 rfl ?_
        refine j_iload_n (pc := 88) C d_M_isHull_88 rfl 1 rfl ?_
        refine j_iload_n (pc := 89) C d_M_isHull_89 rfl 2 rfl ?_
        refine j_callVl0 (pc := 90) (st := [.long r21]) (As := [.int y1, .int y2]) (wf := wM cI cL ad) C (c_M_g (jk_l κ) (jk_G κ) cI cL ad μ20 y1 y2 _ hw) g_M_93 hdV_M_g ⟨(Nat.le_of_ble_eq_true rfl), (Nat.le_of_ble_eq_true rfl)⟩ rfl (q0 := 0) rfl rfl rfl rfl (Nat.le_of_ble_eq_true rfl) d_M_isHull_90 ⟨(Nat.le_of_ble_eq_true rfl), (Nat.le_of_ble_eq_true rfl)⟩ (fun r23 μ22 hw => ?_)
        refine j_lsub (pc := 93) C d_M_isHull_93 ?_
        refine j_nml (fun x24 e_x24 => ?_)
        have hw := hw x24 e_x24
        refine j_lstore (pc := 94) (lv' := [(9, .long x24), (0, .ref (ad 0)), (1, .int y1), (2, .int y2), (3, .int y3), (4, .int y4), (5, .long y5), (7, .int y7), (8, .int y8)]) C d_M_isHull_94 (Nat.le_of_ble_eq_true rfl) rfl ?_
        refine j_aload_n (pc := 96) C d_M_isHull_96 rfl 1 rfl ?_
        refine j_iload_n (pc := 97) C d_M_isHull_97 rfl 2 rfl ?_
        refine j_iload (pc := 98) C d_M_isHull_98 8 rfl ?_
        refine j_callVi0 (pc := 100) (st := []) (As := [.int y1, .int y8]) (wf := wM cI cL ad) C (c_M_l (jk_l κ) (jk_G κ) cI cL ad μ22 y1 y8 _ hw) g_M_97 hdV_M_l ⟨(Nat.le_of_ble_eq_true rfl), (Nat.le_of_ble_eq_true rfl)⟩ rfl (q0 := 0) rfl rfl rfl rfl (Nat.le_of_ble_eq_true rfl) d_M_isHull_100 ⟨(Nat.le_of_ble_eq_true rfl), (Nat.le_of_ble_eq_true rfl)⟩ (fun r26 μ25 hw => ?_)
        refine j_aload_n (pc := 103) C d_M_isHull_103 rfl 1 rfl ?_
        refine j_iload_n (pc := 104) C d_M_isHull_104 rfl 2 rfl ?_
        refine j_iload_n (pc := 105) C d_M_isHull_105 rfl 3 rfl ?_
        refine j_callVi0 (pc := 106) (st := [.int r26]) (As := [.int y1, .int y2]) (wf := wM cI cL ad) C (c_M_l (jk_l κ) (jk_G κ) cI cL ad μ25 y1 y2 _ hw) g_M_97 hdV_M_l ⟨(Nat.le_of_ble_eq_true rfl), (Nat.le_of_ble_eq_true rfl)⟩ rfl (q0 := 0) rfl rfl rfl rfl (Nat.le_of_ble_eq_true rfl) d_M_isHull_106 ⟨(Nat.le_of_ble_eq_true rfl), (Nat.le_of_ble_eq_true rfl)⟩ (fun r28 μ27 hw => ?_)
        refine j_isub (pc := 109) C d_M_isHull_109 ?_
        refine j_nmi (fun x29 e_x29 => ?_)
        have hw := hw x29 e_x29
        refine j_istore (pc := 110) (lv' := [(11, .int x29), (9, .long x24), (0, .ref (ad 0)), (1, .int y1), (2, .int y2), (3, .int y3), (4, .int y4), (5, .long y5), (7, .int y7), (8, .int y8)]) C d_M_isHull_110 (Nat.le_of_ble_eq_true rfl) rfl ?_
        refine j_lload (pc := 112) C d_M_isHull_112 7 rfl ?_
        refine j_iload (pc := 114) C d_M_isHull_114 0 rfl ?_
        refine j_i2l (pc := 116) C d_M_isHull_116 ?_
        refine j_lmul (pc := 117) C d_M_isHull_117 ?_
        refine j_lload (pc := 118) C d_M_isHull_118 1 rfl ?_
        refine j_iload (pc := 120) C d_M_isHull_120 8 rfl ?_
        refine j_i2l (pc := 122) C d_M_isHull_122 ?_
        refine j_lmul (pc := 123) C d_M_isHull_123 ?_
        refine j_lcmp (pc := 124) C d_M_isHull_124 ?_
        refine j_if_le (pc := 125) (tgt := 132) C d_M_isHull_125 (by decide) (fun c30 => ?_) (fun c30 => ?_)
        · have hw := hw.1 c30
          refine j_iconst (v := 0) (pc := 132) C d_M_isHull_132 (by decide) ?_
          refine j_istore_n (pc := 133) (lv' := [(3, .int 0), (11, .int x29), (9, .long x24), (0, .ref (ad 0)), (1, .int y1), (2, .int y2), (4, .int y4), (5, .long y5), (7, .int y7), (8, .int y8)]) C d_M_isHull_133 rfl (Nat.le_of_ble_eq_true rfl) rfl ?_
          refine j_iinc (pc := 134) (lv' := [(8, .int (y8 + 1)), (3, .int 0), (11, .int x29), (9, .long x24), (0, .ref (ad 0)), (1, .int y1), (2, .int y2), (4, .int y4), (5, .long y5), (7, .int y7)]) C d_M_isHull_134 (k := 9) rfl rfl (Nat.le_of_ble_eq_true rfl) rfl ?_
          refine j_goto (pc := 137) (tgt := 65) C d_M_isHull_137 (by decide) ?_
          refine j_locs [4, 5, 6, 1, 7, 8, 9, 0] rfl ?_
          exact ih 0 (y8 + 1) μ27 hw
        · have hw := hw.2 c30
          refine j_iconst (v := 1) (pc := 128) C d_M_isHull_128 (by decide) ?_
          refine j_goto (pc := 129) (tgt := 133) C d_M_isHull_129 (by decide) ?_
          refine j_istore_n (pc := 133) (lv' := [(3, .int 1), (11, .int x29), (9, .long x24), (0, .ref (ad 0)), (1, .int y1), (2, .int y2), (4, .int y4), (5, .long y5), (7, .int y7), (8, .int y8)]) C d_M_isHull_133 rfl (Nat.le_of_ble_eq_true rfl) rfl ?_
          refine j_iinc (pc := 134) (lv' := [(8, .int (y8 + 1)), (3, .int 1), (11, .int x29), (9, .long x24), (0, .ref (ad 0)), (1, .int y1), (2, .int y2), (4, .int y4), (5, .long y5), (7, .int y7)]) C d_M_isHull_134 (k := 9) rfl rfl (Nat.le_of_ble_eq_true rfl) rfl ?_
          refine j_goto (pc := 137) (tgt := 65) C d_M_isHull_137 (by decide) ?_
          refine j_locs [4, 5, 6, 1, 7, 8, 9, 0] rfl ?_
          exact ih 1 (y8 + 1) μ27 hw
set_option maxHeartbeats 4000000 in
set_option maxRecDepth 100000 in
theorem lp_M_isHull_5 {κ : jk_K} {cI cL : ClassId} {ad : Nat → Nat} {Q : Int32 → SM → Prop} (C : jk_C κ b_M_isHull R_M rm_M_isHull 12 [(cI, .int), (cL, .long)]) (E : jk_E κ (some .boolean) (va_Qi Q (jk_B (jk_G κ) [(cI, .int), (cL, .long)] (jk_A κ) (wM cI cL ad)) (jk_A κ)) rm_M_isHull.cells rm_M_isHull.slots) (y1 : Int32) (y2 : Int32) : ∀ (n : Nat) (y3 : Int32) (y4 : Int32) (μ : SM), wl_M_isHull_5 y1 y2 Q n y3 y4 μ → jk_J κ (wM cI cL ad μ) 5 [(0, .ref (ad 0)), (1, .int y1), (2, .int y2), (3, .int y3), (4, .int y4)] [] 0 0 := by
  intro n
  induction n with
  | zero => intro y3 y4 μ hw; exact hw.elim
  | succ n ih =>
    intro y3 y4 μ hw
    rw [wl_M_isHull_5] at hw
    refine j_iload (pc := 5) C d_M_isHull_5 4 rfl ?_
    refine j_iload_n (pc := 7) C d_M_isHull_7 rfl 2 rfl ?_
    refine j_icmp_ge (pc := 8) (tgt := 146) C d_M_isHull_8 (by decide) (fun c1 => ?_) (fun c1 => ?_)
    · have hw := hw.1 c1
      refine j_iload_n (pc := 146) C d_M_isHull_146 rfl 3 rfl ?_
      obtain ⟨hz2, hw⟩ := hw
      exact j_zret (pc := 147) C E hw (by rcases hz2 with h9 | h9 <;> rw [h9] <;> rfl) (Nat.le_of_ble_eq_true rfl) (Nat.le_of_ble_eq_true rfl) d_M_isHull_147
    · have hw := hw.2 c1
      refine j_iload_n (pc := 11) C d_M_isHull_11 rfl 3 rfl ?_
      refine j_if_eq (pc := 12) (tgt := 146) C d_M_isHull_12 (by decide) (fun c3 => ?_) (fun c3 => ?_)
      · have hw := hw.1 c3
        refine j_iload_n (pc := 146) C d_M_isHull_146 rfl 3 rfl ?_
        obtain ⟨hz4, hw⟩ := hw
        exact j_zret (pc := 147) C E hw (by rcases hz4 with h9 | h9 <;> rw [h9] <;> rfl) (Nat.le_of_ble_eq_true rfl) (Nat.le_of_ble_eq_true rfl) d_M_isHull_147
      · have hw := hw.2 c3
        refine j_aload_n (pc := 15) C d_M_isHull_15 rfl 0 rfl ?_
        refine j_iload_n (pc := 16) C d_M_isHull_16 rfl 1 rfl ?_
        refine j_iload_n (pc := 17) C d_M_isHull_17 rfl 2 rfl ?_
        refine j_callVl0 (pc := 18) (st := []) (As := [.int y1, .int y2]) (wf := wM cI cL ad) C (c_M_g (jk_l κ) (jk_G κ) cI cL ad μ y1 y2 _ hw) g_M_93 hdV_M_g ⟨(Nat.le_of_ble_eq_true rfl), (Nat.le_of_ble_eq_true rfl)⟩ rfl (q0 := 0) rfl rfl rfl rfl (Nat.le_of_ble_eq_true rfl) d_M_isHull_18 ⟨(Nat.le_of_ble_eq_true rfl), (Nat.le_of_ble_eq_true rfl)⟩ (fun r6 μ5 hw => ?_)
        refine j_aload_n (pc := 21) C d_M_isHull_21 rfl 0 rfl ?_
        refine j_iload_n (pc := 22) C d_M_isHull_22 rfl 1 rfl ?_
        refine j_iload (pc := 23) C d_M_isHull_23 4 rfl ?_
        refine j_callVl0 (pc := 25) (st := [.long r6]) (As := [.int y1, .int y4]) (wf := wM cI cL ad) C (c_M_g (jk_l κ) (jk_G κ) cI cL ad μ5 y1 y4 _ hw) g_M_93 hdV_M_g ⟨(Nat.le_of_ble_eq_true rfl), (Nat.le_of_ble_eq_true rfl)⟩ rfl (q0 := 0) rfl rfl rfl rfl (Nat.le_of_ble_eq_true rfl) d_M_isHull_25 ⟨(Nat.le_of_ble_eq_true rfl), (Nat.le_of_ble_eq_true rfl)⟩ (fun r8 μ7 hw => ?_)
        refine j_lsub (pc := 28) C d_M_isHull_28 ?_
        refine j_nml (fun x9 e_x9 => ?_)
        have hw := hw x9 e_x9
        refine j_lstore (pc := 29) (lv' := [(5, .long x9), (0, .ref (ad 0)), (1, .int y1), (2, .int y2), (3, .int y3), (4, .int y4)]) C d_M_isHull_29 (Nat.le_of_ble_eq_true rfl) rfl ?_
        refine j_aload_n (pc := 31) C d_M_isHull_31 rfl 1 rfl ?_
        refine j_iload_n (pc := 32) C d_M_isHull_32 rfl 2 rfl ?_
        refine j_iload_n (pc := 33) C d_M_isHull_33 rfl 3 rfl ?_
        refine j_callVi0 (pc := 34) (st := []) (As := [.int y1, .int y2]) (wf := wM cI cL ad) C (c_M_l (jk_l κ) (jk_G κ) cI cL ad μ7 y1 y2 _ hw) g_M_97 hdV_M_l ⟨(Nat.le_of_ble_eq_true rfl), (Nat.le_of_ble_eq_true rfl)⟩ rfl (q0 := 0) rfl rfl rfl rfl (Nat.le_of_ble_eq_true rfl) d_M_isHull_34 ⟨(Nat.le_of_ble_eq_true rfl), (Nat.le_of_ble_eq_true rfl)⟩ (fun r11 μ10 hw => ?_)
        refine j_aload_n (pc := 37) C d_M_isHull_37 rfl 1 rfl ?_
        refine j_iload_n (pc := 38) C d_M_isHull_38 rfl 2 rfl ?_
        refine j_iload (pc := 39) C d_M_isHull_39 5 rfl ?_
        refine j_callVi0 (pc := 41) (st := [.int r11]) (As := [.int y1, .int y4]) (wf := wM cI cL ad) C (c_M_l (jk_l κ) (jk_G κ) cI cL ad μ10 y1 y4 _ hw) g_M_97 hdV_M_l ⟨(Nat.le_of_ble_eq_true rfl), (Nat.le_of_ble_eq_true rfl)⟩ rfl (q0 := 0) rfl rfl rfl rfl (Nat.le_of_ble_eq_true rfl) d_M_isHull_41 ⟨(Nat.le_of_ble_eq_true rfl), (Nat.le_of_ble_eq_true rfl)⟩ (fun r13 μ12 hw => ?_)
        refine j_isub (pc := 44) C d_M_isHull_44 ?_
        refine j_nmi (fun x14 e_x14 => ?_)
        have hw := hw x14 e_x14
        refine j_istore (pc := 45) (lv' := [(7, .int x14), (5, .long x9), (0, .ref (ad 0)), (1, .int y1), (2, .int y2), (3, .int y3), (4, .int y4)]) C d_M_isHull_45 (Nat.le_of_ble_eq_true rfl) rfl ?_
        refine j_lload (pc := 47) C d_M_isHull_47 1 rfl ?_
        refine j_lconst (v := 0) (pc := 49) C d_M_isHull_49 (by decide) ?_
        refine j_lcmp (pc := 50) C d_M_isHull_50 ?_
        refine j_if_le (pc := 51) (tgt := 58) C d_M_isHull_51 (by decide) (fun c15 => ?_) (fun c15 => ?_)
        · have hw := hw.1 c15
          refine j_iconst (v := 0) (pc := 58) C d_M_isHull_58 (by decide) ?_
          refine j_istore_n (pc := 59) (lv' := [(3, .int 0), (7, .int x14), (5, .long x9), (0, .ref (ad 0)), (1, .int y1), (2, .int y2), (4, .int y4)]) C d_M_isHull_59 rfl (Nat.le_of_ble_eq_true rfl) rfl ?_
          refine j_iload_n (pc := 60) C d_M_isHull_60 rfl 5 rfl ?_
          refine j_iconst (v := 1) (pc := 61) C d_M_isHull_61 (by decide) ?_
          refine j_iadd (pc := 62) C d_M_isHull_62 ?_
          refine j_nmi (fun x16 e_x16 => ?_)
          have hw := hw x16 e_x16
          refine j_istore (pc := 63) (lv' := [(8, .int x16), (3, .int 0), (7, .int x14), (5, .long x9), (0, .ref (ad 0)), (1, .int y1), (2, .int y2), (4, .int y4)]) C d_M_isHull_63 (Nat.le_of_ble_eq_true rfl) rfl ?_
          obtain ⟨n31, hw⟩ := hw
          refine j_locs [4, 5, 6, 1, 7, 3, 2, 0] rfl ?_
          exact lp_M_isHull_65 C E y1 y2 y4 x9 x14 (fun y3 y4 μ hw => ih y3 y4 μ hw) n31 0 x16 μ12 hw
        · have hw := hw.2 c15
          refine j_iconst (v := 1) (pc := 54) C d_M_isHull_54 (by decide) ?_
          refine j_goto (pc := 55) (tgt := 59) C d_M_isHull_55 (by decide) ?_
          refine j_istore_n (pc := 59) (lv' := [(3, .int 1), (7, .int x14), (5, .long x9), (0, .ref (ad 0)), (1, .int y1), (2, .int y2), (4, .int y4)]) C d_M_isHull_59 rfl (Nat.le_of_ble_eq_true rfl) rfl ?_
          refine j_iload_n (pc := 60) C d_M_isHull_60 rfl 5 rfl ?_
          refine j_iconst (v := 1) (pc := 61) C d_M_isHull_61 (by decide) ?_
          refine j_iadd (pc := 62) C d_M_isHull_62 ?_
          refine j_nmi (fun x32 e_x32 => ?_)
          have hw := hw x32 e_x32
          refine j_istore (pc := 63) (lv' := [(8, .int x32), (3, .int 1), (7, .int x14), (5, .long x9), (0, .ref (ad 0)), (1, .int y1), (2, .int y2), (4, .int y4)]) C d_M_isHull_63 (Nat.le_of_ble_eq_true rfl) rfl ?_
          obtain ⟨n33, hw⟩ := hw
          refine j_locs [4, 5, 6, 1, 7, 3, 2, 0] rfl ?_
          exact lp_M_isHull_65 C E y1 y2 y4 x9 x14 (fun y3 y4 μ hw => ih y3 y4 μ hw) n33 1 x32 μ12 hw
set_option maxHeartbeats 4000000 in
set_option maxRecDepth 100000 in
theorem c_M_isHull (l : Launch) (G : va_G) (cI cL : ClassId) (ad : Nat → Nat) (μ : SM) (p1 : Int32) (p2 : Int32) (Q : Int32 → SM → Prop) (hw : wp_M_isHull μ p1 p2 Q) : jm_i l G [(cI, .int), (cL, .long)] y_M_isHull b_M_isHull 12 .boolean rm_M_isHull [.ref (ad 0), .int p1, .int p2] (wM cI cL ad μ) (wM cI cL ad) Q := by
  refine jm_open_i (by decide +kernel) (Nat.le_of_ble_eq_true rfl) ?_
  intro κ hl hG C E hi
  subst hl; subst hG
  unfold wp_M_isHull at hw
  refine j_iconst (v := 1) (pc := 0) C d_M_isHull_0 (by decide) ?_
  refine j_istore_n (pc := 1) (lv' := [(3, .int 1), (0, .ref (ad 0)), (1, .int p1), (2, .int p2)]) C d_M_isHull_1 rfl (Nat.le_of_ble_eq_true rfl) rfl ?_
  refine j_iconst (v := (-1)) (pc := 2) C d_M_isHull_2 (by decide) ?_
  refine j_istore (pc := 3) (lv' := [(4, .int (-1)), (3, .int 1), (0, .ref (ad 0)), (1, .int p1), (2, .int p2)]) C d_M_isHull_3 (Nat.le_of_ble_eq_true rfl) rfl ?_
  obtain ⟨n34, hw⟩ := hw
  refine j_locs [2, 3, 4, 1, 0] rfl ?_
  exact lp_M_isHull_5 C E p1 p2 n34 1 (-1) μ hw
set_option maxHeartbeats 4000000 in
set_option maxRecDepth 100000 in
theorem c_M_isBefore (l : Launch) (G : va_G) (cI cL : ClassId) (ad : Nat → Nat) (μ : SM) (p1 : Int32) (p2 : Int32) (Q : Int32 → SM → Prop) (hw : wp_M_isBefore μ p1 p2 Q) : jm_i l G [(cI, .int), (cL, .long)] y_M_isBefore b_M_isBefore 7 .boolean rm_M_isBefore [.ref (ad 0), .int p1, .int p2] (wM cI cL ad μ) (wM cI cL ad) Q := by
  refine jm_open_i (by decide +kernel) (Nat.le_of_ble_eq_true rfl) ?_
  intro κ hl hG C E hi
  subst hl; subst hG
  unfold wp_M_isBefore at hw
  refine j_aload_n (pc := 0) C d_M_isBefore_0 rfl 0 rfl ?_
  refine j_get (pc := 1) C i_M 0 rfl rfl 12 (Nat.le_of_ble_eq_true rfl) k_157 rfl d_M_isBefore_1 ?_
  refine j_iload_n (pc := 4) C d_M_isBefore_4 rfl 1 rfl ?_
  obtain ⟨hi1, hw⟩ := hw
  refine j_lald (pc := 5) C 9 1 rfl rfl hi1 d_M_isBefore_5 ?_
  refine j_aload_n (pc := 6) C d_M_isBefore_6 rfl 0 rfl ?_
  refine j_get (pc := 7) C i_M 0 rfl rfl 11 (Nat.le_of_ble_eq_true rfl) k_158 rfl d_M_isBefore_7 ?_
  refine j_iload_n (pc := 10) C d_M_isBefore_10 rfl 2 rfl ?_
  obtain ⟨hi2, hw⟩ := hw
  refine j_iald (pc := 11) C 8 0 rfl rfl hi2 d_M_isBefore_11 ?_
  refine j_i2l (pc := 12) C d_M_isBefore_12 ?_
  refine j_lmul (pc := 13) C d_M_isBefore_13 ?_
  refine j_nml (fun x3 e_x3 => ?_)
  have hw := hw x3 e_x3
  refine j_lstore_n (pc := 14) (lv' := [(3, .long x3), (0, .ref (ad 0)), (1, .int p1), (2, .int p2)]) C d_M_isBefore_14 rfl (Nat.le_of_ble_eq_true rfl) rfl ?_
  refine j_aload_n (pc := 15) C d_M_isBefore_15 rfl 1 rfl ?_
  refine j_get (pc := 16) C i_M 0 rfl rfl 12 (Nat.le_of_ble_eq_true rfl) k_157 rfl d_M_isBefore_16 ?_
  refine j_iload_n (pc := 19) C d_M_isBefore_19 rfl 3 rfl ?_
  obtain ⟨hi4, hw⟩ := hw
  refine j_lald (pc := 20) C 9 1 rfl rfl hi4 d_M_isBefore_20 ?_
  refine j_aload_n (pc := 21) C d_M_isBefore_21 rfl 1 rfl ?_
  refine j_get (pc := 22) C i_M 0 rfl rfl 11 (Nat.le_of_ble_eq_true rfl) k_158 rfl d_M_isBefore_22 ?_
  refine j_iload_n (pc := 25) C d_M_isBefore_25 rfl 2 rfl ?_
  obtain ⟨hi5, hw⟩ := hw
  refine j_iald (pc := 26) C 8 0 rfl rfl hi5 d_M_isBefore_26 ?_
  refine j_i2l (pc := 27) C d_M_isBefore_27 ?_
  refine j_lmul (pc := 28) C d_M_isBefore_28 ?_
  refine j_nml (fun x6 e_x6 => ?_)
  have hw := hw x6 e_x6
  refine j_lstore (pc := 29) (lv' := [(5, .long x6), (3, .long x3), (0, .ref (ad 0)), (1, .int p1), (2, .int p2)]) C d_M_isBefore_29 (Nat.le_of_ble_eq_true rfl) rfl ?_
  refine j_lload_n (pc := 31) C d_M_isBefore_31 rfl 1 rfl ?_
  refine j_lload (pc := 32) C d_M_isBefore_32 0 rfl ?_
  refine j_lcmp (pc := 34) C d_M_isBefore_34 ?_
  refine j_if_eq (pc := 35) (tgt := 53) C d_M_isBefore_35 (by decide) (fun c7 => ?_) (fun c7 => ?_)
  · have hw := hw.1 c7
    refine j_iload_n (pc := 53) C d_M_isBefore_53 rfl 3 rfl ?_
    refine j_iload_n (pc := 54) C d_M_isBefore_54 rfl 4 rfl ?_
    refine j_icmp_ge (pc := 55) (tgt := 62) C d_M_isBefore_55 (by decide) (fun c8 => ?_) (fun c8 => ?_)
    · have hw := hw.1 c8
      refine j_iconst (v := 0) (pc := 62) C d_M_isBefore_62 (by decide) ?_
      exact j_zret (pc := 63) C E hw rfl (Nat.le_of_ble_eq_true rfl) (Nat.le_of_ble_eq_true rfl) d_M_isBefore_63
    · have hw := hw.2 c8
      refine j_iconst (v := 1) (pc := 58) C d_M_isBefore_58 (by decide) ?_
      refine j_goto (pc := 59) (tgt := 63) C d_M_isBefore_59 (by decide) ?_
      exact j_zret (pc := 63) C E hw rfl (Nat.le_of_ble_eq_true rfl) (Nat.le_of_ble_eq_true rfl) d_M_isBefore_63
  · have hw := hw.2 c7
    refine j_lload_n (pc := 38) C d_M_isBefore_38 rfl 1 rfl ?_
    refine j_lload (pc := 39) C d_M_isBefore_39 0 rfl ?_
    refine j_lcmp (pc := 41) C d_M_isBefore_41 ?_
    refine j_if_le (pc := 42) (tgt := 49) C d_M_isBefore_42 (by decide) (fun c9 => ?_) (fun c9 => ?_)
    · have hw := hw.1 c9
      refine j_iconst (v := 0) (pc := 49) C d_M_isBefore_49 (by decide) ?_
      refine j_goto (pc := 50) (tgt := 63) C d_M_isBefore_50 (by decide) ?_
      exact j_zret (pc := 63) C E hw rfl (Nat.le_of_ble_eq_true rfl) (Nat.le_of_ble_eq_true rfl) d_M_isBefore_63
    · have hw := hw.2 c9
      refine j_iconst (v := 1) (pc := 45) C d_M_isBefore_45 (by decide) ?_
      refine j_goto (pc := 46) (tgt := 63) C d_M_isBefore_46 (by decide) ?_
      exact j_zret (pc := 63) C E hw rfl (Nat.le_of_ble_eq_true rfl) (Nat.le_of_ble_eq_true rfl) d_M_isBefore_63
