set_option maxHeartbeats 4000000 in
set_option maxRecDepth 100000 in
theorem jn_M_pass_168 {κ : jk_K} {cI cL : ClassId} {ad : Nat → Nat} {Q : Int32 → SM → Prop} (C : jk_C κ b_M_pass R_M rm_M_pass 5 [(cI, .int), (cL, .long)]) (E : jk_E κ (some .int) (va_Qi Q (jk_B (jk_G κ) [(cI, .int), (cL, .long)] (jk_A κ) (wM cI cL ad)) (jk_A κ)) rm_M_pass.cells rm_M_pass.slots) (y1 : Int32) (s0 : Int64) (s1 : Int64) (s2 : Int32) (μ : SM) (hw : wj_M_pass_168 Q y1 s0 s1 s2 μ) : jk_J κ (wM cI cL ad μ) 168 [(0, .ref (ad 0)), (1, .int y1)] [.long s0, .long s1, .int s2, .ref (ad 5)] 0 0 := by
  unfold wj_M_pass_168 at hw
  refine j_ladd (pc := 168) C d_M_pass_168 ?_
  obtain ⟨hi26, hw⟩ := hw
  obtain ⟨μ27, e_μ27⟩ : ∃ z : SM, z = uM_gains μ (vp_updL (sM_gains μ) (Int32.toNatClampNeg s2) (s1 + s0)) := ⟨_, rfl⟩
  have hw := hw μ27 e_μ27
  refine j_last (pc := 169) (ws' := wM cI cL ad μ27) C 5 1 rfl rfl hi26 (by rw [e_μ27]; rfl) d_M_pass_169 ?_
  refine j_aload_n (pc := 170) C d_M_pass_170 rfl 0 rfl ?_
  refine j_get (pc := 171) C i_M 0 rfl rfl 3 (Nat.le_of_ble_eq_true rfl) k_117 rfl d_M_pass_171 ?_
  refine j_iload_n (pc := 174) C d_M_pass_174 rfl 1 rfl ?_
  refine j_dup2 (pc := 175) C d_M_pass_175 rfl rfl ?_
  obtain ⟨hi28, hw⟩ := hw
  refine j_iald (pc := 176) C 1 0 rfl rfl hi28 d_M_pass_176 ?_
  refine j_iconst (v := 1) (pc := 177) C d_M_pass_177 (by decide) ?_
  refine j_iadd (pc := 178) C d_M_pass_178 ?_
  obtain ⟨hi29, hw⟩ := hw
  obtain ⟨μ30, e_μ30⟩ : ∃ z : SM, z = uM_many μ27 (upd (sM_many μ27) (Int32.toNatClampNeg y1) ((sM_many μ27 (Int32.toNatClampNeg y1)) + 1)) := ⟨_, rfl⟩
  have hw := hw μ30 e_μ30
  refine j_iast (pc := 179) (ws' := wM cI cL ad μ30) C 1 0 rfl rfl hi29 (by rw [e_μ30]; rfl) d_M_pass_179 ?_
  refine j_aload_n (pc := 180) C d_M_pass_180 rfl 0 rfl ?_
  refine j_callVv0 (pc := 181) (st := []) (As := []) (wf := wM cI cL ad) C (c_M_spoil (jk_l κ) (jk_G κ) cI cL ad μ30 _ hw) g_M_69 hdV_M_spoil ⟨(Nat.le_of_ble_eq_true rfl), (Nat.le_of_ble_eq_true rfl)⟩ rfl (q0 := 0) rfl rfl rfl rfl (Nat.le_of_ble_eq_true rfl) d_M_pass_181 ⟨(Nat.le_of_ble_eq_true rfl), (Nat.le_of_ble_eq_true rfl)⟩ (fun μ31 hw => ?_)
  refine j_aload_n (pc := 184) C d_M_pass_184 rfl 0 rfl ?_
  refine j_get (pc := 185) C i_M 0 rfl rfl 3 (Nat.le_of_ble_eq_true rfl) k_117 rfl d_M_pass_185 ?_
  refine j_iload_n (pc := 188) C d_M_pass_188 rfl 1 rfl ?_
  obtain ⟨hi32, hw⟩ := hw
  refine j_iald (pc := 189) C 1 0 rfl rfl hi32 d_M_pass_189 ?_
  refine j_iconst (v := 1) (pc := 190) C d_M_pass_190 (by decide) ?_
  refine j_isub (pc := 191) C d_M_pass_191 ?_
  exact j_iret (pc := 192) C E hw (Nat.le_of_ble_eq_true rfl) (Nat.le_of_ble_eq_true rfl) d_M_pass_192
set_option maxHeartbeats 4000000 in
set_option maxRecDepth 100000 in
theorem jn_M_pass_136 {κ : jk_K} {cI cL : ClassId} {ad : Nat → Nat} {Q : Int32 → SM → Prop} (C : jk_C κ b_M_pass R_M rm_M_pass 5 [(cI, .int), (cL, .long)]) (E : jk_E κ (some .int) (va_Qi Q (jk_B (jk_G κ) [(cI, .int), (cL, .long)] (jk_A κ) (wM cI cL ad)) (jk_A κ)) rm_M_pass.cells rm_M_pass.slots) (y1 : Int32) (y3 : Int32) (y4 : Int32) (s0 : Int32) (s1 : Int32) (s2 : Int32) (μ : SM) (hw : wj_M_pass_136 Q y1 y3 y4 s0 s1 s2 μ) : jk_J κ (wM cI cL ad μ) 136 [(0, .ref (ad 0)), (1, .int y1), (3, .int y3), (4, .int y4)] [.int s0, .int s1, .int s2, .ref (ad 4)] 0 0 := by
  unfold wj_M_pass_136 at hw
  refine j_iadd (pc := 136) C d_M_pass_136 ?_
  obtain ⟨hi22, hw⟩ := hw
  obtain ⟨μ23, e_μ23⟩ : ∃ z : SM, z = uM_lens μ (upd (sM_lens μ) (Int32.toNatClampNeg s2) (s1 + s0)) := ⟨_, rfl⟩
  have hw := hw μ23 e_μ23
  refine j_iast (pc := 137) (ws' := wM cI cL ad μ23) C 4 0 rfl rfl hi22 (by rw [e_μ23]; rfl) d_M_pass_137 ?_
  refine j_aload_n (pc := 138) C d_M_pass_138 rfl 0 rfl ?_
  refine j_get (pc := 139) C i_M 0 rfl rfl 7 (Nat.le_of_ble_eq_true rfl) k_136 rfl d_M_pass_139 ?_
  refine j_iload (pc := 142) C d_M_pass_142 3 rfl ?_
  refine j_iload_n (pc := 144) C d_M_pass_144 rfl 2 rfl ?_
  refine j_i2l (pc := 145) C d_M_pass_145 ?_
  refine j_aload_n (pc := 146) C d_M_pass_146 rfl 0 rfl ?_
  refine j_get (pc := 147) C i_M 0 rfl rfl 3 (Nat.le_of_ble_eq_true rfl) k_117 rfl d_M_pass_147 ?_
  refine j_iload_n (pc := 150) C d_M_pass_150 rfl 1 rfl ?_
  obtain ⟨hi24, hw⟩ := hw
  refine j_iald (pc := 151) C 1 0 rfl rfl hi24 d_M_pass_151 ?_
  refine j_if_le (pc := 152) (tgt := 167) C d_M_pass_152 (by decide) (fun c25 => ?_) (fun c25 => ?_)
  · have hw := hw.1 c25
    refine j_lconst (v := 0) (pc := 167) C d_M_pass_167 (by decide) ?_
    refine j_locs [0, 1] rfl ?_
    exact jn_M_pass_168 C E y1 0 (Int32.toInt64 y3) y4 μ23 hw
  · have hw := hw.2 c25
    refine j_aload_n (pc := 155) C d_M_pass_155 rfl 0 rfl ?_
    refine j_get (pc := 156) C i_M 0 rfl rfl 7 (Nat.le_of_ble_eq_true rfl) k_136 rfl d_M_pass_156 ?_
    refine j_iload (pc := 159) C d_M_pass_159 3 rfl ?_
    refine j_iconst (v := 1) (pc := 161) C d_M_pass_161 (by decide) ?_
    refine j_isub (pc := 162) C d_M_pass_162 ?_
    obtain ⟨hi33, hw⟩ := hw
    refine j_lald (pc := 163) C 5 1 rfl rfl hi33 d_M_pass_163 ?_
    refine j_goto (pc := 164) (tgt := 168) C d_M_pass_164 (by decide) ?_
    refine j_locs [0, 1] rfl ?_
    exact jn_M_pass_168 C E y1 (sM_gains μ23 (Int32.toNatClampNeg (y4 - 1))) (Int32.toInt64 y3) y4 μ23 hw
set_option maxHeartbeats 4000000 in
set_option maxRecDepth 100000 in
theorem jn_M_pass_85 {κ : jk_K} {cI cL : ClassId} {ad : Nat → Nat} {Q : Int32 → SM → Prop} (C : jk_C κ b_M_pass R_M rm_M_pass 5 [(cI, .int), (cL, .long)]) (E : jk_E κ (some .int) (va_Qi Q (jk_B (jk_G κ) [(cI, .int), (cL, .long)] (jk_A κ) (wM cI cL ad)) (jk_A κ)) rm_M_pass.cells rm_M_pass.slots) (y1 : Int32) (y2 : Int32) (y3 : Int32) (s0 : Int32) (μ : SM) (hw : wj_M_pass_85 Q y1 y2 y3 s0 μ) : jk_J κ (wM cI cL ad μ) 85 [(0, .ref (ad 0)), (1, .int y1), (2, .int y2), (3, .int y3)] [.int s0, .ref (ad 0)] 0 0 := by
  unfold wj_M_pass_85 at hw
  refine j_iconst (v := 3) (pc := 85) C d_M_pass_85 (by decide) ?_
  refine j_callVi0 (pc := 86) (st := []) (As := [.int s0, .int 3]) (wf := wM cI cL ad) C (c_M_fails (jk_l κ) (jk_G κ) cI cL ad μ s0 3 _ hw) g_M_65 hdV_M_fails ⟨(Nat.le_of_ble_eq_true rfl), (Nat.le_of_ble_eq_true rfl)⟩ rfl (q0 := 0) rfl rfl rfl rfl (Nat.le_of_ble_eq_true rfl) d_M_pass_86 ⟨(Nat.le_of_ble_eq_true rfl), (Nat.le_of_ble_eq_true rfl)⟩ (fun r16 μ15 hw => ?_)
  refine j_if_eq (pc := 89) (tgt := 94) C d_M_pass_89 (by decide) (fun c17 => ?_) (fun c17 => ?_)
  · have hw := hw.1 c17
    refine j_bipush (v := 24) (pc := 94) C d_M_pass_94 (by decide) ?_
    refine j_iload_n (pc := 96) C d_M_pass_96 rfl 1 rfl ?_
    refine j_imul (pc := 97) C d_M_pass_97 ?_
    refine j_aload_n (pc := 98) C d_M_pass_98 rfl 0 rfl ?_
    refine j_get (pc := 99) C i_M 0 rfl rfl 3 (Nat.le_of_ble_eq_true rfl) k_117 rfl d_M_pass_99 ?_
    refine j_iload_n (pc := 102) C d_M_pass_102 rfl 1 rfl ?_
    obtain ⟨hi18, hw⟩ := hw
    refine j_iald (pc := 103) C 1 0 rfl rfl hi18 d_M_pass_103 ?_
    refine j_iadd (pc := 104) C d_M_pass_104 ?_
    refine j_nmi (fun x19 e_x19 => ?_)
    have hw := hw x19 e_x19
    refine j_istore (pc := 105) (lv' := [(4, .int x19), (0, .ref (ad 0)), (1, .int y1), (2, .int y2), (3, .int y3)]) C d_M_pass_105 (Nat.le_of_ble_eq_true rfl) rfl ?_
    refine j_aload_n (pc := 107) C d_M_pass_107 rfl 1 rfl ?_
    refine j_get (pc := 108) C i_M 0 rfl rfl 6 (Nat.le_of_ble_eq_true rfl) k_135 rfl d_M_pass_108 ?_
    refine j_iload (pc := 111) C d_M_pass_111 0 rfl ?_
    refine j_iload_n (pc := 113) C d_M_pass_113 rfl 3 rfl ?_
    refine j_aload_n (pc := 114) C d_M_pass_114 rfl 1 rfl ?_
    refine j_get (pc := 115) C i_M 0 rfl rfl 3 (Nat.le_of_ble_eq_true rfl) k_117 rfl d_M_pass_115 ?_
    refine j_iload_n (pc := 118) C d_M_pass_118 rfl 2 rfl ?_
    obtain ⟨hi20, hw⟩ := hw
    refine j_iald (pc := 119) C 1 0 rfl rfl hi20 d_M_pass_119 ?_
    refine j_if_le (pc := 120) (tgt := 135) C d_M_pass_120 (by decide) (fun c21 => ?_) (fun c21 => ?_)
    · have hw := hw.1 c21
      refine j_iconst (v := 0) (pc := 135) C d_M_pass_135 (by decide) ?_
      refine j_locs [1, 2, 4, 0] rfl ?_
      exact jn_M_pass_136 C E y1 y3 x19 0 y2 x19 μ15 hw
    · have hw := hw.2 c21
      refine j_aload_n (pc := 123) C d_M_pass_123 rfl 1 rfl ?_
      refine j_get (pc := 124) C i_M 0 rfl rfl 6 (Nat.le_of_ble_eq_true rfl) k_135 rfl d_M_pass_124 ?_
      refine j_iload (pc := 127) C d_M_pass_127 0 rfl ?_
      refine j_iconst (v := 1) (pc := 129) C d_M_pass_129 (by decide) ?_
      refine j_isub (pc := 130) C d_M_pass_130 ?_
      obtain ⟨hi34, hw⟩ := hw
      refine j_iald (pc := 131) C 4 0 rfl rfl hi34 d_M_pass_131 ?_
      refine j_goto (pc := 132) (tgt := 136) C d_M_pass_132 (by decide) ?_
      refine j_locs [1, 2, 4, 0] rfl ?_
      exact jn_M_pass_136 C E y1 y3 x19 (sM_lens μ15 (Int32.toNatClampNeg (x19 - 1))) y2 x19 μ15 hw
  · have hw := hw.2 c17
    refine j_iconst (v := 0) (pc := 92) C d_M_pass_92 (by decide) ?_
    exact j_iret (pc := 93) C E hw (Nat.le_of_ble_eq_true rfl) (Nat.le_of_ble_eq_true rfl) d_M_pass_93
set_option maxHeartbeats 4000000 in
set_option maxRecDepth 100000 in
theorem jn_M_pass_56 {κ : jk_K} {cI cL : ClassId} {ad : Nat → Nat} {Q : Int32 → SM → Prop} (C : jk_C κ b_M_pass R_M rm_M_pass 5 [(cI, .int), (cL, .long)]) (E : jk_E κ (some .int) (va_Qi Q (jk_B (jk_G κ) [(cI, .int), (cL, .long)] (jk_A κ) (wM cI cL ad)) (jk_A κ)) rm_M_pass.cells rm_M_pass.slots) (y1 : Int32) (y2 : Int32) (y3 : Int32) (s0 : Int32) (μ : SM) (hw : wj_M_pass_56 Q y1 y2 y3 s0 μ) : jk_J κ (wM cI cL ad μ) 56 [(0, .ref (ad 0)), (1, .int y1), (2, .int y2), (3, .int y3)] [.int s0, .ref (ad 0)] 0 0 := by
  unfold wj_M_pass_56 at hw
  refine j_iconst (v := 2) (pc := 56) C d_M_pass_56 (by decide) ?_
  refine j_callVi0 (pc := 57) (st := []) (As := [.int s0, .int 2]) (wf := wM cI cL ad) C (c_M_fails (jk_l κ) (jk_G κ) cI cL ad μ s0 2 _ hw) g_M_65 hdV_M_fails ⟨(Nat.le_of_ble_eq_true rfl), (Nat.le_of_ble_eq_true rfl)⟩ rfl (q0 := 0) rfl rfl rfl rfl (Nat.le_of_ble_eq_true rfl) d_M_pass_57 ⟨(Nat.le_of_ble_eq_true rfl), (Nat.le_of_ble_eq_true rfl)⟩ (fun r11 μ10 hw => ?_)
  refine j_pop (pc := 60) C d_M_pass_60 rfl ?_
  refine j_aload_n (pc := 61) C d_M_pass_61 rfl 0 rfl ?_
  refine j_get (pc := 62) C i_M 0 rfl rfl 0 (Nat.le_of_ble_eq_true rfl) k_110 rfl d_M_pass_62 ?_
  refine j_if_gt (pc := 65) (tgt := 92) C d_M_pass_65 (by decide) (fun c12 => ?_) (fun c12 => ?_)
  · have hw := hw.1 c12
    refine j_iconst (v := 0) (pc := 92) C d_M_pass_92 (by decide) ?_
    exact j_iret (pc := 93) C E hw (Nat.le_of_ble_eq_true rfl) (Nat.le_of_ble_eq_true rfl) d_M_pass_93
  · have hw := hw.2 c12
    refine j_aload_n (pc := 68) C d_M_pass_68 rfl 0 rfl ?_
    refine j_aload_n (pc := 69) C d_M_pass_69 rfl 0 rfl ?_
    refine j_get (pc := 70) C i_M 0 rfl rfl 3 (Nat.le_of_ble_eq_true rfl) k_117 rfl d_M_pass_70 ?_
    refine j_iload_n (pc := 73) C d_M_pass_73 rfl 1 rfl ?_
    obtain ⟨hi13, hw⟩ := hw
    refine j_iald (pc := 74) C 1 0 rfl rfl hi13 d_M_pass_74 ?_
    refine j_bipush (v := 24) (pc := 75) C d_M_pass_75 (by decide) ?_
    refine j_icmp_ne (pc := 77) (tgt := 84) C d_M_pass_77 (by decide) (fun c14 => ?_) (fun c14 => ?_)
    · have hw := hw.1 c14
      refine j_iconst (v := 0) (pc := 84) C d_M_pass_84 (by decide) ?_
      refine j_locs [0, 1, 2, 3] rfl ?_
      exact jn_M_pass_85 C E y1 y2 y3 0 μ10 hw
    · have hw := hw.2 c14
      refine j_iconst (v := 1) (pc := 80) C d_M_pass_80 (by decide) ?_
      refine j_goto (pc := 81) (tgt := 85) C d_M_pass_81 (by decide) ?_
      refine j_locs [0, 1, 2, 3] rfl ?_
      exact jn_M_pass_85 C E y1 y2 y3 1 μ10 hw
set_option maxHeartbeats 4000000 in
set_option maxRecDepth 100000 in
theorem jn_M_pass_51 {κ : jk_K} {cI cL : ClassId} {ad : Nat → Nat} {Q : Int32 → SM → Prop} (C : jk_C κ b_M_pass R_M rm_M_pass 5 [(cI, .int), (cL, .long)]) (E : jk_E κ (some .int) (va_Qi Q (jk_B (jk_G κ) [(cI, .int), (cL, .long)] (jk_A κ) (wM cI cL ad)) (jk_A κ)) rm_M_pass.cells rm_M_pass.slots) (y1 : Int32) (y2 : Int32) (y3 : Int32) (μ : SM) (hw : wj_M_pass_51 Q y1 y2 y3 μ) : jk_J κ (wM cI cL ad μ) 51 [(0, .ref (ad 0)), (1, .int y1), (2, .int y2), (3, .int y3)] [.ref (ad 0)] 0 0 := by
  unfold wj_M_pass_51 at hw
  refine j_iconst (v := 1) (pc := 51) C d_M_pass_51 (by decide) ?_
  refine j_goto (pc := 52) (tgt := 56) C d_M_pass_52 (by decide) ?_
  refine j_locs [0, 1, 2, 3] rfl ?_
  exact jn_M_pass_56 C E y1 y2 y3 1 μ hw
set_option maxHeartbeats 4000000 in
set_option maxRecDepth 100000 in
theorem jn_M_pass_19 {κ : jk_K} {cI cL : ClassId} {ad : Nat → Nat} {Q : Int32 → SM → Prop} (C : jk_C κ b_M_pass R_M rm_M_pass 5 [(cI, .int), (cL, .long)]) (E : jk_E κ (some .int) (va_Qi Q (jk_B (jk_G κ) [(cI, .int), (cL, .long)] (jk_A κ) (wM cI cL ad)) (jk_A κ)) rm_M_pass.cells rm_M_pass.slots) (y1 : Int32) (y2 : Int32) (y3 : Int32) (s0 : Int32) (μ : SM) (hw : wj_M_pass_19 Q y1 y2 y3 s0 μ) : jk_J κ (wM cI cL ad μ) 19 [(0, .ref (ad 0)), (1, .int y1), (2, .int y2), (3, .int y3)] [.int s0, .ref (ad 0)] 0 0 := by
  unfold wj_M_pass_19 at hw
  refine j_iconst (v := 1) (pc := 19) C d_M_pass_19 (by decide) ?_
  refine j_callVi0 (pc := 20) (st := []) (As := [.int s0, .int 1]) (wf := wM cI cL ad) C (c_M_fails (jk_l κ) (jk_G κ) cI cL ad μ s0 1 _ hw) g_M_65 hdV_M_fails ⟨(Nat.le_of_ble_eq_true rfl), (Nat.le_of_ble_eq_true rfl)⟩ rfl (q0 := 0) rfl rfl rfl rfl (Nat.le_of_ble_eq_true rfl) d_M_pass_20 ⟨(Nat.le_of_ble_eq_true rfl), (Nat.le_of_ble_eq_true rfl)⟩ (fun r6 μ5 hw => ?_)
  refine j_pop (pc := 23) C d_M_pass_23 rfl ?_
  refine j_aload_n (pc := 24) C d_M_pass_24 rfl 0 rfl ?_
  refine j_iload_n (pc := 25) C d_M_pass_25 rfl 2 rfl ?_
  refine j_i2l (pc := 26) C d_M_pass_26 ?_
  refine j_lconst (v := 1) (pc := 27) C d_M_pass_27 (by decide) ?_
  refine j_ldc2 (v := 10000) (pc := 28) C d_M_pass_28 k_131 ?_
  refine j_callSi0 (pc := 31) (st := [.ref (ad 0)]) (As := [.long (Int32.toInt64 y2), .long 1, .long 10000]) (wf := wM cI cL ad) C (c_M_within (jk_l κ) (jk_G κ) cI cL ad μ5 (Int32.toInt64 y2) 1 10000 _ hw) g_M_74 hdS_M_within ⟨(Nat.le_of_ble_eq_true rfl), (Nat.le_of_ble_eq_true rfl)⟩ rfl rfl (Nat.le_of_ble_eq_true rfl) d_M_pass_31 ⟨(Nat.le_of_ble_eq_true rfl), (Nat.le_of_ble_eq_true rfl)⟩ (fun r8 μ7 hw => ?_)
  refine j_if_eq (pc := 34) (tgt := 51) C d_M_pass_34 (by decide) (fun c9 => ?_) (fun c9 => ?_)
  · have hw := hw.1 c9
    refine j_locs [0, 1, 2, 3] rfl ?_
    exact jn_M_pass_51 C E y1 y2 y3 μ7 hw
  · have hw := hw.2 c9
    refine j_iload_n (pc := 37) C d_M_pass_37 rfl 3 rfl ?_
    refine j_i2l (pc := 38) C d_M_pass_38 ?_
    refine j_ldc2 (v := (-1000000)) (pc := 39) C d_M_pass_39 k_137 ?_
    refine j_ldc2 (v := 1000000) (pc := 42) C d_M_pass_42 k_138 ?_
    refine j_callSi0 (pc := 45) (st := [.ref (ad 0)]) (As := [.long (Int32.toInt64 y3), .long (-1000000), .long 1000000]) (wf := wM cI cL ad) C (c_M_within (jk_l κ) (jk_G κ) cI cL ad μ7 (Int32.toInt64 y3) (-1000000) 1000000 _ hw) g_M_74 hdS_M_within ⟨(Nat.le_of_ble_eq_true rfl), (Nat.le_of_ble_eq_true rfl)⟩ rfl rfl (Nat.le_of_ble_eq_true rfl) d_M_pass_45 ⟨(Nat.le_of_ble_eq_true rfl), (Nat.le_of_ble_eq_true rfl)⟩ (fun r36 μ35 hw => ?_)
    refine j_if_ne (pc := 48) (tgt := 55) C d_M_pass_48 (by decide) (fun c37 => ?_) (fun c37 => ?_)
    · have hw := hw.1 c37
      refine j_iconst (v := 0) (pc := 55) C d_M_pass_55 (by decide) ?_
      refine j_locs [0, 1, 2, 3] rfl ?_
      exact jn_M_pass_56 C E y1 y2 y3 0 μ35 hw
    · have hw := hw.2 c37
      refine j_locs [0, 1, 2, 3] rfl ?_
      exact jn_M_pass_51 C E y1 y2 y3 μ35 hw
set_option maxHeartbeats 4000000 in
set_option maxRecDepth 100000 in
theorem c_M_pass (l : Launch) (G : va_G) (cI cL : ClassId) (ad : Nat → Nat) (μ : SM) (p1 : Int32) (p2 : Int32) (p3 : Int32) (Q : Int32 → SM → Prop) (hw : wp_M_pass μ p1 p2 p3 Q) : jm_i l G [(cI, .int), (cL, .long)] y_M_pass b_M_pass 5 .int rm_M_pass [.ref (ad 0), .int p1, .int p2, .int p3] (wM cI cL ad μ) (wM cI cL ad) Q := by
  refine jm_open_i (by decide +kernel) (Nat.le_of_ble_eq_true rfl) ?_
  intro κ hl hG C E hi
  subst hl; subst hG
  unfold wp_M_pass at hw
  refine j_aload_n (pc := 0) C d_M_pass_0 rfl 0 rfl ?_
  refine j_iconst (v := 0) (pc := 1) C d_M_pass_1 (by decide) ?_
  obtain ⟨μ1, e_μ1⟩ : ∃ z : SM, z = uM_thr μ 0 := ⟨_, rfl⟩
  have hw := hw μ1 e_μ1
  refine j_put (pc := 2) (ws' := wM cI cL ad μ1) C i_M t_M t_M_ok n_M 0 rfl rfl 0 (Nat.le_of_ble_eq_true rfl) k_110 rfl (ty := .int) (by decide +kernel) rfl rfl (Nat.le_of_ble_eq_true rfl) (by rw [e_μ1]; rfl) d_M_pass_2 ?_
  refine j_aload_n (pc := 5) C d_M_pass_5 rfl 0 rfl ?_
  refine j_aload_n (pc := 6) C d_M_pass_6 rfl 0 rfl ?_
  refine j_iload_n (pc := 7) C d_M_pass_7 rfl 1 rfl ?_
  refine j_callVi0 (pc := 8) (st := [.ref (ad 0)]) (As := [.int p1]) (wf := wM cI cL ad) C (c_M_isBlock (jk_l κ) (jk_G κ) cI cL ad μ1 p1 _ hw) g_M_54 hdV_M_isBlock ⟨(Nat.le_of_ble_eq_true rfl), (Nat.le_of_ble_eq_true rfl)⟩ rfl (q0 := 0) rfl rfl rfl rfl (Nat.le_of_ble_eq_true rfl) d_M_pass_8 ⟨(Nat.le_of_ble_eq_true rfl), (Nat.le_of_ble_eq_true rfl)⟩ (fun r3 μ2 hw => ?_)
  refine j_if_ne (pc := 11) (tgt := 18) C d_M_pass_11 (by decide) (fun c4 => ?_) (fun c4 => ?_)
  · have hw := hw.1 c4
    refine j_iconst (v := 0) (pc := 18) C d_M_pass_18 (by decide) ?_
    refine j_locs [0, 1, 2, 3] rfl ?_
    exact jn_M_pass_19 C E p1 p2 p3 0 μ2 hw
  · have hw := hw.2 c4
    refine j_iconst (v := 1) (pc := 14) C d_M_pass_14 (by decide) ?_
    refine j_goto (pc := 15) (tgt := 19) C d_M_pass_15 (by decide) ?_
    refine j_locs [0, 1, 2, 3] rfl ?_
    exact jn_M_pass_19 C E p1 p2 p3 1 μ2 hw
set_option maxHeartbeats 4000000 in
set_option maxRecDepth 100000 in
theorem jn_M_weight_44 {κ : jk_K} {cI cL : ClassId} {ad : Nat → Nat} {Q : Int32 → SM → Prop} (C : jk_C κ b_M_weight R_M rm_M_weight 4 [(cI, .int), (cL, .long)]) (E : jk_E κ (some .int) (va_Qi Q (jk_B (jk_G κ) [(cI, .int), (cL, .long)] (jk_A κ) (wM cI cL ad)) (jk_A κ)) rm_M_weight.cells rm_M_weight.slots) (y1 : Int32) (y2 : Int32) (s0 : Int32) (μ : SM) (hw : wj_M_weight_44 Q y1 y2 s0 μ) : jk_J κ (wM cI cL ad μ) 44 [(0, .ref (ad 0)), (1, .int y1), (2, .int y2)] [.int s0, .ref (ad 0)] 0 0 := by
  unfold wj_M_weight_44 at hw
  refine j_iconst (v := 2) (pc := 44) C d_M_weight_44 (by decide) ?_
  refine j_callVi0 (pc := 45) (st := []) (As := [.int s0, .int 2]) (wf := wM cI cL ad) C (c_M_fails (jk_l κ) (jk_G κ) cI cL ad μ s0 2 _ hw) g_M_65 hdV_M_fails ⟨(Nat.le_of_ble_eq_true rfl), (Nat.le_of_ble_eq_true rfl)⟩ rfl (q0 := 0) rfl rfl rfl rfl (Nat.le_of_ble_eq_true rfl) d_M_weight_45 ⟨(Nat.le_of_ble_eq_true rfl), (Nat.le_of_ble_eq_true rfl)⟩ (fun r12 μ11 hw => ?_)
  refine j_if_eq (pc := 48) (tgt := 53) C d_M_weight_48 (by decide) (fun c13 => ?_) (fun c13 => ?_)
  · have hw := hw.1 c13
    refine j_aload_n (pc := 53) C d_M_weight_53 rfl 0 rfl ?_
    refine j_get (pc := 54) C i_M 0 rfl rfl 4 (Nat.le_of_ble_eq_true rfl) k_125 rfl d_M_weight_54 ?_
    refine j_iload_n (pc := 57) C d_M_weight_57 rfl 1 rfl ?_
    obtain ⟨hi14, hw⟩ := hw
    refine j_iald (pc := 58) C 2 0 rfl rfl hi14 d_M_weight_58 ?_
    refine j_nmi (fun x15 e_x15 => ?_)
    have hw := hw x15 e_x15
    refine j_istore_n (pc := 59) (lv' := [(3, .int x15), (0, .ref (ad 0)), (1, .int y1), (2, .int y2)]) C d_M_weight_59 rfl (Nat.le_of_ble_eq_true rfl) rfl ?_
    refine j_aload_n (pc := 60) C d_M_weight_60 rfl 1 rfl ?_
    refine j_get (pc := 61) C i_M 0 rfl rfl 4 (Nat.le_of_ble_eq_true rfl) k_125 rfl d_M_weight_61 ?_
    refine j_iload_n (pc := 64) C d_M_weight_64 rfl 2 rfl ?_
    refine j_iload_n (pc := 65) C d_M_weight_65 rfl 3 rfl ?_
    obtain ⟨hi16, hw⟩ := hw
    obtain ⟨μ17, e_μ17⟩ : ∃ z : SM, z = uM_weights μ11 (upd (sM_weights μ11) (Int32.toNatClampNeg y1) y2) := ⟨_, rfl⟩
    have hw := hw μ17 e_μ17
    refine j_iast (pc := 66) (ws' := wM cI cL ad μ17) C 2 0 rfl rfl hi16 (by rw [e_μ17]; rfl) d_M_weight_66 ?_
    refine j_aload_n (pc := 67) C d_M_weight_67 rfl 1 rfl ?_
    refine j_callVv0 (pc := 68) (st := []) (As := []) (wf := wM cI cL ad) C (c_M_spoil (jk_l κ) (jk_G κ) cI cL ad μ17 _ hw) g_M_69 hdV_M_spoil ⟨(Nat.le_of_ble_eq_true rfl), (Nat.le_of_ble_eq_true rfl)⟩ rfl (q0 := 0) rfl rfl rfl rfl (Nat.le_of_ble_eq_true rfl) d_M_weight_68 ⟨(Nat.le_of_ble_eq_true rfl), (Nat.le_of_ble_eq_true rfl)⟩ (fun μ18 hw => ?_)
    refine j_iload_n (pc := 71) C d_M_weight_71 rfl 0 rfl ?_
    exact j_iret (pc := 72) C E hw (Nat.le_of_ble_eq_true rfl) (Nat.le_of_ble_eq_true rfl) d_M_weight_72
  · have hw := hw.2 c13
    refine j_iconst (v := 0) (pc := 51) C d_M_weight_51 (by decide) ?_
    exact j_iret (pc := 52) C E hw (Nat.le_of_ble_eq_true rfl) (Nat.le_of_ble_eq_true rfl) d_M_weight_52
set_option maxHeartbeats 4000000 in
set_option maxRecDepth 100000 in
theorem jn_M_weight_19 {κ : jk_K} {cI cL : ClassId} {ad : Nat → Nat} {Q : Int32 → SM → Prop} (C : jk_C κ b_M_weight R_M rm_M_weight 4 [(cI, .int), (cL, .long)]) (E : jk_E κ (some .int) (va_Qi Q (jk_B (jk_G κ) [(cI, .int), (cL, .long)] (jk_A κ) (wM cI cL ad)) (jk_A κ)) rm_M_weight.cells rm_M_weight.slots) (y1 : Int32) (y2 : Int32) (s0 : Int32) (μ : SM) (hw : wj_M_weight_19 Q y1 y2 s0 μ) : jk_J κ (wM cI cL ad μ) 19 [(0, .ref (ad 0)), (1, .int y1), (2, .int y2)] [.int s0, .ref (ad 0)] 0 0 := by
  unfold wj_M_weight_19 at hw
  refine j_iconst (v := 1) (pc := 19) C d_M_weight_19 (by decide) ?_
  refine j_callVi0 (pc := 20) (st := []) (As := [.int s0, .int 1]) (wf := wM cI cL ad) C (c_M_fails (jk_l κ) (jk_G κ) cI cL ad μ s0 1 _ hw) g_M_65 hdV_M_fails ⟨(Nat.le_of_ble_eq_true rfl), (Nat.le_of_ble_eq_true rfl)⟩ rfl (q0 := 0) rfl rfl rfl rfl (Nat.le_of_ble_eq_true rfl) d_M_weight_20 ⟨(Nat.le_of_ble_eq_true rfl), (Nat.le_of_ble_eq_true rfl)⟩ (fun r6 μ5 hw => ?_)
  refine j_if_ne (pc := 23) (tgt := 51) C d_M_weight_23 (by decide) (fun c7 => ?_) (fun c7 => ?_)
  · have hw := hw.1 c7
    refine j_iconst (v := 0) (pc := 51) C d_M_weight_51 (by decide) ?_
    exact j_iret (pc := 52) C E hw (Nat.le_of_ble_eq_true rfl) (Nat.le_of_ble_eq_true rfl) d_M_weight_52
  · have hw := hw.2 c7
    refine j_aload_n (pc := 26) C d_M_weight_26 rfl 0 rfl ?_
    refine j_iload_n (pc := 27) C d_M_weight_27 rfl 2 rfl ?_
    refine j_i2l (pc := 28) C d_M_weight_28 ?_
    refine j_lconst (v := 1) (pc := 29) C d_M_weight_29 (by decide) ?_
    refine j_ldc2 (v := 100) (pc := 30) C d_M_weight_30 k_139 ?_
    refine j_callSi0 (pc := 33) (st := [.ref (ad 0)]) (As := [.long (Int32.toInt64 y2), .long 1, .long 100]) (wf := wM cI cL ad) C (c_M_within (jk_l κ) (jk_G κ) cI cL ad μ5 (Int32.toInt64 y2) 1 100 _ hw) g_M_74 hdS_M_within ⟨(Nat.le_of_ble_eq_true rfl), (Nat.le_of_ble_eq_true rfl)⟩ rfl rfl (Nat.le_of_ble_eq_true rfl) d_M_weight_33 ⟨(Nat.le_of_ble_eq_true rfl), (Nat.le_of_ble_eq_true rfl)⟩ (fun r9 μ8 hw => ?_)
    refine j_if_ne (pc := 36) (tgt := 43) C d_M_weight_36 (by decide) (fun c10 => ?_) (fun c10 => ?_)
    · have hw := hw.1 c10
      refine j_iconst (v := 0) (pc := 43) C d_M_weight_43 (by decide) ?_
      refine j_locs [0, 1, 2] rfl ?_
      exact jn_M_weight_44 C E y1 y2 0 μ8 hw
    · have hw := hw.2 c10
      refine j_iconst (v := 1) (pc := 39) C d_M_weight_39 (by decide) ?_
      refine j_goto (pc := 40) (tgt := 44) C d_M_weight_40 (by decide) ?_
      refine j_locs [0, 1, 2] rfl ?_
      exact jn_M_weight_44 C E y1 y2 1 μ8 hw
set_option maxHeartbeats 4000000 in
set_option maxRecDepth 100000 in
theorem c_M_weight (l : Launch) (G : va_G) (cI cL : ClassId) (ad : Nat → Nat) (μ : SM) (p1 : Int32) (p2 : Int32) (Q : Int32 → SM → Prop) (hw : wp_M_weight μ p1 p2 Q) : jm_i l G [(cI, .int), (cL, .long)] y_M_weight b_M_weight 4 .int rm_M_weight [.ref (ad 0), .int p1, .int p2] (wM cI cL ad μ) (wM cI cL ad) Q := by
  refine jm_open_i (by decide +kernel) (Nat.le_of_ble_eq_true rfl) ?_
  intro κ hl hG C E hi
  subst hl; subst hG
  unfold wp_M_weight at hw
  refine j_aload_n (pc := 0) C d_M_weight_0 rfl 0 rfl ?_
  refine j_iconst (v := 0) (pc := 1) C d_M_weight_1 (by decide) ?_
  obtain ⟨μ1, e_μ1⟩ : ∃ z : SM, z = uM_thr μ 0 := ⟨_, rfl⟩
  have hw := hw μ1 e_μ1
  refine j_put (pc := 2) (ws' := wM cI cL ad μ1) C i_M t_M t_M_ok n_M 0 rfl rfl 0 (Nat.le_of_ble_eq_true rfl) k_110 rfl (ty := .int) (by decide +kernel) rfl rfl (Nat.le_of_ble_eq_true rfl) (by rw [e_μ1]; rfl) d_M_weight_2 ?_
  refine j_aload_n (pc := 5) C d_M_weight_5 rfl 0 rfl ?_
  refine j_aload_n (pc := 6) C d_M_weight_6 rfl 0 rfl ?_
  refine j_iload_n (pc := 7) C d_M_weight_7 rfl 1 rfl ?_
  refine j_callVi0 (pc := 8) (st := [.ref (ad 0)]) (As := [.int p1]) (wf := wM cI cL ad) C (c_M_isBlock (jk_l κ) (jk_G κ) cI cL ad μ1 p1 _ hw) g_M_54 hdV_M_isBlock ⟨(Nat.le_of_ble_eq_true rfl), (Nat.le_of_ble_eq_true rfl)⟩ rfl (q0 := 0) rfl rfl rfl rfl (Nat.le_of_ble_eq_true rfl) d_M_weight_8 ⟨(Nat.le_of_ble_eq_true rfl), (Nat.le_of_ble_eq_true rfl)⟩ (fun r3 μ2 hw => ?_)
  refine j_if_ne (pc := 11) (tgt := 18) C d_M_weight_11 (by decide) (fun c4 => ?_) (fun c4 => ?_)
  · have hw := hw.1 c4
    refine j_iconst (v := 0) (pc := 18) C d_M_weight_18 (by decide) ?_
    refine j_locs [0, 1, 2] rfl ?_
    exact jn_M_weight_19 C E p1 p2 0 μ2 hw
  · have hw := hw.2 c4
    refine j_iconst (v := 1) (pc := 14) C d_M_weight_14 (by decide) ?_
    refine j_goto (pc := 15) (tgt := 19) C d_M_weight_15 (by decide) ?_
    refine j_locs [0, 1, 2] rfl ?_
    exact jn_M_weight_19 C E p1 p2 1 μ2 hw
set_option maxHeartbeats 4000000 in
set_option maxRecDepth 100000 in
theorem jn_M_shift_44 {κ : jk_K} {cI cL : ClassId} {ad : Nat → Nat} {Q : Int32 → SM → Prop} (C : jk_C κ b_M_shift R_M rm_M_shift 4 [(cI, .int), (cL, .long)]) (E : jk_E κ (some .int) (va_Qi Q (jk_B (jk_G κ) [(cI, .int), (cL, .long)] (jk_A κ) (wM cI cL ad)) (jk_A κ)) rm_M_shift.cells rm_M_shift.slots) (y1 : Int32) (y2 : Int32) (s0 : Int32) (μ : SM) (hw : wj_M_shift_44 Q y1 y2 s0 μ) : jk_J κ (wM cI cL ad μ) 44 [(0, .ref (ad 0)), (1, .int y1), (2, .int y2)] [.int s0, .ref (ad 0)] 0 0 := by
  unfold wj_M_shift_44 at hw
  refine j_iconst (v := 2) (pc := 44) C d_M_shift_44 (by decide) ?_
  refine j_callVi0 (pc := 45) (st := []) (As := [.int s0, .int 2]) (wf := wM cI cL ad) C (c_M_fails (jk_l κ) (jk_G κ) cI cL ad μ s0 2 _ hw) g_M_65 hdV_M_fails ⟨(Nat.le_of_ble_eq_true rfl), (Nat.le_of_ble_eq_true rfl)⟩ rfl (q0 := 0) rfl rfl rfl rfl (Nat.le_of_ble_eq_true rfl) d_M_shift_45 ⟨(Nat.le_of_ble_eq_true rfl), (Nat.le_of_ble_eq_true rfl)⟩ (fun r12 μ11 hw => ?_)
  refine j_if_eq (pc := 48) (tgt := 53) C d_M_shift_48 (by decide) (fun c13 => ?_) (fun c13 => ?_)
  · have hw := hw.1 c13
    refine j_aload_n (pc := 53) C d_M_shift_53 rfl 0 rfl ?_
    refine j_get (pc := 54) C i_M 0 rfl rfl 5 (Nat.le_of_ble_eq_true rfl) k_126 rfl d_M_shift_54 ?_
    refine j_iload_n (pc := 57) C d_M_shift_57 rfl 1 rfl ?_
    obtain ⟨hi14, hw⟩ := hw
    refine j_iald (pc := 58) C 3 0 rfl rfl hi14 d_M_shift_58 ?_
    refine j_nmi (fun x15 e_x15 => ?_)
    have hw := hw x15 e_x15
    refine j_istore_n (pc := 59) (lv' := [(3, .int x15), (0, .ref (ad 0)), (1, .int y1), (2, .int y2)]) C d_M_shift_59 rfl (Nat.le_of_ble_eq_true rfl) rfl ?_
    refine j_aload_n (pc := 60) C d_M_shift_60 rfl 1 rfl ?_
    refine j_get (pc := 61) C i_M 0 rfl rfl 5 (Nat.le_of_ble_eq_true rfl) k_126 rfl d_M_shift_61 ?_
    refine j_iload_n (pc := 64) C d_M_shift_64 rfl 2 rfl ?_
    refine j_iload_n (pc := 65) C d_M_shift_65 rfl 3 rfl ?_
    obtain ⟨hi16, hw⟩ := hw
    obtain ⟨μ17, e_μ17⟩ : ∃ z : SM, z = uM_shifts μ11 (upd (sM_shifts μ11) (Int32.toNatClampNeg y1) y2) := ⟨_, rfl⟩
    have hw := hw μ17 e_μ17
    refine j_iast (pc := 66) (ws' := wM cI cL ad μ17) C 3 0 rfl rfl hi16 (by rw [e_μ17]; rfl) d_M_shift_66 ?_
    refine j_aload_n (pc := 67) C d_M_shift_67 rfl 1 rfl ?_
    refine j_callVv0 (pc := 68) (st := []) (As := []) (wf := wM cI cL ad) C (c_M_spoil (jk_l κ) (jk_G κ) cI cL ad μ17 _ hw) g_M_69 hdV_M_spoil ⟨(Nat.le_of_ble_eq_true rfl), (Nat.le_of_ble_eq_true rfl)⟩ rfl (q0 := 0) rfl rfl rfl rfl (Nat.le_of_ble_eq_true rfl) d_M_shift_68 ⟨(Nat.le_of_ble_eq_true rfl), (Nat.le_of_ble_eq_true rfl)⟩ (fun μ18 hw => ?_)
    refine j_iload_n (pc := 71) C d_M_shift_71 rfl 0 rfl ?_
    exact j_iret (pc := 72) C E hw (Nat.le_of_ble_eq_true rfl) (Nat.le_of_ble_eq_true rfl) d_M_shift_72
  · have hw := hw.2 c13
    refine j_iconst (v := 0) (pc := 51) C d_M_shift_51 (by decide) ?_
    exact j_iret (pc := 52) C E hw (Nat.le_of_ble_eq_true rfl) (Nat.le_of_ble_eq_true rfl) d_M_shift_52
set_option maxHeartbeats 4000000 in
set_option maxRecDepth 100000 in
theorem jn_M_shift_19 {κ : jk_K} {cI cL : ClassId} {ad : Nat → Nat} {Q : Int32 → SM → Prop} (C : jk_C κ b_M_shift R_M rm_M_shift 4 [(cI, .int), (cL, .long)]) (E : jk_E κ (some .int) (va_Qi Q (jk_B (jk_G κ) [(cI, .int), (cL, .long)] (jk_A κ) (wM cI cL ad)) (jk_A κ)) rm_M_shift.cells rm_M_shift.slots) (y1 : Int32) (y2 : Int32) (s0 : Int32) (μ : SM) (hw : wj_M_shift_19 Q y1 y2 s0 μ) : jk_J κ (wM cI cL ad μ) 19 [(0, .ref (ad 0)), (1, .int y1), (2, .int y2)] [.int s0, .ref (ad 0)] 0 0 := by
  unfold wj_M_shift_19 at hw
  refine j_iconst (v := 1) (pc := 19) C d_M_shift_19 (by decide) ?_
  refine j_callVi0 (pc := 20) (st := []) (As := [.int s0, .int 1]) (wf := wM cI cL ad) C (c_M_fails (jk_l κ) (jk_G κ) cI cL ad μ s0 1 _ hw) g_M_65 hdV_M_fails ⟨(Nat.le_of_ble_eq_true rfl), (Nat.le_of_ble_eq_true rfl)⟩ rfl (q0 := 0) rfl rfl rfl rfl (Nat.le_of_ble_eq_true rfl) d_M_shift_20 ⟨(Nat.le_of_ble_eq_true rfl), (Nat.le_of_ble_eq_true rfl)⟩ (fun r6 μ5 hw => ?_)
  refine j_if_ne (pc := 23) (tgt := 51) C d_M_shift_23 (by decide) (fun c7 => ?_) (fun c7 => ?_)
  · have hw := hw.1 c7
    refine j_iconst (v := 0) (pc := 51) C d_M_shift_51 (by decide) ?_
    exact j_iret (pc := 52) C E hw (Nat.le_of_ble_eq_true rfl) (Nat.le_of_ble_eq_true rfl) d_M_shift_52
  · have hw := hw.2 c7
    refine j_aload_n (pc := 26) C d_M_shift_26 rfl 0 rfl ?_
    refine j_iload_n (pc := 27) C d_M_shift_27 rfl 2 rfl ?_
    refine j_i2l (pc := 28) C d_M_shift_28 ?_
    refine j_lconst (v := 0) (pc := 29) C d_M_shift_29 (by decide) ?_
    refine j_ldc2 (v := 3) (pc := 30) C d_M_shift_30 k_140 ?_
    refine j_callSi0 (pc := 33) (st := [.ref (ad 0)]) (As := [.long (Int32.toInt64 y2), .long 0, .long 3]) (wf := wM cI cL ad) C (c_M_within (jk_l κ) (jk_G κ) cI cL ad μ5 (Int32.toInt64 y2) 0 3 _ hw) g_M_74 hdS_M_within ⟨(Nat.le_of_ble_eq_true rfl), (Nat.le_of_ble_eq_true rfl)⟩ rfl rfl (Nat.le_of_ble_eq_true rfl) d_M_shift_33 ⟨(Nat.le_of_ble_eq_true rfl), (Nat.le_of_ble_eq_true rfl)⟩ (fun r9 μ8 hw => ?_)
    refine j_if_ne (pc := 36) (tgt := 43) C d_M_shift_36 (by decide) (fun c10 => ?_) (fun c10 => ?_)
    · have hw := hw.1 c10
      refine j_iconst (v := 0) (pc := 43) C d_M_shift_43 (by decide) ?_
      refine j_locs [0, 1, 2] rfl ?_
      exact jn_M_shift_44 C E y1 y2 0 μ8 hw
    · have hw := hw.2 c10
      refine j_iconst (v := 1) (pc := 39) C d_M_shift_39 (by decide) ?_
      refine j_goto (pc := 40) (tgt := 44) C d_M_shift_40 (by decide) ?_
      refine j_locs [0, 1, 2] rfl ?_
      exact jn_M_shift_44 C E y1 y2 1 μ8 hw
set_option maxHeartbeats 4000000 in
set_option maxRecDepth 100000 in
theorem c_M_shift (l : Launch) (G : va_G) (cI cL : ClassId) (ad : Nat → Nat) (μ : SM) (p1 : Int32) (p2 : Int32) (Q : Int32 → SM → Prop) (hw : wp_M_shift μ p1 p2 Q) : jm_i l G [(cI, .int), (cL, .long)] y_M_shift b_M_shift 4 .int rm_M_shift [.ref (ad 0), .int p1, .int p2] (wM cI cL ad μ) (wM cI cL ad) Q := by
  refine jm_open_i (by decide +kernel) (Nat.le_of_ble_eq_true rfl) ?_
  intro κ hl hG C E hi
  subst hl; subst hG
  unfold wp_M_shift at hw
  refine j_aload_n (pc := 0) C d_M_shift_0 rfl 0 rfl ?_
  refine j_iconst (v := 0) (pc := 1) C d_M_shift_1 (by decide) ?_
  obtain ⟨μ1, e_μ1⟩ : ∃ z : SM, z = uM_thr μ 0 := ⟨_, rfl⟩
  have hw := hw μ1 e_μ1
  refine j_put (pc := 2) (ws' := wM cI cL ad μ1) C i_M t_M t_M_ok n_M 0 rfl rfl 0 (Nat.le_of_ble_eq_true rfl) k_110 rfl (ty := .int) (by decide +kernel) rfl rfl (Nat.le_of_ble_eq_true rfl) (by rw [e_μ1]; rfl) d_M_shift_2 ?_
  refine j_aload_n (pc := 5) C d_M_shift_5 rfl 0 rfl ?_
  refine j_aload_n (pc := 6) C d_M_shift_6 rfl 0 rfl ?_
  refine j_iload_n (pc := 7) C d_M_shift_7 rfl 1 rfl ?_
  refine j_callVi0 (pc := 8) (st := [.ref (ad 0)]) (As := [.int p1]) (wf := wM cI cL ad) C (c_M_isBlock (jk_l κ) (jk_G κ) cI cL ad μ1 p1 _ hw) g_M_54 hdV_M_isBlock ⟨(Nat.le_of_ble_eq_true rfl), (Nat.le_of_ble_eq_true rfl)⟩ rfl (q0 := 0) rfl rfl rfl rfl (Nat.le_of_ble_eq_true rfl) d_M_shift_8 ⟨(Nat.le_of_ble_eq_true rfl), (Nat.le_of_ble_eq_true rfl)⟩ (fun r3 μ2 hw => ?_)
  refine j_if_ne (pc := 11) (tgt := 18) C d_M_shift_11 (by decide) (fun c4 => ?_) (fun c4 => ?_)
  · have hw := hw.1 c4
    refine j_iconst (v := 0) (pc := 18) C d_M_shift_18 (by decide) ?_
    refine j_locs [0, 1, 2] rfl ?_
    exact jn_M_shift_19 C E p1 p2 0 μ2 hw
  · have hw := hw.2 c4
    refine j_iconst (v := 1) (pc := 14) C d_M_shift_14 (by decide) ?_
    refine j_goto (pc := 15) (tgt := 19) C d_M_shift_15 (by decide) ?_
    refine j_locs [0, 1, 2] rfl ?_
    exact jn_M_shift_19 C E p1 p2 1 μ2 hw
