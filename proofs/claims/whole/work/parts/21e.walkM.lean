set_option maxHeartbeats 4000000 in
set_option maxRecDepth 100000 in
theorem lp_M_layRow_132 {κ : jk_K} {cI cL : ClassId} {ad : Nat → Nat} {Q : SM → Prop} {k20 : Int32 → SM → Prop} {k32 : Int32 → Int32 → SM → Prop} (C : jk_C κ b_M_layRow R_M rm_M_layRow 7 [(cI, .int), (cL, .long)]) (E : jk_E κ none (va_Qv Q (jk_B (jk_G κ) [(cI, .int), (cL, .long)] (jk_A κ) (wM cI cL ad)) (jk_A κ)) rm_M_layRow.cells rm_M_layRow.slots) (y1 : Int32) (y2 : Int32) (y3 : Int32) (y4 : Int32) (hk20 : ∀ (y1 : Int32) (μ : SM), k20 y1 μ → jk_J κ (wM cI cL ad μ) 20 [(0, .ref (ad 0)), (1, .int y1)] [] 0 0) (hk32 : ∀ (y2 : Int32) (y3 : Int32) (μ : SM), k32 y2 y3 μ → jk_J κ (wM cI cL ad μ) 32 [(0, .ref (ad 0)), (1, .int y1), (2, .int y2), (3, .int y3)] [] 0 0) : ∀ (n : Nat) (y6 : Int32) (μ : SM), wl_M_layRow_132 y1 y2 y3 y4 Q k20 k32 n y6 μ → jk_J κ (wM cI cL ad μ) 132 [(0, .ref (ad 0)), (1, .int y1), (2, .int y2), (3, .int y3), (4, .int y4), (6, .int y6)] [] 0 0 := by
  intro n
  induction n with
  | zero => intro y6 μ hw; exact hw.elim
  | succ n ih =>
    intro y6 μ hw
    rw [wl_M_layRow_132] at hw
    refine j_iload (pc := 132) C d_M_layRow_132 5 rfl ?_
    refine j_if_le (pc := 134) (tgt := 177) C d_M_layRow_134 (by decide) (fun c25 => ?_) (fun c25 => ?_)
    · have hw := hw.1 c25
      refine j_aload_n (pc := 177) C d_M_layRow_177 rfl 0 rfl ?_
      refine j_get (pc := 178) C i_M 0 rfl rfl 14 (Nat.le_of_ble_eq_true rfl) k_164 rfl d_M_layRow_178 ?_
      refine j_iload (pc := 181) C d_M_layRow_181 5 rfl ?_
      refine j_iload (pc := 183) C d_M_layRow_183 4 rfl ?_
      obtain ⟨hi26, hw⟩ := hw
      obtain ⟨μ27, e_μ27⟩ : ∃ z : SM, z = uM_row μ (upd (sM_row μ) (Int32.toNatClampNeg y6) y4) := ⟨_, rfl⟩
      have hw := hw μ27 e_μ27
      refine j_iast (pc := 185) (ws' := wM cI cL ad μ27) C 10 0 rfl rfl hi26 (by rw [e_μ27]; rfl) d_M_layRow_185 ?_
      refine j_aload_n (pc := 186) C d_M_layRow_186 rfl 0 rfl ?_
      refine j_dup (pc := 187) C d_M_layRow_187 rfl ?_
      refine j_get (pc := 188) C i_M 0 rfl rfl 13 (Nat.le_of_ble_eq_true rfl) k_159 rfl d_M_layRow_188 ?_
      refine j_iconst (v := 1) (pc := 191) C d_M_layRow_191 (by decide) ?_
      refine j_iadd (pc := 192) C d_M_layRow_192 ?_
      obtain ⟨μ28, e_μ28⟩ : ∃ z : SM, z = uM_len μ27 ((sM_len μ27) + 1) := ⟨_, rfl⟩
      have hw := hw μ28 e_μ28
      refine j_put (pc := 193) (ws' := wM cI cL ad μ28) C i_M t_M t_M_ok n_M 0 rfl rfl 13 (Nat.le_of_ble_eq_true rfl) k_159 rfl (ty := .int) (by decide +kernel) rfl rfl (Nat.le_of_ble_eq_true rfl) (by rw [e_μ28]; rfl) d_M_layRow_193 ?_
      refine j_iinc (pc := 196) (lv' := [(3, .int (y3 + 1)), (0, .ref (ad 0)), (1, .int y1), (2, .int y2), (4, .int y4), (6, .int y6)]) C d_M_layRow_196 (k := 3) rfl rfl (Nat.le_of_ble_eq_true rfl) rfl ?_
      refine j_goto (pc := 199) (tgt := 32) C d_M_layRow_199 (by decide) ?_
      refine j_locs [1, 2, 3, 0] rfl ?_
      exact hk32 y2 (y3 + 1) μ28 hw
    · have hw := hw.2 c25
      refine j_aload_n (pc := 137) C d_M_layRow_137 rfl 0 rfl ?_
      refine j_iload (pc := 138) C d_M_layRow_138 4 rfl ?_
      refine j_aload_n (pc := 140) C d_M_layRow_140 rfl 0 rfl ?_
      refine j_get (pc := 141) C i_M 0 rfl rfl 14 (Nat.le_of_ble_eq_true rfl) k_164 rfl d_M_layRow_141 ?_
      refine j_iload (pc := 144) C d_M_layRow_144 5 rfl ?_
      refine j_iconst (v := 1) (pc := 146) C d_M_layRow_146 (by decide) ?_
      refine j_isub (pc := 147) C d_M_layRow_147 ?_
      obtain ⟨hi29, hw⟩ := hw
      refine j_iald (pc := 148) C 10 0 rfl rfl hi29 d_M_layRow_148 ?_
      refine j_callVi0 (pc := 149) (st := []) (As := [.int y4, .int (sM_row μ (Int32.toNatClampNeg (y6 - 1)))]) (wf := wM cI cL ad) C (c_M_isBefore (jk_l κ) (jk_G κ) cI cL ad μ y4 (sM_row μ (Int32.toNatClampNeg (y6 - 1))) _ hw) g_M_108 hdV_M_isBefore ⟨(Nat.le_of_ble_eq_true rfl), (Nat.le_of_ble_eq_true rfl)⟩ rfl (q0 := 0) rfl rfl rfl rfl (Nat.le_of_ble_eq_true rfl) d_M_layRow_149 ⟨(Nat.le_of_ble_eq_true rfl), (Nat.le_of_ble_eq_true rfl)⟩ (fun r31 μ30 hw => ?_)
      refine j_if_eq (pc := 152) (tgt := 177) C d_M_layRow_152 (by decide) (fun c32 => ?_) (fun c32 => ?_)
      · have hw := hw.1 c32
        refine j_aload_n (pc := 177) C d_M_layRow_177 rfl 0 rfl ?_
        refine j_get (pc := 178) C i_M 0 rfl rfl 14 (Nat.le_of_ble_eq_true rfl) k_164 rfl d_M_layRow_178 ?_
        refine j_iload (pc := 181) C d_M_layRow_181 5 rfl ?_
        refine j_iload (pc := 183) C d_M_layRow_183 4 rfl ?_
        obtain ⟨hi33, hw⟩ := hw
        obtain ⟨μ34, e_μ34⟩ : ∃ z : SM, z = uM_row μ30 (upd (sM_row μ30) (Int32.toNatClampNeg y6) y4) := ⟨_, rfl⟩
        have hw := hw μ34 e_μ34
        refine j_iast (pc := 185) (ws' := wM cI cL ad μ34) C 10 0 rfl rfl hi33 (by rw [e_μ34]; rfl) d_M_layRow_185 ?_
        refine j_aload_n (pc := 186) C d_M_layRow_186 rfl 0 rfl ?_
        refine j_dup (pc := 187) C d_M_layRow_187 rfl ?_
        refine j_get (pc := 188) C i_M 0 rfl rfl 13 (Nat.le_of_ble_eq_true rfl) k_159 rfl d_M_layRow_188 ?_
        refine j_iconst (v := 1) (pc := 191) C d_M_layRow_191 (by decide) ?_
        refine j_iadd (pc := 192) C d_M_layRow_192 ?_
        obtain ⟨μ35, e_μ35⟩ : ∃ z : SM, z = uM_len μ34 ((sM_len μ34) + 1) := ⟨_, rfl⟩
        have hw := hw μ35 e_μ35
        refine j_put (pc := 193) (ws' := wM cI cL ad μ35) C i_M t_M t_M_ok n_M 0 rfl rfl 13 (Nat.le_of_ble_eq_true rfl) k_159 rfl (ty := .int) (by decide +kernel) rfl rfl (Nat.le_of_ble_eq_true rfl) (by rw [e_μ35]; rfl) d_M_layRow_193 ?_
        refine j_iinc (pc := 196) (lv' := [(3, .int (y3 + 1)), (0, .ref (ad 0)), (1, .int y1), (2, .int y2), (4, .int y4), (6, .int y6)]) C d_M_layRow_196 (k := 3) rfl rfl (Nat.le_of_ble_eq_true rfl) rfl ?_
        refine j_goto (pc := 199) (tgt := 32) C d_M_layRow_199 (by decide) ?_
        refine j_locs [1, 2, 3, 0] rfl ?_
        exact hk32 y2 (y3 + 1) μ35 hw
      · have hw := hw.2 c32
        refine j_aload_n (pc := 155) C d_M_layRow_155 rfl 0 rfl ?_
        refine j_get (pc := 156) C i_M 0 rfl rfl 14 (Nat.le_of_ble_eq_true rfl) k_164 rfl d_M_layRow_156 ?_
        refine j_iload (pc := 159) C d_M_layRow_159 5 rfl ?_
        refine j_aload_n (pc := 161) C d_M_layRow_161 rfl 0 rfl ?_
        refine j_get (pc := 162) C i_M 0 rfl rfl 14 (Nat.le_of_ble_eq_true rfl) k_164 rfl d_M_layRow_162 ?_
        refine j_iload (pc := 165) C d_M_layRow_165 5 rfl ?_
        refine j_iconst (v := 1) (pc := 167) C d_M_layRow_167 (by decide) ?_
        refine j_isub (pc := 168) C d_M_layRow_168 ?_
        obtain ⟨hi36, hw⟩ := hw
        refine j_iald (pc := 169) C 10 0 rfl rfl hi36 d_M_layRow_169 ?_
        obtain ⟨hi37, hw⟩ := hw
        obtain ⟨μ38, e_μ38⟩ : ∃ z : SM, z = uM_row μ30 (upd (sM_row μ30) (Int32.toNatClampNeg y6) (sM_row μ30 (Int32.toNatClampNeg (y6 - 1)))) := ⟨_, rfl⟩
        have hw := hw μ38 e_μ38
        refine j_iast (pc := 170) (ws' := wM cI cL ad μ38) C 10 0 rfl rfl hi37 (by rw [e_μ38]; rfl) d_M_layRow_170 ?_
        refine j_iinc (pc := 171) (lv' := [(6, .int (y6 + (-1))), (0, .ref (ad 0)), (1, .int y1), (2, .int y2), (3, .int y3), (4, .int y4)]) C d_M_layRow_171 (k := 5) rfl rfl (Nat.le_of_ble_eq_true rfl) rfl ?_
        refine j_goto (pc := 174) (tgt := 132) C d_M_layRow_174 (by decide) ?_
        refine j_locs [1, 2, 3, 4, 5, 0] rfl ?_
        exact ih (y6 + (-1)) μ38 hw
set_option maxHeartbeats 4000000 in
set_option maxRecDepth 100000 in
theorem jn_M_layRow_86 {κ : jk_K} {cI cL : ClassId} {ad : Nat → Nat} {Q : SM → Prop} {k20 : Int32 → SM → Prop} {k32 : Int32 → Int32 → SM → Prop} (C : jk_C κ b_M_layRow R_M rm_M_layRow 7 [(cI, .int), (cL, .long)]) (E : jk_E κ none (va_Qv Q (jk_B (jk_G κ) [(cI, .int), (cL, .long)] (jk_A κ) (wM cI cL ad)) (jk_A κ)) rm_M_layRow.cells rm_M_layRow.slots) (y1 : Int32) (y2 : Int32) (y3 : Int32) (y4 : Int32) (y5 : Int32) (s0 : Int32) (s1 : Int32) (hk20 : ∀ (y1 : Int32) (μ : SM), k20 y1 μ → jk_J κ (wM cI cL ad μ) 20 [(0, .ref (ad 0)), (1, .int y1)] [] 0 0) (hk32 : ∀ (y2 : Int32) (y3 : Int32) (μ : SM), k32 y2 y3 μ → jk_J κ (wM cI cL ad μ) 32 [(0, .ref (ad 0)), (1, .int y1), (2, .int y2), (3, .int y3)] [] 0 0) (μ : SM) (hw : wj_M_layRow_86 Q k20 k32 y1 y2 y3 y4 y5 s0 s1 μ) : jk_J κ (wM cI cL ad μ) 86 [(0, .ref (ad 0)), (1, .int y1), (2, .int y2), (3, .int y3), (4, .int y4), (5, .int y5)] [.int s0, .int s1, .ref (ad 8)] 0 0 := by
  unfold wj_M_layRow_86 at hw
  obtain ⟨hi11, hw⟩ := hw
  obtain ⟨μ12, e_μ12⟩ : ∃ z : SM, z = uM_costs μ (upd (sM_costs μ) (Int32.toNatClampNeg s1) s0) := ⟨_, rfl⟩
  have hw := hw μ12 e_μ12
  refine j_iast (pc := 86) (ws' := wM cI cL ad μ12) C 8 0 rfl rfl hi11 (by rw [e_μ12]; rfl) d_M_layRow_86 ?_
  refine j_aload_n (pc := 87) C d_M_layRow_87 rfl 0 rfl ?_
  refine j_get (pc := 88) C i_M 0 rfl rfl 12 (Nat.le_of_ble_eq_true rfl) k_157 rfl d_M_layRow_88 ?_
  refine j_iload (pc := 91) C d_M_layRow_91 4 rfl ?_
  refine j_iload (pc := 93) C d_M_layRow_93 5 rfl ?_
  refine j_if_eq (pc := 95) (tgt := 114) C d_M_layRow_95 (by decide) (fun c13 => ?_) (fun c13 => ?_)
  · have hw := hw.1 c13
    refine j_lconst (v := 0) (pc := 114) C d_M_layRow_114 (by decide) ?_
    obtain ⟨hi14, hw⟩ := hw
    obtain ⟨μ15, e_μ15⟩ : ∃ z : SM, z = uM_rises μ12 (vp_updL (sM_rises μ12) (Int32.toNatClampNeg y4) 0) := ⟨_, rfl⟩
    have hw := hw μ15 e_μ15
    refine j_last (pc := 115) (ws' := wM cI cL ad μ15) C 9 1 rfl rfl hi14 (by rw [e_μ15]; rfl) d_M_layRow_115 ?_
    refine j_iload (pc := 116) C d_M_layRow_116 5 rfl ?_
    refine j_if_ne (pc := 118) (tgt := 124) C d_M_layRow_118 (by decide) (fun c16 => ?_) (fun c16 => ?_)
    · exact (c16 c13).elim
    · skip
      refine j_goto (pc := 121) (tgt := 196) C d_M_layRow_121 (by decide) ?_
      refine j_iinc (pc := 196) (lv' := [(3, .int (y3 + 1)), (0, .ref (ad 0)), (1, .int y1), (2, .int y2), (4, .int y4), (5, .int y5)]) C d_M_layRow_196 (k := 3) rfl rfl (Nat.le_of_ble_eq_true rfl) rfl ?_
      refine j_goto (pc := 199) (tgt := 32) C d_M_layRow_199 (by decide) ?_
      refine j_locs [1, 2, 3, 0] rfl ?_
      exact hk32 y2 (y3 + 1) μ15 hw
  · have hw := hw.2 c13
    refine j_aload_n (pc := 98) C d_M_layRow_98 rfl 0 rfl ?_
    refine j_iload_n (pc := 99) C d_M_layRow_99 rfl 1 rfl ?_
    refine j_iload_n (pc := 100) C d_M_layRow_100 rfl 3 rfl ?_
    refine j_callVl0 (pc := 101) (st := [.int y4, .ref (ad 9)]) (As := [.int y1, .int y3]) (wf := wM cI cL ad) C (c_M_g (jk_l κ) (jk_G κ) cI cL ad μ12 y1 y3 _ hw) g_M_93 hdV_M_g ⟨(Nat.le_of_ble_eq_true rfl), (Nat.le_of_ble_eq_true rfl)⟩ rfl (q0 := 0) rfl rfl rfl rfl (Nat.le_of_ble_eq_true rfl) d_M_layRow_101 ⟨(Nat.le_of_ble_eq_true rfl), (Nat.le_of_ble_eq_true rfl)⟩ (fun r18 μ17 hw => ?_)
    refine j_aload_n (pc := 104) C d_M_layRow_104 rfl 0 rfl ?_
    refine j_iload_n (pc := 105) C d_M_layRow_105 rfl 1 rfl ?_
    refine j_iload_n (pc := 106) C d_M_layRow_106 rfl 2 rfl ?_
    refine j_callVl0 (pc := 107) (st := [.long r18, .int y4, .ref (ad 9)]) (As := [.int y1, .int y2]) (wf := wM cI cL ad) C (c_M_g (jk_l κ) (jk_G κ) cI cL ad μ17 y1 y2 _ hw) g_M_93 hdV_M_g ⟨(Nat.le_of_ble_eq_true rfl), (Nat.le_of_ble_eq_true rfl)⟩ rfl (q0 := 0) rfl rfl rfl rfl (Nat.le_of_ble_eq_true rfl) d_M_layRow_107 ⟨(Nat.le_of_ble_eq_true rfl), (Nat.le_of_ble_eq_true rfl)⟩ (fun r20 μ19 hw => ?_)
    refine j_lsub (pc := 110) C d_M_layRow_110 ?_
    refine j_goto (pc := 111) (tgt := 115) C d_M_layRow_111 (by decide) ?_
    obtain ⟨hi21, hw⟩ := hw
    obtain ⟨μ22, e_μ22⟩ : ∃ z : SM, z = uM_rises μ19 (vp_updL (sM_rises μ19) (Int32.toNatClampNeg y4) (r18 - r20)) := ⟨_, rfl⟩
    have hw := hw μ22 e_μ22
    refine j_last (pc := 115) (ws' := wM cI cL ad μ22) C 9 1 rfl rfl hi21 (by rw [e_μ22]; rfl) d_M_layRow_115 ?_
    refine j_iload (pc := 116) C d_M_layRow_116 5 rfl ?_
    refine j_if_ne (pc := 118) (tgt := 124) C d_M_layRow_118 (by decide) (fun c23 => ?_) (fun c23 => ?_)
    · skip
      refine j_iload_n (pc := 124) C d_M_layRow_124 rfl 3 rfl ?_
      refine j_istore_n (pc := 125) (lv' := [(2, .int y3), (0, .ref (ad 0)), (1, .int y1), (3, .int y3), (4, .int y4), (5, .int y5)]) C d_M_layRow_125 rfl (Nat.le_of_ble_eq_true rfl) rfl ?_
      refine j_aload_n (pc := 126) C d_M_layRow_126 rfl 1 rfl ?_
      refine j_get (pc := 127) C i_M 0 rfl rfl 13 (Nat.le_of_ble_eq_true rfl) k_159 rfl d_M_layRow_127 ?_
      refine j_nmi (fun x24 e_x24 => ?_)
      have hw := hw x24 e_x24
      refine j_istore (pc := 130) (lv' := [(6, .int x24), (2, .int y3), (0, .ref (ad 0)), (1, .int y1), (3, .int y3), (4, .int y4), (5, .int y5)]) C d_M_layRow_130 (Nat.le_of_ble_eq_true rfl) rfl ?_
      obtain ⟨n39, hw⟩ := hw
      refine j_locs [2, 3, 1, 4, 5, 0] rfl ?_
      exact lp_M_layRow_132 C E y1 y3 y3 y4 hk20 hk32 n39 x24 μ22 hw
    · exact (c13 c23).elim
set_option maxHeartbeats 4000000 in
set_option maxRecDepth 100000 in
theorem lp_M_layRow_32 {κ : jk_K} {cI cL : ClassId} {ad : Nat → Nat} {Q : SM → Prop} {k20 : Int32 → SM → Prop} (C : jk_C κ b_M_layRow R_M rm_M_layRow 7 [(cI, .int), (cL, .long)]) (E : jk_E κ none (va_Qv Q (jk_B (jk_G κ) [(cI, .int), (cL, .long)] (jk_A κ) (wM cI cL ad)) (jk_A κ)) rm_M_layRow.cells rm_M_layRow.slots) (y1 : Int32) (hk20 : ∀ (y1 : Int32) (μ : SM), k20 y1 μ → jk_J κ (wM cI cL ad μ) 20 [(0, .ref (ad 0)), (1, .int y1)] [] 0 0) : ∀ (n : Nat) (y2 : Int32) (y3 : Int32) (μ : SM), wl_M_layRow_32 y1 Q k20 n y2 y3 μ → jk_J κ (wM cI cL ad μ) 32 [(0, .ref (ad 0)), (1, .int y1), (2, .int y2), (3, .int y3)] [] 0 0 := by
  intro n
  induction n with
  | zero => intro y2 y3 μ hw; exact hw.elim
  | succ n ih =>
    intro y2 y3 μ hw
    rw [wl_M_layRow_32] at hw
    refine j_iload_n (pc := 32) C d_M_layRow_32 rfl 3 rfl ?_
    refine j_aload_n (pc := 33) C d_M_layRow_33 rfl 0 rfl ?_
    refine j_get (pc := 34) C i_M 0 rfl rfl 3 (Nat.le_of_ble_eq_true rfl) k_117 rfl d_M_layRow_34 ?_
    refine j_iload_n (pc := 37) C d_M_layRow_37 rfl 1 rfl ?_
    obtain ⟨hi5, hw⟩ := hw
    refine j_iald (pc := 38) C 1 0 rfl rfl hi5 d_M_layRow_38 ?_
    refine j_icmp_ge (pc := 39) (tgt := 202) C d_M_layRow_39 (by decide) (fun c6 => ?_) (fun c6 => ?_)
    · have hw := hw.1 c6
      refine j_iinc (pc := 202) (lv' := [(1, .int (y1 + 1)), (0, .ref (ad 0)), (2, .int y2), (3, .int y3)]) C d_M_layRow_202 (k := 1) rfl rfl (Nat.le_of_ble_eq_true rfl) rfl ?_
      refine j_goto (pc := 205) (tgt := 20) C d_M_layRow_205 (by decide) ?_
      refine j_locs [1, 0] rfl ?_
      exact hk20 (y1 + 1) μ hw
    · have hw := hw.2 c6
      refine j_bipush (v := 24) (pc := 42) C d_M_layRow_42 (by decide) ?_
      refine j_iload_n (pc := 44) C d_M_layRow_44 rfl 1 rfl ?_
      refine j_imul (pc := 45) C d_M_layRow_45 ?_
      refine j_iload_n (pc := 46) C d_M_layRow_46 rfl 3 rfl ?_
      refine j_iadd (pc := 47) C d_M_layRow_47 ?_
      refine j_nmi (fun x7 e_x7 => ?_)
      have hw := hw x7 e_x7
      refine j_istore (pc := 48) (lv' := [(4, .int x7), (0, .ref (ad 0)), (1, .int y1), (2, .int y2), (3, .int y3)]) C d_M_layRow_48 (Nat.le_of_ble_eq_true rfl) rfl ?_
      refine j_aload_n (pc := 50) C d_M_layRow_50 rfl 1 rfl ?_
      refine j_iload_n (pc := 51) C d_M_layRow_51 rfl 2 rfl ?_
      refine j_iload_n (pc := 52) C d_M_layRow_52 rfl 4 rfl ?_
      refine j_callVi0 (pc := 53) (st := []) (As := [.int y1, .int y3]) (wf := wM cI cL ad) C (c_M_isHull (jk_l κ) (jk_G κ) cI cL ad μ y1 y3 _ hw) g_M_104 hdV_M_isHull ⟨(Nat.le_of_ble_eq_true rfl), (Nat.le_of_ble_eq_true rfl)⟩ rfl (q0 := 0) rfl rfl rfl rfl (Nat.le_of_ble_eq_true rfl) d_M_layRow_53 ⟨(Nat.le_of_ble_eq_true rfl), (Nat.le_of_ble_eq_true rfl)⟩ (fun r9 μ8 hw => ?_)
      refine j_istore (pc := 56) (lv' := [(5, .int r9), (4, .int x7), (0, .ref (ad 0)), (1, .int y1), (2, .int y2), (3, .int y3)]) C d_M_layRow_56 (Nat.le_of_ble_eq_true rfl) rfl ?_
      refine j_aload_n (pc := 58) C d_M_layRow_58 rfl 2 rfl ?_
      refine j_get (pc := 59) C i_M 0 rfl rfl 11 (Nat.le_of_ble_eq_true rfl) k_158 rfl d_M_layRow_59 ?_
      refine j_iload (pc := 62) C d_M_layRow_62 1 rfl ?_
      refine j_iload (pc := 64) C d_M_layRow_64 0 rfl ?_
      refine j_if_eq (pc := 66) (tgt := 85) C d_M_layRow_66 (by decide) (fun c10 => ?_) (fun c10 => ?_)
      · have hw := hw.1 c10
        refine j_iconst (v := 0) (pc := 85) C d_M_layRow_85 (by decide) ?_
        refine j_locs [2, 3, 4, 5, 1, 0] rfl ?_
        exact jn_M_layRow_86 C E y1 y2 y3 x7 r9 0 x7 hk20 (fun y2 y3 μ hw => ih y2 y3 μ hw) μ8 hw
      · have hw := hw.2 c10
        refine j_aload_n (pc := 69) C d_M_layRow_69 rfl 2 rfl ?_
        refine j_iload_n (pc := 70) C d_M_layRow_70 rfl 3 rfl ?_
        refine j_iload_n (pc := 71) C d_M_layRow_71 rfl 5 rfl ?_
        refine j_callVi0 (pc := 72) (st := [.int x7, .ref (ad 8)]) (As := [.int y1, .int y3]) (wf := wM cI cL ad) C (c_M_l (jk_l κ) (jk_G κ) cI cL ad μ8 y1 y3 _ hw) g_M_97 hdV_M_l ⟨(Nat.le_of_ble_eq_true rfl), (Nat.le_of_ble_eq_true rfl)⟩ rfl (q0 := 0) rfl rfl rfl rfl (Nat.le_of_ble_eq_true rfl) d_M_layRow_72 ⟨(Nat.le_of_ble_eq_true rfl), (Nat.le_of_ble_eq_true rfl)⟩ (fun r41 μ40 hw => ?_)
        refine j_aload_n (pc := 75) C d_M_layRow_75 rfl 2 rfl ?_
        refine j_iload_n (pc := 76) C d_M_layRow_76 rfl 3 rfl ?_
        refine j_iload_n (pc := 77) C d_M_layRow_77 rfl 4 rfl ?_
        refine j_callVi0 (pc := 78) (st := [.int r41, .int x7, .ref (ad 8)]) (As := [.int y1, .int y2]) (wf := wM cI cL ad) C (c_M_l (jk_l κ) (jk_G κ) cI cL ad μ40 y1 y2 _ hw) g_M_97 hdV_M_l ⟨(Nat.le_of_ble_eq_true rfl), (Nat.le_of_ble_eq_true rfl)⟩ rfl (q0 := 0) rfl rfl rfl rfl (Nat.le_of_ble_eq_true rfl) d_M_layRow_78 ⟨(Nat.le_of_ble_eq_true rfl), (Nat.le_of_ble_eq_true rfl)⟩ (fun r43 μ42 hw => ?_)
        refine j_isub (pc := 81) C d_M_layRow_81 ?_
        refine j_goto (pc := 82) (tgt := 86) C d_M_layRow_82 (by decide) ?_
        refine j_locs [2, 3, 4, 5, 1, 0] rfl ?_
        exact jn_M_layRow_86 C E y1 y2 y3 x7 r9 (r41 - r43) x7 hk20 (fun y2 y3 μ hw => ih y2 y3 μ hw) μ42 hw
set_option maxHeartbeats 4000000 in
set_option maxRecDepth 100000 in
theorem lp_M_layRow_20 {κ : jk_K} {cI cL : ClassId} {ad : Nat → Nat} {Q : SM → Prop} (C : jk_C κ b_M_layRow R_M rm_M_layRow 7 [(cI, .int), (cL, .long)]) (E : jk_E κ none (va_Qv Q (jk_B (jk_G κ) [(cI, .int), (cL, .long)] (jk_A κ) (wM cI cL ad)) (jk_A κ)) rm_M_layRow.cells rm_M_layRow.slots)  : ∀ (n : Nat) (y1 : Int32) (μ : SM), wl_M_layRow_20 Q n y1 μ → jk_J κ (wM cI cL ad μ) 20 [(0, .ref (ad 0)), (1, .int y1)] [] 0 0 := by
  intro n
  induction n with
  | zero => intro y1 μ hw; exact hw.elim
  | succ n ih =>
    intro y1 μ hw
    rw [wl_M_layRow_20] at hw
    refine j_iload_n (pc := 20) C d_M_layRow_20 rfl 1 rfl ?_
    refine j_aload_n (pc := 21) C d_M_layRow_21 rfl 0 rfl ?_
    refine j_get (pc := 22) C i_M 0 rfl rfl 2 (Nat.le_of_ble_eq_true rfl) k_111 rfl d_M_layRow_22 ?_
    refine j_icmp_ge (pc := 25) (tgt := 208) C d_M_layRow_25 (by decide) (fun c4 => ?_) (fun c4 => ?_)
    · have hw := hw.1 c4
      exact j_vret (pc := 208) C E hw (Nat.le_of_ble_eq_true rfl) (Nat.le_of_ble_eq_true rfl) d_M_layRow_208
    · have hw := hw.2 c4
      refine j_iconst (v := (-1)) (pc := 28) C d_M_layRow_28 (by decide) ?_
      refine j_istore_n (pc := 29) (lv' := [(2, .int (-1)), (0, .ref (ad 0)), (1, .int y1)]) C d_M_layRow_29 rfl (Nat.le_of_ble_eq_true rfl) rfl ?_
      refine j_iconst (v := 0) (pc := 30) C d_M_layRow_30 (by decide) ?_
      refine j_istore_n (pc := 31) (lv' := [(3, .int 0), (2, .int (-1)), (0, .ref (ad 0)), (1, .int y1)]) C d_M_layRow_31 rfl (Nat.le_of_ble_eq_true rfl) rfl ?_
      obtain ⟨n44, hw⟩ := hw
      refine j_locs [2, 3, 1, 0] rfl ?_
      exact lp_M_layRow_32 C E y1 (fun y1 μ hw => ih y1 μ hw) n44 (-1) 0 μ hw
set_option maxHeartbeats 4000000 in
set_option maxRecDepth 100000 in
theorem c_M_layRow (l : Launch) (G : va_G) (cI cL : ClassId) (ad : Nat → Nat) (μ : SM) (Q : SM → Prop) (hw : wp_M_layRow μ Q) : jm_v l G [(cI, .int), (cL, .long)] y_M_layRow b_M_layRow 7 rm_M_layRow [.ref (ad 0)] (wM cI cL ad μ) (wM cI cL ad) Q := by
  refine jm_open_v (by decide +kernel) (Nat.le_of_ble_eq_true rfl) ?_
  intro κ hl hG C E hi
  subst hl; subst hG
  unfold wp_M_layRow at hw
  refine j_aload_n (pc := 0) C d_M_layRow_0 rfl 0 rfl ?_
  refine j_get (pc := 1) C i_M 0 rfl rfl 10 (Nat.le_of_ble_eq_true rfl) k_119 rfl d_M_layRow_1 ?_
  refine j_if_eq (pc := 4) (tgt := 8) C d_M_layRow_4 (by decide) (fun c1 => ?_) (fun c1 => ?_)
  · have hw := hw.1 c1
    refine j_aload_n (pc := 8) C d_M_layRow_8 rfl 0 rfl ?_
    refine j_iconst (v := 1) (pc := 9) C d_M_layRow_9 (by decide) ?_
    obtain ⟨μ2, e_μ2⟩ : ∃ z : SM, z = uM_laid μ 1 := ⟨_, rfl⟩
    have hw := hw μ2 e_μ2
    refine j_put (pc := 10) (ws' := wM cI cL ad μ2) C i_M t_M t_M_ok n_M 0 rfl rfl 10 (Nat.le_of_ble_eq_true rfl) k_119 rfl (ty := .boolean) (by decide +kernel) rfl rfl (Nat.le_of_ble_eq_true rfl) (by rw [e_μ2]; rfl) d_M_layRow_10 ?_
    refine j_aload_n (pc := 13) C d_M_layRow_13 rfl 0 rfl ?_
    refine j_iconst (v := 0) (pc := 14) C d_M_layRow_14 (by decide) ?_
    obtain ⟨μ3, e_μ3⟩ : ∃ z : SM, z = uM_len μ2 0 := ⟨_, rfl⟩
    have hw := hw μ3 e_μ3
    refine j_put (pc := 15) (ws' := wM cI cL ad μ3) C i_M t_M t_M_ok n_M 0 rfl rfl 13 (Nat.le_of_ble_eq_true rfl) k_159 rfl (ty := .int) (by decide +kernel) rfl rfl (Nat.le_of_ble_eq_true rfl) (by rw [e_μ3]; rfl) d_M_layRow_15 ?_
    refine j_iconst (v := 0) (pc := 18) C d_M_layRow_18 (by decide) ?_
    refine j_istore_n (pc := 19) (lv' := [(1, .int 0), (0, .ref (ad 0))]) C d_M_layRow_19 rfl (Nat.le_of_ble_eq_true rfl) rfl ?_
    obtain ⟨n45, hw⟩ := hw
    refine j_locs [1, 0] rfl ?_
    exact lp_M_layRow_20 C E  n45 0 μ3 hw
  · have hw := hw.2 c1
    exact j_vret (pc := 7) C E hw (Nat.le_of_ble_eq_true rfl) (Nat.le_of_ble_eq_true rfl) d_M_layRow_7
set_option maxHeartbeats 4000000 in
set_option maxRecDepth 100000 in
theorem lp_M_run_45 {κ : jk_K} {cI cL : ClassId} {ad : Nat → Nat} {Q : Int32 → SM → Prop} {k15 : Int32 → Int32 → Int32 → SM → Prop} (C : jk_C κ b_M_run R_M rm_M_run 5 [(cI, .int), (cL, .long)]) (E : jk_E κ (some .int) (va_Qi Q (jk_B (jk_G κ) [(cI, .int), (cL, .long)] (jk_A κ) (wM cI cL ad)) (jk_A κ)) rm_M_run.cells rm_M_run.slots) (y2 : Int32) (y3 : Int32) (hk15 : ∀ (y1 : Int32) (y2 : Int32) (y3 : Int32) (μ : SM), k15 y1 y2 y3 μ → jk_J κ (wM cI cL ad μ) 15 [(0, .ref (ad 0)), (1, .int y1), (2, .int y2), (3, .int y3)] [] 0 0) : ∀ (n : Nat) (y1 : Int32) (y4 : Int32) (μ : SM), wl_M_run_45 y2 y3 Q k15 n y1 y4 μ → jk_J κ (wM cI cL ad μ) 45 [(0, .ref (ad 0)), (1, .int y1), (2, .int y2), (3, .int y3), (4, .int y4)] [] 0 0 := by
  intro n
  induction n with
  | zero => intro y1 y4 μ hw; exact hw.elim
  | succ n ih =>
    intro y1 y4 μ hw
    rw [wl_M_run_45] at hw
    refine j_iload_n (pc := 45) C d_M_run_45 rfl 1 rfl ?_
    refine j_aload_n (pc := 46) C d_M_run_46 rfl 0 rfl ?_
    refine j_get (pc := 47) C i_M 0 rfl rfl 13 (Nat.le_of_ble_eq_true rfl) k_159 rfl d_M_run_47 ?_
    refine j_icmp_ge (pc := 50) (tgt := 98) C d_M_run_50 (by decide) (fun c11 => ?_) (fun c11 => ?_)
    · have hw := hw.1 c11
      refine j_aload_n (pc := 98) C d_M_run_98 rfl 0 rfl ?_
      refine j_get (pc := 99) C i_M 0 rfl rfl 16 (Nat.le_of_ble_eq_true rfl) k_173 rfl d_M_run_99 ?_
      refine j_iload_n (pc := 102) C d_M_run_102 rfl 3 rfl ?_
      refine j_iconst (v := 1) (pc := 103) C d_M_run_103 (by decide) ?_
      refine j_iadd (pc := 104) C d_M_run_104 ?_
      refine j_iload_n (pc := 105) C d_M_run_105 rfl 1 rfl ?_
      obtain ⟨hi12, hw⟩ := hw
      obtain ⟨μ13, e_μ13⟩ : ∃ z : SM, z = uM_given μ (upd (sM_given μ) (Int32.toNatClampNeg (y3 + 1)) y1) := ⟨_, rfl⟩
      have hw := hw μ13 e_μ13
      refine j_iast (pc := 106) (ws' := wM cI cL ad μ13) C 11 0 rfl rfl hi12 (by rw [e_μ13]; rfl) d_M_run_106 ?_
      refine j_iinc (pc := 107) (lv' := [(3, .int (y3 + 1)), (0, .ref (ad 0)), (1, .int y1), (2, .int y2), (4, .int y4)]) C d_M_run_107 (k := 3) rfl rfl (Nat.le_of_ble_eq_true rfl) rfl ?_
      refine j_goto (pc := 110) (tgt := 15) C d_M_run_110 (by decide) ?_
      refine j_locs [1, 2, 3, 0] rfl ?_
      exact hk15 y1 y2 (y3 + 1) μ13 hw
    · have hw := hw.2 c11
      refine j_iload (pc := 53) C d_M_run_53 4 rfl ?_
      refine j_aload_n (pc := 55) C d_M_run_55 rfl 0 rfl ?_
      refine j_get (pc := 56) C i_M 0 rfl rfl 11 (Nat.le_of_ble_eq_true rfl) k_158 rfl d_M_run_56 ?_
      refine j_aload_n (pc := 59) C d_M_run_59 rfl 0 rfl ?_
      refine j_get (pc := 60) C i_M 0 rfl rfl 14 (Nat.le_of_ble_eq_true rfl) k_164 rfl d_M_run_60 ?_
      refine j_iload_n (pc := 63) C d_M_run_63 rfl 1 rfl ?_
      obtain ⟨hi14, hw⟩ := hw
      refine j_iald (pc := 64) C 10 0 rfl rfl hi14 d_M_run_64 ?_
      obtain ⟨hi15, hw⟩ := hw
      refine j_iald (pc := 65) C 8 0 rfl rfl hi15 d_M_run_65 ?_
      refine j_iadd (pc := 66) C d_M_run_66 ?_
      refine j_aload_n (pc := 67) C d_M_run_67 rfl 0 rfl ?_
      refine j_get (pc := 68) C i_M 0 rfl rfl 8 (Nat.le_of_ble_eq_true rfl) k_146 rfl d_M_run_68 ?_
      refine j_iload_n (pc := 71) C d_M_run_71 rfl 3 rfl ?_
      obtain ⟨hi16, hw⟩ := hw
      refine j_iald (pc := 72) C 6 0 rfl rfl hi16 d_M_run_72 ?_
      refine j_icmp_gt (pc := 73) (tgt := 98) C d_M_run_73 (by decide) (fun c17 => ?_) (fun c17 => ?_)
      · have hw := hw.1 c17
        refine j_aload_n (pc := 98) C d_M_run_98 rfl 0 rfl ?_
        refine j_get (pc := 99) C i_M 0 rfl rfl 16 (Nat.le_of_ble_eq_true rfl) k_173 rfl d_M_run_99 ?_
        refine j_iload_n (pc := 102) C d_M_run_102 rfl 3 rfl ?_
        refine j_iconst (v := 1) (pc := 103) C d_M_run_103 (by decide) ?_
        refine j_iadd (pc := 104) C d_M_run_104 ?_
        refine j_iload_n (pc := 105) C d_M_run_105 rfl 1 rfl ?_
        obtain ⟨hi18, hw⟩ := hw
        obtain ⟨μ19, e_μ19⟩ : ∃ z : SM, z = uM_given μ (upd (sM_given μ) (Int32.toNatClampNeg (y3 + 1)) y1) := ⟨_, rfl⟩
        have hw := hw μ19 e_μ19
        refine j_iast (pc := 106) (ws' := wM cI cL ad μ19) C 11 0 rfl rfl hi18 (by rw [e_μ19]; rfl) d_M_run_106 ?_
        refine j_iinc (pc := 107) (lv' := [(3, .int (y3 + 1)), (0, .ref (ad 0)), (1, .int y1), (2, .int y2), (4, .int y4)]) C d_M_run_107 (k := 3) rfl rfl (Nat.le_of_ble_eq_true rfl) rfl ?_
        refine j_goto (pc := 110) (tgt := 15) C d_M_run_110 (by decide) ?_
        refine j_locs [1, 2, 3, 0] rfl ?_
        exact hk15 y1 y2 (y3 + 1) μ19 hw
      · have hw := hw.2 c17
        refine j_iload (pc := 76) C d_M_run_76 4 rfl ?_
        refine j_aload_n (pc := 78) C d_M_run_78 rfl 0 rfl ?_
        refine j_get (pc := 79) C i_M 0 rfl rfl 11 (Nat.le_of_ble_eq_true rfl) k_158 rfl d_M_run_79 ?_
        refine j_aload_n (pc := 82) C d_M_run_82 rfl 0 rfl ?_
        refine j_get (pc := 83) C i_M 0 rfl rfl 14 (Nat.le_of_ble_eq_true rfl) k_164 rfl d_M_run_83 ?_
        refine j_iload_n (pc := 86) C d_M_run_86 rfl 1 rfl ?_
        obtain ⟨hi20, hw⟩ := hw
        refine j_iald (pc := 87) C 10 0 rfl rfl hi20 d_M_run_87 ?_
        obtain ⟨hi21, hw⟩ := hw
        refine j_iald (pc := 88) C 8 0 rfl rfl hi21 d_M_run_88 ?_
        refine j_iadd (pc := 89) C d_M_run_89 ?_
        refine j_nmi (fun x22 e_x22 => ?_)
        have hw := hw x22 e_x22
        refine j_istore (pc := 90) (lv' := [(4, .int x22), (0, .ref (ad 0)), (1, .int y1), (2, .int y2), (3, .int y3)]) C d_M_run_90 (Nat.le_of_ble_eq_true rfl) rfl ?_
        refine j_iinc (pc := 92) (lv' := [(1, .int (y1 + 1)), (4, .int x22), (0, .ref (ad 0)), (2, .int y2), (3, .int y3)]) C d_M_run_92 (k := 2) rfl rfl (Nat.le_of_ble_eq_true rfl) rfl ?_
        refine j_goto (pc := 95) (tgt := 45) C d_M_run_95 (by decide) ?_
        refine j_locs [2, 0, 3, 4, 1] rfl ?_
        exact ih (y1 + 1) x22 μ hw
set_option maxHeartbeats 4000000 in
set_option maxRecDepth 100000 in
theorem lp_M_run_15 {κ : jk_K} {cI cL : ClassId} {ad : Nat → Nat} {Q : Int32 → SM → Prop} (C : jk_C κ b_M_run R_M rm_M_run 5 [(cI, .int), (cL, .long)]) (E : jk_E κ (some .int) (va_Qi Q (jk_B (jk_G κ) [(cI, .int), (cL, .long)] (jk_A κ) (wM cI cL ad)) (jk_A κ)) rm_M_run.cells rm_M_run.slots)  : ∀ (n : Nat) (y1 : Int32) (y2 : Int32) (y3 : Int32) (μ : SM), wl_M_run_15 Q n y1 y2 y3 μ → jk_J κ (wM cI cL ad μ) 15 [(0, .ref (ad 0)), (1, .int y1), (2, .int y2), (3, .int y3)] [] 0 0 := by
  intro n
  induction n with
  | zero => intro y1 y2 y3 μ hw; exact hw.elim
  | succ n ih =>
    intro y1 y2 y3 μ hw
    rw [wl_M_run_15] at hw
    refine j_iload_n (pc := 15) C d_M_run_15 rfl 3 rfl ?_
    refine j_aload_n (pc := 16) C d_M_run_16 rfl 0 rfl ?_
    refine j_get (pc := 17) C i_M 0 rfl rfl 1 (Nat.le_of_ble_eq_true rfl) k_118 rfl d_M_run_17 ?_
    refine j_icmp_ge (pc := 20) (tgt := 113) C d_M_run_20 (by decide) (fun c3 => ?_) (fun c3 => ?_)
    · have hw := hw.1 c3
      refine j_aload_n (pc := 113) C d_M_run_113 rfl 0 rfl ?_
      refine j_iconst (v := 1) (pc := 114) C d_M_run_114 (by decide) ?_
      obtain ⟨μ4, e_μ4⟩ : ∃ z : SM, z = uM_shared μ 1 := ⟨_, rfl⟩
      have hw := hw μ4 e_μ4
      refine j_put (pc := 115) (ws' := wM cI cL ad μ4) C i_M t_M t_M_ok n_M 0 rfl rfl 15 (Nat.le_of_ble_eq_true rfl) k_120 rfl (ty := .boolean) (by decide +kernel) rfl rfl (Nat.le_of_ble_eq_true rfl) (by rw [e_μ4]; rfl) d_M_run_115 ?_
      refine j_iload_n (pc := 118) C d_M_run_118 rfl 2 rfl ?_
      exact j_iret (pc := 119) C E hw (Nat.le_of_ble_eq_true rfl) (Nat.le_of_ble_eq_true rfl) d_M_run_119
    · have hw := hw.2 c3
      refine j_aload_n (pc := 23) C d_M_run_23 rfl 0 rfl ?_
      refine j_get (pc := 24) C i_M 0 rfl rfl 9 (Nat.le_of_ble_eq_true rfl) k_147 rfl d_M_run_24 ?_
      refine j_iload_n (pc := 27) C d_M_run_27 rfl 3 rfl ?_
      obtain ⟨hi5, hw⟩ := hw
      refine j_iald (pc := 28) C 7 0 rfl rfl hi5 d_M_run_28 ?_
      refine j_nmi (fun x6 e_x6 => ?_)
      have hw := hw x6 e_x6
      refine j_istore (pc := 29) (lv' := [(4, .int x6), (0, .ref (ad 0)), (1, .int y1), (2, .int y2), (3, .int y3)]) C d_M_run_29 (Nat.le_of_ble_eq_true rfl) rfl ?_
      refine j_iload (pc := 31) C d_M_run_31 0 rfl ?_
      refine j_aload_n (pc := 33) C d_M_run_33 rfl 1 rfl ?_
      refine j_get (pc := 34) C i_M 0 rfl rfl 8 (Nat.le_of_ble_eq_true rfl) k_146 rfl d_M_run_34 ?_
      refine j_iload_n (pc := 37) C d_M_run_37 rfl 4 rfl ?_
      obtain ⟨hi7, hw⟩ := hw
      refine j_iald (pc := 38) C 6 0 rfl rfl hi7 d_M_run_38 ?_
      refine j_icmp_gt (pc := 39) (tgt := 98) C d_M_run_39 (by decide) (fun c8 => ?_) (fun c8 => ?_)
      · have hw := hw.1 c8
        refine j_aload_n (pc := 98) C d_M_run_98 rfl 1 rfl ?_
        refine j_get (pc := 99) C i_M 0 rfl rfl 16 (Nat.le_of_ble_eq_true rfl) k_173 rfl d_M_run_99 ?_
        refine j_iload_n (pc := 102) C d_M_run_102 rfl 4 rfl ?_
        refine j_iconst (v := 1) (pc := 103) C d_M_run_103 (by decide) ?_
        refine j_iadd (pc := 104) C d_M_run_104 ?_
        refine j_iload_n (pc := 105) C d_M_run_105 rfl 2 rfl ?_
        obtain ⟨hi9, hw⟩ := hw
        obtain ⟨μ10, e_μ10⟩ : ∃ z : SM, z = uM_given μ (upd (sM_given μ) (Int32.toNatClampNeg (y3 + 1)) y1) := ⟨_, rfl⟩
        have hw := hw μ10 e_μ10
        refine j_iast (pc := 106) (ws' := wM cI cL ad μ10) C 11 0 rfl rfl hi9 (by rw [e_μ10]; rfl) d_M_run_106 ?_
        refine j_iinc (pc := 107) (lv' := [(3, .int (y3 + 1)), (4, .int x6), (0, .ref (ad 0)), (1, .int y1), (2, .int y2)]) C d_M_run_107 (k := 4) rfl rfl (Nat.le_of_ble_eq_true rfl) rfl ?_
        refine j_goto (pc := 110) (tgt := 15) C d_M_run_110 (by decide) ?_
        refine j_locs [2, 3, 4, 0] rfl ?_
        exact ih y1 y2 (y3 + 1) μ10 hw
      · have hw := hw.2 c8
        refine j_iinc (pc := 42) (lv' := [(2, .int (y2 + 1)), (4, .int x6), (0, .ref (ad 0)), (1, .int y1), (3, .int y3)]) C d_M_run_42 (k := 3) rfl rfl (Nat.le_of_ble_eq_true rfl) rfl ?_
        obtain ⟨n23, hw⟩ := hw
        refine j_locs [2, 3, 0, 4, 1] rfl ?_
        exact lp_M_run_45 C E (y2 + 1) y3 (fun y1 y2 y3 μ hw => ih y1 y2 y3 μ hw) n23 y1 x6 μ hw
set_option maxHeartbeats 4000000 in
set_option maxRecDepth 100000 in
theorem c_M_run (l : Launch) (G : va_G) (cI cL : ClassId) (ad : Nat → Nat) (μ : SM) (Q : Int32 → SM → Prop) (hw : wp_M_run μ Q) : jm_i l G [(cI, .int), (cL, .long)] y_M_run b_M_run 5 .int rm_M_run [.ref (ad 0)] (wM cI cL ad μ) (wM cI cL ad) Q := by
  refine jm_open_i (by decide +kernel) (Nat.le_of_ble_eq_true rfl) ?_
  intro κ hl hG C E hi
  subst hl; subst hG
  unfold wp_M_run at hw
  refine j_aload_n (pc := 0) C d_M_run_0 rfl 0 rfl ?_
  refine j_iconst (v := 0) (pc := 1) C d_M_run_1 (by decide) ?_
  obtain ⟨μ1, e_μ1⟩ : ∃ z : SM, z = uM_thr μ 0 := ⟨_, rfl⟩
  have hw := hw μ1 e_μ1
  refine j_put (pc := 2) (ws' := wM cI cL ad μ1) C i_M t_M t_M_ok n_M 0 rfl rfl 0 (Nat.le_of_ble_eq_true rfl) k_110 rfl (ty := .int) (by decide +kernel) rfl rfl (Nat.le_of_ble_eq_true rfl) (by rw [e_μ1]; rfl) d_M_run_2 ?_
  refine j_aload_n (pc := 5) C d_M_run_5 rfl 0 rfl ?_
  refine j_callVv0 (pc := 6) (st := []) (As := []) (wf := wM cI cL ad) C (c_M_layRow (jk_l κ) (jk_G κ) cI cL ad μ1 _ hw) g_M_111 hdV_M_layRow ⟨(Nat.le_of_ble_eq_true rfl), (Nat.le_of_ble_eq_true rfl)⟩ rfl (q0 := 0) rfl rfl rfl rfl (Nat.le_of_ble_eq_true rfl) d_M_run_6 ⟨(Nat.le_of_ble_eq_true rfl), (Nat.le_of_ble_eq_true rfl)⟩ (fun μ2 hw => ?_)
  refine j_iconst (v := 0) (pc := 9) C d_M_run_9 (by decide) ?_
  refine j_istore_n (pc := 10) (lv' := [(1, .int 0), (0, .ref (ad 0))]) C d_M_run_10 rfl (Nat.le_of_ble_eq_true rfl) rfl ?_
  refine j_iconst (v := 0) (pc := 11) C d_M_run_11 (by decide) ?_
  refine j_istore_n (pc := 12) (lv' := [(2, .int 0), (1, .int 0), (0, .ref (ad 0))]) C d_M_run_12 rfl (Nat.le_of_ble_eq_true rfl) rfl ?_
  refine j_iconst (v := 0) (pc := 13) C d_M_run_13 (by decide) ?_
  refine j_istore_n (pc := 14) (lv' := [(3, .int 0), (2, .int 0), (1, .int 0), (0, .ref (ad 0))]) C d_M_run_14 rfl (Nat.le_of_ble_eq_true rfl) rfl ?_
  obtain ⟨n24, hw⟩ := hw
  refine j_locs [3, 2, 1, 0] rfl ?_
  exact lp_M_run_15 C E  n24 0 0 0 μ2 hw
