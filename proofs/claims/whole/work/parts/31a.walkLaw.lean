set_option maxHeartbeats 4000000 in
set_option maxRecDepth 100000 in
theorem law_case_0 {κ : jk_K} {cI cL : ClassId} {ad am : Nat → Nat} {o b L : Nat} {xs : Nat → Int32} {k : Nat → Int32 → SX → SM → (Nat → Int64) → Prop} {j : Nat} {i : Int32} {σ : SX} {μ : SM} {f : Nat → Int64} (C : jk_C κ code R_L room_1 8 [(cI, .int), (cL, .long)]) (Zs : (jk_l κ).stackTraces = false ∧ jk_Z (jk_A κ) (jk_s κ)) (Xs : jk_Cs κ b L xs) (hj : j < 512) (ih : ∀ (j : Nat) (i : Int32) (σ : SX) (μ : SM) (f : Nat → Int64), k j i σ μ f → jk_J κ (wL cI cL ad am o (σ, μ, f)) 33 [(0, .ref b), (1, .ref (ad 0)), (2, .ref (am 0)), (3, .ref o), (4, .int i)] [] (26 + 4 * j) (10148 + 24 * j)) (hw : wc_law_0 L xs k j i σ μ f) : jk_J κ (wL cI cL ad am o (σ, μ, f)) 136 [(0, .ref b), (1, .ref (ad 0)), (2, .ref (am 0)), (3, .ref o), (4, .int i)] [] (26 + 4 * j) (10148 + 24 * j) := by
  unfold wc_law_0 at hw
  refine j_aload_n (pc := 136) C d_L_law_136 rfl 1 rfl ?_
  refine j_aload_n (pc := 137) C d_L_law_137 rfl 3 rfl ?_
  refine j_callH (pc := 138) (st := []) (As := [.ref (ad 0), .ref o]) (wc := wO cI cL ad o (σ, f)) (wr := wM cI cL am μ) (wf := wO cI cL ad o) (wn := fun u => wL cI cL ad am o (u.1, μ, u.2)) C Zs.2 (c_L_block (jk_l κ) Zs.1 (jk_G κ) cI cL ad o σ f _ hw) g_L_79 hdS_L_block ⟨(Nat.le_of_ble_eq_true rfl), (Nat.le_of_ble_eq_true rfl)⟩ rfl [0, 1, 2, 3, 4, 5, 6, 7, 8, 9, 10, 11, 12, 25] [13, 14, 15, 16, 17, 18, 19, 20, 21, 22, 23, 24] rfl rfl (by decide) (by decide) (by decide) rfl (Nat.le_of_ble_eq_true rfl) d_L_law_138 ⟨show (26 + 4 * j) + 1 ≤ 601024 by omega, show (10148 + 24 * j) + 6 ≤ 7293000 by omega⟩ [12, 13, 14, 15, 16, 17, 18, 19, 20, 21, 22, 23, 24, 0, 1, 2, 3, 4, 5, 6, 7, 8, 9, 10, 11, 25] (by decide) (fun _ => rfl) (fun k4 u5 hw => ?_)
  refine j_widen (k := (26 + 4 * j) + 1) (n := (10148 + 24 * j) + 6) (Nat.le_refl _) (Nat.le_refl _) ?_
  refine j_istore (pc := 141) (lv' := [(5, .int k4), (0, .ref b), (1, .ref (ad 0)), (2, .ref (am 0)), (3, .ref o), (4, .int i)]) C d_L_law_141 (Nat.le_of_ble_eq_true rfl) rfl ?_
  refine j_aload_n (pc := 143) C d_L_law_143 rfl 3 rfl ?_
  refine j_callVi (pc := 144) (st := []) (As := []) (wc := wM cI cL am μ) (wr := wO cI cL ad o (u5.1, u5.2)) (wf := wM cI cL am) (wn := fun u => wL cI cL ad am o (u5.1, u, u5.2)) C (c_M_block (jk_l κ) (jk_G κ) cI cL am μ _ hw) g_L_82 hdV_M_block ⟨(Nat.le_of_ble_eq_true rfl), (Nat.le_of_ble_eq_true rfl)⟩ rfl (q0 := 0) rfl rfl rfl [13, 14, 15, 16, 17, 18, 19, 20, 21, 22, 23, 24] [0, 1, 2, 3, 4, 5, 6, 7, 8, 9, 10, 11, 12, 25] rfl rfl (by decide) (by decide) (by decide) rfl (Nat.le_of_ble_eq_true rfl) d_L_law_144 ⟨show (26 + 4 * j) + 1 + 0 ≤ 601024 by omega, show (10148 + 24 * j) + 6 + 0 ≤ 7293000 by omega⟩ [0, 1, 2, 3, 4, 5, 6, 7, 8, 9, 10, 11, 12, 14, 15, 16, 17, 18, 19, 20, 21, 22, 23, 24, 25, 13] (by decide) (fun _ => rfl) (fun r6 μ7 hw => ?_)
  refine j_widen (k := (26 + 4 * j) + 1) (n := (10148 + 24 * j) + 6) (Nat.le_refl _) (Nat.le_refl _) ?_
  refine j_istore (pc := 147) (lv' := [(6, .int r6), (5, .int k4), (0, .ref b), (1, .ref (ad 0)), (2, .ref (am 0)), (3, .ref o), (4, .int i)]) C d_L_law_147 (Nat.le_of_ble_eq_true rfl) rfl ?_
  refine j_aload_n (pc := 149) C d_L_law_149 rfl 4 rfl ?_
  refine j_callVi (pc := 150) (st := []) (As := []) (wc := wM cI cL am μ7) (wr := wO cI cL ad o (u5.1, u5.2)) (wf := wM cI cL am) (wn := fun u => wL cI cL ad am o (u5.1, u, u5.2)) C (c_M_thrown (jk_l κ) (jk_G κ) cI cL am μ7 _ hw) g_L_83 hdV_M_thrown ⟨(Nat.le_of_ble_eq_true rfl), (Nat.le_of_ble_eq_true rfl)⟩ rfl (q0 := 0) rfl rfl rfl [13, 14, 15, 16, 17, 18, 19, 20, 21, 22, 23, 24] [0, 1, 2, 3, 4, 5, 6, 7, 8, 9, 10, 11, 12, 25] rfl rfl (by decide) (by decide) (by decide) rfl (Nat.le_of_ble_eq_true rfl) d_L_law_150 ⟨show (26 + 4 * j) + 1 + 0 ≤ 601024 by omega, show (10148 + 24 * j) + 6 + 0 ≤ 7293000 by omega⟩ [0, 1, 2, 3, 4, 5, 6, 7, 8, 9, 10, 11, 12, 14, 15, 16, 17, 18, 19, 20, 21, 22, 23, 24, 25, 13] (by decide) (fun _ => rfl) (fun r8 μ9 hw => ?_)
  refine j_widen (k := (26 + 4 * j) + 1) (n := (10148 + 24 * j) + 6) (Nat.le_refl _) (Nat.le_refl _) ?_
  refine j_iload (pc := 153) C d_L_law_153 1 rfl ?_
  refine j_icmp_eq (pc := 155) (tgt := 160) C d_L_law_155 (by decide) (fun c10 => ?_) (fun c10 => ?_)
  · have hw := hw.1 c10
    refine j_iload (pc := 160) C d_L_law_160 1 rfl ?_
    refine j_if_ne (pc := 162) (tgt := 177) C d_L_law_162 (by decide) (fun c11 => ?_) (fun c11 => ?_)
    · have hw := hw.1 c11
      refine j_goto (pc := 177) (tgt := 1167) C d_L_law_177 (by decide) ?_
      refine j_iinc (pc := 1167) (lv' := [(4, .int (i + 4)), (6, .int r6), (5, .int k4), (0, .ref b), (1, .ref (ad 0)), (2, .ref (am 0)), (3, .ref o)]) C d_L_law_1167 (k := 6) rfl rfl (Nat.le_of_ble_eq_true rfl) rfl ?_
      refine j_goto (pc := 1170) (tgt := 33) C d_L_law_1170 (by decide) ?_
      refine j_locs [3, 4, 5, 6, 0] rfl ?_
      refine j_widen (k := 26 + 4 * (j + 1)) (n := 10148 + 24 * (j + 1)) (show (26 + 4 * j) + 1 ≤ 26 + 4 * (j + 1) by omega) (show (10148 + 24 * j) + 6 ≤ 10148 + 24 * (j + 1) by omega) ?_
      exact ih (j + 1) (i + 4) u5.1 μ9 u5.2 hw
    · have hw := hw.2 c11
      refine j_aload_n (pc := 165) C d_L_law_165 rfl 5 rfl ?_
      refine j_iconst (v := 0) (pc := 166) C d_L_law_166 (by decide) ?_
      refine j_lald (pc := 167) C 25 1 rfl rfl (by unfold vp_in; decide) d_L_law_167 ?_
      refine j_iload (pc := 168) C d_L_law_168 0 rfl ?_
      refine j_i2l (pc := 170) C d_L_law_170 ?_
      refine j_lcmp (pc := 171) C d_L_law_171 ?_
      refine j_if_eq (pc := 172) (tgt := 177) C d_L_law_172 (by decide) (fun c12 => ?_) (fun c12 => ?_)
      · have hw := hw.1 c12
        refine j_goto (pc := 177) (tgt := 1167) C d_L_law_177 (by decide) ?_
        refine j_iinc (pc := 1167) (lv' := [(4, .int (i + 4)), (6, .int r6), (5, .int k4), (0, .ref b), (1, .ref (ad 0)), (2, .ref (am 0)), (3, .ref o)]) C d_L_law_1167 (k := 6) rfl rfl (Nat.le_of_ble_eq_true rfl) rfl ?_
        refine j_goto (pc := 1170) (tgt := 33) C d_L_law_1170 (by decide) ?_
        refine j_locs [3, 4, 5, 6, 0] rfl ?_
        refine j_widen (k := 26 + 4 * (j + 1)) (n := 10148 + 24 * (j + 1)) (show (26 + 4 * j) + 1 ≤ 26 + 4 * (j + 1) by omega) (show (10148 + 24 * j) + 6 ≤ 10148 + 24 * (j + 1) by omega) ?_
        exact ih (j + 1) (i + 4) u5.1 μ9 u5.2 hw
      · have hw := hw.2 c12
        refine j_iconst (v := 0) (pc := 175) C d_L_law_175 (by decide) ?_
        exact hw.elim
  · have hw := hw.2 c10
    refine j_iconst (v := 0) (pc := 158) C d_L_law_158 (by decide) ?_
    exact hw.elim
set_option maxHeartbeats 4000000 in
set_option maxRecDepth 100000 in
theorem law_case_1 {κ : jk_K} {cI cL : ClassId} {ad am : Nat → Nat} {o b L : Nat} {xs : Nat → Int32} {k : Nat → Int32 → SX → SM → (Nat → Int64) → Prop} {j : Nat} {i : Int32} {σ : SX} {μ : SM} {f : Nat → Int64} (C : jk_C κ code R_L room_1 8 [(cI, .int), (cL, .long)]) (Zs : (jk_l κ).stackTraces = false ∧ jk_Z (jk_A κ) (jk_s κ)) (Xs : jk_Cs κ b L xs) (hj : j < 512) (ih : ∀ (j : Nat) (i : Int32) (σ : SX) (μ : SM) (f : Nat → Int64), k j i σ μ f → jk_J κ (wL cI cL ad am o (σ, μ, f)) 33 [(0, .ref b), (1, .ref (ad 0)), (2, .ref (am 0)), (3, .ref o), (4, .int i)] [] (26 + 4 * j) (10148 + 24 * j)) (hw : wc_law_1 L xs k j i σ μ f) : jk_J κ (wL cI cL ad am o (σ, μ, f)) 180 [(0, .ref b), (1, .ref (ad 0)), (2, .ref (am 0)), (3, .ref o), (4, .int i)] [] (26 + 4 * j) (10148 + 24 * j) := by
  unfold wc_law_1 at hw
  refine j_aload_n (pc := 180) C d_L_law_180 rfl 1 rfl ?_
  refine j_aload_n (pc := 181) C d_L_law_181 rfl 0 rfl ?_
  refine j_iload (pc := 182) C d_L_law_182 4 rfl ?_
  refine j_iconst (v := 1) (pc := 184) C d_L_law_184 (by decide) ?_
  refine j_iadd (pc := 185) C d_L_law_185 ?_
  obtain ⟨hi13, hw⟩ := hw
  refine j_sld (pc := 186) C Xs hi13 d_L_law_186 ?_
  refine j_aload_n (pc := 187) C d_L_law_187 rfl 0 rfl ?_
  refine j_iload (pc := 188) C d_L_law_188 4 rfl ?_
  refine j_iconst (v := 2) (pc := 190) C d_L_law_190 (by decide) ?_
  refine j_iadd (pc := 191) C d_L_law_191 ?_
  obtain ⟨hi14, hw⟩ := hw
  refine j_sld (pc := 192) C Xs hi14 d_L_law_192 ?_
  refine j_aload_n (pc := 193) C d_L_law_193 rfl 0 rfl ?_
  refine j_iload (pc := 194) C d_L_law_194 4 rfl ?_
  refine j_iconst (v := 3) (pc := 196) C d_L_law_196 (by decide) ?_
  refine j_iadd (pc := 197) C d_L_law_197 ?_
  obtain ⟨hi15, hw⟩ := hw
  refine j_sld (pc := 198) C Xs hi15 d_L_law_198 ?_
  refine j_aload_n (pc := 199) C d_L_law_199 rfl 3 rfl ?_
  refine j_callH (pc := 200) (st := []) (As := [.ref (ad 0), .int (xs (Int32.toNatClampNeg (i + 1))), .int (xs (Int32.toNatClampNeg (i + 2))), .int (xs (Int32.toNatClampNeg (i + 3))), .ref o]) (wc := wO cI cL ad o (σ, f)) (wr := wM cI cL am μ) (wf := wO cI cL ad o) (wn := fun u => wL cI cL ad am o (u.1, μ, u.2)) C Zs.2 (c_L_pass (jk_l κ) Zs.1 (jk_G κ) cI cL ad o σ f (xs (Int32.toNatClampNeg (i + 1))) (xs (Int32.toNatClampNeg (i + 2))) (xs (Int32.toNatClampNeg (i + 3))) _ hw) g_L_86 hdS_L_pass ⟨(Nat.le_of_ble_eq_true rfl), (Nat.le_of_ble_eq_true rfl)⟩ rfl [0, 1, 2, 3, 4, 5, 6, 7, 8, 9, 10, 11, 12, 25] [13, 14, 15, 16, 17, 18, 19, 20, 21, 22, 23, 24] rfl rfl (by decide) (by decide) (by decide) rfl (Nat.le_of_ble_eq_true rfl) d_L_law_200 ⟨show (26 + 4 * j) + 4 ≤ 601024 by omega, show (10148 + 24 * j) + 24 ≤ 7293000 by omega⟩ [12, 13, 14, 15, 16, 17, 18, 19, 20, 21, 22, 23, 24, 0, 1, 2, 3, 4, 5, 6, 7, 8, 9, 10, 11, 25] (by decide) (fun _ => rfl) (fun k16 u17 hw => ?_)
  refine j_widen (k := (26 + 4 * j) + 4) (n := (10148 + 24 * j) + 24) (Nat.le_refl _) (Nat.le_refl _) ?_
  refine j_istore (pc := 203) (lv' := [(5, .int k16), (0, .ref b), (1, .ref (ad 0)), (2, .ref (am 0)), (3, .ref o), (4, .int i)]) C d_L_law_203 (Nat.le_of_ble_eq_true rfl) rfl ?_
  refine j_aload_n (pc := 205) C d_L_law_205 rfl 3 rfl ?_
  refine j_aload_n (pc := 206) C d_L_law_206 rfl 1 rfl ?_
  refine j_iload (pc := 207) C d_L_law_207 5 rfl ?_
  refine j_iconst (v := 1) (pc := 209) C d_L_law_209 (by decide) ?_
  refine j_iadd (pc := 210) C d_L_law_210 ?_
  obtain ⟨hi18, hw⟩ := hw
  refine j_sld (pc := 211) C Xs hi18 d_L_law_211 ?_
  refine j_aload_n (pc := 212) C d_L_law_212 rfl 1 rfl ?_
  refine j_iload (pc := 213) C d_L_law_213 5 rfl ?_
  refine j_iconst (v := 2) (pc := 215) C d_L_law_215 (by decide) ?_
  refine j_iadd (pc := 216) C d_L_law_216 ?_
  obtain ⟨hi19, hw⟩ := hw
  refine j_sld (pc := 217) C Xs hi19 d_L_law_217 ?_
  refine j_aload_n (pc := 218) C d_L_law_218 rfl 1 rfl ?_
  refine j_iload (pc := 219) C d_L_law_219 5 rfl ?_
  refine j_iconst (v := 3) (pc := 221) C d_L_law_221 (by decide) ?_
  refine j_iadd (pc := 222) C d_L_law_222 ?_
  obtain ⟨hi20, hw⟩ := hw
  refine j_sld (pc := 223) C Xs hi20 d_L_law_223 ?_
  refine j_callVi (pc := 224) (st := []) (As := [.int (xs (Int32.toNatClampNeg (i + 1))), .int (xs (Int32.toNatClampNeg (i + 2))), .int (xs (Int32.toNatClampNeg (i + 3)))]) (wc := wM cI cL am μ) (wr := wO cI cL ad o (u17.1, u17.2)) (wf := wM cI cL am) (wn := fun u => wL cI cL ad am o (u17.1, u, u17.2)) C (c_M_pass (jk_l κ) (jk_G κ) cI cL am μ (xs (Int32.toNatClampNeg (i + 1))) (xs (Int32.toNatClampNeg (i + 2))) (xs (Int32.toNatClampNeg (i + 3))) _ hw) g_L_89 hdV_M_pass ⟨(Nat.le_of_ble_eq_true rfl), (Nat.le_of_ble_eq_true rfl)⟩ rfl (q0 := 0) rfl rfl rfl [13, 14, 15, 16, 17, 18, 19, 20, 21, 22, 23, 24] [0, 1, 2, 3, 4, 5, 6, 7, 8, 9, 10, 11, 12, 25] rfl rfl (by decide) (by decide) (by decide) rfl (Nat.le_of_ble_eq_true rfl) d_L_law_224 ⟨show (26 + 4 * j) + 4 + 0 ≤ 601024 by omega, show (10148 + 24 * j) + 24 + 0 ≤ 7293000 by omega⟩ [0, 1, 2, 3, 4, 5, 6, 7, 8, 9, 10, 11, 12, 14, 15, 16, 17, 18, 19, 20, 21, 22, 23, 24, 25, 13] (by decide) (fun _ => rfl) (fun r21 μ22 hw => ?_)
  refine j_widen (k := (26 + 4 * j) + 4) (n := (10148 + 24 * j) + 24) (Nat.le_refl _) (Nat.le_refl _) ?_
  refine j_istore (pc := 227) (lv' := [(6, .int r21), (5, .int k16), (0, .ref b), (1, .ref (ad 0)), (2, .ref (am 0)), (3, .ref o), (4, .int i)]) C d_L_law_227 (Nat.le_of_ble_eq_true rfl) rfl ?_
  refine j_aload_n (pc := 229) C d_L_law_229 rfl 4 rfl ?_
  refine j_callVi (pc := 230) (st := []) (As := []) (wc := wM cI cL am μ22) (wr := wO cI cL ad o (u17.1, u17.2)) (wf := wM cI cL am) (wn := fun u => wL cI cL ad am o (u17.1, u, u17.2)) C (c_M_thrown (jk_l κ) (jk_G κ) cI cL am μ22 _ hw) g_L_83 hdV_M_thrown ⟨(Nat.le_of_ble_eq_true rfl), (Nat.le_of_ble_eq_true rfl)⟩ rfl (q0 := 0) rfl rfl rfl [13, 14, 15, 16, 17, 18, 19, 20, 21, 22, 23, 24] [0, 1, 2, 3, 4, 5, 6, 7, 8, 9, 10, 11, 12, 25] rfl rfl (by decide) (by decide) (by decide) rfl (Nat.le_of_ble_eq_true rfl) d_L_law_230 ⟨show (26 + 4 * j) + 4 + 0 ≤ 601024 by omega, show (10148 + 24 * j) + 24 + 0 ≤ 7293000 by omega⟩ [0, 1, 2, 3, 4, 5, 6, 7, 8, 9, 10, 11, 12, 14, 15, 16, 17, 18, 19, 20, 21, 22, 23, 24, 25, 13] (by decide) (fun _ => rfl) (fun r23 μ24 hw => ?_)
  refine j_widen (k := (26 + 4 * j) + 4) (n := (10148 + 24 * j) + 24) (Nat.le_refl _) (Nat.le_refl _) ?_
  refine j_iload (pc := 233) C d_L_law_233 1 rfl ?_
  refine j_icmp_eq (pc := 235) (tgt := 240) C d_L_law_235 (by decide) (fun c25 => ?_) (fun c25 => ?_)
  · have hw := hw.1 c25
    refine j_iload (pc := 240) C d_L_law_240 1 rfl ?_
    refine j_if_ne (pc := 242) (tgt := 257) C d_L_law_242 (by decide) (fun c26 => ?_) (fun c26 => ?_)
    · have hw := hw.1 c26
      refine j_goto (pc := 257) (tgt := 1167) C d_L_law_257 (by decide) ?_
      refine j_iinc (pc := 1167) (lv' := [(4, .int (i + 4)), (6, .int r21), (5, .int k16), (0, .ref b), (1, .ref (ad 0)), (2, .ref (am 0)), (3, .ref o)]) C d_L_law_1167 (k := 6) rfl rfl (Nat.le_of_ble_eq_true rfl) rfl ?_
      refine j_goto (pc := 1170) (tgt := 33) C d_L_law_1170 (by decide) ?_
      refine j_locs [3, 4, 5, 6, 0] rfl ?_
      refine j_widen (k := 26 + 4 * (j + 1)) (n := 10148 + 24 * (j + 1)) (show (26 + 4 * j) + 4 ≤ 26 + 4 * (j + 1) by omega) (show (10148 + 24 * j) + 24 ≤ 10148 + 24 * (j + 1) by omega) ?_
      exact ih (j + 1) (i + 4) u17.1 μ24 u17.2 hw
    · have hw := hw.2 c26
      refine j_aload_n (pc := 245) C d_L_law_245 rfl 5 rfl ?_
      refine j_iconst (v := 0) (pc := 246) C d_L_law_246 (by decide) ?_
      refine j_lald (pc := 247) C 25 1 rfl rfl (by unfold vp_in; decide) d_L_law_247 ?_
      refine j_iload (pc := 248) C d_L_law_248 0 rfl ?_
      refine j_i2l (pc := 250) C d_L_law_250 ?_
      refine j_lcmp (pc := 251) C d_L_law_251 ?_
      refine j_if_eq (pc := 252) (tgt := 257) C d_L_law_252 (by decide) (fun c27 => ?_) (fun c27 => ?_)
      · have hw := hw.1 c27
        refine j_goto (pc := 257) (tgt := 1167) C d_L_law_257 (by decide) ?_
        refine j_iinc (pc := 1167) (lv' := [(4, .int (i + 4)), (6, .int r21), (5, .int k16), (0, .ref b), (1, .ref (ad 0)), (2, .ref (am 0)), (3, .ref o)]) C d_L_law_1167 (k := 6) rfl rfl (Nat.le_of_ble_eq_true rfl) rfl ?_
        refine j_goto (pc := 1170) (tgt := 33) C d_L_law_1170 (by decide) ?_
        refine j_locs [3, 4, 5, 6, 0] rfl ?_
        refine j_widen (k := 26 + 4 * (j + 1)) (n := 10148 + 24 * (j + 1)) (show (26 + 4 * j) + 4 ≤ 26 + 4 * (j + 1) by omega) (show (10148 + 24 * j) + 24 ≤ 10148 + 24 * (j + 1) by omega) ?_
        exact ih (j + 1) (i + 4) u17.1 μ24 u17.2 hw
      · have hw := hw.2 c27
        refine j_iconst (v := 0) (pc := 255) C d_L_law_255 (by decide) ?_
        exact hw.elim
  · have hw := hw.2 c25
    refine j_iconst (v := 0) (pc := 238) C d_L_law_238 (by decide) ?_
    exact hw.elim
set_option maxHeartbeats 4000000 in
set_option maxRecDepth 100000 in
theorem law_case_2 {κ : jk_K} {cI cL : ClassId} {ad am : Nat → Nat} {o b L : Nat} {xs : Nat → Int32} {k : Nat → Int32 → SX → SM → (Nat → Int64) → Prop} {j : Nat} {i : Int32} {σ : SX} {μ : SM} {f : Nat → Int64} (C : jk_C κ code R_L room_1 8 [(cI, .int), (cL, .long)]) (Zs : (jk_l κ).stackTraces = false ∧ jk_Z (jk_A κ) (jk_s κ)) (Xs : jk_Cs κ b L xs) (hj : j < 512) (ih : ∀ (j : Nat) (i : Int32) (σ : SX) (μ : SM) (f : Nat → Int64), k j i σ μ f → jk_J κ (wL cI cL ad am o (σ, μ, f)) 33 [(0, .ref b), (1, .ref (ad 0)), (2, .ref (am 0)), (3, .ref o), (4, .int i)] [] (26 + 4 * j) (10148 + 24 * j)) (hw : wc_law_2 L xs k j i σ μ f) : jk_J κ (wL cI cL ad am o (σ, μ, f)) 260 [(0, .ref b), (1, .ref (ad 0)), (2, .ref (am 0)), (3, .ref o), (4, .int i)] [] (26 + 4 * j) (10148 + 24 * j) := by
  unfold wc_law_2 at hw
  refine j_aload_n (pc := 260) C d_L_law_260 rfl 1 rfl ?_
  refine j_aload_n (pc := 261) C d_L_law_261 rfl 0 rfl ?_
  refine j_iload (pc := 262) C d_L_law_262 4 rfl ?_
  refine j_iconst (v := 1) (pc := 264) C d_L_law_264 (by decide) ?_
  refine j_iadd (pc := 265) C d_L_law_265 ?_
  obtain ⟨hi28, hw⟩ := hw
  refine j_sld (pc := 266) C Xs hi28 d_L_law_266 ?_
  refine j_aload_n (pc := 267) C d_L_law_267 rfl 0 rfl ?_
  refine j_iload (pc := 268) C d_L_law_268 4 rfl ?_
  refine j_iconst (v := 2) (pc := 270) C d_L_law_270 (by decide) ?_
  refine j_iadd (pc := 271) C d_L_law_271 ?_
  obtain ⟨hi29, hw⟩ := hw
  refine j_sld (pc := 272) C Xs hi29 d_L_law_272 ?_
  refine j_aload_n (pc := 273) C d_L_law_273 rfl 3 rfl ?_
  refine j_callH (pc := 274) (st := []) (As := [.ref (ad 0), .int (xs (Int32.toNatClampNeg (i + 1))), .int (xs (Int32.toNatClampNeg (i + 2))), .ref o]) (wc := wO cI cL ad o (σ, f)) (wr := wM cI cL am μ) (wf := wO cI cL ad o) (wn := fun u => wL cI cL ad am o (u.1, μ, u.2)) C Zs.2 (c_L_weight (jk_l κ) Zs.1 (jk_G κ) cI cL ad o σ f (xs (Int32.toNatClampNeg (i + 1))) (xs (Int32.toNatClampNeg (i + 2))) _ hw) g_L_90 hdS_L_weight ⟨(Nat.le_of_ble_eq_true rfl), (Nat.le_of_ble_eq_true rfl)⟩ rfl [0, 1, 2, 3, 4, 5, 6, 7, 8, 9, 10, 11, 12, 25] [13, 14, 15, 16, 17, 18, 19, 20, 21, 22, 23, 24] rfl rfl (by decide) (by decide) (by decide) rfl (Nat.le_of_ble_eq_true rfl) d_L_law_274 ⟨show (26 + 4 * j) + 2 ≤ 601024 by omega, show (10148 + 24 * j) + 12 ≤ 7293000 by omega⟩ [12, 13, 14, 15, 16, 17, 18, 19, 20, 21, 22, 23, 24, 0, 1, 2, 3, 4, 5, 6, 7, 8, 9, 10, 11, 25] (by decide) (fun _ => rfl) (fun k30 u31 hw => ?_)
  refine j_widen (k := (26 + 4 * j) + 2) (n := (10148 + 24 * j) + 12) (Nat.le_refl _) (Nat.le_refl _) ?_
  refine j_istore (pc := 277) (lv' := [(5, .int k30), (0, .ref b), (1, .ref (ad 0)), (2, .ref (am 0)), (3, .ref o), (4, .int i)]) C d_L_law_277 (Nat.le_of_ble_eq_true rfl) rfl ?_
  refine j_aload_n (pc := 279) C d_L_law_279 rfl 3 rfl ?_
  refine j_aload_n (pc := 280) C d_L_law_280 rfl 1 rfl ?_
  refine j_iload (pc := 281) C d_L_law_281 5 rfl ?_
  refine j_iconst (v := 1) (pc := 283) C d_L_law_283 (by decide) ?_
  refine j_iadd (pc := 284) C d_L_law_284 ?_
  obtain ⟨hi32, hw⟩ := hw
  refine j_sld (pc := 285) C Xs hi32 d_L_law_285 ?_
  refine j_aload_n (pc := 286) C d_L_law_286 rfl 1 rfl ?_
  refine j_iload (pc := 287) C d_L_law_287 5 rfl ?_
  refine j_iconst (v := 2) (pc := 289) C d_L_law_289 (by decide) ?_
  refine j_iadd (pc := 290) C d_L_law_290 ?_
  obtain ⟨hi33, hw⟩ := hw
  refine j_sld (pc := 291) C Xs hi33 d_L_law_291 ?_
  refine j_callVi (pc := 292) (st := []) (As := [.int (xs (Int32.toNatClampNeg (i + 1))), .int (xs (Int32.toNatClampNeg (i + 2)))]) (wc := wM cI cL am μ) (wr := wO cI cL ad o (u31.1, u31.2)) (wf := wM cI cL am) (wn := fun u => wL cI cL ad am o (u31.1, u, u31.2)) C (c_M_weight (jk_l κ) (jk_G κ) cI cL am μ (xs (Int32.toNatClampNeg (i + 1))) (xs (Int32.toNatClampNeg (i + 2))) _ hw) g_L_93 hdV_M_weight ⟨(Nat.le_of_ble_eq_true rfl), (Nat.le_of_ble_eq_true rfl)⟩ rfl (q0 := 0) rfl rfl rfl [13, 14, 15, 16, 17, 18, 19, 20, 21, 22, 23, 24] [0, 1, 2, 3, 4, 5, 6, 7, 8, 9, 10, 11, 12, 25] rfl rfl (by decide) (by decide) (by decide) rfl (Nat.le_of_ble_eq_true rfl) d_L_law_292 ⟨show (26 + 4 * j) + 2 + 0 ≤ 601024 by omega, show (10148 + 24 * j) + 12 + 0 ≤ 7293000 by omega⟩ [0, 1, 2, 3, 4, 5, 6, 7, 8, 9, 10, 11, 12, 14, 15, 16, 17, 18, 19, 20, 21, 22, 23, 24, 25, 13] (by decide) (fun _ => rfl) (fun r34 μ35 hw => ?_)
  refine j_widen (k := (26 + 4 * j) + 2) (n := (10148 + 24 * j) + 12) (Nat.le_refl _) (Nat.le_refl _) ?_
  refine j_istore (pc := 295) (lv' := [(6, .int r34), (5, .int k30), (0, .ref b), (1, .ref (ad 0)), (2, .ref (am 0)), (3, .ref o), (4, .int i)]) C d_L_law_295 (Nat.le_of_ble_eq_true rfl) rfl ?_
  refine j_aload_n (pc := 297) C d_L_law_297 rfl 4 rfl ?_
  refine j_callVi (pc := 298) (st := []) (As := []) (wc := wM cI cL am μ35) (wr := wO cI cL ad o (u31.1, u31.2)) (wf := wM cI cL am) (wn := fun u => wL cI cL ad am o (u31.1, u, u31.2)) C (c_M_thrown (jk_l κ) (jk_G κ) cI cL am μ35 _ hw) g_L_83 hdV_M_thrown ⟨(Nat.le_of_ble_eq_true rfl), (Nat.le_of_ble_eq_true rfl)⟩ rfl (q0 := 0) rfl rfl rfl [13, 14, 15, 16, 17, 18, 19, 20, 21, 22, 23, 24] [0, 1, 2, 3, 4, 5, 6, 7, 8, 9, 10, 11, 12, 25] rfl rfl (by decide) (by decide) (by decide) rfl (Nat.le_of_ble_eq_true rfl) d_L_law_298 ⟨show (26 + 4 * j) + 2 + 0 ≤ 601024 by omega, show (10148 + 24 * j) + 12 + 0 ≤ 7293000 by omega⟩ [0, 1, 2, 3, 4, 5, 6, 7, 8, 9, 10, 11, 12, 14, 15, 16, 17, 18, 19, 20, 21, 22, 23, 24, 25, 13] (by decide) (fun _ => rfl) (fun r36 μ37 hw => ?_)
  refine j_widen (k := (26 + 4 * j) + 2) (n := (10148 + 24 * j) + 12) (Nat.le_refl _) (Nat.le_refl _) ?_
  refine j_iload (pc := 301) C d_L_law_301 1 rfl ?_
  refine j_icmp_eq (pc := 303) (tgt := 308) C d_L_law_303 (by decide) (fun c38 => ?_) (fun c38 => ?_)
  · have hw := hw.1 c38
    refine j_iload (pc := 308) C d_L_law_308 1 rfl ?_
    refine j_if_ne (pc := 310) (tgt := 325) C d_L_law_310 (by decide) (fun c39 => ?_) (fun c39 => ?_)
    · have hw := hw.1 c39
      refine j_goto (pc := 325) (tgt := 1167) C d_L_law_325 (by decide) ?_
      refine j_iinc (pc := 1167) (lv' := [(4, .int (i + 4)), (6, .int r34), (5, .int k30), (0, .ref b), (1, .ref (ad 0)), (2, .ref (am 0)), (3, .ref o)]) C d_L_law_1167 (k := 6) rfl rfl (Nat.le_of_ble_eq_true rfl) rfl ?_
      refine j_goto (pc := 1170) (tgt := 33) C d_L_law_1170 (by decide) ?_
      refine j_locs [3, 4, 5, 6, 0] rfl ?_
      refine j_widen (k := 26 + 4 * (j + 1)) (n := 10148 + 24 * (j + 1)) (show (26 + 4 * j) + 2 ≤ 26 + 4 * (j + 1) by omega) (show (10148 + 24 * j) + 12 ≤ 10148 + 24 * (j + 1) by omega) ?_
      exact ih (j + 1) (i + 4) u31.1 μ37 u31.2 hw
    · have hw := hw.2 c39
      refine j_aload_n (pc := 313) C d_L_law_313 rfl 5 rfl ?_
      refine j_iconst (v := 0) (pc := 314) C d_L_law_314 (by decide) ?_
      refine j_lald (pc := 315) C 25 1 rfl rfl (by unfold vp_in; decide) d_L_law_315 ?_
      refine j_iload (pc := 316) C d_L_law_316 0 rfl ?_
      refine j_i2l (pc := 318) C d_L_law_318 ?_
      refine j_lcmp (pc := 319) C d_L_law_319 ?_
      refine j_if_eq (pc := 320) (tgt := 325) C d_L_law_320 (by decide) (fun c40 => ?_) (fun c40 => ?_)
      · have hw := hw.1 c40
        refine j_goto (pc := 325) (tgt := 1167) C d_L_law_325 (by decide) ?_
        refine j_iinc (pc := 1167) (lv' := [(4, .int (i + 4)), (6, .int r34), (5, .int k30), (0, .ref b), (1, .ref (ad 0)), (2, .ref (am 0)), (3, .ref o)]) C d_L_law_1167 (k := 6) rfl rfl (Nat.le_of_ble_eq_true rfl) rfl ?_
        refine j_goto (pc := 1170) (tgt := 33) C d_L_law_1170 (by decide) ?_
        refine j_locs [3, 4, 5, 6, 0] rfl ?_
        refine j_widen (k := 26 + 4 * (j + 1)) (n := 10148 + 24 * (j + 1)) (show (26 + 4 * j) + 2 ≤ 26 + 4 * (j + 1) by omega) (show (10148 + 24 * j) + 12 ≤ 10148 + 24 * (j + 1) by omega) ?_
        exact ih (j + 1) (i + 4) u31.1 μ37 u31.2 hw
      · have hw := hw.2 c40
        refine j_iconst (v := 0) (pc := 323) C d_L_law_323 (by decide) ?_
        exact hw.elim
  · have hw := hw.2 c38
    refine j_iconst (v := 0) (pc := 306) C d_L_law_306 (by decide) ?_
    exact hw.elim
set_option maxHeartbeats 4000000 in
set_option maxRecDepth 100000 in
theorem law_case_3 {κ : jk_K} {cI cL : ClassId} {ad am : Nat → Nat} {o b L : Nat} {xs : Nat → Int32} {k : Nat → Int32 → SX → SM → (Nat → Int64) → Prop} {j : Nat} {i : Int32} {σ : SX} {μ : SM} {f : Nat → Int64} (C : jk_C κ code R_L room_1 8 [(cI, .int), (cL, .long)]) (Zs : (jk_l κ).stackTraces = false ∧ jk_Z (jk_A κ) (jk_s κ)) (Xs : jk_Cs κ b L xs) (hj : j < 512) (ih : ∀ (j : Nat) (i : Int32) (σ : SX) (μ : SM) (f : Nat → Int64), k j i σ μ f → jk_J κ (wL cI cL ad am o (σ, μ, f)) 33 [(0, .ref b), (1, .ref (ad 0)), (2, .ref (am 0)), (3, .ref o), (4, .int i)] [] (26 + 4 * j) (10148 + 24 * j)) (hw : wc_law_3 L xs k j i σ μ f) : jk_J κ (wL cI cL ad am o (σ, μ, f)) 328 [(0, .ref b), (1, .ref (ad 0)), (2, .ref (am 0)), (3, .ref o), (4, .int i)] [] (26 + 4 * j) (10148 + 24 * j) := by
  unfold wc_law_3 at hw
  refine j_aload_n (pc := 328) C d_L_law_328 rfl 1 rfl ?_
  refine j_aload_n (pc := 329) C d_L_law_329 rfl 0 rfl ?_
  refine j_iload (pc := 330) C d_L_law_330 4 rfl ?_
  refine j_iconst (v := 1) (pc := 332) C d_L_law_332 (by decide) ?_
  refine j_iadd (pc := 333) C d_L_law_333 ?_
  obtain ⟨hi41, hw⟩ := hw
  refine j_sld (pc := 334) C Xs hi41 d_L_law_334 ?_
  refine j_aload_n (pc := 335) C d_L_law_335 rfl 0 rfl ?_
  refine j_iload (pc := 336) C d_L_law_336 4 rfl ?_
  refine j_iconst (v := 2) (pc := 338) C d_L_law_338 (by decide) ?_
  refine j_iadd (pc := 339) C d_L_law_339 ?_
  obtain ⟨hi42, hw⟩ := hw
  refine j_sld (pc := 340) C Xs hi42 d_L_law_340 ?_
  refine j_aload_n (pc := 341) C d_L_law_341 rfl 3 rfl ?_
  refine j_callH (pc := 342) (st := []) (As := [.ref (ad 0), .int (xs (Int32.toNatClampNeg (i + 1))), .int (xs (Int32.toNatClampNeg (i + 2))), .ref o]) (wc := wO cI cL ad o (σ, f)) (wr := wM cI cL am μ) (wf := wO cI cL ad o) (wn := fun u => wL cI cL ad am o (u.1, μ, u.2)) C Zs.2 (c_L_shift (jk_l κ) Zs.1 (jk_G κ) cI cL ad o σ f (xs (Int32.toNatClampNeg (i + 1))) (xs (Int32.toNatClampNeg (i + 2))) _ hw) g_L_94 hdS_L_shift ⟨(Nat.le_of_ble_eq_true rfl), (Nat.le_of_ble_eq_true rfl)⟩ rfl [0, 1, 2, 3, 4, 5, 6, 7, 8, 9, 10, 11, 12, 25] [13, 14, 15, 16, 17, 18, 19, 20, 21, 22, 23, 24] rfl rfl (by decide) (by decide) (by decide) rfl (Nat.le_of_ble_eq_true rfl) d_L_law_342 ⟨show (26 + 4 * j) + 2 ≤ 601024 by omega, show (10148 + 24 * j) + 12 ≤ 7293000 by omega⟩ [12, 13, 14, 15, 16, 17, 18, 19, 20, 21, 22, 23, 24, 0, 1, 2, 3, 4, 5, 6, 7, 8, 9, 10, 11, 25] (by decide) (fun _ => rfl) (fun k43 u44 hw => ?_)
  refine j_widen (k := (26 + 4 * j) + 2) (n := (10148 + 24 * j) + 12) (Nat.le_refl _) (Nat.le_refl _) ?_
  refine j_istore (pc := 345) (lv' := [(5, .int k43), (0, .ref b), (1, .ref (ad 0)), (2, .ref (am 0)), (3, .ref o), (4, .int i)]) C d_L_law_345 (Nat.le_of_ble_eq_true rfl) rfl ?_
  refine j_aload_n (pc := 347) C d_L_law_347 rfl 3 rfl ?_
  refine j_aload_n (pc := 348) C d_L_law_348 rfl 1 rfl ?_
  refine j_iload (pc := 349) C d_L_law_349 5 rfl ?_
  refine j_iconst (v := 1) (pc := 351) C d_L_law_351 (by decide) ?_
  refine j_iadd (pc := 352) C d_L_law_352 ?_
  obtain ⟨hi45, hw⟩ := hw
  refine j_sld (pc := 353) C Xs hi45 d_L_law_353 ?_
  refine j_aload_n (pc := 354) C d_L_law_354 rfl 1 rfl ?_
  refine j_iload (pc := 355) C d_L_law_355 5 rfl ?_
  refine j_iconst (v := 2) (pc := 357) C d_L_law_357 (by decide) ?_
  refine j_iadd (pc := 358) C d_L_law_358 ?_
  obtain ⟨hi46, hw⟩ := hw
  refine j_sld (pc := 359) C Xs hi46 d_L_law_359 ?_
  refine j_callVi (pc := 360) (st := []) (As := [.int (xs (Int32.toNatClampNeg (i + 1))), .int (xs (Int32.toNatClampNeg (i + 2)))]) (wc := wM cI cL am μ) (wr := wO cI cL ad o (u44.1, u44.2)) (wf := wM cI cL am) (wn := fun u => wL cI cL ad am o (u44.1, u, u44.2)) C (c_M_shift (jk_l κ) (jk_G κ) cI cL am μ (xs (Int32.toNatClampNeg (i + 1))) (xs (Int32.toNatClampNeg (i + 2))) _ hw) g_L_96 hdV_M_shift ⟨(Nat.le_of_ble_eq_true rfl), (Nat.le_of_ble_eq_true rfl)⟩ rfl (q0 := 0) rfl rfl rfl [13, 14, 15, 16, 17, 18, 19, 20, 21, 22, 23, 24] [0, 1, 2, 3, 4, 5, 6, 7, 8, 9, 10, 11, 12, 25] rfl rfl (by decide) (by decide) (by decide) rfl (Nat.le_of_ble_eq_true rfl) d_L_law_360 ⟨show (26 + 4 * j) + 2 + 0 ≤ 601024 by omega, show (10148 + 24 * j) + 12 + 0 ≤ 7293000 by omega⟩ [0, 1, 2, 3, 4, 5, 6, 7, 8, 9, 10, 11, 12, 14, 15, 16, 17, 18, 19, 20, 21, 22, 23, 24, 25, 13] (by decide) (fun _ => rfl) (fun r47 μ48 hw => ?_)
  refine j_widen (k := (26 + 4 * j) + 2) (n := (10148 + 24 * j) + 12) (Nat.le_refl _) (Nat.le_refl _) ?_
  refine j_istore (pc := 363) (lv' := [(6, .int r47), (5, .int k43), (0, .ref b), (1, .ref (ad 0)), (2, .ref (am 0)), (3, .ref o), (4, .int i)]) C d_L_law_363 (Nat.le_of_ble_eq_true rfl) rfl ?_
  refine j_aload_n (pc := 365) C d_L_law_365 rfl 4 rfl ?_
  refine j_callVi (pc := 366) (st := []) (As := []) (wc := wM cI cL am μ48) (wr := wO cI cL ad o (u44.1, u44.2)) (wf := wM cI cL am) (wn := fun u => wL cI cL ad am o (u44.1, u, u44.2)) C (c_M_thrown (jk_l κ) (jk_G κ) cI cL am μ48 _ hw) g_L_83 hdV_M_thrown ⟨(Nat.le_of_ble_eq_true rfl), (Nat.le_of_ble_eq_true rfl)⟩ rfl (q0 := 0) rfl rfl rfl [13, 14, 15, 16, 17, 18, 19, 20, 21, 22, 23, 24] [0, 1, 2, 3, 4, 5, 6, 7, 8, 9, 10, 11, 12, 25] rfl rfl (by decide) (by decide) (by decide) rfl (Nat.le_of_ble_eq_true rfl) d_L_law_366 ⟨show (26 + 4 * j) + 2 + 0 ≤ 601024 by omega, show (10148 + 24 * j) + 12 + 0 ≤ 7293000 by omega⟩ [0, 1, 2, 3, 4, 5, 6, 7, 8, 9, 10, 11, 12, 14, 15, 16, 17, 18, 19, 20, 21, 22, 23, 24, 25, 13] (by decide) (fun _ => rfl) (fun r49 μ50 hw => ?_)
  refine j_widen (k := (26 + 4 * j) + 2) (n := (10148 + 24 * j) + 12) (Nat.le_refl _) (Nat.le_refl _) ?_
  refine j_iload (pc := 369) C d_L_law_369 1 rfl ?_
  refine j_icmp_eq (pc := 371) (tgt := 376) C d_L_law_371 (by decide) (fun c51 => ?_) (fun c51 => ?_)
  · have hw := hw.1 c51
    refine j_iload (pc := 376) C d_L_law_376 1 rfl ?_
    refine j_if_ne (pc := 378) (tgt := 393) C d_L_law_378 (by decide) (fun c52 => ?_) (fun c52 => ?_)
    · have hw := hw.1 c52
      refine j_goto (pc := 393) (tgt := 1167) C d_L_law_393 (by decide) ?_
      refine j_iinc (pc := 1167) (lv' := [(4, .int (i + 4)), (6, .int r47), (5, .int k43), (0, .ref b), (1, .ref (ad 0)), (2, .ref (am 0)), (3, .ref o)]) C d_L_law_1167 (k := 6) rfl rfl (Nat.le_of_ble_eq_true rfl) rfl ?_
      refine j_goto (pc := 1170) (tgt := 33) C d_L_law_1170 (by decide) ?_
      refine j_locs [3, 4, 5, 6, 0] rfl ?_
      refine j_widen (k := 26 + 4 * (j + 1)) (n := 10148 + 24 * (j + 1)) (show (26 + 4 * j) + 2 ≤ 26 + 4 * (j + 1) by omega) (show (10148 + 24 * j) + 12 ≤ 10148 + 24 * (j + 1) by omega) ?_
      exact ih (j + 1) (i + 4) u44.1 μ50 u44.2 hw
    · have hw := hw.2 c52
      refine j_aload_n (pc := 381) C d_L_law_381 rfl 5 rfl ?_
      refine j_iconst (v := 0) (pc := 382) C d_L_law_382 (by decide) ?_
      refine j_lald (pc := 383) C 25 1 rfl rfl (by unfold vp_in; decide) d_L_law_383 ?_
      refine j_iload (pc := 384) C d_L_law_384 0 rfl ?_
      refine j_i2l (pc := 386) C d_L_law_386 ?_
      refine j_lcmp (pc := 387) C d_L_law_387 ?_
      refine j_if_eq (pc := 388) (tgt := 393) C d_L_law_388 (by decide) (fun c53 => ?_) (fun c53 => ?_)
      · have hw := hw.1 c53
        refine j_goto (pc := 393) (tgt := 1167) C d_L_law_393 (by decide) ?_
        refine j_iinc (pc := 1167) (lv' := [(4, .int (i + 4)), (6, .int r47), (5, .int k43), (0, .ref b), (1, .ref (ad 0)), (2, .ref (am 0)), (3, .ref o)]) C d_L_law_1167 (k := 6) rfl rfl (Nat.le_of_ble_eq_true rfl) rfl ?_
        refine j_goto (pc := 1170) (tgt := 33) C d_L_law_1170 (by decide) ?_
        refine j_locs [3, 4, 5, 6, 0] rfl ?_
        refine j_widen (k := 26 + 4 * (j + 1)) (n := 10148 + 24 * (j + 1)) (show (26 + 4 * j) + 2 ≤ 26 + 4 * (j + 1) by omega) (show (10148 + 24 * j) + 12 ≤ 10148 + 24 * (j + 1) by omega) ?_
        exact ih (j + 1) (i + 4) u44.1 μ50 u44.2 hw
      · have hw := hw.2 c53
        refine j_iconst (v := 0) (pc := 391) C d_L_law_391 (by decide) ?_
        exact hw.elim
  · have hw := hw.2 c51
    refine j_iconst (v := 0) (pc := 374) C d_L_law_374 (by decide) ?_
    exact hw.elim
