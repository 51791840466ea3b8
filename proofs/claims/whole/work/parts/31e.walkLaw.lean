set_option maxHeartbeats 4000000 in
set_option maxRecDepth 100000 in
theorem law_case_15 {κ : jk_K} {cI cL : ClassId} {ad am : Nat → Nat} {o b L : Nat} {xs : Nat → Int32} {k : Nat → Int32 → SX → SM → (Nat → Int64) → Prop} {j : Nat} {i : Int32} {σ : SX} {μ : SM} {f : Nat → Int64} (C : jk_C κ code R_L room_1 8 [(cI, .int), (cL, .long)]) (Zs : (jk_l κ).stackTraces = false ∧ jk_Z (jk_A κ) (jk_s κ)) (Xs : jk_Cs κ b L xs) (hj : j < 512) (ih : ∀ (j : Nat) (i : Int32) (σ : SX) (μ : SM) (f : Nat → Int64), k j i σ μ f → jk_J κ (wL cI cL ad am o (σ, μ, f)) 33 [(0, .ref b), (1, .ref (ad 0)), (2, .ref (am 0)), (3, .ref o), (4, .int i)] [] (26 + 4 * j) (10148 + 24 * j)) (hw : wc_law_15 L xs k j i σ μ f) : jk_J κ (wL cI cL ad am o (σ, μ, f)) 1031 [(0, .ref b), (1, .ref (ad 0)), (2, .ref (am 0)), (3, .ref o), (4, .int i)] [] (26 + 4 * j) (10148 + 24 * j) := by
  unfold wc_law_15 at hw
  refine j_aload_n (pc := 1031) C d_L_law_1031 rfl 1 rfl ?_
  refine j_aload_n (pc := 1032) C d_L_law_1032 rfl 0 rfl ?_
  refine j_iload (pc := 1033) C d_L_law_1033 4 rfl ?_
  refine j_iconst (v := 1) (pc := 1035) C d_L_law_1035 (by decide) ?_
  refine j_iadd (pc := 1036) C d_L_law_1036 ?_
  obtain ⟨hi208, hw⟩ := hw
  refine j_sld (pc := 1037) C Xs hi208 d_L_law_1037 ?_
  refine j_i2l (pc := 1038) C d_L_law_1038 ?_
  refine j_bipush (v := 32) (pc := 1039) C d_L_law_1039 (by decide) ?_
  refine j_lshl (pc := 1041) C d_L_law_1041 ?_
  refine j_aload_n (pc := 1042) C d_L_law_1042 rfl 0 rfl ?_
  refine j_iload (pc := 1043) C d_L_law_1043 4 rfl ?_
  refine j_iconst (v := 2) (pc := 1045) C d_L_law_1045 (by decide) ?_
  refine j_iadd (pc := 1046) C d_L_law_1046 ?_
  obtain ⟨hi209, hw⟩ := hw
  refine j_sld (pc := 1047) C Xs hi209 d_L_law_1047 ?_
  refine j_i2l (pc := 1048) C d_L_law_1048 ?_
  refine j_ldc2 (v := 4294967295) (pc := 1049) C d_L_law_1049 k_377 ?_
  refine j_land (pc := 1052) C d_L_law_1052 ?_
  refine j_lor (pc := 1053) C d_L_law_1053 ?_
  refine j_aload_n (pc := 1054) C d_L_law_1054 rfl 0 rfl ?_
  refine j_iload (pc := 1055) C d_L_law_1055 4 rfl ?_
  refine j_iconst (v := 3) (pc := 1057) C d_L_law_1057 (by decide) ?_
  refine j_iadd (pc := 1058) C d_L_law_1058 ?_
  obtain ⟨hi210, hw⟩ := hw
  refine j_sld (pc := 1059) C Xs hi210 d_L_law_1059 ?_
  refine j_aload_n (pc := 1060) C d_L_law_1060 rfl 3 rfl ?_
  refine j_callH (pc := 1061) (st := []) (As := [.ref (ad 0), .long (((Int32.toInt64 (xs (Int32.toNatClampNeg (i + 1)))) <<< (Int32.toInt64 32 &&& 63)) ||| ((Int32.toInt64 (xs (Int32.toNatClampNeg (i + 2)))) &&& 4294967295)), .int (xs (Int32.toNatClampNeg (i + 3))), .ref o]) (wc := wO cI cL ad o (σ, f)) (wr := wM cI cL am μ) (wf := wO cI cL ad o) (wn := fun u => wL cI cL ad am o (u.1, μ, u.2)) C Zs.2 (c_L_above (jk_l κ) Zs.1 (jk_G κ) cI cL ad o σ f (((Int32.toInt64 (xs (Int32.toNatClampNeg (i + 1)))) <<< (Int32.toInt64 32 &&& 63)) ||| ((Int32.toInt64 (xs (Int32.toNatClampNeg (i + 2)))) &&& 4294967295)) (xs (Int32.toNatClampNeg (i + 3))) _ hw) g_L_136 hdS_L_above ⟨(Nat.le_of_ble_eq_true rfl), (Nat.le_of_ble_eq_true rfl)⟩ rfl [0, 1, 2, 3, 4, 5, 6, 7, 8, 9, 10, 11, 12, 25] [13, 14, 15, 16, 17, 18, 19, 20, 21, 22, 23, 24] rfl rfl (by decide) (by decide) (by decide) rfl (Nat.le_of_ble_eq_true rfl) d_L_law_1061 ⟨show (26 + 4 * j) + 2 ≤ 601024 by omega, show (10148 + 24 * j) + 12 ≤ 7293000 by omega⟩ [12, 13, 14, 15, 16, 17, 18, 19, 20, 21, 22, 23, 24, 0, 1, 2, 3, 4, 5, 6, 7, 8, 9, 10, 11, 25] (by decide) (fun _ => rfl) (fun k211 u212 hw => ?_)
  refine j_widen (k := (26 + 4 * j) + 2) (n := (10148 + 24 * j) + 12) (Nat.le_refl _) (Nat.le_refl _) ?_
  refine j_istore (pc := 1064) (lv' := [(5, .int k211), (0, .ref b), (1, .ref (ad 0)), (2, .ref (am 0)), (3, .ref o), (4, .int i)]) C d_L_law_1064 (Nat.le_of_ble_eq_true rfl) rfl ?_
  refine j_aload_n (pc := 1066) C d_L_law_1066 rfl 3 rfl ?_
  refine j_aload_n (pc := 1067) C d_L_law_1067 rfl 1 rfl ?_
  refine j_iload (pc := 1068) C d_L_law_1068 5 rfl ?_
  refine j_iconst (v := 1) (pc := 1070) C d_L_law_1070 (by decide) ?_
  refine j_iadd (pc := 1071) C d_L_law_1071 ?_
  obtain ⟨hi213, hw⟩ := hw
  refine j_sld (pc := 1072) C Xs hi213 d_L_law_1072 ?_
  refine j_i2l (pc := 1073) C d_L_law_1073 ?_
  refine j_bipush (v := 32) (pc := 1074) C d_L_law_1074 (by decide) ?_
  refine j_lshl (pc := 1076) C d_L_law_1076 ?_
  refine j_aload_n (pc := 1077) C d_L_law_1077 rfl 1 rfl ?_
  refine j_iload (pc := 1078) C d_L_law_1078 5 rfl ?_
  refine j_iconst (v := 2) (pc := 1080) C d_L_law_1080 (by decide) ?_
  refine j_iadd (pc := 1081) C d_L_law_1081 ?_
  obtain ⟨hi214, hw⟩ := hw
  refine j_sld (pc := 1082) C Xs hi214 d_L_law_1082 ?_
  refine j_i2l (pc := 1083) C d_L_law_1083 ?_
  refine j_ldc2 (v := 4294967295) (pc := 1084) C d_L_law_1084 k_377 ?_
  refine j_land (pc := 1087) C d_L_law_1087 ?_
  refine j_lor (pc := 1088) C d_L_law_1088 ?_
  refine j_aload_n (pc := 1089) C d_L_law_1089 rfl 1 rfl ?_
  refine j_iload (pc := 1090) C d_L_law_1090 5 rfl ?_
  refine j_iconst (v := 3) (pc := 1092) C d_L_law_1092 (by decide) ?_
  refine j_iadd (pc := 1093) C d_L_law_1093 ?_
  obtain ⟨hi215, hw⟩ := hw
  refine j_sld (pc := 1094) C Xs hi215 d_L_law_1094 ?_
  refine j_callVi (pc := 1095) (st := []) (As := [.long (((Int32.toInt64 (xs (Int32.toNatClampNeg (i + 1)))) <<< (Int32.toInt64 32 &&& 63)) ||| ((Int32.toInt64 (xs (Int32.toNatClampNeg (i + 2)))) &&& 4294967295)), .int (xs (Int32.toNatClampNeg (i + 3)))]) (wc := wM cI cL am μ) (wr := wO cI cL ad o (u212.1, u212.2)) (wf := wM cI cL am) (wn := fun u => wL cI cL ad am o (u212.1, u, u212.2)) C (c_M_above (jk_l κ) (jk_G κ) cI cL am μ (((Int32.toInt64 (xs (Int32.toNatClampNeg (i + 1)))) <<< (Int32.toInt64 32 &&& 63)) ||| ((Int32.toInt64 (xs (Int32.toNatClampNeg (i + 2)))) &&& 4294967295)) (xs (Int32.toNatClampNeg (i + 3))) _ hw) g_L_139 hdV_M_above ⟨(Nat.le_of_ble_eq_true rfl), (Nat.le_of_ble_eq_true rfl)⟩ rfl (q0 := 0) rfl rfl rfl [13, 14, 15, 16, 17, 18, 19, 20, 21, 22, 23, 24] [0, 1, 2, 3, 4, 5, 6, 7, 8, 9, 10, 11, 12, 25] rfl rfl (by decide) (by decide) (by decide) rfl (Nat.le_of_ble_eq_true rfl) d_L_law_1095 ⟨show (26 + 4 * j) + 2 + 0 ≤ 601024 by omega, show (10148 + 24 * j) + 12 + 0 ≤ 7293000 by omega⟩ [0, 1, 2, 3, 4, 5, 6, 7, 8, 9, 10, 11, 12, 14, 15, 16, 17, 18, 19, 20, 21, 22, 23, 24, 25, 13] (by decide) (fun _ => rfl) (fun r216 μ217 hw => ?_)
  refine j_widen (k := (26 + 4 * j) + 2) (n := (10148 + 24 * j) + 12) (Nat.le_refl _) (Nat.le_refl _) ?_
  refine j_istore (pc := 1098) (lv' := [(6, .int r216), (5, .int k211), (0, .ref b), (1, .ref (ad 0)), (2, .ref (am 0)), (3, .ref o), (4, .int i)]) C d_L_law_1098 (Nat.le_of_ble_eq_true rfl) rfl ?_
  refine j_aload_n (pc := 1100) C d_L_law_1100 rfl 4 rfl ?_
  refine j_callVi (pc := 1101) (st := []) (As := []) (wc := wM cI cL am μ217) (wr := wO cI cL ad o (u212.1, u212.2)) (wf := wM cI cL am) (wn := fun u => wL cI cL ad am o (u212.1, u, u212.2)) C (c_M_thrown (jk_l κ) (jk_G κ) cI cL am μ217 _ hw) g_L_83 hdV_M_thrown ⟨(Nat.le_of_ble_eq_true rfl), (Nat.le_of_ble_eq_true rfl)⟩ rfl (q0 := 0) rfl rfl rfl [13, 14, 15, 16, 17, 18, 19, 20, 21, 22, 23, 24] [0, 1, 2, 3, 4, 5, 6, 7, 8, 9, 10, 11, 12, 25] rfl rfl (by decide) (by decide) (by decide) rfl (Nat.le_of_ble_eq_true rfl) d_L_law_1101 ⟨show (26 + 4 * j) + 2 + 0 ≤ 601024 by omega, show (10148 + 24 * j) + 12 + 0 ≤ 7293000 by omega⟩ [0, 1, 2, 3, 4, 5, 6, 7, 8, 9, 10, 11, 12, 14, 15, 16, 17, 18, 19, 20, 21, 22, 23, 24, 25, 13] (by decide) (fun _ => rfl) (fun r218 μ219 hw => ?_)
  refine j_widen (k := (26 + 4 * j) + 2) (n := (10148 + 24 * j) + 12) (Nat.le_refl _) (Nat.le_refl _) ?_
  refine j_iload (pc := 1104) C d_L_law_1104 1 rfl ?_
  refine j_icmp_eq (pc := 1106) (tgt := 1111) C d_L_law_1106 (by decide) (fun c220 => ?_) (fun c220 => ?_)
  · have hw := hw.1 c220
    refine j_iload (pc := 1111) C d_L_law_1111 1 rfl ?_
    refine j_if_ne (pc := 1113) (tgt := 1128) C d_L_law_1113 (by decide) (fun c221 => ?_) (fun c221 => ?_)
    · have hw := hw.1 c221
      refine j_goto (pc := 1128) (tgt := 1167) C d_L_law_1128 (by decide) ?_
      refine j_iinc (pc := 1167) (lv' := [(4, .int (i + 4)), (6, .int r216), (5, .int k211), (0, .ref b), (1, .ref (ad 0)), (2, .ref (am 0)), (3, .ref o)]) C d_L_law_1167 (k := 6) rfl rfl (Nat.le_of_ble_eq_true rfl) rfl ?_
      refine j_goto (pc := 1170) (tgt := 33) C d_L_law_1170 (by decide) ?_
      refine j_locs [3, 4, 5, 6, 0] rfl ?_
      refine j_widen (k := 26 + 4 * (j + 1)) (n := 10148 + 24 * (j + 1)) (show (26 + 4 * j) + 2 ≤ 26 + 4 * (j + 1) by omega) (show (10148 + 24 * j) + 12 ≤ 10148 + 24 * (j + 1) by omega) ?_
      exact ih (j + 1) (i + 4) u212.1 μ219 u212.2 hw
    · have hw := hw.2 c221
      refine j_aload_n (pc := 1116) C d_L_law_1116 rfl 5 rfl ?_
      refine j_iconst (v := 0) (pc := 1117) C d_L_law_1117 (by decide) ?_
      refine j_lald (pc := 1118) C 25 1 rfl rfl (by unfold vp_in; decide) d_L_law_1118 ?_
      refine j_iload (pc := 1119) C d_L_law_1119 0 rfl ?_
      refine j_i2l (pc := 1121) C d_L_law_1121 ?_
      refine j_lcmp (pc := 1122) C d_L_law_1122 ?_
      refine j_if_eq (pc := 1123) (tgt := 1128) C d_L_law_1123 (by decide) (fun c222 => ?_) (fun c222 => ?_)
      · have hw := hw.1 c222
        refine j_goto (pc := 1128) (tgt := 1167) C d_L_law_1128 (by decide) ?_
        refine j_iinc (pc := 1167) (lv' := [(4, .int (i + 4)), (6, .int r216), (5, .int k211), (0, .ref b), (1, .ref (ad 0)), (2, .ref (am 0)), (3, .ref o)]) C d_L_law_1167 (k := 6) rfl rfl (Nat.le_of_ble_eq_true rfl) rfl ?_
        refine j_goto (pc := 1170) (tgt := 33) C d_L_law_1170 (by decide) ?_
        refine j_locs [3, 4, 5, 6, 0] rfl ?_
        refine j_widen (k := 26 + 4 * (j + 1)) (n := 10148 + 24 * (j + 1)) (show (26 + 4 * j) + 2 ≤ 26 + 4 * (j + 1) by omega) (show (10148 + 24 * j) + 12 ≤ 10148 + 24 * (j + 1) by omega) ?_
        exact ih (j + 1) (i + 4) u212.1 μ219 u212.2 hw
      · have hw := hw.2 c222
        refine j_iconst (v := 0) (pc := 1126) C d_L_law_1126 (by decide) ?_
        exact hw.elim
  · have hw := hw.2 c220
    refine j_iconst (v := 0) (pc := 1109) C d_L_law_1109 (by decide) ?_
    exact hw.elim
set_option maxHeartbeats 4000000 in
set_option maxRecDepth 100000 in
theorem law_case_16 {κ : jk_K} {cI cL : ClassId} {ad am : Nat → Nat} {o b L : Nat} {xs : Nat → Int32} {k : Nat → Int32 → SX → SM → (Nat → Int64) → Prop} {j : Nat} {i : Int32} {σ : SX} {μ : SM} {f : Nat → Int64} (C : jk_C κ code R_L room_1 8 [(cI, .int), (cL, .long)]) (Zs : (jk_l κ).stackTraces = false ∧ jk_Z (jk_A κ) (jk_s κ)) (Xs : jk_Cs κ b L xs) (hj : j < 512) (ih : ∀ (j : Nat) (i : Int32) (σ : SX) (μ : SM) (f : Nat → Int64), k j i σ μ f → jk_J κ (wL cI cL ad am o (σ, μ, f)) 33 [(0, .ref b), (1, .ref (ad 0)), (2, .ref (am 0)), (3, .ref o), (4, .int i)] [] (26 + 4 * j) (10148 + 24 * j)) (hw : wc_law_16 L xs k j i σ μ f) : jk_J κ (wL cI cL ad am o (σ, μ, f)) 1131 [(0, .ref b), (1, .ref (ad 0)), (2, .ref (am 0)), (3, .ref o), (4, .int i)] [] (26 + 4 * j) (10148 + 24 * j) := by
  unfold wc_law_16 at hw
  refine j_aload_n (pc := 1131) C d_L_law_1131 rfl 1 rfl ?_
  refine j_aload_n (pc := 1132) C d_L_law_1132 rfl 0 rfl ?_
  refine j_iload (pc := 1133) C d_L_law_1133 4 rfl ?_
  refine j_iconst (v := 1) (pc := 1135) C d_L_law_1135 (by decide) ?_
  refine j_iadd (pc := 1136) C d_L_law_1136 ?_
  obtain ⟨hi223, hw⟩ := hw
  refine j_sld (pc := 1137) C Xs hi223 d_L_law_1137 ?_
  refine j_callVi (pc := 1138) (st := []) (As := [.int (xs (Int32.toNatClampNeg (i + 1)))]) (wc := wX cI cL ad σ) (wr := wM cI cL am μ ++ [(o, .inl (cL, 1, .inr (.inl f)))]) (wf := wX cI cL ad) (wn := fun u => wL cI cL ad am o (u, μ, f)) C (c_X_told (jk_l κ) (jk_G κ) cI cL ad σ (xs (Int32.toNatClampNeg (i + 1))) _ hw) g_L_140 hdV_X_told ⟨(Nat.le_of_ble_eq_true rfl), (Nat.le_of_ble_eq_true rfl)⟩ rfl (q0 := 0) rfl rfl rfl [0, 1, 2, 3, 4, 5, 6, 7, 8, 9, 10, 11, 12] [13, 14, 15, 16, 17, 18, 19, 20, 21, 22, 23, 24, 25] rfl rfl (by decide) (by decide) (by decide) rfl (Nat.le_of_ble_eq_true rfl) d_L_law_1138 ⟨show (26 + 4 * j) + 0 ≤ 601024 by omega, show (10148 + 24 * j) + 0 ≤ 7293000 by omega⟩ [13, 14, 15, 16, 17, 18, 19, 20, 21, 22, 23, 24, 25, 0, 1, 2, 3, 4, 5, 6, 7, 8, 9, 10, 11, 12] (by decide) (fun _ => rfl) (fun r224 σ225 hw => ?_)
  refine j_widen (k := (26 + 4 * j)) (n := (10148 + 24 * j)) (Nat.le_refl _) (Nat.le_refl _) ?_
  refine j_aload_n (pc := 1141) C d_L_law_1141 rfl 2 rfl ?_
  refine j_aload_n (pc := 1142) C d_L_law_1142 rfl 0 rfl ?_
  refine j_iload (pc := 1143) C d_L_law_1143 4 rfl ?_
  refine j_iconst (v := 1) (pc := 1145) C d_L_law_1145 (by decide) ?_
  refine j_iadd (pc := 1146) C d_L_law_1146 ?_
  obtain ⟨hi226, hw⟩ := hw
  refine j_sld (pc := 1147) C Xs hi226 d_L_law_1147 ?_
  refine j_callVi (pc := 1148) (st := [.int r224]) (As := [.int (xs (Int32.toNatClampNeg (i + 1)))]) (wc := wM cI cL am μ) (wr := wO cI cL ad o (σ225, f)) (wf := wM cI cL am) (wn := fun u => wL cI cL ad am o (σ225, u, f)) C (c_M_told (jk_l κ) (jk_G κ) cI cL am μ (xs (Int32.toNatClampNeg (i + 1))) _ hw) g_L_143 hdV_M_told ⟨(Nat.le_of_ble_eq_true rfl), (Nat.le_of_ble_eq_true rfl)⟩ rfl (q0 := 0) rfl rfl rfl [13, 14, 15, 16, 17, 18, 19, 20, 21, 22, 23, 24] [0, 1, 2, 3, 4, 5, 6, 7, 8, 9, 10, 11, 12, 25] rfl rfl (by decide) (by decide) (by decide) rfl (Nat.le_of_ble_eq_true rfl) d_L_law_1148 ⟨show (26 + 4 * j) + 0 ≤ 601024 by omega, show (10148 + 24 * j) + 0 ≤ 7293000 by omega⟩ [0, 1, 2, 3, 4, 5, 6, 7, 8, 9, 10, 11, 12, 14, 15, 16, 17, 18, 19, 20, 21, 22, 23, 24, 25, 13] (by decide) (fun _ => rfl) (fun r227 μ228 hw => ?_)
  refine j_widen (k := (26 + 4 * j)) (n := (10148 + 24 * j)) (Nat.le_refl _) (Nat.le_refl _) ?_
  refine j_icmp_eq (pc := 1151) (tgt := 1167) C d_L_law_1151 (by decide) (fun c229 => ?_) (fun c229 => ?_)
  · have hw := hw.1 c229
    refine j_iinc (pc := 1167) (lv' := [(4, .int (i + 4)), (0, .ref b), (1, .ref (ad 0)), (2, .ref (am 0)), (3, .ref o)]) C d_L_law_1167 (k := 4) rfl rfl (Nat.le_of_ble_eq_true rfl) rfl ?_
    refine j_goto (pc := 1170) (tgt := 33) C d_L_law_1170 (by decide) ?_
    refine j_locs [1, 2, 3, 4, 0] rfl ?_
    refine j_widen (k := 26 + 4 * (j + 1)) (n := 10148 + 24 * (j + 1)) (show (26 + 4 * j) ≤ 26 + 4 * (j + 1) by omega) (show (10148 + 24 * j) ≤ 10148 + 24 * (j + 1) by omega) ?_
    exact ih (j + 1) (i + 4) σ225 μ228 f hw
  · have hw := hw.2 c229
    refine j_iconst (v := 0) (pc := 1154) C d_L_law_1154 (by decide) ?_
    exact hw.elim
set_option maxHeartbeats 4000000 in
set_option maxRecDepth 100000 in
theorem law_case_17 {κ : jk_K} {cI cL : ClassId} {ad am : Nat → Nat} {o b L : Nat} {xs : Nat → Int32} {k : Nat → Int32 → SX → SM → (Nat → Int64) → Prop} {j : Nat} {i : Int32} {σ : SX} {μ : SM} {f : Nat → Int64} (C : jk_C κ code R_L room_1 8 [(cI, .int), (cL, .long)]) (Zs : (jk_l κ).stackTraces = false ∧ jk_Z (jk_A κ) (jk_s κ)) (Xs : jk_Cs κ b L xs) (hj : j < 512) (ih : ∀ (j : Nat) (i : Int32) (σ : SX) (μ : SM) (f : Nat → Int64), k j i σ μ f → jk_J κ (wL cI cL ad am o (σ, μ, f)) 33 [(0, .ref b), (1, .ref (ad 0)), (2, .ref (am 0)), (3, .ref o), (4, .int i)] [] (26 + 4 * j) (10148 + 24 * j)) (hw : wc_law_17 L xs k j i σ μ f) : jk_J κ (wL cI cL ad am o (σ, μ, f)) 1156 [(0, .ref b), (1, .ref (ad 0)), (2, .ref (am 0)), (3, .ref o), (4, .int i)] [] (26 + 4 * j) (10148 + 24 * j) := by
  unfold wc_law_17 at hw
  refine j_aload_n (pc := 1156) C d_L_law_1156 rfl 1 rfl ?_
  refine j_callVv (pc := 1157) (st := []) (As := []) (wc := wX cI cL ad σ) (wr := wM cI cL am μ ++ [(o, .inl (cL, 1, .inr (.inl f)))]) (wf := wX cI cL ad) (wn := fun u => wL cI cL ad am o (u, μ, f)) C (c_X_clear (jk_l κ) (jk_G κ) cI cL ad σ _ hw) g_L_144 hdV_X_clear ⟨(Nat.le_of_ble_eq_true rfl), (Nat.le_of_ble_eq_true rfl)⟩ rfl (q0 := 0) rfl rfl rfl [0, 1, 2, 3, 4, 5, 6, 7, 8, 9, 10, 11, 12] [13, 14, 15, 16, 17, 18, 19, 20, 21, 22, 23, 24, 25] rfl rfl (by decide) (by decide) (by decide) rfl (Nat.le_of_ble_eq_true rfl) d_L_law_1157 ⟨show (26 + 4 * j) + 0 ≤ 601024 by omega, show (10148 + 24 * j) + 0 ≤ 7293000 by omega⟩ [13, 14, 15, 16, 17, 18, 19, 20, 21, 22, 23, 24, 25, 0, 1, 2, 3, 4, 5, 6, 7, 8, 9, 10, 11, 12] (by decide) (fun _ => rfl) (fun σ230 hw => ?_)
  refine j_widen (k := (26 + 4 * j)) (n := (10148 + 24 * j)) (Nat.le_refl _) (Nat.le_refl _) ?_
  refine j_aload_n (pc := 1160) C d_L_law_1160 rfl 2 rfl ?_
  refine j_callVv (pc := 1161) (st := []) (As := []) (wc := wM cI cL am μ) (wr := wO cI cL ad o (σ230, f)) (wf := wM cI cL am) (wn := fun u => wL cI cL ad am o (σ230, u, f)) C (c_M_clear (jk_l κ) (jk_G κ) cI cL am μ _ hw) g_L_147 hdV_M_clear ⟨(Nat.le_of_ble_eq_true rfl), (Nat.le_of_ble_eq_true rfl)⟩ rfl (q0 := 0) rfl rfl rfl [13, 14, 15, 16, 17, 18, 19, 20, 21, 22, 23, 24] [0, 1, 2, 3, 4, 5, 6, 7, 8, 9, 10, 11, 12, 25] rfl rfl (by decide) (by decide) (by decide) rfl (Nat.le_of_ble_eq_true rfl) d_L_law_1161 ⟨show (26 + 4 * j) + 0 ≤ 601024 by omega, show (10148 + 24 * j) + 0 ≤ 7293000 by omega⟩ [0, 1, 2, 3, 4, 5, 6, 7, 8, 9, 10, 11, 12, 14, 15, 16, 17, 18, 19, 20, 21, 22, 23, 24, 25, 13] (by decide) (fun _ => rfl) (fun μ231 hw => ?_)
  refine j_widen (k := (26 + 4 * j)) (n := (10148 + 24 * j)) (Nat.le_refl _) (Nat.le_refl _) ?_
  refine j_goto (pc := 1164) (tgt := 1167) C d_L_law_1164 (by decide) ?_
  refine j_iinc (pc := 1167) (lv' := [(4, .int (i + 4)), (0, .ref b), (1, .ref (ad 0)), (2, .ref (am 0)), (3, .ref o)]) C d_L_law_1167 (k := 4) rfl rfl (Nat.le_of_ble_eq_true rfl) rfl ?_
  refine j_goto (pc := 1170) (tgt := 33) C d_L_law_1170 (by decide) ?_
  refine j_locs [1, 2, 3, 4, 0] rfl ?_
  refine j_widen (k := 26 + 4 * (j + 1)) (n := 10148 + 24 * (j + 1)) (show (26 + 4 * j) ≤ 26 + 4 * (j + 1) by omega) (show (10148 + 24 * j) ≤ 10148 + 24 * (j + 1) by omega) ?_
  exact ih (j + 1) (i + 4) σ230 μ231 f hw
