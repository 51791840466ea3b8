set_option maxHeartbeats 4000000 in
set_option maxRecDepth 100000 in
theorem law_case_11 {κ : jk_K} {cI cL : ClassId} {ad am : Nat → Nat} {o b L : Nat} {xs : Nat → Int32} {k : Nat → Int32 → SX → SM → (Nat → Int64) → Prop} {j : Nat} {i : Int32} {σ : SX} {μ : SM} {f : Nat → Int64} (C : jk_C κ code R_L room_1 8 [(cI, .int), (cL, .long)]) (Zs : (jk_l κ).stackTraces = false ∧ jk_Z (jk_A κ) (jk_s κ)) (Xs : jk_Cs κ b L xs) (hj : j < 512) (ih : ∀ (j : Nat) (i : Int32) (σ : SX) (μ : SM) (f : Nat → Int64), k j i σ μ f → jk_J κ (wL cI cL ad am o (σ, μ, f)) 33 [(0, .ref b), (1, .ref (ad 0)), (2, .ref (am 0)), (3, .ref o), (4, .int i)] [] (26 + 4 * j) (10148 + 24 * j)) (hw : wc_law_11 L xs k j i σ μ f) : jk_J κ (wL cI cL ad am o (σ, μ, f)) 796 [(0, .ref b), (1, .ref (ad 0)), (2, .ref (am 0)), (3, .ref o), (4, .int i)] [] (26 + 4 * j) (10148 + 24 * j) := by
  unfold wc_law_11 at hw
  refine j_aload_n (pc := 796) C d_L_law_796 rfl 1 rfl ?_
  refine j_aload_n (pc := 797) C d_L_law_797 rfl 0 rfl ?_
  refine j_iload (pc := 798) C d_L_law_798 4 rfl ?_
  refine j_iconst (v := 1) (pc := 800) C d_L_law_800 (by decide) ?_
  refine j_iadd (pc := 801) C d_L_law_801 ?_
  obtain ⟨hi162, hw⟩ := hw
  refine j_sld (pc := 802) C Xs hi162 d_L_law_802 ?_
  refine j_aload_n (pc := 803) C d_L_law_803 rfl 0 rfl ?_
  refine j_iload (pc := 804) C d_L_law_804 4 rfl ?_
  refine j_iconst (v := 2) (pc := 806) C d_L_law_806 (by decide) ?_
  refine j_iadd (pc := 807) C d_L_law_807 ?_
  obtain ⟨hi163, hw⟩ := hw
  refine j_sld (pc := 808) C Xs hi163 d_L_law_808 ?_
  refine j_aload_n (pc := 809) C d_L_law_809 rfl 3 rfl ?_
  refine j_callH (pc := 810) (st := []) (As := [.ref (ad 0), .int (xs (Int32.toNatClampNeg (i + 1))), .int (xs (Int32.toNatClampNeg (i + 2))), .ref o]) (wc := wO cI cL ad o (σ, f)) (wr := wM cI cL am μ) (wf := wO cI cL ad o) (wn := fun u => wL cI cL ad am o (u.1, μ, u.2)) C Zs.2 (c_L_passes (jk_l κ) Zs.1 (jk_G κ) cI cL ad o σ f (xs (Int32.toNatClampNeg (i + 1))) (xs (Int32.toNatClampNeg (i + 2))) _ hw) g_L_121 hdS_L_passes ⟨(Nat.le_of_ble_eq_true rfl), (Nat.le_of_ble_eq_true rfl)⟩ rfl [0, 1, 2, 3, 4, 5, 6, 7, 8, 9, 10, 11, 12, 25] [13, 14, 15, 16, 17, 18, 19, 20, 21, 22, 23, 24] rfl rfl (by decide) (by decide) (by decide) rfl (Nat.le_of_ble_eq_true rfl) d_L_law_810 ⟨show (26 + 4 * j) + 3 ≤ 601024 by omega, show (10148 + 24 * j) + 18 ≤ 7293000 by omega⟩ [12, 13, 14, 15, 16, 17, 18, 19, 20, 21, 22, 23, 24, 0, 1, 2, 3, 4, 5, 6, 7, 8, 9, 10, 11, 25] (by decide) (fun _ => rfl) (fun k164 u165 hw => ?_)
  refine j_widen (k := (26 + 4 * j) + 3) (n := (10148 + 24 * j) + 18) (Nat.le_refl _) (Nat.le_refl _) ?_
  refine j_istore (pc := 813) (lv' := [(5, .int k164), (0, .ref b), (1, .ref (ad 0)), (2, .ref (am 0)), (3, .ref o), (4, .int i)]) C d_L_law_813 (Nat.le_of_ble_eq_true rfl) rfl ?_
  refine j_aload_n (pc := 815) C d_L_law_815 rfl 3 rfl ?_
  refine j_aload_n (pc := 816) C d_L_law_816 rfl 1 rfl ?_
  refine j_iload (pc := 817) C d_L_law_817 5 rfl ?_
  refine j_iconst (v := 1) (pc := 819) C d_L_law_819 (by decide) ?_
  refine j_iadd (pc := 820) C d_L_law_820 ?_
  obtain ⟨hi166, hw⟩ := hw
  refine j_sld (pc := 821) C Xs hi166 d_L_law_821 ?_
  refine j_aload_n (pc := 822) C d_L_law_822 rfl 1 rfl ?_
  refine j_iload (pc := 823) C d_L_law_823 5 rfl ?_
  refine j_iconst (v := 2) (pc := 825) C d_L_law_825 (by decide) ?_
  refine j_iadd (pc := 826) C d_L_law_826 ?_
  obtain ⟨hi167, hw⟩ := hw
  refine j_sld (pc := 827) C Xs hi167 d_L_law_827 ?_
  refine j_callVi (pc := 828) (st := []) (As := [.int (xs (Int32.toNatClampNeg (i + 1))), .int (xs (Int32.toNatClampNeg (i + 2)))]) (wc := wM cI cL am μ) (wr := wO cI cL ad o (u165.1, u165.2)) (wf := wM cI cL am) (wn := fun u => wL cI cL ad am o (u165.1, u, u165.2)) C (c_M_passes (jk_l κ) (jk_G κ) cI cL am μ (xs (Int32.toNatClampNeg (i + 1))) (xs (Int32.toNatClampNeg (i + 2))) _ hw) g_L_123 hdV_M_passes ⟨(Nat.le_of_ble_eq_true rfl), (Nat.le_of_ble_eq_true rfl)⟩ rfl (q0 := 0) rfl rfl rfl [13, 14, 15, 16, 17, 18, 19, 20, 21, 22, 23, 24] [0, 1, 2, 3, 4, 5, 6, 7, 8, 9, 10, 11, 12, 25] rfl rfl (by decide) (by decide) (by decide) rfl (Nat.le_of_ble_eq_true rfl) d_L_law_828 ⟨show (26 + 4 * j) + 3 + 0 ≤ 601024 by omega, show (10148 + 24 * j) + 18 + 0 ≤ 7293000 by omega⟩ [0, 1, 2, 3, 4, 5, 6, 7, 8, 9, 10, 11, 12, 14, 15, 16, 17, 18, 19, 20, 21, 22, 23, 24, 25, 13] (by decide) (fun _ => rfl) (fun r168 μ169 hw => ?_)
  refine j_widen (k := (26 + 4 * j) + 3) (n := (10148 + 24 * j) + 18) (Nat.le_refl _) (Nat.le_refl _) ?_
  refine j_istore (pc := 831) (lv' := [(6, .int r168), (5, .int k164), (0, .ref b), (1, .ref (ad 0)), (2, .ref (am 0)), (3, .ref o), (4, .int i)]) C d_L_law_831 (Nat.le_of_ble_eq_true rfl) rfl ?_
  refine j_aload_n (pc := 833) C d_L_law_833 rfl 4 rfl ?_
  refine j_callVi (pc := 834) (st := []) (As := []) (wc := wM cI cL am μ169) (wr := wO cI cL ad o (u165.1, u165.2)) (wf := wM cI cL am) (wn := fun u => wL cI cL ad am o (u165.1, u, u165.2)) C (c_M_thrown (jk_l κ) (jk_G κ) cI cL am μ169 _ hw) g_L_83 hdV_M_thrown ⟨(Nat.le_of_ble_eq_true rfl), (Nat.le_of_ble_eq_true rfl)⟩ rfl (q0 := 0) rfl rfl rfl [13, 14, 15, 16, 17, 18, 19, 20, 21, 22, 23, 24] [0, 1, 2, 3, 4, 5, 6, 7, 8, 9, 10, 11, 12, 25] rfl rfl (by decide) (by decide) (by decide) rfl (Nat.le_of_ble_eq_true rfl) d_L_law_834 ⟨show (26 + 4 * j) + 3 + 0 ≤ 601024 by omega, show (10148 + 24 * j) + 18 + 0 ≤ 7293000 by omega⟩ [0, 1, 2, 3, 4, 5, 6, 7, 8, 9, 10, 11, 12, 14, 15, 16, 17, 18, 19, 20, 21, 22, 23, 24, 25, 13] (by decide) (fun _ => rfl) (fun r170 μ171 hw => ?_)
  refine j_widen (k := (26 + 4 * j) + 3) (n := (10148 + 24 * j) + 18) (Nat.le_refl _) (Nat.le_refl _) ?_
  refine j_iload (pc := 837) C d_L_law_837 1 rfl ?_
  refine j_icmp_eq (pc := 839) (tgt := 844) C d_L_law_839 (by decide) (fun c172 => ?_) (fun c172 => ?_)
  · have hw := hw.1 c172
    refine j_iload (pc := 844) C d_L_law_844 1 rfl ?_
    refine j_if_ne (pc := 846) (tgt := 861) C d_L_law_846 (by decide) (fun c173 => ?_) (fun c173 => ?_)
    · have hw := hw.1 c173
      refine j_goto (pc := 861) (tgt := 1167) C d_L_law_861 (by decide) ?_
      refine j_iinc (pc := 1167) (lv' := [(4, .int (i + 4)), (6, .int r168), (5, .int k164), (0, .ref b), (1, .ref (ad 0)), (2, .ref (am 0)), (3, .ref o)]) C d_L_law_1167 (k := 6) rfl rfl (Nat.le_of_ble_eq_true rfl) rfl ?_
      refine j_goto (pc := 1170) (tgt := 33) C d_L_law_1170 (by decide) ?_
      refine j_locs [3, 4, 5, 6, 0] rfl ?_
      refine j_widen (k := 26 + 4 * (j + 1)) (n := 10148 + 24 * (j + 1)) (show (26 + 4 * j) + 3 ≤ 26 + 4 * (j + 1) by omega) (show (10148 + 24 * j) + 18 ≤ 10148 + 24 * (j + 1) by omega) ?_
      exact ih (j + 1) (i + 4) u165.1 μ171 u165.2 hw
    · have hw := hw.2 c173
      refine j_aload_n (pc := 849) C d_L_law_849 rfl 5 rfl ?_
      refine j_iconst (v := 0) (pc := 850) C d_L_law_850 (by decide) ?_
      refine j_lald (pc := 851) C 25 1 rfl rfl (by unfold vp_in; decide) d_L_law_851 ?_
      refine j_iload (pc := 852) C d_L_law_852 0 rfl ?_
      refine j_i2l (pc := 854) C d_L_law_854 ?_
      refine j_lcmp (pc := 855) C d_L_law_855 ?_
      refine j_if_eq (pc := 856) (tgt := 861) C d_L_law_856 (by decide) (fun c174 => ?_) (fun c174 => ?_)
      · have hw := hw.1 c174
        refine j_goto (pc := 861) (tgt := 1167) C d_L_law_861 (by decide) ?_
        refine j_iinc (pc := 1167) (lv' := [(4, .int (i + 4)), (6, .int r168), (5, .int k164), (0, .ref b), (1, .ref (ad 0)), (2, .ref (am 0)), (3, .ref o)]) C d_L_law_1167 (k := 6) rfl rfl (Nat.le_of_ble_eq_true rfl) rfl ?_
        refine j_goto (pc := 1170) (tgt := 33) C d_L_law_1170 (by decide) ?_
        refine j_locs [3, 4, 5, 6, 0] rfl ?_
        refine j_widen (k := 26 + 4 * (j + 1)) (n := 10148 + 24 * (j + 1)) (show (26 + 4 * j) + 3 ≤ 26 + 4 * (j + 1) by omega) (show (10148 + 24 * j) + 18 ≤ 10148 + 24 * (j + 1) by omega) ?_
        exact ih (j + 1) (i + 4) u165.1 μ171 u165.2 hw
      · have hw := hw.2 c174
        refine j_iconst (v := 0) (pc := 859) C d_L_law_859 (by decide) ?_
        exact hw.elim
  · have hw := hw.2 c172
    refine j_iconst (v := 0) (pc := 842) C d_L_law_842 (by decide) ?_
    exact hw.elim
set_option maxHeartbeats 4000000 in
set_option maxRecDepth 100000 in
theorem law_case_12 {κ : jk_K} {cI cL : ClassId} {ad am : Nat → Nat} {o b L : Nat} {xs : Nat → Int32} {k : Nat → Int32 → SX → SM → (Nat → Int64) → Prop} {j : Nat} {i : Int32} {σ : SX} {μ : SM} {f : Nat → Int64} (C : jk_C κ code R_L room_1 8 [(cI, .int), (cL, .long)]) (Zs : (jk_l κ).stackTraces = false ∧ jk_Z (jk_A κ) (jk_s κ)) (Xs : jk_Cs κ b L xs) (hj : j < 512) (ih : ∀ (j : Nat) (i : Int32) (σ : SX) (μ : SM) (f : Nat → Int64), k j i σ μ f → jk_J κ (wL cI cL ad am o (σ, μ, f)) 33 [(0, .ref b), (1, .ref (ad 0)), (2, .ref (am 0)), (3, .ref o), (4, .int i)] [] (26 + 4 * j) (10148 + 24 * j)) (hw : wc_law_12 L xs k j i σ μ f) : jk_J κ (wL cI cL ad am o (σ, μ, f)) 864 [(0, .ref b), (1, .ref (ad 0)), (2, .ref (am 0)), (3, .ref o), (4, .int i)] [] (26 + 4 * j) (10148 + 24 * j) := by
  unfold wc_law_12 at hw
  refine j_aload_n (pc := 864) C d_L_law_864 rfl 1 rfl ?_
  refine j_aload_n (pc := 865) C d_L_law_865 rfl 0 rfl ?_
  refine j_iload (pc := 866) C d_L_law_866 4 rfl ?_
  refine j_iconst (v := 1) (pc := 868) C d_L_law_868 (by decide) ?_
  refine j_iadd (pc := 869) C d_L_law_869 ?_
  obtain ⟨hi175, hw⟩ := hw
  refine j_sld (pc := 870) C Xs hi175 d_L_law_870 ?_
  refine j_aload_n (pc := 871) C d_L_law_871 rfl 3 rfl ?_
  refine j_callH (pc := 872) (st := []) (As := [.ref (ad 0), .int (xs (Int32.toNatClampNeg (i + 1))), .ref o]) (wc := wO cI cL ad o (σ, f)) (wr := wM cI cL am μ) (wf := wO cI cL ad o) (wn := fun u => wL cI cL ad am o (u.1, μ, u.2)) C Zs.2 (c_L_bytes (jk_l κ) Zs.1 (jk_G κ) cI cL ad o σ f (xs (Int32.toNatClampNeg (i + 1))) _ hw) g_L_124 hdS_L_bytes ⟨(Nat.le_of_ble_eq_true rfl), (Nat.le_of_ble_eq_true rfl)⟩ rfl [0, 1, 2, 3, 4, 5, 6, 7, 8, 9, 10, 11, 12, 25] [13, 14, 15, 16, 17, 18, 19, 20, 21, 22, 23, 24] rfl rfl (by decide) (by decide) (by decide) rfl (Nat.le_of_ble_eq_true rfl) d_L_law_872 ⟨show (26 + 4 * j) + 2 ≤ 601024 by omega, show (10148 + 24 * j) + 12 ≤ 7293000 by omega⟩ [12, 13, 14, 15, 16, 17, 18, 19, 20, 21, 22, 23, 24, 0, 1, 2, 3, 4, 5, 6, 7, 8, 9, 10, 11, 25] (by decide) (fun _ => rfl) (fun k176 u177 hw => ?_)
  refine j_widen (k := (26 + 4 * j) + 2) (n := (10148 + 24 * j) + 12) (Nat.le_refl _) (Nat.le_refl _) ?_
  refine j_istore (pc := 875) (lv' := [(5, .int k176), (0, .ref b), (1, .ref (ad 0)), (2, .ref (am 0)), (3, .ref o), (4, .int i)]) C d_L_law_875 (Nat.le_of_ble_eq_true rfl) rfl ?_
  refine j_aload_n (pc := 877) C d_L_law_877 rfl 3 rfl ?_
  refine j_aload_n (pc := 878) C d_L_law_878 rfl 1 rfl ?_
  refine j_iload (pc := 879) C d_L_law_879 5 rfl ?_
  refine j_iconst (v := 1) (pc := 881) C d_L_law_881 (by decide) ?_
  refine j_iadd (pc := 882) C d_L_law_882 ?_
  obtain ⟨hi178, hw⟩ := hw
  refine j_sld (pc := 883) C Xs hi178 d_L_law_883 ?_
  refine j_callVi (pc := 884) (st := []) (As := [.int (xs (Int32.toNatClampNeg (i + 1)))]) (wc := wM cI cL am μ) (wr := wO cI cL ad o (u177.1, u177.2)) (wf := wM cI cL am) (wn := fun u => wL cI cL ad am o (u177.1, u, u177.2)) C (c_M_bytes (jk_l κ) (jk_G κ) cI cL am μ (xs (Int32.toNatClampNeg (i + 1))) _ hw) g_L_127 hdV_M_bytes ⟨(Nat.le_of_ble_eq_true rfl), (Nat.le_of_ble_eq_true rfl)⟩ rfl (q0 := 0) rfl rfl rfl [13, 14, 15, 16, 17, 18, 19, 20, 21, 22, 23, 24] [0, 1, 2, 3, 4, 5, 6, 7, 8, 9, 10, 11, 12, 25] rfl rfl (by decide) (by decide) (by decide) rfl (Nat.le_of_ble_eq_true rfl) d_L_law_884 ⟨show (26 + 4 * j) + 2 + 0 ≤ 601024 by omega, show (10148 + 24 * j) + 12 + 0 ≤ 7293000 by omega⟩ [0, 1, 2, 3, 4, 5, 6, 7, 8, 9, 10, 11, 12, 14, 15, 16, 17, 18, 19, 20, 21, 22, 23, 24, 25, 13] (by decide) (fun _ => rfl) (fun r179 μ180 hw => ?_)
  refine j_widen (k := (26 + 4 * j) + 2) (n := (10148 + 24 * j) + 12) (Nat.le_refl _) (Nat.le_refl _) ?_
  refine j_istore (pc := 887) (lv' := [(6, .int r179), (5, .int k176), (0, .ref b), (1, .ref (ad 0)), (2, .ref (am 0)), (3, .ref o), (4, .int i)]) C d_L_law_887 (Nat.le_of_ble_eq_true rfl) rfl ?_
  refine j_aload_n (pc := 889) C d_L_law_889 rfl 4 rfl ?_
  refine j_callVi (pc := 890) (st := []) (As := []) (wc := wM cI cL am μ180) (wr := wO cI cL ad o (u177.1, u177.2)) (wf := wM cI cL am) (wn := fun u => wL cI cL ad am o (u177.1, u, u177.2)) C (c_M_thrown (jk_l κ) (jk_G κ) cI cL am μ180 _ hw) g_L_83 hdV_M_thrown ⟨(Nat.le_of_ble_eq_true rfl), (Nat.le_of_ble_eq_true rfl)⟩ rfl (q0 := 0) rfl rfl rfl [13, 14, 15, 16, 17, 18, 19, 20, 21, 22, 23, 24] [0, 1, 2, 3, 4, 5, 6, 7, 8, 9, 10, 11, 12, 25] rfl rfl (by decide) (by decide) (by decide) rfl (Nat.le_of_ble_eq_true rfl) d_L_law_890 ⟨show (26 + 4 * j) + 2 + 0 ≤ 601024 by omega, show (10148 + 24 * j) + 12 + 0 ≤ 7293000 by omega⟩ [0, 1, 2, 3, 4, 5, 6, 7, 8, 9, 10, 11, 12, 14, 15, 16, 17, 18, 19, 20, 21, 22, 23, 24, 25, 13] (by decide) (fun _ => rfl) (fun r181 μ182 hw => ?_)
  refine j_widen (k := (26 + 4 * j) + 2) (n := (10148 + 24 * j) + 12) (Nat.le_refl _) (Nat.le_refl _) ?_
  refine j_iload (pc := 893) C d_L_law_893 1 rfl ?_
  refine j_icmp_eq (pc := 895) (tgt := 900) C d_L_law_895 (by decide) (fun c183 => ?_) (fun c183 => ?_)
  · have hw := hw.1 c183
    refine j_iload (pc := 900) C d_L_law_900 1 rfl ?_
    refine j_if_ne (pc := 902) (tgt := 917) C d_L_law_902 (by decide) (fun c184 => ?_) (fun c184 => ?_)
    · have hw := hw.1 c184
      refine j_goto (pc := 917) (tgt := 1167) C d_L_law_917 (by decide) ?_
      refine j_iinc (pc := 1167) (lv' := [(4, .int (i + 4)), (6, .int r179), (5, .int k176), (0, .ref b), (1, .ref (ad 0)), (2, .ref (am 0)), (3, .ref o)]) C d_L_law_1167 (k := 6) rfl rfl (Nat.le_of_ble_eq_true rfl) rfl ?_
      refine j_goto (pc := 1170) (tgt := 33) C d_L_law_1170 (by decide) ?_
      refine j_locs [3, 4, 5, 6, 0] rfl ?_
      refine j_widen (k := 26 + 4 * (j + 1)) (n := 10148 + 24 * (j + 1)) (show (26 + 4 * j) + 2 ≤ 26 + 4 * (j + 1) by omega) (show (10148 + 24 * j) + 12 ≤ 10148 + 24 * (j + 1) by omega) ?_
      exact ih (j + 1) (i + 4) u177.1 μ182 u177.2 hw
    · have hw := hw.2 c184
      refine j_aload_n (pc := 905) C d_L_law_905 rfl 5 rfl ?_
      refine j_iconst (v := 0) (pc := 906) C d_L_law_906 (by decide) ?_
      refine j_lald (pc := 907) C 25 1 rfl rfl (by unfold vp_in; decide) d_L_law_907 ?_
      refine j_iload (pc := 908) C d_L_law_908 0 rfl ?_
      refine j_i2l (pc := 910) C d_L_law_910 ?_
      refine j_lcmp (pc := 911) C d_L_law_911 ?_
      refine j_if_eq (pc := 912) (tgt := 917) C d_L_law_912 (by decide) (fun c185 => ?_) (fun c185 => ?_)
      · have hw := hw.1 c185
        refine j_goto (pc := 917) (tgt := 1167) C d_L_law_917 (by decide) ?_
        refine j_iinc (pc := 1167) (lv' := [(4, .int (i + 4)), (6, .int r179), (5, .int k176), (0, .ref b), (1, .ref (ad 0)), (2, .ref (am 0)), (3, .ref o)]) C d_L_law_1167 (k := 6) rfl rfl (Nat.le_of_ble_eq_true rfl) rfl ?_
        refine j_goto (pc := 1170) (tgt := 33) C d_L_law_1170 (by decide) ?_
        refine j_locs [3, 4, 5, 6, 0] rfl ?_
        refine j_widen (k := 26 + 4 * (j + 1)) (n := 10148 + 24 * (j + 1)) (show (26 + 4 * j) + 2 ≤ 26 + 4 * (j + 1) by omega) (show (10148 + 24 * j) + 12 ≤ 10148 + 24 * (j + 1) by omega) ?_
        exact ih (j + 1) (i + 4) u177.1 μ182 u177.2 hw
      · have hw := hw.2 c185
        refine j_iconst (v := 0) (pc := 915) C d_L_law_915 (by decide) ?_
        exact hw.elim
  · have hw := hw.2 c183
    refine j_iconst (v := 0) (pc := 898) C d_L_law_898 (by decide) ?_
    exact hw.elim
set_option maxHeartbeats 4000000 in
set_option maxRecDepth 100000 in
theorem law_case_13 {κ : jk_K} {cI cL : ClassId} {ad am : Nat → Nat} {o b L : Nat} {xs : Nat → Int32} {k : Nat → Int32 → SX → SM → (Nat → Int64) → Prop} {j : Nat} {i : Int32} {σ : SX} {μ : SM} {f : Nat → Int64} (C : jk_C κ code R_L room_1 8 [(cI, .int), (cL, .long)]) (Zs : (jk_l κ).stackTraces = false ∧ jk_Z (jk_A κ) (jk_s κ)) (Xs : jk_Cs κ b L xs) (hj : j < 512) (ih : ∀ (j : Nat) (i : Int32) (σ : SX) (μ : SM) (f : Nat → Int64), k j i σ μ f → jk_J κ (wL cI cL ad am o (σ, μ, f)) 33 [(0, .ref b), (1, .ref (ad 0)), (2, .ref (am 0)), (3, .ref o), (4, .int i)] [] (26 + 4 * j) (10148 + 24 * j)) (hw : wc_law_13 L xs k j i σ μ f) : jk_J κ (wL cI cL ad am o (σ, μ, f)) 920 [(0, .ref b), (1, .ref (ad 0)), (2, .ref (am 0)), (3, .ref o), (4, .int i)] [] (26 + 4 * j) (10148 + 24 * j) := by
  unfold wc_law_13 at hw
  refine j_aload_n (pc := 920) C d_L_law_920 rfl 1 rfl ?_
  refine j_aload_n (pc := 921) C d_L_law_921 rfl 0 rfl ?_
  refine j_iload (pc := 922) C d_L_law_922 4 rfl ?_
  refine j_iconst (v := 1) (pc := 924) C d_L_law_924 (by decide) ?_
  refine j_iadd (pc := 925) C d_L_law_925 ?_
  obtain ⟨hi186, hw⟩ := hw
  refine j_sld (pc := 926) C Xs hi186 d_L_law_926 ?_
  refine j_aload_n (pc := 927) C d_L_law_927 rfl 3 rfl ?_
  refine j_callH (pc := 928) (st := []) (As := [.ref (ad 0), .int (xs (Int32.toNatClampNeg (i + 1))), .ref o]) (wc := wO cI cL ad o (σ, f)) (wr := wM cI cL am μ) (wf := wO cI cL ad o) (wn := fun u => wL cI cL ad am o (u.1, μ, u.2)) C Zs.2 (c_L_gained (jk_l κ) Zs.1 (jk_G κ) cI cL ad o σ f (xs (Int32.toNatClampNeg (i + 1))) _ hw) g_L_128 hdS_L_gained ⟨(Nat.le_of_ble_eq_true rfl), (Nat.le_of_ble_eq_true rfl)⟩ rfl [0, 1, 2, 3, 4, 5, 6, 7, 8, 9, 10, 11, 12, 25] [13, 14, 15, 16, 17, 18, 19, 20, 21, 22, 23, 24] rfl rfl (by decide) (by decide) (by decide) rfl (Nat.le_of_ble_eq_true rfl) d_L_law_928 ⟨show (26 + 4 * j) + 2 ≤ 601024 by omega, show (10148 + 24 * j) + 12 ≤ 7293000 by omega⟩ [12, 13, 14, 15, 16, 17, 18, 19, 20, 21, 22, 23, 24, 0, 1, 2, 3, 4, 5, 6, 7, 8, 9, 10, 11, 25] (by decide) (fun _ => rfl) (fun k187 u188 hw => ?_)
  refine j_widen (k := (26 + 4 * j) + 2) (n := (10148 + 24 * j) + 12) (Nat.le_refl _) (Nat.le_refl _) ?_
  refine j_istore (pc := 931) (lv' := [(5, .int k187), (0, .ref b), (1, .ref (ad 0)), (2, .ref (am 0)), (3, .ref o), (4, .int i)]) C d_L_law_931 (Nat.le_of_ble_eq_true rfl) rfl ?_
  refine j_aload_n (pc := 933) C d_L_law_933 rfl 3 rfl ?_
  refine j_aload_n (pc := 934) C d_L_law_934 rfl 1 rfl ?_
  refine j_iload (pc := 935) C d_L_law_935 5 rfl ?_
  refine j_iconst (v := 1) (pc := 937) C d_L_law_937 (by decide) ?_
  refine j_iadd (pc := 938) C d_L_law_938 ?_
  obtain ⟨hi189, hw⟩ := hw
  refine j_sld (pc := 939) C Xs hi189 d_L_law_939 ?_
  refine j_callVl (pc := 940) (st := []) (As := [.int (xs (Int32.toNatClampNeg (i + 1)))]) (wc := wM cI cL am μ) (wr := wO cI cL ad o (u188.1, u188.2)) (wf := wM cI cL am) (wn := fun u => wL cI cL ad am o (u188.1, u, u188.2)) C (c_M_gained (jk_l κ) (jk_G κ) cI cL am μ (xs (Int32.toNatClampNeg (i + 1))) _ hw) g_L_130 hdV_M_gained ⟨(Nat.le_of_ble_eq_true rfl), (Nat.le_of_ble_eq_true rfl)⟩ rfl (q0 := 0) rfl rfl rfl [13, 14, 15, 16, 17, 18, 19, 20, 21, 22, 23, 24] [0, 1, 2, 3, 4, 5, 6, 7, 8, 9, 10, 11, 12, 25] rfl rfl (by decide) (by decide) (by decide) rfl (Nat.le_of_ble_eq_true rfl) d_L_law_940 ⟨show (26 + 4 * j) + 2 + 0 ≤ 601024 by omega, show (10148 + 24 * j) + 12 + 0 ≤ 7293000 by omega⟩ [0, 1, 2, 3, 4, 5, 6, 7, 8, 9, 10, 11, 12, 14, 15, 16, 17, 18, 19, 20, 21, 22, 23, 24, 25, 13] (by decide) (fun _ => rfl) (fun r190 μ191 hw => ?_)
  refine j_widen (k := (26 + 4 * j) + 2) (n := (10148 + 24 * j) + 12) (Nat.le_refl _) (Nat.le_refl _) ?_
  refine j_lstore (pc := 943) (lv' := [(6, .long r190), (5, .int k187), (0, .ref b), (1, .ref (ad 0)), (2, .ref (am 0)), (3, .ref o), (4, .int i)]) C d_L_law_943 (Nat.le_of_ble_eq_true rfl) rfl ?_
  refine j_aload_n (pc := 945) C d_L_law_945 rfl 4 rfl ?_
  refine j_callVi (pc := 946) (st := []) (As := []) (wc := wM cI cL am μ191) (wr := wO cI cL ad o (u188.1, u188.2)) (wf := wM cI cL am) (wn := fun u => wL cI cL ad am o (u188.1, u, u188.2)) C (c_M_thrown (jk_l κ) (jk_G κ) cI cL am μ191 _ hw) g_L_83 hdV_M_thrown ⟨(Nat.le_of_ble_eq_true rfl), (Nat.le_of_ble_eq_true rfl)⟩ rfl (q0 := 0) rfl rfl rfl [13, 14, 15, 16, 17, 18, 19, 20, 21, 22, 23, 24] [0, 1, 2, 3, 4, 5, 6, 7, 8, 9, 10, 11, 12, 25] rfl rfl (by decide) (by decide) (by decide) rfl (Nat.le_of_ble_eq_true rfl) d_L_law_946 ⟨show (26 + 4 * j) + 2 + 0 ≤ 601024 by omega, show (10148 + 24 * j) + 12 + 0 ≤ 7293000 by omega⟩ [0, 1, 2, 3, 4, 5, 6, 7, 8, 9, 10, 11, 12, 14, 15, 16, 17, 18, 19, 20, 21, 22, 23, 24, 25, 13] (by decide) (fun _ => rfl) (fun r192 μ193 hw => ?_)
  refine j_widen (k := (26 + 4 * j) + 2) (n := (10148 + 24 * j) + 12) (Nat.le_refl _) (Nat.le_refl _) ?_
  refine j_iload (pc := 949) C d_L_law_949 1 rfl ?_
  refine j_icmp_eq (pc := 951) (tgt := 956) C d_L_law_951 (by decide) (fun c194 => ?_) (fun c194 => ?_)
  · have hw := hw.1 c194
    refine j_iload (pc := 956) C d_L_law_956 1 rfl ?_
    refine j_if_ne (pc := 958) (tgt := 972) C d_L_law_958 (by decide) (fun c195 => ?_) (fun c195 => ?_)
    · have hw := hw.1 c195
      refine j_goto (pc := 972) (tgt := 1167) C d_L_law_972 (by decide) ?_
      refine j_iinc (pc := 1167) (lv' := [(4, .int (i + 4)), (6, .long r190), (5, .int k187), (0, .ref b), (1, .ref (ad 0)), (2, .ref (am 0)), (3, .ref o)]) C d_L_law_1167 (k := 6) rfl rfl (Nat.le_of_ble_eq_true rfl) rfl ?_
      refine j_goto (pc := 1170) (tgt := 33) C d_L_law_1170 (by decide) ?_
      refine j_locs [3, 4, 5, 6, 0] rfl ?_
      refine j_widen (k := 26 + 4 * (j + 1)) (n := 10148 + 24 * (j + 1)) (show (26 + 4 * j) + 2 ≤ 26 + 4 * (j + 1) by omega) (show (10148 + 24 * j) + 12 ≤ 10148 + 24 * (j + 1) by omega) ?_
      exact ih (j + 1) (i + 4) u188.1 μ193 u188.2 hw
    · have hw := hw.2 c195
      refine j_aload_n (pc := 961) C d_L_law_961 rfl 5 rfl ?_
      refine j_iconst (v := 0) (pc := 962) C d_L_law_962 (by decide) ?_
      refine j_lald (pc := 963) C 25 1 rfl rfl (by unfold vp_in; decide) d_L_law_963 ?_
      refine j_lload (pc := 964) C d_L_law_964 0 rfl ?_
      refine j_lcmp (pc := 966) C d_L_law_966 ?_
      refine j_if_eq (pc := 967) (tgt := 972) C d_L_law_967 (by decide) (fun c196 => ?_) (fun c196 => ?_)
      · have hw := hw.1 c196
        refine j_goto (pc := 972) (tgt := 1167) C d_L_law_972 (by decide) ?_
        refine j_iinc (pc := 1167) (lv' := [(4, .int (i + 4)), (6, .long r190), (5, .int k187), (0, .ref b), (1, .ref (ad 0)), (2, .ref (am 0)), (3, .ref o)]) C d_L_law_1167 (k := 6) rfl rfl (Nat.le_of_ble_eq_true rfl) rfl ?_
        refine j_goto (pc := 1170) (tgt := 33) C d_L_law_1170 (by decide) ?_
        refine j_locs [3, 4, 5, 6, 0] rfl ?_
        refine j_widen (k := 26 + 4 * (j + 1)) (n := 10148 + 24 * (j + 1)) (show (26 + 4 * j) + 2 ≤ 26 + 4 * (j + 1) by omega) (show (10148 + 24 * j) + 12 ≤ 10148 + 24 * (j + 1) by omega) ?_
        exact ih (j + 1) (i + 4) u188.1 μ193 u188.2 hw
      · have hw := hw.2 c196
        refine j_iconst (v := 0) (pc := 970) C d_L_law_970 (by decide) ?_
        exact hw.elim
  · have hw := hw.2 c194
    refine j_iconst (v := 0) (pc := 954) C d_L_law_954 (by decide) ?_
    exact hw.elim
set_option maxHeartbeats 4000000 in
set_option maxRecDepth 100000 in
theorem law_case_14 {κ : jk_K} {cI cL : ClassId} {ad am : Nat → Nat} {o b L : Nat} {xs : Nat → Int32} {k : Nat → Int32 → SX → SM → (Nat → Int64) → Prop} {j : Nat} {i : Int32} {σ : SX} {μ : SM} {f : Nat → Int64} (C : jk_C κ code R_L room_1 8 [(cI, .int), (cL, .long)]) (Zs : (jk_l κ).stackTraces = false ∧ jk_Z (jk_A κ) (jk_s κ)) (Xs : jk_Cs κ b L xs) (hj : j < 512) (ih : ∀ (j : Nat) (i : Int32) (σ : SX) (μ : SM) (f : Nat → Int64), k j i σ μ f → jk_J κ (wL cI cL ad am o (σ, μ, f)) 33 [(0, .ref b), (1, .ref (ad 0)), (2, .ref (am 0)), (3, .ref o), (4, .int i)] [] (26 + 4 * j) (10148 + 24 * j)) (hw : wc_law_14 L xs k j i σ μ f) : jk_J κ (wL cI cL ad am o (σ, μ, f)) 975 [(0, .ref b), (1, .ref (ad 0)), (2, .ref (am 0)), (3, .ref o), (4, .int i)] [] (26 + 4 * j) (10148 + 24 * j) := by
  unfold wc_law_14 at hw
  refine j_aload_n (pc := 975) C d_L_law_975 rfl 1 rfl ?_
  refine j_aload_n (pc := 976) C d_L_law_976 rfl 0 rfl ?_
  refine j_iload (pc := 977) C d_L_law_977 4 rfl ?_
  refine j_iconst (v := 1) (pc := 979) C d_L_law_979 (by decide) ?_
  refine j_iadd (pc := 980) C d_L_law_980 ?_
  obtain ⟨hi197, hw⟩ := hw
  refine j_sld (pc := 981) C Xs hi197 d_L_law_981 ?_
  refine j_aload_n (pc := 982) C d_L_law_982 rfl 3 rfl ?_
  refine j_callH (pc := 983) (st := []) (As := [.ref (ad 0), .int (xs (Int32.toNatClampNeg (i + 1))), .ref o]) (wc := wO cI cL ad o (σ, f)) (wr := wM cI cL am μ) (wf := wO cI cL ad o) (wn := fun u => wL cI cL ad am o (u.1, μ, u.2)) C Zs.2 (c_L_least (jk_l κ) Zs.1 (jk_G κ) cI cL ad o σ f (xs (Int32.toNatClampNeg (i + 1))) _ hw) g_L_131 hdS_L_least ⟨(Nat.le_of_ble_eq_true rfl), (Nat.le_of_ble_eq_true rfl)⟩ rfl [0, 1, 2, 3, 4, 5, 6, 7, 8, 9, 10, 11, 12, 25] [13, 14, 15, 16, 17, 18, 19, 20, 21, 22, 23, 24] rfl rfl (by decide) (by decide) (by decide) rfl (Nat.le_of_ble_eq_true rfl) d_L_law_983 ⟨show (26 + 4 * j) + 1 ≤ 601024 by omega, show (10148 + 24 * j) + 6 ≤ 7293000 by omega⟩ [12, 13, 14, 15, 16, 17, 18, 19, 20, 21, 22, 23, 24, 0, 1, 2, 3, 4, 5, 6, 7, 8, 9, 10, 11, 25] (by decide) (fun _ => rfl) (fun k198 u199 hw => ?_)
  refine j_widen (k := (26 + 4 * j) + 1) (n := (10148 + 24 * j) + 6) (Nat.le_refl _) (Nat.le_refl _) ?_
  refine j_istore (pc := 986) (lv' := [(5, .int k198), (0, .ref b), (1, .ref (ad 0)), (2, .ref (am 0)), (3, .ref o), (4, .int i)]) C d_L_law_986 (Nat.le_of_ble_eq_true rfl) rfl ?_
  refine j_aload_n (pc := 988) C d_L_law_988 rfl 3 rfl ?_
  refine j_aload_n (pc := 989) C d_L_law_989 rfl 1 rfl ?_
  refine j_iload (pc := 990) C d_L_law_990 5 rfl ?_
  refine j_iconst (v := 1) (pc := 992) C d_L_law_992 (by decide) ?_
  refine j_iadd (pc := 993) C d_L_law_993 ?_
  obtain ⟨hi200, hw⟩ := hw
  refine j_sld (pc := 994) C Xs hi200 d_L_law_994 ?_
  refine j_callVi (pc := 995) (st := []) (As := [.int (xs (Int32.toNatClampNeg (i + 1)))]) (wc := wM cI cL am μ) (wr := wO cI cL ad o (u199.1, u199.2)) (wf := wM cI cL am) (wn := fun u => wL cI cL ad am o (u199.1, u, u199.2)) C (c_M_least (jk_l κ) (jk_G κ) cI cL am μ (xs (Int32.toNatClampNeg (i + 1))) _ hw) g_L_133 hdV_M_least ⟨(Nat.le_of_ble_eq_true rfl), (Nat.le_of_ble_eq_true rfl)⟩ rfl (q0 := 0) rfl rfl rfl [13, 14, 15, 16, 17, 18, 19, 20, 21, 22, 23, 24] [0, 1, 2, 3, 4, 5, 6, 7, 8, 9, 10, 11, 12, 25] rfl rfl (by decide) (by decide) (by decide) rfl (Nat.le_of_ble_eq_true rfl) d_L_law_995 ⟨show (26 + 4 * j) + 1 + 0 ≤ 601024 by omega, show (10148 + 24 * j) + 6 + 0 ≤ 7293000 by omega⟩ [0, 1, 2, 3, 4, 5, 6, 7, 8, 9, 10, 11, 12, 14, 15, 16, 17, 18, 19, 20, 21, 22, 23, 24, 25, 13] (by decide) (fun _ => rfl) (fun r201 μ202 hw => ?_)
  refine j_widen (k := (26 + 4 * j) + 1) (n := (10148 + 24 * j) + 6) (Nat.le_refl _) (Nat.le_refl _) ?_
  refine j_istore (pc := 998) (lv' := [(6, .int r201), (5, .int k198), (0, .ref b), (1, .ref (ad 0)), (2, .ref (am 0)), (3, .ref o), (4, .int i)]) C d_L_law_998 (Nat.le_of_ble_eq_true rfl) rfl ?_
  refine j_aload_n (pc := 1000) C d_L_law_1000 rfl 4 rfl ?_
  refine j_callVi (pc := 1001) (st := []) (As := []) (wc := wM cI cL am μ202) (wr := wO cI cL ad o (u199.1, u199.2)) (wf := wM cI cL am) (wn := fun u => wL cI cL ad am o (u199.1, u, u199.2)) C (c_M_thrown (jk_l κ) (jk_G κ) cI cL am μ202 _ hw) g_L_83 hdV_M_thrown ⟨(Nat.le_of_ble_eq_true rfl), (Nat.le_of_ble_eq_true rfl)⟩ rfl (q0 := 0) rfl rfl rfl [13, 14, 15, 16, 17, 18, 19, 20, 21, 22, 23, 24] [0, 1, 2, 3, 4, 5, 6, 7, 8, 9, 10, 11, 12, 25] rfl rfl (by decide) (by decide) (by decide) rfl (Nat.le_of_ble_eq_true rfl) d_L_law_1001 ⟨show (26 + 4 * j) + 1 + 0 ≤ 601024 by omega, show (10148 + 24 * j) + 6 + 0 ≤ 7293000 by omega⟩ [0, 1, 2, 3, 4, 5, 6, 7, 8, 9, 10, 11, 12, 14, 15, 16, 17, 18, 19, 20, 21, 22, 23, 24, 25, 13] (by decide) (fun _ => rfl) (fun r203 μ204 hw => ?_)
  refine j_widen (k := (26 + 4 * j) + 1) (n := (10148 + 24 * j) + 6) (Nat.le_refl _) (Nat.le_refl _) ?_
  refine j_iload (pc := 1004) C d_L_law_1004 1 rfl ?_
  refine j_icmp_eq (pc := 1006) (tgt := 1011) C d_L_law_1006 (by decide) (fun c205 => ?_) (fun c205 => ?_)
  · have hw := hw.1 c205
    refine j_iload (pc := 1011) C d_L_law_1011 1 rfl ?_
    refine j_if_ne (pc := 1013) (tgt := 1028) C d_L_law_1013 (by decide) (fun c206 => ?_) (fun c206 => ?_)
    · have hw := hw.1 c206
      refine j_goto (pc := 1028) (tgt := 1167) C d_L_law_1028 (by decide) ?_
      refine j_iinc (pc := 1167) (lv' := [(4, .int (i + 4)), (6, .int r201), (5, .int k198), (0, .ref b), (1, .ref (ad 0)), (2, .ref (am 0)), (3, .ref o)]) C d_L_law_1167 (k := 6) rfl rfl (Nat.le_of_ble_eq_true rfl) rfl ?_
      refine j_goto (pc := 1170) (tgt := 33) C d_L_law_1170 (by decide) ?_
      refine j_locs [3, 4, 5, 6, 0] rfl ?_
      refine j_widen (k := 26 + 4 * (j + 1)) (n := 10148 + 24 * (j + 1)) (show (26 + 4 * j) + 1 ≤ 26 + 4 * (j + 1) by omega) (show (10148 + 24 * j) + 6 ≤ 10148 + 24 * (j + 1) by omega) ?_
      exact ih (j + 1) (i + 4) u199.1 μ204 u199.2 hw
    · have hw := hw.2 c206
      refine j_aload_n (pc := 1016) C d_L_law_1016 rfl 5 rfl ?_
      refine j_iconst (v := 0) (pc := 1017) C d_L_law_1017 (by decide) ?_
      refine j_lald (pc := 1018) C 25 1 rfl rfl (by unfold vp_in; decide) d_L_law_1018 ?_
      refine j_iload (pc := 1019) C d_L_law_1019 0 rfl ?_
      refine j_i2l (pc := 1021) C d_L_law_1021 ?_
      refine j_lcmp (pc := 1022) C d_L_law_1022 ?_
      refine j_if_eq (pc := 1023) (tgt := 1028) C d_L_law_1023 (by decide) (fun c207 => ?_) (fun c207 => ?_)
      · have hw := hw.1 c207
        refine j_goto (pc := 1028) (tgt := 1167) C d_L_law_1028 (by decide) ?_
        refine j_iinc (pc := 1167) (lv' := [(4, .int (i + 4)), (6, .int r201), (5, .int k198), (0, .ref b), (1, .ref (ad 0)), (2, .ref (am 0)), (3, .ref o)]) C d_L_law_1167 (k := 6) rfl rfl (Nat.le_of_ble_eq_true rfl) rfl ?_
        refine j_goto (pc := 1170) (tgt := 33) C d_L_law_1170 (by decide) ?_
        refine j_locs [3, 4, 5, 6, 0] rfl ?_
        refine j_widen (k := 26 + 4 * (j + 1)) (n := 10148 + 24 * (j + 1)) (show (26 + 4 * j) + 1 ≤ 26 + 4 * (j + 1) by omega) (show (10148 + 24 * j) + 6 ≤ 10148 + 24 * (j + 1) by omega) ?_
        exact ih (j + 1) (i + 4) u199.1 μ204 u199.2 hw
      · have hw := hw.2 c207
        refine j_iconst (v := 0) (pc := 1026) C d_L_law_1026 (by decide) ?_
        exact hw.elim
  · have hw := hw.2 c205
    refine j_iconst (v := 0) (pc := 1009) C d_L_law_1009 (by decide) ?_
    exact hw.elim
