set_option maxHeartbeats 4000000 in
set_option maxRecDepth 100000 in
theorem law_case_8 {κ : jk_K} {cI cL : ClassId} {ad am : Nat → Nat} {o b L : Nat} {xs : Nat → Int32} {k : Nat → Int32 → SX → SM → (Nat → Int64) → Prop} {j : Nat} {i : Int32} {σ : SX} {μ : SM} {f : Nat → Int64} (C : jk_C κ code R_L room_1 8 [(cI, .int), (cL, .long)]) (Zs : (jk_l κ).stackTraces = false ∧ jk_Z (jk_A κ) (jk_s κ)) (Xs : jk_Cs κ b L xs) (hj : j < 512) (ih : ∀ (j : Nat) (i : Int32) (σ : SX) (μ : SM) (f : Nat → Int64), k j i σ μ f → jk_J κ (wL cI cL ad am o (σ, μ, f)) 33 [(0, .ref b), (1, .ref (ad 0)), (2, .ref (am 0)), (3, .ref o), (4, .int i)] [] (26 + 4 * j) (10148 + 24 * j)) (hw : wc_law_8 L xs k j i σ μ f) : jk_J κ (wL cI cL ad am o (σ, μ, f)) 620 [(0, .ref b), (1, .ref (ad 0)), (2, .ref (am 0)), (3, .ref o), (4, .int i)] [] (26 + 4 * j) (10148 + 24 * j) := by
  unfold wc_law_8 at hw
  refine j_aload_n (pc := 620) C d_L_law_620 rfl 1 rfl ?_
  refine j_aload_n (pc := 621) C d_L_law_621 rfl 0 rfl ?_
  refine j_iload (pc := 622) C d_L_law_622 4 rfl ?_
  refine j_iconst (v := 1) (pc := 624) C d_L_law_624 (by decide) ?_
  refine j_iadd (pc := 625) C d_L_law_625 ?_
  obtain ⟨hi100, hw⟩ := hw
  refine j_sld (pc := 626) C Xs hi100 d_L_law_626 ?_
  refine j_aload_n (pc := 627) C d_L_law_627 rfl 0 rfl ?_
  refine j_iload (pc := 628) C d_L_law_628 4 rfl ?_
  refine j_iconst (v := 2) (pc := 630) C d_L_law_630 (by decide) ?_
  refine j_iadd (pc := 631) C d_L_law_631 ?_
  obtain ⟨hi101, hw⟩ := hw
  refine j_sld (pc := 632) C Xs hi101 d_L_law_632 ?_
  refine j_aload_n (pc := 633) C d_L_law_633 rfl 0 rfl ?_
  refine j_iload (pc := 634) C d_L_law_634 4 rfl ?_
  refine j_iconst (v := 3) (pc := 636) C d_L_law_636 (by decide) ?_
  refine j_iadd (pc := 637) C d_L_law_637 ?_
  obtain ⟨hi102, hw⟩ := hw
  refine j_sld (pc := 638) C Xs hi102 d_L_law_638 ?_
  refine j_if_eq (pc := 639) (tgt := 646) C d_L_law_639 (by decide) (fun c103 => ?_) (fun c103 => ?_)
  · have hw := hw.1 c103
    refine j_iconst (v := 0) (pc := 646) C d_L_law_646 (by decide) ?_
    refine j_aload_n (pc := 647) C d_L_law_647 rfl 3 rfl ?_
    refine j_callH (pc := 648) (st := []) (As := [.ref (ad 0), .int (xs (Int32.toNatClampNeg (i + 1))), .int (xs (Int32.toNatClampNeg (i + 2))), .int 0, .ref o]) (wc := wO cI cL ad o (σ, f)) (wr := wM cI cL am μ) (wf := wO cI cL ad o) (wn := fun u => wL cI cL ad am o (u.1, μ, u.2)) C Zs.2 (c_L_slope (jk_l κ) Zs.1 (jk_G κ) cI cL ad o σ f (xs (Int32.toNatClampNeg (i + 1))) (xs (Int32.toNatClampNeg (i + 2))) 0 _ hw) g_L_110 hdS_L_slope ⟨(Nat.le_of_ble_eq_true rfl), (Nat.le_of_ble_eq_true rfl)⟩ rfl [0, 1, 2, 3, 4, 5, 6, 7, 8, 9, 10, 11, 12, 25] [13, 14, 15, 16, 17, 18, 19, 20, 21, 22, 23, 24] rfl rfl (by decide) (by decide) (by decide) rfl (Nat.le_of_ble_eq_true rfl) d_L_law_648 ⟨show (26 + 4 * j) + 2 ≤ 601024 by omega, show (10148 + 24 * j) + 12 ≤ 7293000 by omega⟩ [12, 13, 14, 15, 16, 17, 18, 19, 20, 21, 22, 23, 24, 0, 1, 2, 3, 4, 5, 6, 7, 8, 9, 10, 11, 25] (by decide) (fun _ => rfl) (fun k104 u105 hw => ?_)
    refine j_widen (k := (26 + 4 * j) + 2) (n := (10148 + 24 * j) + 12) (Nat.le_refl _) (Nat.le_refl _) ?_
    refine j_istore (pc := 651) (lv' := [(5, .int k104), (0, .ref b), (1, .ref (ad 0)), (2, .ref (am 0)), (3, .ref o), (4, .int i)]) C d_L_law_651 (Nat.le_of_ble_eq_true rfl) rfl ?_
    refine j_aload_n (pc := 653) C d_L_law_653 rfl 3 rfl ?_
    refine j_aload_n (pc := 654) C d_L_law_654 rfl 1 rfl ?_
    refine j_iload (pc := 655) C d_L_law_655 5 rfl ?_
    refine j_iconst (v := 1) (pc := 657) C d_L_law_657 (by decide) ?_
    refine j_iadd (pc := 658) C d_L_law_658 ?_
    obtain ⟨hi106, hw⟩ := hw
    refine j_sld (pc := 659) C Xs hi106 d_L_law_659 ?_
    refine j_aload_n (pc := 660) C d_L_law_660 rfl 1 rfl ?_
    refine j_iload (pc := 661) C d_L_law_661 5 rfl ?_
    refine j_iconst (v := 2) (pc := 663) C d_L_law_663 (by decide) ?_
    refine j_iadd (pc := 664) C d_L_law_664 ?_
    obtain ⟨hi107, hw⟩ := hw
    refine j_sld (pc := 665) C Xs hi107 d_L_law_665 ?_
    refine j_aload_n (pc := 666) C d_L_law_666 rfl 1 rfl ?_
    refine j_iload (pc := 667) C d_L_law_667 5 rfl ?_
    refine j_iconst (v := 3) (pc := 669) C d_L_law_669 (by decide) ?_
    refine j_iadd (pc := 670) C d_L_law_670 ?_
    obtain ⟨hi108, hw⟩ := hw
    refine j_sld (pc := 671) C Xs hi108 d_L_law_671 ?_
    refine j_if_eq (pc := 672) (tgt := 679) C d_L_law_672 (by decide) (fun c109 => ?_) (fun c109 => ?_)
    · have hw := hw.1 c109
      refine j_iconst (v := 0) (pc := 679) C d_L_law_679 (by decide) ?_
      refine j_callVl (pc := 680) (st := []) (As := [.int (xs (Int32.toNatClampNeg (i + 1))), .int (xs (Int32.toNatClampNeg (i + 2))), .int 0]) (wc := wM cI cL am μ) (wr := wO cI cL ad o (u105.1, u105.2)) (wf := wM cI cL am) (wn := fun u => wL cI cL ad am o (u105.1, u, u105.2)) C (c_M_slope (jk_l κ) (jk_G κ) cI cL am μ (xs (Int32.toNatClampNeg (i + 1))) (xs (Int32.toNatClampNeg (i + 2))) 0 _ hw) g_L_113 hdV_M_slope ⟨(Nat.le_of_ble_eq_true rfl), (Nat.le_of_ble_eq_true rfl)⟩ rfl (q0 := 0) rfl rfl rfl [13, 14, 15, 16, 17, 18, 19, 20, 21, 22, 23, 24] [0, 1, 2, 3, 4, 5, 6, 7, 8, 9, 10, 11, 12, 25] rfl rfl (by decide) (by decide) (by decide) rfl (Nat.le_of_ble_eq_true rfl) d_L_law_680 ⟨show (26 + 4 * j) + 2 + 0 ≤ 601024 by omega, show (10148 + 24 * j) + 12 + 0 ≤ 7293000 by omega⟩ [0, 1, 2, 3, 4, 5, 6, 7, 8, 9, 10, 11, 12, 14, 15, 16, 17, 18, 19, 20, 21, 22, 23, 24, 25, 13] (by decide) (fun _ => rfl) (fun r110 μ111 hw => ?_)
      refine j_widen (k := (26 + 4 * j) + 2) (n := (10148 + 24 * j) + 12) (Nat.le_refl _) (Nat.le_refl _) ?_
      refine j_lstore (pc := 683) (lv' := [(6, .long r110), (5, .int k104), (0, .ref b), (1, .ref (ad 0)), (2, .ref (am 0)), (3, .ref o), (4, .int i)]) C d_L_law_683 (Nat.le_of_ble_eq_true rfl) rfl ?_
      refine j_aload_n (pc := 685) C d_L_law_685 rfl 4 rfl ?_
      refine j_callVi (pc := 686) (st := []) (As := []) (wc := wM cI cL am μ111) (wr := wO cI cL ad o (u105.1, u105.2)) (wf := wM cI cL am) (wn := fun u => wL cI cL ad am o (u105.1, u, u105.2)) C (c_M_thrown (jk_l κ) (jk_G κ) cI cL am μ111 _ hw) g_L_83 hdV_M_thrown ⟨(Nat.le_of_ble_eq_true rfl), (Nat.le_of_ble_eq_true rfl)⟩ rfl (q0 := 0) rfl rfl rfl [13, 14, 15, 16, 17, 18, 19, 20, 21, 22, 23, 24] [0, 1, 2, 3, 4, 5, 6, 7, 8, 9, 10, 11, 12, 25] rfl rfl (by decide) (by decide) (by decide) rfl (Nat.le_of_ble_eq_true rfl) d_L_law_686 ⟨show (26 + 4 * j) + 2 + 0 ≤ 601024 by omega, show (10148 + 24 * j) + 12 + 0 ≤ 7293000 by omega⟩ [0, 1, 2, 3, 4, 5, 6, 7, 8, 9, 10, 11, 12, 14, 15, 16, 17, 18, 19, 20, 21, 22, 23, 24, 25, 13] (by decide) (fun _ => rfl) (fun r112 μ113 hw => ?_)
      refine j_widen (k := (26 + 4 * j) + 2) (n := (10148 + 24 * j) + 12) (Nat.le_refl _) (Nat.le_refl _) ?_
      refine j_iload (pc := 689) C d_L_law_689 1 rfl ?_
      refine j_icmp_eq (pc := 691) (tgt := 696) C d_L_law_691 (by decide) (fun c114 => ?_) (fun c114 => ?_)
      · have hw := hw.1 c114
        refine j_iload (pc := 696) C d_L_law_696 1 rfl ?_
        refine j_if_ne (pc := 698) (tgt := 712) C d_L_law_698 (by decide) (fun c115 => ?_) (fun c115 => ?_)
        · have hw := hw.1 c115
          refine j_goto (pc := 712) (tgt := 1167) C d_L_law_712 (by decide) ?_
          refine j_iinc (pc := 1167) (lv' := [(4, .int (i + 4)), (6, .long r110), (5, .int k104), (0, .ref b), (1, .ref (ad 0)), (2, .ref (am 0)), (3, .ref o)]) C d_L_law_1167 (k := 6) rfl rfl (Nat.le_of_ble_eq_true rfl) rfl ?_
          refine j_goto (pc := 1170) (tgt := 33) C d_L_law_1170 (by decide) ?_
          refine j_locs [3, 4, 5, 6, 0] rfl ?_
          refine j_widen (k := 26 + 4 * (j + 1)) (n := 10148 + 24 * (j + 1)) (show (26 + 4 * j) + 2 ≤ 26 + 4 * (j + 1) by omega) (show (10148 + 24 * j) + 12 ≤ 10148 + 24 * (j + 1) by omega) ?_
          exact ih (j + 1) (i + 4) u105.1 μ113 u105.2 hw
        · have hw := hw.2 c115
          refine j_aload_n (pc := 701) C d_L_law_701 rfl 5 rfl ?_
          refine j_iconst (v := 0) (pc := 702) C d_L_law_702 (by decide) ?_
          refine j_lald (pc := 703) C 25 1 rfl rfl (by unfold vp_in; decide) d_L_law_703 ?_
          refine j_lload (pc := 704) C d_L_law_704 0 rfl ?_
          refine j_lcmp (pc := 706) C d_L_law_706 ?_
          refine j_if_eq (pc := 707) (tgt := 712) C d_L_law_707 (by decide) (fun c116 => ?_) (fun c116 => ?_)
          · have hw := hw.1 c116
            refine j_goto (pc := 712) (tgt := 1167) C d_L_law_712 (by decide) ?_
            refine j_iinc (pc := 1167) (lv' := [(4, .int (i + 4)), (6, .long r110), (5, .int k104), (0, .ref b), (1, .ref (ad 0)), (2, .ref (am 0)), (3, .ref o)]) C d_L_law_1167 (k := 6) rfl rfl (Nat.le_of_ble_eq_true rfl) rfl ?_
            refine j_goto (pc := 1170) (tgt := 33) C d_L_law_1170 (by decide) ?_
            refine j_locs [3, 4, 5, 6, 0] rfl ?_
            refine j_widen (k := 26 + 4 * (j + 1)) (n := 10148 + 24 * (j + 1)) (show (26 + 4 * j) + 2 ≤ 26 + 4 * (j + 1) by omega) (show (10148 + 24 * j) + 12 ≤ 10148 + 24 * (j + 1) by omega) ?_
            exact ih (j + 1) (i + 4) u105.1 μ113 u105.2 hw
          · have hw := hw.2 c116
            refine j_iconst (v := 0) (pc := 710) C d_L_law_710 (by decide) ?_
            exact hw.elim
      · have hw := hw.2 c114
        refine j_iconst (v := 0) (pc := 694) C d_L_law_694 (by decide) ?_
        exact hw.elim
    · have hw := hw.2 c109
      refine j_iconst (v := 1) (pc := 675) C d_L_law_675 (by decide) ?_
      refine j_goto (pc := 676) (tgt := 680) C d_L_law_676 (by decide) ?_
      refine j_callVl (pc := 680) (st := []) (As := [.int (xs (Int32.toNatClampNeg (i + 1))), .int (xs (Int32.toNatClampNeg (i + 2))), .int 1]) (wc := wM cI cL am μ) (wr := wO cI cL ad o (u105.1, u105.2)) (wf := wM cI cL am) (wn := fun u => wL cI cL ad am o (u105.1, u, u105.2)) C (c_M_slope (jk_l κ) (jk_G κ) cI cL am μ (xs (Int32.toNatClampNeg (i + 1))) (xs (Int32.toNatClampNeg (i + 2))) 1 _ hw) g_L_113 hdV_M_slope ⟨(Nat.le_of_ble_eq_true rfl), (Nat.le_of_ble_eq_true rfl)⟩ rfl (q0 := 0) rfl rfl rfl [13, 14, 15, 16, 17, 18, 19, 20, 21, 22, 23, 24] [0, 1, 2, 3, 4, 5, 6, 7, 8, 9, 10, 11, 12, 25] rfl rfl (by decide) (by decide) (by decide) rfl (Nat.le_of_ble_eq_true rfl) d_L_law_680 ⟨show (26 + 4 * j) + 2 + 0 ≤ 601024 by omega, show (10148 + 24 * j) + 12 + 0 ≤ 7293000 by omega⟩ [0, 1, 2, 3, 4, 5, 6, 7, 8, 9, 10, 11, 12, 14, 15, 16, 17, 18, 19, 20, 21, 22, 23, 24, 25, 13] (by decide) (fun _ => rfl) (fun r117 μ118 hw => ?_)
      refine j_widen (k := (26 + 4 * j) + 2) (n := (10148 + 24 * j) + 12) (Nat.le_refl _) (Nat.le_refl _) ?_
      refine j_lstore (pc := 683) (lv' := [(6, .long r117), (5, .int k104), (0, .ref b), (1, .ref (ad 0)), (2, .ref (am 0)), (3, .ref o), (4, .int i)]) C d_L_law_683 (Nat.le_of_ble_eq_true rfl) rfl ?_
      refine j_aload_n (pc := 685) C d_L_law_685 rfl 4 rfl ?_
      refine j_callVi (pc := 686) (st := []) (As := []) (wc := wM cI cL am μ118) (wr := wO cI cL ad o (u105.1, u105.2)) (wf := wM cI cL am) (wn := fun u => wL cI cL ad am o (u105.1, u, u105.2)) C (c_M_thrown (jk_l κ) (jk_G κ) cI cL am μ118 _ hw) g_L_83 hdV_M_thrown ⟨(Nat.le_of_ble_eq_true rfl), (Nat.le_of_ble_eq_true rfl)⟩ rfl (q0 := 0) rfl rfl rfl [13, 14, 15, 16, 17, 18, 19, 20, 21, 22, 23, 24] [0, 1, 2, 3, 4, 5, 6, 7, 8, 9, 10, 11, 12, 25] rfl rfl (by decide) (by decide) (by decide) rfl (Nat.le_of_ble_eq_true rfl) d_L_law_686 ⟨show (26 + 4 * j) + 2 + 0 ≤ 601024 by omega, show (10148 + 24 * j) + 12 + 0 ≤ 7293000 by omega⟩ [0, 1, 2, 3, 4, 5, 6, 7, 8, 9, 10, 11, 12, 14, 15, 16, 17, 18, 19, 20, 21, 22, 23, 24, 25, 13] (by decide) (fun _ => rfl) (fun r119 μ120 hw => ?_)
      refine j_widen (k := (26 + 4 * j) + 2) (n := (10148 + 24 * j) + 12) (Nat.le_refl _) (Nat.le_refl _) ?_
      refine j_iload (pc := 689) C d_L_law_689 1 rfl ?_
      refine j_icmp_eq (pc := 691) (tgt := 696) C d_L_law_691 (by decide) (fun c121 => ?_) (fun c121 => ?_)
      · have hw := hw.1 c121
        refine j_iload (pc := 696) C d_L_law_696 1 rfl ?_
        refine j_if_ne (pc := 698) (tgt := 712) C d_L_law_698 (by decide) (fun c122 => ?_) (fun c122 => ?_)
        · have hw := hw.1 c122
          refine j_goto (pc := 712) (tgt := 1167) C d_L_law_712 (by decide) ?_
          refine j_iinc (pc := 1167) (lv' := [(4, .int (i + 4)), (6, .long r117), (5, .int k104), (0, .ref b), (1, .ref (ad 0)), (2, .ref (am 0)), (3, .ref o)]) C d_L_law_1167 (k := 6) rfl rfl (Nat.le_of_ble_eq_true rfl) rfl ?_
          refine j_goto (pc := 1170) (tgt := 33) C d_L_law_1170 (by decide) ?_
          refine j_locs [3, 4, 5, 6, 0] rfl ?_
          refine j_widen (k := 26 + 4 * (j + 1)) (n := 10148 + 24 * (j + 1)) (show (26 + 4 * j) + 2 ≤ 26 + 4 * (j + 1) by omega) (show (10148 + 24 * j) + 12 ≤ 10148 + 24 * (j + 1) by omega) ?_
          exact ih (j + 1) (i + 4) u105.1 μ120 u105.2 hw
        · have hw := hw.2 c122
          refine j_aload_n (pc := 701) C d_L_law_701 rfl 5 rfl ?_
          refine j_iconst (v := 0) (pc := 702) C d_L_law_702 (by decide) ?_
          refine j_lald (pc := 703) C 25 1 rfl rfl (by unfold vp_in; decide) d_L_law_703 ?_
          refine j_lload (pc := 704) C d_L_law_704 0 rfl ?_
          refine j_lcmp (pc := 706) C d_L_law_706 ?_
          refine j_if_eq (pc := 707) (tgt := 712) C d_L_law_707 (by decide) (fun c123 => ?_) (fun c123 => ?_)
          · have hw := hw.1 c123
            refine j_goto (pc := 712) (tgt := 1167) C d_L_law_712 (by decide) ?_
            refine j_iinc (pc := 1167) (lv' := [(4, .int (i + 4)), (6, .long r117), (5, .int k104), (0, .ref b), (1, .ref (ad 0)), (2, .ref (am 0)), (3, .ref o)]) C d_L_law_1167 (k := 6) rfl rfl (Nat.le_of_ble_eq_true rfl) rfl ?_
            refine j_goto (pc := 1170) (tgt := 33) C d_L_law_1170 (by decide) ?_
            refine j_locs [3, 4, 5, 6, 0] rfl ?_
            refine j_widen (k := 26 + 4 * (j + 1)) (n := 10148 + 24 * (j + 1)) (show (26 + 4 * j) + 2 ≤ 26 + 4 * (j + 1) by omega) (show (10148 + 24 * j) + 12 ≤ 10148 + 24 * (j + 1) by omega) ?_
            exact ih (j + 1) (i + 4) u105.1 μ120 u105.2 hw
          · have hw := hw.2 c123
            refine j_iconst (v := 0) (pc := 710) C d_L_law_710 (by decide) ?_
            exact hw.elim
      · have hw := hw.2 c121
        refine j_iconst (v := 0) (pc := 694) C d_L_law_694 (by decide) ?_
        exact hw.elim
  · have hw := hw.2 c103
    refine j_iconst (v := 1) (pc := 642) C d_L_law_642 (by decide) ?_
    refine j_goto (pc := 643) (tgt := 647) C d_L_law_643 (by decide) ?_
    refine j_aload_n (pc := 647) C d_L_law_647 rfl 3 rfl ?_
    refine j_callH (pc := 648) (st := []) (As := [.ref (ad 0), .int (xs (Int32.toNatClampNeg (i + 1))), .int (xs (Int32.toNatClampNeg (i + 2))), .int 1, .ref o]) (wc := wO cI cL ad o (σ, f)) (wr := wM cI cL am μ) (wf := wO cI cL ad o) (wn := fun u => wL cI cL ad am o (u.1, μ, u.2)) C Zs.2 (c_L_slope (jk_l κ) Zs.1 (jk_G κ) cI cL ad o σ f (xs (Int32.toNatClampNeg (i + 1))) (xs (Int32.toNatClampNeg (i + 2))) 1 _ hw) g_L_110 hdS_L_slope ⟨(Nat.le_of_ble_eq_true rfl), (Nat.le_of_ble_eq_true rfl)⟩ rfl [0, 1, 2, 3, 4, 5, 6, 7, 8, 9, 10, 11, 12, 25] [13, 14, 15, 16, 17, 18, 19, 20, 21, 22, 23, 24] rfl rfl (by decide) (by decide) (by decide) rfl (Nat.le_of_ble_eq_true rfl) d_L_law_648 ⟨show (26 + 4 * j) + 2 ≤ 601024 by omega, show (10148 + 24 * j) + 12 ≤ 7293000 by omega⟩ [12, 13, 14, 15, 16, 17, 18, 19, 20, 21, 22, 23, 24, 0, 1, 2, 3, 4, 5, 6, 7, 8, 9, 10, 11, 25] (by decide) (fun _ => rfl) (fun k124 u125 hw => ?_)
    refine j_widen (k := (26 + 4 * j) + 2) (n := (10148 + 24 * j) + 12) (Nat.le_refl _) (Nat.le_refl _) ?_
    refine j_istore (pc := 651) (lv' := [(5, .int k124), (0, .ref b), (1, .ref (ad 0)), (2, .ref (am 0)), (3, .ref o), (4, .int i)]) C d_L_law_651 (Nat.le_of_ble_eq_true rfl) rfl ?_
    refine j_aload_n (pc := 653) C d_L_law_653 rfl 3 rfl ?_
    refine j_aload_n (pc := 654) C d_L_law_654 rfl 1 rfl ?_
    refine j_iload (pc := 655) C d_L_law_655 5 rfl ?_
    refine j_iconst (v := 1) (pc := 657) C d_L_law_657 (by decide) ?_
    refine j_iadd (pc := 658) C d_L_law_658 ?_
    obtain ⟨hi126, hw⟩ := hw
    refine j_sld (pc := 659) C Xs hi126 d_L_law_659 ?_
    refine j_aload_n (pc := 660) C d_L_law_660 rfl 1 rfl ?_
    refine j_iload (pc := 661) C d_L_law_661 5 rfl ?_
    refine j_iconst (v := 2) (pc := 663) C d_L_law_663 (by decide) ?_
    refine j_iadd (pc := 664) C d_L_law_664 ?_
    obtain ⟨hi127, hw⟩ := hw
    refine j_sld (pc := 665) C Xs hi127 d_L_law_665 ?_
    refine j_aload_n (pc := 666) C d_L_law_666 rfl 1 rfl ?_
    refine j_iload (pc := 667) C d_L_law_667 5 rfl ?_
    refine j_iconst (v := 3) (pc := 669) C d_L_law_669 (by decide) ?_
    refine j_iadd (pc := 670) C d_L_law_670 ?_
    obtain ⟨hi128, hw⟩ := hw
    refine j_sld (pc := 671) C Xs hi128 d_L_law_671 ?_
    refine j_if_eq (pc := 672) (tgt := 679) C d_L_law_672 (by decide) (fun c129 => ?_) (fun c129 => ?_)
    · have hw := hw.1 c129
      refine j_iconst (v := 0) (pc := 679) C d_L_law_679 (by decide) ?_
      refine j_callVl (pc := 680) (st := []) (As := [.int (xs (Int32.toNatClampNeg (i + 1))), .int (xs (Int32.toNatClampNeg (i + 2))), .int 0]) (wc := wM cI cL am μ) (wr := wO cI cL ad o (u125.1, u125.2)) (wf := wM cI cL am) (wn := fun u => wL cI cL ad am o (u125.1, u, u125.2)) C (c_M_slope (jk_l κ) (jk_G κ) cI cL am μ (xs (Int32.toNatClampNeg (i + 1))) (xs (Int32.toNatClampNeg (i + 2))) 0 _ hw) g_L_113 hdV_M_slope ⟨(Nat.le_of_ble_eq_true rfl), (Nat.le_of_ble_eq_true rfl)⟩ rfl (q0 := 0) rfl rfl rfl [13, 14, 15, 16, 17, 18, 19, 20, 21, 22, 23, 24] [0, 1, 2, 3, 4, 5, 6, 7, 8, 9, 10, 11, 12, 25] rfl rfl (by decide) (by decide) (by decide) rfl (Nat.le_of_ble_eq_true rfl) d_L_law_680 ⟨show (26 + 4 * j) + 2 + 0 ≤ 601024 by omega, show (10148 + 24 * j) + 12 + 0 ≤ 7293000 by omega⟩ [0, 1, 2, 3, 4, 5, 6, 7, 8, 9, 10, 11, 12, 14, 15, 16, 17, 18, 19, 20, 21, 22, 23, 24, 25, 13] (by decide) (fun _ => rfl) (fun r130 μ131 hw => ?_)
      refine j_widen (k := (26 + 4 * j) + 2) (n := (10148 + 24 * j) + 12) (Nat.le_refl _) (Nat.le_refl _) ?_
      refine j_lstore (pc := 683) (lv' := [(6, .long r130), (5, .int k124), (0, .ref b), (1, .ref (ad 0)), (2, .ref (am 0)), (3, .ref o), (4, .int i)]) C d_L_law_683 (Nat.le_of_ble_eq_true rfl) rfl ?_
      refine j_aload_n (pc := 685) C d_L_law_685 rfl 4 rfl ?_
      refine j_callVi (pc := 686) (st := []) (As := []) (wc := wM cI cL am μ131) (wr := wO cI cL ad o (u125.1, u125.2)) (wf := wM cI cL am) (wn := fun u => wL cI cL ad am o (u125.1, u, u125.2)) C (c_M_thrown (jk_l κ) (jk_G κ) cI cL am μ131 _ hw) g_L_83 hdV_M_thrown ⟨(Nat.le_of_ble_eq_true rfl), (Nat.le_of_ble_eq_true rfl)⟩ rfl (q0 := 0) rfl rfl rfl [13, 14, 15, 16, 17, 18, 19, 20, 21, 22, 23, 24] [0, 1, 2, 3, 4, 5, 6, 7, 8, 9, 10, 11, 12, 25] rfl rfl (by decide) (by decide) (by decide) rfl (Nat.le_of_ble_eq_true rfl) d_L_law_686 ⟨show (26 + 4 * j) + 2 + 0 ≤ 601024 by omega, show (10148 + 24 * j) + 12 + 0 ≤ 7293000 by omega⟩ [0, 1, 2, 3, 4, 5, 6, 7, 8, 9, 10, 11, 12, 14, 15, 16, 17, 18, 19, 20, 21, 22, 23, 24, 25, 13] (by decide) (fun _ => rfl) (fun r132 μ133 hw => ?_)
      refine j_widen (k := (26 + 4 * j) + 2) (n := (10148 + 24 * j) + 12) (Nat.le_refl _) (Nat.le_refl _) ?_
      refine j_iload (pc := 689) C d_L_law_689 1 rfl ?_
      refine j_icmp_eq (pc := 691) (tgt := 696) C d_L_law_691 (by decide) (fun c134 => ?_) (fun c134 => ?_)
      · have hw := hw.1 c134
        refine j_iload (pc := 696) C d_L_law_696 1 rfl ?_
        refine j_if_ne (pc := 698) (tgt := 712) C d_L_law_698 (by decide) (fun c135 => ?_) (fun c135 => ?_)
        · have hw := hw.1 c135
          refine j_goto (pc := 712) (tgt := 1167) C d_L_law_712 (by decide) ?_
          refine j_iinc (pc := 1167) (lv' := [(4, .int (i + 4)), (6, .long r130), (5, .int k124), (0, .ref b), (1, .ref (ad 0)), (2, .ref (am 0)), (3, .ref o)]) C d_L_law_1167 (k := 6) rfl rfl (Nat.le_of_ble_eq_true rfl) rfl ?_
          refine j_goto (pc := 1170) (tgt := 33) C d_L_law_1170 (by decide) ?_
          refine j_locs [3, 4, 5, 6, 0] rfl ?_
          refine j_widen (k := 26 + 4 * (j + 1)) (n := 10148 + 24 * (j + 1)) (show (26 + 4 * j) + 2 ≤ 26 + 4 * (j + 1) by omega) (show (10148 + 24 * j) + 12 ≤ 10148 + 24 * (j + 1) by omega) ?_
          exact ih (j + 1) (i + 4) u125.1 μ133 u125.2 hw
        · have hw := hw.2 c135
          refine j_aload_n (pc := 701) C d_L_law_701 rfl 5 rfl ?_
          refine j_iconst (v := 0) (pc := 702) C d_L_law_702 (by decide) ?_
          refine j_lald (pc := 703) C 25 1 rfl rfl (by unfold vp_in; decide) d_L_law_703 ?_
          refine j_lload (pc := 704) C d_L_law_704 0 rfl ?_
          refine j_lcmp (pc := 706) C d_L_law_706 ?_
          refine j_if_eq (pc := 707) (tgt := 712) C d_L_law_707 (by decide) (fun c136 => ?_) (fun c136 => ?_)
          · have hw := hw.1 c136
            refine j_goto (pc := 712) (tgt := 1167) C d_L_law_712 (by decide) ?_
            refine j_iinc (pc := 1167) (lv' := [(4, .int (i + 4)), (6, .long r130), (5, .int k124), (0, .ref b), (1, .ref (ad 0)), (2, .ref (am 0)), (3, .ref o)]) C d_L_law_1167 (k := 6) rfl rfl (Nat.le_of_ble_eq_true rfl) rfl ?_
            refine j_goto (pc := 1170) (tgt := 33) C d_L_law_1170 (by decide) ?_
            refine j_locs [3, 4, 5, 6, 0] rfl ?_
            refine j_widen (k := 26 + 4 * (j + 1)) (n := 10148 + 24 * (j + 1)) (show (26 + 4 * j) + 2 ≤ 26 + 4 * (j + 1) by omega) (show (10148 + 24 * j) + 12 ≤ 10148 + 24 * (j + 1) by omega) ?_
            exact ih (j + 1) (i + 4) u125.1 μ133 u125.2 hw
          · have hw := hw.2 c136
            refine j_iconst (v := 0) (pc := 710) C d_L_law_710 (by decide) ?_
            exact hw.elim
      · have hw := hw.2 c134
        refine j_iconst (v := 0) (pc := 694) C d_L_law_694 (by decide) ?_
        exact hw.elim
    · have hw := hw.2 c129
      refine j_iconst (v := 1) (pc := 675) C d_L_law_675 (by decide) ?_
      refine j_goto (pc := 676) (tgt := 680) C d_L_law_676 (by decide) ?_
      refine j_callVl (pc := 680) (st := []) (As := [.int (xs (Int32.toNatClampNeg (i + 1))), .int (xs (Int32.toNatClampNeg (i + 2))), .int 1]) (wc := wM cI cL am μ) (wr := wO cI cL ad o (u125.1, u125.2)) (wf := wM cI cL am) (wn := fun u => wL cI cL ad am o (u125.1, u, u125.2)) C (c_M_slope (jk_l κ) (jk_G κ) cI cL am μ (xs (Int32.toNatClampNeg (i + 1))) (xs (Int32.toNatClampNeg (i + 2))) 1 _ hw) g_L_113 hdV_M_slope ⟨(Nat.le_of_ble_eq_true rfl), (Nat.le_of_ble_eq_true rfl)⟩ rfl (q0 := 0) rfl rfl rfl [13, 14, 15, 16, 17, 18, 19, 20, 21, 22, 23, 24] [0, 1, 2, 3, 4, 5, 6, 7, 8, 9, 10, 11, 12, 25] rfl rfl (by decide) (by decide) (by decide) rfl (Nat.le_of_ble_eq_true rfl) d_L_law_680 ⟨show (26 + 4 * j) + 2 + 0 ≤ 601024 by omega, show (10148 + 24 * j) + 12 + 0 ≤ 7293000 by omega⟩ [0, 1, 2, 3, 4, 5, 6, 7, 8, 9, 10, 11, 12, 14, 15, 16, 17, 18, 19, 20, 21, 22, 23, 24, 25, 13] (by decide) (fun _ => rfl) (fun r137 μ138 hw => ?_)
      refine j_widen (k := (26 + 4 * j) + 2) (n := (10148 + 24 * j) + 12) (Nat.le_refl _) (Nat.le_refl _) ?_
      refine j_lstore (pc := 683) (lv' := [(6, .long r137), (5, .int k124), (0, .ref b), (1, .ref (ad 0)), (2, .ref (am 0)), (3, .ref o), (4, .int i)]) C d_L_law_683 (Nat.le_of_ble_eq_true rfl) rfl ?_
      refine j_aload_n (pc := 685) C d_L_law_685 rfl 4 rfl ?_
      refine j_callVi (pc := 686) (st := []) (As := []) (wc := wM cI cL am μ138) (wr := wO cI cL ad o (u125.1, u125.2)) (wf := wM cI cL am) (wn := fun u => wL cI cL ad am o (u125.1, u, u125.2)) C (c_M_thrown (jk_l κ) (jk_G κ) cI cL am μ138 _ hw) g_L_83 hdV_M_thrown ⟨(Nat.le_of_ble_eq_true rfl), (Nat.le_of_ble_eq_true rfl)⟩ rfl (q0 := 0) rfl rfl rfl [13, 14, 15, 16, 17, 18, 19, 20, 21, 22, 23, 24] [0, 1, 2, 3, 4, 5, 6, 7, 8, 9, 10, 11, 12, 25] rfl rfl (by decide) (by decide) (by decide) rfl (Nat.le_of_ble_eq_true rfl) d_L_law_686 ⟨show (26 + 4 * j) + 2 + 0 ≤ 601024 by omega, show (10148 + 24 * j) + 12 + 0 ≤ 7293000 by omega⟩ [0, 1, 2, 3, 4, 5, 6, 7, 8, 9, 10, 11, 12, 14, 15, 16, 17, 18, 19, 20, 21, 22, 23, 24, 25, 13] (by decide) (fun _ => rfl) (fun r139 μ140 hw => ?_)
      refine j_widen (k := (26 + 4 * j) + 2) (n := (10148 + 24 * j) + 12) (Nat.le_refl _) (Nat.le_refl _) ?_
      refine j_iload (pc := 689) C d_L_law_689 1 rfl ?_
      refine j_icmp_eq (pc := 691) (tgt := 696) C d_L_law_691 (by decide) (fun c141 => ?_) (fun c141 => ?_)
      · have hw := hw.1 c141
        refine j_iload (pc := 696) C d_L_law_696 1 rfl ?_
        refine j_if_ne (pc := 698) (tgt := 712) C d_L_law_698 (by decide) (fun c142 => ?_) (fun c142 => ?_)
        · have hw := hw.1 c142
          refine j_goto (pc := 712) (tgt := 1167) C d_L_law_712 (by decide) ?_
          refine j_iinc (pc := 1167) (lv' := [(4, .int (i + 4)), (6, .long r137), (5, .int k124), (0, .ref b), (1, .ref (ad 0)), (2, .ref (am 0)), (3, .ref o)]) C d_L_law_1167 (k := 6) rfl rfl (Nat.le_of_ble_eq_true rfl) rfl ?_
          refine j_goto (pc := 1170) (tgt := 33) C d_L_law_1170 (by decide) ?_
          refine j_locs [3, 4, 5, 6, 0] rfl ?_
          refine j_widen (k := 26 + 4 * (j + 1)) (n := 10148 + 24 * (j + 1)) (show (26 + 4 * j) + 2 ≤ 26 + 4 * (j + 1) by omega) (show (10148 + 24 * j) + 12 ≤ 10148 + 24 * (j + 1) by omega) ?_
          exact ih (j + 1) (i + 4) u125.1 μ140 u125.2 hw
        · have hw := hw.2 c142
          refine j_aload_n (pc := 701) C d_L_law_701 rfl 5 rfl ?_
          refine j_iconst (v := 0) (pc := 702) C d_L_law_702 (by decide) ?_
          refine j_lald (pc := 703) C 25 1 rfl rfl (by unfold vp_in; decide) d_L_law_703 ?_
          refine j_lload (pc := 704) C d_L_law_704 0 rfl ?_
          refine j_lcmp (pc := 706) C d_L_law_706 ?_
          refine j_if_eq (pc := 707) (tgt := 712) C d_L_law_707 (by decide) (fun c143 => ?_) (fun c143 => ?_)
          · have hw := hw.1 c143
            refine j_goto (pc := 712) (tgt := 1167) C d_L_law_712 (by decide) ?_
            refine j_iinc (pc := 1167) (lv' := [(4, .int (i + 4)), (6, .long r137), (5, .int k124), (0, .ref b), (1, .ref (ad 0)), (2, .ref (am 0)), (3, .ref o)]) C d_L_law_1167 (k := 6) rfl rfl (Nat.le_of_ble_eq_true rfl) rfl ?_
            refine j_goto (pc := 1170) (tgt := 33) C d_L_law_1170 (by decide) ?_
            refine j_locs [3, 4, 5, 6, 0] rfl ?_
            refine j_widen (k := 26 + 4 * (j + 1)) (n := 10148 + 24 * (j + 1)) (show (26 + 4 * j) + 2 ≤ 26 + 4 * (j + 1) by omega) (show (10148 + 24 * j) + 12 ≤ 10148 + 24 * (j + 1) by omega) ?_
            exact ih (j + 1) (i + 4) u125.1 μ140 u125.2 hw
          · have hw := hw.2 c143
            refine j_iconst (v := 0) (pc := 710) C d_L_law_710 (by decide) ?_
            exact hw.elim
      · have hw := hw.2 c141
        refine j_iconst (v := 0) (pc := 694) C d_L_law_694 (by decide) ?_
        exact hw.elim
set_option maxHeartbeats 4000000 in
set_option maxRecDepth 100000 in
theorem law_case_9 {κ : jk_K} {cI cL : ClassId} {ad am : Nat → Nat} {o b L : Nat} {xs : Nat → Int32} {k : Nat → Int32 → SX → SM → (Nat → Int64) → Prop} {j : Nat} {i : Int32} {σ : SX} {μ : SM} {f : Nat → Int64} (C : jk_C κ code R_L room_1 8 [(cI, .int), (cL, .long)]) (Zs : (jk_l κ).stackTraces = false ∧ jk_Z (jk_A κ) (jk_s κ)) (Xs : jk_Cs κ b L xs) (hj : j < 512) (ih : ∀ (j : Nat) (i : Int32) (σ : SX) (μ : SM) (f : Nat → Int64), k j i σ μ f → jk_J κ (wL cI cL ad am o (σ, μ, f)) 33 [(0, .ref b), (1, .ref (ad 0)), (2, .ref (am 0)), (3, .ref o), (4, .int i)] [] (26 + 4 * j) (10148 + 24 * j)) (hw : wc_law_9 L xs k j i σ μ f) : jk_J κ (wL cI cL ad am o (σ, μ, f)) 715 [(0, .ref b), (1, .ref (ad 0)), (2, .ref (am 0)), (3, .ref o), (4, .int i)] [] (26 + 4 * j) (10148 + 24 * j) := by
  unfold wc_law_9 at hw
  refine j_aload_n (pc := 715) C d_L_law_715 rfl 1 rfl ?_
  refine j_callVi (pc := 716) (st := []) (As := []) (wc := wX cI cL ad σ) (wr := wM cI cL am μ ++ [(o, .inl (cL, 1, .inr (.inl f)))]) (wf := wX cI cL ad) (wn := fun u => wL cI cL ad am o (u, μ, f)) C (c_X_row (jk_l κ) (jk_G κ) cI cL ad σ _ hw) g_L_114 hdV_X_row ⟨(Nat.le_of_ble_eq_true rfl), (Nat.le_of_ble_eq_true rfl)⟩ rfl (q0 := 0) rfl rfl rfl [0, 1, 2, 3, 4, 5, 6, 7, 8, 9, 10, 11, 12] [13, 14, 15, 16, 17, 18, 19, 20, 21, 22, 23, 24, 25] rfl rfl (by decide) (by decide) (by decide) rfl (Nat.le_of_ble_eq_true rfl) d_L_law_716 ⟨show (26 + 4 * j) + 0 ≤ 601024 by omega, show (10148 + 24 * j) + 0 ≤ 7293000 by omega⟩ [13, 14, 15, 16, 17, 18, 19, 20, 21, 22, 23, 24, 25, 0, 1, 2, 3, 4, 5, 6, 7, 8, 9, 10, 11, 12] (by decide) (fun _ => rfl) (fun r144 σ145 hw => ?_)
  refine j_widen (k := (26 + 4 * j)) (n := (10148 + 24 * j)) (Nat.le_refl _) (Nat.le_refl _) ?_
  refine j_aload_n (pc := 719) C d_L_law_719 rfl 2 rfl ?_
  refine j_callVi (pc := 720) (st := [.int r144]) (As := []) (wc := wM cI cL am μ) (wr := wO cI cL ad o (σ145, f)) (wf := wM cI cL am) (wn := fun u => wL cI cL ad am o (σ145, u, f)) C (c_M_row (jk_l κ) (jk_G κ) cI cL am μ _ hw) g_L_117 hdV_M_row ⟨(Nat.le_of_ble_eq_true rfl), (Nat.le_of_ble_eq_true rfl)⟩ rfl (q0 := 0) rfl rfl rfl [13, 14, 15, 16, 17, 18, 19, 20, 21, 22, 23, 24] [0, 1, 2, 3, 4, 5, 6, 7, 8, 9, 10, 11, 12, 25] rfl rfl (by decide) (by decide) (by decide) rfl (Nat.le_of_ble_eq_true rfl) d_L_law_720 ⟨show (26 + 4 * j) + 0 ≤ 601024 by omega, show (10148 + 24 * j) + 0 ≤ 7293000 by omega⟩ [0, 1, 2, 3, 4, 5, 6, 7, 8, 9, 10, 11, 12, 14, 15, 16, 17, 18, 19, 20, 21, 22, 23, 24, 25, 13] (by decide) (fun _ => rfl) (fun r146 μ147 hw => ?_)
  refine j_widen (k := (26 + 4 * j)) (n := (10148 + 24 * j)) (Nat.le_refl _) (Nat.le_refl _) ?_
  refine j_icmp_eq (pc := 723) (tgt := 1167) C d_L_law_723 (by decide) (fun c148 => ?_) (fun c148 => ?_)
  · have hw := hw.1 c148
    refine j_iinc (pc := 1167) (lv' := [(4, .int (i + 4)), (0, .ref b), (1, .ref (ad 0)), (2, .ref (am 0)), (3, .ref o)]) C d_L_law_1167 (k := 4) rfl rfl (Nat.le_of_ble_eq_true rfl) rfl ?_
    refine j_goto (pc := 1170) (tgt := 33) C d_L_law_1170 (by decide) ?_
    refine j_locs [1, 2, 3, 4, 0] rfl ?_
    refine j_widen (k := 26 + 4 * (j + 1)) (n := 10148 + 24 * (j + 1)) (show (26 + 4 * j) ≤ 26 + 4 * (j + 1) by omega) (show (10148 + 24 * j) ≤ 10148 + 24 * (j + 1) by omega) ?_
    exact ih (j + 1) (i + 4) σ145 μ147 f hw
  · have hw := hw.2 c148
    refine j_iconst (v := 0) (pc := 726) C d_L_law_726 (by decide) ?_
    exact hw.elim
set_option maxHeartbeats 4000000 in
set_option maxRecDepth 100000 in
theorem law_case_10 {κ : jk_K} {cI cL : ClassId} {ad am : Nat → Nat} {o b L : Nat} {xs : Nat → Int32} {k : Nat → Int32 → SX → SM → (Nat → Int64) → Prop} {j : Nat} {i : Int32} {σ : SX} {μ : SM} {f : Nat → Int64} (C : jk_C κ code R_L room_1 8 [(cI, .int), (cL, .long)]) (Zs : (jk_l κ).stackTraces = false ∧ jk_Z (jk_A κ) (jk_s κ)) (Xs : jk_Cs κ b L xs) (hj : j < 512) (ih : ∀ (j : Nat) (i : Int32) (σ : SX) (μ : SM) (f : Nat → Int64), k j i σ μ f → jk_J κ (wL cI cL ad am o (σ, μ, f)) 33 [(0, .ref b), (1, .ref (ad 0)), (2, .ref (am 0)), (3, .ref o), (4, .int i)] [] (26 + 4 * j) (10148 + 24 * j)) (hw : wc_law_10 L xs k j i σ μ f) : jk_J κ (wL cI cL ad am o (σ, μ, f)) 728 [(0, .ref b), (1, .ref (ad 0)), (2, .ref (am 0)), (3, .ref o), (4, .int i)] [] (26 + 4 * j) (10148 + 24 * j) := by
  unfold wc_law_10 at hw
  refine j_aload_n (pc := 728) C d_L_law_728 rfl 1 rfl ?_
  refine j_aload_n (pc := 729) C d_L_law_729 rfl 0 rfl ?_
  refine j_iload (pc := 730) C d_L_law_730 4 rfl ?_
  refine j_iconst (v := 1) (pc := 732) C d_L_law_732 (by decide) ?_
  refine j_iadd (pc := 733) C d_L_law_733 ?_
  obtain ⟨hi149, hw⟩ := hw
  refine j_sld (pc := 734) C Xs hi149 d_L_law_734 ?_
  refine j_aload_n (pc := 735) C d_L_law_735 rfl 0 rfl ?_
  refine j_iload (pc := 736) C d_L_law_736 4 rfl ?_
  refine j_iconst (v := 2) (pc := 738) C d_L_law_738 (by decide) ?_
  refine j_iadd (pc := 739) C d_L_law_739 ?_
  obtain ⟨hi150, hw⟩ := hw
  refine j_sld (pc := 740) C Xs hi150 d_L_law_740 ?_
  refine j_aload_n (pc := 741) C d_L_law_741 rfl 3 rfl ?_
  refine j_callH (pc := 742) (st := []) (As := [.ref (ad 0), .int (xs (Int32.toNatClampNeg (i + 1))), .int (xs (Int32.toNatClampNeg (i + 2))), .ref o]) (wc := wO cI cL ad o (σ, f)) (wr := wM cI cL am μ) (wf := wO cI cL ad o) (wn := fun u => wL cI cL ad am o (u.1, μ, u.2)) C Zs.2 (c_L_at (jk_l κ) Zs.1 (jk_G κ) cI cL ad o σ f (xs (Int32.toNatClampNeg (i + 1))) (xs (Int32.toNatClampNeg (i + 2))) _ hw) g_L_118 hdS_L_at ⟨(Nat.le_of_ble_eq_true rfl), (Nat.le_of_ble_eq_true rfl)⟩ rfl [0, 1, 2, 3, 4, 5, 6, 7, 8, 9, 10, 11, 12, 25] [13, 14, 15, 16, 17, 18, 19, 20, 21, 22, 23, 24] rfl rfl (by decide) (by decide) (by decide) rfl (Nat.le_of_ble_eq_true rfl) d_L_law_742 ⟨show (26 + 4 * j) + 1 ≤ 601024 by omega, show (10148 + 24 * j) + 6 ≤ 7293000 by omega⟩ [12, 13, 14, 15, 16, 17, 18, 19, 20, 21, 22, 23, 24, 0, 1, 2, 3, 4, 5, 6, 7, 8, 9, 10, 11, 25] (by decide) (fun _ => rfl) (fun k151 u152 hw => ?_)
  refine j_widen (k := (26 + 4 * j) + 1) (n := (10148 + 24 * j) + 6) (Nat.le_refl _) (Nat.le_refl _) ?_
  refine j_istore (pc := 745) (lv' := [(5, .int k151), (0, .ref b), (1, .ref (ad 0)), (2, .ref (am 0)), (3, .ref o), (4, .int i)]) C d_L_law_745 (Nat.le_of_ble_eq_true rfl) rfl ?_
  refine j_aload_n (pc := 747) C d_L_law_747 rfl 3 rfl ?_
  refine j_aload_n (pc := 748) C d_L_law_748 rfl 1 rfl ?_
  refine j_iload (pc := 749) C d_L_law_749 5 rfl ?_
  refine j_iconst (v := 1) (pc := 751) C d_L_law_751 (by decide) ?_
  refine j_iadd (pc := 752) C d_L_law_752 ?_
  obtain ⟨hi153, hw⟩ := hw
  refine j_sld (pc := 753) C Xs hi153 d_L_law_753 ?_
  refine j_aload_n (pc := 754) C d_L_law_754 rfl 1 rfl ?_
  refine j_iload (pc := 755) C d_L_law_755 5 rfl ?_
  refine j_iconst (v := 2) (pc := 757) C d_L_law_757 (by decide) ?_
  refine j_iadd (pc := 758) C d_L_law_758 ?_
  obtain ⟨hi154, hw⟩ := hw
  refine j_sld (pc := 759) C Xs hi154 d_L_law_759 ?_
  refine j_callVi (pc := 760) (st := []) (As := [.int (xs (Int32.toNatClampNeg (i + 1))), .int (xs (Int32.toNatClampNeg (i + 2)))]) (wc := wM cI cL am μ) (wr := wO cI cL ad o (u152.1, u152.2)) (wf := wM cI cL am) (wn := fun u => wL cI cL ad am o (u152.1, u, u152.2)) C (c_M_at (jk_l κ) (jk_G κ) cI cL am μ (xs (Int32.toNatClampNeg (i + 1))) (xs (Int32.toNatClampNeg (i + 2))) _ hw) g_L_120 hdV_M_at ⟨(Nat.le_of_ble_eq_true rfl), (Nat.le_of_ble_eq_true rfl)⟩ rfl (q0 := 0) rfl rfl rfl [13, 14, 15, 16, 17, 18, 19, 20, 21, 22, 23, 24] [0, 1, 2, 3, 4, 5, 6, 7, 8, 9, 10, 11, 12, 25] rfl rfl (by decide) (by decide) (by decide) rfl (Nat.le_of_ble_eq_true rfl) d_L_law_760 ⟨show (26 + 4 * j) + 1 + 0 ≤ 601024 by omega, show (10148 + 24 * j) + 6 + 0 ≤ 7293000 by omega⟩ [0, 1, 2, 3, 4, 5, 6, 7, 8, 9, 10, 11, 12, 14, 15, 16, 17, 18, 19, 20, 21, 22, 23, 24, 25, 13] (by decide) (fun _ => rfl) (fun r155 μ156 hw => ?_)
  refine j_widen (k := (26 + 4 * j) + 1) (n := (10148 + 24 * j) + 6) (Nat.le_refl _) (Nat.le_refl _) ?_
  refine j_istore (pc := 763) (lv' := [(6, .int r155), (5, .int k151), (0, .ref b), (1, .ref (ad 0)), (2, .ref (am 0)), (3, .ref o), (4, .int i)]) C d_L_law_763 (Nat.le_of_ble_eq_true rfl) rfl ?_
  refine j_aload_n (pc := 765) C d_L_law_765 rfl 4 rfl ?_
  refine j_callVi (pc := 766) (st := []) (As := []) (wc := wM cI cL am μ156) (wr := wO cI cL ad o (u152.1, u152.2)) (wf := wM cI cL am) (wn := fun u => wL cI cL ad am o (u152.1, u, u152.2)) C (c_M_thrown (jk_l κ) (jk_G κ) cI cL am μ156 _ hw) g_L_83 hdV_M_thrown ⟨(Nat.le_of_ble_eq_true rfl), (Nat.le_of_ble_eq_true rfl)⟩ rfl (q0 := 0) rfl rfl rfl [13, 14, 15, 16, 17, 18, 19, 20, 21, 22, 23, 24] [0, 1, 2, 3, 4, 5, 6, 7, 8, 9, 10, 11, 12, 25] rfl rfl (by decide) (by decide) (by decide) rfl (Nat.le_of_ble_eq_true rfl) d_L_law_766 ⟨show (26 + 4 * j) + 1 + 0 ≤ 601024 by omega, show (10148 + 24 * j) + 6 + 0 ≤ 7293000 by omega⟩ [0, 1, 2, 3, 4, 5, 6, 7, 8, 9, 10, 11, 12, 14, 15, 16, 17, 18, 19, 20, 21, 22, 23, 24, 25, 13] (by decide) (fun _ => rfl) (fun r157 μ158 hw => ?_)
  refine j_widen (k := (26 + 4 * j) + 1) (n := (10148 + 24 * j) + 6) (Nat.le_refl _) (Nat.le_refl _) ?_
  refine j_iload (pc := 769) C d_L_law_769 1 rfl ?_
  refine j_icmp_eq (pc := 771) (tgt := 776) C d_L_law_771 (by decide) (fun c159 => ?_) (fun c159 => ?_)
  · have hw := hw.1 c159
    refine j_iload (pc := 776) C d_L_law_776 1 rfl ?_
    refine j_if_ne (pc := 778) (tgt := 793) C d_L_law_778 (by decide) (fun c160 => ?_) (fun c160 => ?_)
    · have hw := hw.1 c160
      refine j_goto (pc := 793) (tgt := 1167) C d_L_law_793 (by decide) ?_
      refine j_iinc (pc := 1167) (lv' := [(4, .int (i + 4)), (6, .int r155), (5, .int k151), (0, .ref b), (1, .ref (ad 0)), (2, .ref (am 0)), (3, .ref o)]) C d_L_law_1167 (k := 6) rfl rfl (Nat.le_of_ble_eq_true rfl) rfl ?_
      refine j_goto (pc := 1170) (tgt := 33) C d_L_law_1170 (by decide) ?_
      refine j_locs [3, 4, 5, 6, 0] rfl ?_
      refine j_widen (k := 26 + 4 * (j + 1)) (n := 10148 + 24 * (j + 1)) (show (26 + 4 * j) + 1 ≤ 26 + 4 * (j + 1) by omega) (show (10148 + 24 * j) + 6 ≤ 10148 + 24 * (j + 1) by omega) ?_
      exact ih (j + 1) (i + 4) u152.1 μ158 u152.2 hw
    · have hw := hw.2 c160
      refine j_aload_n (pc := 781) C d_L_law_781 rfl 5 rfl ?_
      refine j_iconst (v := 0) (pc := 782) C d_L_law_782 (by decide) ?_
      refine j_lald (pc := 783) C 25 1 rfl rfl (by unfold vp_in; decide) d_L_law_783 ?_
      refine j_iload (pc := 784) C d_L_law_784 0 rfl ?_
      refine j_i2l (pc := 786) C d_L_law_786 ?_
      refine j_lcmp (pc := 787) C d_L_law_787 ?_
      refine j_if_eq (pc := 788) (tgt := 793) C d_L_law_788 (by decide) (fun c161 => ?_) (fun c161 => ?_)
      · have hw := hw.1 c161
        refine j_goto (pc := 793) (tgt := 1167) C d_L_law_793 (by decide) ?_
        refine j_iinc (pc := 1167) (lv' := [(4, .int (i + 4)), (6, .int r155), (5, .int k151), (0, .ref b), (1, .ref (ad 0)), (2, .ref (am 0)), (3, .ref o)]) C d_L_law_1167 (k := 6) rfl rfl (Nat.le_of_ble_eq_true rfl) rfl ?_
        refine j_goto (pc := 1170) (tgt := 33) C d_L_law_1170 (by decide) ?_
        refine j_locs [3, 4, 5, 6, 0] rfl ?_
        refine j_widen (k := 26 + 4 * (j + 1)) (n := 10148 + 24 * (j + 1)) (show (26 + 4 * j) + 1 ≤ 26 + 4 * (j + 1) by omega) (show (10148 + 24 * j) + 6 ≤ 10148 + 24 * (j + 1) by omega) ?_
        exact ih (j + 1) (i + 4) u152.1 μ158 u152.2 hw
      · have hw := hw.2 c161
        refine j_iconst (v := 0) (pc := 791) C d_L_law_791 (by decide) ?_
        exact hw.elim
  · have hw := hw.2 c159
    refine j_iconst (v := 0) (pc := 774) C d_L_law_774 (by decide) ?_
    exact hw.elim
