set_option maxHeartbeats 4000000 in
set_option maxRecDepth 100000 in
theorem law_case_4 {κ : jk_K} {cI cL : ClassId} {ad am : Nat → Nat} {o b L : Nat} {xs : Nat → Int32} {k : Nat → Int32 → SX → SM → (Nat → Int64) → Prop} {j : Nat} {i : Int32} {σ : SX} {μ : SM} {f : Nat → Int64} (C : jk_C κ code R_L room_1 8 [(cI, .int), (cL, .long)]) (Zs : (jk_l κ).stackTraces = false ∧ jk_Z (jk_A κ) (jk_s κ)) (Xs : jk_Cs κ b L xs) (hj : j < 512) (ih : ∀ (j : Nat) (i : Int32) (σ : SX) (μ : SM) (f : Nat → Int64), k j i σ μ f → jk_J κ (wL cI cL ad am o (σ, μ, f)) 33 [(0, .ref b), (1, .ref (ad 0)), (2, .ref (am 0)), (3, .ref o), (4, .int i)] [] (26 + 4 * j) (10148 + 24 * j)) (hw : wc_law_4 L xs k j i σ μ f) : jk_J κ (wL cI cL ad am o (σ, μ, f)) 396 [(0, .ref b), (1, .ref (ad 0)), (2, .ref (am 0)), (3, .ref o), (4, .int i)] [] (26 + 4 * j) (10148 + 24 * j) := by
  unfold wc_law_4 at hw
  refine j_aload_n (pc := 396) C d_L_law_396 rfl 1 rfl ?_
  refine j_aload_n (pc := 397) C d_L_law_397 rfl 0 rfl ?_
  refine j_iload (pc := 398) C d_L_law_398 4 rfl ?_
  refine j_iconst (v := 1) (pc := 400) C d_L_law_400 (by decide) ?_
  refine j_iadd (pc := 401) C d_L_law_401 ?_
  obtain ⟨hi54, hw⟩ := hw
  refine j_sld (pc := 402) C Xs hi54 d_L_law_402 ?_
  refine j_aload_n (pc := 403) C d_L_law_403 rfl 0 rfl ?_
  refine j_iload (pc := 404) C d_L_law_404 4 rfl ?_
  refine j_iconst (v := 2) (pc := 406) C d_L_law_406 (by decide) ?_
  refine j_iadd (pc := 407) C d_L_law_407 ?_
  obtain ⟨hi55, hw⟩ := hw
  refine j_sld (pc := 408) C Xs hi55 d_L_law_408 ?_
  refine j_aload_n (pc := 409) C d_L_law_409 rfl 3 rfl ?_
  refine j_callH (pc := 410) (st := []) (As := [.ref (ad 0), .int (xs (Int32.toNatClampNeg (i + 1))), .int (xs (Int32.toNatClampNeg (i + 2))), .ref o]) (wc := wO cI cL ad o (σ, f)) (wr := wM cI cL am μ) (wf := wO cI cL ad o) (wn := fun u => wL cI cL ad am o (u.1, μ, u.2)) C Zs.2 (c_L_size (jk_l κ) Zs.1 (jk_G κ) cI cL ad o σ f (xs (Int32.toNatClampNeg (i + 1))) (xs (Int32.toNatClampNeg (i + 2))) _ hw) g_L_97 hdS_L_size ⟨(Nat.le_of_ble_eq_true rfl), (Nat.le_of_ble_eq_true rfl)⟩ rfl [0, 1, 2, 3, 4, 5, 6, 7, 8, 9, 10, 11, 12, 25] [13, 14, 15, 16, 17, 18, 19, 20, 21, 22, 23, 24] rfl rfl (by decide) (by decide) (by decide) rfl (Nat.le_of_ble_eq_true rfl) d_L_law_410 ⟨show (26 + 4 * j) + 2 ≤ 601024 by omega, show (10148 + 24 * j) + 12 ≤ 7293000 by omega⟩ [12, 13, 14, 15, 16, 17, 18, 19, 20, 21, 22, 23, 24, 0, 1, 2, 3, 4, 5, 6, 7, 8, 9, 10, 11, 25] (by decide) (fun _ => rfl) (fun k56 u57 hw => ?_)
  refine j_widen (k := (26 + 4 * j) + 2) (n := (10148 + 24 * j) + 12) (Nat.le_refl _) (Nat.le_refl _) ?_
  refine j_istore (pc := 413) (lv' := [(5, .int k56), (0, .ref b), (1, .ref (ad 0)), (2, .ref (am 0)), (3, .ref o), (4, .int i)]) C d_L_law_413 (Nat.le_of_ble_eq_true rfl) rfl ?_
  refine j_aload_n (pc := 415) C d_L_law_415 rfl 3 rfl ?_
  refine j_aload_n (pc := 416) C d_L_law_416 rfl 1 rfl ?_
  refine j_iload (pc := 417) C d_L_law_417 5 rfl ?_
  refine j_iconst (v := 1) (pc := 419) C d_L_law_419 (by decide) ?_
  refine j_iadd (pc := 420) C d_L_law_420 ?_
  obtain ⟨hi58, hw⟩ := hw
  refine j_sld (pc := 421) C Xs hi58 d_L_law_421 ?_
  refine j_aload_n (pc := 422) C d_L_law_422 rfl 1 rfl ?_
  refine j_iload (pc := 423) C d_L_law_423 5 rfl ?_
  refine j_iconst (v := 2) (pc := 425) C d_L_law_425 (by decide) ?_
  refine j_iadd (pc := 426) C d_L_law_426 ?_
  obtain ⟨hi59, hw⟩ := hw
  refine j_sld (pc := 427) C Xs hi59 d_L_law_427 ?_
  refine j_callVi (pc := 428) (st := []) (As := [.int (xs (Int32.toNatClampNeg (i + 1))), .int (xs (Int32.toNatClampNeg (i + 2)))]) (wc := wM cI cL am μ) (wr := wO cI cL ad o (u57.1, u57.2)) (wf := wM cI cL am) (wn := fun u => wL cI cL ad am o (u57.1, u, u57.2)) C (c_M_size (jk_l κ) (jk_G κ) cI cL am μ (xs (Int32.toNatClampNeg (i + 1))) (xs (Int32.toNatClampNeg (i + 2))) _ hw) g_L_99 hdV_M_size ⟨(Nat.le_of_ble_eq_true rfl), (Nat.le_of_ble_eq_true rfl)⟩ rfl (q0 := 0) rfl rfl rfl [13, 14, 15, 16, 17, 18, 19, 20, 21, 22, 23, 24] [0, 1, 2, 3, 4, 5, 6, 7, 8, 9, 10, 11, 12, 25] rfl rfl (by decide) (by decide) (by decide) rfl (Nat.le_of_ble_eq_true rfl) d_L_law_428 ⟨show (26 + 4 * j) + 2 + 0 ≤ 601024 by omega, show (10148 + 24 * j) + 12 + 0 ≤ 7293000 by omega⟩ [0, 1, 2, 3, 4, 5, 6, 7, 8, 9, 10, 11, 12, 14, 15, 16, 17, 18, 19, 20, 21, 22, 23, 24, 25, 13] (by decide) (fun _ => rfl) (fun r60 μ61 hw => ?_)
  refine j_widen (k := (26 + 4 * j) + 2) (n := (10148 + 24 * j) + 12) (Nat.le_refl _) (Nat.le_refl _) ?_
  refine j_istore (pc := 431) (lv' := [(6, .int r60), (5, .int k56), (0, .ref b), (1, .ref (ad 0)), (2, .ref (am 0)), (3, .ref o), (4, .int i)]) C d_L_law_431 (Nat.le_of_ble_eq_true rfl) rfl ?_
  refine j_aload_n (pc := 433) C d_L_law_433 rfl 4 rfl ?_
  refine j_callVi (pc := 434) (st := []) (As := []) (wc := wM cI cL am μ61) (wr := wO cI cL ad o (u57.1, u57.2)) (wf := wM cI cL am) (wn := fun u => wL cI cL ad am o (u57.1, u, u57.2)) C (c_M_thrown (jk_l κ) (jk_G κ) cI cL am μ61 _ hw) g_L_83 hdV_M_thrown ⟨(Nat.le_of_ble_eq_true rfl), (Nat.le_of_ble_eq_true rfl)⟩ rfl (q0 := 0) rfl rfl rfl [13, 14, 15, 16, 17, 18, 19, 20, 21, 22, 23, 24] [0, 1, 2, 3, 4, 5, 6, 7, 8, 9, 10, 11, 12, 25] rfl rfl (by decide) (by decide) (by decide) rfl (Nat.le_of_ble_eq_true rfl) d_L_law_434 ⟨show (26 + 4 * j) + 2 + 0 ≤ 601024 by omega, show (10148 + 24 * j) + 12 + 0 ≤ 7293000 by omega⟩ [0, 1, 2, 3, 4, 5, 6, 7, 8, 9, 10, 11, 12, 14, 15, 16, 17, 18, 19, 20, 21, 22, 23, 24, 25, 13] (by decide) (fun _ => rfl) (fun r62 μ63 hw => ?_)
  refine j_widen (k := (26 + 4 * j) + 2) (n := (10148 + 24 * j) + 12) (Nat.le_refl _) (Nat.le_refl _) ?_
  refine j_iload (pc := 437) C d_L_law_437 1 rfl ?_
  refine j_icmp_eq (pc := 439) (tgt := 444) C d_L_law_439 (by decide) (fun c64 => ?_) (fun c64 => ?_)
  · have hw := hw.1 c64
    refine j_iload (pc := 444) C d_L_law_444 1 rfl ?_
    refine j_if_ne (pc := 446) (tgt := 461) C d_L_law_446 (by decide) (fun c65 => ?_) (fun c65 => ?_)
    · have hw := hw.1 c65
      refine j_goto (pc := 461) (tgt := 1167) C d_L_law_461 (by decide) ?_
      refine j_iinc (pc := 1167) (lv' := [(4, .int (i + 4)), (6, .int r60), (5, .int k56), (0, .ref b), (1, .ref (ad 0)), (2, .ref (am 0)), (3, .ref o)]) C d_L_law_1167 (k := 6) rfl rfl (Nat.le_of_ble_eq_true rfl) rfl ?_
      refine j_goto (pc := 1170) (tgt := 33) C d_L_law_1170 (by decide) ?_
      refine j_locs [3, 4, 5, 6, 0] rfl ?_
      refine j_widen (k := 26 + 4 * (j + 1)) (n := 10148 + 24 * (j + 1)) (show (26 + 4 * j) + 2 ≤ 26 + 4 * (j + 1) by omega) (show (10148 + 24 * j) + 12 ≤ 10148 + 24 * (j + 1) by omega) ?_
      exact ih (j + 1) (i + 4) u57.1 μ63 u57.2 hw
    · have hw := hw.2 c65
      refine j_aload_n (pc := 449) C d_L_law_449 rfl 5 rfl ?_
      refine j_iconst (v := 0) (pc := 450) C d_L_law_450 (by decide) ?_
      refine j_lald (pc := 451) C 25 1 rfl rfl (by unfold vp_in; decide) d_L_law_451 ?_
      refine j_iload (pc := 452) C d_L_law_452 0 rfl ?_
      refine j_i2l (pc := 454) C d_L_law_454 ?_
      refine j_lcmp (pc := 455) C d_L_law_455 ?_
      refine j_if_eq (pc := 456) (tgt := 461) C d_L_law_456 (by decide) (fun c66 => ?_) (fun c66 => ?_)
      · have hw := hw.1 c66
        refine j_goto (pc := 461) (tgt := 1167) C d_L_law_461 (by decide) ?_
        refine j_iinc (pc := 1167) (lv' := [(4, .int (i + 4)), (6, .int r60), (5, .int k56), (0, .ref b), (1, .ref (ad 0)), (2, .ref (am 0)), (3, .ref o)]) C d_L_law_1167 (k := 6) rfl rfl (Nat.le_of_ble_eq_true rfl) rfl ?_
        refine j_goto (pc := 1170) (tgt := 33) C d_L_law_1170 (by decide) ?_
        refine j_locs [3, 4, 5, 6, 0] rfl ?_
        refine j_widen (k := 26 + 4 * (j + 1)) (n := 10148 + 24 * (j + 1)) (show (26 + 4 * j) + 2 ≤ 26 + 4 * (j + 1) by omega) (show (10148 + 24 * j) + 12 ≤ 10148 + 24 * (j + 1) by omega) ?_
        exact ih (j + 1) (i + 4) u57.1 μ63 u57.2 hw
      · have hw := hw.2 c66
        refine j_iconst (v := 0) (pc := 459) C d_L_law_459 (by decide) ?_
        exact hw.elim
  · have hw := hw.2 c64
    refine j_iconst (v := 0) (pc := 442) C d_L_law_442 (by decide) ?_
    exact hw.elim
set_option maxHeartbeats 4000000 in
set_option maxRecDepth 100000 in
theorem law_case_5 {κ : jk_K} {cI cL : ClassId} {ad am : Nat → Nat} {o b L : Nat} {xs : Nat → Int32} {k : Nat → Int32 → SX → SM → (Nat → Int64) → Prop} {j : Nat} {i : Int32} {σ : SX} {μ : SM} {f : Nat → Int64} (C : jk_C κ code R_L room_1 8 [(cI, .int), (cL, .long)]) (Zs : (jk_l κ).stackTraces = false ∧ jk_Z (jk_A κ) (jk_s κ)) (Xs : jk_Cs κ b L xs) (hj : j < 512) (ih : ∀ (j : Nat) (i : Int32) (σ : SX) (μ : SM) (f : Nat → Int64), k j i σ μ f → jk_J κ (wL cI cL ad am o (σ, μ, f)) 33 [(0, .ref b), (1, .ref (ad 0)), (2, .ref (am 0)), (3, .ref o), (4, .int i)] [] (26 + 4 * j) (10148 + 24 * j)) (hw : wc_law_5 L xs k j i σ μ f) : jk_J κ (wL cI cL ad am o (σ, μ, f)) 464 [(0, .ref b), (1, .ref (ad 0)), (2, .ref (am 0)), (3, .ref o), (4, .int i)] [] (26 + 4 * j) (10148 + 24 * j) := by
  unfold wc_law_5 at hw
  refine j_aload_n (pc := 464) C d_L_law_464 rfl 1 rfl ?_
  refine j_aload_n (pc := 465) C d_L_law_465 rfl 0 rfl ?_
  refine j_iload (pc := 466) C d_L_law_466 4 rfl ?_
  refine j_iconst (v := 1) (pc := 468) C d_L_law_468 (by decide) ?_
  refine j_iadd (pc := 469) C d_L_law_469 ?_
  obtain ⟨hi67, hw⟩ := hw
  refine j_sld (pc := 470) C Xs hi67 d_L_law_470 ?_
  refine j_aload_n (pc := 471) C d_L_law_471 rfl 0 rfl ?_
  refine j_iload (pc := 472) C d_L_law_472 4 rfl ?_
  refine j_iconst (v := 2) (pc := 474) C d_L_law_474 (by decide) ?_
  refine j_iadd (pc := 475) C d_L_law_475 ?_
  obtain ⟨hi68, hw⟩ := hw
  refine j_sld (pc := 476) C Xs hi68 d_L_law_476 ?_
  refine j_aload_n (pc := 477) C d_L_law_477 rfl 3 rfl ?_
  refine j_callH (pc := 478) (st := []) (As := [.ref (ad 0), .int (xs (Int32.toNatClampNeg (i + 1))), .int (xs (Int32.toNatClampNeg (i + 2))), .ref o]) (wc := wO cI cL ad o (σ, f)) (wr := wM cI cL am μ) (wf := wO cI cL ad o) (wn := fun u => wL cI cL ad am o (u.1, μ, u.2)) C Zs.2 (c_L_head (jk_l κ) Zs.1 (jk_G κ) cI cL ad o σ f (xs (Int32.toNatClampNeg (i + 1))) (xs (Int32.toNatClampNeg (i + 2))) _ hw) g_L_100 hdS_L_head ⟨(Nat.le_of_ble_eq_true rfl), (Nat.le_of_ble_eq_true rfl)⟩ rfl [0, 1, 2, 3, 4, 5, 6, 7, 8, 9, 10, 11, 12, 25] [13, 14, 15, 16, 17, 18, 19, 20, 21, 22, 23, 24] rfl rfl (by decide) (by decide) (by decide) rfl (Nat.le_of_ble_eq_true rfl) d_L_law_478 ⟨show (26 + 4 * j) + 2 ≤ 601024 by omega, show (10148 + 24 * j) + 12 ≤ 7293000 by omega⟩ [12, 13, 14, 15, 16, 17, 18, 19, 20, 21, 22, 23, 24, 0, 1, 2, 3, 4, 5, 6, 7, 8, 9, 10, 11, 25] (by decide) (fun _ => rfl) (fun k69 u70 hw => ?_)
  refine j_widen (k := (26 + 4 * j) + 2) (n := (10148 + 24 * j) + 12) (Nat.le_refl _) (Nat.le_refl _) ?_
  refine j_istore (pc := 481) (lv' := [(5, .int k69), (0, .ref b), (1, .ref (ad 0)), (2, .ref (am 0)), (3, .ref o), (4, .int i)]) C d_L_law_481 (Nat.le_of_ble_eq_true rfl) rfl ?_
  refine j_aload_n (pc := 483) C d_L_law_483 rfl 3 rfl ?_
  refine j_aload_n (pc := 484) C d_L_law_484 rfl 1 rfl ?_
  refine j_iload (pc := 485) C d_L_law_485 5 rfl ?_
  refine j_iconst (v := 1) (pc := 487) C d_L_law_487 (by decide) ?_
  refine j_iadd (pc := 488) C d_L_law_488 ?_
  obtain ⟨hi71, hw⟩ := hw
  refine j_sld (pc := 489) C Xs hi71 d_L_law_489 ?_
  refine j_aload_n (pc := 490) C d_L_law_490 rfl 1 rfl ?_
  refine j_iload (pc := 491) C d_L_law_491 5 rfl ?_
  refine j_iconst (v := 2) (pc := 493) C d_L_law_493 (by decide) ?_
  refine j_iadd (pc := 494) C d_L_law_494 ?_
  obtain ⟨hi72, hw⟩ := hw
  refine j_sld (pc := 495) C Xs hi72 d_L_law_495 ?_
  refine j_callVi (pc := 496) (st := []) (As := [.int (xs (Int32.toNatClampNeg (i + 1))), .int (xs (Int32.toNatClampNeg (i + 2)))]) (wc := wM cI cL am μ) (wr := wO cI cL ad o (u70.1, u70.2)) (wf := wM cI cL am) (wn := fun u => wL cI cL ad am o (u70.1, u, u70.2)) C (c_M_head (jk_l κ) (jk_G κ) cI cL am μ (xs (Int32.toNatClampNeg (i + 1))) (xs (Int32.toNatClampNeg (i + 2))) _ hw) g_L_102 hdV_M_head ⟨(Nat.le_of_ble_eq_true rfl), (Nat.le_of_ble_eq_true rfl)⟩ rfl (q0 := 0) rfl rfl rfl [13, 14, 15, 16, 17, 18, 19, 20, 21, 22, 23, 24] [0, 1, 2, 3, 4, 5, 6, 7, 8, 9, 10, 11, 12, 25] rfl rfl (by decide) (by decide) (by decide) rfl (Nat.le_of_ble_eq_true rfl) d_L_law_496 ⟨show (26 + 4 * j) + 2 + 0 ≤ 601024 by omega, show (10148 + 24 * j) + 12 + 0 ≤ 7293000 by omega⟩ [0, 1, 2, 3, 4, 5, 6, 7, 8, 9, 10, 11, 12, 14, 15, 16, 17, 18, 19, 20, 21, 22, 23, 24, 25, 13] (by decide) (fun _ => rfl) (fun r73 μ74 hw => ?_)
  refine j_widen (k := (26 + 4 * j) + 2) (n := (10148 + 24 * j) + 12) (Nat.le_refl _) (Nat.le_refl _) ?_
  refine j_istore (pc := 499) (lv' := [(6, .int r73), (5, .int k69), (0, .ref b), (1, .ref (ad 0)), (2, .ref (am 0)), (3, .ref o), (4, .int i)]) C d_L_law_499 (Nat.le_of_ble_eq_true rfl) rfl ?_
  refine j_aload_n (pc := 501) C d_L_law_501 rfl 4 rfl ?_
  refine j_callVi (pc := 502) (st := []) (As := []) (wc := wM cI cL am μ74) (wr := wO cI cL ad o (u70.1, u70.2)) (wf := wM cI cL am) (wn := fun u => wL cI cL ad am o (u70.1, u, u70.2)) C (c_M_thrown (jk_l κ) (jk_G κ) cI cL am μ74 _ hw) g_L_83 hdV_M_thrown ⟨(Nat.le_of_ble_eq_true rfl), (Nat.le_of_ble_eq_true rfl)⟩ rfl (q0 := 0) rfl rfl rfl [13, 14, 15, 16, 17, 18, 19, 20, 21, 22, 23, 24] [0, 1, 2, 3, 4, 5, 6, 7, 8, 9, 10, 11, 12, 25] rfl rfl (by decide) (by decide) (by decide) rfl (Nat.le_of_ble_eq_true rfl) d_L_law_502 ⟨show (26 + 4 * j) + 2 + 0 ≤ 601024 by omega, show (10148 + 24 * j) + 12 + 0 ≤ 7293000 by omega⟩ [0, 1, 2, 3, 4, 5, 6, 7, 8, 9, 10, 11, 12, 14, 15, 16, 17, 18, 19, 20, 21, 22, 23, 24, 25, 13] (by decide) (fun _ => rfl) (fun r75 μ76 hw => ?_)
  refine j_widen (k := (26 + 4 * j) + 2) (n := (10148 + 24 * j) + 12) (Nat.le_refl _) (Nat.le_refl _) ?_
  refine j_iload (pc := 505) C d_L_law_505 1 rfl ?_
  refine j_icmp_eq (pc := 507) (tgt := 512) C d_L_law_507 (by decide) (fun c77 => ?_) (fun c77 => ?_)
  · have hw := hw.1 c77
    refine j_iload (pc := 512) C d_L_law_512 1 rfl ?_
    refine j_if_ne (pc := 514) (tgt := 529) C d_L_law_514 (by decide) (fun c78 => ?_) (fun c78 => ?_)
    · have hw := hw.1 c78
      refine j_goto (pc := 529) (tgt := 1167) C d_L_law_529 (by decide) ?_
      refine j_iinc (pc := 1167) (lv' := [(4, .int (i + 4)), (6, .int r73), (5, .int k69), (0, .ref b), (1, .ref (ad 0)), (2, .ref (am 0)), (3, .ref o)]) C d_L_law_1167 (k := 6) rfl rfl (Nat.le_of_ble_eq_true rfl) rfl ?_
      refine j_goto (pc := 1170) (tgt := 33) C d_L_law_1170 (by decide) ?_
      refine j_locs [3, 4, 5, 6, 0] rfl ?_
      refine j_widen (k := 26 + 4 * (j + 1)) (n := 10148 + 24 * (j + 1)) (show (26 + 4 * j) + 2 ≤ 26 + 4 * (j + 1) by omega) (show (10148 + 24 * j) + 12 ≤ 10148 + 24 * (j + 1) by omega) ?_
      exact ih (j + 1) (i + 4) u70.1 μ76 u70.2 hw
    · have hw := hw.2 c78
      refine j_aload_n (pc := 517) C d_L_law_517 rfl 5 rfl ?_
      refine j_iconst (v := 0) (pc := 518) C d_L_law_518 (by decide) ?_
      refine j_lald (pc := 519) C 25 1 rfl rfl (by unfold vp_in; decide) d_L_law_519 ?_
      refine j_iload (pc := 520) C d_L_law_520 0 rfl ?_
      refine j_i2l (pc := 522) C d_L_law_522 ?_
      refine j_lcmp (pc := 523) C d_L_law_523 ?_
      refine j_if_eq (pc := 524) (tgt := 529) C d_L_law_524 (by decide) (fun c79 => ?_) (fun c79 => ?_)
      · have hw := hw.1 c79
        refine j_goto (pc := 529) (tgt := 1167) C d_L_law_529 (by decide) ?_
        refine j_iinc (pc := 1167) (lv' := [(4, .int (i + 4)), (6, .int r73), (5, .int k69), (0, .ref b), (1, .ref (ad 0)), (2, .ref (am 0)), (3, .ref o)]) C d_L_law_1167 (k := 6) rfl rfl (Nat.le_of_ble_eq_true rfl) rfl ?_
        refine j_goto (pc := 1170) (tgt := 33) C d_L_law_1170 (by decide) ?_
        refine j_locs [3, 4, 5, 6, 0] rfl ?_
        refine j_widen (k := 26 + 4 * (j + 1)) (n := 10148 + 24 * (j + 1)) (show (26 + 4 * j) + 2 ≤ 26 + 4 * (j + 1) by omega) (show (10148 + 24 * j) + 12 ≤ 10148 + 24 * (j + 1) by omega) ?_
        exact ih (j + 1) (i + 4) u70.1 μ76 u70.2 hw
      · have hw := hw.2 c79
        refine j_iconst (v := 0) (pc := 527) C d_L_law_527 (by decide) ?_
        exact hw.elim
  · have hw := hw.2 c77
    refine j_iconst (v := 0) (pc := 510) C d_L_law_510 (by decide) ?_
    exact hw.elim
set_option maxHeartbeats 4000000 in
set_option maxRecDepth 100000 in
theorem law_case_6 {κ : jk_K} {cI cL : ClassId} {ad am : Nat → Nat} {o b L : Nat} {xs : Nat → Int32} {k : Nat → Int32 → SX → SM → (Nat → Int64) → Prop} {j : Nat} {i : Int32} {σ : SX} {μ : SM} {f : Nat → Int64} (C : jk_C κ code R_L room_1 8 [(cI, .int), (cL, .long)]) (Zs : (jk_l κ).stackTraces = false ∧ jk_Z (jk_A κ) (jk_s κ)) (Xs : jk_Cs κ b L xs) (hj : j < 512) (ih : ∀ (j : Nat) (i : Int32) (σ : SX) (μ : SM) (f : Nat → Int64), k j i σ μ f → jk_J κ (wL cI cL ad am o (σ, μ, f)) 33 [(0, .ref b), (1, .ref (ad 0)), (2, .ref (am 0)), (3, .ref o), (4, .int i)] [] (26 + 4 * j) (10148 + 24 * j)) (hw : wc_law_6 L xs k j i σ μ f) : jk_J κ (wL cI cL ad am o (σ, μ, f)) 532 [(0, .ref b), (1, .ref (ad 0)), (2, .ref (am 0)), (3, .ref o), (4, .int i)] [] (26 + 4 * j) (10148 + 24 * j) := by
  unfold wc_law_6 at hw
  refine j_aload_n (pc := 532) C d_L_law_532 rfl 1 rfl ?_
  refine j_callVi (pc := 533) (st := []) (As := []) (wc := wX cI cL ad σ) (wr := wM cI cL am μ ++ [(o, .inl (cL, 1, .inr (.inl f)))]) (wf := wX cI cL ad) (wn := fun u => wL cI cL ad am o (u, μ, f)) C (c_X_run (jk_l κ) (jk_G κ) cI cL ad σ _ hw) g_L_103 hdV_X_run ⟨(Nat.le_of_ble_eq_true rfl), (Nat.le_of_ble_eq_true rfl)⟩ rfl (q0 := 0) rfl rfl rfl [0, 1, 2, 3, 4, 5, 6, 7, 8, 9, 10, 11, 12] [13, 14, 15, 16, 17, 18, 19, 20, 21, 22, 23, 24, 25] rfl rfl (by decide) (by decide) (by decide) rfl (Nat.le_of_ble_eq_true rfl) d_L_law_533 ⟨show (26 + 4 * j) + 0 ≤ 601024 by omega, show (10148 + 24 * j) + 0 ≤ 7293000 by omega⟩ [13, 14, 15, 16, 17, 18, 19, 20, 21, 22, 23, 24, 25, 0, 1, 2, 3, 4, 5, 6, 7, 8, 9, 10, 11, 12] (by decide) (fun _ => rfl) (fun r80 σ81 hw => ?_)
  refine j_widen (k := (26 + 4 * j)) (n := (10148 + 24 * j)) (Nat.le_refl _) (Nat.le_refl _) ?_
  refine j_aload_n (pc := 536) C d_L_law_536 rfl 2 rfl ?_
  refine j_callVi (pc := 537) (st := [.int r80]) (As := []) (wc := wM cI cL am μ) (wr := wO cI cL ad o (σ81, f)) (wf := wM cI cL am) (wn := fun u => wL cI cL ad am o (σ81, u, f)) C (c_M_run (jk_l κ) (jk_G κ) cI cL am μ _ hw) g_L_106 hdV_M_run ⟨(Nat.le_of_ble_eq_true rfl), (Nat.le_of_ble_eq_true rfl)⟩ rfl (q0 := 0) rfl rfl rfl [13, 14, 15, 16, 17, 18, 19, 20, 21, 22, 23, 24] [0, 1, 2, 3, 4, 5, 6, 7, 8, 9, 10, 11, 12, 25] rfl rfl (by decide) (by decide) (by decide) rfl (Nat.le_of_ble_eq_true rfl) d_L_law_537 ⟨show (26 + 4 * j) + 0 ≤ 601024 by omega, show (10148 + 24 * j) + 0 ≤ 7293000 by omega⟩ [0, 1, 2, 3, 4, 5, 6, 7, 8, 9, 10, 11, 12, 14, 15, 16, 17, 18, 19, 20, 21, 22, 23, 24, 25, 13] (by decide) (fun _ => rfl) (fun r82 μ83 hw => ?_)
  refine j_widen (k := (26 + 4 * j)) (n := (10148 + 24 * j)) (Nat.le_refl _) (Nat.le_refl _) ?_
  refine j_icmp_eq (pc := 540) (tgt := 1167) C d_L_law_540 (by decide) (fun c84 => ?_) (fun c84 => ?_)
  · have hw := hw.1 c84
    refine j_iinc (pc := 1167) (lv' := [(4, .int (i + 4)), (0, .ref b), (1, .ref (ad 0)), (2, .ref (am 0)), (3, .ref o)]) C d_L_law_1167 (k := 4) rfl rfl (Nat.le_of_ble_eq_true rfl) rfl ?_
    refine j_goto (pc := 1170) (tgt := 33) C d_L_law_1170 (by decide) ?_
    refine j_locs [1, 2, 3, 4, 0] rfl ?_
    refine j_widen (k := 26 + 4 * (j + 1)) (n := 10148 + 24 * (j + 1)) (show (26 + 4 * j) ≤ 26 + 4 * (j + 1) by omega) (show (10148 + 24 * j) ≤ 10148 + 24 * (j + 1) by omega) ?_
    exact ih (j + 1) (i + 4) σ81 μ83 f hw
  · have hw := hw.2 c84
    refine j_iconst (v := 0) (pc := 543) C d_L_law_543 (by decide) ?_
    exact hw.elim
set_option maxHeartbeats 4000000 in
set_option maxRecDepth 100000 in
theorem law_case_7 {κ : jk_K} {cI cL : ClassId} {ad am : Nat → Nat} {o b L : Nat} {xs : Nat → Int32} {k : Nat → Int32 → SX → SM → (Nat → Int64) → Prop} {j : Nat} {i : Int32} {σ : SX} {μ : SM} {f : Nat → Int64} (C : jk_C κ code R_L room_1 8 [(cI, .int), (cL, .long)]) (Zs : (jk_l κ).stackTraces = false ∧ jk_Z (jk_A κ) (jk_s κ)) (Xs : jk_Cs κ b L xs) (hj : j < 512) (ih : ∀ (j : Nat) (i : Int32) (σ : SX) (μ : SM) (f : Nat → Int64), k j i σ μ f → jk_J κ (wL cI cL ad am o (σ, μ, f)) 33 [(0, .ref b), (1, .ref (ad 0)), (2, .ref (am 0)), (3, .ref o), (4, .int i)] [] (26 + 4 * j) (10148 + 24 * j)) (hw : wc_law_7 L xs k j i σ μ f) : jk_J κ (wL cI cL ad am o (σ, μ, f)) 545 [(0, .ref b), (1, .ref (ad 0)), (2, .ref (am 0)), (3, .ref o), (4, .int i)] [] (26 + 4 * j) (10148 + 24 * j) := by
  unfold wc_law_7 at hw
  refine j_aload_n (pc := 545) C d_L_law_545 rfl 1 rfl ?_
  refine j_aload_n (pc := 546) C d_L_law_546 rfl 0 rfl ?_
  refine j_iload (pc := 547) C d_L_law_547 4 rfl ?_
  refine j_iconst (v := 1) (pc := 549) C d_L_law_549 (by decide) ?_
  refine j_iadd (pc := 550) C d_L_law_550 ?_
  obtain ⟨hi85, hw⟩ := hw
  refine j_sld (pc := 551) C Xs hi85 d_L_law_551 ?_
  refine j_aload_n (pc := 552) C d_L_law_552 rfl 0 rfl ?_
  refine j_iload (pc := 553) C d_L_law_553 4 rfl ?_
  refine j_iconst (v := 2) (pc := 555) C d_L_law_555 (by decide) ?_
  refine j_iadd (pc := 556) C d_L_law_556 ?_
  obtain ⟨hi86, hw⟩ := hw
  refine j_sld (pc := 557) C Xs hi86 d_L_law_557 ?_
  refine j_aload_n (pc := 558) C d_L_law_558 rfl 3 rfl ?_
  refine j_callH (pc := 559) (st := []) (As := [.ref (ad 0), .int (xs (Int32.toNatClampNeg (i + 1))), .int (xs (Int32.toNatClampNeg (i + 2))), .ref o]) (wc := wO cI cL ad o (σ, f)) (wr := wM cI cL am μ) (wf := wO cI cL ad o) (wn := fun u => wL cI cL ad am o (u.1, μ, u.2)) C Zs.2 (c_L_hull (jk_l κ) Zs.1 (jk_G κ) cI cL ad o σ f (xs (Int32.toNatClampNeg (i + 1))) (xs (Int32.toNatClampNeg (i + 2))) _ hw) g_L_107 hdS_L_hull ⟨(Nat.le_of_ble_eq_true rfl), (Nat.le_of_ble_eq_true rfl)⟩ rfl [0, 1, 2, 3, 4, 5, 6, 7, 8, 9, 10, 11, 12, 25] [13, 14, 15, 16, 17, 18, 19, 20, 21, 22, 23, 24] rfl rfl (by decide) (by decide) (by decide) rfl (Nat.le_of_ble_eq_true rfl) d_L_law_559 ⟨show (26 + 4 * j) + 2 ≤ 601024 by omega, show (10148 + 24 * j) + 12 ≤ 7293000 by omega⟩ [12, 13, 14, 15, 16, 17, 18, 19, 20, 21, 22, 23, 24, 0, 1, 2, 3, 4, 5, 6, 7, 8, 9, 10, 11, 25] (by decide) (fun _ => rfl) (fun k87 u88 hw => ?_)
  refine j_widen (k := (26 + 4 * j) + 2) (n := (10148 + 24 * j) + 12) (Nat.le_refl _) (Nat.le_refl _) ?_
  refine j_istore (pc := 562) (lv' := [(5, .int k87), (0, .ref b), (1, .ref (ad 0)), (2, .ref (am 0)), (3, .ref o), (4, .int i)]) C d_L_law_562 (Nat.le_of_ble_eq_true rfl) rfl ?_
  refine j_aload_n (pc := 564) C d_L_law_564 rfl 3 rfl ?_
  refine j_aload_n (pc := 565) C d_L_law_565 rfl 1 rfl ?_
  refine j_iload (pc := 566) C d_L_law_566 5 rfl ?_
  refine j_iconst (v := 1) (pc := 568) C d_L_law_568 (by decide) ?_
  refine j_iadd (pc := 569) C d_L_law_569 ?_
  obtain ⟨hi89, hw⟩ := hw
  refine j_sld (pc := 570) C Xs hi89 d_L_law_570 ?_
  refine j_aload_n (pc := 571) C d_L_law_571 rfl 1 rfl ?_
  refine j_iload (pc := 572) C d_L_law_572 5 rfl ?_
  refine j_iconst (v := 2) (pc := 574) C d_L_law_574 (by decide) ?_
  refine j_iadd (pc := 575) C d_L_law_575 ?_
  obtain ⟨hi90, hw⟩ := hw
  refine j_sld (pc := 576) C Xs hi90 d_L_law_576 ?_
  refine j_callVi (pc := 577) (st := []) (As := [.int (xs (Int32.toNatClampNeg (i + 1))), .int (xs (Int32.toNatClampNeg (i + 2)))]) (wc := wM cI cL am μ) (wr := wO cI cL ad o (u88.1, u88.2)) (wf := wM cI cL am) (wn := fun u => wL cI cL ad am o (u88.1, u, u88.2)) C (c_M_hull (jk_l κ) (jk_G κ) cI cL am μ (xs (Int32.toNatClampNeg (i + 1))) (xs (Int32.toNatClampNeg (i + 2))) _ hw) g_L_109 hdV_M_hull ⟨(Nat.le_of_ble_eq_true rfl), (Nat.le_of_ble_eq_true rfl)⟩ rfl (q0 := 0) rfl rfl rfl [13, 14, 15, 16, 17, 18, 19, 20, 21, 22, 23, 24] [0, 1, 2, 3, 4, 5, 6, 7, 8, 9, 10, 11, 12, 25] rfl rfl (by decide) (by decide) (by decide) rfl (Nat.le_of_ble_eq_true rfl) d_L_law_577 ⟨show (26 + 4 * j) + 2 + 0 ≤ 601024 by omega, show (10148 + 24 * j) + 12 + 0 ≤ 7293000 by omega⟩ [0, 1, 2, 3, 4, 5, 6, 7, 8, 9, 10, 11, 12, 14, 15, 16, 17, 18, 19, 20, 21, 22, 23, 24, 25, 13] (by decide) (fun _ => rfl) (fun r91 μ92 hw => ?_)
  refine j_widen (k := (26 + 4 * j) + 2) (n := (10148 + 24 * j) + 12) (Nat.le_refl _) (Nat.le_refl _) ?_
  refine j_istore (pc := 580) (lv' := [(6, .int r91), (5, .int k87), (0, .ref b), (1, .ref (ad 0)), (2, .ref (am 0)), (3, .ref o), (4, .int i)]) C d_L_law_580 (Nat.le_of_ble_eq_true rfl) rfl ?_
  refine j_aload_n (pc := 582) C d_L_law_582 rfl 4 rfl ?_
  refine j_callVi (pc := 583) (st := []) (As := []) (wc := wM cI cL am μ92) (wr := wO cI cL ad o (u88.1, u88.2)) (wf := wM cI cL am) (wn := fun u => wL cI cL ad am o (u88.1, u, u88.2)) C (c_M_thrown (jk_l κ) (jk_G κ) cI cL am μ92 _ hw) g_L_83 hdV_M_thrown ⟨(Nat.le_of_ble_eq_true rfl), (Nat.le_of_ble_eq_true rfl)⟩ rfl (q0 := 0) rfl rfl rfl [13, 14, 15, 16, 17, 18, 19, 20, 21, 22, 23, 24] [0, 1, 2, 3, 4, 5, 6, 7, 8, 9, 10, 11, 12, 25] rfl rfl (by decide) (by decide) (by decide) rfl (Nat.le_of_ble_eq_true rfl) d_L_law_583 ⟨show (26 + 4 * j) + 2 + 0 ≤ 601024 by omega, show (10148 + 24 * j) + 12 + 0 ≤ 7293000 by omega⟩ [0, 1, 2, 3, 4, 5, 6, 7, 8, 9, 10, 11, 12, 14, 15, 16, 17, 18, 19, 20, 21, 22, 23, 24, 25, 13] (by decide) (fun _ => rfl) (fun r93 μ94 hw => ?_)
  refine j_widen (k := (26 + 4 * j) + 2) (n := (10148 + 24 * j) + 12) (Nat.le_refl _) (Nat.le_refl _) ?_
  refine j_iload (pc := 586) C d_L_law_586 1 rfl ?_
  refine j_icmp_eq (pc := 588) (tgt := 593) C d_L_law_588 (by decide) (fun c95 => ?_) (fun c95 => ?_)
  · have hw := hw.1 c95
    refine j_iload (pc := 593) C d_L_law_593 1 rfl ?_
    refine j_if_ne (pc := 595) (tgt := 617) C d_L_law_595 (by decide) (fun c96 => ?_) (fun c96 => ?_)
    · have hw := hw.1 c96
      refine j_goto (pc := 617) (tgt := 1167) C d_L_law_617 (by decide) ?_
      refine j_iinc (pc := 1167) (lv' := [(4, .int (i + 4)), (6, .int r91), (5, .int k87), (0, .ref b), (1, .ref (ad 0)), (2, .ref (am 0)), (3, .ref o)]) C d_L_law_1167 (k := 6) rfl rfl (Nat.le_of_ble_eq_true rfl) rfl ?_
      refine j_goto (pc := 1170) (tgt := 33) C d_L_law_1170 (by decide) ?_
      refine j_locs [3, 4, 5, 6, 0] rfl ?_
      refine j_widen (k := 26 + 4 * (j + 1)) (n := 10148 + 24 * (j + 1)) (show (26 + 4 * j) + 2 ≤ 26 + 4 * (j + 1) by omega) (show (10148 + 24 * j) + 12 ≤ 10148 + 24 * (j + 1) by omega) ?_
      exact ih (j + 1) (i + 4) u88.1 μ94 u88.2 hw
    · have hw := hw.2 c96
      refine j_aload_n (pc := 598) C d_L_law_598 rfl 5 rfl ?_
      refine j_iconst (v := 0) (pc := 599) C d_L_law_599 (by decide) ?_
      refine j_lald (pc := 600) C 25 1 rfl rfl (by unfold vp_in; decide) d_L_law_600 ?_
      refine j_iload (pc := 601) C d_L_law_601 0 rfl ?_
      refine j_if_eq (pc := 603) (tgt := 610) C d_L_law_603 (by decide) (fun c97 => ?_) (fun c97 => ?_)
      · have hw := hw.1 c97
        refine j_lconst (v := 0) (pc := 610) C d_L_law_610 (by decide) ?_
        refine j_lcmp (pc := 611) C d_L_law_611 ?_
        refine j_if_eq (pc := 612) (tgt := 617) C d_L_law_612 (by decide) (fun c98 => ?_) (fun c98 => ?_)
        · have hw := hw.1 c98
          refine j_goto (pc := 617) (tgt := 1167) C d_L_law_617 (by decide) ?_
          refine j_iinc (pc := 1167) (lv' := [(4, .int (i + 4)), (6, .int r91), (5, .int k87), (0, .ref b), (1, .ref (ad 0)), (2, .ref (am 0)), (3, .ref o)]) C d_L_law_1167 (k := 6) rfl rfl (Nat.le_of_ble_eq_true rfl) rfl ?_
          refine j_goto (pc := 1170) (tgt := 33) C d_L_law_1170 (by decide) ?_
          refine j_locs [3, 4, 5, 6, 0] rfl ?_
          refine j_widen (k := 26 + 4 * (j + 1)) (n := 10148 + 24 * (j + 1)) (show (26 + 4 * j) + 2 ≤ 26 + 4 * (j + 1) by omega) (show (10148 + 24 * j) + 12 ≤ 10148 + 24 * (j + 1) by omega) ?_
          exact ih (j + 1) (i + 4) u88.1 μ94 u88.2 hw
        · have hw := hw.2 c98
          refine j_iconst (v := 0) (pc := 615) C d_L_law_615 (by decide) ?_
          exact hw.elim
      · have hw := hw.2 c97
        refine j_lconst (v := 1) (pc := 606) C d_L_law_606 (by decide) ?_
        refine j_goto (pc := 607) (tgt := 611) C d_L_law_607 (by decide) ?_
        refine j_lcmp (pc := 611) C d_L_law_611 ?_
        refine j_if_eq (pc := 612) (tgt := 617) C d_L_law_612 (by decide) (fun c99 => ?_) (fun c99 => ?_)
        · have hw := hw.1 c99
          refine j_goto (pc := 617) (tgt := 1167) C d_L_law_617 (by decide) ?_
          refine j_iinc (pc := 1167) (lv' := [(4, .int (i + 4)), (6, .int r91), (5, .int k87), (0, .ref b), (1, .ref (ad 0)), (2, .ref (am 0)), (3, .ref o)]) C d_L_law_1167 (k := 6) rfl rfl (Nat.le_of_ble_eq_true rfl) rfl ?_
          refine j_goto (pc := 1170) (tgt := 33) C d_L_law_1170 (by decide) ?_
          refine j_locs [3, 4, 5, 6, 0] rfl ?_
          refine j_widen (k := 26 + 4 * (j + 1)) (n := 10148 + 24 * (j + 1)) (show (26 + 4 * j) + 2 ≤ 26 + 4 * (j + 1) by omega) (show (10148 + 24 * j) + 12 ≤ 10148 + 24 * (j + 1) by omega) ?_
          exact ih (j + 1) (i + 4) u88.1 μ94 u88.2 hw
        · have hw := hw.2 c99
          refine j_iconst (v := 0) (pc := 615) C d_L_law_615 (by decide) ?_
          exact hw.elim
  · have hw := hw.2 c95
    refine j_iconst (v := 0) (pc := 591) C d_L_law_591 (by decide) ?_
    exact hw.elim
