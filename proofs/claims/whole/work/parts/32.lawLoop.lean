set_option maxHeartbeats 4000000 in
set_option maxRecDepth 100000 in
/-- THE LAW'S LOOP -/
theorem law_loop {κ : jk_K} {cI cL : ClassId} {ad am : Nat → Nat} {o b L : Nat} {xs : Nat → Int32} (C : jk_C κ code R_L room_1 8 [(cI, .int), (cL, .long)]) (Zs : (jk_l κ).stackTraces = false ∧ jk_Z (jk_A κ) (jk_s κ)) (Le : jk_Le κ b) (Xs : jk_Cs κ b L xs) : ∀ (n j : Nat) (i : Int32) (σ : SX) (μ : SM) (f : Nat → Int64), wl_law L xs n j i σ μ f → jk_J κ (wL cI cL ad am o (σ, μ, f)) 33 [(0, .ref b), (1, .ref (ad 0)), (2, .ref (am 0)), (3, .ref o), (4, .int i)] [] (26 + 4 * j) (10148 + 24 * j) := by
  intro n
  induction n with
  | zero => intro j i σ μ f hw; exact hw.elim
  | succ n ih =>
    intro j i σ μ f hw
    rw [wl_law] at hw
    obtain ⟨hj0, hw⟩ := hw
    refine j_iload (pc := 33) C d_L_law_33 4 rfl ?_
    refine j_aload_n (pc := 35) C d_L_law_35 rfl 0 rfl ?_
    refine j_slen (pc := 36) C Xs d_L_law_36 ?_
    refine j_iconst (v := 4) (pc := 37) C d_L_law_37 (by decide) ?_
    refine j_isub (pc := 38) C d_L_law_38 ?_
    refine j_icmp_gt (pc := 39) (tgt := 1173) C d_L_law_39 (by decide) (fun c1 => ?_) (fun c1 => ?_)
    · have hw := hw.1 c1
      refine j_iconst (v := 1) (pc := 1173) C d_L_law_1173 (by decide) ?_
      exact law_end C Le (pc := 1174) d_L_law_1174 (show (26 + 4 * j) ≤ 601024 by omega) (show (10148 + 24 * j) ≤ 7293000 by omega)
    · have hw := hw.2 c1
      refine j_aload_n (pc := 42) C d_L_law_42 rfl 0 rfl ?_
      refine j_iload (pc := 43) C d_L_law_43 4 rfl ?_
      obtain ⟨hj, hi2, hw⟩ := hw
      refine j_sld (pc := 45) C Xs hi2 d_L_law_45 ?_
      refine j_bipush (v := 31) (pc := 46) C d_L_law_46 (by decide) ?_
      refine j_iand (pc := 48) C d_L_law_48 ?_
      obtain ⟨sw3, e_sw3⟩ : ∃ z : Int32, z = (xs (Int32.toNatClampNeg i)) &&& 31 := ⟨_, rfl⟩
      have hw := hw sw3 e_sw3
      rw [← e_sw3]
      refine (Decidable.em (sw3 = 0)).elim (fun c49_0 => ?_) (fun c49_0 => ?_)
      · have hw := hw.1 c49_0
        refine j_tableIn (pc := 49) (tgt := 136) C d_L_law_49 (by rw [c49_0]; decide) (by rw [c49_0]; decide) (by rw [c49_0]; rfl) (by decide) ?_
        exact law_case_0 C Zs Xs hj (fun j i σ μ f hw => ih j i σ μ f hw) hw
      have hw := hw.2 c49_0
      refine (Decidable.em (sw3 = 1)).elim (fun c49_1 => ?_) (fun c49_1 => ?_)
      · have hw := hw.1 c49_1
        refine j_tableIn (pc := 49) (tgt := 180) C d_L_law_49 (by rw [c49_1]; decide) (by rw [c49_1]; decide) (by rw [c49_1]; rfl) (by decide) ?_
        exact law_case_1 C Zs Xs hj (fun j i σ μ f hw => ih j i σ μ f hw) hw
      have hw := hw.2 c49_1
      refine (Decidable.em (sw3 = 2)).elim (fun c49_2 => ?_) (fun c49_2 => ?_)
      · have hw := hw.1 c49_2
        refine j_tableIn (pc := 49) (tgt := 260) C d_L_law_49 (by rw [c49_2]; decide) (by rw [c49_2]; decide) (by rw [c49_2]; rfl) (by decide) ?_
        exact law_case_2 C Zs Xs hj (fun j i σ μ f hw => ih j i σ μ f hw) hw
      have hw := hw.2 c49_2
      refine (Decidable.em (sw3 = 3)).elim (fun c49_3 => ?_) (fun c49_3 => ?_)
      · have hw := hw.1 c49_3
        refine j_tableIn (pc := 49) (tgt := 328) C d_L_law_49 (by rw [c49_3]; decide) (by rw [c49_3]; decide) (by rw [c49_3]; rfl) (by decide) ?_
        exact law_case_3 C Zs Xs hj (fun j i σ μ f hw => ih j i σ μ f hw) hw
      have hw := hw.2 c49_3
      refine (Decidable.em (sw3 = 4)).elim (fun c49_4 => ?_) (fun c49_4 => ?_)
      · have hw := hw.1 c49_4
        refine j_tableIn (pc := 49) (tgt := 396) C d_L_law_49 (by rw [c49_4]; decide) (by rw [c49_4]; decide) (by rw [c49_4]; rfl) (by decide) ?_
        exact law_case_4 C Zs Xs hj (fun j i σ μ f hw => ih j i σ μ f hw) hw
      have hw := hw.2 c49_4
      refine (Decidable.em (sw3 = 5)).elim (fun c49_5 => ?_) (fun c49_5 => ?_)
      · have hw := hw.1 c49_5
        refine j_tableIn (pc := 49) (tgt := 464) C d_L_law_49 (by rw [c49_5]; decide) (by rw [c49_5]; decide) (by rw [c49_5]; rfl) (by decide) ?_
        exact law_case_5 C Zs Xs hj (fun j i σ μ f hw => ih j i σ μ f hw) hw
      have hw := hw.2 c49_5
      refine (Decidable.em (sw3 = 6)).elim (fun c49_6 => ?_) (fun c49_6 => ?_)
      · have hw := hw.1 c49_6
        refine j_tableIn (pc := 49) (tgt := 532) C d_L_law_49 (by rw [c49_6]; decide) (by rw [c49_6]; decide) (by rw [c49_6]; rfl) (by decide) ?_
        exact law_case_6 C Zs Xs hj (fun j i σ μ f hw => ih j i σ μ f hw) hw
      have hw := hw.2 c49_6
      refine (Decidable.em (sw3 = 7)).elim (fun c49_7 => ?_) (fun c49_7 => ?_)
      · have hw := hw.1 c49_7
        refine j_tableIn (pc := 49) (tgt := 545) C d_L_law_49 (by rw [c49_7]; decide) (by rw [c49_7]; decide) (by rw [c49_7]; rfl) (by decide) ?_
        exact law_case_7 C Zs Xs hj (fun j i σ μ f hw => ih j i σ μ f hw) hw
      have hw := hw.2 c49_7
      refine (Decidable.em (sw3 = 8)).elim (fun c49_8 => ?_) (fun c49_8 => ?_)
      · have hw := hw.1 c49_8
        refine j_tableIn (pc := 49) (tgt := 620) C d_L_law_49 (by rw [c49_8]; decide) (by rw [c49_8]; decide) (by rw [c49_8]; rfl) (by decide) ?_
        exact law_case_8 C Zs Xs hj (fun j i σ μ f hw => ih j i σ μ f hw) hw
      have hw := hw.2 c49_8
      refine (Decidable.em (sw3 = 9)).elim (fun c49_9 => ?_) (fun c49_9 => ?_)
      · have hw := hw.1 c49_9
        refine j_tableIn (pc := 49) (tgt := 715) C d_L_law_49 (by rw [c49_9]; decide) (by rw [c49_9]; decide) (by rw [c49_9]; rfl) (by decide) ?_
        exact law_case_9 C Zs Xs hj (fun j i σ μ f hw => ih j i σ μ f hw) hw
      have hw := hw.2 c49_9
      refine (Decidable.em (sw3 = 10)).elim (fun c49_10 => ?_) (fun c49_10 => ?_)
      · have hw := hw.1 c49_10
        refine j_tableIn (pc := 49) (tgt := 728) C d_L_law_49 (by rw [c49_10]; decide) (by rw [c49_10]; decide) (by rw [c49_10]; rfl) (by decide) ?_
        exact law_case_10 C Zs Xs hj (fun j i σ μ f hw => ih j i σ μ f hw) hw
      have hw := hw.2 c49_10
      refine (Decidable.em (sw3 = 11)).elim (fun c49_11 => ?_) (fun c49_11 => ?_)
      · have hw := hw.1 c49_11
        refine j_tableIn (pc := 49) (tgt := 796) C d_L_law_49 (by rw [c49_11]; decide) (by rw [c49_11]; decide) (by rw [c49_11]; rfl) (by decide) ?_
        exact law_case_11 C Zs Xs hj (fun j i σ μ f hw => ih j i σ μ f hw) hw
      have hw := hw.2 c49_11
      refine (Decidable.em (sw3 = 12)).elim (fun c49_12 => ?_) (fun c49_12 => ?_)
      · have hw := hw.1 c49_12
        refine j_tableIn (pc := 49) (tgt := 864) C d_L_law_49 (by rw [c49_12]; decide) (by rw [c49_12]; decide) (by rw [c49_12]; rfl) (by decide) ?_
        exact law_case_12 C Zs Xs hj (fun j i σ μ f hw => ih j i σ μ f hw) hw
      have hw := hw.2 c49_12
      refine (Decidable.em (sw3 = 13)).elim (fun c49_13 => ?_) (fun c49_13 => ?_)
      · have hw := hw.1 c49_13
        refine j_tableIn (pc := 49) (tgt := 920) C d_L_law_49 (by rw [c49_13]; decide) (by rw [c49_13]; decide) (by rw [c49_13]; rfl) (by decide) ?_
        exact law_case_13 C Zs Xs hj (fun j i σ μ f hw => ih j i σ μ f hw) hw
      have hw := hw.2 c49_13
      refine (Decidable.em (sw3 = 14)).elim (fun c49_14 => ?_) (fun c49_14 => ?_)
      · have hw := hw.1 c49_14
        refine j_tableIn (pc := 49) (tgt := 975) C d_L_law_49 (by rw [c49_14]; decide) (by rw [c49_14]; decide) (by rw [c49_14]; rfl) (by decide) ?_
        exact law_case_14 C Zs Xs hj (fun j i σ μ f hw => ih j i σ μ f hw) hw
      have hw := hw.2 c49_14
      refine (Decidable.em (sw3 = 15)).elim (fun c49_15 => ?_) (fun c49_15 => ?_)
      · have hw := hw.1 c49_15
        refine j_tableIn (pc := 49) (tgt := 1031) C d_L_law_49 (by rw [c49_15]; decide) (by rw [c49_15]; decide) (by rw [c49_15]; rfl) (by decide) ?_
        exact law_case_15 C Zs Xs hj (fun j i σ μ f hw => ih j i σ μ f hw) hw
      have hw := hw.2 c49_15
      refine (Decidable.em (sw3 = 16)).elim (fun c49_16 => ?_) (fun c49_16 => ?_)
      · have hw := hw.1 c49_16
        refine j_tableIn (pc := 49) (tgt := 1131) C d_L_law_49 (by rw [c49_16]; decide) (by rw [c49_16]; decide) (by rw [c49_16]; rfl) (by decide) ?_
        exact law_case_16 C Zs Xs hj (fun j i σ μ f hw => ih j i σ μ f hw) hw
      have hw := hw.2 c49_16
      refine (Decidable.em (sw3 = 17)).elim (fun c49_17 => ?_) (fun c49_17 => ?_)
      · have hw := hw.1 c49_17
        refine j_tableIn (pc := 49) (tgt := 1156) C d_L_law_49 (by rw [c49_17]; decide) (by rw [c49_17]; decide) (by rw [c49_17]; rfl) (by decide) ?_
        exact law_case_17 C Zs Xs hj (fun j i σ μ f hw => ih j i σ μ f hw) hw
      have hw := hw.2 c49_17
      have n_c49_0 := lv_neT (a := 0) c49_0 rfl
      have n_c49_1 := lv_neT (a := 1) c49_1 rfl
      have n_c49_2 := lv_neT (a := 2) c49_2 rfl
      have n_c49_3 := lv_neT (a := 3) c49_3 rfl
      have n_c49_4 := lv_neT (a := 4) c49_4 rfl
      have n_c49_5 := lv_neT (a := 5) c49_5 rfl
      have n_c49_6 := lv_neT (a := 6) c49_6 rfl
      have n_c49_7 := lv_neT (a := 7) c49_7 rfl
      have n_c49_8 := lv_neT (a := 8) c49_8 rfl
      have n_c49_9 := lv_neT (a := 9) c49_9 rfl
      have n_c49_10 := lv_neT (a := 10) c49_10 rfl
      have n_c49_11 := lv_neT (a := 11) c49_11 rfl
      have n_c49_12 := lv_neT (a := 12) c49_12 rfl
      have n_c49_13 := lv_neT (a := 13) c49_13 rfl
      have n_c49_14 := lv_neT (a := 14) c49_14 rfl
      have n_c49_15 := lv_neT (a := 15) c49_15 rfl
      have n_c49_16 := lv_neT (a := 16) c49_16 rfl
      have n_c49_17 := lv_neT (a := 17) c49_17 rfl
      refine j_tableOut (pc := 49) (tgt := 1167) C d_L_law_49 (by omega) (by decide) ?_
      refine j_iinc (pc := 1167) (lv' := [(4, .int (i + 4)), (0, .ref b), (1, .ref (ad 0)), (2, .ref (am 0)), (3, .ref o)]) C d_L_law_1167 (k := 4) rfl rfl (Nat.le_of_ble_eq_true rfl) rfl ?_
      refine j_goto (pc := 1170) (tgt := 33) C d_L_law_1170 (by decide) ?_
      refine j_locs [1, 2, 3, 4, 0] rfl ?_
      refine j_widen (k := 26 + 4 * (j + 1)) (n := 10148 + 24 * (j + 1)) (show (26 + 4 * j) ≤ 26 + 4 * (j + 1) by omega) (show (10148 + 24 * j) ≤ 10148 + 24 * (j + 1) by omega) ?_
      exact ih (j + 1) (i + 4) σ μ f hw
