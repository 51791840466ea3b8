theorem hdI_M_init : y_M_init.cls ≠ "java/lang/invoke/MethodHandle" ∧ y_M_init.cls ≠ "java/lang/invoke/VarHandle" ∧ (parseMethodDescriptor y_M_init.desc).map (fun d => d.parameters.length) = some 1 := by decide +kernel
theorem hdI_X_init : y_X_init.cls ≠ "java/lang/invoke/MethodHandle" ∧ y_X_init.cls ≠ "java/lang/invoke/VarHandle" ∧ (parseMethodDescriptor y_X_init.desc).map (fun d => d.parameters.length) = some 1 := by decide +kernel
def rm_L_cell : Room := { frames := 0, cells := 0, slots := 0, locals := 0 }
def ce_0 (L : Nat) (xs : Nat → Int32) : Int32 := if 0 < L then xs 0 else 0
set_option maxHeartbeats 4000000 in
set_option maxRecDepth 100000 in
theorem c_L_cell (l : Launch) (G : va_G) (tys : List (ClassId × FieldType)) (b L : Nat) (xs : Nat → Int32) (hL : L < 2 ^ 31) (sz : Nat) : Met l y_L_cell (Cond.code y_L_cell b_L_cell 2 (some .int) :: tb) rm_L_cell (va_Pc [.ref b, .int 0] (fun U => jk_P G tys [] sz U ∧ va_X b L xs U U.heap ∧ b < sz)) (va_Qi (fun (r : Int32) (_ : Unit) => r = ce_0 L xs) (jk_B G tys (va_A [] sz) (fun _ : Unit => [])) (va_A [] sz)) rm_L_cell.cells rm_L_cell.slots (va_A [] sz) := by
  refine Met.ofW (cc := b_L_cell) (maxL := 2) (ret := some .int) (by decide +kernel) rfl ?_
  intro p e s m args below meth c s₁ B hml hv
  obtain ⟨rfl, ⟨hsz, hP, hK, hD0⟩, hX, hb⟩ := hv
  have hts := atoms_spec (ws := Cond.code y_L_cell b_L_cell 2 (some .int) :: tb) B.pre
  have hown : s.vm.findClass y_L_cell.cls = some m.cls := findClass_of_methodNamed B.named
  subst hsz
  rw [lg_entry_eq]
  obtain ⟨κ, eκ⟩ : ∃ κ : jk_K, κ = (p, l, e, rm_L_cell, s, m, ([.ref b, .int 0] : List Value).toArray, below, meth, c, 2, G, va_A [] s.heap.size, MQ below (va_Qi (fun (r : Int32) (_ : Unit) => r = ce_0 L xs) (jk_B G tys (va_A [] s.heap.size) (fun _ : Unit => [])) (va_A [] s.heap.size)) ([.ref b, .int 0] : List Value).toArray s rm_L_cell.cells rm_L_cell.slots (va_A [] s.heap.size)) := ⟨_, rfl⟩
  have C : jk_C κ b_L_cell R_L rm_L_cell 2 tys := by subst eκ; exact ⟨B.exec, B.bytes, ⟨hml, rfl⟩, hown, fun w h => hts w (List.mem_cons_of_mem _ h), hK, fun q h => Or.inr h, rfl, B.notSynchronized⟩
  have E : jk_E κ (some .int) (va_Qi (fun (r : Int32) (_ : Unit) => r = ce_0 L xs) (jk_B (jk_G κ) tys (jk_A κ) (fun _ : Unit => [])) (jk_A κ)) 0 0 := by subst eκ; exact ⟨B.returns, rfl⟩
  have Xs : jk_Cs κ b L xs := by subst eκ; exact ⟨hX, hb, fun h => h.elim (fun ⟨k, e, h⟩ => by simp at h) (fun h => absurd hb (Nat.not_lt.mpr h))⟩
  have main : jk_J κ [] 0 [(0, .ref b), (1, .int 0)] [] 0 0 := by
    refine j_iload_n (pc := 0) C d_L_cell_0 rfl 1 rfl ?_
    refine j_aload_n (pc := 1) C d_L_cell_1 rfl 0 rfl ?_
    refine j_slen (pc := 2) C Xs d_L_cell_2 ?_
    refine j_icmp_ge (pc := 3) (tgt := 12) C d_L_cell_3 (by decide) (fun c1 => ?_) (fun c1 => ?_)
    · have h0 : ¬ 0 < L := fun h => nI_nle h hL c1
      refine j_iconst (v := 0) (pc := 12) C d_L_cell_12 (by decide) ?_
      exact j_iret (pc := 13) (wf := fun _ : Unit => []) (u := ()) C E (by rw [ce_0, if_neg h0]) (Nat.le_refl _) (Nat.le_refl _) d_L_cell_13
    · have h0 : 0 < L := by
        rcases Nat.eq_zero_or_pos L with h | h
        · exact absurd (by rw [h]; decide) c1
        · exact h
      refine j_aload_n (pc := 6) C d_L_cell_6 rfl 0 rfl ?_
      refine j_iload_n (pc := 7) C d_L_cell_7 rfl 1 rfl ?_
      refine j_sld (pc := 8) C Xs (vp_in_nI h0 hL) d_L_cell_8 ?_
      refine j_goto (pc := 9) (tgt := 13) C d_L_cell_9 (by decide) ?_
      exact j_iret (pc := 13) (wf := fun _ : Unit => []) (u := ()) C E (by rw [ce_0, if_pos h0]; rfl) (Nat.le_refl _) (Nat.le_refl _) d_L_cell_13
  have hl := lv_entry ([.ref b, .int 0] : List Value) (n := 2) (Nat.le_of_ble_eq_true rfl)
  subst eκ
  exact main s.heap [] _ hl hP hD0.self va_S.rf
theorem g_L_67 : GoodIn tb (va_wsS R_L 67 y_L_cell (Cond.code y_L_cell b_L_cell 2 (some .int) :: tb)) := jk_goodS k_401 k_402 k_267 k_403
theorem hdS_L_cell : y_L_cell.cls ≠ "java/lang/invoke/MethodHandle" ∧ y_L_cell.cls ≠ "java/lang/invoke/VarHandle" ∧ (parseMethodDescriptor y_L_cell.desc).map (fun d => d.parameters.length) = some 2 := by decide +kernel
set_option maxHeartbeats 4000000 in
set_option maxRecDepth 100000 in
theorem j_cell {κ : jk_K} {tys : List (ClassId × FieldType)} {ws : va_W} {pc : Nat} {lv : List (Nat × Value)} {st : List Value} {cells slots b L : Nat} {xs : Nat → Int32} (C : jk_C κ code R_L room_1 8 tys) (Xs : jk_Cs κ b L xs) (hL : L < 2 ^ 31) (hW8 : (st.map fun v => v.category).sum ≤ 8) (hdg : decode code pc = .ok (.invokestatic 67, 3)) (hc : cells ≤ 601024) (hs : slots ≤ 7293000) (kk : jk_J κ ws (pc + 3) lv (.int (ce_0 L xs) :: st) cells slots) : jk_J κ ws pc lv (.int 0 :: .ref b :: st) cells slots := by
  intro H locs ls hl hP hD hS
  have hFc : ∀ q, va_A [] H.size q → jk_A κ q := fun q h => h.elim (fun ⟨k, e, hk⟩ => by simp at hk) (fun h => C.2.2.2.2.2.2.1 q (Nat.le_trans hS.1 h))
  have hbH : H[b]? = (jk_s κ).heap[b]? := hS.2.1 b Xs.2.1 Xs.2.2
  have hf : cells + rm_L_cell.cells ≤ (jk_R κ).cells ∧ slots + rm_L_cell.slots ≤ (jk_R κ).slots := by rw [C.2.2.2.2.2.2.2.1]; exact ⟨hc, hs⟩
  have hR : rm_L_cell.frames + 1 ≤ (jk_R κ).frames ∧ 8 + (2 + 11) + rm_L_cell.locals ≤ (jk_R κ).locals := by rw [C.2.2.2.2.2.2.2.1]; exact ⟨Nat.le_of_ble_eq_true rfl, Nat.le_of_ble_eq_true rfl⟩
  refine va_calli (va_runS (As := [.ref b, .int 0]) (rest := st) ⟨C.1, C.2.1, C.2.2.1.1, C.2.2.2.1, C.2.2.2.2.1⟩ (c_L_cell (jk_l κ) (jk_G κ) tys b L xs hL H.size) (va_cwS 2 C.2.2.2.2.1 g_L_67 rfl rfl rfl hdS_L_cell hR) ⟨fun a U g mk q => ?_, fun U hU hW => ⟨rfl, ⟨by rw [hU], fun k q h => by simp at h, va_K.moved hW.alike C.2.2.2.2.2.1, ⟨fun i j p q h => by simp at h, fun k q h => by simp at h⟩⟩, by rw [hU]; exact va_X.moved hW.alike (Xs.1.kept hbH), Nat.lt_of_lt_of_le Xs.2.1 hS.1⟩⟩ rfl rfl hl.1 rfl (lv_room hW8) hdg hf) hS (fun q _ h => hFc q h) hFc (fun r u t H1 locs ht hvm hw hB hz1 hk1 hS => ?_)
  · obtain ⟨q0, ⟨q1, qP, qK, qD⟩, qX, qb⟩ := q
    exact ⟨q0, ⟨q1, qP, va_K.moved (u := U) (U := U.calling g mk a) (Vm.Alike.refl U.vm) qK, qD⟩, va_X.moved (u := U) (U := U.calling g mk a) (Vm.Alike.refl U.vm) qX, qb⟩
  · have hP1 : va_P (jk_G κ) classes ws H1 := hP.kept (fun k q hk => hk1 q.1 ((hP k q hk).lt) (fun h => h.elim (fun ⟨k, e, hk⟩ => by simp at hk) (fun h => absurd ((hP k q hk).lt) (Nat.not_lt.mpr h))))
    subst hw
    exact kk H1 locs ls hl hP1 hD hS
def wp_start (L : Nat) (xs : Nat → Int32) : Prop := wp_X_init (ce_0 L xs) (fun σ => wp_M_init (ce_0 L xs) (fun μ => ∃ n : Nat, wl_law L xs n 0 1 σ μ (fun _ => 0)))
set_option maxHeartbeats 4000000 in
set_option maxRecDepth 100000 in
theorem law_start {κ : jk_K} {cI cL : ClassId} {b L : Nat} {xs : Nat → Int32} (C : jk_C κ code R_L room_1 8 [(cI, .int), (cL, .long)]) (Zs : (jk_l κ).stackTraces = false ∧ jk_Z (jk_A κ) (jk_s κ)) (Le : jk_Le κ b) (Xs : jk_Cs κ b L xs) (hL : L ≤ 2049) (hw : wp_start L xs) : jk_J κ [] 0 [(0, .ref b)] [] 0 0 := by
  have hL31 : L < 2 ^ 31 := Nat.lt_of_le_of_lt hL (by decide)
  refine j_new (pc := 0) (ci := 0) (fs := [.int 0, .null, .null, .null, .null, .int 0, .null, .null, .null, .int 0, .int 0, .null, .null, .null, .null, .null, .int 0]) C i_X t_X t_X_ok k_404 k_405 k_12 rfl (by decide) (Nat.le_of_ble_eq_true rfl) (Nat.le_of_ble_eq_true rfl) d_L_law_0 (fun q0 => ?_)
  refine j_dup (pc := 3) C d_L_law_3 rfl ?_
  refine j_aload_n (pc := 4) C d_L_law_4 rfl 0 rfl ?_
  refine j_iconst (v := 0) (pc := 5) C d_L_law_5 (by decide) ?_
  refine j_cell (pc := 6) C Xs hL31 (Nat.le_of_ble_eq_true rfl) d_L_law_6 (Nat.le_of_ble_eq_true rfl) (Nat.le_of_ble_eq_true rfl) ?_
  refine j_callI (pc := 9) (st := [.ref q0]) (As := [.int (ce_0 L xs)]) (wc := [(q0, .inr (0, [.int 0, .null, .null, .null, .null, .int 0, .null, .null, .null, .int 0, .int 0, .null, .null, .null, .null, .null, .int 0]))]) (wr := []) (wf := fun u : (Nat → Nat) × SX => wX cI cL u.1 u.2) (wn := fun u => wX cI cL u.1 u.2) C (c_X_init (jk_l κ) (jk_G κ) cI cL q0 (ce_0 L xs) _ hw) (jk_goodI k_408) k_12 k_409 k_410 rfl hdI_X_init ⟨Nat.le_of_ble_eq_true rfl, Nat.le_of_ble_eq_true rfl⟩ rfl [0] [] rfl rfl (by decide) (by decide) (by decide) rfl (Nat.le_of_ble_eq_true rfl) d_L_law_9 ⟨Nat.le_of_ble_eq_true rfl, Nat.le_of_ble_eq_true rfl⟩ [0, 1, 2, 3, 4, 5, 6, 7, 8, 9, 10, 11, 12] (by decide) (fun _ => rfl) (fun u hw => ?_)
  obtain ⟨ad, σ⟩ := u
  obtain ⟨had, hw⟩ := hw
  dsimp only at had hw
  subst had
  refine j_astore_n (pc := 12) (lv' := [(1, .ref (ad 0)), (0, .ref b)]) C d_L_law_12 rfl (Nat.le_of_ble_eq_true rfl) rfl ?_
  refine j_new (pc := 13) (ci := 1) (fs := [.int 0, .int 0, .int 0, .null, .null, .null, .null, .null, .null, .null, .int 0, .null, .null, .int 0, .null, .int 0, .null]) C i_M t_M t_M_ok k_406 k_407 k_115 rfl (by decide) (Nat.le_of_ble_eq_true rfl) (Nat.le_of_ble_eq_true rfl) d_L_law_13 (fun q1 => ?_)
  refine j_dup (pc := 16) C d_L_law_16 rfl ?_
  refine j_aload_n (pc := 17) C d_L_law_17 rfl 1 rfl ?_
  refine j_iconst (v := 0) (pc := 18) C d_L_law_18 (by decide) ?_
  refine j_cell (pc := 19) C Xs hL31 (Nat.le_of_ble_eq_true rfl) d_L_law_19 (Nat.le_of_ble_eq_true rfl) (Nat.le_of_ble_eq_true rfl) ?_
  refine j_callI (pc := 22) (st := [.ref q1]) (As := [.int (ce_0 L xs)]) (wc := [(q1, .inr (1, [.int 0, .int 0, .int 0, .null, .null, .null, .null, .null, .null, .null, .int 0, .null, .null, .int 0, .null, .int 0, .null]))]) (wr := wX cI cL ad σ) (wf := fun u : (Nat → Nat) × SM => wM cI cL u.1 u.2) (wn := fun u => wX cI cL ad σ ++ wM cI cL u.1 u.2) C (c_M_init (jk_l κ) (jk_G κ) cI cL q1 (ce_0 L xs) _ hw) (jk_goodI k_411) k_115 k_412 k_413 rfl hdI_M_init ⟨Nat.le_of_ble_eq_true rfl, Nat.le_of_ble_eq_true rfl⟩ rfl [13] [0, 1, 2, 3, 4, 5, 6, 7, 8, 9, 10, 11, 12] rfl rfl (by decide) (by decide) (by decide) rfl (Nat.le_of_ble_eq_true rfl) d_L_law_22 ⟨Nat.le_of_ble_eq_true rfl, Nat.le_of_ble_eq_true rfl⟩ [0, 1, 2, 3, 4, 5, 6, 7, 8, 9, 10, 11, 12, 13, 14, 15, 16, 17, 18, 19, 20, 21, 22, 23, 24] (by decide) (fun _ => rfl) (fun u hw => ?_)
  obtain ⟨am, μ⟩ := u
  obtain ⟨ham, hw⟩ := hw
  dsimp only at ham hw
  subst ham
  refine j_astore_n (pc := 25) (lv' := [(2, .ref (am 0)), (1, .ref (ad 0)), (0, .ref b)]) C d_L_law_25 rfl (Nat.le_of_ble_eq_true rfl) rfl ?_
  refine j_iconst (v := 1) (pc := 26) C d_L_law_26 (by decide) ?_
  refine j_newa (pc := 27) C (ty := .long) rfl k_196 1 rfl (fun h => h) (N' := 1) (a0 := (1, .inr (.inl (fun _ => 0)))) (fun _ => rfl) (by decide) rfl (by decide) (Nat.le_of_ble_eq_true rfl) (Nat.le_of_ble_eq_true rfl) d_L_law_27 (fun o => ?_)
  refine j_astore_n (pc := 29) (lv' := [(3, .ref o), (2, .ref (am 0)), (1, .ref (ad 0)), (0, .ref b)]) C d_L_law_29 rfl (Nat.le_of_ble_eq_true rfl) rfl ?_
  refine j_iconst (v := 1) (pc := 30) C d_L_law_30 (by decide) ?_
  refine j_istore (pc := 31) (lv' := [(4, .int 1), (3, .ref o), (2, .ref (am 0)), (1, .ref (ad 0)), (0, .ref b)]) C d_L_law_31 (Nat.le_of_ble_eq_true rfl) rfl ?_
  refine j_ws (ws' := wL cI cL ad am o (σ, μ, (fun _ => 0))) rfl ?_
  refine j_locs [4, 3, 2, 1, 0] rfl ?_
  obtain ⟨n, hw⟩ := hw
  refine j_widen (k := 26 + 4 * 0) (n := 10148 + 24 * 0) (Nat.le_of_ble_eq_true rfl) (Nat.le_of_ble_eq_true rfl) ?_
  exact law_loop C Zs Le Xs n 0 1 σ μ (fun _ => 0) hw
