/-- a method with a table, that catches all: it returns an int -/
def jh_i (l : Launch) (G : va_G) (tys : List (ClassId × FieldType)) (y : MethodName) (b : ByteArray) (maxL : Nat) (hh : List (Nat × Nat × Nat × Nat)) (rm : Room) (vs : List Value) (ws : va_W) {S : Type} (wf : S → va_W) (post : Int32 → S → Prop) : Prop := ∀ sz : Nat, Met l y (Cond.codeWith y b maxL (some .int) hh :: tb) rm (va_Pc vs (fun U => jk_P G tys ws sz U ∧ jk_Z (va_A ws sz) U)) (va_Qi post (jk_B G tys (va_A ws sz) wf) (va_A ws sz)) rm.cells rm.slots (va_A ws sz)
def jk_Ch (κ : jk_K) (hh : List (Nat × Nat × Nat × Nat)) : Prop := (jk_l κ).stackTraces = false ∧ (jk_c κ).exceptionTable.toList = tableOf hh ∧ jk_Z (jk_A κ) (jk_s κ)
theorem jh_open_i {l : Launch} {G : va_G} {tys : List (ClassId × FieldType)} {y : MethodName} {b : ByteArray} {maxL : Nat} {hh : List (Nat × Nat × Nat × Nat)} {rm : Room} {vs : List Value} {ws : va_W} {S : Type} {wf : S → va_W} {post : Int32 → S → Prop} (hlt : l.stackTraces = false) (hy : plainName y.cls = true) (hvs : (lg_sl vs).length ≤ maxL)
    (body : ∀ κ : jk_K, jk_l κ = l → jk_G κ = G → jk_C κ b y.cls rm maxL tys → jk_Ch κ hh → jk_E κ (some .int) (va_Qi post (jk_B (jk_G κ) tys (jk_A κ) wf) (jk_A κ)) rm.cells rm.slots → jk_J κ ws 0 (lv_args 0 vs) [] 0 0) : jh_i l G tys y b maxL hh rm vs ws wf post := by
  intro sz
  refine va_MetW (cc := b) (maxL := maxL) (ret := some .int) hy rfl ?_
  intro p e s m args below meth c s₁ B hml hv
  obtain ⟨rfl, ⟨hsz, hP, hK, hD0⟩, hZ⟩ := hv
  have hts := atoms_spec (ws := Cond.codeWith y b maxL (some .int) hh :: tb) B.pre
  have hown : s.vm.findClass y.cls = some m.cls := findClass_of_methodNamed B.named
  have htab := vx_table (x := y) B (hts _ List.mem_cons_self)
  subst hsz
  rw [lg_entry_eq]
  exact body (p, l, e, rm, s, m, vs.toArray, below, meth, c, maxL, G, va_A ws s.heap.size, MQ below (va_Qi post (jk_B G tys (va_A ws s.heap.size) wf) (va_A ws s.heap.size)) vs.toArray s rm.cells rm.slots (va_A ws s.heap.size)) rfl rfl ⟨B.exec, B.bytes, ⟨hml, rfl⟩, hown, fun w h => hts w (List.mem_cons_of_mem _ h), hK, fun q h => Or.inr h, rfl, B.notSynchronized⟩ ⟨hlt, htab, hZ⟩ ⟨B.returns, rfl⟩ s.heap [] _ (lv_entry vs hvs) hP hD0.self va_S.rf
theorem jk_goodH {own : String} {idx : Nat} {y : MethodName} {b : ByteArray} {n : Nat} {ret : Option FieldType} {hh : List (Nat × Nat × Nat × Nat)} (h1 : Cond.methodLink own idx y ∈ tb) (h2 : Cond.static y ∈ tb) (h3 : Cond.initialized y.cls ∈ tb) (h5 : Cond.codeWith y b n ret hh ∈ tb) : GoodIn tb (va_wsS own idx y (Cond.codeWith y b n ret hh :: tb)) := by
  intro w hw
  have hm : w ∈ tb := by
    simp only [va_wsS, List.mem_append, List.mem_cons, List.not_mem_nil, or_false] at hw
    rcases hw with (rfl | rfl | rfl) | rfl | hw <;> assumption
  exact ⟨hm, good_of_word (tb_good w hm)⟩
/-- where a thrown E is caught: the table's row x, those ahead don't take it -/
def jk_cat (κ : jk_K) (own : String) (hh : List (Nat × Nat × Nat × Nat)) (pc : Nat) (E : String) (hp : Nat) : Prop := ∃ (pre : List ExceptionTableEntry) (x : ExceptionTableEntry) (suf : List ExceptionTableEntry) (name : String), tableOf hh = pre ++ x :: suf ∧ (∀ z ∈ pre, covers z pc = false ∨ (z.catchType ≠ 0 ∧ ∃ nm : String, Cond.classLink own z.catchType nm ∈ tb ∧ va_Nc E nm (jk_s κ))) ∧ covers x pc = true ∧ x.catchType ≠ 0 ∧ Cond.classLink own x.catchType name ∈ tb ∧ Cond.castable E name ∈ jk_oth ∧ x.handlerPc = hp
section jk_hcalls
variable {κ : jk_K} {cc : ByteArray} {own : String} {R : Room} {nL : Nat} {tys : List (ClassId × FieldType)} {ws : va_W} {pc : Nat} {lv : List (Nat × Value)} {st st0 : List Value} {cells slots : Nat} {S : Type} {wf : S → va_W}
variable {y : MethodName} {bytes : ByteArray} {maxL index n a q0 ci : Nat} {rm : Room} {As : List Value} {wc wr : va_W} {Cn : String} {fs : List Value} {qc : vw_C} {hh : List (Nat × Nat × Nat × Nat)}
theorem jh_callVi {ty : FieldType} {post : Int32 → S → Prop} {px : String → S → Prop} (C : jk_C κ cc own R nL tys) (Z : jk_Ch κ hh) (hM : jx_i (jk_l κ) (jk_G κ) tys y bytes maxL ty rm (.ref a :: As) wc wf post px) (hg : GoodIn tb (wsV own index Cn y (Cond.code y bytes maxL (some ty) :: tb))) (hd : y.cls = Cn ∧ y.cls ≠ "java/lang/invoke/MethodHandle" ∧ y.cls ≠ "java/lang/invoke/VarHandle" ∧ (parseMethodDescriptor y.desc).map (fun d => d.parameters.length) = some n) (hR : rm.frames + 1 ≤ R.frames ∧ 8 + (maxL + 11) + rm.locals ≤ R.locals) (hn : As.length = n) (he : wc[q0]? = some (a, .inr (ci, fs))) (hcl : classes[ci]? = some qc) (hqn : qc.1 = Cn)
    (isC isR : List Nat) (hC : isC.map (fun i => ws[i]?) = wc.map some) (hRr : isR.map (fun i => ws[i]?) = wr.map some) (hnd : va_nd isR = true) (hdis : ∀ i ∈ isR, i ∉ isC) (hndC : va_nd isC = true) (hst : st0 = As.reverse ++ .ref a :: st) (hW8 : (st.map fun v => v.category).sum ≤ 8) (hdg : decode cc pc = .ok (.invokevirtual index, 3)) (hf : cells + rm.cells ≤ R.cells ∧ slots + rm.slots ≤ R.slots)
    {wn : S → va_W} (ps : List Nat) (hnp : va_nd ps = true) (hwn : ∀ u, ps.map (fun i => (wr ++ wf u)[i]?) = (wn u).map some)
    (kx : ∀ (E : String) (u : S), px E u → ∃ hp : Nat, jk_cat κ own hh pc E hp ∧ ∀ q9 : Nat, jk_J κ (wn u) hp lv [.ref q9] (cells + rm.cells) (slots + rm.slots))
    (kk : ∀ (r : Int32) (u : S), post r u → jk_J κ (wn u) (pc + 3) lv (.int r :: st) (cells + rm.cells) (slots + rm.slots)) : jk_J κ ws pc lv st0 cells slots := by
  intro H locs ls hl hP hD hS
  subst hst
  subst hqn
  have hPc := hP.sub (ws' := wc) isC (jk_fm hC)
  have hDc := hD.sub (ws' := wc) isC hndC hC
  have hFc := va_free (wc := wc) hD hS C.2.2.2.2.2.2.1 isC hC
  rw [← C.2.2.2.2.2.2.2.1] at hR hf
  refine vx_calli (vx_runV (As := As) (rest := st) ⟨C.1, C.2.1, C.2.2.1.1, C.2.2.2.1, C.2.2.2.2.1⟩ (hM H.size) (cwV n C.2.2.2.2.1 hg rfl rfl rfl hd hR) ⟨jk_blindx, va_recv C.2.2.2.2.2.1 hPc hcl he, fun U hU hW => ⟨rfl, ⟨by rw [hU], by rw [hU]; exact hPc, va_K.moved hW.alike C.2.2.2.2.2.1, hDc.weaken (fun _ _ _ _ => trivial)⟩, jk_Zmv Z.2.2 hS hFc hU hW⟩⟩ rfl hn hl.1 rfl (lv_room hW8) hdg hf) hS (fun q _ h => hFc q h) hFc (fun q _ h => hFc q h) (fun E1 ce q9 u t H1 locs ht hvm hw hB hz1 hk1 hS hce hcv hcl => ?_) (fun r u t H1 locs ht hvm hw hB hz1 hk1 hS => ?_)
  · obtain ⟨hE1, hP1, hK1, hD1⟩ := hB
    rw [ht] at hP1
    obtain ⟨hP2, hD2⟩ := va_join (wr := wr) (w1 := wf u.2) hP hD isC isR hC hRr hnd hdis hk1 hFc hP1 hD1
    obtain ⟨hp, ⟨pre, x, suf, name, e1, e2, e3, e4, e5, e6, rfl⟩, kj⟩ := kx u.1 u.2 hw
    subst hE1
    exact vx_catch C.2.2.2.1 pre x suf (Z.2.1.trans e1) (fun z hz => (e2 z hz).elim Or.inl (fun h => Or.inr ⟨h.1, h.2.elim fun nm h => ⟨nm, C.2.2.2.2.1 _ h.1, h.2⟩⟩)) e3 e4 (C.2.2.2.2.1 _ e5) (va_any (jk_onT _ e6) (Z.2.2.2.2.2.2 _ e6)) hce hcv hcl (kj q9 H1 locs ls hl (hP2.sub ps (jk_fm (hwn u.2))) (hD2.sub ps hnp (hwn u.2)) hS)
  · obtain ⟨hP1, hK1, hD1⟩ := hB
    rw [ht] at hP1
    obtain ⟨hP2, hD2⟩ := va_join (wr := wr) (w1 := wf u) hP hD isC isR hC hRr hnd hdis hk1 hFc hP1 hD1
    exact kk r u hw H1 locs ls hl (hP2.sub ps (jk_fm (hwn u))) (hD2.sub ps hnp (hwn u)) hS
theorem jh_callVl {post : Int64 → S → Prop} {px : String → S → Prop} (C : jk_C κ cc own R nL tys) (Z : jk_Ch κ hh) (hM : jx_l (jk_l κ) (jk_G κ) tys y bytes maxL rm (.ref a :: As) wc wf post px) (hg : GoodIn tb (wsV own index Cn y (Cond.code y bytes maxL (some .long) :: tb))) (hd : y.cls = Cn ∧ y.cls ≠ "java/lang/invoke/MethodHandle" ∧ y.cls ≠ "java/lang/invoke/VarHandle" ∧ (parseMethodDescriptor y.desc).map (fun d => d.parameters.length) = some n) (hR : rm.frames + 1 ≤ R.frames ∧ 8 + (maxL + 11) + rm.locals ≤ R.locals) (hn : As.length = n) (he : wc[q0]? = some (a, .inr (ci, fs))) (hcl : classes[ci]? = some qc) (hqn : qc.1 = Cn)
    (isC isR : List Nat) (hC : isC.map (fun i => ws[i]?) = wc.map some) (hRr : isR.map (fun i => ws[i]?) = wr.map some) (hnd : va_nd isR = true) (hdis : ∀ i ∈ isR, i ∉ isC) (hndC : va_nd isC = true) (hst : st0 = As.reverse ++ .ref a :: st) (hW8 : (st.map fun v => v.category).sum ≤ 8) (hdg : decode cc pc = .ok (.invokevirtual index, 3)) (hf : cells + rm.cells ≤ R.cells ∧ slots + rm.slots ≤ R.slots)
    {wn : S → va_W} (ps : List Nat) (hnp : va_nd ps = true) (hwn : ∀ u, ps.map (fun i => (wr ++ wf u)[i]?) = (wn u).map some)
    (kx : ∀ (E : String) (u : S), px E u → ∃ hp : Nat, jk_cat κ own hh pc E hp ∧ ∀ q9 : Nat, jk_J κ (wn u) hp lv [.ref q9] (cells + rm.cells) (slots + rm.slots))
    (kk : ∀ (r : Int64) (u : S), post r u → jk_J κ (wn u) (pc + 3) lv (.long r :: st) (cells + rm.cells) (slots + rm.slots)) : jk_J κ ws pc lv st0 cells slots := by
  intro H locs ls hl hP hD hS
  subst hst
  subst hqn
  have hPc := hP.sub (ws' := wc) isC (jk_fm hC)
  have hDc := hD.sub (ws' := wc) isC hndC hC
  have hFc := va_free (wc := wc) hD hS C.2.2.2.2.2.2.1 isC hC
  rw [← C.2.2.2.2.2.2.2.1] at hR hf
  refine vx_calll (vx_runV (As := As) (rest := st) ⟨C.1, C.2.1, C.2.2.1.1, C.2.2.2.1, C.2.2.2.2.1⟩ (hM H.size) (cwV n C.2.2.2.2.1 hg rfl rfl rfl hd hR) ⟨jk_blindx, va_recv C.2.2.2.2.2.1 hPc hcl he, fun U hU hW => ⟨rfl, ⟨by rw [hU], by rw [hU]; exact hPc, va_K.moved hW.alike C.2.2.2.2.2.1, hDc.weaken (fun _ _ _ _ => trivial)⟩, jk_Zmv Z.2.2 hS hFc hU hW⟩⟩ rfl hn hl.1 rfl (lv_room hW8) hdg hf) hS (fun q _ h => hFc q h) hFc (fun q _ h => hFc q h) (fun E1 ce q9 u t H1 locs ht hvm hw hB hz1 hk1 hS hce hcv hcl => ?_) (fun r u t H1 locs ht hvm hw hB hz1 hk1 hS => ?_)
  · obtain ⟨hE1, hP1, hK1, hD1⟩ := hB
    rw [ht] at hP1
    obtain ⟨hP2, hD2⟩ := va_join (wr := wr) (w1 := wf u.2) hP hD isC isR hC hRr hnd hdis hk1 hFc hP1 hD1
    obtain ⟨hp, ⟨pre, x, suf, name, e1, e2, e3, e4, e5, e6, rfl⟩, kj⟩ := kx u.1 u.2 hw
    subst hE1
    exact vx_catch C.2.2.2.1 pre x suf (Z.2.1.trans e1) (fun z hz => (e2 z hz).elim Or.inl (fun h => Or.inr ⟨h.1, h.2.elim fun nm h => ⟨nm, C.2.2.2.2.1 _ h.1, h.2⟩⟩)) e3 e4 (C.2.2.2.2.1 _ e5) (va_any (jk_onT _ e6) (Z.2.2.2.2.2.2 _ e6)) hce hcv hcl (kj q9 H1 locs ls hl (hP2.sub ps (jk_fm (hwn u.2))) (hD2.sub ps hnp (hwn u.2)) hS)
  · obtain ⟨hP1, hK1, hD1⟩ := hB
    rw [ht] at hP1
    obtain ⟨hP2, hD2⟩ := va_join (wr := wr) (w1 := wf u) hP hD isC isR hC hRr hnd hdis hk1 hFc hP1 hD1
    exact kk r u hw H1 locs ls hl (hP2.sub ps (jk_fm (hwn u))) (hD2.sub ps hnp (hwn u)) hS
/-- a static call of such a method -/
theorem j_callH {post : Int32 → S → Prop} (C : jk_C κ cc own R nL tys) (Zs : jk_Z (jk_A κ) (jk_s κ)) {hh : List (Nat × Nat × Nat × Nat)} (hM : jh_i (jk_l κ) (jk_G κ) tys y bytes maxL hh rm As wc wf post) (hg : GoodIn tb (va_wsS own index y (Cond.codeWith y bytes maxL (some .int) hh :: tb))) (hd : y.cls ≠ "java/lang/invoke/MethodHandle" ∧ y.cls ≠ "java/lang/invoke/VarHandle" ∧ (parseMethodDescriptor y.desc).map (fun d => d.parameters.length) = some n) (hR : rm.frames + 1 ≤ R.frames ∧ 8 + (maxL + 11) + rm.locals ≤ R.locals) (hn : As.length = n)
    (isC isR : List Nat) (hC : isC.map (fun i => ws[i]?) = wc.map some) (hRr : isR.map (fun i => ws[i]?) = wr.map some) (hnd : va_nd isR = true) (hdis : ∀ i ∈ isR, i ∉ isC) (hndC : va_nd isC = true) (hst : st0 = As.reverse ++ st) (hW8 : (st.map fun v => v.category).sum ≤ 8) (hdg : decode cc pc = .ok (.invokestatic index, 3)) (hf : cells + rm.cells ≤ R.cells ∧ slots + rm.slots ≤ R.slots)
    {wn : S → va_W} (ps : List Nat) (hnp : va_nd ps = true) (hwn : ∀ u, ps.map (fun i => (wr ++ wf u)[i]?) = (wn u).map some)
    (kk : ∀ (r : Int32) (u : S), post r u → jk_J κ (wn u) (pc + 3) lv (.int r :: st) (cells + rm.cells) (slots + rm.slots)) : jk_J κ ws pc lv st0 cells slots := by
  intro H locs ls hl hP hD hS
  subst hst
  have hPc := hP.sub (ws' := wc) isC (jk_fm hC)
  have hDc := hD.sub (ws' := wc) isC hndC hC
  have hFc := va_free (wc := wc) hD hS C.2.2.2.2.2.2.1 isC hC
  rw [← C.2.2.2.2.2.2.2.1] at hR hf
  refine va_calli (vx_runSW (As := As) (rest := st) ⟨C.1, C.2.1, C.2.2.1.1, C.2.2.2.1, C.2.2.2.2.1⟩ (hM H.size) (vx_cwSW n C.2.2.2.2.1 hg rfl rfl rfl hd hR) ⟨jk_blindx, fun U hU hW => ⟨rfl, ⟨by rw [hU], by rw [hU]; exact hPc, va_K.moved hW.alike C.2.2.2.2.2.1, hDc.weaken (fun _ _ _ _ => trivial)⟩, jk_Zmv Zs hS hFc hU hW⟩⟩ rfl hn hl.1 rfl (lv_room hW8) hdg hf) hS (fun q _ h => hFc q h) hFc (fun r u t H1 locs ht hvm hw hB hz1 hk1 hS => ?_)
  obtain ⟨hP1, hK1, hD1⟩ := hB
  rw [ht] at hP1
  obtain ⟨hP2, hD2⟩ := va_join (wr := wr) (w1 := wf u) hP hD isC isR hC hRr hnd hdis hk1 hFc hP1 hD1
  exact kk r u hw H1 locs ls hl (hP2.sub ps (jk_fm (hwn u))) (hD2.sub ps hnp (hwn u)) hS
end jk_hcalls
section jk_law
variable {κ : jk_K} {cc : ByteArray} {own : String} {R : Room} {nL : Nat} {tys : List (ClassId × FieldType)} {ws : va_W} {pc : Nat} {lv : List (Nat × Value)} {st : List Value} {cells slots : Nat}
/-- the law's script: outside the world, as at the start -/
def jk_Cs (κ : jk_K) (b L : Nat) (xs : Nat → Int32) : Prop := va_X b L xs (jk_s κ) (jk_s κ).heap ∧ b < (jk_s κ).heap.size ∧ ¬ jk_A κ b
theorem j_sld (C : jk_C κ cc own R nL tys) {b L : Nat} {xs : Nat → Int32} (X : jk_Cs κ b L xs) {i : Int32} (hin : vp_in i L) (hdg : decode cc pc = .ok (.iaload, 1)) (kk : jk_J κ ws (pc + 1) lv (.int (xs i.toNatClampNeg) :: st) cells slots) : jk_J κ ws pc lv (.int i :: .ref b :: st) cells slots := fun H locs ls hl hP hD hS => va_sld C.1 C.2.1 X.1 X.2.1 X.2.2 hS hin hdg (kk H locs ls hl hP hD hS)
theorem j_slen (C : jk_C κ cc own R nL tys) {b L : Nat} {xs : Nat → Int32} (X : jk_Cs κ b L xs) (hdg : decode cc pc = .ok (.arraylength, 1)) (kk : jk_J κ ws (pc + 1) lv (.int (nI L) :: st) cells slots) : jk_J κ ws pc lv (.ref b :: st) cells slots := fun H locs ls hl hP hD hS => va_slen C.1 C.2.1 X.1 X.2.1 X.2.2 hS hdg (kk H locs ls hl hP hD hS)
end jk_law
theorem g_X_74 : GoodIn tb (wsV R_X 74 R_X y_X_needBlock (Cond.code y_X_needBlock b_X_needBlock 2 none :: tb)) := jk_goodV k_9 k_10 k_11 k_12 k_13
theorem g_X_80 : GoodIn tb (va_wsS R_X 80 y_X_needWithin (Cond.code y_X_needWithin b_X_needWithin 6 none :: tb)) := jk_goodS k_17 k_18 k_12 k_19
theorem g_X_90 : GoodIn tb (va_wsS R_X 90 y_X_startOf (Cond.code y_X_startOf b_X_startOf 1 (some .int) :: tb)) := jk_goodS k_22 k_23 k_12 k_24
theorem g_X_122 : GoodIn tb (va_wsS R_X 122 y_X_blockOf (Cond.code y_X_blockOf b_X_blockOf 1 (some .int) :: tb)) := jk_goodS k_30 k_31 k_12 k_32
theorem g_X_164 : GoodIn tb (wsV R_X 164 R_X y_X_takeFromRow (Cond.code y_X_takeFromRow b_X_takeFromRow 4 none :: tb)) := jk_goodV k_33 k_34 k_35 k_12 k_36
theorem g_X_174 : GoodIn tb (wsV R_X 174 R_X y_X_steepestFrom (Cond.code y_X_steepestFrom b_X_steepestFrom 13 (some .int) :: tb)) := jk_goodV k_37 k_38 k_39 k_12 k_40
theorem g_X_167 : GoodIn tb (wsV R_X 167 R_X y_X_makeHull (Cond.code y_X_makeHull b_X_makeHull 9 (some .int) :: tb)) := jk_goodV k_43 k_44 k_45 k_12 k_46
theorem g_X_184 : GoodIn tb (va_wsS R_X 184 y_JL_compare (Cond.code y_JL_compare b_JL_compare 4 (some .int) :: tb)) := jk_goodS k_47 k_48 k_49 k_50
theorem g_X_181 : GoodIn tb (wsV R_X 181 R_X y_X_compareSlopes (Cond.code y_X_compareSlopes b_X_compareSlopes 3 (some .int) :: tb)) := jk_goodV k_51 k_52 k_53 k_12 k_54
theorem g_X_177 : GoodIn tb (wsV R_X 177 R_X y_X_comesBefore (Cond.code y_X_comesBefore b_X_comesBefore 4 (some .boolean) :: tb)) := jk_goodV k_55 k_56 k_57 k_12 k_58
theorem g_X_170 : GoodIn tb (wsV R_X 170 R_X y_X_mergeIntoRow (Cond.code y_X_mergeIntoRow b_X_mergeIntoRow 7 none :: tb)) := jk_goodV k_59 k_60 k_61 k_12 k_62
theorem g_X_97 : GoodIn tb (wsV R_X 97 R_X y_X_renewBlock (Cond.code y_X_renewBlock b_X_renewBlock 3 none :: tb)) := jk_goodV k_63 k_64 k_65 k_12 k_66
theorem g_X_142 : GoodIn tb (wsV R_X 142 R_X y_X_needLayer (Cond.code y_X_needLayer b_X_needLayer 2 none :: tb)) := jk_goodV k_71 k_72 k_73 k_12 k_74
theorem g_X_104 : GoodIn tb (wsV R_X 104 R_X y_X_tellLayer (Cond.code y_X_tellLayer b_X_tellLayer 5 (some .int) :: tb)) := jk_goodV k_76 k_77 k_78 k_12 k_79
theorem g_X_108 : GoodIn tb (wsV R_X 108 R_X y_X_fillLayer (Cond.code y_X_fillLayer b_X_fillLayer 5 (some .int) :: tb)) := jk_goodV k_83 k_84 k_85 k_12 k_86
theorem g_X_111 : GoodIn tb (wsV R_X 111 R_X y_X_pointOf (Cond.code y_X_pointOf b_X_pointOf 3 (some .int) :: tb)) := jk_goodV k_87 k_88 k_89 k_12 k_90
theorem g_X_125 : GoodIn tb (va_wsS R_X 125 y_X_passesUpTo (Cond.code y_X_passesUpTo b_X_passesUpTo 1 (some .int) :: tb)) := jk_goodS k_91 k_92 k_12 k_93
theorem g_X_128 : GoodIn tb (wsV R_X 128 R_X y_X_countSameSlope (Cond.code y_X_countSameSlope b_X_countSameSlope 4 (some .int) :: tb)) := jk_goodV k_94 k_95 k_96 k_12 k_97
theorem g_X_131 : GoodIn tb (wsV R_X 131 R_X y_X_needShared (Cond.code y_X_needShared b_X_needShared 1 none :: tb)) := jk_goodV k_100 k_101 k_102 k_12 k_103
theorem g_X_134 : GoodIn tb (wsV R_X 134 R_X y_X_layerOf (Cond.code y_X_layerOf b_X_layerOf 3 (some .int) :: tb)) := jk_goodV k_104 k_105 k_106 k_12 k_107
theorem g_M_54 : GoodIn tb (wsV R_M 54 R_M y_M_isBlock (Cond.code y_M_isBlock b_M_isBlock 2 (some .boolean) :: tb)) := jk_goodV k_112 k_113 k_114 k_115 k_116
theorem g_M_65 : GoodIn tb (wsV R_M 65 R_M y_M_fails (Cond.code y_M_fails b_M_fails 3 (some .boolean) :: tb)) := jk_goodV k_121 k_122 k_123 k_115 k_124
theorem g_M_69 : GoodIn tb (wsV R_M 69 R_M y_M_spoil (Cond.code y_M_spoil b_M_spoil 1 none :: tb)) := jk_goodV k_127 k_128 k_129 k_115 k_130
theorem g_M_74 : GoodIn tb (va_wsS R_M 74 y_M_within (Cond.code y_M_within b_M_within 6 (some .boolean) :: tb)) := jk_goodS k_132 k_133 k_115 k_134
theorem g_M_86 : GoodIn tb (wsV R_M 86 R_M y_M_isLayer (Cond.code y_M_isLayer b_M_isLayer 2 (some .boolean) :: tb)) := jk_goodV k_141 k_142 k_143 k_115 k_144
theorem g_M_93 : GoodIn tb (wsV R_M 93 R_M y_M_g (Cond.code y_M_g b_M_g 6 (some .long) :: tb)) := jk_goodV k_149 k_150 k_151 k_115 k_152
theorem g_M_97 : GoodIn tb (wsV R_M 97 R_M y_M_l (Cond.code y_M_l b_M_l 3 (some .int) :: tb)) := jk_goodV k_153 k_154 k_155 k_115 k_156
theorem g_M_104 : GoodIn tb (wsV R_M 104 R_M y_M_isHull (Cond.code y_M_isHull b_M_isHull 12 (some .boolean) :: tb)) := jk_goodV k_160 k_161 k_162 k_115 k_163
theorem g_M_108 : GoodIn tb (wsV R_M 108 R_M y_M_isBefore (Cond.code y_M_isBefore b_M_isBefore 7 (some .boolean) :: tb)) := jk_goodV k_165 k_166 k_167 k_115 k_168
theorem g_M_111 : GoodIn tb (wsV R_M 111 R_M y_M_layRow (Cond.code y_M_layRow b_M_layRow 7 none :: tb)) := jk_goodV k_169 k_170 k_171 k_115 k_172
theorem g_M_114 : GoodIn tb (wsV R_M 114 R_M y_M_isPass (Cond.code y_M_isPass b_M_isPass 3 (some .boolean) :: tb)) := jk_goodV k_174 k_175 k_176 k_115 k_177
theorem g_M_121 : GoodIn tb (wsV R_M 121 R_M y_M_layerOf (Cond.code y_M_layerOf b_M_layerOf 3 (some .int) :: tb)) := jk_goodV k_178 k_179 k_180 k_115 k_181
theorem g_M_117 : GoodIn tb (wsV R_M 117 R_M y_M_alike (Cond.code y_M_alike b_M_alike 4 (some .int) :: tb)) := jk_goodV k_182 k_183 k_184 k_115 k_185
theorem g_M_124 : GoodIn tb (wsV R_M 124 R_M y_M_last (Cond.code y_M_last b_M_last 5 (some .int) :: tb)) := jk_goodV k_186 k_187 k_188 k_115 k_189
theorem g_L_7 : GoodIn tb (wsV R_L 7 R_X y_X_block (Cond.code y_X_block b_X_block 2 (some .int) :: tb)) := jk_goodV k_205 k_206 k_207 k_12 k_208
theorem g_L_15 : GoodIn tb (wsV R_L 15 R_X y_X_pass (Cond.code y_X_pass b_X_pass 6 (some .int) :: tb)) := jk_goodV k_210 k_211 k_212 k_12 k_213
theorem g_L_23 : GoodIn tb (wsV R_L 23 R_X y_X_weight (Cond.code y_X_weight b_X_weight 4 (some .int) :: tb)) := jk_goodV k_216 k_217 k_218 k_12 k_219
theorem g_L_27 : GoodIn tb (wsV R_L 27 R_X y_X_shift (Cond.code y_X_shift b_X_shift 4 (some .int) :: tb)) := jk_goodV k_220 k_221 k_222 k_12 k_223
theorem g_L_30 : GoodIn tb (wsV R_L 30 R_X y_X_size (Cond.code y_X_size b_X_size 3 (some .int) :: tb)) := jk_goodV k_224 k_225 k_226 k_12 k_227
theorem g_L_33 : GoodIn tb (wsV R_L 33 R_X y_X_head (Cond.code y_X_head b_X_head 3 (some .int) :: tb)) := jk_goodV k_228 k_229 k_230 k_12 k_231
theorem g_L_36 : GoodIn tb (wsV R_L 36 R_X y_X_hull (Cond.code y_X_hull b_X_hull 3 (some .boolean) :: tb)) := jk_goodV k_232 k_233 k_234 k_12 k_235
theorem g_L_40 : GoodIn tb (wsV R_L 40 R_X y_X_slope (Cond.code y_X_slope b_X_slope 5 (some .long) :: tb)) := jk_goodV k_236 k_237 k_238 k_12 k_239
theorem g_L_44 : GoodIn tb (wsV R_L 44 R_X y_X_at (Cond.code y_X_at b_X_at 4 (some .int) :: tb)) := jk_goodV k_240 k_241 k_242 k_12 k_243
theorem g_L_49 : GoodIn tb (wsV R_L 49 R_X y_X_passes (Cond.code y_X_passes b_X_passes 4 (some .int) :: tb)) := jk_goodV k_245 k_246 k_247 k_12 k_248
theorem g_L_52 : GoodIn tb (wsV R_L 52 R_X y_X_bytes (Cond.code y_X_bytes b_X_bytes 2 (some .int) :: tb)) := jk_goodV k_249 k_250 k_251 k_12 k_252
theorem g_L_56 : GoodIn tb (wsV R_L 56 R_X y_X_gained (Cond.code y_X_gained b_X_gained 5 (some .long) :: tb)) := jk_goodV k_253 k_254 k_255 k_12 k_256
theorem g_L_60 : GoodIn tb (wsV R_L 60 R_X y_X_least (Cond.code y_X_least b_X_least 4 (some .int) :: tb)) := jk_goodV k_257 k_258 k_259 k_12 k_260
theorem g_L_63 : GoodIn tb (wsV R_L 63 R_X y_X_above (Cond.code y_X_above b_X_above 5 (some .int) :: tb)) := jk_goodV k_261 k_262 k_263 k_12 k_264
theorem g_L_79 : GoodIn tb (va_wsS R_L 79 y_L_block (Cond.codeWith y_L_block b_L_block 3 (some .int) [(0, 8, 11, 13)] :: tb)) := jk_goodH k_265 k_266 k_267 k_268
theorem g_L_82 : GoodIn tb (wsV R_L 82 R_M y_M_block (Cond.code y_M_block b_M_block 1 (some .int) :: tb)) := jk_goodV k_269 k_270 k_271 k_115 k_272
theorem g_L_83 : GoodIn tb (wsV R_L 83 R_M y_M_thrown (Cond.code y_M_thrown b_M_thrown 1 (some .int) :: tb)) := jk_goodV k_273 k_274 k_275 k_115 k_276
theorem g_L_86 : GoodIn tb (va_wsS R_L 86 y_L_pass (Cond.codeWith y_L_pass b_L_pass 6 (some .int) [(0, 12, 15, 19), (0, 12, 19, 21), (0, 12, 23, 13)] :: tb)) := jk_goodH k_277 k_278 k_267 k_279
theorem g_L_89 : GoodIn tb (wsV R_L 89 R_M y_M_pass (Cond.code y_M_pass b_M_pass 5 (some .int) :: tb)) := jk_goodV k_280 k_281 k_282 k_115 k_283
theorem g_L_90 : GoodIn tb (va_wsS R_L 90 y_L_weight (Cond.codeWith y_L_weight b_L_weight 5 (some .int) [(0, 10, 13, 19), (0, 10, 17, 21)] :: tb)) := jk_goodH k_284 k_285 k_267 k_286
theorem g_L_93 : GoodIn tb (wsV R_L 93 R_M y_M_weight (Cond.code y_M_weight b_M_weight 4 (some .int) :: tb)) := jk_goodV k_287 k_288 k_289 k_115 k_290
theorem g_L_94 : GoodIn tb (va_wsS R_L 94 y_L_shift (Cond.codeWith y_L_shift b_L_shift 5 (some .int) [(0, 10, 13, 19), (0, 10, 17, 21)] :: tb)) := jk_goodH k_291 k_292 k_267 k_293
theorem g_L_96 : GoodIn tb (wsV R_L 96 R_M y_M_shift (Cond.code y_M_shift b_M_shift 4 (some .int) :: tb)) := jk_goodV k_294 k_295 k_296 k_115 k_297
theorem g_L_97 : GoodIn tb (va_wsS R_L 97 y_L_size (Cond.codeWith y_L_size b_L_size 5 (some .int) [(0, 10, 13, 19), (0, 10, 17, 21)] :: tb)) := jk_goodH k_298 k_299 k_267 k_300
theorem g_L_99 : GoodIn tb (wsV R_L 99 R_M y_M_size (Cond.code y_M_size b_M_size 4 (some .int) :: tb)) := jk_goodV k_301 k_302 k_303 k_115 k_304
theorem g_L_100 : GoodIn tb (va_wsS R_L 100 y_L_head (Cond.codeWith y_L_head b_L_head 5 (some .int) [(0, 10, 13, 19), (0, 10, 17, 21)] :: tb)) := jk_goodH k_305 k_306 k_267 k_307
theorem g_L_102 : GoodIn tb (wsV R_L 102 R_M y_M_head (Cond.code y_M_head b_M_head 4 (some .int) :: tb)) := jk_goodV k_308 k_309 k_310 k_115 k_311
theorem g_L_103 : GoodIn tb (wsV R_L 103 R_X y_X_run (Cond.code y_X_run b_X_run 4 (some .int) :: tb)) := jk_goodV k_312 k_313 k_314 k_12 k_315
theorem g_L_106 : GoodIn tb (wsV R_L 106 R_M y_M_run (Cond.code y_M_run b_M_run 5 (some .int) :: tb)) := jk_goodV k_316 k_317 k_318 k_115 k_319
theorem g_L_107 : GoodIn tb (va_wsS R_L 107 y_L_hull (Cond.codeWith y_L_hull b_L_hull 5 (some .int) [(0, 17, 20, 19)] :: tb)) := jk_goodH k_320 k_321 k_267 k_322
theorem g_L_109 : GoodIn tb (wsV R_L 109 R_M y_M_hull (Cond.code y_M_hull b_M_hull 3 (some .boolean) :: tb)) := jk_goodV k_323 k_324 k_325 k_115 k_326
theorem g_L_110 : GoodIn tb (va_wsS R_L 110 y_L_slope (Cond.codeWith y_L_slope b_L_slope 6 (some .int) [(0, 11, 14, 19)] :: tb)) := jk_goodH k_327 k_328 k_267 k_329
theorem g_L_113 : GoodIn tb (wsV R_L 113 R_M y_M_slope (Cond.code y_M_slope b_M_slope 4 (some .long) :: tb)) := jk_goodV k_330 k_331 k_332 k_115 k_333
theorem g_L_114 : GoodIn tb (wsV R_L 114 R_X y_X_row (Cond.code y_X_row b_X_row 1 (some .int) :: tb)) := jk_goodV k_334 k_335 k_336 k_12 k_337
theorem g_L_117 : GoodIn tb (wsV R_L 117 R_M y_M_row (Cond.code y_M_row b_M_row 1 (some .int) :: tb)) := jk_goodV k_338 k_339 k_340 k_115 k_341
theorem g_L_118 : GoodIn tb (va_wsS R_L 118 y_L_at (Cond.codeWith y_L_at b_L_at 5 (some .int) [(0, 10, 13, 19), (0, 10, 17, 21), (0, 10, 21, 47)] :: tb)) := jk_goodH k_342 k_343 k_267 k_344
theorem g_L_120 : GoodIn tb (wsV R_L 120 R_M y_M_at (Cond.code y_M_at b_M_at 4 (some .int) :: tb)) := jk_goodV k_345 k_346 k_347 k_115 k_348
theorem g_L_121 : GoodIn tb (va_wsS R_L 121 y_L_passes (Cond.codeWith y_L_passes b_L_passes 5 (some .int) [(0, 10, 13, 47), (0, 10, 17, 19)] :: tb)) := jk_goodH k_349 k_350 k_267 k_351
theorem g_L_123 : GoodIn tb (wsV R_L 123 R_M y_M_passes (Cond.code y_M_passes b_M_passes 3 (some .int) :: tb)) := jk_goodV k_352 k_353 k_354 k_115 k_355
theorem g_L_124 : GoodIn tb (va_wsS R_L 124 y_L_bytes (Cond.codeWith y_L_bytes b_L_bytes 4 (some .int) [(0, 9, 12, 47), (0, 9, 15, 19)] :: tb)) := jk_goodH k_356 k_357 k_267 k_358
theorem g_L_127 : GoodIn tb (wsV R_L 127 R_M y_M_bytes (Cond.code y_M_bytes b_M_bytes 4 (some .int) :: tb)) := jk_goodV k_359 k_360 k_361 k_115 k_362
theorem g_L_128 : GoodIn tb (va_wsS R_L 128 y_L_gained (Cond.codeWith y_L_gained b_L_gained 4 (some .int) [(0, 8, 11, 47), (0, 8, 14, 19)] :: tb)) := jk_goodH k_363 k_364 k_267 k_365
theorem g_L_130 : GoodIn tb (wsV R_L 130 R_M y_M_gained (Cond.code y_M_gained b_M_gained 5 (some .long) :: tb)) := jk_goodV k_366 k_367 k_368 k_115 k_369
theorem g_L_131 : GoodIn tb (va_wsS R_L 131 y_L_least (Cond.codeWith y_L_least b_L_least 4 (some .int) [(0, 9, 12, 21)] :: tb)) := jk_goodH k_370 k_371 k_267 k_372
theorem g_L_133 : GoodIn tb (wsV R_L 133 R_M y_M_least (Cond.code y_M_least b_M_least 4 (some .int) :: tb)) := jk_goodV k_373 k_374 k_375 k_115 k_376
theorem g_L_136 : GoodIn tb (va_wsS R_L 136 y_L_above (Cond.codeWith y_L_above b_L_above 6 (some .int) [(0, 11, 14, 21)] :: tb)) := jk_goodH k_378 k_379 k_267 k_380
theorem g_L_139 : GoodIn tb (wsV R_L 139 R_M y_M_above (Cond.code y_M_above b_M_above 5 (some .int) :: tb)) := jk_goodV k_381 k_382 k_383 k_115 k_384
theorem g_L_140 : GoodIn tb (wsV R_L 140 R_X y_X_told (Cond.code y_X_told b_X_told 2 (some .int) :: tb)) := jk_goodV k_385 k_386 k_387 k_12 k_388
theorem g_L_143 : GoodIn tb (wsV R_L 143 R_M y_M_told (Cond.code y_M_told b_M_told 4 (some .int) :: tb)) := jk_goodV k_389 k_390 k_391 k_115 k_392
theorem g_L_144 : GoodIn tb (wsV R_L 144 R_X y_X_clear (Cond.code y_X_clear b_X_clear 2 none :: tb)) := jk_goodV k_393 k_394 k_395 k_12 k_396
theorem g_L_147 : GoodIn tb (wsV R_L 147 R_M y_M_clear (Cond.code y_M_clear b_M_clear 2 none :: tb)) := jk_goodV k_397 k_398 k_399 k_115 k_400
theorem hdV_X_needBlock : y_X_needBlock.cls = R_X ∧ y_X_needBlock.cls ≠ "java/lang/invoke/MethodHandle" ∧ y_X_needBlock.cls ≠ "java/lang/invoke/VarHandle" ∧ (parseMethodDescriptor y_X_needBlock.desc).map (fun d => d.parameters.length) = some 1 := by decide +kernel
theorem hdS_X_needWithin : y_X_needWithin.cls ≠ "java/lang/invoke/MethodHandle" ∧ y_X_needWithin.cls ≠ "java/lang/invoke/VarHandle" ∧ (parseMethodDescriptor y_X_needWithin.desc).map (fun d => d.parameters.length) = some 3 := by decide +kernel
theorem hdS_X_startOf : y_X_startOf.cls ≠ "java/lang/invoke/MethodHandle" ∧ y_X_startOf.cls ≠ "java/lang/invoke/VarHandle" ∧ (parseMethodDescriptor y_X_startOf.desc).map (fun d => d.parameters.length) = some 1 := by decide +kernel
theorem hdS_X_blockOf : y_X_blockOf.cls ≠ "java/lang/invoke/MethodHandle" ∧ y_X_blockOf.cls ≠ "java/lang/invoke/VarHandle" ∧ (parseMethodDescriptor y_X_blockOf.desc).map (fun d => d.parameters.length) = some 1 := by decide +kernel
theorem hdV_X_takeFromRow : y_X_takeFromRow.cls = R_X ∧ y_X_takeFromRow.cls ≠ "java/lang/invoke/MethodHandle" ∧ y_X_takeFromRow.cls ≠ "java/lang/invoke/VarHandle" ∧ (parseMethodDescriptor y_X_takeFromRow.desc).map (fun d => d.parameters.length) = some 1 := by decide +kernel
theorem hdV_X_steepestFrom : y_X_steepestFrom.cls = R_X ∧ y_X_steepestFrom.cls ≠ "java/lang/invoke/MethodHandle" ∧ y_X_steepestFrom.cls ≠ "java/lang/invoke/VarHandle" ∧ (parseMethodDescriptor y_X_steepestFrom.desc).map (fun d => d.parameters.length) = some 2 := by decide +kernel
theorem hdV_X_makeHull : y_X_makeHull.cls = R_X ∧ y_X_makeHull.cls ≠ "java/lang/invoke/MethodHandle" ∧ y_X_makeHull.cls ≠ "java/lang/invoke/VarHandle" ∧ (parseMethodDescriptor y_X_makeHull.desc).map (fun d => d.parameters.length) = some 1 := by decide +kernel
theorem hdS_JL_compare : y_JL_compare.cls ≠ "java/lang/invoke/MethodHandle" ∧ y_JL_compare.cls ≠ "java/lang/invoke/VarHandle" ∧ (parseMethodDescriptor y_JL_compare.desc).map (fun d => d.parameters.length) = some 2 := by decide +kernel
theorem hdV_X_compareSlopes : y_X_compareSlopes.cls = R_X ∧ y_X_compareSlopes.cls ≠ "java/lang/invoke/MethodHandle" ∧ y_X_compareSlopes.cls ≠ "java/lang/invoke/VarHandle" ∧ (parseMethodDescriptor y_X_compareSlopes.desc).map (fun d => d.parameters.length) = some 2 := by decide +kernel
theorem hdV_X_comesBefore : y_X_comesBefore.cls = R_X ∧ y_X_comesBefore.cls ≠ "java/lang/invoke/MethodHandle" ∧ y_X_comesBefore.cls ≠ "java/lang/invoke/VarHandle" ∧ (parseMethodDescriptor y_X_comesBefore.desc).map (fun d => d.parameters.length) = some 2 := by decide +kernel
theorem hdV_X_mergeIntoRow : y_X_mergeIntoRow.cls = R_X ∧ y_X_mergeIntoRow.cls ≠ "java/lang/invoke/MethodHandle" ∧ y_X_mergeIntoRow.cls ≠ "java/lang/invoke/VarHandle" ∧ (parseMethodDescriptor y_X_mergeIntoRow.desc).map (fun d => d.parameters.length) = some 2 := by decide +kernel
theorem hdV_X_renewBlock : y_X_renewBlock.cls = R_X ∧ y_X_renewBlock.cls ≠ "java/lang/invoke/MethodHandle" ∧ y_X_renewBlock.cls ≠ "java/lang/invoke/VarHandle" ∧ (parseMethodDescriptor y_X_renewBlock.desc).map (fun d => d.parameters.length) = some 1 := by decide +kernel
theorem hdV_X_needLayer : y_X_needLayer.cls = R_X ∧ y_X_needLayer.cls ≠ "java/lang/invoke/MethodHandle" ∧ y_X_needLayer.cls ≠ "java/lang/invoke/VarHandle" ∧ (parseMethodDescriptor y_X_needLayer.desc).map (fun d => d.parameters.length) = some 1 := by decide +kernel
theorem hdV_X_tellLayer : y_X_tellLayer.cls = R_X ∧ y_X_tellLayer.cls ≠ "java/lang/invoke/MethodHandle" ∧ y_X_tellLayer.cls ≠ "java/lang/invoke/VarHandle" ∧ (parseMethodDescriptor y_X_tellLayer.desc).map (fun d => d.parameters.length) = some 3 := by decide +kernel
theorem hdV_X_fillLayer : y_X_fillLayer.cls = R_X ∧ y_X_fillLayer.cls ≠ "java/lang/invoke/MethodHandle" ∧ y_X_fillLayer.cls ≠ "java/lang/invoke/VarHandle" ∧ (parseMethodDescriptor y_X_fillLayer.desc).map (fun d => d.parameters.length) = some 2 := by decide +kernel
theorem hdV_X_pointOf : y_X_pointOf.cls = R_X ∧ y_X_pointOf.cls ≠ "java/lang/invoke/MethodHandle" ∧ y_X_pointOf.cls ≠ "java/lang/invoke/VarHandle" ∧ (parseMethodDescriptor y_X_pointOf.desc).map (fun d => d.parameters.length) = some 2 := by decide +kernel
theorem hdS_X_passesUpTo : y_X_passesUpTo.cls ≠ "java/lang/invoke/MethodHandle" ∧ y_X_passesUpTo.cls ≠ "java/lang/invoke/VarHandle" ∧ (parseMethodDescriptor y_X_passesUpTo.desc).map (fun d => d.parameters.length) = some 1 := by decide +kernel
theorem hdV_X_countSameSlope : y_X_countSameSlope.cls = R_X ∧ y_X_countSameSlope.cls ≠ "java/lang/invoke/MethodHandle" ∧ y_X_countSameSlope.cls ≠ "java/lang/invoke/VarHandle" ∧ (parseMethodDescriptor y_X_countSameSlope.desc).map (fun d => d.parameters.length) = some 1 := by decide +kernel
theorem hdV_X_needShared : y_X_needShared.cls = R_X ∧ y_X_needShared.cls ≠ "java/lang/invoke/MethodHandle" ∧ y_X_needShared.cls ≠ "java/lang/invoke/VarHandle" ∧ (parseMethodDescriptor y_X_needShared.desc).map (fun d => d.parameters.length) = some 0 := by decide +kernel
theorem hdV_X_layerOf : y_X_layerOf.cls = R_X ∧ y_X_layerOf.cls ≠ "java/lang/invoke/MethodHandle" ∧ y_X_layerOf.cls ≠ "java/lang/invoke/VarHandle" ∧ (parseMethodDescriptor y_X_layerOf.desc).map (fun d => d.parameters.length) = some 1 := by decide +kernel
theorem hdV_M_isBlock : y_M_isBlock.cls = R_M ∧ y_M_isBlock.cls ≠ "java/lang/invoke/MethodHandle" ∧ y_M_isBlock.cls ≠ "java/lang/invoke/VarHandle" ∧ (parseMethodDescriptor y_M_isBlock.desc).map (fun d => d.parameters.length) = some 1 := by decide +kernel
theorem hdV_M_fails : y_M_fails.cls = R_M ∧ y_M_fails.cls ≠ "java/lang/invoke/MethodHandle" ∧ y_M_fails.cls ≠ "java/lang/invoke/VarHandle" ∧ (parseMethodDescriptor y_M_fails.desc).map (fun d => d.parameters.length) = some 2 := by decide +kernel
theorem hdV_M_spoil : y_M_spoil.cls = R_M ∧ y_M_spoil.cls ≠ "java/lang/invoke/MethodHandle" ∧ y_M_spoil.cls ≠ "java/lang/invoke/VarHandle" ∧ (parseMethodDescriptor y_M_spoil.desc).map (fun d => d.parameters.length) = some 0 := by decide +kernel
theorem hdS_M_within : y_M_within.cls ≠ "java/lang/invoke/MethodHandle" ∧ y_M_within.cls ≠ "java/lang/invoke/VarHandle" ∧ (parseMethodDescriptor y_M_within.desc).map (fun d => d.parameters.length) = some 3 := by decide +kernel
theorem hdV_M_isLayer : y_M_isLayer.cls = R_M ∧ y_M_isLayer.cls ≠ "java/lang/invoke/MethodHandle" ∧ y_M_isLayer.cls ≠ "java/lang/invoke/VarHandle" ∧ (parseMethodDescriptor y_M_isLayer.desc).map (fun d => d.parameters.length) = some 1 := by decide +kernel
theorem hdV_M_g : y_M_g.cls = R_M ∧ y_M_g.cls ≠ "java/lang/invoke/MethodHandle" ∧ y_M_g.cls ≠ "java/lang/invoke/VarHandle" ∧ (parseMethodDescriptor y_M_g.desc).map (fun d => d.parameters.length) = some 2 := by decide +kernel
theorem hdV_M_l : y_M_l.cls = R_M ∧ y_M_l.cls ≠ "java/lang/invoke/MethodHandle" ∧ y_M_l.cls ≠ "java/lang/invoke/VarHandle" ∧ (parseMethodDescriptor y_M_l.desc).map (fun d => d.parameters.length) = some 2 := by decide +kernel
theorem hdV_M_isHull : y_M_isHull.cls = R_M ∧ y_M_isHull.cls ≠ "java/lang/invoke/MethodHandle" ∧ y_M_isHull.cls ≠ "java/lang/invoke/VarHandle" ∧ (parseMethodDescriptor y_M_isHull.desc).map (fun d => d.parameters.length) = some 2 := by decide +kernel
theorem hdV_M_isBefore : y_M_isBefore.cls = R_M ∧ y_M_isBefore.cls ≠ "java/lang/invoke/MethodHandle" ∧ y_M_isBefore.cls ≠ "java/lang/invoke/VarHandle" ∧ (parseMethodDescriptor y_M_isBefore.desc).map (fun d => d.parameters.length) = some 2 := by decide +kernel
theorem hdV_M_layRow : y_M_layRow.cls = R_M ∧ y_M_layRow.cls ≠ "java/lang/invoke/MethodHandle" ∧ y_M_layRow.cls ≠ "java/lang/invoke/VarHandle" ∧ (parseMethodDescriptor y_M_layRow.desc).map (fun d => d.parameters.length) = some 0 := by decide +kernel
theorem hdV_M_isPass : y_M_isPass.cls = R_M ∧ y_M_isPass.cls ≠ "java/lang/invoke/MethodHandle" ∧ y_M_isPass.cls ≠ "java/lang/invoke/VarHandle" ∧ (parseMethodDescriptor y_M_isPass.desc).map (fun d => d.parameters.length) = some 2 := by decide +kernel
theorem hdV_M_layerOf : y_M_layerOf.cls = R_M ∧ y_M_layerOf.cls ≠ "java/lang/invoke/MethodHandle" ∧ y_M_layerOf.cls ≠ "java/lang/invoke/VarHandle" ∧ (parseMethodDescriptor y_M_layerOf.desc).map (fun d => d.parameters.length) = some 1 := by decide +kernel
theorem hdV_M_alike : y_M_alike.cls = R_M ∧ y_M_alike.cls ≠ "java/lang/invoke/MethodHandle" ∧ y_M_alike.cls ≠ "java/lang/invoke/VarHandle" ∧ (parseMethodDescriptor y_M_alike.desc).map (fun d => d.parameters.length) = some 1 := by decide +kernel
theorem hdV_M_last : y_M_last.cls = R_M ∧ y_M_last.cls ≠ "java/lang/invoke/MethodHandle" ∧ y_M_last.cls ≠ "java/lang/invoke/VarHandle" ∧ (parseMethodDescriptor y_M_last.desc).map (fun d => d.parameters.length) = some 2 := by decide +kernel
theorem hdV_X_block : y_X_block.cls = R_X ∧ y_X_block.cls ≠ "java/lang/invoke/MethodHandle" ∧ y_X_block.cls ≠ "java/lang/invoke/VarHandle" ∧ (parseMethodDescriptor y_X_block.desc).map (fun d => d.parameters.length) = some 0 := by decide +kernel
theorem hdV_X_pass : y_X_pass.cls = R_X ∧ y_X_pass.cls ≠ "java/lang/invoke/MethodHandle" ∧ y_X_pass.cls ≠ "java/lang/invoke/VarHandle" ∧ (parseMethodDescriptor y_X_pass.desc).map (fun d => d.parameters.length) = some 3 := by decide +kernel
theorem hdV_X_weight : y_X_weight.cls = R_X ∧ y_X_weight.cls ≠ "java/lang/invoke/MethodHandle" ∧ y_X_weight.cls ≠ "java/lang/invoke/VarHandle" ∧ (parseMethodDescriptor y_X_weight.desc).map (fun d => d.parameters.length) = some 2 := by decide +kernel
theorem hdV_X_shift : y_X_shift.cls = R_X ∧ y_X_shift.cls ≠ "java/lang/invoke/MethodHandle" ∧ y_X_shift.cls ≠ "java/lang/invoke/VarHandle" ∧ (parseMethodDescriptor y_X_shift.desc).map (fun d => d.parameters.length) = some 2 := by decide +kernel
theorem hdV_X_size : y_X_size.cls = R_X ∧ y_X_size.cls ≠ "java/lang/invoke/MethodHandle" ∧ y_X_size.cls ≠ "java/lang/invoke/VarHandle" ∧ (parseMethodDescriptor y_X_size.desc).map (fun d => d.parameters.length) = some 2 := by decide +kernel
theorem hdV_X_head : y_X_head.cls = R_X ∧ y_X_head.cls ≠ "java/lang/invoke/MethodHandle" ∧ y_X_head.cls ≠ "java/lang/invoke/VarHandle" ∧ (parseMethodDescriptor y_X_head.desc).map (fun d => d.parameters.length) = some 2 := by decide +kernel
theorem hdV_X_hull : y_X_hull.cls = R_X ∧ y_X_hull.cls ≠ "java/lang/invoke/MethodHandle" ∧ y_X_hull.cls ≠ "java/lang/invoke/VarHandle" ∧ (parseMethodDescriptor y_X_hull.desc).map (fun d => d.parameters.length) = some 2 := by decide +kernel
theorem hdV_X_slope : y_X_slope.cls = R_X ∧ y_X_slope.cls ≠ "java/lang/invoke/MethodHandle" ∧ y_X_slope.cls ≠ "java/lang/invoke/VarHandle" ∧ (parseMethodDescriptor y_X_slope.desc).map (fun d => d.parameters.length) = some 3 := by decide +kernel
theorem hdV_X_at : y_X_at.cls = R_X ∧ y_X_at.cls ≠ "java/lang/invoke/MethodHandle" ∧ y_X_at.cls ≠ "java/lang/invoke/VarHandle" ∧ (parseMethodDescriptor y_X_at.desc).map (fun d => d.parameters.length) = some 2 := by decide +kernel
theorem hdV_X_passes : y_X_passes.cls = R_X ∧ y_X_passes.cls ≠ "java/lang/invoke/MethodHandle" ∧ y_X_passes.cls ≠ "java/lang/invoke/VarHandle" ∧ (parseMethodDescriptor y_X_passes.desc).map (fun d => d.parameters.length) = some 2 := by decide +kernel
theorem hdV_X_bytes : y_X_bytes.cls = R_X ∧ y_X_bytes.cls ≠ "java/lang/invoke/MethodHandle" ∧ y_X_bytes.cls ≠ "java/lang/invoke/VarHandle" ∧ (parseMethodDescriptor y_X_bytes.desc).map (fun d => d.parameters.length) = some 1 := by decide +kernel
theorem hdV_X_gained : y_X_gained.cls = R_X ∧ y_X_gained.cls ≠ "java/lang/invoke/MethodHandle" ∧ y_X_gained.cls ≠ "java/lang/invoke/VarHandle" ∧ (parseMethodDescriptor y_X_gained.desc).map (fun d => d.parameters.length) = some 1 := by decide +kernel
theorem hdV_X_least : y_X_least.cls = R_X ∧ y_X_least.cls ≠ "java/lang/invoke/MethodHandle" ∧ y_X_least.cls ≠ "java/lang/invoke/VarHandle" ∧ (parseMethodDescriptor y_X_least.desc).map (fun d => d.parameters.length) = some 1 := by decide +kernel
theorem hdV_X_above : y_X_above.cls = R_X ∧ y_X_above.cls ≠ "java/lang/invoke/MethodHandle" ∧ y_X_above.cls ≠ "java/lang/invoke/VarHandle" ∧ (parseMethodDescriptor y_X_above.desc).map (fun d => d.parameters.length) = some 2 := by decide +kernel
theorem hdS_L_block : y_L_block.cls ≠ "java/lang/invoke/MethodHandle" ∧ y_L_block.cls ≠ "java/lang/invoke/VarHandle" ∧ (parseMethodDescriptor y_L_block.desc).map (fun d => d.parameters.length) = some 2 := by decide +kernel
theorem hdV_M_block : y_M_block.cls = R_M ∧ y_M_block.cls ≠ "java/lang/invoke/MethodHandle" ∧ y_M_block.cls ≠ "java/lang/invoke/VarHandle" ∧ (parseMethodDescriptor y_M_block.desc).map (fun d => d.parameters.length) = some 0 := by decide +kernel
theorem hdV_M_thrown : y_M_thrown.cls = R_M ∧ y_M_thrown.cls ≠ "java/lang/invoke/MethodHandle" ∧ y_M_thrown.cls ≠ "java/lang/invoke/VarHandle" ∧ (parseMethodDescriptor y_M_thrown.desc).map (fun d => d.parameters.length) = some 0 := by decide +kernel
theorem hdS_L_pass : y_L_pass.cls ≠ "java/lang/invoke/MethodHandle" ∧ y_L_pass.cls ≠ "java/lang/invoke/VarHandle" ∧ (parseMethodDescriptor y_L_pass.desc).map (fun d => d.parameters.length) = some 5 := by decide +kernel
theorem hdV_M_pass : y_M_pass.cls = R_M ∧ y_M_pass.cls ≠ "java/lang/invoke/MethodHandle" ∧ y_M_pass.cls ≠ "java/lang/invoke/VarHandle" ∧ (parseMethodDescriptor y_M_pass.desc).map (fun d => d.parameters.length) = some 3 := by decide +kernel
theorem hdS_L_weight : y_L_weight.cls ≠ "java/lang/invoke/MethodHandle" ∧ y_L_weight.cls ≠ "java/lang/invoke/VarHandle" ∧ (parseMethodDescriptor y_L_weight.desc).map (fun d => d.parameters.length) = some 4 := by decide +kernel
theorem hdV_M_weight : y_M_weight.cls = R_M ∧ y_M_weight.cls ≠ "java/lang/invoke/MethodHandle" ∧ y_M_weight.cls ≠ "java/lang/invoke/VarHandle" ∧ (parseMethodDescriptor y_M_weight.desc).map (fun d => d.parameters.length) = some 2 := by decide +kernel
theorem hdS_L_shift : y_L_shift.cls ≠ "java/lang/invoke/MethodHandle" ∧ y_L_shift.cls ≠ "java/lang/invoke/VarHandle" ∧ (parseMethodDescriptor y_L_shift.desc).map (fun d => d.parameters.length) = some 4 := by decide +kernel
theorem hdV_M_shift : y_M_shift.cls = R_M ∧ y_M_shift.cls ≠ "java/lang/invoke/MethodHandle" ∧ y_M_shift.cls ≠ "java/lang/invoke/VarHandle" ∧ (parseMethodDescriptor y_M_shift.desc).map (fun d => d.parameters.length) = some 2 := by decide +kernel
theorem hdS_L_size : y_L_size.cls ≠ "java/lang/invoke/MethodHandle" ∧ y_L_size.cls ≠ "java/lang/invoke/VarHandle" ∧ (parseMethodDescriptor y_L_size.desc).map (fun d => d.parameters.length) = some 4 := by decide +kernel
theorem hdV_M_size : y_M_size.cls = R_M ∧ y_M_size.cls ≠ "java/lang/invoke/MethodHandle" ∧ y_M_size.cls ≠ "java/lang/invoke/VarHandle" ∧ (parseMethodDescriptor y_M_size.desc).map (fun d => d.parameters.length) = some 2 := by decide +kernel
theorem hdS_L_head : y_L_head.cls ≠ "java/lang/invoke/MethodHandle" ∧ y_L_head.cls ≠ "java/lang/invoke/VarHandle" ∧ (parseMethodDescriptor y_L_head.desc).map (fun d => d.parameters.length) = some 4 := by decide +kernel
theorem hdV_M_head : y_M_head.cls = R_M ∧ y_M_head.cls ≠ "java/lang/invoke/MethodHandle" ∧ y_M_head.cls ≠ "java/lang/invoke/VarHandle" ∧ (parseMethodDescriptor y_M_head.desc).map (fun d => d.parameters.length) = some 2 := by decide +kernel
theorem hdV_X_run : y_X_run.cls = R_X ∧ y_X_run.cls ≠ "java/lang/invoke/MethodHandle" ∧ y_X_run.cls ≠ "java/lang/invoke/VarHandle" ∧ (parseMethodDescriptor y_X_run.desc).map (fun d => d.parameters.length) = some 0 := by decide +kernel
theorem hdV_M_run : y_M_run.cls = R_M ∧ y_M_run.cls ≠ "java/lang/invoke/MethodHandle" ∧ y_M_run.cls ≠ "java/lang/invoke/VarHandle" ∧ (parseMethodDescriptor y_M_run.desc).map (fun d => d.parameters.length) = some 0 := by decide +kernel
theorem hdS_L_hull : y_L_hull.cls ≠ "java/lang/invoke/MethodHandle" ∧ y_L_hull.cls ≠ "java/lang/invoke/VarHandle" ∧ (parseMethodDescriptor y_L_hull.desc).map (fun d => d.parameters.length) = some 4 := by decide +kernel
theorem hdV_M_hull : y_M_hull.cls = R_M ∧ y_M_hull.cls ≠ "java/lang/invoke/MethodHandle" ∧ y_M_hull.cls ≠ "java/lang/invoke/VarHandle" ∧ (parseMethodDescriptor y_M_hull.desc).map (fun d => d.parameters.length) = some 2 := by decide +kernel
theorem hdS_L_slope : y_L_slope.cls ≠ "java/lang/invoke/MethodHandle" ∧ y_L_slope.cls ≠ "java/lang/invoke/VarHandle" ∧ (parseMethodDescriptor y_L_slope.desc).map (fun d => d.parameters.length) = some 5 := by decide +kernel
theorem hdV_M_slope : y_M_slope.cls = R_M ∧ y_M_slope.cls ≠ "java/lang/invoke/MethodHandle" ∧ y_M_slope.cls ≠ "java/lang/invoke/VarHandle" ∧ (parseMethodDescriptor y_M_slope.desc).map (fun d => d.parameters.length) = some 3 := by decide +kernel
theorem hdV_X_row : y_X_row.cls = R_X ∧ y_X_row.cls ≠ "java/lang/invoke/MethodHandle" ∧ y_X_row.cls ≠ "java/lang/invoke/VarHandle" ∧ (parseMethodDescriptor y_X_row.desc).map (fun d => d.parameters.length) = some 0 := by decide +kernel
theorem hdV_M_row : y_M_row.cls = R_M ∧ y_M_row.cls ≠ "java/lang/invoke/MethodHandle" ∧ y_M_row.cls ≠ "java/lang/invoke/VarHandle" ∧ (parseMethodDescriptor y_M_row.desc).map (fun d => d.parameters.length) = some 0 := by decide +kernel
theorem hdS_L_at : y_L_at.cls ≠ "java/lang/invoke/MethodHandle" ∧ y_L_at.cls ≠ "java/lang/invoke/VarHandle" ∧ (parseMethodDescriptor y_L_at.desc).map (fun d => d.parameters.length) = some 4 := by decide +kernel
theorem hdV_M_at : y_M_at.cls = R_M ∧ y_M_at.cls ≠ "java/lang/invoke/MethodHandle" ∧ y_M_at.cls ≠ "java/lang/invoke/VarHandle" ∧ (parseMethodDescriptor y_M_at.desc).map (fun d => d.parameters.length) = some 2 := by decide +kernel
theorem hdS_L_passes : y_L_passes.cls ≠ "java/lang/invoke/MethodHandle" ∧ y_L_passes.cls ≠ "java/lang/invoke/VarHandle" ∧ (parseMethodDescriptor y_L_passes.desc).map (fun d => d.parameters.length) = some 4 := by decide +kernel
theorem hdV_M_passes : y_M_passes.cls = R_M ∧ y_M_passes.cls ≠ "java/lang/invoke/MethodHandle" ∧ y_M_passes.cls ≠ "java/lang/invoke/VarHandle" ∧ (parseMethodDescriptor y_M_passes.desc).map (fun d => d.parameters.length) = some 2 := by decide +kernel
theorem hdS_L_bytes : y_L_bytes.cls ≠ "java/lang/invoke/MethodHandle" ∧ y_L_bytes.cls ≠ "java/lang/invoke/VarHandle" ∧ (parseMethodDescriptor y_L_bytes.desc).map (fun d => d.parameters.length) = some 3 := by decide +kernel
theorem hdV_M_bytes : y_M_bytes.cls = R_M ∧ y_M_bytes.cls ≠ "java/lang/invoke/MethodHandle" ∧ y_M_bytes.cls ≠ "java/lang/invoke/VarHandle" ∧ (parseMethodDescriptor y_M_bytes.desc).map (fun d => d.parameters.length) = some 1 := by decide +kernel
theorem hdS_L_gained : y_L_gained.cls ≠ "java/lang/invoke/MethodHandle" ∧ y_L_gained.cls ≠ "java/lang/invoke/VarHandle" ∧ (parseMethodDescriptor y_L_gained.desc).map (fun d => d.parameters.length) = some 3 := by decide +kernel
theorem hdV_M_gained : y_M_gained.cls = R_M ∧ y_M_gained.cls ≠ "java/lang/invoke/MethodHandle" ∧ y_M_gained.cls ≠ "java/lang/invoke/VarHandle" ∧ (parseMethodDescriptor y_M_gained.desc).map (fun d => d.parameters.length) = some 1 := by decide +kernel
theorem hdS_L_least : y_L_least.cls ≠ "java/lang/invoke/MethodHandle" ∧ y_L_least.cls ≠ "java/lang/invoke/VarHandle" ∧ (parseMethodDescriptor y_L_least.desc).map (fun d => d.parameters.length) = some 3 := by decide +kernel
theorem hdV_M_least : y_M_least.cls = R_M ∧ y_M_least.cls ≠ "java/lang/invoke/MethodHandle" ∧ y_M_least.cls ≠ "java/lang/invoke/VarHandle" ∧ (parseMethodDescriptor y_M_least.desc).map (fun d => d.parameters.length) = some 1 := by decide +kernel
theorem hdS_L_above : y_L_above.cls ≠ "java/lang/invoke/MethodHandle" ∧ y_L_above.cls ≠ "java/lang/invoke/VarHandle" ∧ (parseMethodDescriptor y_L_above.desc).map (fun d => d.parameters.length) = some 4 := by decide +kernel
theorem hdV_M_above : y_M_above.cls = R_M ∧ y_M_above.cls ≠ "java/lang/invoke/MethodHandle" ∧ y_M_above.cls ≠ "java/lang/invoke/VarHandle" ∧ (parseMethodDescriptor y_M_above.desc).map (fun d => d.parameters.length) = some 2 := by decide +kernel
theorem hdV_X_told : y_X_told.cls = R_X ∧ y_X_told.cls ≠ "java/lang/invoke/MethodHandle" ∧ y_X_told.cls ≠ "java/lang/invoke/VarHandle" ∧ (parseMethodDescriptor y_X_told.desc).map (fun d => d.parameters.length) = some 1 := by decide +kernel
theorem hdV_M_told : y_M_told.cls = R_M ∧ y_M_told.cls ≠ "java/lang/invoke/MethodHandle" ∧ y_M_told.cls ≠ "java/lang/invoke/VarHandle" ∧ (parseMethodDescriptor y_M_told.desc).map (fun d => d.parameters.length) = some 1 := by decide +kernel
theorem hdV_X_clear : y_X_clear.cls = R_X ∧ y_X_clear.cls ≠ "java/lang/invoke/MethodHandle" ∧ y_X_clear.cls ≠ "java/lang/invoke/VarHandle" ∧ (parseMethodDescriptor y_X_clear.desc).map (fun d => d.parameters.length) = some 0 := by decide +kernel
theorem hdV_M_clear : y_M_clear.cls = R_M ∧ y_M_clear.cls ≠ "java/lang/invoke/MethodHandle" ∧ y_M_clear.cls ≠ "java/lang/invoke/VarHandle" ∧ (parseMethodDescriptor y_M_clear.desc).map (fun d => d.parameters.length) = some 0 := by decide +kernel
