/-- a method with a table, that catches all: it returns an int -/
def jh_i (l : Launch) (G : va_G) (tys : List (ClassId × FieldType)) (y : MethodName) (b : ByteArray) (maxL : Nat) (hh : List (Nat × Nat × Nat × Nat)) (rm : Room) (vs : List Value) (ws : va_W) {S : Type} (wf : S → va_W) (post : Int32 → S → Prop) : Prop := ∀ sz : Nat, Met l y (Cond.codeWith y b maxL (some .int) hh :: tb) rm (va_Pc vs (fun U => jk_P G tys ws sz U ∧ jk_Z (va_A ws sz) U)) (va_Qi post (jk_B G tys (va_A ws sz) wf) (va_A ws sz)) rm.cells rm.slots (va_A ws sz)
def jk_Ch (κ : jk_K) (hh : List (Nat × Nat × Nat × Nat)) : Prop := (jk_l κ).stackTraces = false ∧ (jk_c κ).exceptionTable.toList = tableOf hh ∧ jk_Z (jk_A κ) (jk_s κ)
theorem jh_open_i {l : Launch} {G : va_G} {tys : List (ClassId × FieldType)} {y : MethodName} {b : ByteArray} {maxL : Nat} {hh : List (Nat × Nat × Nat × Nat)} {rm : Room} {vs : List Value} {ws : va_W} {S : Type} {wf : S → va_W} {post : Int32 → S → Prop} (hlt : l.stackTraces = false) (hy : plainName y.cls = true) (hvs : (lg_sl vs).length ≤ maxL)
    (body : ∀ κ : jk_K, jk_l κ = l → jk_G κ = G → jk_C κ b y.cls rm maxL tys → jk_Ch κ hh → jk_E κ (some .int) (va_Qi post (jk_B (jk_G κ) tys (jk_A κ) wf) (jk_A κ)) rm.cells rm.slots → jk_J κ ws 0 (lv_args 0 vs) [] 0 0) : jh_i l G tys y b maxL hh rm vs ws wf post := by
  intro sz
  refine va_MetW (cc := b) (maxL := maxL) (ret := some .int) hy rfl ?_
  intro p e s m args below meth c s₁ B hml hv
  obtain ⟨rfl, ⟨hsz, hP, hK, hD0⟩, hZ⟩ := hv
  have hts := atoms_spec (ws := Cond.codeWith y b maxL (some .int) hh :: tb) B.pre
  have hown : s.vm.findClass y.cls = some m.cls := findClass_of_methodNamed B.named
  have htab := vx_table (x := y) B (hts _ List.mem_cons_self)
  subst hsz
  rw [lg_entry_eq]
  exact body (p, l, e, rm, s, m, vs.toArray, below, meth, c, maxL, G, va_A ws s.heap.size, MQ below (va_Qi post (jk_B G tys (va_A ws s.heap.size) wf) (va_A ws s.heap.size)) vs.toArray s rm.cells rm.slots (va_A ws s.heap.size)) rfl rfl ⟨B.exec, B.bytes, ⟨hml, rfl⟩, hown, fun w h => hts w (List.mem_cons_of_mem _ h), hK, fun q h => Or.inr h, rfl, B.notSynchronized⟩ ⟨hlt, htab, hZ⟩ ⟨B.returns, rfl⟩ s.heap [] _ (lv_entry vs hvs) hP hD0.self va_S.rf
theorem jk_goodH {own : String} {idx : Nat} {y : MethodName} {b : ByteArray} {n : Nat} {ret : Option FieldType} {hh : List (Nat × Nat × Nat × Nat)} (h1 : Cond.methodLink own idx y ∈ tb) (h2 : Cond.static y ∈ tb) (h3 : Cond.initialized y.cls ∈ tb) (h5 : Cond.codeWith y b n ret hh ∈ tb) : GoodIn tb (va_wsS own idx y (Cond.codeWith y b n ret hh :: tb)) := by
  intro w hw
  have hm : w ∈ tb := by
    simp only [va_wsS, List.mem_append, List.mem_cons, List.not_mem_nil, or_false] at hw
    rcases hw with (rfl | rfl | rfl) | rfl | hw <;> assumption
  exact ⟨hm, good_of_word (tb_good w hm)⟩
/-- where a thrown E is caught: the table's row x, those ahead don't take it -/
def jk_cat (κ : jk_K) (own : String) (hh : List (Nat × Nat × Nat × Nat)) (pc : Nat) (E : String) (hp : Nat) : Prop := ∃ (pre : List ExceptionTableEntry) (x : ExceptionTableEntry) (suf : List ExceptionTableEntry) (name : String), tableOf hh = pre ++ x :: suf ∧ (∀ z ∈ pre, covers z pc = false ∨ (z.catchType ≠ 0 ∧ ∃ nm : String, Cond.classLink own z.catchType nm ∈ tb ∧ va_Nc E nm (jk_s κ))) ∧ covers x pc = true ∧ x.catchType ≠ 0 ∧ Cond.classLink own x.catchType name ∈ tb ∧ Cond.castable E name ∈ jk_oth ∧ x.handlerPc = hp
section jk_hcalls
variable {κ : jk_K} {cc : ByteArray} {own : String} {R : Room} {nL : Nat} {tys : List (ClassId × FieldType)} {ws : va_W} {pc : Nat} {lv : List (Nat × Value)} {st st0 : List Value} {cells slots : Nat} {S : Type} {wf : S → va_W}
variable {y : MethodName} {bytes : ByteArray} {maxL index n a q0 ci : Nat} {rm : Room} {As : List Value} {wc wr : va_W} {Cn : String} {fs : List Value} {qc : vw_C} {hh : List (Nat × Nat × Nat × Nat)}
theorem jh_callVi {ty : FieldType} {post : Int32 → S → Prop} {px : String → S → Prop} (C : jk_C κ cc own R nL tys) (Z : jk_Ch κ hh) (hM : jx_i (jk_l κ) (jk_G κ) tys y bytes maxL ty rm (.ref a :: As) wc wf post px) (hg : GoodIn tb (wsV own index Cn y (Cond.code y bytes maxL (some ty) :: tb))) (hd : y.cls = Cn ∧ y.cls ≠ "java/lang/invoke/MethodHandle" ∧ y.cls ≠ "java/lang/invoke/VarHandle" ∧ (parseMethodDescriptor y.desc).map (fun d => d.parameters.length) = some n) (hR : rm.frames + 1 ≤ R.frames ∧ 8 + (maxL + 11) + rm.locals ≤ R.locals) (hn : As.length = n) (he : wc[q0]? = some (a, .inr (ci, fs))) (hcl : classes[ci]? = some qc) (hqn : qc.1 = Cn)
    (isC isR : List Nat) (hC : isC.map (fun i => ws[i]?) = wc.map some) (hRr : isR.map (fun i => ws[i]?) = wr.map some) (hnd : va_nd isR = true) (hdis : ∀ i ∈ isR, i ∉ isC) (hndC : va_nd isC = true) (hst : st0 = As.reverse ++ .ref a :: st) (hW8 : (st.map fun v => v.category).sum ≤ 8) (hdg : decode cc pc = .ok (.invokevirtual index, 3)) (hf : cells + rm.cells ≤ R.cells ∧ slots + rm.slots ≤ R.slots)
    {wn : S → va_W} (ps : List Nat) (hnp : va_nd ps = true) (hwn : ∀ u, ps.map (fun i => (wr ++ wf u)[i]?) = (wn u).map some)
    (kx : ∀ (E : String) (u : S), px E u → ∃ hp : Nat, jk_cat κ own hh pc E hp ∧ ∀ q9 : Nat, jk_J κ (wn u) hp lv [.ref q9] (cells + rm.cells) (slots + rm.slots))
    (kk : ∀ (r : Int32) (u : S), post r u → jk_J κ (wn u) (pc + 3) lv (.int r :: st) (cells + rm.cells) (slots + rm.slots)) : jk_J κ ws pc lv st0 cells slots := by
  intro H locs ls hl hP hD hS
  subst hst
  subst hqn
  have hPc := hP.sub (ws' := wc) isC (jk_fm hC)
  have hDc := hD.sub (ws' := wc) isC hndC hC
  have hFc := va_free (wc := wc) hD hS C.2.2.2.2.2.2.1 isC hC
  rw [← C.2.2.2.2.2.2.2.1] at hR hf
  refine vx_calli (vx_runV (As := As) (rest := st) ⟨C.1, C.2.1, C.2.2.1.1, C.2.2.2.1, C.2.2.2.2.1⟩ (hM H.size) (cwV n C.2.2.2.2.1 hg rfl rfl rfl hd hR) ⟨jk_blindx, va_recv C.2.2.2.2.2.1 hPc hcl he, fun U hU hW => ⟨rfl, ⟨by rw [hU], by rw [hU]; exact hPc, va_K.moved hW.alike C.2.2.2.2.2.1, hDc.weaken (fun _ _ _ _ => trivial)⟩, jk_Zmv Z.2.2 hS hFc hU hW⟩⟩ rfl hn hl.1 rfl (lv_room hW8) hdg hf) hS (fun q _ h => hFc q h) hFc (fun q _ h => hFc q h) (fun E1 ce q9 u t H1 locs ht hvm hw hB hz1 hk1 hS hce hcv hcl => ?_) (fun r u t H1 locs ht hvm hw hB hz1 hk1 hS => ?_)
  · obtain ⟨hE1, hP1, hK1, hD1⟩ := hB
    rw [ht] at hP1
    obtain ⟨hP2, hD2⟩ := va_join (wr := wr) (w1 := wf u.2) hP hD isC isR hC hRr hnd hdis hk1 hFc hP1 hD1
    obtain ⟨hp, ⟨pre, x, suf, name, e1, e2, e3, e4, e5, e6, rfl⟩, kj⟩ := kx u.1 u.2 hw
    subst hE1
    exact vx_catch C.2.2.2.1 pre x suf (Z.2.1.trans e1) (fun z hz => (e2 z hz).elim Or.inl (fun h => Or.inr ⟨h.1, h.2.elim fun nm h => ⟨nm, C.2.2.2.2.1 _ h.1, h.2⟩⟩)) e3 e4 (C.2.2.2.2.1 _ e5) (va_any (jk_onT _ e6) (Z.2.2.2.2.2.2 _ e6)) hce hcv hcl (kj q9 H1 locs ls hl (hP2.sub ps (jk_fm (hwn u.2))) (hD2.sub ps hnp (hwn u.2)) hS)
  · obtain ⟨hP1, hK1, hD1⟩ := hB
    rw [ht] at hP1
    obtain ⟨hP2, hD2⟩ := va_join (wr := wr) (w1 := wf u) hP hD isC isR hC hRr hnd hdis hk1 hFc hP1 hD1
    exact kk r u hw H1 locs ls hl (hP2.sub ps (jk_fm (hwn u))) (hD2.sub ps hnp (hwn u)) hS
theorem jh_callVl {post : Int64 → S → Prop} {px : String → S → Prop} (C : jk_C κ cc own R nL tys) (Z : jk_Ch κ hh) (hM : jx_l (jk_l κ) (jk_G κ) tys y bytes maxL rm (.ref a :: As) wc wf post px) (hg : GoodIn tb (wsV own index Cn y (Cond.code y bytes maxL (some .long) :: tb))) (hd : y.cls = Cn ∧ y.cls ≠ "java/lang/invoke/MethodHandle" ∧ y.cls ≠ "java/lang/invoke/VarHandle" ∧ (parseMethodDescriptor y.desc).map (fun d => d.parameters.length) = some n) (hR : rm.frames + 1 ≤ R.frames ∧ 8 + (maxL + 11) + rm.locals ≤ R.locals) (hn : As.length = n) (he : wc[q0]? = some (a, .inr (ci, fs))) (hcl : classes[ci]? = some qc) (hqn : qc.1 = Cn)
    (isC isR : List Nat) (hC : isC.map (fun i => ws[i]?) = wc.map some) (hRr : isR.map (fun i => ws[i]?) = wr.map some) (hnd : va_nd isR = true) (hdis : ∀ i ∈ isR, i ∉ isC) (hndC : va_nd isC = true) (hst : st0 = As.reverse ++ .ref a :: st) (hW8 : (st.map fun v => v.category).sum ≤ 8) (hdg : decode cc pc = .ok (.invokevirtual index, 3)) (hf : cells + rm.cells ≤ R.cells ∧ slots + rm.slots ≤ R.slots)
    {wn : S → va_W} (ps : List Nat) (hnp : va_nd ps = true) (hwn : ∀ u, ps.map (fun i => (wr ++ wf u)[i]?) = (wn u).map some)
    (kx : ∀ (E : String) (u : S), px E u → ∃ hp : Nat, jk_cat κ own hh pc E hp ∧ ∀ q9 : Nat, jk_J κ (wn u) hp lv [.ref q9] (cells + rm.cells) (slots + rm.slots))
    (kk : ∀ (r : Int64) (u : S), post r u → jk_J κ (wn u) (pc + 3) lv (.long r :: st) (cells + rm.cells) (slots + rm.slots)) : jk_J κ ws pc lv st0 cells slots := by
  intro H locs ls hl hP hD hS
  subst hst
  subst hqn
  have hPc := hP.sub (ws' := wc) isC (jk_fm hC)
  have hDc := hD.sub (ws' := wc) isC hndC hC
  have hFc := va_free (wc := wc) hD hS C.2.2.2.2.2.2.1 isC hC
  rw [← C.2.2.2.2.2.2.2.1] at hR hf
  refine vx_calll (vx_runV (As := As) (rest := st) ⟨C.1, C.2.1, C.2.2.1.1, C.2.2.2.1, C.2.2.2.2.1⟩ (hM H.size) (cwV n C.2.2.2.2.1 hg rfl rfl rfl hd hR) ⟨jk_blindx, va_recv C.2.2.2.2.2.1 hPc hcl he, fun U hU hW => ⟨rfl, ⟨by rw [hU], by rw [hU]; exact hPc, va_K.moved hW.alike C.2.2.2.2.2.1, hDc.weaken (fun _ _ _ _ => trivial)⟩, jk_Zmv Z.2.2 hS hFc hU hW⟩⟩ rfl hn hl.1 rfl (lv_room hW8) hdg hf) hS (fun q _ h => hFc q h) hFc (fun q _ h => hFc q h) (fun E1 ce q9 u t H1 locs ht hvm hw hB hz1 hk1 hS hce hcv hcl => ?_) (fun r u t H1 locs ht hvm hw hB hz1 hk1 hS => ?_)
  · obtain ⟨hE1, hP1, hK1, hD1⟩ := hB
    rw [ht] at hP1
    obtain ⟨hP2, hD2⟩ := va_join (wr := wr) (w1 := wf u.2) hP hD isC isR hC hRr hnd hdis hk1 hFc hP1 hD1
    obtain ⟨hp, ⟨pre, x, suf, name, e1, e2, e3, e4, e5, e6, rfl⟩, kj⟩ := kx u.1 u.2 hw
    subst hE1
    exact vx_catch C.2.2.2.1 pre x suf (Z.2.1.trans e1) (fun z hz => (e2 z hz).elim Or.inl (fun h => Or.inr ⟨h.1, h.2.elim fun nm h => ⟨nm, C.2.2.2.2.1 _ h.1, h.2⟩⟩)) e3 e4 (C.2.2.2.2.1 _ e5) (va_any (jk_onT _ e6) (Z.2.2.2.2.2.2 _ e6)) hce hcv hcl (kj q9 H1 locs ls hl (hP2.sub ps (jk_fm (hwn u.2))) (hD2.sub ps hnp (hwn u.2)) hS)
  · obtain ⟨hP1, hK1, hD1⟩ := hB
    rw [ht] at hP1
    obtain ⟨hP2, hD2⟩ := va_join (wr := wr) (w1 := wf u) hP hD isC isR hC hRr hnd hdis hk1 hFc hP1 hD1
    exact kk r u hw H1 locs ls hl (hP2.sub ps (jk_fm (hwn u))) (hD2.sub ps hnp (hwn u)) hS
/-- a static call of such a method -/
theorem j_callH {post : Int32 → S → Prop} (C : jk_C κ cc own R nL tys) (Zs : jk_Z (jk_A κ) (jk_s κ)) {hh : List (Nat × Nat × Nat × Nat)} (hM : jh_i (jk_l κ) (jk_G κ) tys y bytes maxL hh rm As wc wf post) (hg : GoodIn tb (va_wsS own index y (Cond.codeWith y bytes maxL (some .int) hh :: tb))) (hd : y.cls ≠ "java/lang/invoke/MethodHandle" ∧ y.cls ≠ "java/lang/invoke/VarHandle" ∧ (parseMethodDescriptor y.desc).map (fun d => d.parameters.length) = some n) (hR : rm.frames + 1 ≤ R.frames ∧ 8 + (maxL + 11) + rm.locals ≤ R.locals) (hn : As.length = n)
    (isC isR : List Nat) (hC : isC.map (fun i => ws[i]?) = wc.map some) (hRr : isR.map (fun i => ws[i]?) = wr.map some) (hnd : va_nd isR = true) (hdis : ∀ i ∈ isR, i ∉ isC) (hndC : va_nd isC = true) (hst : st0 = As.reverse ++ st) (hW8 : (st.map fun v => v.category).sum ≤ 8) (hdg : decode cc pc = .ok (.invokestatic index, 3)) (hf : cells + rm.cells ≤ R.cells ∧ slots + rm.slots ≤ R.slots)
    {wn : S → va_W} (ps : List Nat) (hnp : va_nd ps = true) (hwn : ∀ u, ps.map (fun i => (wr ++ wf u)[i]?) = (wn u).map some)
    (kk : ∀ (r : Int32) (u : S), post r u → jk_J κ (wn u) (pc + 3) lv (.int r :: st) (cells + rm.cells) (slots + rm.slots)) : jk_J κ ws pc lv st0 cells slots := by
  intro H locs ls hl hP hD hS
  subst hst
  have hPc := hP.sub (ws' := wc) isC (jk_fm hC)
  have hDc := hD.sub (ws' := wc) isC hndC hC
  have hFc := va_free (wc := wc) hD hS C.2.2.2.2.2.2.1 isC hC
  rw [← C.2.2.2.2.2.2.2.1] at hR hf
  refine va_calli (vx_runSW (As := As) (rest := st) ⟨C.1, C.2.1, C.2.2.1.1, C.2.2.2.1, C.2.2.2.2.1⟩ (hM H.size) (vx_cwSW n C.2.2.2.2.1 hg rfl rfl rfl hd hR) ⟨jk_blindx, fun U hU hW => ⟨rfl, ⟨by rw [hU], by rw [hU]; exact hPc, va_K.moved hW.alike C.2.2.2.2.2.1, hDc.weaken (fun _ _ _ _ => trivial)⟩, jk_Zmv Zs hS hFc hU hW⟩⟩ rfl hn hl.1 rfl (lv_room hW8) hdg hf) hS (fun q _ h => hFc q h) hFc (fun r u t H1 locs ht hvm hw hB hz1 hk1 hS => ?_)
  obtain ⟨hP1, hK1, hD1⟩ := hB
  rw [ht] at hP1
  obtain ⟨hP2, hD2⟩ := va_join (wr := wr) (w1 := wf u) hP hD isC isR hC hRr hnd hdis hk1 hFc hP1 hD1
  exact kk r u hw H1 locs ls hl (hP2.sub ps (jk_fm (hwn u))) (hD2.sub ps hnp (hwn u)) hS
end jk_hcalls
section jk_law
variable {κ : jk_K} {cc : ByteArray} {own : String} {R : Room} {nL : Nat} {tys : List (ClassId × FieldType)} {ws : va_W} {pc : Nat} {lv : List (Nat × Value)} {st : List Value} {cells slots : Nat}
/-- the law's script: outside the world, as at the start -/
def jk_Cs (κ : jk_K) (b L : Nat) (xs : Nat → Int32) : Prop := va_X b L xs (jk_s κ) (jk_s κ).heap ∧ b < (jk_s κ).heap.size ∧ ¬ jk_A κ b
theorem j_sld (C : jk_C κ cc own R nL tys) {b L : Nat} {xs : Nat → Int32} (X : jk_Cs κ b L xs) {i : Int32} (hin : vp_in i L) (hdg : decode cc pc = .ok (.iaload, 1)) (kk : jk_J κ ws (pc + 1) lv (.int (xs i.toNatClampNeg) :: st) cells slots) : jk_J κ ws pc lv (.int i :: .ref b :: st) cells slots := fun H locs ls hl hP hD hS => va_sld C.1 C.2.1 X.1 X.2.1 X.2.2 hS hin hdg (kk H locs ls hl hP hD hS)
theorem j_slen (C : jk_C κ cc own R nL tys) {b L : Nat} {xs : Nat → Int32} (X : jk_Cs κ b L xs) (hdg : decode cc pc = .ok (.arraylength, 1)) (kk : jk_J κ ws (pc + 1) lv (.int (nI L) :: st) cells slots) : jk_J κ ws pc lv (.ref b :: st) cells slots := fun H locs ls hl hP hD hS => va_slen C.1 C.2.1 X.1 X.2.1 X.2.2 hS hdg (kk H locs ls hl hP hD hS)
end jk_law
