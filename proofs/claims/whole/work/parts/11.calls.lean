/-- what a method is given: the heap's size, the world, the tables -/
def jk_P (G : va_G) (tys : List (ClassId × FieldType)) (ws : va_W) (sz : Nat) (U : State) : Prop := U.heap.size = sz ∧ va_P G classes ws U.heap ∧ va_K G classes tys U ∧ va_D (fun _ => True) ws
def jk_isO : Cond → Bool
  | .castable .. => true
  | .declares _ => true
  | _ => false
/-- words of the tables that are no good words, moved -/
theorem jk_om {u U : State} (hvm : u.vm.Alike U.vm) {w : Cond} (hw : jk_isO w = true) (h : w.before #[] u = true) : w.before #[] U = true := by
  have tr : ∀ {c : Cond}, c.onTables = true → c.before #[] (u.setVm U.vm) = true → c.before #[] U = true := by
    intro c hc h
    have e := Cond.onTables_vm (A := #[]) (A' := #[]) (U := u) (U' := U) U.vm c hc
    have hU : U.setVm U.vm = U := rfl
    rw [hU] at e
    rw [← e]
    exact h
  cases w <;> first | (simp [jk_isO] at hw; done) | exact tr rfl (by rw [Cond.declares_setVm hvm]; exact h) | exact tr rfl (by rw [Cond.castable_setVm hvm]; exact h)
theorem jk_onT : ∀ w ∈ jk_oth, w.onTables = true := by decide +kernel
theorem jk_othO : ∀ w ∈ jk_oth, jk_isO w = true := by decide +kernel
/-- what a throw needs of the heap, outside A -/
def jk_Z (A : Nat → Prop) (U : State) : Prop := vx_Zq Bundle.tN "UNASSIGNED_STACK" Bundle.steD A U U.heap ∧ vx_Zq Bundle.tN "SUPPRESSED_SENTINEL" Bundle.listD A U U.heap ∧ (∀ q ∈ jk_lits, ∃ sa : Nat, vk_R q.1 q.2.1 q.2.2 sa U) ∧ (∀ q ∈ jk_ncs, va_Nc q.1 q.2 U) ∧ ∀ w ∈ jk_oth, w.before #[] U = true
/-- what a method leaves -/
def jk_B {S : Type} (G : va_G) (tys : List (ClassId × FieldType)) (A : Nat → Prop) (wf : S → va_W) (u : S) (t : State) : Prop := va_P G classes (wf u) t.heap ∧ va_K G classes tys t ∧ va_D A (wf u)
def jk_X {S : Type} (G : va_G) (tys : List (ClassId × FieldType)) (A : Nat → Prop) (wf : S → va_W) (E : String) (u : String × S) (t : State) : Prop := E = u.1 ∧ jk_B G tys A wf u.2 t
def jk_E (κ : jk_K) (ret : Option FieldType) (Qc : Array Value → State → Outcome → State → Prop) (mc ms : Nat) : Prop := (jk_t κ).sig.returnType = ret ∧ jk_Q κ = MQ (jk_b κ) Qc (jk_a κ) (jk_s κ) mc ms (jk_A κ)
def jk_Ex (κ : jk_K) (ret : Option FieldType) (Qc : Array Value → State → Outcome → State → Prop) (XC : String → State → State → Prop) (mc ms : Nat) : Prop := (jk_t κ).sig.returnType = ret ∧ jk_Q κ = vx_MQ (jk_b κ) Qc XC (jk_a κ) (jk_s κ) mc ms (jk_A κ)
def jk_Cz (κ : jk_K) : Prop := (jk_l κ).stackTraces = false ∧ (∀ x ∈ (jk_c κ).exceptionTable.toList, False) ∧ jk_Z (jk_A κ) (jk_s κ)
/-- the cells of a part, and those that are new -/
theorem jk_free {A0 : Nat → Prop} {ws wc : va_W} {H0 H : Heap} {locs : List Loc} (hD : va_D A0 ws) (hS : va_S A0 H0 H locs) (hA : ∀ q, H0.size ≤ q → A0 q) (isC : List Nat) (hC : isC.map (fun i => ws[i]?) = wc.map some) : ∀ q, va_A wc H.size q → A0 q := va_free hD hS hA isC hC
theorem jk_Zmv {A B : Nat → Prop} {s U : State} {H : Heap} {locs : List Loc} (h : jk_Z A s) (hS : va_S A s.heap H locs) (hAB : ∀ q, B q → A q) (hU : U.heap = H) (hW : s.WarmedH U.vm) : jk_Z B U := by
  obtain ⟨h1, h2, h3, h4⟩ := h
  refine ⟨?_, ?_, fun q hq => ?_, fun q hq => va_Nc.moved hW.alike (h4.1 q hq), fun w hw => jk_om hW.alike (jk_othO w hw) (h4.2 w hw)⟩
  · rw [hU]; exact vx_Zq.moved hW.alike ((h1.kept hS.2.1).narrow hAB)
  · rw [hU]; exact vx_Zq.moved hW.alike ((h2.kept hS.2.1).narrow hAB)
  · obtain ⟨sa, h⟩ := h3 q hq
    exact ⟨sa, vk_R.warm hW h⟩
theorem jk_Zcall {A : Nat → Prop} {U : State} {g : JFrame} {mk : MethodId} {a : Array Value} (h : jk_Z A U) : jk_Z A (U.calling g mk a) := by
  obtain ⟨h1, h2, h3, h4⟩ := h
  refine ⟨vx_Zq.moved (u := U) (U := U.calling g mk a) (Vm.Alike.refl U.vm) h1, vx_Zq.moved (u := U) (U := U.calling g mk a) (Vm.Alike.refl U.vm) h2, fun q hq => ?_, fun q hq => va_Nc.moved (u := U) (U := U.calling g mk a) (Vm.Alike.refl U.vm) (h4.1 q hq), fun w hw => jk_om (u := U) (U := U.calling g mk a) (Vm.Alike.refl U.vm) (jk_othO w hw) (h4.2 w hw)⟩
  obtain ⟨sa, h⟩ := h3 q hq
  exact ⟨sa, vk_R.same rfl h⟩
theorem jk_blind {G : va_G} {tys : List (ClassId × FieldType)} {ws : va_W} {sz : Nat} {vs : List Value} : FrameBlind (va_Pc vs (jk_P G tys ws sz)) := fun a U g mk q => by
  obtain ⟨q0, q1, qP, qK, qD⟩ := q
  exact ⟨q0, q1, qP, va_K.moved (u := U) (U := U.calling g mk a) (Vm.Alike.refl U.vm) qK, qD⟩
theorem jk_blindx {G : va_G} {tys : List (ClassId × FieldType)} {ws : va_W} {sz : Nat} {vs : List Value} : FrameBlind (va_Pc vs (fun U => jk_P G tys ws sz U ∧ jk_Z (va_A ws sz) U)) := fun a U g mk q => by
  obtain ⟨q0, ⟨q1, qP, qK, qD⟩, qZ⟩ := q
  exact ⟨q0, ⟨q1, qP, va_K.moved (u := U) (U := U.calling g mk a) (Vm.Alike.refl U.vm) qK, qD⟩, jk_Zcall qZ⟩
theorem jk_goodV {own : String} {idx : Nat} {C : String} {y : MethodName} {b : ByteArray} {n : Nat} {ret : Option FieldType} (h1 : Cond.methodLink own idx y ∈ tb) (h2 : Cond.instanceMethod y ∈ tb) (h3 : Cond.selects C y y ∈ tb) (h4 : Cond.initialized C ∈ tb) (h5 : Cond.code y b n ret ∈ tb) : GoodIn tb (wsV own idx C y (Cond.code y b n ret :: tb)) := by
  intro w hw
  have hm : w ∈ tb := by
    simp only [wsV, List.mem_append, List.mem_cons, List.not_mem_nil, or_false] at hw
    rcases hw with (rfl | rfl | rfl | rfl) | rfl | hw <;> assumption
  exact ⟨hm, good_of_word (tb_good w hm)⟩
theorem jk_goodS {own : String} {idx : Nat} {y : MethodName} {b : ByteArray} {n : Nat} {ret : Option FieldType} (h1 : Cond.methodLink own idx y ∈ tb) (h2 : Cond.static y ∈ tb) (h3 : Cond.initialized y.cls ∈ tb) (h5 : Cond.code y b n ret ∈ tb) : GoodIn tb (va_wsS own idx y (Cond.code y b n ret :: tb)) := by
  intro w hw
  have hm : w ∈ tb := by
    simp only [va_wsS, List.mem_append, List.mem_cons, List.not_mem_nil, or_false] at hw
    rcases hw with (rfl | rfl | rfl) | rfl | hw <;> assumption
  exact ⟨hm, good_of_word (tb_good w hm)⟩

def jm_v (l : Launch) (G : va_G) (tys : List (ClassId × FieldType)) (y : MethodName) (b : ByteArray) (maxL : Nat) (rm : Room) (vs : List Value) (ws : va_W) {S : Type} (wf : S → va_W) (post : S → Prop) : Prop := ∀ sz : Nat, Met l y (Cond.code y b maxL none :: tb) rm (va_Pc vs (jk_P G tys ws sz)) (va_Qv post (jk_B G tys (va_A ws sz) wf) (va_A ws sz)) rm.cells rm.slots (va_A ws sz)
def jx_v (l : Launch) (G : va_G) (tys : List (ClassId × FieldType)) (y : MethodName) (b : ByteArray) (maxL : Nat) (rm : Room) (vs : List Value) (ws : va_W) {S : Type} (wf : S → va_W) (post : S → Prop) (px : String → S → Prop) : Prop := ∀ sz : Nat, vx_Met l y (Cond.code y b maxL none :: tb) rm (va_Pc vs (fun U => jk_P G tys ws sz U ∧ jk_Z (va_A ws sz) U)) (va_Qv post (jk_B G tys (va_A ws sz) wf) (va_A ws sz)) (vx_X (fun u : String × S => px u.1 u.2) (jk_X G tys (va_A ws sz) wf) (va_A ws sz)) rm.cells rm.slots (va_A ws sz)
def jm_i (l : Launch) (G : va_G) (tys : List (ClassId × FieldType)) (y : MethodName) (b : ByteArray) (maxL : Nat) (ty : FieldType) (rm : Room) (vs : List Value) (ws : va_W) {S : Type} (wf : S → va_W) (post : Int32 → S → Prop) : Prop := ∀ sz : Nat, Met l y (Cond.code y b maxL (some ty) :: tb) rm (va_Pc vs (jk_P G tys ws sz)) (va_Qi post (jk_B G tys (va_A ws sz) wf) (va_A ws sz)) rm.cells rm.slots (va_A ws sz)
def jx_i (l : Launch) (G : va_G) (tys : List (ClassId × FieldType)) (y : MethodName) (b : ByteArray) (maxL : Nat) (ty : FieldType) (rm : Room) (vs : List Value) (ws : va_W) {S : Type} (wf : S → va_W) (post : Int32 → S → Prop) (px : String → S → Prop) : Prop := ∀ sz : Nat, vx_Met l y (Cond.code y b maxL (some ty) :: tb) rm (va_Pc vs (fun U => jk_P G tys ws sz U ∧ jk_Z (va_A ws sz) U)) (va_Qi post (jk_B G tys (va_A ws sz) wf) (va_A ws sz)) (vx_X (fun u : String × S => px u.1 u.2) (jk_X G tys (va_A ws sz) wf) (va_A ws sz)) rm.cells rm.slots (va_A ws sz)
def jm_l (l : Launch) (G : va_G) (tys : List (ClassId × FieldType)) (y : MethodName) (b : ByteArray) (maxL : Nat) (rm : Room) (vs : List Value) (ws : va_W) {S : Type} (wf : S → va_W) (post : Int64 → S → Prop) : Prop := ∀ sz : Nat, Met l y (Cond.code y b maxL (some .long) :: tb) rm (va_Pc vs (jk_P G tys ws sz)) (va_Ql post (jk_B G tys (va_A ws sz) wf) (va_A ws sz)) rm.cells rm.slots (va_A ws sz)
def jx_l (l : Launch) (G : va_G) (tys : List (ClassId × FieldType)) (y : MethodName) (b : ByteArray) (maxL : Nat) (rm : Room) (vs : List Value) (ws : va_W) {S : Type} (wf : S → va_W) (post : Int64 → S → Prop) (px : String → S → Prop) : Prop := ∀ sz : Nat, vx_Met l y (Cond.code y b maxL (some .long) :: tb) rm (va_Pc vs (fun U => jk_P G tys ws sz U ∧ jk_Z (va_A ws sz) U)) (va_Ql post (jk_B G tys (va_A ws sz) wf) (va_A ws sz)) (vx_X (fun u : String × S => px u.1 u.2) (jk_X G tys (va_A ws sz) wf) (va_A ws sz)) rm.cells rm.slots (va_A ws sz)
section jk_ends
variable {κ : jk_K} {cc : ByteArray} {own : String} {R : Room} {nL : Nat} {tys : List (ClassId × FieldType)} {ws : va_W} {pc : Nat} {lv : List (Nat × Value)} {st : List Value} {cells slots : Nat} {S : Type} {wf : S → va_W} {mc ms : Nat} {XC : String → State → State → Prop}
theorem j_vret {post : S → Prop} (C : jk_C κ cc own R nL tys) (E : jk_E κ none (va_Qv post (jk_B (jk_G κ) tys (jk_A κ) wf) (jk_A κ)) mc ms) {u : S} (h : post u) (hc : cells ≤ mc) (hs : slots ≤ ms) (hdg : decode cc pc = .ok (.return_, 1)) : jk_J κ (wf u) pc lv [] cells slots := by
  intro H locs ls hl hP hD hS
  unfold jk_W
  rw [E.2]
  refine W.widen hc hs ?_
  exact W.vret C.1 C.2.1 E.1 (fun t ht hW => ⟨⟨u, rfl, h, by rw [ht]; exact hP, va_K.moved hW.alike C.2.2.2.2.2.1, hD⟩, hS.F ht⟩) hS.2.2 hdg C.2.2.2.2.2.2.2.2
theorem jx_vret {post : S → Prop} (C : jk_C κ cc own R nL tys) (E : jk_Ex κ none (va_Qv post (jk_B (jk_G κ) tys (jk_A κ) wf) (jk_A κ)) XC mc ms) {u : S} (h : post u) (hc : cells ≤ mc) (hs : slots ≤ ms) (hdg : decode cc pc = .ok (.return_, 1)) : jk_J κ (wf u) pc lv [] cells slots := by
  intro H locs ls hl hP hD hS
  unfold jk_W
  rw [E.2]
  refine vx_ret ?_
  refine W.widen hc hs ?_
  exact W.vret C.1 C.2.1 E.1 (fun t ht hW => ⟨⟨u, rfl, h, by rw [ht]; exact hP, va_K.moved hW.alike C.2.2.2.2.2.1, hD⟩, hS.F ht⟩) hS.2.2 hdg C.2.2.2.2.2.2.2.2
theorem j_iret {post : Int32 → S → Prop} (C : jk_C κ cc own R nL tys) (E : jk_E κ (some .int) (va_Qi post (jk_B (jk_G κ) tys (jk_A κ) wf) (jk_A κ)) mc ms) {u : S} {v : Int32} (h : post v u) (hc : cells ≤ mc) (hs : slots ≤ ms) (hdg : decode cc pc = .ok (.ireturn, 1)) : jk_J κ (wf u) pc lv [.int v] cells slots := by
  intro H locs ls hl hP hD hS
  unfold jk_W
  rw [E.2]
  refine W.widen hc hs ?_
  exact W.iret C.1 C.2.1 E.1 (fun t ht hW => ⟨⟨v, u, rfl, h, by rw [ht]; exact hP, va_K.moved hW.alike C.2.2.2.2.2.1, hD⟩, hS.F ht⟩) hS.2.2 hdg C.2.2.2.2.2.2.2.2
theorem jx_iret {post : Int32 → S → Prop} (C : jk_C κ cc own R nL tys) (E : jk_Ex κ (some .int) (va_Qi post (jk_B (jk_G κ) tys (jk_A κ) wf) (jk_A κ)) XC mc ms) {u : S} {v : Int32} (h : post v u) (hc : cells ≤ mc) (hs : slots ≤ ms) (hdg : decode cc pc = .ok (.ireturn, 1)) : jk_J κ (wf u) pc lv [.int v] cells slots := by
  intro H locs ls hl hP hD hS
  unfold jk_W
  rw [E.2]
  refine vx_ret ?_
  refine W.widen hc hs ?_
  exact W.iret C.1 C.2.1 E.1 (fun t ht hW => ⟨⟨v, u, rfl, h, by rw [ht]; exact hP, va_K.moved hW.alike C.2.2.2.2.2.1, hD⟩, hS.F ht⟩) hS.2.2 hdg C.2.2.2.2.2.2.2.2
theorem j_zret {post : Int32 → S → Prop} {ty : FieldType} (C : jk_C κ cc own R nL tys) (E : jk_E κ (some ty) (va_Qi post (jk_B (jk_G κ) tys (jk_A κ) wf) (jk_A κ)) mc ms) {u : S} {v : Int32} (h : post v u) (hn : narrow ty (.int v) = .int v) (hc : cells ≤ mc) (hs : slots ≤ ms) (hdg : decode cc pc = .ok (.ireturn, 1)) : jk_J κ (wf u) pc lv [.int v] cells slots := by
  intro H locs ls hl hP hD hS
  unfold jk_W
  rw [E.2]
  refine W.widen hc hs ?_
  exact W.zret C.1 C.2.1 E.1 hn (fun t ht hW => ⟨⟨v, u, rfl, h, by rw [ht]; exact hP, va_K.moved hW.alike C.2.2.2.2.2.1, hD⟩, hS.F ht⟩) hS.2.2 hdg C.2.2.2.2.2.2.2.2
theorem jx_zret {post : Int32 → S → Prop} {ty : FieldType} (C : jk_C κ cc own R nL tys) (E : jk_Ex κ (some ty) (va_Qi post (jk_B (jk_G κ) tys (jk_A κ) wf) (jk_A κ)) XC mc ms) {u : S} {v : Int32} (h : post v u) (hn : narrow ty (.int v) = .int v) (hc : cells ≤ mc) (hs : slots ≤ ms) (hdg : decode cc pc = .ok (.ireturn, 1)) : jk_J κ (wf u) pc lv [.int v] cells slots := by
  intro H locs ls hl hP hD hS
  unfold jk_W
  rw [E.2]
  refine vx_ret ?_
  refine W.widen hc hs ?_
  exact W.zret C.1 C.2.1 E.1 hn (fun t ht hW => ⟨⟨v, u, rfl, h, by rw [ht]; exact hP, va_K.moved hW.alike C.2.2.2.2.2.1, hD⟩, hS.F ht⟩) hS.2.2 hdg C.2.2.2.2.2.2.2.2
theorem j_lret {post : Int64 → S → Prop} (C : jk_C κ cc own R nL tys) (E : jk_E κ (some .long) (va_Ql post (jk_B (jk_G κ) tys (jk_A κ) wf) (jk_A κ)) mc ms) {u : S} {v : Int64} (h : post v u) (hc : cells ≤ mc) (hs : slots ≤ ms) (hdg : decode cc pc = .ok (.lreturn, 1)) : jk_J κ (wf u) pc lv [.long v] cells slots := by
  intro H locs ls hl hP hD hS
  unfold jk_W
  rw [E.2]
  refine W.widen hc hs ?_
  exact W.lret C.1 C.2.1 E.1 (fun t ht hW => ⟨⟨v, u, rfl, h, by rw [ht]; exact hP, va_K.moved hW.alike C.2.2.2.2.2.1, hD⟩, hS.F ht⟩) hS.2.2 hdg C.2.2.2.2.2.2.2.2
theorem jx_lret {post : Int64 → S → Prop} (C : jk_C κ cc own R nL tys) (E : jk_Ex κ (some .long) (va_Ql post (jk_B (jk_G κ) tys (jk_A κ) wf) (jk_A κ)) XC mc ms) {u : S} {v : Int64} (h : post v u) (hc : cells ≤ mc) (hs : slots ≤ ms) (hdg : decode cc pc = .ok (.lreturn, 1)) : jk_J κ (wf u) pc lv [.long v] cells slots := by
  intro H locs ls hl hP hD hS
  unfold jk_W
  rw [E.2]
  refine vx_ret ?_
  refine W.widen hc hs ?_
  exact W.lret C.1 C.2.1 E.1 (fun t ht hW => ⟨⟨v, u, rfl, h, by rw [ht]; exact hP, va_K.moved hW.alike C.2.2.2.2.2.1, hD⟩, hS.F ht⟩) hS.2.2 hdg C.2.2.2.2.2.2.2.2
end jk_ends
theorem jm_open_v {l : Launch} {G : va_G} {tys : List (ClassId × FieldType)} {y : MethodName} {b : ByteArray} {maxL : Nat} {rm : Room} {vs : List Value} {ws : va_W} {S : Type} {wf : S → va_W} {post : S → Prop} (hy : plainName y.cls = true) (hvs : (lg_sl vs).length ≤ maxL)
    (body : ∀ κ : jk_K, jk_l κ = l → jk_G κ = G → jk_C κ b y.cls rm maxL tys → jk_E κ none (va_Qv post (jk_B (jk_G κ) tys (jk_A κ) wf) (jk_A κ)) rm.cells rm.slots → (y.name = "<init>" → (jk_t κ).name = "<init>") → jk_J κ ws 0 (lv_args 0 vs) [] 0 0) : jm_v l G tys y b maxL rm vs ws wf post := by
  intro sz
  refine Met.ofW (cc := b) (maxL := maxL) (ret := none) hy rfl ?_
  intro p e s m args below meth c s₁ B hml hv
  obtain ⟨rfl, hsz, hP, hK, hD0⟩ := hv
  have hts := atoms_spec (ws := Cond.code y b maxL none :: tb) B.pre
  have hown : s.vm.findClass y.cls = some m.cls := findClass_of_methodNamed B.named
  subst hsz
  rw [lg_entry_eq]
  exact body (p, l, e, rm, s, m, vs.toArray, below, meth, c, maxL, G, va_A ws s.heap.size, MQ below (va_Qv post (jk_B G tys (va_A ws s.heap.size) wf) (va_A ws s.heap.size)) vs.toArray s rm.cells rm.slots (va_A ws s.heap.size)) rfl rfl ⟨B.exec, B.bytes, ⟨hml, rfl⟩, hown, fun w h => hts w (List.mem_cons_of_mem _ h), hK, fun q h => Or.inr h, rfl, B.notSynchronized⟩ ⟨B.returns, rfl⟩ (fun hn => (name_of_methodNamed B.named B.method).1.trans hn) s.heap [] _ (lv_entry vs hvs) hP hD0.self va_S.rf
theorem jx_open_v {l : Launch} {G : va_G} {tys : List (ClassId × FieldType)} {y : MethodName} {b : ByteArray} {maxL : Nat} {rm : Room} {vs : List Value} {ws : va_W} {S : Type} {wf : S → va_W} {post : S → Prop} {px : String → S → Prop} (hlt : l.stackTraces = false) (hy : plainName y.cls = true) (hvs : (lg_sl vs).length ≤ maxL)
    (body : ∀ κ : jk_K, jk_l κ = l → jk_G κ = G → jk_C κ b y.cls rm maxL tys → jk_Cz κ → jk_Ex κ none (va_Qv post (jk_B (jk_G κ) tys (jk_A κ) wf) (jk_A κ)) (vx_X (fun u : String × S => px u.1 u.2) (jk_X (jk_G κ) tys (jk_A κ) wf) (jk_A κ)) rm.cells rm.slots → jk_J κ ws 0 (lv_args 0 vs) [] 0 0) : jx_v l G tys y b maxL rm vs ws wf post px := by
  intro sz
  refine vx_ofW (cc := b) (maxL := maxL) (ret := none) hy rfl ?_
  intro p e s m args below meth c s₁ B hml hex hv
  obtain ⟨rfl, ⟨hsz, hP, hK, hD0⟩, hZ⟩ := hv
  have hts := atoms_spec (ws := Cond.code y b maxL none :: tb) B.pre
  have hown : s.vm.findClass y.cls = some m.cls := findClass_of_methodNamed B.named
  subst hsz
  rw [lg_entry_eq]
  exact body (p, l, e, rm, s, m, vs.toArray, below, meth, c, maxL, G, va_A ws s.heap.size, vx_MQ below (va_Qv post (jk_B G tys (va_A ws s.heap.size) wf) (va_A ws s.heap.size)) (vx_X (fun u : String × S => px u.1 u.2) (jk_X G tys (va_A ws s.heap.size) wf) (va_A ws s.heap.size)) vs.toArray s rm.cells rm.slots (va_A ws s.heap.size)) rfl rfl ⟨B.exec, B.bytes, ⟨hml, rfl⟩, hown, fun w h => hts w (List.mem_cons_of_mem _ h), hK, fun q h => Or.inr h, rfl, B.notSynchronized⟩ ⟨hlt, hex, hZ⟩ ⟨B.returns, rfl⟩ s.heap [] _ (lv_entry vs hvs) hP hD0.self va_S.rf
theorem jm_open_i {l : Launch} {G : va_G} {tys : List (ClassId × FieldType)} {y : MethodName} {b : ByteArray} {maxL : Nat} {ty : FieldType} {rm : Room} {vs : List Value} {ws : va_W} {S : Type} {wf : S → va_W} {post : Int32 → S → Prop} (hy : plainName y.cls = true) (hvs : (lg_sl vs).length ≤ maxL)
    (body : ∀ κ : jk_K, jk_l κ = l → jk_G κ = G → jk_C κ b y.cls rm maxL tys → jk_E κ (some ty) (va_Qi post (jk_B (jk_G κ) tys (jk_A κ) wf) (jk_A κ)) rm.cells rm.slots → (y.name = "<init>" → (jk_t κ).name = "<init>") → jk_J κ ws 0 (lv_args 0 vs) [] 0 0) : jm_i l G tys y b maxL ty rm vs ws wf post := by
  intro sz
  refine Met.ofW (cc := b) (maxL := maxL) (ret := (some ty)) hy rfl ?_
  intro p e s m args below meth c s₁ B hml hv
  obtain ⟨rfl, hsz, hP, hK, hD0⟩ := hv
  have hts := atoms_spec (ws := Cond.code y b maxL (some ty) :: tb) B.pre
  have hown : s.vm.findClass y.cls = some m.cls := findClass_of_methodNamed B.named
  subst hsz
  rw [lg_entry_eq]
  exact body (p, l, e, rm, s, m, vs.toArray, below, meth, c, maxL, G, va_A ws s.heap.size, MQ below (va_Qi post (jk_B G tys (va_A ws s.heap.size) wf) (va_A ws s.heap.size)) vs.toArray s rm.cells rm.slots (va_A ws s.heap.size)) rfl rfl ⟨B.exec, B.bytes, ⟨hml, rfl⟩, hown, fun w h => hts w (List.mem_cons_of_mem _ h), hK, fun q h => Or.inr h, rfl, B.notSynchronized⟩ ⟨B.returns, rfl⟩ (fun hn => (name_of_methodNamed B.named B.method).1.trans hn) s.heap [] _ (lv_entry vs hvs) hP hD0.self va_S.rf
theorem jx_open_i {l : Launch} {G : va_G} {tys : List (ClassId × FieldType)} {y : MethodName} {b : ByteArray} {maxL : Nat} {ty : FieldType} {rm : Room} {vs : List Value} {ws : va_W} {S : Type} {wf : S → va_W} {post : Int32 → S → Prop} {px : String → S → Prop} (hlt : l.stackTraces = false) (hy : plainName y.cls = true) (hvs : (lg_sl vs).length ≤ maxL)
    (body : ∀ κ : jk_K, jk_l κ = l → jk_G κ = G → jk_C κ b y.cls rm maxL tys → jk_Cz κ → jk_Ex κ (some ty) (va_Qi post (jk_B (jk_G κ) tys (jk_A κ) wf) (jk_A κ)) (vx_X (fun u : String × S => px u.1 u.2) (jk_X (jk_G κ) tys (jk_A κ) wf) (jk_A κ)) rm.cells rm.slots → jk_J κ ws 0 (lv_args 0 vs) [] 0 0) : jx_i l G tys y b maxL ty rm vs ws wf post px := by
  intro sz
  refine vx_ofW (cc := b) (maxL := maxL) (ret := (some ty)) hy rfl ?_
  intro p e s m args below meth c s₁ B hml hex hv
  obtain ⟨rfl, ⟨hsz, hP, hK, hD0⟩, hZ⟩ := hv
  have hts := atoms_spec (ws := Cond.code y b maxL (some ty) :: tb) B.pre
  have hown : s.vm.findClass y.cls = some m.cls := findClass_of_methodNamed B.named
  subst hsz
  rw [lg_entry_eq]
  exact body (p, l, e, rm, s, m, vs.toArray, below, meth, c, maxL, G, va_A ws s.heap.size, vx_MQ below (va_Qi post (jk_B G tys (va_A ws s.heap.size) wf) (va_A ws s.heap.size)) (vx_X (fun u : String × S => px u.1 u.2) (jk_X G tys (va_A ws s.heap.size) wf) (va_A ws s.heap.size)) vs.toArray s rm.cells rm.slots (va_A ws s.heap.size)) rfl rfl ⟨B.exec, B.bytes, ⟨hml, rfl⟩, hown, fun w h => hts w (List.mem_cons_of_mem _ h), hK, fun q h => Or.inr h, rfl, B.notSynchronized⟩ ⟨hlt, hex, hZ⟩ ⟨B.returns, rfl⟩ s.heap [] _ (lv_entry vs hvs) hP hD0.self va_S.rf
theorem jm_open_l {l : Launch} {G : va_G} {tys : List (ClassId × FieldType)} {y : MethodName} {b : ByteArray} {maxL : Nat} {rm : Room} {vs : List Value} {ws : va_W} {S : Type} {wf : S → va_W} {post : Int64 → S → Prop} (hy : plainName y.cls = true) (hvs : (lg_sl vs).length ≤ maxL)
    (body : ∀ κ : jk_K, jk_l κ = l → jk_G κ = G → jk_C κ b y.cls rm maxL tys → jk_E κ (some .long) (va_Ql post (jk_B (jk_G κ) tys (jk_A κ) wf) (jk_A κ)) rm.cells rm.slots → (y.name = "<init>" → (jk_t κ).name = "<init>") → jk_J κ ws 0 (lv_args 0 vs) [] 0 0) : jm_l l G tys y b maxL rm vs ws wf post := by
  intro sz
  refine Met.ofW (cc := b) (maxL := maxL) (ret := (some .long)) hy rfl ?_
  intro p e s m args below meth c s₁ B hml hv
  obtain ⟨rfl, hsz, hP, hK, hD0⟩ := hv
  have hts := atoms_spec (ws := Cond.code y b maxL (some .long) :: tb) B.pre
  have hown : s.vm.findClass y.cls = some m.cls := findClass_of_methodNamed B.named
  subst hsz
  rw [lg_entry_eq]
  exact body (p, l, e, rm, s, m, vs.toArray, below, meth, c, maxL, G, va_A ws s.heap.size, MQ below (va_Ql post (jk_B G tys (va_A ws s.heap.size) wf) (va_A ws s.heap.size)) vs.toArray s rm.cells rm.slots (va_A ws s.heap.size)) rfl rfl ⟨B.exec, B.bytes, ⟨hml, rfl⟩, hown, fun w h => hts w (List.mem_cons_of_mem _ h), hK, fun q h => Or.inr h, rfl, B.notSynchronized⟩ ⟨B.returns, rfl⟩ (fun hn => (name_of_methodNamed B.named B.method).1.trans hn) s.heap [] _ (lv_entry vs hvs) hP hD0.self va_S.rf
theorem jx_open_l {l : Launch} {G : va_G} {tys : List (ClassId × FieldType)} {y : MethodName} {b : ByteArray} {maxL : Nat} {rm : Room} {vs : List Value} {ws : va_W} {S : Type} {wf : S → va_W} {post : Int64 → S → Prop} {px : String → S → Prop} (hlt : l.stackTraces = false) (hy : plainName y.cls = true) (hvs : (lg_sl vs).length ≤ maxL)
    (body : ∀ κ : jk_K, jk_l κ = l → jk_G κ = G → jk_C κ b y.cls rm maxL tys → jk_Cz κ → jk_Ex κ (some .long) (va_Ql post (jk_B (jk_G κ) tys (jk_A κ) wf) (jk_A κ)) (vx_X (fun u : String × S => px u.1 u.2) (jk_X (jk_G κ) tys (jk_A κ) wf) (jk_A κ)) rm.cells rm.slots → jk_J κ ws 0 (lv_args 0 vs) [] 0 0) : jx_l l G tys y b maxL rm vs ws wf post px := by
  intro sz
  refine vx_ofW (cc := b) (maxL := maxL) (ret := (some .long)) hy rfl ?_
  intro p e s m args below meth c s₁ B hml hex hv
  obtain ⟨rfl, ⟨hsz, hP, hK, hD0⟩, hZ⟩ := hv
  have hts := atoms_spec (ws := Cond.code y b maxL (some .long) :: tb) B.pre
  have hown : s.vm.findClass y.cls = some m.cls := findClass_of_methodNamed B.named
  subst hsz
  rw [lg_entry_eq]
  exact body (p, l, e, rm, s, m, vs.toArray, below, meth, c, maxL, G, va_A ws s.heap.size, vx_MQ below (va_Ql post (jk_B G tys (va_A ws s.heap.size) wf) (va_A ws s.heap.size)) (vx_X (fun u : String × S => px u.1 u.2) (jk_X G tys (va_A ws s.heap.size) wf) (va_A ws s.heap.size)) vs.toArray s rm.cells rm.slots (va_A ws s.heap.size)) rfl rfl ⟨B.exec, B.bytes, ⟨hml, rfl⟩, hown, fun w h => hts w (List.mem_cons_of_mem _ h), hK, fun q h => Or.inr h, rfl, B.notSynchronized⟩ ⟨hlt, hex, hZ⟩ ⟨B.returns, rfl⟩ s.heap [] _ (lv_entry vs hvs) hP hD0.self va_S.rf
section jk_calls
variable {κ : jk_K} {cc : ByteArray} {own : String} {R : Room} {nL : Nat} {tys : List (ClassId × FieldType)} {ws : va_W} {pc : Nat} {lv : List (Nat × Value)} {st st0 : List Value} {cells slots : Nat} {S : Type} {wf : S → va_W}
variable {y : MethodName} {bytes : ByteArray} {maxL index n a q0 ci : Nat} {rm : Room} {As : List Value} {wc wr : va_W} {Cn : String} {fs : List Value} {qc : vw_C}
theorem j_callVv {post : S → Prop} (C : jk_C κ cc own R nL tys) (hM : jm_v (jk_l κ) (jk_G κ) tys y bytes maxL rm (.ref a :: As) wc wf post) (hg : GoodIn tb (wsV own index Cn y (Cond.code y bytes maxL none :: tb))) (hd : y.cls = Cn ∧ y.cls ≠ "java/lang/invoke/MethodHandle" ∧ y.cls ≠ "java/lang/invoke/VarHandle" ∧ (parseMethodDescriptor y.desc).map (fun d => d.parameters.length) = some n) (hR : rm.frames + 1 ≤ R.frames ∧ 8 + (maxL + 11) + rm.locals ≤ R.locals) (hn : As.length = n) (he : wc[q0]? = some (a, .inr (ci, fs))) (hcl : classes[ci]? = some qc) (hqn : qc.1 = Cn) 
    (isC isR : List Nat) (hC : isC.map (fun i => ws[i]?) = wc.map some) (hRr : isR.map (fun i => ws[i]?) = wr.map some) (hnd : va_nd isR = true) (hdis : ∀ i ∈ isR, i ∉ isC) (hndC : va_nd isC = true) (hst : st0 = As.reverse ++ .ref a :: st) (hW8 : (st.map fun v => v.category).sum ≤ 8) (hdg : decode cc pc = .ok (.invokevirtual index, 3)) (hf : cells + rm.cells ≤ R.cells ∧ slots + rm.slots ≤ R.slots)
    {wn : S → va_W} (ps : List Nat) (hnp : va_nd ps = true) (hwn : ∀ u, ps.map (fun i => (wr ++ wf u)[i]?) = (wn u).map some)
    (kk : ∀ (u : S), post u → jk_J κ (wn u) (pc + 3) lv st (cells + rm.cells) (slots + rm.slots)) : jk_J κ ws pc lv st0 cells slots := by
  intro H locs ls hl hP hD hS
  subst hst
  subst hqn
  have hPc := hP.sub (ws' := wc) isC (jk_fm hC)
  have hDc := hD.sub (ws' := wc) isC hndC hC
  have hFc := va_free (wc := wc) hD hS C.2.2.2.2.2.2.1 isC hC
  rw [← C.2.2.2.2.2.2.2.1] at hR hf
  refine va_callv (va_runV (As := As) (rest := st) ⟨C.1, C.2.1, C.2.2.1.1, C.2.2.2.1, C.2.2.2.2.1⟩ (hM H.size) (cwV n C.2.2.2.2.1 hg rfl rfl rfl hd hR) ⟨jk_blind, va_recv C.2.2.2.2.2.1 hPc hcl he, fun U hU hW => ⟨rfl, by rw [hU], by rw [hU]; exact hPc, va_K.moved hW.alike C.2.2.2.2.2.1, hDc.weaken (fun _ _ _ _ => trivial)⟩⟩ rfl hn hl.1 rfl (lv_room hW8) hdg hf) hS (fun q _ h => hFc q h) hFc (fun u t H1 locs ht hvm hw hB hz1 hk1 hS => ?_)
  obtain ⟨hP1, hK1, hD1⟩ := hB
  rw [ht] at hP1
  obtain ⟨hP2, hD2⟩ := va_join (wr := wr) (w1 := wf u) hP hD isC isR hC hRr hnd hdis hk1 hFc hP1 hD1
  exact kk u hw H1 locs ls hl (hP2.sub ps (jk_fm (hwn u))) (hD2.sub ps hnp (hwn u)) hS
theorem j_callVv0 {post : S → Prop} (C : jk_C κ cc own R nL tys) (hM : jm_v (jk_l κ) (jk_G κ) tys y bytes maxL rm (.ref a :: As) ws wf post) (hg : GoodIn tb (wsV own index Cn y (Cond.code y bytes maxL none :: tb))) (hd : y.cls = Cn ∧ y.cls ≠ "java/lang/invoke/MethodHandle" ∧ y.cls ≠ "java/lang/invoke/VarHandle" ∧ (parseMethodDescriptor y.desc).map (fun d => d.parameters.length) = some n) (hR : rm.frames + 1 ≤ R.frames ∧ 8 + (maxL + 11) + rm.locals ≤ R.locals) (hn : As.length = n) (he : ws[q0]? = some (a, .inr (ci, fs))) (hcl : classes[ci]? = some qc) (hqn : qc.1 = Cn) 
    (hst : st0 = As.reverse ++ .ref a :: st) (hW8 : (st.map fun v => v.category).sum ≤ 8) (hdg : decode cc pc = .ok (.invokevirtual index, 3)) (hf : cells + rm.cells ≤ R.cells ∧ slots + rm.slots ≤ R.slots)
    (kk : ∀ (u : S), post u → jk_J κ (wf u) (pc + 3) lv st (cells + rm.cells) (slots + rm.slots)) : jk_J κ ws pc lv st0 cells slots := by
  intro H locs ls hl hP hD hS
  subst hst
  subst hqn
  have hPc := hP
  have hFc : ∀ q, va_A ws H.size q → jk_A κ q := fun q h => h.elim (fun ⟨k, e, hk⟩ => hD.2 k _ hk) (fun h => C.2.2.2.2.2.2.1 q (Nat.le_trans hS.1 h))
  rw [← C.2.2.2.2.2.2.2.1] at hR hf
  refine va_callv (va_runV (As := As) (rest := st) ⟨C.1, C.2.1, C.2.2.1.1, C.2.2.2.1, C.2.2.2.2.1⟩ (hM H.size) (cwV n C.2.2.2.2.1 hg rfl rfl rfl hd hR) ⟨jk_blind, va_recv C.2.2.2.2.2.1 hPc hcl he, fun U hU hW => ⟨rfl, by rw [hU], by rw [hU]; exact hPc, va_K.moved hW.alike C.2.2.2.2.2.1, hD.weaken (fun _ _ _ _ => trivial)⟩⟩ rfl hn hl.1 rfl (lv_room hW8) hdg hf) hS (fun q _ h => hFc q h) hFc (fun u t H1 locs ht hvm hw hB hz1 hk1 hS => ?_)
  obtain ⟨hP1, hK1, hD1⟩ := hB
  rw [ht] at hP1
  exact kk u hw H1 locs ls hl hP1 (hD1.weaken (fun _ _ _ h => hFc _ h)) hS
theorem jx_callVv0 {post : S → Prop} {px : String → S → Prop} {ret0 : Option FieldType} {Qc : Array Value → State → Outcome → State → Prop} {mc ms : Nat} (C : jk_C κ cc own R nL tys) (Z : jk_Cz κ) (E : jk_Ex κ ret0 Qc (vx_X (fun u : String × S => px u.1 u.2) (jk_X (jk_G κ) tys (jk_A κ) wf) (jk_A κ)) mc ms) (hM : jx_v (jk_l κ) (jk_G κ) tys y bytes maxL rm (.ref a :: As) ws wf post px) (hg : GoodIn tb (wsV own index Cn y (Cond.code y bytes maxL none :: tb))) (hd : y.cls = Cn ∧ y.cls ≠ "java/lang/invoke/MethodHandle" ∧ y.cls ≠ "java/lang/invoke/VarHandle" ∧ (parseMethodDescriptor y.desc).map (fun d => d.parameters.length) = some n) (hR : rm.frames + 1 ≤ R.frames ∧ 8 + (maxL + 11) + rm.locals ≤ R.locals) (hn : As.length = n) (he : ws[q0]? = some (a, .inr (ci, fs))) (hcl : classes[ci]? = some qc) (hqn : qc.1 = Cn) 
    (hst : st0 = As.reverse ++ .ref a :: st) (hW8 : (st.map fun v => v.category).sum ≤ 8) (hdg : decode cc pc = .ok (.invokevirtual index, 3)) (hf : cells + rm.cells ≤ R.cells ∧ slots + rm.slots ≤ R.slots) (hmc : cells + rm.cells ≤ mc) (hms : slots + rm.slots ≤ ms)
    (kk : ∀ (u : S), post u → jk_J κ (wf u) (pc + 3) lv st (cells + rm.cells) (slots + rm.slots)) : jk_J κ ws pc lv st0 cells slots := by
  intro H locs ls hl hP hD hS
  subst hst
  subst hqn
  have hPc := hP
  have hFc : ∀ q, va_A ws H.size q → jk_A κ q := fun q h => h.elim (fun ⟨k, e, hk⟩ => hD.2 k _ hk) (fun h => C.2.2.2.2.2.2.1 q (Nat.le_trans hS.1 h))
  rw [← C.2.2.2.2.2.2.2.1] at hR hf
  refine vx_callv (vx_runV (As := As) (rest := st) ⟨C.1, C.2.1, C.2.2.1.1, C.2.2.2.1, C.2.2.2.2.1⟩ (hM H.size) (cwV n C.2.2.2.2.1 hg rfl rfl rfl hd hR) ⟨jk_blindx, va_recv C.2.2.2.2.2.1 hPc hcl he, fun U hU hW => ⟨rfl, ⟨by rw [hU], by rw [hU]; exact hPc, va_K.moved hW.alike C.2.2.2.2.2.1, hD.weaken (fun _ _ _ _ => trivial)⟩, jk_Zmv Z.2.2 hS hFc hU hW⟩⟩ rfl hn hl.1 rfl (lv_room hW8) hdg hf) hS (fun q _ h => hFc q h) hFc (fun q _ h => hFc q h) (fun E1 ce q9 u t H1 locs ht hvm hw hB hz1 hk1 hS hce hcv hcl => ?_) (fun u t H1 locs ht hvm hw hB hz1 hk1 hS => ?_)
  · obtain ⟨hE1, hP1, hK1, hD1⟩ := hB
    rw [ht] at hP1
    rw [E.2]
    exact vx_out (fun x hx => (Z.2.1 x hx).elim) C.2.2.2.2.2.2.2.2 hce hcv hcl (fun t' ht' ha' => ⟨u, hw, ⟨hE1, by rw [ht']; exact hP1, va_K.moved ha' C.2.2.2.2.2.1, hD1.weaken (fun _ _ _ h => hFc _ h)⟩, hS.F ht'⟩) hS.2.2 hmc hms
  · obtain ⟨hP1, hK1, hD1⟩ := hB
    rw [ht] at hP1
    exact kk u hw H1 locs ls hl hP1 (hD1.weaken (fun _ _ _ h => hFc _ h)) hS
theorem j_callSv {post : S → Prop} (C : jk_C κ cc own R nL tys) (hM : jm_v (jk_l κ) (jk_G κ) tys y bytes maxL rm As wc wf post) (hg : GoodIn tb (va_wsS own index y (Cond.code y bytes maxL none :: tb))) (hd : y.cls ≠ "java/lang/invoke/MethodHandle" ∧ y.cls ≠ "java/lang/invoke/VarHandle" ∧ (parseMethodDescriptor y.desc).map (fun d => d.parameters.length) = some n) (hR : rm.frames + 1 ≤ R.frames ∧ 8 + (maxL + 11) + rm.locals ≤ R.locals) (hn : As.length = n) 
    (isC isR : List Nat) (hC : isC.map (fun i => ws[i]?) = wc.map some) (hRr : isR.map (fun i => ws[i]?) = wr.map some) (hnd : va_nd isR = true) (hdis : ∀ i ∈ isR, i ∉ isC) (hndC : va_nd isC = true) (hst : st0 = As.reverse ++ st) (hW8 : (st.map fun v => v.category).sum ≤ 8) (hdg : decode cc pc = .ok (.invokestatic index, 3)) (hf : cells + rm.cells ≤ R.cells ∧ slots + rm.slots ≤ R.slots)
    {wn : S → va_W} (ps : List Nat) (hnp : va_nd ps = true) (hwn : ∀ u, ps.map (fun i => (wr ++ wf u)[i]?) = (wn u).map some)
    (kk : ∀ (u : S), post u → jk_J κ (wn u) (pc + 3) lv st (cells + rm.cells) (slots + rm.slots)) : jk_J κ ws pc lv st0 cells slots := by
  intro H locs ls hl hP hD hS
  subst hst
  have hPc := hP.sub (ws' := wc) isC (jk_fm hC)
  have hDc := hD.sub (ws' := wc) isC hndC hC
  have hFc := va_free (wc := wc) hD hS C.2.2.2.2.2.2.1 isC hC
  rw [← C.2.2.2.2.2.2.2.1] at hR hf
  refine va_callv (va_runS (As := As) (rest := st) ⟨C.1, C.2.1, C.2.2.1.1, C.2.2.2.1, C.2.2.2.2.1⟩ (hM H.size) (va_cwS n C.2.2.2.2.1 hg rfl rfl rfl hd hR) ⟨jk_blind, fun U hU hW => ⟨rfl, by rw [hU], by rw [hU]; exact hPc, va_K.moved hW.alike C.2.2.2.2.2.1, hDc.weaken (fun _ _ _ _ => trivial)⟩⟩ rfl hn hl.1 rfl (lv_room hW8) hdg hf) hS (fun q _ h => hFc q h) hFc (fun u t H1 locs ht hvm hw hB hz1 hk1 hS => ?_)
  obtain ⟨hP1, hK1, hD1⟩ := hB
  rw [ht] at hP1
  obtain ⟨hP2, hD2⟩ := va_join (wr := wr) (w1 := wf u) hP hD isC isR hC hRr hnd hdis hk1 hFc hP1 hD1
  exact kk u hw H1 locs ls hl (hP2.sub ps (jk_fm (hwn u))) (hD2.sub ps hnp (hwn u)) hS
theorem j_callSv0 {post : S → Prop} (C : jk_C κ cc own R nL tys) (hM : jm_v (jk_l κ) (jk_G κ) tys y bytes maxL rm As ws wf post) (hg : GoodIn tb (va_wsS own index y (Cond.code y bytes maxL none :: tb))) (hd : y.cls ≠ "java/lang/invoke/MethodHandle" ∧ y.cls ≠ "java/lang/invoke/VarHandle" ∧ (parseMethodDescriptor y.desc).map (fun d => d.parameters.length) = some n) (hR : rm.frames + 1 ≤ R.frames ∧ 8 + (maxL + 11) + rm.locals ≤ R.locals) (hn : As.length = n) 
    (hst : st0 = As.reverse ++ st) (hW8 : (st.map fun v => v.category).sum ≤ 8) (hdg : decode cc pc = .ok (.invokestatic index, 3)) (hf : cells + rm.cells ≤ R.cells ∧ slots + rm.slots ≤ R.slots)
    (kk : ∀ (u : S), post u → jk_J κ (wf u) (pc + 3) lv st (cells + rm.cells) (slots + rm.slots)) : jk_J κ ws pc lv st0 cells slots := by
  intro H locs ls hl hP hD hS
  subst hst
  have hPc := hP
  have hFc : ∀ q, va_A ws H.size q → jk_A κ q := fun q h => h.elim (fun ⟨k, e, hk⟩ => hD.2 k _ hk) (fun h => C.2.2.2.2.2.2.1 q (Nat.le_trans hS.1 h))
  rw [← C.2.2.2.2.2.2.2.1] at hR hf
  refine va_callv (va_runS (As := As) (rest := st) ⟨C.1, C.2.1, C.2.2.1.1, C.2.2.2.1, C.2.2.2.2.1⟩ (hM H.size) (va_cwS n C.2.2.2.2.1 hg rfl rfl rfl hd hR) ⟨jk_blind, fun U hU hW => ⟨rfl, by rw [hU], by rw [hU]; exact hPc, va_K.moved hW.alike C.2.2.2.2.2.1, hD.weaken (fun _ _ _ _ => trivial)⟩⟩ rfl hn hl.1 rfl (lv_room hW8) hdg hf) hS (fun q _ h => hFc q h) hFc (fun u t H1 locs ht hvm hw hB hz1 hk1 hS => ?_)
  obtain ⟨hP1, hK1, hD1⟩ := hB
  rw [ht] at hP1
  exact kk u hw H1 locs ls hl hP1 (hD1.weaken (fun _ _ _ h => hFc _ h)) hS
theorem jx_callSv0 {post : S → Prop} {px : String → S → Prop} {ret0 : Option FieldType} {Qc : Array Value → State → Outcome → State → Prop} {mc ms : Nat} (C : jk_C κ cc own R nL tys) (Z : jk_Cz κ) (E : jk_Ex κ ret0 Qc (vx_X (fun u : String × S => px u.1 u.2) (jk_X (jk_G κ) tys (jk_A κ) wf) (jk_A κ)) mc ms) (hM : jx_v (jk_l κ) (jk_G κ) tys y bytes maxL rm As ws wf post px) (hg : GoodIn tb (va_wsS own index y (Cond.code y bytes maxL none :: tb))) (hd : y.cls ≠ "java/lang/invoke/MethodHandle" ∧ y.cls ≠ "java/lang/invoke/VarHandle" ∧ (parseMethodDescriptor y.desc).map (fun d => d.parameters.length) = some n) (hR : rm.frames + 1 ≤ R.frames ∧ 8 + (maxL + 11) + rm.locals ≤ R.locals) (hn : As.length = n) 
    (hst : st0 = As.reverse ++ st) (hW8 : (st.map fun v => v.category).sum ≤ 8) (hdg : decode cc pc = .ok (.invokestatic index, 3)) (hf : cells + rm.cells ≤ R.cells ∧ slots + rm.slots ≤ R.slots) (hmc : cells + rm.cells ≤ mc) (hms : slots + rm.slots ≤ ms)
    (kk : ∀ (u : S), post u → jk_J κ (wf u) (pc + 3) lv st (cells + rm.cells) (slots + rm.slots)) : jk_J κ ws pc lv st0 cells slots := by
  intro H locs ls hl hP hD hS
  subst hst
  have hPc := hP
  have hFc : ∀ q, va_A ws H.size q → jk_A κ q := fun q h => h.elim (fun ⟨k, e, hk⟩ => hD.2 k _ hk) (fun h => C.2.2.2.2.2.2.1 q (Nat.le_trans hS.1 h))
  rw [← C.2.2.2.2.2.2.2.1] at hR hf
  refine vx_callv (vx_runS (As := As) (rest := st) ⟨C.1, C.2.1, C.2.2.1.1, C.2.2.2.1, C.2.2.2.2.1⟩ (hM H.size) (va_cwS n C.2.2.2.2.1 hg rfl rfl rfl hd hR) ⟨jk_blindx, fun U hU hW => ⟨rfl, ⟨by rw [hU], by rw [hU]; exact hPc, va_K.moved hW.alike C.2.2.2.2.2.1, hD.weaken (fun _ _ _ _ => trivial)⟩, jk_Zmv Z.2.2 hS hFc hU hW⟩⟩ rfl hn hl.1 rfl (lv_room hW8) hdg hf) hS (fun q _ h => hFc q h) hFc (fun q _ h => hFc q h) (fun E1 ce q9 u t H1 locs ht hvm hw hB hz1 hk1 hS hce hcv hcl => ?_) (fun u t H1 locs ht hvm hw hB hz1 hk1 hS => ?_)
  · obtain ⟨hE1, hP1, hK1, hD1⟩ := hB
    rw [ht] at hP1
    rw [E.2]
    exact vx_out (fun x hx => (Z.2.1 x hx).elim) C.2.2.2.2.2.2.2.2 hce hcv hcl (fun t' ht' ha' => ⟨u, hw, ⟨hE1, by rw [ht']; exact hP1, va_K.moved ha' C.2.2.2.2.2.1, hD1.weaken (fun _ _ _ h => hFc _ h)⟩, hS.F ht'⟩) hS.2.2 hmc hms
  · obtain ⟨hP1, hK1, hD1⟩ := hB
    rw [ht] at hP1
    exact kk u hw H1 locs ls hl hP1 (hD1.weaken (fun _ _ _ h => hFc _ h)) hS
theorem j_callVi {ty : FieldType} {post : Int32 → S → Prop} (C : jk_C κ cc own R nL tys) (hM : jm_i (jk_l κ) (jk_G κ) tys y bytes maxL ty rm (.ref a :: As) wc wf post) (hg : GoodIn tb (wsV own index Cn y (Cond.code y bytes maxL (some ty) :: tb))) (hd : y.cls = Cn ∧ y.cls ≠ "java/lang/invoke/MethodHandle" ∧ y.cls ≠ "java/lang/invoke/VarHandle" ∧ (parseMethodDescriptor y.desc).map (fun d => d.parameters.length) = some n) (hR : rm.frames + 1 ≤ R.frames ∧ 8 + (maxL + 11) + rm.locals ≤ R.locals) (hn : As.length = n) (he : wc[q0]? = some (a, .inr (ci, fs))) (hcl : classes[ci]? = some qc) (hqn : qc.1 = Cn) 
    (isC isR : List Nat) (hC : isC.map (fun i => ws[i]?) = wc.map some) (hRr : isR.map (fun i => ws[i]?) = wr.map some) (hnd : va_nd isR = true) (hdis : ∀ i ∈ isR, i ∉ isC) (hndC : va_nd isC = true) (hst : st0 = As.reverse ++ .ref a :: st) (hW8 : (st.map fun v => v.category).sum ≤ 8) (hdg : decode cc pc = .ok (.invokevirtual index, 3)) (hf : cells + rm.cells ≤ R.cells ∧ slots + rm.slots ≤ R.slots)
    {wn : S → va_W} (ps : List Nat) (hnp : va_nd ps = true) (hwn : ∀ u, ps.map (fun i => (wr ++ wf u)[i]?) = (wn u).map some)
    (kk : ∀ (r : Int32) (u : S), post r u → jk_J κ (wn u) (pc + 3) lv (.int r :: st) (cells + rm.cells) (slots + rm.slots)) : jk_J κ ws pc lv st0 cells slots := by
  intro H locs ls hl hP hD hS
  subst hst
  subst hqn
  have hPc := hP.sub (ws' := wc) isC (jk_fm hC)
  have hDc := hD.sub (ws' := wc) isC hndC hC
  have hFc := va_free (wc := wc) hD hS C.2.2.2.2.2.2.1 isC hC
  rw [← C.2.2.2.2.2.2.2.1] at hR hf
  refine va_calli (va_runV (As := As) (rest := st) ⟨C.1, C.2.1, C.2.2.1.1, C.2.2.2.1, C.2.2.2.2.1⟩ (hM H.size) (cwV n C.2.2.2.2.1 hg rfl rfl rfl hd hR) ⟨jk_blind, va_recv C.2.2.2.2.2.1 hPc hcl he, fun U hU hW => ⟨rfl, by rw [hU], by rw [hU]; exact hPc, va_K.moved hW.alike C.2.2.2.2.2.1, hDc.weaken (fun _ _ _ _ => trivial)⟩⟩ rfl hn hl.1 rfl (lv_room hW8) hdg hf) hS (fun q _ h => hFc q h) hFc (fun r u t H1 locs ht hvm hw hB hz1 hk1 hS => ?_)
  obtain ⟨hP1, hK1, hD1⟩ := hB
  rw [ht] at hP1
  obtain ⟨hP2, hD2⟩ := va_join (wr := wr) (w1 := wf u) hP hD isC isR hC hRr hnd hdis hk1 hFc hP1 hD1
  exact kk r u hw H1 locs ls hl (hP2.sub ps (jk_fm (hwn u))) (hD2.sub ps hnp (hwn u)) hS
theorem j_callVi0 {ty : FieldType} {post : Int32 → S → Prop} (C : jk_C κ cc own R nL tys) (hM : jm_i (jk_l κ) (jk_G κ) tys y bytes maxL ty rm (.ref a :: As) ws wf post) (hg : GoodIn tb (wsV own index Cn y (Cond.code y bytes maxL (some ty) :: tb))) (hd : y.cls = Cn ∧ y.cls ≠ "java/lang/invoke/MethodHandle" ∧ y.cls ≠ "java/lang/invoke/VarHandle" ∧ (parseMethodDescriptor y.desc).map (fun d => d.parameters.length) = some n) (hR : rm.frames + 1 ≤ R.frames ∧ 8 + (maxL + 11) + rm.locals ≤ R.locals) (hn : As.length = n) (he : ws[q0]? = some (a, .inr (ci, fs))) (hcl : classes[ci]? = some qc) (hqn : qc.1 = Cn) 
    (hst : st0 = As.reverse ++ .ref a :: st) (hW8 : (st.map fun v => v.category).sum ≤ 8) (hdg : decode cc pc = .ok (.invokevirtual index, 3)) (hf : cells + rm.cells ≤ R.cells ∧ slots + rm.slots ≤ R.slots)
    (kk : ∀ (r : Int32) (u : S), post r u → jk_J κ (wf u) (pc + 3) lv (.int r :: st) (cells + rm.cells) (slots + rm.slots)) : jk_J κ ws pc lv st0 cells slots := by
  intro H locs ls hl hP hD hS
  subst hst
  subst hqn
  have hPc := hP
  have hFc : ∀ q, va_A ws H.size q → jk_A κ q := fun q h => h.elim (fun ⟨k, e, hk⟩ => hD.2 k _ hk) (fun h => C.2.2.2.2.2.2.1 q (Nat.le_trans hS.1 h))
  rw [← C.2.2.2.2.2.2.2.1] at hR hf
  refine va_calli (va_runV (As := As) (rest := st) ⟨C.1, C.2.1, C.2.2.1.1, C.2.2.2.1, C.2.2.2.2.1⟩ (hM H.size) (cwV n C.2.2.2.2.1 hg rfl rfl rfl hd hR) ⟨jk_blind, va_recv C.2.2.2.2.2.1 hPc hcl he, fun U hU hW => ⟨rfl, by rw [hU], by rw [hU]; exact hPc, va_K.moved hW.alike C.2.2.2.2.2.1, hD.weaken (fun _ _ _ _ => trivial)⟩⟩ rfl hn hl.1 rfl (lv_room hW8) hdg hf) hS (fun q _ h => hFc q h) hFc (fun r u t H1 locs ht hvm hw hB hz1 hk1 hS => ?_)
  obtain ⟨hP1, hK1, hD1⟩ := hB
  rw [ht] at hP1
  exact kk r u hw H1 locs ls hl hP1 (hD1.weaken (fun _ _ _ h => hFc _ h)) hS
theorem jx_callVi0 {ty : FieldType} {post : Int32 → S → Prop} {px : String → S → Prop} {ret0 : Option FieldType} {Qc : Array Value → State → Outcome → State → Prop} {mc ms : Nat} (C : jk_C κ cc own R nL tys) (Z : jk_Cz κ) (E : jk_Ex κ ret0 Qc (vx_X (fun u : String × S => px u.1 u.2) (jk_X (jk_G κ) tys (jk_A κ) wf) (jk_A κ)) mc ms) (hM : jx_i (jk_l κ) (jk_G κ) tys y bytes maxL ty rm (.ref a :: As) ws wf post px) (hg : GoodIn tb (wsV own index Cn y (Cond.code y bytes maxL (some ty) :: tb))) (hd : y.cls = Cn ∧ y.cls ≠ "java/lang/invoke/MethodHandle" ∧ y.cls ≠ "java/lang/invoke/VarHandle" ∧ (parseMethodDescriptor y.desc).map (fun d => d.parameters.length) = some n) (hR : rm.frames + 1 ≤ R.frames ∧ 8 + (maxL + 11) + rm.locals ≤ R.locals) (hn : As.length = n) (he : ws[q0]? = some (a, .inr (ci, fs))) (hcl : classes[ci]? = some qc) (hqn : qc.1 = Cn) 
    (hst : st0 = As.reverse ++ .ref a :: st) (hW8 : (st.map fun v => v.category).sum ≤ 8) (hdg : decode cc pc = .ok (.invokevirtual index, 3)) (hf : cells + rm.cells ≤ R.cells ∧ slots + rm.slots ≤ R.slots) (hmc : cells + rm.cells ≤ mc) (hms : slots + rm.slots ≤ ms)
    (kk : ∀ (r : Int32) (u : S), post r u → jk_J κ (wf u) (pc + 3) lv (.int r :: st) (cells + rm.cells) (slots + rm.slots)) : jk_J κ ws pc lv st0 cells slots := by
  intro H locs ls hl hP hD hS
  subst hst
  subst hqn
  have hPc := hP
  have hFc : ∀ q, va_A ws H.size q → jk_A κ q := fun q h => h.elim (fun ⟨k, e, hk⟩ => hD.2 k _ hk) (fun h => C.2.2.2.2.2.2.1 q (Nat.le_trans hS.1 h))
  rw [← C.2.2.2.2.2.2.2.1] at hR hf
  refine vx_calli (vx_runV (As := As) (rest := st) ⟨C.1, C.2.1, C.2.2.1.1, C.2.2.2.1, C.2.2.2.2.1⟩ (hM H.size) (cwV n C.2.2.2.2.1 hg rfl rfl rfl hd hR) ⟨jk_blindx, va_recv C.2.2.2.2.2.1 hPc hcl he, fun U hU hW => ⟨rfl, ⟨by rw [hU], by rw [hU]; exact hPc, va_K.moved hW.alike C.2.2.2.2.2.1, hD.weaken (fun _ _ _ _ => trivial)⟩, jk_Zmv Z.2.2 hS hFc hU hW⟩⟩ rfl hn hl.1 rfl (lv_room hW8) hdg hf) hS (fun q _ h => hFc q h) hFc (fun q _ h => hFc q h) (fun E1 ce q9 u t H1 locs ht hvm hw hB hz1 hk1 hS hce hcv hcl => ?_) (fun r u t H1 locs ht hvm hw hB hz1 hk1 hS => ?_)
  · obtain ⟨hE1, hP1, hK1, hD1⟩ := hB
    rw [ht] at hP1
    rw [E.2]
    exact vx_out (fun x hx => (Z.2.1 x hx).elim) C.2.2.2.2.2.2.2.2 hce hcv hcl (fun t' ht' ha' => ⟨u, hw, ⟨hE1, by rw [ht']; exact hP1, va_K.moved ha' C.2.2.2.2.2.1, hD1.weaken (fun _ _ _ h => hFc _ h)⟩, hS.F ht'⟩) hS.2.2 hmc hms
  · obtain ⟨hP1, hK1, hD1⟩ := hB
    rw [ht] at hP1
    exact kk r u hw H1 locs ls hl hP1 (hD1.weaken (fun _ _ _ h => hFc _ h)) hS
theorem j_callSi {ty : FieldType} {post : Int32 → S → Prop} (C : jk_C κ cc own R nL tys) (hM : jm_i (jk_l κ) (jk_G κ) tys y bytes maxL ty rm As wc wf post) (hg : GoodIn tb (va_wsS own index y (Cond.code y bytes maxL (some ty) :: tb))) (hd : y.cls ≠ "java/lang/invoke/MethodHandle" ∧ y.cls ≠ "java/lang/invoke/VarHandle" ∧ (parseMethodDescriptor y.desc).map (fun d => d.parameters.length) = some n) (hR : rm.frames + 1 ≤ R.frames ∧ 8 + (maxL + 11) + rm.locals ≤ R.locals) (hn : As.length = n) 
    (isC isR : List Nat) (hC : isC.map (fun i => ws[i]?) = wc.map some) (hRr : isR.map (fun i => ws[i]?) = wr.map some) (hnd : va_nd isR = true) (hdis : ∀ i ∈ isR, i ∉ isC) (hndC : va_nd isC = true) (hst : st0 = As.reverse ++ st) (hW8 : (st.map fun v => v.category).sum ≤ 8) (hdg : decode cc pc = .ok (.invokestatic index, 3)) (hf : cells + rm.cells ≤ R.cells ∧ slots + rm.slots ≤ R.slots)
    {wn : S → va_W} (ps : List Nat) (hnp : va_nd ps = true) (hwn : ∀ u, ps.map (fun i => (wr ++ wf u)[i]?) = (wn u).map some)
    (kk : ∀ (r : Int32) (u : S), post r u → jk_J κ (wn u) (pc + 3) lv (.int r :: st) (cells + rm.cells) (slots + rm.slots)) : jk_J κ ws pc lv st0 cells slots := by
  intro H locs ls hl hP hD hS
  subst hst
  have hPc := hP.sub (ws' := wc) isC (jk_fm hC)
  have hDc := hD.sub (ws' := wc) isC hndC hC
  have hFc := va_free (wc := wc) hD hS C.2.2.2.2.2.2.1 isC hC
  rw [← C.2.2.2.2.2.2.2.1] at hR hf
  refine va_calli (va_runS (As := As) (rest := st) ⟨C.1, C.2.1, C.2.2.1.1, C.2.2.2.1, C.2.2.2.2.1⟩ (hM H.size) (va_cwS n C.2.2.2.2.1 hg rfl rfl rfl hd hR) ⟨jk_blind, fun U hU hW => ⟨rfl, by rw [hU], by rw [hU]; exact hPc, va_K.moved hW.alike C.2.2.2.2.2.1, hDc.weaken (fun _ _ _ _ => trivial)⟩⟩ rfl hn hl.1 rfl (lv_room hW8) hdg hf) hS (fun q _ h => hFc q h) hFc (fun r u t H1 locs ht hvm hw hB hz1 hk1 hS => ?_)
  obtain ⟨hP1, hK1, hD1⟩ := hB
  rw [ht] at hP1
  obtain ⟨hP2, hD2⟩ := va_join (wr := wr) (w1 := wf u) hP hD isC isR hC hRr hnd hdis hk1 hFc hP1 hD1
  exact kk r u hw H1 locs ls hl (hP2.sub ps (jk_fm (hwn u))) (hD2.sub ps hnp (hwn u)) hS
theorem j_callSi0 {ty : FieldType} {post : Int32 → S → Prop} (C : jk_C κ cc own R nL tys) (hM : jm_i (jk_l κ) (jk_G κ) tys y bytes maxL ty rm As ws wf post) (hg : GoodIn tb (va_wsS own index y (Cond.code y bytes maxL (some ty) :: tb))) (hd : y.cls ≠ "java/lang/invoke/MethodHandle" ∧ y.cls ≠ "java/lang/invoke/VarHandle" ∧ (parseMethodDescriptor y.desc).map (fun d => d.parameters.length) = some n) (hR : rm.frames + 1 ≤ R.frames ∧ 8 + (maxL + 11) + rm.locals ≤ R.locals) (hn : As.length = n) 
    (hst : st0 = As.reverse ++ st) (hW8 : (st.map fun v => v.category).sum ≤ 8) (hdg : decode cc pc = .ok (.invokestatic index, 3)) (hf : cells + rm.cells ≤ R.cells ∧ slots + rm.slots ≤ R.slots)
    (kk : ∀ (r : Int32) (u : S), post r u → jk_J κ (wf u) (pc + 3) lv (.int r :: st) (cells + rm.cells) (slots + rm.slots)) : jk_J κ ws pc lv st0 cells slots := by
  intro H locs ls hl hP hD hS
  subst hst
  have hPc := hP
  have hFc : ∀ q, va_A ws H.size q → jk_A κ q := fun q h => h.elim (fun ⟨k, e, hk⟩ => hD.2 k _ hk) (fun h => C.2.2.2.2.2.2.1 q (Nat.le_trans hS.1 h))
  rw [← C.2.2.2.2.2.2.2.1] at hR hf
  refine va_calli (va_runS (As := As) (rest := st) ⟨C.1, C.2.1, C.2.2.1.1, C.2.2.2.1, C.2.2.2.2.1⟩ (hM H.size) (va_cwS n C.2.2.2.2.1 hg rfl rfl rfl hd hR) ⟨jk_blind, fun U hU hW => ⟨rfl, by rw [hU], by rw [hU]; exact hPc, va_K.moved hW.alike C.2.2.2.2.2.1, hD.weaken (fun _ _ _ _ => trivial)⟩⟩ rfl hn hl.1 rfl (lv_room hW8) hdg hf) hS (fun q _ h => hFc q h) hFc (fun r u t H1 locs ht hvm hw hB hz1 hk1 hS => ?_)
  obtain ⟨hP1, hK1, hD1⟩ := hB
  rw [ht] at hP1
  exact kk r u hw H1 locs ls hl hP1 (hD1.weaken (fun _ _ _ h => hFc _ h)) hS
theorem jx_callSi0 {ty : FieldType} {post : Int32 → S → Prop} {px : String → S → Prop} {ret0 : Option FieldType} {Qc : Array Value → State → Outcome → State → Prop} {mc ms : Nat} (C : jk_C κ cc own R nL tys) (Z : jk_Cz κ) (E : jk_Ex κ ret0 Qc (vx_X (fun u : String × S => px u.1 u.2) (jk_X (jk_G κ) tys (jk_A κ) wf) (jk_A κ)) mc ms) (hM : jx_i (jk_l κ) (jk_G κ) tys y bytes maxL ty rm As ws wf post px) (hg : GoodIn tb (va_wsS own index y (Cond.code y bytes maxL (some ty) :: tb))) (hd : y.cls ≠ "java/lang/invoke/MethodHandle" ∧ y.cls ≠ "java/lang/invoke/VarHandle" ∧ (parseMethodDescriptor y.desc).map (fun d => d.parameters.length) = some n) (hR : rm.frames + 1 ≤ R.frames ∧ 8 + (maxL + 11) + rm.locals ≤ R.locals) (hn : As.length = n) 
    (hst : st0 = As.reverse ++ st) (hW8 : (st.map fun v => v.category).sum ≤ 8) (hdg : decode cc pc = .ok (.invokestatic index, 3)) (hf : cells + rm.cells ≤ R.cells ∧ slots + rm.slots ≤ R.slots) (hmc : cells + rm.cells ≤ mc) (hms : slots + rm.slots ≤ ms)
    (kk : ∀ (r : Int32) (u : S), post r u → jk_J κ (wf u) (pc + 3) lv (.int r :: st) (cells + rm.cells) (slots + rm.slots)) : jk_J κ ws pc lv st0 cells slots := by
  intro H locs ls hl hP hD hS
  subst hst
  have hPc := hP
  have hFc : ∀ q, va_A ws H.size q → jk_A κ q := fun q h => h.elim (fun ⟨k, e, hk⟩ => hD.2 k _ hk) (fun h => C.2.2.2.2.2.2.1 q (Nat.le_trans hS.1 h))
  rw [← C.2.2.2.2.2.2.2.1] at hR hf
  refine vx_calli (vx_runS (As := As) (rest := st) ⟨C.1, C.2.1, C.2.2.1.1, C.2.2.2.1, C.2.2.2.2.1⟩ (hM H.size) (va_cwS n C.2.2.2.2.1 hg rfl rfl rfl hd hR) ⟨jk_blindx, fun U hU hW => ⟨rfl, ⟨by rw [hU], by rw [hU]; exact hPc, va_K.moved hW.alike C.2.2.2.2.2.1, hD.weaken (fun _ _ _ _ => trivial)⟩, jk_Zmv Z.2.2 hS hFc hU hW⟩⟩ rfl hn hl.1 rfl (lv_room hW8) hdg hf) hS (fun q _ h => hFc q h) hFc (fun q _ h => hFc q h) (fun E1 ce q9 u t H1 locs ht hvm hw hB hz1 hk1 hS hce hcv hcl => ?_) (fun r u t H1 locs ht hvm hw hB hz1 hk1 hS => ?_)
  · obtain ⟨hE1, hP1, hK1, hD1⟩ := hB
    rw [ht] at hP1
    rw [E.2]
    exact vx_out (fun x hx => (Z.2.1 x hx).elim) C.2.2.2.2.2.2.2.2 hce hcv hcl (fun t' ht' ha' => ⟨u, hw, ⟨hE1, by rw [ht']; exact hP1, va_K.moved ha' C.2.2.2.2.2.1, hD1.weaken (fun _ _ _ h => hFc _ h)⟩, hS.F ht'⟩) hS.2.2 hmc hms
  · obtain ⟨hP1, hK1, hD1⟩ := hB
    rw [ht] at hP1
    exact kk r u hw H1 locs ls hl hP1 (hD1.weaken (fun _ _ _ h => hFc _ h)) hS
theorem j_callVl {post : Int64 → S → Prop} (C : jk_C κ cc own R nL tys) (hM : jm_l (jk_l κ) (jk_G κ) tys y bytes maxL rm (.ref a :: As) wc wf post) (hg : GoodIn tb (wsV own index Cn y (Cond.code y bytes maxL (some .long) :: tb))) (hd : y.cls = Cn ∧ y.cls ≠ "java/lang/invoke/MethodHandle" ∧ y.cls ≠ "java/lang/invoke/VarHandle" ∧ (parseMethodDescriptor y.desc).map (fun d => d.parameters.length) = some n) (hR : rm.frames + 1 ≤ R.frames ∧ 8 + (maxL + 11) + rm.locals ≤ R.locals) (hn : As.length = n) (he : wc[q0]? = some (a, .inr (ci, fs))) (hcl : classes[ci]? = some qc) (hqn : qc.1 = Cn) 
    (isC isR : List Nat) (hC : isC.map (fun i => ws[i]?) = wc.map some) (hRr : isR.map (fun i => ws[i]?) = wr.map some) (hnd : va_nd isR = true) (hdis : ∀ i ∈ isR, i ∉ isC) (hndC : va_nd isC = true) (hst : st0 = As.reverse ++ .ref a :: st) (hW8 : (st.map fun v => v.category).sum ≤ 8) (hdg : decode cc pc = .ok (.invokevirtual index, 3)) (hf : cells + rm.cells ≤ R.cells ∧ slots + rm.slots ≤ R.slots)
    {wn : S → va_W} (ps : List Nat) (hnp : va_nd ps = true) (hwn : ∀ u, ps.map (fun i => (wr ++ wf u)[i]?) = (wn u).map some)
    (kk : ∀ (r : Int64) (u : S), post r u → jk_J κ (wn u) (pc + 3) lv (.long r :: st) (cells + rm.cells) (slots + rm.slots)) : jk_J κ ws pc lv st0 cells slots := by
  intro H locs ls hl hP hD hS
  subst hst
  subst hqn
  have hPc := hP.sub (ws' := wc) isC (jk_fm hC)
  have hDc := hD.sub (ws' := wc) isC hndC hC
  have hFc := va_free (wc := wc) hD hS C.2.2.2.2.2.2.1 isC hC
  rw [← C.2.2.2.2.2.2.2.1] at hR hf
  refine va_calll (va_runV (As := As) (rest := st) ⟨C.1, C.2.1, C.2.2.1.1, C.2.2.2.1, C.2.2.2.2.1⟩ (hM H.size) (cwV n C.2.2.2.2.1 hg rfl rfl rfl hd hR) ⟨jk_blind, va_recv C.2.2.2.2.2.1 hPc hcl he, fun U hU hW => ⟨rfl, by rw [hU], by rw [hU]; exact hPc, va_K.moved hW.alike C.2.2.2.2.2.1, hDc.weaken (fun _ _ _ _ => trivial)⟩⟩ rfl hn hl.1 rfl (lv_room hW8) hdg hf) hS (fun q _ h => hFc q h) hFc (fun r u t H1 locs ht hvm hw hB hz1 hk1 hS => ?_)
  obtain ⟨hP1, hK1, hD1⟩ := hB
  rw [ht] at hP1
  obtain ⟨hP2, hD2⟩ := va_join (wr := wr) (w1 := wf u) hP hD isC isR hC hRr hnd hdis hk1 hFc hP1 hD1
  exact kk r u hw H1 locs ls hl (hP2.sub ps (jk_fm (hwn u))) (hD2.sub ps hnp (hwn u)) hS
theorem j_callVl0 {post : Int64 → S → Prop} (C : jk_C κ cc own R nL tys) (hM : jm_l (jk_l κ) (jk_G κ) tys y bytes maxL rm (.ref a :: As) ws wf post) (hg : GoodIn tb (wsV own index Cn y (Cond.code y bytes maxL (some .long) :: tb))) (hd : y.cls = Cn ∧ y.cls ≠ "java/lang/invoke/MethodHandle" ∧ y.cls ≠ "java/lang/invoke/VarHandle" ∧ (parseMethodDescriptor y.desc).map (fun d => d.parameters.length) = some n) (hR : rm.frames + 1 ≤ R.frames ∧ 8 + (maxL + 11) + rm.locals ≤ R.locals) (hn : As.length = n) (he : ws[q0]? = some (a, .inr (ci, fs))) (hcl : classes[ci]? = some qc) (hqn : qc.1 = Cn) 
    (hst : st0 = As.reverse ++ .ref a :: st) (hW8 : (st.map fun v => v.category).sum ≤ 8) (hdg : decode cc pc = .ok (.invokevirtual index, 3)) (hf : cells + rm.cells ≤ R.cells ∧ slots + rm.slots ≤ R.slots)
    (kk : ∀ (r : Int64) (u : S), post r u → jk_J κ (wf u) (pc + 3) lv (.long r :: st) (cells + rm.cells) (slots + rm.slots)) : jk_J κ ws pc lv st0 cells slots := by
  intro H locs ls hl hP hD hS
  subst hst
  subst hqn
  have hPc := hP
  have hFc : ∀ q, va_A ws H.size q → jk_A κ q := fun q h => h.elim (fun ⟨k, e, hk⟩ => hD.2 k _ hk) (fun h => C.2.2.2.2.2.2.1 q (Nat.le_trans hS.1 h))
  rw [← C.2.2.2.2.2.2.2.1] at hR hf
  refine va_calll (va_runV (As := As) (rest := st) ⟨C.1, C.2.1, C.2.2.1.1, C.2.2.2.1, C.2.2.2.2.1⟩ (hM H.size) (cwV n C.2.2.2.2.1 hg rfl rfl rfl hd hR) ⟨jk_blind, va_recv C.2.2.2.2.2.1 hPc hcl he, fun U hU hW => ⟨rfl, by rw [hU], by rw [hU]; exact hPc, va_K.moved hW.alike C.2.2.2.2.2.1, hD.weaken (fun _ _ _ _ => trivial)⟩⟩ rfl hn hl.1 rfl (lv_room hW8) hdg hf) hS (fun q _ h => hFc q h) hFc (fun r u t H1 locs ht hvm hw hB hz1 hk1 hS => ?_)
  obtain ⟨hP1, hK1, hD1⟩ := hB
  rw [ht] at hP1
  exact kk r u hw H1 locs ls hl hP1 (hD1.weaken (fun _ _ _ h => hFc _ h)) hS
theorem jx_callVl0 {post : Int64 → S → Prop} {px : String → S → Prop} {ret0 : Option FieldType} {Qc : Array Value → State → Outcome → State → Prop} {mc ms : Nat} (C : jk_C κ cc own R nL tys) (Z : jk_Cz κ) (E : jk_Ex κ ret0 Qc (vx_X (fun u : String × S => px u.1 u.2) (jk_X (jk_G κ) tys (jk_A κ) wf) (jk_A κ)) mc ms) (hM : jx_l (jk_l κ) (jk_G κ) tys y bytes maxL rm (.ref a :: As) ws wf post px) (hg : GoodIn tb (wsV own index Cn y (Cond.code y bytes maxL (some .long) :: tb))) (hd : y.cls = Cn ∧ y.cls ≠ "java/lang/invoke/MethodHandle" ∧ y.cls ≠ "java/lang/invoke/VarHandle" ∧ (parseMethodDescriptor y.desc).map (fun d => d.parameters.length) = some n) (hR : rm.frames + 1 ≤ R.frames ∧ 8 + (maxL + 11) + rm.locals ≤ R.locals) (hn : As.length = n) (he : ws[q0]? = some (a, .inr (ci, fs))) (hcl : classes[ci]? = some qc) (hqn : qc.1 = Cn) 
    (hst : st0 = As.reverse ++ .ref a :: st) (hW8 : (st.map fun v => v.category).sum ≤ 8) (hdg : decode cc pc = .ok (.invokevirtual index, 3)) (hf : cells + rm.cells ≤ R.cells ∧ slots + rm.slots ≤ R.slots) (hmc : cells + rm.cells ≤ mc) (hms : slots + rm.slots ≤ ms)
    (kk : ∀ (r : Int64) (u : S), post r u → jk_J κ (wf u) (pc + 3) lv (.long r :: st) (cells + rm.cells) (slots + rm.slots)) : jk_J κ ws pc lv st0 cells slots := by
  intro H locs ls hl hP hD hS
  subst hst
  subst hqn
  have hPc := hP
  have hFc : ∀ q, va_A ws H.size q → jk_A κ q := fun q h => h.elim (fun ⟨k, e, hk⟩ => hD.2 k _ hk) (fun h => C.2.2.2.2.2.2.1 q (Nat.le_trans hS.1 h))
  rw [← C.2.2.2.2.2.2.2.1] at hR hf
  refine vx_calll (vx_runV (As := As) (rest := st) ⟨C.1, C.2.1, C.2.2.1.1, C.2.2.2.1, C.2.2.2.2.1⟩ (hM H.size) (cwV n C.2.2.2.2.1 hg rfl rfl rfl hd hR) ⟨jk_blindx, va_recv C.2.2.2.2.2.1 hPc hcl he, fun U hU hW => ⟨rfl, ⟨by rw [hU], by rw [hU]; exact hPc, va_K.moved hW.alike C.2.2.2.2.2.1, hD.weaken (fun _ _ _ _ => trivial)⟩, jk_Zmv Z.2.2 hS hFc hU hW⟩⟩ rfl hn hl.1 rfl (lv_room hW8) hdg hf) hS (fun q _ h => hFc q h) hFc (fun q _ h => hFc q h) (fun E1 ce q9 u t H1 locs ht hvm hw hB hz1 hk1 hS hce hcv hcl => ?_) (fun r u t H1 locs ht hvm hw hB hz1 hk1 hS => ?_)
  · obtain ⟨hE1, hP1, hK1, hD1⟩ := hB
    rw [ht] at hP1
    rw [E.2]
    exact vx_out (fun x hx => (Z.2.1 x hx).elim) C.2.2.2.2.2.2.2.2 hce hcv hcl (fun t' ht' ha' => ⟨u, hw, ⟨hE1, by rw [ht']; exact hP1, va_K.moved ha' C.2.2.2.2.2.1, hD1.weaken (fun _ _ _ h => hFc _ h)⟩, hS.F ht'⟩) hS.2.2 hmc hms
  · obtain ⟨hP1, hK1, hD1⟩ := hB
    rw [ht] at hP1
    exact kk r u hw H1 locs ls hl hP1 (hD1.weaken (fun _ _ _ h => hFc _ h)) hS
theorem j_callSl {post : Int64 → S → Prop} (C : jk_C κ cc own R nL tys) (hM : jm_l (jk_l κ) (jk_G κ) tys y bytes maxL rm As wc wf post) (hg : GoodIn tb (va_wsS own index y (Cond.code y bytes maxL (some .long) :: tb))) (hd : y.cls ≠ "java/lang/invoke/MethodHandle" ∧ y.cls ≠ "java/lang/invoke/VarHandle" ∧ (parseMethodDescriptor y.desc).map (fun d => d.parameters.length) = some n) (hR : rm.frames + 1 ≤ R.frames ∧ 8 + (maxL + 11) + rm.locals ≤ R.locals) (hn : As.length = n) 
    (isC isR : List Nat) (hC : isC.map (fun i => ws[i]?) = wc.map some) (hRr : isR.map (fun i => ws[i]?) = wr.map some) (hnd : va_nd isR = true) (hdis : ∀ i ∈ isR, i ∉ isC) (hndC : va_nd isC = true) (hst : st0 = As.reverse ++ st) (hW8 : (st.map fun v => v.category).sum ≤ 8) (hdg : decode cc pc = .ok (.invokestatic index, 3)) (hf : cells + rm.cells ≤ R.cells ∧ slots + rm.slots ≤ R.slots)
    {wn : S → va_W} (ps : List Nat) (hnp : va_nd ps = true) (hwn : ∀ u, ps.map (fun i => (wr ++ wf u)[i]?) = (wn u).map some)
    (kk : ∀ (r : Int64) (u : S), post r u → jk_J κ (wn u) (pc + 3) lv (.long r :: st) (cells + rm.cells) (slots + rm.slots)) : jk_J κ ws pc lv st0 cells slots := by
  intro H locs ls hl hP hD hS
  subst hst
  have hPc := hP.sub (ws' := wc) isC (jk_fm hC)
  have hDc := hD.sub (ws' := wc) isC hndC hC
  have hFc := va_free (wc := wc) hD hS C.2.2.2.2.2.2.1 isC hC
  rw [← C.2.2.2.2.2.2.2.1] at hR hf
  refine va_calll (va_runS (As := As) (rest := st) ⟨C.1, C.2.1, C.2.2.1.1, C.2.2.2.1, C.2.2.2.2.1⟩ (hM H.size) (va_cwS n C.2.2.2.2.1 hg rfl rfl rfl hd hR) ⟨jk_blind, fun U hU hW => ⟨rfl, by rw [hU], by rw [hU]; exact hPc, va_K.moved hW.alike C.2.2.2.2.2.1, hDc.weaken (fun _ _ _ _ => trivial)⟩⟩ rfl hn hl.1 rfl (lv_room hW8) hdg hf) hS (fun q _ h => hFc q h) hFc (fun r u t H1 locs ht hvm hw hB hz1 hk1 hS => ?_)
  obtain ⟨hP1, hK1, hD1⟩ := hB
  rw [ht] at hP1
  obtain ⟨hP2, hD2⟩ := va_join (wr := wr) (w1 := wf u) hP hD isC isR hC hRr hnd hdis hk1 hFc hP1 hD1
  exact kk r u hw H1 locs ls hl (hP2.sub ps (jk_fm (hwn u))) (hD2.sub ps hnp (hwn u)) hS
theorem j_callSl0 {post : Int64 → S → Prop} (C : jk_C κ cc own R nL tys) (hM : jm_l (jk_l κ) (jk_G κ) tys y bytes maxL rm As ws wf post) (hg : GoodIn tb (va_wsS own index y (Cond.code y bytes maxL (some .long) :: tb))) (hd : y.cls ≠ "java/lang/invoke/MethodHandle" ∧ y.cls ≠ "java/lang/invoke/VarHandle" ∧ (parseMethodDescriptor y.desc).map (fun d => d.parameters.length) = some n) (hR : rm.frames + 1 ≤ R.frames ∧ 8 + (maxL + 11) + rm.locals ≤ R.locals) (hn : As.length = n) 
    (hst : st0 = As.reverse ++ st) (hW8 : (st.map fun v => v.category).sum ≤ 8) (hdg : decode cc pc = .ok (.invokestatic index, 3)) (hf : cells + rm.cells ≤ R.cells ∧ slots + rm.slots ≤ R.slots)
    (kk : ∀ (r : Int64) (u : S), post r u → jk_J κ (wf u) (pc + 3) lv (.long r :: st) (cells + rm.cells) (slots + rm.slots)) : jk_J κ ws pc lv st0 cells slots := by
  intro H locs ls hl hP hD hS
  subst hst
  have hPc := hP
  have hFc : ∀ q, va_A ws H.size q → jk_A κ q := fun q h => h.elim (fun ⟨k, e, hk⟩ => hD.2 k _ hk) (fun h => C.2.2.2.2.2.2.1 q (Nat.le_trans hS.1 h))
  rw [← C.2.2.2.2.2.2.2.1] at hR hf
  refine va_calll (va_runS (As := As) (rest := st) ⟨C.1, C.2.1, C.2.2.1.1, C.2.2.2.1, C.2.2.2.2.1⟩ (hM H.size) (va_cwS n C.2.2.2.2.1 hg rfl rfl rfl hd hR) ⟨jk_blind, fun U hU hW => ⟨rfl, by rw [hU], by rw [hU]; exact hPc, va_K.moved hW.alike C.2.2.2.2.2.1, hD.weaken (fun _ _ _ _ => trivial)⟩⟩ rfl hn hl.1 rfl (lv_room hW8) hdg hf) hS (fun q _ h => hFc q h) hFc (fun r u t H1 locs ht hvm hw hB hz1 hk1 hS => ?_)
  obtain ⟨hP1, hK1, hD1⟩ := hB
  rw [ht] at hP1
  exact kk r u hw H1 locs ls hl hP1 (hD1.weaken (fun _ _ _ h => hFc _ h)) hS
theorem jx_callSl0 {post : Int64 → S → Prop} {px : String → S → Prop} {ret0 : Option FieldType} {Qc : Array Value → State → Outcome → State → Prop} {mc ms : Nat} (C : jk_C κ cc own R nL tys) (Z : jk_Cz κ) (E : jk_Ex κ ret0 Qc (vx_X (fun u : String × S => px u.1 u.2) (jk_X (jk_G κ) tys (jk_A κ) wf) (jk_A κ)) mc ms) (hM : jx_l (jk_l κ) (jk_G κ) tys y bytes maxL rm As ws wf post px) (hg : GoodIn tb (va_wsS own index y (Cond.code y bytes maxL (some .long) :: tb))) (hd : y.cls ≠ "java/lang/invoke/MethodHandle" ∧ y.cls ≠ "java/lang/invoke/VarHandle" ∧ (parseMethodDescriptor y.desc).map (fun d => d.parameters.length) = some n) (hR : rm.frames + 1 ≤ R.frames ∧ 8 + (maxL + 11) + rm.locals ≤ R.locals) (hn : As.length = n) 
    (hst : st0 = As.reverse ++ st) (hW8 : (st.map fun v => v.category).sum ≤ 8) (hdg : decode cc pc = .ok (.invokestatic index, 3)) (hf : cells + rm.cells ≤ R.cells ∧ slots + rm.slots ≤ R.slots) (hmc : cells + rm.cells ≤ mc) (hms : slots + rm.slots ≤ ms)
    (kk : ∀ (r : Int64) (u : S), post r u → jk_J κ (wf u) (pc + 3) lv (.long r :: st) (cells + rm.cells) (slots + rm.slots)) : jk_J κ ws pc lv st0 cells slots := by
  intro H locs ls hl hP hD hS
  subst hst
  have hPc := hP
  have hFc : ∀ q, va_A ws H.size q → jk_A κ q := fun q h => h.elim (fun ⟨k, e, hk⟩ => hD.2 k _ hk) (fun h => C.2.2.2.2.2.2.1 q (Nat.le_trans hS.1 h))
  rw [← C.2.2.2.2.2.2.2.1] at hR hf
  refine vx_calll (vx_runS (As := As) (rest := st) ⟨C.1, C.2.1, C.2.2.1.1, C.2.2.2.1, C.2.2.2.2.1⟩ (hM H.size) (va_cwS n C.2.2.2.2.1 hg rfl rfl rfl hd hR) ⟨jk_blindx, fun U hU hW => ⟨rfl, ⟨by rw [hU], by rw [hU]; exact hPc, va_K.moved hW.alike C.2.2.2.2.2.1, hD.weaken (fun _ _ _ _ => trivial)⟩, jk_Zmv Z.2.2 hS hFc hU hW⟩⟩ rfl hn hl.1 rfl (lv_room hW8) hdg hf) hS (fun q _ h => hFc q h) hFc (fun q _ h => hFc q h) (fun E1 ce q9 u t H1 locs ht hvm hw hB hz1 hk1 hS hce hcv hcl => ?_) (fun r u t H1 locs ht hvm hw hB hz1 hk1 hS => ?_)
  · obtain ⟨hE1, hP1, hK1, hD1⟩ := hB
    rw [ht] at hP1
    rw [E.2]
    exact vx_out (fun x hx => (Z.2.1 x hx).elim) C.2.2.2.2.2.2.2.2 hce hcv hcl (fun t' ht' ha' => ⟨u, hw, ⟨hE1, by rw [ht']; exact hP1, va_K.moved ha' C.2.2.2.2.2.1, hD1.weaken (fun _ _ _ h => hFc _ h)⟩, hS.F ht'⟩) hS.2.2 hmc hms
  · obtain ⟨hP1, hK1, hD1⟩ := hB
    rw [ht] at hP1
    exact kk r u hw H1 locs ls hl hP1 (hD1.weaken (fun _ _ _ h => hFc _ h)) hS
theorem jk_goodI {y : MethodName} {b : ByteArray} {n : Nat} {ret : Option FieldType} (h5 : Cond.code y b n ret ∈ tb) : GoodIn tb (Cond.code y b n ret :: tb) := by
  intro w hw
  have hm : w ∈ tb := by
    rcases List.mem_cons.mp hw with rfl | hw
    · exact h5
    · exact hw
  exact ⟨hm, good_of_word (tb_good w hm)⟩
theorem j_callI {post : S → Prop} (C : jk_C κ cc own R nL tys) (hM : jm_v (jk_l κ) (jk_G κ) tys y bytes maxL rm (.ref a :: As) wc wf post) (hg : GoodIn tb (Cond.code y bytes maxL none :: tb)) (h1 : Cond.initialized y.cls ∈ tb) (h2 : Cond.methodLink own index y ∈ tb) (h3 : Cond.instanceMethod y ∈ tb) (hy1 : y.name = "<init>") (hd : y.cls ≠ "java/lang/invoke/MethodHandle" ∧ y.cls ≠ "java/lang/invoke/VarHandle" ∧ (parseMethodDescriptor y.desc).map (fun d => d.parameters.length) = some n) (hR : rm.frames + 1 ≤ R.frames ∧ 8 + (maxL + 11) + rm.locals ≤ R.locals) (hn : As.length = n)
    (isC isR : List Nat) (hC : isC.map (fun i => ws[i]?) = wc.map some) (hRr : isR.map (fun i => ws[i]?) = wr.map some) (hnd : va_nd isR = true) (hdis : ∀ i ∈ isR, i ∉ isC) (hndC : va_nd isC = true) (hst : st0 = As.reverse ++ .ref a :: st) (hW8 : (st.map fun v => v.category).sum ≤ 8) (hdg : decode cc pc = .ok (.invokespecial index, 3)) (hf : cells + rm.cells ≤ R.cells ∧ slots + rm.slots ≤ R.slots)
    {wn : S → va_W} (ps : List Nat) (hnp : va_nd ps = true) (hwn : ∀ u, ps.map (fun i => (wr ++ wf u)[i]?) = (wn u).map some)
    (kk : ∀ (u : S), post u → jk_J κ (wn u) (pc + 3) lv st (cells + rm.cells) (slots + rm.slots)) : jk_J κ ws pc lv st0 cells slots := by
  intro H locs ls hl hP hD hS
  subst hst
  have hPc := hP.sub (ws' := wc) isC (jk_fm hC)
  have hDc := hD.sub (ws' := wc) isC hndC hC
  have hFc := va_free (wc := wc) hD hS C.2.2.2.2.2.2.1 isC hC
  rw [← C.2.2.2.2.2.2.2.1] at hR hf
  refine va_callv (va_runI (As := As) (rest := st) ⟨C.1, C.2.1, C.2.2.1.1, C.2.2.2.1, C.2.2.2.2.1⟩ (hM H.size) (cwI n C.2.2.2.2.1 hg rfl rfl rfl (C.2.2.2.2.1 _ h1) (C.2.2.2.2.1 _ h2) (C.2.2.2.2.1 _ h3) hy1 hd hR) ⟨jk_blind, fun U hU hW => ⟨rfl, by rw [hU], by rw [hU]; exact hPc, va_K.moved hW.alike C.2.2.2.2.2.1, hDc.weaken (fun _ _ _ _ => trivial)⟩⟩ rfl hn hl.1 rfl (lv_room hW8) hdg hf) hS (fun q _ h => hFc q h) hFc (fun u t H1 locs ht hvm hw hB hz1 hk1 hS => ?_)
  obtain ⟨hP1, hK1, hD1⟩ := hB
  rw [ht] at hP1
  obtain ⟨hP2, hD2⟩ := va_join (wr := wr) (w1 := wf u) hP hD isC isR hC hRr hnd hdis hk1 hFc hP1 hD1
  exact kk u hw H1 locs ls hl (hP2.sub ps (jk_fm (hwn u))) (hD2.sub ps hnp (hwn u)) hS
end jk_calls
/-- 'throw new E("text")' in a method without a table -/
theorem jx_throwS {κ : jk_K} {cc : ByteArray} {own : String} {R : Room} {nL : Nat} {tys : List (ClassId × FieldType)} {pc : Nat} {lv : List (Nat × Value)} {cells slots : Nat} {S : Type} {wf : S → va_W} {mc ms : Nat} {ret0 : Option FieldType} {Qc : Array Value → State → Outcome → State → Prop} {px : String → S → Prop} (C : jk_C κ cc own R nL tys) (Z : jk_Cz κ) (E : jk_Ex κ ret0 Qc (vx_X (fun u : String × S => px u.1 u.2) (jk_X (jk_G κ) tys (jk_A κ) wf) (jk_A κ)) mc ms) {cls text : String} {names : List String} {ik is ic : Nat}
    (hcls : Bundle.fit cls = true) (hnames : ∀ n ∈ names, Bundle.fit n = true) (hk : Cond.classLink own ik cls ∈ tb) (hini : Cond.initialized cls ∈ tb) (hlit : (own, is, text) ∈ jk_lits) (hat : ∀ w ∈ vx_atS own ic cls names, (w ∈ tb ∨ w ∈ jk_oth) ∧ vx_ot w = true)
    (d0 : decode cc pc = .ok (.new ik, 3)) (d3 : decode cc (pc + 3) = .ok (.dup, 1)) (d4 : decode cc (pc + 4) = .ok (.ldc is, 2)) (d6 : decode cc (pc + 6) = .ok (.invokespecial ic, 3)) (d9 : decode cc (pc + 9) = .ok (.athrow, 1))
    (hRframes : names.length + 3 < R.frames) (hRlocals : (13 * (names.length + 1) + 43) ≤ R.locals) (hRcells : cells + 1 ≤ R.cells) (hRslots : slots + 6 ≤ R.slots) (hc : cells + 1 ≤ mc) (hs : slots + 6 ≤ ms) {u : S} (h : px cls u) : jk_J κ (wf u) pc lv [] cells slots := by
  intro H locs ls hl hP hD hS
  unfold jk_W
  rw [E.2]
  rw [← C.2.2.2.2.2.2.2.1] at hRframes hRlocals hRcells hRslots
  obtain ⟨sa, hstr⟩ := Z.2.2.2.2.1 _ hlit
  refine vx_throwS C.1 C.2.1 Z.1 C.2.2.2.1 hcls hnames (C.2.2.2.2.1 _ hk) (C.2.2.2.2.1 _ hini) hstr (fun w hw => (hat w hw).1.elim (fun h => C.2.2.2.2.1 w h) (fun h => va_any (jk_onT w h) (Z.2.2.2.2.2.2 _ h))) (fun w hw => ?_) Z.2.2.1 Z.2.2.2.1 hS (by rw [hl.1]; exact C.2.2.1.1.symm) d0 d3 d4 d6 d9 (fun x hx => (Z.2.1 x hx).elim) hRframes (by simpa using hRlocals) hRcells hRslots C.2.2.2.2.2.2.2.2 (fun t ha hz hq => ⟨(cls, u), h, ⟨rfl, hP.kept (fun k q hk => hq q.1 ((hP k q hk).lt)), va_K.moved ha C.2.2.2.2.2.1, hD⟩, ⟨Nat.le_trans hS.1 hz, fun q h1 h2 => (hq q (Nat.lt_of_lt_of_le h1 hS.1)).trans (hS.2.1 q h1 h2)⟩⟩) hS.2.2 hc hs
  rcases List.mem_cons.mp hw with rfl | hw
  · simp only [vx_ot, tb_good _ hk, Bool.or_true]
  rcases List.mem_cons.mp hw with rfl | hw
  · simp only [vx_ot, tb_good _ hini, Bool.or_true]
  exact (hat w hw).2
