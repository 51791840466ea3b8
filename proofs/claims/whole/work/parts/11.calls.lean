/-- what a method is given: the heap's size, the world, the tables -/
def jk_P (G : va_G) (tys : List (ClassId × FieldType)) (ws : va_W) (sz : Nat) (U : State) : Prop := U.heap.size = sz ∧ va_P G classes ws U.heap ∧ va_K G classes tys U ∧ va_D (fun _ => True) ws
def jk_isO : Cond → Bool
  | .castable .. => true
  | .declares _ => true
  | _ => false
/-- words of the tables that are no good words, moved -/
theorem jk_om {u U : State} (hvm : u.vm.Alike U.vm) {w : Cond} (hw : jk_isO w = true) (h : w.before #[] u = true) : w.before #[] U = true := by
  have tr : ∀ {c : Cond}, c.onTables = true → c.before #[] (u.setVm U.vm) = true → c.before #[] U = true := by
    intro c hc h
    have e := Cond.onTables_vm (A := #[]) (A' := #[]) (U := u) (U' := U) U.vm c hc
    have hU : U.setVm U.vm = U := rfl
    rw [hU] at e
    rw [← e]
    exact h
  cases w <;> first | (simp [jk_isO] at hw; done) | exact tr rfl (by rw [Cond.declares_setVm hvm]; exact h) | exact tr rfl (by rw [Cond.castable_setVm hvm]; exact h)
theorem jk_onT : ∀ w ∈ jk_oth, w.onTables = true := by decide +kernel
theorem jk_othO : ∀ w ∈ jk_oth, jk_isO w = true := by decide +kernel
/-- what a throw needs of the heap, outside A -/
def jk_Z (A : Nat → Prop) (U : State) : Prop := vx_Zq Bundle.tN "UNASSIGNED_STACK" Bundle.steD A U U.heap ∧ vx_Zq Bundle.tN "SUPPRESSED_SENTINEL" Bundle.listD A U U.heap ∧ (∀ q ∈ jk_lits, ∃ sa : Nat, vk_R q.1 q.2.1 q.2.2 sa U) ∧ (∀ q ∈ jk_ncs, va_Nc q.1 q.2 U) ∧ ∀ w ∈ jk_oth, w.before #[] U = true
/-- what a method leaves -/
def jk_B {S : Type} (G : va_G) (tys : List (ClassId × FieldType)) (A : Nat → Prop) (wf : S → va_W) (u : S) (t : State) : Prop := va_P G classes (wf u) t.heap ∧ va_K G classes tys t ∧ va_D A (wf u)
def jk_X {S : Type} (G : va_G) (tys : List (ClassId × FieldType)) (A : Nat → Prop) (wf : S → va_W) (E : String) (u : String × S) (t : State) : Prop := E = u.1 ∧ jk_B G tys A wf u.2 t
def jk_E (κ : jk_K) (ret : Option FieldType) (Qc : Array Value → State → Outcome → State → Prop) (mc ms : Nat) : Prop := (jk_t κ).sig.returnType = ret ∧ jk_Q κ = MQ (jk_b κ) Qc (jk_a κ) (jk_s κ) mc ms (jk_A κ)
def jk_Ex (κ : jk_K) (ret : Option FieldType) (Qc : Array Value → State → Outcome → State → Prop) (XC : String → State → State → Prop) (mc ms : Nat) : Prop := (jk_t κ).sig.returnType = ret ∧ jk_Q κ = vx_MQ (jk_b κ) Qc XC (jk_a κ) (jk_s κ) mc ms (jk_A κ)
def jk_Cz (κ : jk_K) : Prop := (jk_l κ).stackTraces = false ∧ (∀ x ∈ (jk_c κ).exceptionTable.toList, False) ∧ jk_Z (jk_A κ) (jk_s κ)
/-- the cells of a part, and those that are new -/
theorem jk_free {A0 : Nat → Prop} {ws wc : va_W} {H0 H : Heap} {locs : List Loc} (hD : va_D A0 ws) (hS : va_S A0 H0 H locs) (hA : ∀ q, H0.size ≤ q → A0 q) (isC : List Nat) (hC : isC.map (fun i => ws[i]?) = wc.map some) : ∀ q, va_A wc H.size q → A0 q := va_free hD hS hA isC hC
theorem jk_Zmv {A B : Nat → Prop} {s U : State} {H : Heap} {locs : List Loc} (h : jk_Z A s) (hS : va_S A s.heap H locs) (hAB : ∀ q, B q → A q) (hU : U.heap = H) (hW : s.WarmedH U.vm) : jk_Z B U := by
  obtain ⟨h1, h2, h3, h4⟩ := h
  refine ⟨?_, ?_, fun q hq => ?_, fun q hq => va_Nc.moved hW.alike (h4.1 q hq), fun w hw => jk_om hW.alike (jk_othO w hw) (h4.2 w hw)⟩
  · rw [hU]; exact vx_Zq.moved hW.alike ((h1.kept hS.2.1).narrow hAB)
  · rw [hU]; exact vx_Zq.moved hW.alike ((h2.kept hS.2.1).narrow hAB)
  · obtain ⟨sa, h⟩ := h3 q hq
    exact ⟨sa, vk_R.warm hW h⟩
theorem jk_Zcall {A : Nat → Prop} {U : State} {g : JFrame} {mk : MethodId} {a : Array Value} (h : jk_Z A U) : jk_Z A (U.calling g mk a) := by
  obtain ⟨h1, h2, h3, h4⟩ := h
  refine ⟨vx_Zq.moved (u := U) (U := U.calling g mk a) (Vm.Alike.refl U.vm) h1, vx_Zq.moved (u := U) (U := U.calling g mk a) (Vm.Alike.refl U.vm) h2, fun q hq => ?_, fun q hq => va_Nc.moved (u := U) (U := U.calling g mk a) (Vm.Alike.refl U.vm) (h4.1 q hq), fun w hw => jk_om (u := U) (U := U.calling g mk a) (Vm.Alike.refl U.vm) (jk_othO w hw) (h4.2 w hw)⟩
  obtain ⟨sa, h⟩ := h3 q hq
  exact ⟨sa, vk_R.same rfl h⟩
theorem jk_blind {G : va_G} {tys : List (ClassId × FieldType)} {ws : va_W} {sz : Nat} {vs : List Value} : FrameBlind (va_Pc vs (jk_P G tys ws sz)) := fun a U g mk q => by
  obtain ⟨q0, q1, qP, qK, qD⟩ := q
  exact ⟨q0, q1, qP, va_K.moved (u := U) (U := U.calling g mk a) (Vm.Alike.refl U.vm) qK, qD⟩
theorem jk_blindx {G : va_G} {tys : List (ClassId × FieldType)} {ws : va_W} {sz : Nat} {vs : List Value} : FrameBlind (va_Pc vs (fun U => jk_P G tys ws sz U ∧ jk_Z (va_A ws sz) U)) := fun a U g mk q => by
  obtain ⟨q0, ⟨q1, qP, qK, qD⟩, qZ⟩ := q
  exact ⟨q0, ⟨q1, qP, va_K.moved (u := U) (U := U.calling g mk a) (Vm.Alike.refl U.vm) qK, qD⟩, jk_Zcall qZ⟩
theorem jk_goodV {own : String} {idx : Nat} {C : String} {y : MethodName} {b : ByteArray} {n : Nat} {ret : Option FieldType} (h1 : Cond.methodLink own idx y ∈ tb) (h2 : Cond.instanceMethod y ∈ tb) (h3 : Cond.selects C y y ∈ tb) (h4 : Cond.initialized C ∈ tb) (h5 : Cond.code y b n ret ∈ tb) : GoodIn tb (wsV own idx C y (Cond.code y b n ret :: tb)) := by
  intro w hw
  have hm : w ∈ tb := by
    simp only [wsV, List.mem_append, List.mem_cons, List.not_mem_nil, or_false] at hw
    rcases hw with (rfl | rfl | rfl | rfl) | rfl | hw <;> assumption
  exact ⟨hm, good_of_word (tb_good w hm)⟩
theorem jk_goodS {own : String} {idx : Nat} {y : MethodName} {b : ByteArray} {n : Nat} {ret : Option FieldType} (h1 : Cond.methodLink own idx y ∈ tb) (h2 : Cond.static y ∈ tb) (h3 : Cond.initialized y.cls ∈ tb) (h5 : Cond.code y b n ret ∈ tb) : GoodIn tb (va_wsS own idx y (Cond.code y b n ret :: tb)) := by
  intro w hw
  have hm : w ∈ tb := by
    simp only [va_wsS, List.mem_append, List.mem_cons, List.not_mem_nil, or_false] at hw
    rcases hw with (rfl | rfl | rfl) | rfl | hw <;> assumption
  exact ⟨hm, good_of_word (tb_good w hm)⟩

def jm_v (l : Launch) (G : va_G) (tys : List (ClassId × FieldType)) (y : MethodName) (b : ByteArray) (maxL : Nat) (rm : Room) (vs : List Value) (ws : va_W) {S : Type} (wf : S → va_W) (post : S → Prop) : Prop := ∀ sz : Nat, Met l y (Cond.code y b maxL none :: tb) rm (va_Pc vs (jk_P G tys ws sz)) (va_Qv post (jk_B G tys (va_A ws sz) wf) (va_A ws sz)) rm.cells rm.slots (va_A ws sz)
def jx_v (l : Launch) (G : va_G) (tys : List (ClassId × FieldType)) (y : MethodName) (b : ByteArray) (maxL : Nat) (rm : Room) (vs : List Value) (ws : va_W) {S : Type} (wf : S → va_W) (post : S → Prop) (px : String → S → Prop) : Prop := ∀ sz : Nat, vx_Met l y (Cond.code y b maxL none :: tb) rm (va_Pc vs (fun U => jk_P G tys ws sz U ∧ jk_Z (va_A ws sz) U)) (va_Qv post (jk_B G tys (va_A ws sz) wf) (va_A ws sz)) (vx_X (fun u : String × S => px u.1 u.2) (jk_X G tys (va_A ws sz) wf) (va_A ws sz)) rm.cells rm.slots (va_A ws sz)
def jm_i (l : Launch) (G : va_G) (tys : List (ClassId × FieldType)) (y : MethodName) (b : ByteArray) (maxL : Nat) (ty : FieldType) (rm : Room) (vs : List Value) (ws : va_W) {S : Type} (wf : S → va_W) (post : Int32 → S → Prop) : Prop := ∀ sz : Nat, Met l y (Cond.code y b maxL (some ty) :: tb) rm (va_Pc vs (jk_P G tys ws sz)) (va_Qi post (jk_B G tys (va_A ws sz) wf) (va_A ws sz)) rm.cells rm.slots (va_A ws sz)
def jx_i (l : Launch) (G : va_G) (tys : List (ClassId × FieldType)) (y : MethodName) (b : ByteArray) (maxL : Nat) (ty : FieldType) (rm : Room) (vs : List Value) (ws : va_W) {S : Type} (wf : S → va_W) (post : Int32 → S → Prop) (px : String → S → Prop) : Prop := ∀ sz : Nat, vx_Met l y (Cond.code y b maxL (some ty) :: tb) rm (va_Pc vs (fun U => jk_P G tys ws sz U ∧ jk_Z (va_A ws sz) U)) (va_Qi post (jk_B G tys (va_A ws sz) wf) (va_A ws sz)) (vx_X (fun u : String × S => px u.1 u.2) (jk_X G tys (va_A ws sz) wf) (va_A ws sz)) rm.cells rm.slots (va_A ws sz)
def jm_l (l : Launch) (G : va_G) (tys : List (ClassId × FieldType)) (y : MethodName) (b : ByteArray) (maxL : Nat) (rm : Room) (vs : List Value) (ws : va_W) {S : Type} (wf : S → va_W) (post : Int64 → S → Prop) : Prop := ∀ sz : Nat, Met l y (Cond.code y b maxL (some .long) :: tb) rm (va_Pc vs (jk_P G tys ws sz)) (va_Ql post (jk_B G tys (va_A ws sz) wf) (va_A ws sz)) rm.cells rm.slots (va_A ws sz)
def jx_l (l : Launch) (G : va_G) (tys : List (ClassId × FieldType)) (y : MethodName) (b : ByteArray) (maxL : Nat) (rm : Room) (vs : List Value) (ws : va_W) {S : Type} (wf : S → va_W) (post : Int64 → S → Prop) (px : String → S → Prop) : Prop := ∀ sz : Nat, vx_Met l y (Cond.code y b maxL (some .long) :: tb) rm (va_Pc vs (fun U => jk_P G tys ws sz U ∧ jk_Z (va_A ws sz) U)) (va_Ql post (jk_B G tys (va_A ws sz) wf) (va_A ws sz)) (vx_X (fun u : String × S => px u.1 u.2) (jk_X G tys (va_A ws sz) wf) (va_A ws sz)) rm.cells rm.slots (va_A ws sz)
section jk_ends
variable {κ : jk_K} {cc : ByteArray} {own : String} {R : Room} {nL : Nat} {tys : List (ClassId × FieldType)} {ws : va_W} {pc : Nat} {lv : List (Nat × Value)} {st : List Value} {cells slots : Nat} {S : Type} {wf : S → va_W} {mc ms : Nat} {XC : String → State → State → Prop}
theorem j_vret {post : S → Prop} (C : jk_C κ cc own R nL tys) (E : jk_E κ none (va_Qv post (jk_B (jk_G κ) tys (jk_A κ) wf) (jk_A κ)) mc ms) {u : S} (h : post u) (hc : cells ≤ mc) (hs : slots ≤ ms) (hdg : decode cc pc = .ok (.return_, 1)) : jk_J κ (wf u) pc lv [] cells slots := by
  intro H locs ls hl hP hD hS
  unfold jk_W
  rw [E.2]
  refine W.widen hc hs ?_
  exact W.vret C.1 C.2.1 E.1 (fun t ht hW => ⟨⟨u, rfl, h, by rw [ht]; exact hP, va_K.moved hW.alike C.2.2.2.2.2.1, hD⟩, hS.F ht⟩) hS.2.2 hdg C.2.2.2.2.2.2.2.2
theorem jx_vret {post : S → Prop} (C : jk_C κ cc own R nL tys) (E : jk_Ex κ none (va_Qv post (jk_B (jk_G κ) tys (jk_A κ) wf) (jk_A κ)) XC mc ms) {u : S} (h : post u) (hc : cells ≤ mc) (hs : slots ≤ ms) (hdg : decode cc pc = .ok (.return_, 1)) : jk_J κ (wf u) pc lv [] cells slots := by
  intro H locs ls hl hP hD hS
  unfold jk_W
  rw [E.2]
  refine vx_ret ?_
  refine W.widen hc hs ?_
  exact W.vret C.1 C.2.1 E.1 (fun t ht hW => ⟨⟨u, rfl, h, by rw [ht]; exact hP, va_K.moved hW.alike C.2.2.2.2.2.1, hD⟩, hS.F ht⟩) hS.2.2 hdg C.2.2.2.2.2.2.2.2
theorem j_iret {post : Int32 → S → Prop} (C : jk_C κ cc own R nL tys) (E : jk_E κ (some .int) (va_Qi post (jk_B (jk_G κ) tys (jk_A κ) wf) (jk_A κ)) mc ms) {u : S} {v : Int32} (h : post v u) (hc : cells ≤ mc) (hs : slots ≤ ms) (hdg : decode cc pc = .ok (.ireturn, 1)) : jk_J κ (wf u) pc lv [.int v] cells slots := by
  intro H locs ls hl hP hD hS
  unfold jk_W
  rw [E.2]
  refine W.widen hc hs ?_
  exact W.iret C.1 C.2.1 E.1 (fun t ht hW => ⟨⟨v, u, rfl, h, by rw [ht]; exact hP, va_K.moved hW.alike C.2.2.2.2.2.1, hD⟩, hS.F ht⟩) hS.2.2 hdg C.2.2.2.2.2.2.2.2
theorem jx_iret {post : Int32 → S → Prop} (C : jk_C κ cc own R nL tys) (E : jk_Ex κ (some .int) (va_Qi post (jk_B (jk_G κ) tys (jk_A κ) wf) (jk_A κ)) XC mc ms) {u : S} {v : Int32} (h : post v u) (hc : cells ≤ mc) (hs : slots ≤ ms) (hdg : decode cc pc = .ok (.ireturn, 1)) : jk_J κ (wf u) pc lv [.int v] cells slots := by
  intro H locs ls hl hP hD hS
  unfold jk_W
  rw [E.2]
  refine vx_ret ?_
  refine W.widen hc hs ?_
  exact W.iret C.1 C.2.1 E.1 (fun t ht hW => ⟨⟨v, u, rfl, h, by rw [ht]; exact hP, va_K.moved hW.alike C.2.2.2.2.2.1, hD⟩, hS.F ht⟩) hS.2.2 hdg C.2.2.2.2.2.2.2.2
theorem j_zret {post : Int32 → S → Prop} {ty : FieldType} (C : jk_C κ cc own R nL tys) (E : jk_E κ (some ty) (va_Qi post (jk_B (jk_G κ) tys (jk_A κ) wf) (jk_A κ)) mc ms) {u : S} {v : Int32} (h : post v u) (hn : narrow ty (.int v) = .int v) (hc : cells ≤ mc) (hs : slots ≤ ms) (hdg : decode cc pc = .ok (.ireturn, 1)) : jk_J κ (wf u) pc lv [.int v] cells slots := by
  intro H locs ls hl hP hD hS
  unfold jk_W
  rw [E.2]
  refine W.widen hc hs ?_
  exact W.zret C.1 C.2.1 E.1 hn (fun t ht hW => ⟨⟨v, u, rfl, h, by rw [ht]; exact hP, va_K.moved hW.alike C.2.2.2.2.2.1, hD⟩, hS.F ht⟩) hS.2.2 hdg C.2.2.2.2.2.2.2.2
theorem jx_zret {post : Int32 → S → Prop} {ty : FieldType} (C : jk_C κ cc own R nL tys) (E : jk_Ex κ (some ty) (va_Qi post (jk_B (jk_G κ) tys (jk_A κ) wf) (jk_A κ)) XC mc ms) {u : S} {v : Int32} (h : post v u) (hn : narrow ty (.int v) = .int v) (hc : cells ≤ mc) (hs : slots ≤ ms) (hdg : decode cc pc = .ok (.ireturn, 1)) : jk_J κ (wf u) pc lv [.int v] cells slots := by
  intro H locs ls hl hP hD hS
  unfold jk_W
  rw [E.2]
  refine vx_ret ?_
  refine W.widen hc hs ?_
  exact W.zret C.1 C.2.1 E.1 hn (fun t ht hW => ⟨⟨v, u, rfl, h, by rw [ht]; exact hP, va_K.moved hW.alike C.2.2.2.2.2.1, hD⟩, hS.F ht⟩) hS.2.2 hdg C.2.2.2.2.2.2.2.2
theorem j_lret {post : Int64 → S → Prop} (C : jk_C κ cc own R nL tys) (E : jk_E κ (some .long) (va_Ql post (jk_B (jk_G κ) tys (jk_A κ) wf) (jk_A κ)) mc ms) {u : S} {v : Int64} (h : post v u) (hc : cells ≤ mc) (hs : slots ≤ ms) (hdg : decode cc pc = .ok (.lreturn, 1)) : jk_J κ (wf u) pc lv [.long v] cells slots := by
  intro H locs ls hl hP hD hS
  unfold jk_W
  rw [E.2]
  refine W.widen hc hs ?_
  exact W.lret C.1 C.2.1 E.1 (fun t ht hW => ⟨⟨v, u, rfl, h, by rw [ht]; exact hP, va_K.moved hW.alike C.2.2.2.2.2.1, hD⟩, hS.F ht⟩) hS.2.2 hdg C.2.2.2.2.2.2.2.2
theorem jx_lret {post : Int64 → S → Prop} (C : jk_C κ cc own R nL tys) (E : jk_Ex κ (some .long) (va_Ql post (jk_B (jk_G κ) tys (jk_A κ) wf) (jk_A κ)) XC mc ms) {u : S} {v : Int64} (h : post v u) (hc : cells ≤ mc) (hs : slots ≤ ms) (hdg : decode cc pc = .ok (.lreturn, 1)) : jk_J κ (wf u) pc lv [.long v] cells slots := by
  intro H locs ls hl hP hD hS
  unfold jk_W
  rw [E.2]
  refine vx_ret ?_
  refine W.widen hc hs ?_
  exact W.lret C.1 C.2.1 E.1 (fun t ht hW => ⟨⟨v, u, rfl, h, by rw [ht]; exact hP, va_K.moved hW.alike C.2.2.2.2.2.1, hD⟩, hS.F ht⟩) hS.2.2 hdg C.2.2.2.2.2.2.2.2
end jk_ends
theorem jm_open_v {l : Launch} {G : va_G} {tys : List (ClassId × FieldType)} {y : MethodName} {b : ByteArray} {maxL : Nat} {rm : Room} {vs : List Value} {ws : va_W} {S : Type} {wf : S → va_W} {post : S → Prop} (hy : plainName y.cls = true) (hvs : (lg_sl vs).length ≤ maxL)
    (body : ∀ κ : jk_K, jk_l κ = l → jk_G κ = G → jk_C κ b y.cls rm maxL tys → jk_E κ none (va_Qv post (jk_B (jk_G κ) tys (jk_A κ) wf) (jk_A κ)) rm.cells rm.slots → (y.name = "<init>" → (jk_t κ).name = "<init>") → jk_J κ ws 0 (lv_args 0 vs) [] 0 0) : jm_v l G tys y b maxL rm vs ws wf post := by
  intro sz
  refine Met.ofW (cc := b) (maxL := maxL) (ret := none) hy rfl ?_
  intro p e s m args below meth c s₁ B hml hv
  obtain ⟨rfl, hsz, hP, hK, hD0⟩ := hv
  have hts := atoms_spec (ws := Cond.code y b maxL none :: tb) B.pre
  have hown : s.vm.findClass y.cls = some m.cls := findClass_of_methodNamed B.named
  subst hsz
  rw [lg_entry_eq]
  exact body (p, l, e, rm, s, m, vs.toArray, below, meth, c, maxL, G, va_A ws s.heap.size, MQ below (va_Qv post (jk_B G tys (va_A ws s.heap.size) wf) (va_A ws s.heap.size)) vs.toArray s rm.cells rm.slots (va_A ws s.heap.size)) rfl rfl ⟨B.exec, B.bytes, ⟨hml, rfl⟩, hown, fun w h => hts w (List.mem_cons_of_mem _ h), hK, fun q h => Or.inr h, rfl, B.notSynchronized⟩ ⟨B.returns, rfl⟩ (fun hn => (name_of_methodNamed B.named B.method).1.trans hn) s.heap [] _ (lv_entry vs hvs) hP hD0.self va_S.rf
theorem jx_open_v {l : Launch} {G : va_G} {tys : List (ClassId × FieldType)} {y : MethodName} {b : ByteArray} {maxL : Nat} {rm : Room} {vs : List Value} {ws : va_W} {S : Type} {wf : S → va_W} {post : S → Prop} {px : String → S → Prop} (hlt : l.stackTraces = false) (hy : plainName y.cls = true) (hvs : (lg_sl vs).length ≤ maxL)
    (body : ∀ κ : jk_K, jk_l κ = l → jk_G κ = G → jk_C κ b y.cls rm maxL tys → jk_Cz κ → jk_Ex κ none (va_Qv post (jk_B (jk_G κ) tys (jk_A κ) wf) (jk_A κ)) (vx_X (fun u : String × S => px u.1 u.2) (jk_X (jk_G κ) tys (jk_A κ) wf) (jk_A κ)) rm.cells rm.slots → jk_J κ ws 0 (lv_args 0 vs) [] 0 0) : jx_v l G tys y b maxL rm vs ws wf post px := by
  intro sz
  refine vx_ofW (cc := b) (maxL := maxL) (ret := none) hy rfl ?_
  intro p e s m args below meth c s₁ B hml hex hv
  obtain ⟨rfl, ⟨hsz, hP, hK, hD0⟩, hZ⟩ := hv
  have hts := atoms_spec (ws := Cond.code y b maxL none :: tb) B.pre
  have hown : s.vm.findClass y.cls = some m.cls := findClass_of_methodNamed B.named
  subst hsz
  rw [lg_entry_eq]
  exact body (p, l, e, rm, s, m, vs.toArray, below, meth, c, maxL, G, va_A ws s.heap.size, vx_MQ below (va_Qv post (jk_B G tys (va_A ws s.heap.size) wf) (va_A ws s.heap.size)) (vx_X (fun u : String × S => px u.1 u.2) (jk_X G tys (va_A ws s.heap.size) wf) (va_A ws s.heap.size)) vs.toArray s rm.cells rm.slots (va_A ws s.heap.size)) rfl rfl ⟨B.exec, B.bytes, ⟨hml, rfl⟩, hown, fun w h => hts w (List.mem_cons_of_mem _ h), hK, fun q h => Or.inr h, rfl, B.notSynchronized⟩ ⟨hlt, hex, hZ⟩ ⟨B.returns, rfl⟩ s.heap [] _ (lv_entry vs hvs) hP hD0.self va_S.rf
theorem jm_open_i {l : Launch} {G : va_G} {tys : List (ClassId × FieldType)} {y : MethodName} {b : ByteArray} {maxL : Nat} {ty : FieldType} {rm : Room} {vs : List Value} {ws : va_W} {S : Type} {wf : S → va_W} {post : Int32 → S → Prop} (hy : plainName y.cls = true) (hvs : (lg_sl vs).length ≤ maxL)
    (body : ∀ κ : jk_K, jk_l κ = l → jk_G κ = G → jk_C κ b y.cls rm maxL tys → jk_E κ (some ty) (va_Qi post (jk_B (jk_G κ) tys (jk_A κ) wf) (jk_A κ)) rm.cells rm.slots → (y.name = "<init>" → (jk_t κ).name = "<init>") → jk_J κ ws 0 (lv_args 0 vs) [] 0 0) : jm_i l G tys y b maxL ty rm vs ws wf post := by
  intro sz
  refine Met.ofW (cc := b) (maxL := maxL) (ret := (some ty)) hy rfl ?_
  intro p e s m args below meth c s₁ B hml hv
  obtain ⟨rfl, hsz, hP, hK, hD0⟩ := hv
  have hts := atoms_spec (ws := Cond.code y b maxL (some ty) :: tb) B.pre
  have hown : s.vm.findClass y.cls = some m.cls := findClass_of_methodNamed B.named
  subst hsz
  rw [lg_entry_eq]
  exact body (p, l, e, rm, s, m, vs.toArray, below, meth, c, maxL, G, va_A ws s.heap.size, MQ below (va_Qi post (jk_B G tys (va_A ws s.heap.size) wf) (va_A ws s.heap.size)) vs.toArray s rm.cells rm.slots (va_A ws s.heap.size)) rfl rfl ⟨B.exec, B.bytes, ⟨hml, rfl⟩, hown, fun w h => hts w (List.mem_cons_of_mem _ h), hK, fun q h => Or.inr h, rfl, B.notSynchronized⟩ ⟨B.returns, rfl⟩ (fun hn => (name_of_methodNamed B.named B.method).1.trans hn) s.heap [] _ (lv_entry vs hvs) hP hD0.self va_S.rf
theorem jx_open_i {l : Launch} {G : va_G} {tys : List (ClassId × FieldType)} {y : MethodName} {b : ByteArray} {maxL : Nat} {ty : FieldType} {rm : Room} {vs : List Value} {ws : va_W} {S : Type} {wf : S → va_W} {post : Int32 → S → Prop} {px : String → S → Prop} (hlt : l.stackTraces = false) (hy : plainName y.cls = true) (hvs : (lg_sl vs).length ≤ maxL)
    (body : ∀ κ : jk_K, jk_l κ = l → jk_G κ = G → jk_C κ b y.cls rm maxL tys → jk_Cz κ → jk_Ex κ (some ty) (va_Qi post (jk_B (jk_G κ) tys (jk_A κ) wf) (jk_A κ)) (vx_X (fun u : String × S => px u.1 u.2) (jk_X (jk_G κ) tys (jk_A κ) wf) (jk_A κ)) rm.cells rm.slots → jk_J κ ws 0 (lv_args 0 vs) [] 0 0) : jx_i l G tys y b maxL ty rm vs ws wf post px := by
  intro sz
  refine vx_ofW (cc := b) (maxL := maxL) (ret := (some ty)) hy rfl ?_
  intro p e s m args below meth c s₁ B hml hex hv
  obtain ⟨rfl, ⟨hsz, hP, hK, hD0⟩, hZ⟩ := hv
  have hts := atoms_spec (ws := Cond.code y b maxL (some ty) :: tb) B.pre
  have hown : s.vm.findClass y.cls = some m.cls := findClass_of_methodNamed B.named
  subst hsz
  rw [lg_entry_eq]
  exact body (p, l, e, rm, s, m, vs.toArray, below, meth, c, maxL, G, va_A ws s.heap.size, vx_MQ below (va_Qi post (jk_B G tys (va_A ws s.heap.size) wf) (va_A ws s.heap.size)) (vx_X (fun u : String × S => px u.1 u.2) (jk_X G tys (va_A ws s.heap.size) wf) (va_A ws s.heap.size)) vs.toArray s rm.cells rm.slots (va_A ws s.heap.size)) rfl rfl ⟨B.exec, B.bytes, ⟨hml, rfl⟩, hown, fun w h => hts w (List.mem_cons_of_mem _ h), hK, fun q h => Or.inr h, rfl, B.notSynchronized⟩ ⟨hlt, hex, hZ⟩ ⟨B.returns, rfl⟩ s.heap [] _ (lv_entry vs hvs) hP hD0.self va_S.rf
theorem jm_open_l {l : Launch} {G : va_G} {tys : List (ClassId × FieldType)} {y : MethodName} {b : ByteArray} {maxL : Nat} {rm : Room} {vs : List Value} {ws : va_W} {S : Type} {wf : S → va_W} {post : Int64 → S → Prop} (hy : plainName y.cls = true) (hvs : (lg_sl vs).length ≤ maxL)
    (body : ∀ κ : jk_K, jk_l κ = l → jk_G κ = G → jk_C κ b y.cls rm maxL tys → jk_E κ (some .long) (va_Ql post (jk_B (jk_G κ) tys (jk_A κ) wf) (jk_A κ)) rm.cells rm.slots → (y.name = "<init>" → (jk_t κ).name = "<init>") → jk_J κ ws 0 (lv_args 0 vs) [] 0 0) : jm_l l G tys y b maxL rm vs ws wf post := by
  intro sz
  refine Met.ofW (cc := b) (maxL := maxL) (ret := (some .long)) hy rfl ?_
  intro p e s m args below meth c s₁ B hml hv
  obtain ⟨rfl, hsz, hP, hK, hD0⟩ := hv
  have hts := atoms_spec (ws := Cond.code y b maxL (some .long) :: tb) B.pre
  have hown : s.vm.findClass y.cls = some m.cls := findClass_of_methodNamed B.named
  subst hsz
  rw [lg_entry_eq]
  exact body (p, l, e, rm, s, m, vs.toArray, below, meth, c, maxL, G, va_A ws s.heap.size, MQ below (va_Ql post (jk_B G tys (va_A ws s.heap.size) wf) (va_A ws s.heap.size)) vs.toArray s rm.cells rm.slots (va_A ws s.heap.size)) rfl rfl ⟨B.exec, B.bytes, ⟨hml, rfl⟩, hown, fun w h => hts w (List.mem_cons_of_mem _ h), hK, fun q h => Or.inr h, rfl, B.notSynchronized⟩ ⟨B.returns, rfl⟩ (fun hn => (name_of_methodNamed B.named B.method).1.trans hn) s.heap [] _ (lv_entry vs hvs) hP hD0.self va_S.rf
theorem jx_open_l {l : Launch} {G : va_G} {tys : List (ClassId × FieldType)} {y : MethodName} {b : ByteArray} {maxL : Nat} {rm : Room} {vs : List Value} {ws : va_W} {S : Type} {wf : S → va_W} {post : Int64 → S → Prop} {px : String → S → Prop} (hlt : l.stackTraces = false) (hy : plainName y.cls = true) (hvs : (lg_sl vs).length ≤ maxL)
    (body : ∀ κ : jk_K, jk_l κ = l → jk_G κ = G → jk_C κ b y.cls rm maxL tys → jk_Cz κ → jk_Ex κ (some .long) (va_Ql post (jk_B (jk_G κ) tys (jk_A κ) wf) (jk_A κ)) (vx_X (fun u : String × S => px u.1 u.2) (jk_X (jk_G κ) tys (jk_A κ) wf) (jk_A κ)) rm.cells rm.slots → jk_J κ ws 0 (lv_args 0 vs) [] 0 0) : jx_l l G tys y b maxL rm vs ws wf post px := by
  intro sz
  refine vx_ofW (cc := b) (maxL := maxL) (ret := (some .long)) hy rfl ?_
  intro p e s m args below meth c s₁ B hml hex hv
  obtain ⟨rfl, ⟨hsz, hP, hK, hD0⟩, hZ⟩ := hv
  have hts := atoms_spec (ws := Cond.code y b maxL (some .long) :: tb) B.pre
  have hown : s.vm.findClass y.cls = some m.cls := findClass_of_methodNamed B.named
  subst hsz
  rw [lg_entry_eq]
  exact body (p, l, e, rm, s, m, vs.toArray, below, meth, c, maxL, G, va_A ws s.heap.size, vx_MQ below (va_Ql post (jk_B G tys (va_A ws s.heap.size) wf) (va_A ws s.heap.size)) (vx_X (fun u : String × S => px u.1 u.2) (jk_X G tys (va_A ws s.heap.size) wf) (va_A ws s.heap.size)) vs.toArray s rm.cells rm.slots (va_A ws s.heap.size)) rfl rfl ⟨B.exec, B.bytes, ⟨hml, rfl⟩, hown, fun w h => hts w (List.mem_cons_of_mem _ h), hK, fun q h => Or.inr h, rfl, B.notSynchronized⟩ ⟨hlt, hex, hZ⟩ ⟨B.returns, rfl⟩ s.heap [] _ (lv_entry vs hvs) hP hD0.self va_S.rf
section jk_calls
variable {κ : jk_K} {cc : ByteArray} {own : String} {R : Room} {nL : Nat} {tys : List (ClassId × FieldType)} {ws : va_W} {pc : Nat} {lv : List (Nat × Value)} {st st0 : List Value} {cells slots : Nat} {S : Type} {wf : S → va_W}
variable {y : MethodName} {bytes : ByteArray} {maxL index n a q0 ci : Nat} {rm : Room} {As : List Value} {wc wr : va_W} {Cn : String} {fs : List Value} {qc : vw_C}
theorem j_callVv {post : S → Prop} (C : jk_C κ cc own R nL tys) (hM : jm_v (jk_l κ) (jk_G κ) tys y bytes maxL rm (.ref a :: As) wc wf post) (hg : GoodIn tb (wsV own index Cn y (Cond.code y bytes maxL none :: tb))) (hd : y.cls = Cn ∧ y.cls ≠ "java/lang/invoke/MethodHandle" ∧ y.cls ≠ "java/lang/invoke/VarHandle" ∧ (parseMethodDescriptor y.desc).map (fun d => d.parameters.length) = some n) (hR : rm.frames + 1 ≤ R.frames ∧ 8 + (maxL + 11) + rm.locals ≤ R.locals) (hn : As.length = n) (he : wc[q0]? = some (a, .inr (ci, fs))) (hcl : classes[ci]? = some qc) (hqn : qc.1 = Cn) 
    (isC isR : List Nat) (hC : isC.map (fun i => ws[i]?) = wc.map some) (hRr : isR.map (fun i => ws[i]?) = wr.map some) (hnd : va_nd isR = true) (hdis : ∀ i ∈ isR, i ∉ isC) (hndC : va_nd isC = true) (hst : st0 = As.reverse ++ .ref a :: st) (hW8 : (st.map fun v => v.category).sum ≤ 8) (hdg : decode cc pc = .ok (.invokevirtual index, 3)) (hf : cells + rm.cells ≤ R.cells ∧ slots + rm.slots ≤ R.slots)
    {wn : S → va_W} (ps : List Nat) (hnp : va_nd ps = true) (hwn : ∀ u, ps.map (fun i => (wr ++ wf u)[i]?) = (wn u).map some)
    (kk : ∀ (u : S), post u → jk_J κ (wn u) (pc + 3) lv st (cells + rm.cells) (slots + rm.slots)) : jk_J κ ws pc lv st0 cells slots := by
  intro H locs ls hl hP hD hS
  subst hst
  subst hqn
  have hPc := hP.sub (ws' := wc) isC (jk_fm hC)
  have hDc := hD.sub (ws' := wc) isC hndC hC
  have hFc := va_free (wc := wc) hD hS C.2.2.2.2.2.2.1 isC hC
  rw [← C.2.2.2.2.2.2.2.1] at hR hf
  refine va_callv (va_runV (As := As) (rest := st) ⟨C.1, C.2.1, C.2.2.1.1, C.2.2.2.1, C.2.2.2.2.1⟩ (hM H.size) (cwV n C.2.2.2.2.1 hg rfl rfl rfl hd hR) ⟨jk_blind, va_recv C.2.2.2.2.2.1 hPc hcl he, fun U hU hW => ⟨rfl, by rw [hU], by rw [hU]; exact hPc, va_K.moved hW.alike C.2.2.2.2.2.1, hDc.weaken (fun _ _ _ _ => trivial)⟩⟩ rfl hn hl.1 rfl (lv_room hW8) hdg hf) hS (fun q _ h => hFc q h) hFc (fun u t H1 locs ht hvm hw hB hz1 hk1 hS => ?_)
  obtain ⟨hP1, hK1, hD1⟩ := hB
  rw [ht] at hP1
  obtain ⟨hP2, hD2⟩ := va_join (wr := wr) (w1 := wf u) hP hD isC isR hC hRr hnd hdis hk1 hFc hP1 hD1
  exact kk u hw H1 locs ls hl (hP2.sub ps (jk_fm (hwn u))) (hD2.sub ps hnp (hwn u)) hS
theorem j_callVv0 {post : S → Prop} (C : jk_C κ cc own R nL tys) (hM : jm_v (jk_l κ) (jk_G κ) tys y bytes maxL rm (.ref a :: As) ws wf post) (hg : GoodIn tb (wsV own index Cn y (Cond.code y bytes maxL none :: tb))) (hd : y.cls = Cn ∧ y.cls ≠ "java/lang/invoke/MethodHandle" ∧ y.cls ≠ "java/lang/invoke/VarHandle" ∧ (parseMethodDescriptor y.desc).map (fun d => d.parameters.length) = some n) (hR : rm.frames + 1 ≤ R.frames ∧ 8 + (maxL + 11) + rm.locals ≤ R.locals) (hn : As.length = n) (he : ws[q0]? = some (a, .inr (ci, fs))) (hcl : classes[ci]? = some qc) (hqn : qc.1 = Cn) 
    (hst : st0 = As.reverse ++ .ref a :: st) (hW8 : (st.map fun v => v.category).sum ≤ 8) (hdg : decode cc pc = .ok (.invokevirtual index, 3)) (hf : cells + rm.cells ≤ R.cells ∧ slots + rm.slots ≤ R.slots)
    (kk : ∀ (u : S), post u → jk_J κ (wf u) (pc + 3) lv st (cells + rm.cells) (slots + rm.slots)) : jk_J κ ws pc lv st0 cells slots := by
  intro H locs ls hl hP hD hS
  subst hst
  subst hqn
  have hPc := hP
  have hFc : ∀ q, va_A ws H.size q → jk_A κ q := fun q h => h.elim (fun ⟨k, e, hk⟩ => hD.2 k _ hk) (fun h => C.2.2.2.2.2.2.1 q (Nat.le_trans hS.1 h))
  rw [← C.2.2.2.2.2.2.2.1] at hR hf
  refine va_callv (va_runV (As := As) (rest := st) ⟨C.1, C.2.1, C.2.2.1.1, C.2.2.2.1, C.2.2.2.2.1⟩ (hM H.size) (cwV n C.2.2.2.2.1 hg rfl rfl rfl hd hR) ⟨jk_blind, va_recv C.2.2.2.2.2.1 hPc hcl he, fun U hU hW => ⟨rfl, by rw [hU], by rw [hU]; exact hPc, va_K.moved hW.alike C.2.2.2.2.2.1, hD.weaken (fun _ _ _ _ => trivial)⟩⟩ rfl hn hl.1 rfl (lv_room hW8) hdg hf) hS (fun q _ h => hFc q h) hFc (fun u t H1 locs ht hvm hw hB hz1 hk1 hS => ?_)
  obtain ⟨hP1, hK1, hD1⟩ := hB
  rw [ht] at hP1
  exact kk u hw H1 locs ls hl hP1 (hD1.weaken (fun _ _ _ h => hFc _ h)) hS
theorem jx_callVv0 {post : S → Prop} {px : String → S → Prop} {ret0 : Option FieldType} {Qc : Array Value → State → Outcome → State → Prop} {mc ms : Nat} (C : jk_C κ cc own R nL tys) (Z : jk_Cz κ) (E : jk_Ex κ ret0 Qc (vx_X (fun u : String × S => px u.1 u.2) (jk_X (jk_G κ) tys (jk_A κ) wf) (jk_A κ)) mc ms) (hM : jx_v (jk_l κ) (jk_G κ) tys y bytes maxL rm (.ref a :: As) ws wf post px) (hg : GoodIn tb (wsV own index Cn y (Cond.code y bytes maxL none :: tb))) (hd : y.cls = Cn ∧ y.cls ≠ "java/lang/invoke/MethodHandle" ∧ y.cls ≠ "java/lang/invoke/VarHandle" ∧ (parseMethodDescriptor y.desc).map (fun d => d.parameters.length) = some n) (hR : rm.frames + 1 ≤ R.frames ∧ 8 + (maxL + 11) + rm.locals ≤ R.locals) (hn : As.length = n) (he : ws[q0]? = some (a, .inr (ci, fs))) (hcl : classes[ci]? = some qc) (hqn : qc.1 = Cn) 
    (hst : st0 = As.reverse ++ .ref a :: st) (hW8 : (st.map fun v => v.category).sum ≤ 8) (hdg : decode cc pc = .ok (.invokevirtual index, 3)) (hf : cells + rm.cells ≤ R.cells ∧ slots + rm.slots ≤ R.slots) (hmc : cells + rm.cells ≤ mc) (hms : slots + rm.slots ≤ ms)
    (kk : ∀ (u : S), post u → jk_J κ (wf u) (pc + 3) lv st (cells + rm.cells) (slots + rm.slots)) : jk_J κ ws pc lv st0 cells slots := by
  intro H locs ls hl hP hD hS
  subst hst
  subst hqn
  have hPc := hP
  have hFc : ∀ q, va_A ws H.size q → jk_A κ q := fun q h => h.elim (fun ⟨k, e, hk⟩ => hD.2 k _ hk) (fun h => C.2.2.2.2.2.2.1 q (Nat.le_trans hS.1 h))
  rw [← C.2.2.2.2.2.2.2.1] at hR hf
  refine vx_callv (vx_runV (As := As) (rest := st) ⟨C.1, C.2.1, C.2.2.1.1, C.2.2.2.1, C.2.2.2.2.1⟩ (hM H.size) (cwV n C.2.2.2.2.1 hg rfl rfl rfl hd hR) ⟨jk_blindx, va_recv C.2.2.2.2.2.1 hPc hcl he, fun U hU hW => ⟨rfl, ⟨by rw [hU], by rw [hU]; exact hPc, va_K.moved hW.alike C.2.2.2.2.2.1, hD.weaken (fun _ _ _ _ => trivial)⟩, jk_Zmv Z.2.2 hS hFc hU hW⟩⟩ rfl hn hl.1 rfl (lv_room hW8) hdg hf) hS (fun q _ h => hFc q h) hFc (fun q _ h => hFc q h) (fun E1 ce q9 u t H1 locs ht hvm hw hB hz1 hk1 hS hce hcv hcl => ?_) (fun u t H1 locs ht hvm hw hB hz1 hk1 hS => ?_)
  · obtain ⟨hE1, hP1, hK1, hD1⟩ := hB
    rw [ht] at hP1
    rw [E.2]
    exact vx_out (fun x hx => (Z.2.1 x hx).elim) C.2.2.2.2.2.2.2.2 hce hcv hcl (fun t' ht' ha' => ⟨u, hw, ⟨hE1, by rw [ht']; exact hP1, va_K.moved ha' C.2.2.2.2.2.1, hD1.weaken (fun _ _ _ h => hFc _ h)⟩, hS.F ht'⟩) hS.2.2 hmc hms
  · obtain ⟨hP1, hK1, hD1⟩ := hB
    rw [ht] at hP1
    exact kk u hw H1 locs ls hl hP1 (hD1.weaken (fun _ _ _ h => hFc _ h)) hS
theorem j_callSv {post : S → Prop} (C : jk_C κ cc own R nL tys) (hM : jm_v (jk_l κ) (jk_G κ) tys y bytes maxL rm As wc wf post) (hg : GoodIn tb (va_wsS own index y (Cond.code y bytes maxL none :: tb))) (hd : y.cls ≠ "java/lang/invoke/MethodHandle" ∧ y.cls ≠ "java/lang/invoke/VarHandle" ∧ (parseMethodDescriptor y.desc).map (fun d => d.parameters.length) = some n) (hR : rm.frames + 1 ≤ R.frames ∧ 8 + (maxL + 11) + rm.locals ≤ R.locals) (hn : As.length = n) 
    (isC isR : List Nat) (hC : isC.map (fun i => ws[i]?) = wc.map some) (hRr : isR.map (fun i => ws[i]?) = wr.map some) (hnd : va_nd isR = true) (hdis : ∀ i ∈ isR, i ∉ isC) (hndC : va_nd isC = true) (hst : st0 = As.reverse ++ st) (hW8 : (st.map fun v => v.category).sum ≤ 8) (hdg : decode cc pc = .ok (.invokestatic index, 3)) (hf : cells + rm.cells ≤ R.cells ∧ slots + rm.slots ≤ R.slots)
    {wn : S → va_W} (ps : List Nat) (hnp : va_nd ps = true) (hwn : ∀ u, ps.map (fun i => (wr ++ wf u)[i]?) = (wn u).map some)
    (kk : ∀ (u : S), post u → jk_J κ (wn u) (pc + 3) lv st (cells + rm.cells) (slots + rm.slots)) : jk_J κ ws pc lv st0 cells slots := by
  intro H locs ls hl hP hD hS
  subst hst
  have hPc := hP.sub (ws' := wc) isC (jk_fm hC)
  have hDc := hD.sub (ws' := wc) isC hndC hC
  have hFc := va_free (wc := wc) hD hS C.2.2.2.2.2.2.1 isC hC
  rw [← C.2.2.2.2.2.2.2.1] at hR hf
  refine va_callv (va_runS (As := As) (rest := st) ⟨C.1, C.2.1, C.2.2.1.1, C.2.2.2.1, C.2.2.2.2.1⟩ (hM H.size) (va_cwS n C.2.2.2.2.1 hg rfl rfl rfl hd hR) ⟨jk_blind, fun U hU hW => ⟨rfl, by rw [hU], by rw [hU]; exact hPc, va_K.moved hW.alike C.2.2.2.2.2.1, hDc.weaken (fun _ _ _ _ => trivial)⟩⟩ rfl hn hl.1 rfl (lv_room hW8) hdg hf) hS (fun q _ h => hFc q h) hFc (fun u t H1 locs ht hvm hw hB hz1 hk1 hS => ?_)
  obtain ⟨hP1, hK1, hD1⟩ := hB
  rw [ht] at hP1
  obtain ⟨hP2, hD2⟩ := va_join (wr := wr) (w1 := wf u) hP hD isC isR hC hRr hnd hdis hk1 hFc hP1 hD1
  exact kk u hw H1 locs ls hl (hP2.sub ps (jk_fm (hwn u))) (hD2.sub ps hnp (hwn u)) hS
theorem j_callSv0 {post : S → Prop} (C : jk_C κ cc own R nL tys) (hM : jm_v (jk_l κ) (jk_G κ) tys y bytes maxL rm As ws wf post) (hg : GoodIn tb (va_wsS own index y (Cond.code y bytes maxL none :: tb))) (hd : y.cls ≠ "java/lang/invoke/MethodHandle" ∧ y.cls ≠ "java/lang/invoke/VarHandle" ∧ (parseMethodDescriptor y.desc).map (fun d => d.parameters.length) = some n) (hR : rm.frames + 1 ≤ R.frames ∧ 8 + (maxL + 11) + rm.locals ≤ R.locals) (hn : As.length = n) 
    (hst : st0 = As.reverse ++ st) (hW8 : (st.map fun v => v.category).sum ≤ 8) (hdg : decode cc pc = .ok (.invokestatic index, 3)) (hf : cells + rm.cells ≤ R.cells ∧ slots + rm.slots ≤ R.slots)
    (kk : ∀ (u : S), post u → jk_J κ (wf u) (pc + 3) lv st (cells + rm.cells) (slots + rm.slots)) : jk_J κ ws pc lv st0 cells slots := by
  intro H locs ls hl hP hD hS
  subst hst
  have hPc := hP
  have hFc : ∀ q, va_A ws H.size q → jk_A κ q := fun q h => h.elim (fun ⟨k, e, hk⟩ => hD.2 k _ hk) (fun h => C.2.2.2.2.2.2.1 q (Nat.le_trans hS.1 h))
  rw [← C.2.2.2.2.2.2.2.1] at hR hf
  refine va_callv (va_runS (As := As) (rest := st) ⟨C.1, C.2.1, C.2.2.1.1, C.2.2.2.1, C.2.2.2.2.1⟩ (hM H.size) (va_cwS n C.2.2.2.2.1 hg rfl rfl rfl hd hR) ⟨jk_blind, fun U hU hW => ⟨rfl, by rw [hU], by rw [hU]; exact hPc, va_K.moved hW.alike C.2.2.2.2.2.1, hD.weaken (fun _ _ _ _ => trivial)⟩⟩ rfl hn hl.1 rfl (lv_room hW8) hdg hf) hS (fun q _ h => hFc q h) hFc (fun u t H1 locs ht hvm hw hB hz1 hk1 hS => ?_)
  obtain ⟨hP1, hK1, hD1⟩ := hB
  rw [ht] at hP1
  exact kk u hw H1 locs ls hl hP1 (hD1.weaken (fun _ _ _ h => hFc _ h)) hS
theorem jx_callSv0 {post : S → Prop} {px : String → S → Prop} {ret0 : Option FieldType} {Qc : Array Value → State → Outcome → State → Prop} {mc ms : Nat} (C : jk_C κ cc own R nL tys) (Z : jk_Cz κ) (E : jk_Ex κ ret0 Qc (vx_X (fun u : String × S => px u.1 u.2) (jk_X (jk_G κ) tys (jk_A κ) wf) (jk_A κ)) mc ms) (hM : jx_v (jk_l κ) (jk_G κ) tys y bytes maxL rm As ws wf post px) (hg : GoodIn tb (va_wsS own index y (Cond.code y bytes maxL none :: tb))) (hd : y.cls ≠ "java/lang/invoke/MethodHandle" ∧ y.cls ≠ "java/lang/invoke/VarHandle" ∧ (parseMethodDescriptor y.desc).map (fun d => d.parameters.length) = some n) (hR : rm.frames + 1 ≤ R.frames ∧ 8 + (maxL + 11) + rm.locals ≤ R.locals) (hn : As.length = n) 
    (hst : st0 = As.reverse ++ st) (hW8 : (st.map fun v => v.category).sum ≤ 8) (hdg : decode cc pc = .ok (.invokestatic index, 3)) (hf : cells + rm.cells ≤ R.cells ∧ slots + rm.slots ≤ R.slots) (hmc : cells + rm.cells ≤ mc) (hms : slots + rm.slots ≤ ms)
    (kk : ∀ (u : S), post u → jk_J κ (wf u) (pc + 3) lv st (cells + rm.cells) (slots + rm.slots)) : jk_J κ ws pc lv st0 cells slots := by
  intro H locs ls hl hP hD hS
  subst hst
  have hPc := hP
  have hFc : ∀ q, va_A ws H.size q → jk_A κ q := fun q h => h.elim (fun ⟨k, e, hk⟩ => hD.2 k _ hk) (fun h => C.2.2.2.2.2.2.1 q (Nat.le_trans hS.1 h))
  rw [← C.2.2.2.2.2.2.2.1] at hR hf
  refine vx_callv (vx_runS (As := As) (rest := st) ⟨C.1, C.2.1, C.2.2.1.1, C.2.2.2.1, C.2.2.2.2.1⟩ (hM H.size) (va_cwS n C.2.2.2.2.1 hg rfl rfl rfl hd hR) ⟨jk_blindx, fun U hU hW => ⟨rfl, ⟨by rw [hU], by rw [hU]; exact hPc, va_K.moved hW.alike C.2.2.2.2.2.1, hD.weaken (fun _ _ _ _ => trivial)⟩, jk_Zmv Z.2.2 hS hFc hU hW⟩⟩ rfl hn hl.1 rfl (lv_room hW8) hdg hf) hS (fun q _ h => hFc q h) hFc (fun q _ h => hFc q h) (fun E1 ce q9 u t H1 locs ht hvm hw hB hz1 hk1 hS hce hcv hcl => ?_) (fun u t H1 locs ht hvm hw hB hz1 hk1 hS => ?_)
  · obtain ⟨hE1, hP1, hK1, hD1⟩ := hB
    rw [ht] at hP1
    rw [E.2]
    exact vx_out (fun x hx => (Z.2.1 x hx).elim) C.2.2.2.2.2.2.2.2 hce hcv hcl (fun t' ht' ha' => ⟨u, hw, ⟨hE1, by rw [ht']; exact hP1, va_K.moved ha' C.2.2.2.2.2.1, hD1.weaken (fun _ _ _ h => hFc _ h)⟩, hS.F ht'⟩) hS.2.2 hmc hms
  · obtain ⟨hP1, hK1, hD1⟩ := hB
    rw [ht] at hP1
    exact kk u hw H1 locs ls hl hP1 (hD1.weaken (fun _ _ _ h => hFc _ h)) hS
theorem j_callVi {ty : FieldType} {post : Int32 → S → Prop} (C : jk_C κ cc own R nL tys) (hM : jm_i (jk_l κ) (jk_G κ) tys y bytes maxL ty rm (.ref a :: As) wc wf post) (hg : GoodIn tb (wsV own index Cn y (Cond.code y bytes maxL (some ty) :: tb))) (hd : y.cls = Cn ∧ y.cls ≠ "java/lang/invoke/MethodHandle" ∧ y.cls ≠ "java/lang/invoke/VarHandle" ∧ (parseMethodDescriptor y.desc).map (fun d => d.parameters.length) = some n) (hR : rm.frames + 1 ≤ R.frames ∧ 8 + (maxL + 11) + rm.locals ≤ R.locals) (hn : As.length = n) (he : wc[q0]? = some (a, .inr (ci, fs))) (hcl : classes[ci]? = some qc) (hqn : qc.1 = Cn) 
    (isC isR : List Nat) (hC : isC.map (fun i => ws[i]?) = wc.map some) (hRr : isR.map (fun i => ws[i]?) = wr.map some) (hnd : va_nd isR = true) (hdis : ∀ i ∈ isR, i ∉ isC) (hndC : va_nd isC = true) (hst : st0 = As.reverse ++ .ref a :: st) (hW8 : (st.map fun v => v.category).sum ≤ 8) (hdg : decode cc pc = .ok (.invokevirtual index, 3)) (hf : cells + rm.cells ≤ R.cells ∧ slots + rm.slots ≤ R.slots)
    {wn : S → va_W} (ps : List Nat) (hnp : va_nd ps = true) (hwn : ∀ u, ps.map (fun i => (wr ++ wf u)[i]?) = (wn u).map some)
    (kk : ∀ (r : Int32) (u : S), post r u → jk_J κ (wn u) (pc + 3) lv (.int r :: st) (cells + rm.cells) (slots + rm.slots)) : jk_J κ ws pc lv st0 cells slots := by
  intro H locs ls hl hP hD hS
  subst hst
  subst hqn
  have hPc := hP.sub (ws' := wc) isC (jk_fm hC)
  have hDc := hD.sub (ws' := wc) isC hndC hC
  have hFc := va_free (wc := wc) hD hS C.2.2.2.2.2.2.1 isC hC
  rw [← C.2.2.2.2.2.2.2.1] at hR hf
  refine va_calli (va_runV (As := As) (rest := st) ⟨C.1, C.2.1, C.2.2.1.1, C.2.2.2.1, C.2.2.2.2.1⟩ (hM H.size) (cwV n C.2.2.2.2.1 hg rfl rfl rfl hd hR) ⟨jk_blind, va_recv C.2.2.2.2.2.1 hPc hcl he, fun U hU hW => ⟨rfl, by rw [hU], by rw [hU]; exact hPc, va_K.moved hW.alike C.2.2.2.2.2.1, hDc.weaken (fun _ _ _ _ => trivial)⟩⟩ rfl hn hl.1 rfl (lv_room hW8) hdg hf) hS (fun q _ h => hFc q h) hFc (fun r u t H1 locs ht hvm hw hB hz1 hk1 hS => ?_)
  obtain ⟨hP1, hK1, hD1⟩ := hB
  rw [ht] at hP1
  obtain ⟨hP2, hD2⟩ := va_join (wr := wr) (w1 := wf u) hP hD isC isR hC hRr hnd hdis hk1 hFc hP1 hD1
  exact kk r u hw H1 locs ls hl (hP2.sub ps (jk_fm (hwn u))) (hD2.sub ps hnp (hwn u)) hS
theorem j_callVi0 {ty : FieldType} {post : Int32 → S → Prop} (C : jk_C κ cc own R nL tys) (hM : jm_i (jk_l κ) (jk_G κ) tys y bytes maxL ty rm (.ref a :: As) ws wf post) (hg : GoodIn tb (wsV own index Cn y (Cond.code y bytes maxL (some ty) :: tb))) (hd : y.cls = Cn ∧ y.cls ≠ "java/lang/invoke/MethodHandle" ∧ y.cls ≠ "java/lang/invoke/VarHandle" ∧ (parseMethodDescriptor y.desc).map (fun d => d.parameters.length) = some n) (hR : rm.frames + 1 ≤ R.frames ∧ 8 + (maxL + 11) + rm.locals ≤ R.locals) (hn : As.length = n) (he : ws[q0]? = some (a, .inr (ci, fs))) (hcl : classes[ci]? = some qc) (hqn : qc.1 = Cn) 
    (hst : st0 = As.reverse ++ .ref a :: st) (hW8 : (st.map fun v => v.category).sum ≤ 8) (hdg : decode cc pc = .ok (.invokevirtual index, 3)) (hf : cells + rm.cells ≤ R.cells ∧ slots + rm.slots ≤ R.slots)
    (kk : ∀ (r : Int32) (u : S), post r u → jk_J κ (wf u) (pc + 3) lv (.int r :: st) (cells + rm.cells) (slots + rm.slots)) : jk_J κ ws pc lv st0 cells slots := by
  intro H locs ls hl hP hD hS
  subst hst
  subst hqn
  have hPc := hP
  have hFc : ∀ q, va_A ws H.size q → jk_A κ q := fun q h => h.elim (fun ⟨k, e, hk⟩ => hD.2 k _ hk) (fun h => C.2.2.2.2.2.2.1 q (Nat.le_trans hS.1 h))
  rw [← C.2.2.2.2.2.2.2.1] at hR hf
  refine va_calli (va_runV (As := As) (rest := st) ⟨C.1, C.2.1, C.2.2.1.1, C.2.2.2.1, C.2.2.2.2.1⟩ (hM H.size) (cwV n C.2.2.2.2.1 hg rfl rfl rfl hd hR) ⟨jk_blind, va_recv C.2.2.2.2.2.1 hPc hcl he, fun U hU hW => ⟨rfl, by rw [hU], by rw [hU]; exact hPc, va_K.moved hW.alike C.2.2.2.2.2.1, hD.weaken (fun _ _ _ _ => trivial)⟩⟩ rfl hn hl.1 rfl (lv_room hW8) hdg hf) hS (fun q _ h => hFc q h) hFc (fun r u t H1 locs ht hvm hw hB hz1 hk1 hS => ?_)
  obtain ⟨hP1, hK1, hD1⟩ := hB
  rw [ht] at hP1
  exact kk r u hw H1 locs ls hl hP1 (hD1.weaken (fun _ _ _ h => hFc _ h)) hS
theorem jx_callVi0 {ty : FieldType} {post : Int32 → S → Prop} {px : String → S → Prop} {ret0 : Option FieldType} {Qc : Array Value → State → Outcome → State → Prop} {mc ms : Nat} (C : jk_C κ cc own R nL tys) (Z : jk_Cz κ) (E : jk_Ex κ ret0 Qc (vx_X (fun u : String × S => px u.1 u.2) (jk_X (jk_G κ) tys (jk_A κ) wf) (jk_A κ)) mc ms) (hM : jx_i (jk_l κ) (jk_G κ) tys y bytes maxL ty rm (.ref a :: As) ws wf post px) (hg : GoodIn tb (wsV own index Cn y (Cond.code y bytes maxL (some ty) :: tb))) (hd : y.cls = Cn ∧ y.cls ≠ "java/lang/invoke/MethodHandle" ∧ y.cls ≠ "java/lang/invoke/VarHandle" ∧ (parseMethodDescriptor y.desc).map (fun d => d.parameters.length) = some n) (hR : rm.frames + 1 ≤ R.frames ∧ 8 + (maxL + 11) + rm.locals ≤ R.locals) (hn : As.length = n) (he : ws[q0]? = some (a, .inr (ci, fs))) (hcl : classes[ci]? = some qc) (hqn : qc.1 = Cn) 
    (hst : st0 = As.reverse ++ .ref a :: st) (hW8 : (st.map fun v => v.category).sum ≤ 8) (hdg : decode cc pc = .ok (.invokevirtual index, 3)) (hf : cells + rm.cells ≤ R.cells ∧ slots + rm.slots ≤ R.slots) (hmc : cells + rm.cells ≤ mc) (hms : slots + rm.slots ≤ ms)
    (kk : ∀ (r : Int32) (u : S), post r u → jk_J κ (wf u) (pc + 3) lv (.int r :: st) (cells + rm.cells) (slots + rm.slots)) : jk_J κ ws pc lv st0 cells slots := by
  intro H locs ls hl hP hD hS
  subst hst
  subst hqn
  have hPc := hP
  have hFc : ∀ q, va_A ws H.size q → jk_A κ q := fun q h => h.elim (fun ⟨k, e, hk⟩ => hD.2 k _ hk) (fun h => C.2.2.2.2.2.2.1 q (Nat.le_trans hS.1 h))
  rw [← C.2.2.2.2.2.2.2.1] at hR hf
  refine vx_calli (vx_runV (As := As) (rest := st) ⟨C.1, C.2.1, C.2.2.1.1, C.2.2.2.1, C.2.2.2.2.1⟩ (hM H.size) (cwV n C.2.2.2.2.1 hg rfl rfl rfl hd hR) ⟨jk_blindx, va_recv C.2.2.2.2.2.1 hPc hcl he, fun U hU hW => ⟨rfl, ⟨by rw [hU], by rw [hU]; exact hPc, va_K.moved hW.alike C.2.2.2.2.2.1, hD.weaken (fun _ _ _ _ => trivial)⟩, jk_Zmv Z.2.2 hS hFc hU hW⟩⟩ rfl hn hl.1 rfl (lv_room hW8) hdg hf) hS (fun q _ h => hFc q h) hFc (fun q _ h => hFc q h) (fun E1 ce q9 u t H1 locs ht hvm hw hB hz1 hk1 hS hce hcv hcl => ?_) (fun r u t H1 locs ht hvm hw hB hz1 hk1 hS => ?_)
  · obtain ⟨hE1, hP1, hK1, hD1⟩ := hB
    rw [ht] at hP1
    rw [E.2]
    exact vx_out (fun x hx => (Z.2.1 x hx).elim) C.2.2.2.2.2.2.2.2 hce hcv hcl (fun t' ht' ha' => ⟨u, hw, ⟨hE1, by rw [ht']; exact hP1, va_K.moved ha' C.2.2.2.2.2.1, hD1.weaken (fun _ _ _ h => hFc _ h)⟩, hS.F ht'⟩) hS.2.2 hmc hms
  · obtain ⟨hP1, hK1, hD1⟩ := hB
    rw [ht] at hP1
    exact kk r u hw H1 locs ls hl hP1 (hD1.weaken (fun _ _ _ h => hFc _ h)) hS
theorem j_callSi {ty : FieldType} {post : Int32 → S → Prop} (C : jk_C κ cc own R nL tys) (hM : jm_i (jk_l κ) (jk_G κ) tys y bytes maxL ty rm As wc wf post) (hg : GoodIn tb (va_wsS own index y (Cond.code y bytes maxL (some ty) :: tb))) (hd : y.cls ≠ "java/lang/invoke/MethodHandle" ∧ y.cls ≠ "java/lang/invoke/VarHandle" ∧ (parseMethodDescriptor y.desc).map (fun d => d.parameters.length) = some n) (hR : rm.frames + 1 ≤ R.frames ∧ 8 + (maxL + 11) + rm.locals ≤ R.locals) (hn : As.length = n) 
    (isC isR : List Nat) (hC : isC.map (fun i => ws[i]?) = wc.map some) (hRr : isR.map (fun i => ws[i]?) = wr.map some) (hnd : va_nd isR = true) (hdis : ∀ i ∈ isR, i ∉ isC) (hndC : va_nd isC = true) (hst : st0 = As.reverse ++ st) (hW8 : (st.map fun v => v.category).sum ≤ 8) (hdg : decode cc pc = .ok (.invokestatic index, 3)) (hf : cells + rm.cells ≤ R.cells ∧ slots + rm.slots ≤ R.slots)
    {wn : S → va_W} (ps : List Nat) (hnp : va_nd ps = true) (hwn : ∀ u, ps.map (fun i => (wr ++ wf u)[i]?) = (wn u).map some)
    (kk : ∀ (r : Int32) (u : S), post r u → jk_J κ (wn u) (pc + 3) lv (.int r :: st) (cells + rm.cells) (slots + rm.slots)) : jk_J κ ws pc lv st0 cells slots := by
  intro H locs ls hl hP hD hS
  subst hst
  have hPc := hP.sub (ws' := wc) isC (jk_fm hC)
  have hDc := hD.sub (ws' := wc) isC hndC hC
  have hFc := va_free (wc := wc) hD hS C.2.2.2.2.2.2.1 isC hC
  rw [← C.2.2.2.2.2.2.2.1] at hR hf
  refine va_calli (va_runS (As := As) (rest := st) ⟨C.1, C.2.1, C.2.2.1.1, C.2.2.2.1, C.2.2.2.2.1⟩ (hM H.size) (va_cwS n C.2.2.2.2.1 hg rfl rfl rfl hd hR) ⟨jk_blind, fun U hU hW => ⟨rfl, by rw [hU], by rw [hU]; exact hPc, va_K.moved hW.alike C.2.2.2.2.2.1, hDc.weaken (fun _ _ _ _ => trivial)⟩⟩ rfl hn hl.1 rfl (lv_room hW8) hdg hf) hS (fun q _ h => hFc q h) hFc (fun r u t H1 locs ht hvm hw hB hz1 hk1 hS => ?_)
  obtain ⟨hP1, hK1, hD1⟩ := hB
  rw [ht] at hP1
  obtain ⟨hP2, hD2⟩ := va_join (wr := wr) (w1 := wf u) hP hD isC isR hC hRr hnd hdis hk1 hFc hP1 hD1
  exact kk r u hw H1 locs ls hl (hP2.sub ps (jk_fm (hwn u))) (hD2.sub ps hnp (hwn u)) hS
theorem j_callSi0 {ty : FieldType} {post : Int32 → S → Prop} (C : jk_C κ cc own R nL tys) (hM : jm_i (jk_l κ) (jk_G κ) tys y bytes maxL ty rm As ws wf post) (hg : GoodIn tb (va_wsS own index y (Cond.code y bytes maxL (some ty) :: tb))) (hd : y.cls ≠ "java/lang/invoke/MethodHandle" ∧ y.cls ≠ "java/lang/invoke/VarHandle" ∧ (parseMethodDescriptor y.desc).map (fun d => d.parameters.length) = some n) (hR : rm.frames + 1 ≤ R.frames ∧ 8 + (maxL + 11) + rm.locals ≤ R.locals) (hn : As.length = n) 
    (hst : st0 = As.reverse ++ st) (hW8 : (st.map fun v => v.category).sum ≤ 8) (hdg : decode cc pc = .ok (.invokestatic index, 3)) (hf : cells + rm.cells ≤ R.cells ∧ slots + rm.slots ≤ R.slots)
    (kk : ∀ (r : Int32) (u : S), post r u → jk_J κ (wf u) (pc + 3) lv (.int r :: st) (cells + rm.cells) (slots + rm.slots)) : jk_J κ ws pc lv st0 cells slots := by
  intro H locs ls hl hP hD hS
  subst hst
  have hPc := hP
  have hFc : ∀ q, va_A ws H.size q → jk_A κ q := fun q h => h.elim (fun ⟨k, e, hk⟩ => hD.2 k _ hk) (fun h => C.2.2.2.2.2.2.1 q (Nat.le_trans hS.1 h))
  rw [← C.2.2.2.2.2.2.2.1] at hR hf
  refine va_calli (va_runS (As := As) (rest := st) ⟨C.1, C.2.1, C.2.2.1.1, C.2.2.2.1, C.2.2.2.2.1⟩ (hM H.size) (va_cwS n C.2.2.2.2.1 hg rfl rfl rfl hd hR) ⟨jk_blind, fun U hU hW => ⟨rfl, by rw [hU], by rw [hU]; exact hPc, va_K.moved hW.alike C.2.2.2.2.2.1, hD.weaken (fun _ _ _ _ => trivial)⟩⟩ rfl hn hl.1 rfl (lv_room hW8) hdg hf) hS (fun q _ h => hFc q h) hFc (fun r u t H1 locs ht hvm hw hB hz1 hk1 hS => ?_)
  obtain ⟨hP1, hK1, hD1⟩ := hB
  rw [ht] at hP1
  exact kk r u hw H1 locs ls hl hP1 (hD1.weaken (fun _ _ _ h => hFc _ h)) hS
theorem jx_callSi0 {ty : FieldType} {post : Int32 → S → Prop} {px : String → S → Prop} {ret0 : Option FieldType} {Qc : Array Value → State → Outcome → State → Prop} {mc ms : Nat} (C : jk_C κ cc own R nL tys) (Z : jk_Cz κ) (E : jk_Ex κ ret0 Qc (vx_X (fun u : String × S => px u.1 u.2) (jk_X (jk_G κ) tys (jk_A κ) wf) (jk_A κ)) mc ms) (hM : jx_i (jk_l κ) (jk_G κ) tys y bytes maxL ty rm As ws wf post px) (hg : GoodIn tb (va_wsS own index y (Cond.code y bytes maxL (some ty) :: tb))) (hd : y.cls ≠ "java/lang/invoke/MethodHandle" ∧ y.cls ≠ "java/lang/invoke/VarHandle" ∧ (parseMethodDescriptor y.desc).map (fun d => d.parameters.length) = some n) (hR : rm.frames + 1 ≤ R.frames ∧ 8 + (maxL + 11) + rm.locals ≤ R.locals) (hn : As.length = n) 
    (hst : st0 = As.reverse ++ st) (hW8 : (st.map fun v => v.category).sum ≤ 8) (hdg : decode cc pc = .ok (.invokestatic index, 3)) (hf : cells + rm.cells ≤ R.cells ∧ slots + rm.slots ≤ R.slots) (hmc : cells + rm.cells ≤ mc) (hms : slots + rm.slots ≤ ms)
    (kk : ∀ (r : Int32) (u : S), post r u → jk_J κ (wf u) (pc + 3) lv (.int r :: st) (cells + rm.cells) (slots + rm.slots)) : jk_J κ ws pc lv st0 cells slots := by
  intro H locs ls hl hP hD hS
  subst hst
  have hPc := hP
  have hFc : ∀ q, va_A ws H.size q → jk_A κ q := fun q h => h.elim (fun ⟨k, e, hk⟩ => hD.2 k _ hk) (fun h => C.2.2.2.2.2.2.1 q (Nat.le_trans hS.1 h))
  rw [← C.2.2.2.2.2.2.2.1] at hR hf
  refine vx_calli (vx_runS (As := As) (rest := st) ⟨C.1, C.2.1, C.2.2.1.1, C.2.2.2.1, C.2.2.2.2.1⟩ (hM H.size) (va_cwS n C.2.2.2.2.1 hg rfl rfl rfl hd hR) ⟨jk_blindx, fun U hU hW => ⟨rfl, ⟨by rw [hU], by rw [hU]; exact hPc, va_K.moved hW.alike C.2.2.2.2.2.1, hD.weaken (fun _ _ _ _ => trivial)⟩, jk_Zmv Z.2.2 hS hFc hU hW⟩⟩ rfl hn hl.1 rfl (lv_room hW8) hdg hf) hS (fun q _ h => hFc q h) hFc (fun q _ h => hFc q h) (fun E1 ce q9 u t H1 locs ht hvm hw hB hz1 hk1 hS hce hcv hcl => ?_) (fun r u t H1 locs ht hvm hw hB hz1 hk1 hS => ?_)
  · obtain ⟨hE1, hP1, hK1, hD1⟩ := hB
    rw [ht] at hP1
    rw [E.2]
    exact vx_out (fun x hx => (Z.2.1 x hx).elim) C.2.2.2.2.2.2.2.2 hce hcv hcl (fun t' ht' ha' => ⟨u, hw, ⟨hE1, by rw [ht']; exact hP1, va_K.moved ha' C.2.2.2.2.2.1, hD1.weaken (fun _ _ _ h => hFc _ h)⟩, hS.F ht'⟩) hS.2.2 hmc hms
  · obtain ⟨hP1, hK1, hD1⟩ := hB
    rw [ht] at hP1
    exact kk r u hw H1 locs ls hl hP1 (hD1.weaken (fun _ _ _ h => hFc _ h)) hS
theorem j_callVl {post : Int64 → S → Prop} (C : jk_C κ cc own R nL tys) (hM : jm_l (jk_l κ) (jk_G κ) tys y bytes maxL rm (.ref a :: As) wc wf post) (hg : GoodIn tb (wsV own index Cn y (Cond.code y bytes maxL (some .long) :: tb))) (hd : y.cls = Cn ∧ y.cls ≠ "java/lang/invoke/MethodHandle" ∧ y.cls ≠ "java/lang/invoke/VarHandle" ∧ (parseMethodDescriptor y.desc).map (fun d => d.parameters.length) = some n) (hR : rm.frames + 1 ≤ R.frames ∧ 8 + (maxL + 11) + rm.locals ≤ R.locals) (hn : As.length = n) (he : wc[q0]? = some (a, .inr (ci, fs))) (hcl : classes[ci]? = some qc) (hqn : qc.1 = Cn) 
    (isC isR : List Nat) (hC : isC.map (fun i => ws[i]?) = wc.map some) (hRr : isR.map (fun i => ws[i]?) = wr.map some) (hnd : va_nd isR = true) (hdis : ∀ i ∈ isR, i ∉ isC) (hndC : va_nd isC = true) (hst : st0 = As.reverse ++ .ref a :: st) (hW8 : (st.map fun v => v.category).sum ≤ 8) (hdg : decode cc pc = .ok (.invokevirtual index, 3)) (hf : cells + rm.cells ≤ R.cells ∧ slots + rm.slots ≤ R.slots)
    {wn : S → va_W} (ps : List Nat) (hnp : va_nd ps = true) (hwn : ∀ u, ps.map (fun i => (wr ++ wf u)[i]?) = (wn u).map some)
    (kk : ∀ (r : Int64) (u : S), post r u → jk_J κ (wn u) (pc + 3) lv (.long r :: st) (cells + rm.cells) (slots + rm.slots)) : jk_J κ ws pc lv st0 cells slots := by
  intro H locs ls hl hP hD hS
  subst hst
  subst hqn
  have hPc := hP.sub (ws' := wc) isC (jk_fm hC)
  have hDc := hD.sub (ws' := wc) isC hndC hC
  have hFc := va_free (wc := wc) hD hS C.2.2.2.2.2.2.1 isC hC
  rw [← C.2.2.2.2.2.2.2.1] at hR hf
  refine va_calll (va_runV (As := As) (rest := st) ⟨C.1, C.2.1, C.2.2.1.1, C.2.2.2.1, C.2.2.2.2.1⟩ (hM H.size) (cwV n C.2.2.2.2.1 hg rfl rfl rfl hd hR) ⟨jk_blind, va_recv C.2.2.2.2.2.1 hPc hcl he, fun U hU hW => ⟨rfl, by rw [hU], by rw [hU]; exact hPc, va_K.moved hW.alike C.2.2.2.2.2.1, hDc.weaken (fun _ _ _ _ => trivial)⟩⟩ rfl hn hl.1 rfl (lv_room hW8) hdg hf) hS (fun q _ h => hFc q h) hFc (fun r u t H1 locs ht hvm hw hB hz1 hk1 hS => ?_)
  obtain ⟨hP1, hK1, hD1⟩ := hB
  rw [ht] at hP1
  obtain ⟨hP2, hD2⟩ := va_join (wr := wr) (w1 := wf u) hP hD isC isR hC hRr hnd hdis hk1 hFc hP1 hD1
  exact kk r u hw H1 locs ls hl (hP2.sub ps (jk_fm (hwn u))) (hD2.sub ps hnp (hwn u)) hS
theorem j_callVl0 {post : Int64 → S → Prop} (C : jk_C κ cc own R nL tys) (hM : jm_l (jk_l κ) (jk_G κ) tys y bytes maxL rm (.ref a :: As) ws wf post) (hg : GoodIn tb (wsV own index Cn y (Cond.code y bytes maxL (some .long) :: tb))) (hd : y.cls = Cn ∧ y.cls ≠ "java/lang/invoke/MethodHandle" ∧ y.cls ≠ "java/lang/invoke/VarHandle" ∧ (parseMethodDescriptor y.desc).map (fun d => d.parameters.length) = some n) (hR : rm.frames + 1 ≤ R.frames ∧ 8 + (maxL + 11) + rm.locals ≤ R.locals) (hn : As.length = n) (he : ws[q0]? = some (a, .inr (ci, fs))) (hcl : classes[ci]? = some qc) (hqn : qc.1 = Cn) 
    (hst : st0 = As.reverse ++ .ref a :: st) (hW8 : (st.map fun v => v.category).sum ≤ 8) (hdg : decode cc pc = .ok (.invokevirtual index, 3)) (hf : cells + rm.cells ≤ R.cells ∧ slots + rm.slots ≤ R.slots)
    (kk : ∀ (r : Int64) (u : S), post r u → jk_J κ (wf u) (pc + 3) lv (.long r :: st) (cells + rm.cells) (slots + rm.slots)) : jk_J κ ws pc lv st0 cells slots := by
  intro H locs ls hl hP hD hS
  subst hst
  subst hqn
  have hPc := hP
  have hFc : ∀ q, va_A ws H.size q → jk_A κ q := fun q h => h.elim (fun ⟨k, e, hk⟩ => hD.2 k _ hk) (fun h => C.2.2.2.2.2.2.1 q (Nat.le_trans hS.1 h))
  rw [← C.2.2.2.2.2.2.2.1] at hR hf
  refine va_calll (va_runV (As := As) (rest := st) ⟨C.1, C.2.1, C.2.2.1.1, C.2.2.2.1, C.2.2.2.2.1⟩ (hM H.size) (cwV n C.2.2.2.2.1 hg rfl rfl rfl hd hR) ⟨jk_blind, va_recv C.2.2.2.2.2.1 hPc hcl he, fun U hU hW => ⟨rfl, by rw [hU], by rw [hU]; exact hPc, va_K.moved hW.alike C.2.2.2.2.2.1, hD.weaken (fun _ _ _ _ => trivial)⟩⟩ rfl hn hl.1 rfl (lv_room hW8) hdg hf) hS (fun q _ h => hFc q h) hFc (fun r u t H1 locs ht hvm hw hB hz1 hk1 hS => ?_)
  obtain ⟨hP1, hK1, hD1⟩ := hB
  rw [ht] at hP1
  exact kk r u hw H1 locs ls hl hP1 (hD1.weaken (fun _ _ _ h => hFc _ h)) hS
theorem jx_callVl0 {post : Int64 → S → Prop} {px : String → S → Prop} {ret0 : Option FieldType} {Qc : Array Value → State → Outcome → State → Prop} {mc ms : Nat} (C : jk_C κ cc own R nL tys) (Z : jk_Cz κ) (E : jk_Ex κ ret0 Qc (vx_X (fun u : String × S => px u.1 u.2) (jk_X (jk_G κ) tys (jk_A κ) wf) (jk_A κ)) mc ms) (hM : jx_l (jk_l κ) (jk_G κ) tys y bytes maxL rm (.ref a :: As) ws wf post px) (hg : GoodIn tb (wsV own index Cn y (Cond.code y bytes maxL (some .long) :: tb))) (hd : y.cls = Cn ∧ y.cls ≠ "java/lang/invoke/MethodHandle" ∧ y.cls ≠ "java/lang/invoke/VarHandle" ∧ (parseMethodDescriptor y.desc).map (fun d => d.parameters.length) = some n) (hR : rm.frames + 1 ≤ R.frames ∧ 8 + (maxL + 11) + rm.locals ≤ R.locals) (hn : As.length = n) (he : ws[q0]? = some (a, .inr (ci, fs))) (hcl : classes[ci]? = some qc) (hqn : qc.1 = Cn) 
    (hst : st0 = As.reverse ++ .ref a :: st) (hW8 : (st.map fun v => v.category).sum ≤ 8) (hdg : decode cc pc = .ok (.invokevirtual index, 3)) (hf : cells + rm.cells ≤ R.cells ∧ slots + rm.slots ≤ R.slots) (hmc : cells + rm.cells ≤ mc) (hms : slots + rm.slots ≤ ms)
    (kk : ∀ (r : Int64) (u : S), post r u → jk_J κ (wf u) (pc + 3) lv (.long r :: st) (cells + rm.cells) (slots + rm.slots)) : jk_J κ ws pc lv st0 cells slots := by
  intro H locs ls hl hP hD hS
  subst hst
  subst hqn
  have hPc := hP
  have hFc : ∀ q, va_A ws H.size q → jk_A κ q := fun q h => h.elim (fun ⟨k, e, hk⟩ => hD.2 k _ hk) (fun h => C.2.2.2.2.2.2.1 q (Nat.le_trans hS.1 h))
  rw [← C.2.2.2.2.2.2.2.1] at hR hf
  refine vx_calll (vx_runV (As := As) (rest := st) ⟨C.1, C.2.1, C.2.2.1.1, C.2.2.2.1, C.2.2.2.2.1⟩ (hM H.size) (cwV n C.2.2.2.2.1 hg rfl rfl rfl hd hR) ⟨jk_blindx, va_recv C.2.2.2.2.2.1 hPc hcl he, fun U hU hW => ⟨rfl, ⟨by rw [hU], by rw [hU]; exact hPc, va_K.moved hW.alike C.2.2.2.2.2.1, hD.weaken (fun _ _ _ _ => trivial)⟩, jk_Zmv Z.2.2 hS hFc hU hW⟩⟩ rfl hn hl.1 rfl (lv_room hW8) hdg hf) hS (fun q _ h => hFc q h) hFc (fun q _ h => hFc q h) (fun E1 ce q9 u t H1 locs ht hvm hw hB hz1 hk1 hS hce hcv hcl => ?_) (fun r u t H1 locs ht hvm hw hB hz1 hk1 hS => ?_)
  · obtain ⟨hE1, hP1, hK1, hD1⟩ := hB
    rw [ht] at hP1
    rw [E.2]
    exact vx_out (fun x hx => (Z.2.1 x hx).elim) C.2.2.2.2.2.2.2.2 hce hcv hcl (fun t' ht' ha' => ⟨u, hw, ⟨hE1, by rw [ht']; exact hP1, va_K.moved ha' C.2.2.2.2.2.1, hD1.weaken (fun _ _ _ h => hFc _ h)⟩, hS.F ht'⟩) hS.2.2 hmc hms
  · obtain ⟨hP1, hK1, hD1⟩ := hB
    rw [ht] at hP1
    exact kk r u hw H1 locs ls hl hP1 (hD1.weaken (fun _ _ _ h => hFc _ h)) hS
theorem j_callSl {post : Int64 → S → Prop} (C : jk_C κ cc own R nL tys) (hM : jm_l (jk_l κ) (jk_G κ) tys y bytes maxL rm As wc wf post) (hg : GoodIn tb (va_wsS own index y (Cond.code y bytes maxL (some .long) :: tb))) (hd : y.cls ≠ "java/lang/invoke/MethodHandle" ∧ y.cls ≠ "java/lang/invoke/VarHandle" ∧ (parseMethodDescriptor y.desc).map (fun d => d.parameters.length) = some n) (hR : rm.frames + 1 ≤ R.frames ∧ 8 + (maxL + 11) + rm.locals ≤ R.locals) (hn : As.length = n) 
    (isC isR : List Nat) (hC : isC.map (fun i => ws[i]?) = wc.map some) (hRr : isR.map (fun i => ws[i]?) = wr.map some) (hnd : va_nd isR = true) (hdis : ∀ i ∈ isR, i ∉ isC) (hndC : va_nd isC = true) (hst : st0 = As.reverse ++ st) (hW8 : (st.map fun v => v.category).sum ≤ 8) (hdg : decode cc pc = .ok (.invokestatic index, 3)) (hf : cells + rm.cells ≤ R.cells ∧ slots + rm.slots ≤ R.slots)
    {wn : S → va_W} (ps : List Nat) (hnp : va_nd ps = true) (hwn : ∀ u, ps.map (fun i => (wr ++ wf u)[i]?) = (wn u).map some)
    (kk : ∀ (r : Int64) (u : S), post r u → jk_J κ (wn u) (pc + 3) lv (.long r :: st) (cells + rm.cells) (slots + rm.slots)) : jk_J κ ws pc lv st0 cells slots := by
  intro H locs ls hl hP hD hS
  subst hst
  have hPc := hP.sub (ws' := wc) isC (jk_fm hC)
  have hDc := hD.sub (ws' := wc) isC hndC hC
  have hFc := va_free (wc := wc) hD hS C.2.2.2.2.2.2.1 isC hC
  rw [← C.2.2.2.2.2.2.2.1] at hR hf
  refine va_calll (va_runS (As := As) (rest := st) ⟨C.1, C.2.1, C.2.2.1.1, C.2.2.2.1, C.2.2.2.2.1⟩ (hM H.size) (va_cwS n C.2.2.2.2.1 hg rfl rfl rfl hd hR) ⟨jk_blind, fun U hU hW => ⟨rfl, by rw [hU], by rw [hU]; exact hPc, va_K.moved hW.alike C.2.2.2.2.2.1, hDc.weaken (fun _ _ _ _ => trivial)⟩⟩ rfl hn hl.1 rfl (lv_room hW8) hdg hf) hS (fun q _ h => hFc q h) hFc (fun r u t H1 locs ht hvm hw hB hz1 hk1 hS => ?_)
  obtain ⟨hP1, hK1, hD1⟩ := hB
  rw [ht] at hP1
  obtain ⟨hP2, hD2⟩ := va_join (wr := wr) (w1 := wf u) hP hD isC isR hC hRr hnd hdis hk1 hFc hP1 hD1
  exact kk r u hw H1 locs ls hl (hP2.sub ps (jk_fm (hwn u))) (hD2.sub ps hnp (hwn u)) hS
theorem j_callSl0 {post : Int64 → S → Prop} (C : jk_C κ cc own R nL tys) (hM : jm_l (jk_l κ) (jk_G κ) tys y bytes maxL rm As ws wf post) (hg : GoodIn tb (va_wsS own index y (Cond.code y bytes maxL (some .long) :: tb))) (hd : y.cls ≠ "java/lang/invoke/MethodHandle" ∧ y.cls ≠ "java/lang/invoke/VarHandle" ∧ (parseMethodDescriptor y.desc).map (fun d => d.parameters.length) = some n) (hR : rm.frames + 1 ≤ R.frames ∧ 8 + (maxL + 11) + rm.locals ≤ R.locals) (hn : As.length = n) 
    (hst : st0 = As.reverse ++ st) (hW8 : (st.map fun v => v.category).sum ≤ 8) (hdg : decode cc pc = .ok (.invokestatic index, 3)) (hf : cells + rm.cells ≤ R.cells ∧ slots + rm.slots ≤ R.slots)
    (kk : ∀ (r : Int64) (u : S), post r u → jk_J κ (wf u) (pc + 3) lv (.long r :: st) (cells + rm.cells) (slots + rm.slots)) : jk_J κ ws pc lv st0 cells slots := by
  intro H locs ls hl hP hD hS
  subst hst
  have hPc := hP
  have hFc : ∀ q, va_A ws H.size q → jk_A κ q := fun q h => h.elim (fun ⟨k, e, hk⟩ => hD.2 k _ hk) (fun h => C.2.2.2.2.2.2.1 q (Nat.le_trans hS.1 h))
  rw [← C.2.2.2.2.2.2.2.1] at hR hf
  refine va_calll (va_runS (As := As) (rest := st) ⟨C.1, C.2.1, C.2.2.1.1, C.2.2.2.1, C.2.2.2.2.1⟩ (hM H.size) (va_cwS n C.2.2.2.2.1 hg rfl rfl rfl hd hR) ⟨jk_blind, fun U hU hW => ⟨rfl, by rw [hU], by rw [hU]; exact hPc, va_K.moved hW.alike C.2.2.2.2.2.1, hD.weaken (fun _ _ _ _ => trivial)⟩⟩ rfl hn hl.1 rfl (lv_room hW8) hdg hf) hS (fun q _ h => hFc q h) hFc (fun r u t H1 locs ht hvm hw hB hz1 hk1 hS => ?_)
  obtain ⟨hP1, hK1, hD1⟩ := hB
  rw [ht] at hP1
  exact kk r u hw H1 locs ls hl hP1 (hD1.weaken (fun _ _ _ h => hFc _ h)) hS
theorem jx_callSl0 {post : Int64 → S → Prop} {px : String → S → Prop} {ret0 : Option FieldType} {Qc : Array Value → State → Outcome → State → Prop} {mc ms : Nat} (C : jk_C κ cc own R nL tys) (Z : jk_Cz κ) (E : jk_Ex κ ret0 Qc (vx_X (fun u : String × S => px u.1 u.2) (jk_X (jk_G κ) tys (jk_A κ) wf) (jk_A κ)) mc ms) (hM : jx_l (jk_l κ) (jk_G κ) tys y bytes maxL rm As ws wf post px) (hg : GoodIn tb (va_wsS own index y (Cond.code y bytes maxL (some .long) :: tb))) (hd : y.cls ≠ "java/lang/invoke/MethodHandle" ∧ y.cls ≠ "java/lang/invoke/VarHandle" ∧ (parseMethodDescriptor y.desc).map (fun d => d.parameters.length) = some n) (hR : rm.frames + 1 ≤ R.frames ∧ 8 + (maxL + 11) + rm.locals ≤ R.locals) (hn : As.length = n) 
    (hst : st0 = As.reverse ++ st) (hW8 : (st.map fun v => v.category).sum ≤ 8) (hdg : decode cc pc = .ok (.invokestatic index, 3)) (hf : cells + rm.cells ≤ R.cells ∧ slots + rm.slots ≤ R.slots) (hmc : cells + rm.cells ≤ mc) (hms : slots + rm.slots ≤ ms)
    (kk : ∀ (r : Int64) (u : S), post r u → jk_J κ (wf u) (pc + 3) lv (.long r :: st) (cells + rm.cells) (slots + rm.slots)) : jk_J κ ws pc lv st0 cells slots := by
  intro H locs ls hl hP hD hS
  subst hst
  have hPc := hP
  have hFc : ∀ q, va_A ws H.size q → jk_A κ q := fun q h => h.elim (fun ⟨k, e, hk⟩ => hD.2 k _ hk) (fun h => C.2.2.2.2.2.2.1 q (Nat.le_trans hS.1 h))
  rw [← C.2.2.2.2.2.2.2.1] at hR hf
  refine vx_calll (vx_runS (As := As) (rest := st) ⟨C.1, C.2.1, C.2.2.1.1, C.2.2.2.1, C.2.2.2.2.1⟩ (hM H.size) (va_cwS n C.2.2.2.2.1 hg rfl rfl rfl hd hR) ⟨jk_blindx, fun U hU hW => ⟨rfl, ⟨by rw [hU], by rw [hU]; exact hPc, va_K.moved hW.alike C.2.2.2.2.2.1, hD.weaken (fun _ _ _ _ => trivial)⟩, jk_Zmv Z.2.2 hS hFc hU hW⟩⟩ rfl hn hl.1 rfl (lv_room hW8) hdg hf) hS (fun q _ h => hFc q h) hFc (fun q _ h => hFc q h) (fun E1 ce q9 u t H1 locs ht hvm hw hB hz1 hk1 hS hce hcv hcl => ?_) (fun r u t H1 locs ht hvm hw hB hz1 hk1 hS => ?_)
  · obtain ⟨hE1, hP1, hK1, hD1⟩ := hB
    rw [ht] at hP1
    rw [E.2]
    exact vx_out (fun x hx => (Z.2.1 x hx).elim) C.2.2.2.2.2.2.2.2 hce hcv hcl (fun t' ht' ha' => ⟨u, hw, ⟨hE1, by rw [ht']; exact hP1, va_K.moved ha' C.2.2.2.2.2.1, hD1.weaken (fun _ _ _ h => hFc _ h)⟩, hS.F ht'⟩) hS.2.2 hmc hms
  · obtain ⟨hP1, hK1, hD1⟩ := hB
    rw [ht] at hP1
    exact kk r u hw H1 locs ls hl hP1 (hD1.weaken (fun _ _ _ h => hFc _ h)) hS
theorem jk_goodI {y : MethodName} {b : ByteArray} {n : Nat} {ret : Option FieldType} (h5 : Cond.code y b n ret ∈ tb) : GoodIn tb (Cond.code y b n ret :: tb) := by
  intro w hw
  have hm : w ∈ tb := by
    rcases List.mem_cons.mp hw with rfl | hw
    · exact h5
    · exact hw
  exact ⟨hm, good_of_word (tb_good w hm)⟩
theorem j_callI {post : S → Prop} (C : jk_C κ cc own R nL tys) (hM : jm_v (jk_l κ) (jk_G κ) tys y bytes maxL rm (.ref a :: As) wc wf post) (hg : GoodIn tb (Cond.code y bytes maxL none :: tb)) (h1 : Cond.initialized y.cls ∈ tb) (h2 : Cond.methodLink own index y ∈ tb) (h3 : Cond.instanceMethod y ∈ tb) (hy1 : y.name = "<init>") (hd : y.cls ≠ "java/lang/invoke/MethodHandle" ∧ y.cls ≠ "java/lang/invoke/VarHandle" ∧ (parseMethodDescriptor y.desc).map (fun d => d.parameters.length) = some n) (hR : rm.frames + 1 ≤ R.frames ∧ 8 + (maxL + 11) + rm.locals ≤ R.locals) (hn : As.length = n)
    (isC isR : List Nat) (hC : isC.map (fun i => ws[i]?) = wc.map some) (hRr : isR.map (fun i => ws[i]?) = wr.map some) (hnd : va_nd isR = true) (hdis : ∀ i ∈ isR, i ∉ isC) (hndC : va_nd isC = true) (hst : st0 = As.reverse ++ .ref a :: st) (hW8 : (st.map fun v => v.category).sum ≤ 8) (hdg : decode cc pc = .ok (.invokespecial index, 3)) (hf : cells + rm.cells ≤ R.cells ∧ slots + rm.slots ≤ R.slots)
    {wn : S → va_W} (ps : List Nat) (hnp : va_nd ps = true) (hwn : ∀ u, ps.map (fun i => (wr ++ wf u)[i]?) = (wn u).map some)
    (kk : ∀ (u : S), post u → jk_J κ (wn u) (pc + 3) lv st (cells + rm.cells) (slots + rm.slots)) : jk_J κ ws pc lv st0 cells slots := by
  intro H locs ls hl hP hD hS
  subst hst
  have hPc := hP.sub (ws' := wc) isC (jk_fm hC)
  have hDc := hD.sub (ws' := wc) isC hndC hC
  have hFc := va_free (wc := wc) hD hS C.2.2.2.2.2.2.1 isC hC
  rw [← C.2.2.2.2.2.2.2.1] at hR hf
  refine va_callv (va_runI (As := As) (rest := st) ⟨C.1, C.2.1, C.2.2.1.1, C.2.2.2.1, C.2.2.2.2.1⟩ (hM H.size) (cwI n C.2.2.2.2.1 hg rfl rfl rfl (C.2.2.2.2.1 _ h1) (C.2.2.2.2.1 _ h2) (C.2.2.2.2.1 _ h3) hy1 hd hR) ⟨jk_blind, fun U hU hW => ⟨rfl, by rw [hU], by rw [hU]; exact hPc, va_K.moved hW.alike C.2.2.2.2.2.1, hDc.weaken (fun _ _ _ _ => trivial)⟩⟩ rfl hn hl.1 rfl (lv_room hW8) hdg hf) hS (fun q _ h => hFc q h) hFc (fun u t H1 locs ht hvm hw hB hz1 hk1 hS => ?_)
  obtain ⟨hP1, hK1, hD1⟩ := hB
  rw [ht] at hP1
  obtain ⟨hP2, hD2⟩ := va_join (wr := wr) (w1 := wf u) hP hD isC isR hC hRr hnd hdis hk1 hFc hP1 hD1
  exact kk u hw H1 locs ls hl (hP2.sub ps (jk_fm (hwn u))) (hD2.sub ps hnp (hwn u)) hS
end jk_calls
/-- 'throw new E("text")' in a method without a table -/
theorem jx_throwS {κ : jk_K} {cc : ByteArray} {own : String} {R : Room} {nL : Nat} {tys : List (ClassId × FieldType)} {pc : Nat} {lv : List (Nat × Value)} {cells slots : Nat} {S : Type} {wf : S → va_W} {mc ms : Nat} {ret0 : Option FieldType} {Qc : Array Value → State → Outcome → State → Prop} {px : String → S → Prop} (C : jk_C κ cc own R nL tys) (Z : jk_Cz κ) (E : jk_Ex κ ret0 Qc (vx_X (fun u : String × S => px u.1 u.2) (jk_X (jk_G κ) tys (jk_A κ) wf) (jk_A κ)) mc ms) {cls text : String} {names : List String} {ik is ic : Nat}
    (hcls : Bundle.fit cls = true) (hnames : ∀ n ∈ names, Bundle.fit n = true) (hk : Cond.classLink own ik cls ∈ tb) (hini : Cond.initialized cls ∈ tb) (hlit : (own, is, text) ∈ jk_lits) (hat : ∀ w ∈ vx_atS own ic cls names, (w ∈ tb ∨ w ∈ jk_oth) ∧ vx_ot w = true)
    (d0 : decode cc pc = .ok (.new ik, 3)) (d3 : decode cc (pc + 3) = .ok (.dup, 1)) (d4 : decode cc (pc + 4) = .ok (.ldc is, 2)) (d6 : decode cc (pc + 6) = .ok (.invokespecial ic, 3)) (d9 : decode cc (pc + 9) = .ok (.athrow, 1))
    (hRframes : names.length + 3 < R.frames) (hRlocals : (13 * (names.length + 1) + 43) ≤ R.locals) (hRcells : cells + 1 ≤ R.cells) (hRslots : slots + 6 ≤ R.slots) (hc : cells + 1 ≤ mc) (hs : slots + 6 ≤ ms) {u : S} (h : px cls u) : jk_J κ (wf u) pc lv [] cells slots := by
  intro H locs ls hl hP hD hS
  unfold jk_W
  rw [E.2]
  rw [← C.2.2.2.2.2.2.2.1] at hRframes hRlocals hRcells hRslots
  obtain ⟨sa, hstr⟩ := Z.2.2.2.2.1 _ hlit
  refine vx_throwS C.1 C.2.1 Z.1 C.2.2.2.1 hcls hnames (C.2.2.2.2.1 _ hk) (C.2.2.2.2.1 _ hini) hstr (fun w hw => (hat w hw).1.elim (fun h => C.2.2.2.2.1 w h) (fun h => va_any (jk_onT w h) (Z.2.2.2.2.2.2 _ h))) (fun w hw => ?_) Z.2.2.1 Z.2.2.2.1 hS (by rw [hl.1]; exact C.2.2.1.1.symm) d0 d3 d4 d6 d9 (fun x hx => (Z.2.1 x hx).elim) hRframes (by simpa using hRlocals) hRcells hRslots C.2.2.2.2.2.2.2.2 (fun t ha hz hq => ⟨(cls, u), h, ⟨rfl, hP.kept (fun k q hk => hq q.1 ((hP k q hk).lt)), va_K.moved ha C.2.2.2.2.2.1, hD⟩, ⟨Nat.le_trans hS.1 hz, fun q h1 h2 => (hq q (Nat.lt_of_lt_of_le h1 hS.1)).trans (hS.2.1 q h1 h2)⟩⟩) hS.2.2 hc hs
  rcases List.mem_cons.mp hw with rfl | hw
  · simp only [vx_ot, tb_good _ hk, Bool.or_true]
  rcases List.mem_cons.mp hw with rfl | hw
  · simp only [vx_ot, tb_good _ hini, Bool.or_true]
  exact (hat w hw).2
theorem g_X_74 : GoodIn tb (wsV R_X 74 R_X y_X_needBlock (Cond.code y_X_needBlock b_X_needBlock 2 none :: tb)) := jk_goodV k_9 k_10 k_11 k_12 k_13
theorem g_X_80 : GoodIn tb (va_wsS R_X 80 y_X_needWithin (Cond.code y_X_needWithin b_X_needWithin 6 none :: tb)) := jk_goodS k_17 k_18 k_12 k_19
theorem g_X_90 : GoodIn tb (va_wsS R_X 90 y_X_startOf (Cond.code y_X_startOf b_X_startOf 1 (some .int) :: tb)) := jk_goodS k_22 k_23 k_12 k_24
theorem g_X_122 : GoodIn tb (va_wsS R_X 122 y_X_blockOf (Cond.code y_X_blockOf b_X_blockOf 1 (some .int) :: tb)) := jk_goodS k_30 k_31 k_12 k_32
theorem g_X_164 : GoodIn tb (wsV R_X 164 R_X y_X_takeFromRow (Cond.code y_X_takeFromRow b_X_takeFromRow 4 none :: tb)) := jk_goodV k_33 k_34 k_35 k_12 k_36
theorem g_X_174 : GoodIn tb (wsV R_X 174 R_X y_X_steepestFrom (Cond.code y_X_steepestFrom b_X_steepestFrom 13 (some .int) :: tb)) := jk_goodV k_37 k_38 k_39 k_12 k_40
theorem g_X_167 : GoodIn tb (wsV R_X 167 R_X y_X_makeHull (Cond.code y_X_makeHull b_X_makeHull 9 (some .int) :: tb)) := jk_goodV k_43 k_44 k_45 k_12 k_46
theorem g_X_184 : GoodIn tb (va_wsS R_X 184 y_JL_compare (Cond.code y_JL_compare b_JL_compare 4 (some .int) :: tb)) := jk_goodS k_47 k_48 k_49 k_50
theorem g_X_181 : GoodIn tb (wsV R_X 181 R_X y_X_compareSlopes (Cond.code y_X_compareSlopes b_X_compareSlopes 3 (some .int) :: tb)) := jk_goodV k_51 k_52 k_53 k_12 k_54
theorem g_X_177 : GoodIn tb (wsV R_X 177 R_X y_X_comesBefore (Cond.code y_X_comesBefore b_X_comesBefore 4 (some .boolean) :: tb)) := jk_goodV k_55 k_56 k_57 k_12 k_58
theorem g_X_170 : GoodIn tb (wsV R_X 170 R_X y_X_mergeIntoRow (Cond.code y_X_mergeIntoRow b_X_mergeIntoRow 7 none :: tb)) := jk_goodV k_59 k_60 k_61 k_12 k_62
theorem g_X_97 : GoodIn tb (wsV R_X 97 R_X y_X_renewBlock (Cond.code y_X_renewBlock b_X_renewBlock 3 none :: tb)) := jk_goodV k_63 k_64 k_65 k_12 k_66
theorem g_X_142 : GoodIn tb (wsV R_X 142 R_X y_X_needLayer (Cond.code y_X_needLayer b_X_needLayer 2 none :: tb)) := jk_goodV k_71 k_72 k_73 k_12 k_74
theorem g_X_104 : GoodIn tb (wsV R_X 104 R_X y_X_tellLayer (Cond.code y_X_tellLayer b_X_tellLayer 5 (some .int) :: tb)) := jk_goodV k_76 k_77 k_78 k_12 k_79
theorem g_X_108 : GoodIn tb (wsV R_X 108 R_X y_X_fillLayer (Cond.code y_X_fillLayer b_X_fillLayer 5 (some .int) :: tb)) := jk_goodV k_83 k_84 k_85 k_12 k_86
theorem g_X_111 : GoodIn tb (wsV R_X 111 R_X y_X_pointOf (Cond.code y_X_pointOf b_X_pointOf 3 (some .int) :: tb)) := jk_goodV k_87 k_88 k_89 k_12 k_90
theorem g_X_125 : GoodIn tb (va_wsS R_X 125 y_X_passesUpTo (Cond.code y_X_passesUpTo b_X_passesUpTo 1 (some .int) :: tb)) := jk_goodS k_91 k_92 k_12 k_93
theorem g_X_128 : GoodIn tb (wsV R_X 128 R_X y_X_countSameSlope (Cond.code y_X_countSameSlope b_X_countSameSlope 4 (some .int) :: tb)) := jk_goodV k_94 k_95 k_96 k_12 k_97
theorem g_X_131 : GoodIn tb (wsV R_X 131 R_X y_X_needShared (Cond.code y_X_needShared b_X_needShared 1 none :: tb)) := jk_goodV k_100 k_101 k_102 k_12 k_103
theorem g_X_134 : GoodIn tb (wsV R_X 134 R_X y_X_layerOf (Cond.code y_X_layerOf b_X_layerOf 3 (some .int) :: tb)) := jk_goodV k_104 k_105 k_106 k_12 k_107
theorem g_M_54 : GoodIn tb (wsV R_M 54 R_M y_M_isBlock (Cond.code y_M_isBlock b_M_isBlock 2 (some .boolean) :: tb)) := jk_goodV k_112 k_113 k_114 k_115 k_116
theorem g_M_65 : GoodIn tb (wsV R_M 65 R_M y_M_fails (Cond.code y_M_fails b_M_fails 3 (some .boolean) :: tb)) := jk_goodV k_121 k_122 k_123 k_115 k_124
theorem g_M_69 : GoodIn tb (wsV R_M 69 R_M y_M_spoil (Cond.code y_M_spoil b_M_spoil 1 none :: tb)) := jk_goodV k_127 k_128 k_129 k_115 k_130
theorem g_M_74 : GoodIn tb (va_wsS R_M 74 y_M_within (Cond.code y_M_within b_M_within 6 (some .boolean) :: tb)) := jk_goodS k_132 k_133 k_115 k_134
theorem g_M_86 : GoodIn tb (wsV R_M 86 R_M y_M_isLayer (Cond.code y_M_isLayer b_M_isLayer 2 (some .boolean) :: tb)) := jk_goodV k_141 k_142 k_143 k_115 k_144
theorem g_M_93 : GoodIn tb (wsV R_M 93 R_M y_M_g (Cond.code y_M_g b_M_g 6 (some .long) :: tb)) := jk_goodV k_149 k_150 k_151 k_115 k_152
theorem g_M_97 : GoodIn tb (wsV R_M 97 R_M y_M_l (Cond.code y_M_l b_M_l 3 (some .int) :: tb)) := jk_goodV k_153 k_154 k_155 k_115 k_156
theorem g_M_104 : GoodIn tb (wsV R_M 104 R_M y_M_isHull (Cond.code y_M_isHull b_M_isHull 12 (some .boolean) :: tb)) := jk_goodV k_160 k_161 k_162 k_115 k_163
theorem g_M_108 : GoodIn tb (wsV R_M 108 R_M y_M_isBefore (Cond.code y_M_isBefore b_M_isBefore 7 (some .boolean) :: tb)) := jk_goodV k_165 k_166 k_167 k_115 k_168
theorem g_M_111 : GoodIn tb (wsV R_M 111 R_M y_M_layRow (Cond.code y_M_layRow b_M_layRow 7 none :: tb)) := jk_goodV k_169 k_170 k_171 k_115 k_172
theorem g_M_114 : GoodIn tb (wsV R_M 114 R_M y_M_isPass (Cond.code y_M_isPass b_M_isPass 3 (some .boolean) :: tb)) := jk_goodV k_174 k_175 k_176 k_115 k_177
theorem g_M_121 : GoodIn tb (wsV R_M 121 R_M y_M_layerOf (Cond.code y_M_layerOf b_M_layerOf 3 (some .int) :: tb)) := jk_goodV k_178 k_179 k_180 k_115 k_181
theorem g_M_117 : GoodIn tb (wsV R_M 117 R_M y_M_alike (Cond.code y_M_alike b_M_alike 4 (some .int) :: tb)) := jk_goodV k_182 k_183 k_184 k_115 k_185
theorem g_M_124 : GoodIn tb (wsV R_M 124 R_M y_M_last (Cond.code y_M_last b_M_last 5 (some .int) :: tb)) := jk_goodV k_186 k_187 k_188 k_115 k_189
theorem g_L_7 : GoodIn tb (wsV R_L 7 R_X y_X_block (Cond.code y_X_block b_X_block 2 (some .int) :: tb)) := jk_goodV k_205 k_206 k_207 k_12 k_208
theorem g_L_15 : GoodIn tb (wsV R_L 15 R_X y_X_pass (Cond.code y_X_pass b_X_pass 6 (some .int) :: tb)) := jk_goodV k_210 k_211 k_212 k_12 k_213
theorem g_L_23 : GoodIn tb (wsV R_L 23 R_X y_X_weight (Cond.code y_X_weight b_X_weight 4 (some .int) :: tb)) := jk_goodV k_216 k_217 k_218 k_12 k_219
theorem g_L_27 : GoodIn tb (wsV R_L 27 R_X y_X_shift (Cond.code y_X_shift b_X_shift 4 (some .int) :: tb)) := jk_goodV k_220 k_221 k_222 k_12 k_223
theorem g_L_30 : GoodIn tb (wsV R_L 30 R_X y_X_size (Cond.code y_X_size b_X_size 3 (some .int) :: tb)) := jk_goodV k_224 k_225 k_226 k_12 k_227
theorem g_L_33 : GoodIn tb (wsV R_L 33 R_X y_X_head (Cond.code y_X_head b_X_head 3 (some .int) :: tb)) := jk_goodV k_228 k_229 k_230 k_12 k_231
theorem g_L_36 : GoodIn tb (wsV R_L 36 R_X y_X_hull (Cond.code y_X_hull b_X_hull 3 (some .boolean) :: tb)) := jk_goodV k_232 k_233 k_234 k_12 k_235
theorem g_L_40 : GoodIn tb (wsV R_L 40 R_X y_X_slope (Cond.code y_X_slope b_X_slope 5 (some .long) :: tb)) := jk_goodV k_236 k_237 k_238 k_12 k_239
theorem g_L_44 : GoodIn tb (wsV R_L 44 R_X y_X_at (Cond.code y_X_at b_X_at 4 (some .int) :: tb)) := jk_goodV k_240 k_241 k_242 k_12 k_243
theorem g_L_49 : GoodIn tb (wsV R_L 49 R_X y_X_passes (Cond.code y_X_passes b_X_passes 4 (some .int) :: tb)) := jk_goodV k_245 k_246 k_247 k_12 k_248
theorem g_L_52 : GoodIn tb (wsV R_L 52 R_X y_X_bytes (Cond.code y_X_bytes b_X_bytes 2 (some .int) :: tb)) := jk_goodV k_249 k_250 k_251 k_12 k_252
theorem g_L_56 : GoodIn tb (wsV R_L 56 R_X y_X_gained (Cond.code y_X_gained b_X_gained 5 (some .long) :: tb)) := jk_goodV k_253 k_254 k_255 k_12 k_256
theorem g_L_60 : GoodIn tb (wsV R_L 60 R_X y_X_least (Cond.code y_X_least b_X_least 4 (some .int) :: tb)) := jk_goodV k_257 k_258 k_259 k_12 k_260
theorem g_L_63 : GoodIn tb (wsV R_L 63 R_X y_X_above (Cond.code y_X_above b_X_above 5 (some .int) :: tb)) := jk_goodV k_261 k_262 k_263 k_12 k_264
theorem hdV_X_needBlock : y_X_needBlock.cls = R_X ∧ y_X_needBlock.cls ≠ "java/lang/invoke/MethodHandle" ∧ y_X_needBlock.cls ≠ "java/lang/invoke/VarHandle" ∧ (parseMethodDescriptor y_X_needBlock.desc).map (fun d => d.parameters.length) = some 1 := by decide +kernel
theorem hdS_X_needWithin : y_X_needWithin.cls ≠ "java/lang/invoke/MethodHandle" ∧ y_X_needWithin.cls ≠ "java/lang/invoke/VarHandle" ∧ (parseMethodDescriptor y_X_needWithin.desc).map (fun d => d.parameters.length) = some 3 := by decide +kernel
theorem hdS_X_startOf : y_X_startOf.cls ≠ "java/lang/invoke/MethodHandle" ∧ y_X_startOf.cls ≠ "java/lang/invoke/VarHandle" ∧ (parseMethodDescriptor y_X_startOf.desc).map (fun d => d.parameters.length) = some 1 := by decide +kernel
theorem hdS_X_blockOf : y_X_blockOf.cls ≠ "java/lang/invoke/MethodHandle" ∧ y_X_blockOf.cls ≠ "java/lang/invoke/VarHandle" ∧ (parseMethodDescriptor y_X_blockOf.desc).map (fun d => d.parameters.length) = some 1 := by decide +kernel
theorem hdV_X_takeFromRow : y_X_takeFromRow.cls = R_X ∧ y_X_takeFromRow.cls ≠ "java/lang/invoke/MethodHandle" ∧ y_X_takeFromRow.cls ≠ "java/lang/invoke/VarHandle" ∧ (parseMethodDescriptor y_X_takeFromRow.desc).map (fun d => d.parameters.length) = some 1 := by decide +kernel
theorem hdV_X_steepestFrom : y_X_steepestFrom.cls = R_X ∧ y_X_steepestFrom.cls ≠ "java/lang/invoke/MethodHandle" ∧ y_X_steepestFrom.cls ≠ "java/lang/invoke/VarHandle" ∧ (parseMethodDescriptor y_X_steepestFrom.desc).map (fun d => d.parameters.length) = some 2 := by decide +kernel
theorem hdV_X_makeHull : y_X_makeHull.cls = R_X ∧ y_X_makeHull.cls ≠ "java/lang/invoke/MethodHandle" ∧ y_X_makeHull.cls ≠ "java/lang/invoke/VarHandle" ∧ (parseMethodDescriptor y_X_makeHull.desc).map (fun d => d.parameters.length) = some 1 := by decide +kernel
theorem hdS_JL_compare : y_JL_compare.cls ≠ "java/lang/invoke/MethodHandle" ∧ y_JL_compare.cls ≠ "java/lang/invoke/VarHandle" ∧ (parseMethodDescriptor y_JL_compare.desc).map (fun d => d.parameters.length) = some 2 := by decide +kernel
theorem hdV_X_compareSlopes : y_X_compareSlopes.cls = R_X ∧ y_X_compareSlopes.cls ≠ "java/lang/invoke/MethodHandle" ∧ y_X_compareSlopes.cls ≠ "java/lang/invoke/VarHandle" ∧ (parseMethodDescriptor y_X_compareSlopes.desc).map (fun d => d.parameters.length) = some 2 := by decide +kernel
theorem hdV_X_comesBefore : y_X_comesBefore.cls = R_X ∧ y_X_comesBefore.cls ≠ "java/lang/invoke/MethodHandle" ∧ y_X_comesBefore.cls ≠ "java/lang/invoke/VarHandle" ∧ (parseMethodDescriptor y_X_comesBefore.desc).map (fun d => d.parameters.length) = some 2 := by decide +kernel
theorem hdV_X_mergeIntoRow : y_X_mergeIntoRow.cls = R_X ∧ y_X_mergeIntoRow.cls ≠ "java/lang/invoke/MethodHandle" ∧ y_X_mergeIntoRow.cls ≠ "java/lang/invoke/VarHandle" ∧ (parseMethodDescriptor y_X_mergeIntoRow.desc).map (fun d => d.parameters.length) = some 2 := by decide +kernel
theorem hdV_X_renewBlock : y_X_renewBlock.cls = R_X ∧ y_X_renewBlock.cls ≠ "java/lang/invoke/MethodHandle" ∧ y_X_renewBlock.cls ≠ "java/lang/invoke/VarHandle" ∧ (parseMethodDescriptor y_X_renewBlock.desc).map (fun d => d.parameters.length) = some 1 := by decide +kernel
theorem hdV_X_needLayer : y_X_needLayer.cls = R_X ∧ y_X_needLayer.cls ≠ "java/lang/invoke/MethodHandle" ∧ y_X_needLayer.cls ≠ "java/lang/invoke/VarHandle" ∧ (parseMethodDescriptor y_X_needLayer.desc).map (fun d => d.parameters.length) = some 1 := by decide +kernel
theorem hdV_X_tellLayer : y_X_tellLayer.cls = R_X ∧ y_X_tellLayer.cls ≠ "java/lang/invoke/MethodHandle" ∧ y_X_tellLayer.cls ≠ "java/lang/invoke/VarHandle" ∧ (parseMethodDescriptor y_X_tellLayer.desc).map (fun d => d.parameters.length) = some 3 := by decide +kernel
theorem hdV_X_fillLayer : y_X_fillLayer.cls = R_X ∧ y_X_fillLayer.cls ≠ "java/lang/invoke/MethodHandle" ∧ y_X_fillLayer.cls ≠ "java/lang/invoke/VarHandle" ∧ (parseMethodDescriptor y_X_fillLayer.desc).map (fun d => d.parameters.length) = some 2 := by decide +kernel
theorem hdV_X_pointOf : y_X_pointOf.cls = R_X ∧ y_X_pointOf.cls ≠ "java/lang/invoke/MethodHandle" ∧ y_X_pointOf.cls ≠ "java/lang/invoke/VarHandle" ∧ (parseMethodDescriptor y_X_pointOf.desc).map (fun d => d.parameters.length) = some 2 := by decide +kernel
theorem hdS_X_passesUpTo : y_X_passesUpTo.cls ≠ "java/lang/invoke/MethodHandle" ∧ y_X_passesUpTo.cls ≠ "java/lang/invoke/VarHandle" ∧ (parseMethodDescriptor y_X_passesUpTo.desc).map (fun d => d.parameters.length) = some 1 := by decide +kernel
theorem hdV_X_countSameSlope : y_X_countSameSlope.cls = R_X ∧ y_X_countSameSlope.cls ≠ "java/lang/invoke/MethodHandle" ∧ y_X_countSameSlope.cls ≠ "java/lang/invoke/VarHandle" ∧ (parseMethodDescriptor y_X_countSameSlope.desc).map (fun d => d.parameters.length) = some 1 := by decide +kernel
theorem hdV_X_needShared : y_X_needShared.cls = R_X ∧ y_X_needShared.cls ≠ "java/lang/invoke/MethodHandle" ∧ y_X_needShared.cls ≠ "java/lang/invoke/VarHandle" ∧ (parseMethodDescriptor y_X_needShared.desc).map (fun d => d.parameters.length) = some 0 := by decide +kernel
theorem hdV_X_layerOf : y_X_layerOf.cls = R_X ∧ y_X_layerOf.cls ≠ "java/lang/invoke/MethodHandle" ∧ y_X_layerOf.cls ≠ "java/lang/invoke/VarHandle" ∧ (parseMethodDescriptor y_X_layerOf.desc).map (fun d => d.parameters.length) = some 1 := by decide +kernel
theorem hdV_M_isBlock : y_M_isBlock.cls = R_M ∧ y_M_isBlock.cls ≠ "java/lang/invoke/MethodHandle" ∧ y_M_isBlock.cls ≠ "java/lang/invoke/VarHandle" ∧ (parseMethodDescriptor y_M_isBlock.desc).map (fun d => d.parameters.length) = some 1 := by decide +kernel
theorem hdV_M_fails : y_M_fails.cls = R_M ∧ y_M_fails.cls ≠ "java/lang/invoke/MethodHandle" ∧ y_M_fails.cls ≠ "java/lang/invoke/VarHandle" ∧ (parseMethodDescriptor y_M_fails.desc).map (fun d => d.parameters.length) = some 2 := by decide +kernel
theorem hdV_M_spoil : y_M_spoil.cls = R_M ∧ y_M_spoil.cls ≠ "java/lang/invoke/MethodHandle" ∧ y_M_spoil.cls ≠ "java/lang/invoke/VarHandle" ∧ (parseMethodDescriptor y_M_spoil.desc).map (fun d => d.parameters.length) = some 0 := by decide +kernel
theorem hdS_M_within : y_M_within.cls ≠ "java/lang/invoke/MethodHandle" ∧ y_M_within.cls ≠ "java/lang/invoke/VarHandle" ∧ (parseMethodDescriptor y_M_within.desc).map (fun d => d.parameters.length) = some 3 := by decide +kernel
theorem hdV_M_isLayer : y_M_isLayer.cls = R_M ∧ y_M_isLayer.cls ≠ "java/lang/invoke/MethodHandle" ∧ y_M_isLayer.cls ≠ "java/lang/invoke/VarHandle" ∧ (parseMethodDescriptor y_M_isLayer.desc).map (fun d => d.parameters.length) = some 1 := by decide +kernel
theorem hdV_M_g : y_M_g.cls = R_M ∧ y_M_g.cls ≠ "java/lang/invoke/MethodHandle" ∧ y_M_g.cls ≠ "java/lang/invoke/VarHandle" ∧ (parseMethodDescriptor y_M_g.desc).map (fun d => d.parameters.length) = some 2 := by decide +kernel
theorem hdV_M_l : y_M_l.cls = R_M ∧ y_M_l.cls ≠ "java/lang/invoke/MethodHandle" ∧ y_M_l.cls ≠ "java/lang/invoke/VarHandle" ∧ (parseMethodDescriptor y_M_l.desc).map (fun d => d.parameters.length) = some 2 := by decide +kernel
theorem hdV_M_isHull : y_M_isHull.cls = R_M ∧ y_M_isHull.cls ≠ "java/lang/invoke/MethodHandle" ∧ y_M_isHull.cls ≠ "java/lang/invoke/VarHandle" ∧ (parseMethodDescriptor y_M_isHull.desc).map (fun d => d.parameters.length) = some 2 := by decide +kernel
theorem hdV_M_isBefore : y_M_isBefore.cls = R_M ∧ y_M_isBefore.cls ≠ "java/lang/invoke/MethodHandle" ∧ y_M_isBefore.cls ≠ "java/lang/invoke/VarHandle" ∧ (parseMethodDescriptor y_M_isBefore.desc).map (fun d => d.parameters.length) = some 2 := by decide +kernel
theorem hdV_M_layRow : y_M_layRow.cls = R_M ∧ y_M_layRow.cls ≠ "java/lang/invoke/MethodHandle" ∧ y_M_layRow.cls ≠ "java/lang/invoke/VarHandle" ∧ (parseMethodDescriptor y_M_layRow.desc).map (fun d => d.parameters.length) = some 0 := by decide +kernel
theorem hdV_M_isPass : y_M_isPass.cls = R_M ∧ y_M_isPass.cls ≠ "java/lang/invoke/MethodHandle" ∧ y_M_isPass.cls ≠ "java/lang/invoke/VarHandle" ∧ (parseMethodDescriptor y_M_isPass.desc).map (fun d => d.parameters.length) = some 2 := by decide +kernel
theorem hdV_M_layerOf : y_M_layerOf.cls = R_M ∧ y_M_layerOf.cls ≠ "java/lang/invoke/MethodHandle" ∧ y_M_layerOf.cls ≠ "java/lang/invoke/VarHandle" ∧ (parseMethodDescriptor y_M_layerOf.desc).map (fun d => d.parameters.length) = some 1 := by decide +kernel
theorem hdV_M_alike : y_M_alike.cls = R_M ∧ y_M_alike.cls ≠ "java/lang/invoke/MethodHandle" ∧ y_M_alike.cls ≠ "java/lang/invoke/VarHandle" ∧ (parseMethodDescriptor y_M_alike.desc).map (fun d => d.parameters.length) = some 1 := by decide +kernel
theorem hdV_M_last : y_M_last.cls = R_M ∧ y_M_last.cls ≠ "java/lang/invoke/MethodHandle" ∧ y_M_last.cls ≠ "java/lang/invoke/VarHandle" ∧ (parseMethodDescriptor y_M_last.desc).map (fun d => d.parameters.length) = some 2 := by decide +kernel
theorem hdV_X_block : y_X_block.cls = R_X ∧ y_X_block.cls ≠ "java/lang/invoke/MethodHandle" ∧ y_X_block.cls ≠ "java/lang/invoke/VarHandle" ∧ (parseMethodDescriptor y_X_block.desc).map (fun d => d.parameters.length) = some 0 := by decide +kernel
theorem hdV_X_pass : y_X_pass.cls = R_X ∧ y_X_pass.cls ≠ "java/lang/invoke/MethodHandle" ∧ y_X_pass.cls ≠ "java/lang/invoke/VarHandle" ∧ (parseMethodDescriptor y_X_pass.desc).map (fun d => d.parameters.length) = some 3 := by decide +kernel
theorem hdV_X_weight : y_X_weight.cls = R_X ∧ y_X_weight.cls ≠ "java/lang/invoke/MethodHandle" ∧ y_X_weight.cls ≠ "java/lang/invoke/VarHandle" ∧ (parseMethodDescriptor y_X_weight.desc).map (fun d => d.parameters.length) = some 2 := by decide +kernel
theorem hdV_X_shift : y_X_shift.cls = R_X ∧ y_X_shift.cls ≠ "java/lang/invoke/MethodHandle" ∧ y_X_shift.cls ≠ "java/lang/invoke/VarHandle" ∧ (parseMethodDescriptor y_X_shift.desc).map (fun d => d.parameters.length) = some 2 := by decide +kernel
theorem hdV_X_size : y_X_size.cls = R_X ∧ y_X_size.cls ≠ "java/lang/invoke/MethodHandle" ∧ y_X_size.cls ≠ "java/lang/invoke/VarHandle" ∧ (parseMethodDescriptor y_X_size.desc).map (fun d => d.parameters.length) = some 2 := by decide +kernel
theorem hdV_X_head : y_X_head.cls = R_X ∧ y_X_head.cls ≠ "java/lang/invoke/MethodHandle" ∧ y_X_head.cls ≠ "java/lang/invoke/VarHandle" ∧ (parseMethodDescriptor y_X_head.desc).map (fun d => d.parameters.length) = some 2 := by decide +kernel
theorem hdV_X_hull : y_X_hull.cls = R_X ∧ y_X_hull.cls ≠ "java/lang/invoke/MethodHandle" ∧ y_X_hull.cls ≠ "java/lang/invoke/VarHandle" ∧ (parseMethodDescriptor y_X_hull.desc).map (fun d => d.parameters.length) = some 2 := by decide +kernel
theorem hdV_X_slope : y_X_slope.cls = R_X ∧ y_X_slope.cls ≠ "java/lang/invoke/MethodHandle" ∧ y_X_slope.cls ≠ "java/lang/invoke/VarHandle" ∧ (parseMethodDescriptor y_X_slope.desc).map (fun d => d.parameters.length) = some 3 := by decide +kernel
theorem hdV_X_at : y_X_at.cls = R_X ∧ y_X_at.cls ≠ "java/lang/invoke/MethodHandle" ∧ y_X_at.cls ≠ "java/lang/invoke/VarHandle" ∧ (parseMethodDescriptor y_X_at.desc).map (fun d => d.parameters.length) = some 2 := by decide +kernel
theorem hdV_X_passes : y_X_passes.cls = R_X ∧ y_X_passes.cls ≠ "java/lang/invoke/MethodHandle" ∧ y_X_passes.cls ≠ "java/lang/invoke/VarHandle" ∧ (parseMethodDescriptor y_X_passes.desc).map (fun d => d.parameters.length) = some 2 := by decide +kernel
theorem hdV_X_bytes : y_X_bytes.cls = R_X ∧ y_X_bytes.cls ≠ "java/lang/invoke/MethodHandle" ∧ y_X_bytes.cls ≠ "java/lang/invoke/VarHandle" ∧ (parseMethodDescriptor y_X_bytes.desc).map (fun d => d.parameters.length) = some 1 := by decide +kernel
theorem hdV_X_gained : y_X_gained.cls = R_X ∧ y_X_gained.cls ≠ "java/lang/invoke/MethodHandle" ∧ y_X_gained.cls ≠ "java/lang/invoke/VarHandle" ∧ (parseMethodDescriptor y_X_gained.desc).map (fun d => d.parameters.length) = some 1 := by decide +kernel
theorem hdV_X_least : y_X_least.cls = R_X ∧ y_X_least.cls ≠ "java/lang/invoke/MethodHandle" ∧ y_X_least.cls ≠ "java/lang/invoke/VarHandle" ∧ (parseMethodDescriptor y_X_least.desc).map (fun d => d.parameters.length) = some 1 := by decide +kernel
theorem hdV_X_above : y_X_above.cls = R_X ∧ y_X_above.cls ≠ "java/lang/invoke/MethodHandle" ∧ y_X_above.cls ≠ "java/lang/invoke/VarHandle" ∧ (parseMethodDescriptor y_X_above.desc).map (fun d => d.parameters.length) = some 2 := by decide +kernel
