section
-- ===== PART A: goes FIRST, ahead of the names: the tables' words, and 'selects' of the private methods out of them =====
/-- a private method of a class that the tables say can be made, by its rows of tables_1 -/
def lw_okq (q : MethodName × Nat) : Prop := (q.1.cls ≠ "java/lang/invoke/MethodHandle" ∧ q.1.cls ≠ "java/lang/invoke/VarHandle") ∧ Cond.instantiable q.1.cls q.2 ∈ tables_1 ∧ Cond.privateMethod q.1 ∈ tables_1 ∧ Cond.instanceMethod q.1 ∈ tables_1
theorem lw_p0 : lw_okq (⟨"RatePasses", "fillLayer", "(II)I"⟩, 17) := ⟨⟨by decide +kernel, by decide +kernel⟩, List.mem_of_getElem? (i := 13) (by decide +kernel), List.mem_of_getElem? (i := 85) (by decide +kernel), List.mem_of_getElem? (i := 86) (by decide +kernel)⟩
theorem lw_p1 : lw_okq (⟨"java/lang/Throwable", "fillInStackTrace", "(I)Ljava/lang/Throwable;"⟩, 6) := ⟨⟨by decide +kernel, by decide +kernel⟩, List.mem_of_getElem? (i := 151) (by decide +kernel), List.mem_of_getElem? (i := 149) (by decide +kernel), List.mem_of_getElem? (i := 150) (by decide +kernel)⟩
theorem lw_p2 : lw_okq (⟨"RatePasses", "needBlock", "(I)V"⟩, 17) := ⟨⟨by decide +kernel, by decide +kernel⟩, List.mem_of_getElem? (i := 13) (by decide +kernel), List.mem_of_getElem? (i := 190) (by decide +kernel), List.mem_of_getElem? (i := 191) (by decide +kernel)⟩
theorem lw_p3 : lw_okq (⟨"RatePasses", "renewBlock", "(I)V"⟩, 17) := ⟨⟨by decide +kernel, by decide +kernel⟩, List.mem_of_getElem? (i := 13) (by decide +kernel), List.mem_of_getElem? (i := 236) (by decide +kernel), List.mem_of_getElem? (i := 237) (by decide +kernel)⟩
theorem lw_p4 : lw_okq (⟨"RatePasses", "takeFromRow", "(I)V"⟩, 17) := ⟨⟨by decide +kernel, by decide +kernel⟩, List.mem_of_getElem? (i := 13) (by decide +kernel), List.mem_of_getElem? (i := 240) (by decide +kernel), List.mem_of_getElem? (i := 241) (by decide +kernel)⟩
theorem lw_p5 : lw_okq (⟨"RatePasses", "makeHull", "(I)I"⟩, 17) := ⟨⟨by decide +kernel, by decide +kernel⟩, List.mem_of_getElem? (i := 13) (by decide +kernel), List.mem_of_getElem? (i := 247) (by decide +kernel), List.mem_of_getElem? (i := 248) (by decide +kernel)⟩
theorem lw_p6 : lw_okq (⟨"RatePasses", "steepestFrom", "(II)I"⟩, 17) := ⟨⟨by decide +kernel, by decide +kernel⟩, List.mem_of_getElem? (i := 13) (by decide +kernel), List.mem_of_getElem? (i := 251) (by decide +kernel), List.mem_of_getElem? (i := 252) (by decide +kernel)⟩
theorem lw_p7 : lw_okq (⟨"RatePasses", "mergeIntoRow", "(II)V"⟩, 17) := ⟨⟨by decide +kernel, by decide +kernel⟩, List.mem_of_getElem? (i := 13) (by decide +kernel), List.mem_of_getElem? (i := 255) (by decide +kernel), List.mem_of_getElem? (i := 256) (by decide +kernel)⟩
theorem lw_p8 : lw_okq (⟨"RatePasses", "comesBefore", "(II)Z"⟩, 17) := ⟨⟨by decide +kernel, by decide +kernel⟩, List.mem_of_getElem? (i := 13) (by decide +kernel), List.mem_of_getElem? (i := 259) (by decide +kernel), List.mem_of_getElem? (i := 260) (by decide +kernel)⟩
theorem lw_p9 : lw_okq (⟨"RatePasses", "compareSlopes", "(II)I"⟩, 17) := ⟨⟨by decide +kernel, by decide +kernel⟩, List.mem_of_getElem? (i := 13) (by decide +kernel), List.mem_of_getElem? (i := 263) (by decide +kernel), List.mem_of_getElem? (i := 264) (by decide +kernel)⟩
theorem lw_p10 : lw_okq (⟨"RatePasses", "tellLayer", "([III)I"⟩, 17) := ⟨⟨by decide +kernel, by decide +kernel⟩, List.mem_of_getElem? (i := 13) (by decide +kernel), List.mem_of_getElem? (i := 293) (by decide +kernel), List.mem_of_getElem? (i := 294) (by decide +kernel)⟩
theorem lw_p11 : lw_okq (⟨"RatePasses", "needLayer", "(I)V"⟩, 17) := ⟨⟨by decide +kernel, by decide +kernel⟩, List.mem_of_getElem? (i := 13) (by decide +kernel), List.mem_of_getElem? (i := 297) (by decide +kernel), List.mem_of_getElem? (i := 298) (by decide +kernel)⟩
theorem lw_p12 : lw_okq (⟨"RatePasses", "pointOf", "(II)I"⟩, 17) := ⟨⟨by decide +kernel, by decide +kernel⟩, List.mem_of_getElem? (i := 13) (by decide +kernel), List.mem_of_getElem? (i := 317) (by decide +kernel), List.mem_of_getElem? (i := 318) (by decide +kernel)⟩
theorem lw_p13 : lw_okq (⟨"RatePasses", "countSameSlope", "(I)I"⟩, 17) := ⟨⟨by decide +kernel, by decide +kernel⟩, List.mem_of_getElem? (i := 13) (by decide +kernel), List.mem_of_getElem? (i := 341) (by decide +kernel), List.mem_of_getElem? (i := 342) (by decide +kernel)⟩
theorem lw_p14 : lw_okq (⟨"RatePasses", "needShared", "()V"⟩, 17) := ⟨⟨by decide +kernel, by decide +kernel⟩, List.mem_of_getElem? (i := 13) (by decide +kernel), List.mem_of_getElem? (i := 345) (by decide +kernel), List.mem_of_getElem? (i := 346) (by decide +kernel)⟩
theorem lw_p15 : lw_okq (⟨"RatePasses", "layerOf", "(I)I"⟩, 17) := ⟨⟨by decide +kernel, by decide +kernel⟩, List.mem_of_getElem? (i := 13) (by decide +kernel), List.mem_of_getElem? (i := 365) (by decide +kernel), List.mem_of_getElem? (i := 366) (by decide +kernel)⟩
def lw_privs_1 : List (MethodName × Nat) := [(⟨"RatePasses", "fillLayer", "(II)I"⟩, 17), (⟨"java/lang/Throwable", "fillInStackTrace", "(I)Ljava/lang/Throwable;"⟩, 6), (⟨"RatePasses", "needBlock", "(I)V"⟩, 17), (⟨"RatePasses", "renewBlock", "(I)V"⟩, 17), (⟨"RatePasses", "takeFromRow", "(I)V"⟩, 17), (⟨"RatePasses", "makeHull", "(I)I"⟩, 17), (⟨"RatePasses", "steepestFrom", "(II)I"⟩, 17), (⟨"RatePasses", "mergeIntoRow", "(II)V"⟩, 17), (⟨"RatePasses", "comesBefore", "(II)Z"⟩, 17), (⟨"RatePasses", "compareSlopes", "(II)I"⟩, 17), (⟨"RatePasses", "tellLayer", "([III)I"⟩, 17), (⟨"RatePasses", "needLayer", "(I)V"⟩, 17), (⟨"RatePasses", "pointOf", "(II)I"⟩, 17), (⟨"RatePasses", "countSameSlope", "(I)I"⟩, 17), (⟨"RatePasses", "needShared", "()V"⟩, 17), (⟨"RatePasses", "layerOf", "(I)I"⟩, 17)]
theorem lw_r1 : ∀ q ∈ lw_privs_1, lw_okq q := List.forall_mem_cons.mpr ⟨lw_p0, List.forall_mem_cons.mpr ⟨lw_p1, List.forall_mem_cons.mpr ⟨lw_p2, List.forall_mem_cons.mpr ⟨lw_p3, List.forall_mem_cons.mpr ⟨lw_p4, List.forall_mem_cons.mpr ⟨lw_p5, List.forall_mem_cons.mpr ⟨lw_p6, List.forall_mem_cons.mpr ⟨lw_p7, List.forall_mem_cons.mpr ⟨lw_p8, List.forall_mem_cons.mpr ⟨lw_p9, List.forall_mem_cons.mpr ⟨lw_p10, List.forall_mem_cons.mpr ⟨lw_p11, List.forall_mem_cons.mpr ⟨lw_p12, List.forall_mem_cons.mpr ⟨lw_p13, List.forall_mem_cons.mpr ⟨lw_p14, List.forall_mem_cons.mpr ⟨lw_p15, fun _ h => absurd h List.not_mem_nil⟩⟩⟩⟩⟩⟩⟩⟩⟩⟩⟩⟩⟩⟩⟩⟩
theorem lw_p16 : lw_okq (⟨"RatePassesModel", "fails", "(ZI)Z"⟩, 17) := ⟨⟨by decide +kernel, by decide +kernel⟩, List.mem_of_getElem? (i := 407) (by decide +kernel), List.mem_of_getElem? (i := 473) (by decide +kernel), List.mem_of_getElem? (i := 474) (by decide +kernel)⟩
theorem lw_p17 : lw_okq (⟨"RatePassesModel", "spoil", "()V"⟩, 17) := ⟨⟨by decide +kernel, by decide +kernel⟩, List.mem_of_getElem? (i := 407) (by decide +kernel), List.mem_of_getElem? (i := 477) (by decide +kernel), List.mem_of_getElem? (i := 478) (by decide +kernel)⟩
theorem lw_p18 : lw_okq (⟨"RatePassesModel", "isBlock", "(I)Z"⟩, 17) := ⟨⟨by decide +kernel, by decide +kernel⟩, List.mem_of_getElem? (i := 407) (by decide +kernel), List.mem_of_getElem? (i := 485) (by decide +kernel), List.mem_of_getElem? (i := 486) (by decide +kernel)⟩
theorem lw_p19 : lw_okq (⟨"RatePassesModel", "isLayer", "(I)Z"⟩, 17) := ⟨⟨by decide +kernel, by decide +kernel⟩, List.mem_of_getElem? (i := 407) (by decide +kernel), List.mem_of_getElem? (i := 509) (by decide +kernel), List.mem_of_getElem? (i := 510) (by decide +kernel)⟩
theorem lw_p20 : lw_okq (⟨"RatePassesModel", "layRow", "()V"⟩, 17) := ⟨⟨by decide +kernel, by decide +kernel⟩, List.mem_of_getElem? (i := 407) (by decide +kernel), List.mem_of_getElem? (i := 522) (by decide +kernel), List.mem_of_getElem? (i := 523) (by decide +kernel)⟩
theorem lw_p21 : lw_okq (⟨"RatePassesModel", "isHull", "(II)Z"⟩, 17) := ⟨⟨by decide +kernel, by decide +kernel⟩, List.mem_of_getElem? (i := 407) (by decide +kernel), List.mem_of_getElem? (i := 526) (by decide +kernel), List.mem_of_getElem? (i := 527) (by decide +kernel)⟩
theorem lw_p22 : lw_okq (⟨"RatePassesModel", "g", "(II)J"⟩, 17) := ⟨⟨by decide +kernel, by decide +kernel⟩, List.mem_of_getElem? (i := 407) (by decide +kernel), List.mem_of_getElem? (i := 530) (by decide +kernel), List.mem_of_getElem? (i := 531) (by decide +kernel)⟩
theorem lw_p23 : lw_okq (⟨"RatePassesModel", "l", "(II)I"⟩, 17) := ⟨⟨by decide +kernel, by decide +kernel⟩, List.mem_of_getElem? (i := 407) (by decide +kernel), List.mem_of_getElem? (i := 535) (by decide +kernel), List.mem_of_getElem? (i := 536) (by decide +kernel)⟩
theorem lw_p24 : lw_okq (⟨"RatePassesModel", "isBefore", "(II)Z"⟩, 17) := ⟨⟨by decide +kernel, by decide +kernel⟩, List.mem_of_getElem? (i := 407) (by decide +kernel), List.mem_of_getElem? (i := 539) (by decide +kernel), List.mem_of_getElem? (i := 540) (by decide +kernel)⟩
theorem lw_p25 : lw_okq (⟨"RatePassesModel", "isPass", "(II)Z"⟩, 17) := ⟨⟨by decide +kernel, by decide +kernel⟩, List.mem_of_getElem? (i := 407) (by decide +kernel), List.mem_of_getElem? (i := 547) (by decide +kernel), List.mem_of_getElem? (i := 548) (by decide +kernel)⟩
theorem lw_p26 : lw_okq (⟨"RatePassesModel", "alike", "(I)I"⟩, 17) := ⟨⟨by decide +kernel, by decide +kernel⟩, List.mem_of_getElem? (i := 407) (by decide +kernel), List.mem_of_getElem? (i := 563) (by decide +kernel), List.mem_of_getElem? (i := 564) (by decide +kernel)⟩
theorem lw_p27 : lw_okq (⟨"RatePassesModel", "layerOf", "(I)I"⟩, 17) := ⟨⟨by decide +kernel, by decide +kernel⟩, List.mem_of_getElem? (i := 407) (by decide +kernel), List.mem_of_getElem? (i := 567) (by decide +kernel), List.mem_of_getElem? (i := 568) (by decide +kernel)⟩
theorem lw_p28 : lw_okq (⟨"RatePassesModel", "last", "(II)I"⟩, 17) := ⟨⟨by decide +kernel, by decide +kernel⟩, List.mem_of_getElem? (i := 407) (by decide +kernel), List.mem_of_getElem? (i := 575) (by decide +kernel), List.mem_of_getElem? (i := 576) (by decide +kernel)⟩
def lw_privs_2 : List (MethodName × Nat) := [(⟨"RatePassesModel", "fails", "(ZI)Z"⟩, 17), (⟨"RatePassesModel", "spoil", "()V"⟩, 17), (⟨"RatePassesModel", "isBlock", "(I)Z"⟩, 17), (⟨"RatePassesModel", "isLayer", "(I)Z"⟩, 17), (⟨"RatePassesModel", "layRow", "()V"⟩, 17), (⟨"RatePassesModel", "isHull", "(II)Z"⟩, 17), (⟨"RatePassesModel", "g", "(II)J"⟩, 17), (⟨"RatePassesModel", "l", "(II)I"⟩, 17), (⟨"RatePassesModel", "isBefore", "(II)Z"⟩, 17), (⟨"RatePassesModel", "isPass", "(II)Z"⟩, 17), (⟨"RatePassesModel", "alike", "(I)I"⟩, 17), (⟨"RatePassesModel", "layerOf", "(I)I"⟩, 17), (⟨"RatePassesModel", "last", "(II)I"⟩, 17)]
theorem lw_r2 : ∀ q ∈ lw_privs_2, lw_okq q := List.forall_mem_cons.mpr ⟨lw_p16, List.forall_mem_cons.mpr ⟨lw_p17, List.forall_mem_cons.mpr ⟨lw_p18, List.forall_mem_cons.mpr ⟨lw_p19, List.forall_mem_cons.mpr ⟨lw_p20, List.forall_mem_cons.mpr ⟨lw_p21, List.forall_mem_cons.mpr ⟨lw_p22, List.forall_mem_cons.mpr ⟨lw_p23, List.forall_mem_cons.mpr ⟨lw_p24, List.forall_mem_cons.mpr ⟨lw_p25, List.forall_mem_cons.mpr ⟨lw_p26, List.forall_mem_cons.mpr ⟨lw_p27, List.forall_mem_cons.mpr ⟨lw_p28, fun _ h => absurd h List.not_mem_nil⟩⟩⟩⟩⟩⟩⟩⟩⟩⟩⟩⟩⟩
def lw_privs : List (MethodName × Nat) := lw_privs_1 ++ (lw_privs_2)
def lw_tbl : List Cond := k2_sels lw_privs ++ tables_1
theorem lw_privs_ok : ∀ q ∈ lw_privs, lw_okq q := by
  show ∀ q ∈ lw_privs_1 ++ (lw_privs_2), lw_okq q
  exact List.forall_mem_append.mpr ⟨lw_r1, lw_r2⟩
end
section
/-! ===== BEGIN words of one list among another's, by their places ===== -/
theorem goodIn_r {big : List Cond} (ws : List Cond) (ps : List Nat) (hp : ws = ps.filterMap (fun i => big[i]?)) (h : ws.all goodWord = true) : GoodIn big ws := by
  intro w hw
  have h1 := List.all_eq_true.mp h w hw
  rw [hp] at hw
  obtain ⟨i, -, hi⟩ := List.mem_filterMap.mp hw
  have hm : w ∈ big := by first | exact List.mem_of_getElem? hi | exact List.getElem?_mem hi
  exact ⟨hm, good_of_word h1⟩
theorem goodIn_app {big a b : List Cond} (ha : GoodIn big a) (hb : GoodIn big b) : GoodIn big (a ++ b) := fun w h => (List.mem_append.mp h).elim (ha w) (hb w)
theorem goodIn_ca {big a b : List Cond} {c : Cond} (ha : GoodIn big (c :: a)) (hb : GoodIn big b) : GoodIn big (c :: (a ++ b)) := fun w h => (List.mem_cons.mp h).elim (fun e => ha w (List.mem_cons.mpr (Or.inl e))) (fun h => (List.mem_append.mp h).elim (fun h => ha w (List.mem_cons.mpr (Or.inr h))) (hb w))
theorem goodIn_sub {big ws : List Cond} (hm : ∀ w ∈ ws, w ∈ big) (h : ws.all goodWord = true) : GoodIn big ws := fun w hw => ⟨hm w hw, good_of_word (List.all_eq_true.mp h w hw)⟩
/-! ===== END ===== -/

/-! ===== BEGIN exceptions that leave a method, and their catching by the caller (launches without stack traces) ===== -/
section VXA
/-! The laws vx_back, vx_callV, vx_callS, vx_callSW, vx_throw0, vx_throwS follow proofs of the library, with one case more: JvmDerived/Free/Laws.lean (Back.of_free), Shelf42/LK1.lean (callV, callS), Shelf/KitTraced.lean (throwNew0V, throwNewS). -/
/-- where a method has thrown q: the class by its name, the cell, what was written, the world -/
def vx_T (XC : String → State → State → Prop) (st : State) (q : Addr) (t : State) (mc ms : Nat) (free : Addr → Prop) : Prop :=
  ∃ (E : String) (ce : Cell) (L : List Loc), XC E st t ∧ t.heap[q]? = some ce ∧ ce.vm = .none ∧ st.vm.findClass E = some ce.cls ∧ st.WarmedH t.vm ∧ st.sameButNew ({ t with vm := st.vm } : State) L mc ms ∧ ∀ z ∈ L, free z.base
def vx_Q (Qc : Array Value → State → Outcome → State → Prop) (XC : String → State → State → Prop) (mc ms : Nat) (free : Addr → Prop) : Array Value → State → Outcome → State → Prop := fun a st o t =>
  (Qc a st o t ∧ ∃ L, FrameEnd st o t L mc ms ∧ ∀ q ∈ L, free q.base) ∨ ∃ q, o = .threw q ∧ vx_T XC st q t mc ms free
/-- a callee that returns or throws -/
def vx_Met (l : Launch) (y : MethodName) (ws : List Cond) (rm : Room) (Pc : Array Value → State → Prop) (Qc : Array Value → State → Outcome → State → Prop) (XC : String → State → State → Prop) (mc ms : Nat) (free : Addr → Prop) : Prop :=
  MetFree l y (headSpec ws rm) Pc (fun _ _ _ _ _ => True) (vx_Q Qc XC mc ms free)
def vx_Post (XC : String → State → State → Prop) (mc ms : Nat) (free : Addr → Prop) : Pt → Array Value → Addr → Pt → Prop := fun A a q B =>
  ∃ (g : JFrame) (mk : MethodId) (t : State) (L : List Loc) (E : String) (ce : Cell), B.U.heap = t.heap ∧ B.U.vm = t.vm ∧ XC E (A.U.calling g mk a) t ∧ t.heap[q]? = some ce ∧ ce.vm = .none ∧ A.U.vm.findClass E = some ce.cls ∧ B.locs = A.locs ++ L ∧ (∀ z ∈ L, free z.base) ∧ B.cells = A.cells + mc ∧ B.slots = A.slots + ms
def vx_Back (l : Launch) (R : Room) (p : Program) (e : Env) (below : List Frame) (s : State) (sargs : Array Value) (y : MethodName) (len W9 : Nat)
    (Pre : Pt → Array Value → Prop) (Post : Pt → Array Value → Option Value → Pt → Prop) (PostX : Pt → Array Value → Addr → Pt → Prop) : Prop :=
  ∀ (m : MethodId) (meth : Method) (c : Code) (A : Pt) (g : JFrame) (ig : Instr) (mk : MethodId) (a : Array Value),
    Stand p l e R s m sargs below meth c A.U A.locs A.cells A.slots → g.method = m → g.locals.size = c.maxLocals → decode c.code g.pc = .ok (ig, len) →
    2 * g.monitorRoom + (g.stack.map fun v => v.category).sum ≤ W9 → A.U.methodNamed? y = some mk → Pre A a →
    (∃ (v : Option Value) (B : Pt), Stand p l e R s m sargs below meth c B.U B.locs B.cells B.slots ∧ Post A a v B ∧
      Steps p.tables e below (doInvoke e (A.U.setTop g) [] mk a).1 (B.U.setTop { g with pc := g.pc + len, stack := v.toList ++ g.stack })) ∨
    (∃ (q : Addr) (B : Pt), Stand p l e R s m sargs below meth c B.U B.locs B.cells B.slots ∧ PostX A a q B ∧
      Steps p.tables e below (doInvoke e (A.U.setTop g) [] mk a).1 ((B.U.setTop g).pushFrame (.throwing q)))
section Payer
variable {l : Launch} {R : Room} {p : Program} {e : Env} {below : List Frame} {s : State} {sargs : Array Value} {y : MethodName} {len W9 : Nat}
theorem vx_back {ws : List Cond} {rm : Room} {Pc : Array Value → State → Prop} {Qc : Array Value → State → Outcome → State → Prop} {XC : String → State → State → Prop} {mc ms : Nat} {free : Addr → Prop} {bytes : ByteArray} {maxL : Nat} {ret : Option FieldType}
    (hM : vx_Met l y ws rm Pc Qc XC mc ms free) (hblind : FrameBlind Pc) (hrc : rm.cells = mc) (hrs : rm.slots = ms)
    (hframes : rm.frames + 1 ≤ R.frames) (hlocals : W9 + (maxL + 11) + rm.locals ≤ R.locals)
    (hws : ∀ w ∈ ws, ∀ a' U, s.WarmedH U.vm → w.before a' U = true) (hcode : Cond.code y bytes maxL ret ∈ ws) (hinit : ∀ a' U, s.WarmedH U.vm → (Cond.initialized y.cls).before a' U = true) :
    vx_Back l R p e below s sargs y len W9 (PreOf R mc ms Pc) (PostOf Qc mc ms free) (vx_Post XC mc ms free) := by
  intro m meth c A g ig mk a X hg hsize hdg hW hn hp
  have h1 : (headSpec ws rm).pre.before a A.U = true := atoms_intro fun w hw => hws w hw _ _ X.warmed
  have h2 : (Cond.code y bytes maxL ret).before a A.U = true := hws _ hcode _ _ X.warmed
  have h3 : (Cond.initialized y.cls).before a A.U = true := hinit _ _ X.warmed
  have h4 : A.cells + (headSpec ws rm).room.cells ≤ R.cells := by rw [show (headSpec ws rm).room.cells = mc from hrc]; exact hp.1
  have h5 : A.slots + (headSpec ws rm).room.slots ≤ R.slots := by rw [show (headSpec ws rm).room.slots = ms from hrs]; exact hp.2.1
  have hPc : Pc a (A.U.calling g mk a) := hblind _ _ _ _ hp.2.2
  obtain ⟨U, Ls, c0, s0⟩ := A
  dsimp only [Pt.U, Pt.locs, Pt.cells, Pt.slots] at h1 h2 h3 h4 h5 X hn hPc ⊢
  obtain ⟨methY, cY, hmY, hcY, -, hlY, -, -, -, -⟩ := Cond.code_spec hn h2
  obtain ⟨kY, hkY, -⟩ := className_of_methodNamed hn
  have hinitY : kY.init = .initialized := Cond.initialized_spec (findClass_of_methodNamed hn) hkY h3
  have h : At U g.method c below := by rw [hg]; exact X.here
  have hlocals9 : W9 + (maxL + 11) + (headSpec ws rm).room.locals ≤ R.locals := hlocals
  have happ : (headSpec ws rm).appliesLoose y e.platform (U.calling g mk a) = true :=
    Spec.appliesLoose_calling (g := g) h hdg hn hkY hinitY
      (X.room_calling (g := g) (R' := (headSpec ws rm).room) hsize hmY hcY hframes (by rw [hlY]; omega) h4 h5) h1
  obtain ⟨mid, hmid⟩ := h.above
  have hfr : (U.setTop g).frames = (.java g :: mid) ++ below := by rw [State.frames_setTop' g h.top, hmid]; rfl
  obtain ⟨o, s₂, hsteps, -, hend, hq⟩ := Steps.callFree hM p X.admits X.cas X.clock (acts := []) hfr happ hPc trivial
  have hq' : vx_Q Qc XC mc ms free a (U.calling g mk a) o s₂ := hq
  rw [State.frames_setTop' g h.top] at hend
  obtain ⟨g₀, hg0⟩ := Option.isSome_iff_exists.mp h.top
  obtain ⟨r, hr⟩ := State.topJava?_eq_some.mp hg0
  have hr' : (({ U with heap := s₂.heap, slotsUsed := s₂.slotsUsed } : State).setVm s₂.vm).frames = .java g₀ :: r := hr
  rcases hq' with ⟨hqc, L, hfe, hL⟩ | ⟨q, rfl, E, ce, L, hx, hce, hcv, hcl, hW₂, hsm, hL⟩
  · obtain ⟨⟨v, rfl⟩, hW₂, e2, q2, q3, q4, q5, q6⟩ := id hfe
    have e3 : s₂ = ({ (U.calling g mk a).setFrames s₂.frames with heap := s₂.heap, slotsUsed := s₂.slotsUsed } : State).setVm s₂.vm := by
      have : s₂ = ({ s₂ with vm := (U.calling g mk a).vm } : State).setVm s₂.vm := rfl
      rw [e2] at this
      exact this
    obtain ⟨c₂, i₂, len₂, hc₂, hd₂, hf₂⟩ := hend
    have hW' : U.WarmedH s₂.vm := hW₂
    have hcc : c₂ = c := by
      have h1 : s₂.code? g.method = U.code? g.method := by
        rw [State.code?_eq, State.code?_eq, hW'.alike.method?]
      exact Option.some.inj (hc₂.symm.trans (h1.trans h.code))
    subst hcc
    have hlen : len₂ = len := by rw [hdg] at hd₂; cases hd₂; rfl
    subst hlen
    have hs₂ : s₂ = (({ U with heap := s₂.heap, slotsUsed := s₂.slotsUsed } : State).setVm s₂.vm).setTop { g with pc := g.pc + len₂, stack := v.toList ++ g.stack } := by
      refine e3.trans ?_
      rw [hf₂, State.calling_eq h.top, State.setFrames_setFrames, State.setTop_of_frames _ hr', hr]
      rfl
    have hsame : U.sameButNew ({ U with heap := s₂.heap, slotsUsed := s₂.slotsUsed } : State) L mc ms := by
      refine ⟨?_, q2, q3, q4, q5, q6⟩
      obtain ⟨t, ht, -⟩ := State.frames_cons hr
      show ({ U with heap := s₂.heap, slotsUsed := s₂.slotsUsed } : State) = { U.setFrames U.frames with heap := s₂.heap, slotsUsed := s₂.slotsUsed }
      rw [State.setFrames_self ht]
    subst hg
    refine Or.inl ⟨v, ⟨(({ U with heap := s₂.heap, slotsUsed := s₂.slotsUsed } : State).setVm s₂.vm), Ls ++ L, c0 + mc, s0 + ms⟩,
      ⟨X.admits, X.cas, X.clock, X.frames, X.room, X.hears, X.method, X.code, (X.here.setHeapUsed s₂.heap s₂.slotsUsed).setVm hW'.alike, X.tail, State.WarmedH.trans X.warmed hW', X.limits, X.bytes, X.same.trans (hsame.setVm s.vm)⟩,
      ⟨g, mk, s₂, L, rfl, rfl, hqc, rfl, hL, rfl, rfl⟩, ?_⟩
    show Steps p.tables e below _ ((({ U with heap := s₂.heap, slotsUsed := s₂.slotsUsed } : State).setVm s₂.vm).setTop { g with pc := g.pc + len₂, stack := v.toList ++ g.stack })
    rw [← hs₂]
    exact hsteps
  · obtain ⟨e2, q2, q3, q4, q5, q6⟩ := id hsm
    have e3 : s₂ = ({ (U.calling g mk a).setFrames s₂.frames with heap := s₂.heap, slotsUsed := s₂.slotsUsed } : State).setVm s₂.vm := by
      have : s₂ = ({ s₂ with vm := (U.calling g mk a).vm } : State).setVm s₂.vm := rfl
      rw [e2] at this
      exact this
    have hf₂ : s₂.frames = .throwing q :: .java g :: U.frames.tail := hend
    have hW' : U.WarmedH s₂.vm := hW₂
    have hs₂ : s₂ = ((({ U with heap := s₂.heap, slotsUsed := s₂.slotsUsed } : State).setVm s₂.vm).setTop g).pushFrame (.throwing q) := by
      refine e3.trans ?_
      rw [hf₂, State.calling_eq h.top, State.setFrames_setFrames, State.pushFrame, State.frames_setTop _ hr', State.setTop_of_frames _ hr', State.setFrames_setFrames, hr]
      rfl
    have hsame : U.sameButNew ({ U with heap := s₂.heap, slotsUsed := s₂.slotsUsed } : State) L mc ms := by
      refine ⟨?_, q2, q3, q4, q5, q6⟩
      obtain ⟨t, ht, -⟩ := State.frames_cons hr
      show ({ U with heap := s₂.heap, slotsUsed := s₂.slotsUsed } : State) = { U.setFrames U.frames with heap := s₂.heap, slotsUsed := s₂.slotsUsed }
      rw [State.setFrames_self ht]
    subst hg
    refine Or.inr ⟨q, ⟨(({ U with heap := s₂.heap, slotsUsed := s₂.slotsUsed } : State).setVm s₂.vm), Ls ++ L, c0 + mc, s0 + ms⟩,
      ⟨X.admits, X.cas, X.clock, X.frames, X.room, X.hears, X.method, X.code, (X.here.setHeapUsed s₂.heap s₂.slotsUsed).setVm hW'.alike, X.tail, State.WarmedH.trans X.warmed hW', X.limits, X.bytes, X.same.trans (hsame.setVm s.vm)⟩,
      ⟨g, mk, s₂, L, E, ce, rfl, rfl, hx, hce, hcv, hcl, rfl, hL, rfl, rfl⟩, ?_⟩
    show Steps p.tables e below _ (((({ U with heap := s₂.heap, slotsUsed := s₂.slotsUsed } : State).setVm s₂.vm).setTop g).pushFrame (.throwing q))
    rw [← hs₂]
    exact hsteps
end Payer
section Calls
variable {p : Program} {l : Launch} {e : Env} {R : Room} {s : State} {m : MethodId} {args : Array Value} {below : List Frame} {meth : Method} {c : Code} {T : State} {locs : List Loc} {cells slots : Nat}
theorem vx_callV (X : Stand p l e R s m args below meth c T locs cells slots) (hexec : p.tables.exec = Jvm.exec) {own C : String} {index : Nat} {y : MethodName} {bytes : ByteArray} {maxL : Nat} {ret : Option FieldType}
    (hown : s.vm.findClass own = some m.cls) (hlink : (Cond.methodLink own index y).before args s = true) (hinst : (Cond.instanceMethod y).before args s = true) (hsel : (Cond.selects C y y).before args s = true)
    (hcode : (Cond.code y bytes maxL ret).before args s = true) (hy : y.cls ≠ "java/lang/invoke/MethodHandle" ∧ y.cls ≠ "java/lang/invoke/VarHandle")
    {W9 : Nat} {Pre : Pt → Array Value → Prop} {Post : Pt → Array Value → Option Value → Pt → Prop} {PostX : Pt → Array Value → Addr → Pt → Prop} (hK : vx_Back l R p e below s args y 3 W9 Pre Post PostX)
    {b : Addr} {cellB : Cell} (hcell : T.heap[b]? = some cellB) (hobj : cellB.vm.isStatics = false) (hcls : s.vm.findClass C = some cellB.cls)
    {g : JFrame} (hg : g.method = m) (hsize : g.locals.size = c.maxLocals) {argsL rest : List Value} (hlen : ∀ sig, parseMethodDescriptor y.desc = some sig → argsL.length = sig.parameters.length)
    (hstack : g.stack = argsL.reverse ++ .ref b :: rest) (hW : 2 * g.monitorRoom + (rest.map fun v => v.category).sum ≤ W9) (hdg : decode c.code g.pc = .ok (.invokevirtual index, 3))
    (hpre : ∀ vm₁, s.WarmedH vm₁ → Pre ⟨T.setVm vm₁, locs, cells, slots⟩ (Value.ref b :: argsL).toArray) :
    (∃ (v : Option Value) (vm₁ : Vm) (B : Pt), s.WarmedH vm₁ ∧ Stand p l e R s m args below meth c B.U B.locs B.cells B.slots ∧ Post ⟨T.setVm vm₁, locs, cells, slots⟩ (Value.ref b :: argsL).toArray v B ∧
      ∀ target, Steps p.tables e below (B.U.setTop { g with pc := g.pc + 3, stack := v.toList ++ rest }) target → Steps p.tables e below (T.setTop g) target) ∨
    (∃ (q : Addr) (vm₁ : Vm) (B : Pt), s.WarmedH vm₁ ∧ Stand p l e R s m args below meth c B.U B.locs B.cells B.slots ∧ PostX ⟨T.setVm vm₁, locs, cells, slots⟩ (Value.ref b :: argsL).toArray q B ∧
      Steps p.tables e below (T.setTop g) ((B.U.setTop { g with stack := rest }).pushFrame (.throwing q))) := by
  obtain ⟨mk, methM, hnamed, hmethM, hstM, habM⟩ := Cond.instanceMethod_spec hinst
  obtain ⟨methM', cM, hmethM', -, -, -, -, -, -, hsigM⟩ := Cond.code_spec hnamed hcode
  cases hmethM.symm.trans hmethM'
  obtain ⟨c2, r2, m2, q1, q2, q3, q4, kP, hkP, hkPi⟩ := Cond.selects_spec hsel
  cases hcls.symm.trans q1
  cases (State.methodFound?_of_named hnamed hy).symm.trans q2
  cases hnamed.symm.trans q3
  have hselP : selectMethod e.platform s.vm cellB.cls mk = .method mk := by rw [Launch.admits_selectMethod X.admits]; exact q4
  obtain ⟨vm₁, X₁, hstep₁⟩ := X.invokevirtual hexec hown hlink hnamed hmethM hstM hkP hkPi hy (a := b) (cell := cellB) hcell
    (fun z h => by rw [h] at hobj; cases hobj) hselP hmethM habM hkP hkPi (g := g) hg (argsL := argsL) (rest := rest) (hlen _ hsigM) hstack hdg
  rcases hK m meth c ⟨T.setVm vm₁, locs, cells, slots⟩ { g with stack := rest } (.invokevirtual index) mk (Value.ref b :: argsL).toArray X₁ hg hsize hdg hW (X₁.named hnamed) (hpre vm₁ X₁.warmed) with ⟨v, B, X', hpost, hsteps⟩ | ⟨q, B, X', hpost, hsteps⟩
  · exact Or.inl ⟨v, vm₁, B, X₁.warmed, X', hpost, fun target h => hstep₁ _ fun acts => by rw [doInvoke_state]; exact hsteps.trans h⟩
  · exact Or.inr ⟨q, vm₁, B, X₁.warmed, X', hpost, hstep₁ _ fun acts => by rw [doInvoke_state]; exact hsteps⟩
theorem vx_callS (X : Stand p l e R s m args below meth c T locs cells slots) (hexec : p.tables.exec = Jvm.exec) {own : String} {index : Nat} {y : MethodName} {bytes : ByteArray} {maxL : Nat} {ret : Option FieldType}
    (hown : s.vm.findClass own = some m.cls) (hlink : (Cond.methodLink own index y).before args s = true) (hstat : (Cond.static y).before args s = true) (hinit : (Cond.initialized y.cls).before args s = true)
    (hcode : (Cond.code y bytes maxL ret).before args s = true) (hy : y.cls ≠ "java/lang/invoke/MethodHandle" ∧ y.cls ≠ "java/lang/invoke/VarHandle")
    {W9 : Nat} {Pre : Pt → Array Value → Prop} {Post : Pt → Array Value → Option Value → Pt → Prop} {PostX : Pt → Array Value → Addr → Pt → Prop} (hK : vx_Back l R p e below s args y 3 W9 Pre Post PostX)
    {g : JFrame} (hg : g.method = m) (hsize : g.locals.size = c.maxLocals) {argsL rest : List Value} (hlen : ∀ sig, parseMethodDescriptor y.desc = some sig → argsL.length = sig.parameters.length)
    (hstack : g.stack = argsL.reverse ++ rest) (hW : 2 * g.monitorRoom + (rest.map fun v => v.category).sum ≤ W9) (hdg : decode c.code g.pc = .ok (.invokestatic index, 3))
    (hpre : ∀ vm₁, s.WarmedH vm₁ → Pre ⟨T.setVm vm₁, locs, cells, slots⟩ argsL.toArray) :
    (∃ (v : Option Value) (vm₁ : Vm) (B : Pt), s.WarmedH vm₁ ∧ Stand p l e R s m args below meth c B.U B.locs B.cells B.slots ∧ Post ⟨T.setVm vm₁, locs, cells, slots⟩ argsL.toArray v B ∧
      ∀ target, Steps p.tables e below (B.U.setTop { g with pc := g.pc + 3, stack := v.toList ++ rest }) target → Steps p.tables e below (T.setTop g) target) ∨
    (∃ (q : Addr) (vm₁ : Vm) (B : Pt), s.WarmedH vm₁ ∧ Stand p l e R s m args below meth c B.U B.locs B.cells B.slots ∧ PostX ⟨T.setVm vm₁, locs, cells, slots⟩ argsL.toArray q B ∧
      Steps p.tables e below (T.setTop g) ((B.U.setTop { g with stack := rest }).pushFrame (.throwing q))) := by
  obtain ⟨mk, hnamed⟩ := Cond.code_named hcode
  obtain ⟨methM, cM, hmethM, -, -, -, -, -, -, hsigM⟩ := Cond.code_spec hnamed hcode
  have hstatic : methM.isStatic = true := Cond.static_spec hnamed hmethM hstat
  obtain ⟨kP, hkP, -⟩ := className_of_methodNamed hnamed
  have hinitP : kP.init = .initialized := Cond.initialized_spec (findClass_of_methodNamed hnamed) hkP hinit
  obtain ⟨vm₁, X₁, hstep₁⟩ := X.invokestatic hexec hown hlink hnamed hmethM hstatic hkP hinitP hy (g := g) hg (argsL := argsL) (rest := rest) (hlen _ hsigM) hstack hdg
  rcases hK m meth c ⟨T.setVm vm₁, locs, cells, slots⟩ { g with stack := rest } (.invokestatic index) mk argsL.toArray X₁ hg hsize hdg hW (X₁.named hnamed) (hpre vm₁ X₁.warmed) with ⟨v, B, X', hpost, hsteps⟩ | ⟨q, B, X', hpost, hsteps⟩
  · exact Or.inl ⟨v, vm₁, B, X₁.warmed, X', hpost, fun target h => hstep₁ _ fun acts => by rw [doInvoke_state]; exact hsteps.trans h⟩
  · exact Or.inr ⟨q, vm₁, B, X₁.warmed, X', hpost, hstep₁ _ fun acts => by rw [doInvoke_state]; exact hsteps⟩
end Calls
theorem vx_cls {s : State} {T : State} {vm₁ : Vm} {E : String} {k : ClassId} (hW : s.WarmedH vm₁) (h : (T.setVm vm₁).vm.findClass E = some k) : s.vm.findClass E = some k := by
  have h1 : vm₁.findClass E = some k := h
  rw [hW.alike.findClass] at h1
  exact h1
/-- the method's frame g, with q thrown over it -/
def vx_W (p : Program) (l : Launch) (e : Env) (R : Room) (s : State) (m : MethodId) (args : Array Value) (below : List Frame) (meth : Method) (c : Code) (H : Heap) (locs : List Loc) (cells slots : Nat) (Q : State → Prop) (g : JFrame) (q : Addr) : Prop :=
  ∀ T : State, T.heap = H → Stand p l e R s m args below meth c T locs cells slots → ∃ t, Steps p.tables e below ((T.setTop g).pushFrame (.throwing q)) t ∧ Q t
def vx_Run (p : Program) (l : Launch) (e : Env) (R : Room) (s : State) (m : MethodId) (args : Array Value) (below : List Frame) (meth : Method) (c : Code) (H : Heap) (locs : List Loc) (cells slots mc ms : Nat) (g : JFrame) (rest : List Value) (Qa : State → Outcome → State → Prop) (XC : String → State → State → Prop) (free : Addr → Prop) : Prop :=
  ∀ T : State, T.heap = H → Stand p l e R s m args below meth c T locs cells slots →
    (∃ (v : Option Value) (st₀ t T' : State) (L : List Loc), st₀.heap = H ∧ Stand p l e R s m args below meth c T' (locs ++ L) (cells + mc) (slots + ms) ∧ (∀ q ∈ L, free q.base) ∧ T'.heap = t.heap ∧ T'.vm = t.vm ∧ Qa st₀ (.returned v) t ∧
      Goes p e below T g T' { g with pc := g.pc + 3, stack := v.toList ++ rest }) ∨
    (∃ (q : Addr) (st₀ t T' : State) (L : List Loc) (E : String) (ce : Cell), st₀.heap = H ∧ Stand p l e R s m args below meth c T' (locs ++ L) (cells + mc) (slots + ms) ∧ (∀ z ∈ L, free z.base) ∧ T'.heap = t.heap ∧ T'.vm = t.vm ∧ XC E st₀ t ∧ t.heap[q]? = some ce ∧ ce.vm = .none ∧ s.vm.findClass E = some ce.cls ∧
      Steps p.tables e below (T.setTop g) ((T'.setTop { g with stack := rest }).pushFrame (.throwing q)))
def vx_X {S : Type} (px : S → Prop) (B : String → S → State → Prop) (A : Nat → Prop) : String → State → State → Prop := fun E st t => ∃ u : S, px u ∧ B E u t ∧ va_F A st t
section Runs
variable {p : Program} {l : Launch} {e : Env} {R : Room} {s : State} {m : MethodId} {args : Array Value} {below : List Frame} {meth : Method} {c : Code} {H : Heap} {locs : List Loc} {cells slots : Nat}
variable {y : MethodName} {bytes cc : ByteArray} {maxL nL mc ms n index : Nat} {ret : Option FieldType} {ws : List Cond} {rm : Room} {Pc : Array Value → State → Prop} {Qc : Array Value → State → Outcome → State → Prop} {XC : String → State → State → Prop} {free : Addr → Prop} {Ts : List Cond} {own C : String} {b : Addr} {As rest : List Value} {g : JFrame}
theorem vx_callBack (cb : CallB R s args own index y bytes maxL ret ws rm mc ms n) (hM : vx_Met l y ws rm Pc Qc XC mc ms free) (hbl : FrameBlind Pc) : vx_Back l R p e below s args y 3 8 (PreOf R mc ms Pc) (PostOf Qc mc ms free) (vx_Post XC mc ms free) := by
  obtain ⟨hrc, hrs, hfr, hlo, hws, hcw, -, hini, -⟩ := cb
  exact vx_back (bytes := bytes) (maxL := maxL) (ret := ret) hM hbl hrc hrs hfr hlo hws hcw (fun a' U hW => word_at hW (Or.inl (by first | rfl | simp [Cond.onTables, Cond.keeps, Cond.steady])) hini)
theorem vx_runV (S : CallFix p m c cc nL s args Ts own) (hM : vx_Met l y ws rm Pc Qc XC mc ms free) (cw : CallW R s args own C index y bytes maxL ret ws rm mc ms n) (hp : PreV s H C b Pc As)
    (hg : g.method = m) (hn : As.length = n) (hsize : g.locals.size = nL) (hstack : g.stack = As.reverse ++ .ref b :: rest) (hW : 2 * g.monitorRoom + (rest.map fun v => v.category).sum ≤ 8) (hdg : decode cc g.pc = .ok (.invokevirtual index, 3)) (hf : cells + mc ≤ R.cells ∧ slots + ms ≤ R.slots) :
    vx_Run p l e R s m args below meth c H locs cells slots mc ms g rest (Qc (Value.ref b :: As).toArray) XC free := by
  have hK : vx_Back l R p e below s args y 3 8 (PreOf R mc ms Pc) (PostOf Qc mc ms free) (vx_Post XC mc ms free) := vx_callBack cw.1 hM hp.1
  obtain ⟨⟨-, -, -, -, -, -, hcode, -, hy, hlen, hl⟩, hin, hse⟩ := cw
  obtain ⟨hx, hb, hml, ho, -⟩ := S
  obtain ⟨-, ⟨cellB, hcB, hoB, hclB⟩, hPc⟩ := hp
  intro T hT X
  rcases vx_callV X hx (C := C) (bytes := bytes) (maxL := maxL) (ret := ret) ho hl hin hse hcode hy hK (by rw [hT]; exact hcB) hoB hclB hg (hsize.trans hml.symm) (argsL := As) (rest := rest) (fun sig h => hn.trans (hlen sig h)) hstack hW (by rw [hb]; exact hdg)
    (fun vm₁ hW₁ => ⟨hf.1, hf.2, hPc (T.setVm vm₁) hT hW₁⟩) with ⟨v, vm₁, ⟨U', l2, c2, s2⟩, hW₁, X', ⟨g', mk, t, L, e1, e2, hq, h1, hL, h2, h3⟩, st⟩ | ⟨q, vm₁, ⟨U', l2, c2, s2⟩, hW₁, X', ⟨g', mk, t, L, E, ce, e1, e2, hq, hce, hcv, hcl, h1, hL, h2, h3⟩, st⟩
  · dsimp only [Pt.U, Pt.locs, Pt.cells, Pt.slots] at X' e1 e2 h1 h2 h3 st
    subst h1; subst h2; subst h3
    exact Or.inl ⟨v, (T.setVm vm₁).calling g' mk (Value.ref b :: As).toArray, t, U', L, hT, X', hL, e1, e2, hq, st⟩
  · dsimp only [Pt.U, Pt.locs, Pt.cells, Pt.slots] at X' e1 e2 h1 h2 h3 st hcl
    subst h1; subst h2; subst h3
    exact Or.inr ⟨q, (T.setVm vm₁).calling g' mk (Value.ref b :: As).toArray, t, U', L, E, ce, hT, X', hL, e1, e2, hq, hce, hcv, vx_cls hW₁ hcl, st⟩
theorem vx_runS (S : CallFix p m c cc nL s args Ts own) (hM : vx_Met l y ws rm Pc Qc XC mc ms free) (cw : CallB R s args own index y bytes maxL ret ws rm mc ms n ∧ (Cond.static y).before args s = true) (hp : PreS s H Pc As)
    (hg : g.method = m) (hn : As.length = n) (hsize : g.locals.size = nL) (hstack : g.stack = As.reverse ++ rest) (hW : 2 * g.monitorRoom + (rest.map fun v => v.category).sum ≤ 8) (hdg : decode cc g.pc = .ok (.invokestatic index, 3)) (hf : cells + mc ≤ R.cells ∧ slots + ms ≤ R.slots) :
    vx_Run p l e R s m args below meth c H locs cells slots mc ms g rest (Qc As.toArray) XC free := by
  have hK : vx_Back l R p e below s args y 3 8 (PreOf R mc ms Pc) (PostOf Qc mc ms free) (vx_Post XC mc ms free) := vx_callBack cw.1 hM hp.1
  obtain ⟨⟨-, -, -, -, -, -, hcode, hini, hy, hlen, hl⟩, hstt⟩ := cw
  obtain ⟨hx, hb, hml, ho, -⟩ := S
  intro T hT X
  rcases vx_callS X hx (bytes := bytes) (maxL := maxL) (ret := ret) ho hl hstt hini hcode hy hK hg (hsize.trans hml.symm) (argsL := As) (rest := rest) (fun sig h => hn.trans (hlen sig h)) hstack hW (by rw [hb]; exact hdg)
    (fun vm₁ hW₁ => ⟨hf.1, hf.2, hp.2 (T.setVm vm₁) hT hW₁⟩) with ⟨v, vm₁, ⟨U', l2, c2, s2⟩, hW₁, X', ⟨g', mk, t, L, e1, e2, hq, h1, hL, h2, h3⟩, st⟩ | ⟨q, vm₁, ⟨U', l2, c2, s2⟩, hW₁, X', ⟨g', mk, t, L, E, ce, e1, e2, hq, hce, hcv, hcl, h1, hL, h2, h3⟩, st⟩
  · dsimp only [Pt.U, Pt.locs, Pt.cells, Pt.slots] at X' e1 e2 h1 h2 h3 st
    subst h1; subst h2; subst h3
    exact Or.inl ⟨v, (T.setVm vm₁).calling g' mk As.toArray, t, U', L, hT, X', hL, e1, e2, hq, st⟩
  · dsimp only [Pt.U, Pt.locs, Pt.cells, Pt.slots] at X' e1 e2 h1 h2 h3 st hcl
    subst h1; subst h2; subst h3
    exact Or.inr ⟨q, (T.setVm vm₁).calling g' mk As.toArray, t, U', L, E, ce, hT, X', hL, e1, e2, hq, hce, hcv, vx_cls hW₁ hcl, st⟩
end Runs
section Rows
variable {p : Program} {l : Launch} {e : Env} {R : Room} {s : State} {m : MethodId} {args : Array Value} {below : List Frame} {meth : Method} {c : Code} {H : Heap} {locs : List Loc} {cells slots : Nat} {Q : State → Prop}
variable {mc ms : Nat} {free : Addr → Prop} {A0 A1 : Nat → Prop} {H0 : Heap} {a : Array Value} {pc : Nat} {ls : Array Slot} {st0 rest : List Value}
theorem vx_keep {st₀ t T' : State} {L : List Loc} (h0 : st₀.heap = H) (e1 : T'.heap = t.heap) (hS : va_S A0 H0 H locs) (hA : ∀ q, q < H.size → A1 q → A0 q) (hf : ∀ q, free q → A0 q) (hL : ∀ q ∈ L, free q.base) (hF : va_F A1 st₀ t) :
    H.size ≤ T'.heap.size ∧ (∀ q : Nat, q < H.size → ¬ A1 q → T'.heap[q]? = H[q]?) ∧ va_S A0 H0 T'.heap (locs ++ L) := by
  obtain ⟨hz, hk⟩ := hF
  rw [h0] at hz hk
  exact ⟨by rw [e1]; exact hz, fun q h1 h2 => by rw [e1]; exact hk q h1 h2,
    ⟨Nat.le_trans hS.1 (by rw [e1]; exact hz), fun q h1 h2 => by rw [e1, hk q (Nat.lt_of_lt_of_le h1 hS.1) (fun z => h2 (hA q (Nat.lt_of_lt_of_le h1 hS.1) z))]; exact hS.2.1 q h1 h2, fun q hq => by
      rcases List.mem_append.mp hq with h | h
      · exact hS.2.2 q h
      · exact hf _ (hL q h)⟩⟩
theorem vx_calli {S SX : Type} {post : Int32 → S → Prop} {px : SX → Prop} {B : S → State → Prop} {BX : String → SX → State → Prop} {AX : Nat → Prop} (hr : vx_Run p l e R s m args below meth c H locs cells slots mc ms (F0 m pc ls st0) rest (va_Qi post B A1 a) (vx_X px BX AX) free) (hS : va_S A0 H0 H locs) (hA : ∀ q, q < H.size → A1 q → A0 q) (hf : ∀ q, free q → A0 q) (hAX : ∀ q, q < H.size → AX q → A0 q)
    (kx : ∀ (E : String) (ce : Cell) (q9 : Addr) (u : SX) (t : State) (H1 : Heap) (locs1 : List Loc), t.heap = H1 → s.vm.Alike t.vm → px u → BX E u t → H.size ≤ H1.size → (∀ q : Nat, q < H.size → ¬ AX q → H1[q]? = H[q]?) → va_S A0 H0 H1 locs1 → H1[q9]? = some ce → ce.vm = .none → s.vm.findClass E = some ce.cls → vx_W p l e R s m args below meth c H1 locs1 (cells + mc) (slots + ms) Q (F0 m pc ls rest) q9)
    (kk : ∀ (r : Int32) (u : S) (t : State) (H1 : Heap) (locs1 : List Loc), t.heap = H1 → s.vm.Alike t.vm → post r u → B u t → H.size ≤ H1.size → (∀ q : Nat, q < H.size → ¬ A1 q → H1[q]? = H[q]?) → va_S A0 H0 H1 locs1 → W p l e R s m args below meth c H1 locs1 (cells + mc) (slots + ms) Q (F0 m (pc + 3) ls (.int r :: rest))) : W p l e R s m args below meth c H locs cells slots Q (F0 m pc ls st0) := by
  intro T hT X
  rcases hr T hT X with ⟨v, st₀, t, T', L, h0, X', hL, e1, e2, ⟨⟨r, u, hv, hp, hb⟩, hF⟩, st⟩ | ⟨q, st₀, t, T', L, E, ce, h0, X', hL, e1, e2, ⟨u, hp, hb, hF⟩, hce, hcv, hcl, st⟩
  · cases hv
    obtain ⟨k1, k2, k3⟩ := vx_keep h0 e1 hS hA hf hL hF
    obtain ⟨t2, a1, b1⟩ := kk r u t T'.heap (locs ++ L) e1.symm (by rw [← e2]; exact X'.warmed.alike) hp hb k1 k2 k3 T' rfl X'
    exact ⟨t2, st t2 a1, b1⟩
  · obtain ⟨k1, k2, k3⟩ := vx_keep h0 e1 hS hAX hf hL hF
    obtain ⟨t2, a1, b1⟩ := kx E ce q u t T'.heap (locs ++ L) e1.symm (by rw [← e2]; exact X'.warmed.alike) hp hb k1 k2 k3 (by rw [e1]; exact hce) hcv hcl T' rfl X'
    exact ⟨t2, st.trans a1, b1⟩
theorem vx_calll {S SX : Type} {post : Int64 → S → Prop} {px : SX → Prop} {B : S → State → Prop} {BX : String → SX → State → Prop} {AX : Nat → Prop} (hr : vx_Run p l e R s m args below meth c H locs cells slots mc ms (F0 m pc ls st0) rest (va_Ql post B A1 a) (vx_X px BX AX) free) (hS : va_S A0 H0 H locs) (hA : ∀ q, q < H.size → A1 q → A0 q) (hf : ∀ q, free q → A0 q) (hAX : ∀ q, q < H.size → AX q → A0 q)
    (kx : ∀ (E : String) (ce : Cell) (q9 : Addr) (u : SX) (t : State) (H1 : Heap) (locs1 : List Loc), t.heap = H1 → s.vm.Alike t.vm → px u → BX E u t → H.size ≤ H1.size → (∀ q : Nat, q < H.size → ¬ AX q → H1[q]? = H[q]?) → va_S A0 H0 H1 locs1 → H1[q9]? = some ce → ce.vm = .none → s.vm.findClass E = some ce.cls → vx_W p l e R s m args below meth c H1 locs1 (cells + mc) (slots + ms) Q (F0 m pc ls rest) q9)
    (kk : ∀ (r : Int64) (u : S) (t : State) (H1 : Heap) (locs1 : List Loc), t.heap = H1 → s.vm.Alike t.vm → post r u → B u t → H.size ≤ H1.size → (∀ q : Nat, q < H.size → ¬ A1 q → H1[q]? = H[q]?) → va_S A0 H0 H1 locs1 → W p l e R s m args below meth c H1 locs1 (cells + mc) (slots + ms) Q (F0 m (pc + 3) ls (.long r :: rest))) : W p l e R s m args below meth c H locs cells slots Q (F0 m pc ls st0) := by
  intro T hT X
  rcases hr T hT X with ⟨v, st₀, t, T', L, h0, X', hL, e1, e2, ⟨⟨r, u, hv, hp, hb⟩, hF⟩, st⟩ | ⟨q, st₀, t, T', L, E, ce, h0, X', hL, e1, e2, ⟨u, hp, hb, hF⟩, hce, hcv, hcl, st⟩
  · cases hv
    obtain ⟨k1, k2, k3⟩ := vx_keep h0 e1 hS hA hf hL hF
    obtain ⟨t2, a1, b1⟩ := kk r u t T'.heap (locs ++ L) e1.symm (by rw [← e2]; exact X'.warmed.alike) hp hb k1 k2 k3 T' rfl X'
    exact ⟨t2, st t2 a1, b1⟩
  · obtain ⟨k1, k2, k3⟩ := vx_keep h0 e1 hS hAX hf hL hF
    obtain ⟨t2, a1, b1⟩ := kx E ce q u t T'.heap (locs ++ L) e1.symm (by rw [← e2]; exact X'.warmed.alike) hp hb k1 k2 k3 (by rw [e1]; exact hce) hcv hcl T' rfl X'
    exact ⟨t2, st.trans a1, b1⟩
theorem vx_callf {S SX : Type} {post : UInt32 → S → Prop} {px : SX → Prop} {B : S → State → Prop} {BX : String → SX → State → Prop} {AX : Nat → Prop} (hr : vx_Run p l e R s m args below meth c H locs cells slots mc ms (F0 m pc ls st0) rest (va_Qf post B A1 a) (vx_X px BX AX) free) (hS : va_S A0 H0 H locs) (hA : ∀ q, q < H.size → A1 q → A0 q) (hf : ∀ q, free q → A0 q) (hAX : ∀ q, q < H.size → AX q → A0 q)
    (kx : ∀ (E : String) (ce : Cell) (q9 : Addr) (u : SX) (t : State) (H1 : Heap) (locs1 : List Loc), t.heap = H1 → s.vm.Alike t.vm → px u → BX E u t → H.size ≤ H1.size → (∀ q : Nat, q < H.size → ¬ AX q → H1[q]? = H[q]?) → va_S A0 H0 H1 locs1 → H1[q9]? = some ce → ce.vm = .none → s.vm.findClass E = some ce.cls → vx_W p l e R s m args below meth c H1 locs1 (cells + mc) (slots + ms) Q (F0 m pc ls rest) q9)
    (kk : ∀ (r : UInt32) (u : S) (t : State) (H1 : Heap) (locs1 : List Loc), t.heap = H1 → s.vm.Alike t.vm → post r u → B u t → H.size ≤ H1.size → (∀ q : Nat, q < H.size → ¬ A1 q → H1[q]? = H[q]?) → va_S A0 H0 H1 locs1 → W p l e R s m args below meth c H1 locs1 (cells + mc) (slots + ms) Q (F0 m (pc + 3) ls (.float r :: rest))) : W p l e R s m args below meth c H locs cells slots Q (F0 m pc ls st0) := by
  intro T hT X
  rcases hr T hT X with ⟨v, st₀, t, T', L, h0, X', hL, e1, e2, ⟨⟨r, u, hv, hp, hb⟩, hF⟩, st⟩ | ⟨q, st₀, t, T', L, E, ce, h0, X', hL, e1, e2, ⟨u, hp, hb, hF⟩, hce, hcv, hcl, st⟩
  · cases hv
    obtain ⟨k1, k2, k3⟩ := vx_keep h0 e1 hS hA hf hL hF
    obtain ⟨t2, a1, b1⟩ := kk r u t T'.heap (locs ++ L) e1.symm (by rw [← e2]; exact X'.warmed.alike) hp hb k1 k2 k3 T' rfl X'
    exact ⟨t2, st t2 a1, b1⟩
  · obtain ⟨k1, k2, k3⟩ := vx_keep h0 e1 hS hAX hf hL hF
    obtain ⟨t2, a1, b1⟩ := kx E ce q u t T'.heap (locs ++ L) e1.symm (by rw [← e2]; exact X'.warmed.alike) hp hb k1 k2 k3 (by rw [e1]; exact hce) hcv hcl T' rfl X'
    exact ⟨t2, st.trans a1, b1⟩
theorem vx_calld {S SX : Type} {post : UInt64 → S → Prop} {px : SX → Prop} {B : S → State → Prop} {BX : String → SX → State → Prop} {AX : Nat → Prop} (hr : vx_Run p l e R s m args below meth c H locs cells slots mc ms (F0 m pc ls st0) rest (va_Qd post B A1 a) (vx_X px BX AX) free) (hS : va_S A0 H0 H locs) (hA : ∀ q, q < H.size → A1 q → A0 q) (hf : ∀ q, free q → A0 q) (hAX : ∀ q, q < H.size → AX q → A0 q)
    (kx : ∀ (E : String) (ce : Cell) (q9 : Addr) (u : SX) (t : State) (H1 : Heap) (locs1 : List Loc), t.heap = H1 → s.vm.Alike t.vm → px u → BX E u t → H.size ≤ H1.size → (∀ q : Nat, q < H.size → ¬ AX q → H1[q]? = H[q]?) → va_S A0 H0 H1 locs1 → H1[q9]? = some ce → ce.vm = .none → s.vm.findClass E = some ce.cls → vx_W p l e R s m args below meth c H1 locs1 (cells + mc) (slots + ms) Q (F0 m pc ls rest) q9)
    (kk : ∀ (r : UInt64) (u : S) (t : State) (H1 : Heap) (locs1 : List Loc), t.heap = H1 → s.vm.Alike t.vm → post r u → B u t → H.size ≤ H1.size → (∀ q : Nat, q < H.size → ¬ A1 q → H1[q]? = H[q]?) → va_S A0 H0 H1 locs1 → W p l e R s m args below meth c H1 locs1 (cells + mc) (slots + ms) Q (F0 m (pc + 3) ls (.double r :: rest))) : W p l e R s m args below meth c H locs cells slots Q (F0 m pc ls st0) := by
  intro T hT X
  rcases hr T hT X with ⟨v, st₀, t, T', L, h0, X', hL, e1, e2, ⟨⟨r, u, hv, hp, hb⟩, hF⟩, st⟩ | ⟨q, st₀, t, T', L, E, ce, h0, X', hL, e1, e2, ⟨u, hp, hb, hF⟩, hce, hcv, hcl, st⟩
  · cases hv
    obtain ⟨k1, k2, k3⟩ := vx_keep h0 e1 hS hA hf hL hF
    obtain ⟨t2, a1, b1⟩ := kk r u t T'.heap (locs ++ L) e1.symm (by rw [← e2]; exact X'.warmed.alike) hp hb k1 k2 k3 T' rfl X'
    exact ⟨t2, st t2 a1, b1⟩
  · obtain ⟨k1, k2, k3⟩ := vx_keep h0 e1 hS hAX hf hL hF
    obtain ⟨t2, a1, b1⟩ := kx E ce q u t T'.heap (locs ++ L) e1.symm (by rw [← e2]; exact X'.warmed.alike) hp hb k1 k2 k3 (by rw [e1]; exact hce) hcv hcl T' rfl X'
    exact ⟨t2, st.trans a1, b1⟩
theorem vx_callv {S SX : Type} {post : S → Prop} {px : SX → Prop} {B : S → State → Prop} {BX : String → SX → State → Prop} {AX : Nat → Prop} (hr : vx_Run p l e R s m args below meth c H locs cells slots mc ms (F0 m pc ls st0) rest (va_Qv post B A1 a) (vx_X px BX AX) free) (hS : va_S A0 H0 H locs) (hA : ∀ q, q < H.size → A1 q → A0 q) (hf : ∀ q, free q → A0 q) (hAX : ∀ q, q < H.size → AX q → A0 q)
    (kx : ∀ (E : String) (ce : Cell) (q9 : Addr) (u : SX) (t : State) (H1 : Heap) (locs1 : List Loc), t.heap = H1 → s.vm.Alike t.vm → px u → BX E u t → H.size ≤ H1.size → (∀ q : Nat, q < H.size → ¬ AX q → H1[q]? = H[q]?) → va_S A0 H0 H1 locs1 → H1[q9]? = some ce → ce.vm = .none → s.vm.findClass E = some ce.cls → vx_W p l e R s m args below meth c H1 locs1 (cells + mc) (slots + ms) Q (F0 m pc ls rest) q9)
    (kk : ∀ (u : S) (t : State) (H1 : Heap) (locs1 : List Loc), t.heap = H1 → s.vm.Alike t.vm → post u → B u t → H.size ≤ H1.size → (∀ q : Nat, q < H.size → ¬ A1 q → H1[q]? = H[q]?) → va_S A0 H0 H1 locs1 → W p l e R s m args below meth c H1 locs1 (cells + mc) (slots + ms) Q (F0 m (pc + 3) ls (rest))) : W p l e R s m args below meth c H locs cells slots Q (F0 m pc ls st0) := by
  intro T hT X
  rcases hr T hT X with ⟨v, st₀, t, T', L, h0, X', hL, e1, e2, ⟨⟨u, hv, hp, hb⟩, hF⟩, st⟩ | ⟨q, st₀, t, T', L, E, ce, h0, X', hL, e1, e2, ⟨u, hp, hb, hF⟩, hce, hcv, hcl, st⟩
  · cases hv
    obtain ⟨k1, k2, k3⟩ := vx_keep h0 e1 hS hA hf hL hF
    obtain ⟨t2, a1, b1⟩ := kk u t T'.heap (locs ++ L) e1.symm (by rw [← e2]; exact X'.warmed.alike) hp hb k1 k2 k3 T' rfl X'
    exact ⟨t2, st t2 a1, b1⟩
  · obtain ⟨k1, k2, k3⟩ := vx_keep h0 e1 hS hAX hf hL hF
    obtain ⟨t2, a1, b1⟩ := kx E ce q u t T'.heap (locs ++ L) e1.symm (by rw [← e2]; exact X'.warmed.alike) hp hb k1 k2 k3 (by rw [e1]; exact hce) hcv hcl T' rfl X'
    exact ⟨t2, st.trans a1, b1⟩
/-- caught by the row x of this method's table; the rows ahead don't take it -/
theorem vx_catch {own name : String} {E : String} {ce : Cell} {q : Addr} (hown : s.vm.findClass own = some m.cls) (pre : List ExceptionTableEntry) (x : ExceptionTableEntry) (suf : List ExceptionTableEntry) (hsplit : c.exceptionTable.toList = pre ++ x :: suf)
    (hpass : ∀ z ∈ pre, covers z pc = false ∨ (z.catchType ≠ 0 ∧ ∃ nm : String, (Cond.classLink own z.catchType nm).before args s = true ∧ va_Nc E nm s)) (hx : covers x pc = true) (h0 : x.catchType ≠ 0)
    (hlink : (Cond.classLink own x.catchType name).before args s = true) (hcast : (Cond.castable E name).before args s = true) (hcell : H[q]? = some ce) (hv : ce.vm = .none) (hcl : s.vm.findClass E = some ce.cls)
    (kk : W p l e R s m args below meth c H locs cells slots Q (F0 m x.handlerPc ls [.ref q])) : vx_W p l e R s m args below meth c H locs cells slots Q (F0 m pc ls rest) q := by
  intro T hT X
  have hpl : e.platform.magicAccessors = ({} : Platform).magicAccessors := by rw [X.admits.platform]
  obtain ⟨c3, c4, hc3, hc4, hasg⟩ := Cond.castable_spec hcast
  cases Option.some.inj (hc3.symm.trans hcl)
  obtain ⟨c5, hc5, hcl5⟩ := Cond.classLink_spec hown hlink e.platform hpl
  cases Option.some.inj (hc4.symm.trans hc5)
  obtain ⟨vm', X', st⟩ := X.thenCaughtThrough q (g := F0 m pc ls rest) rfl (Steps.refl _) (by rw [hT]; exact hcell) (by rw [hv]; rfl) (by obtain ⟨k9, h9, -⟩ := Vm.findClass_spec hcl; exact ⟨k9, h9⟩) pre x suf hsplit
    (fun z hz => by
      rcases hpass z hz with h | ⟨hz0, nm, hl1, hn1⟩
      · exact Or.inl h
      · obtain ⟨c6, hc6, hcl6⟩ := Cond.classLink_spec hown hl1 e.platform hpl
        obtain ⟨a8, b8, h1, h2, h3⟩ := hn1
        cases Option.some.inj (h1.symm.trans hcl)
        cases Option.some.inj (h2.symm.trans hc6)
        exact Or.inr ⟨hz0, _, hcl6, h3⟩) hx (Or.inr ⟨h0, c4, hcl5, hasg⟩)
  obtain ⟨t, a1, b1⟩ := kk (T.setVm vm') hT X'
  exact ⟨t, st.trans a1, b1⟩
end Rows
section Ends
variable {p : Program} {l : Launch} {e : Env} {R : Room} {s : State} {m : MethodId} {args : Array Value} {below : List Frame} {meth : Method} {c : Code} {H : Heap} {locs : List Loc} {cells slots : Nat} {Q : State → Prop}
variable {mc ms : Nat} {free : Addr → Prop} {A0 A1 : Nat → Prop} {H0 : Heap} {a : Array Value} {ls : Array Slot} {st0 rest : List Value}
variable {Qc : Array Value → State → Outcome → State → Prop} {XC : String → State → State → Prop}
/-- what a body that may throw owes at its end -/
def vx_MQ (below : List Frame) (Qc : Array Value → State → Outcome → State → Prop) (XC : String → State → State → Prop) (a : Array Value) (s : State) (mc ms : Nat) (free : Addr → Prop) : State → Prop := fun t =>
  ∃ o, t.status = .running ∧ Ended t below o ∧ vx_Q Qc XC mc ms free a s o t
theorem vx_ret {g : JFrame} {mc ms : Nat} (k : W p l e R s m args below meth c H locs cells slots (MQ below Qc args s mc ms free) g) : W p l e R s m args below meth c H locs cells slots (vx_MQ below Qc XC args s mc ms free) g := by
  intro T hT X
  obtain ⟨t, a1, o, b1, b2, b3, b4⟩ := k T hT X
  exact ⟨t, a1, o, b1, b2, Or.inl ⟨b3, b4⟩⟩
/-- not caught here: it goes on to the caller -/
theorem vx_widen {g : JFrame} {q : Addr} {k n : Nat} (h1 : cells ≤ k) (h2 : slots ≤ n) (kk : vx_W p l e R s m args below meth c H locs k n Q g q) : vx_W p l e R s m args below meth c H locs cells slots Q g q := fun T hT X => kk T hT (stand_widen X h1 h2)
theorem vx_out {pc : Nat} {E : String} {ce : Cell} {q : Addr} {mc ms : Nat} (hout : ∀ x ∈ c.exceptionTable.toList, covers x pc = false) (hlocks : meth.locks = false) (hcell : H[q]? = some ce) (hv : ce.vm = .none) (hcl : s.vm.findClass E = some ce.cls)
    (hx : ∀ t : State, t.heap = H → s.vm.Alike t.vm → XC E s t) (hf : ∀ z ∈ locs, free z.base) (hc : cells ≤ mc) (hs : slots ≤ ms) :
    vx_W p l e R s m args below meth c H locs cells slots (vx_MQ below Qc XC args s mc ms free) (F0 m pc ls rest) q := by
  intro T hT X
  obtain ⟨st1, hrun, hend, hW, hsm⟩ := X.leaveThrown q (g := F0 m pc ls rest) rfl rfl rfl hout hlocks
  have hcell9 : (T.setFrames (.throwing q :: below)).heap[q]? = some ce := by
    show T.heap[q]? = some ce
    rw [hT]; exact hcell
  exact ⟨_, st1, .threw q, hrun, hend, Or.inr ⟨q, rfl, E, ce, locs, hx _ hT hW.alike, hcell9, hv, hcl, hW, hsm.mono hc hs, hf⟩⟩
theorem vx_frame {U : State} {k n : Nat} (h : s.sameButNew ({ U with vm := s.vm } : State) locs k n) : s.heap.size ≤ U.heap.size ∧ ∀ q : Nat, q < s.heap.size → (∀ z ∈ locs, z.base ≠ q) → U.heap[q]? = s.heap[q]? := by
  obtain ⟨-, h2, -, -, -, h6⟩ := h
  refine ⟨h2, fun q hq hz => ?_⟩
  obtain ⟨c9, e1, e2, e3, e4⟩ := h6 q _ (Array.getElem?_eq_getElem hq)
  have hs : c9.slots = (s.heap[q]).slots := Array.ext_getElem? fun i => e4 i fun hm => hz _ hm rfl
  have h9 : c9 = s.heap[q] := by
    rw [hs] at e2
    exact e2
  have e5 : U.heap[q]? = some c9 := e1
  rw [e5, h9, Array.getElem?_eq_getElem hq]
/-- the words of a throw but the four that speak of the heap -/
def vx_no (w : Cond) : Bool := decide (w ≠ .isRef (.static Bundle.tN "UNASSIGNED_STACK" Bundle.steD)) && decide (w ≠ .isRef (.static Bundle.tN "SUPPRESSED_SENTINEL" Bundle.listD)) && decide (w ≠ .laysStatic Bundle.tN "UNASSIGNED_STACK" Bundle.steD) && decide (w ≠ .laysStatic Bundle.tN "SUPPRESSED_SENTINEL" Bundle.listD)
def vx_at0 (own : String) (ic : Nat) (X : String) (names : List String) : List Cond := (Bundle.ownAtoms0 own ic X names).filter vx_no
def vx_atS (own : String) (ic : Nat) (X : String) (names : List String) : List Cond := (Bundle.ownAtoms own ic X names).filter vx_no
/-- a word that the tables alone decide, or a good one -/
def vx_ot (w : Cond) : Bool := w.onTables || goodWord w
theorem vx_ot_at {args a' : Array Value} {s U : State} {w : Cond} (hW : s.WarmedH U.vm) (hvm : s.vm = U.vm) (hg : vx_ot w = true) (h : w.before args s = true) : w.before a' U = true := by
  simp only [vx_ot, Bool.or_eq_true] at hg
  rcases hg with hg | hg
  · exact va_tabs hg hvm h
  · exact word_at hW (good_of_word hg) h
/-- a list's words: the good ones out of the method's own list, the others by premises of their own -/
theorem vx_hat {args : Array Value} {s : State} {L B : List Cond} (h1 : ∀ w ∈ L.filter goodWord, w.before args s = true) (h2 : ∀ w ∈ L.filter (fun w => !goodWord w), w ∈ B) (h3 : ∀ w ∈ B, w.before args s = true) : ∀ w ∈ L, w.before args s = true := by
  intro w hw
  by_cases g : goodWord w = true
  · exact h1 w (List.mem_filter.mpr ⟨hw, g⟩)
  · refine h3 w (h2 w (List.mem_filter.mpr ⟨hw, ?_⟩))
    show (!goodWord w) = true
    cases hgw : goodWord w
    · rfl
    · exact absurd hgw g
theorem vx_c {args : Array Value} {s : State} {w : Cond} {B : List Cond} (h : w.before args s = true) (t : ∀ w ∈ B, w.before args s = true) : ∀ w' ∈ w :: B, w'.before args s = true := fun w' h' => (List.mem_cons.mp h').elim (fun e => by rw [e]; exact h) (t w')
theorem vx_n {args : Array Value} {s : State} : ∀ w ∈ ([] : List Cond), w.before args s = true := fun _ h => nomatch h
theorem vx_own {args : Array Value} {s : State} {L : List Cond} (h1 : ∀ w ∈ L.filter vx_no, w.before args s = true)
    (hU : (Cond.isRef (.static Bundle.tN "UNASSIGNED_STACK" Bundle.steD)).before args s = true) (hN : (Cond.isRef (.static Bundle.tN "SUPPRESSED_SENTINEL" Bundle.listD)).before args s = true)
    (lU : (Cond.laysStatic Bundle.tN "UNASSIGNED_STACK" Bundle.steD).before args s = true) (lN : (Cond.laysStatic Bundle.tN "SUPPRESSED_SENTINEL" Bundle.listD).before args s = true) : ∀ w ∈ L, w.before args s = true := by
  intro w hw
  by_cases e1 : w = .isRef (.static Bundle.tN "UNASSIGNED_STACK" Bundle.steD)
  · rw [e1]; exact hU
  · by_cases e2 : w = .isRef (.static Bundle.tN "SUPPRESSED_SENTINEL" Bundle.listD)
    · rw [e2]; exact hN
    · by_cases e3 : w = .laysStatic Bundle.tN "UNASSIGNED_STACK" Bundle.steD
      · rw [e3]; exact lU
      · by_cases e4 : w = .laysStatic Bundle.tN "SUPPRESSED_SENTINEL" Bundle.listD
        · rw [e4]; exact lN
        · exact h1 w (List.mem_filter.mpr ⟨hw, by unfold vx_no; rw [decide_eq_true e1, decide_eq_true e2, decide_eq_true e3, decide_eq_true e4]; rfl⟩)
/-- where a static field lies, its class's statics cell in H -/
def vx_L (C n d : String) (A : Nat → Prop) (U : State) (H : Heap) : Prop := ∃ (c : ClassId) (k : Class) (i : Nat) (f : Field) (a : Nat) (cell : Cell), U.vm.findClass C = some c ∧ U.fieldFound? C n d = some (c, k, i, f) ∧ f.isStatic = true ∧ k.statics = some a ∧ H[a]? = some cell ∧ cell.vm.isStatics = true ∧ cell.cls = c ∧ f.slot < cell.slots.size ∧ k.staticTypes[f.slot]? = some f.type ∧ ¬ A a
theorem vx_L.moved {C n d : String} {A : Nat → Prop} {u U : State} {H : Heap} (hvm : u.vm.Alike U.vm) (h : vx_L C n d A u H) : vx_L C n d A U H := by
  obtain ⟨c, k, i, f, a, cell, h1, h2, h3, h4, h5, h6, h7, h8, h9, h10⟩ := h
  obtain ⟨k', hi', he⟩ := State.fieldFound?_setVm hvm h2
  exact ⟨c, k', i, f, a, cell, by rw [hvm.findClass]; exact h1, hi', h3, by rw [he]; exact h4, h5, h6, h7, h8, by rw [he]; exact h9, h10⟩
theorem vx_L.kept {C n d : String} {A : Nat → Prop} {U : State} {H H1 : Heap} (h : vx_L C n d A U H) (hq : ∀ a : Nat, a < H.size → ¬ A a → H1[a]? = H[a]?) : vx_L C n d A U H1 := by
  obtain ⟨c, k, i, f, a, cell, h1, h2, h3, h4, h5, h6, h7, h8, h9, h10⟩ := h
  exact ⟨c, k, i, f, a, cell, h1, h2, h3, h4, by rw [hq a (Array.getElem?_eq_some_iff.mp h5).1 h10]; exact h5, h6, h7, h8, h9, h10⟩
theorem vx_L.narrow {C n d : String} {A B : Nat → Prop} {U : State} {H : Heap} (h : vx_L C n d A U H) (hAB : ∀ q, B q → A q) : vx_L C n d B U H := by
  obtain ⟨c, k, i, f, a, cell, h1, h2, h3, h4, h5, h6, h7, h8, h9, h10⟩ := h
  exact ⟨c, k, i, f, a, cell, h1, h2, h3, h4, h5, h6, h7, h8, h9, fun z => h10 (hAB _ z)⟩
theorem vx_L.word {C n d : String} {A : Nat → Prop} {s : State} {args : Array Value} (h : vx_L C n d A s s.heap) : (Cond.laysStatic C n d).before args s = true := by
  obtain ⟨c, k, i, f, a, cell, h1, h2, h3, h4, h5, h6, h7, h8, h9, -⟩ := h
  show (Cond.laysStatic C n d).holds args s none s [] = true
  exact Cond.laysStatic_of h1 h2 h3 h4 h5 h6 h7 h8 h9
/-- .. and what it holds: null or some reference -/
def vx_Zq (C n d : String) (A : Nat → Prop) (U : State) (H : Heap) : Prop := va_Zq C n d A U H ∧ vx_L C n d A U H
theorem vx_Zq.moved {C n d : String} {A : Nat → Prop} {u U : State} {H : Heap} (hvm : u.vm.Alike U.vm) (h : vx_Zq C n d A u H) : vx_Zq C n d A U H := ⟨va_Zq.moved hvm h.1, vx_L.moved hvm h.2⟩
theorem vx_Zq.kept {C n d : String} {A : Nat → Prop} {U : State} {H H1 : Heap} (h : vx_Zq C n d A U H) (hq : ∀ a : Nat, a < H.size → ¬ A a → H1[a]? = H[a]?) : vx_Zq C n d A U H1 := ⟨va_Zq.kept h.1 hq, vx_L.kept h.2 hq⟩
theorem vx_Zq.narrow {C n d : String} {A B : Nat → Prop} {U : State} {H : Heap} (h : vx_Zq C n d A U H) (hAB : ∀ q, B q → A q) : vx_Zq C n d B U H := ⟨va_Zq.narrow h.1 hAB, vx_L.narrow h.2 hAB⟩
theorem vx_Zqof {args : Array Value} {s : State} {C n d : String} {A : Nat → Prop} (hl : (Cond.laysStatic C n d).before args s = true) (hini : (Cond.initialized C).before args s = true) (h : (Cond.isRef (.static C n d)).before args s = true) (hA : ∀ a : Nat, a < s.heap.size → ¬ A a) : vx_Zq C n d A s s.heap := by
  refine ⟨va_Zqof hl hini h hA, ?_⟩
  obtain ⟨c, k, i, f, a, cell, h1, h2, h3, h4, h5, h6, h7, h8, h9⟩ := Cond.laysStatic_spec hl
  exact ⟨c, k, i, f, a, cell, h1, h2, h3, h4, h5, h6, h7, h8, h9, hA a (Array.getElem?_eq_some_iff.mp h5).1⟩
theorem vx_isRef {C n d : String} {v : Value} {A : Nat → Prop} {s : State} {args : Array Value} (h : va_Z C n d v A s s.heap) (hv : v.isRef = true) : (Cond.isRef (.static C n d)).before args s = true := by
  obtain ⟨cf, kf, fi, f, a, cell, h1, h2, h3, h4, h5, h6, h7, -⟩ := h
  have he : (Term.static C n d).eval args s none [] s = some v := by
    simp [Term.eval, State.fieldNamed?, h1, h2, h4, h5, h6, h7]
  simp only [Cond.before, Cond.holds, Cond.value, he]
  cases v <;> simp_all [Value.isRef]
theorem vx_isRefq {C n d : String} {A : Nat → Prop} {s : State} {args : Array Value} (h : va_Zq C n d A s s.heap) : (Cond.isRef (.static C n d)).before args s = true := by
  rcases h with h | ⟨t, h⟩
  · exact vx_isRef h rfl
  · exact vx_isRef h rfl
/-- the same frame, seen from here: as if the method were called anew in this heap -/
theorem vx_rebase {T : State} (X : Stand p l e R s m args below meth c T locs cells slots) {R' : Room} (hf : R'.frames ≤ R.frames) (hl : R'.locals ≤ R.locals) (hc : cells + R'.cells ≤ R.cells) (hs : slots + R'.slots ≤ R.slots) :
    Stand p l e R' ((T.setVm s.vm).setFrames (.invoking m args :: below)) m args below meth c T [] 0 0 := by
  have htop : (T.setVm s.vm).topJava?.isSome := X.here.top
  have hF : ((T.setVm s.vm).setFrames (.invoking m args :: below)).frames = .invoking m args :: below := State.frames_setFrames _ (State.cur_lt_of_top htop)
  obtain ⟨g₀, hg0⟩ := Option.isSome_iff_exists.mp htop
  obtain ⟨r, hr⟩ := State.topJava?_eq_some.mp hg0
  have hl9 : e.platform.stackLimits (T.setVm s.vm).me = e.platform.stackLimits s.me := X.limits
  have hb9 : (T.setVm s.vm).me.stackBytes = s.me.stackBytes := X.bytes
  refine ⟨X.admits, X.cas, X.clock, hF, ?_, X.hears, X.method, X.code, X.here, X.tail, X.warmed, ?_, ?_, ?_⟩
  · have h := X.room
    have hU : ((T.setVm s.vm).setFrames (.invoking m args :: below)).localsInUse = s.localsInUse := by
      rw [State.localsInUse_invoking hF (meth := meth) (c := c) X.method X.code, State.localsInUse_invoking X.frames X.method X.code]
    simp only [State.hasRoom, Bool.and_eq_true, decide_eq_true_eq] at h ⊢
    obtain ⟨⟨⟨⟨h1, h2, h3, h4, h5, h6⟩, h7⟩, h8⟩, h9⟩ := h
    rw [X.frames, List.length_cons] at h2 h3
    have q1 := X.heapSize
    have q2 := X.used
    simp only [hF, hU, List.length_cons, State.stackLimits_setFrames, State.stackBytes_setFrames, hl9, hb9]
    refine ⟨⟨⟨⟨by omega, by omega, by omega, by omega, by omega, h6⟩, ?_⟩, ?_⟩, X.book⟩
    · show T.heap.size + R'.cells ≤ e.platform.maxCells
      omega
    · show T.slotsUsed + R'.slots ≤ e.platform.maxSlots
      omega
  · rw [State.stackLimits_setFrames]; rfl
  · rw [State.stackBytes_setFrames]; rfl
  · refine ⟨?_, Nat.le_refl _, Nat.le_refl _, ?_, ?_, fun a c9 h9 => ⟨c9, h9, rfl, rfl, fun _ _ => rfl⟩⟩
    · obtain ⟨t, ht, -⟩ := State.frames_cons hr
      show T.setVm s.vm = { ((T.setVm s.vm).setFrames (.invoking m args :: below)).setFrames (T.setVm s.vm).frames with heap := T.heap, slotsUsed := T.slotsUsed }
      rw [State.setFrames_setFrames, State.setFrames_self ht]
      rfl
    · show T.slotsUsed = T.slotsUsed + ((T.heap.toList.drop T.heap.size).map (·.slots.size)).sum
      rw [List.drop_eq_nil_of_le (Nat.le_of_eq Array.length_toList)]
      rfl
    · show ((T.heap.toList.drop T.heap.size).map (·.slots.size)).sum ≤ 0
      rw [List.drop_eq_nil_of_le (Nat.le_of_eq Array.length_toList)]
      exact Nat.le_refl _
/-- 'throw new E()': new; dup; invokespecial; athrow -/
theorem vx_throw0 {cc : ByteArray} {pc : Nat} (hexec : p.tables.exec = Jvm.exec) (hb : c.code = cc) (hl : l.stackTraces = false) {own cls : String} {names : List String} {ik ic mc ms : Nat} {A : Nat → Prop}
    (hown : s.vm.findClass own = some m.cls) (hcls : Bundle.fit cls = true) (hnames : ∀ n ∈ names, Bundle.fit n = true)
    (hk : (Cond.classLink own ik cls).before args s = true) (hini : (Cond.initialized cls).before args s = true) (hat : ∀ w ∈ vx_at0 own ic cls names, w.before args s = true)
    (hgood : ∀ w ∈ Cond.classLink own ik cls :: Cond.initialized cls :: vx_at0 own ic cls names, vx_ot w = true)
    (hU : vx_Zq Bundle.tN "UNASSIGNED_STACK" Bundle.steD A s s.heap) (hN : vx_Zq Bundle.tN "SUPPRESSED_SENTINEL" Bundle.listD A s s.heap) (hS : va_S A s.heap H locs) (hsize : ls.size = c.maxLocals)
    (d0 : decode cc pc = .ok (.new ik, 3)) (d3 : decode cc (pc + 3) = .ok (.dup, 1)) (d4 : decode cc (pc + 4) = .ok (.invokespecial ic, 3)) (d7 : decode cc (pc + 7) = .ok (.athrow, 1))
    (hout : ∀ x ∈ c.exceptionTable.toList, covers x (pc + 7) = false)
    (hRframes : names.length + 3 < R.frames) (hRlocals : (rest.map fun v => v.category).sum + (13 * (names.length + 1) + 42) ≤ R.locals) (hRcells : cells + 1 ≤ R.cells) (hRslots : slots + 6 ≤ R.slots) (hlocks : meth.locks = false)
    (hx : ∀ t : State, s.vm.Alike t.vm → H.size ≤ t.heap.size → (∀ q : Nat, q < H.size → t.heap[q]? = H[q]?) → XC cls s t)
    (hf : ∀ z ∈ locs, free z.base) (hc : cells + 1 ≤ mc) (hs : slots + 6 ≤ ms) :
    W p l e R s m args below meth c H locs cells slots (vx_MQ below Qc XC args s mc ms free) (F0 m pc ls rest) := by
  intro T hT X
  have htr : e.platform.stackTraces = false := (show e.platform.stackTraces = l.stackTraces by rw [X.admits.platform]).trans hl
  have Y := vx_rebase X (R' := { frames := R.frames, locals := R.locals, cells := 1, slots := 6 }) (Nat.le_refl _) (Nat.le_refl _) hRcells hRslots
  obtain ⟨s', hA⟩ : ∃ z, z = (T.setVm s.vm).setFrames (.invoking m args :: below) := ⟨_, rfl⟩
  rw [← hA] at Y
  have hvm : s'.vm = s.vm := by rw [hA]; rfl
  have hhp : s'.heap = H := by rw [hA]; exact hT
  have hW0 : s.WarmedH s'.vm := by rw [hvm]; exact State.WarmedH.refl s
  have hat' : ∀ w ∈ vx_at0 own ic cls names, w.before args s' = true := fun w hw => vx_ot_at hW0 hvm.symm (hgood w (List.mem_cons_of_mem _ (List.mem_cons_of_mem _ hw))) (hat w hw)
  have hk' : (Cond.classLink own ik cls).before args s' = true := vx_ot_at hW0 hvm.symm (hgood _ List.mem_cons_self) hk
  have hini' : (Cond.initialized cls).before args s' = true := vx_ot_at hW0 hvm.symm (hgood _ (List.mem_cons_of_mem _ List.mem_cons_self)) hini
  have hU' : vx_Zq Bundle.tN "UNASSIGNED_STACK" Bundle.steD A s' s'.heap := by rw [hhp]; exact vx_Zq.moved hW0.alike (hU.kept hS.2.1)
  have hN' : vx_Zq Bundle.tN "SUPPRESSED_SENTINEL" Bundle.listD A s' s'.heap := by rw [hhp]; exact vx_Zq.moved hW0.alike (hN.kept hS.2.1)
  have h : ∀ w ∈ Bundle.ownAtoms0 own ic cls names, w.before args s' = true := vx_own hat' (vx_isRefq hU'.1) (vx_isRefq hN'.1) hU'.2.word hN'.2.word
  have hown' : s'.vm.findClass own = some m.cls := by rw [hvm]; exact hown
  have hins : (Cond.instantiable cls 6).before args s' = true := h _ (by simp [Bundle.ownAtoms0])
  obtain ⟨vm₁, cX, kX, hfX, hkX, -, -, X₁, st1⟩ := Y.newCold hexec (own := own) (C := cls) (index := ik) (n := 6) hown' hk' hins hini'
    (g := F0 m pc ls rest) rfl (by rw [hb]; exact d0) (Nat.le_refl _) (Nat.le_refl _)
  generalize hT1 : (T.setVm vm₁).pushCell { cls := cX, slots := kX.instanceTypes.map defaultValue, vm := .none } = T1 at X₁ st1
  have hcat : (Value.ref T.heap.size).category = 1 := rfl
  have hcellA : T1.heap[T.heap.size]? = some (freshCell cX kX) := by rw [← hT1]; exact State.heap_pushCell_size _ _
  have d3' : decode c.code (pc + 3) = .ok (.dup, 1) := by rw [hb]; exact d3
  obtain ⟨U, hsteps, hrun, hend, hW, hsame, ce, hce, hO⟩ := X₁.ctorThrow0 hexec htr (own := own) (cls := cls) (names := names) (ic := ic) hown' hcls hnames h (fun x hx => nomatch hx) hfX hkX hcellA (by rw [hhp, hT]; exact Nat.le_refl _)
    (g := { method := m, pc := pc + 4, locals := ls, stack := .ref T.heap.size :: .ref T.heap.size :: rest, locked := none }) rfl hsize rfl rfl (rest := rest) rfl
    (by rw [hb]; exact d4) (by rw [hb]; exact d7) hout hRframes (by simp only [List.map_cons, List.sum_cons, hcat]; omega) hlocks
  obtain ⟨f1, f2⟩ := vx_frame hsame
  rw [hhp] at f1 f2
  have hWs : s.WarmedH U.vm := State.WarmedH.trans hW0 hW
  have hcl : s.vm.findClass cls = some ce.cls := by
    have h9 := hO.cls
    rw [hvm] at h9
    exact h9
  have hall : s.sameButNew ({ U with vm := s.vm } : State) locs mc ms := by
    subst hA
    obtain ⟨e1, e2⟩ := hsame
    rw [State.setFrames_setFrames] at e1
    have h2 : (T.setVm s.vm).sameButNew ({ U with vm := s.vm } : State) [] (0 + 1) (0 + 6) := ⟨e1, e2⟩
    have h3 := X.same.trans h2
    rw [List.append_nil] at h3
    exact h3.mono hc hs
  refine ⟨U, ?_, .threw T.heap.size, hrun, hend, Or.inr ⟨T.heap.size, rfl, cls, ce, locs, hx U hWs.alike f1 (fun q hq => f2 q hq (fun z hz => nomatch hz)), hce, hO.vm, hcl, hWs, hall, hf⟩⟩
  refine st1 _ ?_
  show Steps p.tables e below (T1.setTop { method := m, pc := pc + 3, locals := ls, stack := .ref T.heap.size :: rest, locked := none }) _
  jvm_step X₁.here [X₁.here.top, hexec, d3', Value.category]
  exact hsteps
/-- 'throw new E("text")': new; dup; ldc; invokespecial; athrow -/
theorem vx_throwS {cc : ByteArray} {pc : Nat} (hexec : p.tables.exec = Jvm.exec) (hb : c.code = cc) (hl : l.stackTraces = false) {own cls text : String} {names : List String} {ik is ic mc ms sa : Nat} {A : Nat → Prop}
    (hown : s.vm.findClass own = some m.cls) (hcls : Bundle.fit cls = true) (hnames : ∀ n ∈ names, Bundle.fit n = true)
    (hk : (Cond.classLink own ik cls).before args s = true) (hini : (Cond.initialized cls).before args s = true) (hstr : vk_R own is text sa s) (hat : ∀ w ∈ vx_atS own ic cls names, w.before args s = true)
    (hgood : ∀ w ∈ Cond.classLink own ik cls :: Cond.initialized cls :: vx_atS own ic cls names, vx_ot w = true)
    (hU : vx_Zq Bundle.tN "UNASSIGNED_STACK" Bundle.steD A s s.heap) (hN : vx_Zq Bundle.tN "SUPPRESSED_SENTINEL" Bundle.listD A s s.heap) (hS : va_S A s.heap H locs) (hsize : ls.size = c.maxLocals)
    (d0 : decode cc pc = .ok (.new ik, 3)) (d3 : decode cc (pc + 3) = .ok (.dup, 1)) (d4 : decode cc (pc + 4) = .ok (.ldc is, 2)) (d6 : decode cc (pc + 6) = .ok (.invokespecial ic, 3)) (d9 : decode cc (pc + 9) = .ok (.athrow, 1))
    (hout : ∀ x ∈ c.exceptionTable.toList, covers x (pc + 9) = false)
    (hRframes : names.length + 3 < R.frames) (hRlocals : (rest.map fun v => v.category).sum + (13 * (names.length + 1) + 43) ≤ R.locals) (hRcells : cells + 1 ≤ R.cells) (hRslots : slots + 6 ≤ R.slots) (hlocks : meth.locks = false)
    (hx : ∀ t : State, s.vm.Alike t.vm → H.size ≤ t.heap.size → (∀ q : Nat, q < H.size → t.heap[q]? = H[q]?) → XC cls s t)
    (hf : ∀ z ∈ locs, free z.base) (hc : cells + 1 ≤ mc) (hs : slots + 6 ≤ ms) :
    W p l e R s m args below meth c H locs cells slots (vx_MQ below Qc XC args s mc ms free) (F0 m pc ls rest) := by
  intro T hT X
  have htr : e.platform.stackTraces = false := (show e.platform.stackTraces = l.stackTraces by rw [X.admits.platform]).trans hl
  have Y := vx_rebase X (R' := { frames := R.frames, locals := R.locals, cells := 1, slots := 6 }) (Nat.le_refl _) (Nat.le_refl _) hRcells hRslots
  obtain ⟨s', hA⟩ : ∃ z, z = (T.setVm s.vm).setFrames (.invoking m args :: below) := ⟨_, rfl⟩
  rw [← hA] at Y
  have hvm : s'.vm = s.vm := by rw [hA]; rfl
  have hhp : s'.heap = H := by rw [hA]; exact hT
  have hW0 : s.WarmedH s'.vm := by rw [hvm]; exact State.WarmedH.refl s
  have hat' : ∀ w ∈ vx_atS own ic cls names, w.before args s' = true := fun w hw => vx_ot_at hW0 hvm.symm (hgood w (List.mem_cons_of_mem _ (List.mem_cons_of_mem _ hw))) (hat w hw)
  have hk' : (Cond.classLink own ik cls).before args s' = true := vx_ot_at hW0 hvm.symm (hgood _ List.mem_cons_self) hk
  have hini' : (Cond.initialized cls).before args s' = true := vx_ot_at hW0 hvm.symm (hgood _ (List.mem_cons_of_mem _ List.mem_cons_self)) hini
  have hU' : vx_Zq Bundle.tN "UNASSIGNED_STACK" Bundle.steD A s' s'.heap := by rw [hhp]; exact vx_Zq.moved hW0.alike (hU.kept hS.2.1)
  have hN' : vx_Zq Bundle.tN "SUPPRESSED_SENTINEL" Bundle.listD A s' s'.heap := by rw [hhp]; exact vx_Zq.moved hW0.alike (hN.kept hS.2.1)
  have h : ∀ w ∈ Bundle.ownAtoms own ic cls names, w.before args s' = true := vx_own hat' (vx_isRefq hU'.1) (vx_isRefq hN'.1) hU'.2.word hN'.2.word
  have hown' : s'.vm.findClass own = some m.cls := by rw [hvm]; exact hown
  have hins : (Cond.instantiable cls 6).before args s' = true := h _ (by simp [Bundle.ownAtoms])
  obtain ⟨vm₁, cX, kX, hfX, hkX, -, -, X₁, st1⟩ := Y.newCold hexec (own := own) (C := cls) (index := ik) (n := 6) hown' hk' hins hini'
    (g := F0 m pc ls rest) rfl (by rw [hb]; exact d0) (Nat.le_refl _) (Nat.le_refl _)
  generalize hT1 : (T.setVm vm₁).pushCell { cls := cX, slots := kX.instanceTypes.map defaultValue, vm := .none } = T1 at X₁ st1
  have hcat : (Value.ref T.heap.size).category = 1 := rfl
  have hcellA : T1.heap[T.heap.size]? = some (freshCell cX kX) := by rw [← hT1]; exact State.heap_pushCell_size _ _
  have d3' : decode c.code (pc + 3) = .ok (.dup, 1) := by rw [hb]; exact d3
  have d4' : decode c.code (pc + 4) = .ok (.ldc is, 2) := by rw [hb]; exact d4
  have hstr' : vk_R own is text sa s' := vk_R.warm hW0 hstr
  obtain ⟨U, hsteps, hrun, hend, hW, hsame, ce, hce, hO⟩ := X₁.ctorThrowS hexec htr (own := own) (cls := cls) (names := names) (ic := ic) hown' hcls hnames h (fun x hx => nomatch hx) hfX hkX hcellA (by rw [hhp, hT]; exact Nat.le_refl _) (msg := .ref sa) rfl
    (g := { method := m, pc := pc + 6, locals := ls, stack := .ref sa :: .ref T.heap.size :: .ref T.heap.size :: rest, locked := none }) rfl hsize rfl rfl (rest := rest) rfl
    (by rw [hb]; exact d6) (by rw [hb]; exact d9) hout hRframes (by simp only [List.map_cons, List.sum_cons, hcat]; omega) hlocks
  obtain ⟨f1, f2⟩ := vx_frame hsame
  rw [hhp] at f1 f2
  have hWs : s.WarmedH U.vm := State.WarmedH.trans hW0 hW
  have hcl : s.vm.findClass cls = some ce.cls := by
    have h9 := hO.cls
    rw [hvm] at h9
    exact h9
  have hall : s.sameButNew ({ U with vm := s.vm } : State) locs mc ms := by
    subst hA
    obtain ⟨e1, e2⟩ := hsame
    rw [State.setFrames_setFrames] at e1
    have h2 : (T.setVm s.vm).sameButNew ({ U with vm := s.vm } : State) [] (0 + 1) (0 + 6) := ⟨e1, e2⟩
    have h3 := X.same.trans h2
    rw [List.append_nil] at h3
    exact h3.mono hc hs
  refine ⟨U, ?_, .threw T.heap.size, hrun, hend, Or.inr ⟨T.heap.size, rfl, cls, ce, locs, hx U hWs.alike f1 (fun q hq => f2 q hq (fun z hz => nomatch hz)), hce, hO.vm, hcl, hWs, hall, hf⟩⟩
  refine st1 _ ?_
  show Steps p.tables e below (T1.setTop { method := m, pc := pc + 3, locals := ls, stack := .ref T.heap.size :: rest, locked := none }) _
  jvm_step X₁.here [X₁.here.top, hexec, d3', Value.category]
  exact X₁.ldcString hexec (own := own) (text := text) (index := is) (a := sa) hown' hstr'.1 hstr'.2
    (g := { method := m, pc := pc + 4, locals := ls, stack := .ref T.heap.size :: .ref T.heap.size :: rest, locked := none }) rfl d4' _ hsteps
/-- 'throw new E("text")', the text by a wide index -/
theorem vx_throwSW {cc : ByteArray} {pc : Nat} (hexec : p.tables.exec = Jvm.exec) (hb : c.code = cc) (hl : l.stackTraces = false) {own cls text : String} {names : List String} {ik is ic mc ms sa : Nat} {A : Nat → Prop}
    (hown : s.vm.findClass own = some m.cls) (hcls : Bundle.fit cls = true) (hnames : ∀ n ∈ names, Bundle.fit n = true)
    (hk : (Cond.classLink own ik cls).before args s = true) (hini : (Cond.initialized cls).before args s = true) (hstr : vk_R own is text sa s) (hat : ∀ w ∈ vx_atS own ic cls names, w.before args s = true)
    (hgood : ∀ w ∈ Cond.classLink own ik cls :: Cond.initialized cls :: vx_atS own ic cls names, vx_ot w = true)
    (hU : vx_Zq Bundle.tN "UNASSIGNED_STACK" Bundle.steD A s s.heap) (hN : vx_Zq Bundle.tN "SUPPRESSED_SENTINEL" Bundle.listD A s s.heap) (hS : va_S A s.heap H locs) (hsize : ls.size = c.maxLocals)
    (d0 : decode cc pc = .ok (.new ik, 3)) (d3 : decode cc (pc + 3) = .ok (.dup, 1)) (d4 : decode cc (pc + 4) = .ok (.ldc_w is, 3)) (d7 : decode cc (pc + 7) = .ok (.invokespecial ic, 3)) (d10 : decode cc (pc + 10) = .ok (.athrow, 1))
    (hout : ∀ x ∈ c.exceptionTable.toList, covers x (pc + 10) = false)
    (hRframes : names.length + 3 < R.frames) (hRlocals : (rest.map fun v => v.category).sum + (13 * (names.length + 1) + 43) ≤ R.locals) (hRcells : cells + 1 ≤ R.cells) (hRslots : slots + 6 ≤ R.slots) (hlocks : meth.locks = false)
    (hx : ∀ t : State, s.vm.Alike t.vm → H.size ≤ t.heap.size → (∀ q : Nat, q < H.size → t.heap[q]? = H[q]?) → XC cls s t)
    (hf : ∀ z ∈ locs, free z.base) (hc : cells + 1 ≤ mc) (hs : slots + 6 ≤ ms) :
    W p l e R s m args below meth c H locs cells slots (vx_MQ below Qc XC args s mc ms free) (F0 m pc ls rest) := by
  intro T hT X
  have htr : e.platform.stackTraces = false := (show e.platform.stackTraces = l.stackTraces by rw [X.admits.platform]).trans hl
  have Y := vx_rebase X (R' := { frames := R.frames, locals := R.locals, cells := 1, slots := 6 }) (Nat.le_refl _) (Nat.le_refl _) hRcells hRslots
  obtain ⟨s', hA⟩ : ∃ z, z = (T.setVm s.vm).setFrames (.invoking m args :: below) := ⟨_, rfl⟩
  rw [← hA] at Y
  have hvm : s'.vm = s.vm := by rw [hA]; rfl
  have hhp : s'.heap = H := by rw [hA]; exact hT
  have hW0 : s.WarmedH s'.vm := by rw [hvm]; exact State.WarmedH.refl s
  have hat' : ∀ w ∈ vx_atS own ic cls names, w.before args s' = true := fun w hw => vx_ot_at hW0 hvm.symm (hgood w (List.mem_cons_of_mem _ (List.mem_cons_of_mem _ hw))) (hat w hw)
  have hk' : (Cond.classLink own ik cls).before args s' = true := vx_ot_at hW0 hvm.symm (hgood _ List.mem_cons_self) hk
  have hini' : (Cond.initialized cls).before args s' = true := vx_ot_at hW0 hvm.symm (hgood _ (List.mem_cons_of_mem _ List.mem_cons_self)) hini
  have hU' : vx_Zq Bundle.tN "UNASSIGNED_STACK" Bundle.steD A s' s'.heap := by rw [hhp]; exact vx_Zq.moved hW0.alike (hU.kept hS.2.1)
  have hN' : vx_Zq Bundle.tN "SUPPRESSED_SENTINEL" Bundle.listD A s' s'.heap := by rw [hhp]; exact vx_Zq.moved hW0.alike (hN.kept hS.2.1)
  have h : ∀ w ∈ Bundle.ownAtoms own ic cls names, w.before args s' = true := vx_own hat' (vx_isRefq hU'.1) (vx_isRefq hN'.1) hU'.2.word hN'.2.word
  have hown' : s'.vm.findClass own = some m.cls := by rw [hvm]; exact hown
  have hins : (Cond.instantiable cls 6).before args s' = true := h _ (by simp [Bundle.ownAtoms])
  obtain ⟨vm₁, cX, kX, hfX, hkX, -, -, X₁, st1⟩ := Y.newCold hexec (own := own) (C := cls) (index := ik) (n := 6) hown' hk' hins hini'
    (g := F0 m pc ls rest) rfl (by rw [hb]; exact d0) (Nat.le_refl _) (Nat.le_refl _)
  generalize hT1 : (T.setVm vm₁).pushCell { cls := cX, slots := kX.instanceTypes.map defaultValue, vm := .none } = T1 at X₁ st1
  have hcat : (Value.ref T.heap.size).category = 1 := rfl
  have hcellA : T1.heap[T.heap.size]? = some (freshCell cX kX) := by rw [← hT1]; exact State.heap_pushCell_size _ _
  have d3' : decode c.code (pc + 3) = .ok (.dup, 1) := by rw [hb]; exact d3
  have d4' : decode c.code (pc + 4) = .ok (.ldc_w is, 3) := by rw [hb]; exact d4
  have hstr' : vk_R own is text sa s' := vk_R.warm hW0 hstr
  obtain ⟨U, hsteps, hrun, hend, hW, hsame, ce, hce, hO⟩ := X₁.ctorThrowS hexec htr (own := own) (cls := cls) (names := names) (ic := ic) hown' hcls hnames h (fun x hx => nomatch hx) hfX hkX hcellA (by rw [hhp, hT]; exact Nat.le_refl _) (msg := .ref sa) rfl
    (g := { method := m, pc := pc + 7, locals := ls, stack := .ref sa :: .ref T.heap.size :: .ref T.heap.size :: rest, locked := none }) rfl hsize rfl rfl (rest := rest) rfl
    (by rw [hb]; exact d7) (by rw [hb]; exact d10) hout hRframes (by simp only [List.map_cons, List.sum_cons, hcat]; omega) hlocks
  obtain ⟨f1, f2⟩ := vx_frame hsame
  rw [hhp] at f1 f2
  have hWs : s.WarmedH U.vm := State.WarmedH.trans hW0 hW
  have hcl : s.vm.findClass cls = some ce.cls := by
    have h9 := hO.cls
    rw [hvm] at h9
    exact h9
  have hall : s.sameButNew ({ U with vm := s.vm } : State) locs mc ms := by
    subst hA
    obtain ⟨e1, e2⟩ := hsame
    rw [State.setFrames_setFrames] at e1
    have h2 : (T.setVm s.vm).sameButNew ({ U with vm := s.vm } : State) [] (0 + 1) (0 + 6) := ⟨e1, e2⟩
    have h3 := X.same.trans h2
    rw [List.append_nil] at h3
    exact h3.mono hc hs
  refine ⟨U, ?_, .threw T.heap.size, hrun, hend, Or.inr ⟨T.heap.size, rfl, cls, ce, locs, hx U hWs.alike f1 (fun q hq => f2 q hq (fun z hz => nomatch hz)), hce, hO.vm, hcl, hWs, hall, hf⟩⟩
  refine st1 _ ?_
  show Steps p.tables e below (T1.setTop { method := m, pc := pc + 3, locals := ls, stack := .ref T.heap.size :: rest, locked := none }) _
  jvm_step X₁.here [X₁.here.top, hexec, d3', Value.category]
  exact X₁.ldcStringW hexec (own := own) (text := text) (index := is) (a := sa) hown' hstr'.1 hstr'.2
    (g := { method := m, pc := pc + 4, locals := ls, stack := .ref T.heap.size :: .ref T.heap.size :: rest, locked := none }) rfl d4' _ hsteps
end Ends
section Bodies
variable {l : Launch}
theorem vx_ofW {y : MethodName} {ws ws' : List Cond} {rm : Room} {Pc : Array Value → State → Prop} {Qc : Array Value → State → Outcome → State → Prop} {XC : String → State → State → Prop} {mc ms : Nat} {free : Addr → Prop} {cc : ByteArray} {maxL : Nat} {ret : Option FieldType}
    (hy : plainName y.cls = true) (hw : ws = Cond.code y cc maxL ret :: ws')
    (body : ∀ p e s m args below meth c s₁, BodyLoose p l y (headSpec ws rm) cc maxL ret e s m args below meth c s₁ → c.maxLocals = maxL → (∀ x ∈ c.exceptionTable.toList, False) → Pc args s →
      W p l e (headSpec ws rm).room s m args below meth c s.heap [] 0 0 (vx_MQ below Qc XC args s mc ms free) (entryFrame m args maxL)) : vx_Met l y ws rm Pc Qc XC mc ms free := by
  refine MetFree.of_bodyS (code := cc) (maxLocals := maxL) (ret := ret) hy ?_ ?_
  · intro args s m h hn
    obtain ⟨meth, c, h1, h2, h3, h4, h5, h6, -, -⟩ := Cond.code_spec hn (atoms_spec (ws := ws) h _ (by rw [hw]; exact List.mem_cons_self))
    exact ⟨meth, c, h1, h2, h3, h4, h5, h6⟩
  · intro p e s m args below meth c s₁ B hml hP _
    have hh0 : s₁.heap = s.heap := by rw [B.state]; rfl
    have ht : ∀ x ∈ c.exceptionTable.toList, False := by
      obtain ⟨meth9, c9, h1, h2, -, -, -, -, h7, -⟩ := Cond.code_spec B.named (atoms_spec (ws := ws) B.pre _ (by rw [hw]; exact List.mem_cons_self))
      cases Option.some.inj (h1.symm.trans B.method)
      cases Option.some.inj (h2.symm.trans (Stand.of_body B).code)
      intro x hx
      rw [Array.isEmpty_iff.mp h7] at hx
      cases hx
    obtain ⟨t, a1, o, b1, b2, b3⟩ := body p e s m args below meth c s₁ B hml ht hP s₁ hh0 (Stand.of_body B)
    exact ⟨t, o, a1, b1, b2, b3⟩
/-- the table of a body with handlers -/
theorem vx_table {p : Program} {x y : MethodName} {S : Spec} {cc bytes : ByteArray} {maxL maxL' : Nat} {ret ret' : Option FieldType} {e : Env} {s s₁ : State} {m : MethodId} {args : Array Value} {below : List Frame} {meth : Method} {c : Code} {hh : List (Nat × Nat × Nat × Nat)}
    (B : BodyLoose p l y S cc maxL ret e s m args below meth c s₁) (h : (Cond.codeWith y bytes maxL' ret' hh).before args s = true) : c.exceptionTable.toList = tableOf hh := by
  obtain ⟨m9, meth9, c9, hn9, h1, h2, -, -, h6, -⟩ := Cond.codeWith_spec h
  cases Option.some.inj (hn9.symm.trans B.named)
  cases Option.some.inj (h1.symm.trans B.method)
  cases Option.some.inj (h2.symm.trans (Stand.of_body B).code)
  rw [← h6, table_eq]
end Bodies
end VXA
/-! ===== END ===== -/
/-! ===== BEGIN a static call of a method with an exception table ===== -/
section VXS
variable {p : Program} {l : Launch} {e : Env} {R : Room} {s : State} {m : MethodId} {args : Array Value} {below : List Frame} {meth : Method} {c : Code} {T : State} {H : Heap} {locs : List Loc} {cells slots : Nat}
abbrev vx_CSW (R : Room) (s : State) (args : Array Value) (own : String) (index : Nat) (y : MethodName) (bytes : ByteArray) (maxL : Nat) (ret : Option FieldType) (hh : List (Nat × Nat × Nat × Nat)) (ws : List Cond) (rm : Room) (mc ms n : Nat) : Prop :=
  (rm.cells = mc ∧ rm.slots = ms ∧ rm.frames + 1 ≤ R.frames ∧ 8 + (maxL + 11) + rm.locals ≤ R.locals ∧ (∀ w ∈ ws, ∀ (a' : Array Value) (U : State), s.WarmedH U.vm → w.before a' U = true) ∧ Cond.codeWith y bytes maxL ret hh ∈ ws) ∧
  (Cond.codeWith y bytes maxL ret hh).before args s = true ∧ (Cond.initialized y.cls).before args s = true ∧ (y.cls ≠ "java/lang/invoke/MethodHandle" ∧ y.cls ≠ "java/lang/invoke/VarHandle") ∧
  (∀ sig, parseMethodDescriptor y.desc = some sig → n = sig.parameters.length) ∧ (Cond.methodLink own index y).before args s = true ∧ (Cond.static y).before args s = true
theorem vx_cwSW {own : String} {index maxL mc ms : Nat} {y : MethodName} {bytes : ByteArray} {ret : Option FieldType} {hh : List (Nat × Nat × Nat × Nat)} {Ts ws ws' : List Cond} {rm : Room} (n : Nat) (ht : ∀ w ∈ Ts, w.before args s = true) (hT : GoodIn Ts (va_wsS own index y ws)) (hw : ws = Cond.codeWith y bytes maxL ret hh :: ws') (hrc : rm.cells = mc) (hrs : rm.slots = ms)
    (hd : y.cls ≠ "java/lang/invoke/MethodHandle" ∧ y.cls ≠ "java/lang/invoke/VarHandle" ∧ (parseMethodDescriptor y.desc).map (fun d => d.parameters.length) = some n) (hR : rm.frames + 1 ≤ R.frames ∧ 8 + (maxL + 11) + rm.locals ≤ R.locals) :
    vx_CSW R s args own index y bytes maxL ret hh ws rm mc ms n := by
  have ok : ∀ w ∈ va_wsS own index y ws, w.before args s = true := fun w h => ht w (hT w h).1
  have hG : GoodIn Ts ws := fun w h => hT w (by unfold va_wsS; exact List.mem_append_right _ h)
  have hc : Cond.codeWith y bytes maxL ret hh ∈ ws := by rw [hw]; exact List.mem_cons_self
  refine ⟨⟨hrc, hrs, hR.1, hR.2, pay_in ht hG, hc⟩, ht _ (hG _ hc).1, ok _ (by simp [va_wsS]), ⟨hd.1, hd.2.1⟩, fun sig h => ?_, ok _ (by simp [va_wsS]), ok _ (by simp [va_wsS])⟩
  have h2 := hd.2.2
  rw [h] at h2
  exact (Option.some.inj h2).symm
theorem vx_callSW (X : Stand p l e R s m args below meth c T locs cells slots) (hexec : p.tables.exec = Jvm.exec) {own : String} {index : Nat} {y : MethodName} {bytes : ByteArray} {maxL : Nat} {ret : Option FieldType} {hh : List (Nat × Nat × Nat × Nat)}
    (hown : s.vm.findClass own = some m.cls) (hlink : (Cond.methodLink own index y).before args s = true) (hstat : (Cond.static y).before args s = true) (hinit : (Cond.initialized y.cls).before args s = true)
    (hcode : (Cond.codeWith y bytes maxL ret hh).before args s = true) (hy : y.cls ≠ "java/lang/invoke/MethodHandle" ∧ y.cls ≠ "java/lang/invoke/VarHandle")
    {W9 : Nat} {Pre : Pt → Array Value → Prop} {Post : Pt → Array Value → Option Value → Pt → Prop} (hK : Back l R p e below s args y 3 W9 Pre Post)
    {g : JFrame} (hg : g.method = m) (hsize : g.locals.size = c.maxLocals) {argsL rest : List Value} (hlen : ∀ sig, parseMethodDescriptor y.desc = some sig → argsL.length = sig.parameters.length)
    (hstack : g.stack = argsL.reverse ++ rest) (hW : 2 * g.monitorRoom + (rest.map fun v => v.category).sum ≤ W9) (hdg : decode c.code g.pc = .ok (.invokestatic index, 3))
    (hpre : ∀ vm₁, s.WarmedH vm₁ → Pre ⟨T.setVm vm₁, locs, cells, slots⟩ argsL.toArray) :
    ∃ (v : Option Value) (vm₁ : Vm) (B : Pt), s.WarmedH vm₁ ∧ Stand p l e R s m args below meth c B.U B.locs B.cells B.slots ∧ Post ⟨T.setVm vm₁, locs, cells, slots⟩ argsL.toArray v B ∧
      ∀ target, Steps p.tables e below (B.U.setTop { g with pc := g.pc + 3, stack := v.toList ++ rest }) target → Steps p.tables e below (T.setTop g) target := by
  obtain ⟨mk, methM, cM, hnamed, hmethM, -, -, -, -, -, -, hsigM⟩ := Cond.codeWith_spec hcode
  have hstatic : methM.isStatic = true := Cond.static_spec hnamed hmethM hstat
  obtain ⟨kP, hkP, -⟩ := className_of_methodNamed hnamed
  have hinitP : kP.init = .initialized := Cond.initialized_spec (findClass_of_methodNamed hnamed) hkP hinit
  obtain ⟨vm₁, X₁, hstep₁⟩ := X.invokestatic hexec hown hlink hnamed hmethM hstatic hkP hinitP hy (g := g) hg (argsL := argsL) (rest := rest) (hlen _ hsigM) hstack hdg
  obtain ⟨v, B, X', hpost, hsteps⟩ := hK m meth c ⟨T.setVm vm₁, locs, cells, slots⟩ { g with stack := rest } (.invokestatic index) mk argsL.toArray X₁ hg hsize hdg hW (X₁.named hnamed) (hpre vm₁ X₁.warmed)
  exact ⟨v, vm₁, B, X₁.warmed, X', hpost, fun target h => hstep₁ _ fun acts => by rw [doInvoke_state]; exact hsteps.trans h⟩
theorem vx_runSW {y : MethodName} {bytes cc : ByteArray} {maxL nL mc ms n index : Nat} {ret : Option FieldType} {hh : List (Nat × Nat × Nat × Nat)} {ws : List Cond} {rm : Room} {Pc : Array Value → State → Prop} {Qc : Array Value → State → Outcome → State → Prop} {free : Addr → Prop} {Ts : List Cond} {own : String} {As rest : List Value} {g : JFrame}
    (S : CallFix p m c cc nL s args Ts own) (hM : Met l y ws rm Pc Qc mc ms free) (cw : vx_CSW R s args own index y bytes maxL ret hh ws rm mc ms n) (hp : PreS s H Pc As)
    (hg : g.method = m) (hn : As.length = n) (hsize : g.locals.size = nL) (hstack : g.stack = As.reverse ++ rest) (hW : 2 * g.monitorRoom + (rest.map fun v => v.category).sum ≤ 8) (hdg : decode cc g.pc = .ok (.invokestatic index, 3)) (hf : cells + mc ≤ R.cells ∧ slots + ms ≤ R.slots) :
    va_Run p l e R s m args below meth c H locs cells slots mc ms g rest (Qc As.toArray) (free) := by
  obtain ⟨⟨hrc, hrs, hfr, hlo, hws, hcw⟩, hcode, hini, hy, hlen, hl, hstt⟩ := cw
  have hK : Back l R p e below s args y 3 8 (PreOf R mc ms Pc) (PostOf Qc mc ms free) := va_backW (hh := hh) (bytes := bytes) (maxL := maxL) (ret := ret) hM hp.1 hrc hrs hfr hlo hws hcw (fun a' U hW => word_at hW (Or.inl (by first | rfl | simp [Cond.onTables, Cond.keeps, Cond.steady])) hini)
  obtain ⟨hx, hb, hml, ho, -⟩ := S
  intro T hT X
  obtain ⟨v, vm₁, ⟨U', l2, c2, s2⟩, hW₁, X', ⟨g', mk, t, L, e1, e2, hq, h1, hL, h2, h3⟩, st⟩ := vx_callSW X hx (hh := hh) (bytes := bytes) (maxL := maxL) (ret := ret) ho hl hstt hini hcode hy hK hg (hsize.trans hml.symm) (argsL := As) (rest := rest) (fun sig h => hn.trans (hlen sig h)) hstack hW (by rw [hb]; exact hdg)
    (fun vm₁ hW₁ => ⟨hf.1, hf.2, hp.2 (T.setVm vm₁) hT hW₁⟩)
  dsimp only [Pt.U, Pt.locs, Pt.cells, Pt.slots] at X' e1 e2 h1 h2 h3 st
  subst h1; subst h2; subst h3
  exact ⟨v, (T.setVm vm₁).calling g' mk As.toArray, t, U', L, hT, X', hL, e1, e2, hq, st⟩
/-- not caught here, past rows that name other classes: it goes on to the caller -/
theorem vx_outP {p : Program} {l : Launch} {e : Env} {R : Room} {s : State} {m : MethodId} {args : Array Value} {below : List Frame} {meth : Method} {c : Code} {H : Heap} {locs : List Loc} {cells slots : Nat} {free : Addr → Prop} {ls : Array Slot} {rest : List Value} {Qc : Array Value → State → Outcome → State → Prop} {XC : String → State → State → Prop}
    {pc : Nat} {own E : String} {ce : Cell} {q : Addr} {mc ms : Nat} (hown : s.vm.findClass own = some m.cls) (hlocks : meth.locks = false)
    (hpass : ∀ z ∈ c.exceptionTable.toList, covers z pc = false ∨ (z.catchType ≠ 0 ∧ ∃ nm : String, (Cond.classLink own z.catchType nm).before args s = true ∧ va_Nc E nm s)) (hcell : H[q]? = some ce) (hv : ce.vm = .none) (hcl : s.vm.findClass E = some ce.cls)
    (hx : ∀ t : State, t.heap = H → s.vm.Alike t.vm → XC E s t) (hf : ∀ z ∈ locs, free z.base) (hc : cells ≤ mc) (hs : slots ≤ ms) :
    vx_W p l e R s m args below meth c H locs cells slots (vx_MQ below Qc XC args s mc ms free) (F0 m pc ls rest) q := by
  intro T hT X
  have hpl : e.platform.magicAccessors = ({} : Platform).magicAccessors := by rw [X.admits.platform]
  obtain ⟨vm', hW', X', st⟩ := X.outThrough hlocks q (g := F0 m pc ls rest) rfl rfl rfl (cell := ce) (by rw [hT]; exact hcell) (by rw [hv]; rfl)
    (by obtain ⟨k9, h9, -⟩ := Vm.findClass_spec hcl; exact ⟨k9, h9⟩) (fun z hz => by
      rcases hpass z hz with h | ⟨hz0, nm, hl1, hn1⟩
      · exact Or.inl h
      · obtain ⟨c6, hc6, hcl6⟩ := Cond.classLink_spec hown hl1 e.platform hpl
        obtain ⟨a8, b8, h1, h2, h3⟩ := hn1
        cases Option.some.inj (h1.symm.trans hcl)
        cases Option.some.inj (h2.symm.trans hc6)
        exact Or.inr ⟨hz0, _, hcl6, h3⟩)
  obtain ⟨g₀, hfr⟩ := X'.frames_eq
  have hcell9 : ((T.setVm vm').setFrames (.throwing q :: below)).heap[q]? = some ce := by
    show T.heap[q]? = some ce
    rw [hT]; exact hcell
  have hend : Ended ((T.setVm vm').setFrames (.throwing q :: below)) below (.threw q) := State.frames_setFrames _ (State.cur_lt_of_frames hfr)
  refine ⟨(T.setVm vm').setFrames (.throwing q :: below), ?_, .threw q, X'.here.running, hend, Or.inr ⟨q, rfl, E, ce, locs, hx _ hT (X'.ends _).1.alike, hcell9, hv, hcl, (X'.ends _).1, (X'.ends _).2.mono hc hs, hf⟩⟩
  rw [X.pushThrowing_eq]
  exact st
/-- a thing of a world lies in the heap -/
theorem vx_lt {D : va_G} {cl : List vw_C} {ws : va_W} {H1 : Heap} (h : va_P D cl ws H1) {k : Nat} {q : Nat × va_E} (hk : ws[k]? = some q) : q.1 < H1.size := (h k q hk).lt
end VXS
/-! ===== END ===== -/
/-! ===== BEGIN methods with a table of their own: called by a name, returning or throwing ===== -/
section VXH
/-! vx_backW, vx_callVX, vx_callSX, vx_callVW, vx_runVW, vx_runVX, vx_runSX, vx_ofWH follow the same proofs as their sisters above (Free/Laws.lean, Shelf42/LK1.lean); vx_outP calls Shelf42/NT130.lean (outThrough). -/
section
variable {l : Launch} {R : Room} {p : Program} {e : Env} {below : List Frame} {s : State} {sargs : Array Value} {y : MethodName} {len W9 : Nat}
theorem vx_backW {ws : List Cond} {rm : Room} {Pc : Array Value → State → Prop} {Qc : Array Value → State → Outcome → State → Prop} {XC : String → State → State → Prop} {mc ms : Nat} {free : Addr → Prop} {bytes : ByteArray} {maxL : Nat} {ret : Option FieldType} {hh : List (Nat × Nat × Nat × Nat)}
    (hM : vx_Met l y ws rm Pc Qc XC mc ms free) (hblind : FrameBlind Pc) (hrc : rm.cells = mc) (hrs : rm.slots = ms)
    (hframes : rm.frames + 1 ≤ R.frames) (hlocals : W9 + (maxL + 11) + rm.locals ≤ R.locals)
    (hws : ∀ w ∈ ws, ∀ a' U, s.WarmedH U.vm → w.before a' U = true) (hcode : Cond.codeWith y bytes maxL ret hh ∈ ws) (hinit : ∀ a' U, s.WarmedH U.vm → (Cond.initialized y.cls).before a' U = true) :
    vx_Back l R p e below s sargs y len W9 (PreOf R mc ms Pc) (PostOf Qc mc ms free) (vx_Post XC mc ms free) := by
  intro m meth c A g ig mk a X hg hsize hdg hW hn hp
  have h1 : (headSpec ws rm).pre.before a A.U = true := atoms_intro fun w hw => hws w hw _ _ X.warmed
  have h2 : (Cond.codeWith y bytes maxL ret hh).before a A.U = true := hws _ hcode _ _ X.warmed
  have h3 : (Cond.initialized y.cls).before a A.U = true := hinit _ _ X.warmed
  have h4 : A.cells + (headSpec ws rm).room.cells ≤ R.cells := by rw [show (headSpec ws rm).room.cells = mc from hrc]; exact hp.1
  have h5 : A.slots + (headSpec ws rm).room.slots ≤ R.slots := by rw [show (headSpec ws rm).room.slots = ms from hrs]; exact hp.2.1
  have hPc : Pc a (A.U.calling g mk a) := hblind _ _ _ _ hp.2.2
  obtain ⟨U, Ls, c0, s0⟩ := A
  dsimp only [Pt.U, Pt.locs, Pt.cells, Pt.slots] at h1 h2 h3 h4 h5 X hn hPc ⊢
  obtain ⟨m9, methY, cY, hn9, hmY, hcY, -, hlY, -⟩ := Cond.codeWith_spec h2
  cases Option.some.inj (hn9.symm.trans hn)
  obtain ⟨kY, hkY, -⟩ := className_of_methodNamed hn
  have hinitY : kY.init = .initialized := Cond.initialized_spec (findClass_of_methodNamed hn) hkY h3
  have h : At U g.method c below := by rw [hg]; exact X.here
  have hlocals9 : W9 + (maxL + 11) + (headSpec ws rm).room.locals ≤ R.locals := hlocals
  have happ : (headSpec ws rm).appliesLoose y e.platform (U.calling g mk a) = true :=
    Spec.appliesLoose_calling (g := g) h hdg hn hkY hinitY
      (X.room_calling (g := g) (R' := (headSpec ws rm).room) hsize hmY hcY hframes (by rw [hlY]; omega) h4 h5) h1
  obtain ⟨mid, hmid⟩ := h.above
  have hfr : (U.setTop g).frames = (.java g :: mid) ++ below := by rw [State.frames_setTop' g h.top, hmid]; rfl
  obtain ⟨o, s₂, hsteps, -, hend, hq⟩ := Steps.callFree hM p X.admits X.cas X.clock (acts := []) hfr happ hPc trivial
  have hq' : vx_Q Qc XC mc ms free a (U.calling g mk a) o s₂ := hq
  rw [State.frames_setTop' g h.top] at hend
  obtain ⟨g₀, hg0⟩ := Option.isSome_iff_exists.mp h.top
  obtain ⟨r, hr⟩ := State.topJava?_eq_some.mp hg0
  have hr' : (({ U with heap := s₂.heap, slotsUsed := s₂.slotsUsed } : State).setVm s₂.vm).frames = .java g₀ :: r := hr
  rcases hq' with ⟨hqc, L, hfe, hL⟩ | ⟨q, rfl, E, ce, L, hx, hce, hcv, hcl, hW₂, hsm, hL⟩
  · obtain ⟨⟨v, rfl⟩, hW₂, e2, q2, q3, q4, q5, q6⟩ := id hfe
    have e3 : s₂ = ({ (U.calling g mk a).setFrames s₂.frames with heap := s₂.heap, slotsUsed := s₂.slotsUsed } : State).setVm s₂.vm := by
      have : s₂ = ({ s₂ with vm := (U.calling g mk a).vm } : State).setVm s₂.vm := rfl
      rw [e2] at this
      exact this
    obtain ⟨c₂, i₂, len₂, hc₂, hd₂, hf₂⟩ := hend
    have hW' : U.WarmedH s₂.vm := hW₂
    have hcc : c₂ = c := by
      have h1 : s₂.code? g.method = U.code? g.method := by
        rw [State.code?_eq, State.code?_eq, hW'.alike.method?]
      exact Option.some.inj (hc₂.symm.trans (h1.trans h.code))
    subst hcc
    have hlen : len₂ = len := by rw [hdg] at hd₂; cases hd₂; rfl
    subst hlen
    have hs₂ : s₂ = (({ U with heap := s₂.heap, slotsUsed := s₂.slotsUsed } : State).setVm s₂.vm).setTop { g with pc := g.pc + len₂, stack := v.toList ++ g.stack } := by
      refine e3.trans ?_
      rw [hf₂, State.calling_eq h.top, State.setFrames_setFrames, State.setTop_of_frames _ hr', hr]
      rfl
    have hsame : U.sameButNew ({ U with heap := s₂.heap, slotsUsed := s₂.slotsUsed } : State) L mc ms := by
      refine ⟨?_, q2, q3, q4, q5, q6⟩
      obtain ⟨t, ht, -⟩ := State.frames_cons hr
      show ({ U with heap := s₂.heap, slotsUsed := s₂.slotsUsed } : State) = { U.setFrames U.frames with heap := s₂.heap, slotsUsed := s₂.slotsUsed }
      rw [State.setFrames_self ht]
    subst hg
    refine Or.inl ⟨v, ⟨(({ U with heap := s₂.heap, slotsUsed := s₂.slotsUsed } : State).setVm s₂.vm), Ls ++ L, c0 + mc, s0 + ms⟩,
      ⟨X.admits, X.cas, X.clock, X.frames, X.room, X.hears, X.method, X.code, (X.here.setHeapUsed s₂.heap s₂.slotsUsed).setVm hW'.alike, X.tail, State.WarmedH.trans X.warmed hW', X.limits, X.bytes, X.same.trans (hsame.setVm s.vm)⟩,
      ⟨g, mk, s₂, L, rfl, rfl, hqc, rfl, hL, rfl, rfl⟩, ?_⟩
    show Steps p.tables e below _ ((({ U with heap := s₂.heap, slotsUsed := s₂.slotsUsed } : State).setVm s₂.vm).setTop { g with pc := g.pc + len₂, stack := v.toList ++ g.stack })
    rw [← hs₂]
    exact hsteps
  · obtain ⟨e2, q2, q3, q4, q5, q6⟩ := id hsm
    have e3 : s₂ = ({ (U.calling g mk a).setFrames s₂.frames with heap := s₂.heap, slotsUsed := s₂.slotsUsed } : State).setVm s₂.vm := by
      have : s₂ = ({ s₂ with vm := (U.calling g mk a).vm } : State).setVm s₂.vm := rfl
      rw [e2] at this
      exact this
    have hf₂ : s₂.frames = .throwing q :: .java g :: U.frames.tail := hend
    have hW' : U.WarmedH s₂.vm := hW₂
    have hs₂ : s₂ = ((({ U with heap := s₂.heap, slotsUsed := s₂.slotsUsed } : State).setVm s₂.vm).setTop g).pushFrame (.throwing q) := by
      refine e3.trans ?_
      rw [hf₂, State.calling_eq h.top, State.setFrames_setFrames, State.pushFrame, State.frames_setTop _ hr', State.setTop_of_frames _ hr', State.setFrames_setFrames, hr]
      rfl
    have hsame : U.sameButNew ({ U with heap := s₂.heap, slotsUsed := s₂.slotsUsed } : State) L mc ms := by
      refine ⟨?_, q2, q3, q4, q5, q6⟩
      obtain ⟨t, ht, -⟩ := State.frames_cons hr
      show ({ U with heap := s₂.heap, slotsUsed := s₂.slotsUsed } : State) = { U.setFrames U.frames with heap := s₂.heap, slotsUsed := s₂.slotsUsed }
      rw [State.setFrames_self ht]
    subst hg
    refine Or.inr ⟨q, ⟨(({ U with heap := s₂.heap, slotsUsed := s₂.slotsUsed } : State).setVm s₂.vm), Ls ++ L, c0 + mc, s0 + ms⟩,
      ⟨X.admits, X.cas, X.clock, X.frames, X.room, X.hears, X.method, X.code, (X.here.setHeapUsed s₂.heap s₂.slotsUsed).setVm hW'.alike, X.tail, State.WarmedH.trans X.warmed hW', X.limits, X.bytes, X.same.trans (hsame.setVm s.vm)⟩,
      ⟨g, mk, s₂, L, E, ce, rfl, rfl, hx, hce, hcv, hcl, rfl, hL, rfl, rfl⟩, ?_⟩
    show Steps p.tables e below _ (((({ U with heap := s₂.heap, slotsUsed := s₂.slotsUsed } : State).setVm s₂.vm).setTop g).pushFrame (.throwing q))
    rw [← hs₂]
    exact hsteps
end
variable {p : Program} {l : Launch} {e : Env} {R : Room} {s : State} {m : MethodId} {args : Array Value} {below : List Frame} {meth : Method} {c : Code} {T : State} {H : Heap} {locs : List Loc} {cells slots : Nat}
theorem vx_callVX (X : Stand p l e R s m args below meth c T locs cells slots) (hexec : p.tables.exec = Jvm.exec) {own C : String} {index : Nat} {y : MethodName} {bytes : ByteArray} {maxL : Nat} {ret : Option FieldType} {hh : List (Nat × Nat × Nat × Nat)}
    (hown : s.vm.findClass own = some m.cls) (hlink : (Cond.methodLink own index y).before args s = true) (hinst : (Cond.instanceMethod y).before args s = true) (hsel : (Cond.selects C y y).before args s = true)
    (hcode : (Cond.codeWith y bytes maxL ret hh).before args s = true) (hy : y.cls ≠ "java/lang/invoke/MethodHandle" ∧ y.cls ≠ "java/lang/invoke/VarHandle")
    {W9 : Nat} {Pre : Pt → Array Value → Prop} {Post : Pt → Array Value → Option Value → Pt → Prop} {PostX : Pt → Array Value → Addr → Pt → Prop} (hK : vx_Back l R p e below s args y 3 W9 Pre Post PostX)
    {b : Addr} {cellB : Cell} (hcell : T.heap[b]? = some cellB) (hobj : cellB.vm.isStatics = false) (hcls : s.vm.findClass C = some cellB.cls)
    {g : JFrame} (hg : g.method = m) (hsize : g.locals.size = c.maxLocals) {argsL rest : List Value} (hlen : ∀ sig, parseMethodDescriptor y.desc = some sig → argsL.length = sig.parameters.length)
    (hstack : g.stack = argsL.reverse ++ .ref b :: rest) (hW : 2 * g.monitorRoom + (rest.map fun v => v.category).sum ≤ W9) (hdg : decode c.code g.pc = .ok (.invokevirtual index, 3))
    (hpre : ∀ vm₁, s.WarmedH vm₁ → Pre ⟨T.setVm vm₁, locs, cells, slots⟩ (Value.ref b :: argsL).toArray) :
    (∃ (v : Option Value) (vm₁ : Vm) (B : Pt), s.WarmedH vm₁ ∧ Stand p l e R s m args below meth c B.U B.locs B.cells B.slots ∧ Post ⟨T.setVm vm₁, locs, cells, slots⟩ (Value.ref b :: argsL).toArray v B ∧
      ∀ target, Steps p.tables e below (B.U.setTop { g with pc := g.pc + 3, stack := v.toList ++ rest }) target → Steps p.tables e below (T.setTop g) target) ∨
    (∃ (q : Addr) (vm₁ : Vm) (B : Pt), s.WarmedH vm₁ ∧ Stand p l e R s m args below meth c B.U B.locs B.cells B.slots ∧ PostX ⟨T.setVm vm₁, locs, cells, slots⟩ (Value.ref b :: argsL).toArray q B ∧
      Steps p.tables e below (T.setTop g) ((B.U.setTop { g with stack := rest }).pushFrame (.throwing q))) := by
  obtain ⟨mk, methM, hnamed, hmethM, hstM, habM⟩ := Cond.instanceMethod_spec hinst
  obtain ⟨m8, methM', cM, hn8, hmethM', -, -, -, -, -, -, hsigM⟩ := Cond.codeWith_spec hcode
  cases Option.some.inj (hn8.symm.trans hnamed)
  cases hmethM.symm.trans hmethM'
  obtain ⟨c2, r2, m2, q1, q2, q3, q4, kP, hkP, hkPi⟩ := Cond.selects_spec hsel
  cases hcls.symm.trans q1
  cases (State.methodFound?_of_named hnamed hy).symm.trans q2
  cases hnamed.symm.trans q3
  have hselP : selectMethod e.platform s.vm cellB.cls mk = .method mk := by rw [Launch.admits_selectMethod X.admits]; exact q4
  obtain ⟨vm₁, X₁, hstep₁⟩ := X.invokevirtual hexec hown hlink hnamed hmethM hstM hkP hkPi hy (a := b) (cell := cellB) hcell
    (fun z h => by rw [h] at hobj; cases hobj) hselP hmethM habM hkP hkPi (g := g) hg (argsL := argsL) (rest := rest) (hlen _ hsigM) hstack hdg
  rcases hK m meth c ⟨T.setVm vm₁, locs, cells, slots⟩ { g with stack := rest } (.invokevirtual index) mk (Value.ref b :: argsL).toArray X₁ hg hsize hdg hW (X₁.named hnamed) (hpre vm₁ X₁.warmed) with ⟨v, B, X', hpost, hsteps⟩ | ⟨q, B, X', hpost, hsteps⟩
  · exact Or.inl ⟨v, vm₁, B, X₁.warmed, X', hpost, fun target h => hstep₁ _ fun acts => by rw [doInvoke_state]; exact hsteps.trans h⟩
  · exact Or.inr ⟨q, vm₁, B, X₁.warmed, X', hpost, hstep₁ _ fun acts => by rw [doInvoke_state]; exact hsteps⟩
theorem vx_callSX (X : Stand p l e R s m args below meth c T locs cells slots) (hexec : p.tables.exec = Jvm.exec) {own : String} {index : Nat} {y : MethodName} {bytes : ByteArray} {maxL : Nat} {ret : Option FieldType} {hh : List (Nat × Nat × Nat × Nat)}
    (hown : s.vm.findClass own = some m.cls) (hlink : (Cond.methodLink own index y).before args s = true) (hstat : (Cond.static y).before args s = true) (hinit : (Cond.initialized y.cls).before args s = true)
    (hcode : (Cond.codeWith y bytes maxL ret hh).before args s = true) (hy : y.cls ≠ "java/lang/invoke/MethodHandle" ∧ y.cls ≠ "java/lang/invoke/VarHandle")
    {W9 : Nat} {Pre : Pt → Array Value → Prop} {Post : Pt → Array Value → Option Value → Pt → Prop} {PostX : Pt → Array Value → Addr → Pt → Prop} (hK : vx_Back l R p e below s args y 3 W9 Pre Post PostX)
    {g : JFrame} (hg : g.method = m) (hsize : g.locals.size = c.maxLocals) {argsL rest : List Value} (hlen : ∀ sig, parseMethodDescriptor y.desc = some sig → argsL.length = sig.parameters.length)
    (hstack : g.stack = argsL.reverse ++ rest) (hW : 2 * g.monitorRoom + (rest.map fun v => v.category).sum ≤ W9) (hdg : decode c.code g.pc = .ok (.invokestatic index, 3))
    (hpre : ∀ vm₁, s.WarmedH vm₁ → Pre ⟨T.setVm vm₁, locs, cells, slots⟩ argsL.toArray) :
    (∃ (v : Option Value) (vm₁ : Vm) (B : Pt), s.WarmedH vm₁ ∧ Stand p l e R s m args below meth c B.U B.locs B.cells B.slots ∧ Post ⟨T.setVm vm₁, locs, cells, slots⟩ argsL.toArray v B ∧
      ∀ target, Steps p.tables e below (B.U.setTop { g with pc := g.pc + 3, stack := v.toList ++ rest }) target → Steps p.tables e below (T.setTop g) target) ∨
    (∃ (q : Addr) (vm₁ : Vm) (B : Pt), s.WarmedH vm₁ ∧ Stand p l e R s m args below meth c B.U B.locs B.cells B.slots ∧ PostX ⟨T.setVm vm₁, locs, cells, slots⟩ argsL.toArray q B ∧
      Steps p.tables e below (T.setTop g) ((B.U.setTop { g with stack := rest }).pushFrame (.throwing q))) := by
  obtain ⟨mk, methM, cM, hnamed, hmethM, -, -, -, -, -, -, hsigM⟩ := Cond.codeWith_spec hcode
  have hstatic : methM.isStatic = true := Cond.static_spec hnamed hmethM hstat
  obtain ⟨kP, hkP, -⟩ := className_of_methodNamed hnamed
  have hinitP : kP.init = .initialized := Cond.initialized_spec (findClass_of_methodNamed hnamed) hkP hinit
  obtain ⟨vm₁, X₁, hstep₁⟩ := X.invokestatic hexec hown hlink hnamed hmethM hstatic hkP hinitP hy (g := g) hg (argsL := argsL) (rest := rest) (hlen _ hsigM) hstack hdg
  rcases hK m meth c ⟨T.setVm vm₁, locs, cells, slots⟩ { g with stack := rest } (.invokestatic index) mk argsL.toArray X₁ hg hsize hdg hW (X₁.named hnamed) (hpre vm₁ X₁.warmed) with ⟨v, B, X', hpost, hsteps⟩ | ⟨q, B, X', hpost, hsteps⟩
  · exact Or.inl ⟨v, vm₁, B, X₁.warmed, X', hpost, fun target h => hstep₁ _ fun acts => by rw [doInvoke_state]; exact hsteps.trans h⟩
  · exact Or.inr ⟨q, vm₁, B, X₁.warmed, X', hpost, hstep₁ _ fun acts => by rw [doInvoke_state]; exact hsteps⟩
theorem vx_callVW (X : Stand p l e R s m args below meth c T locs cells slots) (hexec : p.tables.exec = Jvm.exec) {own C : String} {index : Nat} {y : MethodName} {bytes : ByteArray} {maxL : Nat} {ret : Option FieldType} {hh : List (Nat × Nat × Nat × Nat)}
    (hown : s.vm.findClass own = some m.cls) (hlink : (Cond.methodLink own index y).before args s = true) (hinst : (Cond.instanceMethod y).before args s = true) (hsel : (Cond.selects C y y).before args s = true)
    (hcode : (Cond.codeWith y bytes maxL ret hh).before args s = true) (hy : y.cls ≠ "java/lang/invoke/MethodHandle" ∧ y.cls ≠ "java/lang/invoke/VarHandle")
    {W9 : Nat} {Pre : Pt → Array Value → Prop} {Post : Pt → Array Value → Option Value → Pt → Prop} (hK : Back l R p e below s args y 3 W9 Pre Post)
    {b : Addr} {cellB : Cell} (hcell : T.heap[b]? = some cellB) (hobj : cellB.vm.isStatics = false) (hcls : s.vm.findClass C = some cellB.cls)
    {g : JFrame} (hg : g.method = m) (hsize : g.locals.size = c.maxLocals) {argsL rest : List Value} (hlen : ∀ sig, parseMethodDescriptor y.desc = some sig → argsL.length = sig.parameters.length)
    (hstack : g.stack = argsL.reverse ++ .ref b :: rest) (hW : 2 * g.monitorRoom + (rest.map fun v => v.category).sum ≤ W9) (hdg : decode c.code g.pc = .ok (.invokevirtual index, 3))
    (hpre : ∀ vm₁, s.WarmedH vm₁ → Pre ⟨T.setVm vm₁, locs, cells, slots⟩ (Value.ref b :: argsL).toArray) :
    ∃ (v : Option Value) (vm₁ : Vm) (B : Pt), s.WarmedH vm₁ ∧ Stand p l e R s m args below meth c B.U B.locs B.cells B.slots ∧ Post ⟨T.setVm vm₁, locs, cells, slots⟩ (Value.ref b :: argsL).toArray v B ∧
      ∀ target, Steps p.tables e below (B.U.setTop { g with pc := g.pc + 3, stack := v.toList ++ rest }) target → Steps p.tables e below (T.setTop g) target := by
  obtain ⟨mk, methM, hnamed, hmethM, hstM, habM⟩ := Cond.instanceMethod_spec hinst
  obtain ⟨m8, methM', cM, hn8, hmethM', -, -, -, -, -, -, hsigM⟩ := Cond.codeWith_spec hcode
  cases Option.some.inj (hn8.symm.trans hnamed)
  cases hmethM.symm.trans hmethM'
  obtain ⟨c2, r2, m2, q1, q2, q3, q4, kP, hkP, hkPi⟩ := Cond.selects_spec hsel
  cases hcls.symm.trans q1
  cases (State.methodFound?_of_named hnamed hy).symm.trans q2
  cases hnamed.symm.trans q3
  have hselP : selectMethod e.platform s.vm cellB.cls mk = .method mk := by rw [Launch.admits_selectMethod X.admits]; exact q4
  obtain ⟨vm₁, X₁, hstep₁⟩ := X.invokevirtual hexec hown hlink hnamed hmethM hstM hkP hkPi hy (a := b) (cell := cellB) hcell
    (fun z h => by rw [h] at hobj; cases hobj) hselP hmethM habM hkP hkPi (g := g) hg (argsL := argsL) (rest := rest) (hlen _ hsigM) hstack hdg
  obtain ⟨v, B, X', hpost, hsteps⟩ := hK m meth c ⟨T.setVm vm₁, locs, cells, slots⟩ { g with stack := rest } (.invokevirtual index) mk (Value.ref b :: argsL).toArray X₁ hg hsize hdg hW (X₁.named hnamed) (hpre vm₁ X₁.warmed)
  exact ⟨v, vm₁, B, X₁.warmed, X', hpost, fun target h => hstep₁ _ fun acts => by rw [doInvoke_state]; exact hsteps.trans h⟩
abbrev vx_CVW (R : Room) (s : State) (args : Array Value) (own C : String) (index : Nat) (y : MethodName) (bytes : ByteArray) (maxL : Nat) (ret : Option FieldType) (hh : List (Nat × Nat × Nat × Nat)) (ws : List Cond) (rm : Room) (mc ms n : Nat) : Prop :=
  (rm.cells = mc ∧ rm.slots = ms ∧ rm.frames + 1 ≤ R.frames ∧ 8 + (maxL + 11) + rm.locals ≤ R.locals ∧ (∀ w ∈ ws, ∀ (a' : Array Value) (U : State), s.WarmedH U.vm → w.before a' U = true) ∧ Cond.codeWith y bytes maxL ret hh ∈ ws) ∧
  (Cond.codeWith y bytes maxL ret hh).before args s = true ∧ (Cond.initialized y.cls).before args s = true ∧ (y.cls ≠ "java/lang/invoke/MethodHandle" ∧ y.cls ≠ "java/lang/invoke/VarHandle") ∧
  (∀ sig, parseMethodDescriptor y.desc = some sig → n = sig.parameters.length) ∧ (Cond.methodLink own index y).before args s = true ∧ (Cond.instanceMethod y).before args s = true ∧ (Cond.selects C y y).before args s = true
theorem vx_cwVW {own C : String} {index maxL mc ms : Nat} {y : MethodName} {bytes : ByteArray} {ret : Option FieldType} {hh : List (Nat × Nat × Nat × Nat)} {Ts ws ws' : List Cond} {rm : Room} (n : Nat) (ht : ∀ w ∈ Ts, w.before args s = true) (hT : GoodIn Ts (wsV own index C y ws)) (hw : ws = Cond.codeWith y bytes maxL ret hh :: ws') (hrc : rm.cells = mc) (hrs : rm.slots = ms)
    (hd : y.cls = C ∧ y.cls ≠ "java/lang/invoke/MethodHandle" ∧ y.cls ≠ "java/lang/invoke/VarHandle" ∧ (parseMethodDescriptor y.desc).map (fun d => d.parameters.length) = some n) (hR : rm.frames + 1 ≤ R.frames ∧ 8 + (maxL + 11) + rm.locals ≤ R.locals) :
    vx_CVW R s args own C index y bytes maxL ret hh ws rm mc ms n := by
  obtain ⟨hC, hd⟩ := hd
  subst hC
  have ok : ∀ w ∈ wsV own index y.cls y ws, w.before args s = true := fun w h => ht w (hT w h).1
  have hG : GoodIn Ts ws := fun w h => hT w (by unfold wsV; exact List.mem_append_right _ h)
  have hc : Cond.codeWith y bytes maxL ret hh ∈ ws := by rw [hw]; exact List.mem_cons_self
  refine ⟨⟨hrc, hrs, hR.1, hR.2, pay_in ht hG, hc⟩, ht _ (hG _ hc).1, ok _ (by simp [wsV]), ⟨hd.1, hd.2.1⟩, fun sig h => ?_, ok _ (by simp [wsV]), ok _ (by simp [wsV]), ok _ (by simp [wsV])⟩
  have h2 := hd.2.2
  rw [h] at h2
  exact (Option.some.inj h2).symm
theorem vx_runVW {y : MethodName} {bytes cc : ByteArray} {maxL nL mc ms n index : Nat} {ret : Option FieldType} {hh : List (Nat × Nat × Nat × Nat)} {ws : List Cond} {rm : Room} {Pc : Array Value → State → Prop} {Qc : Array Value → State → Outcome → State → Prop} {free : Addr → Prop} {Ts : List Cond} {own C : String} {b : Addr} {As rest : List Value} {g : JFrame}
    (S : CallFix p m c cc nL s args Ts own) (hM : Met l y ws rm Pc Qc mc ms free) (cw : vx_CVW R s args own C index y bytes maxL ret hh ws rm mc ms n) (hp : PreV s H C b Pc As)
    (hg : g.method = m) (hn : As.length = n) (hsize : g.locals.size = nL) (hstack : g.stack = As.reverse ++ .ref b :: rest) (hW : 2 * g.monitorRoom + (rest.map fun v => v.category).sum ≤ 8) (hdg : decode cc g.pc = .ok (.invokevirtual index, 3)) (hf : cells + mc ≤ R.cells ∧ slots + ms ≤ R.slots) :
    va_Run p l e R s m args below meth c H locs cells slots mc ms g rest (Qc (Value.ref b :: As).toArray) free := by
  obtain ⟨⟨hrc, hrs, hfr, hlo, hws, hcw⟩, hcode, hini, hy, hlen, hl, hin, hse⟩ := cw
  have hK : Back l R p e below s args y 3 8 (PreOf R mc ms Pc) (PostOf Qc mc ms free) := va_backW (hh := hh) (bytes := bytes) (maxL := maxL) (ret := ret) hM hp.1 hrc hrs hfr hlo hws hcw (fun a' U hW => word_at hW (Or.inl (by first | rfl | simp [Cond.onTables, Cond.keeps, Cond.steady])) hini)
  obtain ⟨hx, hb, hml, ho, -⟩ := S
  obtain ⟨-, ⟨cellB, hcB, hoB, hclB⟩, hPc⟩ := hp
  intro T hT X
  obtain ⟨v, vm₁, ⟨U', l2, c2, s2⟩, hW₁, X', ⟨g', mk, t, L, e1, e2, hq, h1, hL, h2, h3⟩, st⟩ := vx_callVW X hx (C := C) (hh := hh) (bytes := bytes) (maxL := maxL) (ret := ret) ho hl hin hse hcode hy hK (by rw [hT]; exact hcB) hoB hclB hg (hsize.trans hml.symm) (argsL := As) (rest := rest) (fun sig h => hn.trans (hlen sig h)) hstack hW (by rw [hb]; exact hdg)
    (fun vm₁ hW₁ => ⟨hf.1, hf.2, hPc (T.setVm vm₁) hT hW₁⟩)
  dsimp only [Pt.U, Pt.locs, Pt.cells, Pt.slots] at X' e1 e2 h1 h2 h3 st
  subst h1; subst h2; subst h3
  exact ⟨v, (T.setVm vm₁).calling g' mk (Value.ref b :: As).toArray, t, U', L, hT, X', hL, e1, e2, hq, st⟩
section
variable {y : MethodName} {bytes cc : ByteArray} {maxL nL mc ms n index : Nat} {ret : Option FieldType} {ws : List Cond} {rm : Room} {Pc : Array Value → State → Prop} {Qc : Array Value → State → Outcome → State → Prop} {XC : String → State → State → Prop} {free : Addr → Prop} {Ts : List Cond} {own C : String} {b : Addr} {As rest : List Value} {g : JFrame}
theorem vx_runVX {hh : List (Nat × Nat × Nat × Nat)} (S : CallFix p m c cc nL s args Ts own) (hM : vx_Met l y ws rm Pc Qc XC mc ms free) (cw : vx_CVW R s args own C index y bytes maxL ret hh ws rm mc ms n) (hp : PreV s H C b Pc As)
    (hg : g.method = m) (hn : As.length = n) (hsize : g.locals.size = nL) (hstack : g.stack = As.reverse ++ .ref b :: rest) (hW : 2 * g.monitorRoom + (rest.map fun v => v.category).sum ≤ 8) (hdg : decode cc g.pc = .ok (.invokevirtual index, 3)) (hf : cells + mc ≤ R.cells ∧ slots + ms ≤ R.slots) :
    vx_Run p l e R s m args below meth c H locs cells slots mc ms g rest (Qc (Value.ref b :: As).toArray) XC free := by
  obtain ⟨⟨hrc, hrs, hfr, hlo, hws, hcw⟩, hcode, hini, hy, hlen, hl, hin, hse⟩ := cw
  have hK : vx_Back l R p e below s args y 3 8 (PreOf R mc ms Pc) (PostOf Qc mc ms free) (vx_Post XC mc ms free) := vx_backW (hh := hh) (bytes := bytes) (maxL := maxL) (ret := ret) hM hp.1 hrc hrs hfr hlo hws hcw (fun a' U hW => word_at hW (Or.inl (by first | rfl | simp [Cond.onTables, Cond.keeps, Cond.steady])) hini)
  obtain ⟨hx, hb, hml, ho, -⟩ := S
  obtain ⟨-, ⟨cellB, hcB, hoB, hclB⟩, hPc⟩ := hp
  intro T hT X
  rcases vx_callVX X hx (C := C) (hh := hh) (bytes := bytes) (maxL := maxL) (ret := ret) ho hl hin hse hcode hy hK (by rw [hT]; exact hcB) hoB hclB hg (hsize.trans hml.symm) (argsL := As) (rest := rest) (fun sig h => hn.trans (hlen sig h)) hstack hW (by rw [hb]; exact hdg)
    (fun vm₁ hW₁ => ⟨hf.1, hf.2, hPc (T.setVm vm₁) hT hW₁⟩) with ⟨v, vm₁, ⟨U', l2, c2, s2⟩, hW₁, X', ⟨g', mk, t, L, e1, e2, hq, h1, hL, h2, h3⟩, st⟩ | ⟨q, vm₁, ⟨U', l2, c2, s2⟩, hW₁, X', ⟨g', mk, t, L, E, ce, e1, e2, hq, hce, hcv, hcl, h1, hL, h2, h3⟩, st⟩
  · dsimp only [Pt.U, Pt.locs, Pt.cells, Pt.slots] at X' e1 e2 h1 h2 h3 st
    subst h1; subst h2; subst h3
    exact Or.inl ⟨v, (T.setVm vm₁).calling g' mk (Value.ref b :: As).toArray, t, U', L, hT, X', hL, e1, e2, hq, st⟩
  · dsimp only [Pt.U, Pt.locs, Pt.cells, Pt.slots] at X' e1 e2 h1 h2 h3 st hcl
    subst h1; subst h2; subst h3
    exact Or.inr ⟨q, (T.setVm vm₁).calling g' mk (Value.ref b :: As).toArray, t, U', L, E, ce, hT, X', hL, e1, e2, hq, hce, hcv, vx_cls hW₁ hcl, st⟩
theorem vx_runSX {hh : List (Nat × Nat × Nat × Nat)} (S : CallFix p m c cc nL s args Ts own) (hM : vx_Met l y ws rm Pc Qc XC mc ms free) (cw : vx_CSW R s args own index y bytes maxL ret hh ws rm mc ms n) (hp : PreS s H Pc As)
    (hg : g.method = m) (hn : As.length = n) (hsize : g.locals.size = nL) (hstack : g.stack = As.reverse ++ rest) (hW : 2 * g.monitorRoom + (rest.map fun v => v.category).sum ≤ 8) (hdg : decode cc g.pc = .ok (.invokestatic index, 3)) (hf : cells + mc ≤ R.cells ∧ slots + ms ≤ R.slots) :
    vx_Run p l e R s m args below meth c H locs cells slots mc ms g rest (Qc As.toArray) XC free := by
  obtain ⟨⟨hrc, hrs, hfr, hlo, hws, hcw⟩, hcode, hini, hy, hlen, hl, hstt⟩ := cw
  have hK : vx_Back l R p e below s args y 3 8 (PreOf R mc ms Pc) (PostOf Qc mc ms free) (vx_Post XC mc ms free) := vx_backW (hh := hh) (bytes := bytes) (maxL := maxL) (ret := ret) hM hp.1 hrc hrs hfr hlo hws hcw (fun a' U hW => word_at hW (Or.inl (by first | rfl | simp [Cond.onTables, Cond.keeps, Cond.steady])) hini)
  obtain ⟨hx, hb, hml, ho, -⟩ := S
  intro T hT X
  rcases vx_callSX X hx (hh := hh) (bytes := bytes) (maxL := maxL) (ret := ret) ho hl hstt hini hcode hy hK hg (hsize.trans hml.symm) (argsL := As) (rest := rest) (fun sig h => hn.trans (hlen sig h)) hstack hW (by rw [hb]; exact hdg)
    (fun vm₁ hW₁ => ⟨hf.1, hf.2, hp.2 (T.setVm vm₁) hT hW₁⟩) with ⟨v, vm₁, ⟨U', l2, c2, s2⟩, hW₁, X', ⟨g', mk, t, L, e1, e2, hq, h1, hL, h2, h3⟩, st⟩ | ⟨q, vm₁, ⟨U', l2, c2, s2⟩, hW₁, X', ⟨g', mk, t, L, E, ce, e1, e2, hq, hce, hcv, hcl, h1, hL, h2, h3⟩, st⟩
  · dsimp only [Pt.U, Pt.locs, Pt.cells, Pt.slots] at X' e1 e2 h1 h2 h3 st
    subst h1; subst h2; subst h3
    exact Or.inl ⟨v, (T.setVm vm₁).calling g' mk As.toArray, t, U', L, hT, X', hL, e1, e2, hq, st⟩
  · dsimp only [Pt.U, Pt.locs, Pt.cells, Pt.slots] at X' e1 e2 h1 h2 h3 st hcl
    subst h1; subst h2; subst h3
    exact Or.inr ⟨q, (T.setVm vm₁).calling g' mk As.toArray, t, U', L, E, ce, hT, X', hL, e1, e2, hq, hce, hcv, vx_cls hW₁ hcl, st⟩
end
end VXH
theorem vx_ofWH {l : Launch} {y : MethodName} {ws ws' : List Cond} {rm : Room} {Pc : Array Value → State → Prop} {Qc : Array Value → State → Outcome → State → Prop} {XC : String → State → State → Prop} {mc ms : Nat} {free : Addr → Prop} {cc : ByteArray} {maxL : Nat} {ret : Option FieldType} {hh : List (Nat × Nat × Nat × Nat)}
    (hy : plainName y.cls = true) (hw : ws = Cond.codeWith y cc maxL ret hh :: ws')
    (body : ∀ p e s m args below meth c s₁, BodyLoose p l y (headSpec ws rm) cc maxL ret e s m args below meth c s₁ → c.maxLocals = maxL → Pc args s →
      W p l e (headSpec ws rm).room s m args below meth c s.heap [] 0 0 (vx_MQ below Qc XC args s mc ms free) (entryFrame m args maxL)) : vx_Met l y ws rm Pc Qc XC mc ms free := by
  refine MetFree.of_bodyS (code := cc) (maxLocals := maxL) (ret := ret) hy ?_ ?_
  · intro args s m h hn
    obtain ⟨m9, meth, c, hn9, h1, h2, h3, h4, -, h5, h6, -⟩ := Cond.codeWith_spec (atoms_spec (ws := ws) h _ (by rw [hw]; exact List.mem_cons_self))
    cases hn.symm.trans hn9
    exact ⟨meth, c, h1, h2, h3, h4, h5, h6⟩
  · intro p e s m args below meth c s₁ B hml hP _
    have hh0 : s₁.heap = s.heap := by rw [B.state]; rfl
    obtain ⟨t, a1, o, b1, b2, b3⟩ := body p e s m args below meth c s₁ B hml hP s₁ hh0 (Stand.of_body B)
    exact ⟨t, o, a1, b1, b2, b3⟩
/-! ===== END ===== -/
end
section
def R_X : String := "RatePasses"
def R_M : String := "RatePassesModel"
def R_L : String := "RatePassesLaw"
def R_JL : String := "java/lang/Long"
def F_X : u_T := fun k => match k with
  | 0 => ("RatePasses", "layers", "I", true)
  | 1 => ("RatePasses", "sizes", "[I", true)
  | 2 => ("RatePasses", "heads", "[I", true)
  | 3 => ("RatePasses", "held", "[I", true)
  | 4 => ("RatePasses", "ends", "[I", true)
  | 5 => ("RatePasses", "shared", "Z", false)
  | 6 => ("RatePasses", "weights", "[I", true)
  | 7 => ("RatePasses", "shifts", "[I", true)
  | 8 => ("RatePasses", "counts", "[I", true)
  | 9 => ("RatePasses", "blockCount", "I", false)
  | 10 => ("RatePasses", "passCount", "I", false)
  | 11 => ("RatePasses", "lengthSums", "[I", true)
  | 12 => ("RatePasses", "gainSums", "[I", true)
  | 13 => ("RatePasses", "rises", "[J", true)
  | 14 => ("RatePasses", "costs", "[I", true)
  | 15 => ("RatePasses", "order", "[I", true)
  | _ => ("RatePasses", "orderLength", "I", false)
def t_X : Nat → FieldType := fun k => match k with
  | 0 => .int
  | 1 => .array .int
  | 2 => .array .int
  | 3 => .array .int
  | 4 => .array .int
  | 5 => .boolean
  | 6 => .array .int
  | 7 => .array .int
  | 8 => .array .int
  | 9 => .int
  | 10 => .int
  | 11 => .array .int
  | 12 => .array .int
  | 13 => .array .long
  | 14 => .array .int
  | 15 => .array .int
  | _ => .int
theorem n_X : ∀ a, a < 17 → ∀ b, b < 17 → a ≠ b → (F_X a).2.1 ≠ (F_X b).2.1 := by decide +kernel
theorem t_X_ok : ∀ k, k < 17 → parseFieldDescriptor (F_X k).2.2.1 = some (t_X k) := by decide +kernel
def F_M : u_T := fun k => match k with
  | 0 => ("RatePassesModel", "thrown", "I", false)
  | 1 => ("RatePassesModel", "layers", "I", true)
  | 2 => ("RatePassesModel", "blocks", "I", false)
  | 3 => ("RatePassesModel", "many", "[I", true)
  | 4 => ("RatePassesModel", "weights", "[I", true)
  | 5 => ("RatePassesModel", "shifts", "[I", true)
  | 6 => ("RatePassesModel", "lengths", "[I", true)
  | 7 => ("RatePassesModel", "gains", "[J", true)
  | 8 => ("RatePassesModel", "sizes", "[I", true)
  | 9 => ("RatePassesModel", "heads", "[I", true)
  | 10 => ("RatePassesModel", "laid", "Z", false)
  | 11 => ("RatePassesModel", "costs", "[I", true)
  | 12 => ("RatePassesModel", "rises", "[J", true)
  | 13 => ("RatePassesModel", "length", "I", false)
  | 14 => ("RatePassesModel", "row", "[I", true)
  | 15 => ("RatePassesModel", "shared", "Z", false)
  | _ => ("RatePassesModel", "given", "[I", true)
def t_M : Nat → FieldType := fun k => match k with
  | 0 => .int
  | 1 => .int
  | 2 => .int
  | 3 => .array .int
  | 4 => .array .int
  | 5 => .array .int
  | 6 => .array .int
  | 7 => .array .long
  | 8 => .array .int
  | 9 => .array .int
  | 10 => .boolean
  | 11 => .array .int
  | 12 => .array .long
  | 13 => .int
  | 14 => .array .int
  | 15 => .boolean
  | _ => .array .int
theorem n_M : ∀ a, a < 17 → ∀ b, b < 17 → a ≠ b → (F_M a).2.1 ≠ (F_M b).2.1 := by decide +kernel
theorem t_M_ok : ∀ k, k < 17 → parseFieldDescriptor (F_M k).2.2.1 = some (t_M k) := by decide +kernel
abbrev classes : List vw_C := [(R_X, F_X, 17), (R_M, F_M, 17)]
abbrev b_X_init : ByteArray := prog_1_method_1_code
def y_X_init : MethodName := ⟨R_X, "<init>", "(I)V"⟩
abbrev b_X_block : ByteArray := prog_1_method_2_code
def y_X_block : MethodName := ⟨R_X, "block", "()I"⟩
abbrev b_X_pass : ByteArray := prog_1_method_3_code
def y_X_pass : MethodName := ⟨R_X, "pass", "(III)I"⟩
abbrev b_X_weight : ByteArray := prog_1_method_4_code
def y_X_weight : MethodName := ⟨R_X, "weight", "(II)I"⟩
abbrev b_X_shift : ByteArray := prog_1_method_5_code
def y_X_shift : MethodName := ⟨R_X, "shift", "(II)I"⟩
abbrev b_X_size : ByteArray := prog_1_method_6_code
def y_X_size : MethodName := ⟨R_X, "size", "(II)I"⟩
abbrev b_X_head : ByteArray := prog_1_method_7_code
def y_X_head : MethodName := ⟨R_X, "head", "(II)I"⟩
abbrev b_X_run : ByteArray := prog_1_method_8_code
def y_X_run : MethodName := ⟨R_X, "run", "()I"⟩
abbrev b_X_hull : ByteArray := prog_1_method_9_code
def y_X_hull : MethodName := ⟨R_X, "hull", "(II)Z"⟩
abbrev b_X_slope : ByteArray := prog_1_method_10_code
def y_X_slope : MethodName := ⟨R_X, "slope", "(IIZ)J"⟩
abbrev b_X_row : ByteArray := prog_1_method_11_code
def y_X_row : MethodName := ⟨R_X, "row", "()I"⟩
abbrev b_X_at : ByteArray := prog_1_method_12_code
def y_X_at : MethodName := ⟨R_X, "at", "(II)I"⟩
abbrev b_X_passes : ByteArray := prog_1_method_13_code
def y_X_passes : MethodName := ⟨R_X, "passes", "(II)I"⟩
abbrev b_X_bytes : ByteArray := prog_1_method_14_code
def y_X_bytes : MethodName := ⟨R_X, "bytes", "(I)I"⟩
abbrev b_X_gained : ByteArray := prog_1_method_15_code
def y_X_gained : MethodName := ⟨R_X, "gained", "(I)J"⟩
abbrev b_X_least : ByteArray := prog_1_method_16_code
def y_X_least : MethodName := ⟨R_X, "least", "(I)I"⟩
abbrev b_X_above : ByteArray := prog_1_method_17_code
def y_X_above : MethodName := ⟨R_X, "above", "(JI)I"⟩
abbrev b_X_told : ByteArray := prog_1_method_18_code
def y_X_told : MethodName := ⟨R_X, "told", "(I)I"⟩
abbrev b_X_clear : ByteArray := prog_1_method_19_code
def y_X_clear : MethodName := ⟨R_X, "clear", "()V"⟩
abbrev b_X_needBlock : ByteArray := prog_1_method_20_code
def y_X_needBlock : MethodName := ⟨R_X, "needBlock", "(I)V"⟩
abbrev b_X_needLayer : ByteArray := prog_1_method_21_code
def y_X_needLayer : MethodName := ⟨R_X, "needLayer", "(I)V"⟩
abbrev b_X_needShared : ByteArray := prog_1_method_22_code
def y_X_needShared : MethodName := ⟨R_X, "needShared", "()V"⟩
abbrev b_X_needWithin : ByteArray := prog_1_method_23_code
def y_X_needWithin : MethodName := ⟨R_X, "needWithin", "(JJJ)V"⟩
abbrev b_X_tellLayer : ByteArray := prog_1_method_24_code
def y_X_tellLayer : MethodName := ⟨R_X, "tellLayer", "([III)I"⟩
abbrev b_X_startOf : ByteArray := prog_1_method_25_code
def y_X_startOf : MethodName := ⟨R_X, "startOf", "(I)I"⟩
abbrev b_X_pointOf : ByteArray := prog_1_method_26_code
def y_X_pointOf : MethodName := ⟨R_X, "pointOf", "(II)I"⟩
abbrev b_X_blockOf : ByteArray := prog_1_method_27_code
def y_X_blockOf : MethodName := ⟨R_X, "blockOf", "(I)I"⟩
abbrev b_X_passesUpTo : ByteArray := prog_1_method_28_code
def y_X_passesUpTo : MethodName := ⟨R_X, "passesUpTo", "(I)I"⟩
abbrev b_X_renewBlock : ByteArray := prog_1_method_29_code
def y_X_renewBlock : MethodName := ⟨R_X, "renewBlock", "(I)V"⟩
abbrev b_X_takeFromRow : ByteArray := prog_1_method_30_code
def y_X_takeFromRow : MethodName := ⟨R_X, "takeFromRow", "(I)V"⟩
abbrev b_X_makeHull : ByteArray := prog_1_method_31_code
def y_X_makeHull : MethodName := ⟨R_X, "makeHull", "(I)I"⟩
abbrev b_X_steepestFrom : ByteArray := prog_1_method_32_code
def y_X_steepestFrom : MethodName := ⟨R_X, "steepestFrom", "(II)I"⟩
abbrev b_X_mergeIntoRow : ByteArray := prog_1_method_33_code
def y_X_mergeIntoRow : MethodName := ⟨R_X, "mergeIntoRow", "(II)V"⟩
abbrev b_X_comesBefore : ByteArray := prog_1_method_34_code
def y_X_comesBefore : MethodName := ⟨R_X, "comesBefore", "(II)Z"⟩
abbrev b_X_compareSlopes : ByteArray := prog_1_method_35_code
def y_X_compareSlopes : MethodName := ⟨R_X, "compareSlopes", "(II)I"⟩
abbrev b_X_countSameSlope : ByteArray := prog_1_method_36_code
def y_X_countSameSlope : MethodName := ⟨R_X, "countSameSlope", "(I)I"⟩
abbrev b_X_fillLayer : ByteArray := prog_1_method_37_code
def y_X_fillLayer : MethodName := ⟨R_X, "fillLayer", "(II)I"⟩
abbrev b_X_layerOf : ByteArray := prog_1_method_38_code
def y_X_layerOf : MethodName := ⟨R_X, "layerOf", "(I)I"⟩
abbrev b_M_init : ByteArray := prog_3_method_1_code
def y_M_init : MethodName := ⟨R_M, "<init>", "(I)V"⟩
abbrev b_M_thrown : ByteArray := prog_3_method_2_code
def y_M_thrown : MethodName := ⟨R_M, "thrown", "()I"⟩
abbrev b_M_fails : ByteArray := prog_3_method_3_code
def y_M_fails : MethodName := ⟨R_M, "fails", "(ZI)Z"⟩
abbrev b_M_within : ByteArray := prog_3_method_4_code
def y_M_within : MethodName := ⟨R_M, "within", "(JJJ)Z"⟩
abbrev b_M_isBlock : ByteArray := prog_3_method_5_code
def y_M_isBlock : MethodName := ⟨R_M, "isBlock", "(I)Z"⟩
abbrev b_M_isPass : ByteArray := prog_3_method_6_code
def y_M_isPass : MethodName := ⟨R_M, "isPass", "(II)Z"⟩
abbrev b_M_isLayer : ByteArray := prog_3_method_7_code
def y_M_isLayer : MethodName := ⟨R_M, "isLayer", "(I)Z"⟩
abbrev b_M_spoil : ByteArray := prog_3_method_8_code
def y_M_spoil : MethodName := ⟨R_M, "spoil", "()V"⟩
abbrev b_M_block : ByteArray := prog_3_method_9_code
def y_M_block : MethodName := ⟨R_M, "block", "()I"⟩
abbrev b_M_pass : ByteArray := prog_3_method_10_code
def y_M_pass : MethodName := ⟨R_M, "pass", "(III)I"⟩
abbrev b_M_weight : ByteArray := prog_3_method_11_code
def y_M_weight : MethodName := ⟨R_M, "weight", "(II)I"⟩
abbrev b_M_shift : ByteArray := prog_3_method_12_code
def y_M_shift : MethodName := ⟨R_M, "shift", "(II)I"⟩
abbrev b_M_size : ByteArray := prog_3_method_13_code
def y_M_size : MethodName := ⟨R_M, "size", "(II)I"⟩
abbrev b_M_head : ByteArray := prog_3_method_14_code
def y_M_head : MethodName := ⟨R_M, "head", "(II)I"⟩
abbrev b_M_g : ByteArray := prog_3_method_15_code
def y_M_g : MethodName := ⟨R_M, "g", "(II)J"⟩
abbrev b_M_l : ByteArray := prog_3_method_16_code
def y_M_l : MethodName := ⟨R_M, "l", "(II)I"⟩
abbrev b_M_isHull : ByteArray := prog_3_method_17_code
def y_M_isHull : MethodName := ⟨R_M, "isHull", "(II)Z"⟩
abbrev b_M_isBefore : ByteArray := prog_3_method_18_code
def y_M_isBefore : MethodName := ⟨R_M, "isBefore", "(II)Z"⟩
abbrev b_M_layRow : ByteArray := prog_3_method_19_code
def y_M_layRow : MethodName := ⟨R_M, "layRow", "()V"⟩
abbrev b_M_run : ByteArray := prog_3_method_20_code
def y_M_run : MethodName := ⟨R_M, "run", "()I"⟩
abbrev b_M_hull : ByteArray := prog_3_method_21_code
def y_M_hull : MethodName := ⟨R_M, "hull", "(II)Z"⟩
abbrev b_M_slope : ByteArray := prog_3_method_22_code
def y_M_slope : MethodName := ⟨R_M, "slope", "(IIZ)J"⟩
abbrev b_M_row : ByteArray := prog_3_method_23_code
def y_M_row : MethodName := ⟨R_M, "row", "()I"⟩
abbrev b_M_alike : ByteArray := prog_3_method_24_code
def y_M_alike : MethodName := ⟨R_M, "alike", "(I)I"⟩
abbrev b_M_layerOf : ByteArray := prog_3_method_25_code
def y_M_layerOf : MethodName := ⟨R_M, "layerOf", "(I)I"⟩
abbrev b_M_at : ByteArray := prog_3_method_26_code
def y_M_at : MethodName := ⟨R_M, "at", "(II)I"⟩
abbrev b_M_last : ByteArray := prog_3_method_27_code
def y_M_last : MethodName := ⟨R_M, "last", "(II)I"⟩
abbrev b_M_passes : ByteArray := prog_3_method_28_code
def y_M_passes : MethodName := ⟨R_M, "passes", "(II)I"⟩
abbrev b_M_bytes : ByteArray := prog_3_method_29_code
def y_M_bytes : MethodName := ⟨R_M, "bytes", "(I)I"⟩
abbrev b_M_gained : ByteArray := prog_3_method_30_code
def y_M_gained : MethodName := ⟨R_M, "gained", "(I)J"⟩
abbrev b_M_least : ByteArray := prog_3_method_31_code
def y_M_least : MethodName := ⟨R_M, "least", "(I)I"⟩
abbrev b_M_above : ByteArray := prog_3_method_32_code
def y_M_above : MethodName := ⟨R_M, "above", "(JI)I"⟩
abbrev b_M_told : ByteArray := prog_3_method_33_code
def y_M_told : MethodName := ⟨R_M, "told", "(I)I"⟩
abbrev b_M_clear : ByteArray := prog_3_method_34_code
def y_M_clear : MethodName := ⟨R_M, "clear", "()V"⟩
abbrev b_L_cell : ByteArray := method_2_code
def y_L_cell : MethodName := ⟨R_L, "cell", "([II)I"⟩
abbrev b_L_block : ByteArray := method_3_code
def y_L_block : MethodName := ⟨R_L, "block", "(LRatePasses;[J)I"⟩
abbrev b_L_pass : ByteArray := method_4_code
def y_L_pass : MethodName := ⟨R_L, "pass", "(LRatePasses;III[J)I"⟩
abbrev b_L_weight : ByteArray := method_5_code
def y_L_weight : MethodName := ⟨R_L, "weight", "(LRatePasses;II[J)I"⟩
abbrev b_L_shift : ByteArray := method_6_code
def y_L_shift : MethodName := ⟨R_L, "shift", "(LRatePasses;II[J)I"⟩
abbrev b_L_size : ByteArray := method_7_code
def y_L_size : MethodName := ⟨R_L, "size", "(LRatePasses;II[J)I"⟩
abbrev b_L_head : ByteArray := method_8_code
def y_L_head : MethodName := ⟨R_L, "head", "(LRatePasses;II[J)I"⟩
abbrev b_L_hull : ByteArray := method_9_code
def y_L_hull : MethodName := ⟨R_L, "hull", "(LRatePasses;II[J)I"⟩
abbrev b_L_slope : ByteArray := method_10_code
def y_L_slope : MethodName := ⟨R_L, "slope", "(LRatePasses;IIZ[J)I"⟩
abbrev b_L_at : ByteArray := method_11_code
def y_L_at : MethodName := ⟨R_L, "at", "(LRatePasses;II[J)I"⟩
abbrev b_L_passes : ByteArray := method_12_code
def y_L_passes : MethodName := ⟨R_L, "passes", "(LRatePasses;II[J)I"⟩
abbrev b_L_bytes : ByteArray := method_13_code
def y_L_bytes : MethodName := ⟨R_L, "bytes", "(LRatePasses;I[J)I"⟩
abbrev b_L_gained : ByteArray := method_14_code
def y_L_gained : MethodName := ⟨R_L, "gained", "(LRatePasses;I[J)I"⟩
abbrev b_L_least : ByteArray := method_15_code
def y_L_least : MethodName := ⟨R_L, "least", "(LRatePasses;I[J)I"⟩
abbrev b_L_above : ByteArray := method_16_code
def y_L_above : MethodName := ⟨R_L, "above", "(LRatePasses;JI[J)I"⟩
abbrev b_L_law : ByteArray := code
def y_L_law : MethodName := ⟨R_L, "law", "([I)Z"⟩
abbrev b_JL_compare : ByteArray := prog_8_method_42_code
def y_JL_compare : MethodName := ⟨R_JL, "compare", "(JJ)I"⟩
/-- the words that every method is given: those of the tables that hold in every warmed state -/
def tb : List Cond := lw_tbl.filter goodWord
theorem tb_good : ∀ w ∈ tb, goodWord w = true := fun w h => (List.mem_filter.mp h).2
theorem tb_in : ∀ w ∈ tb, w ∈ lw_tbl := fun w h => (List.mem_filter.mp h).1
theorem i_X : ∀ w ∈ u_ws R_X F_X 17, w ∈ tb := fun w h => List.mem_filter.mpr ⟨(show ∀ w ∈ u_ws R_X F_X 17, w ∈ lw_tbl by decide +kernel) w h, (show ∀ w ∈ u_ws R_X F_X 17, goodWord w = true by decide +kernel) w h⟩
theorem i_M : ∀ w ∈ u_ws R_M F_M 17, w ∈ tb := fun w h => List.mem_filter.mpr ⟨(show ∀ w ∈ u_ws R_M F_M 17, w ∈ lw_tbl by decide +kernel) w h, (show ∀ w ∈ u_ws R_M F_M 17, goodWord w = true by decide +kernel) w h⟩
theorem k_0 : Cond.fieldLink R_X 60 "RatePasses" "blockCount" "I" ∈ tb := List.mem_filter.mpr ⟨List.mem_of_getElem? (i := 64) (by decide +kernel), rfl⟩
theorem k_1 : Cond.fieldLink R_X 9 "RatePasses" "weights" "[I" ∈ tb := List.mem_filter.mpr ⟨List.mem_of_getElem? (i := 61) (by decide +kernel), rfl⟩
theorem k_2 : Cond.fieldLink R_X 13 "RatePasses" "shifts" "[I" ∈ tb := List.mem_filter.mpr ⟨List.mem_of_getElem? (i := 62) (by decide +kernel), rfl⟩
theorem k_3 : Cond.fieldLink R_X 16 "RatePasses" "counts" "[I" ∈ tb := List.mem_filter.mpr ⟨List.mem_of_getElem? (i := 63) (by decide +kernel), rfl⟩
theorem k_4 : Cond.fieldLink R_X 70 "RatePasses" "shared" "Z" ∈ tb := List.mem_filter.mpr ⟨List.mem_of_getElem? (i := 60) (by decide +kernel), rfl⟩
theorem k_5 : Cond.classLink R_X 63 "java/lang/UnsupportedOperationException" ∈ tb := List.mem_filter.mpr ⟨List.mem_of_getElem? (i := 140) (by decide +kernel), rfl⟩
theorem k_6 : Cond.initialized "java/lang/UnsupportedOperationException" ∈ tb := List.mem_filter.mpr ⟨List.mem_of_getElem? (i := 36) (by decide +kernel), rfl⟩
theorem k_7 : Cond.classLink R_X 117 "java/lang/IndexOutOfBoundsException" ∈ tb := List.mem_filter.mpr ⟨List.mem_of_getElem? (i := 222) (by decide +kernel), rfl⟩
theorem k_8 : Cond.initialized "java/lang/IndexOutOfBoundsException" ∈ tb := List.mem_filter.mpr ⟨List.mem_of_getElem? (i := 37) (by decide +kernel), rfl⟩
theorem k_9 : Cond.methodLink R_X 74 y_X_needBlock ∈ tb := List.mem_filter.mpr ⟨List.mem_of_getElem? (i := 218) (by decide +kernel), rfl⟩
theorem k_10 : Cond.instanceMethod y_X_needBlock ∈ tb := List.mem_filter.mpr ⟨List.mem_of_getElem? (i := 220) (by decide +kernel), rfl⟩
theorem k_11 : Cond.selects R_X y_X_needBlock y_X_needBlock ∈ tb := List.mem_filter.mpr ⟨List.mem_of_getElem? (i := 2) (by decide +kernel), rfl⟩
theorem k_12 : Cond.initialized R_X ∈ tb := List.mem_filter.mpr ⟨List.mem_of_getElem? (i := 30) (by decide +kernel), rfl⟩
set_option maxRecDepth 100000 in
theorem k_13 : Cond.code y_X_needBlock b_X_needBlock 2 none ∈ tb := List.mem_filter.mpr ⟨List.mem_of_getElem? (i := 221) rfl, rfl⟩
theorem k_14 : Cond.constantLong R_X 78 10000 ∈ tb := List.mem_filter.mpr ⟨List.mem_of_getElem? (i := 238) (by decide +kernel), rfl⟩
theorem k_15 : Cond.classLink R_X 137 "java/lang/IllegalArgumentException" ∈ tb := List.mem_filter.mpr ⟨List.mem_of_getElem? (i := 242) (by decide +kernel), rfl⟩
theorem k_16 : Cond.initialized "java/lang/IllegalArgumentException" ∈ tb := List.mem_filter.mpr ⟨List.mem_of_getElem? (i := 38) (by decide +kernel), rfl⟩
theorem k_17 : Cond.methodLink R_X 80 y_X_needWithin ∈ tb := List.mem_filter.mpr ⟨List.mem_of_getElem? (i := 239) (by decide +kernel), rfl⟩
theorem k_18 : Cond.static y_X_needWithin ∈ tb := List.mem_filter.mpr ⟨List.mem_of_getElem? (i := 240) (by decide +kernel), rfl⟩
set_option maxRecDepth 100000 in
theorem k_19 : Cond.code y_X_needWithin b_X_needWithin 6 none ∈ tb := List.mem_filter.mpr ⟨List.mem_of_getElem? (i := 241) rfl, rfl⟩
theorem k_20 : Cond.constantLong R_X 84 (-1000000) ∈ tb := List.mem_filter.mpr ⟨List.mem_of_getElem? (i := 258) (by decide +kernel), rfl⟩
theorem k_21 : Cond.constantLong R_X 86 1000000 ∈ tb := List.mem_filter.mpr ⟨List.mem_of_getElem? (i := 259) (by decide +kernel), rfl⟩
theorem k_22 : Cond.methodLink R_X 90 y_X_startOf ∈ tb := List.mem_filter.mpr ⟨List.mem_of_getElem? (i := 261) (by decide +kernel), rfl⟩
theorem k_23 : Cond.static y_X_startOf ∈ tb := List.mem_filter.mpr ⟨List.mem_of_getElem? (i := 262) (by decide +kernel), rfl⟩
set_option maxRecDepth 100000 in
theorem k_24 : Cond.code y_X_startOf b_X_startOf 1 (some .int) ∈ tb := List.mem_filter.mpr ⟨List.mem_of_getElem? (i := 263) rfl, rfl⟩
theorem k_25 : Cond.fieldLink R_X 19 "RatePasses" "lengthSums" "[I" ∈ tb := List.mem_filter.mpr ⟨List.mem_of_getElem? (i := 66) (by decide +kernel), rfl⟩
theorem k_26 : Cond.fieldLink R_X 22 "RatePasses" "gainSums" "[I" ∈ tb := List.mem_filter.mpr ⟨List.mem_of_getElem? (i := 67) (by decide +kernel), rfl⟩
theorem k_27 : Cond.fieldLink R_X 94 "RatePasses" "passCount" "I" ∈ tb := List.mem_filter.mpr ⟨List.mem_of_getElem? (i := 65) (by decide +kernel), rfl⟩
theorem k_28 : Cond.fieldLink R_X 114 "RatePasses" "orderLength" "I" ∈ tb := List.mem_filter.mpr ⟨List.mem_of_getElem? (i := 71) (by decide +kernel), rfl⟩
theorem k_29 : Cond.fieldLink R_X 32 "RatePasses" "order" "[I" ∈ tb := List.mem_filter.mpr ⟨List.mem_of_getElem? (i := 70) (by decide +kernel), rfl⟩
theorem k_30 : Cond.methodLink R_X 122 y_X_blockOf ∈ tb := List.mem_filter.mpr ⟨List.mem_of_getElem? (i := 272) (by decide +kernel), rfl⟩
theorem k_31 : Cond.static y_X_blockOf ∈ tb := List.mem_filter.mpr ⟨List.mem_of_getElem? (i := 273) (by decide +kernel), rfl⟩
set_option maxRecDepth 100000 in
theorem k_32 : Cond.code y_X_blockOf b_X_blockOf 1 (some .int) ∈ tb := List.mem_filter.mpr ⟨List.mem_of_getElem? (i := 274) rfl, rfl⟩
theorem k_33 : Cond.methodLink R_X 164 y_X_takeFromRow ∈ tb := List.mem_filter.mpr ⟨List.mem_of_getElem? (i := 268) (by decide +kernel), rfl⟩
theorem k_34 : Cond.instanceMethod y_X_takeFromRow ∈ tb := List.mem_filter.mpr ⟨List.mem_of_getElem? (i := 270) (by decide +kernel), rfl⟩
theorem k_35 : Cond.selects R_X y_X_takeFromRow y_X_takeFromRow ∈ tb := List.mem_filter.mpr ⟨List.mem_of_getElem? (i := 4) (by decide +kernel), rfl⟩
set_option maxRecDepth 100000 in
theorem k_36 : Cond.code y_X_takeFromRow b_X_takeFromRow 4 none ∈ tb := List.mem_filter.mpr ⟨List.mem_of_getElem? (i := 271) rfl, rfl⟩
theorem k_37 : Cond.methodLink R_X 174 y_X_steepestFrom ∈ tb := List.mem_filter.mpr ⟨List.mem_of_getElem? (i := 279) (by decide +kernel), rfl⟩
theorem k_38 : Cond.instanceMethod y_X_steepestFrom ∈ tb := List.mem_filter.mpr ⟨List.mem_of_getElem? (i := 281) (by decide +kernel), rfl⟩
theorem k_39 : Cond.selects R_X y_X_steepestFrom y_X_steepestFrom ∈ tb := List.mem_filter.mpr ⟨List.mem_of_getElem? (i := 6) (by decide +kernel), rfl⟩
set_option maxRecDepth 100000 in
theorem k_40 : Cond.code y_X_steepestFrom b_X_steepestFrom 13 (some .int) ∈ tb := List.mem_filter.mpr ⟨List.mem_of_getElem? (i := 282) rfl, rfl⟩
theorem k_41 : Cond.fieldLink R_X 29 "RatePasses" "costs" "[I" ∈ tb := List.mem_filter.mpr ⟨List.mem_of_getElem? (i := 69) (by decide +kernel), rfl⟩
theorem k_42 : Cond.fieldLink R_X 25 "RatePasses" "rises" "[J" ∈ tb := List.mem_filter.mpr ⟨List.mem_of_getElem? (i := 68) (by decide +kernel), rfl⟩
theorem k_43 : Cond.methodLink R_X 167 y_X_makeHull ∈ tb := List.mem_filter.mpr ⟨List.mem_of_getElem? (i := 275) (by decide +kernel), rfl⟩
theorem k_44 : Cond.instanceMethod y_X_makeHull ∈ tb := List.mem_filter.mpr ⟨List.mem_of_getElem? (i := 277) (by decide +kernel), rfl⟩
theorem k_45 : Cond.selects R_X y_X_makeHull y_X_makeHull ∈ tb := List.mem_filter.mpr ⟨List.mem_of_getElem? (i := 5) (by decide +kernel), rfl⟩
set_option maxRecDepth 100000 in
theorem k_46 : Cond.code y_X_makeHull b_X_makeHull 9 (some .int) ∈ tb := List.mem_filter.mpr ⟨List.mem_of_getElem? (i := 278) rfl, rfl⟩
theorem k_47 : Cond.methodLink R_X 184 y_JL_compare ∈ tb := List.mem_filter.mpr ⟨List.mem_of_getElem? (i := 295) (by decide +kernel), rfl⟩
theorem k_48 : Cond.static y_JL_compare ∈ tb := List.mem_filter.mpr ⟨List.mem_of_getElem? (i := 296) (by decide +kernel), rfl⟩
theorem k_49 : Cond.initialized R_JL ∈ tb := List.mem_filter.mpr ⟨List.mem_of_getElem? (i := 39) (by decide +kernel), rfl⟩
set_option maxRecDepth 100000 in
theorem k_50 : Cond.code y_JL_compare b_JL_compare 4 (some .int) ∈ tb := List.mem_filter.mpr ⟨List.mem_of_getElem? (i := 297) rfl, rfl⟩
theorem k_51 : Cond.methodLink R_X 181 y_X_compareSlopes ∈ tb := List.mem_filter.mpr ⟨List.mem_of_getElem? (i := 291) (by decide +kernel), rfl⟩
theorem k_52 : Cond.instanceMethod y_X_compareSlopes ∈ tb := List.mem_filter.mpr ⟨List.mem_of_getElem? (i := 293) (by decide +kernel), rfl⟩
theorem k_53 : Cond.selects R_X y_X_compareSlopes y_X_compareSlopes ∈ tb := List.mem_filter.mpr ⟨List.mem_of_getElem? (i := 9) (by decide +kernel), rfl⟩
set_option maxRecDepth 100000 in
theorem k_54 : Cond.code y_X_compareSlopes b_X_compareSlopes 3 (some .int) ∈ tb := List.mem_filter.mpr ⟨List.mem_of_getElem? (i := 294) rfl, rfl⟩
theorem k_55 : Cond.methodLink R_X 177 y_X_comesBefore ∈ tb := List.mem_filter.mpr ⟨List.mem_of_getElem? (i := 287) (by decide +kernel), rfl⟩
theorem k_56 : Cond.instanceMethod y_X_comesBefore ∈ tb := List.mem_filter.mpr ⟨List.mem_of_getElem? (i := 289) (by decide +kernel), rfl⟩
theorem k_57 : Cond.selects R_X y_X_comesBefore y_X_comesBefore ∈ tb := List.mem_filter.mpr ⟨List.mem_of_getElem? (i := 8) (by decide +kernel), rfl⟩
set_option maxRecDepth 100000 in
theorem k_58 : Cond.code y_X_comesBefore b_X_comesBefore 4 (some .boolean) ∈ tb := List.mem_filter.mpr ⟨List.mem_of_getElem? (i := 290) rfl, rfl⟩
theorem k_59 : Cond.methodLink R_X 170 y_X_mergeIntoRow ∈ tb := List.mem_filter.mpr ⟨List.mem_of_getElem? (i := 283) (by decide +kernel), rfl⟩
theorem k_60 : Cond.instanceMethod y_X_mergeIntoRow ∈ tb := List.mem_filter.mpr ⟨List.mem_of_getElem? (i := 285) (by decide +kernel), rfl⟩
theorem k_61 : Cond.selects R_X y_X_mergeIntoRow y_X_mergeIntoRow ∈ tb := List.mem_filter.mpr ⟨List.mem_of_getElem? (i := 7) (by decide +kernel), rfl⟩
set_option maxRecDepth 100000 in
theorem k_62 : Cond.code y_X_mergeIntoRow b_X_mergeIntoRow 7 none ∈ tb := List.mem_filter.mpr ⟨List.mem_of_getElem? (i := 286) rfl, rfl⟩
theorem k_63 : Cond.methodLink R_X 97 y_X_renewBlock ∈ tb := List.mem_filter.mpr ⟨List.mem_of_getElem? (i := 264) (by decide +kernel), rfl⟩
theorem k_64 : Cond.instanceMethod y_X_renewBlock ∈ tb := List.mem_filter.mpr ⟨List.mem_of_getElem? (i := 266) (by decide +kernel), rfl⟩
theorem k_65 : Cond.selects R_X y_X_renewBlock y_X_renewBlock ∈ tb := List.mem_filter.mpr ⟨List.mem_of_getElem? (i := 3) (by decide +kernel), rfl⟩
set_option maxRecDepth 100000 in
theorem k_66 : Cond.code y_X_renewBlock b_X_renewBlock 3 none ∈ tb := List.mem_filter.mpr ⟨List.mem_of_getElem? (i := 267) rfl, rfl⟩
theorem k_67 : Cond.constantLong R_X 100 100 ∈ tb := List.mem_filter.mpr ⟨List.mem_of_getElem? (i := 305) (by decide +kernel), rfl⟩
theorem k_68 : Cond.constantLong R_X 102 3 ∈ tb := List.mem_filter.mpr ⟨List.mem_of_getElem? (i := 313) (by decide +kernel), rfl⟩
theorem k_69 : Cond.fieldLink R_X 48 "RatePasses" "sizes" "[I" ∈ tb := List.mem_filter.mpr ⟨List.mem_of_getElem? (i := 56) (by decide +kernel), rfl⟩
theorem k_70 : Cond.fieldLink R_X 44 "RatePasses" "layers" "I" ∈ tb := List.mem_filter.mpr ⟨List.mem_of_getElem? (i := 55) (by decide +kernel), rfl⟩
theorem k_71 : Cond.methodLink R_X 142 y_X_needLayer ∈ tb := List.mem_filter.mpr ⟨List.mem_of_getElem? (i := 325) (by decide +kernel), rfl⟩
theorem k_72 : Cond.instanceMethod y_X_needLayer ∈ tb := List.mem_filter.mpr ⟨List.mem_of_getElem? (i := 327) (by decide +kernel), rfl⟩
theorem k_73 : Cond.selects R_X y_X_needLayer y_X_needLayer ∈ tb := List.mem_filter.mpr ⟨List.mem_of_getElem? (i := 11) (by decide +kernel), rfl⟩
set_option maxRecDepth 100000 in
theorem k_74 : Cond.code y_X_needLayer b_X_needLayer 2 none ∈ tb := List.mem_filter.mpr ⟨List.mem_of_getElem? (i := 328) rfl, rfl⟩
theorem k_75 : Cond.constantLong R_X 160 10000000 ∈ tb := List.mem_filter.mpr ⟨List.mem_of_getElem? (i := 330) (by decide +kernel), rfl⟩
theorem k_76 : Cond.methodLink R_X 104 y_X_tellLayer ∈ tb := List.mem_filter.mpr ⟨List.mem_of_getElem? (i := 321) (by decide +kernel), rfl⟩
theorem k_77 : Cond.instanceMethod y_X_tellLayer ∈ tb := List.mem_filter.mpr ⟨List.mem_of_getElem? (i := 323) (by decide +kernel), rfl⟩
theorem k_78 : Cond.selects R_X y_X_tellLayer y_X_tellLayer ∈ tb := List.mem_filter.mpr ⟨List.mem_of_getElem? (i := 10) (by decide +kernel), rfl⟩
set_option maxRecDepth 100000 in
theorem k_79 : Cond.code y_X_tellLayer b_X_tellLayer 5 (some .int) ∈ tb := List.mem_filter.mpr ⟨List.mem_of_getElem? (i := 324) rfl, rfl⟩
theorem k_80 : Cond.fieldLink R_X 51 "RatePasses" "heads" "[I" ∈ tb := List.mem_filter.mpr ⟨List.mem_of_getElem? (i := 57) (by decide +kernel), rfl⟩
theorem k_81 : Cond.fieldLink R_X 54 "RatePasses" "held" "[I" ∈ tb := List.mem_filter.mpr ⟨List.mem_of_getElem? (i := 58) (by decide +kernel), rfl⟩
theorem k_82 : Cond.fieldLink R_X 57 "RatePasses" "ends" "[I" ∈ tb := List.mem_filter.mpr ⟨List.mem_of_getElem? (i := 59) (by decide +kernel), rfl⟩
theorem k_83 : Cond.methodLink R_X 108 y_X_fillLayer ∈ tb := List.mem_filter.mpr ⟨List.mem_of_getElem? (i := 113) (by decide +kernel), rfl⟩
theorem k_84 : Cond.instanceMethod y_X_fillLayer ∈ tb := List.mem_filter.mpr ⟨List.mem_of_getElem? (i := 115) (by decide +kernel), rfl⟩
theorem k_85 : Cond.selects R_X y_X_fillLayer y_X_fillLayer ∈ tb := List.mem_filter.mpr ⟨List.mem_of_getElem? (i := 0) (by decide +kernel), rfl⟩
set_option maxRecDepth 100000 in
theorem k_86 : Cond.code y_X_fillLayer b_X_fillLayer 5 (some .int) ∈ tb := List.mem_filter.mpr ⟨List.mem_of_getElem? (i := 116) rfl, rfl⟩
theorem k_87 : Cond.methodLink R_X 111 y_X_pointOf ∈ tb := List.mem_filter.mpr ⟨List.mem_of_getElem? (i := 345) (by decide +kernel), rfl⟩
theorem k_88 : Cond.instanceMethod y_X_pointOf ∈ tb := List.mem_filter.mpr ⟨List.mem_of_getElem? (i := 347) (by decide +kernel), rfl⟩
theorem k_89 : Cond.selects R_X y_X_pointOf y_X_pointOf ∈ tb := List.mem_filter.mpr ⟨List.mem_of_getElem? (i := 12) (by decide +kernel), rfl⟩
set_option maxRecDepth 100000 in
theorem k_90 : Cond.code y_X_pointOf b_X_pointOf 3 (some .int) ∈ tb := List.mem_filter.mpr ⟨List.mem_of_getElem? (i := 348) rfl, rfl⟩
theorem k_91 : Cond.methodLink R_X 125 y_X_passesUpTo ∈ tb := List.mem_filter.mpr ⟨List.mem_of_getElem? (i := 366) (by decide +kernel), rfl⟩
theorem k_92 : Cond.static y_X_passesUpTo ∈ tb := List.mem_filter.mpr ⟨List.mem_of_getElem? (i := 367) (by decide +kernel), rfl⟩
set_option maxRecDepth 100000 in
theorem k_93 : Cond.code y_X_passesUpTo b_X_passesUpTo 1 (some .int) ∈ tb := List.mem_filter.mpr ⟨List.mem_of_getElem? (i := 368) rfl, rfl⟩
theorem k_94 : Cond.methodLink R_X 128 y_X_countSameSlope ∈ tb := List.mem_filter.mpr ⟨List.mem_of_getElem? (i := 369) (by decide +kernel), rfl⟩
theorem k_95 : Cond.instanceMethod y_X_countSameSlope ∈ tb := List.mem_filter.mpr ⟨List.mem_of_getElem? (i := 371) (by decide +kernel), rfl⟩
theorem k_96 : Cond.selects R_X y_X_countSameSlope y_X_countSameSlope ∈ tb := List.mem_filter.mpr ⟨List.mem_of_getElem? (i := 13) (by decide +kernel), rfl⟩
set_option maxRecDepth 100000 in
theorem k_97 : Cond.code y_X_countSameSlope b_X_countSameSlope 4 (some .int) ∈ tb := List.mem_filter.mpr ⟨List.mem_of_getElem? (i := 372) rfl, rfl⟩
theorem k_98 : Cond.classLink R_X 153 "java/lang/IllegalStateException" ∈ tb := List.mem_filter.mpr ⟨List.mem_of_getElem? (i := 377) (by decide +kernel), rfl⟩
theorem k_99 : Cond.initialized "java/lang/IllegalStateException" ∈ tb := List.mem_filter.mpr ⟨List.mem_of_getElem? (i := 40) (by decide +kernel), rfl⟩
theorem k_100 : Cond.methodLink R_X 131 y_X_needShared ∈ tb := List.mem_filter.mpr ⟨List.mem_of_getElem? (i := 373) (by decide +kernel), rfl⟩
theorem k_101 : Cond.instanceMethod y_X_needShared ∈ tb := List.mem_filter.mpr ⟨List.mem_of_getElem? (i := 375) (by decide +kernel), rfl⟩
theorem k_102 : Cond.selects R_X y_X_needShared y_X_needShared ∈ tb := List.mem_filter.mpr ⟨List.mem_of_getElem? (i := 14) (by decide +kernel), rfl⟩
set_option maxRecDepth 100000 in
theorem k_103 : Cond.code y_X_needShared b_X_needShared 1 none ∈ tb := List.mem_filter.mpr ⟨List.mem_of_getElem? (i := 376) rfl, rfl⟩
theorem k_104 : Cond.methodLink R_X 134 y_X_layerOf ∈ tb := List.mem_filter.mpr ⟨List.mem_of_getElem? (i := 393) (by decide +kernel), rfl⟩
theorem k_105 : Cond.instanceMethod y_X_layerOf ∈ tb := List.mem_filter.mpr ⟨List.mem_of_getElem? (i := 395) (by decide +kernel), rfl⟩
theorem k_106 : Cond.selects R_X y_X_layerOf y_X_layerOf ∈ tb := List.mem_filter.mpr ⟨List.mem_of_getElem? (i := 15) (by decide +kernel), rfl⟩
set_option maxRecDepth 100000 in
theorem k_107 : Cond.code y_X_layerOf b_X_layerOf 3 (some .int) ∈ tb := List.mem_filter.mpr ⟨List.mem_of_getElem? (i := 396) rfl, rfl⟩
theorem k_108 : Cond.constantLong R_X 145 (-1000000000000) ∈ tb := List.mem_filter.mpr ⟨List.mem_of_getElem? (i := 433) (by decide +kernel), rfl⟩
theorem k_109 : Cond.constantLong R_X 147 1000000000000 ∈ tb := List.mem_filter.mpr ⟨List.mem_of_getElem? (i := 434) (by decide +kernel), rfl⟩
theorem k_110 : Cond.fieldLink R_M 48 "RatePassesModel" "thrown" "I" ∈ tb := List.mem_filter.mpr ⟨List.mem_of_getElem? (i := 441) (by decide +kernel), rfl⟩
theorem k_111 : Cond.fieldLink R_M 51 "RatePassesModel" "blocks" "I" ∈ tb := List.mem_filter.mpr ⟨List.mem_of_getElem? (i := 443) (by decide +kernel), rfl⟩
theorem k_112 : Cond.methodLink R_M 54 y_M_isBlock ∈ tb := List.mem_filter.mpr ⟨List.mem_of_getElem? (i := 513) (by decide +kernel), rfl⟩
theorem k_113 : Cond.instanceMethod y_M_isBlock ∈ tb := List.mem_filter.mpr ⟨List.mem_of_getElem? (i := 515) (by decide +kernel), rfl⟩
theorem k_114 : Cond.selects R_M y_M_isBlock y_M_isBlock ∈ tb := List.mem_filter.mpr ⟨List.mem_of_getElem? (i := 18) (by decide +kernel), rfl⟩
theorem k_115 : Cond.initialized R_M ∈ tb := List.mem_filter.mpr ⟨List.mem_of_getElem? (i := 32) (by decide +kernel), rfl⟩
set_option maxRecDepth 100000 in
theorem k_116 : Cond.code y_M_isBlock b_M_isBlock 2 (some .boolean) ∈ tb := List.mem_filter.mpr ⟨List.mem_of_getElem? (i := 516) rfl, rfl⟩
theorem k_117 : Cond.fieldLink R_M 7 "RatePassesModel" "many" "[I" ∈ tb := List.mem_filter.mpr ⟨List.mem_of_getElem? (i := 444) (by decide +kernel), rfl⟩
theorem k_118 : Cond.fieldLink R_M 44 "RatePassesModel" "layers" "I" ∈ tb := List.mem_filter.mpr ⟨List.mem_of_getElem? (i := 442) (by decide +kernel), rfl⟩
theorem k_119 : Cond.fieldLink R_M 58 "RatePassesModel" "laid" "Z" ∈ tb := List.mem_filter.mpr ⟨List.mem_of_getElem? (i := 451) (by decide +kernel), rfl⟩
theorem k_120 : Cond.fieldLink R_M 62 "RatePassesModel" "shared" "Z" ∈ tb := List.mem_filter.mpr ⟨List.mem_of_getElem? (i := 456) (by decide +kernel), rfl⟩
theorem k_121 : Cond.methodLink R_M 65 y_M_fails ∈ tb := List.mem_filter.mpr ⟨List.mem_of_getElem? (i := 501) (by decide +kernel), rfl⟩
theorem k_122 : Cond.instanceMethod y_M_fails ∈ tb := List.mem_filter.mpr ⟨List.mem_of_getElem? (i := 503) (by decide +kernel), rfl⟩
theorem k_123 : Cond.selects R_M y_M_fails y_M_fails ∈ tb := List.mem_filter.mpr ⟨List.mem_of_getElem? (i := 16) (by decide +kernel), rfl⟩
set_option maxRecDepth 100000 in
theorem k_124 : Cond.code y_M_fails b_M_fails 3 (some .boolean) ∈ tb := List.mem_filter.mpr ⟨List.mem_of_getElem? (i := 504) rfl, rfl⟩
theorem k_125 : Cond.fieldLink R_M 13 "RatePassesModel" "weights" "[I" ∈ tb := List.mem_filter.mpr ⟨List.mem_of_getElem? (i := 445) (by decide +kernel), rfl⟩
theorem k_126 : Cond.fieldLink R_M 16 "RatePassesModel" "shifts" "[I" ∈ tb := List.mem_filter.mpr ⟨List.mem_of_getElem? (i := 446) (by decide +kernel), rfl⟩
theorem k_127 : Cond.methodLink R_M 69 y_M_spoil ∈ tb := List.mem_filter.mpr ⟨List.mem_of_getElem? (i := 505) (by decide +kernel), rfl⟩
theorem k_128 : Cond.instanceMethod y_M_spoil ∈ tb := List.mem_filter.mpr ⟨List.mem_of_getElem? (i := 507) (by decide +kernel), rfl⟩
theorem k_129 : Cond.selects R_M y_M_spoil y_M_spoil ∈ tb := List.mem_filter.mpr ⟨List.mem_of_getElem? (i := 17) (by decide +kernel), rfl⟩
set_option maxRecDepth 100000 in
theorem k_130 : Cond.code y_M_spoil b_M_spoil 1 none ∈ tb := List.mem_filter.mpr ⟨List.mem_of_getElem? (i := 508) rfl, rfl⟩
theorem k_131 : Cond.constantLong R_M 72 10000 ∈ tb := List.mem_filter.mpr ⟨List.mem_of_getElem? (i := 517) (by decide +kernel), rfl⟩
theorem k_132 : Cond.methodLink R_M 74 y_M_within ∈ tb := List.mem_filter.mpr ⟨List.mem_of_getElem? (i := 518) (by decide +kernel), rfl⟩
theorem k_133 : Cond.static y_M_within ∈ tb := List.mem_filter.mpr ⟨List.mem_of_getElem? (i := 519) (by decide +kernel), rfl⟩
set_option maxRecDepth 100000 in
theorem k_134 : Cond.code y_M_within b_M_within 6 (some .boolean) ∈ tb := List.mem_filter.mpr ⟨List.mem_of_getElem? (i := 520) rfl, rfl⟩
theorem k_135 : Cond.fieldLink R_M 19 "RatePassesModel" "lengths" "[I" ∈ tb := List.mem_filter.mpr ⟨List.mem_of_getElem? (i := 447) (by decide +kernel), rfl⟩
theorem k_136 : Cond.fieldLink R_M 22 "RatePassesModel" "gains" "[J" ∈ tb := List.mem_filter.mpr ⟨List.mem_of_getElem? (i := 448) (by decide +kernel), rfl⟩
theorem k_137 : Cond.constantLong R_M 78 (-1000000) ∈ tb := List.mem_filter.mpr ⟨List.mem_of_getElem? (i := 521) (by decide +kernel), rfl⟩
theorem k_138 : Cond.constantLong R_M 80 1000000 ∈ tb := List.mem_filter.mpr ⟨List.mem_of_getElem? (i := 522) (by decide +kernel), rfl⟩
theorem k_139 : Cond.constantLong R_M 82 100 ∈ tb := List.mem_filter.mpr ⟨List.mem_of_getElem? (i := 527) (by decide +kernel), rfl⟩
theorem k_140 : Cond.constantLong R_M 84 3 ∈ tb := List.mem_filter.mpr ⟨List.mem_of_getElem? (i := 532) (by decide +kernel), rfl⟩
theorem k_141 : Cond.methodLink R_M 86 y_M_isLayer ∈ tb := List.mem_filter.mpr ⟨List.mem_of_getElem? (i := 537) (by decide +kernel), rfl⟩
theorem k_142 : Cond.instanceMethod y_M_isLayer ∈ tb := List.mem_filter.mpr ⟨List.mem_of_getElem? (i := 539) (by decide +kernel), rfl⟩
theorem k_143 : Cond.selects R_M y_M_isLayer y_M_isLayer ∈ tb := List.mem_filter.mpr ⟨List.mem_of_getElem? (i := 19) (by decide +kernel), rfl⟩
set_option maxRecDepth 100000 in
theorem k_144 : Cond.code y_M_isLayer b_M_isLayer 2 (some .boolean) ∈ tb := List.mem_filter.mpr ⟨List.mem_of_getElem? (i := 540) rfl, rfl⟩
theorem k_145 : Cond.constantLong R_M 89 10000000 ∈ tb := List.mem_filter.mpr ⟨List.mem_of_getElem? (i := 541) (by decide +kernel), rfl⟩
theorem k_146 : Cond.fieldLink R_M 26 "RatePassesModel" "sizes" "[I" ∈ tb := List.mem_filter.mpr ⟨List.mem_of_getElem? (i := 449) (by decide +kernel), rfl⟩
theorem k_147 : Cond.fieldLink R_M 29 "RatePassesModel" "heads" "[I" ∈ tb := List.mem_filter.mpr ⟨List.mem_of_getElem? (i := 450) (by decide +kernel), rfl⟩
theorem k_148 : Cond.constantLong R_M 91 4 ∈ tb := List.mem_filter.mpr ⟨List.mem_of_getElem? (i := 562) (by decide +kernel), rfl⟩
theorem k_149 : Cond.methodLink R_M 93 y_M_g ∈ tb := List.mem_filter.mpr ⟨List.mem_of_getElem? (i := 558) (by decide +kernel), rfl⟩
theorem k_150 : Cond.instanceMethod y_M_g ∈ tb := List.mem_filter.mpr ⟨List.mem_of_getElem? (i := 560) (by decide +kernel), rfl⟩
theorem k_151 : Cond.selects R_M y_M_g y_M_g ∈ tb := List.mem_filter.mpr ⟨List.mem_of_getElem? (i := 22) (by decide +kernel), rfl⟩
set_option maxRecDepth 100000 in
theorem k_152 : Cond.code y_M_g b_M_g 6 (some .long) ∈ tb := List.mem_filter.mpr ⟨List.mem_of_getElem? (i := 561) rfl, rfl⟩
theorem k_153 : Cond.methodLink R_M 97 y_M_l ∈ tb := List.mem_filter.mpr ⟨List.mem_of_getElem? (i := 563) (by decide +kernel), rfl⟩
theorem k_154 : Cond.instanceMethod y_M_l ∈ tb := List.mem_filter.mpr ⟨List.mem_of_getElem? (i := 565) (by decide +kernel), rfl⟩
theorem k_155 : Cond.selects R_M y_M_l y_M_l ∈ tb := List.mem_filter.mpr ⟨List.mem_of_getElem? (i := 23) (by decide +kernel), rfl⟩
set_option maxRecDepth 100000 in
theorem k_156 : Cond.code y_M_l b_M_l 3 (some .int) ∈ tb := List.mem_filter.mpr ⟨List.mem_of_getElem? (i := 566) rfl, rfl⟩
theorem k_157 : Cond.fieldLink R_M 35 "RatePassesModel" "rises" "[J" ∈ tb := List.mem_filter.mpr ⟨List.mem_of_getElem? (i := 453) (by decide +kernel), rfl⟩
theorem k_158 : Cond.fieldLink R_M 32 "RatePassesModel" "costs" "[I" ∈ tb := List.mem_filter.mpr ⟨List.mem_of_getElem? (i := 452) (by decide +kernel), rfl⟩
theorem k_159 : Cond.fieldLink R_M 101 "RatePassesModel" "length" "I" ∈ tb := List.mem_filter.mpr ⟨List.mem_of_getElem? (i := 454) (by decide +kernel), rfl⟩
theorem k_160 : Cond.methodLink R_M 104 y_M_isHull ∈ tb := List.mem_filter.mpr ⟨List.mem_of_getElem? (i := 554) (by decide +kernel), rfl⟩
theorem k_161 : Cond.instanceMethod y_M_isHull ∈ tb := List.mem_filter.mpr ⟨List.mem_of_getElem? (i := 556) (by decide +kernel), rfl⟩
theorem k_162 : Cond.selects R_M y_M_isHull y_M_isHull ∈ tb := List.mem_filter.mpr ⟨List.mem_of_getElem? (i := 21) (by decide +kernel), rfl⟩
set_option maxRecDepth 100000 in
theorem k_163 : Cond.code y_M_isHull b_M_isHull 12 (some .boolean) ∈ tb := List.mem_filter.mpr ⟨List.mem_of_getElem? (i := 557) rfl, rfl⟩
theorem k_164 : Cond.fieldLink R_M 38 "RatePassesModel" "row" "[I" ∈ tb := List.mem_filter.mpr ⟨List.mem_of_getElem? (i := 455) (by decide +kernel), rfl⟩
theorem k_165 : Cond.methodLink R_M 108 y_M_isBefore ∈ tb := List.mem_filter.mpr ⟨List.mem_of_getElem? (i := 567) (by decide +kernel), rfl⟩
theorem k_166 : Cond.instanceMethod y_M_isBefore ∈ tb := List.mem_filter.mpr ⟨List.mem_of_getElem? (i := 569) (by decide +kernel), rfl⟩
theorem k_167 : Cond.selects R_M y_M_isBefore y_M_isBefore ∈ tb := List.mem_filter.mpr ⟨List.mem_of_getElem? (i := 24) (by decide +kernel), rfl⟩
set_option maxRecDepth 100000 in
theorem k_168 : Cond.code y_M_isBefore b_M_isBefore 7 (some .boolean) ∈ tb := List.mem_filter.mpr ⟨List.mem_of_getElem? (i := 570) rfl, rfl⟩
theorem k_169 : Cond.methodLink R_M 111 y_M_layRow ∈ tb := List.mem_filter.mpr ⟨List.mem_of_getElem? (i := 550) (by decide +kernel), rfl⟩
theorem k_170 : Cond.instanceMethod y_M_layRow ∈ tb := List.mem_filter.mpr ⟨List.mem_of_getElem? (i := 552) (by decide +kernel), rfl⟩
theorem k_171 : Cond.selects R_M y_M_layRow y_M_layRow ∈ tb := List.mem_filter.mpr ⟨List.mem_of_getElem? (i := 20) (by decide +kernel), rfl⟩
set_option maxRecDepth 100000 in
theorem k_172 : Cond.code y_M_layRow b_M_layRow 7 none ∈ tb := List.mem_filter.mpr ⟨List.mem_of_getElem? (i := 553) rfl, rfl⟩
theorem k_173 : Cond.fieldLink R_M 41 "RatePassesModel" "given" "[I" ∈ tb := List.mem_filter.mpr ⟨List.mem_of_getElem? (i := 457) (by decide +kernel), rfl⟩
theorem k_174 : Cond.methodLink R_M 114 y_M_isPass ∈ tb := List.mem_filter.mpr ⟨List.mem_of_getElem? (i := 575) (by decide +kernel), rfl⟩
theorem k_175 : Cond.instanceMethod y_M_isPass ∈ tb := List.mem_filter.mpr ⟨List.mem_of_getElem? (i := 577) (by decide +kernel), rfl⟩
theorem k_176 : Cond.selects R_M y_M_isPass y_M_isPass ∈ tb := List.mem_filter.mpr ⟨List.mem_of_getElem? (i := 25) (by decide +kernel), rfl⟩
set_option maxRecDepth 100000 in
theorem k_177 : Cond.code y_M_isPass b_M_isPass 3 (some .boolean) ∈ tb := List.mem_filter.mpr ⟨List.mem_of_getElem? (i := 578) rfl, rfl⟩
theorem k_178 : Cond.methodLink R_M 121 y_M_layerOf ∈ tb := List.mem_filter.mpr ⟨List.mem_of_getElem? (i := 595) (by decide +kernel), rfl⟩
theorem k_179 : Cond.instanceMethod y_M_layerOf ∈ tb := List.mem_filter.mpr ⟨List.mem_of_getElem? (i := 597) (by decide +kernel), rfl⟩
theorem k_180 : Cond.selects R_M y_M_layerOf y_M_layerOf ∈ tb := List.mem_filter.mpr ⟨List.mem_of_getElem? (i := 27) (by decide +kernel), rfl⟩
set_option maxRecDepth 100000 in
theorem k_181 : Cond.code y_M_layerOf b_M_layerOf 3 (some .int) ∈ tb := List.mem_filter.mpr ⟨List.mem_of_getElem? (i := 598) rfl, rfl⟩
theorem k_182 : Cond.methodLink R_M 117 y_M_alike ∈ tb := List.mem_filter.mpr ⟨List.mem_of_getElem? (i := 591) (by decide +kernel), rfl⟩
theorem k_183 : Cond.instanceMethod y_M_alike ∈ tb := List.mem_filter.mpr ⟨List.mem_of_getElem? (i := 593) (by decide +kernel), rfl⟩
theorem k_184 : Cond.selects R_M y_M_alike y_M_alike ∈ tb := List.mem_filter.mpr ⟨List.mem_of_getElem? (i := 26) (by decide +kernel), rfl⟩
set_option maxRecDepth 100000 in
theorem k_185 : Cond.code y_M_alike b_M_alike 4 (some .int) ∈ tb := List.mem_filter.mpr ⟨List.mem_of_getElem? (i := 594) rfl, rfl⟩
theorem k_186 : Cond.methodLink R_M 124 y_M_last ∈ tb := List.mem_filter.mpr ⟨List.mem_of_getElem? (i := 603) (by decide +kernel), rfl⟩
theorem k_187 : Cond.instanceMethod y_M_last ∈ tb := List.mem_filter.mpr ⟨List.mem_of_getElem? (i := 605) (by decide +kernel), rfl⟩
theorem k_188 : Cond.selects R_M y_M_last y_M_last ∈ tb := List.mem_filter.mpr ⟨List.mem_of_getElem? (i := 28) (by decide +kernel), rfl⟩
set_option maxRecDepth 100000 in
theorem k_189 : Cond.code y_M_last b_M_last 5 (some .int) ∈ tb := List.mem_filter.mpr ⟨List.mem_of_getElem? (i := 606) rfl, rfl⟩
theorem k_190 : Cond.constantLong R_M 127 (-1000000000000) ∈ tb := List.mem_filter.mpr ⟨List.mem_of_getElem? (i := 623) (by decide +kernel), rfl⟩
theorem k_191 : Cond.constantLong R_M 129 1000000000000 ∈ tb := List.mem_filter.mpr ⟨List.mem_of_getElem? (i := 624) (by decide +kernel), rfl⟩
theorem k_192 : Cond.methodLink R_X 3 Lib.objectInit ∈ tb := List.mem_filter.mpr ⟨List.mem_of_getElem? (i := 46) (by decide +kernel), rfl⟩
theorem k_193 : Cond.instanceMethod Lib.objectInit ∈ tb := List.mem_filter.mpr ⟨List.mem_of_getElem? (i := 47) (by decide +kernel), rfl⟩
set_option maxRecDepth 100000 in
theorem k_194 : Cond.code Lib.objectInit ⟨#[0xb1]⟩ 1 none ∈ tb := List.mem_filter.mpr ⟨List.mem_of_getElem? (i := 48) rfl, rfl⟩
theorem k_195 : Cond.arrayClass .int ∈ tb := List.mem_filter.mpr ⟨List.mem_of_getElem? (i := 107) (by decide +kernel), rfl⟩
theorem k_196 : Cond.arrayClass .long ∈ tb := List.mem_filter.mpr ⟨List.mem_of_getElem? (i := 108) (by decide +kernel), rfl⟩
theorem k_197 : Cond.methodLink R_X 35 Lib.Math.min.name ∈ tb := List.mem_filter.mpr ⟨List.mem_of_getElem? (i := 49) (by decide +kernel), rfl⟩
theorem k_198 : Cond.static Lib.Math.min.name ∈ tb := List.mem_filter.mpr ⟨List.mem_of_getElem? (i := 50) (by decide +kernel), rfl⟩
theorem k_199 : Cond.initialized "java/lang/Math" ∈ tb := List.mem_filter.mpr ⟨List.mem_of_getElem? (i := 31) (by decide +kernel), rfl⟩
set_option maxRecDepth 100000 in
theorem k_200 : Cond.code Lib.Math.min.name Lib.Math.min.code 2 (some .int) ∈ tb := List.mem_filter.mpr ⟨List.mem_of_getElem? (i := 51) rfl, rfl⟩
theorem k_201 : Cond.methodLink R_X 41 Lib.Math.max.name ∈ tb := List.mem_filter.mpr ⟨List.mem_of_getElem? (i := 52) (by decide +kernel), rfl⟩
theorem k_202 : Cond.static Lib.Math.max.name ∈ tb := List.mem_filter.mpr ⟨List.mem_of_getElem? (i := 53) (by decide +kernel), rfl⟩
set_option maxRecDepth 100000 in
theorem k_203 : Cond.code Lib.Math.max.name Lib.Math.max.code 2 (some .int) ∈ tb := List.mem_filter.mpr ⟨List.mem_of_getElem? (i := 54) rfl, rfl⟩
theorem k_204 : Cond.methodLink R_M 1 Lib.objectInit ∈ tb := List.mem_filter.mpr ⟨List.mem_of_getElem? (i := 440) (by decide +kernel), rfl⟩
theorem k_205 : Cond.methodLink R_L 7 y_X_block ∈ tb := List.mem_filter.mpr ⟨List.mem_of_getElem? (i := 136) (by decide +kernel), rfl⟩
theorem k_206 : Cond.instanceMethod y_X_block ∈ tb := List.mem_filter.mpr ⟨List.mem_of_getElem? (i := 137) (by decide +kernel), rfl⟩
theorem k_207 : Cond.selects R_X y_X_block y_X_block ∈ tb := List.mem_filter.mpr ⟨List.mem_of_getElem? (i := 138) (by decide +kernel), rfl⟩
set_option maxRecDepth 100000 in
theorem k_208 : Cond.code y_X_block b_X_block 2 (some .int) ∈ tb := List.mem_filter.mpr ⟨List.mem_of_getElem? (i := 139) rfl, rfl⟩
theorem k_209 : Cond.classLink R_L 13 "java/lang/UnsupportedOperationException" ∈ tb := List.mem_filter.mpr ⟨List.mem_of_getElem? (i := 135) (by decide +kernel), rfl⟩
theorem k_210 : Cond.methodLink R_L 15 y_X_pass ∈ tb := List.mem_filter.mpr ⟨List.mem_of_getElem? (i := 214) (by decide +kernel), rfl⟩
theorem k_211 : Cond.instanceMethod y_X_pass ∈ tb := List.mem_filter.mpr ⟨List.mem_of_getElem? (i := 215) (by decide +kernel), rfl⟩
theorem k_212 : Cond.selects R_X y_X_pass y_X_pass ∈ tb := List.mem_filter.mpr ⟨List.mem_of_getElem? (i := 216) (by decide +kernel), rfl⟩
set_option maxRecDepth 100000 in
theorem k_213 : Cond.code y_X_pass b_X_pass 6 (some .int) ∈ tb := List.mem_filter.mpr ⟨List.mem_of_getElem? (i := 217) rfl, rfl⟩
theorem k_214 : Cond.classLink R_L 19 "java/lang/IndexOutOfBoundsException" ∈ tb := List.mem_filter.mpr ⟨List.mem_of_getElem? (i := 212) (by decide +kernel), rfl⟩
theorem k_215 : Cond.classLink R_L 21 "java/lang/IllegalArgumentException" ∈ tb := List.mem_filter.mpr ⟨List.mem_of_getElem? (i := 213) (by decide +kernel), rfl⟩
theorem k_216 : Cond.methodLink R_L 23 y_X_weight ∈ tb := List.mem_filter.mpr ⟨List.mem_of_getElem? (i := 301) (by decide +kernel), rfl⟩
theorem k_217 : Cond.instanceMethod y_X_weight ∈ tb := List.mem_filter.mpr ⟨List.mem_of_getElem? (i := 302) (by decide +kernel), rfl⟩
theorem k_218 : Cond.selects R_X y_X_weight y_X_weight ∈ tb := List.mem_filter.mpr ⟨List.mem_of_getElem? (i := 303) (by decide +kernel), rfl⟩
set_option maxRecDepth 100000 in
theorem k_219 : Cond.code y_X_weight b_X_weight 4 (some .int) ∈ tb := List.mem_filter.mpr ⟨List.mem_of_getElem? (i := 304) rfl, rfl⟩
theorem k_220 : Cond.methodLink R_L 27 y_X_shift ∈ tb := List.mem_filter.mpr ⟨List.mem_of_getElem? (i := 309) (by decide +kernel), rfl⟩
theorem k_221 : Cond.instanceMethod y_X_shift ∈ tb := List.mem_filter.mpr ⟨List.mem_of_getElem? (i := 310) (by decide +kernel), rfl⟩
theorem k_222 : Cond.selects R_X y_X_shift y_X_shift ∈ tb := List.mem_filter.mpr ⟨List.mem_of_getElem? (i := 311) (by decide +kernel), rfl⟩
set_option maxRecDepth 100000 in
theorem k_223 : Cond.code y_X_shift b_X_shift 4 (some .int) ∈ tb := List.mem_filter.mpr ⟨List.mem_of_getElem? (i := 312) rfl, rfl⟩
theorem k_224 : Cond.methodLink R_L 30 y_X_size ∈ tb := List.mem_filter.mpr ⟨List.mem_of_getElem? (i := 317) (by decide +kernel), rfl⟩
theorem k_225 : Cond.instanceMethod y_X_size ∈ tb := List.mem_filter.mpr ⟨List.mem_of_getElem? (i := 318) (by decide +kernel), rfl⟩
theorem k_226 : Cond.selects R_X y_X_size y_X_size ∈ tb := List.mem_filter.mpr ⟨List.mem_of_getElem? (i := 319) (by decide +kernel), rfl⟩
set_option maxRecDepth 100000 in
theorem k_227 : Cond.code y_X_size b_X_size 3 (some .int) ∈ tb := List.mem_filter.mpr ⟨List.mem_of_getElem? (i := 320) rfl, rfl⟩
theorem k_228 : Cond.methodLink R_L 33 y_X_head ∈ tb := List.mem_filter.mpr ⟨List.mem_of_getElem? (i := 334) (by decide +kernel), rfl⟩
theorem k_229 : Cond.instanceMethod y_X_head ∈ tb := List.mem_filter.mpr ⟨List.mem_of_getElem? (i := 335) (by decide +kernel), rfl⟩
theorem k_230 : Cond.selects R_X y_X_head y_X_head ∈ tb := List.mem_filter.mpr ⟨List.mem_of_getElem? (i := 336) (by decide +kernel), rfl⟩
set_option maxRecDepth 100000 in
theorem k_231 : Cond.code y_X_head b_X_head 3 (some .int) ∈ tb := List.mem_filter.mpr ⟨List.mem_of_getElem? (i := 337) rfl, rfl⟩
theorem k_232 : Cond.methodLink R_L 36 y_X_hull ∈ tb := List.mem_filter.mpr ⟨List.mem_of_getElem? (i := 341) (by decide +kernel), rfl⟩
theorem k_233 : Cond.instanceMethod y_X_hull ∈ tb := List.mem_filter.mpr ⟨List.mem_of_getElem? (i := 342) (by decide +kernel), rfl⟩
theorem k_234 : Cond.selects R_X y_X_hull y_X_hull ∈ tb := List.mem_filter.mpr ⟨List.mem_of_getElem? (i := 343) (by decide +kernel), rfl⟩
set_option maxRecDepth 100000 in
theorem k_235 : Cond.code y_X_hull b_X_hull 3 (some .boolean) ∈ tb := List.mem_filter.mpr ⟨List.mem_of_getElem? (i := 344) rfl, rfl⟩
theorem k_236 : Cond.methodLink R_L 40 y_X_slope ∈ tb := List.mem_filter.mpr ⟨List.mem_of_getElem? (i := 353) (by decide +kernel), rfl⟩
theorem k_237 : Cond.instanceMethod y_X_slope ∈ tb := List.mem_filter.mpr ⟨List.mem_of_getElem? (i := 354) (by decide +kernel), rfl⟩
theorem k_238 : Cond.selects R_X y_X_slope y_X_slope ∈ tb := List.mem_filter.mpr ⟨List.mem_of_getElem? (i := 355) (by decide +kernel), rfl⟩
set_option maxRecDepth 100000 in
theorem k_239 : Cond.code y_X_slope b_X_slope 5 (some .long) ∈ tb := List.mem_filter.mpr ⟨List.mem_of_getElem? (i := 356) rfl, rfl⟩
theorem k_240 : Cond.methodLink R_L 44 y_X_at ∈ tb := List.mem_filter.mpr ⟨List.mem_of_getElem? (i := 361) (by decide +kernel), rfl⟩
theorem k_241 : Cond.instanceMethod y_X_at ∈ tb := List.mem_filter.mpr ⟨List.mem_of_getElem? (i := 362) (by decide +kernel), rfl⟩
theorem k_242 : Cond.selects R_X y_X_at y_X_at ∈ tb := List.mem_filter.mpr ⟨List.mem_of_getElem? (i := 363) (by decide +kernel), rfl⟩
set_option maxRecDepth 100000 in
theorem k_243 : Cond.code y_X_at b_X_at 4 (some .int) ∈ tb := List.mem_filter.mpr ⟨List.mem_of_getElem? (i := 364) rfl, rfl⟩
theorem k_244 : Cond.classLink R_L 47 "java/lang/IllegalStateException" ∈ tb := List.mem_filter.mpr ⟨List.mem_of_getElem? (i := 360) (by decide +kernel), rfl⟩
theorem k_245 : Cond.methodLink R_L 49 y_X_passes ∈ tb := List.mem_filter.mpr ⟨List.mem_of_getElem? (i := 401) (by decide +kernel), rfl⟩
theorem k_246 : Cond.instanceMethod y_X_passes ∈ tb := List.mem_filter.mpr ⟨List.mem_of_getElem? (i := 402) (by decide +kernel), rfl⟩
theorem k_247 : Cond.selects R_X y_X_passes y_X_passes ∈ tb := List.mem_filter.mpr ⟨List.mem_of_getElem? (i := 403) (by decide +kernel), rfl⟩
set_option maxRecDepth 100000 in
theorem k_248 : Cond.code y_X_passes b_X_passes 4 (some .int) ∈ tb := List.mem_filter.mpr ⟨List.mem_of_getElem? (i := 404) rfl, rfl⟩
theorem k_249 : Cond.methodLink R_L 52 y_X_bytes ∈ tb := List.mem_filter.mpr ⟨List.mem_of_getElem? (i := 408) (by decide +kernel), rfl⟩
theorem k_250 : Cond.instanceMethod y_X_bytes ∈ tb := List.mem_filter.mpr ⟨List.mem_of_getElem? (i := 409) (by decide +kernel), rfl⟩
theorem k_251 : Cond.selects R_X y_X_bytes y_X_bytes ∈ tb := List.mem_filter.mpr ⟨List.mem_of_getElem? (i := 410) (by decide +kernel), rfl⟩
set_option maxRecDepth 100000 in
theorem k_252 : Cond.code y_X_bytes b_X_bytes 2 (some .int) ∈ tb := List.mem_filter.mpr ⟨List.mem_of_getElem? (i := 411) rfl, rfl⟩
theorem k_253 : Cond.methodLink R_L 56 y_X_gained ∈ tb := List.mem_filter.mpr ⟨List.mem_of_getElem? (i := 415) (by decide +kernel), rfl⟩
theorem k_254 : Cond.instanceMethod y_X_gained ∈ tb := List.mem_filter.mpr ⟨List.mem_of_getElem? (i := 416) (by decide +kernel), rfl⟩
theorem k_255 : Cond.selects R_X y_X_gained y_X_gained ∈ tb := List.mem_filter.mpr ⟨List.mem_of_getElem? (i := 417) (by decide +kernel), rfl⟩
set_option maxRecDepth 100000 in
theorem k_256 : Cond.code y_X_gained b_X_gained 5 (some .long) ∈ tb := List.mem_filter.mpr ⟨List.mem_of_getElem? (i := 418) rfl, rfl⟩
theorem k_257 : Cond.methodLink R_L 60 y_X_least ∈ tb := List.mem_filter.mpr ⟨List.mem_of_getElem? (i := 422) (by decide +kernel), rfl⟩
theorem k_258 : Cond.instanceMethod y_X_least ∈ tb := List.mem_filter.mpr ⟨List.mem_of_getElem? (i := 423) (by decide +kernel), rfl⟩
theorem k_259 : Cond.selects R_X y_X_least y_X_least ∈ tb := List.mem_filter.mpr ⟨List.mem_of_getElem? (i := 424) (by decide +kernel), rfl⟩
set_option maxRecDepth 100000 in
theorem k_260 : Cond.code y_X_least b_X_least 4 (some .int) ∈ tb := List.mem_filter.mpr ⟨List.mem_of_getElem? (i := 425) rfl, rfl⟩
theorem k_261 : Cond.methodLink R_L 63 y_X_above ∈ tb := List.mem_filter.mpr ⟨List.mem_of_getElem? (i := 429) (by decide +kernel), rfl⟩
theorem k_262 : Cond.instanceMethod y_X_above ∈ tb := List.mem_filter.mpr ⟨List.mem_of_getElem? (i := 430) (by decide +kernel), rfl⟩
theorem k_263 : Cond.selects R_X y_X_above y_X_above ∈ tb := List.mem_filter.mpr ⟨List.mem_of_getElem? (i := 431) (by decide +kernel), rfl⟩
set_option maxRecDepth 100000 in
theorem k_264 : Cond.code y_X_above b_X_above 5 (some .int) ∈ tb := List.mem_filter.mpr ⟨List.mem_of_getElem? (i := 432) rfl, rfl⟩
def jk_lits : List (String × Nat × String) := [(R_X, 65, "no more blocks"), (R_X, 149, "no such block"), (R_X, 158, "a number outside its bounds"), (R_X, 88, "no more passes of this block"), (R_X, 151, "no such layer"), (R_X, 162, "no such pass"), (R_X, 119, "no such place of the row"), (R_X, 155, "not shared since something was told or taken away"), (R_X, 139, "no such question about a place")]
def jk_ncs : List (String × String) := [("java/lang/IllegalArgumentException", "java/lang/IndexOutOfBoundsException"), ("java/lang/UnsupportedOperationException", "java/lang/IndexOutOfBoundsException"), ("java/lang/UnsupportedOperationException", "java/lang/IllegalArgumentException"), ("java/lang/IllegalStateException", "java/lang/IndexOutOfBoundsException"), ("java/lang/IllegalStateException", "java/lang/IllegalArgumentException"), ("java/lang/IndexOutOfBoundsException", "java/lang/IllegalStateException")]
def jk_oth : List Cond := [Cond.castable "java/lang/IllegalArgumentException" "java/lang/IllegalArgumentException", Cond.castable "java/lang/IllegalStateException" "java/lang/IllegalStateException", Cond.castable "java/lang/IndexOutOfBoundsException" "java/lang/IndexOutOfBoundsException", Cond.castable "java/lang/UnsupportedOperationException" "java/lang/UnsupportedOperationException", Cond.declares (Bundle.initS "java/lang/RuntimeException"), Cond.declares (Bundle.initS "java/lang/Exception"), Cond.declares (Bundle.initS "java/lang/Throwable")]
theorem jk_oth_in : ∀ w ∈ jk_oth, w ∈ lw_tbl := by decide +kernel
theorem ka_X_67_a : ∀ w ∈ (vx_atS R_X 67 "java/lang/UnsupportedOperationException" ["java/lang/RuntimeException", "java/lang/Exception"]).filter goodWord, w ∈ lw_tbl := by decide +kernel
theorem ka_X_67_b : ∀ w ∈ (vx_atS R_X 67 "java/lang/UnsupportedOperationException" ["java/lang/RuntimeException", "java/lang/Exception"]).filter (fun w => !goodWord w), w ∈ jk_oth := by decide +kernel
theorem ka_X_67_c : ∀ w ∈ vx_atS R_X 67 "java/lang/UnsupportedOperationException" ["java/lang/RuntimeException", "java/lang/Exception"], vx_ot w = true := by decide +kernel
theorem ka_X_67 : ∀ w ∈ vx_atS R_X 67 "java/lang/UnsupportedOperationException" ["java/lang/RuntimeException", "java/lang/Exception"], (w ∈ tb ∨ w ∈ jk_oth) ∧ vx_ot w = true := fun w h => ⟨(Bool.eq_false_or_eq_true (goodWord w)).elim (fun g => Or.inl (List.mem_filter.mpr ⟨ka_X_67_a w (List.mem_filter.mpr ⟨h, g⟩), g⟩)) (fun g => Or.inr (ka_X_67_b w (List.mem_filter.mpr ⟨h, by rw [g]; rfl⟩))), ka_X_67_c w h⟩
theorem ka_X_121_a : ∀ w ∈ (vx_atS R_X 121 "java/lang/IndexOutOfBoundsException" ["java/lang/RuntimeException", "java/lang/Exception"]).filter goodWord, w ∈ lw_tbl := by decide +kernel
theorem ka_X_121_b : ∀ w ∈ (vx_atS R_X 121 "java/lang/IndexOutOfBoundsException" ["java/lang/RuntimeException", "java/lang/Exception"]).filter (fun w => !goodWord w), w ∈ jk_oth := by decide +kernel
theorem ka_X_121_c : ∀ w ∈ vx_atS R_X 121 "java/lang/IndexOutOfBoundsException" ["java/lang/RuntimeException", "java/lang/Exception"], vx_ot w = true := by decide +kernel
theorem ka_X_121 : ∀ w ∈ vx_atS R_X 121 "java/lang/IndexOutOfBoundsException" ["java/lang/RuntimeException", "java/lang/Exception"], (w ∈ tb ∨ w ∈ jk_oth) ∧ vx_ot w = true := fun w h => ⟨(Bool.eq_false_or_eq_true (goodWord w)).elim (fun g => Or.inl (List.mem_filter.mpr ⟨ka_X_121_a w (List.mem_filter.mpr ⟨h, g⟩), g⟩)) (fun g => Or.inr (ka_X_121_b w (List.mem_filter.mpr ⟨h, by rw [g]; rfl⟩))), ka_X_121_c w h⟩
theorem ka_X_141_a : ∀ w ∈ (vx_atS R_X 141 "java/lang/IllegalArgumentException" ["java/lang/RuntimeException", "java/lang/Exception"]).filter goodWord, w ∈ lw_tbl := by decide +kernel
theorem ka_X_141_b : ∀ w ∈ (vx_atS R_X 141 "java/lang/IllegalArgumentException" ["java/lang/RuntimeException", "java/lang/Exception"]).filter (fun w => !goodWord w), w ∈ jk_oth := by decide +kernel
theorem ka_X_141_c : ∀ w ∈ vx_atS R_X 141 "java/lang/IllegalArgumentException" ["java/lang/RuntimeException", "java/lang/Exception"], vx_ot w = true := by decide +kernel
theorem ka_X_141 : ∀ w ∈ vx_atS R_X 141 "java/lang/IllegalArgumentException" ["java/lang/RuntimeException", "java/lang/Exception"], (w ∈ tb ∨ w ∈ jk_oth) ∧ vx_ot w = true := fun w h => ⟨(Bool.eq_false_or_eq_true (goodWord w)).elim (fun g => Or.inl (List.mem_filter.mpr ⟨ka_X_141_a w (List.mem_filter.mpr ⟨h, g⟩), g⟩)) (fun g => Or.inr (ka_X_141_b w (List.mem_filter.mpr ⟨h, by rw [g]; rfl⟩))), ka_X_141_c w h⟩
theorem ka_X_157_a : ∀ w ∈ (vx_atS R_X 157 "java/lang/IllegalStateException" ["java/lang/RuntimeException", "java/lang/Exception"]).filter goodWord, w ∈ lw_tbl := by decide +kernel
theorem ka_X_157_b : ∀ w ∈ (vx_atS R_X 157 "java/lang/IllegalStateException" ["java/lang/RuntimeException", "java/lang/Exception"]).filter (fun w => !goodWord w), w ∈ jk_oth := by decide +kernel
theorem ka_X_157_c : ∀ w ∈ vx_atS R_X 157 "java/lang/IllegalStateException" ["java/lang/RuntimeException", "java/lang/Exception"], vx_ot w = true := by decide +kernel
theorem ka_X_157 : ∀ w ∈ vx_atS R_X 157 "java/lang/IllegalStateException" ["java/lang/RuntimeException", "java/lang/Exception"], (w ∈ tb ∨ w ∈ jk_oth) ∧ vx_ot w = true := fun w h => ⟨(Bool.eq_false_or_eq_true (goodWord w)).elim (fun g => Or.inl (List.mem_filter.mpr ⟨ka_X_157_a w (List.mem_filter.mpr ⟨h, g⟩), g⟩)) (fun g => Or.inr (ka_X_157_b w (List.mem_filter.mpr ⟨h, by rw [g]; rfl⟩))), ka_X_157_c w h⟩
end
section
theorem d_X_init_0 : decode b_X_init 0 = .ok (.aload_n 0, 1) := by decide +kernel
theorem d_X_init_1 : decode b_X_init 1 = .ok (.invokespecial 3, 3) := by decide +kernel
theorem d_X_init_4 : decode b_X_init 4 = .ok (.aload_n 0, 1) := by decide +kernel
theorem d_X_init_5 : decode b_X_init 5 = .ok (.bipush 40, 2) := by decide +kernel
theorem d_X_init_7 : decode b_X_init 7 = .ok (.newarray .int, 2) := by decide +kernel
theorem d_X_init_9 : decode b_X_init 9 = .ok (.putfield 9, 3) := by decide +kernel
theorem d_X_init_12 : decode b_X_init 12 = .ok (.aload_n 0, 1) := by decide +kernel
theorem d_X_init_13 : decode b_X_init 13 = .ok (.bipush 40, 2) := by decide +kernel
theorem d_X_init_15 : decode b_X_init 15 = .ok (.newarray .int, 2) := by decide +kernel
theorem d_X_init_17 : decode b_X_init 17 = .ok (.putfield 13, 3) := by decide +kernel
theorem d_X_init_20 : decode b_X_init 20 = .ok (.aload_n 0, 1) := by decide +kernel
theorem d_X_init_21 : decode b_X_init 21 = .ok (.bipush 40, 2) := by decide +kernel
theorem d_X_init_23 : decode b_X_init 23 = .ok (.newarray .int, 2) := by decide +kernel
theorem d_X_init_25 : decode b_X_init 25 = .ok (.putfield 16, 3) := by decide +kernel
theorem d_X_init_28 : decode b_X_init 28 = .ok (.aload_n 0, 1) := by decide +kernel
theorem d_X_init_29 : decode b_X_init 29 = .ok (.sipush 1000, 3) := by decide +kernel
theorem d_X_init_32 : decode b_X_init 32 = .ok (.newarray .int, 2) := by decide +kernel
theorem d_X_init_34 : decode b_X_init 34 = .ok (.putfield 19, 3) := by decide +kernel
theorem d_X_init_37 : decode b_X_init 37 = .ok (.aload_n 0, 1) := by decide +kernel
theorem d_X_init_38 : decode b_X_init 38 = .ok (.sipush 1000, 3) := by decide +kernel
theorem d_X_init_41 : decode b_X_init 41 = .ok (.newarray .int, 2) := by decide +kernel
theorem d_X_init_43 : decode b_X_init 43 = .ok (.putfield 22, 3) := by decide +kernel
theorem d_X_init_46 : decode b_X_init 46 = .ok (.aload_n 0, 1) := by decide +kernel
theorem d_X_init_47 : decode b_X_init 47 = .ok (.sipush 1000, 3) := by decide +kernel
theorem d_X_init_50 : decode b_X_init 50 = .ok (.newarray .long, 2) := by decide +kernel
theorem d_X_init_52 : decode b_X_init 52 = .ok (.putfield 25, 3) := by decide +kernel
theorem d_X_init_55 : decode b_X_init 55 = .ok (.aload_n 0, 1) := by decide +kernel
theorem d_X_init_56 : decode b_X_init 56 = .ok (.sipush 1000, 3) := by decide +kernel
theorem d_X_init_59 : decode b_X_init 59 = .ok (.newarray .int, 2) := by decide +kernel
theorem d_X_init_61 : decode b_X_init 61 = .ok (.putfield 29, 3) := by decide +kernel
theorem d_X_init_64 : decode b_X_init 64 = .ok (.aload_n 0, 1) := by decide +kernel
theorem d_X_init_65 : decode b_X_init 65 = .ok (.sipush 960, 3) := by decide +kernel
theorem d_X_init_68 : decode b_X_init 68 = .ok (.newarray .int, 2) := by decide +kernel
theorem d_X_init_70 : decode b_X_init 70 = .ok (.putfield 32, 3) := by decide +kernel
theorem d_X_init_73 : decode b_X_init 73 = .ok (.aload_n 0, 1) := by decide +kernel
theorem d_X_init_74 : decode b_X_init 74 = .ok (.iconst 1, 1) := by decide +kernel
theorem d_X_init_75 : decode b_X_init 75 = .ok (.bipush 16, 2) := by decide +kernel
theorem d_X_init_77 : decode b_X_init 77 = .ok (.iload_n 1, 1) := by decide +kernel
theorem d_X_init_78 : decode b_X_init 78 = .ok (.invokestatic 35, 3) := by decide +kernel
theorem d_X_init_81 : decode b_X_init 81 = .ok (.invokestatic 41, 3) := by decide +kernel
theorem d_X_init_84 : decode b_X_init 84 = .ok (.putfield 44, 3) := by decide +kernel
theorem d_X_init_87 : decode b_X_init 87 = .ok (.aload_n 0, 1) := by decide +kernel
theorem d_X_init_88 : decode b_X_init 88 = .ok (.aload_n 0, 1) := by decide +kernel
theorem d_X_init_89 : decode b_X_init 89 = .ok (.getfield 44, 3) := by decide +kernel
theorem d_X_init_92 : decode b_X_init 92 = .ok (.newarray .int, 2) := by decide +kernel
theorem d_X_init_94 : decode b_X_init 94 = .ok (.putfield 48, 3) := by decide +kernel
theorem d_X_init_97 : decode b_X_init 97 = .ok (.aload_n 0, 1) := by decide +kernel
theorem d_X_init_98 : decode b_X_init 98 = .ok (.aload_n 0, 1) := by decide +kernel
theorem d_X_init_99 : decode b_X_init 99 = .ok (.getfield 44, 3) := by decide +kernel
theorem d_X_init_102 : decode b_X_init 102 = .ok (.newarray .int, 2) := by decide +kernel
theorem d_X_init_104 : decode b_X_init 104 = .ok (.putfield 51, 3) := by decide +kernel
theorem d_X_init_107 : decode b_X_init 107 = .ok (.aload_n 0, 1) := by decide +kernel
theorem d_X_init_108 : decode b_X_init 108 = .ok (.aload_n 0, 1) := by decide +kernel
theorem d_X_init_109 : decode b_X_init 109 = .ok (.getfield 44, 3) := by decide +kernel
theorem d_X_init_112 : decode b_X_init 112 = .ok (.newarray .int, 2) := by decide +kernel
theorem d_X_init_114 : decode b_X_init 114 = .ok (.putfield 54, 3) := by decide +kernel
theorem d_X_init_117 : decode b_X_init 117 = .ok (.aload_n 0, 1) := by decide +kernel
theorem d_X_init_118 : decode b_X_init 118 = .ok (.aload_n 0, 1) := by decide +kernel
theorem d_X_init_119 : decode b_X_init 119 = .ok (.getfield 44, 3) := by decide +kernel
theorem d_X_init_122 : decode b_X_init 122 = .ok (.newarray .int, 2) := by decide +kernel
theorem d_X_init_124 : decode b_X_init 124 = .ok (.putfield 57, 3) := by decide +kernel
theorem d_X_init_127 : decode b_X_init 127 = .ok (.return_, 1) := by decide +kernel
theorem d_X_block_0 : decode b_X_block 0 = .ok (.aload_n 0, 1) := by decide +kernel
theorem d_X_block_1 : decode b_X_block 1 = .ok (.getfield 60, 3) := by decide +kernel
theorem d_X_block_4 : decode b_X_block 4 = .ok (.bipush 40, 2) := by decide +kernel
theorem d_X_block_6 : decode b_X_block 6 = .ok (.if_icmp .lt 13, 3) := by decide +kernel
theorem d_X_block_9 : decode b_X_block 9 = .ok (.new 63, 3) := by decide +kernel
theorem d_X_block_12 : decode b_X_block 12 = .ok (.dup, 1) := by decide +kernel
theorem d_X_block_13 : decode b_X_block 13 = .ok (.ldc 65, 2) := by decide +kernel
theorem d_X_block_15 : decode b_X_block 15 = .ok (.invokespecial 67, 3) := by decide +kernel
theorem d_X_block_18 : decode b_X_block 18 = .ok (.athrow, 1) := by decide +kernel
theorem d_X_block_19 : decode b_X_block 19 = .ok (.aload_n 0, 1) := by decide +kernel
theorem d_X_block_20 : decode b_X_block 20 = .ok (.getfield 60, 3) := by decide +kernel
theorem d_X_block_23 : decode b_X_block 23 = .ok (.istore_n 1, 1) := by decide +kernel
theorem d_X_block_24 : decode b_X_block 24 = .ok (.aload_n 0, 1) := by decide +kernel
theorem d_X_block_25 : decode b_X_block 25 = .ok (.getfield 9, 3) := by decide +kernel
theorem d_X_block_28 : decode b_X_block 28 = .ok (.iload_n 1, 1) := by decide +kernel
theorem d_X_block_29 : decode b_X_block 29 = .ok (.iconst 1, 1) := by decide +kernel
theorem d_X_block_30 : decode b_X_block 30 = .ok (.iastore, 1) := by decide +kernel
theorem d_X_block_31 : decode b_X_block 31 = .ok (.aload_n 0, 1) := by decide +kernel
theorem d_X_block_32 : decode b_X_block 32 = .ok (.getfield 13, 3) := by decide +kernel
theorem d_X_block_35 : decode b_X_block 35 = .ok (.iload_n 1, 1) := by decide +kernel
theorem d_X_block_36 : decode b_X_block 36 = .ok (.iconst 0, 1) := by decide +kernel
theorem d_X_block_37 : decode b_X_block 37 = .ok (.iastore, 1) := by decide +kernel
theorem d_X_block_38 : decode b_X_block 38 = .ok (.aload_n 0, 1) := by decide +kernel
theorem d_X_block_39 : decode b_X_block 39 = .ok (.getfield 16, 3) := by decide +kernel
theorem d_X_block_42 : decode b_X_block 42 = .ok (.iload_n 1, 1) := by decide +kernel
theorem d_X_block_43 : decode b_X_block 43 = .ok (.iconst 0, 1) := by decide +kernel
theorem d_X_block_44 : decode b_X_block 44 = .ok (.iastore, 1) := by decide +kernel
theorem d_X_block_45 : decode b_X_block 45 = .ok (.aload_n 0, 1) := by decide +kernel
theorem d_X_block_46 : decode b_X_block 46 = .ok (.dup, 1) := by decide +kernel
theorem d_X_block_47 : decode b_X_block 47 = .ok (.getfield 60, 3) := by decide +kernel
theorem d_X_block_50 : decode b_X_block 50 = .ok (.iconst 1, 1) := by decide +kernel
theorem d_X_block_51 : decode b_X_block 51 = .ok (.iadd, 1) := by decide +kernel
theorem d_X_block_52 : decode b_X_block 52 = .ok (.putfield 60, 3) := by decide +kernel
theorem d_X_block_55 : decode b_X_block 55 = .ok (.aload_n 0, 1) := by decide +kernel
theorem d_X_block_56 : decode b_X_block 56 = .ok (.iconst 0, 1) := by decide +kernel
theorem d_X_block_57 : decode b_X_block 57 = .ok (.putfield 70, 3) := by decide +kernel
theorem d_X_block_60 : decode b_X_block 60 = .ok (.iload_n 1, 1) := by decide +kernel
theorem d_X_block_61 : decode b_X_block 61 = .ok (.ireturn, 1) := by decide +kernel
theorem d_X_pass_0 : decode b_X_pass 0 = .ok (.aload_n 0, 1) := by decide +kernel
theorem d_X_pass_1 : decode b_X_pass 1 = .ok (.iload_n 1, 1) := by decide +kernel
theorem d_X_pass_2 : decode b_X_pass 2 = .ok (.invokevirtual 74, 3) := by decide +kernel
theorem d_X_pass_5 : decode b_X_pass 5 = .ok (.iload_n 2, 1) := by decide +kernel
theorem d_X_pass_6 : decode b_X_pass 6 = .ok (.i2l, 1) := by decide +kernel
theorem d_X_pass_7 : decode b_X_pass 7 = .ok (.lconst 1, 1) := by decide +kernel
theorem d_X_pass_8 : decode b_X_pass 8 = .ok (.ldc2_w 78, 3) := by decide +kernel
theorem d_X_pass_11 : decode b_X_pass 11 = .ok (.invokestatic 80, 3) := by decide +kernel
theorem d_X_pass_14 : decode b_X_pass 14 = .ok (.iload_n 3, 1) := by decide +kernel
theorem d_X_pass_15 : decode b_X_pass 15 = .ok (.i2l, 1) := by decide +kernel
theorem d_X_pass_16 : decode b_X_pass 16 = .ok (.ldc2_w 84, 3) := by decide +kernel
theorem d_X_pass_19 : decode b_X_pass 19 = .ok (.ldc2_w 86, 3) := by decide +kernel
theorem d_X_pass_22 : decode b_X_pass 22 = .ok (.invokestatic 80, 3) := by decide +kernel
theorem d_X_pass_25 : decode b_X_pass 25 = .ok (.aload_n 0, 1) := by decide +kernel
theorem d_X_pass_26 : decode b_X_pass 26 = .ok (.getfield 16, 3) := by decide +kernel
theorem d_X_pass_29 : decode b_X_pass 29 = .ok (.iload_n 1, 1) := by decide +kernel
theorem d_X_pass_30 : decode b_X_pass 30 = .ok (.iaload, 1) := by decide +kernel
theorem d_X_pass_31 : decode b_X_pass 31 = .ok (.bipush 24, 2) := by decide +kernel
theorem d_X_pass_33 : decode b_X_pass 33 = .ok (.if_icmp .lt 13, 3) := by decide +kernel
theorem d_X_pass_36 : decode b_X_pass 36 = .ok (.new 63, 3) := by decide +kernel
theorem d_X_pass_39 : decode b_X_pass 39 = .ok (.dup, 1) := by decide +kernel
theorem d_X_pass_40 : decode b_X_pass 40 = .ok (.ldc 88, 2) := by decide +kernel
theorem d_X_pass_42 : decode b_X_pass 42 = .ok (.invokespecial 67, 3) := by decide +kernel
theorem d_X_pass_45 : decode b_X_pass 45 = .ok (.athrow, 1) := by decide +kernel
theorem d_X_pass_46 : decode b_X_pass 46 = .ok (.aload_n 0, 1) := by decide +kernel
theorem d_X_pass_47 : decode b_X_pass 47 = .ok (.getfield 16, 3) := by decide +kernel
theorem d_X_pass_50 : decode b_X_pass 50 = .ok (.iload_n 1, 1) := by decide +kernel
theorem d_X_pass_51 : decode b_X_pass 51 = .ok (.iaload, 1) := by decide +kernel
theorem d_X_pass_52 : decode b_X_pass 52 = .ok (.istore 4, 2) := by decide +kernel
theorem d_X_pass_54 : decode b_X_pass 54 = .ok (.iload_n 1, 1) := by decide +kernel
theorem d_X_pass_55 : decode b_X_pass 55 = .ok (.invokestatic 90, 3) := by decide +kernel
theorem d_X_pass_58 : decode b_X_pass 58 = .ok (.iload 4, 2) := by decide +kernel
theorem d_X_pass_60 : decode b_X_pass 60 = .ok (.iadd, 1) := by decide +kernel
theorem d_X_pass_61 : decode b_X_pass 61 = .ok (.istore 5, 2) := by decide +kernel
theorem d_X_pass_63 : decode b_X_pass 63 = .ok (.aload_n 0, 1) := by decide +kernel
theorem d_X_pass_64 : decode b_X_pass 64 = .ok (.getfield 19, 3) := by decide +kernel
theorem d_X_pass_67 : decode b_X_pass 67 = .ok (.iload 5, 2) := by decide +kernel
theorem d_X_pass_69 : decode b_X_pass 69 = .ok (.iconst 1, 1) := by decide +kernel
theorem d_X_pass_70 : decode b_X_pass 70 = .ok (.iadd, 1) := by decide +kernel
theorem d_X_pass_71 : decode b_X_pass 71 = .ok (.aload_n 0, 1) := by decide +kernel
theorem d_X_pass_72 : decode b_X_pass 72 = .ok (.getfield 19, 3) := by decide +kernel
theorem d_X_pass_75 : decode b_X_pass 75 = .ok (.iload 5, 2) := by decide +kernel
theorem d_X_pass_77 : decode b_X_pass 77 = .ok (.iaload, 1) := by decide +kernel
theorem d_X_pass_78 : decode b_X_pass 78 = .ok (.iload_n 2, 1) := by decide +kernel
theorem d_X_pass_79 : decode b_X_pass 79 = .ok (.iadd, 1) := by decide +kernel
theorem d_X_pass_80 : decode b_X_pass 80 = .ok (.iastore, 1) := by decide +kernel
theorem d_X_pass_81 : decode b_X_pass 81 = .ok (.aload_n 0, 1) := by decide +kernel
theorem d_X_pass_82 : decode b_X_pass 82 = .ok (.getfield 22, 3) := by decide +kernel
theorem d_X_pass_85 : decode b_X_pass 85 = .ok (.iload 5, 2) := by decide +kernel
theorem d_X_pass_87 : decode b_X_pass 87 = .ok (.iconst 1, 1) := by decide +kernel
theorem d_X_pass_88 : decode b_X_pass 88 = .ok (.iadd, 1) := by decide +kernel
theorem d_X_pass_89 : decode b_X_pass 89 = .ok (.aload_n 0, 1) := by decide +kernel
theorem d_X_pass_90 : decode b_X_pass 90 = .ok (.getfield 22, 3) := by decide +kernel
theorem d_X_pass_93 : decode b_X_pass 93 = .ok (.iload 5, 2) := by decide +kernel
theorem d_X_pass_95 : decode b_X_pass 95 = .ok (.iaload, 1) := by decide +kernel
theorem d_X_pass_96 : decode b_X_pass 96 = .ok (.iload_n 3, 1) := by decide +kernel
theorem d_X_pass_97 : decode b_X_pass 97 = .ok (.iadd, 1) := by decide +kernel
theorem d_X_pass_98 : decode b_X_pass 98 = .ok (.iastore, 1) := by decide +kernel
theorem d_X_pass_99 : decode b_X_pass 99 = .ok (.aload_n 0, 1) := by decide +kernel
theorem d_X_pass_100 : decode b_X_pass 100 = .ok (.getfield 16, 3) := by decide +kernel
theorem d_X_pass_103 : decode b_X_pass 103 = .ok (.iload_n 1, 1) := by decide +kernel
theorem d_X_pass_104 : decode b_X_pass 104 = .ok (.dup2, 1) := by decide +kernel
theorem d_X_pass_105 : decode b_X_pass 105 = .ok (.iaload, 1) := by decide +kernel
theorem d_X_pass_106 : decode b_X_pass 106 = .ok (.iconst 1, 1) := by decide +kernel
theorem d_X_pass_107 : decode b_X_pass 107 = .ok (.iadd, 1) := by decide +kernel
theorem d_X_pass_108 : decode b_X_pass 108 = .ok (.iastore, 1) := by decide +kernel
theorem d_X_pass_109 : decode b_X_pass 109 = .ok (.aload_n 0, 1) := by decide +kernel
theorem d_X_pass_110 : decode b_X_pass 110 = .ok (.dup, 1) := by decide +kernel
theorem d_X_pass_111 : decode b_X_pass 111 = .ok (.getfield 94, 3) := by decide +kernel
theorem d_X_pass_114 : decode b_X_pass 114 = .ok (.iconst 1, 1) := by decide +kernel
theorem d_X_pass_115 : decode b_X_pass 115 = .ok (.iadd, 1) := by decide +kernel
theorem d_X_pass_116 : decode b_X_pass 116 = .ok (.putfield 94, 3) := by decide +kernel
theorem d_X_pass_119 : decode b_X_pass 119 = .ok (.aload_n 0, 1) := by decide +kernel
theorem d_X_pass_120 : decode b_X_pass 120 = .ok (.iload_n 1, 1) := by decide +kernel
theorem d_X_pass_121 : decode b_X_pass 121 = .ok (.invokevirtual 97, 3) := by decide +kernel
theorem d_X_pass_124 : decode b_X_pass 124 = .ok (.iload 4, 2) := by decide +kernel
theorem d_X_pass_126 : decode b_X_pass 126 = .ok (.ireturn, 1) := by decide +kernel
theorem d_X_weight_0 : decode b_X_weight 0 = .ok (.aload_n 0, 1) := by decide +kernel
theorem d_X_weight_1 : decode b_X_weight 1 = .ok (.iload_n 1, 1) := by decide +kernel
theorem d_X_weight_2 : decode b_X_weight 2 = .ok (.invokevirtual 74, 3) := by decide +kernel
theorem d_X_weight_5 : decode b_X_weight 5 = .ok (.iload_n 2, 1) := by decide +kernel
theorem d_X_weight_6 : decode b_X_weight 6 = .ok (.i2l, 1) := by decide +kernel
theorem d_X_weight_7 : decode b_X_weight 7 = .ok (.lconst 1, 1) := by decide +kernel
theorem d_X_weight_8 : decode b_X_weight 8 = .ok (.ldc2_w 100, 3) := by decide +kernel
theorem d_X_weight_11 : decode b_X_weight 11 = .ok (.invokestatic 80, 3) := by decide +kernel
theorem d_X_weight_14 : decode b_X_weight 14 = .ok (.aload_n 0, 1) := by decide +kernel
theorem d_X_weight_15 : decode b_X_weight 15 = .ok (.getfield 9, 3) := by decide +kernel
theorem d_X_weight_18 : decode b_X_weight 18 = .ok (.iload_n 1, 1) := by decide +kernel
theorem d_X_weight_19 : decode b_X_weight 19 = .ok (.iaload, 1) := by decide +kernel
theorem d_X_weight_20 : decode b_X_weight 20 = .ok (.istore_n 3, 1) := by decide +kernel
theorem d_X_weight_21 : decode b_X_weight 21 = .ok (.aload_n 0, 1) := by decide +kernel
theorem d_X_weight_22 : decode b_X_weight 22 = .ok (.getfield 9, 3) := by decide +kernel
theorem d_X_weight_25 : decode b_X_weight 25 = .ok (.iload_n 1, 1) := by decide +kernel
theorem d_X_weight_26 : decode b_X_weight 26 = .ok (.iload_n 2, 1) := by decide +kernel
theorem d_X_weight_27 : decode b_X_weight 27 = .ok (.iastore, 1) := by decide +kernel
theorem d_X_weight_28 : decode b_X_weight 28 = .ok (.aload_n 0, 1) := by decide +kernel
theorem d_X_weight_29 : decode b_X_weight 29 = .ok (.iload_n 1, 1) := by decide +kernel
theorem d_X_weight_30 : decode b_X_weight 30 = .ok (.invokevirtual 97, 3) := by decide +kernel
theorem d_X_weight_33 : decode b_X_weight 33 = .ok (.iload_n 3, 1) := by decide +kernel
theorem d_X_weight_34 : decode b_X_weight 34 = .ok (.ireturn, 1) := by decide +kernel
theorem d_X_shift_0 : decode b_X_shift 0 = .ok (.aload_n 0, 1) := by decide +kernel
theorem d_X_shift_1 : decode b_X_shift 1 = .ok (.iload_n 1, 1) := by decide +kernel
theorem d_X_shift_2 : decode b_X_shift 2 = .ok (.invokevirtual 74, 3) := by decide +kernel
theorem d_X_shift_5 : decode b_X_shift 5 = .ok (.iload_n 2, 1) := by decide +kernel
theorem d_X_shift_6 : decode b_X_shift 6 = .ok (.i2l, 1) := by decide +kernel
theorem d_X_shift_7 : decode b_X_shift 7 = .ok (.lconst 0, 1) := by decide +kernel
theorem d_X_shift_8 : decode b_X_shift 8 = .ok (.ldc2_w 102, 3) := by decide +kernel
theorem d_X_shift_11 : decode b_X_shift 11 = .ok (.invokestatic 80, 3) := by decide +kernel
theorem d_X_shift_14 : decode b_X_shift 14 = .ok (.aload_n 0, 1) := by decide +kernel
theorem d_X_shift_15 : decode b_X_shift 15 = .ok (.getfield 13, 3) := by decide +kernel
theorem d_X_shift_18 : decode b_X_shift 18 = .ok (.iload_n 1, 1) := by decide +kernel
theorem d_X_shift_19 : decode b_X_shift 19 = .ok (.iaload, 1) := by decide +kernel
theorem d_X_shift_20 : decode b_X_shift 20 = .ok (.istore_n 3, 1) := by decide +kernel
theorem d_X_shift_21 : decode b_X_shift 21 = .ok (.aload_n 0, 1) := by decide +kernel
theorem d_X_shift_22 : decode b_X_shift 22 = .ok (.getfield 13, 3) := by decide +kernel
theorem d_X_shift_25 : decode b_X_shift 25 = .ok (.iload_n 1, 1) := by decide +kernel
theorem d_X_shift_26 : decode b_X_shift 26 = .ok (.iload_n 2, 1) := by decide +kernel
theorem d_X_shift_27 : decode b_X_shift 27 = .ok (.iastore, 1) := by decide +kernel
theorem d_X_shift_28 : decode b_X_shift 28 = .ok (.aload_n 0, 1) := by decide +kernel
theorem d_X_shift_29 : decode b_X_shift 29 = .ok (.iload_n 1, 1) := by decide +kernel
theorem d_X_shift_30 : decode b_X_shift 30 = .ok (.invokevirtual 97, 3) := by decide +kernel
theorem d_X_shift_33 : decode b_X_shift 33 = .ok (.iload_n 3, 1) := by decide +kernel
theorem d_X_shift_34 : decode b_X_shift 34 = .ok (.ireturn, 1) := by decide +kernel
theorem d_X_size_0 : decode b_X_size 0 = .ok (.aload_n 0, 1) := by decide +kernel
theorem d_X_size_1 : decode b_X_size 1 = .ok (.aload_n 0, 1) := by decide +kernel
theorem d_X_size_2 : decode b_X_size 2 = .ok (.getfield 48, 3) := by decide +kernel
theorem d_X_size_5 : decode b_X_size 5 = .ok (.iload_n 1, 1) := by decide +kernel
theorem d_X_size_6 : decode b_X_size 6 = .ok (.iload_n 2, 1) := by decide +kernel
theorem d_X_size_7 : decode b_X_size 7 = .ok (.invokevirtual 104, 3) := by decide +kernel
theorem d_X_size_10 : decode b_X_size 10 = .ok (.ireturn, 1) := by decide +kernel
theorem d_X_head_0 : decode b_X_head 0 = .ok (.aload_n 0, 1) := by decide +kernel
theorem d_X_head_1 : decode b_X_head 1 = .ok (.aload_n 0, 1) := by decide +kernel
theorem d_X_head_2 : decode b_X_head 2 = .ok (.getfield 51, 3) := by decide +kernel
theorem d_X_head_5 : decode b_X_head 5 = .ok (.iload_n 1, 1) := by decide +kernel
theorem d_X_head_6 : decode b_X_head 6 = .ok (.iload_n 2, 1) := by decide +kernel
theorem d_X_head_7 : decode b_X_head 7 = .ok (.invokevirtual 104, 3) := by decide +kernel
theorem d_X_head_10 : decode b_X_head 10 = .ok (.ireturn, 1) := by decide +kernel
theorem d_X_run_0 : decode b_X_run 0 = .ok (.iconst 0, 1) := by decide +kernel
theorem d_X_run_1 : decode b_X_run 1 = .ok (.istore_n 1, 1) := by decide +kernel
theorem d_X_run_2 : decode b_X_run 2 = .ok (.iconst 0, 1) := by decide +kernel
theorem d_X_run_3 : decode b_X_run 3 = .ok (.istore_n 2, 1) := by decide +kernel
theorem d_X_run_4 : decode b_X_run 4 = .ok (.iconst 0, 1) := by decide +kernel
theorem d_X_run_5 : decode b_X_run 5 = .ok (.istore_n 3, 1) := by decide +kernel
theorem d_X_run_6 : decode b_X_run 6 = .ok (.iload_n 3, 1) := by decide +kernel
theorem d_X_run_7 : decode b_X_run 7 = .ok (.aload_n 0, 1) := by decide +kernel
theorem d_X_run_8 : decode b_X_run 8 = .ok (.getfield 44, 3) := by decide +kernel
theorem d_X_run_11 : decode b_X_run 11 = .ok (.if_icmp .ge 48, 3) := by decide +kernel
theorem d_X_run_14 : decode b_X_run 14 = .ok (.aload_n 0, 1) := by decide +kernel
theorem d_X_run_15 : decode b_X_run 15 = .ok (.getfield 54, 3) := by decide +kernel
theorem d_X_run_18 : decode b_X_run 18 = .ok (.iload_n 3, 1) := by decide +kernel
theorem d_X_run_19 : decode b_X_run 19 = .ok (.iconst 0, 1) := by decide +kernel
theorem d_X_run_20 : decode b_X_run 20 = .ok (.iastore, 1) := by decide +kernel
theorem d_X_run_21 : decode b_X_run 21 = .ok (.aload_n 0, 1) := by decide +kernel
theorem d_X_run_22 : decode b_X_run 22 = .ok (.getfield 51, 3) := by decide +kernel
theorem d_X_run_25 : decode b_X_run 25 = .ok (.iload_n 3, 1) := by decide +kernel
theorem d_X_run_26 : decode b_X_run 26 = .ok (.iaload, 1) := by decide +kernel
theorem d_X_run_27 : decode b_X_run 27 = .ok (.aload_n 0, 1) := by decide +kernel
theorem d_X_run_28 : decode b_X_run 28 = .ok (.getfield 48, 3) := by decide +kernel
theorem d_X_run_31 : decode b_X_run 31 = .ok (.iload_n 3, 1) := by decide +kernel
theorem d_X_run_32 : decode b_X_run 32 = .ok (.iaload, 1) := by decide +kernel
theorem d_X_run_33 : decode b_X_run 33 = .ok (.if_icmp .gt 13, 3) := by decide +kernel
theorem d_X_run_36 : decode b_X_run 36 = .ok (.aload_n 0, 1) := by decide +kernel
theorem d_X_run_37 : decode b_X_run 37 = .ok (.iload_n 3, 1) := by decide +kernel
theorem d_X_run_38 : decode b_X_run 38 = .ok (.iload_n 2, 1) := by decide +kernel
theorem d_X_run_39 : decode b_X_run 39 = .ok (.invokevirtual 108, 3) := by decide +kernel
theorem d_X_run_42 : decode b_X_run 42 = .ok (.istore_n 2, 1) := by decide +kernel
theorem d_X_run_43 : decode b_X_run 43 = .ok (.iinc 1 1, 3) := by decide +kernel
theorem d_X_run_46 : decode b_X_run 46 = .ok (.aload_n 0, 1) := by decide +kernel
theorem d_X_run_47 : decode b_X_run 47 = .ok (.getfield 57, 3) := by decide +kernel
theorem d_X_run_50 : decode b_X_run 50 = .ok (.iload_n 3, 1) := by decide +kernel
theorem d_X_run_51 : decode b_X_run 51 = .ok (.iload_n 2, 1) := by decide +kernel
theorem d_X_run_52 : decode b_X_run 52 = .ok (.iastore, 1) := by decide +kernel
theorem d_X_run_53 : decode b_X_run 53 = .ok (.iinc 3 1, 3) := by decide +kernel
theorem d_X_run_56 : decode b_X_run 56 = .ok (.goto (-50), 3) := by decide +kernel
theorem d_X_run_59 : decode b_X_run 59 = .ok (.aload_n 0, 1) := by decide +kernel
theorem d_X_run_60 : decode b_X_run 60 = .ok (.iconst 1, 1) := by decide +kernel
theorem d_X_run_61 : decode b_X_run 61 = .ok (.putfield 70, 3) := by decide +kernel
theorem d_X_run_64 : decode b_X_run 64 = .ok (.iload_n 1, 1) := by decide +kernel
theorem d_X_run_65 : decode b_X_run 65 = .ok (.ireturn, 1) := by decide +kernel
theorem d_X_hull_0 : decode b_X_hull 0 = .ok (.aload_n 0, 1) := by decide +kernel
theorem d_X_hull_1 : decode b_X_hull 1 = .ok (.getfield 29, 3) := by decide +kernel
theorem d_X_hull_4 : decode b_X_hull 4 = .ok (.aload_n 0, 1) := by decide +kernel
theorem d_X_hull_5 : decode b_X_hull 5 = .ok (.iload_n 1, 1) := by decide +kernel
theorem d_X_hull_6 : decode b_X_hull 6 = .ok (.iload_n 2, 1) := by decide +kernel
theorem d_X_hull_7 : decode b_X_hull 7 = .ok (.invokevirtual 111, 3) := by decide +kernel
theorem d_X_hull_10 : decode b_X_hull 10 = .ok (.iaload, 1) := by decide +kernel
theorem d_X_hull_11 : decode b_X_hull 11 = .ok (.ifCond .le 7, 3) := by decide +kernel
theorem d_X_hull_14 : decode b_X_hull 14 = .ok (.iconst 1, 1) := by decide +kernel
theorem d_X_hull_15 : decode b_X_hull 15 = .ok (.goto 4, 3) := by decide +kernel
theorem d_X_hull_18 : decode b_X_hull 18 = .ok (.iconst 0, 1) := by decide +kernel
theorem d_X_hull_19 : decode b_X_hull 19 = .ok (.ireturn, 1) := by decide +kernel
theorem d_X_slope_0 : decode b_X_slope 0 = .ok (.aload_n 0, 1) := by decide +kernel
theorem d_X_slope_1 : decode b_X_slope 1 = .ok (.iload_n 1, 1) := by decide +kernel
theorem d_X_slope_2 : decode b_X_slope 2 = .ok (.iload_n 2, 1) := by decide +kernel
theorem d_X_slope_3 : decode b_X_slope 3 = .ok (.invokevirtual 111, 3) := by decide +kernel
theorem d_X_slope_6 : decode b_X_slope 6 = .ok (.istore 4, 2) := by decide +kernel
theorem d_X_slope_8 : decode b_X_slope 8 = .ok (.iload_n 3, 1) := by decide +kernel
theorem d_X_slope_9 : decode b_X_slope 9 = .ok (.ifCond .eq 13, 3) := by decide +kernel
theorem d_X_slope_12 : decode b_X_slope 12 = .ok (.aload_n 0, 1) := by decide +kernel
theorem d_X_slope_13 : decode b_X_slope 13 = .ok (.getfield 25, 3) := by decide +kernel
theorem d_X_slope_16 : decode b_X_slope 16 = .ok (.iload 4, 2) := by decide +kernel
theorem d_X_slope_18 : decode b_X_slope 18 = .ok (.laload, 1) := by decide +kernel
theorem d_X_slope_19 : decode b_X_slope 19 = .ok (.goto 11, 3) := by decide +kernel
theorem d_X_slope_22 : decode b_X_slope 22 = .ok (.aload_n 0, 1) := by decide +kernel
theorem d_X_slope_23 : decode b_X_slope 23 = .ok (.getfield 29, 3) := by decide +kernel
theorem d_X_slope_26 : decode b_X_slope 26 = .ok (.iload 4, 2) := by decide +kernel
theorem d_X_slope_28 : decode b_X_slope 28 = .ok (.iaload, 1) := by decide +kernel
theorem d_X_slope_29 : decode b_X_slope 29 = .ok (.i2l, 1) := by decide +kernel
theorem d_X_slope_30 : decode b_X_slope 30 = .ok (.lreturn, 1) := by decide +kernel
theorem d_X_row_0 : decode b_X_row 0 = .ok (.aload_n 0, 1) := by decide +kernel
theorem d_X_row_1 : decode b_X_row 1 = .ok (.getfield 114, 3) := by decide +kernel
theorem d_X_row_4 : decode b_X_row 4 = .ok (.ireturn, 1) := by decide +kernel
theorem d_X_at_0 : decode b_X_at 0 = .ok (.iload_n 1, 1) := by decide +kernel
theorem d_X_at_1 : decode b_X_at 1 = .ok (.ifCond .lt 11, 3) := by decide +kernel
theorem d_X_at_4 : decode b_X_at 4 = .ok (.iload_n 1, 1) := by decide +kernel
theorem d_X_at_5 : decode b_X_at 5 = .ok (.aload_n 0, 1) := by decide +kernel
theorem d_X_at_6 : decode b_X_at 6 = .ok (.getfield 114, 3) := by decide +kernel
theorem d_X_at_9 : decode b_X_at 9 = .ok (.if_icmp .lt 13, 3) := by decide +kernel
theorem d_X_at_12 : decode b_X_at 12 = .ok (.new 117, 3) := by decide +kernel
theorem d_X_at_15 : decode b_X_at 15 = .ok (.dup, 1) := by decide +kernel
theorem d_X_at_16 : decode b_X_at 16 = .ok (.ldc 119, 2) := by decide +kernel
theorem d_X_at_18 : decode b_X_at 18 = .ok (.invokespecial 121, 3) := by decide +kernel
theorem d_X_at_21 : decode b_X_at 21 = .ok (.athrow, 1) := by decide +kernel
theorem d_X_at_22 : decode b_X_at 22 = .ok (.aload_n 0, 1) := by decide +kernel
theorem d_X_at_23 : decode b_X_at 23 = .ok (.getfield 32, 3) := by decide +kernel
theorem d_X_at_26 : decode b_X_at 26 = .ok (.iload_n 1, 1) := by decide +kernel
theorem d_X_at_27 : decode b_X_at 27 = .ok (.iaload, 1) := by decide +kernel
theorem d_X_at_28 : decode b_X_at 28 = .ok (.istore_n 3, 1) := by decide +kernel
theorem d_X_at_29 : decode b_X_at 29 = .ok (.iload_n 2, 1) := by decide +kernel
theorem d_X_at_30 : decode b_X_at 30 = .ok (.tableswitch 69 0 4 #[34, 39, 46, 53, 59], 34) := by decide +kernel
theorem d_X_at_64 : decode b_X_at 64 = .ok (.iload_n 3, 1) := by decide +kernel
theorem d_X_at_65 : decode b_X_at 65 = .ok (.invokestatic 122, 3) := by decide +kernel
theorem d_X_at_68 : decode b_X_at 68 = .ok (.ireturn, 1) := by decide +kernel
theorem d_X_at_69 : decode b_X_at 69 = .ok (.iload_n 3, 1) := by decide +kernel
theorem d_X_at_70 : decode b_X_at 70 = .ok (.invokestatic 125, 3) := by decide +kernel
theorem d_X_at_73 : decode b_X_at 73 = .ok (.iconst 1, 1) := by decide +kernel
theorem d_X_at_74 : decode b_X_at 74 = .ok (.isub, 1) := by decide +kernel
theorem d_X_at_75 : decode b_X_at 75 = .ok (.ireturn, 1) := by decide +kernel
theorem d_X_at_76 : decode b_X_at 76 = .ok (.aload_n 0, 1) := by decide +kernel
theorem d_X_at_77 : decode b_X_at 77 = .ok (.getfield 29, 3) := by decide +kernel
theorem d_X_at_80 : decode b_X_at 80 = .ok (.iload_n 3, 1) := by decide +kernel
theorem d_X_at_81 : decode b_X_at 81 = .ok (.iaload, 1) := by decide +kernel
theorem d_X_at_82 : decode b_X_at 82 = .ok (.ireturn, 1) := by decide +kernel
theorem d_X_at_83 : decode b_X_at 83 = .ok (.aload_n 0, 1) := by decide +kernel
theorem d_X_at_84 : decode b_X_at 84 = .ok (.iload_n 3, 1) := by decide +kernel
theorem d_X_at_85 : decode b_X_at 85 = .ok (.invokevirtual 128, 3) := by decide +kernel
theorem d_X_at_88 : decode b_X_at 88 = .ok (.ireturn, 1) := by decide +kernel
theorem d_X_at_89 : decode b_X_at 89 = .ok (.aload_n 0, 1) := by decide +kernel
theorem d_X_at_90 : decode b_X_at 90 = .ok (.invokevirtual 131, 3) := by decide +kernel
theorem d_X_at_93 : decode b_X_at 93 = .ok (.aload_n 0, 1) := by decide +kernel
theorem d_X_at_94 : decode b_X_at 94 = .ok (.iload_n 1, 1) := by decide +kernel
theorem d_X_at_95 : decode b_X_at 95 = .ok (.invokevirtual 134, 3) := by decide +kernel
theorem d_X_at_98 : decode b_X_at 98 = .ok (.ireturn, 1) := by decide +kernel
theorem d_X_at_99 : decode b_X_at 99 = .ok (.new 137, 3) := by decide +kernel
theorem d_X_at_102 : decode b_X_at 102 = .ok (.dup, 1) := by decide +kernel
theorem d_X_at_103 : decode b_X_at 103 = .ok (.ldc 139, 2) := by decide +kernel
theorem d_X_at_105 : decode b_X_at 105 = .ok (.invokespecial 141, 3) := by decide +kernel
theorem d_X_at_108 : decode b_X_at 108 = .ok (.athrow, 1) := by decide +kernel
theorem d_X_passes_0 : decode b_X_passes 0 = .ok (.aload_n 0, 1) := by decide +kernel
theorem d_X_passes_1 : decode b_X_passes 1 = .ok (.invokevirtual 131, 3) := by decide +kernel
theorem d_X_passes_4 : decode b_X_passes 4 = .ok (.aload_n 0, 1) := by decide +kernel
theorem d_X_passes_5 : decode b_X_passes 5 = .ok (.iload_n 1, 1) := by decide +kernel
theorem d_X_passes_6 : decode b_X_passes 6 = .ok (.invokevirtual 142, 3) := by decide +kernel
theorem d_X_passes_9 : decode b_X_passes 9 = .ok (.aload_n 0, 1) := by decide +kernel
theorem d_X_passes_10 : decode b_X_passes 10 = .ok (.iload_n 2, 1) := by decide +kernel
theorem d_X_passes_11 : decode b_X_passes 11 = .ok (.invokevirtual 74, 3) := by decide +kernel
theorem d_X_passes_14 : decode b_X_passes 14 = .ok (.aload_n 0, 1) := by decide +kernel
theorem d_X_passes_15 : decode b_X_passes 15 = .ok (.getfield 57, 3) := by decide +kernel
theorem d_X_passes_18 : decode b_X_passes 18 = .ok (.iload_n 1, 1) := by decide +kernel
theorem d_X_passes_19 : decode b_X_passes 19 = .ok (.iaload, 1) := by decide +kernel
theorem d_X_passes_20 : decode b_X_passes 20 = .ok (.iconst 1, 1) := by decide +kernel
theorem d_X_passes_21 : decode b_X_passes 21 = .ok (.isub, 1) := by decide +kernel
theorem d_X_passes_22 : decode b_X_passes 22 = .ok (.istore_n 3, 1) := by decide +kernel
theorem d_X_passes_23 : decode b_X_passes 23 = .ok (.iload_n 3, 1) := by decide +kernel
theorem d_X_passes_24 : decode b_X_passes 24 = .ok (.ifCond .lt 32, 3) := by decide +kernel
theorem d_X_passes_27 : decode b_X_passes 27 = .ok (.aload_n 0, 1) := by decide +kernel
theorem d_X_passes_28 : decode b_X_passes 28 = .ok (.getfield 32, 3) := by decide +kernel
theorem d_X_passes_31 : decode b_X_passes 31 = .ok (.iload_n 3, 1) := by decide +kernel
theorem d_X_passes_32 : decode b_X_passes 32 = .ok (.iaload, 1) := by decide +kernel
theorem d_X_passes_33 : decode b_X_passes 33 = .ok (.invokestatic 122, 3) := by decide +kernel
theorem d_X_passes_36 : decode b_X_passes 36 = .ok (.iload_n 2, 1) := by decide +kernel
theorem d_X_passes_37 : decode b_X_passes 37 = .ok (.if_icmp .ne 13, 3) := by decide +kernel
theorem d_X_passes_40 : decode b_X_passes 40 = .ok (.aload_n 0, 1) := by decide +kernel
theorem d_X_passes_41 : decode b_X_passes 41 = .ok (.getfield 32, 3) := by decide +kernel
theorem d_X_passes_44 : decode b_X_passes 44 = .ok (.iload_n 3, 1) := by decide +kernel
theorem d_X_passes_45 : decode b_X_passes 45 = .ok (.iaload, 1) := by decide +kernel
theorem d_X_passes_46 : decode b_X_passes 46 = .ok (.invokestatic 125, 3) := by decide +kernel
theorem d_X_passes_49 : decode b_X_passes 49 = .ok (.ireturn, 1) := by decide +kernel
theorem d_X_passes_50 : decode b_X_passes 50 = .ok (.iinc 3 (-1), 3) := by decide +kernel
theorem d_X_passes_53 : decode b_X_passes 53 = .ok (.goto (-30), 3) := by decide +kernel
theorem d_X_passes_56 : decode b_X_passes 56 = .ok (.iconst 0, 1) := by decide +kernel
theorem d_X_passes_57 : decode b_X_passes 57 = .ok (.ireturn, 1) := by decide +kernel
theorem d_X_bytes_0 : decode b_X_bytes 0 = .ok (.aload_n 0, 1) := by decide +kernel
theorem d_X_bytes_1 : decode b_X_bytes 1 = .ok (.invokevirtual 131, 3) := by decide +kernel
theorem d_X_bytes_4 : decode b_X_bytes 4 = .ok (.aload_n 0, 1) := by decide +kernel
theorem d_X_bytes_5 : decode b_X_bytes 5 = .ok (.iload_n 1, 1) := by decide +kernel
theorem d_X_bytes_6 : decode b_X_bytes 6 = .ok (.invokevirtual 142, 3) := by decide +kernel
theorem d_X_bytes_9 : decode b_X_bytes 9 = .ok (.aload_n 0, 1) := by decide +kernel
theorem d_X_bytes_10 : decode b_X_bytes 10 = .ok (.getfield 54, 3) := by decide +kernel
theorem d_X_bytes_13 : decode b_X_bytes 13 = .ok (.iload_n 1, 1) := by decide +kernel
theorem d_X_bytes_14 : decode b_X_bytes 14 = .ok (.iaload, 1) := by decide +kernel
theorem d_X_bytes_15 : decode b_X_bytes 15 = .ok (.ireturn, 1) := by decide +kernel
theorem d_X_gained_0 : decode b_X_gained 0 = .ok (.aload_n 0, 1) := by decide +kernel
theorem d_X_gained_1 : decode b_X_gained 1 = .ok (.invokevirtual 131, 3) := by decide +kernel
theorem d_X_gained_4 : decode b_X_gained 4 = .ok (.aload_n 0, 1) := by decide +kernel
theorem d_X_gained_5 : decode b_X_gained 5 = .ok (.iload_n 1, 1) := by decide +kernel
theorem d_X_gained_6 : decode b_X_gained 6 = .ok (.invokevirtual 142, 3) := by decide +kernel
theorem d_X_gained_9 : decode b_X_gained 9 = .ok (.lconst 0, 1) := by decide +kernel
theorem d_X_gained_10 : decode b_X_gained 10 = .ok (.lstore_n 2, 1) := by decide +kernel
theorem d_X_gained_11 : decode b_X_gained 11 = .ok (.iconst 0, 1) := by decide +kernel
theorem d_X_gained_12 : decode b_X_gained 12 = .ok (.istore 4, 2) := by decide +kernel
theorem d_X_gained_14 : decode b_X_gained 14 = .ok (.iload 4, 2) := by decide +kernel
theorem d_X_gained_16 : decode b_X_gained 16 = .ok (.aload_n 0, 1) := by decide +kernel
theorem d_X_gained_17 : decode b_X_gained 17 = .ok (.getfield 57, 3) := by decide +kernel
theorem d_X_gained_20 : decode b_X_gained 20 = .ok (.iload_n 1, 1) := by decide +kernel
theorem d_X_gained_21 : decode b_X_gained 21 = .ok (.iaload, 1) := by decide +kernel
theorem d_X_gained_22 : decode b_X_gained 22 = .ok (.if_icmp .ge 24, 3) := by decide +kernel
theorem d_X_gained_25 : decode b_X_gained 25 = .ok (.lload_n 2, 1) := by decide +kernel
theorem d_X_gained_26 : decode b_X_gained 26 = .ok (.aload_n 0, 1) := by decide +kernel
theorem d_X_gained_27 : decode b_X_gained 27 = .ok (.getfield 25, 3) := by decide +kernel
theorem d_X_gained_30 : decode b_X_gained 30 = .ok (.aload_n 0, 1) := by decide +kernel
theorem d_X_gained_31 : decode b_X_gained 31 = .ok (.getfield 32, 3) := by decide +kernel
theorem d_X_gained_34 : decode b_X_gained 34 = .ok (.iload 4, 2) := by decide +kernel
theorem d_X_gained_36 : decode b_X_gained 36 = .ok (.iaload, 1) := by decide +kernel
theorem d_X_gained_37 : decode b_X_gained 37 = .ok (.laload, 1) := by decide +kernel
theorem d_X_gained_38 : decode b_X_gained 38 = .ok (.ladd, 1) := by decide +kernel
theorem d_X_gained_39 : decode b_X_gained 39 = .ok (.lstore_n 2, 1) := by decide +kernel
theorem d_X_gained_40 : decode b_X_gained 40 = .ok (.iinc 4 1, 3) := by decide +kernel
theorem d_X_gained_43 : decode b_X_gained 43 = .ok (.goto (-29), 3) := by decide +kernel
theorem d_X_gained_46 : decode b_X_gained 46 = .ok (.lload_n 2, 1) := by decide +kernel
theorem d_X_gained_47 : decode b_X_gained 47 = .ok (.lreturn, 1) := by decide +kernel
theorem d_X_least_0 : decode b_X_least 0 = .ok (.iload_n 1, 1) := by decide +kernel
theorem d_X_least_1 : decode b_X_least 1 = .ok (.i2l, 1) := by decide +kernel
theorem d_X_least_2 : decode b_X_least 2 = .ok (.lconst 0, 1) := by decide +kernel
theorem d_X_least_3 : decode b_X_least 3 = .ok (.aload_n 0, 1) := by decide +kernel
theorem d_X_least_4 : decode b_X_least 4 = .ok (.getfield 114, 3) := by decide +kernel
theorem d_X_least_7 : decode b_X_least 7 = .ok (.i2l, 1) := by decide +kernel
theorem d_X_least_8 : decode b_X_least 8 = .ok (.invokestatic 80, 3) := by decide +kernel
theorem d_X_least_11 : decode b_X_least 11 = .ok (.iconst 0, 1) := by decide +kernel
theorem d_X_least_12 : decode b_X_least 12 = .ok (.istore_n 2, 1) := by decide +kernel
theorem d_X_least_13 : decode b_X_least 13 = .ok (.iconst 0, 1) := by decide +kernel
theorem d_X_least_14 : decode b_X_least 14 = .ok (.istore_n 3, 1) := by decide +kernel
theorem d_X_least_15 : decode b_X_least 15 = .ok (.iload_n 3, 1) := by decide +kernel
theorem d_X_least_16 : decode b_X_least 16 = .ok (.iload_n 1, 1) := by decide +kernel
theorem d_X_least_17 : decode b_X_least 17 = .ok (.if_icmp .ge 23, 3) := by decide +kernel
theorem d_X_least_20 : decode b_X_least 20 = .ok (.iload_n 2, 1) := by decide +kernel
theorem d_X_least_21 : decode b_X_least 21 = .ok (.aload_n 0, 1) := by decide +kernel
theorem d_X_least_22 : decode b_X_least 22 = .ok (.getfield 29, 3) := by decide +kernel
theorem d_X_least_25 : decode b_X_least 25 = .ok (.aload_n 0, 1) := by decide +kernel
theorem d_X_least_26 : decode b_X_least 26 = .ok (.getfield 32, 3) := by decide +kernel
theorem d_X_least_29 : decode b_X_least 29 = .ok (.iload_n 3, 1) := by decide +kernel
theorem d_X_least_30 : decode b_X_least 30 = .ok (.iaload, 1) := by decide +kernel
theorem d_X_least_31 : decode b_X_least 31 = .ok (.iaload, 1) := by decide +kernel
theorem d_X_least_32 : decode b_X_least 32 = .ok (.iadd, 1) := by decide +kernel
theorem d_X_least_33 : decode b_X_least 33 = .ok (.istore_n 2, 1) := by decide +kernel
theorem d_X_least_34 : decode b_X_least 34 = .ok (.iinc 3 1, 3) := by decide +kernel
theorem d_X_least_37 : decode b_X_least 37 = .ok (.goto (-22), 3) := by decide +kernel
theorem d_X_least_40 : decode b_X_least 40 = .ok (.iload_n 2, 1) := by decide +kernel
theorem d_X_least_41 : decode b_X_least 41 = .ok (.ireturn, 1) := by decide +kernel
theorem d_X_above_0 : decode b_X_above 0 = .ok (.iload_n 3, 1) := by decide +kernel
theorem d_X_above_1 : decode b_X_above 1 = .ok (.i2l, 1) := by decide +kernel
theorem d_X_above_2 : decode b_X_above 2 = .ok (.lconst 1, 1) := by decide +kernel
theorem d_X_above_3 : decode b_X_above 3 = .ok (.ldc2_w 86, 3) := by decide +kernel
theorem d_X_above_6 : decode b_X_above 6 = .ok (.invokestatic 80, 3) := by decide +kernel
theorem d_X_above_9 : decode b_X_above 9 = .ok (.lload_n 1, 1) := by decide +kernel
theorem d_X_above_10 : decode b_X_above 10 = .ok (.ldc2_w 145, 3) := by decide +kernel
theorem d_X_above_13 : decode b_X_above 13 = .ok (.ldc2_w 147, 3) := by decide +kernel
theorem d_X_above_16 : decode b_X_above 16 = .ok (.invokestatic 80, 3) := by decide +kernel
theorem d_X_above_19 : decode b_X_above 19 = .ok (.iconst 0, 1) := by decide +kernel
theorem d_X_above_20 : decode b_X_above 20 = .ok (.istore 4, 2) := by decide +kernel
theorem d_X_above_22 : decode b_X_above 22 = .ok (.iload 4, 2) := by decide +kernel
theorem d_X_above_24 : decode b_X_above 24 = .ok (.aload_n 0, 1) := by decide +kernel
theorem d_X_above_25 : decode b_X_above 25 = .ok (.getfield 114, 3) := by decide +kernel
theorem d_X_above_28 : decode b_X_above 28 = .ok (.if_icmp .ge 43, 3) := by decide +kernel
theorem d_X_above_31 : decode b_X_above 31 = .ok (.aload_n 0, 1) := by decide +kernel
theorem d_X_above_32 : decode b_X_above 32 = .ok (.getfield 25, 3) := by decide +kernel
theorem d_X_above_35 : decode b_X_above 35 = .ok (.aload_n 0, 1) := by decide +kernel
theorem d_X_above_36 : decode b_X_above 36 = .ok (.getfield 32, 3) := by decide +kernel
theorem d_X_above_39 : decode b_X_above 39 = .ok (.iload 4, 2) := by decide +kernel
theorem d_X_above_41 : decode b_X_above 41 = .ok (.iaload, 1) := by decide +kernel
theorem d_X_above_42 : decode b_X_above 42 = .ok (.laload, 1) := by decide +kernel
theorem d_X_above_43 : decode b_X_above 43 = .ok (.iload_n 3, 1) := by decide +kernel
theorem d_X_above_44 : decode b_X_above 44 = .ok (.i2l, 1) := by decide +kernel
theorem d_X_above_45 : decode b_X_above 45 = .ok (.lmul, 1) := by decide +kernel
theorem d_X_above_46 : decode b_X_above 46 = .ok (.lload_n 1, 1) := by decide +kernel
theorem d_X_above_47 : decode b_X_above 47 = .ok (.aload_n 0, 1) := by decide +kernel
theorem d_X_above_48 : decode b_X_above 48 = .ok (.getfield 29, 3) := by decide +kernel
theorem d_X_above_51 : decode b_X_above 51 = .ok (.aload_n 0, 1) := by decide +kernel
theorem d_X_above_52 : decode b_X_above 52 = .ok (.getfield 32, 3) := by decide +kernel
theorem d_X_above_55 : decode b_X_above 55 = .ok (.iload 4, 2) := by decide +kernel
theorem d_X_above_57 : decode b_X_above 57 = .ok (.iaload, 1) := by decide +kernel
theorem d_X_above_58 : decode b_X_above 58 = .ok (.iaload, 1) := by decide +kernel
theorem d_X_above_59 : decode b_X_above 59 = .ok (.i2l, 1) := by decide +kernel
theorem d_X_above_60 : decode b_X_above 60 = .ok (.lmul, 1) := by decide +kernel
theorem d_X_above_61 : decode b_X_above 61 = .ok (.lcmp, 1) := by decide +kernel
theorem d_X_above_62 : decode b_X_above 62 = .ok (.ifCond .lt 9, 3) := by decide +kernel
theorem d_X_above_65 : decode b_X_above 65 = .ok (.iinc 4 1, 3) := by decide +kernel
theorem d_X_above_68 : decode b_X_above 68 = .ok (.goto (-46), 3) := by decide +kernel
theorem d_X_above_71 : decode b_X_above 71 = .ok (.iload 4, 2) := by decide +kernel
theorem d_X_above_73 : decode b_X_above 73 = .ok (.ireturn, 1) := by decide +kernel
theorem d_X_told_0 : decode b_X_told 0 = .ok (.iload_n 1, 1) := by decide +kernel
theorem d_X_told_1 : decode b_X_told 1 = .ok (.tableswitch 59 0 3 #[31, 36, 41, 46], 31) := by decide +kernel
theorem d_X_told_32 : decode b_X_told 32 = .ok (.aload_n 0, 1) := by decide +kernel
theorem d_X_told_33 : decode b_X_told 33 = .ok (.getfield 44, 3) := by decide +kernel
theorem d_X_told_36 : decode b_X_told 36 = .ok (.ireturn, 1) := by decide +kernel
theorem d_X_told_37 : decode b_X_told 37 = .ok (.aload_n 0, 1) := by decide +kernel
theorem d_X_told_38 : decode b_X_told 38 = .ok (.getfield 60, 3) := by decide +kernel
theorem d_X_told_41 : decode b_X_told 41 = .ok (.ireturn, 1) := by decide +kernel
theorem d_X_told_42 : decode b_X_told 42 = .ok (.aload_n 0, 1) := by decide +kernel
theorem d_X_told_43 : decode b_X_told 43 = .ok (.getfield 94, 3) := by decide +kernel
theorem d_X_told_46 : decode b_X_told 46 = .ok (.ireturn, 1) := by decide +kernel
theorem d_X_told_47 : decode b_X_told 47 = .ok (.aload_n 0, 1) := by decide +kernel
theorem d_X_told_48 : decode b_X_told 48 = .ok (.getfield 70, 3) := by decide +kernel
theorem d_X_told_51 : decode b_X_told 51 = .ok (.ifCond .eq 7, 3) := by decide +kernel
theorem d_X_told_54 : decode b_X_told 54 = .ok (.iconst 1, 1) := by decide +kernel
theorem d_X_told_55 : decode b_X_told 55 = .ok (.goto 4, 3) := by decide +kernel
theorem d_X_told_58 : decode b_X_told 58 = .ok (.iconst 0, 1) := by decide +kernel
theorem d_X_told_59 : decode b_X_told 59 = .ok (.ireturn, 1) := by decide +kernel
theorem d_X_told_60 : decode b_X_told 60 = .ok (.iconst (-1), 1) := by decide +kernel
theorem d_X_told_61 : decode b_X_told 61 = .ok (.ireturn, 1) := by decide +kernel
theorem d_X_clear_0 : decode b_X_clear 0 = .ok (.iconst 0, 1) := by decide +kernel
theorem d_X_clear_1 : decode b_X_clear 1 = .ok (.istore_n 1, 1) := by decide +kernel
theorem d_X_clear_2 : decode b_X_clear 2 = .ok (.iload_n 1, 1) := by decide +kernel
theorem d_X_clear_3 : decode b_X_clear 3 = .ok (.aload_n 0, 1) := by decide +kernel
theorem d_X_clear_4 : decode b_X_clear 4 = .ok (.getfield 44, 3) := by decide +kernel
theorem d_X_clear_7 : decode b_X_clear 7 = .ok (.if_icmp .ge 23, 3) := by decide +kernel
theorem d_X_clear_10 : decode b_X_clear 10 = .ok (.aload_n 0, 1) := by decide +kernel
theorem d_X_clear_11 : decode b_X_clear 11 = .ok (.getfield 48, 3) := by decide +kernel
theorem d_X_clear_14 : decode b_X_clear 14 = .ok (.iload_n 1, 1) := by decide +kernel
theorem d_X_clear_15 : decode b_X_clear 15 = .ok (.iconst 0, 1) := by decide +kernel
theorem d_X_clear_16 : decode b_X_clear 16 = .ok (.iastore, 1) := by decide +kernel
theorem d_X_clear_17 : decode b_X_clear 17 = .ok (.aload_n 0, 1) := by decide +kernel
theorem d_X_clear_18 : decode b_X_clear 18 = .ok (.getfield 51, 3) := by decide +kernel
theorem d_X_clear_21 : decode b_X_clear 21 = .ok (.iload_n 1, 1) := by decide +kernel
theorem d_X_clear_22 : decode b_X_clear 22 = .ok (.iconst 0, 1) := by decide +kernel
theorem d_X_clear_23 : decode b_X_clear 23 = .ok (.iastore, 1) := by decide +kernel
theorem d_X_clear_24 : decode b_X_clear 24 = .ok (.iinc 1 1, 3) := by decide +kernel
theorem d_X_clear_27 : decode b_X_clear 27 = .ok (.goto (-25), 3) := by decide +kernel
theorem d_X_clear_30 : decode b_X_clear 30 = .ok (.aload_n 0, 1) := by decide +kernel
theorem d_X_clear_31 : decode b_X_clear 31 = .ok (.iconst 0, 1) := by decide +kernel
theorem d_X_clear_32 : decode b_X_clear 32 = .ok (.putfield 60, 3) := by decide +kernel
theorem d_X_clear_35 : decode b_X_clear 35 = .ok (.aload_n 0, 1) := by decide +kernel
theorem d_X_clear_36 : decode b_X_clear 36 = .ok (.iconst 0, 1) := by decide +kernel
theorem d_X_clear_37 : decode b_X_clear 37 = .ok (.putfield 94, 3) := by decide +kernel
theorem d_X_clear_40 : decode b_X_clear 40 = .ok (.aload_n 0, 1) := by decide +kernel
theorem d_X_clear_41 : decode b_X_clear 41 = .ok (.iconst 0, 1) := by decide +kernel
theorem d_X_clear_42 : decode b_X_clear 42 = .ok (.putfield 114, 3) := by decide +kernel
theorem d_X_clear_45 : decode b_X_clear 45 = .ok (.aload_n 0, 1) := by decide +kernel
theorem d_X_clear_46 : decode b_X_clear 46 = .ok (.iconst 0, 1) := by decide +kernel
theorem d_X_clear_47 : decode b_X_clear 47 = .ok (.putfield 70, 3) := by decide +kernel
theorem d_X_clear_50 : decode b_X_clear 50 = .ok (.return_, 1) := by decide +kernel
theorem d_X_needBlock_0 : decode b_X_needBlock 0 = .ok (.iload_n 1, 1) := by decide +kernel
theorem d_X_needBlock_1 : decode b_X_needBlock 1 = .ok (.ifCond .lt 11, 3) := by decide +kernel
theorem d_X_needBlock_4 : decode b_X_needBlock 4 = .ok (.iload_n 1, 1) := by decide +kernel
theorem d_X_needBlock_5 : decode b_X_needBlock 5 = .ok (.aload_n 0, 1) := by decide +kernel
theorem d_X_needBlock_6 : decode b_X_needBlock 6 = .ok (.getfield 60, 3) := by decide +kernel
theorem d_X_needBlock_9 : decode b_X_needBlock 9 = .ok (.if_icmp .lt 13, 3) := by decide +kernel
theorem d_X_needBlock_12 : decode b_X_needBlock 12 = .ok (.new 117, 3) := by decide +kernel
theorem d_X_needBlock_15 : decode b_X_needBlock 15 = .ok (.dup, 1) := by decide +kernel
theorem d_X_needBlock_16 : decode b_X_needBlock 16 = .ok (.ldc 149, 2) := by decide +kernel
theorem d_X_needBlock_18 : decode b_X_needBlock 18 = .ok (.invokespecial 121, 3) := by decide +kernel
theorem d_X_needBlock_21 : decode b_X_needBlock 21 = .ok (.athrow, 1) := by decide +kernel
theorem d_X_needBlock_22 : decode b_X_needBlock 22 = .ok (.return_, 1) := by decide +kernel
theorem d_X_needLayer_0 : decode b_X_needLayer 0 = .ok (.iload_n 1, 1) := by decide +kernel
theorem d_X_needLayer_1 : decode b_X_needLayer 1 = .ok (.ifCond .lt 11, 3) := by decide +kernel
theorem d_X_needLayer_4 : decode b_X_needLayer 4 = .ok (.iload_n 1, 1) := by decide +kernel
theorem d_X_needLayer_5 : decode b_X_needLayer 5 = .ok (.aload_n 0, 1) := by decide +kernel
theorem d_X_needLayer_6 : decode b_X_needLayer 6 = .ok (.getfield 44, 3) := by decide +kernel
theorem d_X_needLayer_9 : decode b_X_needLayer 9 = .ok (.if_icmp .lt 13, 3) := by decide +kernel
theorem d_X_needLayer_12 : decode b_X_needLayer 12 = .ok (.new 117, 3) := by decide +kernel
theorem d_X_needLayer_15 : decode b_X_needLayer 15 = .ok (.dup, 1) := by decide +kernel
theorem d_X_needLayer_16 : decode b_X_needLayer 16 = .ok (.ldc 151, 2) := by decide +kernel
theorem d_X_needLayer_18 : decode b_X_needLayer 18 = .ok (.invokespecial 121, 3) := by decide +kernel
theorem d_X_needLayer_21 : decode b_X_needLayer 21 = .ok (.athrow, 1) := by decide +kernel
theorem d_X_needLayer_22 : decode b_X_needLayer 22 = .ok (.return_, 1) := by decide +kernel
theorem d_X_needShared_0 : decode b_X_needShared 0 = .ok (.aload_n 0, 1) := by decide +kernel
theorem d_X_needShared_1 : decode b_X_needShared 1 = .ok (.getfield 70, 3) := by decide +kernel
theorem d_X_needShared_4 : decode b_X_needShared 4 = .ok (.ifCond .ne 13, 3) := by decide +kernel
theorem d_X_needShared_7 : decode b_X_needShared 7 = .ok (.new 153, 3) := by decide +kernel
theorem d_X_needShared_10 : decode b_X_needShared 10 = .ok (.dup, 1) := by decide +kernel
theorem d_X_needShared_11 : decode b_X_needShared 11 = .ok (.ldc 155, 2) := by decide +kernel
theorem d_X_needShared_13 : decode b_X_needShared 13 = .ok (.invokespecial 157, 3) := by decide +kernel
theorem d_X_needShared_16 : decode b_X_needShared 16 = .ok (.athrow, 1) := by decide +kernel
theorem d_X_needShared_17 : decode b_X_needShared 17 = .ok (.return_, 1) := by decide +kernel
theorem d_X_needWithin_0 : decode b_X_needWithin 0 = .ok (.lload_n 0, 1) := by decide +kernel
theorem d_X_needWithin_1 : decode b_X_needWithin 1 = .ok (.lload_n 2, 1) := by decide +kernel
theorem d_X_needWithin_2 : decode b_X_needWithin 2 = .ok (.lcmp, 1) := by decide +kernel
theorem d_X_needWithin_3 : decode b_X_needWithin 3 = .ok (.ifCond .lt 10, 3) := by decide +kernel
theorem d_X_needWithin_6 : decode b_X_needWithin 6 = .ok (.lload_n 0, 1) := by decide +kernel
theorem d_X_needWithin_7 : decode b_X_needWithin 7 = .ok (.lload 4, 2) := by decide +kernel
theorem d_X_needWithin_9 : decode b_X_needWithin 9 = .ok (.lcmp, 1) := by decide +kernel
theorem d_X_needWithin_10 : decode b_X_needWithin 10 = .ok (.ifCond .le 13, 3) := by decide +kernel
theorem d_X_needWithin_13 : decode b_X_needWithin 13 = .ok (.new 137, 3) := by decide +kernel
theorem d_X_needWithin_16 : decode b_X_needWithin 16 = .ok (.dup, 1) := by decide +kernel
theorem d_X_needWithin_17 : decode b_X_needWithin 17 = .ok (.ldc 158, 2) := by decide +kernel
theorem d_X_needWithin_19 : decode b_X_needWithin 19 = .ok (.invokespecial 141, 3) := by decide +kernel
theorem d_X_needWithin_22 : decode b_X_needWithin 22 = .ok (.athrow, 1) := by decide +kernel
theorem d_X_needWithin_23 : decode b_X_needWithin 23 = .ok (.return_, 1) := by decide +kernel
theorem d_X_tellLayer_0 : decode b_X_tellLayer 0 = .ok (.aload_n 0, 1) := by decide +kernel
theorem d_X_tellLayer_1 : decode b_X_tellLayer 1 = .ok (.iload_n 2, 1) := by decide +kernel
theorem d_X_tellLayer_2 : decode b_X_tellLayer 2 = .ok (.invokevirtual 142, 3) := by decide +kernel
theorem d_X_tellLayer_5 : decode b_X_tellLayer 5 = .ok (.iload_n 3, 1) := by decide +kernel
theorem d_X_tellLayer_6 : decode b_X_tellLayer 6 = .ok (.i2l, 1) := by decide +kernel
theorem d_X_tellLayer_7 : decode b_X_tellLayer 7 = .ok (.lconst 0, 1) := by decide +kernel
theorem d_X_tellLayer_8 : decode b_X_tellLayer 8 = .ok (.ldc2_w 160, 3) := by decide +kernel
theorem d_X_tellLayer_11 : decode b_X_tellLayer 11 = .ok (.invokestatic 80, 3) := by decide +kernel
theorem d_X_tellLayer_14 : decode b_X_tellLayer 14 = .ok (.aload_n 1, 1) := by decide +kernel
theorem d_X_tellLayer_15 : decode b_X_tellLayer 15 = .ok (.iload_n 2, 1) := by decide +kernel
theorem d_X_tellLayer_16 : decode b_X_tellLayer 16 = .ok (.iaload, 1) := by decide +kernel
theorem d_X_tellLayer_17 : decode b_X_tellLayer 17 = .ok (.istore 4, 2) := by decide +kernel
theorem d_X_tellLayer_19 : decode b_X_tellLayer 19 = .ok (.aload_n 1, 1) := by decide +kernel
theorem d_X_tellLayer_20 : decode b_X_tellLayer 20 = .ok (.iload_n 2, 1) := by decide +kernel
theorem d_X_tellLayer_21 : decode b_X_tellLayer 21 = .ok (.iload_n 3, 1) := by decide +kernel
theorem d_X_tellLayer_22 : decode b_X_tellLayer 22 = .ok (.iastore, 1) := by decide +kernel
theorem d_X_tellLayer_23 : decode b_X_tellLayer 23 = .ok (.aload_n 0, 1) := by decide +kernel
theorem d_X_tellLayer_24 : decode b_X_tellLayer 24 = .ok (.iconst 0, 1) := by decide +kernel
theorem d_X_tellLayer_25 : decode b_X_tellLayer 25 = .ok (.putfield 70, 3) := by decide +kernel
theorem d_X_tellLayer_28 : decode b_X_tellLayer 28 = .ok (.iload 4, 2) := by decide +kernel
theorem d_X_tellLayer_30 : decode b_X_tellLayer 30 = .ok (.ireturn, 1) := by decide +kernel
theorem d_X_startOf_0 : decode b_X_startOf 0 = .ok (.iload_n 0, 1) := by decide +kernel
theorem d_X_startOf_1 : decode b_X_startOf 1 = .ok (.bipush 25, 2) := by decide +kernel
theorem d_X_startOf_3 : decode b_X_startOf 3 = .ok (.imul, 1) := by decide +kernel
theorem d_X_startOf_4 : decode b_X_startOf 4 = .ok (.ireturn, 1) := by decide +kernel
theorem d_X_pointOf_0 : decode b_X_pointOf 0 = .ok (.aload_n 0, 1) := by decide +kernel
theorem d_X_pointOf_1 : decode b_X_pointOf 1 = .ok (.iload_n 1, 1) := by decide +kernel
theorem d_X_pointOf_2 : decode b_X_pointOf 2 = .ok (.invokevirtual 74, 3) := by decide +kernel
theorem d_X_pointOf_5 : decode b_X_pointOf 5 = .ok (.iload_n 2, 1) := by decide +kernel
theorem d_X_pointOf_6 : decode b_X_pointOf 6 = .ok (.ifCond .lt 13, 3) := by decide +kernel
theorem d_X_pointOf_9 : decode b_X_pointOf 9 = .ok (.iload_n 2, 1) := by decide +kernel
theorem d_X_pointOf_10 : decode b_X_pointOf 10 = .ok (.aload_n 0, 1) := by decide +kernel
theorem d_X_pointOf_11 : decode b_X_pointOf 11 = .ok (.getfield 16, 3) := by decide +kernel
theorem d_X_pointOf_14 : decode b_X_pointOf 14 = .ok (.iload_n 1, 1) := by decide +kernel
theorem d_X_pointOf_15 : decode b_X_pointOf 15 = .ok (.iaload, 1) := by decide +kernel
theorem d_X_pointOf_16 : decode b_X_pointOf 16 = .ok (.if_icmp .lt 13, 3) := by decide +kernel
theorem d_X_pointOf_19 : decode b_X_pointOf 19 = .ok (.new 117, 3) := by decide +kernel
theorem d_X_pointOf_22 : decode b_X_pointOf 22 = .ok (.dup, 1) := by decide +kernel
theorem d_X_pointOf_23 : decode b_X_pointOf 23 = .ok (.ldc 162, 2) := by decide +kernel
theorem d_X_pointOf_25 : decode b_X_pointOf 25 = .ok (.invokespecial 121, 3) := by decide +kernel
theorem d_X_pointOf_28 : decode b_X_pointOf 28 = .ok (.athrow, 1) := by decide +kernel
theorem d_X_pointOf_29 : decode b_X_pointOf 29 = .ok (.iload_n 1, 1) := by decide +kernel
theorem d_X_pointOf_30 : decode b_X_pointOf 30 = .ok (.invokestatic 90, 3) := by decide +kernel
theorem d_X_pointOf_33 : decode b_X_pointOf 33 = .ok (.iconst 1, 1) := by decide +kernel
theorem d_X_pointOf_34 : decode b_X_pointOf 34 = .ok (.iadd, 1) := by decide +kernel
theorem d_X_pointOf_35 : decode b_X_pointOf 35 = .ok (.iload_n 2, 1) := by decide +kernel
theorem d_X_pointOf_36 : decode b_X_pointOf 36 = .ok (.iadd, 1) := by decide +kernel
theorem d_X_pointOf_37 : decode b_X_pointOf 37 = .ok (.ireturn, 1) := by decide +kernel
theorem d_X_blockOf_0 : decode b_X_blockOf 0 = .ok (.iload_n 0, 1) := by decide +kernel
theorem d_X_blockOf_1 : decode b_X_blockOf 1 = .ok (.bipush 25, 2) := by decide +kernel
theorem d_X_blockOf_3 : decode b_X_blockOf 3 = .ok (.idiv, 1) := by decide +kernel
theorem d_X_blockOf_4 : decode b_X_blockOf 4 = .ok (.ireturn, 1) := by decide +kernel
theorem d_X_passesUpTo_0 : decode b_X_passesUpTo 0 = .ok (.iload_n 0, 1) := by decide +kernel
theorem d_X_passesUpTo_1 : decode b_X_passesUpTo 1 = .ok (.bipush 25, 2) := by decide +kernel
theorem d_X_passesUpTo_3 : decode b_X_passesUpTo 3 = .ok (.irem, 1) := by decide +kernel
theorem d_X_passesUpTo_4 : decode b_X_passesUpTo 4 = .ok (.ireturn, 1) := by decide +kernel
theorem d_X_renewBlock_0 : decode b_X_renewBlock 0 = .ok (.aload_n 0, 1) := by decide +kernel
theorem d_X_renewBlock_1 : decode b_X_renewBlock 1 = .ok (.iload_n 1, 1) := by decide +kernel
theorem d_X_renewBlock_2 : decode b_X_renewBlock 2 = .ok (.invokevirtual 164, 3) := by decide +kernel
theorem d_X_renewBlock_5 : decode b_X_renewBlock 5 = .ok (.aload_n 0, 1) := by decide +kernel
theorem d_X_renewBlock_6 : decode b_X_renewBlock 6 = .ok (.iload_n 1, 1) := by decide +kernel
theorem d_X_renewBlock_7 : decode b_X_renewBlock 7 = .ok (.invokevirtual 167, 3) := by decide +kernel
theorem d_X_renewBlock_10 : decode b_X_renewBlock 10 = .ok (.istore_n 2, 1) := by decide +kernel
theorem d_X_renewBlock_11 : decode b_X_renewBlock 11 = .ok (.aload_n 0, 1) := by decide +kernel
theorem d_X_renewBlock_12 : decode b_X_renewBlock 12 = .ok (.iload_n 1, 1) := by decide +kernel
theorem d_X_renewBlock_13 : decode b_X_renewBlock 13 = .ok (.iload_n 2, 1) := by decide +kernel
theorem d_X_renewBlock_14 : decode b_X_renewBlock 14 = .ok (.invokevirtual 170, 3) := by decide +kernel
theorem d_X_renewBlock_17 : decode b_X_renewBlock 17 = .ok (.aload_n 0, 1) := by decide +kernel
theorem d_X_renewBlock_18 : decode b_X_renewBlock 18 = .ok (.iconst 0, 1) := by decide +kernel
theorem d_X_renewBlock_19 : decode b_X_renewBlock 19 = .ok (.putfield 70, 3) := by decide +kernel
theorem d_X_renewBlock_22 : decode b_X_renewBlock 22 = .ok (.return_, 1) := by decide +kernel
theorem d_X_takeFromRow_0 : decode b_X_takeFromRow 0 = .ok (.iconst 0, 1) := by decide +kernel
theorem d_X_takeFromRow_1 : decode b_X_takeFromRow 1 = .ok (.istore_n 2, 1) := by decide +kernel
theorem d_X_takeFromRow_2 : decode b_X_takeFromRow 2 = .ok (.iconst 0, 1) := by decide +kernel
theorem d_X_takeFromRow_3 : decode b_X_takeFromRow 3 = .ok (.istore_n 3, 1) := by decide +kernel
theorem d_X_takeFromRow_4 : decode b_X_takeFromRow 4 = .ok (.iload_n 3, 1) := by decide +kernel
theorem d_X_takeFromRow_5 : decode b_X_takeFromRow 5 = .ok (.aload_n 0, 1) := by decide +kernel
theorem d_X_takeFromRow_6 : decode b_X_takeFromRow 6 = .ok (.getfield 114, 3) := by decide +kernel
theorem d_X_takeFromRow_9 : decode b_X_takeFromRow 9 = .ok (.if_icmp .ge 37, 3) := by decide +kernel
theorem d_X_takeFromRow_12 : decode b_X_takeFromRow 12 = .ok (.aload_n 0, 1) := by decide +kernel
theorem d_X_takeFromRow_13 : decode b_X_takeFromRow 13 = .ok (.getfield 32, 3) := by decide +kernel
theorem d_X_takeFromRow_16 : decode b_X_takeFromRow 16 = .ok (.iload_n 3, 1) := by decide +kernel
theorem d_X_takeFromRow_17 : decode b_X_takeFromRow 17 = .ok (.iaload, 1) := by decide +kernel
theorem d_X_takeFromRow_18 : decode b_X_takeFromRow 18 = .ok (.invokestatic 122, 3) := by decide +kernel
theorem d_X_takeFromRow_21 : decode b_X_takeFromRow 21 = .ok (.iload_n 1, 1) := by decide +kernel
theorem d_X_takeFromRow_22 : decode b_X_takeFromRow 22 = .ok (.if_icmp .eq 18, 3) := by decide +kernel
theorem d_X_takeFromRow_25 : decode b_X_takeFromRow 25 = .ok (.aload_n 0, 1) := by decide +kernel
theorem d_X_takeFromRow_26 : decode b_X_takeFromRow 26 = .ok (.getfield 32, 3) := by decide +kernel
theorem d_X_takeFromRow_29 : decode b_X_takeFromRow 29 = .ok (.iload_n 2, 1) := by decide +kernel
theorem d_X_takeFromRow_30 : decode b_X_takeFromRow 30 = .ok (.aload_n 0, 1) := by decide +kernel
theorem d_X_takeFromRow_31 : decode b_X_takeFromRow 31 = .ok (.getfield 32, 3) := by decide +kernel
theorem d_X_takeFromRow_34 : decode b_X_takeFromRow 34 = .ok (.iload_n 3, 1) := by decide +kernel
theorem d_X_takeFromRow_35 : decode b_X_takeFromRow 35 = .ok (.iaload, 1) := by decide +kernel
theorem d_X_takeFromRow_36 : decode b_X_takeFromRow 36 = .ok (.iastore, 1) := by decide +kernel
theorem d_X_takeFromRow_37 : decode b_X_takeFromRow 37 = .ok (.iinc 2 1, 3) := by decide +kernel
theorem d_X_takeFromRow_40 : decode b_X_takeFromRow 40 = .ok (.iinc 3 1, 3) := by decide +kernel
theorem d_X_takeFromRow_43 : decode b_X_takeFromRow 43 = .ok (.goto (-39), 3) := by decide +kernel
theorem d_X_takeFromRow_46 : decode b_X_takeFromRow 46 = .ok (.aload_n 0, 1) := by decide +kernel
theorem d_X_takeFromRow_47 : decode b_X_takeFromRow 47 = .ok (.iload_n 2, 1) := by decide +kernel
theorem d_X_takeFromRow_48 : decode b_X_takeFromRow 48 = .ok (.putfield 114, 3) := by decide +kernel
theorem d_X_takeFromRow_51 : decode b_X_takeFromRow 51 = .ok (.return_, 1) := by decide +kernel
theorem d_X_makeHull_0 : decode b_X_makeHull 0 = .ok (.iload_n 1, 1) := by decide +kernel
theorem d_X_makeHull_1 : decode b_X_makeHull 1 = .ok (.invokestatic 90, 3) := by decide +kernel
theorem d_X_makeHull_4 : decode b_X_makeHull 4 = .ok (.istore_n 2, 1) := by decide +kernel
theorem d_X_makeHull_5 : decode b_X_makeHull 5 = .ok (.iload_n 2, 1) := by decide +kernel
theorem d_X_makeHull_6 : decode b_X_makeHull 6 = .ok (.aload_n 0, 1) := by decide +kernel
theorem d_X_makeHull_7 : decode b_X_makeHull 7 = .ok (.getfield 16, 3) := by decide +kernel
theorem d_X_makeHull_10 : decode b_X_makeHull 10 = .ok (.iload_n 1, 1) := by decide +kernel
theorem d_X_makeHull_11 : decode b_X_makeHull 11 = .ok (.iaload, 1) := by decide +kernel
theorem d_X_makeHull_12 : decode b_X_makeHull 12 = .ok (.iadd, 1) := by decide +kernel
theorem d_X_makeHull_13 : decode b_X_makeHull 13 = .ok (.istore_n 3, 1) := by decide +kernel
theorem d_X_makeHull_14 : decode b_X_makeHull 14 = .ok (.aload_n 0, 1) := by decide +kernel
theorem d_X_makeHull_15 : decode b_X_makeHull 15 = .ok (.getfield 9, 3) := by decide +kernel
theorem d_X_makeHull_18 : decode b_X_makeHull 18 = .ok (.iload_n 1, 1) := by decide +kernel
theorem d_X_makeHull_19 : decode b_X_makeHull 19 = .ok (.iaload, 1) := by decide +kernel
theorem d_X_makeHull_20 : decode b_X_makeHull 20 = .ok (.i2l, 1) := by decide +kernel
theorem d_X_makeHull_21 : decode b_X_makeHull 21 = .ok (.iconst 2, 1) := by decide +kernel
theorem d_X_makeHull_22 : decode b_X_makeHull 22 = .ok (.aload_n 0, 1) := by decide +kernel
theorem d_X_makeHull_23 : decode b_X_makeHull 23 = .ok (.getfield 13, 3) := by decide +kernel
theorem d_X_makeHull_26 : decode b_X_makeHull 26 = .ok (.iload_n 1, 1) := by decide +kernel
theorem d_X_makeHull_27 : decode b_X_makeHull 27 = .ok (.iaload, 1) := by decide +kernel
theorem d_X_makeHull_28 : decode b_X_makeHull 28 = .ok (.imul, 1) := by decide +kernel
theorem d_X_makeHull_29 : decode b_X_makeHull 29 = .ok (.lshl, 1) := by decide +kernel
theorem d_X_makeHull_30 : decode b_X_makeHull 30 = .ok (.lstore 4, 2) := by decide +kernel
theorem d_X_makeHull_32 : decode b_X_makeHull 32 = .ok (.aload_n 0, 1) := by decide +kernel
theorem d_X_makeHull_33 : decode b_X_makeHull 33 = .ok (.iload_n 2, 1) := by decide +kernel
theorem d_X_makeHull_34 : decode b_X_makeHull 34 = .ok (.iload_n 3, 1) := by decide +kernel
theorem d_X_makeHull_35 : decode b_X_makeHull 35 = .ok (.invokevirtual 174, 3) := by decide +kernel
theorem d_X_makeHull_38 : decode b_X_makeHull 38 = .ok (.istore 6, 2) := by decide +kernel
theorem d_X_makeHull_40 : decode b_X_makeHull 40 = .ok (.iconst 0, 1) := by decide +kernel
theorem d_X_makeHull_41 : decode b_X_makeHull 41 = .ok (.istore 7, 2) := by decide +kernel
theorem d_X_makeHull_43 : decode b_X_makeHull 43 = .ok (.iload_n 2, 1) := by decide +kernel
theorem d_X_makeHull_44 : decode b_X_makeHull 44 = .ok (.iconst 1, 1) := by decide +kernel
theorem d_X_makeHull_45 : decode b_X_makeHull 45 = .ok (.iadd, 1) := by decide +kernel
theorem d_X_makeHull_46 : decode b_X_makeHull 46 = .ok (.istore 8, 2) := by decide +kernel
theorem d_X_makeHull_48 : decode b_X_makeHull 48 = .ok (.iload 8, 2) := by decide +kernel
theorem d_X_makeHull_50 : decode b_X_makeHull 50 = .ok (.iload_n 3, 1) := by decide +kernel
theorem d_X_makeHull_51 : decode b_X_makeHull 51 = .ok (.if_icmp .gt 95, 3) := by decide +kernel
theorem d_X_makeHull_54 : decode b_X_makeHull 54 = .ok (.iload 8, 2) := by decide +kernel
theorem d_X_makeHull_56 : decode b_X_makeHull 56 = .ok (.iload 6, 2) := by decide +kernel
theorem d_X_makeHull_58 : decode b_X_makeHull 58 = .ok (.if_icmp .ne 66, 3) := by decide +kernel
theorem d_X_makeHull_61 : decode b_X_makeHull 61 = .ok (.aload_n 0, 1) := by decide +kernel
theorem d_X_makeHull_62 : decode b_X_makeHull 62 = .ok (.getfield 29, 3) := by decide +kernel
theorem d_X_makeHull_65 : decode b_X_makeHull 65 = .ok (.iload 8, 2) := by decide +kernel
theorem d_X_makeHull_67 : decode b_X_makeHull 67 = .ok (.aload_n 0, 1) := by decide +kernel
theorem d_X_makeHull_68 : decode b_X_makeHull 68 = .ok (.getfield 19, 3) := by decide +kernel
theorem d_X_makeHull_71 : decode b_X_makeHull 71 = .ok (.iload 8, 2) := by decide +kernel
theorem d_X_makeHull_73 : decode b_X_makeHull 73 = .ok (.iaload, 1) := by decide +kernel
theorem d_X_makeHull_74 : decode b_X_makeHull 74 = .ok (.aload_n 0, 1) := by decide +kernel
theorem d_X_makeHull_75 : decode b_X_makeHull 75 = .ok (.getfield 19, 3) := by decide +kernel
theorem d_X_makeHull_78 : decode b_X_makeHull 78 = .ok (.iload_n 2, 1) := by decide +kernel
theorem d_X_makeHull_79 : decode b_X_makeHull 79 = .ok (.iaload, 1) := by decide +kernel
theorem d_X_makeHull_80 : decode b_X_makeHull 80 = .ok (.isub, 1) := by decide +kernel
theorem d_X_makeHull_81 : decode b_X_makeHull 81 = .ok (.iastore, 1) := by decide +kernel
theorem d_X_makeHull_82 : decode b_X_makeHull 82 = .ok (.aload_n 0, 1) := by decide +kernel
theorem d_X_makeHull_83 : decode b_X_makeHull 83 = .ok (.getfield 25, 3) := by decide +kernel
theorem d_X_makeHull_86 : decode b_X_makeHull 86 = .ok (.iload 8, 2) := by decide +kernel
theorem d_X_makeHull_88 : decode b_X_makeHull 88 = .ok (.aload_n 0, 1) := by decide +kernel
theorem d_X_makeHull_89 : decode b_X_makeHull 89 = .ok (.getfield 22, 3) := by decide +kernel
theorem d_X_makeHull_92 : decode b_X_makeHull 92 = .ok (.iload 8, 2) := by decide +kernel
theorem d_X_makeHull_94 : decode b_X_makeHull 94 = .ok (.iaload, 1) := by decide +kernel
theorem d_X_makeHull_95 : decode b_X_makeHull 95 = .ok (.aload_n 0, 1) := by decide +kernel
theorem d_X_makeHull_96 : decode b_X_makeHull 96 = .ok (.getfield 22, 3) := by decide +kernel
theorem d_X_makeHull_99 : decode b_X_makeHull 99 = .ok (.iload_n 2, 1) := by decide +kernel
theorem d_X_makeHull_100 : decode b_X_makeHull 100 = .ok (.iaload, 1) := by decide +kernel
theorem d_X_makeHull_101 : decode b_X_makeHull 101 = .ok (.isub, 1) := by decide +kernel
theorem d_X_makeHull_102 : decode b_X_makeHull 102 = .ok (.i2l, 1) := by decide +kernel
theorem d_X_makeHull_103 : decode b_X_makeHull 103 = .ok (.lload 4, 2) := by decide +kernel
theorem d_X_makeHull_105 : decode b_X_makeHull 105 = .ok (.lmul, 1) := by decide +kernel
theorem d_X_makeHull_106 : decode b_X_makeHull 106 = .ok (.lastore, 1) := by decide +kernel
theorem d_X_makeHull_107 : decode b_X_makeHull 107 = .ok (.iinc 7 1, 3) := by decide +kernel
theorem d_X_makeHull_110 : decode b_X_makeHull 110 = .ok (.iload 8, 2) := by decide +kernel
theorem d_X_makeHull_112 : decode b_X_makeHull 112 = .ok (.istore_n 2, 1) := by decide +kernel
theorem d_X_makeHull_113 : decode b_X_makeHull 113 = .ok (.aload_n 0, 1) := by decide +kernel
theorem d_X_makeHull_114 : decode b_X_makeHull 114 = .ok (.iload_n 2, 1) := by decide +kernel
theorem d_X_makeHull_115 : decode b_X_makeHull 115 = .ok (.iload_n 3, 1) := by decide +kernel
theorem d_X_makeHull_116 : decode b_X_makeHull 116 = .ok (.invokevirtual 174, 3) := by decide +kernel
theorem d_X_makeHull_119 : decode b_X_makeHull 119 = .ok (.istore 6, 2) := by decide +kernel
theorem d_X_makeHull_121 : decode b_X_makeHull 121 = .ok (.goto 19, 3) := by decide +kernel
theorem d_X_makeHull_124 : decode b_X_makeHull 124 = .ok (.aload_n 0, 1) := by decide +kernel
theorem d_X_makeHull_125 : decode b_X_makeHull 125 = .ok (.getfield 29, 3) := by decide +kernel
theorem d_X_makeHull_128 : decode b_X_makeHull 128 = .ok (.iload 8, 2) := by decide +kernel
theorem d_X_makeHull_130 : decode b_X_makeHull 130 = .ok (.iconst 0, 1) := by decide +kernel
theorem d_X_makeHull_131 : decode b_X_makeHull 131 = .ok (.iastore, 1) := by decide +kernel
theorem d_X_makeHull_132 : decode b_X_makeHull 132 = .ok (.aload_n 0, 1) := by decide +kernel
theorem d_X_makeHull_133 : decode b_X_makeHull 133 = .ok (.getfield 25, 3) := by decide +kernel
theorem d_X_makeHull_136 : decode b_X_makeHull 136 = .ok (.iload 8, 2) := by decide +kernel
theorem d_X_makeHull_138 : decode b_X_makeHull 138 = .ok (.lconst 0, 1) := by decide +kernel
theorem d_X_makeHull_139 : decode b_X_makeHull 139 = .ok (.lastore, 1) := by decide +kernel
theorem d_X_makeHull_140 : decode b_X_makeHull 140 = .ok (.iinc 8 1, 3) := by decide +kernel
theorem d_X_makeHull_143 : decode b_X_makeHull 143 = .ok (.goto (-95), 3) := by decide +kernel
theorem d_X_makeHull_146 : decode b_X_makeHull 146 = .ok (.iload 7, 2) := by decide +kernel
theorem d_X_makeHull_148 : decode b_X_makeHull 148 = .ok (.ireturn, 1) := by decide +kernel
theorem d_X_steepestFrom_0 : decode b_X_steepestFrom 0 = .ok (.iload_n 1, 1) := by decide +kernel
theorem d_X_steepestFrom_1 : decode b_X_steepestFrom 1 = .ok (.istore_n 3, 1) := by decide +kernel
theorem d_X_steepestFrom_2 : decode b_X_steepestFrom 2 = .ok (.lconst 0, 1) := by decide +kernel
theorem d_X_steepestFrom_3 : decode b_X_steepestFrom 3 = .ok (.lstore 4, 2) := by decide +kernel
theorem d_X_steepestFrom_5 : decode b_X_steepestFrom 5 = .ok (.lconst 1, 1) := by decide +kernel
theorem d_X_steepestFrom_6 : decode b_X_steepestFrom 6 = .ok (.lstore 6, 2) := by decide +kernel
theorem d_X_steepestFrom_8 : decode b_X_steepestFrom 8 = .ok (.iload_n 1, 1) := by decide +kernel
theorem d_X_steepestFrom_9 : decode b_X_steepestFrom 9 = .ok (.iconst 1, 1) := by decide +kernel
theorem d_X_steepestFrom_10 : decode b_X_steepestFrom 10 = .ok (.iadd, 1) := by decide +kernel
theorem d_X_steepestFrom_11 : decode b_X_steepestFrom 11 = .ok (.istore 8, 2) := by decide +kernel
theorem d_X_steepestFrom_13 : decode b_X_steepestFrom 13 = .ok (.iload 8, 2) := by decide +kernel
theorem d_X_steepestFrom_15 : decode b_X_steepestFrom 15 = .ok (.iload_n 2, 1) := by decide +kernel
theorem d_X_steepestFrom_16 : decode b_X_steepestFrom 16 = .ok (.if_icmp .gt 75, 3) := by decide +kernel
theorem d_X_steepestFrom_19 : decode b_X_steepestFrom 19 = .ok (.aload_n 0, 1) := by decide +kernel
theorem d_X_steepestFrom_20 : decode b_X_steepestFrom 20 = .ok (.getfield 22, 3) := by decide +kernel
theorem d_X_steepestFrom_23 : decode b_X_steepestFrom 23 = .ok (.iload 8, 2) := by decide +kernel
theorem d_X_steepestFrom_25 : decode b_X_steepestFrom 25 = .ok (.iaload, 1) := by decide +kernel
theorem d_X_steepestFrom_26 : decode b_X_steepestFrom 26 = .ok (.aload_n 0, 1) := by decide +kernel
theorem d_X_steepestFrom_27 : decode b_X_steepestFrom 27 = .ok (.getfield 22, 3) := by decide +kernel
theorem d_X_steepestFrom_30 : decode b_X_steepestFrom 30 = .ok (.iload_n 1, 1) := by decide +kernel
theorem d_X_steepestFrom_31 : decode b_X_steepestFrom 31 = .ok (.iaload, 1) := by decide +kernel
theorem d_X_steepestFrom_32 : decode b_X_steepestFrom 32 = .ok (.isub, 1) := by decide +kernel
theorem d_X_steepestFrom_33 : decode b_X_steepestFrom 33 = .ok (.i2l, 1) := by decide +kernel
theorem d_X_steepestFrom_34 : decode b_X_steepestFrom 34 = .ok (.lstore 9, 2) := by decide +kernel
theorem d_X_steepestFrom_36 : decode b_X_steepestFrom 36 = .ok (.aload_n 0, 1) := by decide +kernel
theorem d_X_steepestFrom_37 : decode b_X_steepestFrom 37 = .ok (.getfield 19, 3) := by decide +kernel
theorem d_X_steepestFrom_40 : decode b_X_steepestFrom 40 = .ok (.iload 8, 2) := by decide +kernel
theorem d_X_steepestFrom_42 : decode b_X_steepestFrom 42 = .ok (.iaload, 1) := by decide +kernel
theorem d_X_steepestFrom_43 : decode b_X_steepestFrom 43 = .ok (.aload_n 0, 1) := by decide +kernel
theorem d_X_steepestFrom_44 : decode b_X_steepestFrom 44 = .ok (.getfield 19, 3) := by decide +kernel
theorem d_X_steepestFrom_47 : decode b_X_steepestFrom 47 = .ok (.iload_n 1, 1) := by decide +kernel
theorem d_X_steepestFrom_48 : decode b_X_steepestFrom 48 = .ok (.iaload, 1) := by decide +kernel
theorem d_X_steepestFrom_49 : decode b_X_steepestFrom 49 = .ok (.isub, 1) := by decide +kernel
theorem d_X_steepestFrom_50 : decode b_X_steepestFrom 50 = .ok (.i2l, 1) := by decide +kernel
theorem d_X_steepestFrom_51 : decode b_X_steepestFrom 51 = .ok (.lstore 11, 2) := by decide +kernel
theorem d_X_steepestFrom_53 : decode b_X_steepestFrom 53 = .ok (.lload 9, 2) := by decide +kernel
theorem d_X_steepestFrom_55 : decode b_X_steepestFrom 55 = .ok (.lconst 0, 1) := by decide +kernel
theorem d_X_steepestFrom_56 : decode b_X_steepestFrom 56 = .ok (.lcmp, 1) := by decide +kernel
theorem d_X_steepestFrom_57 : decode b_X_steepestFrom 57 = .ok (.ifCond .le 28, 3) := by decide +kernel
theorem d_X_steepestFrom_60 : decode b_X_steepestFrom 60 = .ok (.lload 9, 2) := by decide +kernel
theorem d_X_steepestFrom_62 : decode b_X_steepestFrom 62 = .ok (.lload 6, 2) := by decide +kernel
theorem d_X_steepestFrom_64 : decode b_X_steepestFrom 64 = .ok (.lmul, 1) := by decide +kernel
theorem d_X_steepestFrom_65 : decode b_X_steepestFrom 65 = .ok (.lload 4, 2) := by decide +kernel
theorem d_X_steepestFrom_67 : decode b_X_steepestFrom 67 = .ok (.lload 11, 2) := by decide +kernel
theorem d_X_steepestFrom_69 : decode b_X_steepestFrom 69 = .ok (.lmul, 1) := by decide +kernel
theorem d_X_steepestFrom_70 : decode b_X_steepestFrom 70 = .ok (.lcmp, 1) := by decide +kernel
theorem d_X_steepestFrom_71 : decode b_X_steepestFrom 71 = .ok (.ifCond .lt 14, 3) := by decide +kernel
theorem d_X_steepestFrom_74 : decode b_X_steepestFrom 74 = .ok (.iload 8, 2) := by decide +kernel
theorem d_X_steepestFrom_76 : decode b_X_steepestFrom 76 = .ok (.istore_n 3, 1) := by decide +kernel
theorem d_X_steepestFrom_77 : decode b_X_steepestFrom 77 = .ok (.lload 9, 2) := by decide +kernel
theorem d_X_steepestFrom_79 : decode b_X_steepestFrom 79 = .ok (.lstore 4, 2) := by decide +kernel
theorem d_X_steepestFrom_81 : decode b_X_steepestFrom 81 = .ok (.lload 11, 2) := by decide +kernel
theorem d_X_steepestFrom_83 : decode b_X_steepestFrom 83 = .ok (.lstore 6, 2) := by decide +kernel
theorem d_X_steepestFrom_85 : decode b_X_steepestFrom 85 = .ok (.iinc 8 1, 3) := by decide +kernel
theorem d_X_steepestFrom_88 : decode b_X_steepestFrom 88 = .ok (.goto (-75), 3) := by decide +kernel
theorem d_X_steepestFrom_91 : decode b_X_steepestFrom 91 = .ok (.iload_n 3, 1) := by decide +kernel
theorem d_X_steepestFrom_92 : decode b_X_steepestFrom 92 = .ok (.ireturn, 1) := by decide +kernel
theorem d_X_mergeIntoRow_0 : decode b_X_mergeIntoRow 0 = .ok (.iload_n 1, 1) := by decide +kernel
theorem d_X_mergeIntoRow_1 : decode b_X_mergeIntoRow 1 = .ok (.invokestatic 90, 3) := by decide +kernel
theorem d_X_mergeIntoRow_4 : decode b_X_mergeIntoRow 4 = .ok (.istore_n 3, 1) := by decide +kernel
theorem d_X_mergeIntoRow_5 : decode b_X_mergeIntoRow 5 = .ok (.aload_n 0, 1) := by decide +kernel
theorem d_X_mergeIntoRow_6 : decode b_X_mergeIntoRow 6 = .ok (.getfield 114, 3) := by decide +kernel
theorem d_X_mergeIntoRow_9 : decode b_X_mergeIntoRow 9 = .ok (.iconst 1, 1) := by decide +kernel
theorem d_X_mergeIntoRow_10 : decode b_X_mergeIntoRow 10 = .ok (.isub, 1) := by decide +kernel
theorem d_X_mergeIntoRow_11 : decode b_X_mergeIntoRow 11 = .ok (.istore 4, 2) := by decide +kernel
theorem d_X_mergeIntoRow_13 : decode b_X_mergeIntoRow 13 = .ok (.aload_n 0, 1) := by decide +kernel
theorem d_X_mergeIntoRow_14 : decode b_X_mergeIntoRow 14 = .ok (.getfield 114, 3) := by decide +kernel
theorem d_X_mergeIntoRow_17 : decode b_X_mergeIntoRow 17 = .ok (.iload_n 2, 1) := by decide +kernel
theorem d_X_mergeIntoRow_18 : decode b_X_mergeIntoRow 18 = .ok (.iadd, 1) := by decide +kernel
theorem d_X_mergeIntoRow_19 : decode b_X_mergeIntoRow 19 = .ok (.iconst 1, 1) := by decide +kernel
theorem d_X_mergeIntoRow_20 : decode b_X_mergeIntoRow 20 = .ok (.isub, 1) := by decide +kernel
theorem d_X_mergeIntoRow_21 : decode b_X_mergeIntoRow 21 = .ok (.istore 5, 2) := by decide +kernel
theorem d_X_mergeIntoRow_23 : decode b_X_mergeIntoRow 23 = .ok (.iload_n 3, 1) := by decide +kernel
theorem d_X_mergeIntoRow_24 : decode b_X_mergeIntoRow 24 = .ok (.aload_n 0, 1) := by decide +kernel
theorem d_X_mergeIntoRow_25 : decode b_X_mergeIntoRow 25 = .ok (.getfield 16, 3) := by decide +kernel
theorem d_X_mergeIntoRow_28 : decode b_X_mergeIntoRow 28 = .ok (.iload_n 1, 1) := by decide +kernel
theorem d_X_mergeIntoRow_29 : decode b_X_mergeIntoRow 29 = .ok (.iaload, 1) := by decide +kernel
theorem d_X_mergeIntoRow_30 : decode b_X_mergeIntoRow 30 = .ok (.iadd, 1) := by decide +kernel
theorem d_X_mergeIntoRow_31 : decode b_X_mergeIntoRow 31 = .ok (.istore 6, 2) := by decide +kernel
theorem d_X_mergeIntoRow_33 : decode b_X_mergeIntoRow 33 = .ok (.iload 6, 2) := by decide +kernel
theorem d_X_mergeIntoRow_35 : decode b_X_mergeIntoRow 35 = .ok (.iload_n 3, 1) := by decide +kernel
theorem d_X_mergeIntoRow_36 : decode b_X_mergeIntoRow 36 = .ok (.if_icmp .le 75, 3) := by decide +kernel
theorem d_X_mergeIntoRow_39 : decode b_X_mergeIntoRow 39 = .ok (.aload_n 0, 1) := by decide +kernel
theorem d_X_mergeIntoRow_40 : decode b_X_mergeIntoRow 40 = .ok (.getfield 29, 3) := by decide +kernel
theorem d_X_mergeIntoRow_43 : decode b_X_mergeIntoRow 43 = .ok (.iload 6, 2) := by decide +kernel
theorem d_X_mergeIntoRow_45 : decode b_X_mergeIntoRow 45 = .ok (.iaload, 1) := by decide +kernel
theorem d_X_mergeIntoRow_46 : decode b_X_mergeIntoRow 46 = .ok (.ifCond .le 59, 3) := by decide +kernel
theorem d_X_mergeIntoRow_49 : decode b_X_mergeIntoRow 49 = .ok (.iload 4, 2) := by decide +kernel
theorem d_X_mergeIntoRow_51 : decode b_X_mergeIntoRow 51 = .ok (.ifCond .lt 42, 3) := by decide +kernel
theorem d_X_mergeIntoRow_54 : decode b_X_mergeIntoRow 54 = .ok (.aload_n 0, 1) := by decide +kernel
theorem d_X_mergeIntoRow_55 : decode b_X_mergeIntoRow 55 = .ok (.iload 6, 2) := by decide +kernel
theorem d_X_mergeIntoRow_57 : decode b_X_mergeIntoRow 57 = .ok (.aload_n 0, 1) := by decide +kernel
theorem d_X_mergeIntoRow_58 : decode b_X_mergeIntoRow 58 = .ok (.getfield 32, 3) := by decide +kernel
theorem d_X_mergeIntoRow_61 : decode b_X_mergeIntoRow 61 = .ok (.iload 4, 2) := by decide +kernel
theorem d_X_mergeIntoRow_63 : decode b_X_mergeIntoRow 63 = .ok (.iaload, 1) := by decide +kernel
theorem d_X_mergeIntoRow_64 : decode b_X_mergeIntoRow 64 = .ok (.invokevirtual 177, 3) := by decide +kernel
theorem d_X_mergeIntoRow_67 : decode b_X_mergeIntoRow 67 = .ok (.ifCond .eq 26, 3) := by decide +kernel
theorem d_X_mergeIntoRow_70 : decode b_X_mergeIntoRow 70 = .ok (.aload_n 0, 1) := by decide +kernel
theorem d_X_mergeIntoRow_71 : decode b_X_mergeIntoRow 71 = .ok (.getfield 32, 3) := by decide +kernel
theorem d_X_mergeIntoRow_74 : decode b_X_mergeIntoRow 74 = .ok (.iload 5, 2) := by decide +kernel
theorem d_X_mergeIntoRow_76 : decode b_X_mergeIntoRow 76 = .ok (.aload_n 0, 1) := by decide +kernel
theorem d_X_mergeIntoRow_77 : decode b_X_mergeIntoRow 77 = .ok (.getfield 32, 3) := by decide +kernel
theorem d_X_mergeIntoRow_80 : decode b_X_mergeIntoRow 80 = .ok (.iload 4, 2) := by decide +kernel
theorem d_X_mergeIntoRow_82 : decode b_X_mergeIntoRow 82 = .ok (.iaload, 1) := by decide +kernel
theorem d_X_mergeIntoRow_83 : decode b_X_mergeIntoRow 83 = .ok (.iastore, 1) := by decide +kernel
theorem d_X_mergeIntoRow_84 : decode b_X_mergeIntoRow 84 = .ok (.iinc 4 (-1), 3) := by decide +kernel
theorem d_X_mergeIntoRow_87 : decode b_X_mergeIntoRow 87 = .ok (.iinc 5 (-1), 3) := by decide +kernel
theorem d_X_mergeIntoRow_90 : decode b_X_mergeIntoRow 90 = .ok (.goto (-41), 3) := by decide +kernel
theorem d_X_mergeIntoRow_93 : decode b_X_mergeIntoRow 93 = .ok (.aload_n 0, 1) := by decide +kernel
theorem d_X_mergeIntoRow_94 : decode b_X_mergeIntoRow 94 = .ok (.getfield 32, 3) := by decide +kernel
theorem d_X_mergeIntoRow_97 : decode b_X_mergeIntoRow 97 = .ok (.iload 5, 2) := by decide +kernel
theorem d_X_mergeIntoRow_99 : decode b_X_mergeIntoRow 99 = .ok (.iload 6, 2) := by decide +kernel
theorem d_X_mergeIntoRow_101 : decode b_X_mergeIntoRow 101 = .ok (.iastore, 1) := by decide +kernel
theorem d_X_mergeIntoRow_102 : decode b_X_mergeIntoRow 102 = .ok (.iinc 5 (-1), 3) := by decide +kernel
theorem d_X_mergeIntoRow_105 : decode b_X_mergeIntoRow 105 = .ok (.iinc 6 (-1), 3) := by decide +kernel
theorem d_X_mergeIntoRow_108 : decode b_X_mergeIntoRow 108 = .ok (.goto (-75), 3) := by decide +kernel
theorem d_X_mergeIntoRow_111 : decode b_X_mergeIntoRow 111 = .ok (.aload_n 0, 1) := by decide +kernel
theorem d_X_mergeIntoRow_112 : decode b_X_mergeIntoRow 112 = .ok (.dup, 1) := by decide +kernel
theorem d_X_mergeIntoRow_113 : decode b_X_mergeIntoRow 113 = .ok (.getfield 114, 3) := by decide +kernel
theorem d_X_mergeIntoRow_116 : decode b_X_mergeIntoRow 116 = .ok (.iload_n 2, 1) := by decide +kernel
theorem d_X_mergeIntoRow_117 : decode b_X_mergeIntoRow 117 = .ok (.iadd, 1) := by decide +kernel
theorem d_X_mergeIntoRow_118 : decode b_X_mergeIntoRow 118 = .ok (.putfield 114, 3) := by decide +kernel
theorem d_X_mergeIntoRow_121 : decode b_X_mergeIntoRow 121 = .ok (.return_, 1) := by decide +kernel
theorem d_X_comesBefore_0 : decode b_X_comesBefore 0 = .ok (.aload_n 0, 1) := by decide +kernel
theorem d_X_comesBefore_1 : decode b_X_comesBefore 1 = .ok (.iload_n 1, 1) := by decide +kernel
theorem d_X_comesBefore_2 : decode b_X_comesBefore 2 = .ok (.iload_n 2, 1) := by decide +kernel
theorem d_X_comesBefore_3 : decode b_X_comesBefore 3 = .ok (.invokevirtual 181, 3) := by decide +kernel
theorem d_X_comesBefore_6 : decode b_X_comesBefore 6 = .ok (.istore_n 3, 1) := by decide +kernel
theorem d_X_comesBefore_7 : decode b_X_comesBefore 7 = .ok (.iload_n 3, 1) := by decide +kernel
theorem d_X_comesBefore_8 : decode b_X_comesBefore 8 = .ok (.ifCond .gt 12, 3) := by decide +kernel
theorem d_X_comesBefore_11 : decode b_X_comesBefore 11 = .ok (.iload_n 3, 1) := by decide +kernel
theorem d_X_comesBefore_12 : decode b_X_comesBefore 12 = .ok (.ifCond .ne 12, 3) := by decide +kernel
theorem d_X_comesBefore_15 : decode b_X_comesBefore 15 = .ok (.iload_n 1, 1) := by decide +kernel
theorem d_X_comesBefore_16 : decode b_X_comesBefore 16 = .ok (.iload_n 2, 1) := by decide +kernel
theorem d_X_comesBefore_17 : decode b_X_comesBefore 17 = .ok (.if_icmp .ge 7, 3) := by decide +kernel
theorem d_X_comesBefore_20 : decode b_X_comesBefore 20 = .ok (.iconst 1, 1) := by decide +kernel
theorem d_X_comesBefore_21 : decode b_X_comesBefore 21 = .ok (.goto 4, 3) := by decide +kernel
theorem d_X_comesBefore_24 : decode b_X_comesBefore 24 = .ok (.iconst 0, 1) := by decide +kernel
theorem d_X_comesBefore_25 : decode b_X_comesBefore 25 = .ok (.ireturn, 1) := by decide +kernel
theorem d_X_compareSlopes_0 : decode b_X_compareSlopes 0 = .ok (.aload_n 0, 1) := by decide +kernel
theorem d_X_compareSlopes_1 : decode b_X_compareSlopes 1 = .ok (.getfield 25, 3) := by decide +kernel
theorem d_X_compareSlopes_4 : decode b_X_compareSlopes 4 = .ok (.iload_n 1, 1) := by decide +kernel
theorem d_X_compareSlopes_5 : decode b_X_compareSlopes 5 = .ok (.laload, 1) := by decide +kernel
theorem d_X_compareSlopes_6 : decode b_X_compareSlopes 6 = .ok (.aload_n 0, 1) := by decide +kernel
theorem d_X_compareSlopes_7 : decode b_X_compareSlopes 7 = .ok (.getfield 29, 3) := by decide +kernel
theorem d_X_compareSlopes_10 : decode b_X_compareSlopes 10 = .ok (.iload_n 2, 1) := by decide +kernel
theorem d_X_compareSlopes_11 : decode b_X_compareSlopes 11 = .ok (.iaload, 1) := by decide +kernel
theorem d_X_compareSlopes_12 : decode b_X_compareSlopes 12 = .ok (.i2l, 1) := by decide +kernel
theorem d_X_compareSlopes_13 : decode b_X_compareSlopes 13 = .ok (.lmul, 1) := by decide +kernel
theorem d_X_compareSlopes_14 : decode b_X_compareSlopes 14 = .ok (.aload_n 0, 1) := by decide +kernel
theorem d_X_compareSlopes_15 : decode b_X_compareSlopes 15 = .ok (.getfield 25, 3) := by decide +kernel
theorem d_X_compareSlopes_18 : decode b_X_compareSlopes 18 = .ok (.iload_n 2, 1) := by decide +kernel
theorem d_X_compareSlopes_19 : decode b_X_compareSlopes 19 = .ok (.laload, 1) := by decide +kernel
theorem d_X_compareSlopes_20 : decode b_X_compareSlopes 20 = .ok (.aload_n 0, 1) := by decide +kernel
theorem d_X_compareSlopes_21 : decode b_X_compareSlopes 21 = .ok (.getfield 29, 3) := by decide +kernel
theorem d_X_compareSlopes_24 : decode b_X_compareSlopes 24 = .ok (.iload_n 1, 1) := by decide +kernel
theorem d_X_compareSlopes_25 : decode b_X_compareSlopes 25 = .ok (.iaload, 1) := by decide +kernel
theorem d_X_compareSlopes_26 : decode b_X_compareSlopes 26 = .ok (.i2l, 1) := by decide +kernel
theorem d_X_compareSlopes_27 : decode b_X_compareSlopes 27 = .ok (.lmul, 1) := by decide +kernel
theorem d_X_compareSlopes_28 : decode b_X_compareSlopes 28 = .ok (.invokestatic 184, 3) := by decide +kernel
theorem d_X_compareSlopes_31 : decode b_X_compareSlopes 31 = .ok (.ireturn, 1) := by decide +kernel
theorem d_X_countSameSlope_0 : decode b_X_countSameSlope 0 = .ok (.iconst 0, 1) := by decide +kernel
theorem d_X_countSameSlope_1 : decode b_X_countSameSlope 1 = .ok (.istore_n 2, 1) := by decide +kernel
theorem d_X_countSameSlope_2 : decode b_X_countSameSlope 2 = .ok (.iconst 0, 1) := by decide +kernel
theorem d_X_countSameSlope_3 : decode b_X_countSameSlope 3 = .ok (.istore_n 3, 1) := by decide +kernel
theorem d_X_countSameSlope_4 : decode b_X_countSameSlope 4 = .ok (.iload_n 3, 1) := by decide +kernel
theorem d_X_countSameSlope_5 : decode b_X_countSameSlope 5 = .ok (.aload_n 0, 1) := by decide +kernel
theorem d_X_countSameSlope_6 : decode b_X_countSameSlope 6 = .ok (.getfield 114, 3) := by decide +kernel
theorem d_X_countSameSlope_9 : decode b_X_countSameSlope 9 = .ok (.if_icmp .ge 26, 3) := by decide +kernel
theorem d_X_countSameSlope_12 : decode b_X_countSameSlope 12 = .ok (.aload_n 0, 1) := by decide +kernel
theorem d_X_countSameSlope_13 : decode b_X_countSameSlope 13 = .ok (.iload_n 1, 1) := by decide +kernel
theorem d_X_countSameSlope_14 : decode b_X_countSameSlope 14 = .ok (.aload_n 0, 1) := by decide +kernel
theorem d_X_countSameSlope_15 : decode b_X_countSameSlope 15 = .ok (.getfield 32, 3) := by decide +kernel
theorem d_X_countSameSlope_18 : decode b_X_countSameSlope 18 = .ok (.iload_n 3, 1) := by decide +kernel
theorem d_X_countSameSlope_19 : decode b_X_countSameSlope 19 = .ok (.iaload, 1) := by decide +kernel
theorem d_X_countSameSlope_20 : decode b_X_countSameSlope 20 = .ok (.invokevirtual 181, 3) := by decide +kernel
theorem d_X_countSameSlope_23 : decode b_X_countSameSlope 23 = .ok (.ifCond .ne 6, 3) := by decide +kernel
theorem d_X_countSameSlope_26 : decode b_X_countSameSlope 26 = .ok (.iinc 2 1, 3) := by decide +kernel
theorem d_X_countSameSlope_29 : decode b_X_countSameSlope 29 = .ok (.iinc 3 1, 3) := by decide +kernel
theorem d_X_countSameSlope_32 : decode b_X_countSameSlope 32 = .ok (.goto (-28), 3) := by decide +kernel
theorem d_X_countSameSlope_35 : decode b_X_countSameSlope 35 = .ok (.iload_n 2, 1) := by decide +kernel
theorem d_X_countSameSlope_36 : decode b_X_countSameSlope 36 = .ok (.ireturn, 1) := by decide +kernel
theorem d_X_fillLayer_0 : decode b_X_fillLayer 0 = .ok (.aload_n 0, 1) := by decide +kernel
theorem d_X_fillLayer_1 : decode b_X_fillLayer 1 = .ok (.getfield 51, 3) := by decide +kernel
theorem d_X_fillLayer_4 : decode b_X_fillLayer 4 = .ok (.iload_n 1, 1) := by decide +kernel
theorem d_X_fillLayer_5 : decode b_X_fillLayer 5 = .ok (.iaload, 1) := by decide +kernel
theorem d_X_fillLayer_6 : decode b_X_fillLayer 6 = .ok (.istore_n 3, 1) := by decide +kernel
theorem d_X_fillLayer_7 : decode b_X_fillLayer 7 = .ok (.iload_n 2, 1) := by decide +kernel
theorem d_X_fillLayer_8 : decode b_X_fillLayer 8 = .ok (.istore 4, 2) := by decide +kernel
theorem d_X_fillLayer_10 : decode b_X_fillLayer 10 = .ok (.iload 4, 2) := by decide +kernel
theorem d_X_fillLayer_12 : decode b_X_fillLayer 12 = .ok (.aload_n 0, 1) := by decide +kernel
theorem d_X_fillLayer_13 : decode b_X_fillLayer 13 = .ok (.getfield 114, 3) := by decide +kernel
theorem d_X_fillLayer_16 : decode b_X_fillLayer 16 = .ok (.if_icmp .ge 47, 3) := by decide +kernel
theorem d_X_fillLayer_19 : decode b_X_fillLayer 19 = .ok (.iload_n 3, 1) := by decide +kernel
theorem d_X_fillLayer_20 : decode b_X_fillLayer 20 = .ok (.aload_n 0, 1) := by decide +kernel
theorem d_X_fillLayer_21 : decode b_X_fillLayer 21 = .ok (.getfield 29, 3) := by decide +kernel
theorem d_X_fillLayer_24 : decode b_X_fillLayer 24 = .ok (.aload_n 0, 1) := by decide +kernel
theorem d_X_fillLayer_25 : decode b_X_fillLayer 25 = .ok (.getfield 32, 3) := by decide +kernel
theorem d_X_fillLayer_28 : decode b_X_fillLayer 28 = .ok (.iload 4, 2) := by decide +kernel
theorem d_X_fillLayer_30 : decode b_X_fillLayer 30 = .ok (.iaload, 1) := by decide +kernel
theorem d_X_fillLayer_31 : decode b_X_fillLayer 31 = .ok (.iaload, 1) := by decide +kernel
theorem d_X_fillLayer_32 : decode b_X_fillLayer 32 = .ok (.iadd, 1) := by decide +kernel
theorem d_X_fillLayer_33 : decode b_X_fillLayer 33 = .ok (.aload_n 0, 1) := by decide +kernel
theorem d_X_fillLayer_34 : decode b_X_fillLayer 34 = .ok (.getfield 48, 3) := by decide +kernel
theorem d_X_fillLayer_37 : decode b_X_fillLayer 37 = .ok (.iload_n 1, 1) := by decide +kernel
theorem d_X_fillLayer_38 : decode b_X_fillLayer 38 = .ok (.iaload, 1) := by decide +kernel
theorem d_X_fillLayer_39 : decode b_X_fillLayer 39 = .ok (.if_icmp .gt 24, 3) := by decide +kernel
theorem d_X_fillLayer_42 : decode b_X_fillLayer 42 = .ok (.iload_n 3, 1) := by decide +kernel
theorem d_X_fillLayer_43 : decode b_X_fillLayer 43 = .ok (.aload_n 0, 1) := by decide +kernel
theorem d_X_fillLayer_44 : decode b_X_fillLayer 44 = .ok (.getfield 29, 3) := by decide +kernel
theorem d_X_fillLayer_47 : decode b_X_fillLayer 47 = .ok (.aload_n 0, 1) := by decide +kernel
theorem d_X_fillLayer_48 : decode b_X_fillLayer 48 = .ok (.getfield 32, 3) := by decide +kernel
theorem d_X_fillLayer_51 : decode b_X_fillLayer 51 = .ok (.iload 4, 2) := by decide +kernel
theorem d_X_fillLayer_53 : decode b_X_fillLayer 53 = .ok (.iaload, 1) := by decide +kernel
theorem d_X_fillLayer_54 : decode b_X_fillLayer 54 = .ok (.iaload, 1) := by decide +kernel
theorem d_X_fillLayer_55 : decode b_X_fillLayer 55 = .ok (.iadd, 1) := by decide +kernel
theorem d_X_fillLayer_56 : decode b_X_fillLayer 56 = .ok (.istore_n 3, 1) := by decide +kernel
theorem d_X_fillLayer_57 : decode b_X_fillLayer 57 = .ok (.iinc 4 1, 3) := by decide +kernel
theorem d_X_fillLayer_60 : decode b_X_fillLayer 60 = .ok (.goto (-50), 3) := by decide +kernel
theorem d_X_fillLayer_63 : decode b_X_fillLayer 63 = .ok (.aload_n 0, 1) := by decide +kernel
theorem d_X_fillLayer_64 : decode b_X_fillLayer 64 = .ok (.getfield 54, 3) := by decide +kernel
theorem d_X_fillLayer_67 : decode b_X_fillLayer 67 = .ok (.iload_n 1, 1) := by decide +kernel
theorem d_X_fillLayer_68 : decode b_X_fillLayer 68 = .ok (.iload_n 3, 1) := by decide +kernel
theorem d_X_fillLayer_69 : decode b_X_fillLayer 69 = .ok (.iastore, 1) := by decide +kernel
theorem d_X_fillLayer_70 : decode b_X_fillLayer 70 = .ok (.iload 4, 2) := by decide +kernel
theorem d_X_fillLayer_72 : decode b_X_fillLayer 72 = .ok (.ireturn, 1) := by decide +kernel
theorem d_X_layerOf_0 : decode b_X_layerOf 0 = .ok (.iconst 0, 1) := by decide +kernel
theorem d_X_layerOf_1 : decode b_X_layerOf 1 = .ok (.istore_n 2, 1) := by decide +kernel
theorem d_X_layerOf_2 : decode b_X_layerOf 2 = .ok (.iload_n 2, 1) := by decide +kernel
theorem d_X_layerOf_3 : decode b_X_layerOf 3 = .ok (.aload_n 0, 1) := by decide +kernel
theorem d_X_layerOf_4 : decode b_X_layerOf 4 = .ok (.getfield 44, 3) := by decide +kernel
theorem d_X_layerOf_7 : decode b_X_layerOf 7 = .ok (.if_icmp .ge 21, 3) := by decide +kernel
theorem d_X_layerOf_10 : decode b_X_layerOf 10 = .ok (.iload_n 1, 1) := by decide +kernel
theorem d_X_layerOf_11 : decode b_X_layerOf 11 = .ok (.aload_n 0, 1) := by decide +kernel
theorem d_X_layerOf_12 : decode b_X_layerOf 12 = .ok (.getfield 57, 3) := by decide +kernel
theorem d_X_layerOf_15 : decode b_X_layerOf 15 = .ok (.iload_n 2, 1) := by decide +kernel
theorem d_X_layerOf_16 : decode b_X_layerOf 16 = .ok (.iaload, 1) := by decide +kernel
theorem d_X_layerOf_17 : decode b_X_layerOf 17 = .ok (.if_icmp .ge 5, 3) := by decide +kernel
theorem d_X_layerOf_20 : decode b_X_layerOf 20 = .ok (.iload_n 2, 1) := by decide +kernel
theorem d_X_layerOf_21 : decode b_X_layerOf 21 = .ok (.ireturn, 1) := by decide +kernel
theorem d_X_layerOf_22 : decode b_X_layerOf 22 = .ok (.iinc 2 1, 3) := by decide +kernel
theorem d_X_layerOf_25 : decode b_X_layerOf 25 = .ok (.goto (-23), 3) := by decide +kernel
theorem d_X_layerOf_28 : decode b_X_layerOf 28 = .ok (.iconst (-1), 1) := by decide +kernel
theorem d_X_layerOf_29 : decode b_X_layerOf 29 = .ok (.ireturn, 1) := by decide +kernel
theorem d_JL_compare_0 : decode b_JL_compare 0 = .ok (.lload_n 0, 1) := by decide +kernel
theorem d_JL_compare_1 : decode b_JL_compare 1 = .ok (.lload_n 2, 1) := by decide +kernel
theorem d_JL_compare_2 : decode b_JL_compare 2 = .ok (.lcmp, 1) := by decide +kernel
theorem d_JL_compare_3 : decode b_JL_compare 3 = .ok (.ifCond .ge 7, 3) := by decide +kernel
theorem d_JL_compare_6 : decode b_JL_compare 6 = .ok (.iconst (-1), 1) := by decide +kernel
theorem d_JL_compare_7 : decode b_JL_compare 7 = .ok (.goto 14, 3) := by decide +kernel
theorem d_JL_compare_10 : decode b_JL_compare 10 = .ok (.lload_n 0, 1) := by decide +kernel
theorem d_JL_compare_11 : decode b_JL_compare 11 = .ok (.lload_n 2, 1) := by decide +kernel
theorem d_JL_compare_12 : decode b_JL_compare 12 = .ok (.lcmp, 1) := by decide +kernel
theorem d_JL_compare_13 : decode b_JL_compare 13 = .ok (.ifCond .ne 7, 3) := by decide +kernel
theorem d_JL_compare_16 : decode b_JL_compare 16 = .ok (.iconst 0, 1) := by decide +kernel
theorem d_JL_compare_17 : decode b_JL_compare 17 = .ok (.goto 4, 3) := by decide +kernel
theorem d_JL_compare_20 : decode b_JL_compare 20 = .ok (.iconst 1, 1) := by decide +kernel
theorem d_JL_compare_21 : decode b_JL_compare 21 = .ok (.ireturn, 1) := by decide +kernel
end
section
abbrev jk_K : Type _ := Program × Launch × Env × Room × State × MethodId × Array Value × List Frame × Method × Code × Nat × va_G × (Nat → Prop) × (State → Prop)
abbrev jk_p (κ : jk_K) : Program := κ.1
abbrev jk_l (κ : jk_K) : Launch := κ.2.1
abbrev jk_e (κ : jk_K) : Env := κ.2.2.1
abbrev jk_R (κ : jk_K) : Room := κ.2.2.2.1
abbrev jk_s (κ : jk_K) : State := κ.2.2.2.2.1
abbrev jk_m (κ : jk_K) : MethodId := κ.2.2.2.2.2.1
abbrev jk_a (κ : jk_K) : Array Value := κ.2.2.2.2.2.2.1
abbrev jk_b (κ : jk_K) : List Frame := κ.2.2.2.2.2.2.2.1
abbrev jk_t (κ : jk_K) : Method := κ.2.2.2.2.2.2.2.2.1
abbrev jk_c (κ : jk_K) : Code := κ.2.2.2.2.2.2.2.2.2.1
abbrev jk_n (κ : jk_K) : Nat := κ.2.2.2.2.2.2.2.2.2.2.1
abbrev jk_G (κ : jk_K) : va_G := κ.2.2.2.2.2.2.2.2.2.2.2.1
abbrev jk_A (κ : jk_K) : Nat → Prop := κ.2.2.2.2.2.2.2.2.2.2.2.2.1
abbrev jk_Q (κ : jk_K) : State → Prop := κ.2.2.2.2.2.2.2.2.2.2.2.2.2
/-- the machine W at a heap, in a context -/
abbrev jk_W (κ : jk_K) (H : Heap) (locs : List Loc) (cells slots : Nat) (g : JFrame) : Prop := W (jk_p κ) (jk_l κ) (jk_e κ) (jk_R κ) (jk_s κ) (jk_m κ) (jk_a κ) (jk_b κ) (jk_t κ) (jk_c κ) H locs cells slots (jk_Q κ) g
/-- the machine at pc with locals lv and stack st comes to its end, from every heap that holds the world ws -/
def jk_J (κ : jk_K) (ws : va_W) (pc : Nat) (lv : List (Nat × Value)) (st : List Value) (cells slots : Nat) : Prop :=
  ∀ (H : Heap) (locs : List Loc) (ls : Array Slot), lv_has ls (jk_n κ) lv → va_P (jk_G κ) classes ws H → va_D (jk_A κ) ws → va_S (jk_A κ) (jk_s κ).heap H locs → jk_W κ H locs cells slots (F0 (jk_m κ) pc ls st)
def jk_C (κ : jk_K) (cc : ByteArray) (own : String) (R : Room) (nL : Nat) (tys : List (ClassId × FieldType)) : Prop :=
  (jk_p κ).tables.exec = Jvm.exec ∧ (jk_c κ).code = cc ∧ ((jk_c κ).maxLocals = jk_n κ ∧ jk_n κ = nL) ∧ (jk_s κ).vm.findClass own = some (jk_m κ).cls ∧ (∀ w ∈ tb, w.before (jk_a κ) (jk_s κ) = true) ∧ va_K (jk_G κ) classes tys (jk_s κ) ∧ (∀ q : Nat, (jk_s κ).heap.size ≤ q → jk_A κ q) ∧ jk_R κ = R ∧ (jk_t κ).locks = false
theorem jk_fm {α β : Type} {f : α → Option β} : ∀ {ps : List α} {l : List β}, ps.map f = l.map some → ps.filterMap f = l := by
  intro ps
  induction ps with
  | nil => intro l h; cases l with
    | nil => rfl
    | cons a l => cases h
  | cons a ps ih => intro l h; cases l with
    | nil => cases h
    | cons b l =>
      have h1 : f a = some b := (List.cons.inj h).1
      rw [List.filterMap_cons, h1]
      simp only [ih (List.cons.inj h).2]
section jk_rows
variable {κ : jk_K} {cc : ByteArray} {own : String} {R : Room} {nL : Nat} {tys : List (ClassId × FieldType)} {ws : va_W} {pc : Nat} {lv : List (Nat × Value)} {st : List Value} {cells slots : Nat}
theorem j_widen {k n : Nat} (h1 : cells ≤ k) (h2 : slots ≤ n) (kk : jk_J κ ws pc lv st k n) : jk_J κ ws pc lv st cells slots := fun H locs ls hl hP hD hS => W.widen h1 h2 (kk H locs ls hl hP hD hS)
theorem j_locs {lv' : List (Nat × Value)} (ks : List Nat) (hl' : lv_pick lv ks = lv') (kk : jk_J κ ws pc lv' st cells slots) : jk_J κ ws pc lv st cells slots := fun H locs ls hl hP hD hS => kk H locs ls (lv_sub hl ks hl') hP hD hS
theorem j_ws {ws' : va_W} (hw : ws = ws') (kk : jk_J κ ws' pc lv st cells slots) : jk_J κ ws pc lv st cells slots := by subst hw; exact kk
theorem j_iconst (C : jk_C κ cc own R nL tys) {n : Int} {v : Int32} (hdg : decode cc pc = .ok (.iconst n, 1)) (hv : Int32.ofInt n = v) (kk : jk_J κ ws (pc + 1) lv (.int v :: st) cells slots) : jk_J κ ws pc lv (st) cells slots := fun H locs ls hl hP hD hS => lv_iconst C.1 C.2.1 hdg hv (kk H locs ls hl hP hD hS)
theorem j_bipush (C : jk_C κ cc own R nL tys) {n : Int} {v : Int32} (hdg : decode cc pc = .ok (.bipush n, 2)) (hv : (Int8.ofInt n).toInt32 = v) (kk : jk_J κ ws (pc + 2) lv (.int v :: st) cells slots) : jk_J κ ws pc lv (st) cells slots := fun H locs ls hl hP hD hS => lv_bipush C.1 C.2.1 hdg hv (kk H locs ls hl hP hD hS)
theorem j_sipush (C : jk_C κ cc own R nL tys) {n : Int} {v : Int32} (hdg : decode cc pc = .ok (.sipush n, 3)) (hv : (Int16.ofInt n).toInt32 = v) (kk : jk_J κ ws (pc + 3) lv (.int v :: st) cells slots) : jk_J κ ws pc lv (st) cells slots := fun H locs ls hl hP hD hS => lv_sipush C.1 C.2.1 hdg hv (kk H locs ls hl hP hD hS)
theorem j_lconst (C : jk_C κ cc own R nL tys) {n : Fin 2} {v : Int64} (hdg : decode cc pc = .ok (.lconst n, 1)) (hv : Int64.ofNat (n : Nat) = v) (kk : jk_J κ ws (pc + 1) lv (.long v :: st) cells slots) : jk_J κ ws pc lv (st) cells slots := fun H locs ls hl hP hD hS => lv_lconst C.1 C.2.1 hdg hv (kk H locs ls hl hP hD hS)
theorem j_ldc (C : jk_C κ cc own R nL tys) {index : Nat} {v : Int32} (hdg : decode cc pc = .ok (.ldc index, 2)) (hw : Cond.constant own index v ∈ tb) (kk : jk_J κ ws (pc + 2) lv (.int v :: st) cells slots) : jk_J κ ws pc lv (st) cells slots := fun H locs ls hl hP hD hS => lv_ldc C.1 C.2.1 C.2.2.2.1 (C.2.2.2.2.1 _ hw) hdg (kk H locs ls hl hP hD hS)
theorem j_ldc_w (C : jk_C κ cc own R nL tys) {index : Nat} {v : Int32} (hdg : decode cc pc = .ok (.ldc_w index, 3)) (hw : Cond.constant own index v ∈ tb) (kk : jk_J κ ws (pc + 3) lv (.int v :: st) cells slots) : jk_J κ ws pc lv (st) cells slots := fun H locs ls hl hP hD hS => lv_ldcw C.1 C.2.1 C.2.2.2.1 (C.2.2.2.2.1 _ hw) hdg (kk H locs ls hl hP hD hS)
theorem j_ldc2 (C : jk_C κ cc own R nL tys) {index : Nat} {v : Int64} (hdg : decode cc pc = .ok (.ldc2_w index, 3)) (hw : Cond.constantLong own index v ∈ tb) (kk : jk_J κ ws (pc + 3) lv (.long v :: st) cells slots) : jk_J κ ws pc lv (st) cells slots := fun H locs ls hl hP hD hS => lv_ldc2 C.1 C.2.1 C.2.2.2.1 (C.2.2.2.2.1 _ hw) hdg (kk H locs ls hl hP hD hS)
theorem j_iload_n (C : jk_C κ cc own R nL tys) {k : Fin 4} {i : Nat} {x : Int32} (hdg : decode cc pc = .ok (.iload_n k, 1)) (hi : (k : Nat) = i) (j : Nat) (hj : lv[j]? = some (i, .int x)) (kk : jk_J κ ws (pc + 1) lv (.int x :: st) cells slots) : jk_J κ ws pc lv (st) cells slots := fun H locs ls hl hP hD hS => lv_iload_n C.1 C.2.1 hdg hi (lv_at hl j hj) (kk H locs ls hl hP hD hS)
theorem j_iload (C : jk_C κ cc own R nL tys) {i : Nat} {x : Int32} (hdg : decode cc pc = .ok (.iload i, 2)) (j : Nat) (hj : lv[j]? = some (i, .int x)) (kk : jk_J κ ws (pc + 2) lv (.int x :: st) cells slots) : jk_J κ ws pc lv (st) cells slots := fun H locs ls hl hP hD hS => lv_iload C.1 C.2.1 hdg (lv_at hl j hj) (kk H locs ls hl hP hD hS)
theorem j_istore_n (C : jk_C κ cc own R nL tys) {k : Fin 4} {i : Nat} {x : Int32} {lv' : List (Nat × Value)} (hdg : decode cc pc = .ok (.istore_n k, 1)) (hi : (k : Nat) = i) (hn : i < nL) (hlv : (i, Value.int x) :: lv.filter (fun q => !(q.1 == i) && !(q.1 + 1 == i && q.2.category == 2)) = lv') (kk : jk_J κ ws (pc + 1) lv' st cells slots) : jk_J κ ws pc lv (.int x :: st) cells slots := fun H locs ls hl hP hD hS => lv_istore_n C.1 C.2.1 hdg hi hl (by rw [C.2.2.1.2]; exact hn) hlv (fun ls' hl' => kk H locs ls' hl' hP hD hS)
theorem j_istore (C : jk_C κ cc own R nL tys) {i : Nat} {x : Int32} {lv' : List (Nat × Value)} (hdg : decode cc pc = .ok (.istore i, 2)) (hn : i < nL) (hlv : (i, Value.int x) :: lv.filter (fun q => !(q.1 == i) && !(q.1 + 1 == i && q.2.category == 2)) = lv') (kk : jk_J κ ws (pc + 2) lv' st cells slots) : jk_J κ ws pc lv (.int x :: st) cells slots := fun H locs ls hl hP hD hS => lv_istore C.1 C.2.1 hdg hl (by rw [C.2.2.1.2]; exact hn) hlv (fun ls' hl' => kk H locs ls' hl' hP hD hS)
theorem j_lload_n (C : jk_C κ cc own R nL tys) {k : Fin 4} {i : Nat} {x : Int64} (hdg : decode cc pc = .ok (.lload_n k, 1)) (hi : (k : Nat) = i) (j : Nat) (hj : lv[j]? = some (i, .long x)) (kk : jk_J κ ws (pc + 1) lv (.long x :: st) cells slots) : jk_J κ ws pc lv (st) cells slots := fun H locs ls hl hP hD hS => lv_lload_n C.1 C.2.1 hdg hi (lv_at hl j hj) (kk H locs ls hl hP hD hS)
theorem j_lload (C : jk_C κ cc own R nL tys) {i : Nat} {x : Int64} (hdg : decode cc pc = .ok (.lload i, 2)) (j : Nat) (hj : lv[j]? = some (i, .long x)) (kk : jk_J κ ws (pc + 2) lv (.long x :: st) cells slots) : jk_J κ ws pc lv (st) cells slots := fun H locs ls hl hP hD hS => lv_lload C.1 C.2.1 hdg (lv_at hl j hj) (kk H locs ls hl hP hD hS)
theorem j_lstore_n (C : jk_C κ cc own R nL tys) {k : Fin 4} {i : Nat} {x : Int64} {lv' : List (Nat × Value)} (hdg : decode cc pc = .ok (.lstore_n k, 1)) (hi : (k : Nat) = i) (hn : i + 1 < nL) (hlv : (i, Value.long x) :: lv.filter (fun q => !(q.1 == i) && (!(q.1 == i + 1) && !(q.1 + 1 == i && q.2.category == 2))) = lv') (kk : jk_J κ ws (pc + 1) lv' st cells slots) : jk_J κ ws pc lv (.long x :: st) cells slots := fun H locs ls hl hP hD hS => lv_lstore_n C.1 C.2.1 hdg hi hl (by rw [C.2.2.1.2]; exact hn) hlv (fun ls' hl' => kk H locs ls' hl' hP hD hS)
theorem j_lstore (C : jk_C κ cc own R nL tys) {i : Nat} {x : Int64} {lv' : List (Nat × Value)} (hdg : decode cc pc = .ok (.lstore i, 2)) (hn : i + 1 < nL) (hlv : (i, Value.long x) :: lv.filter (fun q => !(q.1 == i) && (!(q.1 == i + 1) && !(q.1 + 1 == i && q.2.category == 2))) = lv') (kk : jk_J κ ws (pc + 2) lv' st cells slots) : jk_J κ ws pc lv (.long x :: st) cells slots := fun H locs ls hl hP hD hS => lv_lstore C.1 C.2.1 hdg hl (by rw [C.2.2.1.2]; exact hn) hlv (fun ls' hl' => kk H locs ls' hl' hP hD hS)
theorem j_aload_n (C : jk_C κ cc own R nL tys) {k : Fin 4} {i : Nat} {x : Nat} (hdg : decode cc pc = .ok (.aload_n k, 1)) (hi : (k : Nat) = i) (j : Nat) (hj : lv[j]? = some (i, .ref x)) (kk : jk_J κ ws (pc + 1) lv (.ref x :: st) cells slots) : jk_J κ ws pc lv (st) cells slots := fun H locs ls hl hP hD hS => lv_aload_n C.1 C.2.1 hdg hi (lv_at hl j hj) (kk H locs ls hl hP hD hS)
theorem j_aload (C : jk_C κ cc own R nL tys) {i : Nat} {x : Nat} (hdg : decode cc pc = .ok (.aload i, 2)) (j : Nat) (hj : lv[j]? = some (i, .ref x)) (kk : jk_J κ ws (pc + 2) lv (.ref x :: st) cells slots) : jk_J κ ws pc lv (st) cells slots := fun H locs ls hl hP hD hS => lv_aload C.1 C.2.1 hdg (lv_at hl j hj) (kk H locs ls hl hP hD hS)
theorem j_astore_n (C : jk_C κ cc own R nL tys) {k : Fin 4} {i : Nat} {x : Nat} {lv' : List (Nat × Value)} (hdg : decode cc pc = .ok (.astore_n k, 1)) (hi : (k : Nat) = i) (hn : i < nL) (hlv : (i, Value.ref x) :: lv.filter (fun q => !(q.1 == i) && !(q.1 + 1 == i && q.2.category == 2)) = lv') (kk : jk_J κ ws (pc + 1) lv' st cells slots) : jk_J κ ws pc lv (.ref x :: st) cells slots := fun H locs ls hl hP hD hS => lv_astore_n C.1 C.2.1 hdg hi hl (by rw [C.2.2.1.2]; exact hn) hlv (fun ls' hl' => kk H locs ls' hl' hP hD hS)
theorem j_astore (C : jk_C κ cc own R nL tys) {i : Nat} {x : Nat} {lv' : List (Nat × Value)} (hdg : decode cc pc = .ok (.astore i, 2)) (hn : i < nL) (hlv : (i, Value.ref x) :: lv.filter (fun q => !(q.1 == i) && !(q.1 + 1 == i && q.2.category == 2)) = lv') (kk : jk_J κ ws (pc + 2) lv' st cells slots) : jk_J κ ws pc lv (.ref x :: st) cells slots := fun H locs ls hl hP hD hS => lv_astore C.1 C.2.1 hdg hl (by rw [C.2.2.1.2]; exact hn) hlv (fun ls' hl' => kk H locs ls' hl' hP hD hS)
theorem j_iinc (C : jk_C κ cc own R nL tys) {i k : Nat} {n : Int} {x v : Int32} {lv' : List (Nat × Value)} (hdg : decode cc pc = .ok (.iinc i n, 3)) (hk : lv[k]? = some (i, .int x)) (hv : x + Int32.ofInt n = v) (hn : i < nL) (hlv : (i, Value.int v) :: lv.filter (fun q => !(q.1 == i) && !(q.1 + 1 == i && q.2.category == 2)) = lv') (kk : jk_J κ ws (pc + 3) lv' st cells slots) : jk_J κ ws pc lv st cells slots := fun H locs ls hl hP hD hS => lv_iinc C.1 C.2.1 hdg hl hk hv (by rw [C.2.2.1.2]; exact hn) hlv (fun ls' hl' => kk H locs ls' hl' hP hD hS)
theorem j_iadd (C : jk_C κ cc own R nL tys) {x y : Int32} (hdg : decode cc pc = .ok (.iadd, 1)) (kk : jk_J κ ws (pc + 1) lv (.int (x + y) :: st) cells slots) : jk_J κ ws pc lv (.int y :: .int x :: st) cells slots := fun H locs ls hl hP hD hS => lv_iadd C.1 C.2.1 hdg (kk H locs ls hl hP hD hS)
theorem j_isub (C : jk_C κ cc own R nL tys) {x y : Int32} (hdg : decode cc pc = .ok (.isub, 1)) (kk : jk_J κ ws (pc + 1) lv (.int (x - y) :: st) cells slots) : jk_J κ ws pc lv (.int y :: .int x :: st) cells slots := fun H locs ls hl hP hD hS => lv_isub C.1 C.2.1 hdg (kk H locs ls hl hP hD hS)
theorem j_imul (C : jk_C κ cc own R nL tys) {x y : Int32} (hdg : decode cc pc = .ok (.imul, 1)) (kk : jk_J κ ws (pc + 1) lv (.int (x * y) :: st) cells slots) : jk_J κ ws pc lv (.int y :: .int x :: st) cells slots := fun H locs ls hl hP hD hS => lv_imul C.1 C.2.1 hdg (kk H locs ls hl hP hD hS)
theorem j_iand (C : jk_C κ cc own R nL tys) {x y : Int32} (hdg : decode cc pc = .ok (.iand, 1)) (kk : jk_J κ ws (pc + 1) lv (.int (x &&& y) :: st) cells slots) : jk_J κ ws pc lv (.int y :: .int x :: st) cells slots := fun H locs ls hl hP hD hS => lv_iand C.1 C.2.1 hdg (kk H locs ls hl hP hD hS)
theorem j_ior (C : jk_C κ cc own R nL tys) {x y : Int32} (hdg : decode cc pc = .ok (.ior, 1)) (kk : jk_J κ ws (pc + 1) lv (.int (x ||| y) :: st) cells slots) : jk_J κ ws pc lv (.int y :: .int x :: st) cells slots := fun H locs ls hl hP hD hS => lv_ior C.1 C.2.1 hdg (kk H locs ls hl hP hD hS)
theorem j_ixor (C : jk_C κ cc own R nL tys) {x y : Int32} (hdg : decode cc pc = .ok (.ixor, 1)) (kk : jk_J κ ws (pc + 1) lv (.int (x ^^^ y) :: st) cells slots) : jk_J κ ws pc lv (.int y :: .int x :: st) cells slots := fun H locs ls hl hP hD hS => lv_ixor C.1 C.2.1 hdg (kk H locs ls hl hP hD hS)
theorem j_idiv (C : jk_C κ cc own R nL tys) {x y : Int32} (hdg : decode cc pc = .ok (.idiv, 1)) (hne : ¬ y = 0) (kk : jk_J κ ws (pc + 1) lv (.int (x / y) :: st) cells slots) : jk_J κ ws pc lv (.int y :: .int x :: st) cells slots := fun H locs ls hl hP hD hS => lv_idiv C.1 C.2.1 hdg hne (kk H locs ls hl hP hD hS)
theorem j_irem (C : jk_C κ cc own R nL tys) {x y : Int32} (hdg : decode cc pc = .ok (.irem, 1)) (hne : ¬ y = 0) (kk : jk_J κ ws (pc + 1) lv (.int (x - x / y * y) :: st) cells slots) : jk_J κ ws pc lv (.int y :: .int x :: st) cells slots := fun H locs ls hl hP hD hS => lv_irem C.1 C.2.1 hdg hne (kk H locs ls hl hP hD hS)
theorem j_ineg (C : jk_C κ cc own R nL tys) {x : Int32} (hdg : decode cc pc = .ok (.ineg, 1)) (kk : jk_J κ ws (pc + 1) lv (.int (-x) :: st) cells slots) : jk_J κ ws pc lv (.int x :: st) cells slots := fun H locs ls hl hP hD hS => lv_ineg C.1 C.2.1 hdg (kk H locs ls hl hP hD hS)
theorem j_ladd (C : jk_C κ cc own R nL tys) {x y : Int64} (hdg : decode cc pc = .ok (.ladd, 1)) (kk : jk_J κ ws (pc + 1) lv (.long (x + y) :: st) cells slots) : jk_J κ ws pc lv (.long y :: .long x :: st) cells slots := fun H locs ls hl hP hD hS => lv_ladd C.1 C.2.1 hdg (kk H locs ls hl hP hD hS)
theorem j_lsub (C : jk_C κ cc own R nL tys) {x y : Int64} (hdg : decode cc pc = .ok (.lsub, 1)) (kk : jk_J κ ws (pc + 1) lv (.long (x - y) :: st) cells slots) : jk_J κ ws pc lv (.long y :: .long x :: st) cells slots := fun H locs ls hl hP hD hS => lv_lsub C.1 C.2.1 hdg (kk H locs ls hl hP hD hS)
theorem j_lmul (C : jk_C κ cc own R nL tys) {x y : Int64} (hdg : decode cc pc = .ok (.lmul, 1)) (kk : jk_J κ ws (pc + 1) lv (.long (x * y) :: st) cells slots) : jk_J κ ws pc lv (.long y :: .long x :: st) cells slots := fun H locs ls hl hP hD hS => lv_lmul C.1 C.2.1 hdg (kk H locs ls hl hP hD hS)
theorem j_land (C : jk_C κ cc own R nL tys) {x y : Int64} (hdg : decode cc pc = .ok (.land, 1)) (kk : jk_J κ ws (pc + 1) lv (.long (x &&& y) :: st) cells slots) : jk_J κ ws pc lv (.long y :: .long x :: st) cells slots := fun H locs ls hl hP hD hS => lv_land C.1 C.2.1 hdg (kk H locs ls hl hP hD hS)
theorem j_lor (C : jk_C κ cc own R nL tys) {x y : Int64} (hdg : decode cc pc = .ok (.lor, 1)) (kk : jk_J κ ws (pc + 1) lv (.long (x ||| y) :: st) cells slots) : jk_J κ ws pc lv (.long y :: .long x :: st) cells slots := fun H locs ls hl hP hD hS => lv_lor C.1 C.2.1 hdg (kk H locs ls hl hP hD hS)
theorem j_lxor (C : jk_C κ cc own R nL tys) {x y : Int64} (hdg : decode cc pc = .ok (.lxor, 1)) (kk : jk_J κ ws (pc + 1) lv (.long (x ^^^ y) :: st) cells slots) : jk_J κ ws pc lv (.long y :: .long x :: st) cells slots := fun H locs ls hl hP hD hS => lv_lxor C.1 C.2.1 hdg (kk H locs ls hl hP hD hS)
theorem j_ldiv (C : jk_C κ cc own R nL tys) {x y : Int64} (hdg : decode cc pc = .ok (.ldiv, 1)) (hne : ¬ y = 0) (kk : jk_J κ ws (pc + 1) lv (.long (x / y) :: st) cells slots) : jk_J κ ws pc lv (.long y :: .long x :: st) cells slots := fun H locs ls hl hP hD hS => lv_ldiv C.1 C.2.1 hdg hne (kk H locs ls hl hP hD hS)
theorem j_lrem (C : jk_C κ cc own R nL tys) {x y : Int64} (hdg : decode cc pc = .ok (.lrem, 1)) (hne : ¬ y = 0) (kk : jk_J κ ws (pc + 1) lv (.long (x - x / y * y) :: st) cells slots) : jk_J κ ws pc lv (.long y :: .long x :: st) cells slots := fun H locs ls hl hP hD hS => lv_lrem C.1 C.2.1 hdg hne (kk H locs ls hl hP hD hS)
theorem j_lneg (C : jk_C κ cc own R nL tys) {x : Int64} (hdg : decode cc pc = .ok (.lneg, 1)) (kk : jk_J κ ws (pc + 1) lv (.long (-x) :: st) cells slots) : jk_J κ ws pc lv (.long x :: st) cells slots := fun H locs ls hl hP hD hS => lv_lneg C.1 C.2.1 hdg (kk H locs ls hl hP hD hS)
theorem j_ishl (C : jk_C κ cc own R nL tys) {x y : Int32} (hdg : decode cc pc = .ok (.ishl, 1)) (kk : jk_J κ ws (pc + 1) lv (.int (x <<< (y &&& 31)) :: st) cells slots) : jk_J κ ws pc lv (.int y :: .int x :: st) cells slots := fun H locs ls hl hP hD hS => lv_ishl C.1 C.2.1 hdg (kk H locs ls hl hP hD hS)
theorem j_ishr (C : jk_C κ cc own R nL tys) {x y : Int32} (hdg : decode cc pc = .ok (.ishr, 1)) (kk : jk_J κ ws (pc + 1) lv (.int (x >>> (y &&& 31)) :: st) cells slots) : jk_J κ ws pc lv (.int y :: .int x :: st) cells slots := fun H locs ls hl hP hD hS => lv_ishr C.1 C.2.1 hdg (kk H locs ls hl hP hD hS)
theorem j_lshl (C : jk_C κ cc own R nL tys) {x : Int64} {y : Int32} (hdg : decode cc pc = .ok (.lshl, 1)) (kk : jk_J κ ws (pc + 1) lv (.long (x <<< (y.toInt64 &&& 63)) :: st) cells slots) : jk_J κ ws pc lv (.int y :: .long x :: st) cells slots := fun H locs ls hl hP hD hS => lv_lshl C.1 C.2.1 hdg rfl (kk H locs ls hl hP hD hS)
theorem j_lshr (C : jk_C κ cc own R nL tys) {x : Int64} {y : Int32} (hdg : decode cc pc = .ok (.lshr, 1)) (kk : jk_J κ ws (pc + 1) lv (.long (x >>> (y.toInt64 &&& 63)) :: st) cells slots) : jk_J κ ws pc lv (.int y :: .long x :: st) cells slots := fun H locs ls hl hP hD hS => lv_lshr C.1 C.2.1 hdg rfl (kk H locs ls hl hP hD hS)
theorem j_i2l (C : jk_C κ cc own R nL tys) {x : Int32} (hdg : decode cc pc = .ok (.i2l, 1)) (kk : jk_J κ ws (pc + 1) lv (.long x.toInt64 :: st) cells slots) : jk_J κ ws pc lv (.int x :: st) cells slots := fun H locs ls hl hP hD hS => lv_i2l C.1 C.2.1 hdg rfl (kk H locs ls hl hP hD hS)
theorem j_l2i (C : jk_C κ cc own R nL tys) {x : Int64} (hdg : decode cc pc = .ok (.l2i, 1)) (kk : jk_J κ ws (pc + 1) lv (.int x.toInt32 :: st) cells slots) : jk_J κ ws pc lv (.long x :: st) cells slots := fun H locs ls hl hP hD hS => lv_l2i C.1 C.2.1 hdg rfl (kk H locs ls hl hP hD hS)
theorem j_lcmp (C : jk_C κ cc own R nL tys) {x y : Int64} (hdg : decode cc pc = .ok (.lcmp, 1)) (kk : jk_J κ ws (pc + 1) lv (.int (lg_cmp x y) :: st) cells slots) : jk_J κ ws pc lv (.long y :: .long x :: st) cells slots := fun H locs ls hl hP hD hS => W.lcmp C.1 C.2.1 hdg (kk H locs ls hl hP hD hS)
theorem j_dup (C : jk_C κ cc own R nL tys) {va : Value} (hdg : decode cc pc = .ok (.dup, 1)) (hva : va.category = 1) (kk : jk_J κ ws (pc + 1) lv (va :: va :: st) cells slots) : jk_J κ ws pc lv (va :: st) cells slots := fun H locs ls hl hP hD hS => lv_dup C.1 C.2.1 hdg hva (kk H locs ls hl hP hD hS)
theorem j_pop (C : jk_C κ cc own R nL tys) {va : Value} (hdg : decode cc pc = .ok (.pop, 1)) (hva : va.category = 1) (kk : jk_J κ ws (pc + 1) lv (st) cells slots) : jk_J κ ws pc lv (va :: st) cells slots := fun H locs ls hl hP hD hS => lv_pop C.1 C.2.1 hdg hva (kk H locs ls hl hP hD hS)
theorem j_dup_x1 (C : jk_C κ cc own R nL tys) {va vb : Value} (hdg : decode cc pc = .ok (.dup_x1, 1)) (hva : va.category = 1) (hvb : vb.category = 1) (kk : jk_J κ ws (pc + 1) lv (va :: vb :: va :: st) cells slots) : jk_J κ ws pc lv (va :: vb :: st) cells slots := fun H locs ls hl hP hD hS => lv_dup_x1 C.1 C.2.1 hdg hva hvb (kk H locs ls hl hP hD hS)
theorem j_dup_x2 (C : jk_C κ cc own R nL tys) {va vb vd : Value} (hdg : decode cc pc = .ok (.dup_x2, 1)) (hva : va.category = 1) (hvb : vb.category = 1) (hvd : vd.category = 1) (kk : jk_J κ ws (pc + 1) lv (va :: vb :: vd :: va :: st) cells slots) : jk_J κ ws pc lv (va :: vb :: vd :: st) cells slots := fun H locs ls hl hP hD hS => lv_dup_x2 C.1 C.2.1 hdg hva hvb hvd (kk H locs ls hl hP hD hS)
theorem j_dup2 (C : jk_C κ cc own R nL tys) {va vb : Value} (hdg : decode cc pc = .ok (.dup2, 1)) (hva : va.category = 1) (hvb : vb.category = 1) (kk : jk_J κ ws (pc + 1) lv (va :: vb :: va :: vb :: st) cells slots) : jk_J κ ws pc lv (va :: vb :: st) cells slots := fun H locs ls hl hP hD hS => lv_dup2_11 C.1 C.2.1 hdg hva hvb (kk H locs ls hl hP hD hS)
theorem j_dup2_2 (C : jk_C κ cc own R nL tys) {va : Value} (hdg : decode cc pc = .ok (.dup2, 1)) (hva : va.category = 2) (kk : jk_J κ ws (pc + 1) lv (va :: va :: st) cells slots) : jk_J κ ws pc lv (va :: st) cells slots := fun H locs ls hl hP hD hS => lv_dup2_2 C.1 C.2.1 hdg hva (kk H locs ls hl hP hD hS)
theorem j_dup2_x1_2 (C : jk_C κ cc own R nL tys) {va vb : Value} (hdg : decode cc pc = .ok (.dup2_x1, 1)) (hva : va.category = 2) (hvb : vb.category = 1) (kk : jk_J κ ws (pc + 1) lv (va :: vb :: va :: st) cells slots) : jk_J κ ws pc lv (va :: vb :: st) cells slots := fun H locs ls hl hP hD hS => lv_dup2_x1_2 C.1 C.2.1 hdg hva hvb (kk H locs ls hl hP hD hS)
theorem j_dup2_x2_2 (C : jk_C κ cc own R nL tys) {va vb vd : Value} (hdg : decode cc pc = .ok (.dup2_x2, 1)) (hva : va.category = 2) (hvb : vb.category = 1) (hvd : vd.category = 1) (kk : jk_J κ ws (pc + 1) lv (va :: vb :: vd :: va :: st) cells slots) : jk_J κ ws pc lv (va :: vb :: vd :: st) cells slots := fun H locs ls hl hP hD hS => lv_dup2_x2_2 C.1 C.2.1 hdg hva hvb hvd (kk H locs ls hl hP hD hS)
theorem j_pop2_2 (C : jk_C κ cc own R nL tys) {va : Value} (hdg : decode cc pc = .ok (.pop2, 1)) (hva : va.category = 2) (kk : jk_J κ ws (pc + 1) lv (st) cells slots) : jk_J κ ws pc lv (va :: st) cells slots := fun H locs ls hl hP hD hS => lv_pop2_2 C.1 C.2.1 hdg hva (kk H locs ls hl hP hD hS)
theorem j_if_eq (C : jk_C κ cc own R nL tys) {x : Int32} {off : Int} {tgt : Nat} (hdg : decode cc pc = .ok (.ifCond .eq off, 3)) (ht : (pc : Int) + off = (tgt : Int)) (kt : x = 0 → jk_J κ ws tgt lv st cells slots) (kf : ¬ x = 0 → jk_J κ ws (pc + 3) lv st cells slots) : jk_J κ ws pc lv (.int x :: st) cells slots := fun H locs ls hl hP hD hS => lv_if_eq C.1 C.2.1 hdg ht (fun h => kt h H locs ls hl hP hD hS) (fun h => kf h H locs ls hl hP hD hS)
theorem j_icmp_eq (C : jk_C κ cc own R nL tys) {x y : Int32} {off : Int} {tgt : Nat} (hdg : decode cc pc = .ok (.if_icmp .eq off, 3)) (ht : (pc : Int) + off = (tgt : Int)) (kt : x = y → jk_J κ ws tgt lv st cells slots) (kf : ¬ x = y → jk_J κ ws (pc + 3) lv st cells slots) : jk_J κ ws pc lv (.int y :: .int x :: st) cells slots := fun H locs ls hl hP hD hS => lv_icmp_eq C.1 C.2.1 hdg ht (fun h => kt h H locs ls hl hP hD hS) (fun h => kf h H locs ls hl hP hD hS)
theorem j_if_ne (C : jk_C κ cc own R nL tys) {x : Int32} {off : Int} {tgt : Nat} (hdg : decode cc pc = .ok (.ifCond .ne off, 3)) (ht : (pc : Int) + off = (tgt : Int)) (kt : ¬ x = 0 → jk_J κ ws tgt lv st cells slots) (kf : x = 0 → jk_J κ ws (pc + 3) lv st cells slots) : jk_J κ ws pc lv (.int x :: st) cells slots := fun H locs ls hl hP hD hS => lv_if_ne C.1 C.2.1 hdg ht (fun h => kt h H locs ls hl hP hD hS) (fun h => kf h H locs ls hl hP hD hS)
theorem j_icmp_ne (C : jk_C κ cc own R nL tys) {x y : Int32} {off : Int} {tgt : Nat} (hdg : decode cc pc = .ok (.if_icmp .ne off, 3)) (ht : (pc : Int) + off = (tgt : Int)) (kt : ¬ x = y → jk_J κ ws tgt lv st cells slots) (kf : x = y → jk_J κ ws (pc + 3) lv st cells slots) : jk_J κ ws pc lv (.int y :: .int x :: st) cells slots := fun H locs ls hl hP hD hS => lv_icmp_ne C.1 C.2.1 hdg ht (fun h => kt h H locs ls hl hP hD hS) (fun h => kf h H locs ls hl hP hD hS)
theorem j_if_lt (C : jk_C κ cc own R nL tys) {x : Int32} {off : Int} {tgt : Nat} (hdg : decode cc pc = .ok (.ifCond .lt off, 3)) (ht : (pc : Int) + off = (tgt : Int)) (kt : x < 0 → jk_J κ ws tgt lv st cells slots) (kf : ¬ x < 0 → jk_J κ ws (pc + 3) lv st cells slots) : jk_J κ ws pc lv (.int x :: st) cells slots := fun H locs ls hl hP hD hS => lv_if_lt C.1 C.2.1 hdg ht (fun h => kt h H locs ls hl hP hD hS) (fun h => kf h H locs ls hl hP hD hS)
theorem j_icmp_lt (C : jk_C κ cc own R nL tys) {x y : Int32} {off : Int} {tgt : Nat} (hdg : decode cc pc = .ok (.if_icmp .lt off, 3)) (ht : (pc : Int) + off = (tgt : Int)) (kt : x < y → jk_J κ ws tgt lv st cells slots) (kf : ¬ x < y → jk_J κ ws (pc + 3) lv st cells slots) : jk_J κ ws pc lv (.int y :: .int x :: st) cells slots := fun H locs ls hl hP hD hS => lv_icmp_lt C.1 C.2.1 hdg ht (fun h => kt h H locs ls hl hP hD hS) (fun h => kf h H locs ls hl hP hD hS)
theorem j_if_ge (C : jk_C κ cc own R nL tys) {x : Int32} {off : Int} {tgt : Nat} (hdg : decode cc pc = .ok (.ifCond .ge off, 3)) (ht : (pc : Int) + off = (tgt : Int)) (kt : 0 ≤ x → jk_J κ ws tgt lv st cells slots) (kf : ¬ 0 ≤ x → jk_J κ ws (pc + 3) lv st cells slots) : jk_J κ ws pc lv (.int x :: st) cells slots := fun H locs ls hl hP hD hS => lv_if_ge C.1 C.2.1 hdg ht (fun h => kt h H locs ls hl hP hD hS) (fun h => kf h H locs ls hl hP hD hS)
theorem j_icmp_ge (C : jk_C κ cc own R nL tys) {x y : Int32} {off : Int} {tgt : Nat} (hdg : decode cc pc = .ok (.if_icmp .ge off, 3)) (ht : (pc : Int) + off = (tgt : Int)) (kt : y ≤ x → jk_J κ ws tgt lv st cells slots) (kf : ¬ y ≤ x → jk_J κ ws (pc + 3) lv st cells slots) : jk_J κ ws pc lv (.int y :: .int x :: st) cells slots := fun H locs ls hl hP hD hS => lv_icmp_ge C.1 C.2.1 hdg ht (fun h => kt h H locs ls hl hP hD hS) (fun h => kf h H locs ls hl hP hD hS)
theorem j_if_gt (C : jk_C κ cc own R nL tys) {x : Int32} {off : Int} {tgt : Nat} (hdg : decode cc pc = .ok (.ifCond .gt off, 3)) (ht : (pc : Int) + off = (tgt : Int)) (kt : 0 < x → jk_J κ ws tgt lv st cells slots) (kf : ¬ 0 < x → jk_J κ ws (pc + 3) lv st cells slots) : jk_J κ ws pc lv (.int x :: st) cells slots := fun H locs ls hl hP hD hS => lv_if_gt C.1 C.2.1 hdg ht (fun h => kt h H locs ls hl hP hD hS) (fun h => kf h H locs ls hl hP hD hS)
theorem j_icmp_gt (C : jk_C κ cc own R nL tys) {x y : Int32} {off : Int} {tgt : Nat} (hdg : decode cc pc = .ok (.if_icmp .gt off, 3)) (ht : (pc : Int) + off = (tgt : Int)) (kt : y < x → jk_J κ ws tgt lv st cells slots) (kf : ¬ y < x → jk_J κ ws (pc + 3) lv st cells slots) : jk_J κ ws pc lv (.int y :: .int x :: st) cells slots := fun H locs ls hl hP hD hS => lv_icmp_gt C.1 C.2.1 hdg ht (fun h => kt h H locs ls hl hP hD hS) (fun h => kf h H locs ls hl hP hD hS)
theorem j_if_le (C : jk_C κ cc own R nL tys) {x : Int32} {off : Int} {tgt : Nat} (hdg : decode cc pc = .ok (.ifCond .le off, 3)) (ht : (pc : Int) + off = (tgt : Int)) (kt : x ≤ 0 → jk_J κ ws tgt lv st cells slots) (kf : ¬ x ≤ 0 → jk_J κ ws (pc + 3) lv st cells slots) : jk_J κ ws pc lv (.int x :: st) cells slots := fun H locs ls hl hP hD hS => lv_if_le C.1 C.2.1 hdg ht (fun h => kt h H locs ls hl hP hD hS) (fun h => kf h H locs ls hl hP hD hS)
theorem j_icmp_le (C : jk_C κ cc own R nL tys) {x y : Int32} {off : Int} {tgt : Nat} (hdg : decode cc pc = .ok (.if_icmp .le off, 3)) (ht : (pc : Int) + off = (tgt : Int)) (kt : x ≤ y → jk_J κ ws tgt lv st cells slots) (kf : ¬ x ≤ y → jk_J κ ws (pc + 3) lv st cells slots) : jk_J κ ws pc lv (.int y :: .int x :: st) cells slots := fun H locs ls hl hP hD hS => lv_icmp_le C.1 C.2.1 hdg ht (fun h => kt h H locs ls hl hP hD hS) (fun h => kf h H locs ls hl hP hD hS)
theorem j_goto (C : jk_C κ cc own R nL tys) {off : Int} {tgt : Nat} (hdg : decode cc pc = .ok (.goto off, 3)) (ht : (pc : Int) + off = (tgt : Int)) (kk : jk_J κ ws tgt lv st cells slots) : jk_J κ ws pc lv st cells slots := fun H locs ls hl hP hD hS => lv_goto C.1 C.2.1 hdg ht (kk H locs ls hl hP hD hS)
theorem j_tableIn (C : jk_C κ cc own R nL tys) {dflt lo hi : Int} {offs : Array Int} {len : Nat} {x : Int32} {off : Int} {tgt : Nat} (hdg : decode cc pc = .ok (.tableswitch dflt lo hi offs, len)) (h1 : ¬ x.toInt < lo) (h2 : ¬ hi < x.toInt) (ho : offs[(x.toInt - lo).toNat]? = some off) (ht : (pc : Int) + off = (tgt : Int)) (kk : jk_J κ ws tgt lv st cells slots) : jk_J κ ws pc lv (.int x :: st) cells slots := fun H locs ls hl hP hD hS => lv_tableIn C.1 C.2.1 hdg h1 h2 ho ht (kk H locs ls hl hP hD hS)
theorem j_tableOut (C : jk_C κ cc own R nL tys) {dflt lo hi : Int} {offs : Array Int} {len : Nat} {x : Int32} {tgt : Nat} (hdg : decode cc pc = .ok (.tableswitch dflt lo hi offs, len)) (h : x.toInt < lo ∨ hi < x.toInt) (ht : (pc : Int) + dflt = (tgt : Int)) (kk : jk_J κ ws tgt lv st cells slots) : jk_J κ ws pc lv (.int x :: st) cells slots := fun H locs ls hl hP hD hS => lv_tableOut C.1 C.2.1 hdg h ht (kk H locs ls hl hP hD hS)
theorem j_get (C : jk_C κ cc own R nL tys) {C' : String} {T : u_T} {N ci index a : Nat} (hin : ∀ w ∈ u_ws C' T N, w ∈ tb) (q0 : Nat) {fs : List Value} (he : ws[q0]? = some (a, .inr (ci, fs))) (hc : classes[ci]? = some (C', T, N)) (k : Nat) (hk : k < N) (hlink : Cond.fieldLink own index (T k).1 (T k).2.1 (T k).2.2.1 ∈ tb) {v : Value} (hv : fs[k]? = some v) (hdg : decode cc pc = .ok (.getfield index, 3)) (kk : jk_J κ ws (pc + 3) lv (v :: st) cells slots) : jk_J κ ws pc lv (.ref a :: st) cells slots := fun H locs ls hl hP hD hS => va_get C.1 C.2.1 C.2.2.2.2.1 hin C.2.2.2.1 C.2.2.2.2.2.1 hP q0 he hc k hk (C.2.2.2.2.1 _ hlink) (fun _ h9 => h9) hv hdg (kk H locs ls hl hP hD hS)
theorem j_put (C : jk_C κ cc own R nL tys) {C' : String} {T : u_T} {N ci index a : Nat} (hin : ∀ w ∈ u_ws C' T N, w ∈ tb) (ty0 : Nat → FieldType) (hty : ∀ k, k < N → parseFieldDescriptor (T k).2.2.1 = some (ty0 k)) (hnm : ∀ a, a < N → ∀ b, b < N → a ≠ b → (T a).2.1 ≠ (T b).2.1) (q0 : Nat) {fs : List Value} (he : ws[q0]? = some (a, .inr (ci, fs))) (hc : classes[ci]? = some (C', T, N)) (k : Nat) (hk : k < N) (hlink : Cond.fieldLink own index (T k).1 (T k).2.1 (T k).2.2.1 ∈ tb) (hfin : (T k).2.2.2 = false) {ty : FieldType} {v : Value} (hd : parseFieldDescriptor (T k).2.2.1 = some ty) (hn : narrow ty v = v) (hfit : fits ty v = true) (hlen : k < fs.length) {ws' : va_W} (hw : ws.set q0 (a, .inr (ci, fs.set k v)) = ws') (hdg : decode cc pc = .ok (.putfield index, 3)) (kk : jk_J κ ws' (pc + 3) lv st cells slots) : jk_J κ ws pc lv (v :: .ref a :: st) cells slots := by
  subst hw
  exact fun H locs ls hl hP hD hS => va_put C.1 C.2.1 C.2.2.2.2.1 hin ty0 hty hnm C.2.2.2.1 C.2.2.2.2.2.1 hP hD hS q0 he hc k hk (C.2.2.2.2.1 _ hlink) (fun _ h9 => h9) hfin hd hn hfit hlen hdg (fun H1 locs1 hP hD hS => kk H1 locs1 ls hl hP hD hS)
theorem j_putF (C : jk_C κ cc own R nL tys) {C' : String} {T : u_T} {N ci index a : Nat} (hin : ∀ w ∈ u_ws C' T N, w ∈ tb) (ty0 : Nat → FieldType) (hty : ∀ k, k < N → parseFieldDescriptor (T k).2.2.1 = some (ty0 k)) (hnm : ∀ a, a < N → ∀ b, b < N → a ≠ b → (T a).2.1 ≠ (T b).2.1) (q0 : Nat) {fs : List Value} (he : ws[q0]? = some (a, .inr (ci, fs))) (hc : classes[ci]? = some (C', T, N)) (k : Nat) (hk : k < N) (hlink : Cond.fieldLink own index (T k).1 (T k).2.1 (T k).2.2.1 ∈ tb) (hfin : (T k).2.2.2 = true) (hin2 : (jk_t κ).name = "<init>") (hdecl : (T k).1 = own) {ty : FieldType} {v : Value} (hd : parseFieldDescriptor (T k).2.2.1 = some ty) (hn : narrow ty v = v) (hfit : fits ty v = true) (hlen : k < fs.length) {ws' : va_W} (hw : ws.set q0 (a, .inr (ci, fs.set k v)) = ws') (hdg : decode cc pc = .ok (.putfield index, 3)) (kk : jk_J κ ws' (pc + 3) lv st cells slots) : jk_J κ ws pc lv (v :: .ref a :: st) cells slots := by
  subst hw
  exact fun H locs ls hl hP hD hS => va_putF C.1 C.2.1 C.2.2.2.2.1 hin ty0 hty hnm C.2.2.2.1 C.2.2.2.2.2.1 hP hD hS q0 he hc k hk (C.2.2.2.2.1 _ hlink) (fun _ h9 => h9) hfin hin2 hdecl hd hn hfit hlen hdg (fun H1 locs1 hP hD hS => kk H1 locs1 ls hl hP hD hS)
theorem j_iald (C : jk_C κ cc own R nL tys) {a : Nat} (q0 t0 : Nat) {cA : ClassId} {n : Nat} {f : Nat → Int32} (ha : ws[q0]? = some (a, .inl (cA, n, .inl f))) (ht : tys[t0]? = some (cA, .int)) {i : Int32} (hin : vp_in i n) (hdg : decode cc pc = .ok (.iaload, 1)) (kk : jk_J κ ws (pc + 1) lv (.int (f i.toNatClampNeg) :: st) cells slots) : jk_J κ ws pc lv (.int i :: .ref a :: st) cells slots := fun H locs ls hl hP hD hS => va_iald C.1 C.2.1 C.2.2.2.2.2.1 hP q0 t0 ha ht hin hdg (kk H locs ls hl hP hD hS)
theorem j_iast (C : jk_C κ cc own R nL tys) {a : Nat} (q0 t0 : Nat) {cA : ClassId} {n : Nat} {f : Nat → Int32} (ha : ws[q0]? = some (a, .inl (cA, n, .inl f))) (ht : tys[t0]? = some (cA, .int)) {i : Int32} {x : Int32} (hin : vp_in i n) {ws' : va_W} (hw : ws.set q0 (a, .inl (cA, n, .inl (upd f i.toNatClampNeg x))) = ws') (hdg : decode cc pc = .ok (.iastore, 1)) (kk : jk_J κ ws' (pc + 1) lv st cells slots) : jk_J κ ws pc lv (.int x :: .int i :: .ref a :: st) cells slots := by
  subst hw
  exact fun H locs ls hl hP hD hS => va_iast C.1 C.2.1 C.2.2.2.2.2.1 hP hD hS q0 t0 ha ht hin hdg (fun H1 locs1 hP hD hS => kk H1 locs1 ls hl hP hD hS)
theorem j_lald (C : jk_C κ cc own R nL tys) {a : Nat} (q0 t0 : Nat) {cA : ClassId} {n : Nat} {f : Nat → Int64} (ha : ws[q0]? = some (a, .inl (cA, n, .inr (.inl f)))) (ht : tys[t0]? = some (cA, .long)) {i : Int32} (hin : vp_in i n) (hdg : decode cc pc = .ok (.laload, 1)) (kk : jk_J κ ws (pc + 1) lv (.long (f i.toNatClampNeg) :: st) cells slots) : jk_J κ ws pc lv (.int i :: .ref a :: st) cells slots := fun H locs ls hl hP hD hS => va_lald C.1 C.2.1 C.2.2.2.2.2.1 hP q0 t0 ha ht hin hdg (kk H locs ls hl hP hD hS)
theorem j_last (C : jk_C κ cc own R nL tys) {a : Nat} (q0 t0 : Nat) {cA : ClassId} {n : Nat} {f : Nat → Int64} (ha : ws[q0]? = some (a, .inl (cA, n, .inr (.inl f)))) (ht : tys[t0]? = some (cA, .long)) {i : Int32} {x : Int64} (hin : vp_in i n) {ws' : va_W} (hw : ws.set q0 (a, .inl (cA, n, .inr (.inl (vp_updL f i.toNatClampNeg x)))) = ws') (hdg : decode cc pc = .ok (.lastore, 1)) (kk : jk_J κ ws' (pc + 1) lv st cells slots) : jk_J κ ws pc lv (.long x :: .int i :: .ref a :: st) cells slots := by
  subst hw
  exact fun H locs ls hl hP hD hS => va_last C.1 C.2.1 C.2.2.2.2.2.1 hP hD hS q0 t0 ha ht hin hdg (fun H1 locs1 hP hD hS => kk H1 locs1 ls hl hP hD hS)
theorem j_alen (C : jk_C κ cc own R nL tys) {a : Nat} (q0 t0 : Nat) {cA : ClassId} {x : vp_A} (ha : ws[q0]? = some (a, .inl (cA, x))) {ty : FieldType} (ht : tys[t0]? = some (cA, ty)) {v : Int32} (hv : Int32.ofNat x.1 = v) (hdg : decode cc pc = .ok (.arraylength, 1)) (kk : jk_J κ ws (pc + 1) lv (.int v :: st) cells slots) : jk_J κ ws pc lv (.ref a :: st) cells slots := fun H locs ls hl hP hD hS => va_alen C.1 C.2.1 C.2.2.2.2.2.1 hP q0 t0 ha ht hv hdg (kk H locs ls hl hP hD hS)
theorem j_nmi {x : Int32} (kk : ∀ y : Int32, y = x → jk_J κ ws pc lv (.int y :: st) cells slots) : jk_J κ ws pc lv (.int x :: st) cells slots := kk x rfl
theorem j_nml {x : Int64} (kk : ∀ y : Int64, y = x → jk_J κ ws pc lv (.long y :: st) cells slots) : jk_J κ ws pc lv (.long x :: st) cells slots := kk x rfl
theorem j_perm {ws' : va_W} (ps : List Nat) (hnp : va_nd ps = true) (hps : ps.map (fun i => ws[i]?) = ws'.map some) (kk : jk_J κ ws' pc lv st cells slots) : jk_J κ ws pc lv st cells slots := fun H locs ls hl hP hD hS => kk H locs ls hl (hP.sub ps (jk_fm hps)) (hD.sub ps hnp hps) hS
theorem j_mmax (C : jk_C κ cc own R nL tys) {index : Nat} (h1 : Cond.methodLink own index Lib.Math.max.name ∈ tb) (h2 : Cond.static Lib.Math.max.name ∈ tb) (h3 : Cond.initialized "java/lang/Math" ∈ tb) (h4 : Cond.code Lib.Math.max.name Lib.Math.max.code 2 (some .int) ∈ tb) (hframes : 1 ≤ R.frames) (hlocals : (st.map fun v => v.category).sum + 13 ≤ R.locals) (hc : cells ≤ R.cells) (hs : slots ≤ R.slots) {x y : Int32} (hdg : decode cc pc = .ok (.invokestatic index, 3)) (kk : jk_J κ ws (pc + 3) lv (.int (if x < y then y else x) :: st) cells slots) : jk_J κ ws pc lv (.int y :: .int x :: st) cells slots := by
  intro H locs ls hl hP hD hS
  rw [← C.2.2.2.2.2.2.2.1] at hframes hlocals hc hs
  exact va_mmax C.1 C.2.1 (by rw [hl.1]; exact C.2.2.1.1) C.2.2.2.1 (C.2.2.2.2.1 _ h1) (C.2.2.2.2.1 _ h2) (C.2.2.2.2.1 _ h3) (C.2.2.2.2.1 _ h4) hframes hlocals hc hs hdg (kk H locs ls hl hP hD hS)
theorem j_mmin (C : jk_C κ cc own R nL tys) {index : Nat} (h1 : Cond.methodLink own index Lib.Math.min.name ∈ tb) (h2 : Cond.static Lib.Math.min.name ∈ tb) (h3 : Cond.initialized "java/lang/Math" ∈ tb) (h4 : Cond.code Lib.Math.min.name Lib.Math.min.code 2 (some .int) ∈ tb) (hframes : 1 ≤ R.frames) (hlocals : (st.map fun v => v.category).sum + 13 ≤ R.locals) (hc : cells ≤ R.cells) (hs : slots ≤ R.slots) {x y : Int32} (hdg : decode cc pc = .ok (.invokestatic index, 3)) (kk : jk_J κ ws (pc + 3) lv (.int (if y < x then y else x) :: st) cells slots) : jk_J κ ws pc lv (.int y :: .int x :: st) cells slots := by
  intro H locs ls hl hP hD hS
  rw [← C.2.2.2.2.2.2.2.1] at hframes hlocals hc hs
  exact va_mmin C.1 C.2.1 (by rw [hl.1]; exact C.2.2.1.1) C.2.2.2.1 (C.2.2.2.2.1 _ h1) (C.2.2.2.2.1 _ h2) (C.2.2.2.2.1 _ h3) (C.2.2.2.2.1 _ h4) hframes hlocals hc hs hdg (kk H locs ls hl hP hD hS)
theorem j_oinit (C : jk_C κ cc own R nL tys) {idx : Nat} (h1 : Cond.methodLink own idx Lib.objectInit ∈ tb) (h2 : Cond.instanceMethod Lib.objectInit ∈ tb) (h3 : Cond.code Lib.objectInit ⟨#[0xb1]⟩ 1 none ∈ tb) {a : Nat} (hframes : 1 ≤ R.frames) (hlocals : (st.map fun v => v.category).sum + 12 ≤ R.locals) (hdg : decode cc pc = .ok (.invokespecial idx, 3)) (kk : jk_J κ ws (pc + 3) lv st cells slots) : jk_J κ ws pc lv (.ref a :: st) cells slots := by
  intro H locs ls hl hP hD hS
  rw [← C.2.2.2.2.2.2.2.1] at hframes hlocals
  refine W.objInit C.1 C.2.1 C.2.2.2.1 (C.2.2.2.2.1 _ h1) (C.2.2.2.2.1 _ h2) (C.2.2.2.2.1 _ h3) rfl (by rw [C.2.2.1.1]; exact hl.1) rfl hdg hframes (by simpa using hlocals) ?_
  exact kk H locs ls hl hP hD hS
theorem j_newa (C : jk_C κ cc own R nL tys) {atype : ArrayType} {ty : FieldType} (hty : newarray.typeOf atype = ty) (hw : Cond.arrayClass ty ∈ tb) (t0 : Nat) {cA : ClassId} (ht : tys[t0]? = some (cA, ty)) (hra : va_RA (jk_s κ) cA ty → (jk_s κ).vm.findClass ("[" ++ ty.toString) = some cA) {n : Int32} {N' : Nat} {a0 : vp_A} (ha : ∀ cA : ClassId, vp_cell cA a0 = arrV cA N' (fun _ => defaultValue ty)) (hn : ¬ n < 0) (hN : n.toNatClampNeg = N') (hbytes : N' * componentBytes ty ≤ 536870912) (hcells : cells + 1 ≤ R.cells) (hslots : slots + N' ≤ R.slots) (hdg : decode cc pc = .ok (.newarray atype, 2)) (kk : ∀ q : Nat, jk_J κ (ws ++ [(q, .inl (cA, a0))]) (pc + 2) lv (.ref q :: st) (cells + 1) (slots + N')) : jk_J κ ws pc lv (.int n :: st) cells slots := by
  subst hty
  intro H locs ls hl hP hD hS
  rw [← C.2.2.2.2.2.2.2.1] at hcells hslots
  refine va_newaK C.1 C.2.1 (C.2.2.2.2.1 _ hw) rfl hdg rfl hn hN hbytes hcells hslots rfl fun H1 cB e1 z1 o1 hAr hNm => ?_
  have hcc : cA = cB := Option.some.inj ((hra (C.2.2.2.2.2.1.2 t0 _ ht).2).symm.trans hNm)
  subst hcc
  have hk : ∀ (k : Nat) (x : Nat × va_E), ws[k]? = some x → H1[x.1]? = H[x.1]? := fun k x hx => o1 x.1 ((hP k x hx).lt)
  refine kk H.size H1 locs ls hl ((hP.kept hk).app (fun k x hx => ?_)) (hD.push hP rfl (C.2.2.2.2.2.2.1 _ hS.1)) ⟨Nat.le_trans hS.1 (by omega), fun x h1 h2 => (o1 x (Nat.lt_of_lt_of_le h1 hS.1)).trans (hS.2.1 x h1 h2), hS.2.2⟩
  have hz : k < 1 := (List.getElem?_eq_some_iff.mp hx).1
  rw [show k = 0 by omega] at hx
  cases hx
  show H1[H.size]? = some (vp_cell _ _)
  rw [ha]
  exact e1
theorem j_new (C : jk_C κ cc own R nL tys) {C' : String} {T : u_T} {N ci index : Nat} (hin : ∀ w ∈ u_ws C' T N, w ∈ tb) (ty : Nat → FieldType) (hty : ∀ k, k < N → parseFieldDescriptor (T k).2.2.1 = some (ty k)) (h1 : Cond.classLink own index C' ∈ tb) (h2 : Cond.instantiable C' N ∈ tb) (h3 : Cond.initialized C' ∈ tb) (hc : classes[ci]? = some (C', T, N)) {fs : List Value} (hfs : ∀ j, j < N → defaultValue (ty j) = vp_V fs j) (hcells : cells + 1 ≤ R.cells) (hslots : slots + N ≤ R.slots) (hdg : decode cc pc = .ok (.new index, 3)) (kk : ∀ q : Nat, jk_J κ (ws ++ [(q, .inr (ci, fs))]) (pc + 3) lv (.ref q :: st) (cells + 1) (slots + N)) : jk_J κ ws pc lv st cells slots := by
  intro H locs ls hl hP hD hS
  rw [← C.2.2.2.2.2.2.2.1] at hcells hslots
  exact va_new C.1 C.2.1 C.2.2.2.2.1 hin ty hty C.2.2.2.1 (C.2.2.2.2.1 _ h1) (C.2.2.2.2.1 _ h2) (C.2.2.2.2.1 _ h3) C.2.2.2.2.2.1 hP hD hS C.2.2.2.2.2.2.1 hc hfs hcells hslots hdg (fun q H1 hP hD hS => kk q H1 locs ls hl hP hD hS)
end jk_rows
end
section
/-- what a method is given: the heap's size, the world, the tables -/
def jk_P (G : va_G) (tys : List (ClassId × FieldType)) (ws : va_W) (sz : Nat) (U : State) : Prop := U.heap.size = sz ∧ va_P G classes ws U.heap ∧ va_K G classes tys U ∧ va_D (fun _ => True) ws
def jk_isO : Cond → Bool
  | .castable .. => true
  | .declares _ => true
  | _ => false
/-- words of the tables that are no good words, moved -/
theorem jk_om {u U : State} (hvm : u.vm.Alike U.vm) {w : Cond} (hw : jk_isO w = true) (h : w.before #[] u = true) : w.before #[] U = true := by
  have tr : ∀ {c : Cond}, c.onTables = true → c.before #[] (u.setVm U.vm) = true → c.before #[] U = true := by
    intro c hc h
    have e := Cond.onTables_vm (A := #[]) (A' := #[]) (U := u) (U' := U) U.vm c hc
    have hU : U.setVm U.vm = U := rfl
    rw [hU] at e
    rw [← e]
    exact h
  cases w <;> first | (simp [jk_isO] at hw; done) | exact tr rfl (by rw [Cond.declares_setVm hvm]; exact h) | exact tr rfl (by rw [Cond.castable_setVm hvm]; exact h)
theorem jk_onT : ∀ w ∈ jk_oth, w.onTables = true := by decide +kernel
theorem jk_othO : ∀ w ∈ jk_oth, jk_isO w = true := by decide +kernel
/-- what a throw needs of the heap, outside A -/
def jk_Z (A : Nat → Prop) (U : State) : Prop := vx_Zq Bundle.tN "UNASSIGNED_STACK" Bundle.steD A U U.heap ∧ vx_Zq Bundle.tN "SUPPRESSED_SENTINEL" Bundle.listD A U U.heap ∧ (∀ q ∈ jk_lits, ∃ sa : Nat, vk_R q.1 q.2.1 q.2.2 sa U) ∧ (∀ q ∈ jk_ncs, va_Nc q.1 q.2 U) ∧ ∀ w ∈ jk_oth, w.before #[] U = true
/-- what a method leaves -/
def jk_B {S : Type} (G : va_G) (tys : List (ClassId × FieldType)) (A : Nat → Prop) (wf : S → va_W) (u : S) (t : State) : Prop := va_P G classes (wf u) t.heap ∧ va_K G classes tys t ∧ va_D A (wf u)
def jk_X {S : Type} (G : va_G) (tys : List (ClassId × FieldType)) (A : Nat → Prop) (wf : S → va_W) (E : String) (u : String × S) (t : State) : Prop := E = u.1 ∧ jk_B G tys A wf u.2 t
def jk_E (κ : jk_K) (ret : Option FieldType) (Qc : Array Value → State → Outcome → State → Prop) (mc ms : Nat) : Prop := (jk_t κ).sig.returnType = ret ∧ jk_Q κ = MQ (jk_b κ) Qc (jk_a κ) (jk_s κ) mc ms (jk_A κ)
def jk_Ex (κ : jk_K) (ret : Option FieldType) (Qc : Array Value → State → Outcome → State → Prop) (XC : String → State → State → Prop) (mc ms : Nat) : Prop := (jk_t κ).sig.returnType = ret ∧ jk_Q κ = vx_MQ (jk_b κ) Qc XC (jk_a κ) (jk_s κ) mc ms (jk_A κ)
def jk_Cz (κ : jk_K) : Prop := (jk_l κ).stackTraces = false ∧ (∀ x ∈ (jk_c κ).exceptionTable.toList, False) ∧ jk_Z (jk_A κ) (jk_s κ)
/-- the cells of a part, and those that are new -/
theorem jk_free {A0 : Nat → Prop} {ws wc : va_W} {H0 H : Heap} {locs : List Loc} (hD : va_D A0 ws) (hS : va_S A0 H0 H locs) (hA : ∀ q, H0.size ≤ q → A0 q) (isC : List Nat) (hC : isC.map (fun i => ws[i]?) = wc.map some) : ∀ q, va_A wc H.size q → A0 q := va_free hD hS hA isC hC
theorem jk_Zmv {A B : Nat → Prop} {s U : State} {H : Heap} {locs : List Loc} (h : jk_Z A s) (hS : va_S A s.heap H locs) (hAB : ∀ q, B q → A q) (hU : U.heap = H) (hW : s.WarmedH U.vm) : jk_Z B U := by
  obtain ⟨h1, h2, h3, h4⟩ := h
  refine ⟨?_, ?_, fun q hq => ?_, fun q hq => va_Nc.moved hW.alike (h4.1 q hq), fun w hw => jk_om hW.alike (jk_othO w hw) (h4.2 w hw)⟩
  · rw [hU]; exact vx_Zq.moved hW.alike ((h1.kept hS.2.1).narrow hAB)
  · rw [hU]; exact vx_Zq.moved hW.alike ((h2.kept hS.2.1).narrow hAB)
  · obtain ⟨sa, h⟩ := h3 q hq
    exact ⟨sa, vk_R.warm hW h⟩
theorem jk_Zcall {A : Nat → Prop} {U : State} {g : JFrame} {mk : MethodId} {a : Array Value} (h : jk_Z A U) : jk_Z A (U.calling g mk a) := by
  obtain ⟨h1, h2, h3, h4⟩ := h
  refine ⟨vx_Zq.moved (u := U) (U := U.calling g mk a) (Vm.Alike.refl U.vm) h1, vx_Zq.moved (u := U) (U := U.calling g mk a) (Vm.Alike.refl U.vm) h2, fun q hq => ?_, fun q hq => va_Nc.moved (u := U) (U := U.calling g mk a) (Vm.Alike.refl U.vm) (h4.1 q hq), fun w hw => jk_om (u := U) (U := U.calling g mk a) (Vm.Alike.refl U.vm) (jk_othO w hw) (h4.2 w hw)⟩
  obtain ⟨sa, h⟩ := h3 q hq
  exact ⟨sa, vk_R.same rfl h⟩
theorem jk_blind {G : va_G} {tys : List (ClassId × FieldType)} {ws : va_W} {sz : Nat} {vs : List Value} : FrameBlind (va_Pc vs (jk_P G tys ws sz)) := fun a U g mk q => by
  obtain ⟨q0, q1, qP, qK, qD⟩ := q
  exact ⟨q0, q1, qP, va_K.moved (u := U) (U := U.calling g mk a) (Vm.Alike.refl U.vm) qK, qD⟩
theorem jk_blindx {G : va_G} {tys : List (ClassId × FieldType)} {ws : va_W} {sz : Nat} {vs : List Value} : FrameBlind (va_Pc vs (fun U => jk_P G tys ws sz U ∧ jk_Z (va_A ws sz) U)) := fun a U g mk q => by
  obtain ⟨q0, ⟨q1, qP, qK, qD⟩, qZ⟩ := q
  exact ⟨q0, ⟨q1, qP, va_K.moved (u := U) (U := U.calling g mk a) (Vm.Alike.refl U.vm) qK, qD⟩, jk_Zcall qZ⟩
theorem jk_goodV {own : String} {idx : Nat} {C : String} {y : MethodName} {b : ByteArray} {n : Nat} {ret : Option FieldType} (h1 : Cond.methodLink own idx y ∈ tb) (h2 : Cond.instanceMethod y ∈ tb) (h3 : Cond.selects C y y ∈ tb) (h4 : Cond.initialized C ∈ tb) (h5 : Cond.code y b n ret ∈ tb) : GoodIn tb (wsV own idx C y (Cond.code y b n ret :: tb)) := by
  intro w hw
  have hm : w ∈ tb := by
    simp only [wsV, List.mem_append, List.mem_cons, List.not_mem_nil, or_false] at hw
    rcases hw with (rfl | rfl | rfl | rfl) | rfl | hw <;> assumption
  exact ⟨hm, good_of_word (tb_good w hm)⟩
theorem jk_goodS {own : String} {idx : Nat} {y : MethodName} {b : ByteArray} {n : Nat} {ret : Option FieldType} (h1 : Cond.methodLink own idx y ∈ tb) (h2 : Cond.static y ∈ tb) (h3 : Cond.initialized y.cls ∈ tb) (h5 : Cond.code y b n ret ∈ tb) : GoodIn tb (va_wsS own idx y (Cond.code y b n ret :: tb)) := by
  intro w hw
  have hm : w ∈ tb := by
    simp only [va_wsS, List.mem_append, List.mem_cons, List.not_mem_nil, or_false] at hw
    rcases hw with (rfl | rfl | rfl) | rfl | hw <;> assumption
  exact ⟨hm, good_of_word (tb_good w hm)⟩

def jm_v (l : Launch) (G : va_G) (tys : List (ClassId × FieldType)) (y : MethodName) (b : ByteArray) (maxL : Nat) (rm : Room) (vs : List Value) (ws : va_W) {S : Type} (wf : S → va_W) (post : S → Prop) : Prop := ∀ sz : Nat, Met l y (Cond.code y b maxL none :: tb) rm (va_Pc vs (jk_P G tys ws sz)) (va_Qv post (jk_B G tys (va_A ws sz) wf) (va_A ws sz)) rm.cells rm.slots (va_A ws sz)
def jx_v (l : Launch) (G : va_G) (tys : List (ClassId × FieldType)) (y : MethodName) (b : ByteArray) (maxL : Nat) (rm : Room) (vs : List Value) (ws : va_W) {S : Type} (wf : S → va_W) (post : S → Prop) (px : String → S → Prop) : Prop := ∀ sz : Nat, vx_Met l y (Cond.code y b maxL none :: tb) rm (va_Pc vs (fun U => jk_P G tys ws sz U ∧ jk_Z (va_A ws sz) U)) (va_Qv post (jk_B G tys (va_A ws sz) wf) (va_A ws sz)) (vx_X (fun u : String × S => px u.1 u.2) (jk_X G tys (va_A ws sz) wf) (va_A ws sz)) rm.cells rm.slots (va_A ws sz)
def jm_i (l : Launch) (G : va_G) (tys : List (ClassId × FieldType)) (y : MethodName) (b : ByteArray) (maxL : Nat) (ty : FieldType) (rm : Room) (vs : List Value) (ws : va_W) {S : Type} (wf : S → va_W) (post : Int32 → S → Prop) : Prop := ∀ sz : Nat, Met l y (Cond.code y b maxL (some ty) :: tb) rm (va_Pc vs (jk_P G tys ws sz)) (va_Qi post (jk_B G tys (va_A ws sz) wf) (va_A ws sz)) rm.cells rm.slots (va_A ws sz)
def jx_i (l : Launch) (G : va_G) (tys : List (ClassId × FieldType)) (y : MethodName) (b : ByteArray) (maxL : Nat) (ty : FieldType) (rm : Room) (vs : List Value) (ws : va_W) {S : Type} (wf : S → va_W) (post : Int32 → S → Prop) (px : String → S → Prop) : Prop := ∀ sz : Nat, vx_Met l y (Cond.code y b maxL (some ty) :: tb) rm (va_Pc vs (fun U => jk_P G tys ws sz U ∧ jk_Z (va_A ws sz) U)) (va_Qi post (jk_B G tys (va_A ws sz) wf) (va_A ws sz)) (vx_X (fun u : String × S => px u.1 u.2) (jk_X G tys (va_A ws sz) wf) (va_A ws sz)) rm.cells rm.slots (va_A ws sz)
def jm_l (l : Launch) (G : va_G) (tys : List (ClassId × FieldType)) (y : MethodName) (b : ByteArray) (maxL : Nat) (rm : Room) (vs : List Value) (ws : va_W) {S : Type} (wf : S → va_W) (post : Int64 → S → Prop) : Prop := ∀ sz : Nat, Met l y (Cond.code y b maxL (some .long) :: tb) rm (va_Pc vs (jk_P G tys ws sz)) (va_Ql post (jk_B G tys (va_A ws sz) wf) (va_A ws sz)) rm.cells rm.slots (va_A ws sz)
def jx_l (l : Launch) (G : va_G) (tys : List (ClassId × FieldType)) (y : MethodName) (b : ByteArray) (maxL : Nat) (rm : Room) (vs : List Value) (ws : va_W) {S : Type} (wf : S → va_W) (post : Int64 → S → Prop) (px : String → S → Prop) : Prop := ∀ sz : Nat, vx_Met l y (Cond.code y b maxL (some .long) :: tb) rm (va_Pc vs (fun U => jk_P G tys ws sz U ∧ jk_Z (va_A ws sz) U)) (va_Ql post (jk_B G tys (va_A ws sz) wf) (va_A ws sz)) (vx_X (fun u : String × S => px u.1 u.2) (jk_X G tys (va_A ws sz) wf) (va_A ws sz)) rm.cells rm.slots (va_A ws sz)
section jk_ends
variable {κ : jk_K} {cc : ByteArray} {own : String} {R : Room} {nL : Nat} {tys : List (ClassId × FieldType)} {ws : va_W} {pc : Nat} {lv : List (Nat × Value)} {st : List Value} {cells slots : Nat} {S : Type} {wf : S → va_W} {mc ms : Nat} {XC : String → State → State → Prop}
theorem j_vret {post : S → Prop} (C : jk_C κ cc own R nL tys) (E : jk_E κ none (va_Qv post (jk_B (jk_G κ) tys (jk_A κ) wf) (jk_A κ)) mc ms) {u : S} (h : post u) (hc : cells ≤ mc) (hs : slots ≤ ms) (hdg : decode cc pc = .ok (.return_, 1)) : jk_J κ (wf u) pc lv [] cells slots := by
  intro H locs ls hl hP hD hS
  unfold jk_W
  rw [E.2]
  refine W.widen hc hs ?_
  exact W.vret C.1 C.2.1 E.1 (fun t ht hW => ⟨⟨u, rfl, h, by rw [ht]; exact hP, va_K.moved hW.alike C.2.2.2.2.2.1, hD⟩, hS.F ht⟩) hS.2.2 hdg C.2.2.2.2.2.2.2.2
theorem jx_vret {post : S → Prop} (C : jk_C κ cc own R nL tys) (E : jk_Ex κ none (va_Qv post (jk_B (jk_G κ) tys (jk_A κ) wf) (jk_A κ)) XC mc ms) {u : S} (h : post u) (hc : cells ≤ mc) (hs : slots ≤ ms) (hdg : decode cc pc = .ok (.return_, 1)) : jk_J κ (wf u) pc lv [] cells slots := by
  intro H locs ls hl hP hD hS
  unfold jk_W
  rw [E.2]
  refine vx_ret ?_
  refine W.widen hc hs ?_
  exact W.vret C.1 C.2.1 E.1 (fun t ht hW => ⟨⟨u, rfl, h, by rw [ht]; exact hP, va_K.moved hW.alike C.2.2.2.2.2.1, hD⟩, hS.F ht⟩) hS.2.2 hdg C.2.2.2.2.2.2.2.2
theorem j_iret {post : Int32 → S → Prop} (C : jk_C κ cc own R nL tys) (E : jk_E κ (some .int) (va_Qi post (jk_B (jk_G κ) tys (jk_A κ) wf) (jk_A κ)) mc ms) {u : S} {v : Int32} (h : post v u) (hc : cells ≤ mc) (hs : slots ≤ ms) (hdg : decode cc pc = .ok (.ireturn, 1)) : jk_J κ (wf u) pc lv [.int v] cells slots := by
  intro H locs ls hl hP hD hS
  unfold jk_W
  rw [E.2]
  refine W.widen hc hs ?_
  exact W.iret C.1 C.2.1 E.1 (fun t ht hW => ⟨⟨v, u, rfl, h, by rw [ht]; exact hP, va_K.moved hW.alike C.2.2.2.2.2.1, hD⟩, hS.F ht⟩) hS.2.2 hdg C.2.2.2.2.2.2.2.2
theorem jx_iret {post : Int32 → S → Prop} (C : jk_C κ cc own R nL tys) (E : jk_Ex κ (some .int) (va_Qi post (jk_B (jk_G κ) tys (jk_A κ) wf) (jk_A κ)) XC mc ms) {u : S} {v : Int32} (h : post v u) (hc : cells ≤ mc) (hs : slots ≤ ms) (hdg : decode cc pc = .ok (.ireturn, 1)) : jk_J κ (wf u) pc lv [.int v] cells slots := by
  intro H locs ls hl hP hD hS
  unfold jk_W
  rw [E.2]
  refine vx_ret ?_
  refine W.widen hc hs ?_
  exact W.iret C.1 C.2.1 E.1 (fun t ht hW => ⟨⟨v, u, rfl, h, by rw [ht]; exact hP, va_K.moved hW.alike C.2.2.2.2.2.1, hD⟩, hS.F ht⟩) hS.2.2 hdg C.2.2.2.2.2.2.2.2
theorem j_zret {post : Int32 → S → Prop} {ty : FieldType} (C : jk_C κ cc own R nL tys) (E : jk_E κ (some ty) (va_Qi post (jk_B (jk_G κ) tys (jk_A κ) wf) (jk_A κ)) mc ms) {u : S} {v : Int32} (h : post v u) (hn : narrow ty (.int v) = .int v) (hc : cells ≤ mc) (hs : slots ≤ ms) (hdg : decode cc pc = .ok (.ireturn, 1)) : jk_J κ (wf u) pc lv [.int v] cells slots := by
  intro H locs ls hl hP hD hS
  unfold jk_W
  rw [E.2]
  refine W.widen hc hs ?_
  exact W.zret C.1 C.2.1 E.1 hn (fun t ht hW => ⟨⟨v, u, rfl, h, by rw [ht]; exact hP, va_K.moved hW.alike C.2.2.2.2.2.1, hD⟩, hS.F ht⟩) hS.2.2 hdg C.2.2.2.2.2.2.2.2
theorem jx_zret {post : Int32 → S → Prop} {ty : FieldType} (C : jk_C κ cc own R nL tys) (E : jk_Ex κ (some ty) (va_Qi post (jk_B (jk_G κ) tys (jk_A κ) wf) (jk_A κ)) XC mc ms) {u : S} {v : Int32} (h : post v u) (hn : narrow ty (.int v) = .int v) (hc : cells ≤ mc) (hs : slots ≤ ms) (hdg : decode cc pc = .ok (.ireturn, 1)) : jk_J κ (wf u) pc lv [.int v] cells slots := by
  intro H locs ls hl hP hD hS
  unfold jk_W
  rw [E.2]
  refine vx_ret ?_
  refine W.widen hc hs ?_
  exact W.zret C.1 C.2.1 E.1 hn (fun t ht hW => ⟨⟨v, u, rfl, h, by rw [ht]; exact hP, va_K.moved hW.alike C.2.2.2.2.2.1, hD⟩, hS.F ht⟩) hS.2.2 hdg C.2.2.2.2.2.2.2.2
theorem j_lret {post : Int64 → S → Prop} (C : jk_C κ cc own R nL tys) (E : jk_E κ (some .long) (va_Ql post (jk_B (jk_G κ) tys (jk_A κ) wf) (jk_A κ)) mc ms) {u : S} {v : Int64} (h : post v u) (hc : cells ≤ mc) (hs : slots ≤ ms) (hdg : decode cc pc = .ok (.lreturn, 1)) : jk_J κ (wf u) pc lv [.long v] cells slots := by
  intro H locs ls hl hP hD hS
  unfold jk_W
  rw [E.2]
  refine W.widen hc hs ?_
  exact W.lret C.1 C.2.1 E.1 (fun t ht hW => ⟨⟨v, u, rfl, h, by rw [ht]; exact hP, va_K.moved hW.alike C.2.2.2.2.2.1, hD⟩, hS.F ht⟩) hS.2.2 hdg C.2.2.2.2.2.2.2.2
theorem jx_lret {post : Int64 → S → Prop} (C : jk_C κ cc own R nL tys) (E : jk_Ex κ (some .long) (va_Ql post (jk_B (jk_G κ) tys (jk_A κ) wf) (jk_A κ)) XC mc ms) {u : S} {v : Int64} (h : post v u) (hc : cells ≤ mc) (hs : slots ≤ ms) (hdg : decode cc pc = .ok (.lreturn, 1)) : jk_J κ (wf u) pc lv [.long v] cells slots := by
  intro H locs ls hl hP hD hS
  unfold jk_W
  rw [E.2]
  refine vx_ret ?_
  refine W.widen hc hs ?_
  exact W.lret C.1 C.2.1 E.1 (fun t ht hW => ⟨⟨v, u, rfl, h, by rw [ht]; exact hP, va_K.moved hW.alike C.2.2.2.2.2.1, hD⟩, hS.F ht⟩) hS.2.2 hdg C.2.2.2.2.2.2.2.2
end jk_ends
theorem jm_open_v {l : Launch} {G : va_G} {tys : List (ClassId × FieldType)} {y : MethodName} {b : ByteArray} {maxL : Nat} {rm : Room} {vs : List Value} {ws : va_W} {S : Type} {wf : S → va_W} {post : S → Prop} (hy : plainName y.cls = true) (hvs : (lg_sl vs).length ≤ maxL)
    (body : ∀ κ : jk_K, jk_l κ = l → jk_G κ = G → jk_C κ b y.cls rm maxL tys → jk_E κ none (va_Qv post (jk_B (jk_G κ) tys (jk_A κ) wf) (jk_A κ)) rm.cells rm.slots → (y.name = "<init>" → (jk_t κ).name = "<init>") → jk_J κ ws 0 (lv_args 0 vs) [] 0 0) : jm_v l G tys y b maxL rm vs ws wf post := by
  intro sz
  refine Met.ofW (cc := b) (maxL := maxL) (ret := none) hy rfl ?_
  intro p e s m args below meth c s₁ B hml hv
  obtain ⟨rfl, hsz, hP, hK, hD0⟩ := hv
  have hts := atoms_spec (ws := Cond.code y b maxL none :: tb) B.pre
  have hown : s.vm.findClass y.cls = some m.cls := findClass_of_methodNamed B.named
  subst hsz
  rw [lg_entry_eq]
  exact body (p, l, e, rm, s, m, vs.toArray, below, meth, c, maxL, G, va_A ws s.heap.size, MQ below (va_Qv post (jk_B G tys (va_A ws s.heap.size) wf) (va_A ws s.heap.size)) vs.toArray s rm.cells rm.slots (va_A ws s.heap.size)) rfl rfl ⟨B.exec, B.bytes, ⟨hml, rfl⟩, hown, fun w h => hts w (List.mem_cons_of_mem _ h), hK, fun q h => Or.inr h, rfl, B.notSynchronized⟩ ⟨B.returns, rfl⟩ (fun hn => (name_of_methodNamed B.named B.method).1.trans hn) s.heap [] _ (lv_entry vs hvs) hP hD0.self va_S.rf
theorem jx_open_v {l : Launch} {G : va_G} {tys : List (ClassId × FieldType)} {y : MethodName} {b : ByteArray} {maxL : Nat} {rm : Room} {vs : List Value} {ws : va_W} {S : Type} {wf : S → va_W} {post : S → Prop} {px : String → S → Prop} (hlt : l.stackTraces = false) (hy : plainName y.cls = true) (hvs : (lg_sl vs).length ≤ maxL)
    (body : ∀ κ : jk_K, jk_l κ = l → jk_G κ = G → jk_C κ b y.cls rm maxL tys → jk_Cz κ → jk_Ex κ none (va_Qv post (jk_B (jk_G κ) tys (jk_A κ) wf) (jk_A κ)) (vx_X (fun u : String × S => px u.1 u.2) (jk_X (jk_G κ) tys (jk_A κ) wf) (jk_A κ)) rm.cells rm.slots → jk_J κ ws 0 (lv_args 0 vs) [] 0 0) : jx_v l G tys y b maxL rm vs ws wf post px := by
  intro sz
  refine vx_ofW (cc := b) (maxL := maxL) (ret := none) hy rfl ?_
  intro p e s m args below meth c s₁ B hml hex hv
  obtain ⟨rfl, ⟨hsz, hP, hK, hD0⟩, hZ⟩ := hv
  have hts := atoms_spec (ws := Cond.code y b maxL none :: tb) B.pre
  have hown : s.vm.findClass y.cls = some m.cls := findClass_of_methodNamed B.named
  subst hsz
  rw [lg_entry_eq]
  exact body (p, l, e, rm, s, m, vs.toArray, below, meth, c, maxL, G, va_A ws s.heap.size, vx_MQ below (va_Qv post (jk_B G tys (va_A ws s.heap.size) wf) (va_A ws s.heap.size)) (vx_X (fun u : String × S => px u.1 u.2) (jk_X G tys (va_A ws s.heap.size) wf) (va_A ws s.heap.size)) vs.toArray s rm.cells rm.slots (va_A ws s.heap.size)) rfl rfl ⟨B.exec, B.bytes, ⟨hml, rfl⟩, hown, fun w h => hts w (List.mem_cons_of_mem _ h), hK, fun q h => Or.inr h, rfl, B.notSynchronized⟩ ⟨hlt, hex, hZ⟩ ⟨B.returns, rfl⟩ s.heap [] _ (lv_entry vs hvs) hP hD0.self va_S.rf
theorem jm_open_i {l : Launch} {G : va_G} {tys : List (ClassId × FieldType)} {y : MethodName} {b : ByteArray} {maxL : Nat} {ty : FieldType} {rm : Room} {vs : List Value} {ws : va_W} {S : Type} {wf : S → va_W} {post : Int32 → S → Prop} (hy : plainName y.cls = true) (hvs : (lg_sl vs).length ≤ maxL)
    (body : ∀ κ : jk_K, jk_l κ = l → jk_G κ = G → jk_C κ b y.cls rm maxL tys → jk_E κ (some ty) (va_Qi post (jk_B (jk_G κ) tys (jk_A κ) wf) (jk_A κ)) rm.cells rm.slots → (y.name = "<init>" → (jk_t κ).name = "<init>") → jk_J κ ws 0 (lv_args 0 vs) [] 0 0) : jm_i l G tys y b maxL ty rm vs ws wf post := by
  intro sz
  refine Met.ofW (cc := b) (maxL := maxL) (ret := (some ty)) hy rfl ?_
  intro p e s m args below meth c s₁ B hml hv
  obtain ⟨rfl, hsz, hP, hK, hD0⟩ := hv
  have hts := atoms_spec (ws := Cond.code y b maxL (some ty) :: tb) B.pre
  have hown : s.vm.findClass y.cls = some m.cls := findClass_of_methodNamed B.named
  subst hsz
  rw [lg_entry_eq]
  exact body (p, l, e, rm, s, m, vs.toArray, below, meth, c, maxL, G, va_A ws s.heap.size, MQ below (va_Qi post (jk_B G tys (va_A ws s.heap.size) wf) (va_A ws s.heap.size)) vs.toArray s rm.cells rm.slots (va_A ws s.heap.size)) rfl rfl ⟨B.exec, B.bytes, ⟨hml, rfl⟩, hown, fun w h => hts w (List.mem_cons_of_mem _ h), hK, fun q h => Or.inr h, rfl, B.notSynchronized⟩ ⟨B.returns, rfl⟩ (fun hn => (name_of_methodNamed B.named B.method).1.trans hn) s.heap [] _ (lv_entry vs hvs) hP hD0.self va_S.rf
theorem jx_open_i {l : Launch} {G : va_G} {tys : List (ClassId × FieldType)} {y : MethodName} {b : ByteArray} {maxL : Nat} {ty : FieldType} {rm : Room} {vs : List Value} {ws : va_W} {S : Type} {wf : S → va_W} {post : Int32 → S → Prop} {px : String → S → Prop} (hlt : l.stackTraces = false) (hy : plainName y.cls = true) (hvs : (lg_sl vs).length ≤ maxL)
    (body : ∀ κ : jk_K, jk_l κ = l → jk_G κ = G → jk_C κ b y.cls rm maxL tys → jk_Cz κ → jk_Ex κ (some ty) (va_Qi post (jk_B (jk_G κ) tys (jk_A κ) wf) (jk_A κ)) (vx_X (fun u : String × S => px u.1 u.2) (jk_X (jk_G κ) tys (jk_A κ) wf) (jk_A κ)) rm.cells rm.slots → jk_J κ ws 0 (lv_args 0 vs) [] 0 0) : jx_i l G tys y b maxL ty rm vs ws wf post px := by
  intro sz
  refine vx_ofW (cc := b) (maxL := maxL) (ret := (some ty)) hy rfl ?_
  intro p e s m args below meth c s₁ B hml hex hv
  obtain ⟨rfl, ⟨hsz, hP, hK, hD0⟩, hZ⟩ := hv
  have hts := atoms_spec (ws := Cond.code y b maxL (some ty) :: tb) B.pre
  have hown : s.vm.findClass y.cls = some m.cls := findClass_of_methodNamed B.named
  subst hsz
  rw [lg_entry_eq]
  exact body (p, l, e, rm, s, m, vs.toArray, below, meth, c, maxL, G, va_A ws s.heap.size, vx_MQ below (va_Qi post (jk_B G tys (va_A ws s.heap.size) wf) (va_A ws s.heap.size)) (vx_X (fun u : String × S => px u.1 u.2) (jk_X G tys (va_A ws s.heap.size) wf) (va_A ws s.heap.size)) vs.toArray s rm.cells rm.slots (va_A ws s.heap.size)) rfl rfl ⟨B.exec, B.bytes, ⟨hml, rfl⟩, hown, fun w h => hts w (List.mem_cons_of_mem _ h), hK, fun q h => Or.inr h, rfl, B.notSynchronized⟩ ⟨hlt, hex, hZ⟩ ⟨B.returns, rfl⟩ s.heap [] _ (lv_entry vs hvs) hP hD0.self va_S.rf
theorem jm_open_l {l : Launch} {G : va_G} {tys : List (ClassId × FieldType)} {y : MethodName} {b : ByteArray} {maxL : Nat} {rm : Room} {vs : List Value} {ws : va_W} {S : Type} {wf : S → va_W} {post : Int64 → S → Prop} (hy : plainName y.cls = true) (hvs : (lg_sl vs).length ≤ maxL)
    (body : ∀ κ : jk_K, jk_l κ = l → jk_G κ = G → jk_C κ b y.cls rm maxL tys → jk_E κ (some .long) (va_Ql post (jk_B (jk_G κ) tys (jk_A κ) wf) (jk_A κ)) rm.cells rm.slots → (y.name = "<init>" → (jk_t κ).name = "<init>") → jk_J κ ws 0 (lv_args 0 vs) [] 0 0) : jm_l l G tys y b maxL rm vs ws wf post := by
  intro sz
  refine Met.ofW (cc := b) (maxL := maxL) (ret := (some .long)) hy rfl ?_
  intro p e s m args below meth c s₁ B hml hv
  obtain ⟨rfl, hsz, hP, hK, hD0⟩ := hv
  have hts := atoms_spec (ws := Cond.code y b maxL (some .long) :: tb) B.pre
  have hown : s.vm.findClass y.cls = some m.cls := findClass_of_methodNamed B.named
  subst hsz
  rw [lg_entry_eq]
  exact body (p, l, e, rm, s, m, vs.toArray, below, meth, c, maxL, G, va_A ws s.heap.size, MQ below (va_Ql post (jk_B G tys (va_A ws s.heap.size) wf) (va_A ws s.heap.size)) vs.toArray s rm.cells rm.slots (va_A ws s.heap.size)) rfl rfl ⟨B.exec, B.bytes, ⟨hml, rfl⟩, hown, fun w h => hts w (List.mem_cons_of_mem _ h), hK, fun q h => Or.inr h, rfl, B.notSynchronized⟩ ⟨B.returns, rfl⟩ (fun hn => (name_of_methodNamed B.named B.method).1.trans hn) s.heap [] _ (lv_entry vs hvs) hP hD0.self va_S.rf
theorem jx_open_l {l : Launch} {G : va_G} {tys : List (ClassId × FieldType)} {y : MethodName} {b : ByteArray} {maxL : Nat} {rm : Room} {vs : List Value} {ws : va_W} {S : Type} {wf : S → va_W} {post : Int64 → S → Prop} {px : String → S → Prop} (hlt : l.stackTraces = false) (hy : plainName y.cls = true) (hvs : (lg_sl vs).length ≤ maxL)
    (body : ∀ κ : jk_K, jk_l κ = l → jk_G κ = G → jk_C κ b y.cls rm maxL tys → jk_Cz κ → jk_Ex κ (some .long) (va_Ql post (jk_B (jk_G κ) tys (jk_A κ) wf) (jk_A κ)) (vx_X (fun u : String × S => px u.1 u.2) (jk_X (jk_G κ) tys (jk_A κ) wf) (jk_A κ)) rm.cells rm.slots → jk_J κ ws 0 (lv_args 0 vs) [] 0 0) : jx_l l G tys y b maxL rm vs ws wf post px := by
  intro sz
  refine vx_ofW (cc := b) (maxL := maxL) (ret := (some .long)) hy rfl ?_
  intro p e s m args below meth c s₁ B hml hex hv
  obtain ⟨rfl, ⟨hsz, hP, hK, hD0⟩, hZ⟩ := hv
  have hts := atoms_spec (ws := Cond.code y b maxL (some .long) :: tb) B.pre
  have hown : s.vm.findClass y.cls = some m.cls := findClass_of_methodNamed B.named
  subst hsz
  rw [lg_entry_eq]
  exact body (p, l, e, rm, s, m, vs.toArray, below, meth, c, maxL, G, va_A ws s.heap.size, vx_MQ below (va_Ql post (jk_B G tys (va_A ws s.heap.size) wf) (va_A ws s.heap.size)) (vx_X (fun u : String × S => px u.1 u.2) (jk_X G tys (va_A ws s.heap.size) wf) (va_A ws s.heap.size)) vs.toArray s rm.cells rm.slots (va_A ws s.heap.size)) rfl rfl ⟨B.exec, B.bytes, ⟨hml, rfl⟩, hown, fun w h => hts w (List.mem_cons_of_mem _ h), hK, fun q h => Or.inr h, rfl, B.notSynchronized⟩ ⟨hlt, hex, hZ⟩ ⟨B.returns, rfl⟩ s.heap [] _ (lv_entry vs hvs) hP hD0.self va_S.rf
section jk_calls
variable {κ : jk_K} {cc : ByteArray} {own : String} {R : Room} {nL : Nat} {tys : List (ClassId × FieldType)} {ws : va_W} {pc : Nat} {lv : List (Nat × Value)} {st st0 : List Value} {cells slots : Nat} {S : Type} {wf : S → va_W}
variable {y : MethodName} {bytes : ByteArray} {maxL index n a q0 ci : Nat} {rm : Room} {As : List Value} {wc wr : va_W} {Cn : String} {fs : List Value} {qc : vw_C}
theorem j_callVv {post : S → Prop} (C : jk_C κ cc own R nL tys) (hM : jm_v (jk_l κ) (jk_G κ) tys y bytes maxL rm (.ref a :: As) wc wf post) (hg : GoodIn tb (wsV own index Cn y (Cond.code y bytes maxL none :: tb))) (hd : y.cls = Cn ∧ y.cls ≠ "java/lang/invoke/MethodHandle" ∧ y.cls ≠ "java/lang/invoke/VarHandle" ∧ (parseMethodDescriptor y.desc).map (fun d => d.parameters.length) = some n) (hR : rm.frames + 1 ≤ R.frames ∧ 8 + (maxL + 11) + rm.locals ≤ R.locals) (hn : As.length = n) (he : wc[q0]? = some (a, .inr (ci, fs))) (hcl : classes[ci]? = some qc) (hqn : qc.1 = Cn) 
    (isC isR : List Nat) (hC : isC.map (fun i => ws[i]?) = wc.map some) (hRr : isR.map (fun i => ws[i]?) = wr.map some) (hnd : va_nd isR = true) (hdis : ∀ i ∈ isR, i ∉ isC) (hndC : va_nd isC = true) (hst : st0 = As.reverse ++ .ref a :: st) (hW8 : (st.map fun v => v.category).sum ≤ 8) (hdg : decode cc pc = .ok (.invokevirtual index, 3)) (hf : cells + rm.cells ≤ R.cells ∧ slots + rm.slots ≤ R.slots)
    {wn : S → va_W} (ps : List Nat) (hnp : va_nd ps = true) (hwn : ∀ u, ps.map (fun i => (wr ++ wf u)[i]?) = (wn u).map some)
    (kk : ∀ (u : S), post u → jk_J κ (wn u) (pc + 3) lv st (cells + rm.cells) (slots + rm.slots)) : jk_J κ ws pc lv st0 cells slots := by
  intro H locs ls hl hP hD hS
  subst hst
  subst hqn
  have hPc := hP.sub (ws' := wc) isC (jk_fm hC)
  have hDc := hD.sub (ws' := wc) isC hndC hC
  have hFc := va_free (wc := wc) hD hS C.2.2.2.2.2.2.1 isC hC
  rw [← C.2.2.2.2.2.2.2.1] at hR hf
  refine va_callv (va_runV (As := As) (rest := st) ⟨C.1, C.2.1, C.2.2.1.1, C.2.2.2.1, C.2.2.2.2.1⟩ (hM H.size) (cwV n C.2.2.2.2.1 hg rfl rfl rfl hd hR) ⟨jk_blind, va_recv C.2.2.2.2.2.1 hPc hcl he, fun U hU hW => ⟨rfl, by rw [hU], by rw [hU]; exact hPc, va_K.moved hW.alike C.2.2.2.2.2.1, hDc.weaken (fun _ _ _ _ => trivial)⟩⟩ rfl hn hl.1 rfl (lv_room hW8) hdg hf) hS (fun q _ h => hFc q h) hFc (fun u t H1 locs ht hvm hw hB hz1 hk1 hS => ?_)
  obtain ⟨hP1, hK1, hD1⟩ := hB
  rw [ht] at hP1
  obtain ⟨hP2, hD2⟩ := va_join (wr := wr) (w1 := wf u) hP hD isC isR hC hRr hnd hdis hk1 hFc hP1 hD1
  exact kk u hw H1 locs ls hl (hP2.sub ps (jk_fm (hwn u))) (hD2.sub ps hnp (hwn u)) hS
theorem j_callVv0 {post : S → Prop} (C : jk_C κ cc own R nL tys) (hM : jm_v (jk_l κ) (jk_G κ) tys y bytes maxL rm (.ref a :: As) ws wf post) (hg : GoodIn tb (wsV own index Cn y (Cond.code y bytes maxL none :: tb))) (hd : y.cls = Cn ∧ y.cls ≠ "java/lang/invoke/MethodHandle" ∧ y.cls ≠ "java/lang/invoke/VarHandle" ∧ (parseMethodDescriptor y.desc).map (fun d => d.parameters.length) = some n) (hR : rm.frames + 1 ≤ R.frames ∧ 8 + (maxL + 11) + rm.locals ≤ R.locals) (hn : As.length = n) (he : ws[q0]? = some (a, .inr (ci, fs))) (hcl : classes[ci]? = some qc) (hqn : qc.1 = Cn) 
    (hst : st0 = As.reverse ++ .ref a :: st) (hW8 : (st.map fun v => v.category).sum ≤ 8) (hdg : decode cc pc = .ok (.invokevirtual index, 3)) (hf : cells + rm.cells ≤ R.cells ∧ slots + rm.slots ≤ R.slots)
    (kk : ∀ (u : S), post u → jk_J κ (wf u) (pc + 3) lv st (cells + rm.cells) (slots + rm.slots)) : jk_J κ ws pc lv st0 cells slots := by
  intro H locs ls hl hP hD hS
  subst hst
  subst hqn
  have hPc := hP
  have hFc : ∀ q, va_A ws H.size q → jk_A κ q := fun q h => h.elim (fun ⟨k, e, hk⟩ => hD.2 k _ hk) (fun h => C.2.2.2.2.2.2.1 q (Nat.le_trans hS.1 h))
  rw [← C.2.2.2.2.2.2.2.1] at hR hf
  refine va_callv (va_runV (As := As) (rest := st) ⟨C.1, C.2.1, C.2.2.1.1, C.2.2.2.1, C.2.2.2.2.1⟩ (hM H.size) (cwV n C.2.2.2.2.1 hg rfl rfl rfl hd hR) ⟨jk_blind, va_recv C.2.2.2.2.2.1 hPc hcl he, fun U hU hW => ⟨rfl, by rw [hU], by rw [hU]; exact hPc, va_K.moved hW.alike C.2.2.2.2.2.1, hD.weaken (fun _ _ _ _ => trivial)⟩⟩ rfl hn hl.1 rfl (lv_room hW8) hdg hf) hS (fun q _ h => hFc q h) hFc (fun u t H1 locs ht hvm hw hB hz1 hk1 hS => ?_)
  obtain ⟨hP1, hK1, hD1⟩ := hB
  rw [ht] at hP1
  exact kk u hw H1 locs ls hl hP1 (hD1.weaken (fun _ _ _ h => hFc _ h)) hS
theorem jx_callVv0 {post : S → Prop} {px : String → S → Prop} {ret0 : Option FieldType} {Qc : Array Value → State → Outcome → State → Prop} {mc ms : Nat} (C : jk_C κ cc own R nL tys) (Z : jk_Cz κ) (E : jk_Ex κ ret0 Qc (vx_X (fun u : String × S => px u.1 u.2) (jk_X (jk_G κ) tys (jk_A κ) wf) (jk_A κ)) mc ms) (hM : jx_v (jk_l κ) (jk_G κ) tys y bytes maxL rm (.ref a :: As) ws wf post px) (hg : GoodIn tb (wsV own index Cn y (Cond.code y bytes maxL none :: tb))) (hd : y.cls = Cn ∧ y.cls ≠ "java/lang/invoke/MethodHandle" ∧ y.cls ≠ "java/lang/invoke/VarHandle" ∧ (parseMethodDescriptor y.desc).map (fun d => d.parameters.length) = some n) (hR : rm.frames + 1 ≤ R.frames ∧ 8 + (maxL + 11) + rm.locals ≤ R.locals) (hn : As.length = n) (he : ws[q0]? = some (a, .inr (ci, fs))) (hcl : classes[ci]? = some qc) (hqn : qc.1 = Cn) 
    (hst : st0 = As.reverse ++ .ref a :: st) (hW8 : (st.map fun v => v.category).sum ≤ 8) (hdg : decode cc pc = .ok (.invokevirtual index, 3)) (hf : cells + rm.cells ≤ R.cells ∧ slots + rm.slots ≤ R.slots) (hmc : cells + rm.cells ≤ mc) (hms : slots + rm.slots ≤ ms)
    (kk : ∀ (u : S), post u → jk_J κ (wf u) (pc + 3) lv st (cells + rm.cells) (slots + rm.slots)) : jk_J κ ws pc lv st0 cells slots := by
  intro H locs ls hl hP hD hS
  subst hst
  subst hqn
  have hPc := hP
  have hFc : ∀ q, va_A ws H.size q → jk_A κ q := fun q h => h.elim (fun ⟨k, e, hk⟩ => hD.2 k _ hk) (fun h => C.2.2.2.2.2.2.1 q (Nat.le_trans hS.1 h))
  rw [← C.2.2.2.2.2.2.2.1] at hR hf
  refine vx_callv (vx_runV (As := As) (rest := st) ⟨C.1, C.2.1, C.2.2.1.1, C.2.2.2.1, C.2.2.2.2.1⟩ (hM H.size) (cwV n C.2.2.2.2.1 hg rfl rfl rfl hd hR) ⟨jk_blindx, va_recv C.2.2.2.2.2.1 hPc hcl he, fun U hU hW => ⟨rfl, ⟨by rw [hU], by rw [hU]; exact hPc, va_K.moved hW.alike C.2.2.2.2.2.1, hD.weaken (fun _ _ _ _ => trivial)⟩, jk_Zmv Z.2.2 hS hFc hU hW⟩⟩ rfl hn hl.1 rfl (lv_room hW8) hdg hf) hS (fun q _ h => hFc q h) hFc (fun q _ h => hFc q h) (fun E1 ce q9 u t H1 locs ht hvm hw hB hz1 hk1 hS hce hcv hcl => ?_) (fun u t H1 locs ht hvm hw hB hz1 hk1 hS => ?_)
  · obtain ⟨hE1, hP1, hK1, hD1⟩ := hB
    rw [ht] at hP1
    rw [E.2]
    exact vx_out (fun x hx => (Z.2.1 x hx).elim) C.2.2.2.2.2.2.2.2 hce hcv hcl (fun t' ht' ha' => ⟨u, hw, ⟨hE1, by rw [ht']; exact hP1, va_K.moved ha' C.2.2.2.2.2.1, hD1.weaken (fun _ _ _ h => hFc _ h)⟩, hS.F ht'⟩) hS.2.2 hmc hms
  · obtain ⟨hP1, hK1, hD1⟩ := hB
    rw [ht] at hP1
    exact kk u hw H1 locs ls hl hP1 (hD1.weaken (fun _ _ _ h => hFc _ h)) hS
theorem j_callSv {post : S → Prop} (C : jk_C κ cc own R nL tys) (hM : jm_v (jk_l κ) (jk_G κ) tys y bytes maxL rm As wc wf post) (hg : GoodIn tb (va_wsS own index y (Cond.code y bytes maxL none :: tb))) (hd : y.cls ≠ "java/lang/invoke/MethodHandle" ∧ y.cls ≠ "java/lang/invoke/VarHandle" ∧ (parseMethodDescriptor y.desc).map (fun d => d.parameters.length) = some n) (hR : rm.frames + 1 ≤ R.frames ∧ 8 + (maxL + 11) + rm.locals ≤ R.locals) (hn : As.length = n) 
    (isC isR : List Nat) (hC : isC.map (fun i => ws[i]?) = wc.map some) (hRr : isR.map (fun i => ws[i]?) = wr.map some) (hnd : va_nd isR = true) (hdis : ∀ i ∈ isR, i ∉ isC) (hndC : va_nd isC = true) (hst : st0 = As.reverse ++ st) (hW8 : (st.map fun v => v.category).sum ≤ 8) (hdg : decode cc pc = .ok (.invokestatic index, 3)) (hf : cells + rm.cells ≤ R.cells ∧ slots + rm.slots ≤ R.slots)
    {wn : S → va_W} (ps : List Nat) (hnp : va_nd ps = true) (hwn : ∀ u, ps.map (fun i => (wr ++ wf u)[i]?) = (wn u).map some)
    (kk : ∀ (u : S), post u → jk_J κ (wn u) (pc + 3) lv st (cells + rm.cells) (slots + rm.slots)) : jk_J κ ws pc lv st0 cells slots := by
  intro H locs ls hl hP hD hS
  subst hst
  have hPc := hP.sub (ws' := wc) isC (jk_fm hC)
  have hDc := hD.sub (ws' := wc) isC hndC hC
  have hFc := va_free (wc := wc) hD hS C.2.2.2.2.2.2.1 isC hC
  rw [← C.2.2.2.2.2.2.2.1] at hR hf
  refine va_callv (va_runS (As := As) (rest := st) ⟨C.1, C.2.1, C.2.2.1.1, C.2.2.2.1, C.2.2.2.2.1⟩ (hM H.size) (va_cwS n C.2.2.2.2.1 hg rfl rfl rfl hd hR) ⟨jk_blind, fun U hU hW => ⟨rfl, by rw [hU], by rw [hU]; exact hPc, va_K.moved hW.alike C.2.2.2.2.2.1, hDc.weaken (fun _ _ _ _ => trivial)⟩⟩ rfl hn hl.1 rfl (lv_room hW8) hdg hf) hS (fun q _ h => hFc q h) hFc (fun u t H1 locs ht hvm hw hB hz1 hk1 hS => ?_)
  obtain ⟨hP1, hK1, hD1⟩ := hB
  rw [ht] at hP1
  obtain ⟨hP2, hD2⟩ := va_join (wr := wr) (w1 := wf u) hP hD isC isR hC hRr hnd hdis hk1 hFc hP1 hD1
  exact kk u hw H1 locs ls hl (hP2.sub ps (jk_fm (hwn u))) (hD2.sub ps hnp (hwn u)) hS
theorem j_callSv0 {post : S → Prop} (C : jk_C κ cc own R nL tys) (hM : jm_v (jk_l κ) (jk_G κ) tys y bytes maxL rm As ws wf post) (hg : GoodIn tb (va_wsS own index y (Cond.code y bytes maxL none :: tb))) (hd : y.cls ≠ "java/lang/invoke/MethodHandle" ∧ y.cls ≠ "java/lang/invoke/VarHandle" ∧ (parseMethodDescriptor y.desc).map (fun d => d.parameters.length) = some n) (hR : rm.frames + 1 ≤ R.frames ∧ 8 + (maxL + 11) + rm.locals ≤ R.locals) (hn : As.length = n) 
    (hst : st0 = As.reverse ++ st) (hW8 : (st.map fun v => v.category).sum ≤ 8) (hdg : decode cc pc = .ok (.invokestatic index, 3)) (hf : cells + rm.cells ≤ R.cells ∧ slots + rm.slots ≤ R.slots)
    (kk : ∀ (u : S), post u → jk_J κ (wf u) (pc + 3) lv st (cells + rm.cells) (slots + rm.slots)) : jk_J κ ws pc lv st0 cells slots := by
  intro H locs ls hl hP hD hS
  subst hst
  have hPc := hP
  have hFc : ∀ q, va_A ws H.size q → jk_A κ q := fun q h => h.elim (fun ⟨k, e, hk⟩ => hD.2 k _ hk) (fun h => C.2.2.2.2.2.2.1 q (Nat.le_trans hS.1 h))
  rw [← C.2.2.2.2.2.2.2.1] at hR hf
  refine va_callv (va_runS (As := As) (rest := st) ⟨C.1, C.2.1, C.2.2.1.1, C.2.2.2.1, C.2.2.2.2.1⟩ (hM H.size) (va_cwS n C.2.2.2.2.1 hg rfl rfl rfl hd hR) ⟨jk_blind, fun U hU hW => ⟨rfl, by rw [hU], by rw [hU]; exact hPc, va_K.moved hW.alike C.2.2.2.2.2.1, hD.weaken (fun _ _ _ _ => trivial)⟩⟩ rfl hn hl.1 rfl (lv_room hW8) hdg hf) hS (fun q _ h => hFc q h) hFc (fun u t H1 locs ht hvm hw hB hz1 hk1 hS => ?_)
  obtain ⟨hP1, hK1, hD1⟩ := hB
  rw [ht] at hP1
  exact kk u hw H1 locs ls hl hP1 (hD1.weaken (fun _ _ _ h => hFc _ h)) hS
theorem jx_callSv0 {post : S → Prop} {px : String → S → Prop} {ret0 : Option FieldType} {Qc : Array Value → State → Outcome → State → Prop} {mc ms : Nat} (C : jk_C κ cc own R nL tys) (Z : jk_Cz κ) (E : jk_Ex κ ret0 Qc (vx_X (fun u : String × S => px u.1 u.2) (jk_X (jk_G κ) tys (jk_A κ) wf) (jk_A κ)) mc ms) (hM : jx_v (jk_l κ) (jk_G κ) tys y bytes maxL rm As ws wf post px) (hg : GoodIn tb (va_wsS own index y (Cond.code y bytes maxL none :: tb))) (hd : y.cls ≠ "java/lang/invoke/MethodHandle" ∧ y.cls ≠ "java/lang/invoke/VarHandle" ∧ (parseMethodDescriptor y.desc).map (fun d => d.parameters.length) = some n) (hR : rm.frames + 1 ≤ R.frames ∧ 8 + (maxL + 11) + rm.locals ≤ R.locals) (hn : As.length = n) 
    (hst : st0 = As.reverse ++ st) (hW8 : (st.map fun v => v.category).sum ≤ 8) (hdg : decode cc pc = .ok (.invokestatic index, 3)) (hf : cells + rm.cells ≤ R.cells ∧ slots + rm.slots ≤ R.slots) (hmc : cells + rm.cells ≤ mc) (hms : slots + rm.slots ≤ ms)
    (kk : ∀ (u : S), post u → jk_J κ (wf u) (pc + 3) lv st (cells + rm.cells) (slots + rm.slots)) : jk_J κ ws pc lv st0 cells slots := by
  intro H locs ls hl hP hD hS
  subst hst
  have hPc := hP
  have hFc : ∀ q, va_A ws H.size q → jk_A κ q := fun q h => h.elim (fun ⟨k, e, hk⟩ => hD.2 k _ hk) (fun h => C.2.2.2.2.2.2.1 q (Nat.le_trans hS.1 h))
  rw [← C.2.2.2.2.2.2.2.1] at hR hf
  refine vx_callv (vx_runS (As := As) (rest := st) ⟨C.1, C.2.1, C.2.2.1.1, C.2.2.2.1, C.2.2.2.2.1⟩ (hM H.size) (va_cwS n C.2.2.2.2.1 hg rfl rfl rfl hd hR) ⟨jk_blindx, fun U hU hW => ⟨rfl, ⟨by rw [hU], by rw [hU]; exact hPc, va_K.moved hW.alike C.2.2.2.2.2.1, hD.weaken (fun _ _ _ _ => trivial)⟩, jk_Zmv Z.2.2 hS hFc hU hW⟩⟩ rfl hn hl.1 rfl (lv_room hW8) hdg hf) hS (fun q _ h => hFc q h) hFc (fun q _ h => hFc q h) (fun E1 ce q9 u t H1 locs ht hvm hw hB hz1 hk1 hS hce hcv hcl => ?_) (fun u t H1 locs ht hvm hw hB hz1 hk1 hS => ?_)
  · obtain ⟨hE1, hP1, hK1, hD1⟩ := hB
    rw [ht] at hP1
    rw [E.2]
    exact vx_out (fun x hx => (Z.2.1 x hx).elim) C.2.2.2.2.2.2.2.2 hce hcv hcl (fun t' ht' ha' => ⟨u, hw, ⟨hE1, by rw [ht']; exact hP1, va_K.moved ha' C.2.2.2.2.2.1, hD1.weaken (fun _ _ _ h => hFc _ h)⟩, hS.F ht'⟩) hS.2.2 hmc hms
  · obtain ⟨hP1, hK1, hD1⟩ := hB
    rw [ht] at hP1
    exact kk u hw H1 locs ls hl hP1 (hD1.weaken (fun _ _ _ h => hFc _ h)) hS
theorem j_callVi {ty : FieldType} {post : Int32 → S → Prop} (C : jk_C κ cc own R nL tys) (hM : jm_i (jk_l κ) (jk_G κ) tys y bytes maxL ty rm (.ref a :: As) wc wf post) (hg : GoodIn tb (wsV own index Cn y (Cond.code y bytes maxL (some ty) :: tb))) (hd : y.cls = Cn ∧ y.cls ≠ "java/lang/invoke/MethodHandle" ∧ y.cls ≠ "java/lang/invoke/VarHandle" ∧ (parseMethodDescriptor y.desc).map (fun d => d.parameters.length) = some n) (hR : rm.frames + 1 ≤ R.frames ∧ 8 + (maxL + 11) + rm.locals ≤ R.locals) (hn : As.length = n) (he : wc[q0]? = some (a, .inr (ci, fs))) (hcl : classes[ci]? = some qc) (hqn : qc.1 = Cn) 
    (isC isR : List Nat) (hC : isC.map (fun i => ws[i]?) = wc.map some) (hRr : isR.map (fun i => ws[i]?) = wr.map some) (hnd : va_nd isR = true) (hdis : ∀ i ∈ isR, i ∉ isC) (hndC : va_nd isC = true) (hst : st0 = As.reverse ++ .ref a :: st) (hW8 : (st.map fun v => v.category).sum ≤ 8) (hdg : decode cc pc = .ok (.invokevirtual index, 3)) (hf : cells + rm.cells ≤ R.cells ∧ slots + rm.slots ≤ R.slots)
    {wn : S → va_W} (ps : List Nat) (hnp : va_nd ps = true) (hwn : ∀ u, ps.map (fun i => (wr ++ wf u)[i]?) = (wn u).map some)
    (kk : ∀ (r : Int32) (u : S), post r u → jk_J κ (wn u) (pc + 3) lv (.int r :: st) (cells + rm.cells) (slots + rm.slots)) : jk_J κ ws pc lv st0 cells slots := by
  intro H locs ls hl hP hD hS
  subst hst
  subst hqn
  have hPc := hP.sub (ws' := wc) isC (jk_fm hC)
  have hDc := hD.sub (ws' := wc) isC hndC hC
  have hFc := va_free (wc := wc) hD hS C.2.2.2.2.2.2.1 isC hC
  rw [← C.2.2.2.2.2.2.2.1] at hR hf
  refine va_calli (va_runV (As := As) (rest := st) ⟨C.1, C.2.1, C.2.2.1.1, C.2.2.2.1, C.2.2.2.2.1⟩ (hM H.size) (cwV n C.2.2.2.2.1 hg rfl rfl rfl hd hR) ⟨jk_blind, va_recv C.2.2.2.2.2.1 hPc hcl he, fun U hU hW => ⟨rfl, by rw [hU], by rw [hU]; exact hPc, va_K.moved hW.alike C.2.2.2.2.2.1, hDc.weaken (fun _ _ _ _ => trivial)⟩⟩ rfl hn hl.1 rfl (lv_room hW8) hdg hf) hS (fun q _ h => hFc q h) hFc (fun r u t H1 locs ht hvm hw hB hz1 hk1 hS => ?_)
  obtain ⟨hP1, hK1, hD1⟩ := hB
  rw [ht] at hP1
  obtain ⟨hP2, hD2⟩ := va_join (wr := wr) (w1 := wf u) hP hD isC isR hC hRr hnd hdis hk1 hFc hP1 hD1
  exact kk r u hw H1 locs ls hl (hP2.sub ps (jk_fm (hwn u))) (hD2.sub ps hnp (hwn u)) hS
theorem j_callVi0 {ty : FieldType} {post : Int32 → S → Prop} (C : jk_C κ cc own R nL tys) (hM : jm_i (jk_l κ) (jk_G κ) tys y bytes maxL ty rm (.ref a :: As) ws wf post) (hg : GoodIn tb (wsV own index Cn y (Cond.code y bytes maxL (some ty) :: tb))) (hd : y.cls = Cn ∧ y.cls ≠ "java/lang/invoke/MethodHandle" ∧ y.cls ≠ "java/lang/invoke/VarHandle" ∧ (parseMethodDescriptor y.desc).map (fun d => d.parameters.length) = some n) (hR : rm.frames + 1 ≤ R.frames ∧ 8 + (maxL + 11) + rm.locals ≤ R.locals) (hn : As.length = n) (he : ws[q0]? = some (a, .inr (ci, fs))) (hcl : classes[ci]? = some qc) (hqn : qc.1 = Cn) 
    (hst : st0 = As.reverse ++ .ref a :: st) (hW8 : (st.map fun v => v.category).sum ≤ 8) (hdg : decode cc pc = .ok (.invokevirtual index, 3)) (hf : cells + rm.cells ≤ R.cells ∧ slots + rm.slots ≤ R.slots)
    (kk : ∀ (r : Int32) (u : S), post r u → jk_J κ (wf u) (pc + 3) lv (.int r :: st) (cells + rm.cells) (slots + rm.slots)) : jk_J κ ws pc lv st0 cells slots := by
  intro H locs ls hl hP hD hS
  subst hst
  subst hqn
  have hPc := hP
  have hFc : ∀ q, va_A ws H.size q → jk_A κ q := fun q h => h.elim (fun ⟨k, e, hk⟩ => hD.2 k _ hk) (fun h => C.2.2.2.2.2.2.1 q (Nat.le_trans hS.1 h))
  rw [← C.2.2.2.2.2.2.2.1] at hR hf
  refine va_calli (va_runV (As := As) (rest := st) ⟨C.1, C.2.1, C.2.2.1.1, C.2.2.2.1, C.2.2.2.2.1⟩ (hM H.size) (cwV n C.2.2.2.2.1 hg rfl rfl rfl hd hR) ⟨jk_blind, va_recv C.2.2.2.2.2.1 hPc hcl he, fun U hU hW => ⟨rfl, by rw [hU], by rw [hU]; exact hPc, va_K.moved hW.alike C.2.2.2.2.2.1, hD.weaken (fun _ _ _ _ => trivial)⟩⟩ rfl hn hl.1 rfl (lv_room hW8) hdg hf) hS (fun q _ h => hFc q h) hFc (fun r u t H1 locs ht hvm hw hB hz1 hk1 hS => ?_)
  obtain ⟨hP1, hK1, hD1⟩ := hB
  rw [ht] at hP1
  exact kk r u hw H1 locs ls hl hP1 (hD1.weaken (fun _ _ _ h => hFc _ h)) hS
theorem jx_callVi0 {ty : FieldType} {post : Int32 → S → Prop} {px : String → S → Prop} {ret0 : Option FieldType} {Qc : Array Value → State → Outcome → State → Prop} {mc ms : Nat} (C : jk_C κ cc own R nL tys) (Z : jk_Cz κ) (E : jk_Ex κ ret0 Qc (vx_X (fun u : String × S => px u.1 u.2) (jk_X (jk_G κ) tys (jk_A κ) wf) (jk_A κ)) mc ms) (hM : jx_i (jk_l κ) (jk_G κ) tys y bytes maxL ty rm (.ref a :: As) ws wf post px) (hg : GoodIn tb (wsV own index Cn y (Cond.code y bytes maxL (some ty) :: tb))) (hd : y.cls = Cn ∧ y.cls ≠ "java/lang/invoke/MethodHandle" ∧ y.cls ≠ "java/lang/invoke/VarHandle" ∧ (parseMethodDescriptor y.desc).map (fun d => d.parameters.length) = some n) (hR : rm.frames + 1 ≤ R.frames ∧ 8 + (maxL + 11) + rm.locals ≤ R.locals) (hn : As.length = n) (he : ws[q0]? = some (a, .inr (ci, fs))) (hcl : classes[ci]? = some qc) (hqn : qc.1 = Cn) 
    (hst : st0 = As.reverse ++ .ref a :: st) (hW8 : (st.map fun v => v.category).sum ≤ 8) (hdg : decode cc pc = .ok (.invokevirtual index, 3)) (hf : cells + rm.cells ≤ R.cells ∧ slots + rm.slots ≤ R.slots) (hmc : cells + rm.cells ≤ mc) (hms : slots + rm.slots ≤ ms)
    (kk : ∀ (r : Int32) (u : S), post r u → jk_J κ (wf u) (pc + 3) lv (.int r :: st) (cells + rm.cells) (slots + rm.slots)) : jk_J κ ws pc lv st0 cells slots := by
  intro H locs ls hl hP hD hS
  subst hst
  subst hqn
  have hPc := hP
  have hFc : ∀ q, va_A ws H.size q → jk_A κ q := fun q h => h.elim (fun ⟨k, e, hk⟩ => hD.2 k _ hk) (fun h => C.2.2.2.2.2.2.1 q (Nat.le_trans hS.1 h))
  rw [← C.2.2.2.2.2.2.2.1] at hR hf
  refine vx_calli (vx_runV (As := As) (rest := st) ⟨C.1, C.2.1, C.2.2.1.1, C.2.2.2.1, C.2.2.2.2.1⟩ (hM H.size) (cwV n C.2.2.2.2.1 hg rfl rfl rfl hd hR) ⟨jk_blindx, va_recv C.2.2.2.2.2.1 hPc hcl he, fun U hU hW => ⟨rfl, ⟨by rw [hU], by rw [hU]; exact hPc, va_K.moved hW.alike C.2.2.2.2.2.1, hD.weaken (fun _ _ _ _ => trivial)⟩, jk_Zmv Z.2.2 hS hFc hU hW⟩⟩ rfl hn hl.1 rfl (lv_room hW8) hdg hf) hS (fun q _ h => hFc q h) hFc (fun q _ h => hFc q h) (fun E1 ce q9 u t H1 locs ht hvm hw hB hz1 hk1 hS hce hcv hcl => ?_) (fun r u t H1 locs ht hvm hw hB hz1 hk1 hS => ?_)
  · obtain ⟨hE1, hP1, hK1, hD1⟩ := hB
    rw [ht] at hP1
    rw [E.2]
    exact vx_out (fun x hx => (Z.2.1 x hx).elim) C.2.2.2.2.2.2.2.2 hce hcv hcl (fun t' ht' ha' => ⟨u, hw, ⟨hE1, by rw [ht']; exact hP1, va_K.moved ha' C.2.2.2.2.2.1, hD1.weaken (fun _ _ _ h => hFc _ h)⟩, hS.F ht'⟩) hS.2.2 hmc hms
  · obtain ⟨hP1, hK1, hD1⟩ := hB
    rw [ht] at hP1
    exact kk r u hw H1 locs ls hl hP1 (hD1.weaken (fun _ _ _ h => hFc _ h)) hS
theorem j_callSi {ty : FieldType} {post : Int32 → S → Prop} (C : jk_C κ cc own R nL tys) (hM : jm_i (jk_l κ) (jk_G κ) tys y bytes maxL ty rm As wc wf post) (hg : GoodIn tb (va_wsS own index y (Cond.code y bytes maxL (some ty) :: tb))) (hd : y.cls ≠ "java/lang/invoke/MethodHandle" ∧ y.cls ≠ "java/lang/invoke/VarHandle" ∧ (parseMethodDescriptor y.desc).map (fun d => d.parameters.length) = some n) (hR : rm.frames + 1 ≤ R.frames ∧ 8 + (maxL + 11) + rm.locals ≤ R.locals) (hn : As.length = n) 
    (isC isR : List Nat) (hC : isC.map (fun i => ws[i]?) = wc.map some) (hRr : isR.map (fun i => ws[i]?) = wr.map some) (hnd : va_nd isR = true) (hdis : ∀ i ∈ isR, i ∉ isC) (hndC : va_nd isC = true) (hst : st0 = As.reverse ++ st) (hW8 : (st.map fun v => v.category).sum ≤ 8) (hdg : decode cc pc = .ok (.invokestatic index, 3)) (hf : cells + rm.cells ≤ R.cells ∧ slots + rm.slots ≤ R.slots)
    {wn : S → va_W} (ps : List Nat) (hnp : va_nd ps = true) (hwn : ∀ u, ps.map (fun i => (wr ++ wf u)[i]?) = (wn u).map some)
    (kk : ∀ (r : Int32) (u : S), post r u → jk_J κ (wn u) (pc + 3) lv (.int r :: st) (cells + rm.cells) (slots + rm.slots)) : jk_J κ ws pc lv st0 cells slots := by
  intro H locs ls hl hP hD hS
  subst hst
  have hPc := hP.sub (ws' := wc) isC (jk_fm hC)
  have hDc := hD.sub (ws' := wc) isC hndC hC
  have hFc := va_free (wc := wc) hD hS C.2.2.2.2.2.2.1 isC hC
  rw [← C.2.2.2.2.2.2.2.1] at hR hf
  refine va_calli (va_runS (As := As) (rest := st) ⟨C.1, C.2.1, C.2.2.1.1, C.2.2.2.1, C.2.2.2.2.1⟩ (hM H.size) (va_cwS n C.2.2.2.2.1 hg rfl rfl rfl hd hR) ⟨jk_blind, fun U hU hW => ⟨rfl, by rw [hU], by rw [hU]; exact hPc, va_K.moved hW.alike C.2.2.2.2.2.1, hDc.weaken (fun _ _ _ _ => trivial)⟩⟩ rfl hn hl.1 rfl (lv_room hW8) hdg hf) hS (fun q _ h => hFc q h) hFc (fun r u t H1 locs ht hvm hw hB hz1 hk1 hS => ?_)
  obtain ⟨hP1, hK1, hD1⟩ := hB
  rw [ht] at hP1
  obtain ⟨hP2, hD2⟩ := va_join (wr := wr) (w1 := wf u) hP hD isC isR hC hRr hnd hdis hk1 hFc hP1 hD1
  exact kk r u hw H1 locs ls hl (hP2.sub ps (jk_fm (hwn u))) (hD2.sub ps hnp (hwn u)) hS
theorem j_callSi0 {ty : FieldType} {post : Int32 → S → Prop} (C : jk_C κ cc own R nL tys) (hM : jm_i (jk_l κ) (jk_G κ) tys y bytes maxL ty rm As ws wf post) (hg : GoodIn tb (va_wsS own index y (Cond.code y bytes maxL (some ty) :: tb))) (hd : y.cls ≠ "java/lang/invoke/MethodHandle" ∧ y.cls ≠ "java/lang/invoke/VarHandle" ∧ (parseMethodDescriptor y.desc).map (fun d => d.parameters.length) = some n) (hR : rm.frames + 1 ≤ R.frames ∧ 8 + (maxL + 11) + rm.locals ≤ R.locals) (hn : As.length = n) 
    (hst : st0 = As.reverse ++ st) (hW8 : (st.map fun v => v.category).sum ≤ 8) (hdg : decode cc pc = .ok (.invokestatic index, 3)) (hf : cells + rm.cells ≤ R.cells ∧ slots + rm.slots ≤ R.slots)
    (kk : ∀ (r : Int32) (u : S), post r u → jk_J κ (wf u) (pc + 3) lv (.int r :: st) (cells + rm.cells) (slots + rm.slots)) : jk_J κ ws pc lv st0 cells slots := by
  intro H locs ls hl hP hD hS
  subst hst
  have hPc := hP
  have hFc : ∀ q, va_A ws H.size q → jk_A κ q := fun q h => h.elim (fun ⟨k, e, hk⟩ => hD.2 k _ hk) (fun h => C.2.2.2.2.2.2.1 q (Nat.le_trans hS.1 h))
  rw [← C.2.2.2.2.2.2.2.1] at hR hf
  refine va_calli (va_runS (As := As) (rest := st) ⟨C.1, C.2.1, C.2.2.1.1, C.2.2.2.1, C.2.2.2.2.1⟩ (hM H.size) (va_cwS n C.2.2.2.2.1 hg rfl rfl rfl hd hR) ⟨jk_blind, fun U hU hW => ⟨rfl, by rw [hU], by rw [hU]; exact hPc, va_K.moved hW.alike C.2.2.2.2.2.1, hD.weaken (fun _ _ _ _ => trivial)⟩⟩ rfl hn hl.1 rfl (lv_room hW8) hdg hf) hS (fun q _ h => hFc q h) hFc (fun r u t H1 locs ht hvm hw hB hz1 hk1 hS => ?_)
  obtain ⟨hP1, hK1, hD1⟩ := hB
  rw [ht] at hP1
  exact kk r u hw H1 locs ls hl hP1 (hD1.weaken (fun _ _ _ h => hFc _ h)) hS
theorem jx_callSi0 {ty : FieldType} {post : Int32 → S → Prop} {px : String → S → Prop} {ret0 : Option FieldType} {Qc : Array Value → State → Outcome → State → Prop} {mc ms : Nat} (C : jk_C κ cc own R nL tys) (Z : jk_Cz κ) (E : jk_Ex κ ret0 Qc (vx_X (fun u : String × S => px u.1 u.2) (jk_X (jk_G κ) tys (jk_A κ) wf) (jk_A κ)) mc ms) (hM : jx_i (jk_l κ) (jk_G κ) tys y bytes maxL ty rm As ws wf post px) (hg : GoodIn tb (va_wsS own index y (Cond.code y bytes maxL (some ty) :: tb))) (hd : y.cls ≠ "java/lang/invoke/MethodHandle" ∧ y.cls ≠ "java/lang/invoke/VarHandle" ∧ (parseMethodDescriptor y.desc).map (fun d => d.parameters.length) = some n) (hR : rm.frames + 1 ≤ R.frames ∧ 8 + (maxL + 11) + rm.locals ≤ R.locals) (hn : As.length = n) 
    (hst : st0 = As.reverse ++ st) (hW8 : (st.map fun v => v.category).sum ≤ 8) (hdg : decode cc pc = .ok (.invokestatic index, 3)) (hf : cells + rm.cells ≤ R.cells ∧ slots + rm.slots ≤ R.slots) (hmc : cells + rm.cells ≤ mc) (hms : slots + rm.slots ≤ ms)
    (kk : ∀ (r : Int32) (u : S), post r u → jk_J κ (wf u) (pc + 3) lv (.int r :: st) (cells + rm.cells) (slots + rm.slots)) : jk_J κ ws pc lv st0 cells slots := by
  intro H locs ls hl hP hD hS
  subst hst
  have hPc := hP
  have hFc : ∀ q, va_A ws H.size q → jk_A κ q := fun q h => h.elim (fun ⟨k, e, hk⟩ => hD.2 k _ hk) (fun h => C.2.2.2.2.2.2.1 q (Nat.le_trans hS.1 h))
  rw [← C.2.2.2.2.2.2.2.1] at hR hf
  refine vx_calli (vx_runS (As := As) (rest := st) ⟨C.1, C.2.1, C.2.2.1.1, C.2.2.2.1, C.2.2.2.2.1⟩ (hM H.size) (va_cwS n C.2.2.2.2.1 hg rfl rfl rfl hd hR) ⟨jk_blindx, fun U hU hW => ⟨rfl, ⟨by rw [hU], by rw [hU]; exact hPc, va_K.moved hW.alike C.2.2.2.2.2.1, hD.weaken (fun _ _ _ _ => trivial)⟩, jk_Zmv Z.2.2 hS hFc hU hW⟩⟩ rfl hn hl.1 rfl (lv_room hW8) hdg hf) hS (fun q _ h => hFc q h) hFc (fun q _ h => hFc q h) (fun E1 ce q9 u t H1 locs ht hvm hw hB hz1 hk1 hS hce hcv hcl => ?_) (fun r u t H1 locs ht hvm hw hB hz1 hk1 hS => ?_)
  · obtain ⟨hE1, hP1, hK1, hD1⟩ := hB
    rw [ht] at hP1
    rw [E.2]
    exact vx_out (fun x hx => (Z.2.1 x hx).elim) C.2.2.2.2.2.2.2.2 hce hcv hcl (fun t' ht' ha' => ⟨u, hw, ⟨hE1, by rw [ht']; exact hP1, va_K.moved ha' C.2.2.2.2.2.1, hD1.weaken (fun _ _ _ h => hFc _ h)⟩, hS.F ht'⟩) hS.2.2 hmc hms
  · obtain ⟨hP1, hK1, hD1⟩ := hB
    rw [ht] at hP1
    exact kk r u hw H1 locs ls hl hP1 (hD1.weaken (fun _ _ _ h => hFc _ h)) hS
theorem j_callVl {post : Int64 → S → Prop} (C : jk_C κ cc own R nL tys) (hM : jm_l (jk_l κ) (jk_G κ) tys y bytes maxL rm (.ref a :: As) wc wf post) (hg : GoodIn tb (wsV own index Cn y (Cond.code y bytes maxL (some .long) :: tb))) (hd : y.cls = Cn ∧ y.cls ≠ "java/lang/invoke/MethodHandle" ∧ y.cls ≠ "java/lang/invoke/VarHandle" ∧ (parseMethodDescriptor y.desc).map (fun d => d.parameters.length) = some n) (hR : rm.frames + 1 ≤ R.frames ∧ 8 + (maxL + 11) + rm.locals ≤ R.locals) (hn : As.length = n) (he : wc[q0]? = some (a, .inr (ci, fs))) (hcl : classes[ci]? = some qc) (hqn : qc.1 = Cn) 
    (isC isR : List Nat) (hC : isC.map (fun i => ws[i]?) = wc.map some) (hRr : isR.map (fun i => ws[i]?) = wr.map some) (hnd : va_nd isR = true) (hdis : ∀ i ∈ isR, i ∉ isC) (hndC : va_nd isC = true) (hst : st0 = As.reverse ++ .ref a :: st) (hW8 : (st.map fun v => v.category).sum ≤ 8) (hdg : decode cc pc = .ok (.invokevirtual index, 3)) (hf : cells + rm.cells ≤ R.cells ∧ slots + rm.slots ≤ R.slots)
    {wn : S → va_W} (ps : List Nat) (hnp : va_nd ps = true) (hwn : ∀ u, ps.map (fun i => (wr ++ wf u)[i]?) = (wn u).map some)
    (kk : ∀ (r : Int64) (u : S), post r u → jk_J κ (wn u) (pc + 3) lv (.long r :: st) (cells + rm.cells) (slots + rm.slots)) : jk_J κ ws pc lv st0 cells slots := by
  intro H locs ls hl hP hD hS
  subst hst
  subst hqn
  have hPc := hP.sub (ws' := wc) isC (jk_fm hC)
  have hDc := hD.sub (ws' := wc) isC hndC hC
  have hFc := va_free (wc := wc) hD hS C.2.2.2.2.2.2.1 isC hC
  rw [← C.2.2.2.2.2.2.2.1] at hR hf
  refine va_calll (va_runV (As := As) (rest := st) ⟨C.1, C.2.1, C.2.2.1.1, C.2.2.2.1, C.2.2.2.2.1⟩ (hM H.size) (cwV n C.2.2.2.2.1 hg rfl rfl rfl hd hR) ⟨jk_blind, va_recv C.2.2.2.2.2.1 hPc hcl he, fun U hU hW => ⟨rfl, by rw [hU], by rw [hU]; exact hPc, va_K.moved hW.alike C.2.2.2.2.2.1, hDc.weaken (fun _ _ _ _ => trivial)⟩⟩ rfl hn hl.1 rfl (lv_room hW8) hdg hf) hS (fun q _ h => hFc q h) hFc (fun r u t H1 locs ht hvm hw hB hz1 hk1 hS => ?_)
  obtain ⟨hP1, hK1, hD1⟩ := hB
  rw [ht] at hP1
  obtain ⟨hP2, hD2⟩ := va_join (wr := wr) (w1 := wf u) hP hD isC isR hC hRr hnd hdis hk1 hFc hP1 hD1
  exact kk r u hw H1 locs ls hl (hP2.sub ps (jk_fm (hwn u))) (hD2.sub ps hnp (hwn u)) hS
theorem j_callVl0 {post : Int64 → S → Prop} (C : jk_C κ cc own R nL tys) (hM : jm_l (jk_l κ) (jk_G κ) tys y bytes maxL rm (.ref a :: As) ws wf post) (hg : GoodIn tb (wsV own index Cn y (Cond.code y bytes maxL (some .long) :: tb))) (hd : y.cls = Cn ∧ y.cls ≠ "java/lang/invoke/MethodHandle" ∧ y.cls ≠ "java/lang/invoke/VarHandle" ∧ (parseMethodDescriptor y.desc).map (fun d => d.parameters.length) = some n) (hR : rm.frames + 1 ≤ R.frames ∧ 8 + (maxL + 11) + rm.locals ≤ R.locals) (hn : As.length = n) (he : ws[q0]? = some (a, .inr (ci, fs))) (hcl : classes[ci]? = some qc) (hqn : qc.1 = Cn) 
    (hst : st0 = As.reverse ++ .ref a :: st) (hW8 : (st.map fun v => v.category).sum ≤ 8) (hdg : decode cc pc = .ok (.invokevirtual index, 3)) (hf : cells + rm.cells ≤ R.cells ∧ slots + rm.slots ≤ R.slots)
    (kk : ∀ (r : Int64) (u : S), post r u → jk_J κ (wf u) (pc + 3) lv (.long r :: st) (cells + rm.cells) (slots + rm.slots)) : jk_J κ ws pc lv st0 cells slots := by
  intro H locs ls hl hP hD hS
  subst hst
  subst hqn
  have hPc := hP
  have hFc : ∀ q, va_A ws H.size q → jk_A κ q := fun q h => h.elim (fun ⟨k, e, hk⟩ => hD.2 k _ hk) (fun h => C.2.2.2.2.2.2.1 q (Nat.le_trans hS.1 h))
  rw [← C.2.2.2.2.2.2.2.1] at hR hf
  refine va_calll (va_runV (As := As) (rest := st) ⟨C.1, C.2.1, C.2.2.1.1, C.2.2.2.1, C.2.2.2.2.1⟩ (hM H.size) (cwV n C.2.2.2.2.1 hg rfl rfl rfl hd hR) ⟨jk_blind, va_recv C.2.2.2.2.2.1 hPc hcl he, fun U hU hW => ⟨rfl, by rw [hU], by rw [hU]; exact hPc, va_K.moved hW.alike C.2.2.2.2.2.1, hD.weaken (fun _ _ _ _ => trivial)⟩⟩ rfl hn hl.1 rfl (lv_room hW8) hdg hf) hS (fun q _ h => hFc q h) hFc (fun r u t H1 locs ht hvm hw hB hz1 hk1 hS => ?_)
  obtain ⟨hP1, hK1, hD1⟩ := hB
  rw [ht] at hP1
  exact kk r u hw H1 locs ls hl hP1 (hD1.weaken (fun _ _ _ h => hFc _ h)) hS
theorem jx_callVl0 {post : Int64 → S → Prop} {px : String → S → Prop} {ret0 : Option FieldType} {Qc : Array Value → State → Outcome → State → Prop} {mc ms : Nat} (C : jk_C κ cc own R nL tys) (Z : jk_Cz κ) (E : jk_Ex κ ret0 Qc (vx_X (fun u : String × S => px u.1 u.2) (jk_X (jk_G κ) tys (jk_A κ) wf) (jk_A κ)) mc ms) (hM : jx_l (jk_l κ) (jk_G κ) tys y bytes maxL rm (.ref a :: As) ws wf post px) (hg : GoodIn tb (wsV own index Cn y (Cond.code y bytes maxL (some .long) :: tb))) (hd : y.cls = Cn ∧ y.cls ≠ "java/lang/invoke/MethodHandle" ∧ y.cls ≠ "java/lang/invoke/VarHandle" ∧ (parseMethodDescriptor y.desc).map (fun d => d.parameters.length) = some n) (hR : rm.frames + 1 ≤ R.frames ∧ 8 + (maxL + 11) + rm.locals ≤ R.locals) (hn : As.length = n) (he : ws[q0]? = some (a, .inr (ci, fs))) (hcl : classes[ci]? = some qc) (hqn : qc.1 = Cn) 
    (hst : st0 = As.reverse ++ .ref a :: st) (hW8 : (st.map fun v => v.category).sum ≤ 8) (hdg : decode cc pc = .ok (.invokevirtual index, 3)) (hf : cells + rm.cells ≤ R.cells ∧ slots + rm.slots ≤ R.slots) (hmc : cells + rm.cells ≤ mc) (hms : slots + rm.slots ≤ ms)
    (kk : ∀ (r : Int64) (u : S), post r u → jk_J κ (wf u) (pc + 3) lv (.long r :: st) (cells + rm.cells) (slots + rm.slots)) : jk_J κ ws pc lv st0 cells slots := by
  intro H locs ls hl hP hD hS
  subst hst
  subst hqn
  have hPc := hP
  have hFc : ∀ q, va_A ws H.size q → jk_A κ q := fun q h => h.elim (fun ⟨k, e, hk⟩ => hD.2 k _ hk) (fun h => C.2.2.2.2.2.2.1 q (Nat.le_trans hS.1 h))
  rw [← C.2.2.2.2.2.2.2.1] at hR hf
  refine vx_calll (vx_runV (As := As) (rest := st) ⟨C.1, C.2.1, C.2.2.1.1, C.2.2.2.1, C.2.2.2.2.1⟩ (hM H.size) (cwV n C.2.2.2.2.1 hg rfl rfl rfl hd hR) ⟨jk_blindx, va_recv C.2.2.2.2.2.1 hPc hcl he, fun U hU hW => ⟨rfl, ⟨by rw [hU], by rw [hU]; exact hPc, va_K.moved hW.alike C.2.2.2.2.2.1, hD.weaken (fun _ _ _ _ => trivial)⟩, jk_Zmv Z.2.2 hS hFc hU hW⟩⟩ rfl hn hl.1 rfl (lv_room hW8) hdg hf) hS (fun q _ h => hFc q h) hFc (fun q _ h => hFc q h) (fun E1 ce q9 u t H1 locs ht hvm hw hB hz1 hk1 hS hce hcv hcl => ?_) (fun r u t H1 locs ht hvm hw hB hz1 hk1 hS => ?_)
  · obtain ⟨hE1, hP1, hK1, hD1⟩ := hB
    rw [ht] at hP1
    rw [E.2]
    exact vx_out (fun x hx => (Z.2.1 x hx).elim) C.2.2.2.2.2.2.2.2 hce hcv hcl (fun t' ht' ha' => ⟨u, hw, ⟨hE1, by rw [ht']; exact hP1, va_K.moved ha' C.2.2.2.2.2.1, hD1.weaken (fun _ _ _ h => hFc _ h)⟩, hS.F ht'⟩) hS.2.2 hmc hms
  · obtain ⟨hP1, hK1, hD1⟩ := hB
    rw [ht] at hP1
    exact kk r u hw H1 locs ls hl hP1 (hD1.weaken (fun _ _ _ h => hFc _ h)) hS
theorem j_callSl {post : Int64 → S → Prop} (C : jk_C κ cc own R nL tys) (hM : jm_l (jk_l κ) (jk_G κ) tys y bytes maxL rm As wc wf post) (hg : GoodIn tb (va_wsS own index y (Cond.code y bytes maxL (some .long) :: tb))) (hd : y.cls ≠ "java/lang/invoke/MethodHandle" ∧ y.cls ≠ "java/lang/invoke/VarHandle" ∧ (parseMethodDescriptor y.desc).map (fun d => d.parameters.length) = some n) (hR : rm.frames + 1 ≤ R.frames ∧ 8 + (maxL + 11) + rm.locals ≤ R.locals) (hn : As.length = n) 
    (isC isR : List Nat) (hC : isC.map (fun i => ws[i]?) = wc.map some) (hRr : isR.map (fun i => ws[i]?) = wr.map some) (hnd : va_nd isR = true) (hdis : ∀ i ∈ isR, i ∉ isC) (hndC : va_nd isC = true) (hst : st0 = As.reverse ++ st) (hW8 : (st.map fun v => v.category).sum ≤ 8) (hdg : decode cc pc = .ok (.invokestatic index, 3)) (hf : cells + rm.cells ≤ R.cells ∧ slots + rm.slots ≤ R.slots)
    {wn : S → va_W} (ps : List Nat) (hnp : va_nd ps = true) (hwn : ∀ u, ps.map (fun i => (wr ++ wf u)[i]?) = (wn u).map some)
    (kk : ∀ (r : Int64) (u : S), post r u → jk_J κ (wn u) (pc + 3) lv (.long r :: st) (cells + rm.cells) (slots + rm.slots)) : jk_J κ ws pc lv st0 cells slots := by
  intro H locs ls hl hP hD hS
  subst hst
  have hPc := hP.sub (ws' := wc) isC (jk_fm hC)
  have hDc := hD.sub (ws' := wc) isC hndC hC
  have hFc := va_free (wc := wc) hD hS C.2.2.2.2.2.2.1 isC hC
  rw [← C.2.2.2.2.2.2.2.1] at hR hf
  refine va_calll (va_runS (As := As) (rest := st) ⟨C.1, C.2.1, C.2.2.1.1, C.2.2.2.1, C.2.2.2.2.1⟩ (hM H.size) (va_cwS n C.2.2.2.2.1 hg rfl rfl rfl hd hR) ⟨jk_blind, fun U hU hW => ⟨rfl, by rw [hU], by rw [hU]; exact hPc, va_K.moved hW.alike C.2.2.2.2.2.1, hDc.weaken (fun _ _ _ _ => trivial)⟩⟩ rfl hn hl.1 rfl (lv_room hW8) hdg hf) hS (fun q _ h => hFc q h) hFc (fun r u t H1 locs ht hvm hw hB hz1 hk1 hS => ?_)
  obtain ⟨hP1, hK1, hD1⟩ := hB
  rw [ht] at hP1
  obtain ⟨hP2, hD2⟩ := va_join (wr := wr) (w1 := wf u) hP hD isC isR hC hRr hnd hdis hk1 hFc hP1 hD1
  exact kk r u hw H1 locs ls hl (hP2.sub ps (jk_fm (hwn u))) (hD2.sub ps hnp (hwn u)) hS
theorem j_callSl0 {post : Int64 → S → Prop} (C : jk_C κ cc own R nL tys) (hM : jm_l (jk_l κ) (jk_G κ) tys y bytes maxL rm As ws wf post) (hg : GoodIn tb (va_wsS own index y (Cond.code y bytes maxL (some .long) :: tb))) (hd : y.cls ≠ "java/lang/invoke/MethodHandle" ∧ y.cls ≠ "java/lang/invoke/VarHandle" ∧ (parseMethodDescriptor y.desc).map (fun d => d.parameters.length) = some n) (hR : rm.frames + 1 ≤ R.frames ∧ 8 + (maxL + 11) + rm.locals ≤ R.locals) (hn : As.length = n) 
    (hst : st0 = As.reverse ++ st) (hW8 : (st.map fun v => v.category).sum ≤ 8) (hdg : decode cc pc = .ok (.invokestatic index, 3)) (hf : cells + rm.cells ≤ R.cells ∧ slots + rm.slots ≤ R.slots)
    (kk : ∀ (r : Int64) (u : S), post r u → jk_J κ (wf u) (pc + 3) lv (.long r :: st) (cells + rm.cells) (slots + rm.slots)) : jk_J κ ws pc lv st0 cells slots := by
  intro H locs ls hl hP hD hS
  subst hst
  have hPc := hP
  have hFc : ∀ q, va_A ws H.size q → jk_A κ q := fun q h => h.elim (fun ⟨k, e, hk⟩ => hD.2 k _ hk) (fun h => C.2.2.2.2.2.2.1 q (Nat.le_trans hS.1 h))
  rw [← C.2.2.2.2.2.2.2.1] at hR hf
  refine va_calll (va_runS (As := As) (rest := st) ⟨C.1, C.2.1, C.2.2.1.1, C.2.2.2.1, C.2.2.2.2.1⟩ (hM H.size) (va_cwS n C.2.2.2.2.1 hg rfl rfl rfl hd hR) ⟨jk_blind, fun U hU hW => ⟨rfl, by rw [hU], by rw [hU]; exact hPc, va_K.moved hW.alike C.2.2.2.2.2.1, hD.weaken (fun _ _ _ _ => trivial)⟩⟩ rfl hn hl.1 rfl (lv_room hW8) hdg hf) hS (fun q _ h => hFc q h) hFc (fun r u t H1 locs ht hvm hw hB hz1 hk1 hS => ?_)
  obtain ⟨hP1, hK1, hD1⟩ := hB
  rw [ht] at hP1
  exact kk r u hw H1 locs ls hl hP1 (hD1.weaken (fun _ _ _ h => hFc _ h)) hS
theorem jx_callSl0 {post : Int64 → S → Prop} {px : String → S → Prop} {ret0 : Option FieldType} {Qc : Array Value → State → Outcome → State → Prop} {mc ms : Nat} (C : jk_C κ cc own R nL tys) (Z : jk_Cz κ) (E : jk_Ex κ ret0 Qc (vx_X (fun u : String × S => px u.1 u.2) (jk_X (jk_G κ) tys (jk_A κ) wf) (jk_A κ)) mc ms) (hM : jx_l (jk_l κ) (jk_G κ) tys y bytes maxL rm As ws wf post px) (hg : GoodIn tb (va_wsS own index y (Cond.code y bytes maxL (some .long) :: tb))) (hd : y.cls ≠ "java/lang/invoke/MethodHandle" ∧ y.cls ≠ "java/lang/invoke/VarHandle" ∧ (parseMethodDescriptor y.desc).map (fun d => d.parameters.length) = some n) (hR : rm.frames + 1 ≤ R.frames ∧ 8 + (maxL + 11) + rm.locals ≤ R.locals) (hn : As.length = n) 
    (hst : st0 = As.reverse ++ st) (hW8 : (st.map fun v => v.category).sum ≤ 8) (hdg : decode cc pc = .ok (.invokestatic index, 3)) (hf : cells + rm.cells ≤ R.cells ∧ slots + rm.slots ≤ R.slots) (hmc : cells + rm.cells ≤ mc) (hms : slots + rm.slots ≤ ms)
    (kk : ∀ (r : Int64) (u : S), post r u → jk_J κ (wf u) (pc + 3) lv (.long r :: st) (cells + rm.cells) (slots + rm.slots)) : jk_J κ ws pc lv st0 cells slots := by
  intro H locs ls hl hP hD hS
  subst hst
  have hPc := hP
  have hFc : ∀ q, va_A ws H.size q → jk_A κ q := fun q h => h.elim (fun ⟨k, e, hk⟩ => hD.2 k _ hk) (fun h => C.2.2.2.2.2.2.1 q (Nat.le_trans hS.1 h))
  rw [← C.2.2.2.2.2.2.2.1] at hR hf
  refine vx_calll (vx_runS (As := As) (rest := st) ⟨C.1, C.2.1, C.2.2.1.1, C.2.2.2.1, C.2.2.2.2.1⟩ (hM H.size) (va_cwS n C.2.2.2.2.1 hg rfl rfl rfl hd hR) ⟨jk_blindx, fun U hU hW => ⟨rfl, ⟨by rw [hU], by rw [hU]; exact hPc, va_K.moved hW.alike C.2.2.2.2.2.1, hD.weaken (fun _ _ _ _ => trivial)⟩, jk_Zmv Z.2.2 hS hFc hU hW⟩⟩ rfl hn hl.1 rfl (lv_room hW8) hdg hf) hS (fun q _ h => hFc q h) hFc (fun q _ h => hFc q h) (fun E1 ce q9 u t H1 locs ht hvm hw hB hz1 hk1 hS hce hcv hcl => ?_) (fun r u t H1 locs ht hvm hw hB hz1 hk1 hS => ?_)
  · obtain ⟨hE1, hP1, hK1, hD1⟩ := hB
    rw [ht] at hP1
    rw [E.2]
    exact vx_out (fun x hx => (Z.2.1 x hx).elim) C.2.2.2.2.2.2.2.2 hce hcv hcl (fun t' ht' ha' => ⟨u, hw, ⟨hE1, by rw [ht']; exact hP1, va_K.moved ha' C.2.2.2.2.2.1, hD1.weaken (fun _ _ _ h => hFc _ h)⟩, hS.F ht'⟩) hS.2.2 hmc hms
  · obtain ⟨hP1, hK1, hD1⟩ := hB
    rw [ht] at hP1
    exact kk r u hw H1 locs ls hl hP1 (hD1.weaken (fun _ _ _ h => hFc _ h)) hS
theorem jk_goodI {y : MethodName} {b : ByteArray} {n : Nat} {ret : Option FieldType} (h5 : Cond.code y b n ret ∈ tb) : GoodIn tb (Cond.code y b n ret :: tb) := by
  intro w hw
  have hm : w ∈ tb := by
    rcases List.mem_cons.mp hw with rfl | hw
    · exact h5
    · exact hw
  exact ⟨hm, good_of_word (tb_good w hm)⟩
theorem j_callI {post : S → Prop} (C : jk_C κ cc own R nL tys) (hM : jm_v (jk_l κ) (jk_G κ) tys y bytes maxL rm (.ref a :: As) wc wf post) (hg : GoodIn tb (Cond.code y bytes maxL none :: tb)) (h1 : Cond.initialized y.cls ∈ tb) (h2 : Cond.methodLink own index y ∈ tb) (h3 : Cond.instanceMethod y ∈ tb) (hy1 : y.name = "<init>") (hd : y.cls ≠ "java/lang/invoke/MethodHandle" ∧ y.cls ≠ "java/lang/invoke/VarHandle" ∧ (parseMethodDescriptor y.desc).map (fun d => d.parameters.length) = some n) (hR : rm.frames + 1 ≤ R.frames ∧ 8 + (maxL + 11) + rm.locals ≤ R.locals) (hn : As.length = n)
    (isC isR : List Nat) (hC : isC.map (fun i => ws[i]?) = wc.map some) (hRr : isR.map (fun i => ws[i]?) = wr.map some) (hnd : va_nd isR = true) (hdis : ∀ i ∈ isR, i ∉ isC) (hndC : va_nd isC = true) (hst : st0 = As.reverse ++ .ref a :: st) (hW8 : (st.map fun v => v.category).sum ≤ 8) (hdg : decode cc pc = .ok (.invokespecial index, 3)) (hf : cells + rm.cells ≤ R.cells ∧ slots + rm.slots ≤ R.slots)
    {wn : S → va_W} (ps : List Nat) (hnp : va_nd ps = true) (hwn : ∀ u, ps.map (fun i => (wr ++ wf u)[i]?) = (wn u).map some)
    (kk : ∀ (u : S), post u → jk_J κ (wn u) (pc + 3) lv st (cells + rm.cells) (slots + rm.slots)) : jk_J κ ws pc lv st0 cells slots := by
  intro H locs ls hl hP hD hS
  subst hst
  have hPc := hP.sub (ws' := wc) isC (jk_fm hC)
  have hDc := hD.sub (ws' := wc) isC hndC hC
  have hFc := va_free (wc := wc) hD hS C.2.2.2.2.2.2.1 isC hC
  rw [← C.2.2.2.2.2.2.2.1] at hR hf
  refine va_callv (va_runI (As := As) (rest := st) ⟨C.1, C.2.1, C.2.2.1.1, C.2.2.2.1, C.2.2.2.2.1⟩ (hM H.size) (cwI n C.2.2.2.2.1 hg rfl rfl rfl (C.2.2.2.2.1 _ h1) (C.2.2.2.2.1 _ h2) (C.2.2.2.2.1 _ h3) hy1 hd hR) ⟨jk_blind, fun U hU hW => ⟨rfl, by rw [hU], by rw [hU]; exact hPc, va_K.moved hW.alike C.2.2.2.2.2.1, hDc.weaken (fun _ _ _ _ => trivial)⟩⟩ rfl hn hl.1 rfl (lv_room hW8) hdg hf) hS (fun q _ h => hFc q h) hFc (fun u t H1 locs ht hvm hw hB hz1 hk1 hS => ?_)
  obtain ⟨hP1, hK1, hD1⟩ := hB
  rw [ht] at hP1
  obtain ⟨hP2, hD2⟩ := va_join (wr := wr) (w1 := wf u) hP hD isC isR hC hRr hnd hdis hk1 hFc hP1 hD1
  exact kk u hw H1 locs ls hl (hP2.sub ps (jk_fm (hwn u))) (hD2.sub ps hnp (hwn u)) hS
end jk_calls
/-- 'throw new E("text")' in a method without a table -/
theorem jx_throwS {κ : jk_K} {cc : ByteArray} {own : String} {R : Room} {nL : Nat} {tys : List (ClassId × FieldType)} {pc : Nat} {lv : List (Nat × Value)} {cells slots : Nat} {S : Type} {wf : S → va_W} {mc ms : Nat} {ret0 : Option FieldType} {Qc : Array Value → State → Outcome → State → Prop} {px : String → S → Prop} (C : jk_C κ cc own R nL tys) (Z : jk_Cz κ) (E : jk_Ex κ ret0 Qc (vx_X (fun u : String × S => px u.1 u.2) (jk_X (jk_G κ) tys (jk_A κ) wf) (jk_A κ)) mc ms) {cls text : String} {names : List String} {ik is ic : Nat}
    (hcls : Bundle.fit cls = true) (hnames : ∀ n ∈ names, Bundle.fit n = true) (hk : Cond.classLink own ik cls ∈ tb) (hini : Cond.initialized cls ∈ tb) (hlit : (own, is, text) ∈ jk_lits) (hat : ∀ w ∈ vx_atS own ic cls names, (w ∈ tb ∨ w ∈ jk_oth) ∧ vx_ot w = true)
    (d0 : decode cc pc = .ok (.new ik, 3)) (d3 : decode cc (pc + 3) = .ok (.dup, 1)) (d4 : decode cc (pc + 4) = .ok (.ldc is, 2)) (d6 : decode cc (pc + 6) = .ok (.invokespecial ic, 3)) (d9 : decode cc (pc + 9) = .ok (.athrow, 1))
    (hRframes : names.length + 3 < R.frames) (hRlocals : (13 * (names.length + 1) + 43) ≤ R.locals) (hRcells : cells + 1 ≤ R.cells) (hRslots : slots + 6 ≤ R.slots) (hc : cells + 1 ≤ mc) (hs : slots + 6 ≤ ms) {u : S} (h : px cls u) : jk_J κ (wf u) pc lv [] cells slots := by
  intro H locs ls hl hP hD hS
  unfold jk_W
  rw [E.2]
  rw [← C.2.2.2.2.2.2.2.1] at hRframes hRlocals hRcells hRslots
  obtain ⟨sa, hstr⟩ := Z.2.2.2.2.1 _ hlit
  refine vx_throwS C.1 C.2.1 Z.1 C.2.2.2.1 hcls hnames (C.2.2.2.2.1 _ hk) (C.2.2.2.2.1 _ hini) hstr (fun w hw => (hat w hw).1.elim (fun h => C.2.2.2.2.1 w h) (fun h => va_any (jk_onT w h) (Z.2.2.2.2.2.2 _ h))) (fun w hw => ?_) Z.2.2.1 Z.2.2.2.1 hS (by rw [hl.1]; exact C.2.2.1.1.symm) d0 d3 d4 d6 d9 (fun x hx => (Z.2.1 x hx).elim) hRframes (by simpa using hRlocals) hRcells hRslots C.2.2.2.2.2.2.2.2 (fun t ha hz hq => ⟨(cls, u), h, ⟨rfl, hP.kept (fun k q hk => hq q.1 ((hP k q hk).lt)), va_K.moved ha C.2.2.2.2.2.1, hD⟩, ⟨Nat.le_trans hS.1 hz, fun q h1 h2 => (hq q (Nat.lt_of_lt_of_le h1 hS.1)).trans (hS.2.1 q h1 h2)⟩⟩) hS.2.2 hc hs
  rcases List.mem_cons.mp hw with rfl | hw
  · simp only [vx_ot, tb_good _ hk, Bool.or_true]
  rcases List.mem_cons.mp hw with rfl | hw
  · simp only [vx_ot, tb_good _ hini, Bool.or_true]
  exact (hat w hw).2
theorem g_X_74 : GoodIn tb (wsV R_X 74 R_X y_X_needBlock (Cond.code y_X_needBlock b_X_needBlock 2 none :: tb)) := jk_goodV k_9 k_10 k_11 k_12 k_13
theorem g_X_80 : GoodIn tb (va_wsS R_X 80 y_X_needWithin (Cond.code y_X_needWithin b_X_needWithin 6 none :: tb)) := jk_goodS k_17 k_18 k_12 k_19
theorem g_X_90 : GoodIn tb (va_wsS R_X 90 y_X_startOf (Cond.code y_X_startOf b_X_startOf 1 (some .int) :: tb)) := jk_goodS k_22 k_23 k_12 k_24
theorem g_X_122 : GoodIn tb (va_wsS R_X 122 y_X_blockOf (Cond.code y_X_blockOf b_X_blockOf 1 (some .int) :: tb)) := jk_goodS k_30 k_31 k_12 k_32
theorem g_X_164 : GoodIn tb (wsV R_X 164 R_X y_X_takeFromRow (Cond.code y_X_takeFromRow b_X_takeFromRow 4 none :: tb)) := jk_goodV k_33 k_34 k_35 k_12 k_36
theorem g_X_174 : GoodIn tb (wsV R_X 174 R_X y_X_steepestFrom (Cond.code y_X_steepestFrom b_X_steepestFrom 13 (some .int) :: tb)) := jk_goodV k_37 k_38 k_39 k_12 k_40
theorem g_X_167 : GoodIn tb (wsV R_X 167 R_X y_X_makeHull (Cond.code y_X_makeHull b_X_makeHull 9 (some .int) :: tb)) := jk_goodV k_43 k_44 k_45 k_12 k_46
theorem g_X_184 : GoodIn tb (va_wsS R_X 184 y_JL_compare (Cond.code y_JL_compare b_JL_compare 4 (some .int) :: tb)) := jk_goodS k_47 k_48 k_49 k_50
theorem g_X_181 : GoodIn tb (wsV R_X 181 R_X y_X_compareSlopes (Cond.code y_X_compareSlopes b_X_compareSlopes 3 (some .int) :: tb)) := jk_goodV k_51 k_52 k_53 k_12 k_54
theorem g_X_177 : GoodIn tb (wsV R_X 177 R_X y_X_comesBefore (Cond.code y_X_comesBefore b_X_comesBefore 4 (some .boolean) :: tb)) := jk_goodV k_55 k_56 k_57 k_12 k_58
theorem g_X_170 : GoodIn tb (wsV R_X 170 R_X y_X_mergeIntoRow (Cond.code y_X_mergeIntoRow b_X_mergeIntoRow 7 none :: tb)) := jk_goodV k_59 k_60 k_61 k_12 k_62
theorem g_X_97 : GoodIn tb (wsV R_X 97 R_X y_X_renewBlock (Cond.code y_X_renewBlock b_X_renewBlock 3 none :: tb)) := jk_goodV k_63 k_64 k_65 k_12 k_66
theorem g_X_142 : GoodIn tb (wsV R_X 142 R_X y_X_needLayer (Cond.code y_X_needLayer b_X_needLayer 2 none :: tb)) := jk_goodV k_71 k_72 k_73 k_12 k_74
theorem g_X_104 : GoodIn tb (wsV R_X 104 R_X y_X_tellLayer (Cond.code y_X_tellLayer b_X_tellLayer 5 (some .int) :: tb)) := jk_goodV k_76 k_77 k_78 k_12 k_79
theorem g_X_108 : GoodIn tb (wsV R_X 108 R_X y_X_fillLayer (Cond.code y_X_fillLayer b_X_fillLayer 5 (some .int) :: tb)) := jk_goodV k_83 k_84 k_85 k_12 k_86
theorem g_X_111 : GoodIn tb (wsV R_X 111 R_X y_X_pointOf (Cond.code y_X_pointOf b_X_pointOf 3 (some .int) :: tb)) := jk_goodV k_87 k_88 k_89 k_12 k_90
theorem g_X_125 : GoodIn tb (va_wsS R_X 125 y_X_passesUpTo (Cond.code y_X_passesUpTo b_X_passesUpTo 1 (some .int) :: tb)) := jk_goodS k_91 k_92 k_12 k_93
theorem g_X_128 : GoodIn tb (wsV R_X 128 R_X y_X_countSameSlope (Cond.code y_X_countSameSlope b_X_countSameSlope 4 (some .int) :: tb)) := jk_goodV k_94 k_95 k_96 k_12 k_97
theorem g_X_131 : GoodIn tb (wsV R_X 131 R_X y_X_needShared (Cond.code y_X_needShared b_X_needShared 1 none :: tb)) := jk_goodV k_100 k_101 k_102 k_12 k_103
theorem g_X_134 : GoodIn tb (wsV R_X 134 R_X y_X_layerOf (Cond.code y_X_layerOf b_X_layerOf 3 (some .int) :: tb)) := jk_goodV k_104 k_105 k_106 k_12 k_107
theorem g_M_54 : GoodIn tb (wsV R_M 54 R_M y_M_isBlock (Cond.code y_M_isBlock b_M_isBlock 2 (some .boolean) :: tb)) := jk_goodV k_112 k_113 k_114 k_115 k_116
theorem g_M_65 : GoodIn tb (wsV R_M 65 R_M y_M_fails (Cond.code y_M_fails b_M_fails 3 (some .boolean) :: tb)) := jk_goodV k_121 k_122 k_123 k_115 k_124
theorem g_M_69 : GoodIn tb (wsV R_M 69 R_M y_M_spoil (Cond.code y_M_spoil b_M_spoil 1 none :: tb)) := jk_goodV k_127 k_128 k_129 k_115 k_130
theorem g_M_74 : GoodIn tb (va_wsS R_M 74 y_M_within (Cond.code y_M_within b_M_within 6 (some .boolean) :: tb)) := jk_goodS k_132 k_133 k_115 k_134
theorem g_M_86 : GoodIn tb (wsV R_M 86 R_M y_M_isLayer (Cond.code y_M_isLayer b_M_isLayer 2 (some .boolean) :: tb)) := jk_goodV k_141 k_142 k_143 k_115 k_144
theorem g_M_93 : GoodIn tb (wsV R_M 93 R_M y_M_g (Cond.code y_M_g b_M_g 6 (some .long) :: tb)) := jk_goodV k_149 k_150 k_151 k_115 k_152
theorem g_M_97 : GoodIn tb (wsV R_M 97 R_M y_M_l (Cond.code y_M_l b_M_l 3 (some .int) :: tb)) := jk_goodV k_153 k_154 k_155 k_115 k_156
theorem g_M_104 : GoodIn tb (wsV R_M 104 R_M y_M_isHull (Cond.code y_M_isHull b_M_isHull 12 (some .boolean) :: tb)) := jk_goodV k_160 k_161 k_162 k_115 k_163
theorem g_M_108 : GoodIn tb (wsV R_M 108 R_M y_M_isBefore (Cond.code y_M_isBefore b_M_isBefore 7 (some .boolean) :: tb)) := jk_goodV k_165 k_166 k_167 k_115 k_168
theorem g_M_111 : GoodIn tb (wsV R_M 111 R_M y_M_layRow (Cond.code y_M_layRow b_M_layRow 7 none :: tb)) := jk_goodV k_169 k_170 k_171 k_115 k_172
theorem g_M_114 : GoodIn tb (wsV R_M 114 R_M y_M_isPass (Cond.code y_M_isPass b_M_isPass 3 (some .boolean) :: tb)) := jk_goodV k_174 k_175 k_176 k_115 k_177
theorem g_M_121 : GoodIn tb (wsV R_M 121 R_M y_M_layerOf (Cond.code y_M_layerOf b_M_layerOf 3 (some .int) :: tb)) := jk_goodV k_178 k_179 k_180 k_115 k_181
theorem g_M_117 : GoodIn tb (wsV R_M 117 R_M y_M_alike (Cond.code y_M_alike b_M_alike 4 (some .int) :: tb)) := jk_goodV k_182 k_183 k_184 k_115 k_185
theorem g_M_124 : GoodIn tb (wsV R_M 124 R_M y_M_last (Cond.code y_M_last b_M_last 5 (some .int) :: tb)) := jk_goodV k_186 k_187 k_188 k_115 k_189
theorem g_L_7 : GoodIn tb (wsV R_L 7 R_X y_X_block (Cond.code y_X_block b_X_block 2 (some .int) :: tb)) := jk_goodV k_205 k_206 k_207 k_12 k_208
theorem g_L_15 : GoodIn tb (wsV R_L 15 R_X y_X_pass (Cond.code y_X_pass b_X_pass 6 (some .int) :: tb)) := jk_goodV k_210 k_211 k_212 k_12 k_213
theorem g_L_23 : GoodIn tb (wsV R_L 23 R_X y_X_weight (Cond.code y_X_weight b_X_weight 4 (some .int) :: tb)) := jk_goodV k_216 k_217 k_218 k_12 k_219
theorem g_L_27 : GoodIn tb (wsV R_L 27 R_X y_X_shift (Cond.code y_X_shift b_X_shift 4 (some .int) :: tb)) := jk_goodV k_220 k_221 k_222 k_12 k_223
theorem g_L_30 : GoodIn tb (wsV R_L 30 R_X y_X_size (Cond.code y_X_size b_X_size 3 (some .int) :: tb)) := jk_goodV k_224 k_225 k_226 k_12 k_227
theorem g_L_33 : GoodIn tb (wsV R_L 33 R_X y_X_head (Cond.code y_X_head b_X_head 3 (some .int) :: tb)) := jk_goodV k_228 k_229 k_230 k_12 k_231
theorem g_L_36 : GoodIn tb (wsV R_L 36 R_X y_X_hull (Cond.code y_X_hull b_X_hull 3 (some .boolean) :: tb)) := jk_goodV k_232 k_233 k_234 k_12 k_235
theorem g_L_40 : GoodIn tb (wsV R_L 40 R_X y_X_slope (Cond.code y_X_slope b_X_slope 5 (some .long) :: tb)) := jk_goodV k_236 k_237 k_238 k_12 k_239
theorem g_L_44 : GoodIn tb (wsV R_L 44 R_X y_X_at (Cond.code y_X_at b_X_at 4 (some .int) :: tb)) := jk_goodV k_240 k_241 k_242 k_12 k_243
theorem g_L_49 : GoodIn tb (wsV R_L 49 R_X y_X_passes (Cond.code y_X_passes b_X_passes 4 (some .int) :: tb)) := jk_goodV k_245 k_246 k_247 k_12 k_248
theorem g_L_52 : GoodIn tb (wsV R_L 52 R_X y_X_bytes (Cond.code y_X_bytes b_X_bytes 2 (some .int) :: tb)) := jk_goodV k_249 k_250 k_251 k_12 k_252
theorem g_L_56 : GoodIn tb (wsV R_L 56 R_X y_X_gained (Cond.code y_X_gained b_X_gained 5 (some .long) :: tb)) := jk_goodV k_253 k_254 k_255 k_12 k_256
theorem g_L_60 : GoodIn tb (wsV R_L 60 R_X y_X_least (Cond.code y_X_least b_X_least 4 (some .int) :: tb)) := jk_goodV k_257 k_258 k_259 k_12 k_260
theorem g_L_63 : GoodIn tb (wsV R_L 63 R_X y_X_above (Cond.code y_X_above b_X_above 5 (some .int) :: tb)) := jk_goodV k_261 k_262 k_263 k_12 k_264
theorem hdV_X_needBlock : y_X_needBlock.cls = R_X ∧ y_X_needBlock.cls ≠ "java/lang/invoke/MethodHandle" ∧ y_X_needBlock.cls ≠ "java/lang/invoke/VarHandle" ∧ (parseMethodDescriptor y_X_needBlock.desc).map (fun d => d.parameters.length) = some 1 := by decide +kernel
theorem hdS_X_needWithin : y_X_needWithin.cls ≠ "java/lang/invoke/MethodHandle" ∧ y_X_needWithin.cls ≠ "java/lang/invoke/VarHandle" ∧ (parseMethodDescriptor y_X_needWithin.desc).map (fun d => d.parameters.length) = some 3 := by decide +kernel
theorem hdS_X_startOf : y_X_startOf.cls ≠ "java/lang/invoke/MethodHandle" ∧ y_X_startOf.cls ≠ "java/lang/invoke/VarHandle" ∧ (parseMethodDescriptor y_X_startOf.desc).map (fun d => d.parameters.length) = some 1 := by decide +kernel
theorem hdS_X_blockOf : y_X_blockOf.cls ≠ "java/lang/invoke/MethodHandle" ∧ y_X_blockOf.cls ≠ "java/lang/invoke/VarHandle" ∧ (parseMethodDescriptor y_X_blockOf.desc).map (fun d => d.parameters.length) = some 1 := by decide +kernel
theorem hdV_X_takeFromRow : y_X_takeFromRow.cls = R_X ∧ y_X_takeFromRow.cls ≠ "java/lang/invoke/MethodHandle" ∧ y_X_takeFromRow.cls ≠ "java/lang/invoke/VarHandle" ∧ (parseMethodDescriptor y_X_takeFromRow.desc).map (fun d => d.parameters.length) = some 1 := by decide +kernel
theorem hdV_X_steepestFrom : y_X_steepestFrom.cls = R_X ∧ y_X_steepestFrom.cls ≠ "java/lang/invoke/MethodHandle" ∧ y_X_steepestFrom.cls ≠ "java/lang/invoke/VarHandle" ∧ (parseMethodDescriptor y_X_steepestFrom.desc).map (fun d => d.parameters.length) = some 2 := by decide +kernel
theorem hdV_X_makeHull : y_X_makeHull.cls = R_X ∧ y_X_makeHull.cls ≠ "java/lang/invoke/MethodHandle" ∧ y_X_makeHull.cls ≠ "java/lang/invoke/VarHandle" ∧ (parseMethodDescriptor y_X_makeHull.desc).map (fun d => d.parameters.length) = some 1 := by decide +kernel
theorem hdS_JL_compare : y_JL_compare.cls ≠ "java/lang/invoke/MethodHandle" ∧ y_JL_compare.cls ≠ "java/lang/invoke/VarHandle" ∧ (parseMethodDescriptor y_JL_compare.desc).map (fun d => d.parameters.length) = some 2 := by decide +kernel
theorem hdV_X_compareSlopes : y_X_compareSlopes.cls = R_X ∧ y_X_compareSlopes.cls ≠ "java/lang/invoke/MethodHandle" ∧ y_X_compareSlopes.cls ≠ "java/lang/invoke/VarHandle" ∧ (parseMethodDescriptor y_X_compareSlopes.desc).map (fun d => d.parameters.length) = some 2 := by decide +kernel
theorem hdV_X_comesBefore : y_X_comesBefore.cls = R_X ∧ y_X_comesBefore.cls ≠ "java/lang/invoke/MethodHandle" ∧ y_X_comesBefore.cls ≠ "java/lang/invoke/VarHandle" ∧ (parseMethodDescriptor y_X_comesBefore.desc).map (fun d => d.parameters.length) = some 2 := by decide +kernel
theorem hdV_X_mergeIntoRow : y_X_mergeIntoRow.cls = R_X ∧ y_X_mergeIntoRow.cls ≠ "java/lang/invoke/MethodHandle" ∧ y_X_mergeIntoRow.cls ≠ "java/lang/invoke/VarHandle" ∧ (parseMethodDescriptor y_X_mergeIntoRow.desc).map (fun d => d.parameters.length) = some 2 := by decide +kernel
theorem hdV_X_renewBlock : y_X_renewBlock.cls = R_X ∧ y_X_renewBlock.cls ≠ "java/lang/invoke/MethodHandle" ∧ y_X_renewBlock.cls ≠ "java/lang/invoke/VarHandle" ∧ (parseMethodDescriptor y_X_renewBlock.desc).map (fun d => d.parameters.length) = some 1 := by decide +kernel
theorem hdV_X_needLayer : y_X_needLayer.cls = R_X ∧ y_X_needLayer.cls ≠ "java/lang/invoke/MethodHandle" ∧ y_X_needLayer.cls ≠ "java/lang/invoke/VarHandle" ∧ (parseMethodDescriptor y_X_needLayer.desc).map (fun d => d.parameters.length) = some 1 := by decide +kernel
theorem hdV_X_tellLayer : y_X_tellLayer.cls = R_X ∧ y_X_tellLayer.cls ≠ "java/lang/invoke/MethodHandle" ∧ y_X_tellLayer.cls ≠ "java/lang/invoke/VarHandle" ∧ (parseMethodDescriptor y_X_tellLayer.desc).map (fun d => d.parameters.length) = some 3 := by decide +kernel
theorem hdV_X_fillLayer : y_X_fillLayer.cls = R_X ∧ y_X_fillLayer.cls ≠ "java/lang/invoke/MethodHandle" ∧ y_X_fillLayer.cls ≠ "java/lang/invoke/VarHandle" ∧ (parseMethodDescriptor y_X_fillLayer.desc).map (fun d => d.parameters.length) = some 2 := by decide +kernel
theorem hdV_X_pointOf : y_X_pointOf.cls = R_X ∧ y_X_pointOf.cls ≠ "java/lang/invoke/MethodHandle" ∧ y_X_pointOf.cls ≠ "java/lang/invoke/VarHandle" ∧ (parseMethodDescriptor y_X_pointOf.desc).map (fun d => d.parameters.length) = some 2 := by decide +kernel
theorem hdS_X_passesUpTo : y_X_passesUpTo.cls ≠ "java/lang/invoke/MethodHandle" ∧ y_X_passesUpTo.cls ≠ "java/lang/invoke/VarHandle" ∧ (parseMethodDescriptor y_X_passesUpTo.desc).map (fun d => d.parameters.length) = some 1 := by decide +kernel
theorem hdV_X_countSameSlope : y_X_countSameSlope.cls = R_X ∧ y_X_countSameSlope.cls ≠ "java/lang/invoke/MethodHandle" ∧ y_X_countSameSlope.cls ≠ "java/lang/invoke/VarHandle" ∧ (parseMethodDescriptor y_X_countSameSlope.desc).map (fun d => d.parameters.length) = some 1 := by decide +kernel
theorem hdV_X_needShared : y_X_needShared.cls = R_X ∧ y_X_needShared.cls ≠ "java/lang/invoke/MethodHandle" ∧ y_X_needShared.cls ≠ "java/lang/invoke/VarHandle" ∧ (parseMethodDescriptor y_X_needShared.desc).map (fun d => d.parameters.length) = some 0 := by decide +kernel
theorem hdV_X_layerOf : y_X_layerOf.cls = R_X ∧ y_X_layerOf.cls ≠ "java/lang/invoke/MethodHandle" ∧ y_X_layerOf.cls ≠ "java/lang/invoke/VarHandle" ∧ (parseMethodDescriptor y_X_layerOf.desc).map (fun d => d.parameters.length) = some 1 := by decide +kernel
theorem hdV_M_isBlock : y_M_isBlock.cls = R_M ∧ y_M_isBlock.cls ≠ "java/lang/invoke/MethodHandle" ∧ y_M_isBlock.cls ≠ "java/lang/invoke/VarHandle" ∧ (parseMethodDescriptor y_M_isBlock.desc).map (fun d => d.parameters.length) = some 1 := by decide +kernel
theorem hdV_M_fails : y_M_fails.cls = R_M ∧ y_M_fails.cls ≠ "java/lang/invoke/MethodHandle" ∧ y_M_fails.cls ≠ "java/lang/invoke/VarHandle" ∧ (parseMethodDescriptor y_M_fails.desc).map (fun d => d.parameters.length) = some 2 := by decide +kernel
theorem hdV_M_spoil : y_M_spoil.cls = R_M ∧ y_M_spoil.cls ≠ "java/lang/invoke/MethodHandle" ∧ y_M_spoil.cls ≠ "java/lang/invoke/VarHandle" ∧ (parseMethodDescriptor y_M_spoil.desc).map (fun d => d.parameters.length) = some 0 := by decide +kernel
theorem hdS_M_within : y_M_within.cls ≠ "java/lang/invoke/MethodHandle" ∧ y_M_within.cls ≠ "java/lang/invoke/VarHandle" ∧ (parseMethodDescriptor y_M_within.desc).map (fun d => d.parameters.length) = some 3 := by decide +kernel
theorem hdV_M_isLayer : y_M_isLayer.cls = R_M ∧ y_M_isLayer.cls ≠ "java/lang/invoke/MethodHandle" ∧ y_M_isLayer.cls ≠ "java/lang/invoke/VarHandle" ∧ (parseMethodDescriptor y_M_isLayer.desc).map (fun d => d.parameters.length) = some 1 := by decide +kernel
theorem hdV_M_g : y_M_g.cls = R_M ∧ y_M_g.cls ≠ "java/lang/invoke/MethodHandle" ∧ y_M_g.cls ≠ "java/lang/invoke/VarHandle" ∧ (parseMethodDescriptor y_M_g.desc).map (fun d => d.parameters.length) = some 2 := by decide +kernel
theorem hdV_M_l : y_M_l.cls = R_M ∧ y_M_l.cls ≠ "java/lang/invoke/MethodHandle" ∧ y_M_l.cls ≠ "java/lang/invoke/VarHandle" ∧ (parseMethodDescriptor y_M_l.desc).map (fun d => d.parameters.length) = some 2 := by decide +kernel
theorem hdV_M_isHull : y_M_isHull.cls = R_M ∧ y_M_isHull.cls ≠ "java/lang/invoke/MethodHandle" ∧ y_M_isHull.cls ≠ "java/lang/invoke/VarHandle" ∧ (parseMethodDescriptor y_M_isHull.desc).map (fun d => d.parameters.length) = some 2 := by decide +kernel
theorem hdV_M_isBefore : y_M_isBefore.cls = R_M ∧ y_M_isBefore.cls ≠ "java/lang/invoke/MethodHandle" ∧ y_M_isBefore.cls ≠ "java/lang/invoke/VarHandle" ∧ (parseMethodDescriptor y_M_isBefore.desc).map (fun d => d.parameters.length) = some 2 := by decide +kernel
theorem hdV_M_layRow : y_M_layRow.cls = R_M ∧ y_M_layRow.cls ≠ "java/lang/invoke/MethodHandle" ∧ y_M_layRow.cls ≠ "java/lang/invoke/VarHandle" ∧ (parseMethodDescriptor y_M_layRow.desc).map (fun d => d.parameters.length) = some 0 := by decide +kernel
theorem hdV_M_isPass : y_M_isPass.cls = R_M ∧ y_M_isPass.cls ≠ "java/lang/invoke/MethodHandle" ∧ y_M_isPass.cls ≠ "java/lang/invoke/VarHandle" ∧ (parseMethodDescriptor y_M_isPass.desc).map (fun d => d.parameters.length) = some 2 := by decide +kernel
theorem hdV_M_layerOf : y_M_layerOf.cls = R_M ∧ y_M_layerOf.cls ≠ "java/lang/invoke/MethodHandle" ∧ y_M_layerOf.cls ≠ "java/lang/invoke/VarHandle" ∧ (parseMethodDescriptor y_M_layerOf.desc).map (fun d => d.parameters.length) = some 1 := by decide +kernel
theorem hdV_M_alike : y_M_alike.cls = R_M ∧ y_M_alike.cls ≠ "java/lang/invoke/MethodHandle" ∧ y_M_alike.cls ≠ "java/lang/invoke/VarHandle" ∧ (parseMethodDescriptor y_M_alike.desc).map (fun d => d.parameters.length) = some 1 := by decide +kernel
theorem hdV_M_last : y_M_last.cls = R_M ∧ y_M_last.cls ≠ "java/lang/invoke/MethodHandle" ∧ y_M_last.cls ≠ "java/lang/invoke/VarHandle" ∧ (parseMethodDescriptor y_M_last.desc).map (fun d => d.parameters.length) = some 2 := by decide +kernel
theorem hdV_X_block : y_X_block.cls = R_X ∧ y_X_block.cls ≠ "java/lang/invoke/MethodHandle" ∧ y_X_block.cls ≠ "java/lang/invoke/VarHandle" ∧ (parseMethodDescriptor y_X_block.desc).map (fun d => d.parameters.length) = some 0 := by decide +kernel
theorem hdV_X_pass : y_X_pass.cls = R_X ∧ y_X_pass.cls ≠ "java/lang/invoke/MethodHandle" ∧ y_X_pass.cls ≠ "java/lang/invoke/VarHandle" ∧ (parseMethodDescriptor y_X_pass.desc).map (fun d => d.parameters.length) = some 3 := by decide +kernel
theorem hdV_X_weight : y_X_weight.cls = R_X ∧ y_X_weight.cls ≠ "java/lang/invoke/MethodHandle" ∧ y_X_weight.cls ≠ "java/lang/invoke/VarHandle" ∧ (parseMethodDescriptor y_X_weight.desc).map (fun d => d.parameters.length) = some 2 := by decide +kernel
theorem hdV_X_shift : y_X_shift.cls = R_X ∧ y_X_shift.cls ≠ "java/lang/invoke/MethodHandle" ∧ y_X_shift.cls ≠ "java/lang/invoke/VarHandle" ∧ (parseMethodDescriptor y_X_shift.desc).map (fun d => d.parameters.length) = some 2 := by decide +kernel
theorem hdV_X_size : y_X_size.cls = R_X ∧ y_X_size.cls ≠ "java/lang/invoke/MethodHandle" ∧ y_X_size.cls ≠ "java/lang/invoke/VarHandle" ∧ (parseMethodDescriptor y_X_size.desc).map (fun d => d.parameters.length) = some 2 := by decide +kernel
theorem hdV_X_head : y_X_head.cls = R_X ∧ y_X_head.cls ≠ "java/lang/invoke/MethodHandle" ∧ y_X_head.cls ≠ "java/lang/invoke/VarHandle" ∧ (parseMethodDescriptor y_X_head.desc).map (fun d => d.parameters.length) = some 2 := by decide +kernel
theorem hdV_X_hull : y_X_hull.cls = R_X ∧ y_X_hull.cls ≠ "java/lang/invoke/MethodHandle" ∧ y_X_hull.cls ≠ "java/lang/invoke/VarHandle" ∧ (parseMethodDescriptor y_X_hull.desc).map (fun d => d.parameters.length) = some 2 := by decide +kernel
theorem hdV_X_slope : y_X_slope.cls = R_X ∧ y_X_slope.cls ≠ "java/lang/invoke/MethodHandle" ∧ y_X_slope.cls ≠ "java/lang/invoke/VarHandle" ∧ (parseMethodDescriptor y_X_slope.desc).map (fun d => d.parameters.length) = some 3 := by decide +kernel
theorem hdV_X_at : y_X_at.cls = R_X ∧ y_X_at.cls ≠ "java/lang/invoke/MethodHandle" ∧ y_X_at.cls ≠ "java/lang/invoke/VarHandle" ∧ (parseMethodDescriptor y_X_at.desc).map (fun d => d.parameters.length) = some 2 := by decide +kernel
theorem hdV_X_passes : y_X_passes.cls = R_X ∧ y_X_passes.cls ≠ "java/lang/invoke/MethodHandle" ∧ y_X_passes.cls ≠ "java/lang/invoke/VarHandle" ∧ (parseMethodDescriptor y_X_passes.desc).map (fun d => d.parameters.length) = some 2 := by decide +kernel
theorem hdV_X_bytes : y_X_bytes.cls = R_X ∧ y_X_bytes.cls ≠ "java/lang/invoke/MethodHandle" ∧ y_X_bytes.cls ≠ "java/lang/invoke/VarHandle" ∧ (parseMethodDescriptor y_X_bytes.desc).map (fun d => d.parameters.length) = some 1 := by decide +kernel
theorem hdV_X_gained : y_X_gained.cls = R_X ∧ y_X_gained.cls ≠ "java/lang/invoke/MethodHandle" ∧ y_X_gained.cls ≠ "java/lang/invoke/VarHandle" ∧ (parseMethodDescriptor y_X_gained.desc).map (fun d => d.parameters.length) = some 1 := by decide +kernel
theorem hdV_X_least : y_X_least.cls = R_X ∧ y_X_least.cls ≠ "java/lang/invoke/MethodHandle" ∧ y_X_least.cls ≠ "java/lang/invoke/VarHandle" ∧ (parseMethodDescriptor y_X_least.desc).map (fun d => d.parameters.length) = some 1 := by decide +kernel
theorem hdV_X_above : y_X_above.cls = R_X ∧ y_X_above.cls ≠ "java/lang/invoke/MethodHandle" ∧ y_X_above.cls ≠ "java/lang/invoke/VarHandle" ∧ (parseMethodDescriptor y_X_above.desc).map (fun d => d.parameters.length) = some 2 := by decide +kernel
end
section
/-- a method with a table, that catches all: it returns an int -/
def jh_i (l : Launch) (G : va_G) (tys : List (ClassId × FieldType)) (y : MethodName) (b : ByteArray) (maxL : Nat) (hh : List (Nat × Nat × Nat × Nat)) (rm : Room) (vs : List Value) (ws : va_W) {S : Type} (wf : S → va_W) (post : Int32 → S → Prop) : Prop := ∀ sz : Nat, Met l y (Cond.codeWith y b maxL (some .int) hh :: tb) rm (va_Pc vs (fun U => jk_P G tys ws sz U ∧ jk_Z (va_A ws sz) U)) (va_Qi post (jk_B G tys (va_A ws sz) wf) (va_A ws sz)) rm.cells rm.slots (va_A ws sz)
def jk_Ch (κ : jk_K) (hh : List (Nat × Nat × Nat × Nat)) : Prop := (jk_l κ).stackTraces = false ∧ (jk_c κ).exceptionTable.toList = tableOf hh ∧ jk_Z (jk_A κ) (jk_s κ)
theorem jh_open_i {l : Launch} {G : va_G} {tys : List (ClassId × FieldType)} {y : MethodName} {b : ByteArray} {maxL : Nat} {hh : List (Nat × Nat × Nat × Nat)} {rm : Room} {vs : List Value} {ws : va_W} {S : Type} {wf : S → va_W} {post : Int32 → S → Prop} (hlt : l.stackTraces = false) (hy : plainName y.cls = true) (hvs : (lg_sl vs).length ≤ maxL)
    (body : ∀ κ : jk_K, jk_l κ = l → jk_G κ = G → jk_C κ b y.cls rm maxL tys → jk_Ch κ hh → jk_E κ (some .int) (va_Qi post (jk_B (jk_G κ) tys (jk_A κ) wf) (jk_A κ)) rm.cells rm.slots → jk_J κ ws 0 (lv_args 0 vs) [] 0 0) : jh_i l G tys y b maxL hh rm vs ws wf post := by
  intro sz
  refine va_MetW (cc := b) (maxL := maxL) (ret := some .int) hy rfl ?_
  intro p e s m args below meth c s₁ B hml hv
  obtain ⟨rfl, ⟨hsz, hP, hK, hD0⟩, hZ⟩ := hv
  have hts := atoms_spec (ws := Cond.codeWith y b maxL (some .int) hh :: tb) B.pre
  have hown : s.vm.findClass y.cls = some m.cls := findClass_of_methodNamed B.named
  have htab := vx_table (x := y) B (hts _ List.mem_cons_self)
  subst hsz
  rw [lg_entry_eq]
  exact body (p, l, e, rm, s, m, vs.toArray, below, meth, c, maxL, G, va_A ws s.heap.size, MQ below (va_Qi post (jk_B G tys (va_A ws s.heap.size) wf) (va_A ws s.heap.size)) vs.toArray s rm.cells rm.slots (va_A ws s.heap.size)) rfl rfl ⟨B.exec, B.bytes, ⟨hml, rfl⟩, hown, fun w h => hts w (List.mem_cons_of_mem _ h), hK, fun q h => Or.inr h, rfl, B.notSynchronized⟩ ⟨hlt, htab, hZ⟩ ⟨B.returns, rfl⟩ s.heap [] _ (lv_entry vs hvs) hP hD0.self va_S.rf
theorem jk_goodH {own : String} {idx : Nat} {y : MethodName} {b : ByteArray} {n : Nat} {ret : Option FieldType} {hh : List (Nat × Nat × Nat × Nat)} (h1 : Cond.methodLink own idx y ∈ tb) (h2 : Cond.static y ∈ tb) (h3 : Cond.initialized y.cls ∈ tb) (h5 : Cond.codeWith y b n ret hh ∈ tb) : GoodIn tb (va_wsS own idx y (Cond.codeWith y b n ret hh :: tb)) := by
  intro w hw
  have hm : w ∈ tb := by
    simp only [va_wsS, List.mem_append, List.mem_cons, List.not_mem_nil, or_false] at hw
    rcases hw with (rfl | rfl | rfl) | rfl | hw <;> assumption
  exact ⟨hm, good_of_word (tb_good w hm)⟩
/-- where a thrown E is caught: the table's row x, those ahead don't take it -/
def jk_cat (κ : jk_K) (own : String) (hh : List (Nat × Nat × Nat × Nat)) (pc : Nat) (E : String) (hp : Nat) : Prop := ∃ (pre : List ExceptionTableEntry) (x : ExceptionTableEntry) (suf : List ExceptionTableEntry) (name : String), tableOf hh = pre ++ x :: suf ∧ (∀ z ∈ pre, covers z pc = false ∨ (z.catchType ≠ 0 ∧ ∃ nm : String, Cond.classLink own z.catchType nm ∈ tb ∧ va_Nc E nm (jk_s κ))) ∧ covers x pc = true ∧ x.catchType ≠ 0 ∧ Cond.classLink own x.catchType name ∈ tb ∧ Cond.castable E name ∈ jk_oth ∧ x.handlerPc = hp
section jk_hcalls
variable {κ : jk_K} {cc : ByteArray} {own : String} {R : Room} {nL : Nat} {tys : List (ClassId × FieldType)} {ws : va_W} {pc : Nat} {lv : List (Nat × Value)} {st st0 : List Value} {cells slots : Nat} {S : Type} {wf : S → va_W}
variable {y : MethodName} {bytes : ByteArray} {maxL index n a q0 ci : Nat} {rm : Room} {As : List Value} {wc wr : va_W} {Cn : String} {fs : List Value} {qc : vw_C} {hh : List (Nat × Nat × Nat × Nat)}
theorem jh_callVi {ty : FieldType} {post : Int32 → S → Prop} {px : String → S → Prop} (C : jk_C κ cc own R nL tys) (Z : jk_Ch κ hh) (hM : jx_i (jk_l κ) (jk_G κ) tys y bytes maxL ty rm (.ref a :: As) wc wf post px) (hg : GoodIn tb (wsV own index Cn y (Cond.code y bytes maxL (some ty) :: tb))) (hd : y.cls = Cn ∧ y.cls ≠ "java/lang/invoke/MethodHandle" ∧ y.cls ≠ "java/lang/invoke/VarHandle" ∧ (parseMethodDescriptor y.desc).map (fun d => d.parameters.length) = some n) (hR : rm.frames + 1 ≤ R.frames ∧ 8 + (maxL + 11) + rm.locals ≤ R.locals) (hn : As.length = n) (he : wc[q0]? = some (a, .inr (ci, fs))) (hcl : classes[ci]? = some qc) (hqn : qc.1 = Cn)
    (isC isR : List Nat) (hC : isC.map (fun i => ws[i]?) = wc.map some) (hRr : isR.map (fun i => ws[i]?) = wr.map some) (hnd : va_nd isR = true) (hdis : ∀ i ∈ isR, i ∉ isC) (hndC : va_nd isC = true) (hst : st0 = As.reverse ++ .ref a :: st) (hW8 : (st.map fun v => v.category).sum ≤ 8) (hdg : decode cc pc = .ok (.invokevirtual index, 3)) (hf : cells + rm.cells ≤ R.cells ∧ slots + rm.slots ≤ R.slots)
    {wn : S → va_W} (ps : List Nat) (hnp : va_nd ps = true) (hwn : ∀ u, ps.map (fun i => (wr ++ wf u)[i]?) = (wn u).map some)
    (kx : ∀ (E : String) (u : S), px E u → ∃ hp : Nat, jk_cat κ own hh pc E hp ∧ ∀ q9 : Nat, jk_J κ (wn u) hp lv [.ref q9] (cells + rm.cells) (slots + rm.slots))
    (kk : ∀ (r : Int32) (u : S), post r u → jk_J κ (wn u) (pc + 3) lv (.int r :: st) (cells + rm.cells) (slots + rm.slots)) : jk_J κ ws pc lv st0 cells slots := by
  intro H locs ls hl hP hD hS
  subst hst
  subst hqn
  have hPc := hP.sub (ws' := wc) isC (jk_fm hC)
  have hDc := hD.sub (ws' := wc) isC hndC hC
  have hFc := va_free (wc := wc) hD hS C.2.2.2.2.2.2.1 isC hC
  rw [← C.2.2.2.2.2.2.2.1] at hR hf
  refine vx_calli (vx_runV (As := As) (rest := st) ⟨C.1, C.2.1, C.2.2.1.1, C.2.2.2.1, C.2.2.2.2.1⟩ (hM H.size) (cwV n C.2.2.2.2.1 hg rfl rfl rfl hd hR) ⟨jk_blindx, va_recv C.2.2.2.2.2.1 hPc hcl he, fun U hU hW => ⟨rfl, ⟨by rw [hU], by rw [hU]; exact hPc, va_K.moved hW.alike C.2.2.2.2.2.1, hDc.weaken (fun _ _ _ _ => trivial)⟩, jk_Zmv Z.2.2 hS hFc hU hW⟩⟩ rfl hn hl.1 rfl (lv_room hW8) hdg hf) hS (fun q _ h => hFc q h) hFc (fun q _ h => hFc q h) (fun E1 ce q9 u t H1 locs ht hvm hw hB hz1 hk1 hS hce hcv hcl => ?_) (fun r u t H1 locs ht hvm hw hB hz1 hk1 hS => ?_)
  · obtain ⟨hE1, hP1, hK1, hD1⟩ := hB
    rw [ht] at hP1
    obtain ⟨hP2, hD2⟩ := va_join (wr := wr) (w1 := wf u.2) hP hD isC isR hC hRr hnd hdis hk1 hFc hP1 hD1
    obtain ⟨hp, ⟨pre, x, suf, name, e1, e2, e3, e4, e5, e6, rfl⟩, kj⟩ := kx u.1 u.2 hw
    subst hE1
    exact vx_catch C.2.2.2.1 pre x suf (Z.2.1.trans e1) (fun z hz => (e2 z hz).elim Or.inl (fun h => Or.inr ⟨h.1, h.2.elim fun nm h => ⟨nm, C.2.2.2.2.1 _ h.1, h.2⟩⟩)) e3 e4 (C.2.2.2.2.1 _ e5) (va_any (jk_onT _ e6) (Z.2.2.2.2.2.2 _ e6)) hce hcv hcl (kj q9 H1 locs ls hl (hP2.sub ps (jk_fm (hwn u.2))) (hD2.sub ps hnp (hwn u.2)) hS)
  · obtain ⟨hP1, hK1, hD1⟩ := hB
    rw [ht] at hP1
    obtain ⟨hP2, hD2⟩ := va_join (wr := wr) (w1 := wf u) hP hD isC isR hC hRr hnd hdis hk1 hFc hP1 hD1
    exact kk r u hw H1 locs ls hl (hP2.sub ps (jk_fm (hwn u))) (hD2.sub ps hnp (hwn u)) hS
theorem jh_callVl {post : Int64 → S → Prop} {px : String → S → Prop} (C : jk_C κ cc own R nL tys) (Z : jk_Ch κ hh) (hM : jx_l (jk_l κ) (jk_G κ) tys y bytes maxL rm (.ref a :: As) wc wf post px) (hg : GoodIn tb (wsV own index Cn y (Cond.code y bytes maxL (some .long) :: tb))) (hd : y.cls = Cn ∧ y.cls ≠ "java/lang/invoke/MethodHandle" ∧ y.cls ≠ "java/lang/invoke/VarHandle" ∧ (parseMethodDescriptor y.desc).map (fun d => d.parameters.length) = some n) (hR : rm.frames + 1 ≤ R.frames ∧ 8 + (maxL + 11) + rm.locals ≤ R.locals) (hn : As.length = n) (he : wc[q0]? = some (a, .inr (ci, fs))) (hcl : classes[ci]? = some qc) (hqn : qc.1 = Cn)
    (isC isR : List Nat) (hC : isC.map (fun i => ws[i]?) = wc.map some) (hRr : isR.map (fun i => ws[i]?) = wr.map some) (hnd : va_nd isR = true) (hdis : ∀ i ∈ isR, i ∉ isC) (hndC : va_nd isC = true) (hst : st0 = As.reverse ++ .ref a :: st) (hW8 : (st.map fun v => v.category).sum ≤ 8) (hdg : decode cc pc = .ok (.invokevirtual index, 3)) (hf : cells + rm.cells ≤ R.cells ∧ slots + rm.slots ≤ R.slots)
    {wn : S → va_W} (ps : List Nat) (hnp : va_nd ps = true) (hwn : ∀ u, ps.map (fun i => (wr ++ wf u)[i]?) = (wn u).map some)
    (kx : ∀ (E : String) (u : S), px E u → ∃ hp : Nat, jk_cat κ own hh pc E hp ∧ ∀ q9 : Nat, jk_J κ (wn u) hp lv [.ref q9] (cells + rm.cells) (slots + rm.slots))
    (kk : ∀ (r : Int64) (u : S), post r u → jk_J κ (wn u) (pc + 3) lv (.long r :: st) (cells + rm.cells) (slots + rm.slots)) : jk_J κ ws pc lv st0 cells slots := by
  intro H locs ls hl hP hD hS
  subst hst
  subst hqn
  have hPc := hP.sub (ws' := wc) isC (jk_fm hC)
  have hDc := hD.sub (ws' := wc) isC hndC hC
  have hFc := va_free (wc := wc) hD hS C.2.2.2.2.2.2.1 isC hC
  rw [← C.2.2.2.2.2.2.2.1] at hR hf
  refine vx_calll (vx_runV (As := As) (rest := st) ⟨C.1, C.2.1, C.2.2.1.1, C.2.2.2.1, C.2.2.2.2.1⟩ (hM H.size) (cwV n C.2.2.2.2.1 hg rfl rfl rfl hd hR) ⟨jk_blindx, va_recv C.2.2.2.2.2.1 hPc hcl he, fun U hU hW => ⟨rfl, ⟨by rw [hU], by rw [hU]; exact hPc, va_K.moved hW.alike C.2.2.2.2.2.1, hDc.weaken (fun _ _ _ _ => trivial)⟩, jk_Zmv Z.2.2 hS hFc hU hW⟩⟩ rfl hn hl.1 rfl (lv_room hW8) hdg hf) hS (fun q _ h => hFc q h) hFc (fun q _ h => hFc q h) (fun E1 ce q9 u t H1 locs ht hvm hw hB hz1 hk1 hS hce hcv hcl => ?_) (fun r u t H1 locs ht hvm hw hB hz1 hk1 hS => ?_)
  · obtain ⟨hE1, hP1, hK1, hD1⟩ := hB
    rw [ht] at hP1
    obtain ⟨hP2, hD2⟩ := va_join (wr := wr) (w1 := wf u.2) hP hD isC isR hC hRr hnd hdis hk1 hFc hP1 hD1
    obtain ⟨hp, ⟨pre, x, suf, name, e1, e2, e3, e4, e5, e6, rfl⟩, kj⟩ := kx u.1 u.2 hw
    subst hE1
    exact vx_catch C.2.2.2.1 pre x suf (Z.2.1.trans e1) (fun z hz => (e2 z hz).elim Or.inl (fun h => Or.inr ⟨h.1, h.2.elim fun nm h => ⟨nm, C.2.2.2.2.1 _ h.1, h.2⟩⟩)) e3 e4 (C.2.2.2.2.1 _ e5) (va_any (jk_onT _ e6) (Z.2.2.2.2.2.2 _ e6)) hce hcv hcl (kj q9 H1 locs ls hl (hP2.sub ps (jk_fm (hwn u.2))) (hD2.sub ps hnp (hwn u.2)) hS)
  · obtain ⟨hP1, hK1, hD1⟩ := hB
    rw [ht] at hP1
    obtain ⟨hP2, hD2⟩ := va_join (wr := wr) (w1 := wf u) hP hD isC isR hC hRr hnd hdis hk1 hFc hP1 hD1
    exact kk r u hw H1 locs ls hl (hP2.sub ps (jk_fm (hwn u))) (hD2.sub ps hnp (hwn u)) hS
/-- a static call of such a method -/
theorem j_callH {post : Int32 → S → Prop} (C : jk_C κ cc own R nL tys) (Zs : jk_Z (jk_A κ) (jk_s κ)) {hh : List (Nat × Nat × Nat × Nat)} (hM : jh_i (jk_l κ) (jk_G κ) tys y bytes maxL hh rm As wc wf post) (hg : GoodIn tb (va_wsS own index y (Cond.codeWith y bytes maxL (some .int) hh :: tb))) (hd : y.cls ≠ "java/lang/invoke/MethodHandle" ∧ y.cls ≠ "java/lang/invoke/VarHandle" ∧ (parseMethodDescriptor y.desc).map (fun d => d.parameters.length) = some n) (hR : rm.frames + 1 ≤ R.frames ∧ 8 + (maxL + 11) + rm.locals ≤ R.locals) (hn : As.length = n)
    (isC isR : List Nat) (hC : isC.map (fun i => ws[i]?) = wc.map some) (hRr : isR.map (fun i => ws[i]?) = wr.map some) (hnd : va_nd isR = true) (hdis : ∀ i ∈ isR, i ∉ isC) (hndC : va_nd isC = true) (hst : st0 = As.reverse ++ st) (hW8 : (st.map fun v => v.category).sum ≤ 8) (hdg : decode cc pc = .ok (.invokestatic index, 3)) (hf : cells + rm.cells ≤ R.cells ∧ slots + rm.slots ≤ R.slots)
    {wn : S → va_W} (ps : List Nat) (hnp : va_nd ps = true) (hwn : ∀ u, ps.map (fun i => (wr ++ wf u)[i]?) = (wn u).map some)
    (kk : ∀ (r : Int32) (u : S), post r u → jk_J κ (wn u) (pc + 3) lv (.int r :: st) (cells + rm.cells) (slots + rm.slots)) : jk_J κ ws pc lv st0 cells slots := by
  intro H locs ls hl hP hD hS
  subst hst
  have hPc := hP.sub (ws' := wc) isC (jk_fm hC)
  have hDc := hD.sub (ws' := wc) isC hndC hC
  have hFc := va_free (wc := wc) hD hS C.2.2.2.2.2.2.1 isC hC
  rw [← C.2.2.2.2.2.2.2.1] at hR hf
  refine va_calli (vx_runSW (As := As) (rest := st) ⟨C.1, C.2.1, C.2.2.1.1, C.2.2.2.1, C.2.2.2.2.1⟩ (hM H.size) (vx_cwSW n C.2.2.2.2.1 hg rfl rfl rfl hd hR) ⟨jk_blindx, fun U hU hW => ⟨rfl, ⟨by rw [hU], by rw [hU]; exact hPc, va_K.moved hW.alike C.2.2.2.2.2.1, hDc.weaken (fun _ _ _ _ => trivial)⟩, jk_Zmv Zs hS hFc hU hW⟩⟩ rfl hn hl.1 rfl (lv_room hW8) hdg hf) hS (fun q _ h => hFc q h) hFc (fun r u t H1 locs ht hvm hw hB hz1 hk1 hS => ?_)
  obtain ⟨hP1, hK1, hD1⟩ := hB
  rw [ht] at hP1
  obtain ⟨hP2, hD2⟩ := va_join (wr := wr) (w1 := wf u) hP hD isC isR hC hRr hnd hdis hk1 hFc hP1 hD1
  exact kk r u hw H1 locs ls hl (hP2.sub ps (jk_fm (hwn u))) (hD2.sub ps hnp (hwn u)) hS
end jk_hcalls
section jk_law
variable {κ : jk_K} {cc : ByteArray} {own : String} {R : Room} {nL : Nat} {tys : List (ClassId × FieldType)} {ws : va_W} {pc : Nat} {lv : List (Nat × Value)} {st : List Value} {cells slots : Nat}
/-- the law's script: outside the world, as at the start -/
def jk_Cs (κ : jk_K) (b L : Nat) (xs : Nat → Int32) : Prop := va_X b L xs (jk_s κ) (jk_s κ).heap ∧ b < (jk_s κ).heap.size ∧ ¬ jk_A κ b
theorem j_sld (C : jk_C κ cc own R nL tys) {b L : Nat} {xs : Nat → Int32} (X : jk_Cs κ b L xs) {i : Int32} (hin : vp_in i L) (hdg : decode cc pc = .ok (.iaload, 1)) (kk : jk_J κ ws (pc + 1) lv (.int (xs i.toNatClampNeg) :: st) cells slots) : jk_J κ ws pc lv (.int i :: .ref b :: st) cells slots := fun H locs ls hl hP hD hS => va_sld C.1 C.2.1 X.1 X.2.1 X.2.2 hS hin hdg (kk H locs ls hl hP hD hS)
theorem j_slen (C : jk_C κ cc own R nL tys) {b L : Nat} {xs : Nat → Int32} (X : jk_Cs κ b L xs) (hdg : decode cc pc = .ok (.arraylength, 1)) (kk : jk_J κ ws (pc + 1) lv (.int (nI L) :: st) cells slots) : jk_J κ ws pc lv (.ref b :: st) cells slots := fun H locs ls hl hP hD hS => va_slen C.1 C.2.1 X.1 X.2.1 X.2.2 hS hdg (kk H locs ls hl hP hD hS)
end jk_law
end
section
abbrev SX : Type := Nat × Int32 × (Nat → Int32) × (Nat → Int32) × (Nat → Int32) × (Nat → Int32) × Int32 × (Nat → Int32) × (Nat → Int32) × (Nat → Int32) × Int32 × Int32 × (Nat → Int32) × (Nat → Int32) × (Nat → Int64) × (Nat → Int32) × (Nat → Int32) × Int32
abbrev sX_nl (σ : SX) : Nat := σ.1
abbrev uX_nl (σ : SX) (v : Nat) : SX := (v, σ.2)
abbrev sX_layers (σ : SX) : Int32 := σ.2.1
abbrev uX_layers (σ : SX) (v : Int32) : SX := (σ.1, v, σ.2.2)
abbrev sX_sizes (σ : SX) : Nat → Int32 := σ.2.2.1
abbrev uX_sizes (σ : SX) (v : Nat → Int32) : SX := (σ.1, σ.2.1, v, σ.2.2.2)
abbrev sX_heads (σ : SX) : Nat → Int32 := σ.2.2.2.1
abbrev uX_heads (σ : SX) (v : Nat → Int32) : SX := (σ.1, σ.2.1, σ.2.2.1, v, σ.2.2.2.2)
abbrev sX_held (σ : SX) : Nat → Int32 := σ.2.2.2.2.1
abbrev uX_held (σ : SX) (v : Nat → Int32) : SX := (σ.1, σ.2.1, σ.2.2.1, σ.2.2.2.1, v, σ.2.2.2.2.2)
abbrev sX_ends (σ : SX) : Nat → Int32 := σ.2.2.2.2.2.1
abbrev uX_ends (σ : SX) (v : Nat → Int32) : SX := (σ.1, σ.2.1, σ.2.2.1, σ.2.2.2.1, σ.2.2.2.2.1, v, σ.2.2.2.2.2.2)
abbrev sX_shared (σ : SX) : Int32 := σ.2.2.2.2.2.2.1
abbrev uX_shared (σ : SX) (v : Int32) : SX := (σ.1, σ.2.1, σ.2.2.1, σ.2.2.2.1, σ.2.2.2.2.1, σ.2.2.2.2.2.1, v, σ.2.2.2.2.2.2.2)
abbrev sX_weights (σ : SX) : Nat → Int32 := σ.2.2.2.2.2.2.2.1
abbrev uX_weights (σ : SX) (v : Nat → Int32) : SX := (σ.1, σ.2.1, σ.2.2.1, σ.2.2.2.1, σ.2.2.2.2.1, σ.2.2.2.2.2.1, σ.2.2.2.2.2.2.1, v, σ.2.2.2.2.2.2.2.2)
abbrev sX_shifts (σ : SX) : Nat → Int32 := σ.2.2.2.2.2.2.2.2.1
abbrev uX_shifts (σ : SX) (v : Nat → Int32) : SX := (σ.1, σ.2.1, σ.2.2.1, σ.2.2.2.1, σ.2.2.2.2.1, σ.2.2.2.2.2.1, σ.2.2.2.2.2.2.1, σ.2.2.2.2.2.2.2.1, v, σ.2.2.2.2.2.2.2.2.2)
abbrev sX_counts (σ : SX) : Nat → Int32 := σ.2.2.2.2.2.2.2.2.2.1
abbrev uX_counts (σ : SX) (v : Nat → Int32) : SX := (σ.1, σ.2.1, σ.2.2.1, σ.2.2.2.1, σ.2.2.2.2.1, σ.2.2.2.2.2.1, σ.2.2.2.2.2.2.1, σ.2.2.2.2.2.2.2.1, σ.2.2.2.2.2.2.2.2.1, v, σ.2.2.2.2.2.2.2.2.2.2)
abbrev sX_bc (σ : SX) : Int32 := σ.2.2.2.2.2.2.2.2.2.2.1
abbrev uX_bc (σ : SX) (v : Int32) : SX := (σ.1, σ.2.1, σ.2.2.1, σ.2.2.2.1, σ.2.2.2.2.1, σ.2.2.2.2.2.1, σ.2.2.2.2.2.2.1, σ.2.2.2.2.2.2.2.1, σ.2.2.2.2.2.2.2.2.1, σ.2.2.2.2.2.2.2.2.2.1, v, σ.2.2.2.2.2.2.2.2.2.2.2)
abbrev sX_pc (σ : SX) : Int32 := σ.2.2.2.2.2.2.2.2.2.2.2.1
abbrev uX_pc (σ : SX) (v : Int32) : SX := (σ.1, σ.2.1, σ.2.2.1, σ.2.2.2.1, σ.2.2.2.2.1, σ.2.2.2.2.2.1, σ.2.2.2.2.2.2.1, σ.2.2.2.2.2.2.2.1, σ.2.2.2.2.2.2.2.2.1, σ.2.2.2.2.2.2.2.2.2.1, σ.2.2.2.2.2.2.2.2.2.2.1, v, σ.2.2.2.2.2.2.2.2.2.2.2.2)
abbrev sX_ls (σ : SX) : Nat → Int32 := σ.2.2.2.2.2.2.2.2.2.2.2.2.1
abbrev uX_ls (σ : SX) (v : Nat → Int32) : SX := (σ.1, σ.2.1, σ.2.2.1, σ.2.2.2.1, σ.2.2.2.2.1, σ.2.2.2.2.2.1, σ.2.2.2.2.2.2.1, σ.2.2.2.2.2.2.2.1, σ.2.2.2.2.2.2.2.2.1, σ.2.2.2.2.2.2.2.2.2.1, σ.2.2.2.2.2.2.2.2.2.2.1, σ.2.2.2.2.2.2.2.2.2.2.2.1, v, σ.2.2.2.2.2.2.2.2.2.2.2.2.2)
abbrev sX_gs (σ : SX) : Nat → Int32 := σ.2.2.2.2.2.2.2.2.2.2.2.2.2.1
abbrev uX_gs (σ : SX) (v : Nat → Int32) : SX := (σ.1, σ.2.1, σ.2.2.1, σ.2.2.2.1, σ.2.2.2.2.1, σ.2.2.2.2.2.1, σ.2.2.2.2.2.2.1, σ.2.2.2.2.2.2.2.1, σ.2.2.2.2.2.2.2.2.1, σ.2.2.2.2.2.2.2.2.2.1, σ.2.2.2.2.2.2.2.2.2.2.1, σ.2.2.2.2.2.2.2.2.2.2.2.1, σ.2.2.2.2.2.2.2.2.2.2.2.2.1, v, σ.2.2.2.2.2.2.2.2.2.2.2.2.2.2)
abbrev sX_rises (σ : SX) : Nat → Int64 := σ.2.2.2.2.2.2.2.2.2.2.2.2.2.2.1
abbrev uX_rises (σ : SX) (v : Nat → Int64) : SX := (σ.1, σ.2.1, σ.2.2.1, σ.2.2.2.1, σ.2.2.2.2.1, σ.2.2.2.2.2.1, σ.2.2.2.2.2.2.1, σ.2.2.2.2.2.2.2.1, σ.2.2.2.2.2.2.2.2.1, σ.2.2.2.2.2.2.2.2.2.1, σ.2.2.2.2.2.2.2.2.2.2.1, σ.2.2.2.2.2.2.2.2.2.2.2.1, σ.2.2.2.2.2.2.2.2.2.2.2.2.1, σ.2.2.2.2.2.2.2.2.2.2.2.2.2.1, v, σ.2.2.2.2.2.2.2.2.2.2.2.2.2.2.2)
abbrev sX_costs (σ : SX) : Nat → Int32 := σ.2.2.2.2.2.2.2.2.2.2.2.2.2.2.2.1
abbrev uX_costs (σ : SX) (v : Nat → Int32) : SX := (σ.1, σ.2.1, σ.2.2.1, σ.2.2.2.1, σ.2.2.2.2.1, σ.2.2.2.2.2.1, σ.2.2.2.2.2.2.1, σ.2.2.2.2.2.2.2.1, σ.2.2.2.2.2.2.2.2.1, σ.2.2.2.2.2.2.2.2.2.1, σ.2.2.2.2.2.2.2.2.2.2.1, σ.2.2.2.2.2.2.2.2.2.2.2.1, σ.2.2.2.2.2.2.2.2.2.2.2.2.1, σ.2.2.2.2.2.2.2.2.2.2.2.2.2.1, σ.2.2.2.2.2.2.2.2.2.2.2.2.2.2.1, v, σ.2.2.2.2.2.2.2.2.2.2.2.2.2.2.2.2)
abbrev sX_order (σ : SX) : Nat → Int32 := σ.2.2.2.2.2.2.2.2.2.2.2.2.2.2.2.2.1
abbrev uX_order (σ : SX) (v : Nat → Int32) : SX := (σ.1, σ.2.1, σ.2.2.1, σ.2.2.2.1, σ.2.2.2.2.1, σ.2.2.2.2.2.1, σ.2.2.2.2.2.2.1, σ.2.2.2.2.2.2.2.1, σ.2.2.2.2.2.2.2.2.1, σ.2.2.2.2.2.2.2.2.2.1, σ.2.2.2.2.2.2.2.2.2.2.1, σ.2.2.2.2.2.2.2.2.2.2.2.1, σ.2.2.2.2.2.2.2.2.2.2.2.2.1, σ.2.2.2.2.2.2.2.2.2.2.2.2.2.1, σ.2.2.2.2.2.2.2.2.2.2.2.2.2.2.1, σ.2.2.2.2.2.2.2.2.2.2.2.2.2.2.2.1, v, σ.2.2.2.2.2.2.2.2.2.2.2.2.2.2.2.2.2)
abbrev sX_ol (σ : SX) : Int32 := σ.2.2.2.2.2.2.2.2.2.2.2.2.2.2.2.2.2
abbrev uX_ol (σ : SX) (v : Int32) : SX := (σ.1, σ.2.1, σ.2.2.1, σ.2.2.2.1, σ.2.2.2.2.1, σ.2.2.2.2.2.1, σ.2.2.2.2.2.2.1, σ.2.2.2.2.2.2.2.1, σ.2.2.2.2.2.2.2.2.1, σ.2.2.2.2.2.2.2.2.2.1, σ.2.2.2.2.2.2.2.2.2.2.1, σ.2.2.2.2.2.2.2.2.2.2.2.1, σ.2.2.2.2.2.2.2.2.2.2.2.2.1, σ.2.2.2.2.2.2.2.2.2.2.2.2.2.1, σ.2.2.2.2.2.2.2.2.2.2.2.2.2.2.1, σ.2.2.2.2.2.2.2.2.2.2.2.2.2.2.2.1, σ.2.2.2.2.2.2.2.2.2.2.2.2.2.2.2.2.1, v)
/-- the cells of a RatePasses: the object, then its arrays -/
def wX (cI cL : ClassId) (ad : Nat → Nat) (σ : SX) : va_W := [(ad 0, .inr (0, [.int (sX_layers σ), .ref (ad 1), .ref (ad 2), .ref (ad 3), .ref (ad 4), .int (sX_shared σ), .ref (ad 5), .ref (ad 6), .ref (ad 7), .int (sX_bc σ), .int (sX_pc σ), .ref (ad 8), .ref (ad 9), .ref (ad 10), .ref (ad 11), .ref (ad 12), .int (sX_ol σ)])), (ad 1, .inl (cI, sX_nl σ, .inl (sX_sizes σ))), (ad 2, .inl (cI, sX_nl σ, .inl (sX_heads σ))), (ad 3, .inl (cI, sX_nl σ, .inl (sX_held σ))), (ad 4, .inl (cI, sX_nl σ, .inl (sX_ends σ))), (ad 5, .inl (cI, 40, .inl (sX_weights σ))), (ad 6, .inl (cI, 40, .inl (sX_shifts σ))), (ad 7, .inl (cI, 40, .inl (sX_counts σ))), (ad 8, .inl (cI, 1000, .inl (sX_ls σ))), (ad 9, .inl (cI, 1000, .inl (sX_gs σ))), (ad 10, .inl (cL, 1000, .inr (.inl (sX_rises σ)))), (ad 11, .inl (cI, 1000, .inl (sX_costs σ))), (ad 12, .inl (cI, 960, .inl (sX_order σ)))]
abbrev SM : Type := Int32 × Int32 × Int32 × (Nat → Int32) × (Nat → Int32) × (Nat → Int32) × (Nat → Int32) × (Nat → Int64) × (Nat → Int32) × (Nat → Int32) × Int32 × (Nat → Int32) × (Nat → Int64) × Int32 × (Nat → Int32) × Int32 × (Nat → Int32)
abbrev sM_thr (σ : SM) : Int32 := σ.1
abbrev uM_thr (σ : SM) (v : Int32) : SM := (v, σ.2)
abbrev sM_layers (σ : SM) : Int32 := σ.2.1
abbrev uM_layers (σ : SM) (v : Int32) : SM := (σ.1, v, σ.2.2)
abbrev sM_blocks (σ : SM) : Int32 := σ.2.2.1
abbrev uM_blocks (σ : SM) (v : Int32) : SM := (σ.1, σ.2.1, v, σ.2.2.2)
abbrev sM_many (σ : SM) : Nat → Int32 := σ.2.2.2.1
abbrev uM_many (σ : SM) (v : Nat → Int32) : SM := (σ.1, σ.2.1, σ.2.2.1, v, σ.2.2.2.2)
abbrev sM_weights (σ : SM) : Nat → Int32 := σ.2.2.2.2.1
abbrev uM_weights (σ : SM) (v : Nat → Int32) : SM := (σ.1, σ.2.1, σ.2.2.1, σ.2.2.2.1, v, σ.2.2.2.2.2)
abbrev sM_shifts (σ : SM) : Nat → Int32 := σ.2.2.2.2.2.1
abbrev uM_shifts (σ : SM) (v : Nat → Int32) : SM := (σ.1, σ.2.1, σ.2.2.1, σ.2.2.2.1, σ.2.2.2.2.1, v, σ.2.2.2.2.2.2)
abbrev sM_lens (σ : SM) : Nat → Int32 := σ.2.2.2.2.2.2.1
abbrev uM_lens (σ : SM) (v : Nat → Int32) : SM := (σ.1, σ.2.1, σ.2.2.1, σ.2.2.2.1, σ.2.2.2.2.1, σ.2.2.2.2.2.1, v, σ.2.2.2.2.2.2.2)
abbrev sM_gains (σ : SM) : Nat → Int64 := σ.2.2.2.2.2.2.2.1
abbrev uM_gains (σ : SM) (v : Nat → Int64) : SM := (σ.1, σ.2.1, σ.2.2.1, σ.2.2.2.1, σ.2.2.2.2.1, σ.2.2.2.2.2.1, σ.2.2.2.2.2.2.1, v, σ.2.2.2.2.2.2.2.2)
abbrev sM_sizes (σ : SM) : Nat → Int32 := σ.2.2.2.2.2.2.2.2.1
abbrev uM_sizes (σ : SM) (v : Nat → Int32) : SM := (σ.1, σ.2.1, σ.2.2.1, σ.2.2.2.1, σ.2.2.2.2.1, σ.2.2.2.2.2.1, σ.2.2.2.2.2.2.1, σ.2.2.2.2.2.2.2.1, v, σ.2.2.2.2.2.2.2.2.2)
abbrev sM_heads (σ : SM) : Nat → Int32 := σ.2.2.2.2.2.2.2.2.2.1
abbrev uM_heads (σ : SM) (v : Nat → Int32) : SM := (σ.1, σ.2.1, σ.2.2.1, σ.2.2.2.1, σ.2.2.2.2.1, σ.2.2.2.2.2.1, σ.2.2.2.2.2.2.1, σ.2.2.2.2.2.2.2.1, σ.2.2.2.2.2.2.2.2.1, v, σ.2.2.2.2.2.2.2.2.2.2)
abbrev sM_laid (σ : SM) : Int32 := σ.2.2.2.2.2.2.2.2.2.2.1
abbrev uM_laid (σ : SM) (v : Int32) : SM := (σ.1, σ.2.1, σ.2.2.1, σ.2.2.2.1, σ.2.2.2.2.1, σ.2.2.2.2.2.1, σ.2.2.2.2.2.2.1, σ.2.2.2.2.2.2.2.1, σ.2.2.2.2.2.2.2.2.1, σ.2.2.2.2.2.2.2.2.2.1, v, σ.2.2.2.2.2.2.2.2.2.2.2)
abbrev sM_costs (σ : SM) : Nat → Int32 := σ.2.2.2.2.2.2.2.2.2.2.2.1
abbrev uM_costs (σ : SM) (v : Nat → Int32) : SM := (σ.1, σ.2.1, σ.2.2.1, σ.2.2.2.1, σ.2.2.2.2.1, σ.2.2.2.2.2.1, σ.2.2.2.2.2.2.1, σ.2.2.2.2.2.2.2.1, σ.2.2.2.2.2.2.2.2.1, σ.2.2.2.2.2.2.2.2.2.1, σ.2.2.2.2.2.2.2.2.2.2.1, v, σ.2.2.2.2.2.2.2.2.2.2.2.2)
abbrev sM_rises (σ : SM) : Nat → Int64 := σ.2.2.2.2.2.2.2.2.2.2.2.2.1
abbrev uM_rises (σ : SM) (v : Nat → Int64) : SM := (σ.1, σ.2.1, σ.2.2.1, σ.2.2.2.1, σ.2.2.2.2.1, σ.2.2.2.2.2.1, σ.2.2.2.2.2.2.1, σ.2.2.2.2.2.2.2.1, σ.2.2.2.2.2.2.2.2.1, σ.2.2.2.2.2.2.2.2.2.1, σ.2.2.2.2.2.2.2.2.2.2.1, σ.2.2.2.2.2.2.2.2.2.2.2.1, v, σ.2.2.2.2.2.2.2.2.2.2.2.2.2)
abbrev sM_len (σ : SM) : Int32 := σ.2.2.2.2.2.2.2.2.2.2.2.2.2.1
abbrev uM_len (σ : SM) (v : Int32) : SM := (σ.1, σ.2.1, σ.2.2.1, σ.2.2.2.1, σ.2.2.2.2.1, σ.2.2.2.2.2.1, σ.2.2.2.2.2.2.1, σ.2.2.2.2.2.2.2.1, σ.2.2.2.2.2.2.2.2.1, σ.2.2.2.2.2.2.2.2.2.1, σ.2.2.2.2.2.2.2.2.2.2.1, σ.2.2.2.2.2.2.2.2.2.2.2.1, σ.2.2.2.2.2.2.2.2.2.2.2.2.1, v, σ.2.2.2.2.2.2.2.2.2.2.2.2.2.2)
abbrev sM_row (σ : SM) : Nat → Int32 := σ.2.2.2.2.2.2.2.2.2.2.2.2.2.2.1
abbrev uM_row (σ : SM) (v : Nat → Int32) : SM := (σ.1, σ.2.1, σ.2.2.1, σ.2.2.2.1, σ.2.2.2.2.1, σ.2.2.2.2.2.1, σ.2.2.2.2.2.2.1, σ.2.2.2.2.2.2.2.1, σ.2.2.2.2.2.2.2.2.1, σ.2.2.2.2.2.2.2.2.2.1, σ.2.2.2.2.2.2.2.2.2.2.1, σ.2.2.2.2.2.2.2.2.2.2.2.1, σ.2.2.2.2.2.2.2.2.2.2.2.2.1, σ.2.2.2.2.2.2.2.2.2.2.2.2.2.1, v, σ.2.2.2.2.2.2.2.2.2.2.2.2.2.2.2)
abbrev sM_shared (σ : SM) : Int32 := σ.2.2.2.2.2.2.2.2.2.2.2.2.2.2.2.1
abbrev uM_shared (σ : SM) (v : Int32) : SM := (σ.1, σ.2.1, σ.2.2.1, σ.2.2.2.1, σ.2.2.2.2.1, σ.2.2.2.2.2.1, σ.2.2.2.2.2.2.1, σ.2.2.2.2.2.2.2.1, σ.2.2.2.2.2.2.2.2.1, σ.2.2.2.2.2.2.2.2.2.1, σ.2.2.2.2.2.2.2.2.2.2.1, σ.2.2.2.2.2.2.2.2.2.2.2.1, σ.2.2.2.2.2.2.2.2.2.2.2.2.1, σ.2.2.2.2.2.2.2.2.2.2.2.2.2.1, σ.2.2.2.2.2.2.2.2.2.2.2.2.2.2.1, v, σ.2.2.2.2.2.2.2.2.2.2.2.2.2.2.2.2)
abbrev sM_given (σ : SM) : Nat → Int32 := σ.2.2.2.2.2.2.2.2.2.2.2.2.2.2.2.2
abbrev uM_given (σ : SM) (v : Nat → Int32) : SM := (σ.1, σ.2.1, σ.2.2.1, σ.2.2.2.1, σ.2.2.2.2.1, σ.2.2.2.2.2.1, σ.2.2.2.2.2.2.1, σ.2.2.2.2.2.2.2.1, σ.2.2.2.2.2.2.2.2.1, σ.2.2.2.2.2.2.2.2.2.1, σ.2.2.2.2.2.2.2.2.2.2.1, σ.2.2.2.2.2.2.2.2.2.2.2.1, σ.2.2.2.2.2.2.2.2.2.2.2.2.1, σ.2.2.2.2.2.2.2.2.2.2.2.2.2.1, σ.2.2.2.2.2.2.2.2.2.2.2.2.2.2.1, σ.2.2.2.2.2.2.2.2.2.2.2.2.2.2.2.1, v)
/-- the cells of a RatePassesModel: the object, then its arrays -/
def wM (cI cL : ClassId) (ad : Nat → Nat) (σ : SM) : va_W := [(ad 0, .inr (1, [.int (sM_thr σ), .int (sM_layers σ), .int (sM_blocks σ), .ref (ad 1), .ref (ad 2), .ref (ad 3), .ref (ad 4), .ref (ad 5), .ref (ad 6), .ref (ad 7), .int (sM_laid σ), .ref (ad 8), .ref (ad 9), .int (sM_len σ), .ref (ad 10), .int (sM_shared σ), .ref (ad 11)])), (ad 1, .inl (cI, 40, .inl (sM_many σ))), (ad 2, .inl (cI, 40, .inl (sM_weights σ))), (ad 3, .inl (cI, 40, .inl (sM_shifts σ))), (ad 4, .inl (cI, 960, .inl (sM_lens σ))), (ad 5, .inl (cL, 960, .inr (.inl (sM_gains σ)))), (ad 6, .inl (cI, 16, .inl (sM_sizes σ))), (ad 7, .inl (cI, 16, .inl (sM_heads σ))), (ad 8, .inl (cI, 960, .inl (sM_costs σ))), (ad 9, .inl (cL, 960, .inr (.inl (sM_rises σ)))), (ad 10, .inl (cI, 960, .inl (sM_row σ))), (ad 11, .inl (cI, 17, .inl (sM_given σ)))]
/-- a RatePasses and the law's long[1] -/
def wO (cI cL : ClassId) (ad : Nat → Nat) (o : Nat) (u : SX × (Nat → Int64)) : va_W := wX cI cL ad u.1 ++ [(o, .inl (cL, 1, .inr (.inl u.2)))]
end
section
def rm_X_block : Room := { frames := 6, cells := 1, slots := 6, locals := 82 }
def wp_X_block (σ : SX) (Q : Int32 → SX → Prop) (QX : String → SX → Prop) : Prop := ((sX_bc σ) < 40 → ∀ x2 : Int32, x2 = sX_bc σ → vp_in x2 40 ∧ (∀ σ4 : SX, σ4 = uX_weights σ (upd (sX_weights σ) (Int32.toNatClampNeg x2) 1) → vp_in x2 40 ∧ (∀ σ6 : SX, σ6 = uX_shifts σ4 (upd (sX_shifts σ4) (Int32.toNatClampNeg x2) 0) → vp_in x2 40 ∧ (∀ σ8 : SX, σ8 = uX_counts σ6 (upd (sX_counts σ6) (Int32.toNatClampNeg x2) 0) → ∀ σ9 : SX, σ9 = uX_bc σ8 ((sX_bc σ8) + 1) → ∀ σ10 : SX, σ10 = uX_shared σ9 0 → Q x2 σ10)))) ∧ (¬ (sX_bc σ) < 40 → QX "java/lang/UnsupportedOperationException" σ)
def rm_X_needBlock : Room := { frames := 6, cells := 1, slots := 6, locals := 82 }
def wp_X_needBlock (σ : SX) (p1 : Int32) (Q : SX → Prop) (QX : String → SX → Prop) : Prop := (p1 < 0 → QX "java/lang/IndexOutOfBoundsException" σ) ∧ (¬ p1 < 0 → (p1 < (sX_bc σ) → Q σ) ∧ (¬ p1 < (sX_bc σ) → QX "java/lang/IndexOutOfBoundsException" σ))
def rm_X_needWithin : Room := { frames := 6, cells := 1, slots := 6, locals := 82 }
def wp_X_needWithin (σ : SX) (p0 : Int64) (p2 : Int64) (p4 : Int64) (Q : SX → Prop) (QX : String → SX → Prop) : Prop := ((lg_cmp p0 p2) < 0 → QX "java/lang/IllegalArgumentException" σ) ∧ (¬ (lg_cmp p0 p2) < 0 → ((lg_cmp p0 p4) ≤ 0 → Q σ) ∧ (¬ (lg_cmp p0 p4) ≤ 0 → QX "java/lang/IllegalArgumentException" σ))
def rm_X_startOf : Room := { frames := 0, cells := 0, slots := 0, locals := 0 }
def wp_X_startOf (σ : SX) (p0 : Int32) (Q : Int32 → SX → Prop) : Prop := Q (p0 * 25) σ
def rm_X_blockOf : Room := { frames := 0, cells := 0, slots := 0, locals := 0 }
def wp_X_blockOf (σ : SX) (p0 : Int32) (Q : Int32 → SX → Prop) : Prop := Q (p0 / 25) σ
def rm_X_takeFromRow : Room := { frames := 1, cells := 0, slots := 0, locals := 20 }
def wl_X_takeFromRow_4 (y1 : Int32) (Q : SX → Prop) : Nat → Int32 → Int32 → SX → Prop
  | 0, _, _, _ => False
  | n + 1, y2, y3, σ => ((sX_ol σ) ≤ y3 → ∀ σ2 : SX, σ2 = uX_ol σ y2 → Q σ2) ∧ (¬ (sX_ol σ) ≤ y3 → vp_in y3 960 ∧ (wp_X_blockOf σ (sX_order σ (Int32.toNatClampNeg y3)) (fun (r5 : Int32) (σ4 : SX) => (r5 = y1 → wl_X_takeFromRow_4 y1 Q n y2 (y3 + 1) σ4) ∧ (¬ r5 = y1 → vp_in y3 960 ∧ (vp_in y2 960 ∧ (∀ σ9 : SX, σ9 = uX_order σ4 (upd (sX_order σ4) (Int32.toNatClampNeg y2) (sX_order σ4 (Int32.toNatClampNeg y3))) → wl_X_takeFromRow_4 y1 Q n (y2 + 1) (y3 + 1) σ9))))))
def wp_X_takeFromRow (σ : SX) (p1 : Int32) (Q : SX → Prop) : Prop := ∃ n10 : Nat, wl_X_takeFromRow_4 p1 Q n10 0 0 σ
def rm_X_steepestFrom : Room := { frames := 0, cells := 0, slots := 0, locals := 0 }
def wl_X_steepestFrom_13 (y1 : Int32) (y2 : Int32) (Q : Int32 → SX → Prop) : Nat → Int32 → Int64 → Int64 → Int32 → SX → Prop
  | 0, _, _, _, _, _ => False
  | n + 1, y3, y4, y6, y8, σ => (y2 < y8 → Q y3 σ) ∧ (¬ y2 < y8 → vp_in y8 1000 ∧ (vp_in y1 1000 ∧ (∀ x5 : Int64, x5 = Int32.toInt64 ((sX_gs σ (Int32.toNatClampNeg y8)) - (sX_gs σ (Int32.toNatClampNeg y1))) → vp_in y8 1000 ∧ (vp_in y1 1000 ∧ (∀ x8 : Int64, x8 = Int32.toInt64 ((sX_ls σ (Int32.toNatClampNeg y8)) - (sX_ls σ (Int32.toNatClampNeg y1))) → ((lg_cmp x5 0) ≤ 0 → wl_X_steepestFrom_13 y1 y2 Q n y3 y4 y6 (y8 + 1) σ) ∧ (¬ (lg_cmp x5 0) ≤ 0 → ((lg_cmp (x5 * y6) (y4 * x8)) < 0 → wl_X_steepestFrom_13 y1 y2 Q n y3 y4 y6 (y8 + 1) σ) ∧ (¬ (lg_cmp (x5 * y6) (y4 * x8)) < 0 → wl_X_steepestFrom_13 y1 y2 Q n y8 x5 x8 (y8 + 1) σ)))))))
def wp_X_steepestFrom (σ : SX) (p1 : Int32) (p2 : Int32) (Q : Int32 → SX → Prop) : Prop := ∀ x1 : Int32, x1 = p1 + 1 → ∃ n11 : Nat, wl_X_steepestFrom_13 p1 p2 Q n11 p1 0 1 x1 σ
def rm_X_makeHull : Room := { frames := 1, cells := 0, slots := 0, locals := 32 }
def wl_X_makeHull_48 (y3 : Int32) (y4 : Int64) (Q : Int32 → SX → Prop) : Nat → Int32 → Int32 → Int32 → Int32 → SX → Prop
  | 0, _, _, _, _, _ => False
  | n + 1, y2, y6, y7, y8, σ => (y3 < y8 → Q y7 σ) ∧ (¬ y3 < y8 → (¬ y8 = y6 → vp_in y8 1000 ∧ (∀ σ14 : SX, σ14 = uX_costs σ (upd (sX_costs σ) (Int32.toNatClampNeg y8) 0) → vp_in y8 1000 ∧ (∀ σ16 : SX, σ16 = uX_rises σ14 (vp_updL (sX_rises σ14) (Int32.toNatClampNeg y8) 0) → wl_X_makeHull_48 y3 y4 Q n y2 y6 y7 (y8 + 1) σ16))) ∧ (y8 = y6 → vp_in y8 1000 ∧ (vp_in y2 1000 ∧ (vp_in y8 1000 ∧ (∀ σ20 : SX, σ20 = uX_costs σ (upd (sX_costs σ) (Int32.toNatClampNeg y8) ((sX_ls σ (Int32.toNatClampNeg y8)) - (sX_ls σ (Int32.toNatClampNeg y2)))) → vp_in y8 1000 ∧ (vp_in y2 1000 ∧ (vp_in y8 1000 ∧ (∀ σ24 : SX, σ24 = uX_rises σ20 (vp_updL (sX_rises σ20) (Int32.toNatClampNeg y8) ((Int32.toInt64 ((sX_gs σ20 (Int32.toNatClampNeg y8)) - (sX_gs σ20 (Int32.toNatClampNeg y2)))) * y4)) → wp_X_steepestFrom σ24 y8 y3 (fun (r26 : Int32) (σ25 : SX) => wl_X_makeHull_48 y3 y4 Q n y8 r26 (y7 + 1) (y8 + 1) σ25)))))))))
def wp_X_makeHull (σ : SX) (p1 : Int32) (Q : Int32 → SX → Prop) : Prop := wp_X_startOf σ p1 (fun (r2 : Int32) (σ1 : SX) => vp_in p1 40 ∧ (∀ x4 : Int32, x4 = r2 + (sX_counts σ1 (Int32.toNatClampNeg p1)) → vp_in p1 40 ∧ (vp_in p1 40 ∧ (∀ x7 : Int64, x7 = (Int32.toInt64 (sX_weights σ1 (Int32.toNatClampNeg p1))) <<< (Int32.toInt64 (2 * (sX_shifts σ1 (Int32.toNatClampNeg p1))) &&& 63) → wp_X_steepestFrom σ1 r2 x4 (fun (r9 : Int32) (σ8 : SX) => ∀ x10 : Int32, x10 = r2 + 1 → ∃ n27 : Nat, wl_X_makeHull_48 x4 x7 Q n27 r2 r9 0 x10 σ8)))))
def rm_JL_compare : Room := { frames := 0, cells := 0, slots := 0, locals := 0 }
def wp_JL_compare (σ : SX) (p0 : Int64) (p2 : Int64) (Q : Int32 → SX → Prop) : Prop := (0 ≤ (lg_cmp p0 p2) → (¬ (lg_cmp p0 p2) = 0 → Q 1 σ) ∧ ((lg_cmp p0 p2) = 0 → Q 0 σ)) ∧ (¬ 0 ≤ (lg_cmp p0 p2) → Q (-1) σ)
def rm_X_compareSlopes : Room := { frames := 1, cells := 0, slots := 0, locals := 23 }
def wp_X_compareSlopes (σ : SX) (p1 : Int32) (p2 : Int32) (Q : Int32 → SX → Prop) : Prop := vp_in p1 1000 ∧ (vp_in p2 1000 ∧ (vp_in p2 1000 ∧ (vp_in p1 1000 ∧ (wp_JL_compare σ ((sX_rises σ (Int32.toNatClampNeg p1)) * (Int32.toInt64 (sX_costs σ (Int32.toNatClampNeg p2)))) ((sX_rises σ (Int32.toNatClampNeg p2)) * (Int32.toInt64 (sX_costs σ (Int32.toNatClampNeg p1)))) (fun (r6 : Int32) (σ5 : SX) => Q r6 σ5)))))
def rm_X_comesBefore : Room := { frames := 2, cells := 0, slots := 0, locals := 45 }
def wp_X_comesBefore (σ : SX) (p1 : Int32) (p2 : Int32) (Q : Int32 → SX → Prop) : Prop := wp_X_compareSlopes σ p1 p2 (fun (r2 : Int32) (σ1 : SX) => (0 < r2 → Q 1 σ1) ∧ (¬ 0 < r2 → (¬ r2 = 0 → Q 0 σ1) ∧ (r2 = 0 → (p2 ≤ p1 → Q 0 σ1) ∧ (¬ p2 ≤ p1 → Q 1 σ1))))
def rm_X_mergeIntoRow : Room := { frames := 3, cells := 0, slots := 0, locals := 68 }
def wl_X_mergeIntoRow_49 (y2 : Int32) (y3 : Int32) (y6 : Int32) (Q : SX → Prop) (k33 : Int32 → Int32 → Int32 → SX → Prop) : Nat → Int32 → Int32 → SX → Prop
  | 0, _, _, _ => False
  | n + 1, y4, y5, σ => (y4 < 0 → vp_in y5 960 ∧ (∀ σ13 : SX, σ13 = uX_order σ (upd (sX_order σ) (Int32.toNatClampNeg y5) y6) → k33 y4 (y5 + (-1)) (y6 + (-1)) σ13)) ∧ (¬ y4 < 0 → vp_in y4 960 ∧ (wp_X_comesBefore σ y6 (sX_order σ (Int32.toNatClampNeg y4)) (fun (r16 : Int32) (σ15 : SX) => (r16 = 0 → vp_in y5 960 ∧ (∀ σ19 : SX, σ19 = uX_order σ15 (upd (sX_order σ15) (Int32.toNatClampNeg y5) y6) → k33 y4 (y5 + (-1)) (y6 + (-1)) σ19)) ∧ (¬ r16 = 0 → vp_in y4 960 ∧ (vp_in y5 960 ∧ (∀ σ22 : SX, σ22 = uX_order σ15 (upd (sX_order σ15) (Int32.toNatClampNeg y5) (sX_order σ15 (Int32.toNatClampNeg y4))) → wl_X_mergeIntoRow_49 y2 y3 y6 Q k33 n (y4 + (-1)) (y5 + (-1)) σ22))))))
def wl_X_mergeIntoRow_33 (y2 : Int32) (y3 : Int32) (Q : SX → Prop) : Nat → Int32 → Int32 → Int32 → SX → Prop
  | 0, _, _, _, _ => False
  | n + 1, y4, y5, y6, σ => (y6 ≤ y3 → ∀ σ8 : SX, σ8 = uX_ol σ ((sX_ol σ) + y2) → Q σ8) ∧ (¬ y6 ≤ y3 → vp_in y6 1000 ∧ (((sX_costs σ (Int32.toNatClampNeg y6)) ≤ 0 → wl_X_mergeIntoRow_33 y2 y3 Q n y4 y5 (y6 + (-1)) σ) ∧ (¬ (sX_costs σ (Int32.toNatClampNeg y6)) ≤ 0 → ∃ n23 : Nat, wl_X_mergeIntoRow_49 y2 y3 y6 Q (wl_X_mergeIntoRow_33 y2 y3 Q n) n23 y4 y5 σ)))
def wp_X_mergeIntoRow (σ : SX) (p1 : Int32) (p2 : Int32) (Q : SX → Prop) : Prop := wp_X_startOf σ p1 (fun (r2 : Int32) (σ1 : SX) => ∀ x3 : Int32, x3 = (sX_ol σ1) - 1 → ∀ x4 : Int32, x4 = ((sX_ol σ1) + p2) - 1 → vp_in p1 40 ∧ (∀ x6 : Int32, x6 = r2 + (sX_counts σ1 (Int32.toNatClampNeg p1)) → ∃ n24 : Nat, wl_X_mergeIntoRow_33 p2 r2 Q n24 x3 x4 x6 σ1))
def rm_X_renewBlock : Room := { frames := 4, cells := 0, slots := 0, locals := 94 }
def wp_X_renewBlock (σ : SX) (p1 : Int32) (Q : SX → Prop) : Prop := wp_X_takeFromRow σ p1 (fun (σ1 : SX) => wp_X_makeHull σ1 p1 (fun (r3 : Int32) (σ2 : SX) => wp_X_mergeIntoRow σ2 p1 r3 (fun (σ4 : SX) => ∀ σ5 : SX, σ5 = uX_shared σ4 0 → Q σ5)))
def rm_X_pass : Room := { frames := 7, cells := 4, slots := 24, locals := 116 }
def wp_X_pass (σ : SX) (p1 : Int32) (p2 : Int32) (p3 : Int32) (Q : Int32 → SX → Prop) (QX : String → SX → Prop) : Prop := wp_X_needBlock σ p1 (fun (σ1 : SX) => wp_X_needWithin σ1 (Int32.toInt64 p2) 1 10000 (fun (σ2 : SX) => wp_X_needWithin σ2 (Int32.toInt64 p3) (-1000000) 1000000 (fun (σ3 : SX) => vp_in p1 40 ∧ (((sX_counts σ3 (Int32.toNatClampNeg p1)) < 24 → vp_in p1 40 ∧ (∀ x7 : Int32, x7 = sX_counts σ3 (Int32.toNatClampNeg p1) → wp_X_startOf σ3 p1 (fun (r9 : Int32) (σ8 : SX) => ∀ x10 : Int32, x10 = r9 + x7 → vp_in x10 1000 ∧ (vp_in (x10 + 1) 1000 ∧ (∀ σ13 : SX, σ13 = uX_ls σ8 (upd (sX_ls σ8) (Int32.toNatClampNeg (x10 + 1)) ((sX_ls σ8 (Int32.toNatClampNeg x10)) + p2)) → vp_in x10 1000 ∧ (vp_in (x10 + 1) 1000 ∧ (∀ σ16 : SX, σ16 = uX_gs σ13 (upd (sX_gs σ13) (Int32.toNatClampNeg (x10 + 1)) ((sX_gs σ13 (Int32.toNatClampNeg x10)) + p3)) → vp_in p1 40 ∧ (vp_in p1 40 ∧ (∀ σ19 : SX, σ19 = uX_counts σ16 (upd (sX_counts σ16) (Int32.toNatClampNeg p1) ((sX_counts σ16 (Int32.toNatClampNeg p1)) + 1)) → ∀ σ20 : SX, σ20 = uX_pc σ19 ((sX_pc σ19) + 1) → wp_X_renewBlock σ20 p1 (fun (σ21 : SX) => Q x7 σ21)))))))))) ∧ (¬ (sX_counts σ3 (Int32.toNatClampNeg p1)) < 24 → QX "java/lang/UnsupportedOperationException" σ3))) QX) QX) QX
def rm_X_weight : Room := { frames := 7, cells := 2, slots := 12, locals := 116 }
def wp_X_weight (σ : SX) (p1 : Int32) (p2 : Int32) (Q : Int32 → SX → Prop) (QX : String → SX → Prop) : Prop := wp_X_needBlock σ p1 (fun (σ1 : SX) => wp_X_needWithin σ1 (Int32.toInt64 p2) 1 100 (fun (σ2 : SX) => vp_in p1 40 ∧ (∀ x4 : Int32, x4 = sX_weights σ2 (Int32.toNatClampNeg p1) → vp_in p1 40 ∧ (∀ σ6 : SX, σ6 = uX_weights σ2 (upd (sX_weights σ2) (Int32.toNatClampNeg p1) p2) → wp_X_renewBlock σ6 p1 (fun (σ7 : SX) => Q x4 σ7)))) QX) QX
def rm_X_shift : Room := { frames := 7, cells := 2, slots := 12, locals := 116 }
def wp_X_shift (σ : SX) (p1 : Int32) (p2 : Int32) (Q : Int32 → SX → Prop) (QX : String → SX → Prop) : Prop := wp_X_needBlock σ p1 (fun (σ1 : SX) => wp_X_needWithin σ1 (Int32.toInt64 p2) 0 3 (fun (σ2 : SX) => vp_in p1 40 ∧ (∀ x4 : Int32, x4 = sX_shifts σ2 (Int32.toNatClampNeg p1) → vp_in p1 40 ∧ (∀ σ6 : SX, σ6 = uX_shifts σ2 (upd (sX_shifts σ2) (Int32.toNatClampNeg p1) p2) → wp_X_renewBlock σ6 p1 (fun (σ7 : SX) => Q x4 σ7)))) QX) QX
def rm_X_needLayer : Room := { frames := 6, cells := 1, slots := 6, locals := 82 }
def wp_X_needLayer (σ : SX) (p1 : Int32) (Q : SX → Prop) (QX : String → SX → Prop) : Prop := (p1 < 0 → QX "java/lang/IndexOutOfBoundsException" σ) ∧ (¬ p1 < 0 → (p1 < (sX_layers σ) → Q σ) ∧ (¬ p1 < (sX_layers σ) → QX "java/lang/IndexOutOfBoundsException" σ))
def rm_X_tellLayer_at1 : Room := { frames := 7, cells := 2, slots := 12, locals := 107 }
def wp_X_tellLayer_at1 (σ : SX) (p2 : Int32) (p3 : Int32) (Q : Int32 → SX → Prop) (QX : String → SX → Prop) : Prop := wp_X_needLayer σ p2 (fun (σ1 : SX) => wp_X_needWithin σ1 (Int32.toInt64 p3) 0 10000000 (fun (σ2 : SX) => vp_in p2 (sX_nl σ2) ∧ (∀ x4 : Int32, x4 = sX_sizes σ2 (Int32.toNatClampNeg p2) → vp_in p2 (sX_nl σ2) ∧ (∀ σ6 : SX, σ6 = uX_sizes σ2 (upd (sX_sizes σ2) (Int32.toNatClampNeg p2) p3) → ∀ σ7 : SX, σ7 = uX_shared σ6 0 → Q x4 σ7))) QX) QX
def rm_X_size : Room := { frames := 8, cells := 2, slots := 12, locals := 131 }
def wp_X_size (σ : SX) (p1 : Int32) (p2 : Int32) (Q : Int32 → SX → Prop) (QX : String → SX → Prop) : Prop := wp_X_tellLayer_at1 σ p1 p2 (fun (r2 : Int32) (σ1 : SX) => Q r2 σ1) QX
def rm_X_tellLayer_at2 : Room := { frames := 7, cells := 2, slots := 12, locals := 107 }
def wp_X_tellLayer_at2 (σ : SX) (p2 : Int32) (p3 : Int32) (Q : Int32 → SX → Prop) (QX : String → SX → Prop) : Prop := wp_X_needLayer σ p2 (fun (σ1 : SX) => wp_X_needWithin σ1 (Int32.toInt64 p3) 0 10000000 (fun (σ2 : SX) => vp_in p2 (sX_nl σ2) ∧ (∀ x4 : Int32, x4 = sX_heads σ2 (Int32.toNatClampNeg p2) → vp_in p2 (sX_nl σ2) ∧ (∀ σ6 : SX, σ6 = uX_heads σ2 (upd (sX_heads σ2) (Int32.toNatClampNeg p2) p3) → ∀ σ7 : SX, σ7 = uX_shared σ6 0 → Q x4 σ7))) QX) QX
def rm_X_head : Room := { frames := 8, cells := 2, slots := 12, locals := 131 }
def wp_X_head (σ : SX) (p1 : Int32) (p2 : Int32) (Q : Int32 → SX → Prop) (QX : String → SX → Prop) : Prop := wp_X_tellLayer_at2 σ p1 p2 (fun (r2 : Int32) (σ1 : SX) => Q r2 σ1) QX
def rm_X_fillLayer : Room := { frames := 0, cells := 0, slots := 0, locals := 0 }
def wl_X_fillLayer_10 (y1 : Int32) (Q : Int32 → SX → Prop) : Nat → Int32 → Int32 → SX → Prop
  | 0, _, _, _ => False
  | n + 1, y3, y4, σ => ((sX_ol σ) ≤ y4 → vp_in y1 (sX_nl σ) ∧ (∀ σ5 : SX, σ5 = uX_held σ (upd (sX_held σ) (Int32.toNatClampNeg y1) y3) → Q y4 σ5)) ∧ (¬ (sX_ol σ) ≤ y4 → vp_in y4 960 ∧ (vp_in (sX_order σ (Int32.toNatClampNeg y4)) 1000 ∧ (vp_in y1 (sX_nl σ) ∧ (((sX_sizes σ (Int32.toNatClampNeg y1)) < (y3 + (sX_costs σ (Int32.toNatClampNeg (sX_order σ (Int32.toNatClampNeg y4))))) → vp_in y1 (sX_nl σ) ∧ (∀ σ11 : SX, σ11 = uX_held σ (upd (sX_held σ) (Int32.toNatClampNeg y1) y3) → Q y4 σ11)) ∧ (¬ (sX_sizes σ (Int32.toNatClampNeg y1)) < (y3 + (sX_costs σ (Int32.toNatClampNeg (sX_order σ (Int32.toNatClampNeg y4))))) → vp_in y4 960 ∧ (vp_in (sX_order σ (Int32.toNatClampNeg y4)) 1000 ∧ (∀ x14 : Int32, x14 = y3 + (sX_costs σ (Int32.toNatClampNeg (sX_order σ (Int32.toNatClampNeg y4)))) → wl_X_fillLayer_10 y1 Q n x14 (y4 + 1) σ)))))))
def wp_X_fillLayer (σ : SX) (p1 : Int32) (p2 : Int32) (Q : Int32 → SX → Prop) : Prop := vp_in p1 (sX_nl σ) ∧ (∀ x2 : Int32, x2 = sX_heads σ (Int32.toNatClampNeg p1) → ∃ n15 : Nat, wl_X_fillLayer_10 p1 Q n15 x2 p2 σ)
def rm_X_run : Room := { frames := 1, cells := 0, slots := 0, locals := 24 }
def wl_X_run_6  (Q : Int32 → SX → Prop) : Nat → Int32 → Int32 → Int32 → SX → Prop
  | 0, _, _, _, _ => False
  | n + 1, y1, y2, y3, σ => ((sX_layers σ) ≤ y3 → ∀ σ2 : SX, σ2 = uX_shared σ 1 → Q y1 σ2) ∧ (¬ (sX_layers σ) ≤ y3 → vp_in y3 (sX_nl σ) ∧ (∀ σ4 : SX, σ4 = uX_held σ (upd (sX_held σ) (Int32.toNatClampNeg y3) 0) → vp_in y3 (sX_nl σ4) ∧ (vp_in y3 (sX_nl σ4) ∧ (((sX_sizes σ4 (Int32.toNatClampNeg y3)) < (sX_heads σ4 (Int32.toNatClampNeg y3)) → vp_in y3 (sX_nl σ4) ∧ (∀ σ9 : SX, σ9 = uX_ends σ4 (upd (sX_ends σ4) (Int32.toNatClampNeg y3) y2) → wl_X_run_6 Q n y1 y2 (y3 + 1) σ9)) ∧ (¬ (sX_sizes σ4 (Int32.toNatClampNeg y3)) < (sX_heads σ4 (Int32.toNatClampNeg y3)) → wp_X_fillLayer σ4 y3 y2 (fun (r11 : Int32) (σ10 : SX) => vp_in y3 (sX_nl σ10) ∧ (∀ σ13 : SX, σ13 = uX_ends σ10 (upd (sX_ends σ10) (Int32.toNatClampNeg y3) r11) → wl_X_run_6 Q n (y1 + 1) r11 (y3 + 1) σ13)))))))
def wp_X_run (σ : SX) (Q : Int32 → SX → Prop) : Prop := ∃ n14 : Nat, wl_X_run_6 Q n14 0 0 0 σ
def rm_X_pointOf : Room := { frames := 7, cells := 2, slots := 12, locals := 103 }
def wp_X_pointOf (σ : SX) (p1 : Int32) (p2 : Int32) (Q : Int32 → SX → Prop) (QX : String → SX → Prop) : Prop := wp_X_needBlock σ p1 (fun (σ1 : SX) => (p2 < 0 → QX "java/lang/IndexOutOfBoundsException" σ1) ∧ (¬ p2 < 0 → vp_in p1 40 ∧ ((p2 < (sX_counts σ1 (Int32.toNatClampNeg p1)) → wp_X_startOf σ1 p1 (fun (r6 : Int32) (σ5 : SX) => Q ((r6 + 1) + p2) σ5)) ∧ (¬ p2 < (sX_counts σ1 (Int32.toNatClampNeg p1)) → QX "java/lang/IndexOutOfBoundsException" σ1)))) QX
def rm_X_hull : Room := { frames := 8, cells := 2, slots := 12, locals := 125 }
def wp_X_hull (σ : SX) (p1 : Int32) (p2 : Int32) (Q : Int32 → SX → Prop) (QX : String → SX → Prop) : Prop := wp_X_pointOf σ p1 p2 (fun (r2 : Int32) (σ1 : SX) => vp_in r2 1000 ∧ (((sX_costs σ1 (Int32.toNatClampNeg r2)) ≤ 0 → Q 0 σ1) ∧ (¬ (sX_costs σ1 (Int32.toNatClampNeg r2)) ≤ 0 → Q 1 σ1))) QX
def rm_X_slope : Room := { frames := 8, cells := 2, slots := 12, locals := 125 }
def wp_X_slope (σ : SX) (p1 : Int32) (p2 : Int32) (p3 : Int32) (Q : Int64 → SX → Prop) (QX : String → SX → Prop) : Prop := wp_X_pointOf σ p1 p2 (fun (r2 : Int32) (σ1 : SX) => (p3 = 0 → vp_in r2 1000 ∧ (Q (Int32.toInt64 (sX_costs σ1 (Int32.toNatClampNeg r2))) σ1)) ∧ (¬ p3 = 0 → vp_in r2 1000 ∧ (Q (sX_rises σ1 (Int32.toNatClampNeg r2)) σ1))) QX
def rm_X_row : Room := { frames := 0, cells := 0, slots := 0, locals := 0 }
def wp_X_row (σ : SX) (Q : Int32 → SX → Prop) : Prop := Q (sX_ol σ) σ
def rm_X_passesUpTo : Room := { frames := 0, cells := 0, slots := 0, locals := 0 }
def wp_X_passesUpTo (σ : SX) (p0 : Int32) (Q : Int32 → SX → Prop) : Prop := Q (p0 - p0 / 25 * 25) σ
def rm_X_countSameSlope : Room := { frames := 2, cells := 0, slots := 0, locals := 45 }
def wl_X_countSameSlope_4 (y1 : Int32) (Q : Int32 → SX → Prop) : Nat → Int32 → Int32 → SX → Prop
  | 0, _, _, _ => False
  | n + 1, y2, y3, σ => ((sX_ol σ) ≤ y3 → Q y2 σ) ∧ (¬ (sX_ol σ) ≤ y3 → vp_in y3 960 ∧ (wp_X_compareSlopes σ y1 (sX_order σ (Int32.toNatClampNeg y3)) (fun (r4 : Int32) (σ3 : SX) => (¬ r4 = 0 → wl_X_countSameSlope_4 y1 Q n y2 (y3 + 1) σ3) ∧ (r4 = 0 → wl_X_countSameSlope_4 y1 Q n (y2 + 1) (y3 + 1) σ3))))
def wp_X_countSameSlope (σ : SX) (p1 : Int32) (Q : Int32 → SX → Prop) : Prop := ∃ n6 : Nat, wl_X_countSameSlope_4 p1 Q n6 0 0 σ
def rm_X_needShared : Room := { frames := 6, cells := 1, slots := 6, locals := 82 }
def wp_X_needShared (σ : SX) (Q : SX → Prop) (QX : String → SX → Prop) : Prop := (¬ (sX_shared σ) = 0 → Q σ) ∧ ((sX_shared σ) = 0 → QX "java/lang/IllegalStateException" σ)
def rm_X_layerOf : Room := { frames := 0, cells := 0, slots := 0, locals := 0 }
def wl_X_layerOf_2 (y1 : Int32) (Q : Int32 → SX → Prop) : Nat → Int32 → SX → Prop
  | 0, _, _ => False
  | n + 1, y2, σ => ((sX_layers σ) ≤ y2 → Q (-1) σ) ∧ (¬ (sX_layers σ) ≤ y2 → vp_in y2 (sX_nl σ) ∧ (((sX_ends σ (Int32.toNatClampNeg y2)) ≤ y1 → wl_X_layerOf_2 y1 Q n (y2 + 1) σ) ∧ (¬ (sX_ends σ (Int32.toNatClampNeg y2)) ≤ y1 → Q y2 σ)))
def wp_X_layerOf (σ : SX) (p1 : Int32) (Q : Int32 → SX → Prop) : Prop := ∃ n4 : Nat, wl_X_layerOf_2 p1 Q n4 0 σ
def rm_X_at : Room := { frames := 7, cells := 1, slots := 6, locals := 102 }
def wp_X_at (σ : SX) (p1 : Int32) (p2 : Int32) (Q : Int32 → SX → Prop) (QX : String → SX → Prop) : Prop := (p1 < 0 → QX "java/lang/IndexOutOfBoundsException" σ) ∧ (¬ p1 < 0 → (p1 < (sX_ol σ) → vp_in p1 960 ∧ (∀ x4 : Int32, x4 = sX_order σ (Int32.toNatClampNeg p1) → (p2 = 0 → wp_X_blockOf σ x4 (fun (r7 : Int32) (σ6 : SX) => Q r7 σ6)) ∧ (¬ p2 = 0 → (p2 = 1 → wp_X_passesUpTo σ x4 (fun (r10 : Int32) (σ9 : SX) => Q (r10 - 1) σ9)) ∧ (¬ p2 = 1 → (p2 = 2 → vp_in x4 1000 ∧ (Q (sX_costs σ (Int32.toNatClampNeg x4)) σ)) ∧ (¬ p2 = 2 → (p2 = 3 → wp_X_countSameSlope σ x4 (fun (r15 : Int32) (σ14 : SX) => Q r15 σ14)) ∧ (¬ p2 = 3 → (p2 = 4 → wp_X_needShared σ (fun (σ17 : SX) => wp_X_layerOf σ17 p1 (fun (r19 : Int32) (σ18 : SX) => Q r19 σ18)) QX) ∧ (¬ p2 = 4 → QX "java/lang/IllegalArgumentException" σ))))))) ∧ (¬ p1 < (sX_ol σ) → QX "java/lang/IndexOutOfBoundsException" σ))
def rm_X_passes : Room := { frames := 7, cells := 3, slots := 18, locals := 103 }
def wl_X_passes_23 (y2 : Int32) (Q : Int32 → SX → Prop) (QX : String → SX → Prop) : Nat → Int32 → SX → Prop
  | 0, _, _ => False
  | n + 1, y3, σ => (y3 < 0 → Q 0 σ) ∧ (¬ y3 < 0 → vp_in y3 960 ∧ (wp_X_blockOf σ (sX_order σ (Int32.toNatClampNeg y3)) (fun (r9 : Int32) (σ8 : SX) => (¬ r9 = y2 → wl_X_passes_23 y2 Q QX n (y3 + (-1)) σ8) ∧ (r9 = y2 → vp_in y3 960 ∧ (wp_X_passesUpTo σ8 (sX_order σ8 (Int32.toNatClampNeg y3)) (fun (r13 : Int32) (σ12 : SX) => Q r13 σ12))))))
def wp_X_passes (σ : SX) (p1 : Int32) (p2 : Int32) (Q : Int32 → SX → Prop) (QX : String → SX → Prop) : Prop := wp_X_needShared σ (fun (σ1 : SX) => wp_X_needLayer σ1 p1 (fun (σ2 : SX) => wp_X_needBlock σ2 p2 (fun (σ3 : SX) => vp_in p1 (sX_nl σ3) ∧ (∀ x5 : Int32, x5 = (sX_ends σ3 (Int32.toNatClampNeg p1)) - 1 → ∃ n14 : Nat, wl_X_passes_23 p2 Q QX n14 x5 σ3)) QX) QX) QX
def rm_X_bytes : Room := { frames := 7, cells := 2, slots := 12, locals := 103 }
def wp_X_bytes (σ : SX) (p1 : Int32) (Q : Int32 → SX → Prop) (QX : String → SX → Prop) : Prop := wp_X_needShared σ (fun (σ1 : SX) => wp_X_needLayer σ1 p1 (fun (σ2 : SX) => vp_in p1 (sX_nl σ2) ∧ (Q (sX_held σ2 (Int32.toNatClampNeg p1)) σ2)) QX) QX
def rm_X_gained : Room := { frames := 7, cells := 2, slots := 12, locals := 103 }
def wl_X_gained_14 (y1 : Int32) (Q : Int64 → SX → Prop) (QX : String → SX → Prop) : Nat → Int64 → Int32 → SX → Prop
  | 0, _, _, _ => False
  | n + 1, y2, y4, σ => vp_in y1 (sX_nl σ) ∧ (((sX_ends σ (Int32.toNatClampNeg y1)) ≤ y4 → Q y2 σ) ∧ (¬ (sX_ends σ (Int32.toNatClampNeg y1)) ≤ y4 → vp_in y4 960 ∧ (vp_in (sX_order σ (Int32.toNatClampNeg y4)) 1000 ∧ (∀ x7 : Int64, x7 = y2 + (sX_rises σ (Int32.toNatClampNeg (sX_order σ (Int32.toNatClampNeg y4)))) → wl_X_gained_14 y1 Q QX n x7 (y4 + 1) σ))))
def wp_X_gained (σ : SX) (p1 : Int32) (Q : Int64 → SX → Prop) (QX : String → SX → Prop) : Prop := wp_X_needShared σ (fun (σ1 : SX) => wp_X_needLayer σ1 p1 (fun (σ2 : SX) => ∃ n8 : Nat, wl_X_gained_14 p1 Q QX n8 0 0 σ2) QX) QX
def rm_X_least : Room := { frames := 7, cells := 1, slots := 6, locals := 107 }
def wl_X_least_15 (y1 : Int32) (Q : Int32 → SX → Prop) (QX : String → SX → Prop) : Nat → Int32 → Int32 → SX → Prop
  | 0, _, _, _ => False
  | n + 1, y2, y3, σ => (y1 ≤ y3 → Q y2 σ) ∧ (¬ y1 ≤ y3 → vp_in y3 960 ∧ (vp_in (sX_order σ (Int32.toNatClampNeg y3)) 1000 ∧ (∀ x5 : Int32, x5 = y2 + (sX_costs σ (Int32.toNatClampNeg (sX_order σ (Int32.toNatClampNeg y3)))) → wl_X_least_15 y1 Q QX n x5 (y3 + 1) σ)))
def wp_X_least (σ : SX) (p1 : Int32) (Q : Int32 → SX → Prop) (QX : String → SX → Prop) : Prop := wp_X_needWithin σ (Int32.toInt64 p1) 0 (Int32.toInt64 (sX_ol σ)) (fun (σ1 : SX) => ∃ n6 : Nat, wl_X_least_15 p1 Q QX n6 0 0 σ1) QX
def rm_X_above : Room := { frames := 7, cells := 2, slots := 12, locals := 107 }
def wl_X_above_22 (y1 : Int64) (y3 : Int32) (Q : Int32 → SX → Prop) (QX : String → SX → Prop) : Nat → Int32 → SX → Prop
  | 0, _, _ => False
  | n + 1, y4, σ => ((sX_ol σ) ≤ y4 → Q y4 σ) ∧ (¬ (sX_ol σ) ≤ y4 → vp_in y4 960 ∧ (vp_in (sX_order σ (Int32.toNatClampNeg y4)) 1000 ∧ (vp_in y4 960 ∧ (vp_in (sX_order σ (Int32.toNatClampNeg y4)) 1000 ∧ (((lg_cmp ((sX_rises σ (Int32.toNatClampNeg (sX_order σ (Int32.toNatClampNeg y4)))) * (Int32.toInt64 y3)) (y1 * (Int32.toInt64 (sX_costs σ (Int32.toNatClampNeg (sX_order σ (Int32.toNatClampNeg y4))))))) < 0 → Q y4 σ) ∧ (¬ (lg_cmp ((sX_rises σ (Int32.toNatClampNeg (sX_order σ (Int32.toNatClampNeg y4)))) * (Int32.toInt64 y3)) (y1 * (Int32.toInt64 (sX_costs σ (Int32.toNatClampNeg (sX_order σ (Int32.toNatClampNeg y4))))))) < 0 → wl_X_above_22 y1 y3 Q QX n (y4 + 1) σ))))))
def wp_X_above (σ : SX) (p1 : Int64) (p3 : Int32) (Q : Int32 → SX → Prop) (QX : String → SX → Prop) : Prop := wp_X_needWithin σ (Int32.toInt64 p3) 1 1000000 (fun (σ1 : SX) => wp_X_needWithin σ1 p1 (-1000000000000) 1000000000000 (fun (σ2 : SX) => ∃ n9 : Nat, wl_X_above_22 p1 p3 Q QX n9 0 σ2) QX) QX
def rm_X_told : Room := { frames := 0, cells := 0, slots := 0, locals := 0 }
def wp_X_told (σ : SX) (p1 : Int32) (Q : Int32 → SX → Prop) : Prop := (p1 = 0 → Q (sX_layers σ) σ) ∧ (¬ p1 = 0 → (p1 = 1 → Q (sX_bc σ) σ) ∧ (¬ p1 = 1 → (p1 = 2 → Q (sX_pc σ) σ) ∧ (¬ p1 = 2 → (p1 = 3 → ((sX_shared σ) = 0 → Q 0 σ) ∧ (¬ (sX_shared σ) = 0 → Q 1 σ)) ∧ (¬ p1 = 3 → Q (-1) σ))))
def rm_X_clear : Room := { frames := 0, cells := 0, slots := 0, locals := 0 }
def wl_X_clear_2  (Q : SX → Prop) : Nat → Int32 → SX → Prop
  | 0, _, _ => False
  | n + 1, y1, σ => ((sX_layers σ) ≤ y1 → ∀ σ2 : SX, σ2 = uX_bc σ 0 → ∀ σ3 : SX, σ3 = uX_pc σ2 0 → ∀ σ4 : SX, σ4 = uX_ol σ3 0 → ∀ σ5 : SX, σ5 = uX_shared σ4 0 → Q σ5) ∧ (¬ (sX_layers σ) ≤ y1 → vp_in y1 (sX_nl σ) ∧ (∀ σ7 : SX, σ7 = uX_sizes σ (upd (sX_sizes σ) (Int32.toNatClampNeg y1) 0) → vp_in y1 (sX_nl σ7) ∧ (∀ σ9 : SX, σ9 = uX_heads σ7 (upd (sX_heads σ7) (Int32.toNatClampNeg y1) 0) → wl_X_clear_2 Q n (y1 + 1) σ9)))
def wp_X_clear (σ : SX) (Q : SX → Prop) : Prop := ∃ n10 : Nat, wl_X_clear_2 Q n10 0 σ
def rm_X_init : Room := { frames := 1, cells := 12, slots := 5144, locals := 21 }
def wp_X_init (p1 : Int32) (Q : SX → Prop) : Prop := ∀ x1 : Int32, x1 = (if 1 < (if p1 < 16 then p1 else 16) then (if p1 < 16 then p1 else 16) else 1) → ¬ x1 < 0 ∧ (Int32.toNatClampNeg x1 ≤ 16 ∧ (¬ x1 < 0 ∧ (Int32.toNatClampNeg x1 ≤ 16 ∧ (¬ x1 < 0 ∧ (Int32.toNatClampNeg x1 ≤ 16 ∧ (¬ x1 < 0 ∧ (Int32.toNatClampNeg x1 ≤ 16 ∧ (∀ σ0 : SX, σ0 = ((Int32.toNatClampNeg x1), x1, (fun _ => 0), (fun _ => 0), (fun _ => 0), (fun _ => 0), 0, (fun _ => 0), (fun _ => 0), (fun _ => 0), 0, 0, (fun _ => 0), (fun _ => 0), (fun _ => 0), (fun _ => 0), (fun _ => 0), 0) → Q σ0))))))))
end
section
set_option maxHeartbeats 4000000 in
set_option maxRecDepth 100000 in
theorem c_X_block (l : Launch) (hlt : l.stackTraces = false) (G : va_G) (cI cL : ClassId) (ad : Nat → Nat) (σ : SX) (Q : Int32 → SX → Prop) (QX : String → SX → Prop) (hw : wp_X_block σ Q QX) : jx_i l G [(cI, .int), (cL, .long)] y_X_block b_X_block 2 .int rm_X_block [.ref (ad 0)] (wX cI cL ad σ) (wX cI cL ad) Q QX := by
  refine jx_open_i hlt (by decide +kernel) (Nat.le_of_ble_eq_true rfl) ?_
  intro κ hl hG C Z E
  subst hl; subst hG
  unfold wp_X_block at hw
  refine j_aload_n (pc := 0) C d_X_block_0 rfl 0 rfl ?_
  refine j_get (pc := 1) C i_X 0 rfl rfl 9 (Nat.le_of_ble_eq_true rfl) k_0 rfl d_X_block_1 ?_
  refine j_bipush (v := 40) (pc := 4) C d_X_block_4 (by decide) ?_
  refine j_icmp_lt (pc := 6) (tgt := 19) C d_X_block_6 (by decide) (fun c1 => ?_) (fun c1 => ?_)
  · have hw := hw.1 c1
    refine j_aload_n (pc := 19) C d_X_block_19 rfl 0 rfl ?_
    refine j_get (pc := 20) C i_X 0 rfl rfl 9 (Nat.le_of_ble_eq_true rfl) k_0 rfl d_X_block_20 ?_
    refine j_nmi (fun x2 e_x2 => ?_)
    have hw := hw x2 e_x2
    refine j_istore_n (pc := 23) (lv' := [(1, .int x2), (0, .ref (ad 0))]) C d_X_block_23 rfl (Nat.le_of_ble_eq_true rfl) rfl ?_
    refine j_aload_n (pc := 24) C d_X_block_24 rfl 1 rfl ?_
    refine j_get (pc := 25) C i_X 0 rfl rfl 6 (Nat.le_of_ble_eq_true rfl) k_1 rfl d_X_block_25 ?_
    refine j_iload_n (pc := 28) C d_X_block_28 rfl 0 rfl ?_
    refine j_iconst (v := 1) (pc := 29) C d_X_block_29 (by decide) ?_
    obtain ⟨hi3, hw⟩ := hw
    obtain ⟨σ4, e_σ4⟩ : ∃ z : SX, z = uX_weights σ (upd (sX_weights σ) (Int32.toNatClampNeg x2) 1) := ⟨_, rfl⟩
    have hw := hw σ4 e_σ4
    refine j_iast (pc := 30) (ws' := wX cI cL ad σ4) C 5 0 rfl rfl hi3 (by rw [e_σ4]; rfl) d_X_block_30 ?_
    refine j_aload_n (pc := 31) C d_X_block_31 rfl 1 rfl ?_
    refine j_get (pc := 32) C i_X 0 rfl rfl 7 (Nat.le_of_ble_eq_true rfl) k_2 rfl d_X_block_32 ?_
    refine j_iload_n (pc := 35) C d_X_block_35 rfl 0 rfl ?_
    refine j_iconst (v := 0) (pc := 36) C d_X_block_36 (by decide) ?_
    obtain ⟨hi5, hw⟩ := hw
    obtain ⟨σ6, e_σ6⟩ : ∃ z : SX, z = uX_shifts σ4 (upd (sX_shifts σ4) (Int32.toNatClampNeg x2) 0) := ⟨_, rfl⟩
    have hw := hw σ6 e_σ6
    refine j_iast (pc := 37) (ws' := wX cI cL ad σ6) C 6 0 rfl rfl hi5 (by rw [e_σ6]; rfl) d_X_block_37 ?_
    refine j_aload_n (pc := 38) C d_X_block_38 rfl 1 rfl ?_
    refine j_get (pc := 39) C i_X 0 rfl rfl 8 (Nat.le_of_ble_eq_true rfl) k_3 rfl d_X_block_39 ?_
    refine j_iload_n (pc := 42) C d_X_block_42 rfl 0 rfl ?_
    refine j_iconst (v := 0) (pc := 43) C d_X_block_43 (by decide) ?_
    obtain ⟨hi7, hw⟩ := hw
    obtain ⟨σ8, e_σ8⟩ : ∃ z : SX, z = uX_counts σ6 (upd (sX_counts σ6) (Int32.toNatClampNeg x2) 0) := ⟨_, rfl⟩
    have hw := hw σ8 e_σ8
    refine j_iast (pc := 44) (ws' := wX cI cL ad σ8) C 7 0 rfl rfl hi7 (by rw [e_σ8]; rfl) d_X_block_44 ?_
    refine j_aload_n (pc := 45) C d_X_block_45 rfl 1 rfl ?_
    refine j_dup (pc := 46) C d_X_block_46 rfl ?_
    refine j_get (pc := 47) C i_X 0 rfl rfl 9 (Nat.le_of_ble_eq_true rfl) k_0 rfl d_X_block_47 ?_
    refine j_iconst (v := 1) (pc := 50) C d_X_block_50 (by decide) ?_
    refine j_iadd (pc := 51) C d_X_block_51 ?_
    obtain ⟨σ9, e_σ9⟩ : ∃ z : SX, z = uX_bc σ8 ((sX_bc σ8) + 1) := ⟨_, rfl⟩
    have hw := hw σ9 e_σ9
    refine j_put (pc := 52) (ws' := wX cI cL ad σ9) C i_X t_X t_X_ok n_X 0 rfl rfl 9 (Nat.le_of_ble_eq_true rfl) k_0 rfl (ty := .int) (by decide +kernel) rfl rfl (Nat.le_of_ble_eq_true rfl) (by rw [e_σ9]; rfl) d_X_block_52 ?_
    refine j_aload_n (pc := 55) C d_X_block_55 rfl 1 rfl ?_
    refine j_iconst (v := 0) (pc := 56) C d_X_block_56 (by decide) ?_
    obtain ⟨σ10, e_σ10⟩ : ∃ z : SX, z = uX_shared σ9 0 := ⟨_, rfl⟩
    have hw := hw σ10 e_σ10
    refine j_put (pc := 57) (ws' := wX cI cL ad σ10) C i_X t_X t_X_ok n_X 0 rfl rfl 5 (Nat.le_of_ble_eq_true rfl) k_4 rfl (ty := .boolean) (by decide +kernel) rfl rfl (Nat.le_of_ble_eq_true rfl) (by rw [e_σ10]; rfl) d_X_block_57 ?_
    refine j_iload_n (pc := 60) C d_X_block_60 rfl 0 rfl ?_
    exact jx_iret (pc := 61) C E hw (Nat.le_of_ble_eq_true rfl) (Nat.le_of_ble_eq_true rfl) d_X_block_61
  · have hw := hw.2 c1
    exact jx_throwS (pc := 9) C Z E (names := ["java/lang/RuntimeException", "java/lang/Exception"]) (by decide +kernel) (by decide +kernel) k_5 k_6 (List.mem_of_getElem? (i := 0) rfl) ka_X_67 d_X_block_9 d_X_block_12 d_X_block_13 d_X_block_15 d_X_block_18 (Nat.le_of_ble_eq_true rfl) (Nat.le_of_ble_eq_true rfl) (Nat.le_of_ble_eq_true rfl) (Nat.le_of_ble_eq_true rfl) (Nat.le_of_ble_eq_true rfl) (Nat.le_of_ble_eq_true rfl) hw
set_option maxHeartbeats 4000000 in
set_option maxRecDepth 100000 in
theorem c_X_needBlock (l : Launch) (hlt : l.stackTraces = false) (G : va_G) (cI cL : ClassId) (ad : Nat → Nat) (σ : SX) (p1 : Int32) (Q : SX → Prop) (QX : String → SX → Prop) (hw : wp_X_needBlock σ p1 Q QX) : jx_v l G [(cI, .int), (cL, .long)] y_X_needBlock b_X_needBlock 2 rm_X_needBlock [.ref (ad 0), .int p1] (wX cI cL ad σ) (wX cI cL ad) Q QX := by
  refine jx_open_v hlt (by decide +kernel) (Nat.le_of_ble_eq_true rfl) ?_
  intro κ hl hG C Z E
  subst hl; subst hG
  unfold wp_X_needBlock at hw
  refine j_iload_n (pc := 0) C d_X_needBlock_0 rfl 1 rfl ?_
  refine j_if_lt (pc := 1) (tgt := 12) C d_X_needBlock_1 (by decide) (fun c1 => ?_) (fun c1 => ?_)
  · have hw := hw.1 c1
    exact jx_throwS (pc := 12) C Z E (names := ["java/lang/RuntimeException", "java/lang/Exception"]) (by decide +kernel) (by decide +kernel) k_7 k_8 (List.mem_of_getElem? (i := 1) rfl) ka_X_121 d_X_needBlock_12 d_X_needBlock_15 d_X_needBlock_16 d_X_needBlock_18 d_X_needBlock_21 (Nat.le_of_ble_eq_true rfl) (Nat.le_of_ble_eq_true rfl) (Nat.le_of_ble_eq_true rfl) (Nat.le_of_ble_eq_true rfl) (Nat.le_of_ble_eq_true rfl) (Nat.le_of_ble_eq_true rfl) hw
  · have hw := hw.2 c1
    refine j_iload_n (pc := 4) C d_X_needBlock_4 rfl 1 rfl ?_
    refine j_aload_n (pc := 5) C d_X_needBlock_5 rfl 0 rfl ?_
    refine j_get (pc := 6) C i_X 0 rfl rfl 9 (Nat.le_of_ble_eq_true rfl) k_0 rfl d_X_needBlock_6 ?_
    refine j_icmp_lt (pc := 9) (tgt := 22) C d_X_needBlock_9 (by decide) (fun c2 => ?_) (fun c2 => ?_)
    · have hw := hw.1 c2
      exact jx_vret (pc := 22) C E hw (Nat.le_of_ble_eq_true rfl) (Nat.le_of_ble_eq_true rfl) d_X_needBlock_22
    · have hw := hw.2 c2
      exact jx_throwS (pc := 12) C Z E (names := ["java/lang/RuntimeException", "java/lang/Exception"]) (by decide +kernel) (by decide +kernel) k_7 k_8 (List.mem_of_getElem? (i := 1) rfl) ka_X_121 d_X_needBlock_12 d_X_needBlock_15 d_X_needBlock_16 d_X_needBlock_18 d_X_needBlock_21 (Nat.le_of_ble_eq_true rfl) (Nat.le_of_ble_eq_true rfl) (Nat.le_of_ble_eq_true rfl) (Nat.le_of_ble_eq_true rfl) (Nat.le_of_ble_eq_true rfl) (Nat.le_of_ble_eq_true rfl) hw
set_option maxHeartbeats 4000000 in
set_option maxRecDepth 100000 in
theorem c_X_needWithin (l : Launch) (hlt : l.stackTraces = false) (G : va_G) (cI cL : ClassId) (ad : Nat → Nat) (σ : SX) (p0 : Int64) (p2 : Int64) (p4 : Int64) (Q : SX → Prop) (QX : String → SX → Prop) (hw : wp_X_needWithin σ p0 p2 p4 Q QX) : jx_v l G [(cI, .int), (cL, .long)] y_X_needWithin b_X_needWithin 6 rm_X_needWithin [.long p0, .long p2, .long p4] (wX cI cL ad σ) (wX cI cL ad) Q QX := by
  refine jx_open_v hlt (by decide +kernel) (Nat.le_of_ble_eq_true rfl) ?_
  intro κ hl hG C Z E
  subst hl; subst hG
  unfold wp_X_needWithin at hw
  refine j_lload_n (pc := 0) C d_X_needWithin_0 rfl 0 rfl ?_
  refine j_lload_n (pc := 1) C d_X_needWithin_1 rfl 1 rfl ?_
  refine j_lcmp (pc := 2) C d_X_needWithin_2 ?_
  refine j_if_lt (pc := 3) (tgt := 13) C d_X_needWithin_3 (by decide) (fun c1 => ?_) (fun c1 => ?_)
  · have hw := hw.1 c1
    exact jx_throwS (pc := 13) C Z E (names := ["java/lang/RuntimeException", "java/lang/Exception"]) (by decide +kernel) (by decide +kernel) k_15 k_16 (List.mem_of_getElem? (i := 2) rfl) ka_X_141 d_X_needWithin_13 d_X_needWithin_16 d_X_needWithin_17 d_X_needWithin_19 d_X_needWithin_22 (Nat.le_of_ble_eq_true rfl) (Nat.le_of_ble_eq_true rfl) (Nat.le_of_ble_eq_true rfl) (Nat.le_of_ble_eq_true rfl) (Nat.le_of_ble_eq_true rfl) (Nat.le_of_ble_eq_true rfl) hw
  · have hw := hw.2 c1
    refine j_lload_n (pc := 6) C d_X_needWithin_6 rfl 0 rfl ?_
    refine j_lload (pc := 7) C d_X_needWithin_7 2 rfl ?_
    refine j_lcmp (pc := 9) C d_X_needWithin_9 ?_
    refine j_if_le (pc := 10) (tgt := 23) C d_X_needWithin_10 (by decide) (fun c2 => ?_) (fun c2 => ?_)
    · have hw := hw.1 c2
      exact jx_vret (pc := 23) C E hw (Nat.le_of_ble_eq_true rfl) (Nat.le_of_ble_eq_true rfl) d_X_needWithin_23
    · have hw := hw.2 c2
      exact jx_throwS (pc := 13) C Z E (names := ["java/lang/RuntimeException", "java/lang/Exception"]) (by decide +kernel) (by decide +kernel) k_15 k_16 (List.mem_of_getElem? (i := 2) rfl) ka_X_141 d_X_needWithin_13 d_X_needWithin_16 d_X_needWithin_17 d_X_needWithin_19 d_X_needWithin_22 (Nat.le_of_ble_eq_true rfl) (Nat.le_of_ble_eq_true rfl) (Nat.le_of_ble_eq_true rfl) (Nat.le_of_ble_eq_true rfl) (Nat.le_of_ble_eq_true rfl) (Nat.le_of_ble_eq_true rfl) hw
set_option maxHeartbeats 4000000 in
set_option maxRecDepth 100000 in
theorem c_X_startOf (l : Launch) (G : va_G) (cI cL : ClassId) (ad : Nat → Nat) (σ : SX) (p0 : Int32) (Q : Int32 → SX → Prop) (hw : wp_X_startOf σ p0 Q) : jm_i l G [(cI, .int), (cL, .long)] y_X_startOf b_X_startOf 1 .int rm_X_startOf [.int p0] (wX cI cL ad σ) (wX cI cL ad) Q := by
  refine jm_open_i (by decide +kernel) (Nat.le_of_ble_eq_true rfl) ?_
  intro κ hl hG C E hi
  subst hl; subst hG
  unfold wp_X_startOf at hw
  refine j_iload_n (pc := 0) C d_X_startOf_0 rfl 0 rfl ?_
  refine j_bipush (v := 25) (pc := 1) C d_X_startOf_1 (by decide) ?_
  refine j_imul (pc := 3) C d_X_startOf_3 ?_
  exact j_iret (pc := 4) C E hw (Nat.le_of_ble_eq_true rfl) (Nat.le_of_ble_eq_true rfl) d_X_startOf_4
set_option maxHeartbeats 4000000 in
set_option maxRecDepth 100000 in
theorem c_X_blockOf (l : Launch) (G : va_G) (cI cL : ClassId) (ad : Nat → Nat) (σ : SX) (p0 : Int32) (Q : Int32 → SX → Prop) (hw : wp_X_blockOf σ p0 Q) : jm_i l G [(cI, .int), (cL, .long)] y_X_blockOf b_X_blockOf 1 .int rm_X_blockOf [.int p0] (wX cI cL ad σ) (wX cI cL ad) Q := by
  refine jm_open_i (by decide +kernel) (Nat.le_of_ble_eq_true rfl) ?_
  intro κ hl hG C E hi
  subst hl; subst hG
  unfold wp_X_blockOf at hw
  refine j_iload_n (pc := 0) C d_X_blockOf_0 rfl 0 rfl ?_
  refine j_bipush (v := 25) (pc := 1) C d_X_blockOf_1 (by decide) ?_
  refine j_idiv (pc := 3) C d_X_blockOf_3 (by decide) ?_
  exact j_iret (pc := 4) C E hw (Nat.le_of_ble_eq_true rfl) (Nat.le_of_ble_eq_true rfl) d_X_blockOf_4
set_option maxHeartbeats 4000000 in
set_option maxRecDepth 100000 in
theorem lp_X_takeFromRow_4 {κ : jk_K} {cI cL : ClassId} {ad : Nat → Nat} {Q : SX → Prop} (C : jk_C κ b_X_takeFromRow R_X rm_X_takeFromRow 4 [(cI, .int), (cL, .long)]) (E : jk_E κ none (va_Qv Q (jk_B (jk_G κ) [(cI, .int), (cL, .long)] (jk_A κ) (wX cI cL ad)) (jk_A κ)) rm_X_takeFromRow.cells rm_X_takeFromRow.slots) (y1 : Int32) : ∀ (n : Nat) (y2 : Int32) (y3 : Int32) (σ : SX), wl_X_takeFromRow_4 y1 Q n y2 y3 σ → jk_J κ (wX cI cL ad σ) 4 [(0, .ref (ad 0)), (1, .int y1), (2, .int y2), (3, .int y3)] [] 0 0 := by
  intro n
  induction n with
  | zero => intro y2 y3 σ hw; exact hw.elim
  | succ n ih =>
    intro y2 y3 σ hw
    rw [wl_X_takeFromRow_4] at hw
    refine j_iload_n (pc := 4) C d_X_takeFromRow_4 rfl 3 rfl ?_
    refine j_aload_n (pc := 5) C d_X_takeFromRow_5 rfl 0 rfl ?_
    refine j_get (pc := 6) C i_X 0 rfl rfl 16 (Nat.le_of_ble_eq_true rfl) k_28 rfl d_X_takeFromRow_6 ?_
    refine j_icmp_ge (pc := 9) (tgt := 46) C d_X_takeFromRow_9 (by decide) (fun c1 => ?_) (fun c1 => ?_)
    · have hw := hw.1 c1
      refine j_aload_n (pc := 46) C d_X_takeFromRow_46 rfl 0 rfl ?_
      refine j_iload_n (pc := 47) C d_X_takeFromRow_47 rfl 2 rfl ?_
      obtain ⟨σ2, e_σ2⟩ : ∃ z : SX, z = uX_ol σ y2 := ⟨_, rfl⟩
      have hw := hw σ2 e_σ2
      refine j_put (pc := 48) (ws' := wX cI cL ad σ2) C i_X t_X t_X_ok n_X 0 rfl rfl 16 (Nat.le_of_ble_eq_true rfl) k_28 rfl (ty := .int) (by decide +kernel) rfl rfl (Nat.le_of_ble_eq_true rfl) (by rw [e_σ2]; rfl) d_X_takeFromRow_48 ?_
      exact j_vret (pc := 51) C E hw (Nat.le_of_ble_eq_true rfl) (Nat.le_of_ble_eq_true rfl) d_X_takeFromRow_51
    · have hw := hw.2 c1
      refine j_aload_n (pc := 12) C d_X_takeFromRow_12 rfl 0 rfl ?_
      refine j_get (pc := 13) C i_X 0 rfl rfl 15 (Nat.le_of_ble_eq_true rfl) k_29 rfl d_X_takeFromRow_13 ?_
      refine j_iload_n (pc := 16) C d_X_takeFromRow_16 rfl 3 rfl ?_
      obtain ⟨hi3, hw⟩ := hw
      refine j_iald (pc := 17) C 12 0 rfl rfl hi3 d_X_takeFromRow_17 ?_
      refine j_callSi0 (pc := 18) (st := []) (As := [.int (sX_order σ (Int32.toNatClampNeg y3))]) (wf := wX cI cL ad) C (c_X_blockOf (jk_l κ) (jk_G κ) cI cL ad σ (sX_order σ (Int32.toNatClampNeg y3)) _ hw) g_X_122 hdS_X_blockOf ⟨(Nat.le_of_ble_eq_true rfl), (Nat.le_of_ble_eq_true rfl)⟩ rfl rfl (Nat.le_of_ble_eq_true rfl) d_X_takeFromRow_18 ⟨(Nat.le_of_ble_eq_true rfl), (Nat.le_of_ble_eq_true rfl)⟩ (fun r5 σ4 hw => ?_)
      refine j_iload_n (pc := 21) C d_X_takeFromRow_21 rfl 1 rfl ?_
      refine j_icmp_eq (pc := 22) (tgt := 40) C d_X_takeFromRow_22 (by decide) (fun c6 => ?_) (fun c6 => ?_)
      · have hw := hw.1 c6
        refine j_iinc (pc := 40) (lv' := [(3, .int (y3 + 1)), (0, .ref (ad 0)), (1, .int y1), (2, .int y2)]) C d_X_takeFromRow_40 (k := 3) rfl rfl (Nat.le_of_ble_eq_true rfl) rfl ?_
        refine j_goto (pc := 43) (tgt := 4) C d_X_takeFromRow_43 (by decide) ?_
        refine j_locs [1, 2, 3, 0] rfl ?_
        exact ih y2 (y3 + 1) σ4 hw
      · have hw := hw.2 c6
        refine j_aload_n (pc := 25) C d_X_takeFromRow_25 rfl 0 rfl ?_
        refine j_get (pc := 26) C i_X 0 rfl rfl 15 (Nat.le_of_ble_eq_true rfl) k_29 rfl d_X_takeFromRow_26 ?_
        refine j_iload_n (pc := 29) C d_X_takeFromRow_29 rfl 2 rfl ?_
        refine j_aload_n (pc := 30) C d_X_takeFromRow_30 rfl 0 rfl ?_
        refine j_get (pc := 31) C i_X 0 rfl rfl 15 (Nat.le_of_ble_eq_true rfl) k_29 rfl d_X_takeFromRow_31 ?_
        refine j_iload_n (pc := 34) C d_X_takeFromRow_34 rfl 3 rfl ?_
        obtain ⟨hi7, hw⟩ := hw
        refine j_iald (pc := 35) C 12 0 rfl rfl hi7 d_X_takeFromRow_35 ?_
        obtain ⟨hi8, hw⟩ := hw
        obtain ⟨σ9, e_σ9⟩ : ∃ z : SX, z = uX_order σ4 (upd (sX_order σ4) (Int32.toNatClampNeg y2) (sX_order σ4 (Int32.toNatClampNeg y3))) := ⟨_, rfl⟩
        have hw := hw σ9 e_σ9
        refine j_iast (pc := 36) (ws' := wX cI cL ad σ9) C 12 0 rfl rfl hi8 (by rw [e_σ9]; rfl) d_X_takeFromRow_36 ?_
        refine j_iinc (pc := 37) (lv' := [(2, .int (y2 + 1)), (0, .ref (ad 0)), (1, .int y1), (3, .int y3)]) C d_X_takeFromRow_37 (k := 2) rfl rfl (Nat.le_of_ble_eq_true rfl) rfl ?_
        refine j_iinc (pc := 40) (lv' := [(3, .int (y3 + 1)), (2, .int (y2 + 1)), (0, .ref (ad 0)), (1, .int y1)]) C d_X_takeFromRow_40 (k := 3) rfl rfl (Nat.le_of_ble_eq_true rfl) rfl ?_
        refine j_goto (pc := 43) (tgt := 4) C d_X_takeFromRow_43 (by decide) ?_
        refine j_locs [2, 3, 1, 0] rfl ?_
        exact ih (y2 + 1) (y3 + 1) σ9 hw
set_option maxHeartbeats 4000000 in
set_option maxRecDepth 100000 in
theorem c_X_takeFromRow (l : Launch) (G : va_G) (cI cL : ClassId) (ad : Nat → Nat) (σ : SX) (p1 : Int32) (Q : SX → Prop) (hw : wp_X_takeFromRow σ p1 Q) : jm_v l G [(cI, .int), (cL, .long)] y_X_takeFromRow b_X_takeFromRow 4 rm_X_takeFromRow [.ref (ad 0), .int p1] (wX cI cL ad σ) (wX cI cL ad) Q := by
  refine jm_open_v (by decide +kernel) (Nat.le_of_ble_eq_true rfl) ?_
  intro κ hl hG C E hi
  subst hl; subst hG
  unfold wp_X_takeFromRow at hw
  refine j_iconst (v := 0) (pc := 0) C d_X_takeFromRow_0 (by decide) ?_
  refine j_istore_n (pc := 1) (lv' := [(2, .int 0), (0, .ref (ad 0)), (1, .int p1)]) C d_X_takeFromRow_1 rfl (Nat.le_of_ble_eq_true rfl) rfl ?_
  refine j_iconst (v := 0) (pc := 2) C d_X_takeFromRow_2 (by decide) ?_
  refine j_istore_n (pc := 3) (lv' := [(3, .int 0), (2, .int 0), (0, .ref (ad 0)), (1, .int p1)]) C d_X_takeFromRow_3 rfl (Nat.le_of_ble_eq_true rfl) rfl ?_
  obtain ⟨n10, hw⟩ := hw
  refine j_locs [2, 3, 1, 0] rfl ?_
  exact lp_X_takeFromRow_4 C E p1 n10 0 0 σ hw
set_option maxHeartbeats 4000000 in
set_option maxRecDepth 100000 in
theorem lp_X_steepestFrom_13 {κ : jk_K} {cI cL : ClassId} {ad : Nat → Nat} {Q : Int32 → SX → Prop} (C : jk_C κ b_X_steepestFrom R_X rm_X_steepestFrom 13 [(cI, .int), (cL, .long)]) (E : jk_E κ (some .int) (va_Qi Q (jk_B (jk_G κ) [(cI, .int), (cL, .long)] (jk_A κ) (wX cI cL ad)) (jk_A κ)) rm_X_steepestFrom.cells rm_X_steepestFrom.slots) (y1 : Int32) (y2 : Int32) : ∀ (n : Nat) (y3 : Int32) (y4 : Int64) (y6 : Int64) (y8 : Int32) (σ : SX), wl_X_steepestFrom_13 y1 y2 Q n y3 y4 y6 y8 σ → jk_J κ (wX cI cL ad σ) 13 [(0, .ref (ad 0)), (1, .int y1), (2, .int y2), (3, .int y3), (4, .long y4), (6, .long y6), (8, .int y8)] [] 0 0 := by
  intro n
  induction n with
  | zero => intro y3 y4 y6 y8 σ hw; exact hw.elim
  | succ n ih =>
    intro y3 y4 y6 y8 σ hw
    rw [wl_X_steepestFrom_13] at hw
    refine j_iload (pc := 13) C d_X_steepestFrom_13 6 rfl ?_
    refine j_iload_n (pc := 15) C d_X_steepestFrom_15 rfl 2 rfl ?_
    refine j_icmp_gt (pc := 16) (tgt := 91) C d_X_steepestFrom_16 (by decide) (fun c2 => ?_) (fun c2 => ?_)
    · have hw := hw.1 c2
      refine j_iload_n (pc := 91) C d_X_steepestFrom_91 rfl 3 rfl ?_
      exact j_iret (pc := 92) C E hw (Nat.le_of_ble_eq_true rfl) (Nat.le_of_ble_eq_true rfl) d_X_steepestFrom_92
    · have hw := hw.2 c2
      refine j_aload_n (pc := 19) C d_X_steepestFrom_19 rfl 0 rfl ?_
      refine j_get (pc := 20) C i_X 0 rfl rfl 12 (Nat.le_of_ble_eq_true rfl) k_26 rfl d_X_steepestFrom_20 ?_
      refine j_iload (pc := 23) C d_X_steepestFrom_23 6 rfl ?_
      obtain ⟨hi3, hw⟩ := hw
      refine j_iald (pc := 25) C 9 0 rfl rfl hi3 d_X_steepestFrom_25 ?_
      refine j_aload_n (pc := 26) C d_X_steepestFrom_26 rfl 0 rfl ?_
      refine j_get (pc := 27) C i_X 0 rfl rfl 12 (Nat.le_of_ble_eq_true rfl) k_26 rfl d_X_steepestFrom_27 ?_
      refine j_iload_n (pc := 30) C d_X_steepestFrom_30 rfl 1 rfl ?_
      obtain ⟨hi4, hw⟩ := hw
      refine j_iald (pc := 31) C 9 0 rfl rfl hi4 d_X_steepestFrom_31 ?_
      refine j_isub (pc := 32) C d_X_steepestFrom_32 ?_
      refine j_i2l (pc := 33) C d_X_steepestFrom_33 ?_
      refine j_nml (fun x5 e_x5 => ?_)
      have hw := hw x5 e_x5
      refine j_lstore (pc := 34) (lv' := [(9, .long x5), (0, .ref (ad 0)), (1, .int y1), (2, .int y2), (3, .int y3), (4, .long y4), (6, .long y6), (8, .int y8)]) C d_X_steepestFrom_34 (Nat.le_of_ble_eq_true rfl) rfl ?_
      refine j_aload_n (pc := 36) C d_X_steepestFrom_36 rfl 1 rfl ?_
      refine j_get (pc := 37) C i_X 0 rfl rfl 11 (Nat.le_of_ble_eq_true rfl) k_25 rfl d_X_steepestFrom_37 ?_
      refine j_iload (pc := 40) C d_X_steepestFrom_40 7 rfl ?_
      obtain ⟨hi6, hw⟩ := hw
      refine j_iald (pc := 42) C 8 0 rfl rfl hi6 d_X_steepestFrom_42 ?_
      refine j_aload_n (pc := 43) C d_X_steepestFrom_43 rfl 1 rfl ?_
      refine j_get (pc := 44) C i_X 0 rfl rfl 11 (Nat.le_of_ble_eq_true rfl) k_25 rfl d_X_steepestFrom_44 ?_
      refine j_iload_n (pc := 47) C d_X_steepestFrom_47 rfl 2 rfl ?_
      obtain ⟨hi7, hw⟩ := hw
      refine j_iald (pc := 48) C 8 0 rfl rfl hi7 d_X_steepestFrom_48 ?_
      refine j_isub (pc := 49) C d_X_steepestFrom_49 ?_
      refine j_i2l (pc := 50) C d_X_steepestFrom_50 ?_
      refine j_nml (fun x8 e_x8 => ?_)
      have hw := hw x8 e_x8
      refine j_lstore (pc := 51) (lv' := [(11, .long x8), (9, .long x5), (0, .ref (ad 0)), (1, .int y1), (2, .int y2), (3, .int y3), (4, .long y4), (6, .long y6), (8, .int y8)]) C d_X_steepestFrom_51 (Nat.le_of_ble_eq_true rfl) rfl ?_
      refine j_lload (pc := 53) C d_X_steepestFrom_53 1 rfl ?_
      refine j_lconst (v := 0) (pc := 55) C d_X_steepestFrom_55 (by decide) ?_
      refine j_lcmp (pc := 56) C d_X_steepestFrom_56 ?_
      refine j_if_le (pc := 57) (tgt := 85) C d_X_steepestFrom_57 (by decide) (fun c9 => ?_) (fun c9 => ?_)
      · have hw := hw.1 c9
        refine j_iinc (pc := 85) (lv' := [(8, .int (y8 + 1)), (11, .long x8), (9, .long x5), (0, .ref (ad 0)), (1, .int y1), (2, .int y2), (3, .int y3), (4, .long y4), (6, .long y6)]) C d_X_steepestFrom_85 (k := 8) rfl rfl (Nat.le_of_ble_eq_true rfl) rfl ?_
        refine j_goto (pc := 88) (tgt := 13) C d_X_steepestFrom_88 (by decide) ?_
        refine j_locs [3, 4, 5, 6, 7, 8, 0] rfl ?_
        exact ih y3 y4 y6 (y8 + 1) σ hw
      · have hw := hw.2 c9
        refine j_lload (pc := 60) C d_X_steepestFrom_60 1 rfl ?_
        refine j_lload (pc := 62) C d_X_steepestFrom_62 7 rfl ?_
        refine j_lmul (pc := 64) C d_X_steepestFrom_64 ?_
        refine j_lload (pc := 65) C d_X_steepestFrom_65 6 rfl ?_
        refine j_lload (pc := 67) C d_X_steepestFrom_67 0 rfl ?_
        refine j_lmul (pc := 69) C d_X_steepestFrom_69 ?_
        refine j_lcmp (pc := 70) C d_X_steepestFrom_70 ?_
        refine j_if_lt (pc := 71) (tgt := 85) C d_X_steepestFrom_71 (by decide) (fun c10 => ?_) (fun c10 => ?_)
        · have hw := hw.1 c10
          refine j_iinc (pc := 85) (lv' := [(8, .int (y8 + 1)), (11, .long x8), (9, .long x5), (0, .ref (ad 0)), (1, .int y1), (2, .int y2), (3, .int y3), (4, .long y4), (6, .long y6)]) C d_X_steepestFrom_85 (k := 8) rfl rfl (Nat.le_of_ble_eq_true rfl) rfl ?_
          refine j_goto (pc := 88) (tgt := 13) C d_X_steepestFrom_88 (by decide) ?_
          refine j_locs [3, 4, 5, 6, 7, 8, 0] rfl ?_
          exact ih y3 y4 y6 (y8 + 1) σ hw
        · have hw := hw.2 c10
          refine j_iload (pc := 74) C d_X_steepestFrom_74 8 rfl ?_
          refine j_istore_n (pc := 76) (lv' := [(3, .int y8), (11, .long x8), (9, .long x5), (0, .ref (ad 0)), (1, .int y1), (2, .int y2), (4, .long y4), (6, .long y6), (8, .int y8)]) C d_X_steepestFrom_76 rfl (Nat.le_of_ble_eq_true rfl) rfl ?_
          refine j_lload (pc := 77) C d_X_steepestFrom_77 2 rfl ?_
          refine j_lstore (pc := 79) (lv' := [(4, .long x5), (3, .int y8), (11, .long x8), (9, .long x5), (0, .ref (ad 0)), (1, .int y1), (2, .int y2), (6, .long y6), (8, .int y8)]) C d_X_steepestFrom_79 (Nat.le_of_ble_eq_true rfl) rfl ?_
          refine j_lload (pc := 81) C d_X_steepestFrom_81 2 rfl ?_
          refine j_lstore (pc := 83) (lv' := [(6, .long x8), (4, .long x5), (3, .int y8), (11, .long x8), (9, .long x5), (0, .ref (ad 0)), (1, .int y1), (2, .int y2), (8, .int y8)]) C d_X_steepestFrom_83 (Nat.le_of_ble_eq_true rfl) rfl ?_
          refine j_iinc (pc := 85) (lv' := [(8, .int (y8 + 1)), (6, .long x8), (4, .long x5), (3, .int y8), (11, .long x8), (9, .long x5), (0, .ref (ad 0)), (1, .int y1), (2, .int y2)]) C d_X_steepestFrom_85 (k := 8) rfl rfl (Nat.le_of_ble_eq_true rfl) rfl ?_
          refine j_goto (pc := 88) (tgt := 13) C d_X_steepestFrom_88 (by decide) ?_
          refine j_locs [6, 7, 8, 3, 2, 1, 0] rfl ?_
          exact ih y8 x5 x8 (y8 + 1) σ hw
set_option maxHeartbeats 4000000 in
set_option maxRecDepth 100000 in
theorem c_X_steepestFrom (l : Launch) (G : va_G) (cI cL : ClassId) (ad : Nat → Nat) (σ : SX) (p1 : Int32) (p2 : Int32) (Q : Int32 → SX → Prop) (hw : wp_X_steepestFrom σ p1 p2 Q) : jm_i l G [(cI, .int), (cL, .long)] y_X_steepestFrom b_X_steepestFrom 13 .int rm_X_steepestFrom [.ref (ad 0), .int p1, .int p2] (wX cI cL ad σ) (wX cI cL ad) Q := by
  refine jm_open_i (by decide +kernel) (Nat.le_of_ble_eq_true rfl) ?_
  intro κ hl hG C E hi
  subst hl; subst hG
  unfold wp_X_steepestFrom at hw
  refine j_iload_n (pc := 0) C d_X_steepestFrom_0 rfl 1 rfl ?_
  refine j_istore_n (pc := 1) (lv' := [(3, .int p1), (0, .ref (ad 0)), (1, .int p1), (2, .int p2)]) C d_X_steepestFrom_1 rfl (Nat.le_of_ble_eq_true rfl) rfl ?_
  refine j_lconst (v := 0) (pc := 2) C d_X_steepestFrom_2 (by decide) ?_
  refine j_lstore (pc := 3) (lv' := [(4, .long 0), (3, .int p1), (0, .ref (ad 0)), (1, .int p1), (2, .int p2)]) C d_X_steepestFrom_3 (Nat.le_of_ble_eq_true rfl) rfl ?_
  refine j_lconst (v := 1) (pc := 5) C d_X_steepestFrom_5 (by decide) ?_
  refine j_lstore (pc := 6) (lv' := [(6, .long 1), (4, .long 0), (3, .int p1), (0, .ref (ad 0)), (1, .int p1), (2, .int p2)]) C d_X_steepestFrom_6 (Nat.le_of_ble_eq_true rfl) rfl ?_
  refine j_iload_n (pc := 8) C d_X_steepestFrom_8 rfl 4 rfl ?_
  refine j_iconst (v := 1) (pc := 9) C d_X_steepestFrom_9 (by decide) ?_
  refine j_iadd (pc := 10) C d_X_steepestFrom_10 ?_
  refine j_nmi (fun x1 e_x1 => ?_)
  have hw := hw x1 e_x1
  refine j_istore (pc := 11) (lv' := [(8, .int x1), (6, .long 1), (4, .long 0), (3, .int p1), (0, .ref (ad 0)), (1, .int p1), (2, .int p2)]) C d_X_steepestFrom_11 (Nat.le_of_ble_eq_true rfl) rfl ?_
  obtain ⟨n11, hw⟩ := hw
  refine j_locs [4, 5, 6, 3, 2, 1, 0] rfl ?_
  exact lp_X_steepestFrom_13 C E p1 p2 n11 p1 0 1 x1 σ hw
end
