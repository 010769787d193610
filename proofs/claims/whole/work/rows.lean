section
-- ===== PART A: goes FIRST, ahead of the names: the tables' words, and 'selects' of the private methods out of them =====
/-- a private method of a class that the tables say can be made, by its rows of tables_1 -/
def lw_okq (q : MethodName × Nat) : Prop := (q.1.cls ≠ "java/lang/invoke/MethodHandle" ∧ q.1.cls ≠ "java/lang/invoke/VarHandle") ∧ Cond.instantiable q.1.cls q.2 ∈ tables_1 ∧ Cond.privateMethod q.1 ∈ tables_1 ∧ Cond.instanceMethod q.1 ∈ tables_1
theorem lw_p0 : lw_okq (⟨"java/lang/Throwable", "fillInStackTrace", "(I)Ljava/lang/Throwable;"⟩, 6) := ⟨⟨by decide +kernel, by decide +kernel⟩, List.mem_of_getElem? (i := 160) (by decide +kernel), List.mem_of_getElem? (i := 158) (by decide +kernel), List.mem_of_getElem? (i := 159) (by decide +kernel)⟩
theorem lw_p1 : lw_okq (⟨"UnitStates$Unit", "settle", "(II)V"⟩, 14) := ⟨⟨by decide +kernel, by decide +kernel⟩, List.mem_of_getElem? (i := 20) (by decide +kernel), List.mem_of_getElem? (i := 207) (by decide +kernel), List.mem_of_getElem? (i := 208) (by decide +kernel)⟩
theorem lw_p2 : lw_okq (⟨"UnitStates", "isUnit", "(I)Z"⟩, 10) := ⟨⟨by decide +kernel, by decide +kernel⟩, List.mem_of_getElem? (i := 11) (by decide +kernel), List.mem_of_getElem? (i := 219) (by decide +kernel), List.mem_of_getElem? (i := 220) (by decide +kernel)⟩
theorem lw_p3 : lw_okq (⟨"UnitStates", "putInOrder", "(II)V"⟩, 10) := ⟨⟨by decide +kernel, by decide +kernel⟩, List.mem_of_getElem? (i := 11) (by decide +kernel), List.mem_of_getElem? (i := 251) (by decide +kernel), List.mem_of_getElem? (i := 252) (by decide +kernel)⟩
theorem lw_p4 : lw_okq (⟨"UnitStates", "refuseUnknownUnit", "(I)V"⟩, 10) := ⟨⟨by decide +kernel, by decide +kernel⟩, List.mem_of_getElem? (i := 11) (by decide +kernel), List.mem_of_getElem? (i := 262) (by decide +kernel), List.mem_of_getElem? (i := 263) (by decide +kernel)⟩
theorem lw_p5 : lw_okq (⟨"UnitStates", "replay", "(I)V"⟩, 10) := ⟨⟨by decide +kernel, by decide +kernel⟩, List.mem_of_getElem? (i := 11) (by decide +kernel), List.mem_of_getElem? (i := 267) (by decide +kernel), List.mem_of_getElem? (i := 268) (by decide +kernel)⟩
theorem lw_p6 : lw_okq (⟨"UnitStates$Unit", "startAnew", "()V"⟩, 14) := ⟨⟨by decide +kernel, by decide +kernel⟩, List.mem_of_getElem? (i := 20) (by decide +kernel), List.mem_of_getElem? (i := 271) (by decide +kernel), List.mem_of_getElem? (i := 272) (by decide +kernel)⟩
theorem lw_p7 : lw_okq (⟨"UnitStates$Unit", "take", "(IIII)I"⟩, 14) := ⟨⟨by decide +kernel, by decide +kernel⟩, List.mem_of_getElem? (i := 20) (by decide +kernel), List.mem_of_getElem? (i := 275) (by decide +kernel), List.mem_of_getElem? (i := 276) (by decide +kernel)⟩
theorem lw_p8 : lw_okq (⟨"UnitStates$Unit", "takePlace", "(II)I"⟩, 14) := ⟨⟨by decide +kernel, by decide +kernel⟩, List.mem_of_getElem? (i := 20) (by decide +kernel), List.mem_of_getElem? (i := 279) (by decide +kernel), List.mem_of_getElem? (i := 280) (by decide +kernel)⟩
theorem lw_p9 : lw_okq (⟨"UnitStates$Unit", "takeState", "(IIII)I"⟩, 14) := ⟨⟨by decide +kernel, by decide +kernel⟩, List.mem_of_getElem? (i := 20) (by decide +kernel), List.mem_of_getElem? (i := 283) (by decide +kernel), List.mem_of_getElem? (i := 284) (by decide +kernel)⟩
theorem lw_p10 : lw_okq (⟨"UnitStates$Unit", "drivenUpTo", "(I)I"⟩, 14) := ⟨⟨by decide +kernel, by decide +kernel⟩, List.mem_of_getElem? (i := 20) (by decide +kernel), List.mem_of_getElem? (i := 293) (by decide +kernel), List.mem_of_getElem? (i := 294) (by decide +kernel)⟩
theorem lw_p11 : lw_okq (⟨"UnitStates$Unit", "isRestful", "()Z"⟩, 14) := ⟨⟨by decide +kernel, by decide +kernel⟩, List.mem_of_getElem? (i := 20) (by decide +kernel), List.mem_of_getElem? (i := 297) (by decide +kernel), List.mem_of_getElem? (i := 298) (by decide +kernel)⟩
theorem lw_p12 : lw_okq (⟨"UnitStates$Unit", "takeStation", "(I)I"⟩, 14) := ⟨⟨by decide +kernel, by decide +kernel⟩, List.mem_of_getElem? (i := 20) (by decide +kernel), List.mem_of_getElem? (i := 301) (by decide +kernel), List.mem_of_getElem? (i := 302) (by decide +kernel)⟩
theorem lw_p13 : lw_okq (⟨"UnitStates$Unit", "stationNow", "()I"⟩, 14) := ⟨⟨by decide +kernel, by decide +kernel⟩, List.mem_of_getElem? (i := 20) (by decide +kernel), List.mem_of_getElem? (i := 305) (by decide +kernel), List.mem_of_getElem? (i := 306) (by decide +kernel)⟩
theorem lw_p14 : lw_okq (⟨"UnitStates$Unit", "incidentNow", "()I"⟩, 14) := ⟨⟨by decide +kernel, by decide +kernel⟩, List.mem_of_getElem? (i := 20) (by decide +kernel), List.mem_of_getElem? (i := 309) (by decide +kernel), List.mem_of_getElem? (i := 310) (by decide +kernel)⟩
theorem lw_p15 : lw_okq (⟨"UnitStates$Unit", "isSendable", "(I)Z"⟩, 14) := ⟨⟨by decide +kernel, by decide +kernel⟩, List.mem_of_getElem? (i := 20) (by decide +kernel), List.mem_of_getElem? (i := 314) (by decide +kernel), List.mem_of_getElem? (i := 315) (by decide +kernel)⟩
def lw_privs_1 : List (MethodName × Nat) := [(⟨"java/lang/Throwable", "fillInStackTrace", "(I)Ljava/lang/Throwable;"⟩, 6), (⟨"UnitStates$Unit", "settle", "(II)V"⟩, 14), (⟨"UnitStates", "isUnit", "(I)Z"⟩, 10), (⟨"UnitStates", "putInOrder", "(II)V"⟩, 10), (⟨"UnitStates", "refuseUnknownUnit", "(I)V"⟩, 10), (⟨"UnitStates", "replay", "(I)V"⟩, 10), (⟨"UnitStates$Unit", "startAnew", "()V"⟩, 14), (⟨"UnitStates$Unit", "take", "(IIII)I"⟩, 14), (⟨"UnitStates$Unit", "takePlace", "(II)I"⟩, 14), (⟨"UnitStates$Unit", "takeState", "(IIII)I"⟩, 14), (⟨"UnitStates$Unit", "drivenUpTo", "(I)I"⟩, 14), (⟨"UnitStates$Unit", "isRestful", "()Z"⟩, 14), (⟨"UnitStates$Unit", "takeStation", "(I)I"⟩, 14), (⟨"UnitStates$Unit", "stationNow", "()I"⟩, 14), (⟨"UnitStates$Unit", "incidentNow", "()I"⟩, 14), (⟨"UnitStates$Unit", "isSendable", "(I)Z"⟩, 14)]
theorem lw_r1 : ∀ q ∈ lw_privs_1, lw_okq q := List.forall_mem_cons.mpr ⟨lw_p0, List.forall_mem_cons.mpr ⟨lw_p1, List.forall_mem_cons.mpr ⟨lw_p2, List.forall_mem_cons.mpr ⟨lw_p3, List.forall_mem_cons.mpr ⟨lw_p4, List.forall_mem_cons.mpr ⟨lw_p5, List.forall_mem_cons.mpr ⟨lw_p6, List.forall_mem_cons.mpr ⟨lw_p7, List.forall_mem_cons.mpr ⟨lw_p8, List.forall_mem_cons.mpr ⟨lw_p9, List.forall_mem_cons.mpr ⟨lw_p10, List.forall_mem_cons.mpr ⟨lw_p11, List.forall_mem_cons.mpr ⟨lw_p12, List.forall_mem_cons.mpr ⟨lw_p13, List.forall_mem_cons.mpr ⟨lw_p14, List.forall_mem_cons.mpr ⟨lw_p15, fun _ h => absurd h List.not_mem_nil⟩⟩⟩⟩⟩⟩⟩⟩⟩⟩⟩⟩⟩⟩⟩⟩
theorem lw_p16 : lw_okq (⟨"UnitStates", "rankOf", "(LUnitStates$Unit;)I"⟩, 10) := ⟨⟨by decide +kernel, by decide +kernel⟩, List.mem_of_getElem? (i := 11) (by decide +kernel), List.mem_of_getElem? (i := 318) (by decide +kernel), List.mem_of_getElem? (i := 319) (by decide +kernel)⟩
theorem lw_p17 : lw_okq (⟨"UnitStates$Unit", "isThereAt", "(I)Z"⟩, 14) := ⟨⟨by decide +kernel, by decide +kernel⟩, List.mem_of_getElem? (i := 20) (by decide +kernel), List.mem_of_getElem? (i := 322) (by decide +kernel), List.mem_of_getElem? (i := 323) (by decide +kernel)⟩
theorem lw_p18 : lw_okq (⟨"UnitStates", "replayedUnit", "(II)LUnitStates$Unit;"⟩, 10) := ⟨⟨by decide +kernel, by decide +kernel⟩, List.mem_of_getElem? (i := 11) (by decide +kernel), List.mem_of_getElem? (i := 333) (by decide +kernel), List.mem_of_getElem? (i := 334) (by decide +kernel)⟩
theorem lw_p19 : lw_okq (⟨"UnitStates", "countFindings", "(I)I"⟩, 10) := ⟨⟨by decide +kernel, by decide +kernel⟩, List.mem_of_getElem? (i := 11) (by decide +kernel), List.mem_of_getElem? (i := 366) (by decide +kernel), List.mem_of_getElem? (i := 367) (by decide +kernel)⟩
theorem lw_p20 : lw_okq (⟨"UnitStatesModel", "throwing", "(ZZZ)Z"⟩, 23) := ⟨⟨by decide +kernel, by decide +kernel⟩, List.mem_of_getElem? (i := 387) (by decide +kernel), List.mem_of_getElem? (i := 474) (by decide +kernel), List.mem_of_getElem? (i := 475) (by decide +kernel)⟩
theorem lw_p21 : lw_okq (⟨"UnitStatesModel", "isUnit", "(I)Z"⟩, 23) := ⟨⟨by decide +kernel, by decide +kernel⟩, List.mem_of_getElem? (i := 387) (by decide +kernel), List.mem_of_getElem? (i := 482) (by decide +kernel), List.mem_of_getElem? (i := 483) (by decide +kernel)⟩
theorem lw_p22 : lw_okq (⟨"UnitStatesModel", "rank", "(II)I"⟩, 23) := ⟨⟨by decide +kernel, by decide +kernel⟩, List.mem_of_getElem? (i := 387) (by decide +kernel), List.mem_of_getElem? (i := 498) (by decide +kernel), List.mem_of_getElem? (i := 499) (by decide +kernel)⟩
theorem lw_p23 : lw_okq (⟨"UnitStatesModel", "follow", "(III)V"⟩, 23) := ⟨⟨by decide +kernel, by decide +kernel⟩, List.mem_of_getElem? (i := 387) (by decide +kernel), List.mem_of_getElem? (i := 502) (by decide +kernel), List.mem_of_getElem? (i := 503) (by decide +kernel)⟩
theorem lw_p24 : lw_okq (⟨"UnitStatesModel", "next", "(III)I"⟩, 23) := ⟨⟨by decide +kernel, by decide +kernel⟩, List.mem_of_getElem? (i := 387) (by decide +kernel), List.mem_of_getElem? (i := 506) (by decide +kernel), List.mem_of_getElem? (i := 507) (by decide +kernel)⟩
theorem lw_p25 : lw_okq (⟨"UnitStatesModel", "take", "(II)V"⟩, 23) := ⟨⟨by decide +kernel, by decide +kernel⟩, List.mem_of_getElem? (i := 387) (by decide +kernel), List.mem_of_getElem? (i := 510) (by decide +kernel), List.mem_of_getElem? (i := 511) (by decide +kernel)⟩
theorem lw_p26 : lw_okq (⟨"UnitStatesModel", "become", "(I)V"⟩, 23) := ⟨⟨by decide +kernel, by decide +kernel⟩, List.mem_of_getElem? (i := 387) (by decide +kernel), List.mem_of_getElem? (i := 517) (by decide +kernel), List.mem_of_getElem? (i := 518) (by decide +kernel)⟩
theorem lw_p27 : lw_okq (⟨"UnitStatesModel", "spend", "(I)V"⟩, 23) := ⟨⟨by decide +kernel, by decide +kernel⟩, List.mem_of_getElem? (i := 387) (by decide +kernel), List.mem_of_getElem? (i := 521) (by decide +kernel), List.mem_of_getElem? (i := 522) (by decide +kernel)⟩
theorem lw_p28 : lw_okq (⟨"UnitStatesModel", "ahead", "(III)I"⟩, 23) := ⟨⟨by decide +kernel, by decide +kernel⟩, List.mem_of_getElem? (i := 387) (by decide +kernel), List.mem_of_getElem? (i := 525) (by decide +kernel), List.mem_of_getElem? (i := 526) (by decide +kernel)⟩
theorem lw_p29 : lw_okq (⟨"UnitStatesModel", "incidentNow", "()I"⟩, 23) := ⟨⟨by decide +kernel, by decide +kernel⟩, List.mem_of_getElem? (i := 387) (by decide +kernel), List.mem_of_getElem? (i := 529) (by decide +kernel), List.mem_of_getElem? (i := 530) (by decide +kernel)⟩
theorem lw_p30 : lw_okq (⟨"UnitStatesModel", "saidOf", "(I)I"⟩, 23) := ⟨⟨by decide +kernel, by decide +kernel⟩, List.mem_of_getElem? (i := 387) (by decide +kernel), List.mem_of_getElem? (i := 549) (by decide +kernel), List.mem_of_getElem? (i := 550) (by decide +kernel)⟩
def lw_privs_2 : List (MethodName × Nat) := [(⟨"UnitStates", "rankOf", "(LUnitStates$Unit;)I"⟩, 10), (⟨"UnitStates$Unit", "isThereAt", "(I)Z"⟩, 14), (⟨"UnitStates", "replayedUnit", "(II)LUnitStates$Unit;"⟩, 10), (⟨"UnitStates", "countFindings", "(I)I"⟩, 10), (⟨"UnitStatesModel", "throwing", "(ZZZ)Z"⟩, 23), (⟨"UnitStatesModel", "isUnit", "(I)Z"⟩, 23), (⟨"UnitStatesModel", "rank", "(II)I"⟩, 23), (⟨"UnitStatesModel", "follow", "(III)V"⟩, 23), (⟨"UnitStatesModel", "next", "(III)I"⟩, 23), (⟨"UnitStatesModel", "take", "(II)V"⟩, 23), (⟨"UnitStatesModel", "become", "(I)V"⟩, 23), (⟨"UnitStatesModel", "spend", "(I)V"⟩, 23), (⟨"UnitStatesModel", "ahead", "(III)I"⟩, 23), (⟨"UnitStatesModel", "incidentNow", "()I"⟩, 23), (⟨"UnitStatesModel", "saidOf", "(I)I"⟩, 23)]
theorem lw_r2 : ∀ q ∈ lw_privs_2, lw_okq q := List.forall_mem_cons.mpr ⟨lw_p16, List.forall_mem_cons.mpr ⟨lw_p17, List.forall_mem_cons.mpr ⟨lw_p18, List.forall_mem_cons.mpr ⟨lw_p19, List.forall_mem_cons.mpr ⟨lw_p20, List.forall_mem_cons.mpr ⟨lw_p21, List.forall_mem_cons.mpr ⟨lw_p22, List.forall_mem_cons.mpr ⟨lw_p23, List.forall_mem_cons.mpr ⟨lw_p24, List.forall_mem_cons.mpr ⟨lw_p25, List.forall_mem_cons.mpr ⟨lw_p26, List.forall_mem_cons.mpr ⟨lw_p27, List.forall_mem_cons.mpr ⟨lw_p28, List.forall_mem_cons.mpr ⟨lw_p29, List.forall_mem_cons.mpr ⟨lw_p30, fun _ h => absurd h List.not_mem_nil⟩⟩⟩⟩⟩⟩⟩⟩⟩⟩⟩⟩⟩⟩⟩
def lw_privs : List (MethodName × Nat) := lw_privs_1 ++ (lw_privs_2)
def lw_tbl : List Cond := k2_sels lw_privs ++ tables_1
theorem lw_privs_ok : ∀ q ∈ lw_privs, lw_okq q := by
  show ∀ q ∈ lw_privs_1 ++ (lw_privs_2), lw_okq q
  exact List.forall_mem_append.mpr ⟨lw_r1, lw_r2⟩

/-! ===== BEGIN words of one list among another's, by their places ===== -/
theorem goodIn_r {big : List Cond} (ws : List Cond) (ps : List Nat) (hp : ws = ps.filterMap (fun i => big[i]?)) (h : ws.all goodWord = true) : GoodIn big ws := by
  intro w hw
  have h1 := List.all_eq_true.mp h w hw
  rw [hp] at hw
  obtain ⟨i, -, hi⟩ := List.mem_filterMap.mp hw
  have hm : w ∈ big := by first | exact List.mem_of_getElem? hi | exact List.getElem?_mem hi
  exact ⟨hm, good_of_word h1⟩
theorem goodIn_app {big a b : List Cond} (ha : GoodIn big a) (hb : GoodIn big b) : GoodIn big (a ++ b) := fun w h => (List.mem_append.mp h).elim (ha w) (hb w)
theorem goodIn_ca {big a b : List Cond} {c : Cond} (ha : GoodIn big (c :: a)) (hb : GoodIn big b) : GoodIn big (c :: (a ++ b)) := fun w h => (List.mem_cons.mp h).elim (fun e => ha w (List.mem_cons.mpr (Or.inl e))) (fun h => (List.mem_append.mp h).elim (fun h => ha w (List.mem_cons.mpr (Or.inr h))) (hb w))
theorem goodIn_sub {big ws : List Cond} (hm : ∀ w ∈ ws, w ∈ big) (h : ws.all goodWord = true) : GoodIn big ws := fun w hw => ⟨hm w hw, good_of_word (List.all_eq_true.mp h w hw)⟩
/-! ===== END ===== -/

/-! ===== BEGIN exceptions that leave a method, and their catching by the caller (launches without stack traces) ===== -/
section VXA
/-! The laws vx_back, vx_callV, vx_callS, vx_callSW, vx_throw0, vx_throwS follow proofs of the library, with one case more: JvmDerived/Free/Laws.lean (Back.of_free), Shelf42/LK1.lean (callV, callS), Shelf/KitTraced.lean (throwNew0V, throwNewS). -/
/-- where a method has thrown q: the class by its name, the cell, what was written, the world -/
def vx_T (XC : String → State → State → Prop) (st : State) (q : Addr) (t : State) (mc ms : Nat) (free : Addr → Prop) : Prop :=
  ∃ (E : String) (ce : Cell) (L : List Loc), XC E st t ∧ t.heap[q]? = some ce ∧ ce.vm = .none ∧ st.vm.findClass E = some ce.cls ∧ st.WarmedH t.vm ∧ st.sameButNew ({ t with vm := st.vm } : State) L mc ms ∧ ∀ z ∈ L, free z.base
def vx_Q (Qc : Array Value → State → Outcome → State → Prop) (XC : String → State → State → Prop) (mc ms : Nat) (free : Addr → Prop) : Array Value → State → Outcome → State → Prop := fun a st o t =>
  (Qc a st o t ∧ ∃ L, FrameEnd st o t L mc ms ∧ ∀ q ∈ L, free q.base) ∨ ∃ q, o = .threw q ∧ vx_T XC st q t mc ms free
/-- a callee that returns or throws -/
def vx_Met (l : Launch) (y : MethodName) (ws : List Cond) (rm : Room) (Pc : Array Value → State → Prop) (Qc : Array Value → State → Outcome → State → Prop) (XC : String → State → State → Prop) (mc ms : Nat) (free : Addr → Prop) : Prop :=
  MetFree l y (headSpec ws rm) Pc (fun _ _ _ _ _ => True) (vx_Q Qc XC mc ms free)
def vx_Post (XC : String → State → State → Prop) (mc ms : Nat) (free : Addr → Prop) : Pt → Array Value → Addr → Pt → Prop := fun A a q B =>
  ∃ (g : JFrame) (mk : MethodId) (t : State) (L : List Loc) (E : String) (ce : Cell), B.U.heap = t.heap ∧ B.U.vm = t.vm ∧ XC E (A.U.calling g mk a) t ∧ t.heap[q]? = some ce ∧ ce.vm = .none ∧ A.U.vm.findClass E = some ce.cls ∧ B.locs = A.locs ++ L ∧ (∀ z ∈ L, free z.base) ∧ B.cells = A.cells + mc ∧ B.slots = A.slots + ms
def vx_Back (l : Launch) (R : Room) (p : Program) (e : Env) (below : List Frame) (s : State) (sargs : Array Value) (y : MethodName) (len W9 : Nat)
    (Pre : Pt → Array Value → Prop) (Post : Pt → Array Value → Option Value → Pt → Prop) (PostX : Pt → Array Value → Addr → Pt → Prop) : Prop :=
  ∀ (m : MethodId) (meth : Method) (c : Code) (A : Pt) (g : JFrame) (ig : Instr) (mk : MethodId) (a : Array Value),
    Stand p l e R s m sargs below meth c A.U A.locs A.cells A.slots → g.method = m → g.locals.size = c.maxLocals → decode c.code g.pc = .ok (ig, len) →
    2 * g.monitorRoom + (g.stack.map fun v => v.category).sum ≤ W9 → A.U.methodNamed? y = some mk → Pre A a →
    (∃ (v : Option Value) (B : Pt), Stand p l e R s m sargs below meth c B.U B.locs B.cells B.slots ∧ Post A a v B ∧
      Steps p.tables e below (doInvoke e (A.U.setTop g) [] mk a).1 (B.U.setTop { g with pc := g.pc + len, stack := v.toList ++ g.stack })) ∨
    (∃ (q : Addr) (B : Pt), Stand p l e R s m sargs below meth c B.U B.locs B.cells B.slots ∧ PostX A a q B ∧
      Steps p.tables e below (doInvoke e (A.U.setTop g) [] mk a).1 ((B.U.setTop g).pushFrame (.throwing q)))
section Payer
variable {l : Launch} {R : Room} {p : Program} {e : Env} {below : List Frame} {s : State} {sargs : Array Value} {y : MethodName} {len W9 : Nat}
theorem vx_back {ws : List Cond} {rm : Room} {Pc : Array Value → State → Prop} {Qc : Array Value → State → Outcome → State → Prop} {XC : String → State → State → Prop} {mc ms : Nat} {free : Addr → Prop} {bytes : ByteArray} {maxL : Nat} {ret : Option FieldType}
    (hM : vx_Met l y ws rm Pc Qc XC mc ms free) (hblind : FrameBlind Pc) (hrc : rm.cells = mc) (hrs : rm.slots = ms)
    (hframes : rm.frames + 1 ≤ R.frames) (hlocals : W9 + (maxL + 11) + rm.locals ≤ R.locals)
    (hws : ∀ w ∈ ws, ∀ a' U, s.WarmedH U.vm → w.before a' U = true) (hcode : Cond.code y bytes maxL ret ∈ ws) (hinit : ∀ a' U, s.WarmedH U.vm → (Cond.initialized y.cls).before a' U = true) :
    vx_Back l R p e below s sargs y len W9 (PreOf R mc ms Pc) (PostOf Qc mc ms free) (vx_Post XC mc ms free) := by
  intro m meth c A g ig mk a X hg hsize hdg hW hn hp
  have h1 : (headSpec ws rm).pre.before a A.U = true := atoms_intro fun w hw => hws w hw _ _ X.warmed
  have h2 : (Cond.code y bytes maxL ret).before a A.U = true := hws _ hcode _ _ X.warmed
  have h3 : (Cond.initialized y.cls).before a A.U = true := hinit _ _ X.warmed
  have h4 : A.cells + (headSpec ws rm).room.cells ≤ R.cells := by rw [show (headSpec ws rm).room.cells = mc from hrc]; exact hp.1
  have h5 : A.slots + (headSpec ws rm).room.slots ≤ R.slots := by rw [show (headSpec ws rm).room.slots = ms from hrs]; exact hp.2.1
  have hPc : Pc a (A.U.calling g mk a) := hblind _ _ _ _ hp.2.2
  obtain ⟨U, Ls, c0, s0⟩ := A
  dsimp only [Pt.U, Pt.locs, Pt.cells, Pt.slots] at h1 h2 h3 h4 h5 X hn hPc ⊢
  obtain ⟨methY, cY, hmY, hcY, -, hlY, -, -, -, -⟩ := Cond.code_spec hn h2
  obtain ⟨kY, hkY, -⟩ := className_of_methodNamed hn
  have hinitY : kY.init = .initialized := Cond.initialized_spec (findClass_of_methodNamed hn) hkY h3
  have h : At U g.method c below := by rw [hg]; exact X.here
  have hlocals9 : W9 + (maxL + 11) + (headSpec ws rm).room.locals ≤ R.locals := hlocals
  have happ : (headSpec ws rm).appliesLoose y e.platform (U.calling g mk a) = true :=
    Spec.appliesLoose_calling (g := g) h hdg hn hkY hinitY
      (X.room_calling (g := g) (R' := (headSpec ws rm).room) hsize hmY hcY hframes (by rw [hlY]; omega) h4 h5) h1
  obtain ⟨mid, hmid⟩ := h.above
  have hfr : (U.setTop g).frames = (.java g :: mid) ++ below := by rw [State.frames_setTop' g h.top, hmid]; rfl
  obtain ⟨o, s₂, hsteps, -, hend, hq⟩ := Steps.callFree hM p X.admits X.cas X.clock (acts := []) hfr happ hPc trivial
  have hq' : vx_Q Qc XC mc ms free a (U.calling g mk a) o s₂ := hq
  rw [State.frames_setTop' g h.top] at hend
  obtain ⟨g₀, hg0⟩ := Option.isSome_iff_exists.mp h.top
  obtain ⟨r, hr⟩ := State.topJava?_eq_some.mp hg0
  have hr' : (({ U with heap := s₂.heap, slotsUsed := s₂.slotsUsed } : State).setVm s₂.vm).frames = .java g₀ :: r := hr
  rcases hq' with ⟨hqc, L, hfe, hL⟩ | ⟨q, rfl, E, ce, L, hx, hce, hcv, hcl, hW₂, hsm, hL⟩
  · obtain ⟨⟨v, rfl⟩, hW₂, e2, q2, q3, q4, q5, q6⟩ := id hfe
    have e3 : s₂ = ({ (U.calling g mk a).setFrames s₂.frames with heap := s₂.heap, slotsUsed := s₂.slotsUsed } : State).setVm s₂.vm := by
      have : s₂ = ({ s₂ with vm := (U.calling g mk a).vm } : State).setVm s₂.vm := rfl
      rw [e2] at this
      exact this
    obtain ⟨c₂, i₂, len₂, hc₂, hd₂, hf₂⟩ := hend
    have hW' : U.WarmedH s₂.vm := hW₂
    have hcc : c₂ = c := by
      have h1 : s₂.code? g.method = U.code? g.method := by
        rw [State.code?_eq, State.code?_eq, hW'.alike.method?]
      exact Option.some.inj (hc₂.symm.trans (h1.trans h.code))
    subst hcc
    have hlen : len₂ = len := by rw [hdg] at hd₂; cases hd₂; rfl
    subst hlen
    have hs₂ : s₂ = (({ U with heap := s₂.heap, slotsUsed := s₂.slotsUsed } : State).setVm s₂.vm).setTop { g with pc := g.pc + len₂, stack := v.toList ++ g.stack } := by
      refine e3.trans ?_
      rw [hf₂, State.calling_eq h.top, State.setFrames_setFrames, State.setTop_of_frames _ hr', hr]
      rfl
    have hsame : U.sameButNew ({ U with heap := s₂.heap, slotsUsed := s₂.slotsUsed } : State) L mc ms := by
      refine ⟨?_, q2, q3, q4, q5, q6⟩
      obtain ⟨t, ht, -⟩ := State.frames_cons hr
      show ({ U with heap := s₂.heap, slotsUsed := s₂.slotsUsed } : State) = { U.setFrames U.frames with heap := s₂.heap, slotsUsed := s₂.slotsUsed }
      rw [State.setFrames_self ht]
    subst hg
    refine Or.inl ⟨v, ⟨(({ U with heap := s₂.heap, slotsUsed := s₂.slotsUsed } : State).setVm s₂.vm), Ls ++ L, c0 + mc, s0 + ms⟩,
      ⟨X.admits, X.cas, X.clock, X.frames, X.room, X.hears, X.method, X.code, (X.here.setHeapUsed s₂.heap s₂.slotsUsed).setVm hW'.alike, X.tail, State.WarmedH.trans X.warmed hW', X.limits, X.bytes, X.same.trans (hsame.setVm s.vm)⟩,
      ⟨g, mk, s₂, L, rfl, rfl, hqc, rfl, hL, rfl, rfl⟩, ?_⟩
    show Steps p.tables e below _ ((({ U with heap := s₂.heap, slotsUsed := s₂.slotsUsed } : State).setVm s₂.vm).setTop { g with pc := g.pc + len₂, stack := v.toList ++ g.stack })
    rw [← hs₂]
    exact hsteps
  · obtain ⟨e2, q2, q3, q4, q5, q6⟩ := id hsm
    have e3 : s₂ = ({ (U.calling g mk a).setFrames s₂.frames with heap := s₂.heap, slotsUsed := s₂.slotsUsed } : State).setVm s₂.vm := by
      have : s₂ = ({ s₂ with vm := (U.calling g mk a).vm } : State).setVm s₂.vm := rfl
      rw [e2] at this
      exact this
    have hf₂ : s₂.frames = .throwing q :: .java g :: U.frames.tail := hend
    have hW' : U.WarmedH s₂.vm := hW₂
    have hs₂ : s₂ = ((({ U with heap := s₂.heap, slotsUsed := s₂.slotsUsed } : State).setVm s₂.vm).setTop g).pushFrame (.throwing q) := by
      refine e3.trans ?_
      rw [hf₂, State.calling_eq h.top, State.setFrames_setFrames, State.pushFrame, State.frames_setTop _ hr', State.setTop_of_frames _ hr', State.setFrames_setFrames, hr]
      rfl
    have hsame : U.sameButNew ({ U with heap := s₂.heap, slotsUsed := s₂.slotsUsed } : State) L mc ms := by
      refine ⟨?_, q2, q3, q4, q5, q6⟩
      obtain ⟨t, ht, -⟩ := State.frames_cons hr
      show ({ U with heap := s₂.heap, slotsUsed := s₂.slotsUsed } : State) = { U.setFrames U.frames with heap := s₂.heap, slotsUsed := s₂.slotsUsed }
      rw [State.setFrames_self ht]
    subst hg
    refine Or.inr ⟨q, ⟨(({ U with heap := s₂.heap, slotsUsed := s₂.slotsUsed } : State).setVm s₂.vm), Ls ++ L, c0 + mc, s0 + ms⟩,
      ⟨X.admits, X.cas, X.clock, X.frames, X.room, X.hears, X.method, X.code, (X.here.setHeapUsed s₂.heap s₂.slotsUsed).setVm hW'.alike, X.tail, State.WarmedH.trans X.warmed hW', X.limits, X.bytes, X.same.trans (hsame.setVm s.vm)⟩,
      ⟨g, mk, s₂, L, E, ce, rfl, rfl, hx, hce, hcv, hcl, rfl, hL, rfl, rfl⟩, ?_⟩
    show Steps p.tables e below _ (((({ U with heap := s₂.heap, slotsUsed := s₂.slotsUsed } : State).setVm s₂.vm).setTop g).pushFrame (.throwing q))
    rw [← hs₂]
    exact hsteps
end Payer
section Calls
variable {p : Program} {l : Launch} {e : Env} {R : Room} {s : State} {m : MethodId} {args : Array Value} {below : List Frame} {meth : Method} {c : Code} {T : State} {locs : List Loc} {cells slots : Nat}
theorem vx_callV (X : Stand p l e R s m args below meth c T locs cells slots) (hexec : p.tables.exec = Jvm.exec) {own C : String} {index : Nat} {y : MethodName} {bytes : ByteArray} {maxL : Nat} {ret : Option FieldType}
    (hown : s.vm.findClass own = some m.cls) (hlink : (Cond.methodLink own index y).before args s = true) (hinst : (Cond.instanceMethod y).before args s = true) (hsel : (Cond.selects C y y).before args s = true)
    (hcode : (Cond.code y bytes maxL ret).before args s = true) (hy : y.cls ≠ "java/lang/invoke/MethodHandle" ∧ y.cls ≠ "java/lang/invoke/VarHandle")
    {W9 : Nat} {Pre : Pt → Array Value → Prop} {Post : Pt → Array Value → Option Value → Pt → Prop} {PostX : Pt → Array Value → Addr → Pt → Prop} (hK : vx_Back l R p e below s args y 3 W9 Pre Post PostX)
    {b : Addr} {cellB : Cell} (hcell : T.heap[b]? = some cellB) (hobj : cellB.vm.isStatics = false) (hcls : s.vm.findClass C = some cellB.cls)
    {g : JFrame} (hg : g.method = m) (hsize : g.locals.size = c.maxLocals) {argsL rest : List Value} (hlen : ∀ sig, parseMethodDescriptor y.desc = some sig → argsL.length = sig.parameters.length)
    (hstack : g.stack = argsL.reverse ++ .ref b :: rest) (hW : 2 * g.monitorRoom + (rest.map fun v => v.category).sum ≤ W9) (hdg : decode c.code g.pc = .ok (.invokevirtual index, 3))
    (hpre : ∀ vm₁, s.WarmedH vm₁ → Pre ⟨T.setVm vm₁, locs, cells, slots⟩ (Value.ref b :: argsL).toArray) :
    (∃ (v : Option Value) (vm₁ : Vm) (B : Pt), s.WarmedH vm₁ ∧ Stand p l e R s m args below meth c B.U B.locs B.cells B.slots ∧ Post ⟨T.setVm vm₁, locs, cells, slots⟩ (Value.ref b :: argsL).toArray v B ∧
      ∀ target, Steps p.tables e below (B.U.setTop { g with pc := g.pc + 3, stack := v.toList ++ rest }) target → Steps p.tables e below (T.setTop g) target) ∨
    (∃ (q : Addr) (vm₁ : Vm) (B : Pt), s.WarmedH vm₁ ∧ Stand p l e R s m args below meth c B.U B.locs B.cells B.slots ∧ PostX ⟨T.setVm vm₁, locs, cells, slots⟩ (Value.ref b :: argsL).toArray q B ∧
      Steps p.tables e below (T.setTop g) ((B.U.setTop { g with stack := rest }).pushFrame (.throwing q))) := by
  obtain ⟨mk, methM, hnamed, hmethM, hstM, habM⟩ := Cond.instanceMethod_spec hinst
  obtain ⟨methM', cM, hmethM', -, -, -, -, -, -, hsigM⟩ := Cond.code_spec hnamed hcode
  cases hmethM.symm.trans hmethM'
  obtain ⟨c2, r2, m2, q1, q2, q3, q4, kP, hkP, hkPi⟩ := Cond.selects_spec hsel
  cases hcls.symm.trans q1
  cases (State.methodFound?_of_named hnamed hy).symm.trans q2
  cases hnamed.symm.trans q3
  have hselP : selectMethod e.platform s.vm cellB.cls mk = .method mk := by rw [Launch.admits_selectMethod X.admits]; exact q4
  obtain ⟨vm₁, X₁, hstep₁⟩ := X.invokevirtual hexec hown hlink hnamed hmethM hstM hkP hkPi hy (a := b) (cell := cellB) hcell
    (fun z h => by rw [h] at hobj; cases hobj) hselP hmethM habM hkP hkPi (g := g) hg (argsL := argsL) (rest := rest) (hlen _ hsigM) hstack hdg
  rcases hK m meth c ⟨T.setVm vm₁, locs, cells, slots⟩ { g with stack := rest } (.invokevirtual index) mk (Value.ref b :: argsL).toArray X₁ hg hsize hdg hW (X₁.named hnamed) (hpre vm₁ X₁.warmed) with ⟨v, B, X', hpost, hsteps⟩ | ⟨q, B, X', hpost, hsteps⟩
  · exact Or.inl ⟨v, vm₁, B, X₁.warmed, X', hpost, fun target h => hstep₁ _ fun acts => by rw [doInvoke_state]; exact hsteps.trans h⟩
  · exact Or.inr ⟨q, vm₁, B, X₁.warmed, X', hpost, hstep₁ _ fun acts => by rw [doInvoke_state]; exact hsteps⟩
theorem vx_callS (X : Stand p l e R s m args below meth c T locs cells slots) (hexec : p.tables.exec = Jvm.exec) {own : String} {index : Nat} {y : MethodName} {bytes : ByteArray} {maxL : Nat} {ret : Option FieldType}
    (hown : s.vm.findClass own = some m.cls) (hlink : (Cond.methodLink own index y).before args s = true) (hstat : (Cond.static y).before args s = true) (hinit : (Cond.initialized y.cls).before args s = true)
    (hcode : (Cond.code y bytes maxL ret).before args s = true) (hy : y.cls ≠ "java/lang/invoke/MethodHandle" ∧ y.cls ≠ "java/lang/invoke/VarHandle")
    {W9 : Nat} {Pre : Pt → Array Value → Prop} {Post : Pt → Array Value → Option Value → Pt → Prop} {PostX : Pt → Array Value → Addr → Pt → Prop} (hK : vx_Back l R p e below s args y 3 W9 Pre Post PostX)
    {g : JFrame} (hg : g.method = m) (hsize : g.locals.size = c.maxLocals) {argsL rest : List Value} (hlen : ∀ sig, parseMethodDescriptor y.desc = some sig → argsL.length = sig.parameters.length)
    (hstack : g.stack = argsL.reverse ++ rest) (hW : 2 * g.monitorRoom + (rest.map fun v => v.category).sum ≤ W9) (hdg : decode c.code g.pc = .ok (.invokestatic index, 3))
    (hpre : ∀ vm₁, s.WarmedH vm₁ → Pre ⟨T.setVm vm₁, locs, cells, slots⟩ argsL.toArray) :
    (∃ (v : Option Value) (vm₁ : Vm) (B : Pt), s.WarmedH vm₁ ∧ Stand p l e R s m args below meth c B.U B.locs B.cells B.slots ∧ Post ⟨T.setVm vm₁, locs, cells, slots⟩ argsL.toArray v B ∧
      ∀ target, Steps p.tables e below (B.U.setTop { g with pc := g.pc + 3, stack := v.toList ++ rest }) target → Steps p.tables e below (T.setTop g) target) ∨
    (∃ (q : Addr) (vm₁ : Vm) (B : Pt), s.WarmedH vm₁ ∧ Stand p l e R s m args below meth c B.U B.locs B.cells B.slots ∧ PostX ⟨T.setVm vm₁, locs, cells, slots⟩ argsL.toArray q B ∧
      Steps p.tables e below (T.setTop g) ((B.U.setTop { g with stack := rest }).pushFrame (.throwing q))) := by
  obtain ⟨mk, hnamed⟩ := Cond.code_named hcode
  obtain ⟨methM, cM, hmethM, -, -, -, -, -, -, hsigM⟩ := Cond.code_spec hnamed hcode
  have hstatic : methM.isStatic = true := Cond.static_spec hnamed hmethM hstat
  obtain ⟨kP, hkP, -⟩ := className_of_methodNamed hnamed
  have hinitP : kP.init = .initialized := Cond.initialized_spec (findClass_of_methodNamed hnamed) hkP hinit
  obtain ⟨vm₁, X₁, hstep₁⟩ := X.invokestatic hexec hown hlink hnamed hmethM hstatic hkP hinitP hy (g := g) hg (argsL := argsL) (rest := rest) (hlen _ hsigM) hstack hdg
  rcases hK m meth c ⟨T.setVm vm₁, locs, cells, slots⟩ { g with stack := rest } (.invokestatic index) mk argsL.toArray X₁ hg hsize hdg hW (X₁.named hnamed) (hpre vm₁ X₁.warmed) with ⟨v, B, X', hpost, hsteps⟩ | ⟨q, B, X', hpost, hsteps⟩
  · exact Or.inl ⟨v, vm₁, B, X₁.warmed, X', hpost, fun target h => hstep₁ _ fun acts => by rw [doInvoke_state]; exact hsteps.trans h⟩
  · exact Or.inr ⟨q, vm₁, B, X₁.warmed, X', hpost, hstep₁ _ fun acts => by rw [doInvoke_state]; exact hsteps⟩
end Calls
theorem vx_cls {s : State} {T : State} {vm₁ : Vm} {E : String} {k : ClassId} (hW : s.WarmedH vm₁) (h : (T.setVm vm₁).vm.findClass E = some k) : s.vm.findClass E = some k := by
  have h1 : vm₁.findClass E = some k := h
  rw [hW.alike.findClass] at h1
  exact h1
/-- the method's frame g, with q thrown over it -/
def vx_W (p : Program) (l : Launch) (e : Env) (R : Room) (s : State) (m : MethodId) (args : Array Value) (below : List Frame) (meth : Method) (c : Code) (H : Heap) (locs : List Loc) (cells slots : Nat) (Q : State → Prop) (g : JFrame) (q : Addr) : Prop :=
  ∀ T : State, T.heap = H → Stand p l e R s m args below meth c T locs cells slots → ∃ t, Steps p.tables e below ((T.setTop g).pushFrame (.throwing q)) t ∧ Q t
def vx_Run (p : Program) (l : Launch) (e : Env) (R : Room) (s : State) (m : MethodId) (args : Array Value) (below : List Frame) (meth : Method) (c : Code) (H : Heap) (locs : List Loc) (cells slots mc ms : Nat) (g : JFrame) (rest : List Value) (Qa : State → Outcome → State → Prop) (XC : String → State → State → Prop) (free : Addr → Prop) : Prop :=
  ∀ T : State, T.heap = H → Stand p l e R s m args below meth c T locs cells slots →
    (∃ (v : Option Value) (st₀ t T' : State) (L : List Loc), st₀.heap = H ∧ Stand p l e R s m args below meth c T' (locs ++ L) (cells + mc) (slots + ms) ∧ (∀ q ∈ L, free q.base) ∧ T'.heap = t.heap ∧ T'.vm = t.vm ∧ Qa st₀ (.returned v) t ∧
      Goes p e below T g T' { g with pc := g.pc + 3, stack := v.toList ++ rest }) ∨
    (∃ (q : Addr) (st₀ t T' : State) (L : List Loc) (E : String) (ce : Cell), st₀.heap = H ∧ Stand p l e R s m args below meth c T' (locs ++ L) (cells + mc) (slots + ms) ∧ (∀ z ∈ L, free z.base) ∧ T'.heap = t.heap ∧ T'.vm = t.vm ∧ XC E st₀ t ∧ t.heap[q]? = some ce ∧ ce.vm = .none ∧ s.vm.findClass E = some ce.cls ∧
      Steps p.tables e below (T.setTop g) ((T'.setTop { g with stack := rest }).pushFrame (.throwing q)))
def vx_X {S : Type} (px : S → Prop) (B : String → S → State → Prop) (A : Nat → Prop) : String → State → State → Prop := fun E st t => ∃ u : S, px u ∧ B E u t ∧ va_F A st t
section Runs
variable {p : Program} {l : Launch} {e : Env} {R : Room} {s : State} {m : MethodId} {args : Array Value} {below : List Frame} {meth : Method} {c : Code} {H : Heap} {locs : List Loc} {cells slots : Nat}
variable {y : MethodName} {bytes cc : ByteArray} {maxL nL mc ms n index : Nat} {ret : Option FieldType} {ws : List Cond} {rm : Room} {Pc : Array Value → State → Prop} {Qc : Array Value → State → Outcome → State → Prop} {XC : String → State → State → Prop} {free : Addr → Prop} {Ts : List Cond} {own C : String} {b : Addr} {As rest : List Value} {g : JFrame}
theorem vx_callBack (cb : CallB R s args own index y bytes maxL ret ws rm mc ms n) (hM : vx_Met l y ws rm Pc Qc XC mc ms free) (hbl : FrameBlind Pc) : vx_Back l R p e below s args y 3 8 (PreOf R mc ms Pc) (PostOf Qc mc ms free) (vx_Post XC mc ms free) := by
  obtain ⟨hrc, hrs, hfr, hlo, hws, hcw, -, hini, -⟩ := cb
  exact vx_back (bytes := bytes) (maxL := maxL) (ret := ret) hM hbl hrc hrs hfr hlo hws hcw (fun a' U hW => word_at hW (Or.inl (by first | rfl | simp [Cond.onTables, Cond.keeps, Cond.steady])) hini)
theorem vx_runV (S : CallFix p m c cc nL s args Ts own) (hM : vx_Met l y ws rm Pc Qc XC mc ms free) (cw : CallW R s args own C index y bytes maxL ret ws rm mc ms n) (hp : PreV s H C b Pc As)
    (hg : g.method = m) (hn : As.length = n) (hsize : g.locals.size = nL) (hstack : g.stack = As.reverse ++ .ref b :: rest) (hW : 2 * g.monitorRoom + (rest.map fun v => v.category).sum ≤ 8) (hdg : decode cc g.pc = .ok (.invokevirtual index, 3)) (hf : cells + mc ≤ R.cells ∧ slots + ms ≤ R.slots) :
    vx_Run p l e R s m args below meth c H locs cells slots mc ms g rest (Qc (Value.ref b :: As).toArray) XC free := by
  have hK : vx_Back l R p e below s args y 3 8 (PreOf R mc ms Pc) (PostOf Qc mc ms free) (vx_Post XC mc ms free) := vx_callBack cw.1 hM hp.1
  obtain ⟨⟨-, -, -, -, -, -, hcode, -, hy, hlen, hl⟩, hin, hse⟩ := cw
  obtain ⟨hx, hb, hml, ho, -⟩ := S
  obtain ⟨-, ⟨cellB, hcB, hoB, hclB⟩, hPc⟩ := hp
  intro T hT X
  rcases vx_callV X hx (C := C) (bytes := bytes) (maxL := maxL) (ret := ret) ho hl hin hse hcode hy hK (by rw [hT]; exact hcB) hoB hclB hg (hsize.trans hml.symm) (argsL := As) (rest := rest) (fun sig h => hn.trans (hlen sig h)) hstack hW (by rw [hb]; exact hdg)
    (fun vm₁ hW₁ => ⟨hf.1, hf.2, hPc (T.setVm vm₁) hT hW₁⟩) with ⟨v, vm₁, ⟨U', l2, c2, s2⟩, hW₁, X', ⟨g', mk, t, L, e1, e2, hq, h1, hL, h2, h3⟩, st⟩ | ⟨q, vm₁, ⟨U', l2, c2, s2⟩, hW₁, X', ⟨g', mk, t, L, E, ce, e1, e2, hq, hce, hcv, hcl, h1, hL, h2, h3⟩, st⟩
  · dsimp only [Pt.U, Pt.locs, Pt.cells, Pt.slots] at X' e1 e2 h1 h2 h3 st
    subst h1; subst h2; subst h3
    exact Or.inl ⟨v, (T.setVm vm₁).calling g' mk (Value.ref b :: As).toArray, t, U', L, hT, X', hL, e1, e2, hq, st⟩
  · dsimp only [Pt.U, Pt.locs, Pt.cells, Pt.slots] at X' e1 e2 h1 h2 h3 st hcl
    subst h1; subst h2; subst h3
    exact Or.inr ⟨q, (T.setVm vm₁).calling g' mk (Value.ref b :: As).toArray, t, U', L, E, ce, hT, X', hL, e1, e2, hq, hce, hcv, vx_cls hW₁ hcl, st⟩
theorem vx_runS (S : CallFix p m c cc nL s args Ts own) (hM : vx_Met l y ws rm Pc Qc XC mc ms free) (cw : CallB R s args own index y bytes maxL ret ws rm mc ms n ∧ (Cond.static y).before args s = true) (hp : PreS s H Pc As)
    (hg : g.method = m) (hn : As.length = n) (hsize : g.locals.size = nL) (hstack : g.stack = As.reverse ++ rest) (hW : 2 * g.monitorRoom + (rest.map fun v => v.category).sum ≤ 8) (hdg : decode cc g.pc = .ok (.invokestatic index, 3)) (hf : cells + mc ≤ R.cells ∧ slots + ms ≤ R.slots) :
    vx_Run p l e R s m args below meth c H locs cells slots mc ms g rest (Qc As.toArray) XC free := by
  have hK : vx_Back l R p e below s args y 3 8 (PreOf R mc ms Pc) (PostOf Qc mc ms free) (vx_Post XC mc ms free) := vx_callBack cw.1 hM hp.1
  obtain ⟨⟨-, -, -, -, -, -, hcode, hini, hy, hlen, hl⟩, hstt⟩ := cw
  obtain ⟨hx, hb, hml, ho, -⟩ := S
  intro T hT X
  rcases vx_callS X hx (bytes := bytes) (maxL := maxL) (ret := ret) ho hl hstt hini hcode hy hK hg (hsize.trans hml.symm) (argsL := As) (rest := rest) (fun sig h => hn.trans (hlen sig h)) hstack hW (by rw [hb]; exact hdg)
    (fun vm₁ hW₁ => ⟨hf.1, hf.2, hp.2 (T.setVm vm₁) hT hW₁⟩) with ⟨v, vm₁, ⟨U', l2, c2, s2⟩, hW₁, X', ⟨g', mk, t, L, e1, e2, hq, h1, hL, h2, h3⟩, st⟩ | ⟨q, vm₁, ⟨U', l2, c2, s2⟩, hW₁, X', ⟨g', mk, t, L, E, ce, e1, e2, hq, hce, hcv, hcl, h1, hL, h2, h3⟩, st⟩
  · dsimp only [Pt.U, Pt.locs, Pt.cells, Pt.slots] at X' e1 e2 h1 h2 h3 st
    subst h1; subst h2; subst h3
    exact Or.inl ⟨v, (T.setVm vm₁).calling g' mk As.toArray, t, U', L, hT, X', hL, e1, e2, hq, st⟩
  · dsimp only [Pt.U, Pt.locs, Pt.cells, Pt.slots] at X' e1 e2 h1 h2 h3 st hcl
    subst h1; subst h2; subst h3
    exact Or.inr ⟨q, (T.setVm vm₁).calling g' mk As.toArray, t, U', L, E, ce, hT, X', hL, e1, e2, hq, hce, hcv, vx_cls hW₁ hcl, st⟩
end Runs
section Rows
variable {p : Program} {l : Launch} {e : Env} {R : Room} {s : State} {m : MethodId} {args : Array Value} {below : List Frame} {meth : Method} {c : Code} {H : Heap} {locs : List Loc} {cells slots : Nat} {Q : State → Prop}
variable {mc ms : Nat} {free : Addr → Prop} {A0 A1 : Nat → Prop} {H0 : Heap} {a : Array Value} {pc : Nat} {ls : Array Slot} {st0 rest : List Value}
theorem vx_keep {st₀ t T' : State} {L : List Loc} (h0 : st₀.heap = H) (e1 : T'.heap = t.heap) (hS : va_S A0 H0 H locs) (hA : ∀ q, q < H.size → A1 q → A0 q) (hf : ∀ q, free q → A0 q) (hL : ∀ q ∈ L, free q.base) (hF : va_F A1 st₀ t) :
    H.size ≤ T'.heap.size ∧ (∀ q : Nat, q < H.size → ¬ A1 q → T'.heap[q]? = H[q]?) ∧ va_S A0 H0 T'.heap (locs ++ L) := by
  obtain ⟨hz, hk⟩ := hF
  rw [h0] at hz hk
  exact ⟨by rw [e1]; exact hz, fun q h1 h2 => by rw [e1]; exact hk q h1 h2,
    ⟨Nat.le_trans hS.1 (by rw [e1]; exact hz), fun q h1 h2 => by rw [e1, hk q (Nat.lt_of_lt_of_le h1 hS.1) (fun z => h2 (hA q (Nat.lt_of_lt_of_le h1 hS.1) z))]; exact hS.2.1 q h1 h2, fun q hq => by
      rcases List.mem_append.mp hq with h | h
      · exact hS.2.2 q h
      · exact hf _ (hL q h)⟩⟩
theorem vx_calli {S SX : Type} {post : Int32 → S → Prop} {px : SX → Prop} {B : S → State → Prop} {BX : String → SX → State → Prop} {AX : Nat → Prop} (hr : vx_Run p l e R s m args below meth c H locs cells slots mc ms (F0 m pc ls st0) rest (va_Qi post B A1 a) (vx_X px BX AX) free) (hS : va_S A0 H0 H locs) (hA : ∀ q, q < H.size → A1 q → A0 q) (hf : ∀ q, free q → A0 q) (hAX : ∀ q, q < H.size → AX q → A0 q)
    (kx : ∀ (E : String) (ce : Cell) (q9 : Addr) (u : SX) (t : State) (H1 : Heap) (locs1 : List Loc), t.heap = H1 → s.vm.Alike t.vm → px u → BX E u t → H.size ≤ H1.size → (∀ q : Nat, q < H.size → ¬ AX q → H1[q]? = H[q]?) → va_S A0 H0 H1 locs1 → H1[q9]? = some ce → ce.vm = .none → s.vm.findClass E = some ce.cls → vx_W p l e R s m args below meth c H1 locs1 (cells + mc) (slots + ms) Q (F0 m pc ls rest) q9)
    (kk : ∀ (r : Int32) (u : S) (t : State) (H1 : Heap) (locs1 : List Loc), t.heap = H1 → s.vm.Alike t.vm → post r u → B u t → H.size ≤ H1.size → (∀ q : Nat, q < H.size → ¬ A1 q → H1[q]? = H[q]?) → va_S A0 H0 H1 locs1 → W p l e R s m args below meth c H1 locs1 (cells + mc) (slots + ms) Q (F0 m (pc + 3) ls (.int r :: rest))) : W p l e R s m args below meth c H locs cells slots Q (F0 m pc ls st0) := by
  intro T hT X
  rcases hr T hT X with ⟨v, st₀, t, T', L, h0, X', hL, e1, e2, ⟨⟨r, u, hv, hp, hb⟩, hF⟩, st⟩ | ⟨q, st₀, t, T', L, E, ce, h0, X', hL, e1, e2, ⟨u, hp, hb, hF⟩, hce, hcv, hcl, st⟩
  · cases hv
    obtain ⟨k1, k2, k3⟩ := vx_keep h0 e1 hS hA hf hL hF
    obtain ⟨t2, a1, b1⟩ := kk r u t T'.heap (locs ++ L) e1.symm (by rw [← e2]; exact X'.warmed.alike) hp hb k1 k2 k3 T' rfl X'
    exact ⟨t2, st t2 a1, b1⟩
  · obtain ⟨k1, k2, k3⟩ := vx_keep h0 e1 hS hAX hf hL hF
    obtain ⟨t2, a1, b1⟩ := kx E ce q u t T'.heap (locs ++ L) e1.symm (by rw [← e2]; exact X'.warmed.alike) hp hb k1 k2 k3 (by rw [e1]; exact hce) hcv hcl T' rfl X'
    exact ⟨t2, st.trans a1, b1⟩
theorem vx_calll {S SX : Type} {post : Int64 → S → Prop} {px : SX → Prop} {B : S → State → Prop} {BX : String → SX → State → Prop} {AX : Nat → Prop} (hr : vx_Run p l e R s m args below meth c H locs cells slots mc ms (F0 m pc ls st0) rest (va_Ql post B A1 a) (vx_X px BX AX) free) (hS : va_S A0 H0 H locs) (hA : ∀ q, q < H.size → A1 q → A0 q) (hf : ∀ q, free q → A0 q) (hAX : ∀ q, q < H.size → AX q → A0 q)
    (kx : ∀ (E : String) (ce : Cell) (q9 : Addr) (u : SX) (t : State) (H1 : Heap) (locs1 : List Loc), t.heap = H1 → s.vm.Alike t.vm → px u → BX E u t → H.size ≤ H1.size → (∀ q : Nat, q < H.size → ¬ AX q → H1[q]? = H[q]?) → va_S A0 H0 H1 locs1 → H1[q9]? = some ce → ce.vm = .none → s.vm.findClass E = some ce.cls → vx_W p l e R s m args below meth c H1 locs1 (cells + mc) (slots + ms) Q (F0 m pc ls rest) q9)
    (kk : ∀ (r : Int64) (u : S) (t : State) (H1 : Heap) (locs1 : List Loc), t.heap = H1 → s.vm.Alike t.vm → post r u → B u t → H.size ≤ H1.size → (∀ q : Nat, q < H.size → ¬ A1 q → H1[q]? = H[q]?) → va_S A0 H0 H1 locs1 → W p l e R s m args below meth c H1 locs1 (cells + mc) (slots + ms) Q (F0 m (pc + 3) ls (.long r :: rest))) : W p l e R s m args below meth c H locs cells slots Q (F0 m pc ls st0) := by
  intro T hT X
  rcases hr T hT X with ⟨v, st₀, t, T', L, h0, X', hL, e1, e2, ⟨⟨r, u, hv, hp, hb⟩, hF⟩, st⟩ | ⟨q, st₀, t, T', L, E, ce, h0, X', hL, e1, e2, ⟨u, hp, hb, hF⟩, hce, hcv, hcl, st⟩
  · cases hv
    obtain ⟨k1, k2, k3⟩ := vx_keep h0 e1 hS hA hf hL hF
    obtain ⟨t2, a1, b1⟩ := kk r u t T'.heap (locs ++ L) e1.symm (by rw [← e2]; exact X'.warmed.alike) hp hb k1 k2 k3 T' rfl X'
    exact ⟨t2, st t2 a1, b1⟩
  · obtain ⟨k1, k2, k3⟩ := vx_keep h0 e1 hS hAX hf hL hF
    obtain ⟨t2, a1, b1⟩ := kx E ce q u t T'.heap (locs ++ L) e1.symm (by rw [← e2]; exact X'.warmed.alike) hp hb k1 k2 k3 (by rw [e1]; exact hce) hcv hcl T' rfl X'
    exact ⟨t2, st.trans a1, b1⟩
theorem vx_callf {S SX : Type} {post : UInt32 → S → Prop} {px : SX → Prop} {B : S → State → Prop} {BX : String → SX → State → Prop} {AX : Nat → Prop} (hr : vx_Run p l e R s m args below meth c H locs cells slots mc ms (F0 m pc ls st0) rest (va_Qf post B A1 a) (vx_X px BX AX) free) (hS : va_S A0 H0 H locs) (hA : ∀ q, q < H.size → A1 q → A0 q) (hf : ∀ q, free q → A0 q) (hAX : ∀ q, q < H.size → AX q → A0 q)
    (kx : ∀ (E : String) (ce : Cell) (q9 : Addr) (u : SX) (t : State) (H1 : Heap) (locs1 : List Loc), t.heap = H1 → s.vm.Alike t.vm → px u → BX E u t → H.size ≤ H1.size → (∀ q : Nat, q < H.size → ¬ AX q → H1[q]? = H[q]?) → va_S A0 H0 H1 locs1 → H1[q9]? = some ce → ce.vm = .none → s.vm.findClass E = some ce.cls → vx_W p l e R s m args below meth c H1 locs1 (cells + mc) (slots + ms) Q (F0 m pc ls rest) q9)
    (kk : ∀ (r : UInt32) (u : S) (t : State) (H1 : Heap) (locs1 : List Loc), t.heap = H1 → s.vm.Alike t.vm → post r u → B u t → H.size ≤ H1.size → (∀ q : Nat, q < H.size → ¬ A1 q → H1[q]? = H[q]?) → va_S A0 H0 H1 locs1 → W p l e R s m args below meth c H1 locs1 (cells + mc) (slots + ms) Q (F0 m (pc + 3) ls (.float r :: rest))) : W p l e R s m args below meth c H locs cells slots Q (F0 m pc ls st0) := by
  intro T hT X
  rcases hr T hT X with ⟨v, st₀, t, T', L, h0, X', hL, e1, e2, ⟨⟨r, u, hv, hp, hb⟩, hF⟩, st⟩ | ⟨q, st₀, t, T', L, E, ce, h0, X', hL, e1, e2, ⟨u, hp, hb, hF⟩, hce, hcv, hcl, st⟩
  · cases hv
    obtain ⟨k1, k2, k3⟩ := vx_keep h0 e1 hS hA hf hL hF
    obtain ⟨t2, a1, b1⟩ := kk r u t T'.heap (locs ++ L) e1.symm (by rw [← e2]; exact X'.warmed.alike) hp hb k1 k2 k3 T' rfl X'
    exact ⟨t2, st t2 a1, b1⟩
  · obtain ⟨k1, k2, k3⟩ := vx_keep h0 e1 hS hAX hf hL hF
    obtain ⟨t2, a1, b1⟩ := kx E ce q u t T'.heap (locs ++ L) e1.symm (by rw [← e2]; exact X'.warmed.alike) hp hb k1 k2 k3 (by rw [e1]; exact hce) hcv hcl T' rfl X'
    exact ⟨t2, st.trans a1, b1⟩
theorem vx_calld {S SX : Type} {post : UInt64 → S → Prop} {px : SX → Prop} {B : S → State → Prop} {BX : String → SX → State → Prop} {AX : Nat → Prop} (hr : vx_Run p l e R s m args below meth c H locs cells slots mc ms (F0 m pc ls st0) rest (va_Qd post B A1 a) (vx_X px BX AX) free) (hS : va_S A0 H0 H locs) (hA : ∀ q, q < H.size → A1 q → A0 q) (hf : ∀ q, free q → A0 q) (hAX : ∀ q, q < H.size → AX q → A0 q)
    (kx : ∀ (E : String) (ce : Cell) (q9 : Addr) (u : SX) (t : State) (H1 : Heap) (locs1 : List Loc), t.heap = H1 → s.vm.Alike t.vm → px u → BX E u t → H.size ≤ H1.size → (∀ q : Nat, q < H.size → ¬ AX q → H1[q]? = H[q]?) → va_S A0 H0 H1 locs1 → H1[q9]? = some ce → ce.vm = .none → s.vm.findClass E = some ce.cls → vx_W p l e R s m args below meth c H1 locs1 (cells + mc) (slots + ms) Q (F0 m pc ls rest) q9)
    (kk : ∀ (r : UInt64) (u : S) (t : State) (H1 : Heap) (locs1 : List Loc), t.heap = H1 → s.vm.Alike t.vm → post r u → B u t → H.size ≤ H1.size → (∀ q : Nat, q < H.size → ¬ A1 q → H1[q]? = H[q]?) → va_S A0 H0 H1 locs1 → W p l e R s m args below meth c H1 locs1 (cells + mc) (slots + ms) Q (F0 m (pc + 3) ls (.double r :: rest))) : W p l e R s m args below meth c H locs cells slots Q (F0 m pc ls st0) := by
  intro T hT X
  rcases hr T hT X with ⟨v, st₀, t, T', L, h0, X', hL, e1, e2, ⟨⟨r, u, hv, hp, hb⟩, hF⟩, st⟩ | ⟨q, st₀, t, T', L, E, ce, h0, X', hL, e1, e2, ⟨u, hp, hb, hF⟩, hce, hcv, hcl, st⟩
  · cases hv
    obtain ⟨k1, k2, k3⟩ := vx_keep h0 e1 hS hA hf hL hF
    obtain ⟨t2, a1, b1⟩ := kk r u t T'.heap (locs ++ L) e1.symm (by rw [← e2]; exact X'.warmed.alike) hp hb k1 k2 k3 T' rfl X'
    exact ⟨t2, st t2 a1, b1⟩
  · obtain ⟨k1, k2, k3⟩ := vx_keep h0 e1 hS hAX hf hL hF
    obtain ⟨t2, a1, b1⟩ := kx E ce q u t T'.heap (locs ++ L) e1.symm (by rw [← e2]; exact X'.warmed.alike) hp hb k1 k2 k3 (by rw [e1]; exact hce) hcv hcl T' rfl X'
    exact ⟨t2, st.trans a1, b1⟩
theorem vx_callv {S SX : Type} {post : S → Prop} {px : SX → Prop} {B : S → State → Prop} {BX : String → SX → State → Prop} {AX : Nat → Prop} (hr : vx_Run p l e R s m args below meth c H locs cells slots mc ms (F0 m pc ls st0) rest (va_Qv post B A1 a) (vx_X px BX AX) free) (hS : va_S A0 H0 H locs) (hA : ∀ q, q < H.size → A1 q → A0 q) (hf : ∀ q, free q → A0 q) (hAX : ∀ q, q < H.size → AX q → A0 q)
    (kx : ∀ (E : String) (ce : Cell) (q9 : Addr) (u : SX) (t : State) (H1 : Heap) (locs1 : List Loc), t.heap = H1 → s.vm.Alike t.vm → px u → BX E u t → H.size ≤ H1.size → (∀ q : Nat, q < H.size → ¬ AX q → H1[q]? = H[q]?) → va_S A0 H0 H1 locs1 → H1[q9]? = some ce → ce.vm = .none → s.vm.findClass E = some ce.cls → vx_W p l e R s m args below meth c H1 locs1 (cells + mc) (slots + ms) Q (F0 m pc ls rest) q9)
    (kk : ∀ (u : S) (t : State) (H1 : Heap) (locs1 : List Loc), t.heap = H1 → s.vm.Alike t.vm → post u → B u t → H.size ≤ H1.size → (∀ q : Nat, q < H.size → ¬ A1 q → H1[q]? = H[q]?) → va_S A0 H0 H1 locs1 → W p l e R s m args below meth c H1 locs1 (cells + mc) (slots + ms) Q (F0 m (pc + 3) ls (rest))) : W p l e R s m args below meth c H locs cells slots Q (F0 m pc ls st0) := by
  intro T hT X
  rcases hr T hT X with ⟨v, st₀, t, T', L, h0, X', hL, e1, e2, ⟨⟨u, hv, hp, hb⟩, hF⟩, st⟩ | ⟨q, st₀, t, T', L, E, ce, h0, X', hL, e1, e2, ⟨u, hp, hb, hF⟩, hce, hcv, hcl, st⟩
  · cases hv
    obtain ⟨k1, k2, k3⟩ := vx_keep h0 e1 hS hA hf hL hF
    obtain ⟨t2, a1, b1⟩ := kk u t T'.heap (locs ++ L) e1.symm (by rw [← e2]; exact X'.warmed.alike) hp hb k1 k2 k3 T' rfl X'
    exact ⟨t2, st t2 a1, b1⟩
  · obtain ⟨k1, k2, k3⟩ := vx_keep h0 e1 hS hAX hf hL hF
    obtain ⟨t2, a1, b1⟩ := kx E ce q u t T'.heap (locs ++ L) e1.symm (by rw [← e2]; exact X'.warmed.alike) hp hb k1 k2 k3 (by rw [e1]; exact hce) hcv hcl T' rfl X'
    exact ⟨t2, st.trans a1, b1⟩
/-- caught by the row x of this method's table; the rows ahead don't take it -/
theorem vx_catch {own name : String} {E : String} {ce : Cell} {q : Addr} (hown : s.vm.findClass own = some m.cls) (pre : List ExceptionTableEntry) (x : ExceptionTableEntry) (suf : List ExceptionTableEntry) (hsplit : c.exceptionTable.toList = pre ++ x :: suf)
    (hpass : ∀ z ∈ pre, covers z pc = false ∨ (z.catchType ≠ 0 ∧ ∃ nm : String, (Cond.classLink own z.catchType nm).before args s = true ∧ va_Nc E nm s)) (hx : covers x pc = true) (h0 : x.catchType ≠ 0)
    (hlink : (Cond.classLink own x.catchType name).before args s = true) (hcast : (Cond.castable E name).before args s = true) (hcell : H[q]? = some ce) (hv : ce.vm = .none) (hcl : s.vm.findClass E = some ce.cls)
    (kk : W p l e R s m args below meth c H locs cells slots Q (F0 m x.handlerPc ls [.ref q])) : vx_W p l e R s m args below meth c H locs cells slots Q (F0 m pc ls rest) q := by
  intro T hT X
  have hpl : e.platform.magicAccessors = ({} : Platform).magicAccessors := by rw [X.admits.platform]
  obtain ⟨c3, c4, hc3, hc4, hasg⟩ := Cond.castable_spec hcast
  cases Option.some.inj (hc3.symm.trans hcl)
  obtain ⟨c5, hc5, hcl5⟩ := Cond.classLink_spec hown hlink e.platform hpl
  cases Option.some.inj (hc4.symm.trans hc5)
  obtain ⟨vm', X', st⟩ := X.thenCaughtThrough q (g := F0 m pc ls rest) rfl (Steps.refl _) (by rw [hT]; exact hcell) (by rw [hv]; rfl) (by obtain ⟨k9, h9, -⟩ := Vm.findClass_spec hcl; exact ⟨k9, h9⟩) pre x suf hsplit
    (fun z hz => by
      rcases hpass z hz with h | ⟨hz0, nm, hl1, hn1⟩
      · exact Or.inl h
      · obtain ⟨c6, hc6, hcl6⟩ := Cond.classLink_spec hown hl1 e.platform hpl
        obtain ⟨a8, b8, h1, h2, h3⟩ := hn1
        cases Option.some.inj (h1.symm.trans hcl)
        cases Option.some.inj (h2.symm.trans hc6)
        exact Or.inr ⟨hz0, _, hcl6, h3⟩) hx (Or.inr ⟨h0, c4, hcl5, hasg⟩)
  obtain ⟨t, a1, b1⟩ := kk (T.setVm vm') hT X'
  exact ⟨t, st.trans a1, b1⟩
end Rows
section Ends
variable {p : Program} {l : Launch} {e : Env} {R : Room} {s : State} {m : MethodId} {args : Array Value} {below : List Frame} {meth : Method} {c : Code} {H : Heap} {locs : List Loc} {cells slots : Nat} {Q : State → Prop}
variable {mc ms : Nat} {free : Addr → Prop} {A0 A1 : Nat → Prop} {H0 : Heap} {a : Array Value} {ls : Array Slot} {st0 rest : List Value}
variable {Qc : Array Value → State → Outcome → State → Prop} {XC : String → State → State → Prop}
/-- what a body that may throw owes at its end -/
def vx_MQ (below : List Frame) (Qc : Array Value → State → Outcome → State → Prop) (XC : String → State → State → Prop) (a : Array Value) (s : State) (mc ms : Nat) (free : Addr → Prop) : State → Prop := fun t =>
  ∃ o, t.status = .running ∧ Ended t below o ∧ vx_Q Qc XC mc ms free a s o t
theorem vx_ret {g : JFrame} {mc ms : Nat} (k : W p l e R s m args below meth c H locs cells slots (MQ below Qc args s mc ms free) g) : W p l e R s m args below meth c H locs cells slots (vx_MQ below Qc XC args s mc ms free) g := by
  intro T hT X
  obtain ⟨t, a1, o, b1, b2, b3, b4⟩ := k T hT X
  exact ⟨t, a1, o, b1, b2, Or.inl ⟨b3, b4⟩⟩
/-- not caught here: it goes on to the caller -/
theorem vx_widen {g : JFrame} {q : Addr} {k n : Nat} (h1 : cells ≤ k) (h2 : slots ≤ n) (kk : vx_W p l e R s m args below meth c H locs k n Q g q) : vx_W p l e R s m args below meth c H locs cells slots Q g q := fun T hT X => kk T hT (stand_widen X h1 h2)
theorem vx_out {pc : Nat} {E : String} {ce : Cell} {q : Addr} {mc ms : Nat} (hout : ∀ x ∈ c.exceptionTable.toList, covers x pc = false) (hlocks : meth.locks = false) (hcell : H[q]? = some ce) (hv : ce.vm = .none) (hcl : s.vm.findClass E = some ce.cls)
    (hx : ∀ t : State, t.heap = H → s.vm.Alike t.vm → XC E s t) (hf : ∀ z ∈ locs, free z.base) (hc : cells ≤ mc) (hs : slots ≤ ms) :
    vx_W p l e R s m args below meth c H locs cells slots (vx_MQ below Qc XC args s mc ms free) (F0 m pc ls rest) q := by
  intro T hT X
  obtain ⟨st1, hrun, hend, hW, hsm⟩ := X.leaveThrown q (g := F0 m pc ls rest) rfl rfl rfl hout hlocks
  have hcell9 : (T.setFrames (.throwing q :: below)).heap[q]? = some ce := by
    show T.heap[q]? = some ce
    rw [hT]; exact hcell
  exact ⟨_, st1, .threw q, hrun, hend, Or.inr ⟨q, rfl, E, ce, locs, hx _ hT hW.alike, hcell9, hv, hcl, hW, hsm.mono hc hs, hf⟩⟩
theorem vx_frame {U : State} {k n : Nat} (h : s.sameButNew ({ U with vm := s.vm } : State) locs k n) : s.heap.size ≤ U.heap.size ∧ ∀ q : Nat, q < s.heap.size → (∀ z ∈ locs, z.base ≠ q) → U.heap[q]? = s.heap[q]? := by
  obtain ⟨-, h2, -, -, -, h6⟩ := h
  refine ⟨h2, fun q hq hz => ?_⟩
  obtain ⟨c9, e1, e2, e3, e4⟩ := h6 q _ (Array.getElem?_eq_getElem hq)
  have hs : c9.slots = (s.heap[q]).slots := Array.ext_getElem? fun i => e4 i fun hm => hz _ hm rfl
  have h9 : c9 = s.heap[q] := by
    rw [hs] at e2
    exact e2
  have e5 : U.heap[q]? = some c9 := e1
  rw [e5, h9, Array.getElem?_eq_getElem hq]
/-- the words of a throw but the four that speak of the heap -/
def vx_no (w : Cond) : Bool := decide (w ≠ .isRef (.static Bundle.tN "UNASSIGNED_STACK" Bundle.steD)) && decide (w ≠ .isRef (.static Bundle.tN "SUPPRESSED_SENTINEL" Bundle.listD)) && decide (w ≠ .laysStatic Bundle.tN "UNASSIGNED_STACK" Bundle.steD) && decide (w ≠ .laysStatic Bundle.tN "SUPPRESSED_SENTINEL" Bundle.listD)
def vx_at0 (own : String) (ic : Nat) (X : String) (names : List String) : List Cond := (Bundle.ownAtoms0 own ic X names).filter vx_no
def vx_atS (own : String) (ic : Nat) (X : String) (names : List String) : List Cond := (Bundle.ownAtoms own ic X names).filter vx_no
/-- a word that the tables alone decide, or a good one -/
def vx_ot (w : Cond) : Bool := w.onTables || goodWord w
theorem vx_ot_at {args a' : Array Value} {s U : State} {w : Cond} (hW : s.WarmedH U.vm) (hvm : s.vm = U.vm) (hg : vx_ot w = true) (h : w.before args s = true) : w.before a' U = true := by
  simp only [vx_ot, Bool.or_eq_true] at hg
  rcases hg with hg | hg
  · exact va_tabs hg hvm h
  · exact word_at hW (good_of_word hg) h
/-- a list's words: the good ones out of the method's own list, the others by premises of their own -/
theorem vx_hat {args : Array Value} {s : State} {L B : List Cond} (h1 : ∀ w ∈ L.filter goodWord, w.before args s = true) (h2 : ∀ w ∈ L.filter (fun w => !goodWord w), w ∈ B) (h3 : ∀ w ∈ B, w.before args s = true) : ∀ w ∈ L, w.before args s = true := by
  intro w hw
  by_cases g : goodWord w = true
  · exact h1 w (List.mem_filter.mpr ⟨hw, g⟩)
  · refine h3 w (h2 w (List.mem_filter.mpr ⟨hw, ?_⟩))
    show (!goodWord w) = true
    cases hgw : goodWord w
    · rfl
    · exact absurd hgw g
theorem vx_c {args : Array Value} {s : State} {w : Cond} {B : List Cond} (h : w.before args s = true) (t : ∀ w ∈ B, w.before args s = true) : ∀ w' ∈ w :: B, w'.before args s = true := fun w' h' => (List.mem_cons.mp h').elim (fun e => by rw [e]; exact h) (t w')
theorem vx_n {args : Array Value} {s : State} : ∀ w ∈ ([] : List Cond), w.before args s = true := fun _ h => nomatch h
theorem vx_own {args : Array Value} {s : State} {L : List Cond} (h1 : ∀ w ∈ L.filter vx_no, w.before args s = true)
    (hU : (Cond.isRef (.static Bundle.tN "UNASSIGNED_STACK" Bundle.steD)).before args s = true) (hN : (Cond.isRef (.static Bundle.tN "SUPPRESSED_SENTINEL" Bundle.listD)).before args s = true)
    (lU : (Cond.laysStatic Bundle.tN "UNASSIGNED_STACK" Bundle.steD).before args s = true) (lN : (Cond.laysStatic Bundle.tN "SUPPRESSED_SENTINEL" Bundle.listD).before args s = true) : ∀ w ∈ L, w.before args s = true := by
  intro w hw
  by_cases e1 : w = .isRef (.static Bundle.tN "UNASSIGNED_STACK" Bundle.steD)
  · rw [e1]; exact hU
  · by_cases e2 : w = .isRef (.static Bundle.tN "SUPPRESSED_SENTINEL" Bundle.listD)
    · rw [e2]; exact hN
    · by_cases e3 : w = .laysStatic Bundle.tN "UNASSIGNED_STACK" Bundle.steD
      · rw [e3]; exact lU
      · by_cases e4 : w = .laysStatic Bundle.tN "SUPPRESSED_SENTINEL" Bundle.listD
        · rw [e4]; exact lN
        · exact h1 w (List.mem_filter.mpr ⟨hw, by unfold vx_no; rw [decide_eq_true e1, decide_eq_true e2, decide_eq_true e3, decide_eq_true e4]; rfl⟩)
/-- where a static field lies, its class's statics cell in H -/
def vx_L (C n d : String) (A : Nat → Prop) (U : State) (H : Heap) : Prop := ∃ (c : ClassId) (k : Class) (i : Nat) (f : Field) (a : Nat) (cell : Cell), U.vm.findClass C = some c ∧ U.fieldFound? C n d = some (c, k, i, f) ∧ f.isStatic = true ∧ k.statics = some a ∧ H[a]? = some cell ∧ cell.vm.isStatics = true ∧ cell.cls = c ∧ f.slot < cell.slots.size ∧ k.staticTypes[f.slot]? = some f.type ∧ ¬ A a
theorem vx_L.moved {C n d : String} {A : Nat → Prop} {u U : State} {H : Heap} (hvm : u.vm.Alike U.vm) (h : vx_L C n d A u H) : vx_L C n d A U H := by
  obtain ⟨c, k, i, f, a, cell, h1, h2, h3, h4, h5, h6, h7, h8, h9, h10⟩ := h
  obtain ⟨k', hi', he⟩ := State.fieldFound?_setVm hvm h2
  exact ⟨c, k', i, f, a, cell, by rw [hvm.findClass]; exact h1, hi', h3, by rw [he]; exact h4, h5, h6, h7, h8, by rw [he]; exact h9, h10⟩
theorem vx_L.kept {C n d : String} {A : Nat → Prop} {U : State} {H H1 : Heap} (h : vx_L C n d A U H) (hq : ∀ a : Nat, a < H.size → ¬ A a → H1[a]? = H[a]?) : vx_L C n d A U H1 := by
  obtain ⟨c, k, i, f, a, cell, h1, h2, h3, h4, h5, h6, h7, h8, h9, h10⟩ := h
  exact ⟨c, k, i, f, a, cell, h1, h2, h3, h4, by rw [hq a (Array.getElem?_eq_some_iff.mp h5).1 h10]; exact h5, h6, h7, h8, h9, h10⟩
theorem vx_L.narrow {C n d : String} {A B : Nat → Prop} {U : State} {H : Heap} (h : vx_L C n d A U H) (hAB : ∀ q, B q → A q) : vx_L C n d B U H := by
  obtain ⟨c, k, i, f, a, cell, h1, h2, h3, h4, h5, h6, h7, h8, h9, h10⟩ := h
  exact ⟨c, k, i, f, a, cell, h1, h2, h3, h4, h5, h6, h7, h8, h9, fun z => h10 (hAB _ z)⟩
theorem vx_L.word {C n d : String} {A : Nat → Prop} {s : State} {args : Array Value} (h : vx_L C n d A s s.heap) : (Cond.laysStatic C n d).before args s = true := by
  obtain ⟨c, k, i, f, a, cell, h1, h2, h3, h4, h5, h6, h7, h8, h9, -⟩ := h
  show (Cond.laysStatic C n d).holds args s none s [] = true
  exact Cond.laysStatic_of h1 h2 h3 h4 h5 h6 h7 h8 h9
/-- .. and what it holds: null or some reference -/
def vx_Zq (C n d : String) (A : Nat → Prop) (U : State) (H : Heap) : Prop := va_Zq C n d A U H ∧ vx_L C n d A U H
theorem vx_Zq.moved {C n d : String} {A : Nat → Prop} {u U : State} {H : Heap} (hvm : u.vm.Alike U.vm) (h : vx_Zq C n d A u H) : vx_Zq C n d A U H := ⟨va_Zq.moved hvm h.1, vx_L.moved hvm h.2⟩
theorem vx_Zq.kept {C n d : String} {A : Nat → Prop} {U : State} {H H1 : Heap} (h : vx_Zq C n d A U H) (hq : ∀ a : Nat, a < H.size → ¬ A a → H1[a]? = H[a]?) : vx_Zq C n d A U H1 := ⟨va_Zq.kept h.1 hq, vx_L.kept h.2 hq⟩
theorem vx_Zq.narrow {C n d : String} {A B : Nat → Prop} {U : State} {H : Heap} (h : vx_Zq C n d A U H) (hAB : ∀ q, B q → A q) : vx_Zq C n d B U H := ⟨va_Zq.narrow h.1 hAB, vx_L.narrow h.2 hAB⟩
theorem vx_Zqof {args : Array Value} {s : State} {C n d : String} {A : Nat → Prop} (hl : (Cond.laysStatic C n d).before args s = true) (hini : (Cond.initialized C).before args s = true) (h : (Cond.isRef (.static C n d)).before args s = true) (hA : ∀ a : Nat, a < s.heap.size → ¬ A a) : vx_Zq C n d A s s.heap := by
  refine ⟨va_Zqof hl hini h hA, ?_⟩
  obtain ⟨c, k, i, f, a, cell, h1, h2, h3, h4, h5, h6, h7, h8, h9⟩ := Cond.laysStatic_spec hl
  exact ⟨c, k, i, f, a, cell, h1, h2, h3, h4, h5, h6, h7, h8, h9, hA a (Array.getElem?_eq_some_iff.mp h5).1⟩
theorem vx_isRef {C n d : String} {v : Value} {A : Nat → Prop} {s : State} {args : Array Value} (h : va_Z C n d v A s s.heap) (hv : v.isRef = true) : (Cond.isRef (.static C n d)).before args s = true := by
  obtain ⟨cf, kf, fi, f, a, cell, h1, h2, h3, h4, h5, h6, h7, -⟩ := h
  have he : (Term.static C n d).eval args s none [] s = some v := by
    simp [Term.eval, State.fieldNamed?, h1, h2, h4, h5, h6, h7]
  simp only [Cond.before, Cond.holds, Cond.value, he]
  cases v <;> simp_all [Value.isRef]
theorem vx_isRefq {C n d : String} {A : Nat → Prop} {s : State} {args : Array Value} (h : va_Zq C n d A s s.heap) : (Cond.isRef (.static C n d)).before args s = true := by
  rcases h with h | ⟨t, h⟩
  · exact vx_isRef h rfl
  · exact vx_isRef h rfl
/-- the same frame, seen from here: as if the method were called anew in this heap -/
theorem vx_rebase {T : State} (X : Stand p l e R s m args below meth c T locs cells slots) {R' : Room} (hf : R'.frames ≤ R.frames) (hl : R'.locals ≤ R.locals) (hc : cells + R'.cells ≤ R.cells) (hs : slots + R'.slots ≤ R.slots) :
    Stand p l e R' ((T.setVm s.vm).setFrames (.invoking m args :: below)) m args below meth c T [] 0 0 := by
  have htop : (T.setVm s.vm).topJava?.isSome := X.here.top
  have hF : ((T.setVm s.vm).setFrames (.invoking m args :: below)).frames = .invoking m args :: below := State.frames_setFrames _ (State.cur_lt_of_top htop)
  obtain ⟨g₀, hg0⟩ := Option.isSome_iff_exists.mp htop
  obtain ⟨r, hr⟩ := State.topJava?_eq_some.mp hg0
  have hl9 : e.platform.stackLimits (T.setVm s.vm).me = e.platform.stackLimits s.me := X.limits
  have hb9 : (T.setVm s.vm).me.stackBytes = s.me.stackBytes := X.bytes
  refine ⟨X.admits, X.cas, X.clock, hF, ?_, X.hears, X.method, X.code, X.here, X.tail, X.warmed, ?_, ?_, ?_⟩
  · have h := X.room
    have hU : ((T.setVm s.vm).setFrames (.invoking m args :: below)).localsInUse = s.localsInUse := by
      rw [State.localsInUse_invoking hF (meth := meth) (c := c) X.method X.code, State.localsInUse_invoking X.frames X.method X.code]
    simp only [State.hasRoom, Bool.and_eq_true, decide_eq_true_eq] at h ⊢
    obtain ⟨⟨⟨⟨h1, h2, h3, h4, h5, h6⟩, h7⟩, h8⟩, h9⟩ := h
    rw [X.frames, List.length_cons] at h2 h3
    have q1 := X.heapSize
    have q2 := X.used
    simp only [hF, hU, List.length_cons, State.stackLimits_setFrames, State.stackBytes_setFrames, hl9, hb9]
    refine ⟨⟨⟨⟨by omega, by omega, by omega, by omega, by omega, h6⟩, ?_⟩, ?_⟩, X.book⟩
    · show T.heap.size + R'.cells ≤ e.platform.maxCells
      omega
    · show T.slotsUsed + R'.slots ≤ e.platform.maxSlots
      omega
  · rw [State.stackLimits_setFrames]; rfl
  · rw [State.stackBytes_setFrames]; rfl
  · refine ⟨?_, Nat.le_refl _, Nat.le_refl _, ?_, ?_, fun a c9 h9 => ⟨c9, h9, rfl, rfl, fun _ _ => rfl⟩⟩
    · obtain ⟨t, ht, -⟩ := State.frames_cons hr
      show T.setVm s.vm = { ((T.setVm s.vm).setFrames (.invoking m args :: below)).setFrames (T.setVm s.vm).frames with heap := T.heap, slotsUsed := T.slotsUsed }
      rw [State.setFrames_setFrames, State.setFrames_self ht]
      rfl
    · show T.slotsUsed = T.slotsUsed + ((T.heap.toList.drop T.heap.size).map (·.slots.size)).sum
      rw [List.drop_eq_nil_of_le (Nat.le_of_eq Array.length_toList)]
      rfl
    · show ((T.heap.toList.drop T.heap.size).map (·.slots.size)).sum ≤ 0
      rw [List.drop_eq_nil_of_le (Nat.le_of_eq Array.length_toList)]
      exact Nat.le_refl _
/-- 'throw new E()': new; dup; invokespecial; athrow -/
theorem vx_throw0 {cc : ByteArray} {pc : Nat} (hexec : p.tables.exec = Jvm.exec) (hb : c.code = cc) (hl : l.stackTraces = false) {own cls : String} {names : List String} {ik ic mc ms : Nat} {A : Nat → Prop}
    (hown : s.vm.findClass own = some m.cls) (hcls : Bundle.fit cls = true) (hnames : ∀ n ∈ names, Bundle.fit n = true)
    (hk : (Cond.classLink own ik cls).before args s = true) (hini : (Cond.initialized cls).before args s = true) (hat : ∀ w ∈ vx_at0 own ic cls names, w.before args s = true)
    (hgood : ∀ w ∈ Cond.classLink own ik cls :: Cond.initialized cls :: vx_at0 own ic cls names, vx_ot w = true)
    (hU : vx_Zq Bundle.tN "UNASSIGNED_STACK" Bundle.steD A s s.heap) (hN : vx_Zq Bundle.tN "SUPPRESSED_SENTINEL" Bundle.listD A s s.heap) (hS : va_S A s.heap H locs) (hsize : ls.size = c.maxLocals)
    (d0 : decode cc pc = .ok (.new ik, 3)) (d3 : decode cc (pc + 3) = .ok (.dup, 1)) (d4 : decode cc (pc + 4) = .ok (.invokespecial ic, 3)) (d7 : decode cc (pc + 7) = .ok (.athrow, 1))
    (hout : ∀ x ∈ c.exceptionTable.toList, covers x (pc + 7) = false)
    (hRframes : names.length + 3 < R.frames) (hRlocals : (rest.map fun v => v.category).sum + (13 * (names.length + 1) + 42) ≤ R.locals) (hRcells : cells + 1 ≤ R.cells) (hRslots : slots + 6 ≤ R.slots) (hlocks : meth.locks = false)
    (hx : ∀ t : State, s.vm.Alike t.vm → H.size ≤ t.heap.size → (∀ q : Nat, q < H.size → t.heap[q]? = H[q]?) → XC cls s t)
    (hf : ∀ z ∈ locs, free z.base) (hc : cells + 1 ≤ mc) (hs : slots + 6 ≤ ms) :
    W p l e R s m args below meth c H locs cells slots (vx_MQ below Qc XC args s mc ms free) (F0 m pc ls rest) := by
  intro T hT X
  have htr : e.platform.stackTraces = false := (show e.platform.stackTraces = l.stackTraces by rw [X.admits.platform]).trans hl
  have Y := vx_rebase X (R' := { frames := R.frames, locals := R.locals, cells := 1, slots := 6 }) (Nat.le_refl _) (Nat.le_refl _) hRcells hRslots
  obtain ⟨s', hA⟩ : ∃ z, z = (T.setVm s.vm).setFrames (.invoking m args :: below) := ⟨_, rfl⟩
  rw [← hA] at Y
  have hvm : s'.vm = s.vm := by rw [hA]; rfl
  have hhp : s'.heap = H := by rw [hA]; exact hT
  have hW0 : s.WarmedH s'.vm := by rw [hvm]; exact State.WarmedH.refl s
  have hat' : ∀ w ∈ vx_at0 own ic cls names, w.before args s' = true := fun w hw => vx_ot_at hW0 hvm.symm (hgood w (List.mem_cons_of_mem _ (List.mem_cons_of_mem _ hw))) (hat w hw)
  have hk' : (Cond.classLink own ik cls).before args s' = true := vx_ot_at hW0 hvm.symm (hgood _ List.mem_cons_self) hk
  have hini' : (Cond.initialized cls).before args s' = true := vx_ot_at hW0 hvm.symm (hgood _ (List.mem_cons_of_mem _ List.mem_cons_self)) hini
  have hU' : vx_Zq Bundle.tN "UNASSIGNED_STACK" Bundle.steD A s' s'.heap := by rw [hhp]; exact vx_Zq.moved hW0.alike (hU.kept hS.2.1)
  have hN' : vx_Zq Bundle.tN "SUPPRESSED_SENTINEL" Bundle.listD A s' s'.heap := by rw [hhp]; exact vx_Zq.moved hW0.alike (hN.kept hS.2.1)
  have h : ∀ w ∈ Bundle.ownAtoms0 own ic cls names, w.before args s' = true := vx_own hat' (vx_isRefq hU'.1) (vx_isRefq hN'.1) hU'.2.word hN'.2.word
  have hown' : s'.vm.findClass own = some m.cls := by rw [hvm]; exact hown
  have hins : (Cond.instantiable cls 6).before args s' = true := h _ (by simp [Bundle.ownAtoms0])
  obtain ⟨vm₁, cX, kX, hfX, hkX, -, -, X₁, st1⟩ := Y.newCold hexec (own := own) (C := cls) (index := ik) (n := 6) hown' hk' hins hini'
    (g := F0 m pc ls rest) rfl (by rw [hb]; exact d0) (Nat.le_refl _) (Nat.le_refl _)
  generalize hT1 : (T.setVm vm₁).pushCell { cls := cX, slots := kX.instanceTypes.map defaultValue, vm := .none } = T1 at X₁ st1
  have hcat : (Value.ref T.heap.size).category = 1 := rfl
  have hcellA : T1.heap[T.heap.size]? = some (freshCell cX kX) := by rw [← hT1]; exact State.heap_pushCell_size _ _
  have d3' : decode c.code (pc + 3) = .ok (.dup, 1) := by rw [hb]; exact d3
  obtain ⟨U, hsteps, hrun, hend, hW, hsame, ce, hce, hO⟩ := X₁.ctorThrow0 hexec htr (own := own) (cls := cls) (names := names) (ic := ic) hown' hcls hnames h (fun x hx => nomatch hx) hfX hkX hcellA (by rw [hhp, hT]; exact Nat.le_refl _)
    (g := { method := m, pc := pc + 4, locals := ls, stack := .ref T.heap.size :: .ref T.heap.size :: rest, locked := none }) rfl hsize rfl rfl (rest := rest) rfl
    (by rw [hb]; exact d4) (by rw [hb]; exact d7) hout hRframes (by simp only [List.map_cons, List.sum_cons, hcat]; omega) hlocks
  obtain ⟨f1, f2⟩ := vx_frame hsame
  rw [hhp] at f1 f2
  have hWs : s.WarmedH U.vm := State.WarmedH.trans hW0 hW
  have hcl : s.vm.findClass cls = some ce.cls := by
    have h9 := hO.cls
    rw [hvm] at h9
    exact h9
  have hall : s.sameButNew ({ U with vm := s.vm } : State) locs mc ms := by
    subst hA
    obtain ⟨e1, e2⟩ := hsame
    rw [State.setFrames_setFrames] at e1
    have h2 : (T.setVm s.vm).sameButNew ({ U with vm := s.vm } : State) [] (0 + 1) (0 + 6) := ⟨e1, e2⟩
    have h3 := X.same.trans h2
    rw [List.append_nil] at h3
    exact h3.mono hc hs
  refine ⟨U, ?_, .threw T.heap.size, hrun, hend, Or.inr ⟨T.heap.size, rfl, cls, ce, locs, hx U hWs.alike f1 (fun q hq => f2 q hq (fun z hz => nomatch hz)), hce, hO.vm, hcl, hWs, hall, hf⟩⟩
  refine st1 _ ?_
  show Steps p.tables e below (T1.setTop { method := m, pc := pc + 3, locals := ls, stack := .ref T.heap.size :: rest, locked := none }) _
  jvm_step X₁.here [X₁.here.top, hexec, d3', Value.category]
  exact hsteps
/-- 'throw new E("text")': new; dup; ldc; invokespecial; athrow -/
theorem vx_throwS {cc : ByteArray} {pc : Nat} (hexec : p.tables.exec = Jvm.exec) (hb : c.code = cc) (hl : l.stackTraces = false) {own cls text : String} {names : List String} {ik is ic mc ms sa : Nat} {A : Nat → Prop}
    (hown : s.vm.findClass own = some m.cls) (hcls : Bundle.fit cls = true) (hnames : ∀ n ∈ names, Bundle.fit n = true)
    (hk : (Cond.classLink own ik cls).before args s = true) (hini : (Cond.initialized cls).before args s = true) (hstr : vk_R own is text sa s) (hat : ∀ w ∈ vx_atS own ic cls names, w.before args s = true)
    (hgood : ∀ w ∈ Cond.classLink own ik cls :: Cond.initialized cls :: vx_atS own ic cls names, vx_ot w = true)
    (hU : vx_Zq Bundle.tN "UNASSIGNED_STACK" Bundle.steD A s s.heap) (hN : vx_Zq Bundle.tN "SUPPRESSED_SENTINEL" Bundle.listD A s s.heap) (hS : va_S A s.heap H locs) (hsize : ls.size = c.maxLocals)
    (d0 : decode cc pc = .ok (.new ik, 3)) (d3 : decode cc (pc + 3) = .ok (.dup, 1)) (d4 : decode cc (pc + 4) = .ok (.ldc is, 2)) (d6 : decode cc (pc + 6) = .ok (.invokespecial ic, 3)) (d9 : decode cc (pc + 9) = .ok (.athrow, 1))
    (hout : ∀ x ∈ c.exceptionTable.toList, covers x (pc + 9) = false)
    (hRframes : names.length + 3 < R.frames) (hRlocals : (rest.map fun v => v.category).sum + (13 * (names.length + 1) + 43) ≤ R.locals) (hRcells : cells + 1 ≤ R.cells) (hRslots : slots + 6 ≤ R.slots) (hlocks : meth.locks = false)
    (hx : ∀ t : State, s.vm.Alike t.vm → H.size ≤ t.heap.size → (∀ q : Nat, q < H.size → t.heap[q]? = H[q]?) → XC cls s t)
    (hf : ∀ z ∈ locs, free z.base) (hc : cells + 1 ≤ mc) (hs : slots + 6 ≤ ms) :
    W p l e R s m args below meth c H locs cells slots (vx_MQ below Qc XC args s mc ms free) (F0 m pc ls rest) := by
  intro T hT X
  have htr : e.platform.stackTraces = false := (show e.platform.stackTraces = l.stackTraces by rw [X.admits.platform]).trans hl
  have Y := vx_rebase X (R' := { frames := R.frames, locals := R.locals, cells := 1, slots := 6 }) (Nat.le_refl _) (Nat.le_refl _) hRcells hRslots
  obtain ⟨s', hA⟩ : ∃ z, z = (T.setVm s.vm).setFrames (.invoking m args :: below) := ⟨_, rfl⟩
  rw [← hA] at Y
  have hvm : s'.vm = s.vm := by rw [hA]; rfl
  have hhp : s'.heap = H := by rw [hA]; exact hT
  have hW0 : s.WarmedH s'.vm := by rw [hvm]; exact State.WarmedH.refl s
  have hat' : ∀ w ∈ vx_atS own ic cls names, w.before args s' = true := fun w hw => vx_ot_at hW0 hvm.symm (hgood w (List.mem_cons_of_mem _ (List.mem_cons_of_mem _ hw))) (hat w hw)
  have hk' : (Cond.classLink own ik cls).before args s' = true := vx_ot_at hW0 hvm.symm (hgood _ List.mem_cons_self) hk
  have hini' : (Cond.initialized cls).before args s' = true := vx_ot_at hW0 hvm.symm (hgood _ (List.mem_cons_of_mem _ List.mem_cons_self)) hini
  have hU' : vx_Zq Bundle.tN "UNASSIGNED_STACK" Bundle.steD A s' s'.heap := by rw [hhp]; exact vx_Zq.moved hW0.alike (hU.kept hS.2.1)
  have hN' : vx_Zq Bundle.tN "SUPPRESSED_SENTINEL" Bundle.listD A s' s'.heap := by rw [hhp]; exact vx_Zq.moved hW0.alike (hN.kept hS.2.1)
  have h : ∀ w ∈ Bundle.ownAtoms own ic cls names, w.before args s' = true := vx_own hat' (vx_isRefq hU'.1) (vx_isRefq hN'.1) hU'.2.word hN'.2.word
  have hown' : s'.vm.findClass own = some m.cls := by rw [hvm]; exact hown
  have hins : (Cond.instantiable cls 6).before args s' = true := h _ (by simp [Bundle.ownAtoms])
  obtain ⟨vm₁, cX, kX, hfX, hkX, -, -, X₁, st1⟩ := Y.newCold hexec (own := own) (C := cls) (index := ik) (n := 6) hown' hk' hins hini'
    (g := F0 m pc ls rest) rfl (by rw [hb]; exact d0) (Nat.le_refl _) (Nat.le_refl _)
  generalize hT1 : (T.setVm vm₁).pushCell { cls := cX, slots := kX.instanceTypes.map defaultValue, vm := .none } = T1 at X₁ st1
  have hcat : (Value.ref T.heap.size).category = 1 := rfl
  have hcellA : T1.heap[T.heap.size]? = some (freshCell cX kX) := by rw [← hT1]; exact State.heap_pushCell_size _ _
  have d3' : decode c.code (pc + 3) = .ok (.dup, 1) := by rw [hb]; exact d3
  have d4' : decode c.code (pc + 4) = .ok (.ldc is, 2) := by rw [hb]; exact d4
  have hstr' : vk_R own is text sa s' := vk_R.warm hW0 hstr
  obtain ⟨U, hsteps, hrun, hend, hW, hsame, ce, hce, hO⟩ := X₁.ctorThrowS hexec htr (own := own) (cls := cls) (names := names) (ic := ic) hown' hcls hnames h (fun x hx => nomatch hx) hfX hkX hcellA (by rw [hhp, hT]; exact Nat.le_refl _) (msg := .ref sa) rfl
    (g := { method := m, pc := pc + 6, locals := ls, stack := .ref sa :: .ref T.heap.size :: .ref T.heap.size :: rest, locked := none }) rfl hsize rfl rfl (rest := rest) rfl
    (by rw [hb]; exact d6) (by rw [hb]; exact d9) hout hRframes (by simp only [List.map_cons, List.sum_cons, hcat]; omega) hlocks
  obtain ⟨f1, f2⟩ := vx_frame hsame
  rw [hhp] at f1 f2
  have hWs : s.WarmedH U.vm := State.WarmedH.trans hW0 hW
  have hcl : s.vm.findClass cls = some ce.cls := by
    have h9 := hO.cls
    rw [hvm] at h9
    exact h9
  have hall : s.sameButNew ({ U with vm := s.vm } : State) locs mc ms := by
    subst hA
    obtain ⟨e1, e2⟩ := hsame
    rw [State.setFrames_setFrames] at e1
    have h2 : (T.setVm s.vm).sameButNew ({ U with vm := s.vm } : State) [] (0 + 1) (0 + 6) := ⟨e1, e2⟩
    have h3 := X.same.trans h2
    rw [List.append_nil] at h3
    exact h3.mono hc hs
  refine ⟨U, ?_, .threw T.heap.size, hrun, hend, Or.inr ⟨T.heap.size, rfl, cls, ce, locs, hx U hWs.alike f1 (fun q hq => f2 q hq (fun z hz => nomatch hz)), hce, hO.vm, hcl, hWs, hall, hf⟩⟩
  refine st1 _ ?_
  show Steps p.tables e below (T1.setTop { method := m, pc := pc + 3, locals := ls, stack := .ref T.heap.size :: rest, locked := none }) _
  jvm_step X₁.here [X₁.here.top, hexec, d3', Value.category]
  exact X₁.ldcString hexec (own := own) (text := text) (index := is) (a := sa) hown' hstr'.1 hstr'.2
    (g := { method := m, pc := pc + 4, locals := ls, stack := .ref T.heap.size :: .ref T.heap.size :: rest, locked := none }) rfl d4' _ hsteps
/-- 'throw new E("text")', the text by a wide index -/
theorem vx_throwSW {cc : ByteArray} {pc : Nat} (hexec : p.tables.exec = Jvm.exec) (hb : c.code = cc) (hl : l.stackTraces = false) {own cls text : String} {names : List String} {ik is ic mc ms sa : Nat} {A : Nat → Prop}
    (hown : s.vm.findClass own = some m.cls) (hcls : Bundle.fit cls = true) (hnames : ∀ n ∈ names, Bundle.fit n = true)
    (hk : (Cond.classLink own ik cls).before args s = true) (hini : (Cond.initialized cls).before args s = true) (hstr : vk_R own is text sa s) (hat : ∀ w ∈ vx_atS own ic cls names, w.before args s = true)
    (hgood : ∀ w ∈ Cond.classLink own ik cls :: Cond.initialized cls :: vx_atS own ic cls names, vx_ot w = true)
    (hU : vx_Zq Bundle.tN "UNASSIGNED_STACK" Bundle.steD A s s.heap) (hN : vx_Zq Bundle.tN "SUPPRESSED_SENTINEL" Bundle.listD A s s.heap) (hS : va_S A s.heap H locs) (hsize : ls.size = c.maxLocals)
    (d0 : decode cc pc = .ok (.new ik, 3)) (d3 : decode cc (pc + 3) = .ok (.dup, 1)) (d4 : decode cc (pc + 4) = .ok (.ldc_w is, 3)) (d7 : decode cc (pc + 7) = .ok (.invokespecial ic, 3)) (d10 : decode cc (pc + 10) = .ok (.athrow, 1))
    (hout : ∀ x ∈ c.exceptionTable.toList, covers x (pc + 10) = false)
    (hRframes : names.length + 3 < R.frames) (hRlocals : (rest.map fun v => v.category).sum + (13 * (names.length + 1) + 43) ≤ R.locals) (hRcells : cells + 1 ≤ R.cells) (hRslots : slots + 6 ≤ R.slots) (hlocks : meth.locks = false)
    (hx : ∀ t : State, s.vm.Alike t.vm → H.size ≤ t.heap.size → (∀ q : Nat, q < H.size → t.heap[q]? = H[q]?) → XC cls s t)
    (hf : ∀ z ∈ locs, free z.base) (hc : cells + 1 ≤ mc) (hs : slots + 6 ≤ ms) :
    W p l e R s m args below meth c H locs cells slots (vx_MQ below Qc XC args s mc ms free) (F0 m pc ls rest) := by
  intro T hT X
  have htr : e.platform.stackTraces = false := (show e.platform.stackTraces = l.stackTraces by rw [X.admits.platform]).trans hl
  have Y := vx_rebase X (R' := { frames := R.frames, locals := R.locals, cells := 1, slots := 6 }) (Nat.le_refl _) (Nat.le_refl _) hRcells hRslots
  obtain ⟨s', hA⟩ : ∃ z, z = (T.setVm s.vm).setFrames (.invoking m args :: below) := ⟨_, rfl⟩
  rw [← hA] at Y
  have hvm : s'.vm = s.vm := by rw [hA]; rfl
  have hhp : s'.heap = H := by rw [hA]; exact hT
  have hW0 : s.WarmedH s'.vm := by rw [hvm]; exact State.WarmedH.refl s
  have hat' : ∀ w ∈ vx_atS own ic cls names, w.before args s' = true := fun w hw => vx_ot_at hW0 hvm.symm (hgood w (List.mem_cons_of_mem _ (List.mem_cons_of_mem _ hw))) (hat w hw)
  have hk' : (Cond.classLink own ik cls).before args s' = true := vx_ot_at hW0 hvm.symm (hgood _ List.mem_cons_self) hk
  have hini' : (Cond.initialized cls).before args s' = true := vx_ot_at hW0 hvm.symm (hgood _ (List.mem_cons_of_mem _ List.mem_cons_self)) hini
  have hU' : vx_Zq Bundle.tN "UNASSIGNED_STACK" Bundle.steD A s' s'.heap := by rw [hhp]; exact vx_Zq.moved hW0.alike (hU.kept hS.2.1)
  have hN' : vx_Zq Bundle.tN "SUPPRESSED_SENTINEL" Bundle.listD A s' s'.heap := by rw [hhp]; exact vx_Zq.moved hW0.alike (hN.kept hS.2.1)
  have h : ∀ w ∈ Bundle.ownAtoms own ic cls names, w.before args s' = true := vx_own hat' (vx_isRefq hU'.1) (vx_isRefq hN'.1) hU'.2.word hN'.2.word
  have hown' : s'.vm.findClass own = some m.cls := by rw [hvm]; exact hown
  have hins : (Cond.instantiable cls 6).before args s' = true := h _ (by simp [Bundle.ownAtoms])
  obtain ⟨vm₁, cX, kX, hfX, hkX, -, -, X₁, st1⟩ := Y.newCold hexec (own := own) (C := cls) (index := ik) (n := 6) hown' hk' hins hini'
    (g := F0 m pc ls rest) rfl (by rw [hb]; exact d0) (Nat.le_refl _) (Nat.le_refl _)
  generalize hT1 : (T.setVm vm₁).pushCell { cls := cX, slots := kX.instanceTypes.map defaultValue, vm := .none } = T1 at X₁ st1
  have hcat : (Value.ref T.heap.size).category = 1 := rfl
  have hcellA : T1.heap[T.heap.size]? = some (freshCell cX kX) := by rw [← hT1]; exact State.heap_pushCell_size _ _
  have d3' : decode c.code (pc + 3) = .ok (.dup, 1) := by rw [hb]; exact d3
  have d4' : decode c.code (pc + 4) = .ok (.ldc_w is, 3) := by rw [hb]; exact d4
  have hstr' : vk_R own is text sa s' := vk_R.warm hW0 hstr
  obtain ⟨U, hsteps, hrun, hend, hW, hsame, ce, hce, hO⟩ := X₁.ctorThrowS hexec htr (own := own) (cls := cls) (names := names) (ic := ic) hown' hcls hnames h (fun x hx => nomatch hx) hfX hkX hcellA (by rw [hhp, hT]; exact Nat.le_refl _) (msg := .ref sa) rfl
    (g := { method := m, pc := pc + 7, locals := ls, stack := .ref sa :: .ref T.heap.size :: .ref T.heap.size :: rest, locked := none }) rfl hsize rfl rfl (rest := rest) rfl
    (by rw [hb]; exact d7) (by rw [hb]; exact d10) hout hRframes (by simp only [List.map_cons, List.sum_cons, hcat]; omega) hlocks
  obtain ⟨f1, f2⟩ := vx_frame hsame
  rw [hhp] at f1 f2
  have hWs : s.WarmedH U.vm := State.WarmedH.trans hW0 hW
  have hcl : s.vm.findClass cls = some ce.cls := by
    have h9 := hO.cls
    rw [hvm] at h9
    exact h9
  have hall : s.sameButNew ({ U with vm := s.vm } : State) locs mc ms := by
    subst hA
    obtain ⟨e1, e2⟩ := hsame
    rw [State.setFrames_setFrames] at e1
    have h2 : (T.setVm s.vm).sameButNew ({ U with vm := s.vm } : State) [] (0 + 1) (0 + 6) := ⟨e1, e2⟩
    have h3 := X.same.trans h2
    rw [List.append_nil] at h3
    exact h3.mono hc hs
  refine ⟨U, ?_, .threw T.heap.size, hrun, hend, Or.inr ⟨T.heap.size, rfl, cls, ce, locs, hx U hWs.alike f1 (fun q hq => f2 q hq (fun z hz => nomatch hz)), hce, hO.vm, hcl, hWs, hall, hf⟩⟩
  refine st1 _ ?_
  show Steps p.tables e below (T1.setTop { method := m, pc := pc + 3, locals := ls, stack := .ref T.heap.size :: rest, locked := none }) _
  jvm_step X₁.here [X₁.here.top, hexec, d3', Value.category]
  exact X₁.ldcStringW hexec (own := own) (text := text) (index := is) (a := sa) hown' hstr'.1 hstr'.2
    (g := { method := m, pc := pc + 4, locals := ls, stack := .ref T.heap.size :: .ref T.heap.size :: rest, locked := none }) rfl d4' _ hsteps
end Ends
section Bodies
variable {l : Launch}
theorem vx_ofW {y : MethodName} {ws ws' : List Cond} {rm : Room} {Pc : Array Value → State → Prop} {Qc : Array Value → State → Outcome → State → Prop} {XC : String → State → State → Prop} {mc ms : Nat} {free : Addr → Prop} {cc : ByteArray} {maxL : Nat} {ret : Option FieldType}
    (hy : plainName y.cls = true) (hw : ws = Cond.code y cc maxL ret :: ws')
    (body : ∀ p e s m args below meth c s₁, BodyLoose p l y (headSpec ws rm) cc maxL ret e s m args below meth c s₁ → c.maxLocals = maxL → (∀ x ∈ c.exceptionTable.toList, False) → Pc args s →
      W p l e (headSpec ws rm).room s m args below meth c s.heap [] 0 0 (vx_MQ below Qc XC args s mc ms free) (entryFrame m args maxL)) : vx_Met l y ws rm Pc Qc XC mc ms free := by
  refine MetFree.of_bodyS (code := cc) (maxLocals := maxL) (ret := ret) hy ?_ ?_
  · intro args s m h hn
    obtain ⟨meth, c, h1, h2, h3, h4, h5, h6, -, -⟩ := Cond.code_spec hn (atoms_spec (ws := ws) h _ (by rw [hw]; exact List.mem_cons_self))
    exact ⟨meth, c, h1, h2, h3, h4, h5, h6⟩
  · intro p e s m args below meth c s₁ B hml hP _
    have hh0 : s₁.heap = s.heap := by rw [B.state]; rfl
    have ht : ∀ x ∈ c.exceptionTable.toList, False := by
      obtain ⟨meth9, c9, h1, h2, -, -, -, -, h7, -⟩ := Cond.code_spec B.named (atoms_spec (ws := ws) B.pre _ (by rw [hw]; exact List.mem_cons_self))
      cases Option.some.inj (h1.symm.trans B.method)
      cases Option.some.inj (h2.symm.trans (Stand.of_body B).code)
      intro x hx
      rw [Array.isEmpty_iff.mp h7] at hx
      cases hx
    obtain ⟨t, a1, o, b1, b2, b3⟩ := body p e s m args below meth c s₁ B hml ht hP s₁ hh0 (Stand.of_body B)
    exact ⟨t, o, a1, b1, b2, b3⟩
/-- the table of a body with handlers -/
theorem vx_table {p : Program} {x y : MethodName} {S : Spec} {cc bytes : ByteArray} {maxL maxL' : Nat} {ret ret' : Option FieldType} {e : Env} {s s₁ : State} {m : MethodId} {args : Array Value} {below : List Frame} {meth : Method} {c : Code} {hh : List (Nat × Nat × Nat × Nat)}
    (B : BodyLoose p l y S cc maxL ret e s m args below meth c s₁) (h : (Cond.codeWith y bytes maxL' ret' hh).before args s = true) : c.exceptionTable.toList = tableOf hh := by
  obtain ⟨m9, meth9, c9, hn9, h1, h2, -, -, h6, -⟩ := Cond.codeWith_spec h
  cases Option.some.inj (hn9.symm.trans B.named)
  cases Option.some.inj (h1.symm.trans B.method)
  cases Option.some.inj (h2.symm.trans (Stand.of_body B).code)
  rw [← h6, table_eq]
end Bodies
end VXA
/-! ===== END ===== -/
/-! ===== BEGIN a static call of a method with an exception table ===== -/
section VXS
variable {p : Program} {l : Launch} {e : Env} {R : Room} {s : State} {m : MethodId} {args : Array Value} {below : List Frame} {meth : Method} {c : Code} {T : State} {H : Heap} {locs : List Loc} {cells slots : Nat}
abbrev vx_CSW (R : Room) (s : State) (args : Array Value) (own : String) (index : Nat) (y : MethodName) (bytes : ByteArray) (maxL : Nat) (ret : Option FieldType) (hh : List (Nat × Nat × Nat × Nat)) (ws : List Cond) (rm : Room) (mc ms n : Nat) : Prop :=
  (rm.cells = mc ∧ rm.slots = ms ∧ rm.frames + 1 ≤ R.frames ∧ 8 + (maxL + 11) + rm.locals ≤ R.locals ∧ (∀ w ∈ ws, ∀ (a' : Array Value) (U : State), s.WarmedH U.vm → w.before a' U = true) ∧ Cond.codeWith y bytes maxL ret hh ∈ ws) ∧
  (Cond.codeWith y bytes maxL ret hh).before args s = true ∧ (Cond.initialized y.cls).before args s = true ∧ (y.cls ≠ "java/lang/invoke/MethodHandle" ∧ y.cls ≠ "java/lang/invoke/VarHandle") ∧
  (∀ sig, parseMethodDescriptor y.desc = some sig → n = sig.parameters.length) ∧ (Cond.methodLink own index y).before args s = true ∧ (Cond.static y).before args s = true
theorem vx_cwSW {own : String} {index maxL mc ms : Nat} {y : MethodName} {bytes : ByteArray} {ret : Option FieldType} {hh : List (Nat × Nat × Nat × Nat)} {Ts ws ws' : List Cond} {rm : Room} (n : Nat) (ht : ∀ w ∈ Ts, w.before args s = true) (hT : GoodIn Ts (va_wsS own index y ws)) (hw : ws = Cond.codeWith y bytes maxL ret hh :: ws') (hrc : rm.cells = mc) (hrs : rm.slots = ms)
    (hd : y.cls ≠ "java/lang/invoke/MethodHandle" ∧ y.cls ≠ "java/lang/invoke/VarHandle" ∧ (parseMethodDescriptor y.desc).map (fun d => d.parameters.length) = some n) (hR : rm.frames + 1 ≤ R.frames ∧ 8 + (maxL + 11) + rm.locals ≤ R.locals) :
    vx_CSW R s args own index y bytes maxL ret hh ws rm mc ms n := by
  have ok : ∀ w ∈ va_wsS own index y ws, w.before args s = true := fun w h => ht w (hT w h).1
  have hG : GoodIn Ts ws := fun w h => hT w (by unfold va_wsS; exact List.mem_append_right _ h)
  have hc : Cond.codeWith y bytes maxL ret hh ∈ ws := by rw [hw]; exact List.mem_cons_self
  refine ⟨⟨hrc, hrs, hR.1, hR.2, pay_in ht hG, hc⟩, ht _ (hG _ hc).1, ok _ (by simp [va_wsS]), ⟨hd.1, hd.2.1⟩, fun sig h => ?_, ok _ (by simp [va_wsS]), ok _ (by simp [va_wsS])⟩
  have h2 := hd.2.2
  rw [h] at h2
  exact (Option.some.inj h2).symm
theorem vx_callSW (X : Stand p l e R s m args below meth c T locs cells slots) (hexec : p.tables.exec = Jvm.exec) {own : String} {index : Nat} {y : MethodName} {bytes : ByteArray} {maxL : Nat} {ret : Option FieldType} {hh : List (Nat × Nat × Nat × Nat)}
    (hown : s.vm.findClass own = some m.cls) (hlink : (Cond.methodLink own index y).before args s = true) (hstat : (Cond.static y).before args s = true) (hinit : (Cond.initialized y.cls).before args s = true)
    (hcode : (Cond.codeWith y bytes maxL ret hh).before args s = true) (hy : y.cls ≠ "java/lang/invoke/MethodHandle" ∧ y.cls ≠ "java/lang/invoke/VarHandle")
    {W9 : Nat} {Pre : Pt → Array Value → Prop} {Post : Pt → Array Value → Option Value → Pt → Prop} (hK : Back l R p e below s args y 3 W9 Pre Post)
    {g : JFrame} (hg : g.method = m) (hsize : g.locals.size = c.maxLocals) {argsL rest : List Value} (hlen : ∀ sig, parseMethodDescriptor y.desc = some sig → argsL.length = sig.parameters.length)
    (hstack : g.stack = argsL.reverse ++ rest) (hW : 2 * g.monitorRoom + (rest.map fun v => v.category).sum ≤ W9) (hdg : decode c.code g.pc = .ok (.invokestatic index, 3))
    (hpre : ∀ vm₁, s.WarmedH vm₁ → Pre ⟨T.setVm vm₁, locs, cells, slots⟩ argsL.toArray) :
    ∃ (v : Option Value) (vm₁ : Vm) (B : Pt), s.WarmedH vm₁ ∧ Stand p l e R s m args below meth c B.U B.locs B.cells B.slots ∧ Post ⟨T.setVm vm₁, locs, cells, slots⟩ argsL.toArray v B ∧
      ∀ target, Steps p.tables e below (B.U.setTop { g with pc := g.pc + 3, stack := v.toList ++ rest }) target → Steps p.tables e below (T.setTop g) target := by
  obtain ⟨mk, methM, cM, hnamed, hmethM, -, -, -, -, -, -, hsigM⟩ := Cond.codeWith_spec hcode
  have hstatic : methM.isStatic = true := Cond.static_spec hnamed hmethM hstat
  obtain ⟨kP, hkP, -⟩ := className_of_methodNamed hnamed
  have hinitP : kP.init = .initialized := Cond.initialized_spec (findClass_of_methodNamed hnamed) hkP hinit
  obtain ⟨vm₁, X₁, hstep₁⟩ := X.invokestatic hexec hown hlink hnamed hmethM hstatic hkP hinitP hy (g := g) hg (argsL := argsL) (rest := rest) (hlen _ hsigM) hstack hdg
  obtain ⟨v, B, X', hpost, hsteps⟩ := hK m meth c ⟨T.setVm vm₁, locs, cells, slots⟩ { g with stack := rest } (.invokestatic index) mk argsL.toArray X₁ hg hsize hdg hW (X₁.named hnamed) (hpre vm₁ X₁.warmed)
  exact ⟨v, vm₁, B, X₁.warmed, X', hpost, fun target h => hstep₁ _ fun acts => by rw [doInvoke_state]; exact hsteps.trans h⟩
theorem vx_runSW {y : MethodName} {bytes cc : ByteArray} {maxL nL mc ms n index : Nat} {ret : Option FieldType} {hh : List (Nat × Nat × Nat × Nat)} {ws : List Cond} {rm : Room} {Pc : Array Value → State → Prop} {Qc : Array Value → State → Outcome → State → Prop} {free : Addr → Prop} {Ts : List Cond} {own : String} {As rest : List Value} {g : JFrame}
    (S : CallFix p m c cc nL s args Ts own) (hM : Met l y ws rm Pc Qc mc ms free) (cw : vx_CSW R s args own index y bytes maxL ret hh ws rm mc ms n) (hp : PreS s H Pc As)
    (hg : g.method = m) (hn : As.length = n) (hsize : g.locals.size = nL) (hstack : g.stack = As.reverse ++ rest) (hW : 2 * g.monitorRoom + (rest.map fun v => v.category).sum ≤ 8) (hdg : decode cc g.pc = .ok (.invokestatic index, 3)) (hf : cells + mc ≤ R.cells ∧ slots + ms ≤ R.slots) :
    va_Run p l e R s m args below meth c H locs cells slots mc ms g rest (Qc As.toArray) (free) := by
  obtain ⟨⟨hrc, hrs, hfr, hlo, hws, hcw⟩, hcode, hini, hy, hlen, hl, hstt⟩ := cw
  have hK : Back l R p e below s args y 3 8 (PreOf R mc ms Pc) (PostOf Qc mc ms free) := va_backW (hh := hh) (bytes := bytes) (maxL := maxL) (ret := ret) hM hp.1 hrc hrs hfr hlo hws hcw (fun a' U hW => word_at hW (Or.inl (by first | rfl | simp [Cond.onTables, Cond.keeps, Cond.steady])) hini)
  obtain ⟨hx, hb, hml, ho, -⟩ := S
  intro T hT X
  obtain ⟨v, vm₁, ⟨U', l2, c2, s2⟩, hW₁, X', ⟨g', mk, t, L, e1, e2, hq, h1, hL, h2, h3⟩, st⟩ := vx_callSW X hx (hh := hh) (bytes := bytes) (maxL := maxL) (ret := ret) ho hl hstt hini hcode hy hK hg (hsize.trans hml.symm) (argsL := As) (rest := rest) (fun sig h => hn.trans (hlen sig h)) hstack hW (by rw [hb]; exact hdg)
    (fun vm₁ hW₁ => ⟨hf.1, hf.2, hp.2 (T.setVm vm₁) hT hW₁⟩)
  dsimp only [Pt.U, Pt.locs, Pt.cells, Pt.slots] at X' e1 e2 h1 h2 h3 st
  subst h1; subst h2; subst h3
  exact ⟨v, (T.setVm vm₁).calling g' mk As.toArray, t, U', L, hT, X', hL, e1, e2, hq, st⟩
/-- not caught here, past rows that name other classes: it goes on to the caller -/
theorem vx_outP {p : Program} {l : Launch} {e : Env} {R : Room} {s : State} {m : MethodId} {args : Array Value} {below : List Frame} {meth : Method} {c : Code} {H : Heap} {locs : List Loc} {cells slots : Nat} {free : Addr → Prop} {ls : Array Slot} {rest : List Value} {Qc : Array Value → State → Outcome → State → Prop} {XC : String → State → State → Prop}
    {pc : Nat} {own E : String} {ce : Cell} {q : Addr} {mc ms : Nat} (hown : s.vm.findClass own = some m.cls) (hlocks : meth.locks = false)
    (hpass : ∀ z ∈ c.exceptionTable.toList, covers z pc = false ∨ (z.catchType ≠ 0 ∧ ∃ nm : String, (Cond.classLink own z.catchType nm).before args s = true ∧ va_Nc E nm s)) (hcell : H[q]? = some ce) (hv : ce.vm = .none) (hcl : s.vm.findClass E = some ce.cls)
    (hx : ∀ t : State, t.heap = H → s.vm.Alike t.vm → XC E s t) (hf : ∀ z ∈ locs, free z.base) (hc : cells ≤ mc) (hs : slots ≤ ms) :
    vx_W p l e R s m args below meth c H locs cells slots (vx_MQ below Qc XC args s mc ms free) (F0 m pc ls rest) q := by
  intro T hT X
  have hpl : e.platform.magicAccessors = ({} : Platform).magicAccessors := by rw [X.admits.platform]
  obtain ⟨vm', hW', X', st⟩ := X.outThrough hlocks q (g := F0 m pc ls rest) rfl rfl rfl (cell := ce) (by rw [hT]; exact hcell) (by rw [hv]; rfl)
    (by obtain ⟨k9, h9, -⟩ := Vm.findClass_spec hcl; exact ⟨k9, h9⟩) (fun z hz => by
      rcases hpass z hz with h | ⟨hz0, nm, hl1, hn1⟩
      · exact Or.inl h
      · obtain ⟨c6, hc6, hcl6⟩ := Cond.classLink_spec hown hl1 e.platform hpl
        obtain ⟨a8, b8, h1, h2, h3⟩ := hn1
        cases Option.some.inj (h1.symm.trans hcl)
        cases Option.some.inj (h2.symm.trans hc6)
        exact Or.inr ⟨hz0, _, hcl6, h3⟩)
  obtain ⟨g₀, hfr⟩ := X'.frames_eq
  have hcell9 : ((T.setVm vm').setFrames (.throwing q :: below)).heap[q]? = some ce := by
    show T.heap[q]? = some ce
    rw [hT]; exact hcell
  have hend : Ended ((T.setVm vm').setFrames (.throwing q :: below)) below (.threw q) := State.frames_setFrames _ (State.cur_lt_of_frames hfr)
  refine ⟨(T.setVm vm').setFrames (.throwing q :: below), ?_, .threw q, X'.here.running, hend, Or.inr ⟨q, rfl, E, ce, locs, hx _ hT (X'.ends _).1.alike, hcell9, hv, hcl, (X'.ends _).1, (X'.ends _).2.mono hc hs, hf⟩⟩
  rw [X.pushThrowing_eq]
  exact st
/-- a thing of a world lies in the heap -/
theorem vx_lt {D : va_G} {cl : List vw_C} {ws : va_W} {H1 : Heap} (h : va_P D cl ws H1) {k : Nat} {q : Nat × va_E} (hk : ws[k]? = some q) : q.1 < H1.size := (h k q hk).lt
end VXS
/-! ===== END ===== -/
/-! ===== BEGIN methods with a table of their own: called by a name, returning or throwing ===== -/
section VXH
/-! vx_backW, vx_callVX, vx_callSX, vx_callVW, vx_runVW, vx_runVX, vx_runSX, vx_ofWH follow the same proofs as their sisters above (Free/Laws.lean, Shelf42/LK1.lean); vx_outP calls Shelf42/NT130.lean (outThrough). -/
section
variable {l : Launch} {R : Room} {p : Program} {e : Env} {below : List Frame} {s : State} {sargs : Array Value} {y : MethodName} {len W9 : Nat}
theorem vx_backW {ws : List Cond} {rm : Room} {Pc : Array Value → State → Prop} {Qc : Array Value → State → Outcome → State → Prop} {XC : String → State → State → Prop} {mc ms : Nat} {free : Addr → Prop} {bytes : ByteArray} {maxL : Nat} {ret : Option FieldType} {hh : List (Nat × Nat × Nat × Nat)}
    (hM : vx_Met l y ws rm Pc Qc XC mc ms free) (hblind : FrameBlind Pc) (hrc : rm.cells = mc) (hrs : rm.slots = ms)
    (hframes : rm.frames + 1 ≤ R.frames) (hlocals : W9 + (maxL + 11) + rm.locals ≤ R.locals)
    (hws : ∀ w ∈ ws, ∀ a' U, s.WarmedH U.vm → w.before a' U = true) (hcode : Cond.codeWith y bytes maxL ret hh ∈ ws) (hinit : ∀ a' U, s.WarmedH U.vm → (Cond.initialized y.cls).before a' U = true) :
    vx_Back l R p e below s sargs y len W9 (PreOf R mc ms Pc) (PostOf Qc mc ms free) (vx_Post XC mc ms free) := by
  intro m meth c A g ig mk a X hg hsize hdg hW hn hp
  have h1 : (headSpec ws rm).pre.before a A.U = true := atoms_intro fun w hw => hws w hw _ _ X.warmed
  have h2 : (Cond.codeWith y bytes maxL ret hh).before a A.U = true := hws _ hcode _ _ X.warmed
  have h3 : (Cond.initialized y.cls).before a A.U = true := hinit _ _ X.warmed
  have h4 : A.cells + (headSpec ws rm).room.cells ≤ R.cells := by rw [show (headSpec ws rm).room.cells = mc from hrc]; exact hp.1
  have h5 : A.slots + (headSpec ws rm).room.slots ≤ R.slots := by rw [show (headSpec ws rm).room.slots = ms from hrs]; exact hp.2.1
  have hPc : Pc a (A.U.calling g mk a) := hblind _ _ _ _ hp.2.2
  obtain ⟨U, Ls, c0, s0⟩ := A
  dsimp only [Pt.U, Pt.locs, Pt.cells, Pt.slots] at h1 h2 h3 h4 h5 X hn hPc ⊢
  obtain ⟨m9, methY, cY, hn9, hmY, hcY, -, hlY, -⟩ := Cond.codeWith_spec h2
  cases Option.some.inj (hn9.symm.trans hn)
  obtain ⟨kY, hkY, -⟩ := className_of_methodNamed hn
  have hinitY : kY.init = .initialized := Cond.initialized_spec (findClass_of_methodNamed hn) hkY h3
  have h : At U g.method c below := by rw [hg]; exact X.here
  have hlocals9 : W9 + (maxL + 11) + (headSpec ws rm).room.locals ≤ R.locals := hlocals
  have happ : (headSpec ws rm).appliesLoose y e.platform (U.calling g mk a) = true :=
    Spec.appliesLoose_calling (g := g) h hdg hn hkY hinitY
      (X.room_calling (g := g) (R' := (headSpec ws rm).room) hsize hmY hcY hframes (by rw [hlY]; omega) h4 h5) h1
  obtain ⟨mid, hmid⟩ := h.above
  have hfr : (U.setTop g).frames = (.java g :: mid) ++ below := by rw [State.frames_setTop' g h.top, hmid]; rfl
  obtain ⟨o, s₂, hsteps, -, hend, hq⟩ := Steps.callFree hM p X.admits X.cas X.clock (acts := []) hfr happ hPc trivial
  have hq' : vx_Q Qc XC mc ms free a (U.calling g mk a) o s₂ := hq
  rw [State.frames_setTop' g h.top] at hend
  obtain ⟨g₀, hg0⟩ := Option.isSome_iff_exists.mp h.top
  obtain ⟨r, hr⟩ := State.topJava?_eq_some.mp hg0
  have hr' : (({ U with heap := s₂.heap, slotsUsed := s₂.slotsUsed } : State).setVm s₂.vm).frames = .java g₀ :: r := hr
  rcases hq' with ⟨hqc, L, hfe, hL⟩ | ⟨q, rfl, E, ce, L, hx, hce, hcv, hcl, hW₂, hsm, hL⟩
  · obtain ⟨⟨v, rfl⟩, hW₂, e2, q2, q3, q4, q5, q6⟩ := id hfe
    have e3 : s₂ = ({ (U.calling g mk a).setFrames s₂.frames with heap := s₂.heap, slotsUsed := s₂.slotsUsed } : State).setVm s₂.vm := by
      have : s₂ = ({ s₂ with vm := (U.calling g mk a).vm } : State).setVm s₂.vm := rfl
      rw [e2] at this
      exact this
    obtain ⟨c₂, i₂, len₂, hc₂, hd₂, hf₂⟩ := hend
    have hW' : U.WarmedH s₂.vm := hW₂
    have hcc : c₂ = c := by
      have h1 : s₂.code? g.method = U.code? g.method := by
        rw [State.code?_eq, State.code?_eq, hW'.alike.method?]
      exact Option.some.inj (hc₂.symm.trans (h1.trans h.code))
    subst hcc
    have hlen : len₂ = len := by rw [hdg] at hd₂; cases hd₂; rfl
    subst hlen
    have hs₂ : s₂ = (({ U with heap := s₂.heap, slotsUsed := s₂.slotsUsed } : State).setVm s₂.vm).setTop { g with pc := g.pc + len₂, stack := v.toList ++ g.stack } := by
      refine e3.trans ?_
      rw [hf₂, State.calling_eq h.top, State.setFrames_setFrames, State.setTop_of_frames _ hr', hr]
      rfl
    have hsame : U.sameButNew ({ U with heap := s₂.heap, slotsUsed := s₂.slotsUsed } : State) L mc ms := by
      refine ⟨?_, q2, q3, q4, q5, q6⟩
      obtain ⟨t, ht, -⟩ := State.frames_cons hr
      show ({ U with heap := s₂.heap, slotsUsed := s₂.slotsUsed } : State) = { U.setFrames U.frames with heap := s₂.heap, slotsUsed := s₂.slotsUsed }
      rw [State.setFrames_self ht]
    subst hg
    refine Or.inl ⟨v, ⟨(({ U with heap := s₂.heap, slotsUsed := s₂.slotsUsed } : State).setVm s₂.vm), Ls ++ L, c0 + mc, s0 + ms⟩,
      ⟨X.admits, X.cas, X.clock, X.frames, X.room, X.hears, X.method, X.code, (X.here.setHeapUsed s₂.heap s₂.slotsUsed).setVm hW'.alike, X.tail, State.WarmedH.trans X.warmed hW', X.limits, X.bytes, X.same.trans (hsame.setVm s.vm)⟩,
      ⟨g, mk, s₂, L, rfl, rfl, hqc, rfl, hL, rfl, rfl⟩, ?_⟩
    show Steps p.tables e below _ ((({ U with heap := s₂.heap, slotsUsed := s₂.slotsUsed } : State).setVm s₂.vm).setTop { g with pc := g.pc + len₂, stack := v.toList ++ g.stack })
    rw [← hs₂]
    exact hsteps
  · obtain ⟨e2, q2, q3, q4, q5, q6⟩ := id hsm
    have e3 : s₂ = ({ (U.calling g mk a).setFrames s₂.frames with heap := s₂.heap, slotsUsed := s₂.slotsUsed } : State).setVm s₂.vm := by
      have : s₂ = ({ s₂ with vm := (U.calling g mk a).vm } : State).setVm s₂.vm := rfl
      rw [e2] at this
      exact this
    have hf₂ : s₂.frames = .throwing q :: .java g :: U.frames.tail := hend
    have hW' : U.WarmedH s₂.vm := hW₂
    have hs₂ : s₂ = ((({ U with heap := s₂.heap, slotsUsed := s₂.slotsUsed } : State).setVm s₂.vm).setTop g).pushFrame (.throwing q) := by
      refine e3.trans ?_
      rw [hf₂, State.calling_eq h.top, State.setFrames_setFrames, State.pushFrame, State.frames_setTop _ hr', State.setTop_of_frames _ hr', State.setFrames_setFrames, hr]
      rfl
    have hsame : U.sameButNew ({ U with heap := s₂.heap, slotsUsed := s₂.slotsUsed } : State) L mc ms := by
      refine ⟨?_, q2, q3, q4, q5, q6⟩
      obtain ⟨t, ht, -⟩ := State.frames_cons hr
      show ({ U with heap := s₂.heap, slotsUsed := s₂.slotsUsed } : State) = { U.setFrames U.frames with heap := s₂.heap, slotsUsed := s₂.slotsUsed }
      rw [State.setFrames_self ht]
    subst hg
    refine Or.inr ⟨q, ⟨(({ U with heap := s₂.heap, slotsUsed := s₂.slotsUsed } : State).setVm s₂.vm), Ls ++ L, c0 + mc, s0 + ms⟩,
      ⟨X.admits, X.cas, X.clock, X.frames, X.room, X.hears, X.method, X.code, (X.here.setHeapUsed s₂.heap s₂.slotsUsed).setVm hW'.alike, X.tail, State.WarmedH.trans X.warmed hW', X.limits, X.bytes, X.same.trans (hsame.setVm s.vm)⟩,
      ⟨g, mk, s₂, L, E, ce, rfl, rfl, hx, hce, hcv, hcl, rfl, hL, rfl, rfl⟩, ?_⟩
    show Steps p.tables e below _ (((({ U with heap := s₂.heap, slotsUsed := s₂.slotsUsed } : State).setVm s₂.vm).setTop g).pushFrame (.throwing q))
    rw [← hs₂]
    exact hsteps
end
variable {p : Program} {l : Launch} {e : Env} {R : Room} {s : State} {m : MethodId} {args : Array Value} {below : List Frame} {meth : Method} {c : Code} {T : State} {H : Heap} {locs : List Loc} {cells slots : Nat}
theorem vx_callVX (X : Stand p l e R s m args below meth c T locs cells slots) (hexec : p.tables.exec = Jvm.exec) {own C : String} {index : Nat} {y : MethodName} {bytes : ByteArray} {maxL : Nat} {ret : Option FieldType} {hh : List (Nat × Nat × Nat × Nat)}
    (hown : s.vm.findClass own = some m.cls) (hlink : (Cond.methodLink own index y).before args s = true) (hinst : (Cond.instanceMethod y).before args s = true) (hsel : (Cond.selects C y y).before args s = true)
    (hcode : (Cond.codeWith y bytes maxL ret hh).before args s = true) (hy : y.cls ≠ "java/lang/invoke/MethodHandle" ∧ y.cls ≠ "java/lang/invoke/VarHandle")
    {W9 : Nat} {Pre : Pt → Array Value → Prop} {Post : Pt → Array Value → Option Value → Pt → Prop} {PostX : Pt → Array Value → Addr → Pt → Prop} (hK : vx_Back l R p e below s args y 3 W9 Pre Post PostX)
    {b : Addr} {cellB : Cell} (hcell : T.heap[b]? = some cellB) (hobj : cellB.vm.isStatics = false) (hcls : s.vm.findClass C = some cellB.cls)
    {g : JFrame} (hg : g.method = m) (hsize : g.locals.size = c.maxLocals) {argsL rest : List Value} (hlen : ∀ sig, parseMethodDescriptor y.desc = some sig → argsL.length = sig.parameters.length)
    (hstack : g.stack = argsL.reverse ++ .ref b :: rest) (hW : 2 * g.monitorRoom + (rest.map fun v => v.category).sum ≤ W9) (hdg : decode c.code g.pc = .ok (.invokevirtual index, 3))
    (hpre : ∀ vm₁, s.WarmedH vm₁ → Pre ⟨T.setVm vm₁, locs, cells, slots⟩ (Value.ref b :: argsL).toArray) :
    (∃ (v : Option Value) (vm₁ : Vm) (B : Pt), s.WarmedH vm₁ ∧ Stand p l e R s m args below meth c B.U B.locs B.cells B.slots ∧ Post ⟨T.setVm vm₁, locs, cells, slots⟩ (Value.ref b :: argsL).toArray v B ∧
      ∀ target, Steps p.tables e below (B.U.setTop { g with pc := g.pc + 3, stack := v.toList ++ rest }) target → Steps p.tables e below (T.setTop g) target) ∨
    (∃ (q : Addr) (vm₁ : Vm) (B : Pt), s.WarmedH vm₁ ∧ Stand p l e R s m args below meth c B.U B.locs B.cells B.slots ∧ PostX ⟨T.setVm vm₁, locs, cells, slots⟩ (Value.ref b :: argsL).toArray q B ∧
      Steps p.tables e below (T.setTop g) ((B.U.setTop { g with stack := rest }).pushFrame (.throwing q))) := by
  obtain ⟨mk, methM, hnamed, hmethM, hstM, habM⟩ := Cond.instanceMethod_spec hinst
  obtain ⟨m8, methM', cM, hn8, hmethM', -, -, -, -, -, -, hsigM⟩ := Cond.codeWith_spec hcode
  cases Option.some.inj (hn8.symm.trans hnamed)
  cases hmethM.symm.trans hmethM'
  obtain ⟨c2, r2, m2, q1, q2, q3, q4, kP, hkP, hkPi⟩ := Cond.selects_spec hsel
  cases hcls.symm.trans q1
  cases (State.methodFound?_of_named hnamed hy).symm.trans q2
  cases hnamed.symm.trans q3
  have hselP : selectMethod e.platform s.vm cellB.cls mk = .method mk := by rw [Launch.admits_selectMethod X.admits]; exact q4
  obtain ⟨vm₁, X₁, hstep₁⟩ := X.invokevirtual hexec hown hlink hnamed hmethM hstM hkP hkPi hy (a := b) (cell := cellB) hcell
    (fun z h => by rw [h] at hobj; cases hobj) hselP hmethM habM hkP hkPi (g := g) hg (argsL := argsL) (rest := rest) (hlen _ hsigM) hstack hdg
  rcases hK m meth c ⟨T.setVm vm₁, locs, cells, slots⟩ { g with stack := rest } (.invokevirtual index) mk (Value.ref b :: argsL).toArray X₁ hg hsize hdg hW (X₁.named hnamed) (hpre vm₁ X₁.warmed) with ⟨v, B, X', hpost, hsteps⟩ | ⟨q, B, X', hpost, hsteps⟩
  · exact Or.inl ⟨v, vm₁, B, X₁.warmed, X', hpost, fun target h => hstep₁ _ fun acts => by rw [doInvoke_state]; exact hsteps.trans h⟩
  · exact Or.inr ⟨q, vm₁, B, X₁.warmed, X', hpost, hstep₁ _ fun acts => by rw [doInvoke_state]; exact hsteps⟩
theorem vx_callSX (X : Stand p l e R s m args below meth c T locs cells slots) (hexec : p.tables.exec = Jvm.exec) {own : String} {index : Nat} {y : MethodName} {bytes : ByteArray} {maxL : Nat} {ret : Option FieldType} {hh : List (Nat × Nat × Nat × Nat)}
    (hown : s.vm.findClass own = some m.cls) (hlink : (Cond.methodLink own index y).before args s = true) (hstat : (Cond.static y).before args s = true) (hinit : (Cond.initialized y.cls).before args s = true)
    (hcode : (Cond.codeWith y bytes maxL ret hh).before args s = true) (hy : y.cls ≠ "java/lang/invoke/MethodHandle" ∧ y.cls ≠ "java/lang/invoke/VarHandle")
    {W9 : Nat} {Pre : Pt → Array Value → Prop} {Post : Pt → Array Value → Option Value → Pt → Prop} {PostX : Pt → Array Value → Addr → Pt → Prop} (hK : vx_Back l R p e below s args y 3 W9 Pre Post PostX)
    {g : JFrame} (hg : g.method = m) (hsize : g.locals.size = c.maxLocals) {argsL rest : List Value} (hlen : ∀ sig, parseMethodDescriptor y.desc = some sig → argsL.length = sig.parameters.length)
    (hstack : g.stack = argsL.reverse ++ rest) (hW : 2 * g.monitorRoom + (rest.map fun v => v.category).sum ≤ W9) (hdg : decode c.code g.pc = .ok (.invokestatic index, 3))
    (hpre : ∀ vm₁, s.WarmedH vm₁ → Pre ⟨T.setVm vm₁, locs, cells, slots⟩ argsL.toArray) :
    (∃ (v : Option Value) (vm₁ : Vm) (B : Pt), s.WarmedH vm₁ ∧ Stand p l e R s m args below meth c B.U B.locs B.cells B.slots ∧ Post ⟨T.setVm vm₁, locs, cells, slots⟩ argsL.toArray v B ∧
      ∀ target, Steps p.tables e below (B.U.setTop { g with pc := g.pc + 3, stack := v.toList ++ rest }) target → Steps p.tables e below (T.setTop g) target) ∨
    (∃ (q : Addr) (vm₁ : Vm) (B : Pt), s.WarmedH vm₁ ∧ Stand p l e R s m args below meth c B.U B.locs B.cells B.slots ∧ PostX ⟨T.setVm vm₁, locs, cells, slots⟩ argsL.toArray q B ∧
      Steps p.tables e below (T.setTop g) ((B.U.setTop { g with stack := rest }).pushFrame (.throwing q))) := by
  obtain ⟨mk, methM, cM, hnamed, hmethM, -, -, -, -, -, -, hsigM⟩ := Cond.codeWith_spec hcode
  have hstatic : methM.isStatic = true := Cond.static_spec hnamed hmethM hstat
  obtain ⟨kP, hkP, -⟩ := className_of_methodNamed hnamed
  have hinitP : kP.init = .initialized := Cond.initialized_spec (findClass_of_methodNamed hnamed) hkP hinit
  obtain ⟨vm₁, X₁, hstep₁⟩ := X.invokestatic hexec hown hlink hnamed hmethM hstatic hkP hinitP hy (g := g) hg (argsL := argsL) (rest := rest) (hlen _ hsigM) hstack hdg
  rcases hK m meth c ⟨T.setVm vm₁, locs, cells, slots⟩ { g with stack := rest } (.invokestatic index) mk argsL.toArray X₁ hg hsize hdg hW (X₁.named hnamed) (hpre vm₁ X₁.warmed) with ⟨v, B, X', hpost, hsteps⟩ | ⟨q, B, X', hpost, hsteps⟩
  · exact Or.inl ⟨v, vm₁, B, X₁.warmed, X', hpost, fun target h => hstep₁ _ fun acts => by rw [doInvoke_state]; exact hsteps.trans h⟩
  · exact Or.inr ⟨q, vm₁, B, X₁.warmed, X', hpost, hstep₁ _ fun acts => by rw [doInvoke_state]; exact hsteps⟩
theorem vx_callVW (X : Stand p l e R s m args below meth c T locs cells slots) (hexec : p.tables.exec = Jvm.exec) {own C : String} {index : Nat} {y : MethodName} {bytes : ByteArray} {maxL : Nat} {ret : Option FieldType} {hh : List (Nat × Nat × Nat × Nat)}
    (hown : s.vm.findClass own = some m.cls) (hlink : (Cond.methodLink own index y).before args s = true) (hinst : (Cond.instanceMethod y).before args s = true) (hsel : (Cond.selects C y y).before args s = true)
    (hcode : (Cond.codeWith y bytes maxL ret hh).before args s = true) (hy : y.cls ≠ "java/lang/invoke/MethodHandle" ∧ y.cls ≠ "java/lang/invoke/VarHandle")
    {W9 : Nat} {Pre : Pt → Array Value → Prop} {Post : Pt → Array Value → Option Value → Pt → Prop} (hK : Back l R p e below s args y 3 W9 Pre Post)
    {b : Addr} {cellB : Cell} (hcell : T.heap[b]? = some cellB) (hobj : cellB.vm.isStatics = false) (hcls : s.vm.findClass C = some cellB.cls)
    {g : JFrame} (hg : g.method = m) (hsize : g.locals.size = c.maxLocals) {argsL rest : List Value} (hlen : ∀ sig, parseMethodDescriptor y.desc = some sig → argsL.length = sig.parameters.length)
    (hstack : g.stack = argsL.reverse ++ .ref b :: rest) (hW : 2 * g.monitorRoom + (rest.map fun v => v.category).sum ≤ W9) (hdg : decode c.code g.pc = .ok (.invokevirtual index, 3))
    (hpre : ∀ vm₁, s.WarmedH vm₁ → Pre ⟨T.setVm vm₁, locs, cells, slots⟩ (Value.ref b :: argsL).toArray) :
    ∃ (v : Option Value) (vm₁ : Vm) (B : Pt), s.WarmedH vm₁ ∧ Stand p l e R s m args below meth c B.U B.locs B.cells B.slots ∧ Post ⟨T.setVm vm₁, locs, cells, slots⟩ (Value.ref b :: argsL).toArray v B ∧
      ∀ target, Steps p.tables e below (B.U.setTop { g with pc := g.pc + 3, stack := v.toList ++ rest }) target → Steps p.tables e below (T.setTop g) target := by
  obtain ⟨mk, methM, hnamed, hmethM, hstM, habM⟩ := Cond.instanceMethod_spec hinst
  obtain ⟨m8, methM', cM, hn8, hmethM', -, -, -, -, -, -, hsigM⟩ := Cond.codeWith_spec hcode
  cases Option.some.inj (hn8.symm.trans hnamed)
  cases hmethM.symm.trans hmethM'
  obtain ⟨c2, r2, m2, q1, q2, q3, q4, kP, hkP, hkPi⟩ := Cond.selects_spec hsel
  cases hcls.symm.trans q1
  cases (State.methodFound?_of_named hnamed hy).symm.trans q2
  cases hnamed.symm.trans q3
  have hselP : selectMethod e.platform s.vm cellB.cls mk = .method mk := by rw [Launch.admits_selectMethod X.admits]; exact q4
  obtain ⟨vm₁, X₁, hstep₁⟩ := X.invokevirtual hexec hown hlink hnamed hmethM hstM hkP hkPi hy (a := b) (cell := cellB) hcell
    (fun z h => by rw [h] at hobj; cases hobj) hselP hmethM habM hkP hkPi (g := g) hg (argsL := argsL) (rest := rest) (hlen _ hsigM) hstack hdg
  obtain ⟨v, B, X', hpost, hsteps⟩ := hK m meth c ⟨T.setVm vm₁, locs, cells, slots⟩ { g with stack := rest } (.invokevirtual index) mk (Value.ref b :: argsL).toArray X₁ hg hsize hdg hW (X₁.named hnamed) (hpre vm₁ X₁.warmed)
  exact ⟨v, vm₁, B, X₁.warmed, X', hpost, fun target h => hstep₁ _ fun acts => by rw [doInvoke_state]; exact hsteps.trans h⟩
abbrev vx_CVW (R : Room) (s : State) (args : Array Value) (own C : String) (index : Nat) (y : MethodName) (bytes : ByteArray) (maxL : Nat) (ret : Option FieldType) (hh : List (Nat × Nat × Nat × Nat)) (ws : List Cond) (rm : Room) (mc ms n : Nat) : Prop :=
  (rm.cells = mc ∧ rm.slots = ms ∧ rm.frames + 1 ≤ R.frames ∧ 8 + (maxL + 11) + rm.locals ≤ R.locals ∧ (∀ w ∈ ws, ∀ (a' : Array Value) (U : State), s.WarmedH U.vm → w.before a' U = true) ∧ Cond.codeWith y bytes maxL ret hh ∈ ws) ∧
  (Cond.codeWith y bytes maxL ret hh).before args s = true ∧ (Cond.initialized y.cls).before args s = true ∧ (y.cls ≠ "java/lang/invoke/MethodHandle" ∧ y.cls ≠ "java/lang/invoke/VarHandle") ∧
  (∀ sig, parseMethodDescriptor y.desc = some sig → n = sig.parameters.length) ∧ (Cond.methodLink own index y).before args s = true ∧ (Cond.instanceMethod y).before args s = true ∧ (Cond.selects C y y).before args s = true
theorem vx_cwVW {own C : String} {index maxL mc ms : Nat} {y : MethodName} {bytes : ByteArray} {ret : Option FieldType} {hh : List (Nat × Nat × Nat × Nat)} {Ts ws ws' : List Cond} {rm : Room} (n : Nat) (ht : ∀ w ∈ Ts, w.before args s = true) (hT : GoodIn Ts (wsV own index C y ws)) (hw : ws = Cond.codeWith y bytes maxL ret hh :: ws') (hrc : rm.cells = mc) (hrs : rm.slots = ms)
    (hd : y.cls = C ∧ y.cls ≠ "java/lang/invoke/MethodHandle" ∧ y.cls ≠ "java/lang/invoke/VarHandle" ∧ (parseMethodDescriptor y.desc).map (fun d => d.parameters.length) = some n) (hR : rm.frames + 1 ≤ R.frames ∧ 8 + (maxL + 11) + rm.locals ≤ R.locals) :
    vx_CVW R s args own C index y bytes maxL ret hh ws rm mc ms n := by
  obtain ⟨hC, hd⟩ := hd
  subst hC
  have ok : ∀ w ∈ wsV own index y.cls y ws, w.before args s = true := fun w h => ht w (hT w h).1
  have hG : GoodIn Ts ws := fun w h => hT w (by unfold wsV; exact List.mem_append_right _ h)
  have hc : Cond.codeWith y bytes maxL ret hh ∈ ws := by rw [hw]; exact List.mem_cons_self
  refine ⟨⟨hrc, hrs, hR.1, hR.2, pay_in ht hG, hc⟩, ht _ (hG _ hc).1, ok _ (by simp [wsV]), ⟨hd.1, hd.2.1⟩, fun sig h => ?_, ok _ (by simp [wsV]), ok _ (by simp [wsV]), ok _ (by simp [wsV])⟩
  have h2 := hd.2.2
  rw [h] at h2
  exact (Option.some.inj h2).symm
theorem vx_runVW {y : MethodName} {bytes cc : ByteArray} {maxL nL mc ms n index : Nat} {ret : Option FieldType} {hh : List (Nat × Nat × Nat × Nat)} {ws : List Cond} {rm : Room} {Pc : Array Value → State → Prop} {Qc : Array Value → State → Outcome → State → Prop} {free : Addr → Prop} {Ts : List Cond} {own C : String} {b : Addr} {As rest : List Value} {g : JFrame}
    (S : CallFix p m c cc nL s args Ts own) (hM : Met l y ws rm Pc Qc mc ms free) (cw : vx_CVW R s args own C index y bytes maxL ret hh ws rm mc ms n) (hp : PreV s H C b Pc As)
    (hg : g.method = m) (hn : As.length = n) (hsize : g.locals.size = nL) (hstack : g.stack = As.reverse ++ .ref b :: rest) (hW : 2 * g.monitorRoom + (rest.map fun v => v.category).sum ≤ 8) (hdg : decode cc g.pc = .ok (.invokevirtual index, 3)) (hf : cells + mc ≤ R.cells ∧ slots + ms ≤ R.slots) :
    va_Run p l e R s m args below meth c H locs cells slots mc ms g rest (Qc (Value.ref b :: As).toArray) free := by
  obtain ⟨⟨hrc, hrs, hfr, hlo, hws, hcw⟩, hcode, hini, hy, hlen, hl, hin, hse⟩ := cw
  have hK : Back l R p e below s args y 3 8 (PreOf R mc ms Pc) (PostOf Qc mc ms free) := va_backW (hh := hh) (bytes := bytes) (maxL := maxL) (ret := ret) hM hp.1 hrc hrs hfr hlo hws hcw (fun a' U hW => word_at hW (Or.inl (by first | rfl | simp [Cond.onTables, Cond.keeps, Cond.steady])) hini)
  obtain ⟨hx, hb, hml, ho, -⟩ := S
  obtain ⟨-, ⟨cellB, hcB, hoB, hclB⟩, hPc⟩ := hp
  intro T hT X
  obtain ⟨v, vm₁, ⟨U', l2, c2, s2⟩, hW₁, X', ⟨g', mk, t, L, e1, e2, hq, h1, hL, h2, h3⟩, st⟩ := vx_callVW X hx (C := C) (hh := hh) (bytes := bytes) (maxL := maxL) (ret := ret) ho hl hin hse hcode hy hK (by rw [hT]; exact hcB) hoB hclB hg (hsize.trans hml.symm) (argsL := As) (rest := rest) (fun sig h => hn.trans (hlen sig h)) hstack hW (by rw [hb]; exact hdg)
    (fun vm₁ hW₁ => ⟨hf.1, hf.2, hPc (T.setVm vm₁) hT hW₁⟩)
  dsimp only [Pt.U, Pt.locs, Pt.cells, Pt.slots] at X' e1 e2 h1 h2 h3 st
  subst h1; subst h2; subst h3
  exact ⟨v, (T.setVm vm₁).calling g' mk (Value.ref b :: As).toArray, t, U', L, hT, X', hL, e1, e2, hq, st⟩
section
variable {y : MethodName} {bytes cc : ByteArray} {maxL nL mc ms n index : Nat} {ret : Option FieldType} {ws : List Cond} {rm : Room} {Pc : Array Value → State → Prop} {Qc : Array Value → State → Outcome → State → Prop} {XC : String → State → State → Prop} {free : Addr → Prop} {Ts : List Cond} {own C : String} {b : Addr} {As rest : List Value} {g : JFrame}
theorem vx_runVX {hh : List (Nat × Nat × Nat × Nat)} (S : CallFix p m c cc nL s args Ts own) (hM : vx_Met l y ws rm Pc Qc XC mc ms free) (cw : vx_CVW R s args own C index y bytes maxL ret hh ws rm mc ms n) (hp : PreV s H C b Pc As)
    (hg : g.method = m) (hn : As.length = n) (hsize : g.locals.size = nL) (hstack : g.stack = As.reverse ++ .ref b :: rest) (hW : 2 * g.monitorRoom + (rest.map fun v => v.category).sum ≤ 8) (hdg : decode cc g.pc = .ok (.invokevirtual index, 3)) (hf : cells + mc ≤ R.cells ∧ slots + ms ≤ R.slots) :
    vx_Run p l e R s m args below meth c H locs cells slots mc ms g rest (Qc (Value.ref b :: As).toArray) XC free := by
  obtain ⟨⟨hrc, hrs, hfr, hlo, hws, hcw⟩, hcode, hini, hy, hlen, hl, hin, hse⟩ := cw
  have hK : vx_Back l R p e below s args y 3 8 (PreOf R mc ms Pc) (PostOf Qc mc ms free) (vx_Post XC mc ms free) := vx_backW (hh := hh) (bytes := bytes) (maxL := maxL) (ret := ret) hM hp.1 hrc hrs hfr hlo hws hcw (fun a' U hW => word_at hW (Or.inl (by first | rfl | simp [Cond.onTables, Cond.keeps, Cond.steady])) hini)
  obtain ⟨hx, hb, hml, ho, -⟩ := S
  obtain ⟨-, ⟨cellB, hcB, hoB, hclB⟩, hPc⟩ := hp
  intro T hT X
  rcases vx_callVX X hx (C := C) (hh := hh) (bytes := bytes) (maxL := maxL) (ret := ret) ho hl hin hse hcode hy hK (by rw [hT]; exact hcB) hoB hclB hg (hsize.trans hml.symm) (argsL := As) (rest := rest) (fun sig h => hn.trans (hlen sig h)) hstack hW (by rw [hb]; exact hdg)
    (fun vm₁ hW₁ => ⟨hf.1, hf.2, hPc (T.setVm vm₁) hT hW₁⟩) with ⟨v, vm₁, ⟨U', l2, c2, s2⟩, hW₁, X', ⟨g', mk, t, L, e1, e2, hq, h1, hL, h2, h3⟩, st⟩ | ⟨q, vm₁, ⟨U', l2, c2, s2⟩, hW₁, X', ⟨g', mk, t, L, E, ce, e1, e2, hq, hce, hcv, hcl, h1, hL, h2, h3⟩, st⟩
  · dsimp only [Pt.U, Pt.locs, Pt.cells, Pt.slots] at X' e1 e2 h1 h2 h3 st
    subst h1; subst h2; subst h3
    exact Or.inl ⟨v, (T.setVm vm₁).calling g' mk (Value.ref b :: As).toArray, t, U', L, hT, X', hL, e1, e2, hq, st⟩
  · dsimp only [Pt.U, Pt.locs, Pt.cells, Pt.slots] at X' e1 e2 h1 h2 h3 st hcl
    subst h1; subst h2; subst h3
    exact Or.inr ⟨q, (T.setVm vm₁).calling g' mk (Value.ref b :: As).toArray, t, U', L, E, ce, hT, X', hL, e1, e2, hq, hce, hcv, vx_cls hW₁ hcl, st⟩
theorem vx_runSX {hh : List (Nat × Nat × Nat × Nat)} (S : CallFix p m c cc nL s args Ts own) (hM : vx_Met l y ws rm Pc Qc XC mc ms free) (cw : vx_CSW R s args own index y bytes maxL ret hh ws rm mc ms n) (hp : PreS s H Pc As)
    (hg : g.method = m) (hn : As.length = n) (hsize : g.locals.size = nL) (hstack : g.stack = As.reverse ++ rest) (hW : 2 * g.monitorRoom + (rest.map fun v => v.category).sum ≤ 8) (hdg : decode cc g.pc = .ok (.invokestatic index, 3)) (hf : cells + mc ≤ R.cells ∧ slots + ms ≤ R.slots) :
    vx_Run p l e R s m args below meth c H locs cells slots mc ms g rest (Qc As.toArray) XC free := by
  obtain ⟨⟨hrc, hrs, hfr, hlo, hws, hcw⟩, hcode, hini, hy, hlen, hl, hstt⟩ := cw
  have hK : vx_Back l R p e below s args y 3 8 (PreOf R mc ms Pc) (PostOf Qc mc ms free) (vx_Post XC mc ms free) := vx_backW (hh := hh) (bytes := bytes) (maxL := maxL) (ret := ret) hM hp.1 hrc hrs hfr hlo hws hcw (fun a' U hW => word_at hW (Or.inl (by first | rfl | simp [Cond.onTables, Cond.keeps, Cond.steady])) hini)
  obtain ⟨hx, hb, hml, ho, -⟩ := S
  intro T hT X
  rcases vx_callSX X hx (hh := hh) (bytes := bytes) (maxL := maxL) (ret := ret) ho hl hstt hini hcode hy hK hg (hsize.trans hml.symm) (argsL := As) (rest := rest) (fun sig h => hn.trans (hlen sig h)) hstack hW (by rw [hb]; exact hdg)
    (fun vm₁ hW₁ => ⟨hf.1, hf.2, hp.2 (T.setVm vm₁) hT hW₁⟩) with ⟨v, vm₁, ⟨U', l2, c2, s2⟩, hW₁, X', ⟨g', mk, t, L, e1, e2, hq, h1, hL, h2, h3⟩, st⟩ | ⟨q, vm₁, ⟨U', l2, c2, s2⟩, hW₁, X', ⟨g', mk, t, L, E, ce, e1, e2, hq, hce, hcv, hcl, h1, hL, h2, h3⟩, st⟩
  · dsimp only [Pt.U, Pt.locs, Pt.cells, Pt.slots] at X' e1 e2 h1 h2 h3 st
    subst h1; subst h2; subst h3
    exact Or.inl ⟨v, (T.setVm vm₁).calling g' mk As.toArray, t, U', L, hT, X', hL, e1, e2, hq, st⟩
  · dsimp only [Pt.U, Pt.locs, Pt.cells, Pt.slots] at X' e1 e2 h1 h2 h3 st hcl
    subst h1; subst h2; subst h3
    exact Or.inr ⟨q, (T.setVm vm₁).calling g' mk As.toArray, t, U', L, E, ce, hT, X', hL, e1, e2, hq, hce, hcv, vx_cls hW₁ hcl, st⟩
end
end VXH
theorem vx_ofWH {l : Launch} {y : MethodName} {ws ws' : List Cond} {rm : Room} {Pc : Array Value → State → Prop} {Qc : Array Value → State → Outcome → State → Prop} {XC : String → State → State → Prop} {mc ms : Nat} {free : Addr → Prop} {cc : ByteArray} {maxL : Nat} {ret : Option FieldType} {hh : List (Nat × Nat × Nat × Nat)}
    (hy : plainName y.cls = true) (hw : ws = Cond.codeWith y cc maxL ret hh :: ws')
    (body : ∀ p e s m args below meth c s₁, BodyLoose p l y (headSpec ws rm) cc maxL ret e s m args below meth c s₁ → c.maxLocals = maxL → Pc args s →
      W p l e (headSpec ws rm).room s m args below meth c s.heap [] 0 0 (vx_MQ below Qc XC args s mc ms free) (entryFrame m args maxL)) : vx_Met l y ws rm Pc Qc XC mc ms free := by
  refine MetFree.of_bodyS (code := cc) (maxLocals := maxL) (ret := ret) hy ?_ ?_
  · intro args s m h hn
    obtain ⟨m9, meth, c, hn9, h1, h2, h3, h4, -, h5, h6, -⟩ := Cond.codeWith_spec (atoms_spec (ws := ws) h _ (by rw [hw]; exact List.mem_cons_self))
    cases hn.symm.trans hn9
    exact ⟨meth, c, h1, h2, h3, h4, h5, h6⟩
  · intro p e s m args below meth c s₁ B hml hP _
    have hh0 : s₁.heap = s.heap := by rw [B.state]; rfl
    obtain ⟨t, a1, o, b1, b2, b3⟩ := body p e s m args below meth c s₁ B hml hP s₁ hh0 (Stand.of_body B)
    exact ⟨t, o, a1, b1, b2, b3⟩
/-! ===== END ===== -/
end
section
def us_big : List Cond := lw_tbl.filter goodWord
theorem us_in {w : Cond} (i : Nat) (h : lw_tbl[i]? = some w) (hg : goodWord w = true) : w ∈ us_big := List.mem_filter.mpr ⟨List.mem_of_getElem? h, hg⟩
theorem us_good {w : Cond} (h : w ∈ us_big) : goodWord w = true := (List.mem_filter.mp h).2
theorem us_htb {w0 : Cond} {args : Array Value} {s : State} (h : ∀ w ∈ w0 :: us_big, w.before args s = true) : ∀ w ∈ us_big, w.before args s = true := fun w hw => h w (List.mem_cons_of_mem _ hw)
theorem us_gall {ws : List Cond} (h : ∀ w ∈ ws, w ∈ us_big) : GoodIn us_big ws := fun w hw => ⟨h w hw, good_of_word (us_good (h w hw))⟩
theorem us_g0 {w0 : Cond} (h : w0 ∈ us_big) : GoodIn us_big (w0 :: us_big) := us_gall (fun w hw => (List.mem_cons.mp hw).elim (fun e => e ▸ h) id)
theorem us_gV {own C : String} {idx : Nat} {y : MethodName} {w0 : Cond} (h1 : Cond.methodLink own idx y ∈ us_big) (h2 : Cond.instanceMethod y ∈ us_big) (h3 : Cond.selects C y y ∈ us_big) (h4 : Cond.initialized C ∈ us_big) (h5 : w0 ∈ us_big) : GoodIn us_big (wsV own idx C y (w0 :: us_big)) := by
  refine us_gall (fun w hw => ?_)
  simp only [wsV, List.cons_append, List.nil_append, List.mem_cons] at hw
  rcases hw with rfl | rfl | rfl | rfl | rfl | hw <;> assumption
theorem us_all {ws : List Cond} (ps : List Nat) (hp : ws = ps.filterMap (fun i => lw_tbl[i]?)) (hg : ws.all goodWord = true) : ∀ w ∈ ws, w ∈ us_big := by
  intro w hw
  refine List.mem_filter.mpr ⟨?_, List.all_eq_true.mp hg w hw⟩
  rw [hp] at hw
  obtain ⟨i, -, hi⟩ := List.mem_filterMap.mp hw
  exact List.mem_of_getElem? hi
theorem us_gS {own : String} {idx : Nat} {y : MethodName} {w0 : Cond} (h1 : Cond.methodLink own idx y ∈ us_big) (h2 : Cond.static y ∈ us_big) (h4 : Cond.initialized own ∈ us_big) (h5 : w0 ∈ us_big) : GoodIn us_big (wsS own idx y (w0 :: us_big)) := by
  refine us_gall (fun w hw => ?_)
  simp only [wsS, List.cons_append, List.nil_append, List.mem_cons] at hw
  rcases hw with rfl | rfl | rfl | rfl | hw <;> assumption
def RX0 : String := "UnitStates$Unit"
def TX0 : u_T := fun k => match k with
  | 0 => ("UnitStates$Unit", "home", "I", false)
  | 1 => ("UnitStates$Unit", "least", "I", false)
  | 2 => ("UnitStates$Unit", "state", "I", false)
  | 3 => ("UnitStates$Unit", "since", "I", false)
  | 4 => ("UnitStates$Unit", "station", "I", false)
  | 5 => ("UnitStates$Unit", "incident", "I", false)
  | 6 => ("UnitStates$Unit", "crew", "I", false)
  | 7 => ("UnitStates$Unit", "things", "I", false)
  | 8 => ("UnitStates$Unit", "link", "I", false)
  | 9 => ("UnitStates$Unit", "lastPlace", "I", false)
  | 10 => ("UnitStates$Unit", "lastPlaceMinute", "I", false)
  | 11 => ("UnitStates$Unit", "expectedMinute", "I", false)
  | 12 => ("UnitStates$Unit", "arrival", "I", false)
  | _ => ("UnitStates$Unit", "driven", "I", false)
def tyX0 : Nat → FieldType := fun k => match k with
  | 0 => .int
  | 1 => .int
  | 2 => .int
  | 3 => .int
  | 4 => .int
  | 5 => .int
  | 6 => .int
  | 7 => .int
  | 8 => .int
  | 9 => .int
  | 10 => .int
  | 11 => .int
  | 12 => .int
  | _ => .int
theorem nmX0 : ∀ a, a < 14 → ∀ b, b < 14 → a ≠ b → (TX0 a).2.1 ≠ (TX0 b).2.1 := by decide +kernel
theorem tyX0_ok : ∀ k, k < 14 → parseFieldDescriptor (TX0 k).2.2.1 = some (tyX0 k) := by decide +kernel
theorem us_inX0 : ∀ w ∈ u_ws RX0 TX0 14, w ∈ us_big := fun w h => us_all [79, 81, 83, 85, 87, 89, 91, 93, 95, 97, 99, 101, 103, 105] (by decide +kernel) (by decide +kernel) w h
def RX1 : String := "UnitStates"
def TX1 : u_T := fun k => match k with
  | 0 => ("UnitStates", "units", "[LUnitStates$Unit;", true)
  | 1 => ("UnitStates", "unitCount", "I", false)
  | 2 => ("UnitStates", "unitOf", "[I", true)
  | 3 => ("UnitStates", "minuteOf", "[I", true)
  | 4 => ("UnitStates", "kindOf", "[I", true)
  | 5 => ("UnitStates", "valueOf", "[I", true)
  | 6 => ("UnitStates", "findingOf", "[I", true)
  | 7 => ("UnitStates", "order", "[I", true)
  | 8 => ("UnitStates", "messageCount", "I", false)
  | _ => ("UnitStates", "messagesOfUnknownUnits", "I", false)
def tyX1 : Nat → FieldType := fun k => match k with
  | 0 => (.array (.object "UnitStates$Unit"))
  | 1 => .int
  | 2 => (.array .int)
  | 3 => (.array .int)
  | 4 => (.array .int)
  | 5 => (.array .int)
  | 6 => (.array .int)
  | 7 => (.array .int)
  | 8 => .int
  | _ => .int
theorem nmX1 : ∀ a, a < 10 → ∀ b, b < 10 → a ≠ b → (TX1 a).2.1 ≠ (TX1 b).2.1 := by decide +kernel
theorem tyX1_ok : ∀ k, k < 10 → parseFieldDescriptor (TX1 k).2.2.1 = some (tyX1 k) := by decide +kernel
theorem us_inX1 : ∀ w ∈ u_ws RX1 TX1 10, w ∈ us_big := fun w h => us_all [119, 121, 123, 125, 127, 129, 131, 133, 135, 137] (by decide +kernel) (by decide +kernel) w h
def RX2 : String := "UnitStatesModel"
def TX2 : u_T := fun k => match k with
  | 0 => ("UnitStatesModel", "thrown", "I", false)
  | 1 => ("UnitStatesModel", "units", "I", false)
  | 2 => ("UnitStatesModel", "home", "[I", true)
  | 3 => ("UnitStatesModel", "least", "[I", true)
  | 4 => ("UnitStatesModel", "messages", "I", false)
  | 5 => ("UnitStatesModel", "unitOf", "[I", true)
  | 6 => ("UnitStatesModel", "minute", "[I", true)
  | 7 => ("UnitStatesModel", "kind", "[I", true)
  | 8 => ("UnitStatesModel", "value", "[I", true)
  | 9 => ("UnitStatesModel", "strangers", "I", false)
  | 10 => ("UnitStatesModel", "state", "I", false)
  | 11 => ("UnitStatesModel", "since", "I", false)
  | 12 => ("UnitStatesModel", "station", "I", false)
  | 13 => ("UnitStatesModel", "incident", "I", false)
  | 14 => ("UnitStatesModel", "crew", "I", false)
  | 15 => ("UnitStatesModel", "things", "I", false)
  | 16 => ("UnitStatesModel", "link", "I", false)
  | 17 => ("UnitStatesModel", "driven", "I", false)
  | 18 => ("UnitStatesModel", "place", "I", false)
  | 19 => ("UnitStatesModel", "placed", "I", false)
  | 20 => ("UnitStatesModel", "expected", "I", false)
  | 21 => ("UnitStatesModel", "arrived", "I", false)
  | _ => ("UnitStatesModel", "said", "I", false)
def tyX2 : Nat → FieldType := fun k => match k with
  | 0 => .int
  | 1 => .int
  | 2 => (.array .int)
  | 3 => (.array .int)
  | 4 => .int
  | 5 => (.array .int)
  | 6 => (.array .int)
  | 7 => (.array .int)
  | 8 => (.array .int)
  | 9 => .int
  | 10 => .int
  | 11 => .int
  | 12 => .int
  | 13 => .int
  | 14 => .int
  | 15 => .int
  | 16 => .int
  | 17 => .int
  | 18 => .int
  | 19 => .int
  | 20 => .int
  | 21 => .int
  | _ => .int
theorem nmX2 : ∀ a, a < 23 → ∀ b, b < 23 → a ≠ b → (TX2 a).2.1 ≠ (TX2 b).2.1 := by decide +kernel
theorem tyX2_ok : ∀ k, k < 23 → parseFieldDescriptor (TX2 k).2.2.1 = some (tyX2 k) := by decide +kernel
theorem us_inX2 : ∀ w ∈ u_ws RX2 TX2 23, w ∈ us_big := fun w h => us_all [446, 448, 450, 452, 454, 456, 458, 460, 462, 464, 466, 468, 470, 472, 474, 476, 478, 480, 482, 484, 486, 488, 490] (by decide +kernel) (by decide +kernel) w h
def RL : String := "UnitStatesLaw"
abbrev vwCl : List vw_C := [(RX0, TX0, 14), (RX1, TX1, 10), (RX2, TX2, 23)]
abbrev cX1_init : ByteArray := prog_1_method_1_code
def yX1_init : MethodName := ⟨RX1, "<init>", "()V"⟩
def wsX1_init : List Cond := .code yX1_init cX1_init 2 none :: us_big
abbrev cX0_init : ByteArray := prog_2_method_1_code
def yX0_init : MethodName := ⟨RX0, "<init>", "()V"⟩
def wsX0_init : List Cond := .code yX0_init cX0_init 1 none :: us_big
abbrev cL_unit : ByteArray := method_3_code
def yL_unit : MethodName := ⟨RL, "unit", "(LUnitStates;II[J)I"⟩
def wsL_unit : List Cond := .codeWith yL_unit cL_unit 5 (some .int) [(0, 10, 13, 13), (0, 10, 17, 15)] :: us_big
abbrev cX1_unit : ByteArray := prog_1_method_2_code
def yX1_unit : MethodName := ⟨RX1, "unit", "(II)I"⟩
def wsX1_unit : List Cond := .code yX1_unit cX1_unit 3 (some .int) :: us_big
abbrev cX1_isWithin : ByteArray := prog_1_method_12_code
def yX1_isWithin : MethodName := ⟨RX1, "isWithin", "(II)Z"⟩
def wsX1_isWithin : List Cond := .code yX1_isWithin cX1_isWithin 2 (some .boolean) :: us_big
abbrev cX0_settle : ByteArray := prog_2_method_2_code
def yX0_settle : MethodName := ⟨RX0, "settle", "(II)V"⟩
def wsX0_settle : List Cond := .code yX0_settle cX0_settle 3 none :: us_big
abbrev cL_message : ByteArray := method_4_code
def yL_message : MethodName := ⟨RL, "message", "(LUnitStates;IIII[J)I"⟩
def wsL_message : List Cond := .codeWith yL_message cL_message 7 (some .int) [(0, 14, 17, 21), (0, 14, 21, 13), (0, 14, 25, 15)] :: us_big
abbrev cX1_message : ByteArray := prog_1_method_3_code
def yX1_message : MethodName := ⟨RX1, "message", "(IIII)I"⟩
def wsX1_message : List Cond := .code yX1_message cX1_message 5 (some .int) :: us_big
abbrev cX1_isUnit : ByteArray := prog_1_method_15_code
def yX1_isUnit : MethodName := ⟨RX1, "isUnit", "(I)Z"⟩
def wsX1_isUnit : List Cond := .code yX1_isUnit cX1_isUnit 2 (some .boolean) :: us_big
abbrev cX1_refuseOutsideMinutes : ByteArray := prog_1_method_14_code
def yX1_refuseOutsideMinutes : MethodName := ⟨RX1, "refuseOutsideMinutes", "(I)V"⟩
def wsX1_refuseOutsideMinutes : List Cond := .code yX1_refuseOutsideMinutes cX1_refuseOutsideMinutes 1 none :: us_big
abbrev cX1_isValueOf : ByteArray := prog_1_method_13_code
def yX1_isValueOf : MethodName := ⟨RX1, "isValueOf", "(II)Z"⟩
def wsX1_isValueOf : List Cond := .code yX1_isValueOf cX1_isValueOf 2 (some .boolean) :: us_big
abbrev cX1_putInOrder : ByteArray := prog_1_method_18_code
def yX1_putInOrder : MethodName := ⟨RX1, "putInOrder", "(II)V"⟩
def wsX1_putInOrder : List Cond := .code yX1_putInOrder cX1_putInOrder 4 none :: us_big
abbrev cL_at : ByteArray := method_5_code
def yL_at : MethodName := ⟨RL, "at", "(LUnitStates;III[J)I"⟩
def wsL_at : List Cond := .codeWith yL_at cL_at 6 (some .int) [(0, 12, 15, 21), (0, 12, 19, 13)] :: us_big
abbrev cX1_at : ByteArray := prog_1_method_4_code
def yX1_at : MethodName := ⟨RX1, "at", "(III)I"⟩
def wsX1_at : List Cond := .code yX1_at cX1_at 5 (some .int) :: us_big
abbrev cX1_refuseUnknownUnit : ByteArray := prog_1_method_16_code
def yX1_refuseUnknownUnit : MethodName := ⟨RX1, "refuseUnknownUnit", "(I)V"⟩
def wsX1_refuseUnknownUnit : List Cond := .code yX1_refuseUnknownUnit cX1_refuseUnknownUnit 2 none :: us_big
abbrev cX1_replay : ByteArray := prog_1_method_19_code
def yX1_replay : MethodName := ⟨RX1, "replay", "(I)V"⟩
def wsX1_replay : List Cond := .code yX1_replay cX1_replay 5 none :: us_big
abbrev cX0_startAnew : ByteArray := prog_2_method_3_code
def yX0_startAnew : MethodName := ⟨RX0, "startAnew", "()V"⟩
def wsX0_startAnew : List Cond := .code yX0_startAnew cX0_startAnew 1 none :: us_big
abbrev cX0_take : ByteArray := prog_2_method_4_code
def yX0_take : MethodName := ⟨RX0, "take", "(IIII)I"⟩
def wsX0_take : List Cond := .code yX0_take cX0_take 5 (some .int) :: us_big
abbrev cX0_takePlace : ByteArray := prog_2_method_5_code
def yX0_takePlace : MethodName := ⟨RX0, "takePlace", "(II)I"⟩
def wsX0_takePlace : List Cond := .code yX0_takePlace cX0_takePlace 3 (some .int) :: us_big
abbrev cX0_takeState : ByteArray := prog_2_method_6_code
def yX0_takeState : MethodName := ⟨RX0, "takeState", "(IIII)I"⟩
def wsX0_takeState : List Cond := .code yX0_takeState cX0_takeState 5 (some .int) :: us_big
abbrev cX0_canFollow : ByteArray := prog_2_method_8_code
def yX0_canFollow : MethodName := ⟨RX0, "canFollow", "(II)Z"⟩
def wsX0_canFollow : List Cond := .code yX0_canFollow cX0_canFollow 2 (some .boolean) :: us_big
abbrev cX0_needsCrew : ByteArray := prog_2_method_9_code
def yX0_needsCrew : MethodName := ⟨RX0, "needsCrew", "(I)Z"⟩
def wsX0_needsCrew : List Cond := .code yX0_needsCrew cX0_needsCrew 1 (some .boolean) :: us_big
abbrev cX0_drivenUpTo : ByteArray := prog_2_method_10_code
def yX0_drivenUpTo : MethodName := ⟨RX0, "drivenUpTo", "(I)I"⟩
def wsX0_drivenUpTo : List Cond := .code yX0_drivenUpTo cX0_drivenUpTo 3 (some .int) :: us_big
abbrev cX0_isRestful : ByteArray := prog_2_method_11_code
def yX0_isRestful : MethodName := ⟨RX0, "isRestful", "()Z"⟩
def wsX0_isRestful : List Cond := .code yX0_isRestful cX0_isRestful 1 (some .boolean) :: us_big
abbrev cX0_takeStation : ByteArray := prog_2_method_7_code
def yX0_takeStation : MethodName := ⟨RX0, "takeStation", "(I)I"⟩
def wsX0_takeStation : List Cond := .code yX0_takeStation cX0_takeStation 2 (some .int) :: us_big
abbrev cX0_stationNow : ByteArray := prog_2_method_13_code
def yX0_stationNow : MethodName := ⟨RX0, "stationNow", "()I"⟩
def wsX0_stationNow : List Cond := .code yX0_stationNow cX0_stationNow 1 (some .int) :: us_big
abbrev cX0_incidentNow : ByteArray := prog_2_method_14_code
def yX0_incidentNow : MethodName := ⟨RX0, "incidentNow", "()I"⟩
def wsX0_incidentNow : List Cond := .code yX0_incidentNow cX0_incidentNow 1 (some .int) :: us_big
abbrev cX0_isSendable : ByteArray := prog_2_method_12_code
def yX0_isSendable : MethodName := ⟨RX0, "isSendable", "(I)Z"⟩
def wsX0_isSendable : List Cond := .code yX0_isSendable cX0_isSendable 2 (some .boolean) :: us_big
abbrev cX1_rankOf : ByteArray := prog_1_method_21_code
def yX1_rankOf : MethodName := ⟨RX1, "rankOf", "(LUnitStates$Unit;)I"⟩
def wsX1_rankOf : List Cond := .code yX1_rankOf cX1_rankOf 5 (some .int) :: us_big
abbrev cX0_isThereAt : ByteArray := prog_2_method_15_code
def yX0_isThereAt : MethodName := ⟨RX0, "isThereAt", "(I)Z"⟩
def wsX0_isThereAt : List Cond := .code yX0_isThereAt cX0_isThereAt 2 (some .boolean) :: us_big
abbrev cL_place : ByteArray := method_6_code
def yL_place : MethodName := ⟨RL, "place", "(LUnitStates;II[J)I"⟩
def wsL_place : List Cond := .codeWith yL_place cL_place 5 (some .int) [(0, 10, 13, 21), (0, 10, 17, 13)] :: us_big
abbrev cX1_place : ByteArray := prog_1_method_5_code
def yX1_place : MethodName := ⟨RX1, "place", "(II)I"⟩
def wsX1_place : List Cond := .code yX1_place cX1_place 3 (some .int) :: us_big
abbrev cX1_replayedUnit : ByteArray := prog_1_method_17_code
def yX1_replayedUnit : MethodName := ⟨RX1, "replayedUnit", "(II)LUnitStates$Unit;"⟩
def wsX1_replayedUnit : List Cond := .code yX1_replayedUnit cX1_replayedUnit 3 (some (.object RX0)) :: us_big
abbrev cL_age : ByteArray := method_7_code
def yL_age : MethodName := ⟨RL, "age", "(LUnitStates;II[J)I"⟩
def wsL_age : List Cond := .codeWith yL_age cL_age 5 (some .int) [(0, 10, 13, 21), (0, 10, 17, 13)] :: us_big
abbrev cX1_age : ByteArray := prog_1_method_6_code
def yX1_age : MethodName := ⟨RX1, "age", "(II)I"⟩
def wsX1_age : List Cond := .code yX1_age cX1_age 4 (some .int) :: us_big
abbrev cL_expected : ByteArray := method_8_code
def yL_expected : MethodName := ⟨RL, "expected", "(LUnitStates;II[J)I"⟩
def wsL_expected : List Cond := .codeWith yL_expected cL_expected 5 (some .int) [(0, 10, 13, 21), (0, 10, 17, 13)] :: us_big
abbrev cX1_expected : ByteArray := prog_1_method_7_code
def yX1_expected : MethodName := ⟨RX1, "expected", "(II)I"⟩
def wsX1_expected : List Cond := .code yX1_expected cX1_expected 3 (some .int) :: us_big
abbrev cL_wrong : ByteArray := method_9_code
def yL_wrong : MethodName := ⟨RL, "wrong", "(LUnitStates;I[J)I"⟩
def wsL_wrong : List Cond := .codeWith yL_wrong cL_wrong 4 (some .int) [(0, 9, 12, 21)] :: us_big
abbrev cX1_wrong : ByteArray := prog_1_method_8_code
def yX1_wrong : MethodName := ⟨RX1, "wrong", "(I)I"⟩
def wsX1_wrong : List Cond := .code yX1_wrong cX1_wrong 2 (some .int) :: us_big
abbrev cL_told : ByteArray := method_10_code
def yL_told : MethodName := ⟨RL, "told", "(LUnitStates;I[J)I"⟩
def wsL_told : List Cond := .codeWith yL_told cL_told 4 (some .int) [(0, 9, 12, 21)] :: us_big
abbrev cX1_told : ByteArray := prog_1_method_9_code
def yX1_told : MethodName := ⟨RX1, "told", "(I)I"⟩
def wsX1_told : List Cond := .code yX1_told cX1_told 2 (some .int) :: us_big
abbrev cX1_countFindings : ByteArray := prog_1_method_20_code
def yX1_countFindings : MethodName := ⟨RX1, "countFindings", "(I)I"⟩
def wsX1_countFindings : List Cond := .code yX1_countFindings cX1_countFindings 4 (some .int) :: us_big
abbrev cL_many : ByteArray := method_11_code
def yL_many : MethodName := ⟨RL, "many", "(LUnitStates;II[J)I"⟩
def wsL_many : List Cond := .codeWith yL_many cL_many 5 (some .int) [(0, 10, 13, 21), (0, 10, 17, 13)] :: us_big
abbrev cX1_many : ByteArray := prog_1_method_10_code
def yX1_many : MethodName := ⟨RX1, "many", "(II)I"⟩
def wsX1_many : List Cond := .code yX1_many cX1_many 5 (some .int) :: us_big
abbrev cL_arrived : ByteArray := method_12_code
def yL_arrived : MethodName := ⟨RL, "arrived", "(LUnitStates;III[J)I"⟩
def wsL_arrived : List Cond := .codeWith yL_arrived cL_arrived 6 (some .int) [(0, 12, 15, 21), (0, 12, 19, 13)] :: us_big
abbrev cX1_arrived : ByteArray := prog_1_method_11_code
def yX1_arrived : MethodName := ⟨RX1, "arrived", "(III)I"⟩
def wsX1_arrived : List Cond := .code yX1_arrived cX1_arrived 5 (some .int) :: us_big
abbrev cX2_init : ByteArray := prog_4_method_1_code
def yX2_init : MethodName := ⟨RX2, "<init>", "()V"⟩
def wsX2_init : List Cond := .code yX2_init cX2_init 1 none :: us_big
abbrev cX2_thrown : ByteArray := prog_4_method_2_code
def yX2_thrown : MethodName := ⟨RX2, "thrown", "()I"⟩
def wsX2_thrown : List Cond := .code yX2_thrown cX2_thrown 1 (some .int) :: us_big
abbrev cX2_unit : ByteArray := prog_4_method_7_code
def yX2_unit : MethodName := ⟨RX2, "unit", "(II)I"⟩
def wsX2_unit : List Cond := .code yX2_unit cX2_unit 3 (some .int) :: us_big
abbrev cX2_in : ByteArray := prog_4_method_4_code
def yX2_in : MethodName := ⟨RX2, "in", "(III)Z"⟩
def wsX2_in : List Cond := .code yX2_in cX2_in 3 (some .boolean) :: us_big
abbrev cX2_throwing : ByteArray := prog_4_method_3_code
def yX2_throwing : MethodName := ⟨RX2, "throwing", "(ZZZ)Z"⟩
def wsX2_throwing : List Cond := .code yX2_throwing cX2_throwing 4 (some .boolean) :: us_big
abbrev cX2_message : ByteArray := prog_4_method_9_code
def yX2_message : MethodName := ⟨RX2, "message", "(IIII)I"⟩
def wsX2_message : List Cond := .code yX2_message cX2_message 6 (some .int) :: us_big
abbrev cX2_isUnit : ByteArray := prog_4_method_5_code
def yX2_isUnit : MethodName := ⟨RX2, "isUnit", "(I)Z"⟩
def wsX2_isUnit : List Cond := .code yX2_isUnit cX2_isUnit 2 (some .boolean) :: us_big
abbrev cX2_isMinute : ByteArray := prog_4_method_6_code
def yX2_isMinute : MethodName := ⟨RX2, "isMinute", "(I)Z"⟩
def wsX2_isMinute : List Cond := .code yX2_isMinute cX2_isMinute 1 (some .boolean) :: us_big
abbrev cX2_isValue : ByteArray := prog_4_method_8_code
def yX2_isValue : MethodName := ⟨RX2, "isValue", "(II)Z"⟩
def wsX2_isValue : List Cond := .code yX2_isValue cX2_isValue 2 (some .boolean) :: us_big
abbrev cX2_at : ByteArray := prog_4_method_19_code
def yX2_at : MethodName := ⟨RX2, "at", "(III)I"⟩
def wsX2_at : List Cond := .code yX2_at cX2_at 4 (some .int) :: us_big
abbrev cX2_rank : ByteArray := prog_4_method_18_code
def yX2_rank : MethodName := ⟨RX2, "rank", "(II)I"⟩
def wsX2_rank : List Cond := .code yX2_rank cX2_rank 3 (some .int) :: us_big
abbrev cX2_follow : ByteArray := prog_4_method_15_code
def yX2_follow : MethodName := ⟨RX2, "follow", "(III)V"⟩
def wsX2_follow : List Cond := .code yX2_follow cX2_follow 6 none :: us_big
abbrev cX2_next : ByteArray := prog_4_method_10_code
def yX2_next : MethodName := ⟨RX2, "next", "(III)I"⟩
def wsX2_next : List Cond := .code yX2_next cX2_next 8 (some .int) :: us_big
abbrev cX2_take : ByteArray := prog_4_method_14_code
def yX2_take : MethodName := ⟨RX2, "take", "(II)V"⟩
def wsX2_take : List Cond := .code yX2_take cX2_take 4 none :: us_big
abbrev cX2_follows : ByteArray := prog_4_method_11_code
def yX2_follows : MethodName := ⟨RX2, "follows", "(II)Z"⟩
def wsX2_follows : List Cond := .code yX2_follows cX2_follows 2 (some .boolean) :: us_big
abbrev cX2_become : ByteArray := prog_4_method_13_code
def yX2_become : MethodName := ⟨RX2, "become", "(I)V"⟩
def wsX2_become : List Cond := .code yX2_become cX2_become 2 none :: us_big
abbrev cX2_spend : ByteArray := prog_4_method_12_code
def yX2_spend : MethodName := ⟨RX2, "spend", "(I)V"⟩
def wsX2_spend : List Cond := .code yX2_spend cX2_spend 3 none :: us_big
abbrev cX2_ahead : ByteArray := prog_4_method_17_code
def yX2_ahead : MethodName := ⟨RX2, "ahead", "(III)I"⟩
def wsX2_ahead : List Cond := .code yX2_ahead cX2_ahead 8 (some .int) :: us_big
abbrev cX2_incidentNow : ByteArray := prog_4_method_16_code
def yX2_incidentNow : MethodName := ⟨RX2, "incidentNow", "()I"⟩
def wsX2_incidentNow : List Cond := .code yX2_incidentNow cX2_incidentNow 1 (some .int) :: us_big
abbrev cX2_place : ByteArray := prog_4_method_20_code
def yX2_place : MethodName := ⟨RX2, "place", "(II)I"⟩
def wsX2_place : List Cond := .code yX2_place cX2_place 3 (some .int) :: us_big
abbrev cX2_age : ByteArray := prog_4_method_21_code
def yX2_age : MethodName := ⟨RX2, "age", "(II)I"⟩
def wsX2_age : List Cond := .code yX2_age cX2_age 3 (some .int) :: us_big
abbrev cX2_expected : ByteArray := prog_4_method_22_code
def yX2_expected : MethodName := ⟨RX2, "expected", "(II)I"⟩
def wsX2_expected : List Cond := .code yX2_expected cX2_expected 3 (some .int) :: us_big
abbrev cX2_wrong : ByteArray := prog_4_method_24_code
def yX2_wrong : MethodName := ⟨RX2, "wrong", "(I)I"⟩
def wsX2_wrong : List Cond := .code yX2_wrong cX2_wrong 2 (some .int) :: us_big
abbrev cX2_saidOf : ByteArray := prog_4_method_23_code
def yX2_saidOf : MethodName := ⟨RX2, "saidOf", "(I)I"⟩
def wsX2_saidOf : List Cond := .code yX2_saidOf cX2_saidOf 2 (some .int) :: us_big
abbrev cX2_told : ByteArray := prog_4_method_25_code
def yX2_told : MethodName := ⟨RX2, "told", "(I)I"⟩
def wsX2_told : List Cond := .code yX2_told cX2_told 4 (some .int) :: us_big
abbrev cX2_many : ByteArray := prog_4_method_26_code
def yX2_many : MethodName := ⟨RX2, "many", "(II)I"⟩
def wsX2_many : List Cond := .code yX2_many cX2_many 5 (some .int) :: us_big
abbrev cX2_arrived : ByteArray := prog_4_method_27_code
def yX2_arrived : MethodName := ⟨RX2, "arrived", "(III)I"⟩
def wsX2_arrived : List Cond := .code yX2_arrived cX2_arrived 6 (some .int) :: us_big
end
section
theorem mw_1 : Cond.selects RX0 yX0_settle yX0_settle ∈ us_big := us_in 1 (by decide +kernel) rfl
theorem mw_2 : Cond.selects RX1 yX1_isUnit yX1_isUnit ∈ us_big := us_in 2 (by decide +kernel) rfl
theorem mw_3 : Cond.selects RX1 yX1_putInOrder yX1_putInOrder ∈ us_big := us_in 3 (by decide +kernel) rfl
theorem mw_4 : Cond.selects RX1 yX1_refuseUnknownUnit yX1_refuseUnknownUnit ∈ us_big := us_in 4 (by decide +kernel) rfl
theorem mw_5 : Cond.selects RX1 yX1_replay yX1_replay ∈ us_big := us_in 5 (by decide +kernel) rfl
theorem mw_6 : Cond.selects RX0 yX0_startAnew yX0_startAnew ∈ us_big := us_in 6 (by decide +kernel) rfl
theorem mw_7 : Cond.selects RX0 yX0_take yX0_take ∈ us_big := us_in 7 (by decide +kernel) rfl
theorem mw_8 : Cond.selects RX0 yX0_takePlace yX0_takePlace ∈ us_big := us_in 8 (by decide +kernel) rfl
theorem mw_9 : Cond.selects RX0 yX0_takeState yX0_takeState ∈ us_big := us_in 9 (by decide +kernel) rfl
theorem mw_10 : Cond.selects RX0 yX0_drivenUpTo yX0_drivenUpTo ∈ us_big := us_in 10 (by decide +kernel) rfl
theorem mw_11 : Cond.selects RX0 yX0_isRestful yX0_isRestful ∈ us_big := us_in 11 (by decide +kernel) rfl
theorem mw_12 : Cond.selects RX0 yX0_takeStation yX0_takeStation ∈ us_big := us_in 12 (by decide +kernel) rfl
theorem mw_13 : Cond.selects RX0 yX0_stationNow yX0_stationNow ∈ us_big := us_in 13 (by decide +kernel) rfl
theorem mw_14 : Cond.selects RX0 yX0_incidentNow yX0_incidentNow ∈ us_big := us_in 14 (by decide +kernel) rfl
theorem mw_15 : Cond.selects RX0 yX0_isSendable yX0_isSendable ∈ us_big := us_in 15 (by decide +kernel) rfl
theorem mw_16 : Cond.selects RX1 yX1_rankOf yX1_rankOf ∈ us_big := us_in 16 (by decide +kernel) rfl
theorem mw_17 : Cond.selects RX0 yX0_isThereAt yX0_isThereAt ∈ us_big := us_in 17 (by decide +kernel) rfl
theorem mw_18 : Cond.selects RX1 yX1_replayedUnit yX1_replayedUnit ∈ us_big := us_in 18 (by decide +kernel) rfl
theorem mw_19 : Cond.selects RX1 yX1_countFindings yX1_countFindings ∈ us_big := us_in 19 (by decide +kernel) rfl
theorem mw_32 : Cond.initialized RX1 ∈ us_big := us_in 32 (by decide +kernel) rfl
theorem mw_33 : Cond.initialized RX0 ∈ us_big := us_in 33 (by decide +kernel) rfl
theorem mw_38 : Cond.initialized "java/lang/IndexOutOfBoundsException" ∈ us_big := us_in 38 (by decide +kernel) rfl
theorem mw_39 : Cond.initialized "java/lang/UnsupportedOperationException" ∈ us_big := us_in 39 (by decide +kernel) rfl
theorem mw_40 : Cond.initialized "java/lang/IllegalArgumentException" ∈ us_big := us_in 40 (by decide +kernel) rfl
theorem mw_56 : Cond.fieldLink RX0 9 "UnitStates$Unit" "home" "I" ∈ us_big := us_in 56 (by decide +kernel) rfl
theorem mw_57 : Cond.fieldLink RX0 15 "UnitStates$Unit" "least" "I" ∈ us_big := us_in 57 (by decide +kernel) rfl
theorem mw_58 : Cond.fieldLink RX0 18 "UnitStates$Unit" "state" "I" ∈ us_big := us_in 58 (by decide +kernel) rfl
theorem mw_60 : Cond.fieldLink RX0 21 "UnitStates$Unit" "since" "I" ∈ us_big := us_in 60 (by decide +kernel) rfl
theorem mw_62 : Cond.fieldLink RX0 24 "UnitStates$Unit" "station" "I" ∈ us_big := us_in 62 (by decide +kernel) rfl
theorem mw_63 : Cond.fieldLink RX0 27 "UnitStates$Unit" "incident" "I" ∈ us_big := us_in 63 (by decide +kernel) rfl
theorem mw_64 : Cond.fieldLink RX0 30 "UnitStates$Unit" "crew" "I" ∈ us_big := us_in 64 (by decide +kernel) rfl
theorem mw_66 : Cond.fieldLink RX0 33 "UnitStates$Unit" "things" "I" ∈ us_big := us_in 66 (by decide +kernel) rfl
theorem mw_68 : Cond.fieldLink RX0 36 "UnitStates$Unit" "link" "I" ∈ us_big := us_in 68 (by decide +kernel) rfl
theorem mw_70 : Cond.fieldLink RX0 39 "UnitStates$Unit" "lastPlace" "I" ∈ us_big := us_in 70 (by decide +kernel) rfl
theorem mw_72 : Cond.fieldLink RX0 42 "UnitStates$Unit" "lastPlaceMinute" "I" ∈ us_big := us_in 72 (by decide +kernel) rfl
theorem mw_74 : Cond.fieldLink RX0 45 "UnitStates$Unit" "expectedMinute" "I" ∈ us_big := us_in 74 (by decide +kernel) rfl
theorem mw_76 : Cond.fieldLink RX0 48 "UnitStates$Unit" "arrival" "I" ∈ us_big := us_in 76 (by decide +kernel) rfl
theorem mw_78 : Cond.fieldLink RX0 51 "UnitStates$Unit" "driven" "I" ∈ us_big := us_in 78 (by decide +kernel) rfl
theorem mw_109 : Cond.fieldLink RX1 11 "UnitStates" "units" "[LUnitStates$Unit;" ∈ us_big := us_in 109 (by decide +kernel) rfl
theorem mw_110 : Cond.fieldLink RX1 48 "UnitStates" "unitCount" "I" ∈ us_big := us_in 110 (by decide +kernel) rfl
theorem mw_111 : Cond.fieldLink RX1 15 "UnitStates" "unitOf" "[I" ∈ us_big := us_in 111 (by decide +kernel) rfl
theorem mw_112 : Cond.fieldLink RX1 19 "UnitStates" "minuteOf" "[I" ∈ us_big := us_in 112 (by decide +kernel) rfl
theorem mw_113 : Cond.fieldLink RX1 22 "UnitStates" "kindOf" "[I" ∈ us_big := us_in 113 (by decide +kernel) rfl
theorem mw_114 : Cond.fieldLink RX1 25 "UnitStates" "valueOf" "[I" ∈ us_big := us_in 114 (by decide +kernel) rfl
theorem mw_115 : Cond.fieldLink RX1 28 "UnitStates" "findingOf" "[I" ∈ us_big := us_in 115 (by decide +kernel) rfl
theorem mw_116 : Cond.fieldLink RX1 31 "UnitStates" "order" "[I" ∈ us_big := us_in 116 (by decide +kernel) rfl
theorem mw_117 : Cond.fieldLink RX1 84 "UnitStates" "messageCount" "I" ∈ us_big := us_in 117 (by decide +kernel) rfl
theorem mw_118 : Cond.fieldLink RX1 65 "UnitStates" "messagesOfUnknownUnits" "I" ∈ us_big := us_in 118 (by decide +kernel) rfl
theorem mw_149 : Cond.methodLink RX1 35 yX1_isWithin ∈ us_big := us_in 149 (by decide +kernel) rfl
theorem mw_150 : Cond.static yX1_isWithin ∈ us_big := us_in 150 (by decide +kernel) rfl
theorem mw_151 : Cond.code yX1_isWithin cX1_isWithin 2 (some .boolean) ∈ us_big := us_in 151 rfl rfl
theorem mw_152 : Cond.classLink RX1 39 "java/lang/IndexOutOfBoundsException" ∈ us_big := us_in 152 (by decide +kernel) rfl
theorem mw_221 : Cond.classLink RX1 52 "java/lang/UnsupportedOperationException" ∈ us_big := us_in 221 (by decide +kernel) rfl
theorem mw_239 : Cond.instanceMethod yX0_settle ∈ us_big := us_in 239 (by decide +kernel) rfl
theorem mw_240 : Cond.code yX0_settle cX0_settle 3 none ∈ us_big := us_in 240 rfl rfl
theorem mw_249 : Cond.methodLink RX1 61 yX1_isUnit ∈ us_big := us_in 249 (by decide +kernel) rfl
theorem mw_251 : Cond.instanceMethod yX1_isUnit ∈ us_big := us_in 251 (by decide +kernel) rfl
theorem mw_252 : Cond.code yX1_isUnit cX1_isUnit 2 (some .boolean) ∈ us_big := us_in 252 rfl rfl
theorem mw_253 : Cond.classLink RX1 68 "java/lang/IllegalArgumentException" ∈ us_big := us_in 253 (by decide +kernel) rfl
theorem mw_270 : Cond.methodLink RX1 75 yX1_refuseOutsideMinutes ∈ us_big := us_in 270 (by decide +kernel) rfl
theorem mw_271 : Cond.static yX1_refuseOutsideMinutes ∈ us_big := us_in 271 (by decide +kernel) rfl
theorem mw_272 : Cond.code yX1_refuseOutsideMinutes cX1_refuseOutsideMinutes 1 none ∈ us_big := us_in 272 rfl rfl
theorem mw_273 : Cond.constant RX1 148 99999 ∈ us_big := us_in 273 (by decide +kernel) rfl
theorem mw_275 : Cond.methodLink RX1 79 yX1_isValueOf ∈ us_big := us_in 275 (by decide +kernel) rfl
theorem mw_276 : Cond.static yX1_isValueOf ∈ us_big := us_in 276 (by decide +kernel) rfl
theorem mw_277 : Cond.code yX1_isValueOf cX1_isValueOf 2 (some .boolean) ∈ us_big := us_in 277 rfl rfl
theorem mw_278 : Cond.constant RX1 161 999999 ∈ us_big := us_in 278 (by decide +kernel) rfl
theorem mw_281 : Cond.methodLink RX1 89 yX1_putInOrder ∈ us_big := us_in 281 (by decide +kernel) rfl
theorem mw_283 : Cond.instanceMethod yX1_putInOrder ∈ us_big := us_in 283 (by decide +kernel) rfl
theorem mw_284 : Cond.code yX1_putInOrder cX1_putInOrder 4 none ∈ us_big := us_in 284 rfl rfl
theorem mw_292 : Cond.methodLink RX1 92 yX1_refuseUnknownUnit ∈ us_big := us_in 292 (by decide +kernel) rfl
theorem mw_294 : Cond.instanceMethod yX1_refuseUnknownUnit ∈ us_big := us_in 294 (by decide +kernel) rfl
theorem mw_295 : Cond.code yX1_refuseUnknownUnit cX1_refuseUnknownUnit 2 none ∈ us_big := us_in 295 rfl rfl
theorem mw_297 : Cond.methodLink RX1 97 yX1_replay ∈ us_big := us_in 297 (by decide +kernel) rfl
theorem mw_299 : Cond.instanceMethod yX1_replay ∈ us_big := us_in 299 (by decide +kernel) rfl
theorem mw_300 : Cond.code yX1_replay cX1_replay 5 none ∈ us_big := us_in 300 rfl rfl
theorem mw_303 : Cond.instanceMethod yX0_startAnew ∈ us_big := us_in 303 (by decide +kernel) rfl
theorem mw_304 : Cond.code yX0_startAnew cX0_startAnew 1 none ∈ us_big := us_in 304 rfl rfl
theorem mw_307 : Cond.instanceMethod yX0_take ∈ us_big := us_in 307 (by decide +kernel) rfl
theorem mw_308 : Cond.code yX0_take cX0_take 5 (some .int) ∈ us_big := us_in 308 rfl rfl
theorem mw_309 : Cond.methodLink RX0 54 yX0_takePlace ∈ us_big := us_in 309 (by decide +kernel) rfl
theorem mw_311 : Cond.instanceMethod yX0_takePlace ∈ us_big := us_in 311 (by decide +kernel) rfl
theorem mw_312 : Cond.code yX0_takePlace cX0_takePlace 3 (some .int) ∈ us_big := us_in 312 rfl rfl
theorem mw_313 : Cond.methodLink RX0 58 yX0_takeState ∈ us_big := us_in 313 (by decide +kernel) rfl
theorem mw_315 : Cond.instanceMethod yX0_takeState ∈ us_big := us_in 315 (by decide +kernel) rfl
theorem mw_316 : Cond.code yX0_takeState cX0_takeState 5 (some .int) ∈ us_big := us_in 316 rfl rfl
theorem mw_317 : Cond.methodLink RX0 62 yX0_canFollow ∈ us_big := us_in 317 (by decide +kernel) rfl
theorem mw_318 : Cond.static yX0_canFollow ∈ us_big := us_in 318 (by decide +kernel) rfl
theorem mw_319 : Cond.code yX0_canFollow cX0_canFollow 2 (some .boolean) ∈ us_big := us_in 319 rfl rfl
theorem mw_320 : Cond.methodLink RX0 66 yX0_needsCrew ∈ us_big := us_in 320 (by decide +kernel) rfl
theorem mw_321 : Cond.static yX0_needsCrew ∈ us_big := us_in 321 (by decide +kernel) rfl
theorem mw_322 : Cond.code yX0_needsCrew cX0_needsCrew 1 (some .boolean) ∈ us_big := us_in 322 rfl rfl
theorem mw_323 : Cond.methodLink RX0 70 yX0_drivenUpTo ∈ us_big := us_in 323 (by decide +kernel) rfl
theorem mw_325 : Cond.instanceMethod yX0_drivenUpTo ∈ us_big := us_in 325 (by decide +kernel) rfl
theorem mw_326 : Cond.code yX0_drivenUpTo cX0_drivenUpTo 3 (some .int) ∈ us_big := us_in 326 rfl rfl
theorem mw_327 : Cond.methodLink RX0 77 yX0_isRestful ∈ us_big := us_in 327 (by decide +kernel) rfl
theorem mw_329 : Cond.instanceMethod yX0_isRestful ∈ us_big := us_in 329 (by decide +kernel) rfl
theorem mw_330 : Cond.code yX0_isRestful cX0_isRestful 1 (some .boolean) ∈ us_big := us_in 330 rfl rfl
theorem mw_331 : Cond.methodLink RX0 74 yX0_takeStation ∈ us_big := us_in 331 (by decide +kernel) rfl
theorem mw_333 : Cond.instanceMethod yX0_takeStation ∈ us_big := us_in 333 (by decide +kernel) rfl
theorem mw_334 : Cond.code yX0_takeStation cX0_takeStation 2 (some .int) ∈ us_big := us_in 334 rfl rfl
theorem mw_337 : Cond.instanceMethod yX0_stationNow ∈ us_big := us_in 337 (by decide +kernel) rfl
theorem mw_338 : Cond.code yX0_stationNow cX0_stationNow 1 (some .int) ∈ us_big := us_in 338 rfl rfl
theorem mw_341 : Cond.instanceMethod yX0_incidentNow ∈ us_big := us_in 341 (by decide +kernel) rfl
theorem mw_342 : Cond.code yX0_incidentNow cX0_incidentNow 1 (some .int) ∈ us_big := us_in 342 rfl rfl
theorem mw_346 : Cond.instanceMethod yX0_isSendable ∈ us_big := us_in 346 (by decide +kernel) rfl
theorem mw_347 : Cond.code yX0_isSendable cX0_isSendable 2 (some .boolean) ∈ us_big := us_in 347 rfl rfl
theorem mw_348 : Cond.methodLink RX1 129 yX1_rankOf ∈ us_big := us_in 348 (by decide +kernel) rfl
theorem mw_350 : Cond.instanceMethod yX1_rankOf ∈ us_big := us_in 350 (by decide +kernel) rfl
theorem mw_351 : Cond.code yX1_rankOf cX1_rankOf 5 (some .int) ∈ us_big := us_in 351 rfl rfl
theorem mw_354 : Cond.instanceMethod yX0_isThereAt ∈ us_big := us_in 354 (by decide +kernel) rfl
theorem mw_355 : Cond.code yX0_isThereAt cX0_isThereAt 2 (some .boolean) ∈ us_big := us_in 355 rfl rfl
theorem mw_363 : Cond.methodLink RX1 133 yX1_replayedUnit ∈ us_big := us_in 363 (by decide +kernel) rfl
theorem mw_365 : Cond.instanceMethod yX1_replayedUnit ∈ us_big := us_in 365 (by decide +kernel) rfl
theorem mw_366 : Cond.code yX1_replayedUnit cX1_replayedUnit 3 (some (.object RX0)) ∈ us_big := us_in 366 rfl rfl
theorem mw_396 : Cond.methodLink RX1 149 yX1_countFindings ∈ us_big := us_in 396 (by decide +kernel) rfl
theorem mw_398 : Cond.instanceMethod yX1_countFindings ∈ us_big := us_in 398 (by decide +kernel) rfl
theorem mw_399 : Cond.code yX1_countFindings cX1_countFindings 4 (some .int) ∈ us_big := us_in 399 rfl rfl
theorem us_at43 : ∀ w ∈ (vx_atS RX1 43 "java/lang/IndexOutOfBoundsException" ["java/lang/RuntimeException", "java/lang/Exception"]).filter goodWord, w ∈ us_big := fun w h => List.mem_filter.mpr ⟨(by decide +kernel : ∀ w ∈ (vx_atS RX1 43 "java/lang/IndexOutOfBoundsException" ["java/lang/RuntimeException", "java/lang/Exception"]).filter goodWord, w ∈ lw_tbl) w h, (List.mem_filter.mp h).2⟩
theorem us_ab43 : ∀ w ∈ (vx_atS RX1 43 "java/lang/IndexOutOfBoundsException" ["java/lang/RuntimeException", "java/lang/Exception"]).filter (fun w => !goodWord w), w ∈ [Cond.castable "java/lang/IndexOutOfBoundsException" "java/lang/IndexOutOfBoundsException", Cond.declares ⟨"java/lang/RuntimeException", "<init>", "(Ljava/lang/String;)V"⟩, Cond.declares ⟨"java/lang/Exception", "<init>", "(Ljava/lang/String;)V"⟩, Cond.declares ⟨"java/lang/Throwable", "<init>", "(Ljava/lang/String;)V"⟩] := by decide +kernel
theorem us_ag43 : ∀ w ∈ Cond.classLink RX1 39 "java/lang/IndexOutOfBoundsException" :: Cond.initialized "java/lang/IndexOutOfBoundsException" :: vx_atS RX1 43 "java/lang/IndexOutOfBoundsException" ["java/lang/RuntimeException", "java/lang/Exception"], vx_ot w = true := by decide +kernel
theorem us_at56 : ∀ w ∈ (vx_atS RX1 56 "java/lang/UnsupportedOperationException" ["java/lang/RuntimeException", "java/lang/Exception"]).filter goodWord, w ∈ us_big := fun w h => List.mem_filter.mpr ⟨(by decide +kernel : ∀ w ∈ (vx_atS RX1 56 "java/lang/UnsupportedOperationException" ["java/lang/RuntimeException", "java/lang/Exception"]).filter goodWord, w ∈ lw_tbl) w h, (List.mem_filter.mp h).2⟩
theorem us_ab56 : ∀ w ∈ (vx_atS RX1 56 "java/lang/UnsupportedOperationException" ["java/lang/RuntimeException", "java/lang/Exception"]).filter (fun w => !goodWord w), w ∈ [Cond.castable "java/lang/UnsupportedOperationException" "java/lang/UnsupportedOperationException", Cond.declares ⟨"java/lang/RuntimeException", "<init>", "(Ljava/lang/String;)V"⟩, Cond.declares ⟨"java/lang/Exception", "<init>", "(Ljava/lang/String;)V"⟩, Cond.declares ⟨"java/lang/Throwable", "<init>", "(Ljava/lang/String;)V"⟩] := by decide +kernel
theorem us_ag56 : ∀ w ∈ Cond.classLink RX1 52 "java/lang/UnsupportedOperationException" :: Cond.initialized "java/lang/UnsupportedOperationException" :: vx_atS RX1 56 "java/lang/UnsupportedOperationException" ["java/lang/RuntimeException", "java/lang/Exception"], vx_ot w = true := by decide +kernel
theorem us_at72 : ∀ w ∈ (vx_atS RX1 72 "java/lang/IllegalArgumentException" ["java/lang/RuntimeException", "java/lang/Exception"]).filter goodWord, w ∈ us_big := fun w h => List.mem_filter.mpr ⟨(by decide +kernel : ∀ w ∈ (vx_atS RX1 72 "java/lang/IllegalArgumentException" ["java/lang/RuntimeException", "java/lang/Exception"]).filter goodWord, w ∈ lw_tbl) w h, (List.mem_filter.mp h).2⟩
theorem us_ab72 : ∀ w ∈ (vx_atS RX1 72 "java/lang/IllegalArgumentException" ["java/lang/RuntimeException", "java/lang/Exception"]).filter (fun w => !goodWord w), w ∈ [Cond.castable "java/lang/IllegalArgumentException" "java/lang/IllegalArgumentException", Cond.declares ⟨"java/lang/RuntimeException", "<init>", "(Ljava/lang/String;)V"⟩, Cond.declares ⟨"java/lang/Exception", "<init>", "(Ljava/lang/String;)V"⟩, Cond.declares ⟨"java/lang/Throwable", "<init>", "(Ljava/lang/String;)V"⟩] := by decide +kernel
theorem us_ag72 : ∀ w ∈ Cond.classLink RX1 68 "java/lang/IllegalArgumentException" :: Cond.initialized "java/lang/IllegalArgumentException" :: vx_atS RX1 72 "java/lang/IllegalArgumentException" ["java/lang/RuntimeException", "java/lang/Exception"], vx_ot w = true := by decide +kernel
end
section
theorem dX0_init_0 : decode cX0_init 0 = .ok (.aload_n 0, 1) := by decide +kernel
theorem dX0_init_1 : decode cX0_init 1 = .ok (.invokespecial 3, 3) := by decide +kernel
theorem dX0_init_4 : decode cX0_init 4 = .ok (.return_, 1) := by decide +kernel
theorem dX0_settle_0 : decode cX0_settle 0 = .ok (.aload_n 0, 1) := by decide +kernel
theorem dX0_settle_1 : decode cX0_settle 1 = .ok (.iload_n 1, 1) := by decide +kernel
theorem dX0_settle_2 : decode cX0_settle 2 = .ok (.putfield 9, 3) := by decide +kernel
theorem dX0_settle_5 : decode cX0_settle 5 = .ok (.aload_n 0, 1) := by decide +kernel
theorem dX0_settle_6 : decode cX0_settle 6 = .ok (.iload_n 2, 1) := by decide +kernel
theorem dX0_settle_7 : decode cX0_settle 7 = .ok (.putfield 15, 3) := by decide +kernel
theorem dX0_settle_10 : decode cX0_settle 10 = .ok (.return_, 1) := by decide +kernel
theorem dX0_startAnew_0 : decode cX0_startAnew 0 = .ok (.aload_n 0, 1) := by decide +kernel
theorem dX0_startAnew_1 : decode cX0_startAnew 1 = .ok (.iconst 0, 1) := by decide +kernel
theorem dX0_startAnew_2 : decode cX0_startAnew 2 = .ok (.putfield 18, 3) := by decide +kernel
theorem dX0_startAnew_5 : decode cX0_startAnew 5 = .ok (.aload_n 0, 1) := by decide +kernel
theorem dX0_startAnew_6 : decode cX0_startAnew 6 = .ok (.iconst 0, 1) := by decide +kernel
theorem dX0_startAnew_7 : decode cX0_startAnew 7 = .ok (.putfield 21, 3) := by decide +kernel
theorem dX0_startAnew_10 : decode cX0_startAnew 10 = .ok (.aload_n 0, 1) := by decide +kernel
theorem dX0_startAnew_11 : decode cX0_startAnew 11 = .ok (.aload_n 0, 1) := by decide +kernel
theorem dX0_startAnew_12 : decode cX0_startAnew 12 = .ok (.getfield 9, 3) := by decide +kernel
theorem dX0_startAnew_15 : decode cX0_startAnew 15 = .ok (.putfield 24, 3) := by decide +kernel
theorem dX0_startAnew_18 : decode cX0_startAnew 18 = .ok (.aload_n 0, 1) := by decide +kernel
theorem dX0_startAnew_19 : decode cX0_startAnew 19 = .ok (.iconst (-1), 1) := by decide +kernel
theorem dX0_startAnew_20 : decode cX0_startAnew 20 = .ok (.putfield 27, 3) := by decide +kernel
theorem dX0_startAnew_23 : decode cX0_startAnew 23 = .ok (.aload_n 0, 1) := by decide +kernel
theorem dX0_startAnew_24 : decode cX0_startAnew 24 = .ok (.aload_n 0, 1) := by decide +kernel
theorem dX0_startAnew_25 : decode cX0_startAnew 25 = .ok (.getfield 15, 3) := by decide +kernel
theorem dX0_startAnew_28 : decode cX0_startAnew 28 = .ok (.putfield 30, 3) := by decide +kernel
theorem dX0_startAnew_31 : decode cX0_startAnew 31 = .ok (.aload_n 0, 1) := by decide +kernel
theorem dX0_startAnew_32 : decode cX0_startAnew 32 = .ok (.iconst 0, 1) := by decide +kernel
theorem dX0_startAnew_33 : decode cX0_startAnew 33 = .ok (.putfield 33, 3) := by decide +kernel
theorem dX0_startAnew_36 : decode cX0_startAnew 36 = .ok (.aload_n 0, 1) := by decide +kernel
theorem dX0_startAnew_37 : decode cX0_startAnew 37 = .ok (.iconst 1, 1) := by decide +kernel
theorem dX0_startAnew_38 : decode cX0_startAnew 38 = .ok (.putfield 36, 3) := by decide +kernel
theorem dX0_startAnew_41 : decode cX0_startAnew 41 = .ok (.aload_n 0, 1) := by decide +kernel
theorem dX0_startAnew_42 : decode cX0_startAnew 42 = .ok (.iconst (-1), 1) := by decide +kernel
theorem dX0_startAnew_43 : decode cX0_startAnew 43 = .ok (.putfield 39, 3) := by decide +kernel
theorem dX0_startAnew_46 : decode cX0_startAnew 46 = .ok (.aload_n 0, 1) := by decide +kernel
theorem dX0_startAnew_47 : decode cX0_startAnew 47 = .ok (.iconst 0, 1) := by decide +kernel
theorem dX0_startAnew_48 : decode cX0_startAnew 48 = .ok (.putfield 42, 3) := by decide +kernel
theorem dX0_startAnew_51 : decode cX0_startAnew 51 = .ok (.aload_n 0, 1) := by decide +kernel
theorem dX0_startAnew_52 : decode cX0_startAnew 52 = .ok (.iconst (-1), 1) := by decide +kernel
theorem dX0_startAnew_53 : decode cX0_startAnew 53 = .ok (.putfield 45, 3) := by decide +kernel
theorem dX0_startAnew_56 : decode cX0_startAnew 56 = .ok (.aload_n 0, 1) := by decide +kernel
theorem dX0_startAnew_57 : decode cX0_startAnew 57 = .ok (.iconst (-1), 1) := by decide +kernel
theorem dX0_startAnew_58 : decode cX0_startAnew 58 = .ok (.putfield 48, 3) := by decide +kernel
theorem dX0_startAnew_61 : decode cX0_startAnew 61 = .ok (.aload_n 0, 1) := by decide +kernel
theorem dX0_startAnew_62 : decode cX0_startAnew 62 = .ok (.iconst 0, 1) := by decide +kernel
theorem dX0_startAnew_63 : decode cX0_startAnew 63 = .ok (.putfield 51, 3) := by decide +kernel
theorem dX0_startAnew_66 : decode cX0_startAnew 66 = .ok (.return_, 1) := by decide +kernel
theorem dX0_take_0 : decode cX0_take 0 = .ok (.iload_n 1, 1) := by decide +kernel
theorem dX0_take_1 : decode cX0_take 1 = .ok (.tableswitch 72 11 15 #[35, 42, 49, 56, 63], 35) := by decide +kernel
theorem dX0_take_36 : decode cX0_take 36 = .ok (.aload_n 0, 1) := by decide +kernel
theorem dX0_take_37 : decode cX0_take 37 = .ok (.iload_n 2, 1) := by decide +kernel
theorem dX0_take_38 : decode cX0_take 38 = .ok (.iload_n 3, 1) := by decide +kernel
theorem dX0_take_39 : decode cX0_take 39 = .ok (.invokevirtual 54, 3) := by decide +kernel
theorem dX0_take_42 : decode cX0_take 42 = .ok (.ireturn, 1) := by decide +kernel
theorem dX0_take_43 : decode cX0_take 43 = .ok (.aload_n 0, 1) := by decide +kernel
theorem dX0_take_44 : decode cX0_take 44 = .ok (.iload_n 2, 1) := by decide +kernel
theorem dX0_take_45 : decode cX0_take 45 = .ok (.putfield 30, 3) := by decide +kernel
theorem dX0_take_48 : decode cX0_take 48 = .ok (.iconst 0, 1) := by decide +kernel
theorem dX0_take_49 : decode cX0_take 49 = .ok (.ireturn, 1) := by decide +kernel
theorem dX0_take_50 : decode cX0_take 50 = .ok (.aload_n 0, 1) := by decide +kernel
theorem dX0_take_51 : decode cX0_take 51 = .ok (.iload_n 2, 1) := by decide +kernel
theorem dX0_take_52 : decode cX0_take 52 = .ok (.putfield 33, 3) := by decide +kernel
theorem dX0_take_55 : decode cX0_take 55 = .ok (.iconst 0, 1) := by decide +kernel
theorem dX0_take_56 : decode cX0_take 56 = .ok (.ireturn, 1) := by decide +kernel
theorem dX0_take_57 : decode cX0_take 57 = .ok (.aload_n 0, 1) := by decide +kernel
theorem dX0_take_58 : decode cX0_take 58 = .ok (.iload_n 2, 1) := by decide +kernel
theorem dX0_take_59 : decode cX0_take 59 = .ok (.putfield 36, 3) := by decide +kernel
theorem dX0_take_62 : decode cX0_take 62 = .ok (.iconst 0, 1) := by decide +kernel
theorem dX0_take_63 : decode cX0_take 63 = .ok (.ireturn, 1) := by decide +kernel
theorem dX0_take_64 : decode cX0_take 64 = .ok (.aload_n 0, 1) := by decide +kernel
theorem dX0_take_65 : decode cX0_take 65 = .ok (.iload_n 3, 1) := by decide +kernel
theorem dX0_take_66 : decode cX0_take 66 = .ok (.iload_n 2, 1) := by decide +kernel
theorem dX0_take_67 : decode cX0_take 67 = .ok (.iadd, 1) := by decide +kernel
theorem dX0_take_68 : decode cX0_take 68 = .ok (.putfield 45, 3) := by decide +kernel
theorem dX0_take_71 : decode cX0_take 71 = .ok (.iconst 0, 1) := by decide +kernel
theorem dX0_take_72 : decode cX0_take 72 = .ok (.ireturn, 1) := by decide +kernel
theorem dX0_take_73 : decode cX0_take 73 = .ok (.aload_n 0, 1) := by decide +kernel
theorem dX0_take_74 : decode cX0_take 74 = .ok (.iload_n 1, 1) := by decide +kernel
theorem dX0_take_75 : decode cX0_take 75 = .ok (.iload_n 2, 1) := by decide +kernel
theorem dX0_take_76 : decode cX0_take 76 = .ok (.iload_n 3, 1) := by decide +kernel
theorem dX0_take_77 : decode cX0_take 77 = .ok (.iload 4, 2) := by decide +kernel
theorem dX0_take_79 : decode cX0_take 79 = .ok (.invokevirtual 58, 3) := by decide +kernel
theorem dX0_take_82 : decode cX0_take 82 = .ok (.ireturn, 1) := by decide +kernel
theorem dX0_takePlace_0 : decode cX0_takePlace 0 = .ok (.aload_n 0, 1) := by decide +kernel
theorem dX0_takePlace_1 : decode cX0_takePlace 1 = .ok (.getfield 36, 3) := by decide +kernel
theorem dX0_takePlace_4 : decode cX0_takePlace 4 = .ok (.ifCond .ne 5, 3) := by decide +kernel
theorem dX0_takePlace_7 : decode cX0_takePlace 7 = .ok (.iconst 4, 1) := by decide +kernel
theorem dX0_takePlace_8 : decode cX0_takePlace 8 = .ok (.ireturn, 1) := by decide +kernel
theorem dX0_takePlace_9 : decode cX0_takePlace 9 = .ok (.aload_n 0, 1) := by decide +kernel
theorem dX0_takePlace_10 : decode cX0_takePlace 10 = .ok (.iload_n 1, 1) := by decide +kernel
theorem dX0_takePlace_11 : decode cX0_takePlace 11 = .ok (.putfield 39, 3) := by decide +kernel
theorem dX0_takePlace_14 : decode cX0_takePlace 14 = .ok (.aload_n 0, 1) := by decide +kernel
theorem dX0_takePlace_15 : decode cX0_takePlace 15 = .ok (.iload_n 2, 1) := by decide +kernel
theorem dX0_takePlace_16 : decode cX0_takePlace 16 = .ok (.putfield 42, 3) := by decide +kernel
theorem dX0_takePlace_19 : decode cX0_takePlace 19 = .ok (.iconst 0, 1) := by decide +kernel
theorem dX0_takePlace_20 : decode cX0_takePlace 20 = .ok (.ireturn, 1) := by decide +kernel
theorem dX0_takeState_0 : decode cX0_takeState 0 = .ok (.aload_n 0, 1) := by decide +kernel
theorem dX0_takeState_1 : decode cX0_takeState 1 = .ok (.getfield 18, 3) := by decide +kernel
theorem dX0_takeState_4 : decode cX0_takeState 4 = .ok (.iload_n 1, 1) := by decide +kernel
theorem dX0_takeState_5 : decode cX0_takeState 5 = .ok (.invokestatic 62, 3) := by decide +kernel
theorem dX0_takeState_8 : decode cX0_takeState 8 = .ok (.ifCond .ne 5, 3) := by decide +kernel
theorem dX0_takeState_11 : decode cX0_takeState 11 = .ok (.iconst 1, 1) := by decide +kernel
theorem dX0_takeState_12 : decode cX0_takeState 12 = .ok (.ireturn, 1) := by decide +kernel
theorem dX0_takeState_13 : decode cX0_takeState 13 = .ok (.iload_n 1, 1) := by decide +kernel
theorem dX0_takeState_14 : decode cX0_takeState 14 = .ok (.invokestatic 66, 3) := by decide +kernel
theorem dX0_takeState_17 : decode cX0_takeState 17 = .ok (.ifCond .eq 16, 3) := by decide +kernel
theorem dX0_takeState_20 : decode cX0_takeState 20 = .ok (.aload_n 0, 1) := by decide +kernel
theorem dX0_takeState_21 : decode cX0_takeState 21 = .ok (.getfield 30, 3) := by decide +kernel
theorem dX0_takeState_24 : decode cX0_takeState 24 = .ok (.aload_n 0, 1) := by decide +kernel
theorem dX0_takeState_25 : decode cX0_takeState 25 = .ok (.getfield 15, 3) := by decide +kernel
theorem dX0_takeState_28 : decode cX0_takeState 28 = .ok (.if_icmp .ge 5, 3) := by decide +kernel
theorem dX0_takeState_31 : decode cX0_takeState 31 = .ok (.iconst 2, 1) := by decide +kernel
theorem dX0_takeState_32 : decode cX0_takeState 32 = .ok (.ireturn, 1) := by decide +kernel
theorem dX0_takeState_33 : decode cX0_takeState 33 = .ok (.aload_n 0, 1) := by decide +kernel
theorem dX0_takeState_34 : decode cX0_takeState 34 = .ok (.aload_n 0, 1) := by decide +kernel
theorem dX0_takeState_35 : decode cX0_takeState 35 = .ok (.iload_n 3, 1) := by decide +kernel
theorem dX0_takeState_36 : decode cX0_takeState 36 = .ok (.invokevirtual 70, 3) := by decide +kernel
theorem dX0_takeState_39 : decode cX0_takeState 39 = .ok (.putfield 51, 3) := by decide +kernel
theorem dX0_takeState_42 : decode cX0_takeState 42 = .ok (.aload_n 0, 1) := by decide +kernel
theorem dX0_takeState_43 : decode cX0_takeState 43 = .ok (.iload_n 1, 1) := by decide +kernel
theorem dX0_takeState_44 : decode cX0_takeState 44 = .ok (.putfield 18, 3) := by decide +kernel
theorem dX0_takeState_47 : decode cX0_takeState 47 = .ok (.aload_n 0, 1) := by decide +kernel
theorem dX0_takeState_48 : decode cX0_takeState 48 = .ok (.iload_n 3, 1) := by decide +kernel
theorem dX0_takeState_49 : decode cX0_takeState 49 = .ok (.putfield 21, 3) := by decide +kernel
theorem dX0_takeState_52 : decode cX0_takeState 52 = .ok (.iload_n 1, 1) := by decide +kernel
theorem dX0_takeState_53 : decode cX0_takeState 53 = .ok (.iconst 1, 1) := by decide +kernel
theorem dX0_takeState_54 : decode cX0_takeState 54 = .ok (.if_icmp .ne 8, 3) := by decide +kernel
theorem dX0_takeState_57 : decode cX0_takeState 57 = .ok (.aload_n 0, 1) := by decide +kernel
theorem dX0_takeState_58 : decode cX0_takeState 58 = .ok (.iload_n 2, 1) := by decide +kernel
theorem dX0_takeState_59 : decode cX0_takeState 59 = .ok (.putfield 27, 3) := by decide +kernel
theorem dX0_takeState_62 : decode cX0_takeState 62 = .ok (.iload_n 1, 1) := by decide +kernel
theorem dX0_takeState_63 : decode cX0_takeState 63 = .ok (.iconst 3, 1) := by decide +kernel
theorem dX0_takeState_64 : decode cX0_takeState 64 = .ok (.if_icmp .ne 14, 3) := by decide +kernel
theorem dX0_takeState_67 : decode cX0_takeState 67 = .ok (.aload_n 0, 1) := by decide +kernel
theorem dX0_takeState_68 : decode cX0_takeState 68 = .ok (.iload 4, 2) := by decide +kernel
theorem dX0_takeState_70 : decode cX0_takeState 70 = .ok (.putfield 48, 3) := by decide +kernel
theorem dX0_takeState_73 : decode cX0_takeState 73 = .ok (.aload_n 0, 1) := by decide +kernel
theorem dX0_takeState_74 : decode cX0_takeState 74 = .ok (.iconst (-1), 1) := by decide +kernel
theorem dX0_takeState_75 : decode cX0_takeState 75 = .ok (.putfield 45, 3) := by decide +kernel
theorem dX0_takeState_78 : decode cX0_takeState 78 = .ok (.iload_n 1, 1) := by decide +kernel
theorem dX0_takeState_79 : decode cX0_takeState 79 = .ok (.ifCond .ne 11, 3) := by decide +kernel
theorem dX0_takeState_82 : decode cX0_takeState 82 = .ok (.aload_n 0, 1) := by decide +kernel
theorem dX0_takeState_83 : decode cX0_takeState 83 = .ok (.iload_n 2, 1) := by decide +kernel
theorem dX0_takeState_84 : decode cX0_takeState 84 = .ok (.invokevirtual 74, 3) := by decide +kernel
theorem dX0_takeState_87 : decode cX0_takeState 87 = .ok (.goto 4, 3) := by decide +kernel
theorem dX0_takeState_90 : decode cX0_takeState 90 = .ok (.iconst 0, 1) := by decide +kernel
theorem dX0_takeState_91 : decode cX0_takeState 91 = .ok (.ireturn, 1) := by decide +kernel
theorem dX0_canFollow_0 : decode cX0_canFollow 0 = .ok (.iload_n 0, 1) := by decide +kernel
theorem dX0_canFollow_1 : decode cX0_canFollow 1 = .ok (.tableswitch 237 0 10 #[59, 76, 91, 108, 124, 135, 152, 173, 189, 205, 221], 59) := by decide +kernel
theorem dX0_canFollow_60 : decode cX0_canFollow 60 = .ok (.iload_n 1, 1) := by decide +kernel
theorem dX0_canFollow_61 : decode cX0_canFollow 61 = .ok (.iconst 1, 1) := by decide +kernel
theorem dX0_canFollow_62 : decode cX0_canFollow 62 = .ok (.if_icmp .eq 9, 3) := by decide +kernel
theorem dX0_canFollow_65 : decode cX0_canFollow 65 = .ok (.iload_n 1, 1) := by decide +kernel
theorem dX0_canFollow_66 : decode cX0_canFollow 66 = .ok (.bipush 7, 2) := by decide +kernel
theorem dX0_canFollow_68 : decode cX0_canFollow 68 = .ok (.if_icmp .lt 7, 3) := by decide +kernel
theorem dX0_canFollow_71 : decode cX0_canFollow 71 = .ok (.iconst 1, 1) := by decide +kernel
theorem dX0_canFollow_72 : decode cX0_canFollow 72 = .ok (.goto 4, 3) := by decide +kernel
theorem dX0_canFollow_75 : decode cX0_canFollow 75 = .ok (.iconst 0, 1) := by decide +kernel
theorem dX0_canFollow_76 : decode cX0_canFollow 76 = .ok (.ireturn, 1) := by decide +kernel
theorem dX0_canFollow_77 : decode cX0_canFollow 77 = .ok (.iload_n 1, 1) := by decide +kernel
theorem dX0_canFollow_78 : decode cX0_canFollow 78 = .ok (.iconst 2, 1) := by decide +kernel
theorem dX0_canFollow_79 : decode cX0_canFollow 79 = .ok (.if_icmp .eq 7, 3) := by decide +kernel
theorem dX0_canFollow_82 : decode cX0_canFollow 82 = .ok (.iload_n 1, 1) := by decide +kernel
theorem dX0_canFollow_83 : decode cX0_canFollow 83 = .ok (.ifCond .ne 7, 3) := by decide +kernel
theorem dX0_canFollow_86 : decode cX0_canFollow 86 = .ok (.iconst 1, 1) := by decide +kernel
theorem dX0_canFollow_87 : decode cX0_canFollow 87 = .ok (.goto 4, 3) := by decide +kernel
theorem dX0_canFollow_90 : decode cX0_canFollow 90 = .ok (.iconst 0, 1) := by decide +kernel
theorem dX0_canFollow_91 : decode cX0_canFollow 91 = .ok (.ireturn, 1) := by decide +kernel
theorem dX0_canFollow_92 : decode cX0_canFollow 92 = .ok (.iload_n 1, 1) := by decide +kernel
theorem dX0_canFollow_93 : decode cX0_canFollow 93 = .ok (.iconst 3, 1) := by decide +kernel
theorem dX0_canFollow_94 : decode cX0_canFollow 94 = .ok (.if_icmp .eq 9, 3) := by decide +kernel
theorem dX0_canFollow_97 : decode cX0_canFollow 97 = .ok (.iload_n 1, 1) := by decide +kernel
theorem dX0_canFollow_98 : decode cX0_canFollow 98 = .ok (.bipush 6, 2) := by decide +kernel
theorem dX0_canFollow_100 : decode cX0_canFollow 100 = .ok (.if_icmp .ne 7, 3) := by decide +kernel
theorem dX0_canFollow_103 : decode cX0_canFollow 103 = .ok (.iconst 1, 1) := by decide +kernel
theorem dX0_canFollow_104 : decode cX0_canFollow 104 = .ok (.goto 4, 3) := by decide +kernel
theorem dX0_canFollow_107 : decode cX0_canFollow 107 = .ok (.iconst 0, 1) := by decide +kernel
theorem dX0_canFollow_108 : decode cX0_canFollow 108 = .ok (.ireturn, 1) := by decide +kernel
theorem dX0_canFollow_109 : decode cX0_canFollow 109 = .ok (.iload_n 1, 1) := by decide +kernel
theorem dX0_canFollow_110 : decode cX0_canFollow 110 = .ok (.iconst 4, 1) := by decide +kernel
theorem dX0_canFollow_111 : decode cX0_canFollow 111 = .ok (.if_icmp .eq 8, 3) := by decide +kernel
theorem dX0_canFollow_114 : decode cX0_canFollow 114 = .ok (.iload_n 1, 1) := by decide +kernel
theorem dX0_canFollow_115 : decode cX0_canFollow 115 = .ok (.iconst 5, 1) := by decide +kernel
theorem dX0_canFollow_116 : decode cX0_canFollow 116 = .ok (.if_icmp .ne 7, 3) := by decide +kernel
theorem dX0_canFollow_119 : decode cX0_canFollow 119 = .ok (.iconst 1, 1) := by decide +kernel
theorem dX0_canFollow_120 : decode cX0_canFollow 120 = .ok (.goto 4, 3) := by decide +kernel
theorem dX0_canFollow_123 : decode cX0_canFollow 123 = .ok (.iconst 0, 1) := by decide +kernel
theorem dX0_canFollow_124 : decode cX0_canFollow 124 = .ok (.ireturn, 1) := by decide +kernel
theorem dX0_canFollow_125 : decode cX0_canFollow 125 = .ok (.iload_n 1, 1) := by decide +kernel
theorem dX0_canFollow_126 : decode cX0_canFollow 126 = .ok (.iconst 5, 1) := by decide +kernel
theorem dX0_canFollow_127 : decode cX0_canFollow 127 = .ok (.if_icmp .ne 7, 3) := by decide +kernel
theorem dX0_canFollow_130 : decode cX0_canFollow 130 = .ok (.iconst 1, 1) := by decide +kernel
theorem dX0_canFollow_131 : decode cX0_canFollow 131 = .ok (.goto 4, 3) := by decide +kernel
theorem dX0_canFollow_134 : decode cX0_canFollow 134 = .ok (.iconst 0, 1) := by decide +kernel
theorem dX0_canFollow_135 : decode cX0_canFollow 135 = .ok (.ireturn, 1) := by decide +kernel
theorem dX0_canFollow_136 : decode cX0_canFollow 136 = .ok (.iload_n 1, 1) := by decide +kernel
theorem dX0_canFollow_137 : decode cX0_canFollow 137 = .ok (.iconst 1, 1) := by decide +kernel
theorem dX0_canFollow_138 : decode cX0_canFollow 138 = .ok (.if_icmp .eq 9, 3) := by decide +kernel
theorem dX0_canFollow_141 : decode cX0_canFollow 141 = .ok (.iload_n 1, 1) := by decide +kernel
theorem dX0_canFollow_142 : decode cX0_canFollow 142 = .ok (.bipush 6, 2) := by decide +kernel
theorem dX0_canFollow_144 : decode cX0_canFollow 144 = .ok (.if_icmp .ne 7, 3) := by decide +kernel
theorem dX0_canFollow_147 : decode cX0_canFollow 147 = .ok (.iconst 1, 1) := by decide +kernel
theorem dX0_canFollow_148 : decode cX0_canFollow 148 = .ok (.goto 4, 3) := by decide +kernel
theorem dX0_canFollow_151 : decode cX0_canFollow 151 = .ok (.iconst 0, 1) := by decide +kernel
theorem dX0_canFollow_152 : decode cX0_canFollow 152 = .ok (.ireturn, 1) := by decide +kernel
theorem dX0_canFollow_153 : decode cX0_canFollow 153 = .ok (.iload_n 1, 1) := by decide +kernel
theorem dX0_canFollow_154 : decode cX0_canFollow 154 = .ok (.ifCond .eq 14, 3) := by decide +kernel
theorem dX0_canFollow_157 : decode cX0_canFollow 157 = .ok (.iload_n 1, 1) := by decide +kernel
theorem dX0_canFollow_158 : decode cX0_canFollow 158 = .ok (.iconst 1, 1) := by decide +kernel
theorem dX0_canFollow_159 : decode cX0_canFollow 159 = .ok (.if_icmp .eq 9, 3) := by decide +kernel
theorem dX0_canFollow_162 : decode cX0_canFollow 162 = .ok (.iload_n 1, 1) := by decide +kernel
theorem dX0_canFollow_163 : decode cX0_canFollow 163 = .ok (.bipush 7, 2) := by decide +kernel
theorem dX0_canFollow_165 : decode cX0_canFollow 165 = .ok (.if_icmp .ne 7, 3) := by decide +kernel
theorem dX0_canFollow_168 : decode cX0_canFollow 168 = .ok (.iconst 1, 1) := by decide +kernel
theorem dX0_canFollow_169 : decode cX0_canFollow 169 = .ok (.goto 4, 3) := by decide +kernel
theorem dX0_canFollow_172 : decode cX0_canFollow 172 = .ok (.iconst 0, 1) := by decide +kernel
theorem dX0_canFollow_173 : decode cX0_canFollow 173 = .ok (.ireturn, 1) := by decide +kernel
theorem dX0_canFollow_174 : decode cX0_canFollow 174 = .ok (.iload_n 1, 1) := by decide +kernel
theorem dX0_canFollow_175 : decode cX0_canFollow 175 = .ok (.ifCond .eq 9, 3) := by decide +kernel
theorem dX0_canFollow_178 : decode cX0_canFollow 178 = .ok (.iload_n 1, 1) := by decide +kernel
theorem dX0_canFollow_179 : decode cX0_canFollow 179 = .ok (.bipush 6, 2) := by decide +kernel
theorem dX0_canFollow_181 : decode cX0_canFollow 181 = .ok (.if_icmp .ne 7, 3) := by decide +kernel
theorem dX0_canFollow_184 : decode cX0_canFollow 184 = .ok (.iconst 1, 1) := by decide +kernel
theorem dX0_canFollow_185 : decode cX0_canFollow 185 = .ok (.goto 4, 3) := by decide +kernel
theorem dX0_canFollow_188 : decode cX0_canFollow 188 = .ok (.iconst 0, 1) := by decide +kernel
theorem dX0_canFollow_189 : decode cX0_canFollow 189 = .ok (.ireturn, 1) := by decide +kernel
theorem dX0_canFollow_190 : decode cX0_canFollow 190 = .ok (.iload_n 1, 1) := by decide +kernel
theorem dX0_canFollow_191 : decode cX0_canFollow 191 = .ok (.ifCond .eq 9, 3) := by decide +kernel
theorem dX0_canFollow_194 : decode cX0_canFollow 194 = .ok (.iload_n 1, 1) := by decide +kernel
theorem dX0_canFollow_195 : decode cX0_canFollow 195 = .ok (.bipush 9, 2) := by decide +kernel
theorem dX0_canFollow_197 : decode cX0_canFollow 197 = .ok (.if_icmp .ne 7, 3) := by decide +kernel
theorem dX0_canFollow_200 : decode cX0_canFollow 200 = .ok (.iconst 1, 1) := by decide +kernel
theorem dX0_canFollow_201 : decode cX0_canFollow 201 = .ok (.goto 4, 3) := by decide +kernel
theorem dX0_canFollow_204 : decode cX0_canFollow 204 = .ok (.iconst 0, 1) := by decide +kernel
theorem dX0_canFollow_205 : decode cX0_canFollow 205 = .ok (.ireturn, 1) := by decide +kernel
theorem dX0_canFollow_206 : decode cX0_canFollow 206 = .ok (.iload_n 1, 1) := by decide +kernel
theorem dX0_canFollow_207 : decode cX0_canFollow 207 = .ok (.ifCond .eq 9, 3) := by decide +kernel
theorem dX0_canFollow_210 : decode cX0_canFollow 210 = .ok (.iload_n 1, 1) := by decide +kernel
theorem dX0_canFollow_211 : decode cX0_canFollow 211 = .ok (.bipush 8, 2) := by decide +kernel
theorem dX0_canFollow_213 : decode cX0_canFollow 213 = .ok (.if_icmp .ne 7, 3) := by decide +kernel
theorem dX0_canFollow_216 : decode cX0_canFollow 216 = .ok (.iconst 1, 1) := by decide +kernel
theorem dX0_canFollow_217 : decode cX0_canFollow 217 = .ok (.goto 4, 3) := by decide +kernel
theorem dX0_canFollow_220 : decode cX0_canFollow 220 = .ok (.iconst 0, 1) := by decide +kernel
theorem dX0_canFollow_221 : decode cX0_canFollow 221 = .ok (.ireturn, 1) := by decide +kernel
theorem dX0_canFollow_222 : decode cX0_canFollow 222 = .ok (.iload_n 1, 1) := by decide +kernel
theorem dX0_canFollow_223 : decode cX0_canFollow 223 = .ok (.ifCond .eq 9, 3) := by decide +kernel
theorem dX0_canFollow_226 : decode cX0_canFollow 226 = .ok (.iload_n 1, 1) := by decide +kernel
theorem dX0_canFollow_227 : decode cX0_canFollow 227 = .ok (.bipush 9, 2) := by decide +kernel
theorem dX0_canFollow_229 : decode cX0_canFollow 229 = .ok (.if_icmp .ne 7, 3) := by decide +kernel
theorem dX0_canFollow_232 : decode cX0_canFollow 232 = .ok (.iconst 1, 1) := by decide +kernel
theorem dX0_canFollow_233 : decode cX0_canFollow 233 = .ok (.goto 4, 3) := by decide +kernel
theorem dX0_canFollow_236 : decode cX0_canFollow 236 = .ok (.iconst 0, 1) := by decide +kernel
theorem dX0_canFollow_237 : decode cX0_canFollow 237 = .ok (.ireturn, 1) := by decide +kernel
theorem dX0_canFollow_238 : decode cX0_canFollow 238 = .ok (.iconst 0, 1) := by decide +kernel
theorem dX0_canFollow_239 : decode cX0_canFollow 239 = .ok (.ireturn, 1) := by decide +kernel
theorem dX0_needsCrew_0 : decode cX0_needsCrew 0 = .ok (.iload_n 0, 1) := by decide +kernel
theorem dX0_needsCrew_1 : decode cX0_needsCrew 1 = .ok (.iconst 2, 1) := by decide +kernel
theorem dX0_needsCrew_2 : decode cX0_needsCrew 2 = .ok (.if_icmp .lt 12, 3) := by decide +kernel
theorem dX0_needsCrew_5 : decode cX0_needsCrew 5 = .ok (.iload_n 0, 1) := by decide +kernel
theorem dX0_needsCrew_6 : decode cX0_needsCrew 6 = .ok (.iconst 4, 1) := by decide +kernel
theorem dX0_needsCrew_7 : decode cX0_needsCrew 7 = .ok (.if_icmp .gt 7, 3) := by decide +kernel
theorem dX0_needsCrew_10 : decode cX0_needsCrew 10 = .ok (.iconst 1, 1) := by decide +kernel
theorem dX0_needsCrew_11 : decode cX0_needsCrew 11 = .ok (.goto 4, 3) := by decide +kernel
theorem dX0_needsCrew_14 : decode cX0_needsCrew 14 = .ok (.iconst 0, 1) := by decide +kernel
theorem dX0_needsCrew_15 : decode cX0_needsCrew 15 = .ok (.ireturn, 1) := by decide +kernel
theorem dX0_drivenUpTo_0 : decode cX0_drivenUpTo 0 = .ok (.iload_n 1, 1) := by decide +kernel
theorem dX0_drivenUpTo_1 : decode cX0_drivenUpTo 1 = .ok (.aload_n 0, 1) := by decide +kernel
theorem dX0_drivenUpTo_2 : decode cX0_drivenUpTo 2 = .ok (.getfield 21, 3) := by decide +kernel
theorem dX0_drivenUpTo_5 : decode cX0_drivenUpTo 5 = .ok (.isub, 1) := by decide +kernel
theorem dX0_drivenUpTo_6 : decode cX0_drivenUpTo 6 = .ok (.istore_n 2, 1) := by decide +kernel
theorem dX0_drivenUpTo_7 : decode cX0_drivenUpTo 7 = .ok (.aload_n 0, 1) := by decide +kernel
theorem dX0_drivenUpTo_8 : decode cX0_drivenUpTo 8 = .ok (.getfield 18, 3) := by decide +kernel
theorem dX0_drivenUpTo_11 : decode cX0_drivenUpTo 11 = .ok (.iconst 2, 1) := by decide +kernel
theorem dX0_drivenUpTo_12 : decode cX0_drivenUpTo 12 = .ok (.if_icmp .eq 12, 3) := by decide +kernel
theorem dX0_drivenUpTo_15 : decode cX0_drivenUpTo 15 = .ok (.aload_n 0, 1) := by decide +kernel
theorem dX0_drivenUpTo_16 : decode cX0_drivenUpTo 16 = .ok (.getfield 18, 3) := by decide +kernel
theorem dX0_drivenUpTo_19 : decode cX0_drivenUpTo 19 = .ok (.bipush 6, 2) := by decide +kernel
theorem dX0_drivenUpTo_21 : decode cX0_drivenUpTo 21 = .ok (.if_icmp .ne 10, 3) := by decide +kernel
theorem dX0_drivenUpTo_24 : decode cX0_drivenUpTo 24 = .ok (.aload_n 0, 1) := by decide +kernel
theorem dX0_drivenUpTo_25 : decode cX0_drivenUpTo 25 = .ok (.getfield 51, 3) := by decide +kernel
theorem dX0_drivenUpTo_28 : decode cX0_drivenUpTo 28 = .ok (.iload_n 2, 1) := by decide +kernel
theorem dX0_drivenUpTo_29 : decode cX0_drivenUpTo 29 = .ok (.iadd, 1) := by decide +kernel
theorem dX0_drivenUpTo_30 : decode cX0_drivenUpTo 30 = .ok (.ireturn, 1) := by decide +kernel
theorem dX0_drivenUpTo_31 : decode cX0_drivenUpTo 31 = .ok (.aload_n 0, 1) := by decide +kernel
theorem dX0_drivenUpTo_32 : decode cX0_drivenUpTo 32 = .ok (.invokevirtual 77, 3) := by decide +kernel
theorem dX0_drivenUpTo_35 : decode cX0_drivenUpTo 35 = .ok (.ifCond .eq 13, 3) := by decide +kernel
theorem dX0_drivenUpTo_38 : decode cX0_drivenUpTo 38 = .ok (.iload_n 2, 1) := by decide +kernel
theorem dX0_drivenUpTo_39 : decode cX0_drivenUpTo 39 = .ok (.bipush 30, 2) := by decide +kernel
theorem dX0_drivenUpTo_41 : decode cX0_drivenUpTo 41 = .ok (.if_icmp .lt 7, 3) := by decide +kernel
theorem dX0_drivenUpTo_44 : decode cX0_drivenUpTo 44 = .ok (.iconst 0, 1) := by decide +kernel
theorem dX0_drivenUpTo_45 : decode cX0_drivenUpTo 45 = .ok (.goto 7, 3) := by decide +kernel
theorem dX0_drivenUpTo_48 : decode cX0_drivenUpTo 48 = .ok (.aload_n 0, 1) := by decide +kernel
theorem dX0_drivenUpTo_49 : decode cX0_drivenUpTo 49 = .ok (.getfield 51, 3) := by decide +kernel
theorem dX0_drivenUpTo_52 : decode cX0_drivenUpTo 52 = .ok (.ireturn, 1) := by decide +kernel
theorem dX0_isRestful_0 : decode cX0_isRestful 0 = .ok (.aload_n 0, 1) := by decide +kernel
theorem dX0_isRestful_1 : decode cX0_isRestful 1 = .ok (.getfield 18, 3) := by decide +kernel
theorem dX0_isRestful_4 : decode cX0_isRestful 4 = .ok (.ifCond .eq 12, 3) := by decide +kernel
theorem dX0_isRestful_7 : decode cX0_isRestful 7 = .ok (.aload_n 0, 1) := by decide +kernel
theorem dX0_isRestful_8 : decode cX0_isRestful 8 = .ok (.getfield 18, 3) := by decide +kernel
theorem dX0_isRestful_11 : decode cX0_isRestful 11 = .ok (.bipush 7, 2) := by decide +kernel
theorem dX0_isRestful_13 : decode cX0_isRestful 13 = .ok (.if_icmp .lt 7, 3) := by decide +kernel
theorem dX0_isRestful_16 : decode cX0_isRestful 16 = .ok (.iconst 1, 1) := by decide +kernel
theorem dX0_isRestful_17 : decode cX0_isRestful 17 = .ok (.goto 4, 3) := by decide +kernel
theorem dX0_isRestful_20 : decode cX0_isRestful 20 = .ok (.iconst 0, 1) := by decide +kernel
theorem dX0_isRestful_21 : decode cX0_isRestful 21 = .ok (.ireturn, 1) := by decide +kernel
theorem dX0_takeStation_0 : decode cX0_takeStation 0 = .ok (.aload_n 0, 1) := by decide +kernel
theorem dX0_takeStation_1 : decode cX0_takeStation 1 = .ok (.iload_n 1, 1) := by decide +kernel
theorem dX0_takeStation_2 : decode cX0_takeStation 2 = .ok (.putfield 24, 3) := by decide +kernel
theorem dX0_takeStation_5 : decode cX0_takeStation 5 = .ok (.aload_n 0, 1) := by decide +kernel
theorem dX0_takeStation_6 : decode cX0_takeStation 6 = .ok (.getfield 24, 3) := by decide +kernel
theorem dX0_takeStation_9 : decode cX0_takeStation 9 = .ok (.aload_n 0, 1) := by decide +kernel
theorem dX0_takeStation_10 : decode cX0_takeStation 10 = .ok (.getfield 9, 3) := by decide +kernel
theorem dX0_takeStation_13 : decode cX0_takeStation 13 = .ok (.if_icmp .ne 7, 3) := by decide +kernel
theorem dX0_takeStation_16 : decode cX0_takeStation 16 = .ok (.iconst 0, 1) := by decide +kernel
theorem dX0_takeStation_17 : decode cX0_takeStation 17 = .ok (.goto 4, 3) := by decide +kernel
theorem dX0_takeStation_20 : decode cX0_takeStation 20 = .ok (.iconst 3, 1) := by decide +kernel
theorem dX0_takeStation_21 : decode cX0_takeStation 21 = .ok (.ireturn, 1) := by decide +kernel
theorem dX0_stationNow_0 : decode cX0_stationNow 0 = .ok (.aload_n 0, 1) := by decide +kernel
theorem dX0_stationNow_1 : decode cX0_stationNow 1 = .ok (.getfield 18, 3) := by decide +kernel
theorem dX0_stationNow_4 : decode cX0_stationNow 4 = .ok (.ifCond .ne 10, 3) := by decide +kernel
theorem dX0_stationNow_7 : decode cX0_stationNow 7 = .ok (.aload_n 0, 1) := by decide +kernel
theorem dX0_stationNow_8 : decode cX0_stationNow 8 = .ok (.getfield 24, 3) := by decide +kernel
theorem dX0_stationNow_11 : decode cX0_stationNow 11 = .ok (.goto 4, 3) := by decide +kernel
theorem dX0_stationNow_14 : decode cX0_stationNow 14 = .ok (.iconst (-1), 1) := by decide +kernel
theorem dX0_stationNow_15 : decode cX0_stationNow 15 = .ok (.ireturn, 1) := by decide +kernel
theorem dX0_incidentNow_0 : decode cX0_incidentNow 0 = .ok (.aload_n 0, 1) := by decide +kernel
theorem dX0_incidentNow_1 : decode cX0_incidentNow 1 = .ok (.getfield 18, 3) := by decide +kernel
theorem dX0_incidentNow_4 : decode cX0_incidentNow 4 = .ok (.iconst 1, 1) := by decide +kernel
theorem dX0_incidentNow_5 : decode cX0_incidentNow 5 = .ok (.if_icmp .lt 18, 3) := by decide +kernel
theorem dX0_incidentNow_8 : decode cX0_incidentNow 8 = .ok (.aload_n 0, 1) := by decide +kernel
theorem dX0_incidentNow_9 : decode cX0_incidentNow 9 = .ok (.getfield 18, 3) := by decide +kernel
theorem dX0_incidentNow_12 : decode cX0_incidentNow 12 = .ok (.iconst 5, 1) := by decide +kernel
theorem dX0_incidentNow_13 : decode cX0_incidentNow 13 = .ok (.if_icmp .gt 10, 3) := by decide +kernel
theorem dX0_incidentNow_16 : decode cX0_incidentNow 16 = .ok (.aload_n 0, 1) := by decide +kernel
theorem dX0_incidentNow_17 : decode cX0_incidentNow 17 = .ok (.getfield 27, 3) := by decide +kernel
theorem dX0_incidentNow_20 : decode cX0_incidentNow 20 = .ok (.goto 4, 3) := by decide +kernel
theorem dX0_incidentNow_23 : decode cX0_incidentNow 23 = .ok (.iconst (-1), 1) := by decide +kernel
theorem dX0_incidentNow_24 : decode cX0_incidentNow 24 = .ok (.ireturn, 1) := by decide +kernel
theorem dX0_isSendable_0 : decode cX0_isSendable 0 = .ok (.aload_n 0, 1) := by decide +kernel
theorem dX0_isSendable_1 : decode cX0_isSendable 1 = .ok (.getfield 18, 3) := by decide +kernel
theorem dX0_isSendable_4 : decode cX0_isSendable 4 = .ok (.ifCond .eq 20, 3) := by decide +kernel
theorem dX0_isSendable_7 : decode cX0_isSendable 7 = .ok (.aload_n 0, 1) := by decide +kernel
theorem dX0_isSendable_8 : decode cX0_isSendable 8 = .ok (.getfield 18, 3) := by decide +kernel
theorem dX0_isSendable_11 : decode cX0_isSendable 11 = .ok (.iconst 5, 1) := by decide +kernel
theorem dX0_isSendable_12 : decode cX0_isSendable 12 = .ok (.if_icmp .eq 12, 3) := by decide +kernel
theorem dX0_isSendable_15 : decode cX0_isSendable 15 = .ok (.aload_n 0, 1) := by decide +kernel
theorem dX0_isSendable_16 : decode cX0_isSendable 16 = .ok (.getfield 18, 3) := by decide +kernel
theorem dX0_isSendable_19 : decode cX0_isSendable 19 = .ok (.bipush 6, 2) := by decide +kernel
theorem dX0_isSendable_21 : decode cX0_isSendable 21 = .ok (.if_icmp .ne 37, 3) := by decide +kernel
theorem dX0_isSendable_24 : decode cX0_isSendable 24 = .ok (.aload_n 0, 1) := by decide +kernel
theorem dX0_isSendable_25 : decode cX0_isSendable 25 = .ok (.getfield 30, 3) := by decide +kernel
theorem dX0_isSendable_28 : decode cX0_isSendable 28 = .ok (.aload_n 0, 1) := by decide +kernel
theorem dX0_isSendable_29 : decode cX0_isSendable 29 = .ok (.getfield 15, 3) := by decide +kernel
theorem dX0_isSendable_32 : decode cX0_isSendable 32 = .ok (.if_icmp .lt 26, 3) := by decide +kernel
theorem dX0_isSendable_35 : decode cX0_isSendable 35 = .ok (.aload_n 0, 1) := by decide +kernel
theorem dX0_isSendable_36 : decode cX0_isSendable 36 = .ok (.getfield 36, 3) := by decide +kernel
theorem dX0_isSendable_39 : decode cX0_isSendable 39 = .ok (.iconst 1, 1) := by decide +kernel
theorem dX0_isSendable_40 : decode cX0_isSendable 40 = .ok (.if_icmp .ne 18, 3) := by decide +kernel
theorem dX0_isSendable_43 : decode cX0_isSendable 43 = .ok (.aload_n 0, 1) := by decide +kernel
theorem dX0_isSendable_44 : decode cX0_isSendable 44 = .ok (.iload_n 1, 1) := by decide +kernel
theorem dX0_isSendable_45 : decode cX0_isSendable 45 = .ok (.invokevirtual 70, 3) := by decide +kernel
theorem dX0_isSendable_48 : decode cX0_isSendable 48 = .ok (.sipush 240, 3) := by decide +kernel
theorem dX0_isSendable_51 : decode cX0_isSendable 51 = .ok (.if_icmp .ge 7, 3) := by decide +kernel
theorem dX0_isSendable_54 : decode cX0_isSendable 54 = .ok (.iconst 1, 1) := by decide +kernel
theorem dX0_isSendable_55 : decode cX0_isSendable 55 = .ok (.goto 4, 3) := by decide +kernel
theorem dX0_isSendable_58 : decode cX0_isSendable 58 = .ok (.iconst 0, 1) := by decide +kernel
theorem dX0_isSendable_59 : decode cX0_isSendable 59 = .ok (.ireturn, 1) := by decide +kernel
theorem dX0_isThereAt_0 : decode cX0_isThereAt 0 = .ok (.aload_n 0, 1) := by decide +kernel
theorem dX0_isThereAt_1 : decode cX0_isThereAt 1 = .ok (.getfield 18, 3) := by decide +kernel
theorem dX0_isThereAt_4 : decode cX0_isThereAt 4 = .ok (.iconst 3, 1) := by decide +kernel
theorem dX0_isThereAt_5 : decode cX0_isThereAt 5 = .ok (.if_icmp .lt 23, 3) := by decide +kernel
theorem dX0_isThereAt_8 : decode cX0_isThereAt 8 = .ok (.aload_n 0, 1) := by decide +kernel
theorem dX0_isThereAt_9 : decode cX0_isThereAt 9 = .ok (.getfield 18, 3) := by decide +kernel
theorem dX0_isThereAt_12 : decode cX0_isThereAt 12 = .ok (.iconst 5, 1) := by decide +kernel
theorem dX0_isThereAt_13 : decode cX0_isThereAt 13 = .ok (.if_icmp .gt 15, 3) := by decide +kernel
theorem dX0_isThereAt_16 : decode cX0_isThereAt 16 = .ok (.aload_n 0, 1) := by decide +kernel
theorem dX0_isThereAt_17 : decode cX0_isThereAt 17 = .ok (.getfield 27, 3) := by decide +kernel
theorem dX0_isThereAt_20 : decode cX0_isThereAt 20 = .ok (.iload_n 1, 1) := by decide +kernel
theorem dX0_isThereAt_21 : decode cX0_isThereAt 21 = .ok (.if_icmp .ne 7, 3) := by decide +kernel
theorem dX0_isThereAt_24 : decode cX0_isThereAt 24 = .ok (.iconst 1, 1) := by decide +kernel
theorem dX0_isThereAt_25 : decode cX0_isThereAt 25 = .ok (.goto 4, 3) := by decide +kernel
theorem dX0_isThereAt_28 : decode cX0_isThereAt 28 = .ok (.iconst 0, 1) := by decide +kernel
theorem dX0_isThereAt_29 : decode cX0_isThereAt 29 = .ok (.ireturn, 1) := by decide +kernel
end
section
theorem dX1_init_0 : decode cX1_init 0 = .ok (.aload_n 0, 1) := by decide +kernel
theorem dX1_init_1 : decode cX1_init 1 = .ok (.invokespecial 3, 3) := by decide +kernel
theorem dX1_init_4 : decode cX1_init 4 = .ok (.aload_n 0, 1) := by decide +kernel
theorem dX1_init_5 : decode cX1_init 5 = .ok (.bipush 30, 2) := by decide +kernel
theorem dX1_init_7 : decode cX1_init 7 = .ok (.anewarray 9, 3) := by decide +kernel
theorem dX1_init_10 : decode cX1_init 10 = .ok (.putfield 11, 3) := by decide +kernel
theorem dX1_init_13 : decode cX1_init 13 = .ok (.aload_n 0, 1) := by decide +kernel
theorem dX1_init_14 : decode cX1_init 14 = .ok (.sipush 200, 3) := by decide +kernel
theorem dX1_init_17 : decode cX1_init 17 = .ok (.newarray .int, 2) := by decide +kernel
theorem dX1_init_19 : decode cX1_init 19 = .ok (.putfield 15, 3) := by decide +kernel
theorem dX1_init_22 : decode cX1_init 22 = .ok (.aload_n 0, 1) := by decide +kernel
theorem dX1_init_23 : decode cX1_init 23 = .ok (.sipush 200, 3) := by decide +kernel
theorem dX1_init_26 : decode cX1_init 26 = .ok (.newarray .int, 2) := by decide +kernel
theorem dX1_init_28 : decode cX1_init 28 = .ok (.putfield 19, 3) := by decide +kernel
theorem dX1_init_31 : decode cX1_init 31 = .ok (.aload_n 0, 1) := by decide +kernel
theorem dX1_init_32 : decode cX1_init 32 = .ok (.sipush 200, 3) := by decide +kernel
theorem dX1_init_35 : decode cX1_init 35 = .ok (.newarray .int, 2) := by decide +kernel
theorem dX1_init_37 : decode cX1_init 37 = .ok (.putfield 22, 3) := by decide +kernel
theorem dX1_init_40 : decode cX1_init 40 = .ok (.aload_n 0, 1) := by decide +kernel
theorem dX1_init_41 : decode cX1_init 41 = .ok (.sipush 200, 3) := by decide +kernel
theorem dX1_init_44 : decode cX1_init 44 = .ok (.newarray .int, 2) := by decide +kernel
theorem dX1_init_46 : decode cX1_init 46 = .ok (.putfield 25, 3) := by decide +kernel
theorem dX1_init_49 : decode cX1_init 49 = .ok (.aload_n 0, 1) := by decide +kernel
theorem dX1_init_50 : decode cX1_init 50 = .ok (.sipush 200, 3) := by decide +kernel
theorem dX1_init_53 : decode cX1_init 53 = .ok (.newarray .int, 2) := by decide +kernel
theorem dX1_init_55 : decode cX1_init 55 = .ok (.putfield 28, 3) := by decide +kernel
theorem dX1_init_58 : decode cX1_init 58 = .ok (.aload_n 0, 1) := by decide +kernel
theorem dX1_init_59 : decode cX1_init 59 = .ok (.sipush 200, 3) := by decide +kernel
theorem dX1_init_62 : decode cX1_init 62 = .ok (.newarray .int, 2) := by decide +kernel
theorem dX1_init_64 : decode cX1_init 64 = .ok (.putfield 31, 3) := by decide +kernel
theorem dX1_init_67 : decode cX1_init 67 = .ok (.iconst 0, 1) := by decide +kernel
theorem dX1_init_68 : decode cX1_init 68 = .ok (.istore_n 1, 1) := by decide +kernel
theorem dX1_init_69 : decode cX1_init 69 = .ok (.iload_n 1, 1) := by decide +kernel
theorem dX1_init_70 : decode cX1_init 70 = .ok (.bipush 30, 2) := by decide +kernel
theorem dX1_init_72 : decode cX1_init 72 = .ok (.if_icmp .ge 22, 3) := by decide +kernel
theorem dX1_init_75 : decode cX1_init 75 = .ok (.aload_n 0, 1) := by decide +kernel
theorem dX1_init_76 : decode cX1_init 76 = .ok (.getfield 11, 3) := by decide +kernel
theorem dX1_init_79 : decode cX1_init 79 = .ok (.iload_n 1, 1) := by decide +kernel
theorem dX1_init_80 : decode cX1_init 80 = .ok (.new 9, 3) := by decide +kernel
theorem dX1_init_83 : decode cX1_init 83 = .ok (.dup, 1) := by decide +kernel
theorem dX1_init_84 : decode cX1_init 84 = .ok (.invokespecial 34, 3) := by decide +kernel
theorem dX1_init_87 : decode cX1_init 87 = .ok (.aastore, 1) := by decide +kernel
theorem dX1_init_88 : decode cX1_init 88 = .ok (.iinc 1 1, 3) := by decide +kernel
theorem dX1_init_91 : decode cX1_init 91 = .ok (.goto (-22), 3) := by decide +kernel
theorem dX1_init_94 : decode cX1_init 94 = .ok (.return_, 1) := by decide +kernel
theorem dX1_unit_0 : decode cX1_unit 0 = .ok (.iload_n 1, 1) := by decide +kernel
theorem dX1_unit_1 : decode cX1_unit 1 = .ok (.bipush 9, 2) := by decide +kernel
theorem dX1_unit_3 : decode cX1_unit 3 = .ok (.invokestatic 35, 3) := by decide +kernel
theorem dX1_unit_6 : decode cX1_unit 6 = .ok (.ifCond .ne 13, 3) := by decide +kernel
theorem dX1_unit_9 : decode cX1_unit 9 = .ok (.new 39, 3) := by decide +kernel
theorem dX1_unit_12 : decode cX1_unit 12 = .ok (.dup, 1) := by decide +kernel
theorem dX1_unit_13 : decode cX1_unit 13 = .ok (.ldc 41, 2) := by decide +kernel
theorem dX1_unit_15 : decode cX1_unit 15 = .ok (.invokespecial 43, 3) := by decide +kernel
theorem dX1_unit_18 : decode cX1_unit 18 = .ok (.athrow, 1) := by decide +kernel
theorem dX1_unit_19 : decode cX1_unit 19 = .ok (.iload_n 2, 1) := by decide +kernel
theorem dX1_unit_20 : decode cX1_unit 20 = .ok (.bipush 9, 2) := by decide +kernel
theorem dX1_unit_22 : decode cX1_unit 22 = .ok (.invokestatic 35, 3) := by decide +kernel
theorem dX1_unit_25 : decode cX1_unit 25 = .ok (.ifCond .ne 13, 3) := by decide +kernel
theorem dX1_unit_28 : decode cX1_unit 28 = .ok (.new 39, 3) := by decide +kernel
theorem dX1_unit_31 : decode cX1_unit 31 = .ok (.dup, 1) := by decide +kernel
theorem dX1_unit_32 : decode cX1_unit 32 = .ok (.ldc 46, 2) := by decide +kernel
theorem dX1_unit_34 : decode cX1_unit 34 = .ok (.invokespecial 43, 3) := by decide +kernel
theorem dX1_unit_37 : decode cX1_unit 37 = .ok (.athrow, 1) := by decide +kernel
theorem dX1_unit_38 : decode cX1_unit 38 = .ok (.aload_n 0, 1) := by decide +kernel
theorem dX1_unit_39 : decode cX1_unit 39 = .ok (.getfield 48, 3) := by decide +kernel
theorem dX1_unit_42 : decode cX1_unit 42 = .ok (.bipush 30, 2) := by decide +kernel
theorem dX1_unit_44 : decode cX1_unit 44 = .ok (.if_icmp .lt 13, 3) := by decide +kernel
theorem dX1_unit_47 : decode cX1_unit 47 = .ok (.new 52, 3) := by decide +kernel
theorem dX1_unit_50 : decode cX1_unit 50 = .ok (.dup, 1) := by decide +kernel
theorem dX1_unit_51 : decode cX1_unit 51 = .ok (.ldc 54, 2) := by decide +kernel
theorem dX1_unit_53 : decode cX1_unit 53 = .ok (.invokespecial 56, 3) := by decide +kernel
theorem dX1_unit_56 : decode cX1_unit 56 = .ok (.athrow, 1) := by decide +kernel
theorem dX1_unit_57 : decode cX1_unit 57 = .ok (.aload_n 0, 1) := by decide +kernel
theorem dX1_unit_58 : decode cX1_unit 58 = .ok (.getfield 11, 3) := by decide +kernel
theorem dX1_unit_61 : decode cX1_unit 61 = .ok (.aload_n 0, 1) := by decide +kernel
theorem dX1_unit_62 : decode cX1_unit 62 = .ok (.getfield 48, 3) := by decide +kernel
theorem dX1_unit_65 : decode cX1_unit 65 = .ok (.aaload, 1) := by decide +kernel
theorem dX1_unit_66 : decode cX1_unit 66 = .ok (.iload_n 1, 1) := by decide +kernel
theorem dX1_unit_67 : decode cX1_unit 67 = .ok (.iload_n 2, 1) := by decide +kernel
theorem dX1_unit_68 : decode cX1_unit 68 = .ok (.invokevirtual 57, 3) := by decide +kernel
theorem dX1_unit_71 : decode cX1_unit 71 = .ok (.aload_n 0, 1) := by decide +kernel
theorem dX1_unit_72 : decode cX1_unit 72 = .ok (.dup, 1) := by decide +kernel
theorem dX1_unit_73 : decode cX1_unit 73 = .ok (.getfield 48, 3) := by decide +kernel
theorem dX1_unit_76 : decode cX1_unit 76 = .ok (.dup_x1, 1) := by decide +kernel
theorem dX1_unit_77 : decode cX1_unit 77 = .ok (.iconst 1, 1) := by decide +kernel
theorem dX1_unit_78 : decode cX1_unit 78 = .ok (.iadd, 1) := by decide +kernel
theorem dX1_unit_79 : decode cX1_unit 79 = .ok (.putfield 48, 3) := by decide +kernel
theorem dX1_unit_82 : decode cX1_unit 82 = .ok (.ireturn, 1) := by decide +kernel
theorem dX1_isWithin_0 : decode cX1_isWithin 0 = .ok (.iload_n 0, 1) := by decide +kernel
theorem dX1_isWithin_1 : decode cX1_isWithin 1 = .ok (.ifCond .lt 12, 3) := by decide +kernel
theorem dX1_isWithin_4 : decode cX1_isWithin 4 = .ok (.iload_n 0, 1) := by decide +kernel
theorem dX1_isWithin_5 : decode cX1_isWithin 5 = .ok (.iload_n 1, 1) := by decide +kernel
theorem dX1_isWithin_6 : decode cX1_isWithin 6 = .ok (.if_icmp .gt 7, 3) := by decide +kernel
theorem dX1_isWithin_9 : decode cX1_isWithin 9 = .ok (.iconst 1, 1) := by decide +kernel
theorem dX1_isWithin_10 : decode cX1_isWithin 10 = .ok (.goto 4, 3) := by decide +kernel
theorem dX1_isWithin_13 : decode cX1_isWithin 13 = .ok (.iconst 0, 1) := by decide +kernel
theorem dX1_isWithin_14 : decode cX1_isWithin 14 = .ok (.ireturn, 1) := by decide +kernel
theorem dX1_message_0 : decode cX1_message 0 = .ok (.aload_n 0, 1) := by decide +kernel
theorem dX1_message_1 : decode cX1_message 1 = .ok (.iload_n 1, 1) := by decide +kernel
theorem dX1_message_2 : decode cX1_message 2 = .ok (.invokevirtual 61, 3) := by decide +kernel
theorem dX1_message_5 : decode cX1_message 5 = .ok (.ifCond .ne 23, 3) := by decide +kernel
theorem dX1_message_8 : decode cX1_message 8 = .ok (.aload_n 0, 1) := by decide +kernel
theorem dX1_message_9 : decode cX1_message 9 = .ok (.dup, 1) := by decide +kernel
theorem dX1_message_10 : decode cX1_message 10 = .ok (.getfield 65, 3) := by decide +kernel
theorem dX1_message_13 : decode cX1_message 13 = .ok (.iconst 1, 1) := by decide +kernel
theorem dX1_message_14 : decode cX1_message 14 = .ok (.iadd, 1) := by decide +kernel
theorem dX1_message_15 : decode cX1_message 15 = .ok (.putfield 65, 3) := by decide +kernel
theorem dX1_message_18 : decode cX1_message 18 = .ok (.new 68, 3) := by decide +kernel
theorem dX1_message_21 : decode cX1_message 21 = .ok (.dup, 1) := by decide +kernel
theorem dX1_message_22 : decode cX1_message 22 = .ok (.ldc 70, 2) := by decide +kernel
theorem dX1_message_24 : decode cX1_message 24 = .ok (.invokespecial 72, 3) := by decide +kernel
theorem dX1_message_27 : decode cX1_message 27 = .ok (.athrow, 1) := by decide +kernel
theorem dX1_message_28 : decode cX1_message 28 = .ok (.iload_n 3, 1) := by decide +kernel
theorem dX1_message_29 : decode cX1_message 29 = .ok (.bipush 15, 2) := by decide +kernel
theorem dX1_message_31 : decode cX1_message 31 = .ok (.invokestatic 35, 3) := by decide +kernel
theorem dX1_message_34 : decode cX1_message 34 = .ok (.ifCond .ne 13, 3) := by decide +kernel
theorem dX1_message_37 : decode cX1_message 37 = .ok (.new 68, 3) := by decide +kernel
theorem dX1_message_40 : decode cX1_message 40 = .ok (.dup, 1) := by decide +kernel
theorem dX1_message_41 : decode cX1_message 41 = .ok (.ldc 73, 2) := by decide +kernel
theorem dX1_message_43 : decode cX1_message 43 = .ok (.invokespecial 72, 3) := by decide +kernel
theorem dX1_message_46 : decode cX1_message 46 = .ok (.athrow, 1) := by decide +kernel
theorem dX1_message_47 : decode cX1_message 47 = .ok (.iload_n 2, 1) := by decide +kernel
theorem dX1_message_48 : decode cX1_message 48 = .ok (.invokestatic 75, 3) := by decide +kernel
theorem dX1_message_51 : decode cX1_message 51 = .ok (.iload_n 3, 1) := by decide +kernel
theorem dX1_message_52 : decode cX1_message 52 = .ok (.iload 4, 2) := by decide +kernel
theorem dX1_message_54 : decode cX1_message 54 = .ok (.invokestatic 79, 3) := by decide +kernel
theorem dX1_message_57 : decode cX1_message 57 = .ok (.ifCond .ne 13, 3) := by decide +kernel
theorem dX1_message_60 : decode cX1_message 60 = .ok (.new 39, 3) := by decide +kernel
theorem dX1_message_63 : decode cX1_message 63 = .ok (.dup, 1) := by decide +kernel
theorem dX1_message_64 : decode cX1_message 64 = .ok (.ldc 82, 2) := by decide +kernel
theorem dX1_message_66 : decode cX1_message 66 = .ok (.invokespecial 43, 3) := by decide +kernel
theorem dX1_message_69 : decode cX1_message 69 = .ok (.athrow, 1) := by decide +kernel
theorem dX1_message_70 : decode cX1_message 70 = .ok (.aload_n 0, 1) := by decide +kernel
theorem dX1_message_71 : decode cX1_message 71 = .ok (.getfield 84, 3) := by decide +kernel
theorem dX1_message_74 : decode cX1_message 74 = .ok (.sipush 200, 3) := by decide +kernel
theorem dX1_message_77 : decode cX1_message 77 = .ok (.if_icmp .lt 13, 3) := by decide +kernel
theorem dX1_message_80 : decode cX1_message 80 = .ok (.new 52, 3) := by decide +kernel
theorem dX1_message_83 : decode cX1_message 83 = .ok (.dup, 1) := by decide +kernel
theorem dX1_message_84 : decode cX1_message 84 = .ok (.ldc 87, 2) := by decide +kernel
theorem dX1_message_86 : decode cX1_message 86 = .ok (.invokespecial 56, 3) := by decide +kernel
theorem dX1_message_89 : decode cX1_message 89 = .ok (.athrow, 1) := by decide +kernel
theorem dX1_message_90 : decode cX1_message 90 = .ok (.aload_n 0, 1) := by decide +kernel
theorem dX1_message_91 : decode cX1_message 91 = .ok (.getfield 15, 3) := by decide +kernel
theorem dX1_message_94 : decode cX1_message 94 = .ok (.aload_n 0, 1) := by decide +kernel
theorem dX1_message_95 : decode cX1_message 95 = .ok (.getfield 84, 3) := by decide +kernel
theorem dX1_message_98 : decode cX1_message 98 = .ok (.iload_n 1, 1) := by decide +kernel
theorem dX1_message_99 : decode cX1_message 99 = .ok (.iastore, 1) := by decide +kernel
theorem dX1_message_100 : decode cX1_message 100 = .ok (.aload_n 0, 1) := by decide +kernel
theorem dX1_message_101 : decode cX1_message 101 = .ok (.getfield 19, 3) := by decide +kernel
theorem dX1_message_104 : decode cX1_message 104 = .ok (.aload_n 0, 1) := by decide +kernel
theorem dX1_message_105 : decode cX1_message 105 = .ok (.getfield 84, 3) := by decide +kernel
theorem dX1_message_108 : decode cX1_message 108 = .ok (.iload_n 2, 1) := by decide +kernel
theorem dX1_message_109 : decode cX1_message 109 = .ok (.iastore, 1) := by decide +kernel
theorem dX1_message_110 : decode cX1_message 110 = .ok (.aload_n 0, 1) := by decide +kernel
theorem dX1_message_111 : decode cX1_message 111 = .ok (.getfield 22, 3) := by decide +kernel
theorem dX1_message_114 : decode cX1_message 114 = .ok (.aload_n 0, 1) := by decide +kernel
theorem dX1_message_115 : decode cX1_message 115 = .ok (.getfield 84, 3) := by decide +kernel
theorem dX1_message_118 : decode cX1_message 118 = .ok (.iload_n 3, 1) := by decide +kernel
theorem dX1_message_119 : decode cX1_message 119 = .ok (.iastore, 1) := by decide +kernel
theorem dX1_message_120 : decode cX1_message 120 = .ok (.aload_n 0, 1) := by decide +kernel
theorem dX1_message_121 : decode cX1_message 121 = .ok (.getfield 25, 3) := by decide +kernel
theorem dX1_message_124 : decode cX1_message 124 = .ok (.aload_n 0, 1) := by decide +kernel
theorem dX1_message_125 : decode cX1_message 125 = .ok (.getfield 84, 3) := by decide +kernel
theorem dX1_message_128 : decode cX1_message 128 = .ok (.iload 4, 2) := by decide +kernel
theorem dX1_message_130 : decode cX1_message 130 = .ok (.iastore, 1) := by decide +kernel
theorem dX1_message_131 : decode cX1_message 131 = .ok (.aload_n 0, 1) := by decide +kernel
theorem dX1_message_132 : decode cX1_message 132 = .ok (.aload_n 0, 1) := by decide +kernel
theorem dX1_message_133 : decode cX1_message 133 = .ok (.getfield 84, 3) := by decide +kernel
theorem dX1_message_136 : decode cX1_message 136 = .ok (.iload_n 2, 1) := by decide +kernel
theorem dX1_message_137 : decode cX1_message 137 = .ok (.invokevirtual 89, 3) := by decide +kernel
theorem dX1_message_140 : decode cX1_message 140 = .ok (.aload_n 0, 1) := by decide +kernel
theorem dX1_message_141 : decode cX1_message 141 = .ok (.dup, 1) := by decide +kernel
theorem dX1_message_142 : decode cX1_message 142 = .ok (.getfield 84, 3) := by decide +kernel
theorem dX1_message_145 : decode cX1_message 145 = .ok (.dup_x1, 1) := by decide +kernel
theorem dX1_message_146 : decode cX1_message 146 = .ok (.iconst 1, 1) := by decide +kernel
theorem dX1_message_147 : decode cX1_message 147 = .ok (.iadd, 1) := by decide +kernel
theorem dX1_message_148 : decode cX1_message 148 = .ok (.putfield 84, 3) := by decide +kernel
theorem dX1_message_151 : decode cX1_message 151 = .ok (.ireturn, 1) := by decide +kernel
theorem dX1_isUnit_0 : decode cX1_isUnit 0 = .ok (.iload_n 1, 1) := by decide +kernel
theorem dX1_isUnit_1 : decode cX1_isUnit 1 = .ok (.ifCond .lt 15, 3) := by decide +kernel
theorem dX1_isUnit_4 : decode cX1_isUnit 4 = .ok (.iload_n 1, 1) := by decide +kernel
theorem dX1_isUnit_5 : decode cX1_isUnit 5 = .ok (.aload_n 0, 1) := by decide +kernel
theorem dX1_isUnit_6 : decode cX1_isUnit 6 = .ok (.getfield 48, 3) := by decide +kernel
theorem dX1_isUnit_9 : decode cX1_isUnit 9 = .ok (.if_icmp .ge 7, 3) := by decide +kernel
theorem dX1_isUnit_12 : decode cX1_isUnit 12 = .ok (.iconst 1, 1) := by decide +kernel
theorem dX1_isUnit_13 : decode cX1_isUnit 13 = .ok (.goto 4, 3) := by decide +kernel
theorem dX1_isUnit_16 : decode cX1_isUnit 16 = .ok (.iconst 0, 1) := by decide +kernel
theorem dX1_isUnit_17 : decode cX1_isUnit 17 = .ok (.ireturn, 1) := by decide +kernel
theorem dX1_refuseOutsideMinutes_0 : decode cX1_refuseOutsideMinutes 0 = .ok (.iload_n 0, 1) := by decide +kernel
theorem dX1_refuseOutsideMinutes_1 : decode cX1_refuseOutsideMinutes 1 = .ok (.ldc 148, 2) := by decide +kernel
theorem dX1_refuseOutsideMinutes_3 : decode cX1_refuseOutsideMinutes 3 = .ok (.invokestatic 35, 3) := by decide +kernel
theorem dX1_refuseOutsideMinutes_6 : decode cX1_refuseOutsideMinutes 6 = .ok (.ifCond .ne 13, 3) := by decide +kernel
theorem dX1_refuseOutsideMinutes_9 : decode cX1_refuseOutsideMinutes 9 = .ok (.new 39, 3) := by decide +kernel
theorem dX1_refuseOutsideMinutes_12 : decode cX1_refuseOutsideMinutes 12 = .ok (.dup, 1) := by decide +kernel
theorem dX1_refuseOutsideMinutes_13 : decode cX1_refuseOutsideMinutes 13 = .ok (.ldc 162, 2) := by decide +kernel
theorem dX1_refuseOutsideMinutes_15 : decode cX1_refuseOutsideMinutes 15 = .ok (.invokespecial 43, 3) := by decide +kernel
theorem dX1_refuseOutsideMinutes_18 : decode cX1_refuseOutsideMinutes 18 = .ok (.athrow, 1) := by decide +kernel
theorem dX1_refuseOutsideMinutes_19 : decode cX1_refuseOutsideMinutes 19 = .ok (.return_, 1) := by decide +kernel
theorem dX1_isValueOf_0 : decode cX1_isValueOf 0 = .ok (.iload_n 0, 1) := by decide +kernel
theorem dX1_isValueOf_1 : decode cX1_isValueOf 1 = .ok (.tableswitch 129 0 15 #[79, 86, 129, 129, 129, 129, 129, 129, 129, 129, 129, 93, 100, 107, 115, 121], 79) := by decide +kernel
theorem dX1_isValueOf_80 : decode cX1_isValueOf 80 = .ok (.iload_n 1, 1) := by decide +kernel
theorem dX1_isValueOf_81 : decode cX1_isValueOf 81 = .ok (.bipush 9, 2) := by decide +kernel
theorem dX1_isValueOf_83 : decode cX1_isValueOf 83 = .ok (.invokestatic 35, 3) := by decide +kernel
theorem dX1_isValueOf_86 : decode cX1_isValueOf 86 = .ok (.ireturn, 1) := by decide +kernel
theorem dX1_isValueOf_87 : decode cX1_isValueOf 87 = .ok (.iload_n 1, 1) := by decide +kernel
theorem dX1_isValueOf_88 : decode cX1_isValueOf 88 = .ok (.bipush 19, 2) := by decide +kernel
theorem dX1_isValueOf_90 : decode cX1_isValueOf 90 = .ok (.invokestatic 35, 3) := by decide +kernel
theorem dX1_isValueOf_93 : decode cX1_isValueOf 93 = .ok (.ireturn, 1) := by decide +kernel
theorem dX1_isValueOf_94 : decode cX1_isValueOf 94 = .ok (.iload_n 1, 1) := by decide +kernel
theorem dX1_isValueOf_95 : decode cX1_isValueOf 95 = .ok (.ldc 161, 2) := by decide +kernel
theorem dX1_isValueOf_97 : decode cX1_isValueOf 97 = .ok (.invokestatic 35, 3) := by decide +kernel
theorem dX1_isValueOf_100 : decode cX1_isValueOf 100 = .ok (.ireturn, 1) := by decide +kernel
theorem dX1_isValueOf_101 : decode cX1_isValueOf 101 = .ok (.iload_n 1, 1) := by decide +kernel
theorem dX1_isValueOf_102 : decode cX1_isValueOf 102 = .ok (.bipush 9, 2) := by decide +kernel
theorem dX1_isValueOf_104 : decode cX1_isValueOf 104 = .ok (.invokestatic 35, 3) := by decide +kernel
theorem dX1_isValueOf_107 : decode cX1_isValueOf 107 = .ok (.ireturn, 1) := by decide +kernel
theorem dX1_isValueOf_108 : decode cX1_isValueOf 108 = .ok (.iload_n 1, 1) := by decide +kernel
theorem dX1_isValueOf_109 : decode cX1_isValueOf 109 = .ok (.sipush 255, 3) := by decide +kernel
theorem dX1_isValueOf_112 : decode cX1_isValueOf 112 = .ok (.invokestatic 35, 3) := by decide +kernel
theorem dX1_isValueOf_115 : decode cX1_isValueOf 115 = .ok (.ireturn, 1) := by decide +kernel
theorem dX1_isValueOf_116 : decode cX1_isValueOf 116 = .ok (.iload_n 1, 1) := by decide +kernel
theorem dX1_isValueOf_117 : decode cX1_isValueOf 117 = .ok (.iconst 1, 1) := by decide +kernel
theorem dX1_isValueOf_118 : decode cX1_isValueOf 118 = .ok (.invokestatic 35, 3) := by decide +kernel
theorem dX1_isValueOf_121 : decode cX1_isValueOf 121 = .ok (.ireturn, 1) := by decide +kernel
theorem dX1_isValueOf_122 : decode cX1_isValueOf 122 = .ok (.iload_n 1, 1) := by decide +kernel
theorem dX1_isValueOf_123 : decode cX1_isValueOf 123 = .ok (.sipush 999, 3) := by decide +kernel
theorem dX1_isValueOf_126 : decode cX1_isValueOf 126 = .ok (.invokestatic 35, 3) := by decide +kernel
theorem dX1_isValueOf_129 : decode cX1_isValueOf 129 = .ok (.ireturn, 1) := by decide +kernel
theorem dX1_isValueOf_130 : decode cX1_isValueOf 130 = .ok (.iconst 1, 1) := by decide +kernel
theorem dX1_isValueOf_131 : decode cX1_isValueOf 131 = .ok (.ireturn, 1) := by decide +kernel
theorem dX1_putInOrder_0 : decode cX1_putInOrder 0 = .ok (.aload_n 0, 1) := by decide +kernel
theorem dX1_putInOrder_1 : decode cX1_putInOrder 1 = .ok (.getfield 84, 3) := by decide +kernel
theorem dX1_putInOrder_4 : decode cX1_putInOrder 4 = .ok (.istore_n 3, 1) := by decide +kernel
theorem dX1_putInOrder_5 : decode cX1_putInOrder 5 = .ok (.iload_n 3, 1) := by decide +kernel
theorem dX1_putInOrder_6 : decode cX1_putInOrder 6 = .ok (.ifCond .le 40, 3) := by decide +kernel
theorem dX1_putInOrder_9 : decode cX1_putInOrder 9 = .ok (.aload_n 0, 1) := by decide +kernel
theorem dX1_putInOrder_10 : decode cX1_putInOrder 10 = .ok (.getfield 19, 3) := by decide +kernel
theorem dX1_putInOrder_13 : decode cX1_putInOrder 13 = .ok (.aload_n 0, 1) := by decide +kernel
theorem dX1_putInOrder_14 : decode cX1_putInOrder 14 = .ok (.getfield 31, 3) := by decide +kernel
theorem dX1_putInOrder_17 : decode cX1_putInOrder 17 = .ok (.iload_n 3, 1) := by decide +kernel
theorem dX1_putInOrder_18 : decode cX1_putInOrder 18 = .ok (.iconst 1, 1) := by decide +kernel
theorem dX1_putInOrder_19 : decode cX1_putInOrder 19 = .ok (.isub, 1) := by decide +kernel
theorem dX1_putInOrder_20 : decode cX1_putInOrder 20 = .ok (.iaload, 1) := by decide +kernel
theorem dX1_putInOrder_21 : decode cX1_putInOrder 21 = .ok (.iaload, 1) := by decide +kernel
theorem dX1_putInOrder_22 : decode cX1_putInOrder 22 = .ok (.iload_n 2, 1) := by decide +kernel
theorem dX1_putInOrder_23 : decode cX1_putInOrder 23 = .ok (.if_icmp .le 23, 3) := by decide +kernel
theorem dX1_putInOrder_26 : decode cX1_putInOrder 26 = .ok (.aload_n 0, 1) := by decide +kernel
theorem dX1_putInOrder_27 : decode cX1_putInOrder 27 = .ok (.getfield 31, 3) := by decide +kernel
theorem dX1_putInOrder_30 : decode cX1_putInOrder 30 = .ok (.iload_n 3, 1) := by decide +kernel
theorem dX1_putInOrder_31 : decode cX1_putInOrder 31 = .ok (.aload_n 0, 1) := by decide +kernel
theorem dX1_putInOrder_32 : decode cX1_putInOrder 32 = .ok (.getfield 31, 3) := by decide +kernel
theorem dX1_putInOrder_35 : decode cX1_putInOrder 35 = .ok (.iload_n 3, 1) := by decide +kernel
theorem dX1_putInOrder_36 : decode cX1_putInOrder 36 = .ok (.iconst 1, 1) := by decide +kernel
theorem dX1_putInOrder_37 : decode cX1_putInOrder 37 = .ok (.isub, 1) := by decide +kernel
theorem dX1_putInOrder_38 : decode cX1_putInOrder 38 = .ok (.iaload, 1) := by decide +kernel
theorem dX1_putInOrder_39 : decode cX1_putInOrder 39 = .ok (.iastore, 1) := by decide +kernel
theorem dX1_putInOrder_40 : decode cX1_putInOrder 40 = .ok (.iinc 3 (-1), 3) := by decide +kernel
theorem dX1_putInOrder_43 : decode cX1_putInOrder 43 = .ok (.goto (-38), 3) := by decide +kernel
theorem dX1_putInOrder_46 : decode cX1_putInOrder 46 = .ok (.aload_n 0, 1) := by decide +kernel
theorem dX1_putInOrder_47 : decode cX1_putInOrder 47 = .ok (.getfield 31, 3) := by decide +kernel
theorem dX1_putInOrder_50 : decode cX1_putInOrder 50 = .ok (.iload_n 3, 1) := by decide +kernel
theorem dX1_putInOrder_51 : decode cX1_putInOrder 51 = .ok (.iload_n 1, 1) := by decide +kernel
theorem dX1_putInOrder_52 : decode cX1_putInOrder 52 = .ok (.iastore, 1) := by decide +kernel
theorem dX1_putInOrder_53 : decode cX1_putInOrder 53 = .ok (.return_, 1) := by decide +kernel
theorem dX1_at_0 : decode cX1_at 0 = .ok (.aload_n 0, 1) := by decide +kernel
theorem dX1_at_1 : decode cX1_at 1 = .ok (.iload_n 1, 1) := by decide +kernel
theorem dX1_at_2 : decode cX1_at 2 = .ok (.invokevirtual 92, 3) := by decide +kernel
theorem dX1_at_5 : decode cX1_at 5 = .ok (.iload_n 3, 1) := by decide +kernel
theorem dX1_at_6 : decode cX1_at 6 = .ok (.bipush 9, 2) := by decide +kernel
theorem dX1_at_8 : decode cX1_at 8 = .ok (.invokestatic 35, 3) := by decide +kernel
theorem dX1_at_11 : decode cX1_at 11 = .ok (.ifCond .ne 13, 3) := by decide +kernel
theorem dX1_at_14 : decode cX1_at 14 = .ok (.new 68, 3) := by decide +kernel
theorem dX1_at_17 : decode cX1_at 17 = .ok (.dup, 1) := by decide +kernel
theorem dX1_at_18 : decode cX1_at 18 = .ok (.ldc 95, 2) := by decide +kernel
theorem dX1_at_20 : decode cX1_at 20 = .ok (.invokespecial 72, 3) := by decide +kernel
theorem dX1_at_23 : decode cX1_at 23 = .ok (.athrow, 1) := by decide +kernel
theorem dX1_at_24 : decode cX1_at 24 = .ok (.iload_n 2, 1) := by decide +kernel
theorem dX1_at_25 : decode cX1_at 25 = .ok (.invokestatic 75, 3) := by decide +kernel
theorem dX1_at_28 : decode cX1_at 28 = .ok (.aload_n 0, 1) := by decide +kernel
theorem dX1_at_29 : decode cX1_at 29 = .ok (.iload_n 2, 1) := by decide +kernel
theorem dX1_at_30 : decode cX1_at 30 = .ok (.invokevirtual 97, 3) := by decide +kernel
theorem dX1_at_33 : decode cX1_at 33 = .ok (.aload_n 0, 1) := by decide +kernel
theorem dX1_at_34 : decode cX1_at 34 = .ok (.getfield 11, 3) := by decide +kernel
theorem dX1_at_37 : decode cX1_at 37 = .ok (.iload_n 1, 1) := by decide +kernel
theorem dX1_at_38 : decode cX1_at 38 = .ok (.aaload, 1) := by decide +kernel
theorem dX1_at_39 : decode cX1_at 39 = .ok (.astore 4, 2) := by decide +kernel
theorem dX1_at_41 : decode cX1_at 41 = .ok (.iload_n 3, 1) := by decide +kernel
theorem dX1_at_42 : decode cX1_at 42 = .ok (.tableswitch 114 0 8 #[50, 56, 62, 68, 74, 80, 86, 92, 99], 50) := by decide +kernel
theorem dX1_at_92 : decode cX1_at 92 = .ok (.aload 4, 2) := by decide +kernel
theorem dX1_at_94 : decode cX1_at 94 = .ok (.getfield 100, 3) := by decide +kernel
theorem dX1_at_97 : decode cX1_at 97 = .ok (.ireturn, 1) := by decide +kernel
theorem dX1_at_98 : decode cX1_at 98 = .ok (.aload 4, 2) := by decide +kernel
theorem dX1_at_100 : decode cX1_at 100 = .ok (.getfield 103, 3) := by decide +kernel
theorem dX1_at_103 : decode cX1_at 103 = .ok (.ireturn, 1) := by decide +kernel
theorem dX1_at_104 : decode cX1_at 104 = .ok (.aload 4, 2) := by decide +kernel
theorem dX1_at_106 : decode cX1_at 106 = .ok (.invokevirtual 106, 3) := by decide +kernel
theorem dX1_at_109 : decode cX1_at 109 = .ok (.ireturn, 1) := by decide +kernel
theorem dX1_at_110 : decode cX1_at 110 = .ok (.aload 4, 2) := by decide +kernel
theorem dX1_at_112 : decode cX1_at 112 = .ok (.invokevirtual 110, 3) := by decide +kernel
theorem dX1_at_115 : decode cX1_at 115 = .ok (.ireturn, 1) := by decide +kernel
theorem dX1_at_116 : decode cX1_at 116 = .ok (.aload 4, 2) := by decide +kernel
theorem dX1_at_118 : decode cX1_at 118 = .ok (.getfield 113, 3) := by decide +kernel
theorem dX1_at_121 : decode cX1_at 121 = .ok (.ireturn, 1) := by decide +kernel
theorem dX1_at_122 : decode cX1_at 122 = .ok (.aload 4, 2) := by decide +kernel
theorem dX1_at_124 : decode cX1_at 124 = .ok (.getfield 116, 3) := by decide +kernel
theorem dX1_at_127 : decode cX1_at 127 = .ok (.ireturn, 1) := by decide +kernel
theorem dX1_at_128 : decode cX1_at 128 = .ok (.aload 4, 2) := by decide +kernel
theorem dX1_at_130 : decode cX1_at 130 = .ok (.getfield 119, 3) := by decide +kernel
theorem dX1_at_133 : decode cX1_at 133 = .ok (.ireturn, 1) := by decide +kernel
theorem dX1_at_134 : decode cX1_at 134 = .ok (.aload 4, 2) := by decide +kernel
theorem dX1_at_136 : decode cX1_at 136 = .ok (.iload_n 2, 1) := by decide +kernel
theorem dX1_at_137 : decode cX1_at 137 = .ok (.invokevirtual 122, 3) := by decide +kernel
theorem dX1_at_140 : decode cX1_at 140 = .ok (.ireturn, 1) := by decide +kernel
theorem dX1_at_141 : decode cX1_at 141 = .ok (.aload 4, 2) := by decide +kernel
theorem dX1_at_143 : decode cX1_at 143 = .ok (.iload_n 2, 1) := by decide +kernel
theorem dX1_at_144 : decode cX1_at 144 = .ok (.invokevirtual 126, 3) := by decide +kernel
theorem dX1_at_147 : decode cX1_at 147 = .ok (.ifCond .eq 7, 3) := by decide +kernel
theorem dX1_at_150 : decode cX1_at 150 = .ok (.iconst 1, 1) := by decide +kernel
theorem dX1_at_151 : decode cX1_at 151 = .ok (.goto 4, 3) := by decide +kernel
theorem dX1_at_154 : decode cX1_at 154 = .ok (.iconst 0, 1) := by decide +kernel
theorem dX1_at_155 : decode cX1_at 155 = .ok (.ireturn, 1) := by decide +kernel
theorem dX1_at_156 : decode cX1_at 156 = .ok (.aload_n 0, 1) := by decide +kernel
theorem dX1_at_157 : decode cX1_at 157 = .ok (.aload 4, 2) := by decide +kernel
theorem dX1_at_159 : decode cX1_at 159 = .ok (.invokevirtual 129, 3) := by decide +kernel
theorem dX1_at_162 : decode cX1_at 162 = .ok (.ireturn, 1) := by decide +kernel
theorem dX1_refuseUnknownUnit_0 : decode cX1_refuseUnknownUnit 0 = .ok (.aload_n 0, 1) := by decide +kernel
theorem dX1_refuseUnknownUnit_1 : decode cX1_refuseUnknownUnit 1 = .ok (.iload_n 1, 1) := by decide +kernel
theorem dX1_refuseUnknownUnit_2 : decode cX1_refuseUnknownUnit 2 = .ok (.invokevirtual 61, 3) := by decide +kernel
theorem dX1_refuseUnknownUnit_5 : decode cX1_refuseUnknownUnit 5 = .ok (.ifCond .ne 13, 3) := by decide +kernel
theorem dX1_refuseUnknownUnit_8 : decode cX1_refuseUnknownUnit 8 = .ok (.new 68, 3) := by decide +kernel
theorem dX1_refuseUnknownUnit_11 : decode cX1_refuseUnknownUnit 11 = .ok (.dup, 1) := by decide +kernel
theorem dX1_refuseUnknownUnit_12 : decode cX1_refuseUnknownUnit 12 = .ok (.ldc 70, 2) := by decide +kernel
theorem dX1_refuseUnknownUnit_14 : decode cX1_refuseUnknownUnit 14 = .ok (.invokespecial 72, 3) := by decide +kernel
theorem dX1_refuseUnknownUnit_17 : decode cX1_refuseUnknownUnit 17 = .ok (.athrow, 1) := by decide +kernel
theorem dX1_refuseUnknownUnit_18 : decode cX1_refuseUnknownUnit 18 = .ok (.return_, 1) := by decide +kernel
theorem dX1_replay_0 : decode cX1_replay 0 = .ok (.iconst 0, 1) := by decide +kernel
theorem dX1_replay_1 : decode cX1_replay 1 = .ok (.istore_n 2, 1) := by decide +kernel
theorem dX1_replay_2 : decode cX1_replay 2 = .ok (.iload_n 2, 1) := by decide +kernel
theorem dX1_replay_3 : decode cX1_replay 3 = .ok (.aload_n 0, 1) := by decide +kernel
theorem dX1_replay_4 : decode cX1_replay 4 = .ok (.getfield 48, 3) := by decide +kernel
theorem dX1_replay_7 : decode cX1_replay 7 = .ok (.if_icmp .ge 18, 3) := by decide +kernel
theorem dX1_replay_10 : decode cX1_replay 10 = .ok (.aload_n 0, 1) := by decide +kernel
theorem dX1_replay_11 : decode cX1_replay 11 = .ok (.getfield 11, 3) := by decide +kernel
theorem dX1_replay_14 : decode cX1_replay 14 = .ok (.iload_n 2, 1) := by decide +kernel
theorem dX1_replay_15 : decode cX1_replay 15 = .ok (.aaload, 1) := by decide +kernel
theorem dX1_replay_16 : decode cX1_replay 16 = .ok (.invokevirtual 164, 3) := by decide +kernel
theorem dX1_replay_19 : decode cX1_replay 19 = .ok (.iinc 2 1, 3) := by decide +kernel
theorem dX1_replay_22 : decode cX1_replay 22 = .ok (.goto (-20), 3) := by decide +kernel
theorem dX1_replay_25 : decode cX1_replay 25 = .ok (.iconst 0, 1) := by decide +kernel
theorem dX1_replay_26 : decode cX1_replay 26 = .ok (.istore_n 2, 1) := by decide +kernel
theorem dX1_replay_27 : decode cX1_replay 27 = .ok (.iload_n 2, 1) := by decide +kernel
theorem dX1_replay_28 : decode cX1_replay 28 = .ok (.aload_n 0, 1) := by decide +kernel
theorem dX1_replay_29 : decode cX1_replay 29 = .ok (.getfield 84, 3) := by decide +kernel
theorem dX1_replay_32 : decode cX1_replay 32 = .ok (.if_icmp .ge 72, 3) := by decide +kernel
theorem dX1_replay_35 : decode cX1_replay 35 = .ok (.aload_n 0, 1) := by decide +kernel
theorem dX1_replay_36 : decode cX1_replay 36 = .ok (.getfield 31, 3) := by decide +kernel
theorem dX1_replay_39 : decode cX1_replay 39 = .ok (.iload_n 2, 1) := by decide +kernel
theorem dX1_replay_40 : decode cX1_replay 40 = .ok (.iaload, 1) := by decide +kernel
theorem dX1_replay_41 : decode cX1_replay 41 = .ok (.istore_n 3, 1) := by decide +kernel
theorem dX1_replay_42 : decode cX1_replay 42 = .ok (.aload_n 0, 1) := by decide +kernel
theorem dX1_replay_43 : decode cX1_replay 43 = .ok (.getfield 19, 3) := by decide +kernel
theorem dX1_replay_46 : decode cX1_replay 46 = .ok (.iload_n 3, 1) := by decide +kernel
theorem dX1_replay_47 : decode cX1_replay 47 = .ok (.iaload, 1) := by decide +kernel
theorem dX1_replay_48 : decode cX1_replay 48 = .ok (.iload_n 1, 1) := by decide +kernel
theorem dX1_replay_49 : decode cX1_replay 49 = .ok (.if_icmp .le 6, 3) := by decide +kernel
theorem dX1_replay_52 : decode cX1_replay 52 = .ok (.goto 52, 3) := by decide +kernel
theorem dX1_replay_55 : decode cX1_replay 55 = .ok (.aload_n 0, 1) := by decide +kernel
theorem dX1_replay_56 : decode cX1_replay 56 = .ok (.getfield 11, 3) := by decide +kernel
theorem dX1_replay_59 : decode cX1_replay 59 = .ok (.aload_n 0, 1) := by decide +kernel
theorem dX1_replay_60 : decode cX1_replay 60 = .ok (.getfield 15, 3) := by decide +kernel
theorem dX1_replay_63 : decode cX1_replay 63 = .ok (.iload_n 3, 1) := by decide +kernel
theorem dX1_replay_64 : decode cX1_replay 64 = .ok (.iaload, 1) := by decide +kernel
theorem dX1_replay_65 : decode cX1_replay 65 = .ok (.aaload, 1) := by decide +kernel
theorem dX1_replay_66 : decode cX1_replay 66 = .ok (.astore 4, 2) := by decide +kernel
theorem dX1_replay_68 : decode cX1_replay 68 = .ok (.aload_n 0, 1) := by decide +kernel
theorem dX1_replay_69 : decode cX1_replay 69 = .ok (.getfield 28, 3) := by decide +kernel
theorem dX1_replay_72 : decode cX1_replay 72 = .ok (.iload_n 3, 1) := by decide +kernel
theorem dX1_replay_73 : decode cX1_replay 73 = .ok (.aload 4, 2) := by decide +kernel
theorem dX1_replay_75 : decode cX1_replay 75 = .ok (.aload_n 0, 1) := by decide +kernel
theorem dX1_replay_76 : decode cX1_replay 76 = .ok (.getfield 22, 3) := by decide +kernel
theorem dX1_replay_79 : decode cX1_replay 79 = .ok (.iload_n 3, 1) := by decide +kernel
theorem dX1_replay_80 : decode cX1_replay 80 = .ok (.iaload, 1) := by decide +kernel
theorem dX1_replay_81 : decode cX1_replay 81 = .ok (.aload_n 0, 1) := by decide +kernel
theorem dX1_replay_82 : decode cX1_replay 82 = .ok (.getfield 25, 3) := by decide +kernel
theorem dX1_replay_85 : decode cX1_replay 85 = .ok (.iload_n 3, 1) := by decide +kernel
theorem dX1_replay_86 : decode cX1_replay 86 = .ok (.iaload, 1) := by decide +kernel
theorem dX1_replay_87 : decode cX1_replay 87 = .ok (.aload_n 0, 1) := by decide +kernel
theorem dX1_replay_88 : decode cX1_replay 88 = .ok (.getfield 19, 3) := by decide +kernel
theorem dX1_replay_91 : decode cX1_replay 91 = .ok (.iload_n 3, 1) := by decide +kernel
theorem dX1_replay_92 : decode cX1_replay 92 = .ok (.iaload, 1) := by decide +kernel
theorem dX1_replay_93 : decode cX1_replay 93 = .ok (.iload_n 2, 1) := by decide +kernel
theorem dX1_replay_94 : decode cX1_replay 94 = .ok (.invokevirtual 167, 3) := by decide +kernel
theorem dX1_replay_97 : decode cX1_replay 97 = .ok (.iastore, 1) := by decide +kernel
theorem dX1_replay_98 : decode cX1_replay 98 = .ok (.iinc 2 1, 3) := by decide +kernel
theorem dX1_replay_101 : decode cX1_replay 101 = .ok (.goto (-74), 3) := by decide +kernel
theorem dX1_replay_104 : decode cX1_replay 104 = .ok (.return_, 1) := by decide +kernel
theorem dX1_rankOf_0 : decode cX1_rankOf 0 = .ok (.aload_n 1, 1) := by decide +kernel
theorem dX1_rankOf_1 : decode cX1_rankOf 1 = .ok (.invokevirtual 110, 3) := by decide +kernel
theorem dX1_rankOf_4 : decode cX1_rankOf 4 = .ok (.istore_n 2, 1) := by decide +kernel
theorem dX1_rankOf_5 : decode cX1_rankOf 5 = .ok (.aload_n 1, 1) := by decide +kernel
theorem dX1_rankOf_6 : decode cX1_rankOf 6 = .ok (.iload_n 2, 1) := by decide +kernel
theorem dX1_rankOf_7 : decode cX1_rankOf 7 = .ok (.invokevirtual 158, 3) := by decide +kernel
theorem dX1_rankOf_10 : decode cX1_rankOf 10 = .ok (.ifCond .ne 5, 3) := by decide +kernel
theorem dX1_rankOf_13 : decode cX1_rankOf 13 = .ok (.iconst 0, 1) := by decide +kernel
theorem dX1_rankOf_14 : decode cX1_rankOf 14 = .ok (.ireturn, 1) := by decide +kernel
theorem dX1_rankOf_15 : decode cX1_rankOf 15 = .ok (.iconst 1, 1) := by decide +kernel
theorem dX1_rankOf_16 : decode cX1_rankOf 16 = .ok (.istore_n 3, 1) := by decide +kernel
theorem dX1_rankOf_17 : decode cX1_rankOf 17 = .ok (.iconst 0, 1) := by decide +kernel
theorem dX1_rankOf_18 : decode cX1_rankOf 18 = .ok (.istore 4, 2) := by decide +kernel
theorem dX1_rankOf_20 : decode cX1_rankOf 20 = .ok (.iload 4, 2) := by decide +kernel
theorem dX1_rankOf_22 : decode cX1_rankOf 22 = .ok (.aload_n 0, 1) := by decide +kernel
theorem dX1_rankOf_23 : decode cX1_rankOf 23 = .ok (.getfield 48, 3) := by decide +kernel
theorem dX1_rankOf_26 : decode cX1_rankOf 26 = .ok (.if_icmp .ge 43, 3) := by decide +kernel
theorem dX1_rankOf_29 : decode cX1_rankOf 29 = .ok (.aload_n 0, 1) := by decide +kernel
theorem dX1_rankOf_30 : decode cX1_rankOf 30 = .ok (.getfield 11, 3) := by decide +kernel
theorem dX1_rankOf_33 : decode cX1_rankOf 33 = .ok (.iload 4, 2) := by decide +kernel
theorem dX1_rankOf_35 : decode cX1_rankOf 35 = .ok (.aaload, 1) := by decide +kernel
theorem dX1_rankOf_36 : decode cX1_rankOf 36 = .ok (.iload_n 2, 1) := by decide +kernel
theorem dX1_rankOf_37 : decode cX1_rankOf 37 = .ok (.invokevirtual 158, 3) := by decide +kernel
theorem dX1_rankOf_40 : decode cX1_rankOf 40 = .ok (.ifCond .eq 23, 3) := by decide +kernel
theorem dX1_rankOf_43 : decode cX1_rankOf 43 = .ok (.aload_n 0, 1) := by decide +kernel
theorem dX1_rankOf_44 : decode cX1_rankOf 44 = .ok (.getfield 11, 3) := by decide +kernel
theorem dX1_rankOf_47 : decode cX1_rankOf 47 = .ok (.iload 4, 2) := by decide +kernel
theorem dX1_rankOf_49 : decode cX1_rankOf 49 = .ok (.aaload, 1) := by decide +kernel
theorem dX1_rankOf_50 : decode cX1_rankOf 50 = .ok (.getfield 171, 3) := by decide +kernel
theorem dX1_rankOf_53 : decode cX1_rankOf 53 = .ok (.aload_n 1, 1) := by decide +kernel
theorem dX1_rankOf_54 : decode cX1_rankOf 54 = .ok (.getfield 171, 3) := by decide +kernel
theorem dX1_rankOf_57 : decode cX1_rankOf 57 = .ok (.if_icmp .ge 6, 3) := by decide +kernel
theorem dX1_rankOf_60 : decode cX1_rankOf 60 = .ok (.iinc 3 1, 3) := by decide +kernel
theorem dX1_rankOf_63 : decode cX1_rankOf 63 = .ok (.iinc 4 1, 3) := by decide +kernel
theorem dX1_rankOf_66 : decode cX1_rankOf 66 = .ok (.goto (-46), 3) := by decide +kernel
theorem dX1_rankOf_69 : decode cX1_rankOf 69 = .ok (.iload_n 3, 1) := by decide +kernel
theorem dX1_rankOf_70 : decode cX1_rankOf 70 = .ok (.ireturn, 1) := by decide +kernel
theorem dX1_place_0 : decode cX1_place 0 = .ok (.aload_n 0, 1) := by decide +kernel
theorem dX1_place_1 : decode cX1_place 1 = .ok (.iload_n 1, 1) := by decide +kernel
theorem dX1_place_2 : decode cX1_place 2 = .ok (.iload_n 2, 1) := by decide +kernel
theorem dX1_place_3 : decode cX1_place 3 = .ok (.invokevirtual 133, 3) := by decide +kernel
theorem dX1_place_6 : decode cX1_place 6 = .ok (.getfield 137, 3) := by decide +kernel
theorem dX1_place_9 : decode cX1_place 9 = .ok (.ireturn, 1) := by decide +kernel
theorem dX1_replayedUnit_0 : decode cX1_replayedUnit 0 = .ok (.aload_n 0, 1) := by decide +kernel
theorem dX1_replayedUnit_1 : decode cX1_replayedUnit 1 = .ok (.iload_n 1, 1) := by decide +kernel
theorem dX1_replayedUnit_2 : decode cX1_replayedUnit 2 = .ok (.invokevirtual 92, 3) := by decide +kernel
theorem dX1_replayedUnit_5 : decode cX1_replayedUnit 5 = .ok (.iload_n 2, 1) := by decide +kernel
theorem dX1_replayedUnit_6 : decode cX1_replayedUnit 6 = .ok (.invokestatic 75, 3) := by decide +kernel
theorem dX1_replayedUnit_9 : decode cX1_replayedUnit 9 = .ok (.aload_n 0, 1) := by decide +kernel
theorem dX1_replayedUnit_10 : decode cX1_replayedUnit 10 = .ok (.iload_n 2, 1) := by decide +kernel
theorem dX1_replayedUnit_11 : decode cX1_replayedUnit 11 = .ok (.invokevirtual 97, 3) := by decide +kernel
theorem dX1_replayedUnit_14 : decode cX1_replayedUnit 14 = .ok (.aload_n 0, 1) := by decide +kernel
theorem dX1_replayedUnit_15 : decode cX1_replayedUnit 15 = .ok (.getfield 11, 3) := by decide +kernel
theorem dX1_replayedUnit_18 : decode cX1_replayedUnit 18 = .ok (.iload_n 1, 1) := by decide +kernel
theorem dX1_replayedUnit_19 : decode cX1_replayedUnit 19 = .ok (.aaload, 1) := by decide +kernel
theorem dX1_replayedUnit_20 : decode cX1_replayedUnit 20 = .ok (.areturn, 1) := by decide +kernel
theorem dX1_age_0 : decode cX1_age 0 = .ok (.aload_n 0, 1) := by decide +kernel
theorem dX1_age_1 : decode cX1_age 1 = .ok (.iload_n 1, 1) := by decide +kernel
theorem dX1_age_2 : decode cX1_age 2 = .ok (.iload_n 2, 1) := by decide +kernel
theorem dX1_age_3 : decode cX1_age 3 = .ok (.invokevirtual 133, 3) := by decide +kernel
theorem dX1_age_6 : decode cX1_age 6 = .ok (.astore_n 3, 1) := by decide +kernel
theorem dX1_age_7 : decode cX1_age 7 = .ok (.aload_n 3, 1) := by decide +kernel
theorem dX1_age_8 : decode cX1_age 8 = .ok (.getfield 137, 3) := by decide +kernel
theorem dX1_age_11 : decode cX1_age 11 = .ok (.iconst (-1), 1) := by decide +kernel
theorem dX1_age_12 : decode cX1_age 12 = .ok (.if_icmp .ne 7, 3) := by decide +kernel
theorem dX1_age_15 : decode cX1_age 15 = .ok (.iconst (-1), 1) := by decide +kernel
theorem dX1_age_16 : decode cX1_age 16 = .ok (.goto 9, 3) := by decide +kernel
theorem dX1_age_19 : decode cX1_age 19 = .ok (.iload_n 2, 1) := by decide +kernel
theorem dX1_age_20 : decode cX1_age 20 = .ok (.aload_n 3, 1) := by decide +kernel
theorem dX1_age_21 : decode cX1_age 21 = .ok (.getfield 140, 3) := by decide +kernel
theorem dX1_age_24 : decode cX1_age 24 = .ok (.isub, 1) := by decide +kernel
theorem dX1_age_25 : decode cX1_age 25 = .ok (.ireturn, 1) := by decide +kernel
theorem dX1_expected_0 : decode cX1_expected 0 = .ok (.aload_n 0, 1) := by decide +kernel
theorem dX1_expected_1 : decode cX1_expected 1 = .ok (.iload_n 1, 1) := by decide +kernel
theorem dX1_expected_2 : decode cX1_expected 2 = .ok (.iload_n 2, 1) := by decide +kernel
theorem dX1_expected_3 : decode cX1_expected 3 = .ok (.invokevirtual 133, 3) := by decide +kernel
theorem dX1_expected_6 : decode cX1_expected 6 = .ok (.getfield 143, 3) := by decide +kernel
theorem dX1_expected_9 : decode cX1_expected 9 = .ok (.ireturn, 1) := by decide +kernel
theorem dX1_wrong_0 : decode cX1_wrong 0 = .ok (.iload_n 1, 1) := by decide +kernel
theorem dX1_wrong_1 : decode cX1_wrong 1 = .ok (.ifCond .lt 11, 3) := by decide +kernel
theorem dX1_wrong_4 : decode cX1_wrong 4 = .ok (.iload_n 1, 1) := by decide +kernel
theorem dX1_wrong_5 : decode cX1_wrong 5 = .ok (.aload_n 0, 1) := by decide +kernel
theorem dX1_wrong_6 : decode cX1_wrong 6 = .ok (.getfield 84, 3) := by decide +kernel
theorem dX1_wrong_9 : decode cX1_wrong 9 = .ok (.if_icmp .lt 13, 3) := by decide +kernel
theorem dX1_wrong_12 : decode cX1_wrong 12 = .ok (.new 68, 3) := by decide +kernel
theorem dX1_wrong_15 : decode cX1_wrong 15 = .ok (.dup, 1) := by decide +kernel
theorem dX1_wrong_16 : decode cX1_wrong 16 = .ok (.ldc 146, 2) := by decide +kernel
theorem dX1_wrong_18 : decode cX1_wrong 18 = .ok (.invokespecial 72, 3) := by decide +kernel
theorem dX1_wrong_21 : decode cX1_wrong 21 = .ok (.athrow, 1) := by decide +kernel
theorem dX1_wrong_22 : decode cX1_wrong 22 = .ok (.aload_n 0, 1) := by decide +kernel
theorem dX1_wrong_23 : decode cX1_wrong 23 = .ok (.ldc 148, 2) := by decide +kernel
theorem dX1_wrong_25 : decode cX1_wrong 25 = .ok (.invokevirtual 97, 3) := by decide +kernel
theorem dX1_wrong_28 : decode cX1_wrong 28 = .ok (.aload_n 0, 1) := by decide +kernel
theorem dX1_wrong_29 : decode cX1_wrong 29 = .ok (.getfield 28, 3) := by decide +kernel
theorem dX1_wrong_32 : decode cX1_wrong 32 = .ok (.iload_n 1, 1) := by decide +kernel
theorem dX1_wrong_33 : decode cX1_wrong 33 = .ok (.iaload, 1) := by decide +kernel
theorem dX1_wrong_34 : decode cX1_wrong 34 = .ok (.ireturn, 1) := by decide +kernel
theorem dX1_told_0 : decode cX1_told 0 = .ok (.iload_n 1, 1) := by decide +kernel
theorem dX1_told_1 : decode cX1_told 1 = .ok (.tableswitch 64 0 6 #[43, 48, 48, 48, 48, 54, 59], 43) := by decide +kernel
theorem dX1_told_44 : decode cX1_told 44 = .ok (.aload_n 0, 1) := by decide +kernel
theorem dX1_told_45 : decode cX1_told 45 = .ok (.getfield 65, 3) := by decide +kernel
theorem dX1_told_48 : decode cX1_told 48 = .ok (.ireturn, 1) := by decide +kernel
theorem dX1_told_49 : decode cX1_told 49 = .ok (.aload_n 0, 1) := by decide +kernel
theorem dX1_told_50 : decode cX1_told 50 = .ok (.iload_n 1, 1) := by decide +kernel
theorem dX1_told_51 : decode cX1_told 51 = .ok (.invokevirtual 149, 3) := by decide +kernel
theorem dX1_told_54 : decode cX1_told 54 = .ok (.ireturn, 1) := by decide +kernel
theorem dX1_told_55 : decode cX1_told 55 = .ok (.aload_n 0, 1) := by decide +kernel
theorem dX1_told_56 : decode cX1_told 56 = .ok (.getfield 84, 3) := by decide +kernel
theorem dX1_told_59 : decode cX1_told 59 = .ok (.ireturn, 1) := by decide +kernel
theorem dX1_told_60 : decode cX1_told 60 = .ok (.aload_n 0, 1) := by decide +kernel
theorem dX1_told_61 : decode cX1_told 61 = .ok (.getfield 48, 3) := by decide +kernel
theorem dX1_told_64 : decode cX1_told 64 = .ok (.ireturn, 1) := by decide +kernel
theorem dX1_told_65 : decode cX1_told 65 = .ok (.new 68, 3) := by decide +kernel
theorem dX1_told_68 : decode cX1_told 68 = .ok (.dup, 1) := by decide +kernel
theorem dX1_told_69 : decode cX1_told 69 = .ok (.ldc 95, 2) := by decide +kernel
theorem dX1_told_71 : decode cX1_told 71 = .ok (.invokespecial 72, 3) := by decide +kernel
theorem dX1_told_74 : decode cX1_told 74 = .ok (.athrow, 1) := by decide +kernel
theorem dX1_countFindings_0 : decode cX1_countFindings 0 = .ok (.aload_n 0, 1) := by decide +kernel
theorem dX1_countFindings_1 : decode cX1_countFindings 1 = .ok (.ldc 148, 2) := by decide +kernel
theorem dX1_countFindings_3 : decode cX1_countFindings 3 = .ok (.invokevirtual 97, 3) := by decide +kernel
theorem dX1_countFindings_6 : decode cX1_countFindings 6 = .ok (.iconst 0, 1) := by decide +kernel
theorem dX1_countFindings_7 : decode cX1_countFindings 7 = .ok (.istore_n 2, 1) := by decide +kernel
theorem dX1_countFindings_8 : decode cX1_countFindings 8 = .ok (.iconst 0, 1) := by decide +kernel
theorem dX1_countFindings_9 : decode cX1_countFindings 9 = .ok (.istore_n 3, 1) := by decide +kernel
theorem dX1_countFindings_10 : decode cX1_countFindings 10 = .ok (.iload_n 3, 1) := by decide +kernel
theorem dX1_countFindings_11 : decode cX1_countFindings 11 = .ok (.aload_n 0, 1) := by decide +kernel
theorem dX1_countFindings_12 : decode cX1_countFindings 12 = .ok (.getfield 84, 3) := by decide +kernel
theorem dX1_countFindings_15 : decode cX1_countFindings 15 = .ok (.if_icmp .ge 22, 3) := by decide +kernel
theorem dX1_countFindings_18 : decode cX1_countFindings 18 = .ok (.aload_n 0, 1) := by decide +kernel
theorem dX1_countFindings_19 : decode cX1_countFindings 19 = .ok (.getfield 28, 3) := by decide +kernel
theorem dX1_countFindings_22 : decode cX1_countFindings 22 = .ok (.iload_n 3, 1) := by decide +kernel
theorem dX1_countFindings_23 : decode cX1_countFindings 23 = .ok (.iaload, 1) := by decide +kernel
theorem dX1_countFindings_24 : decode cX1_countFindings 24 = .ok (.iload_n 1, 1) := by decide +kernel
theorem dX1_countFindings_25 : decode cX1_countFindings 25 = .ok (.if_icmp .ne 6, 3) := by decide +kernel
theorem dX1_countFindings_28 : decode cX1_countFindings 28 = .ok (.iinc 2 1, 3) := by decide +kernel
theorem dX1_countFindings_31 : decode cX1_countFindings 31 = .ok (.iinc 3 1, 3) := by decide +kernel
theorem dX1_countFindings_34 : decode cX1_countFindings 34 = .ok (.goto (-24), 3) := by decide +kernel
theorem dX1_countFindings_37 : decode cX1_countFindings 37 = .ok (.iload_n 2, 1) := by decide +kernel
theorem dX1_countFindings_38 : decode cX1_countFindings 38 = .ok (.ireturn, 1) := by decide +kernel
theorem dX1_many_0 : decode cX1_many 0 = .ok (.iload_n 1, 1) := by decide +kernel
theorem dX1_many_1 : decode cX1_many 1 = .ok (.bipush 10, 2) := by decide +kernel
theorem dX1_many_3 : decode cX1_many 3 = .ok (.invokestatic 35, 3) := by decide +kernel
theorem dX1_many_6 : decode cX1_many 6 = .ok (.ifCond .ne 13, 3) := by decide +kernel
theorem dX1_many_9 : decode cX1_many 9 = .ok (.new 68, 3) := by decide +kernel
theorem dX1_many_12 : decode cX1_many 12 = .ok (.dup, 1) := by decide +kernel
theorem dX1_many_13 : decode cX1_many 13 = .ok (.ldc 152, 2) := by decide +kernel
theorem dX1_many_15 : decode cX1_many 15 = .ok (.invokespecial 72, 3) := by decide +kernel
theorem dX1_many_18 : decode cX1_many 18 = .ok (.athrow, 1) := by decide +kernel
theorem dX1_many_19 : decode cX1_many 19 = .ok (.iload_n 2, 1) := by decide +kernel
theorem dX1_many_20 : decode cX1_many 20 = .ok (.invokestatic 75, 3) := by decide +kernel
theorem dX1_many_23 : decode cX1_many 23 = .ok (.aload_n 0, 1) := by decide +kernel
theorem dX1_many_24 : decode cX1_many 24 = .ok (.iload_n 2, 1) := by decide +kernel
theorem dX1_many_25 : decode cX1_many 25 = .ok (.invokevirtual 97, 3) := by decide +kernel
theorem dX1_many_28 : decode cX1_many 28 = .ok (.iconst 0, 1) := by decide +kernel
theorem dX1_many_29 : decode cX1_many 29 = .ok (.istore_n 3, 1) := by decide +kernel
theorem dX1_many_30 : decode cX1_many 30 = .ok (.iconst 0, 1) := by decide +kernel
theorem dX1_many_31 : decode cX1_many 31 = .ok (.istore 4, 2) := by decide +kernel
theorem dX1_many_33 : decode cX1_many 33 = .ok (.iload 4, 2) := by decide +kernel
theorem dX1_many_35 : decode cX1_many 35 = .ok (.aload_n 0, 1) := by decide +kernel
theorem dX1_many_36 : decode cX1_many 36 = .ok (.getfield 48, 3) := by decide +kernel
theorem dX1_many_39 : decode cX1_many 39 = .ok (.if_icmp .ge 26, 3) := by decide +kernel
theorem dX1_many_42 : decode cX1_many 42 = .ok (.aload_n 0, 1) := by decide +kernel
theorem dX1_many_43 : decode cX1_many 43 = .ok (.getfield 11, 3) := by decide +kernel
theorem dX1_many_46 : decode cX1_many 46 = .ok (.iload 4, 2) := by decide +kernel
theorem dX1_many_48 : decode cX1_many 48 = .ok (.aaload, 1) := by decide +kernel
theorem dX1_many_49 : decode cX1_many 49 = .ok (.getfield 100, 3) := by decide +kernel
theorem dX1_many_52 : decode cX1_many 52 = .ok (.iload_n 1, 1) := by decide +kernel
theorem dX1_many_53 : decode cX1_many 53 = .ok (.if_icmp .ne 6, 3) := by decide +kernel
theorem dX1_many_56 : decode cX1_many 56 = .ok (.iinc 3 1, 3) := by decide +kernel
theorem dX1_many_59 : decode cX1_many 59 = .ok (.iinc 4 1, 3) := by decide +kernel
theorem dX1_many_62 : decode cX1_many 62 = .ok (.goto (-29), 3) := by decide +kernel
theorem dX1_many_65 : decode cX1_many 65 = .ok (.iload_n 3, 1) := by decide +kernel
theorem dX1_many_66 : decode cX1_many 66 = .ok (.ireturn, 1) := by decide +kernel
theorem dX1_arrived_0 : decode cX1_arrived 0 = .ok (.iload_n 1, 1) := by decide +kernel
theorem dX1_arrived_1 : decode cX1_arrived 1 = .ok (.bipush 19, 2) := by decide +kernel
theorem dX1_arrived_3 : decode cX1_arrived 3 = .ok (.invokestatic 35, 3) := by decide +kernel
theorem dX1_arrived_6 : decode cX1_arrived 6 = .ok (.ifCond .ne 13, 3) := by decide +kernel
theorem dX1_arrived_9 : decode cX1_arrived 9 = .ok (.new 68, 3) := by decide +kernel
theorem dX1_arrived_12 : decode cX1_arrived 12 = .ok (.dup, 1) := by decide +kernel
theorem dX1_arrived_13 : decode cX1_arrived 13 = .ok (.ldc 154, 2) := by decide +kernel
theorem dX1_arrived_15 : decode cX1_arrived 15 = .ok (.invokespecial 72, 3) := by decide +kernel
theorem dX1_arrived_18 : decode cX1_arrived 18 = .ok (.athrow, 1) := by decide +kernel
theorem dX1_arrived_19 : decode cX1_arrived 19 = .ok (.iload_n 3, 1) := by decide +kernel
theorem dX1_arrived_20 : decode cX1_arrived 20 = .ok (.invokestatic 75, 3) := by decide +kernel
theorem dX1_arrived_23 : decode cX1_arrived 23 = .ok (.iload_n 2, 1) := by decide +kernel
theorem dX1_arrived_24 : decode cX1_arrived 24 = .ok (.iconst 1, 1) := by decide +kernel
theorem dX1_arrived_25 : decode cX1_arrived 25 = .ok (.if_icmp .ge 13, 3) := by decide +kernel
theorem dX1_arrived_28 : decode cX1_arrived 28 = .ok (.new 39, 3) := by decide +kernel
theorem dX1_arrived_31 : decode cX1_arrived 31 = .ok (.dup, 1) := by decide +kernel
theorem dX1_arrived_32 : decode cX1_arrived 32 = .ok (.ldc 156, 2) := by decide +kernel
theorem dX1_arrived_34 : decode cX1_arrived 34 = .ok (.invokespecial 43, 3) := by decide +kernel
theorem dX1_arrived_37 : decode cX1_arrived 37 = .ok (.athrow, 1) := by decide +kernel
theorem dX1_arrived_38 : decode cX1_arrived 38 = .ok (.aload_n 0, 1) := by decide +kernel
theorem dX1_arrived_39 : decode cX1_arrived 39 = .ok (.iload_n 3, 1) := by decide +kernel
theorem dX1_arrived_40 : decode cX1_arrived 40 = .ok (.invokevirtual 97, 3) := by decide +kernel
theorem dX1_arrived_43 : decode cX1_arrived 43 = .ok (.iconst 0, 1) := by decide +kernel
theorem dX1_arrived_44 : decode cX1_arrived 44 = .ok (.istore 4, 2) := by decide +kernel
theorem dX1_arrived_46 : decode cX1_arrived 46 = .ok (.iload 4, 2) := by decide +kernel
theorem dX1_arrived_48 : decode cX1_arrived 48 = .ok (.aload_n 0, 1) := by decide +kernel
theorem dX1_arrived_49 : decode cX1_arrived 49 = .ok (.getfield 48, 3) := by decide +kernel
theorem dX1_arrived_52 : decode cX1_arrived 52 = .ok (.if_icmp .ge 41, 3) := by decide +kernel
theorem dX1_arrived_55 : decode cX1_arrived 55 = .ok (.aload_n 0, 1) := by decide +kernel
theorem dX1_arrived_56 : decode cX1_arrived 56 = .ok (.getfield 11, 3) := by decide +kernel
theorem dX1_arrived_59 : decode cX1_arrived 59 = .ok (.iload 4, 2) := by decide +kernel
theorem dX1_arrived_61 : decode cX1_arrived 61 = .ok (.aaload, 1) := by decide +kernel
theorem dX1_arrived_62 : decode cX1_arrived 62 = .ok (.iload_n 1, 1) := by decide +kernel
theorem dX1_arrived_63 : decode cX1_arrived 63 = .ok (.invokevirtual 158, 3) := by decide +kernel
theorem dX1_arrived_66 : decode cX1_arrived 66 = .ok (.ifCond .eq 21, 3) := by decide +kernel
theorem dX1_arrived_69 : decode cX1_arrived 69 = .ok (.aload_n 0, 1) := by decide +kernel
theorem dX1_arrived_70 : decode cX1_arrived 70 = .ok (.aload_n 0, 1) := by decide +kernel
theorem dX1_arrived_71 : decode cX1_arrived 71 = .ok (.getfield 11, 3) := by decide +kernel
theorem dX1_arrived_74 : decode cX1_arrived 74 = .ok (.iload 4, 2) := by decide +kernel
theorem dX1_arrived_76 : decode cX1_arrived 76 = .ok (.aaload, 1) := by decide +kernel
theorem dX1_arrived_77 : decode cX1_arrived 77 = .ok (.invokevirtual 129, 3) := by decide +kernel
theorem dX1_arrived_80 : decode cX1_arrived 80 = .ok (.iload_n 2, 1) := by decide +kernel
theorem dX1_arrived_81 : decode cX1_arrived 81 = .ok (.if_icmp .ne 6, 3) := by decide +kernel
theorem dX1_arrived_84 : decode cX1_arrived 84 = .ok (.iload 4, 2) := by decide +kernel
theorem dX1_arrived_86 : decode cX1_arrived 86 = .ok (.ireturn, 1) := by decide +kernel
theorem dX1_arrived_87 : decode cX1_arrived 87 = .ok (.iinc 4 1, 3) := by decide +kernel
theorem dX1_arrived_90 : decode cX1_arrived 90 = .ok (.goto (-44), 3) := by decide +kernel
theorem dX1_arrived_93 : decode cX1_arrived 93 = .ok (.iconst (-1), 1) := by decide +kernel
theorem dX1_arrived_94 : decode cX1_arrived 94 = .ok (.ireturn, 1) := by decide +kernel
end
section
/-! my own base: worlds in parts, rows with natural indices, what the statement gives beside the words -/
def us_new (sz : Nat) : Nat → Prop := fun q => sz ≤ q
/-- the addresses of a world -/
def us_adr (ws : va_W) : List Nat := ws.map (fun q => q.1)
theorem us_mono {D : va_G} {cl : List vw_C} {ws : va_W} {H H1 : Heap} (hP : va_P D cl ws H) (hk : ∀ q : Nat, q < H.size → H1[q]? = H[q]?) : va_P D cl ws H1 :=
  hP.kept (fun k q h => hk q.1 (hP k q h).lt)
/-- a world beside the one that was changed stays -/
theorem us_keep {D : va_G} {cl : List vw_C} {w1 w2 : va_W} {H H1 : Heap} (hP : va_P D cl w2 H) (hd : ∀ x ∈ us_adr w1, x ∉ us_adr w2) (hk : ∀ q : Nat, q < H.size → ¬ va_A w1 H.size q → H1[q]? = H[q]?) : va_P D cl w2 H1 := by
  refine hP.kept (fun k q h => hk q.1 (hP k q h).lt ?_)
  rintro (⟨j, e, h1⟩ | h1)
  · exact hd q.1 (List.mem_map.mpr ⟨(q.1, e), List.mem_of_getElem? h1, rfl⟩) (List.mem_map.mpr ⟨q, List.mem_of_getElem? h, rfl⟩)
  · have := (hP k q h).lt
    omega
theorem us_D_of {A : Nat → Prop} {w1 w2 : va_W} (h : us_adr w2 = us_adr w1) (hD : va_D A w1) : va_D A w2 := by
  have key : ∀ (k : Nat) (q : Nat × va_E), w2[k]? = some q → ∃ q0, w1[k]? = some q0 ∧ q0.1 = q.1 := by
    intro k q hq
    have h1 : (us_adr w2)[k]? = some q.1 := by simp [us_adr, hq]
    rw [h] at h1
    simp only [us_adr, List.getElem?_map, Option.map_eq_some_iff] at h1
    obtain ⟨q0, h2, h3⟩ := h1
    exact ⟨q0, h2, h3⟩
  refine ⟨fun i j x y hi hj hxy => ?_, fun k q hk => ?_⟩
  · obtain ⟨x0, h1, h2⟩ := key i x hi
    obtain ⟨y0, h3, h4⟩ := key j y hj
    exact hD.1 i j x0 y0 h1 h3 (h2.trans (hxy.trans h4.symm))
  · obtain ⟨q0, h1, h2⟩ := key k q hk
    rw [← h2]
    exact hD.2 k q0 h1
theorem us_A_adr {w1 w2 : va_W} (h : us_adr w2 = us_adr w1) {sz q : Nat} (hq : va_A w1 sz q) : va_A w2 sz q := by
  rcases hq with ⟨k, e, h1⟩ | h1
  · have h2 : (us_adr w1)[k]? = some q := by simp [us_adr, h1]
    rw [← h] at h2
    simp only [us_adr, List.getElem?_map, Option.map_eq_some_iff] at h2
    obtain ⟨q0, h3, h4⟩ := h2
    exact Or.inl ⟨k, q0.2, by rw [h3, ← h4]⟩
  · exact Or.inr h1
theorem us_sw {x : Int32} {lo hi : Int} (h : ∀ z : Int, lo ≤ z → z ≤ hi → ¬ x = Int32.ofInt z) : x.toInt < lo ∨ hi < x.toInt := by
  by_cases h1 : x.toInt < lo
  · exact Or.inl h1
  · by_cases h2 : hi < x.toInt
    · exact Or.inr h2
    · exact absurd (Int32.ofInt_toInt x).symm (h _ (by omega) (by omega))
section USR
variable {p : Program} {l : Launch} {e : Env} {R : Room} {s : State} {m : MethodId} {args : Array Value} {below : List Frame} {meth : Method} {c : Code} {H : Heap} {locs : List Loc} {cells slots : Nat} {Q : State → Prop}
variable {cc : ByteArray} {pc : Nat} {ls : Array Slot} {rest : List Value} {D : va_G} {cl : List vw_C} {A : Nat → Prop} {a : Nat} {tys : List (ClassId × FieldType)} {ws : va_W} {H0 : Heap}
theorem us_iald (hexec : p.tables.exec = Jvm.exec) (hb : c.code = cc) (hK : va_K D cl tys s) (hP : va_P D cl ws H) (q0 t0 : Nat) {cA : ClassId} {n : Nat} {f : Nat → Int32} (ha : ws[q0]? = some (a, .inl (cA, n, .inl f))) (ht : tys[t0]? = some (cA, .int)) {i : Nat} (hi : i < n) (hn : n < 2 ^ 31) (hdg : decode cc pc = .ok (.iaload, 1))
    (kk : W p l e R s m args below meth c H locs cells slots Q (F0 m (pc + 1) ls (.int (f i) :: rest))) : W p l e R s m args below meth c H locs cells slots Q (F0 m pc ls (.int (nI i) :: .ref a :: rest)) := by
  refine va_iald hexec hb hK hP q0 t0 ha ht (vp_in_nI hi hn) hdg ?_
  rw [nI_clamp (by omega)]
  exact kk
theorem us_iast (hexec : p.tables.exec = Jvm.exec) (hb : c.code = cc) (hK : va_K D cl tys s) (hP : va_P D cl ws H) (hD : va_D A ws) (hS : va_S A H0 H locs) (q0 t0 : Nat) {cA : ClassId} {n : Nat} {f : Nat → Int32} (ha : ws[q0]? = some (a, .inl (cA, n, .inl f))) (ht : tys[t0]? = some (cA, .int)) {i : Nat} {x : Int32} (hi : i < n) (hn : n < 2 ^ 31) (hdg : decode cc pc = .ok (.iastore, 1))
    (kk : ∀ (H1 : Heap) (locs1 : List Loc), va_P D cl (ws.set q0 (a, .inl (cA, n, .inl (upd f i x)))) H1 → va_D A (ws.set q0 (a, .inl (cA, n, .inl (upd f i x)))) → va_S A H0 H1 locs1 → W p l e R s m args below meth c H1 locs1 cells slots Q (F0 m (pc + 1) ls rest)) : W p l e R s m args below meth c H locs cells slots Q (F0 m pc ls (.int x :: .int (nI i) :: .ref a :: rest)) := by
  refine va_iast hexec hb hK hP hD hS q0 t0 ha ht (vp_in_nI hi hn) hdg ?_
  rw [nI_clamp (by omega)]
  exact kk
theorem us_aald (hexec : p.tables.exec = Jvm.exec) (hb : c.code = cc) (hK : va_K D cl tys s) (hP : va_P D cl ws H) (q0 t0 : Nat) {cA : ClassId} {C : String} {n : Nat} {f : Nat → Option Nat} (ha : ws[q0]? = some (a, .inl (cA, n, .inr (.inr (.inr (.inr f)))))) (ht : tys[t0]? = some (cA, .object C)) {i y : Nat} (hi : i < n) (hn : n < 2 ^ 31) (hy : f i = some y) (hdg : decode cc pc = .ok (.aaload, 1))
    (kk : W p l e R s m args below meth c H locs cells slots Q (F0 m (pc + 1) ls (.ref y :: rest))) : W p l e R s m args below meth c H locs cells slots Q (F0 m pc ls (.int (nI i) :: .ref a :: rest)) := by
  refine va_aldq hexec hb hK hP q0 t0 ha ht (vp_in_nI hi hn) hdg ?_
  rw [nI_clamp (by omega), hy]
  exact kk
end USR
/-! what the methods of a unit answer and leave: a unit is its fields, a function of their places:
0 home 1 least 2 state 3 since 4 station 5 incident 6 crew 7 things 8 link 9 place 10 its minute 11 expected 12 arrival 13 driven -/
def us_u (u : Nat → Int32) : List Value := [.int (u 0), .int (u 1), .int (u 2), .int (u 3), .int (u 4), .int (u 5), .int (u 6), .int (u 7), .int (u 8), .int (u 9), .int (u 10), .int (u 11), .int (u 12), .int (u 13)]
def sp_in (n k : Int32) : Int32 := if n < 0 then 0 else if k < n then 0 else 1
def sp_val (kind v : Int32) : Int32 :=
  if kind = 0 then sp_in v 9 else if kind = 1 then sp_in v 19 else if kind = 11 then sp_in v 999999 else if kind = 12 then sp_in v 9
  else if kind = 13 then sp_in v 255 else if kind = 14 then sp_in v 1 else if kind = 15 then sp_in v 999 else 1
def sp_can (b n : Int32) : Int32 :=
  if b = 0 then (if n = 1 then 1 else if n < 7 then 0 else 1)
  else if b = 1 then (if n = 2 then 1 else if n = 0 then 1 else 0)
  else if b = 2 then (if n = 3 then 1 else if n = 6 then 1 else 0)
  else if b = 3 then (if n = 4 then 1 else if n = 5 then 1 else 0)
  else if b = 4 then (if n = 5 then 1 else 0)
  else if b = 5 then (if n = 1 then 1 else if n = 6 then 1 else 0)
  else if b = 6 then (if n = 0 then 1 else if n = 1 then 1 else if n = 7 then 1 else 0)
  else if b = 7 then (if n = 0 then 1 else if n = 6 then 1 else 0)
  else if b = 8 then (if n = 0 then 1 else if n = 9 then 1 else 0)
  else if b = 9 then (if n = 0 then 1 else if n = 8 then 1 else 0)
  else if b = 10 then (if n = 0 then 1 else if n = 9 then 1 else 0)
  else 0
def sp_nc (n : Int32) : Int32 := if n < 2 then 0 else if 4 < n then 0 else 1
def sp_rest (u : Nat → Int32) : Int32 := if u 2 = 0 then 1 else if u 2 < 7 then 0 else 1
def sp_dr (u : Nat → Int32) (t : Int32) : Int32 :=
  if u 2 = 2 then u 13 + (t - u 3) else if u 2 = 6 then u 13 + (t - u 3) else if sp_rest u = 0 then u 13 else if t - u 3 < 30 then u 13 else 0
def sp_send2 (u : Nat → Int32) (t : Int32) : Int32 := if u 6 < u 1 then 0 else if u 8 = 1 then (if 240 ≤ sp_dr u t then 0 else 1) else 0
def sp_send (u : Nat → Int32) (t : Int32) : Int32 := if u 2 = 0 then sp_send2 u t else if u 2 = 5 then sp_send2 u t else if u 2 = 6 then sp_send2 u t else 0
def sp_stn (u : Nat → Int32) : Int32 := if u 2 = 0 then u 4 else -1
def sp_inc (u : Nat → Int32) : Int32 := if u 2 < 1 then -1 else if 5 < u 2 then -1 else u 5
def sp_there (u : Nat → Int32) (i : Int32) : Int32 := if u 2 < 3 then 0 else if 5 < u 2 then 0 else if u 5 = i then 1 else 0
def sp_settle (u : Nat → Int32) (h k : Int32) : Nat → Int32 := upd (upd u 0 h) 1 k
def sp_fresh (u : Nat → Int32) : Nat → Int32 := upd (upd (upd (upd (upd (upd (upd (upd (upd (upd (upd (upd u 2 0) 3 0) 4 (u 0)) 5 (-1)) 6 (u 1)) 7 0) 8 1) 9 (-1)) 10 0) 11 (-1)) 12 (-1)) 13 0
def sp_tp (u : Nat → Int32) (v t : Int32) : Int32 × (Nat → Int32) := if u 8 = 0 then (4, u) else (0, upd (upd u 9 v) 10 t)
def sp_ts (u : Nat → Int32) (v : Int32) : Int32 × (Nat → Int32) := (if v = u 0 then 0 else 3, upd u 4 v)
def sp_go (u : Nat → Int32) (n v t pos : Int32) : Int32 × (Nat → Int32) :=
  if n = 1 then (0, upd (upd (upd (upd u 13 (sp_dr u t)) 2 n) 3 t) 5 v)
  else if n = 3 then (0, upd (upd (upd (upd (upd u 13 (sp_dr u t)) 2 n) 3 t) 12 pos) 11 (-1))
  else if n = 0 then sp_ts (upd (upd (upd u 13 (sp_dr u t)) 2 n) 3 t) v
  else (0, upd (upd (upd u 13 (sp_dr u t)) 2 n) 3 t)
def sp_tst (u : Nat → Int32) (n v t pos : Int32) : Int32 × (Nat → Int32) :=
  if sp_can (u 2) n = 0 then (1, u) else if sp_nc n = 0 then sp_go u n v t pos else if u 1 ≤ u 6 then sp_go u n v t pos else (2, u)
def sp_take (u : Nat → Int32) (k v t pos : Int32) : Int32 × (Nat → Int32) :=
  if k = 11 then sp_tp u v t else if k = 12 then (0, upd u 6 v) else if k = 13 then (0, upd u 7 v) else if k = 14 then (0, upd u 8 v)
  else if k = 15 then (0, upd u 11 (t + v)) else sp_tst u k v t pos
/-! one unit's cell -/
abbrev us_wu (h0 : Nat) (u : Nat → Int32) : va_W := [(h0, .inr (0, us_u u))]
def us_Au (h0 sz : Nat) : Nat → Prop := fun q => q = h0 ∨ sz ≤ q
def us_Pu (dC : Nat → ClassId) (dI : Nat → Nat → Nat) (h0 : Nat) (u : Nat → Int32) (sz : Nat) (U : State) : Prop := U.heap.size = sz ∧ va_P (dC, dI) vwCl (us_wu h0 u) U.heap ∧ va_K (dC, dI) vwCl [] U
def us_Bu (dC : Nat → ClassId) (dI : Nat → Nat → Nat) (h0 : Nat) (u : Nat → Int32) (t : State) : Prop := va_P (dC, dI) vwCl (us_wu h0 u) t.heap
theorem us_Bu_of {dC : Nat → ClassId} {dI : Nat → Nat → Nat} {h0 : Nat} {u u' : Nat → Int32} {t : State} {H : Heap} (ht : t.heap = H) (hP : va_P (dC, dI) vwCl (us_wu h0 u) H) (e : u = u') : us_Bu dC dI h0 u' t := by
  subst e; subst ht; exact hP
theorem us_Bu_use {dC : Nat → ClassId} {dI : Nat → Nat → Nat} {h0 : Nat} {u : Nat → Int32} {t : State} {H : Heap} (ht : t.heap = H) (h : us_Bu dC dI h0 u t) : va_P (dC, dI) vwCl (us_wu h0 u) H := by
  subst ht; exact h
theorem us_D1 {A : Nat → Prop} {h0 : Nat} {e : va_E} (h : A h0) : va_D A [(h0, e)] := by
  refine ⟨fun i j p q hi hj _ => ?_, fun k q hk => ?_⟩
  · have h1 := (List.getElem?_eq_some_iff.mp hi).1
    have h2 := (List.getElem?_eq_some_iff.mp hj).1
    simp only [List.length_cons, List.length_nil] at h1 h2
    omega
  · have h1 := (List.getElem?_eq_some_iff.mp hk).1
    simp only [List.length_cons, List.length_nil] at h1
    have h2 : k = 0 := by omega
    subst h2
    cases hk
    exact h
theorem us_blind0 {av : List Value} {sz : Nat} : FrameBlind (va_Pc av (fun U => U.heap.size = sz)) := fun _ _ _ _ q => q
theorem us_Pu_blind {av : List Value} {dC : Nat → ClassId} {dI : Nat → Nat → Nat} {h0 : Nat} {u : Nat → Int32} {sz : Nat} : FrameBlind (va_Pc av (us_Pu dC dI h0 u sz)) :=
  fun a U g mk q => ⟨q.1, q.2.1, q.2.2.1, va_K.moved (u := U) (U := U.calling g mk a) (Vm.Alike.refl U.vm) q.2.2.2⟩
theorem us_Pu_at {s : State} {dC : Nat → ClassId} {dI : Nat → Nat → Nat} {h0 : Nat} {u : Nat → Int32} {H : Heap} {tys : List (ClassId × FieldType)} (hP : va_P (dC, dI) vwCl (us_wu h0 u) H) (hK : va_K (dC, dI) vwCl tys s) {U : State} (hU : U.heap = H) (hW : s.WarmedH U.vm) : us_Pu dC dI h0 u H.size U :=
  ⟨by rw [hU], by rw [hU]; exact hP, va_K.moved hW.alike (hK.sub [] rfl)⟩
theorem us_Au_le {A : Nat → Prop} {s : State} {H : Heap} {locs : List Loc} {h0 : Nat} (h : A h0) (hS : va_S A s.heap H locs) (hA : ∀ q : Nat, s.heap.size ≤ q → A q) : ∀ q : Nat, us_Au h0 H.size q → A q := by
  rintro q (rfl | h1)
  · exact h
  · exact hA q (Nat.le_trans hS.1 h1)
theorem us_nz {r : Int32} (h : r = 0 ∨ r = 1) : narrow .boolean (.int r) = .int r := by
  rcases h with rfl | rfl <;> decide
theorem us_k14 {P : Nat → Prop} {k : Nat} (hk : k < 14) (h0 : P 0) (h1 : P 1) (h2 : P 2) (h3 : P 3) (h4 : P 4) (h5 : P 5) (h6 : P 6) (h7 : P 7) (h8 : P 8) (h9 : P 9) (h10 : P 10) (h11 : P 11) (h12 : P 12) (h13 : P 13) : P k := by
  have : k = 0 ∨ k = 1 ∨ k = 2 ∨ k = 3 ∨ k = 4 ∨ k = 5 ∨ k = 6 ∨ k = 7 ∨ k = 8 ∨ k = 9 ∨ k = 10 ∨ k = 11 ∨ k = 12 ∨ k = 13 := by omega
  rcases this with rfl | rfl | rfl | rfl | rfl | rfl | rfl | rfl | rfl | rfl | rfl | rfl | rfl | rfl <;> assumption
theorem us_u_get {u : Nat → Int32} {k : Nat} (hk : k < 14) : (us_u u)[k]? = some (.int (u k)) :=
  us_k14 (P := fun k => (us_u u)[k]? = some (.int (u k))) hk rfl rfl rfl rfl rfl rfl rfl rfl rfl rfl rfl rfl rfl rfl
theorem us_u_set {u : Nat → Int32} {k : Nat} {x : Int32} (hk : k < 14) : (us_u u).set k (.int x) = us_u (upd u k x) :=
  us_k14 (P := fun k => (us_u u).set k (.int x) = us_u (upd u k x)) hk rfl rfl rfl rfl rfl rfl rfl rfl rfl rfl rfl rfl rfl rfl
theorem us_T_own {k : Nat} (hk : k < 14) : (TX0 k).1 = RX0 := us_k14 (P := fun k => (TX0 k).1 = RX0) hk rfl rfl rfl rfl rfl rfl rfl rfl rfl rfl rfl rfl rfl rfl
theorem us_T_fin {k : Nat} (hk : k < 14) : (TX0 k).2.2.2 = false := us_k14 (P := fun k => (TX0 k).2.2.2 = false) hk rfl rfl rfl rfl rfl rfl rfl rfl rfl rfl rfl rfl rfl rfl
theorem us_T_int {k : Nat} (hk : k < 14) : parseFieldDescriptor (TX0 k).2.2.1 = some .int := by
  rw [tyX0_ok k hk]
  exact us_k14 (P := fun k => some (tyX0 k) = some .int) hk rfl rfl rfl rfl rfl rfl rfl rfl rfl rfl rfl rfl rfl rfl
section USU
variable {p : Program} {l : Launch} {e : Env} {R : Room} {s : State} {m : MethodId} {args : Array Value} {below : List Frame} {meth : Method} {c : Code} {H : Heap} {locs : List Loc} {cells slots : Nat} {Q : State → Prop}
variable {cc : ByteArray} {pc : Nat} {ls : Array Slot} {rest : List Value} {D : va_G} {A : Nat → Prop} {a : Nat} {tys : List (ClassId × FieldType)} {ws : va_W} {H0 : Heap}
theorem us_getU (hexec : p.tables.exec = Jvm.exec) (hb : c.code = cc) {own : String} {index : Nat} {Ts : List Cond} (hts : ∀ w ∈ Ts, w.before args s = true) (hin : ∀ w ∈ u_ws RX0 TX0 14, w ∈ Ts) (hown : s.vm.findClass own = some m.cls) (hK : va_K D vwCl tys s) (hP : va_P D vwCl ws H) (q0 : Nat) {u : Nat → Int32} (he : ws[q0]? = some (a, .inr (0, us_u u))) (k : Nat) (hk : k < 14) (hlink : (Cond.fieldLink own index RX0 (TX0 k).2.1 (TX0 k).2.2.1).before args s = true) {v : Int32} (hv : u k = v) (hdg : decode cc pc = .ok (.getfield index, 3))
    (kk : W p l e R s m args below meth c H locs cells slots Q (F0 m (pc + 3) ls (.int v :: rest))) : W p l e R s m args below meth c H locs cells slots Q (F0 m pc ls (.ref a :: rest)) := by
  subst hv
  exact va_get (C := RX0) (T := TX0) (N := 14) hexec hb hts hin hown hK hP q0 he rfl k hk hlink (fun x h => by rw [us_T_own hk] at h; exact h) (us_u_get hk) hdg kk
theorem us_getUN (hexec : p.tables.exec = Jvm.exec) (hb : c.code = cc) {own host : String} {index : Nat} {Ts : List Cond} (hts : ∀ w ∈ Ts, w.before args s = true) (hin : ∀ w ∈ u_ws RX0 TX0 14, w ∈ Ts) (hown : s.vm.findClass own = some m.cls) (hK : va_K D vwCl tys s) (hP : va_P D vwCl ws H) (q0 : Nat) {u : Nat → Int32} (he : ws[q0]? = some (a, .inr (0, us_u u))) (k : Nat) (hk : k < 14) (hlink : (Cond.fieldLinkNest own index RX0 (TX0 k).2.1 (TX0 k).2.2.1 host).before args s = true) {v : Int32} (hv : u k = v) (hdg : decode cc pc = .ok (.getfield index, 3))
    (kk : W p l e R s m args below meth c H locs cells slots Q (F0 m (pc + 3) ls (.int v :: rest))) : W p l e R s m args below meth c H locs cells slots Q (F0 m pc ls (.ref a :: rest)) := by
  subst hv
  exact va_getN (C := RX0) (T := TX0) (N := 14) hexec hb hts hin hown hK hP q0 he rfl k hk hlink (fun x h => by rw [us_T_own hk] at h; exact h) (us_u_get hk) hdg kk
theorem us_putU (hexec : p.tables.exec = Jvm.exec) (hb : c.code = cc) {own : String} {index : Nat} {Ts : List Cond} (hts : ∀ w ∈ Ts, w.before args s = true) (hin : ∀ w ∈ u_ws RX0 TX0 14, w ∈ Ts) (hown : s.vm.findClass own = some m.cls) (hK : va_K D vwCl tys s) (hP : va_P D vwCl ws H) (hD : va_D A ws) (hS : va_S A H0 H locs) (q0 : Nat) {u : Nat → Int32} (he : ws[q0]? = some (a, .inr (0, us_u u))) (k : Nat) (hk : k < 14) (hlink : (Cond.fieldLink own index RX0 (TX0 k).2.1 (TX0 k).2.2.1).before args s = true) {x : Int32} (hdg : decode cc pc = .ok (.putfield index, 3))
    (kk : ∀ (H1 : Heap) (locs1 : List Loc), va_P D vwCl (ws.set q0 (a, .inr (0, us_u (upd u k x)))) H1 → va_D A (ws.set q0 (a, .inr (0, us_u (upd u k x)))) → va_S A H0 H1 locs1 → W p l e R s m args below meth c H1 locs1 cells slots Q (F0 m (pc + 3) ls rest)) : W p l e R s m args below meth c H locs cells slots Q (F0 m pc ls (.int x :: .ref a :: rest)) := by
  refine va_put (C := RX0) (T := TX0) (N := 14) (ty := .int) hexec hb hts hin tyX0 tyX0_ok nmX0 hown hK hP hD hS q0 he rfl k hk hlink (fun x h => by rw [us_T_own hk] at h; exact h) (us_T_fin hk) (us_T_int hk) rfl rfl (by simp [us_u]; omega) hdg ?_
  rw [us_u_set hk]
  exact kk
end USU
/-! what the methods of the class answer and leave. F: 0 unitOf 1 minuteOf 2 kindOf 3 valueOf 4 findingOf 5 order -/
def sp_isU (n : Int32) (nu : Nat) : Int32 := if n < 0 then 0 else if nI nu ≤ n then 0 else 1
def sp_st (nu : Nat) (U : Nat → Nat → Int32) : Nat → Nat → Int32 := fun j => if j < nu then sp_fresh (U j) else U j
def sp_rp (F : Nat → Nat → Int32) (t : Int32) : Nat → Nat → (Nat → Nat → Int32) × (Nat → Int32) → (Nat → Nat → Int32) × (Nat → Int32)
  | 0, _, S => S
  | f + 1, p, S =>
    if F 1 (F 5 p).toNatClampNeg ≤ t then
      sp_rp F t f (p + 1) (va_up S.1 (F 0 (F 5 p).toNatClampNeg).toNatClampNeg (sp_take (S.1 (F 0 (F 5 p).toNatClampNeg).toNatClampNeg) (F 2 (F 5 p).toNatClampNeg) (F 3 (F 5 p).toNatClampNeg) (F 1 (F 5 p).toNatClampNeg) (nI p)).2,
        upd S.2 (F 5 p).toNatClampNeg (sp_take (S.1 (F 0 (F 5 p).toNatClampNeg).toNatClampNeg) (F 2 (F 5 p).toNatClampNeg) (F 3 (F 5 p).toNatClampNeg) (F 1 (F 5 p).toNatClampNeg) (nI p)).1)
    else S
/-- behind replay(t): the units, the findings -/
def sp_ru (nu nm : Nat) (F U : Nat → Nat → Int32) (t : Int32) : Nat → Nat → Int32 := (sp_rp F t nm 0 (sp_st nu U, F 4)).1
def sp_rf (nu nm : Nat) (F U : Nat → Nat → Int32) (t : Int32) : Nat → Nat → Int32 := va_up F 4 (sp_rp F t nm 0 (sp_st nu U, F 4)).2
def sp_ins (mo : Nat → Int32) (number t : Int32) : Nat → (Nat → Int32) → Nat → Int32
  | 0, oo => upd oo 0 number
  | p + 1, oo => if mo (oo p).toNatClampNeg ≤ t then upd oo (p + 1) number else sp_ins mo number t p (upd oo (p + 1) (oo p))
def sp_rk (U : Nat → Nat → Int32) (inc ar : Int32) : Nat → Int32
  | 0 => 1
  | i + 1 => if sp_there (U i) inc = 0 then sp_rk U inc ar i else if ar ≤ U i 12 then sp_rk U inc ar i else sp_rk U inc ar i + 1
def sp_rank (nu : Nat) (U : Nat → Nat → Int32) (j : Nat) : Int32 := if sp_there (U j) (sp_inc (U j)) = 0 then 0 else sp_rk U (sp_inc (U j)) (U j 12) nu
def sp_many (U : Nat → Nat → Int32) (st : Int32) : Nat → Int32
  | 0 => 0
  | i + 1 => if U i 2 = st then sp_many U st i + 1 else sp_many U st i
def sp_cf (fo : Nat → Int32) (x : Int32) : Nat → Int32
  | 0 => 0
  | i + 1 => if fo i = x then sp_cf fo x i + 1 else sp_cf fo x i
def sp_arr (nu : Nat) (U : Nat → Nat → Int32) (inc rk : Int32) : Nat → Nat → Int32
  | 0, _ => -1
  | f + 1, i => if sp_there (U i) inc = 0 then sp_arr nu U inc rk f (i + 1) else if sp_rank nu U i = rk then nI i else sp_arr nu U inc rk f (i + 1)
/-- how a call ends: 0 it answers, 1 IllegalArgumentException, 2 IndexOutOfBoundsException, 3 UnsupportedOperationException -/
def us_en (k : Int32) : String := if k = 1 then "java/lang/IllegalArgumentException" else if k = 2 then "java/lang/IndexOutOfBoundsException" else "java/lang/UnsupportedOperationException"
def sp_minK (t : Int32) : Int32 := if sp_in t 99999 = 0 then 2 else 0
def sp_refK (n : Int32) (nu : Nat) : Int32 := if sp_isU n nu = 0 then 1 else 0
def sp_unitK (h k : Int32) (nu : Nat) : Int32 := if sp_in h 9 = 0 then 2 else if sp_in k 9 = 0 then 2 else if nI nu < 30 then 0 else 3
def sp_msgK (un t k v : Int32) (nu nm : Nat) : Int32 :=
  if sp_isU un nu = 0 then 1 else if sp_in k 15 = 0 then 1 else if sp_in t 99999 = 0 then 2 else if sp_val k v = 0 then 2 else if nI nm < 200 then 0 else 3
def sp_atK (un t w : Int32) (nu : Nat) : Int32 := if sp_isU un nu = 0 then 1 else if sp_in w 9 = 0 then 1 else if sp_in t 99999 = 0 then 2 else 0
def sp_atR (nu : Nat) (U : Nat → Nat → Int32) (j : Nat) (t w : Int32) : Int32 :=
  if w = 0 then U j 2 else if w = 1 then U j 3 else if w = 2 then sp_stn (U j) else if w = 3 then sp_inc (U j) else if w = 4 then U j 6
  else if w = 5 then U j 7 else if w = 6 then U j 8 else if w = 7 then sp_dr (U j) t else if w = 8 then (if sp_send (U j) t = 0 then 0 else 1) else sp_rank nu U j
def sp_ruK (n t : Int32) (nu : Nat) : Int32 := if sp_isU n nu = 0 then 1 else if sp_in t 99999 = 0 then 2 else 0
def sp_age (u : Nat → Int32) (t : Int32) : Int32 := if u 9 = -1 then -1 else t - u 10
def sp_wrongK (n : Int32) (nm : Nat) : Int32 := if n < 0 then 1 else if n < nI nm then 0 else 1
def sp_manyK (st t : Int32) : Int32 := if sp_in st 10 = 0 then 1 else if sp_in t 99999 = 0 then 2 else 0
def sp_arrK (inc rk t : Int32) : Int32 := if sp_in inc 19 = 0 then 1 else if sp_in t 99999 = 0 then 2 else if 1 ≤ rk then 0 else 2
def sp_toldK (w : Int32) : Int32 := if w = 0 then 0 else if w = 1 then 0 else if w = 2 then 0 else if w = 3 then 0 else if w = 4 then 0 else if w = 5 then 0 else if w = 6 then 0 else 1
def sp_msgF (nm : Nat) (F : Nat → Nat → Int32) (p1 p2 p3 p4 : Int32) : Nat → Nat → Int32 :=
  va_up (va_up (va_up (va_up (va_up F 0 (upd (F 0) nm p1)) 1 (upd (F 1) nm p2)) 2 (upd (F 2) nm p3)) 3 (upd (F 3) nm p4)) 5 (sp_ins (upd (F 1) nm p2) (nI nm) p2 nm (F 5))
def sp_toldU (w : Int32) (nu nm : Nat) (F U : Nat → Nat → Int32) : Nat → Nat → Int32 := if w = 1 then sp_ru nu nm F U 99999 else if w = 2 then sp_ru nu nm F U 99999 else if w = 3 then sp_ru nu nm F U 99999 else if w = 4 then sp_ru nu nm F U 99999 else U
def sp_toldF (w : Int32) (nu nm : Nat) (F U : Nat → Nat → Int32) : Nat → Nat → Int32 := if w = 1 then sp_rf nu nm F U 99999 else if w = 2 then sp_rf nu nm F U 99999 else if w = 3 then sp_rf nu nm F U 99999 else if w = 4 then sp_rf nu nm F U 99999 else F
def sp_toldR (w : Int32) (nu nm : Nat) (nk : Int32) (F U : Nat → Nat → Int32) : Int32 :=
  if w = 0 then nk else if w = 5 then nI nm else if w = 6 then nI nu else sp_cf (sp_rf nu nm F U 99999 4) w nm
/-! what the statement gives beside the methods' words, carried from the law's start into every call -/
def us_nw : List Cond := [Cond.methodLinkNest RX1 34 yX0_init "UnitStates", Cond.fieldLinkNest RX1 100 "UnitStates$Unit" "state" "I" "UnitStates", Cond.fieldLinkNest RX1 103 "UnitStates$Unit" "since" "I" "UnitStates", Cond.fieldLinkNest RX1 113 "UnitStates$Unit" "crew" "I" "UnitStates", Cond.fieldLinkNest RX1 116 "UnitStates$Unit" "things" "I" "UnitStates", Cond.fieldLinkNest RX1 119 "UnitStates$Unit" "link" "I" "UnitStates", Cond.fieldLinkNest RX1 137 "UnitStates$Unit" "lastPlace" "I" "UnitStates", Cond.fieldLinkNest RX1 140 "UnitStates$Unit" "lastPlaceMinute" "I" "UnitStates", Cond.fieldLinkNest RX1 143 "UnitStates$Unit" "expectedMinute" "I" "UnitStates", Cond.fieldLinkNest RX1 171 "UnitStates$Unit" "arrival" "I" "UnitStates", Cond.castable "java/lang/IndexOutOfBoundsException" "java/lang/IndexOutOfBoundsException", Cond.declares ⟨"java/lang/RuntimeException", "<init>", "()V"⟩, Cond.declares ⟨"java/lang/RuntimeException", "<init>", "(Ljava/lang/String;)V"⟩, Cond.declares ⟨"java/lang/Exception", "<init>", "()V"⟩, Cond.declares ⟨"java/lang/Exception", "<init>", "(Ljava/lang/String;)V"⟩, Cond.declares ⟨"java/lang/Throwable", "<init>", "()V"⟩, Cond.declares ⟨"java/lang/Throwable", "<init>", "(Ljava/lang/String;)V"⟩, Cond.castable "java/lang/UnsupportedOperationException" "java/lang/UnsupportedOperationException", Cond.methodLinkNest RX1 57 yX0_settle "UnitStates", Cond.castable "java/lang/IllegalArgumentException" "java/lang/IllegalArgumentException", Cond.methodLinkNest RX1 164 yX0_startAnew "UnitStates", Cond.methodLinkNest RX1 167 yX0_take "UnitStates", Cond.methodLinkNest RX1 106 yX0_stationNow "UnitStates", Cond.methodLinkNest RX1 110 yX0_incidentNow "UnitStates", Cond.methodLinkNest RX1 122 yX0_drivenUpTo "UnitStates", Cond.methodLinkNest RX1 126 yX0_isSendable "UnitStates", Cond.methodLinkNest RX1 158 yX0_isThereAt "UnitStates"]
def us_nc : List (String × String) := [("java/lang/UnsupportedOperationException", "java/lang/IndexOutOfBoundsException"), ("java/lang/IllegalArgumentException", "java/lang/IndexOutOfBoundsException"), ("java/lang/IndexOutOfBoundsException", "java/lang/UnsupportedOperationException"), ("java/lang/IllegalArgumentException", "java/lang/UnsupportedOperationException"), ("java/lang/IndexOutOfBoundsException", "java/lang/IllegalArgumentException"), ("java/lang/UnsupportedOperationException", "java/lang/IllegalArgumentException")]
def us_str : List (String × Nat × String) := [(RX1, 41, "no such station"), (RX1, 46, "no such crew"), (RX1, 54, "no room for a unit"), (RX1, 70, "no such unit"), (RX1, 73, "no such kind"), (RX1, 162, "no such minute"), (RX1, 82, "no such value of this kind"), (RX1, 87, "no room for a message"), (RX1, 95, "no such what"), (RX1, 146, "no such message"), (RX1, 152, "no such state"), (RX1, 154, "no such incident"), (RX1, 156, "ranks begin with 1")]
def us_mv : Cond → Bool
  | .fieldLinkNest .. => true
  | .methodLinkNest .. => true
  | .declares .. => true
  | .castable .. => true
  | _ => false
theorem us_nw_mv : ∀ w ∈ us_nw, us_mv w = true := by decide +kernel
theorem us_mv_warm {w : Cond} {s U : State} (hw : us_mv w = true) (hW : s.WarmedH U.vm) (h : va_Nw w s) : va_Nw w U := by
  cases w with
  | fieldLinkNest => exact va_Nw.warmF hW h
  | methodLinkNest => exact va_Nw.warmM hW h
  | declares => exact va_Nw.warmD hW h
  | castable => exact va_Nw.warmC hW h
  | _ => cases hw
def us_Ev (A : Nat → Prop) (U : State) (H : Heap) : Prop :=
  vx_Zq Bundle.tN "UNASSIGNED_STACK" Bundle.steD A U H ∧ vx_Zq Bundle.tN "SUPPRESSED_SENTINEL" Bundle.listD A U H ∧
  (∀ w ∈ us_nw, va_Nw w U) ∧ (∀ q ∈ us_nc, va_Nc q.1 q.2 U) ∧ (∀ q ∈ us_str, ∃ sa : Nat, vk_R q.1 q.2.1 q.2.2 sa U)
theorem us_Ev.warm {A : Nat → Prop} {s U : State} {H : Heap} (h : us_Ev A s H) (hW : s.WarmedH U.vm) : us_Ev A U H :=
  ⟨h.1.moved hW.alike, h.2.1.moved hW.alike, fun w hw => us_mv_warm (us_nw_mv w hw) hW (h.2.2.1 w hw), fun q hq => (h.2.2.2.1 q hq).moved hW.alike, fun q hq => by
    obtain ⟨sa, h1⟩ := h.2.2.2.2 q hq
    exact ⟨sa, h1.warm hW⟩⟩
theorem us_Ev.narrow {A B : Nat → Prop} {U : State} {H : Heap} (h : us_Ev A U H) (hB : ∀ q, B q → A q) : us_Ev B U H :=
  ⟨h.1.narrow hB, h.2.1.narrow hB, h.2.2⟩
theorem us_Ev.kept {A : Nat → Prop} {U : State} {H H1 : Heap} (h : us_Ev A U H) (hq : ∀ a : Nat, a < H.size → ¬ A a → H1[a]? = H[a]?) : us_Ev A U H1 :=
  ⟨h.1.kept hq, h.2.1.kept hq, h.2.2⟩
theorem us_Ev.at {A B : Nat → Prop} {s U : State} {H : Heap} {locs : List Loc} (h : us_Ev A s s.heap) (hS : va_S A s.heap H locs) (hB : ∀ q, B q → A q) (hU : U.heap = H) (hW : s.WarmedH U.vm) : us_Ev B U U.heap := by
  rw [hU]
  exact ((h.kept hS.2.1).narrow hB).warm hW
/-! the class's object, its rows and its units.
F: 0 unitOf 1 minuteOf 2 kindOf 3 valueOf 4 findingOf 5 order -/
def us_pl (n : Nat) (pa : Nat → Nat) (U : Nat → Nat → Int32) : va_W := (List.range n).map (fun i => (pa i, .inr (0, us_u (U i))))
def us_X (ad : Nat → Nat) (cU cI : ClassId) (pa : Nat → Nat) (nu nm : Nat) (nk : Int32) (F : Nat → Nat → Int32) : va_W :=
  [(ad 0, .inr (1, [.ref (ad 1), .int (nI nu), .ref (ad 2), .ref (ad 3), .ref (ad 4), .ref (ad 5), .ref (ad 6), .ref (ad 7), .int (nI nm), .int nk])),
   (ad 1, .inl (cU, 30, .inr (.inr (.inr (.inr (fun i => some (pa i))))))),
   (ad 2, .inl (cI, 200, .inl (F 0))), (ad 3, .inl (cI, 200, .inl (F 1))), (ad 4, .inl (cI, 200, .inl (F 2))), (ad 5, .inl (cI, 200, .inl (F 3))), (ad 6, .inl (cI, 200, .inl (F 4))), (ad 7, .inl (cI, 200, .inl (F 5)))]
def us_W (ad : Nat → Nat) (cU cI : ClassId) (pa : Nat → Nat) (nu nm : Nat) (nk : Int32) (F U : Nat → Nat → Int32) : va_W := us_X ad cU cI pa nu nm nk F ++ us_pl 30 pa U
def us_ads (ad pa : Nat → Nat) : List Nat := [ad 0, ad 1, ad 2, ad 3, ad 4, ad 5, ad 6, ad 7] ++ (List.range 30).map pa
theorem us_W_adr {ad : Nat → Nat} {cU cI : ClassId} {pa : Nat → Nat} {nu nm : Nat} {nk : Int32} {F U : Nat → Nat → Int32} : us_adr (us_W ad cU cI pa nu nm nk F U) = us_ads ad pa := by
  simp [us_adr, us_W, us_X, us_pl, us_ads, Function.comp_def]
theorem us_pl_get {X : va_W} {n i : Nat} {pa : Nat → Nat} {U : Nat → Nat → Int32} (h : i < n) : (X ++ us_pl n pa U)[X.length + i]? = some (pa i, .inr (0, us_u (U i))) := by
  rw [List.getElem?_append_right (by omega), Nat.add_sub_cancel_left]
  simp [us_pl, h]
theorem us_W_get {ad : Nat → Nat} {cU cI : ClassId} {pa : Nat → Nat} {nu nm : Nat} {nk : Int32} {F U : Nat → Nat → Int32} {i : Nat} (h : i < 30) : (us_W ad cU cI pa nu nm nk F U)[8 + i]? = some (pa i, .inr (0, us_u (U i))) :=
  us_pl_get (X := us_X ad cU cI pa nu nm nk F) h
/-- one unit's cell out of the world -/
theorem us_W_sub {D : va_G} {ad : Nat → Nat} {cU cI : ClassId} {pa : Nat → Nat} {nu nm : Nat} {nk : Int32} {F U : Nat → Nat → Int32} {i : Nat} {H : Heap} (hP : va_P D vwCl (us_W ad cU cI pa nu nm nk F U) H) (h : i < 30) : va_P D vwCl (us_wu (pa i) (U i)) H := by
  intro k q hk
  have h1 := (List.getElem?_eq_some_iff.mp hk).1
  simp only [List.length_cons, List.length_nil] at h1
  have h2 : k = 0 := by omega
  subst h2
  cases hk
  exact hP _ _ (us_W_get h)
theorem us_pl_upd {n i : Nat} {pa : Nat → Nat} {U : Nat → Nat → Int32} {u : Nat → Int32} {k : Nat} {q : Nat × va_E} (hk : (us_pl n pa (va_up U i u))[k]? = some q) : (k = i ∧ q = (pa i, .inr (0, us_u u))) ∨ (k ≠ i ∧ (us_pl n pa U)[k]? = some q) := by
  simp only [us_pl, List.getElem?_map, Option.map_eq_some_iff] at hk ⊢
  obtain ⟨j, h1, h2⟩ := hk
  have h3 : j = k := by
    have := List.getElem?_eq_some_iff.mp h1
    obtain ⟨h4, h5⟩ := this
    rw [List.getElem_range] at h5
    exact h5.symm
  subst h3
  by_cases hji : j = i
  · subst hji
    exact Or.inl ⟨rfl, by rw [← h2, va_up_self]⟩
  · exact Or.inr ⟨hji, j, h1, by rw [← h2, va_up_ne _ _ hji]⟩
/-- behind a call on one unit's cell -/
theorem us_W_put {D : va_G} {A0 : Nat → Prop} {ad : Nat → Nat} {cU cI : ClassId} {pa : Nat → Nat} {nu nm : Nat} {nk : Int32} {F U : Nat → Nat → Int32} {i : Nat} {u : Nat → Int32} {H H1 : Heap} (h : i < 30) (hP : va_P D vwCl (us_W ad cU cI pa nu nm nk F U) H) (hD : va_D A0 (us_W ad cU cI pa nu nm nk F U))
    (hk : ∀ q : Nat, q < H.size → ¬ us_Au (pa i) H.size q → H1[q]? = H[q]?) (hP1 : va_P D vwCl (us_wu (pa i) u) H1) : va_P D vwCl (us_W ad cU cI pa nu nm nk F (va_up U i u)) H1 := by
  have old : ∀ (k : Nat) (q : Nat × va_E), k ≠ 8 + i → (us_W ad cU cI pa nu nm nk F U)[k]? = some q → va_at D vwCl q H1 := by
    intro k q hne hq
    have hlt := (hP k q hq).lt
    refine (hP k q hq).kept (hk q.1 hlt ?_)
    rintro (h1 | h1)
    · exact hne (hD.1 k (8 + i) q _ hq (us_W_get h) h1)
    · omega
  intro k q hq
  by_cases hl : k < 8
  · refine old k q (by omega) ?_
    have e1 : (us_W ad cU cI pa nu nm nk F (va_up U i u))[k]? = (us_X ad cU cI pa nu nm nk F)[k]? := List.getElem?_append_left hl
    have e2 : (us_W ad cU cI pa nu nm nk F U)[k]? = (us_X ad cU cI pa nu nm nk F)[k]? := List.getElem?_append_left hl
    rw [e2, ← e1]
    exact hq
  · have e1 : (us_W ad cU cI pa nu nm nk F (va_up U i u))[k]? = (us_pl 30 pa (va_up U i u))[k - 8]? := List.getElem?_append_right (by show 8 ≤ k; omega)
    have e2 : (us_W ad cU cI pa nu nm nk F U)[k]? = (us_pl 30 pa U)[k - 8]? := List.getElem?_append_right (by show 8 ≤ k; omega)
    rw [e1] at hq
    rcases us_pl_upd hq with ⟨h1, h2⟩ | ⟨h1, h2⟩
    · subst h2
      exact hP1 0 _ rfl
    · exact old k q (by omega) (by rw [e2]; exact h2)
def us_In (as : List Nat) : Nat → Prop := fun q => q ∈ as
def us_AA (as : List Nat) (sz : Nat) : Nat → Prop := fun q => q ∈ as ∨ sz ≤ q
theorem us_D_in {A : Nat → Prop} {as : List Nat} {ws : va_W} (ha : us_adr ws = as) (hD : va_D A ws) : va_D (us_In as) ws :=
  ⟨hD.1, fun k q hk => by
    show q.1 ∈ as
    rw [← ha]; exact List.mem_map.mpr ⟨q, List.mem_of_getElem? hk, rfl⟩⟩
theorem us_D_aa {as : List Nat} {sz : Nat} {ws : va_W} (hD : va_D (us_In as) ws) : va_D (us_AA as sz) ws := hD.weaken (fun _ _ _ h => Or.inl h)
def us_ty (cU cI : ClassId) : List (ClassId × FieldType) := [(cU, .object RX0), (cI, .int)]
def us_Px (dC : Nat → ClassId) (dI : Nat → Nat → Nat) (ad : Nat → Nat) (cU cI : ClassId) (pa : Nat → Nat) (nu nm : Nat) (nk : Int32) (F U : Nat → Nat → Int32) (A : Nat → Prop) (sz : Nat) (S : State) : Prop :=
  S.heap.size = sz ∧ va_P (dC, dI) vwCl (us_W ad cU cI pa nu nm nk F U) S.heap ∧ va_K (dC, dI) vwCl (us_ty cU cI) S ∧ va_D (us_In (us_ads ad pa)) (us_W ad cU cI pa nu nm nk F U) ∧ us_Ev A S S.heap
def us_Bx (dC : Nat → ClassId) (dI : Nat → Nat → Nat) (ad : Nat → Nat) (cU cI : ClassId) (pa : Nat → Nat) (nu nm : Nat) (nk : Int32) (F U : Nat → Nat → Int32) (t : State) : Prop := va_P (dC, dI) vwCl (us_W ad cU cI pa nu nm nk F U) t.heap
theorem us_Px_blind {av : List Value} {dC : Nat → ClassId} {dI : Nat → Nat → Nat} {ad : Nat → Nat} {cU cI : ClassId} {pa : Nat → Nat} {nu nm : Nat} {nk : Int32} {F U : Nat → Nat → Int32} {A : Nat → Prop} {sz : Nat} : FrameBlind (va_Pc av (us_Px dC dI ad cU cI pa nu nm nk F U A sz)) :=
  fun a S g mk q => ⟨q.1, q.2.1, q.2.2.1, va_K.moved (u := S) (U := S.calling g mk a) (Vm.Alike.refl S.vm) q.2.2.2.1, q.2.2.2.2.1, us_Ev.warm (s := S) (U := S.calling g mk a) q.2.2.2.2.2 (State.WarmedH.refl S)⟩
theorem us_Px_at {s : State} {dC : Nat → ClassId} {dI : Nat → Nat → Nat} {ad : Nat → Nat} {cU cI : ClassId} {pa : Nat → Nat} {nu nm : Nat} {nk : Int32} {F U : Nat → Nat → Int32} {A B : Nat → Prop} {H : Heap} {locs : List Loc} (hP : va_P (dC, dI) vwCl (us_W ad cU cI pa nu nm nk F U) H) (hK : va_K (dC, dI) vwCl (us_ty cU cI) s) {A0 : Nat → Prop} (hD : va_D A0 (us_W ad cU cI pa nu nm nk F U)) (hE : us_Ev A s s.heap) (hS : va_S A s.heap H locs) (hB : ∀ q, B q → A q) {S : State} (hU : S.heap = H) (hW : s.WarmedH S.vm) : us_Px dC dI ad cU cI pa nu nm nk F U B H.size S :=
  ⟨by rw [hU], by rw [hU]; exact hP, va_K.moved hW.alike hK, us_D_in us_W_adr hD, hE.at hS hB hU hW⟩
theorem us_Bx_use {dC : Nat → ClassId} {dI : Nat → Nat → Nat} {ad : Nat → Nat} {cU cI : ClassId} {pa : Nat → Nat} {nu nm : Nat} {nk : Int32} {F U : Nat → Nat → Int32} {t : State} {H : Heap} (ht : t.heap = H) (h : us_Bx dC dI ad cU cI pa nu nm nk F U t) : va_P (dC, dI) vwCl (us_W ad cU cI pa nu nm nk F U) H := by
  subst ht; exact h
theorem us_Bx_of {dC : Nat → ClassId} {dI : Nat → Nat → Nat} {ad : Nat → Nat} {cU cI : ClassId} {pa : Nat → Nat} {nu nm : Nat} {nk nk' : Int32} {F U F' U' : Nat → Nat → Int32} {t : State} {H : Heap} (ht : t.heap = H) (h : va_P (dC, dI) vwCl (us_W ad cU cI pa nu nm nk F U) H) (e0 : nk = nk') (e1 : F = F') (e2 : U = U') : us_Bx dC dI ad cU cI pa nu nm nk' F' U' t := by
  subst e0; subst e1; subst e2; subst ht; exact h
theorem us_AA_le {as : List Nat} {s : State} {H : Heap} {locs : List Loc} (hS : va_S (us_AA as s.heap.size) s.heap H locs) : ∀ q : Nat, us_AA as H.size q → us_AA as s.heap.size q := by
  rintro q (h | h)
  · exact Or.inl h
  · exact Or.inr (Nat.le_trans hS.1 h)
theorem us_ads_pa {ad pa : Nat → Nat} {i : Nat} (h : i < 30) : pa i ∈ us_ads ad pa := List.mem_append_right _ (List.mem_map.mpr ⟨i, List.mem_range.mpr h, rfl⟩)
def us_P0 (sz : Nat) (S : State) : Prop := S.heap.size = sz ∧ us_Ev (us_new sz) S S.heap
theorem us_P0_blind {av : List Value} {sz : Nat} : FrameBlind (va_Pc av (us_P0 sz)) :=
  fun a S g mk q => ⟨q.1, q.2.1, us_Ev.warm (s := S) (U := S.calling g mk a) q.2.2 (State.WarmedH.refl S)⟩
theorem us_P0_at {s : State} {A : Nat → Prop} {H : Heap} {locs : List Loc} (hE : us_Ev A s s.heap) (hS : va_S A s.heap H locs) (hB : ∀ q, us_new H.size q → A q) {S : State} (hU : S.heap = H) (hW : s.WarmedH S.vm) : us_P0 H.size S :=
  ⟨by rw [hU], hE.at hS hB hU hW⟩
theorem us_isU_spec {n : Int32} {nu : Nat} (hn : nu ≤ 30) (h : ¬ sp_isU n nu = 0) : ∃ j : Nat, j < nu ∧ n = nI j := by
  unfold sp_isU at h
  split at h
  · exact absurd rfl h
  · rename_i h1
    split at h
    · exact absurd rfl h
    · rename_i h2
      rcases pk_ix n (n := nu) (by omega) with h3 | h3 | h3
      · exact absurd h3 h1
      · exact absurd h3 h2
      · exact h3
theorem us_up_self {α : Type} {f : Nat → α} {k : Nat} : va_up f k (f k) = f := by
  funext j
  by_cases h : j = k
  · subst h; rw [va_up_self]
  · rw [va_up_ne _ _ h]
theorem us_up_up {α : Type} {f : Nat → α} {k : Nat} {v w : α} : va_up (va_up f k v) k w = va_up f k w := by
  funext j
  by_cases h : j = k
  · subst h; rw [va_up_self, va_up_self]
  · rw [va_up_ne _ _ h, va_up_ne _ _ h, va_up_ne _ _ h]
theorem us_st_0 {U : Nat → Nat → Int32} : sp_st 0 U = U := by
  funext j; simp [sp_st]
theorem us_st_next {U : Nat → Nat → Int32} {i : Nat} : va_up (sp_st i U) i (sp_fresh (sp_st i U i)) = sp_st (i + 1) U := by
  funext j
  by_cases h : j = i
  · subst h; rw [va_up_self]; simp [sp_st]
  · rw [va_up_ne _ _ h]
    by_cases h2 : j < i
    · simp [sp_st, h2, Nat.lt_succ_of_lt h2]
    · have h3 : ¬ j < i + 1 := by omega
      simp [sp_st, h2, h3]
theorem us_isU_cl {n : Int32} {nu : Nat} (hn : nu ≤ 30) (h : ¬ sp_isU n nu = 0) : n.toNatClampNeg < 30 := by
  obtain ⟨j, hj, rfl⟩ := us_isU_spec hn h
  rw [nI_clamp (by omega)]
  omega
theorem us_lt_spec {n : Int32} {nm : Nat} (hn : nm ≤ 200) (h0 : ¬ n < 0) (h : n < nI nm) : ∃ j : Nat, j < nm ∧ n = nI j := by
  rcases pk_ix n (n := nm) (by omega) with h3 | h3 | h3
  · exact absurd h3 h0
  · exact absurd h (Int32.not_lt.mpr h3)
  · exact h3
theorem us_ins_ok {oo : Nat → Int32} {nm p n : Nat} (hO : ∀ q, q < nm → ∃ n, n < 200 ∧ oo q = nI n) (en : oo p = nI n) (hn : n < 200) : ∀ q, q < nm → ∃ n, n < 200 ∧ (upd oo (p + 1) (oo p)) q = nI n := by
  intro q hq
  by_cases h : q = p + 1
  · exact ⟨n, hn, by simp [upd, h, en]⟩
  · obtain ⟨k, h1, h2⟩ := hO q hq
    exact ⟨k, h1, by simp [upd, h, h2]⟩
theorem sp_in_01 (n k : Int32) : sp_in n k = 0 ∨ sp_in n k = 1 := by
  unfold sp_in
  split
  · exact Or.inl rfl
  · split
    · exact Or.inl rfl
    · exact Or.inr rfl
section USC
variable {p : Program} {l : Launch} {e : Env} {R : Room} {s : State} {m : MethodId} {args : Array Value} {below : List Frame} {meth : Method} {c : Code} {H : Heap} {locs : List Loc} {cells slots : Nat} {Q : State → Prop}
variable {mc ms : Nat} {free : Addr → Prop} {A0 A1 : Nat → Prop} {H0 : Heap} {a : Array Value} {pc : Nat} {ls : Array Slot} {st0 rest : List Value}
/-- a call that answers with a cell, or throws -/
theorem us_callr {S SX : Type} {post : S → Prop} {px : SX → Prop} {B : S → Nat → State → Prop} {BX : String → SX → State → Prop} {AX : Nat → Prop} (hr : vx_Run p l e R s m args below meth c H locs cells slots mc ms (F0 m pc ls st0) rest (va_Qr post B A1 a) (vx_X px BX AX) free) (hS : va_S A0 H0 H locs) (hA : ∀ q, q < H.size → A1 q → A0 q) (hf : ∀ q, free q → A0 q) (hAX : ∀ q, q < H.size → AX q → A0 q)
    (kx : ∀ (E : String) (ce : Cell) (q9 : Addr) (u : SX) (t : State) (H1 : Heap) (locs1 : List Loc), t.heap = H1 → s.vm.Alike t.vm → px u → BX E u t → H.size ≤ H1.size → (∀ q : Nat, q < H.size → ¬ AX q → H1[q]? = H[q]?) → va_S A0 H0 H1 locs1 → H1[q9]? = some ce → ce.vm = .none → s.vm.findClass E = some ce.cls → vx_W p l e R s m args below meth c H1 locs1 (cells + mc) (slots + ms) Q (F0 m pc ls rest) q9)
    (kk : ∀ (u : S) (ra : Nat) (t : State) (H1 : Heap) (locs1 : List Loc), t.heap = H1 → s.vm.Alike t.vm → post u → B u ra t → H.size ≤ H1.size → (∀ q : Nat, q < H.size → ¬ A1 q → H1[q]? = H[q]?) → va_S A0 H0 H1 locs1 → W p l e R s m args below meth c H1 locs1 (cells + mc) (slots + ms) Q (F0 m (pc + 3) ls (.ref ra :: rest))) : W p l e R s m args below meth c H locs cells slots Q (F0 m pc ls st0) := by
  intro T hT X
  rcases hr T hT X with ⟨v, st₀, t, T', L, h0, X', hL, e1, e2, ⟨⟨u, ra, hv, hp, hb⟩, hF⟩, st⟩ | ⟨q, st₀, t, T', L, E, ce, h0, X', hL, e1, e2, ⟨u, hp, hb, hF⟩, hce, hcv, hcl, st⟩
  · cases hv
    obtain ⟨k1, k2, k3⟩ := vx_keep h0 e1 hS hA hf hL hF
    obtain ⟨t2, a1, b1⟩ := kk u ra t T'.heap (locs ++ L) e1.symm (by rw [← e2]; exact X'.warmed.alike) hp hb k1 k2 k3 T' rfl X'
    exact ⟨t2, st t2 a1, b1⟩
  · obtain ⟨k1, k2, k3⟩ := vx_keep h0 e1 hS hAX hf hL hF
    obtain ⟨t2, a1, b1⟩ := kx E ce q u t T'.heap (locs ++ L) e1.symm (by rw [← e2]; exact X'.warmed.alike) hp hb k1 k2 k3 (by rw [e1]; exact hce) hcv hcl T' rfl X'
    exact ⟨t2, st.trans a1, b1⟩
end USC
end
section
set_option maxHeartbeats 4000000 in
set_option maxRecDepth 100000 in
theorem kt_X0_settle (l : Launch) (dC : Nat → ClassId) (dI : Nat → Nat → Nat) (h0 : Nat) (sz : Nat) (u : Nat → Int32) (p1 p2 : Int32) : Met l yX0_settle wsX0_settle ({ frames := 0, cells := 0, slots := 0, locals := 0 }) (va_Pc [.ref h0, .int p1, .int p2] (us_Pu dC dI h0 u sz)) (va_Qv (fun _ : Unit => True) (fun _ t => us_Bu dC dI h0 (sp_settle u p1 p2) t) (us_Au h0 sz)) 0 0 (us_Au h0 sz) := by
  refine Met.ofW (cc := cX0_settle) (maxL := 3) (ret := none) (by decide) rfl ?_
  intro p e s m args below meth c s₁ B hml hv
  obtain ⟨rfl, hsz, hP, hK⟩ := hv
  have hx := B.exec
  have hb := B.bytes
  have hr := B.returns
  have htb := us_htb (atoms_spec (ws := wsX0_settle) B.pre)
  have hown : s.vm.findClass RX0 = some m.cls := findClass_of_methodNamed B.named
  have hlocks := B.notSynchronized
  subst hsz
  have hA : ∀ q : Nat, s.heap.size ≤ q → us_Au h0 s.heap.size q := fun q h => Or.inr h
  have hD : va_D (us_Au h0 s.heap.size) (us_wu h0 u) := us_D1 (Or.inl rfl)
  have hS : va_S (us_Au h0 s.heap.size) s.heap s.heap [] := va_S.rf
  have hP : va_P (dC, dI) vwCl (us_wu h0 u) s.heap := hP
  have hl := lv_entry ([.ref h0, .int p1, .int p2]) (n := 3) (Nat.le_of_ble_eq_true rfl)
  rw [lg_entry_eq]
  generalize (lg_sl ([.ref h0, .int p1, .int p2]) ++ List.replicate (3 - (lg_sl ([.ref h0, .int p1, .int p2])).length) Slot.unset).toArray = ls at hl ⊢
  have hl : lv_has ls 3 [(0, .ref h0), (1, .int p1), (2, .int p2)] := hl
  refine lv_aload_n hx hb dX0_settle_0 rfl (lv_at hl 0 rfl) ?_
  refine lv_iload_n hx hb dX0_settle_1 rfl (lv_at hl 1 rfl) ?_
  refine us_putU (u := u) hx hb htb us_inX0 hown hK hP hD hS 0 rfl 0 (by decide) (htb _ mw_56) dX0_settle_2 (fun H_1 locs hP hD hS => ?_)
  have hP : va_P (dC, dI) vwCl (us_wu h0 (upd u 0 p1)) H_1 := hP
  have hD : va_D (us_Au h0 s.heap.size) (us_wu h0 (upd u 0 p1)) := hD
  refine lv_aload_n hx hb dX0_settle_5 rfl (lv_at hl 0 rfl) ?_
  refine lv_iload_n hx hb dX0_settle_6 rfl (lv_at hl 2 rfl) ?_
  refine us_putU (u := (upd u 0 p1)) hx hb htb us_inX0 hown hK hP hD hS 0 rfl 1 (by decide) (htb _ mw_57) dX0_settle_7 (fun H_2 locs hP hD hS => ?_)
  have hP : va_P (dC, dI) vwCl (us_wu h0 (upd (upd u 0 p1) 1 p2)) H_2 := hP
  have hD : va_D (us_Au h0 s.heap.size) (us_wu h0 (upd (upd u 0 p1) 1 p2)) := hD
  exact W.vret hx hb hr (fun t ht hW => ⟨⟨(), rfl, trivial, us_Bu_of ht hP (by first | (simp only [sp_settle, if_true, if_false]; done) | (simp [sp_settle]; done))⟩, hS.F ht⟩) hS.2.2 dX0_settle_10
set_option maxHeartbeats 4000000 in
set_option maxRecDepth 100000 in
theorem kt_X0_startAnew (l : Launch) (dC : Nat → ClassId) (dI : Nat → Nat → Nat) (h0 : Nat) (sz : Nat) (u : Nat → Int32) : Met l yX0_startAnew wsX0_startAnew ({ frames := 0, cells := 0, slots := 0, locals := 0 }) (va_Pc [.ref h0] (us_Pu dC dI h0 u sz)) (va_Qv (fun _ : Unit => True) (fun _ t => us_Bu dC dI h0 (sp_fresh u) t) (us_Au h0 sz)) 0 0 (us_Au h0 sz) := by
  refine Met.ofW (cc := cX0_startAnew) (maxL := 1) (ret := none) (by decide) rfl ?_
  intro p e s m args below meth c s₁ B hml hv
  obtain ⟨rfl, hsz, hP, hK⟩ := hv
  have hx := B.exec
  have hb := B.bytes
  have hr := B.returns
  have htb := us_htb (atoms_spec (ws := wsX0_startAnew) B.pre)
  have hown : s.vm.findClass RX0 = some m.cls := findClass_of_methodNamed B.named
  have hlocks := B.notSynchronized
  subst hsz
  have hA : ∀ q : Nat, s.heap.size ≤ q → us_Au h0 s.heap.size q := fun q h => Or.inr h
  have hD : va_D (us_Au h0 s.heap.size) (us_wu h0 u) := us_D1 (Or.inl rfl)
  have hS : va_S (us_Au h0 s.heap.size) s.heap s.heap [] := va_S.rf
  have hP : va_P (dC, dI) vwCl (us_wu h0 u) s.heap := hP
  have hl := lv_entry ([.ref h0]) (n := 1) (Nat.le_of_ble_eq_true rfl)
  rw [lg_entry_eq]
  generalize (lg_sl ([.ref h0]) ++ List.replicate (1 - (lg_sl ([.ref h0])).length) Slot.unset).toArray = ls at hl ⊢
  have hl : lv_has ls 1 [(0, .ref h0)] := hl
  refine lv_aload_n hx hb dX0_startAnew_0 rfl (lv_at hl 0 rfl) ?_
  refine lv_iconst (v := 0) hx hb dX0_startAnew_1 (by decide) ?_
  refine us_putU (u := u) hx hb htb us_inX0 hown hK hP hD hS 0 rfl 2 (by decide) (htb _ mw_58) dX0_startAnew_2 (fun H_1 locs hP hD hS => ?_)
  have hP : va_P (dC, dI) vwCl (us_wu h0 (upd u 2 0)) H_1 := hP
  have hD : va_D (us_Au h0 s.heap.size) (us_wu h0 (upd u 2 0)) := hD
  refine lv_aload_n hx hb dX0_startAnew_5 rfl (lv_at hl 0 rfl) ?_
  refine lv_iconst (v := 0) hx hb dX0_startAnew_6 (by decide) ?_
  refine us_putU (u := (upd u 2 0)) hx hb htb us_inX0 hown hK hP hD hS 0 rfl 3 (by decide) (htb _ mw_60) dX0_startAnew_7 (fun H_2 locs hP hD hS => ?_)
  have hP : va_P (dC, dI) vwCl (us_wu h0 (upd (upd u 2 0) 3 0)) H_2 := hP
  have hD : va_D (us_Au h0 s.heap.size) (us_wu h0 (upd (upd u 2 0) 3 0)) := hD
  refine lv_aload_n hx hb dX0_startAnew_10 rfl (lv_at hl 0 rfl) ?_
  refine lv_aload_n hx hb dX0_startAnew_11 rfl (lv_at hl 0 rfl) ?_
  refine us_getU (v := (u 0)) hx hb htb us_inX0 hown hK hP 0 rfl 0 (by decide) (htb _ mw_56) rfl dX0_startAnew_12 ?_
  refine us_putU (u := (upd (upd u 2 0) 3 0)) hx hb htb us_inX0 hown hK hP hD hS 0 rfl 4 (by decide) (htb _ mw_62) dX0_startAnew_15 (fun H_3 locs hP hD hS => ?_)
  have hP : va_P (dC, dI) vwCl (us_wu h0 (upd (upd (upd u 2 0) 3 0) 4 (u 0))) H_3 := hP
  have hD : va_D (us_Au h0 s.heap.size) (us_wu h0 (upd (upd (upd u 2 0) 3 0) 4 (u 0))) := hD
  refine lv_aload_n hx hb dX0_startAnew_18 rfl (lv_at hl 0 rfl) ?_
  refine lv_iconst (v := (-1)) hx hb dX0_startAnew_19 (by decide) ?_
  refine us_putU (u := (upd (upd (upd u 2 0) 3 0) 4 (u 0))) hx hb htb us_inX0 hown hK hP hD hS 0 rfl 5 (by decide) (htb _ mw_63) dX0_startAnew_20 (fun H_4 locs hP hD hS => ?_)
  have hP : va_P (dC, dI) vwCl (us_wu h0 (upd (upd (upd (upd u 2 0) 3 0) 4 (u 0)) 5 (-1))) H_4 := hP
  have hD : va_D (us_Au h0 s.heap.size) (us_wu h0 (upd (upd (upd (upd u 2 0) 3 0) 4 (u 0)) 5 (-1))) := hD
  refine lv_aload_n hx hb dX0_startAnew_23 rfl (lv_at hl 0 rfl) ?_
  refine lv_aload_n hx hb dX0_startAnew_24 rfl (lv_at hl 0 rfl) ?_
  refine us_getU (v := (u 1)) hx hb htb us_inX0 hown hK hP 0 rfl 1 (by decide) (htb _ mw_57) rfl dX0_startAnew_25 ?_
  refine us_putU (u := (upd (upd (upd (upd u 2 0) 3 0) 4 (u 0)) 5 (-1))) hx hb htb us_inX0 hown hK hP hD hS 0 rfl 6 (by decide) (htb _ mw_64) dX0_startAnew_28 (fun H_5 locs hP hD hS => ?_)
  have hP : va_P (dC, dI) vwCl (us_wu h0 (upd (upd (upd (upd (upd u 2 0) 3 0) 4 (u 0)) 5 (-1)) 6 (u 1))) H_5 := hP
  have hD : va_D (us_Au h0 s.heap.size) (us_wu h0 (upd (upd (upd (upd (upd u 2 0) 3 0) 4 (u 0)) 5 (-1)) 6 (u 1))) := hD
  refine lv_aload_n hx hb dX0_startAnew_31 rfl (lv_at hl 0 rfl) ?_
  refine lv_iconst (v := 0) hx hb dX0_startAnew_32 (by decide) ?_
  refine us_putU (u := (upd (upd (upd (upd (upd u 2 0) 3 0) 4 (u 0)) 5 (-1)) 6 (u 1))) hx hb htb us_inX0 hown hK hP hD hS 0 rfl 7 (by decide) (htb _ mw_66) dX0_startAnew_33 (fun H_6 locs hP hD hS => ?_)
  have hP : va_P (dC, dI) vwCl (us_wu h0 (upd (upd (upd (upd (upd (upd u 2 0) 3 0) 4 (u 0)) 5 (-1)) 6 (u 1)) 7 0)) H_6 := hP
  have hD : va_D (us_Au h0 s.heap.size) (us_wu h0 (upd (upd (upd (upd (upd (upd u 2 0) 3 0) 4 (u 0)) 5 (-1)) 6 (u 1)) 7 0)) := hD
  refine lv_aload_n hx hb dX0_startAnew_36 rfl (lv_at hl 0 rfl) ?_
  refine lv_iconst (v := 1) hx hb dX0_startAnew_37 (by decide) ?_
  refine us_putU (u := (upd (upd (upd (upd (upd (upd u 2 0) 3 0) 4 (u 0)) 5 (-1)) 6 (u 1)) 7 0)) hx hb htb us_inX0 hown hK hP hD hS 0 rfl 8 (by decide) (htb _ mw_68) dX0_startAnew_38 (fun H_7 locs hP hD hS => ?_)
  have hP : va_P (dC, dI) vwCl (us_wu h0 (upd (upd (upd (upd (upd (upd (upd u 2 0) 3 0) 4 (u 0)) 5 (-1)) 6 (u 1)) 7 0) 8 1)) H_7 := hP
  have hD : va_D (us_Au h0 s.heap.size) (us_wu h0 (upd (upd (upd (upd (upd (upd (upd u 2 0) 3 0) 4 (u 0)) 5 (-1)) 6 (u 1)) 7 0) 8 1)) := hD
  refine lv_aload_n hx hb dX0_startAnew_41 rfl (lv_at hl 0 rfl) ?_
  refine lv_iconst (v := (-1)) hx hb dX0_startAnew_42 (by decide) ?_
  refine us_putU (u := (upd (upd (upd (upd (upd (upd (upd u 2 0) 3 0) 4 (u 0)) 5 (-1)) 6 (u 1)) 7 0) 8 1)) hx hb htb us_inX0 hown hK hP hD hS 0 rfl 9 (by decide) (htb _ mw_70) dX0_startAnew_43 (fun H_8 locs hP hD hS => ?_)
  have hP : va_P (dC, dI) vwCl (us_wu h0 (upd (upd (upd (upd (upd (upd (upd (upd u 2 0) 3 0) 4 (u 0)) 5 (-1)) 6 (u 1)) 7 0) 8 1) 9 (-1))) H_8 := hP
  have hD : va_D (us_Au h0 s.heap.size) (us_wu h0 (upd (upd (upd (upd (upd (upd (upd (upd u 2 0) 3 0) 4 (u 0)) 5 (-1)) 6 (u 1)) 7 0) 8 1) 9 (-1))) := hD
  refine lv_aload_n hx hb dX0_startAnew_46 rfl (lv_at hl 0 rfl) ?_
  refine lv_iconst (v := 0) hx hb dX0_startAnew_47 (by decide) ?_
  refine us_putU (u := (upd (upd (upd (upd (upd (upd (upd (upd u 2 0) 3 0) 4 (u 0)) 5 (-1)) 6 (u 1)) 7 0) 8 1) 9 (-1))) hx hb htb us_inX0 hown hK hP hD hS 0 rfl 10 (by decide) (htb _ mw_72) dX0_startAnew_48 (fun H_9 locs hP hD hS => ?_)
  have hP : va_P (dC, dI) vwCl (us_wu h0 (upd (upd (upd (upd (upd (upd (upd (upd (upd u 2 0) 3 0) 4 (u 0)) 5 (-1)) 6 (u 1)) 7 0) 8 1) 9 (-1)) 10 0)) H_9 := hP
  have hD : va_D (us_Au h0 s.heap.size) (us_wu h0 (upd (upd (upd (upd (upd (upd (upd (upd (upd u 2 0) 3 0) 4 (u 0)) 5 (-1)) 6 (u 1)) 7 0) 8 1) 9 (-1)) 10 0)) := hD
  refine lv_aload_n hx hb dX0_startAnew_51 rfl (lv_at hl 0 rfl) ?_
  refine lv_iconst (v := (-1)) hx hb dX0_startAnew_52 (by decide) ?_
  refine us_putU (u := (upd (upd (upd (upd (upd (upd (upd (upd (upd u 2 0) 3 0) 4 (u 0)) 5 (-1)) 6 (u 1)) 7 0) 8 1) 9 (-1)) 10 0)) hx hb htb us_inX0 hown hK hP hD hS 0 rfl 11 (by decide) (htb _ mw_74) dX0_startAnew_53 (fun H_10 locs hP hD hS => ?_)
  have hP : va_P (dC, dI) vwCl (us_wu h0 (upd (upd (upd (upd (upd (upd (upd (upd (upd (upd u 2 0) 3 0) 4 (u 0)) 5 (-1)) 6 (u 1)) 7 0) 8 1) 9 (-1)) 10 0) 11 (-1))) H_10 := hP
  have hD : va_D (us_Au h0 s.heap.size) (us_wu h0 (upd (upd (upd (upd (upd (upd (upd (upd (upd (upd u 2 0) 3 0) 4 (u 0)) 5 (-1)) 6 (u 1)) 7 0) 8 1) 9 (-1)) 10 0) 11 (-1))) := hD
  refine lv_aload_n hx hb dX0_startAnew_56 rfl (lv_at hl 0 rfl) ?_
  refine lv_iconst (v := (-1)) hx hb dX0_startAnew_57 (by decide) ?_
  refine us_putU (u := (upd (upd (upd (upd (upd (upd (upd (upd (upd (upd u 2 0) 3 0) 4 (u 0)) 5 (-1)) 6 (u 1)) 7 0) 8 1) 9 (-1)) 10 0) 11 (-1))) hx hb htb us_inX0 hown hK hP hD hS 0 rfl 12 (by decide) (htb _ mw_76) dX0_startAnew_58 (fun H_11 locs hP hD hS => ?_)
  have hP : va_P (dC, dI) vwCl (us_wu h0 (upd (upd (upd (upd (upd (upd (upd (upd (upd (upd (upd u 2 0) 3 0) 4 (u 0)) 5 (-1)) 6 (u 1)) 7 0) 8 1) 9 (-1)) 10 0) 11 (-1)) 12 (-1))) H_11 := hP
  have hD : va_D (us_Au h0 s.heap.size) (us_wu h0 (upd (upd (upd (upd (upd (upd (upd (upd (upd (upd (upd u 2 0) 3 0) 4 (u 0)) 5 (-1)) 6 (u 1)) 7 0) 8 1) 9 (-1)) 10 0) 11 (-1)) 12 (-1))) := hD
  refine lv_aload_n hx hb dX0_startAnew_61 rfl (lv_at hl 0 rfl) ?_
  refine lv_iconst (v := 0) hx hb dX0_startAnew_62 (by decide) ?_
  refine us_putU (u := (upd (upd (upd (upd (upd (upd (upd (upd (upd (upd (upd u 2 0) 3 0) 4 (u 0)) 5 (-1)) 6 (u 1)) 7 0) 8 1) 9 (-1)) 10 0) 11 (-1)) 12 (-1))) hx hb htb us_inX0 hown hK hP hD hS 0 rfl 13 (by decide) (htb _ mw_78) dX0_startAnew_63 (fun H_12 locs hP hD hS => ?_)
  have hP : va_P (dC, dI) vwCl (us_wu h0 (upd (upd (upd (upd (upd (upd (upd (upd (upd (upd (upd (upd u 2 0) 3 0) 4 (u 0)) 5 (-1)) 6 (u 1)) 7 0) 8 1) 9 (-1)) 10 0) 11 (-1)) 12 (-1)) 13 0)) H_12 := hP
  have hD : va_D (us_Au h0 s.heap.size) (us_wu h0 (upd (upd (upd (upd (upd (upd (upd (upd (upd (upd (upd (upd u 2 0) 3 0) 4 (u 0)) 5 (-1)) 6 (u 1)) 7 0) 8 1) 9 (-1)) 10 0) 11 (-1)) 12 (-1)) 13 0)) := hD
  exact W.vret hx hb hr (fun t ht hW => ⟨⟨(), rfl, trivial, us_Bu_of ht hP (by first | (simp only [sp_fresh, if_true, if_false]; done) | (simp [sp_fresh]; done))⟩, hS.F ht⟩) hS.2.2 dX0_startAnew_66
set_option maxHeartbeats 4000000 in
set_option maxRecDepth 100000 in
theorem kt_X0_canFollow (l : Launch) (sz : Nat) (p1 p2 : Int32) : Met l yX0_canFollow wsX0_canFollow ({ frames := 0, cells := 0, slots := 0, locals := 0 }) (va_Pc [.int p1, .int p2] (fun U => U.heap.size = sz)) (va_Qi (fun r (_ : Unit) => r = sp_can p1 p2) (fun _ _ => True) (us_new sz)) 0 0 (us_new sz) := by
  refine Met.ofW (cc := cX0_canFollow) (maxL := 2) (ret := (some .boolean)) (by decide) rfl ?_
  intro p e s m args below meth c s₁ B hml hv
  obtain ⟨rfl, hsz⟩ := hv
  have hx := B.exec
  have hb := B.bytes
  have hr := B.returns
  have htb := us_htb (atoms_spec (ws := wsX0_canFollow) B.pre)
  have hown : s.vm.findClass RX0 = some m.cls := findClass_of_methodNamed B.named
  have hlocks := B.notSynchronized
  subst hsz
  have hA : ∀ q : Nat, s.heap.size ≤ q → us_new s.heap.size q := fun q h => h
  have hS : va_S (us_new s.heap.size) s.heap s.heap [] := va_S.rf
  have hl := lv_entry ([.int p1, .int p2]) (n := 2) (Nat.le_of_ble_eq_true rfl)
  rw [lg_entry_eq]
  generalize (lg_sl ([.int p1, .int p2]) ++ List.replicate (2 - (lg_sl ([.int p1, .int p2])).length) Slot.unset).toArray = ls at hl ⊢
  have hl : lv_has ls 2 [(0, .int p1), (1, .int p2)] := hl
  refine lv_iload_n hx hb dX0_canFollow_0 rfl (lv_at hl 0 rfl) ?_
  by_cases k_1 : p1 = 0
  · refine lv_tableIn (tgt := 60) hx hb dX0_canFollow_1 (by rw [k_1]; decide) (by rw [k_1]; decide) (by rw [k_1]; rfl) (by decide) ?_
    refine lv_iload_n hx hb dX0_canFollow_60 rfl (lv_at hl 1 rfl) ?_
    refine lv_iconst (v := 1) hx hb dX0_canFollow_61 (by decide) ?_
    refine lv_icmp_eq (tgt := 71) hx hb dX0_canFollow_62 (by decide) (fun c_2 => ?_) (fun c_2 => ?_)
    · refine lv_iconst (v := 1) hx hb dX0_canFollow_71 (by decide) ?_
      refine lv_goto (tgt := 76) hx hb dX0_canFollow_72 (by decide) ?_
      have hsp : 1 = sp_can p1 p2 := by first | (simp only [sp_can, eq_true k_1, eq_true c_2, if_true, if_false]; done) | (simp [sp_can, k_1, c_2]; done)
      exact W.zret (v := 1) hx hb hr (us_nz (by decide)) (fun t ht hW => ⟨⟨1, (), rfl, hsp, trivial⟩, hS.F ht⟩) hS.2.2 dX0_canFollow_76
    · refine lv_iload_n hx hb dX0_canFollow_65 rfl (lv_at hl 1 rfl) ?_
      refine lv_bipush (v := 7) hx hb dX0_canFollow_66 (by decide) ?_
      refine lv_icmp_lt (tgt := 75) hx hb dX0_canFollow_68 (by decide) (fun c_3 => ?_) (fun c_3 => ?_)
      · refine lv_iconst (v := 0) hx hb dX0_canFollow_75 (by decide) ?_
        have hsp : 0 = sp_can p1 p2 := by first | (simp only [sp_can, eq_true k_1, eq_false c_2, eq_true c_3, if_true, if_false]; done) | (simp [sp_can, k_1, c_2, c_3]; done)
        exact W.zret (v := 0) hx hb hr (us_nz (by decide)) (fun t ht hW => ⟨⟨0, (), rfl, hsp, trivial⟩, hS.F ht⟩) hS.2.2 dX0_canFollow_76
      · refine lv_iconst (v := 1) hx hb dX0_canFollow_71 (by decide) ?_
        refine lv_goto (tgt := 76) hx hb dX0_canFollow_72 (by decide) ?_
        have hsp : 1 = sp_can p1 p2 := by first | (simp only [sp_can, eq_true k_1, eq_false c_2, eq_false c_3, if_true, if_false]; done) | (simp [sp_can, k_1, c_2, c_3]; done)
        exact W.zret (v := 1) hx hb hr (us_nz (by decide)) (fun t ht hW => ⟨⟨1, (), rfl, hsp, trivial⟩, hS.F ht⟩) hS.2.2 dX0_canFollow_76
  by_cases k_4 : p1 = 1
  · refine lv_tableIn (tgt := 77) hx hb dX0_canFollow_1 (by rw [k_4]; decide) (by rw [k_4]; decide) (by rw [k_4]; rfl) (by decide) ?_
    refine lv_iload_n hx hb dX0_canFollow_77 rfl (lv_at hl 1 rfl) ?_
    refine lv_iconst (v := 2) hx hb dX0_canFollow_78 (by decide) ?_
    refine lv_icmp_eq (tgt := 86) hx hb dX0_canFollow_79 (by decide) (fun c_5 => ?_) (fun c_5 => ?_)
    · refine lv_iconst (v := 1) hx hb dX0_canFollow_86 (by decide) ?_
      refine lv_goto (tgt := 91) hx hb dX0_canFollow_87 (by decide) ?_
      have hsp : 1 = sp_can p1 p2 := by first | (simp only [sp_can, eq_true k_4, eq_true c_5, if_true, if_false]; done) | (simp [sp_can, k_4, c_5]; done)
      exact W.zret (v := 1) hx hb hr (us_nz (by decide)) (fun t ht hW => ⟨⟨1, (), rfl, hsp, trivial⟩, hS.F ht⟩) hS.2.2 dX0_canFollow_91
    · refine lv_iload_n hx hb dX0_canFollow_82 rfl (lv_at hl 1 rfl) ?_
      refine lv_if_ne (tgt := 90) hx hb dX0_canFollow_83 (by decide) (fun c_6 => ?_) (fun c_6 => ?_)
      · refine lv_iconst (v := 0) hx hb dX0_canFollow_90 (by decide) ?_
        have hsp : 0 = sp_can p1 p2 := by first | (simp only [sp_can, eq_true k_4, eq_false c_5, eq_false c_6, if_true, if_false]; done) | (simp [sp_can, k_4, c_5, c_6]; done)
        exact W.zret (v := 0) hx hb hr (us_nz (by decide)) (fun t ht hW => ⟨⟨0, (), rfl, hsp, trivial⟩, hS.F ht⟩) hS.2.2 dX0_canFollow_91
      · refine lv_iconst (v := 1) hx hb dX0_canFollow_86 (by decide) ?_
        refine lv_goto (tgt := 91) hx hb dX0_canFollow_87 (by decide) ?_
        have hsp : 1 = sp_can p1 p2 := by first | (simp only [sp_can, eq_true k_4, eq_false c_5, eq_true c_6, if_true, if_false]; done) | (simp [sp_can, k_4, c_5, c_6]; done)
        exact W.zret (v := 1) hx hb hr (us_nz (by decide)) (fun t ht hW => ⟨⟨1, (), rfl, hsp, trivial⟩, hS.F ht⟩) hS.2.2 dX0_canFollow_91
  by_cases k_7 : p1 = 2
  · refine lv_tableIn (tgt := 92) hx hb dX0_canFollow_1 (by rw [k_7]; decide) (by rw [k_7]; decide) (by rw [k_7]; rfl) (by decide) ?_
    refine lv_iload_n hx hb dX0_canFollow_92 rfl (lv_at hl 1 rfl) ?_
    refine lv_iconst (v := 3) hx hb dX0_canFollow_93 (by decide) ?_
    refine lv_icmp_eq (tgt := 103) hx hb dX0_canFollow_94 (by decide) (fun c_8 => ?_) (fun c_8 => ?_)
    · refine lv_iconst (v := 1) hx hb dX0_canFollow_103 (by decide) ?_
      refine lv_goto (tgt := 108) hx hb dX0_canFollow_104 (by decide) ?_
      have hsp : 1 = sp_can p1 p2 := by first | (simp only [sp_can, eq_true k_7, eq_true c_8, if_true, if_false]; done) | (simp [sp_can, k_7, c_8]; done)
      exact W.zret (v := 1) hx hb hr (us_nz (by decide)) (fun t ht hW => ⟨⟨1, (), rfl, hsp, trivial⟩, hS.F ht⟩) hS.2.2 dX0_canFollow_108
    · refine lv_iload_n hx hb dX0_canFollow_97 rfl (lv_at hl 1 rfl) ?_
      refine lv_bipush (v := 6) hx hb dX0_canFollow_98 (by decide) ?_
      refine lv_icmp_ne (tgt := 107) hx hb dX0_canFollow_100 (by decide) (fun c_9 => ?_) (fun c_9 => ?_)
      · refine lv_iconst (v := 0) hx hb dX0_canFollow_107 (by decide) ?_
        have hsp : 0 = sp_can p1 p2 := by first | (simp only [sp_can, eq_true k_7, eq_false c_8, eq_false c_9, if_true, if_false]; done) | (simp [sp_can, k_7, c_8, c_9]; done)
        exact W.zret (v := 0) hx hb hr (us_nz (by decide)) (fun t ht hW => ⟨⟨0, (), rfl, hsp, trivial⟩, hS.F ht⟩) hS.2.2 dX0_canFollow_108
      · refine lv_iconst (v := 1) hx hb dX0_canFollow_103 (by decide) ?_
        refine lv_goto (tgt := 108) hx hb dX0_canFollow_104 (by decide) ?_
        have hsp : 1 = sp_can p1 p2 := by first | (simp only [sp_can, eq_true k_7, eq_false c_8, eq_true c_9, if_true, if_false]; done) | (simp [sp_can, k_7, c_8, c_9]; done)
        exact W.zret (v := 1) hx hb hr (us_nz (by decide)) (fun t ht hW => ⟨⟨1, (), rfl, hsp, trivial⟩, hS.F ht⟩) hS.2.2 dX0_canFollow_108
  by_cases k_10 : p1 = 3
  · refine lv_tableIn (tgt := 109) hx hb dX0_canFollow_1 (by rw [k_10]; decide) (by rw [k_10]; decide) (by rw [k_10]; rfl) (by decide) ?_
    refine lv_iload_n hx hb dX0_canFollow_109 rfl (lv_at hl 1 rfl) ?_
    refine lv_iconst (v := 4) hx hb dX0_canFollow_110 (by decide) ?_
    refine lv_icmp_eq (tgt := 119) hx hb dX0_canFollow_111 (by decide) (fun c_11 => ?_) (fun c_11 => ?_)
    · refine lv_iconst (v := 1) hx hb dX0_canFollow_119 (by decide) ?_
      refine lv_goto (tgt := 124) hx hb dX0_canFollow_120 (by decide) ?_
      have hsp : 1 = sp_can p1 p2 := by first | (simp only [sp_can, eq_true k_10, eq_true c_11, if_true, if_false]; done) | (simp [sp_can, k_10, c_11]; done)
      exact W.zret (v := 1) hx hb hr (us_nz (by decide)) (fun t ht hW => ⟨⟨1, (), rfl, hsp, trivial⟩, hS.F ht⟩) hS.2.2 dX0_canFollow_124
    · refine lv_iload_n hx hb dX0_canFollow_114 rfl (lv_at hl 1 rfl) ?_
      refine lv_iconst (v := 5) hx hb dX0_canFollow_115 (by decide) ?_
      refine lv_icmp_ne (tgt := 123) hx hb dX0_canFollow_116 (by decide) (fun c_12 => ?_) (fun c_12 => ?_)
      · refine lv_iconst (v := 0) hx hb dX0_canFollow_123 (by decide) ?_
        have hsp : 0 = sp_can p1 p2 := by first | (simp only [sp_can, eq_true k_10, eq_false c_11, eq_false c_12, if_true, if_false]; done) | (simp [sp_can, k_10, c_11, c_12]; done)
        exact W.zret (v := 0) hx hb hr (us_nz (by decide)) (fun t ht hW => ⟨⟨0, (), rfl, hsp, trivial⟩, hS.F ht⟩) hS.2.2 dX0_canFollow_124
      · refine lv_iconst (v := 1) hx hb dX0_canFollow_119 (by decide) ?_
        refine lv_goto (tgt := 124) hx hb dX0_canFollow_120 (by decide) ?_
        have hsp : 1 = sp_can p1 p2 := by first | (simp only [sp_can, eq_true k_10, eq_false c_11, eq_true c_12, if_true, if_false]; done) | (simp [sp_can, k_10, c_11, c_12]; done)
        exact W.zret (v := 1) hx hb hr (us_nz (by decide)) (fun t ht hW => ⟨⟨1, (), rfl, hsp, trivial⟩, hS.F ht⟩) hS.2.2 dX0_canFollow_124
  by_cases k_13 : p1 = 4
  · refine lv_tableIn (tgt := 125) hx hb dX0_canFollow_1 (by rw [k_13]; decide) (by rw [k_13]; decide) (by rw [k_13]; rfl) (by decide) ?_
    refine lv_iload_n hx hb dX0_canFollow_125 rfl (lv_at hl 1 rfl) ?_
    refine lv_iconst (v := 5) hx hb dX0_canFollow_126 (by decide) ?_
    refine lv_icmp_ne (tgt := 134) hx hb dX0_canFollow_127 (by decide) (fun c_14 => ?_) (fun c_14 => ?_)
    · refine lv_iconst (v := 0) hx hb dX0_canFollow_134 (by decide) ?_
      have hsp : 0 = sp_can p1 p2 := by first | (simp only [sp_can, eq_true k_13, eq_false c_14, if_true, if_false]; done) | (simp [sp_can, k_13, c_14]; done)
      exact W.zret (v := 0) hx hb hr (us_nz (by decide)) (fun t ht hW => ⟨⟨0, (), rfl, hsp, trivial⟩, hS.F ht⟩) hS.2.2 dX0_canFollow_135
    · refine lv_iconst (v := 1) hx hb dX0_canFollow_130 (by decide) ?_
      refine lv_goto (tgt := 135) hx hb dX0_canFollow_131 (by decide) ?_
      have hsp : 1 = sp_can p1 p2 := by first | (simp only [sp_can, eq_true k_13, eq_true c_14, if_true, if_false]; done) | (simp [sp_can, k_13, c_14]; done)
      exact W.zret (v := 1) hx hb hr (us_nz (by decide)) (fun t ht hW => ⟨⟨1, (), rfl, hsp, trivial⟩, hS.F ht⟩) hS.2.2 dX0_canFollow_135
  by_cases k_15 : p1 = 5
  · refine lv_tableIn (tgt := 136) hx hb dX0_canFollow_1 (by rw [k_15]; decide) (by rw [k_15]; decide) (by rw [k_15]; rfl) (by decide) ?_
    refine lv_iload_n hx hb dX0_canFollow_136 rfl (lv_at hl 1 rfl) ?_
    refine lv_iconst (v := 1) hx hb dX0_canFollow_137 (by decide) ?_
    refine lv_icmp_eq (tgt := 147) hx hb dX0_canFollow_138 (by decide) (fun c_16 => ?_) (fun c_16 => ?_)
    · refine lv_iconst (v := 1) hx hb dX0_canFollow_147 (by decide) ?_
      refine lv_goto (tgt := 152) hx hb dX0_canFollow_148 (by decide) ?_
      have hsp : 1 = sp_can p1 p2 := by first | (simp only [sp_can, eq_true k_15, eq_true c_16, if_true, if_false]; done) | (simp [sp_can, k_15, c_16]; done)
      exact W.zret (v := 1) hx hb hr (us_nz (by decide)) (fun t ht hW => ⟨⟨1, (), rfl, hsp, trivial⟩, hS.F ht⟩) hS.2.2 dX0_canFollow_152
    · refine lv_iload_n hx hb dX0_canFollow_141 rfl (lv_at hl 1 rfl) ?_
      refine lv_bipush (v := 6) hx hb dX0_canFollow_142 (by decide) ?_
      refine lv_icmp_ne (tgt := 151) hx hb dX0_canFollow_144 (by decide) (fun c_17 => ?_) (fun c_17 => ?_)
      · refine lv_iconst (v := 0) hx hb dX0_canFollow_151 (by decide) ?_
        have hsp : 0 = sp_can p1 p2 := by first | (simp only [sp_can, eq_true k_15, eq_false c_16, eq_false c_17, if_true, if_false]; done) | (simp [sp_can, k_15, c_16, c_17]; done)
        exact W.zret (v := 0) hx hb hr (us_nz (by decide)) (fun t ht hW => ⟨⟨0, (), rfl, hsp, trivial⟩, hS.F ht⟩) hS.2.2 dX0_canFollow_152
      · refine lv_iconst (v := 1) hx hb dX0_canFollow_147 (by decide) ?_
        refine lv_goto (tgt := 152) hx hb dX0_canFollow_148 (by decide) ?_
        have hsp : 1 = sp_can p1 p2 := by first | (simp only [sp_can, eq_true k_15, eq_false c_16, eq_true c_17, if_true, if_false]; done) | (simp [sp_can, k_15, c_16, c_17]; done)
        exact W.zret (v := 1) hx hb hr (us_nz (by decide)) (fun t ht hW => ⟨⟨1, (), rfl, hsp, trivial⟩, hS.F ht⟩) hS.2.2 dX0_canFollow_152
  by_cases k_18 : p1 = 6
  · refine lv_tableIn (tgt := 153) hx hb dX0_canFollow_1 (by rw [k_18]; decide) (by rw [k_18]; decide) (by rw [k_18]; rfl) (by decide) ?_
    refine lv_iload_n hx hb dX0_canFollow_153 rfl (lv_at hl 1 rfl) ?_
    refine lv_if_eq (tgt := 168) hx hb dX0_canFollow_154 (by decide) (fun c_19 => ?_) (fun c_19 => ?_)
    · refine lv_iconst (v := 1) hx hb dX0_canFollow_168 (by decide) ?_
      refine lv_goto (tgt := 173) hx hb dX0_canFollow_169 (by decide) ?_
      have hsp : 1 = sp_can p1 p2 := by first | (simp only [sp_can, eq_true k_18, eq_true c_19, if_true, if_false]; done) | (simp [sp_can, k_18, c_19]; done)
      exact W.zret (v := 1) hx hb hr (us_nz (by decide)) (fun t ht hW => ⟨⟨1, (), rfl, hsp, trivial⟩, hS.F ht⟩) hS.2.2 dX0_canFollow_173
    · refine lv_iload_n hx hb dX0_canFollow_157 rfl (lv_at hl 1 rfl) ?_
      refine lv_iconst (v := 1) hx hb dX0_canFollow_158 (by decide) ?_
      refine lv_icmp_eq (tgt := 168) hx hb dX0_canFollow_159 (by decide) (fun c_20 => ?_) (fun c_20 => ?_)
      · refine lv_iconst (v := 1) hx hb dX0_canFollow_168 (by decide) ?_
        refine lv_goto (tgt := 173) hx hb dX0_canFollow_169 (by decide) ?_
        have hsp : 1 = sp_can p1 p2 := by first | (simp only [sp_can, eq_true k_18, eq_false c_19, eq_true c_20, if_true, if_false]; done) | (simp [sp_can, k_18, c_19, c_20]; done)
        exact W.zret (v := 1) hx hb hr (us_nz (by decide)) (fun t ht hW => ⟨⟨1, (), rfl, hsp, trivial⟩, hS.F ht⟩) hS.2.2 dX0_canFollow_173
      · refine lv_iload_n hx hb dX0_canFollow_162 rfl (lv_at hl 1 rfl) ?_
        refine lv_bipush (v := 7) hx hb dX0_canFollow_163 (by decide) ?_
        refine lv_icmp_ne (tgt := 172) hx hb dX0_canFollow_165 (by decide) (fun c_21 => ?_) (fun c_21 => ?_)
        · refine lv_iconst (v := 0) hx hb dX0_canFollow_172 (by decide) ?_
          have hsp : 0 = sp_can p1 p2 := by first | (simp only [sp_can, eq_true k_18, eq_false c_19, eq_false c_20, eq_false c_21, if_true, if_false]; done) | (simp [sp_can, k_18, c_19, c_20, c_21]; done)
          exact W.zret (v := 0) hx hb hr (us_nz (by decide)) (fun t ht hW => ⟨⟨0, (), rfl, hsp, trivial⟩, hS.F ht⟩) hS.2.2 dX0_canFollow_173
        · refine lv_iconst (v := 1) hx hb dX0_canFollow_168 (by decide) ?_
          refine lv_goto (tgt := 173) hx hb dX0_canFollow_169 (by decide) ?_
          have hsp : 1 = sp_can p1 p2 := by first | (simp only [sp_can, eq_true k_18, eq_false c_19, eq_false c_20, eq_true c_21, if_true, if_false]; done) | (simp [sp_can, k_18, c_19, c_20, c_21]; done)
          exact W.zret (v := 1) hx hb hr (us_nz (by decide)) (fun t ht hW => ⟨⟨1, (), rfl, hsp, trivial⟩, hS.F ht⟩) hS.2.2 dX0_canFollow_173
  by_cases k_22 : p1 = 7
  · refine lv_tableIn (tgt := 174) hx hb dX0_canFollow_1 (by rw [k_22]; decide) (by rw [k_22]; decide) (by rw [k_22]; rfl) (by decide) ?_
    refine lv_iload_n hx hb dX0_canFollow_174 rfl (lv_at hl 1 rfl) ?_
    refine lv_if_eq (tgt := 184) hx hb dX0_canFollow_175 (by decide) (fun c_23 => ?_) (fun c_23 => ?_)
    · refine lv_iconst (v := 1) hx hb dX0_canFollow_184 (by decide) ?_
      refine lv_goto (tgt := 189) hx hb dX0_canFollow_185 (by decide) ?_
      have hsp : 1 = sp_can p1 p2 := by first | (simp only [sp_can, eq_true k_22, eq_true c_23, if_true, if_false]; done) | (simp [sp_can, k_22, c_23]; done)
      exact W.zret (v := 1) hx hb hr (us_nz (by decide)) (fun t ht hW => ⟨⟨1, (), rfl, hsp, trivial⟩, hS.F ht⟩) hS.2.2 dX0_canFollow_189
    · refine lv_iload_n hx hb dX0_canFollow_178 rfl (lv_at hl 1 rfl) ?_
      refine lv_bipush (v := 6) hx hb dX0_canFollow_179 (by decide) ?_
      refine lv_icmp_ne (tgt := 188) hx hb dX0_canFollow_181 (by decide) (fun c_24 => ?_) (fun c_24 => ?_)
      · refine lv_iconst (v := 0) hx hb dX0_canFollow_188 (by decide) ?_
        have hsp : 0 = sp_can p1 p2 := by first | (simp only [sp_can, eq_true k_22, eq_false c_23, eq_false c_24, if_true, if_false]; done) | (simp [sp_can, k_22, c_23, c_24]; done)
        exact W.zret (v := 0) hx hb hr (us_nz (by decide)) (fun t ht hW => ⟨⟨0, (), rfl, hsp, trivial⟩, hS.F ht⟩) hS.2.2 dX0_canFollow_189
      · refine lv_iconst (v := 1) hx hb dX0_canFollow_184 (by decide) ?_
        refine lv_goto (tgt := 189) hx hb dX0_canFollow_185 (by decide) ?_
        have hsp : 1 = sp_can p1 p2 := by first | (simp only [sp_can, eq_true k_22, eq_false c_23, eq_true c_24, if_true, if_false]; done) | (simp [sp_can, k_22, c_23, c_24]; done)
        exact W.zret (v := 1) hx hb hr (us_nz (by decide)) (fun t ht hW => ⟨⟨1, (), rfl, hsp, trivial⟩, hS.F ht⟩) hS.2.2 dX0_canFollow_189
  by_cases k_25 : p1 = 8
  · refine lv_tableIn (tgt := 190) hx hb dX0_canFollow_1 (by rw [k_25]; decide) (by rw [k_25]; decide) (by rw [k_25]; rfl) (by decide) ?_
    refine lv_iload_n hx hb dX0_canFollow_190 rfl (lv_at hl 1 rfl) ?_
    refine lv_if_eq (tgt := 200) hx hb dX0_canFollow_191 (by decide) (fun c_26 => ?_) (fun c_26 => ?_)
    · refine lv_iconst (v := 1) hx hb dX0_canFollow_200 (by decide) ?_
      refine lv_goto (tgt := 205) hx hb dX0_canFollow_201 (by decide) ?_
      have hsp : 1 = sp_can p1 p2 := by first | (simp only [sp_can, eq_true k_25, eq_true c_26, if_true, if_false]; done) | (simp [sp_can, k_25, c_26]; done)
      exact W.zret (v := 1) hx hb hr (us_nz (by decide)) (fun t ht hW => ⟨⟨1, (), rfl, hsp, trivial⟩, hS.F ht⟩) hS.2.2 dX0_canFollow_205
    · refine lv_iload_n hx hb dX0_canFollow_194 rfl (lv_at hl 1 rfl) ?_
      refine lv_bipush (v := 9) hx hb dX0_canFollow_195 (by decide) ?_
      refine lv_icmp_ne (tgt := 204) hx hb dX0_canFollow_197 (by decide) (fun c_27 => ?_) (fun c_27 => ?_)
      · refine lv_iconst (v := 0) hx hb dX0_canFollow_204 (by decide) ?_
        have hsp : 0 = sp_can p1 p2 := by first | (simp only [sp_can, eq_true k_25, eq_false c_26, eq_false c_27, if_true, if_false]; done) | (simp [sp_can, k_25, c_26, c_27]; done)
        exact W.zret (v := 0) hx hb hr (us_nz (by decide)) (fun t ht hW => ⟨⟨0, (), rfl, hsp, trivial⟩, hS.F ht⟩) hS.2.2 dX0_canFollow_205
      · refine lv_iconst (v := 1) hx hb dX0_canFollow_200 (by decide) ?_
        refine lv_goto (tgt := 205) hx hb dX0_canFollow_201 (by decide) ?_
        have hsp : 1 = sp_can p1 p2 := by first | (simp only [sp_can, eq_true k_25, eq_false c_26, eq_true c_27, if_true, if_false]; done) | (simp [sp_can, k_25, c_26, c_27]; done)
        exact W.zret (v := 1) hx hb hr (us_nz (by decide)) (fun t ht hW => ⟨⟨1, (), rfl, hsp, trivial⟩, hS.F ht⟩) hS.2.2 dX0_canFollow_205
  by_cases k_28 : p1 = 9
  · refine lv_tableIn (tgt := 206) hx hb dX0_canFollow_1 (by rw [k_28]; decide) (by rw [k_28]; decide) (by rw [k_28]; rfl) (by decide) ?_
    refine lv_iload_n hx hb dX0_canFollow_206 rfl (lv_at hl 1 rfl) ?_
    refine lv_if_eq (tgt := 216) hx hb dX0_canFollow_207 (by decide) (fun c_29 => ?_) (fun c_29 => ?_)
    · refine lv_iconst (v := 1) hx hb dX0_canFollow_216 (by decide) ?_
      refine lv_goto (tgt := 221) hx hb dX0_canFollow_217 (by decide) ?_
      have hsp : 1 = sp_can p1 p2 := by first | (simp only [sp_can, eq_true k_28, eq_true c_29, if_true, if_false]; done) | (simp [sp_can, k_28, c_29]; done)
      exact W.zret (v := 1) hx hb hr (us_nz (by decide)) (fun t ht hW => ⟨⟨1, (), rfl, hsp, trivial⟩, hS.F ht⟩) hS.2.2 dX0_canFollow_221
    · refine lv_iload_n hx hb dX0_canFollow_210 rfl (lv_at hl 1 rfl) ?_
      refine lv_bipush (v := 8) hx hb dX0_canFollow_211 (by decide) ?_
      refine lv_icmp_ne (tgt := 220) hx hb dX0_canFollow_213 (by decide) (fun c_30 => ?_) (fun c_30 => ?_)
      · refine lv_iconst (v := 0) hx hb dX0_canFollow_220 (by decide) ?_
        have hsp : 0 = sp_can p1 p2 := by first | (simp only [sp_can, eq_true k_28, eq_false c_29, eq_false c_30, if_true, if_false]; done) | (simp [sp_can, k_28, c_29, c_30]; done)
        exact W.zret (v := 0) hx hb hr (us_nz (by decide)) (fun t ht hW => ⟨⟨0, (), rfl, hsp, trivial⟩, hS.F ht⟩) hS.2.2 dX0_canFollow_221
      · refine lv_iconst (v := 1) hx hb dX0_canFollow_216 (by decide) ?_
        refine lv_goto (tgt := 221) hx hb dX0_canFollow_217 (by decide) ?_
        have hsp : 1 = sp_can p1 p2 := by first | (simp only [sp_can, eq_true k_28, eq_false c_29, eq_true c_30, if_true, if_false]; done) | (simp [sp_can, k_28, c_29, c_30]; done)
        exact W.zret (v := 1) hx hb hr (us_nz (by decide)) (fun t ht hW => ⟨⟨1, (), rfl, hsp, trivial⟩, hS.F ht⟩) hS.2.2 dX0_canFollow_221
  by_cases k_31 : p1 = 10
  · refine lv_tableIn (tgt := 222) hx hb dX0_canFollow_1 (by rw [k_31]; decide) (by rw [k_31]; decide) (by rw [k_31]; rfl) (by decide) ?_
    refine lv_iload_n hx hb dX0_canFollow_222 rfl (lv_at hl 1 rfl) ?_
    refine lv_if_eq (tgt := 232) hx hb dX0_canFollow_223 (by decide) (fun c_32 => ?_) (fun c_32 => ?_)
    · refine lv_iconst (v := 1) hx hb dX0_canFollow_232 (by decide) ?_
      refine lv_goto (tgt := 237) hx hb dX0_canFollow_233 (by decide) ?_
      have hsp : 1 = sp_can p1 p2 := by first | (simp only [sp_can, eq_true k_31, eq_true c_32, if_true, if_false]; done) | (simp [sp_can, k_31, c_32]; done)
      exact W.zret (v := 1) hx hb hr (us_nz (by decide)) (fun t ht hW => ⟨⟨1, (), rfl, hsp, trivial⟩, hS.F ht⟩) hS.2.2 dX0_canFollow_237
    · refine lv_iload_n hx hb dX0_canFollow_226 rfl (lv_at hl 1 rfl) ?_
      refine lv_bipush (v := 9) hx hb dX0_canFollow_227 (by decide) ?_
      refine lv_icmp_ne (tgt := 236) hx hb dX0_canFollow_229 (by decide) (fun c_33 => ?_) (fun c_33 => ?_)
      · refine lv_iconst (v := 0) hx hb dX0_canFollow_236 (by decide) ?_
        have hsp : 0 = sp_can p1 p2 := by first | (simp only [sp_can, eq_true k_31, eq_false c_32, eq_false c_33, if_true, if_false]; done) | (simp [sp_can, k_31, c_32, c_33]; done)
        exact W.zret (v := 0) hx hb hr (us_nz (by decide)) (fun t ht hW => ⟨⟨0, (), rfl, hsp, trivial⟩, hS.F ht⟩) hS.2.2 dX0_canFollow_237
      · refine lv_iconst (v := 1) hx hb dX0_canFollow_232 (by decide) ?_
        refine lv_goto (tgt := 237) hx hb dX0_canFollow_233 (by decide) ?_
        have hsp : 1 = sp_can p1 p2 := by first | (simp only [sp_can, eq_true k_31, eq_false c_32, eq_true c_33, if_true, if_false]; done) | (simp [sp_can, k_31, c_32, c_33]; done)
        exact W.zret (v := 1) hx hb hr (us_nz (by decide)) (fun t ht hW => ⟨⟨1, (), rfl, hsp, trivial⟩, hS.F ht⟩) hS.2.2 dX0_canFollow_237
  have hout_1 : p1.toInt < 0 ∨ 10 < p1.toInt := us_sw (lo := 0) (hi := 10) (fun z h1 h2 => by
    rcases (show z = 0 ∨ z = 1 ∨ z = 2 ∨ z = 3 ∨ z = 4 ∨ z = 5 ∨ z = 6 ∨ z = 7 ∨ z = 8 ∨ z = 9 ∨ z = 10 by omega) with rfl | rfl | rfl | rfl | rfl | rfl | rfl | rfl | rfl | rfl | rfl
    · exact fun e => k_1 (e.trans (by decide))
    · exact fun e => k_4 (e.trans (by decide))
    · exact fun e => k_7 (e.trans (by decide))
    · exact fun e => k_10 (e.trans (by decide))
    · exact fun e => k_13 (e.trans (by decide))
    · exact fun e => k_15 (e.trans (by decide))
    · exact fun e => k_18 (e.trans (by decide))
    · exact fun e => k_22 (e.trans (by decide))
    · exact fun e => k_25 (e.trans (by decide))
    · exact fun e => k_28 (e.trans (by decide))
    · exact fun e => k_31 (e.trans (by decide)))
  refine lv_tableOut (tgt := 238) hx hb dX0_canFollow_1 hout_1 (by decide) ?_
  refine lv_iconst (v := 0) hx hb dX0_canFollow_238 (by decide) ?_
  have hsp : 0 = sp_can p1 p2 := by first | (simp only [sp_can, eq_false k_1, eq_false k_4, eq_false k_7, eq_false k_10, eq_false k_13, eq_false k_15, eq_false k_18, eq_false k_22, eq_false k_25, eq_false k_28, eq_false k_31, if_true, if_false]; done) | (simp [sp_can, k_1, k_4, k_7, k_10, k_13, k_15, k_18, k_22, k_25, k_28, k_31]; done)
  exact W.zret (v := 0) hx hb hr (us_nz (by decide)) (fun t ht hW => ⟨⟨0, (), rfl, hsp, trivial⟩, hS.F ht⟩) hS.2.2 dX0_canFollow_239
set_option maxHeartbeats 4000000 in
set_option maxRecDepth 100000 in
theorem kt_X0_needsCrew (l : Launch) (sz : Nat) (p1 : Int32) : Met l yX0_needsCrew wsX0_needsCrew ({ frames := 0, cells := 0, slots := 0, locals := 0 }) (va_Pc [.int p1] (fun U => U.heap.size = sz)) (va_Qi (fun r (_ : Unit) => r = sp_nc p1) (fun _ _ => True) (us_new sz)) 0 0 (us_new sz) := by
  refine Met.ofW (cc := cX0_needsCrew) (maxL := 1) (ret := (some .boolean)) (by decide) rfl ?_
  intro p e s m args below meth c s₁ B hml hv
  obtain ⟨rfl, hsz⟩ := hv
  have hx := B.exec
  have hb := B.bytes
  have hr := B.returns
  have htb := us_htb (atoms_spec (ws := wsX0_needsCrew) B.pre)
  have hown : s.vm.findClass RX0 = some m.cls := findClass_of_methodNamed B.named
  have hlocks := B.notSynchronized
  subst hsz
  have hA : ∀ q : Nat, s.heap.size ≤ q → us_new s.heap.size q := fun q h => h
  have hS : va_S (us_new s.heap.size) s.heap s.heap [] := va_S.rf
  have hl := lv_entry ([.int p1]) (n := 1) (Nat.le_of_ble_eq_true rfl)
  rw [lg_entry_eq]
  generalize (lg_sl ([.int p1]) ++ List.replicate (1 - (lg_sl ([.int p1])).length) Slot.unset).toArray = ls at hl ⊢
  have hl : lv_has ls 1 [(0, .int p1)] := hl
  refine lv_iload_n hx hb dX0_needsCrew_0 rfl (lv_at hl 0 rfl) ?_
  refine lv_iconst (v := 2) hx hb dX0_needsCrew_1 (by decide) ?_
  refine lv_icmp_lt (tgt := 14) hx hb dX0_needsCrew_2 (by decide) (fun c_1 => ?_) (fun c_1 => ?_)
  · refine lv_iconst (v := 0) hx hb dX0_needsCrew_14 (by decide) ?_
    have hsp : 0 = sp_nc p1 := by first | (simp only [sp_nc, eq_true c_1, if_true, if_false]; done) | (simp [sp_nc, c_1]; done)
    exact W.zret (v := 0) hx hb hr (us_nz (by decide)) (fun t ht hW => ⟨⟨0, (), rfl, hsp, trivial⟩, hS.F ht⟩) hS.2.2 dX0_needsCrew_15
  · refine lv_iload_n hx hb dX0_needsCrew_5 rfl (lv_at hl 0 rfl) ?_
    refine lv_iconst (v := 4) hx hb dX0_needsCrew_6 (by decide) ?_
    refine lv_icmp_gt (tgt := 14) hx hb dX0_needsCrew_7 (by decide) (fun c_2 => ?_) (fun c_2 => ?_)
    · refine lv_iconst (v := 0) hx hb dX0_needsCrew_14 (by decide) ?_
      have hsp : 0 = sp_nc p1 := by first | (simp only [sp_nc, eq_false c_1, eq_true c_2, if_true, if_false]; done) | (simp [sp_nc, c_1, c_2]; done)
      exact W.zret (v := 0) hx hb hr (us_nz (by decide)) (fun t ht hW => ⟨⟨0, (), rfl, hsp, trivial⟩, hS.F ht⟩) hS.2.2 dX0_needsCrew_15
    · refine lv_iconst (v := 1) hx hb dX0_needsCrew_10 (by decide) ?_
      refine lv_goto (tgt := 15) hx hb dX0_needsCrew_11 (by decide) ?_
      have hsp : 1 = sp_nc p1 := by first | (simp only [sp_nc, eq_false c_1, eq_false c_2, if_true, if_false]; done) | (simp [sp_nc, c_1, c_2]; done)
      exact W.zret (v := 1) hx hb hr (us_nz (by decide)) (fun t ht hW => ⟨⟨1, (), rfl, hsp, trivial⟩, hS.F ht⟩) hS.2.2 dX0_needsCrew_15
set_option maxHeartbeats 4000000 in
set_option maxRecDepth 100000 in
theorem kt_X0_isRestful (l : Launch) (dC : Nat → ClassId) (dI : Nat → Nat → Nat) (h0 : Nat) (sz : Nat) (u : Nat → Int32) : Met l yX0_isRestful wsX0_isRestful ({ frames := 0, cells := 0, slots := 0, locals := 0 }) (va_Pc [.ref h0] (us_Pu dC dI h0 u sz)) (va_Qi (fun r (_ : Unit) => r = sp_rest u) (fun _ _ => True) (us_new sz)) 0 0 (us_new sz) := by
  refine Met.ofW (cc := cX0_isRestful) (maxL := 1) (ret := (some .boolean)) (by decide) rfl ?_
  intro p e s m args below meth c s₁ B hml hv
  obtain ⟨rfl, hsz, hP, hK⟩ := hv
  have hx := B.exec
  have hb := B.bytes
  have hr := B.returns
  have htb := us_htb (atoms_spec (ws := wsX0_isRestful) B.pre)
  have hown : s.vm.findClass RX0 = some m.cls := findClass_of_methodNamed B.named
  have hlocks := B.notSynchronized
  subst hsz
  have hA : ∀ q : Nat, s.heap.size ≤ q → us_new s.heap.size q := fun q h => h
  have hS : va_S (us_new s.heap.size) s.heap s.heap [] := va_S.rf
  have hP : va_P (dC, dI) vwCl (us_wu h0 u) s.heap := hP
  have hl := lv_entry ([.ref h0]) (n := 1) (Nat.le_of_ble_eq_true rfl)
  rw [lg_entry_eq]
  generalize (lg_sl ([.ref h0]) ++ List.replicate (1 - (lg_sl ([.ref h0])).length) Slot.unset).toArray = ls at hl ⊢
  have hl : lv_has ls 1 [(0, .ref h0)] := hl
  refine lv_aload_n hx hb dX0_isRestful_0 rfl (lv_at hl 0 rfl) ?_
  refine us_getU (v := (u 2)) hx hb htb us_inX0 hown hK hP 0 rfl 2 (by decide) (htb _ mw_58) rfl dX0_isRestful_1 ?_
  refine lv_if_eq (tgt := 16) hx hb dX0_isRestful_4 (by decide) (fun c_1 => ?_) (fun c_1 => ?_)
  · refine lv_iconst (v := 1) hx hb dX0_isRestful_16 (by decide) ?_
    refine lv_goto (tgt := 21) hx hb dX0_isRestful_17 (by decide) ?_
    have hsp : 1 = sp_rest u := by first | (simp only [sp_rest, eq_true c_1, if_true, if_false]; done) | (simp [sp_rest, c_1]; done)
    exact W.zret (v := 1) hx hb hr (us_nz (by decide)) (fun t ht hW => ⟨⟨1, (), rfl, hsp, trivial⟩, hS.F ht⟩) hS.2.2 dX0_isRestful_21
  · refine lv_aload_n hx hb dX0_isRestful_7 rfl (lv_at hl 0 rfl) ?_
    refine us_getU (v := (u 2)) hx hb htb us_inX0 hown hK hP 0 rfl 2 (by decide) (htb _ mw_58) rfl dX0_isRestful_8 ?_
    refine lv_bipush (v := 7) hx hb dX0_isRestful_11 (by decide) ?_
    refine lv_icmp_lt (tgt := 20) hx hb dX0_isRestful_13 (by decide) (fun c_2 => ?_) (fun c_2 => ?_)
    · refine lv_iconst (v := 0) hx hb dX0_isRestful_20 (by decide) ?_
      have hsp : 0 = sp_rest u := by first | (simp only [sp_rest, eq_false c_1, eq_true c_2, if_true, if_false]; done) | (simp [sp_rest, c_1, c_2]; done)
      exact W.zret (v := 0) hx hb hr (us_nz (by decide)) (fun t ht hW => ⟨⟨0, (), rfl, hsp, trivial⟩, hS.F ht⟩) hS.2.2 dX0_isRestful_21
    · refine lv_iconst (v := 1) hx hb dX0_isRestful_16 (by decide) ?_
      refine lv_goto (tgt := 21) hx hb dX0_isRestful_17 (by decide) ?_
      have hsp : 1 = sp_rest u := by first | (simp only [sp_rest, eq_false c_1, eq_false c_2, if_true, if_false]; done) | (simp [sp_rest, c_1, c_2]; done)
      exact W.zret (v := 1) hx hb hr (us_nz (by decide)) (fun t ht hW => ⟨⟨1, (), rfl, hsp, trivial⟩, hS.F ht⟩) hS.2.2 dX0_isRestful_21
set_option maxHeartbeats 4000000 in
set_option maxRecDepth 100000 in
theorem kt_X0_drivenUpTo (l : Launch) (dC : Nat → ClassId) (dI : Nat → Nat → Nat) (h0 : Nat) (sz : Nat) (u : Nat → Int32) (p1 : Int32) : Met l yX0_drivenUpTo wsX0_drivenUpTo ({ frames := 1, cells := 0, slots := 0, locals := 20 }) (va_Pc [.ref h0, .int p1] (us_Pu dC dI h0 u sz)) (va_Qi (fun r (_ : Unit) => r = sp_dr u p1) (fun _ _ => True) (us_new sz)) 0 0 (us_new sz) := by
  refine Met.ofW (cc := cX0_drivenUpTo) (maxL := 3) (ret := (some .int)) (by decide) rfl ?_
  intro p e s m args below meth c s₁ B hml hv
  obtain ⟨rfl, hsz, hP, hK⟩ := hv
  have hx := B.exec
  have hb := B.bytes
  have hr := B.returns
  have htb := us_htb (atoms_spec (ws := wsX0_drivenUpTo) B.pre)
  have hown : s.vm.findClass RX0 = some m.cls := findClass_of_methodNamed B.named
  have hlocks := B.notSynchronized
  subst hsz
  have hA : ∀ q : Nat, s.heap.size ≤ q → us_new s.heap.size q := fun q h => h
  have hS : va_S (us_new s.heap.size) s.heap s.heap [] := va_S.rf
  have hP : va_P (dC, dI) vwCl (us_wu h0 u) s.heap := hP
  have hl := lv_entry ([.ref h0, .int p1]) (n := 3) (Nat.le_of_ble_eq_true rfl)
  rw [lg_entry_eq]
  generalize (lg_sl ([.ref h0, .int p1]) ++ List.replicate (3 - (lg_sl ([.ref h0, .int p1])).length) Slot.unset).toArray = ls at hl ⊢
  have hl : lv_has ls 3 [(0, .ref h0), (1, .int p1)] := hl
  refine lv_iload_n hx hb dX0_drivenUpTo_0 rfl (lv_at hl 1 rfl) ?_
  refine lv_aload_n hx hb dX0_drivenUpTo_1 rfl (lv_at hl 0 rfl) ?_
  refine us_getU (v := (u 3)) hx hb htb us_inX0 hown hK hP 0 rfl 3 (by decide) (htb _ mw_60) rfl dX0_drivenUpTo_2 ?_
  refine lv_isub hx hb dX0_drivenUpTo_5 ?_
  refine lv_istore_n (lv' := [(2, .int (p1 - (u 3))), (0, .ref h0), (1, .int p1)]) hx hb dX0_drivenUpTo_6 rfl hl (by decide) rfl (fun ls hl => ?_)
  refine lv_aload_n hx hb dX0_drivenUpTo_7 rfl (lv_at hl 1 rfl) ?_
  refine us_getU (v := (u 2)) hx hb htb us_inX0 hown hK hP 0 rfl 2 (by decide) (htb _ mw_58) rfl dX0_drivenUpTo_8 ?_
  refine lv_iconst (v := 2) hx hb dX0_drivenUpTo_11 (by decide) ?_
  refine lv_icmp_eq (tgt := 24) hx hb dX0_drivenUpTo_12 (by decide) (fun c_1 => ?_) (fun c_1 => ?_)
  · refine lv_aload_n hx hb dX0_drivenUpTo_24 rfl (lv_at hl 1 rfl) ?_
    refine us_getU (v := (u 13)) hx hb htb us_inX0 hown hK hP 0 rfl 13 (by decide) (htb _ mw_78) rfl dX0_drivenUpTo_25 ?_
    refine lv_iload_n hx hb dX0_drivenUpTo_28 rfl (lv_at hl 0 rfl) ?_
    refine lv_iadd hx hb dX0_drivenUpTo_29 ?_
    have hsp : ((u 13) + (p1 - (u 3))) = sp_dr u p1 := by first | (simp only [sp_dr, eq_true c_1, if_true, if_false]; done) | (simp [sp_dr, c_1]; done)
    exact W.iret (v := ((u 13) + (p1 - (u 3)))) hx hb hr (fun t ht hW => ⟨⟨((u 13) + (p1 - (u 3))), (), rfl, hsp, trivial⟩, hS.F ht⟩) hS.2.2 dX0_drivenUpTo_30
  · refine lv_aload_n hx hb dX0_drivenUpTo_15 rfl (lv_at hl 1 rfl) ?_
    refine us_getU (v := (u 2)) hx hb htb us_inX0 hown hK hP 0 rfl 2 (by decide) (htb _ mw_58) rfl dX0_drivenUpTo_16 ?_
    refine lv_bipush (v := 6) hx hb dX0_drivenUpTo_19 (by decide) ?_
    refine lv_icmp_ne (tgt := 31) hx hb dX0_drivenUpTo_21 (by decide) (fun c_2 => ?_) (fun c_2 => ?_)
    · refine lv_aload_n hx hb dX0_drivenUpTo_31 rfl (lv_at hl 1 rfl) ?_
      refine va_calli (va_runV (As := []) (rest := []) ⟨hx, hb, hml, hown, htb⟩ (kt_X0_isRestful l dC dI h0 s.heap.size u) (cwV 0 htb (us_gV mw_327 mw_329 mw_11 mw_33 mw_330) rfl rfl rfl (by decide +kernel) ⟨Nat.le_of_ble_eq_true rfl, Nat.le_of_ble_eq_true rfl⟩) ⟨us_Pu_blind, va_recv hK hP (ci := 0) (q0 := 0) rfl rfl, fun U hU hW => ⟨rfl, us_Pu_at hP hK hU hW⟩⟩ rfl rfl hl.1 rfl (lv_room (Nat.le_of_ble_eq_true rfl)) dX0_drivenUpTo_32 ⟨Nat.le_of_ble_eq_true rfl, Nat.le_of_ble_eq_true rfl⟩) hS (fun q h1 h2 => absurd h2 (Nat.not_le.mpr h1)) (fun q h => hA q (Nat.le_trans hS.1 h)) (fun r_4 _ t_5 H_3 locs ht hvm hw hB hz1 hk1 hS => ?_)
      subst hw
      have hP := us_mono hP (fun q h => hk1 q h (Nat.not_le.mpr h))
      refine lv_if_eq (tgt := 48) hx hb dX0_drivenUpTo_35 (by decide) (fun c_6 => ?_) (fun c_6 => ?_)
      · refine lv_aload_n hx hb dX0_drivenUpTo_48 rfl (lv_at hl 1 rfl) ?_
        refine us_getU (v := (u 13)) hx hb htb us_inX0 hown hK hP 0 rfl 13 (by decide) (htb _ mw_78) rfl dX0_drivenUpTo_49 ?_
        have hsp : (u 13) = sp_dr u p1 := by first | (simp only [sp_dr, eq_false c_1, eq_false c_2, eq_true c_6, if_true, if_false]; done) | (simp [sp_dr, c_1, c_2, c_6]; done)
        exact W.iret (v := (u 13)) hx hb hr (fun t ht hW => ⟨⟨(u 13), (), rfl, hsp, trivial⟩, hS.F ht⟩) hS.2.2 dX0_drivenUpTo_52
      · refine lv_iload_n hx hb dX0_drivenUpTo_38 rfl (lv_at hl 0 rfl) ?_
        refine lv_bipush (v := 30) hx hb dX0_drivenUpTo_39 (by decide) ?_
        refine lv_icmp_lt (tgt := 48) hx hb dX0_drivenUpTo_41 (by decide) (fun c_7 => ?_) (fun c_7 => ?_)
        · refine lv_aload_n hx hb dX0_drivenUpTo_48 rfl (lv_at hl 1 rfl) ?_
          refine us_getU (v := (u 13)) hx hb htb us_inX0 hown hK hP 0 rfl 13 (by decide) (htb _ mw_78) rfl dX0_drivenUpTo_49 ?_
          have hsp : (u 13) = sp_dr u p1 := by first | (simp only [sp_dr, eq_false c_1, eq_false c_2, eq_false c_6, eq_true c_7, if_true, if_false]; done) | (simp [sp_dr, c_1, c_2, c_6, c_7]; done)
          exact W.iret (v := (u 13)) hx hb hr (fun t ht hW => ⟨⟨(u 13), (), rfl, hsp, trivial⟩, hS.F ht⟩) hS.2.2 dX0_drivenUpTo_52
        · refine lv_iconst (v := 0) hx hb dX0_drivenUpTo_44 (by decide) ?_
          refine lv_goto (tgt := 52) hx hb dX0_drivenUpTo_45 (by decide) ?_
          have hsp : 0 = sp_dr u p1 := by first | (simp only [sp_dr, eq_false c_1, eq_false c_2, eq_false c_6, eq_false c_7, if_true, if_false]; done) | (simp [sp_dr, c_1, c_2, c_6, c_7]; done)
          exact W.iret (v := 0) hx hb hr (fun t ht hW => ⟨⟨0, (), rfl, hsp, trivial⟩, hS.F ht⟩) hS.2.2 dX0_drivenUpTo_52
    · refine lv_aload_n hx hb dX0_drivenUpTo_24 rfl (lv_at hl 1 rfl) ?_
      refine us_getU (v := (u 13)) hx hb htb us_inX0 hown hK hP 0 rfl 13 (by decide) (htb _ mw_78) rfl dX0_drivenUpTo_25 ?_
      refine lv_iload_n hx hb dX0_drivenUpTo_28 rfl (lv_at hl 0 rfl) ?_
      refine lv_iadd hx hb dX0_drivenUpTo_29 ?_
      have hsp : ((u 13) + (p1 - (u 3))) = sp_dr u p1 := by first | (simp only [sp_dr, eq_false c_1, eq_true c_2, if_true, if_false]; done) | (simp [sp_dr, c_1, c_2]; done)
      exact W.iret (v := ((u 13) + (p1 - (u 3)))) hx hb hr (fun t ht hW => ⟨⟨((u 13) + (p1 - (u 3))), (), rfl, hsp, trivial⟩, hS.F ht⟩) hS.2.2 dX0_drivenUpTo_30
set_option maxHeartbeats 4000000 in
set_option maxRecDepth 100000 in
theorem kt_X0_isSendable (l : Launch) (dC : Nat → ClassId) (dI : Nat → Nat → Nat) (h0 : Nat) (sz : Nat) (u : Nat → Int32) (p1 : Int32) : Met l yX0_isSendable wsX0_isSendable ({ frames := 2, cells := 0, slots := 0, locals := 42 }) (va_Pc [.ref h0, .int p1] (us_Pu dC dI h0 u sz)) (va_Qi (fun r (_ : Unit) => r = sp_send u p1) (fun _ _ => True) (us_new sz)) 0 0 (us_new sz) := by
  refine Met.ofW (cc := cX0_isSendable) (maxL := 2) (ret := (some .boolean)) (by decide) rfl ?_
  intro p e s m args below meth c s₁ B hml hv
  obtain ⟨rfl, hsz, hP, hK⟩ := hv
  have hx := B.exec
  have hb := B.bytes
  have hr := B.returns
  have htb := us_htb (atoms_spec (ws := wsX0_isSendable) B.pre)
  have hown : s.vm.findClass RX0 = some m.cls := findClass_of_methodNamed B.named
  have hlocks := B.notSynchronized
  subst hsz
  have hA : ∀ q : Nat, s.heap.size ≤ q → us_new s.heap.size q := fun q h => h
  have hS : va_S (us_new s.heap.size) s.heap s.heap [] := va_S.rf
  have hP : va_P (dC, dI) vwCl (us_wu h0 u) s.heap := hP
  have hl := lv_entry ([.ref h0, .int p1]) (n := 2) (Nat.le_of_ble_eq_true rfl)
  rw [lg_entry_eq]
  generalize (lg_sl ([.ref h0, .int p1]) ++ List.replicate (2 - (lg_sl ([.ref h0, .int p1])).length) Slot.unset).toArray = ls at hl ⊢
  have hl : lv_has ls 2 [(0, .ref h0), (1, .int p1)] := hl
  refine lv_aload_n hx hb dX0_isSendable_0 rfl (lv_at hl 0 rfl) ?_
  refine us_getU (v := (u 2)) hx hb htb us_inX0 hown hK hP 0 rfl 2 (by decide) (htb _ mw_58) rfl dX0_isSendable_1 ?_
  refine lv_if_eq (tgt := 24) hx hb dX0_isSendable_4 (by decide) (fun c_1 => ?_) (fun c_1 => ?_)
  · refine lv_aload_n hx hb dX0_isSendable_24 rfl (lv_at hl 0 rfl) ?_
    refine us_getU (v := (u 6)) hx hb htb us_inX0 hown hK hP 0 rfl 6 (by decide) (htb _ mw_64) rfl dX0_isSendable_25 ?_
    refine lv_aload_n hx hb dX0_isSendable_28 rfl (lv_at hl 0 rfl) ?_
    refine us_getU (v := (u 1)) hx hb htb us_inX0 hown hK hP 0 rfl 1 (by decide) (htb _ mw_57) rfl dX0_isSendable_29 ?_
    refine lv_icmp_lt (tgt := 58) hx hb dX0_isSendable_32 (by decide) (fun c_2 => ?_) (fun c_2 => ?_)
    · refine lv_iconst (v := 0) hx hb dX0_isSendable_58 (by decide) ?_
      have hsp : 0 = sp_send u p1 := by first | (simp only [sp_send, sp_send2, eq_true c_1, eq_true c_2, if_true, if_false]; done) | (simp [sp_send, sp_send2, c_1, c_2]; done)
      exact W.zret (v := 0) hx hb hr (us_nz (by decide)) (fun t ht hW => ⟨⟨0, (), rfl, hsp, trivial⟩, hS.F ht⟩) hS.2.2 dX0_isSendable_59
    · refine lv_aload_n hx hb dX0_isSendable_35 rfl (lv_at hl 0 rfl) ?_
      refine us_getU (v := (u 8)) hx hb htb us_inX0 hown hK hP 0 rfl 8 (by decide) (htb _ mw_68) rfl dX0_isSendable_36 ?_
      refine lv_iconst (v := 1) hx hb dX0_isSendable_39 (by decide) ?_
      refine lv_icmp_ne (tgt := 58) hx hb dX0_isSendable_40 (by decide) (fun c_3 => ?_) (fun c_3 => ?_)
      · refine lv_iconst (v := 0) hx hb dX0_isSendable_58 (by decide) ?_
        have hsp : 0 = sp_send u p1 := by first | (simp only [sp_send, sp_send2, eq_true c_1, eq_false c_2, eq_false c_3, if_true, if_false]; done) | (simp [sp_send, sp_send2, c_1, c_2, c_3]; done)
        exact W.zret (v := 0) hx hb hr (us_nz (by decide)) (fun t ht hW => ⟨⟨0, (), rfl, hsp, trivial⟩, hS.F ht⟩) hS.2.2 dX0_isSendable_59
      · refine lv_aload_n hx hb dX0_isSendable_43 rfl (lv_at hl 0 rfl) ?_
        refine lv_iload_n hx hb dX0_isSendable_44 rfl (lv_at hl 1 rfl) ?_
        refine va_calli (va_runV (As := [.int p1]) (rest := []) ⟨hx, hb, hml, hown, htb⟩ (kt_X0_drivenUpTo l dC dI h0 s.heap.size u p1) (cwV 1 htb (us_gV mw_323 mw_325 mw_10 mw_33 mw_326) rfl rfl rfl (by decide +kernel) ⟨Nat.le_of_ble_eq_true rfl, Nat.le_of_ble_eq_true rfl⟩) ⟨us_Pu_blind, va_recv hK hP (ci := 0) (q0 := 0) rfl rfl, fun U hU hW => ⟨rfl, us_Pu_at hP hK hU hW⟩⟩ rfl rfl hl.1 rfl (lv_room (Nat.le_of_ble_eq_true rfl)) dX0_isSendable_45 ⟨Nat.le_of_ble_eq_true rfl, Nat.le_of_ble_eq_true rfl⟩) hS (fun q h1 h2 => absurd h2 (Nat.not_le.mpr h1)) (fun q h => hA q (Nat.le_trans hS.1 h)) (fun r_5 _ t_6 H_4 locs ht hvm hw hB hz1 hk1 hS => ?_)
        subst hw
        have hP := us_mono hP (fun q h => hk1 q h (Nat.not_le.mpr h))
        refine lv_sipush (v := 240) hx hb dX0_isSendable_48 (by decide) ?_
        refine lv_icmp_ge (tgt := 58) hx hb dX0_isSendable_51 (by decide) (fun c_7 => ?_) (fun c_7 => ?_)
        · refine lv_iconst (v := 0) hx hb dX0_isSendable_58 (by decide) ?_
          have hsp : 0 = sp_send u p1 := by first | (simp only [sp_send, sp_send2, eq_true c_1, eq_false c_2, eq_true c_3, eq_true c_7, if_true, if_false]; done) | (simp [sp_send, sp_send2, c_1, c_2, c_3, c_7]; done)
          exact W.zret (v := 0) hx hb hr (us_nz (by decide)) (fun t ht hW => ⟨⟨0, (), rfl, hsp, trivial⟩, hS.F ht⟩) hS.2.2 dX0_isSendable_59
        · refine lv_iconst (v := 1) hx hb dX0_isSendable_54 (by decide) ?_
          refine lv_goto (tgt := 59) hx hb dX0_isSendable_55 (by decide) ?_
          have hsp : 1 = sp_send u p1 := by first | (simp only [sp_send, sp_send2, eq_true c_1, eq_false c_2, eq_true c_3, eq_false c_7, if_true, if_false]; done) | (simp [sp_send, sp_send2, c_1, c_2, c_3, c_7]; done)
          exact W.zret (v := 1) hx hb hr (us_nz (by decide)) (fun t ht hW => ⟨⟨1, (), rfl, hsp, trivial⟩, hS.F ht⟩) hS.2.2 dX0_isSendable_59
  · refine lv_aload_n hx hb dX0_isSendable_7 rfl (lv_at hl 0 rfl) ?_
    refine us_getU (v := (u 2)) hx hb htb us_inX0 hown hK hP 0 rfl 2 (by decide) (htb _ mw_58) rfl dX0_isSendable_8 ?_
    refine lv_iconst (v := 5) hx hb dX0_isSendable_11 (by decide) ?_
    refine lv_icmp_eq (tgt := 24) hx hb dX0_isSendable_12 (by decide) (fun c_8 => ?_) (fun c_8 => ?_)
    · refine lv_aload_n hx hb dX0_isSendable_24 rfl (lv_at hl 0 rfl) ?_
      refine us_getU (v := (u 6)) hx hb htb us_inX0 hown hK hP 0 rfl 6 (by decide) (htb _ mw_64) rfl dX0_isSendable_25 ?_
      refine lv_aload_n hx hb dX0_isSendable_28 rfl (lv_at hl 0 rfl) ?_
      refine us_getU (v := (u 1)) hx hb htb us_inX0 hown hK hP 0 rfl 1 (by decide) (htb _ mw_57) rfl dX0_isSendable_29 ?_
      refine lv_icmp_lt (tgt := 58) hx hb dX0_isSendable_32 (by decide) (fun c_9 => ?_) (fun c_9 => ?_)
      · refine lv_iconst (v := 0) hx hb dX0_isSendable_58 (by decide) ?_
        have hsp : 0 = sp_send u p1 := by first | (simp only [sp_send, sp_send2, eq_false c_1, eq_true c_8, eq_true c_9, if_true, if_false]; done) | (simp [sp_send, sp_send2, c_1, c_8, c_9]; done)
        exact W.zret (v := 0) hx hb hr (us_nz (by decide)) (fun t ht hW => ⟨⟨0, (), rfl, hsp, trivial⟩, hS.F ht⟩) hS.2.2 dX0_isSendable_59
      · refine lv_aload_n hx hb dX0_isSendable_35 rfl (lv_at hl 0 rfl) ?_
        refine us_getU (v := (u 8)) hx hb htb us_inX0 hown hK hP 0 rfl 8 (by decide) (htb _ mw_68) rfl dX0_isSendable_36 ?_
        refine lv_iconst (v := 1) hx hb dX0_isSendable_39 (by decide) ?_
        refine lv_icmp_ne (tgt := 58) hx hb dX0_isSendable_40 (by decide) (fun c_10 => ?_) (fun c_10 => ?_)
        · refine lv_iconst (v := 0) hx hb dX0_isSendable_58 (by decide) ?_
          have hsp : 0 = sp_send u p1 := by first | (simp only [sp_send, sp_send2, eq_false c_1, eq_true c_8, eq_false c_9, eq_false c_10, if_true, if_false]; done) | (simp [sp_send, sp_send2, c_1, c_8, c_9, c_10]; done)
          exact W.zret (v := 0) hx hb hr (us_nz (by decide)) (fun t ht hW => ⟨⟨0, (), rfl, hsp, trivial⟩, hS.F ht⟩) hS.2.2 dX0_isSendable_59
        · refine lv_aload_n hx hb dX0_isSendable_43 rfl (lv_at hl 0 rfl) ?_
          refine lv_iload_n hx hb dX0_isSendable_44 rfl (lv_at hl 1 rfl) ?_
          refine va_calli (va_runV (As := [.int p1]) (rest := []) ⟨hx, hb, hml, hown, htb⟩ (kt_X0_drivenUpTo l dC dI h0 s.heap.size u p1) (cwV 1 htb (us_gV mw_323 mw_325 mw_10 mw_33 mw_326) rfl rfl rfl (by decide +kernel) ⟨Nat.le_of_ble_eq_true rfl, Nat.le_of_ble_eq_true rfl⟩) ⟨us_Pu_blind, va_recv hK hP (ci := 0) (q0 := 0) rfl rfl, fun U hU hW => ⟨rfl, us_Pu_at hP hK hU hW⟩⟩ rfl rfl hl.1 rfl (lv_room (Nat.le_of_ble_eq_true rfl)) dX0_isSendable_45 ⟨Nat.le_of_ble_eq_true rfl, Nat.le_of_ble_eq_true rfl⟩) hS (fun q h1 h2 => absurd h2 (Nat.not_le.mpr h1)) (fun q h => hA q (Nat.le_trans hS.1 h)) (fun r_12 _ t_13 H_11 locs ht hvm hw hB hz1 hk1 hS => ?_)
          subst hw
          have hP := us_mono hP (fun q h => hk1 q h (Nat.not_le.mpr h))
          refine lv_sipush (v := 240) hx hb dX0_isSendable_48 (by decide) ?_
          refine lv_icmp_ge (tgt := 58) hx hb dX0_isSendable_51 (by decide) (fun c_14 => ?_) (fun c_14 => ?_)
          · refine lv_iconst (v := 0) hx hb dX0_isSendable_58 (by decide) ?_
            have hsp : 0 = sp_send u p1 := by first | (simp only [sp_send, sp_send2, eq_false c_1, eq_true c_8, eq_false c_9, eq_true c_10, eq_true c_14, if_true, if_false]; done) | (simp [sp_send, sp_send2, c_1, c_8, c_9, c_10, c_14]; done)
            exact W.zret (v := 0) hx hb hr (us_nz (by decide)) (fun t ht hW => ⟨⟨0, (), rfl, hsp, trivial⟩, hS.F ht⟩) hS.2.2 dX0_isSendable_59
          · refine lv_iconst (v := 1) hx hb dX0_isSendable_54 (by decide) ?_
            refine lv_goto (tgt := 59) hx hb dX0_isSendable_55 (by decide) ?_
            have hsp : 1 = sp_send u p1 := by first | (simp only [sp_send, sp_send2, eq_false c_1, eq_true c_8, eq_false c_9, eq_true c_10, eq_false c_14, if_true, if_false]; done) | (simp [sp_send, sp_send2, c_1, c_8, c_9, c_10, c_14]; done)
            exact W.zret (v := 1) hx hb hr (us_nz (by decide)) (fun t ht hW => ⟨⟨1, (), rfl, hsp, trivial⟩, hS.F ht⟩) hS.2.2 dX0_isSendable_59
    · refine lv_aload_n hx hb dX0_isSendable_15 rfl (lv_at hl 0 rfl) ?_
      refine us_getU (v := (u 2)) hx hb htb us_inX0 hown hK hP 0 rfl 2 (by decide) (htb _ mw_58) rfl dX0_isSendable_16 ?_
      refine lv_bipush (v := 6) hx hb dX0_isSendable_19 (by decide) ?_
      refine lv_icmp_ne (tgt := 58) hx hb dX0_isSendable_21 (by decide) (fun c_15 => ?_) (fun c_15 => ?_)
      · refine lv_iconst (v := 0) hx hb dX0_isSendable_58 (by decide) ?_
        have hsp : 0 = sp_send u p1 := by first | (simp only [sp_send, sp_send2, eq_false c_1, eq_false c_8, eq_false c_15, if_true, if_false]; done) | (simp [sp_send, sp_send2, c_1, c_8, c_15]; done)
        exact W.zret (v := 0) hx hb hr (us_nz (by decide)) (fun t ht hW => ⟨⟨0, (), rfl, hsp, trivial⟩, hS.F ht⟩) hS.2.2 dX0_isSendable_59
      · refine lv_aload_n hx hb dX0_isSendable_24 rfl (lv_at hl 0 rfl) ?_
        refine us_getU (v := (u 6)) hx hb htb us_inX0 hown hK hP 0 rfl 6 (by decide) (htb _ mw_64) rfl dX0_isSendable_25 ?_
        refine lv_aload_n hx hb dX0_isSendable_28 rfl (lv_at hl 0 rfl) ?_
        refine us_getU (v := (u 1)) hx hb htb us_inX0 hown hK hP 0 rfl 1 (by decide) (htb _ mw_57) rfl dX0_isSendable_29 ?_
        refine lv_icmp_lt (tgt := 58) hx hb dX0_isSendable_32 (by decide) (fun c_16 => ?_) (fun c_16 => ?_)
        · refine lv_iconst (v := 0) hx hb dX0_isSendable_58 (by decide) ?_
          have hsp : 0 = sp_send u p1 := by first | (simp only [sp_send, sp_send2, eq_false c_1, eq_false c_8, eq_true c_15, eq_true c_16, if_true, if_false]; done) | (simp [sp_send, sp_send2, c_1, c_8, c_15, c_16]; done)
          exact W.zret (v := 0) hx hb hr (us_nz (by decide)) (fun t ht hW => ⟨⟨0, (), rfl, hsp, trivial⟩, hS.F ht⟩) hS.2.2 dX0_isSendable_59
        · refine lv_aload_n hx hb dX0_isSendable_35 rfl (lv_at hl 0 rfl) ?_
          refine us_getU (v := (u 8)) hx hb htb us_inX0 hown hK hP 0 rfl 8 (by decide) (htb _ mw_68) rfl dX0_isSendable_36 ?_
          refine lv_iconst (v := 1) hx hb dX0_isSendable_39 (by decide) ?_
          refine lv_icmp_ne (tgt := 58) hx hb dX0_isSendable_40 (by decide) (fun c_17 => ?_) (fun c_17 => ?_)
          · refine lv_iconst (v := 0) hx hb dX0_isSendable_58 (by decide) ?_
            have hsp : 0 = sp_send u p1 := by first | (simp only [sp_send, sp_send2, eq_false c_1, eq_false c_8, eq_true c_15, eq_false c_16, eq_false c_17, if_true, if_false]; done) | (simp [sp_send, sp_send2, c_1, c_8, c_15, c_16, c_17]; done)
            exact W.zret (v := 0) hx hb hr (us_nz (by decide)) (fun t ht hW => ⟨⟨0, (), rfl, hsp, trivial⟩, hS.F ht⟩) hS.2.2 dX0_isSendable_59
          · refine lv_aload_n hx hb dX0_isSendable_43 rfl (lv_at hl 0 rfl) ?_
            refine lv_iload_n hx hb dX0_isSendable_44 rfl (lv_at hl 1 rfl) ?_
            refine va_calli (va_runV (As := [.int p1]) (rest := []) ⟨hx, hb, hml, hown, htb⟩ (kt_X0_drivenUpTo l dC dI h0 s.heap.size u p1) (cwV 1 htb (us_gV mw_323 mw_325 mw_10 mw_33 mw_326) rfl rfl rfl (by decide +kernel) ⟨Nat.le_of_ble_eq_true rfl, Nat.le_of_ble_eq_true rfl⟩) ⟨us_Pu_blind, va_recv hK hP (ci := 0) (q0 := 0) rfl rfl, fun U hU hW => ⟨rfl, us_Pu_at hP hK hU hW⟩⟩ rfl rfl hl.1 rfl (lv_room (Nat.le_of_ble_eq_true rfl)) dX0_isSendable_45 ⟨Nat.le_of_ble_eq_true rfl, Nat.le_of_ble_eq_true rfl⟩) hS (fun q h1 h2 => absurd h2 (Nat.not_le.mpr h1)) (fun q h => hA q (Nat.le_trans hS.1 h)) (fun r_19 _ t_20 H_18 locs ht hvm hw hB hz1 hk1 hS => ?_)
            subst hw
            have hP := us_mono hP (fun q h => hk1 q h (Nat.not_le.mpr h))
            refine lv_sipush (v := 240) hx hb dX0_isSendable_48 (by decide) ?_
            refine lv_icmp_ge (tgt := 58) hx hb dX0_isSendable_51 (by decide) (fun c_21 => ?_) (fun c_21 => ?_)
            · refine lv_iconst (v := 0) hx hb dX0_isSendable_58 (by decide) ?_
              have hsp : 0 = sp_send u p1 := by first | (simp only [sp_send, sp_send2, eq_false c_1, eq_false c_8, eq_true c_15, eq_false c_16, eq_true c_17, eq_true c_21, if_true, if_false]; done) | (simp [sp_send, sp_send2, c_1, c_8, c_15, c_16, c_17, c_21]; done)
              exact W.zret (v := 0) hx hb hr (us_nz (by decide)) (fun t ht hW => ⟨⟨0, (), rfl, hsp, trivial⟩, hS.F ht⟩) hS.2.2 dX0_isSendable_59
            · refine lv_iconst (v := 1) hx hb dX0_isSendable_54 (by decide) ?_
              refine lv_goto (tgt := 59) hx hb dX0_isSendable_55 (by decide) ?_
              have hsp : 1 = sp_send u p1 := by first | (simp only [sp_send, sp_send2, eq_false c_1, eq_false c_8, eq_true c_15, eq_false c_16, eq_true c_17, eq_false c_21, if_true, if_false]; done) | (simp [sp_send, sp_send2, c_1, c_8, c_15, c_16, c_17, c_21]; done)
              exact W.zret (v := 1) hx hb hr (us_nz (by decide)) (fun t ht hW => ⟨⟨1, (), rfl, hsp, trivial⟩, hS.F ht⟩) hS.2.2 dX0_isSendable_59
set_option maxHeartbeats 4000000 in
set_option maxRecDepth 100000 in
theorem kt_X0_stationNow (l : Launch) (dC : Nat → ClassId) (dI : Nat → Nat → Nat) (h0 : Nat) (sz : Nat) (u : Nat → Int32) : Met l yX0_stationNow wsX0_stationNow ({ frames := 0, cells := 0, slots := 0, locals := 0 }) (va_Pc [.ref h0] (us_Pu dC dI h0 u sz)) (va_Qi (fun r (_ : Unit) => r = sp_stn u) (fun _ _ => True) (us_new sz)) 0 0 (us_new sz) := by
  refine Met.ofW (cc := cX0_stationNow) (maxL := 1) (ret := (some .int)) (by decide) rfl ?_
  intro p e s m args below meth c s₁ B hml hv
  obtain ⟨rfl, hsz, hP, hK⟩ := hv
  have hx := B.exec
  have hb := B.bytes
  have hr := B.returns
  have htb := us_htb (atoms_spec (ws := wsX0_stationNow) B.pre)
  have hown : s.vm.findClass RX0 = some m.cls := findClass_of_methodNamed B.named
  have hlocks := B.notSynchronized
  subst hsz
  have hA : ∀ q : Nat, s.heap.size ≤ q → us_new s.heap.size q := fun q h => h
  have hS : va_S (us_new s.heap.size) s.heap s.heap [] := va_S.rf
  have hP : va_P (dC, dI) vwCl (us_wu h0 u) s.heap := hP
  have hl := lv_entry ([.ref h0]) (n := 1) (Nat.le_of_ble_eq_true rfl)
  rw [lg_entry_eq]
  generalize (lg_sl ([.ref h0]) ++ List.replicate (1 - (lg_sl ([.ref h0])).length) Slot.unset).toArray = ls at hl ⊢
  have hl : lv_has ls 1 [(0, .ref h0)] := hl
  refine lv_aload_n hx hb dX0_stationNow_0 rfl (lv_at hl 0 rfl) ?_
  refine us_getU (v := (u 2)) hx hb htb us_inX0 hown hK hP 0 rfl 2 (by decide) (htb _ mw_58) rfl dX0_stationNow_1 ?_
  refine lv_if_ne (tgt := 14) hx hb dX0_stationNow_4 (by decide) (fun c_1 => ?_) (fun c_1 => ?_)
  · refine lv_iconst (v := (-1)) hx hb dX0_stationNow_14 (by decide) ?_
    have hsp : (-1) = sp_stn u := by first | (simp only [sp_stn, eq_false c_1, if_true, if_false]; done) | (simp [sp_stn, c_1]; done)
    exact W.iret (v := (-1)) hx hb hr (fun t ht hW => ⟨⟨(-1), (), rfl, hsp, trivial⟩, hS.F ht⟩) hS.2.2 dX0_stationNow_15
  · refine lv_aload_n hx hb dX0_stationNow_7 rfl (lv_at hl 0 rfl) ?_
    refine us_getU (v := (u 4)) hx hb htb us_inX0 hown hK hP 0 rfl 4 (by decide) (htb _ mw_62) rfl dX0_stationNow_8 ?_
    refine lv_goto (tgt := 15) hx hb dX0_stationNow_11 (by decide) ?_
    have hsp : (u 4) = sp_stn u := by first | (simp only [sp_stn, eq_true c_1, if_true, if_false]; done) | (simp [sp_stn, c_1]; done)
    exact W.iret (v := (u 4)) hx hb hr (fun t ht hW => ⟨⟨(u 4), (), rfl, hsp, trivial⟩, hS.F ht⟩) hS.2.2 dX0_stationNow_15
set_option maxHeartbeats 4000000 in
set_option maxRecDepth 100000 in
theorem kt_X0_incidentNow (l : Launch) (dC : Nat → ClassId) (dI : Nat → Nat → Nat) (h0 : Nat) (sz : Nat) (u : Nat → Int32) : Met l yX0_incidentNow wsX0_incidentNow ({ frames := 0, cells := 0, slots := 0, locals := 0 }) (va_Pc [.ref h0] (us_Pu dC dI h0 u sz)) (va_Qi (fun r (_ : Unit) => r = sp_inc u) (fun _ _ => True) (us_new sz)) 0 0 (us_new sz) := by
  refine Met.ofW (cc := cX0_incidentNow) (maxL := 1) (ret := (some .int)) (by decide) rfl ?_
  intro p e s m args below meth c s₁ B hml hv
  obtain ⟨rfl, hsz, hP, hK⟩ := hv
  have hx := B.exec
  have hb := B.bytes
  have hr := B.returns
  have htb := us_htb (atoms_spec (ws := wsX0_incidentNow) B.pre)
  have hown : s.vm.findClass RX0 = some m.cls := findClass_of_methodNamed B.named
  have hlocks := B.notSynchronized
  subst hsz
  have hA : ∀ q : Nat, s.heap.size ≤ q → us_new s.heap.size q := fun q h => h
  have hS : va_S (us_new s.heap.size) s.heap s.heap [] := va_S.rf
  have hP : va_P (dC, dI) vwCl (us_wu h0 u) s.heap := hP
  have hl := lv_entry ([.ref h0]) (n := 1) (Nat.le_of_ble_eq_true rfl)
  rw [lg_entry_eq]
  generalize (lg_sl ([.ref h0]) ++ List.replicate (1 - (lg_sl ([.ref h0])).length) Slot.unset).toArray = ls at hl ⊢
  have hl : lv_has ls 1 [(0, .ref h0)] := hl
  refine lv_aload_n hx hb dX0_incidentNow_0 rfl (lv_at hl 0 rfl) ?_
  refine us_getU (v := (u 2)) hx hb htb us_inX0 hown hK hP 0 rfl 2 (by decide) (htb _ mw_58) rfl dX0_incidentNow_1 ?_
  refine lv_iconst (v := 1) hx hb dX0_incidentNow_4 (by decide) ?_
  refine lv_icmp_lt (tgt := 23) hx hb dX0_incidentNow_5 (by decide) (fun c_1 => ?_) (fun c_1 => ?_)
  · refine lv_iconst (v := (-1)) hx hb dX0_incidentNow_23 (by decide) ?_
    have hsp : (-1) = sp_inc u := by first | (simp only [sp_inc, eq_true c_1, if_true, if_false]; done) | (simp [sp_inc, c_1]; done)
    exact W.iret (v := (-1)) hx hb hr (fun t ht hW => ⟨⟨(-1), (), rfl, hsp, trivial⟩, hS.F ht⟩) hS.2.2 dX0_incidentNow_24
  · refine lv_aload_n hx hb dX0_incidentNow_8 rfl (lv_at hl 0 rfl) ?_
    refine us_getU (v := (u 2)) hx hb htb us_inX0 hown hK hP 0 rfl 2 (by decide) (htb _ mw_58) rfl dX0_incidentNow_9 ?_
    refine lv_iconst (v := 5) hx hb dX0_incidentNow_12 (by decide) ?_
    refine lv_icmp_gt (tgt := 23) hx hb dX0_incidentNow_13 (by decide) (fun c_2 => ?_) (fun c_2 => ?_)
    · refine lv_iconst (v := (-1)) hx hb dX0_incidentNow_23 (by decide) ?_
      have hsp : (-1) = sp_inc u := by first | (simp only [sp_inc, eq_false c_1, eq_true c_2, if_true, if_false]; done) | (simp [sp_inc, c_1, c_2]; done)
      exact W.iret (v := (-1)) hx hb hr (fun t ht hW => ⟨⟨(-1), (), rfl, hsp, trivial⟩, hS.F ht⟩) hS.2.2 dX0_incidentNow_24
    · refine lv_aload_n hx hb dX0_incidentNow_16 rfl (lv_at hl 0 rfl) ?_
      refine us_getU (v := (u 5)) hx hb htb us_inX0 hown hK hP 0 rfl 5 (by decide) (htb _ mw_63) rfl dX0_incidentNow_17 ?_
      refine lv_goto (tgt := 24) hx hb dX0_incidentNow_20 (by decide) ?_
      have hsp : (u 5) = sp_inc u := by first | (simp only [sp_inc, eq_false c_1, eq_false c_2, if_true, if_false]; done) | (simp [sp_inc, c_1, c_2]; done)
      exact W.iret (v := (u 5)) hx hb hr (fun t ht hW => ⟨⟨(u 5), (), rfl, hsp, trivial⟩, hS.F ht⟩) hS.2.2 dX0_incidentNow_24
set_option maxHeartbeats 4000000 in
set_option maxRecDepth 100000 in
theorem kt_X0_isThereAt (l : Launch) (dC : Nat → ClassId) (dI : Nat → Nat → Nat) (h0 : Nat) (sz : Nat) (u : Nat → Int32) (p1 : Int32) : Met l yX0_isThereAt wsX0_isThereAt ({ frames := 0, cells := 0, slots := 0, locals := 0 }) (va_Pc [.ref h0, .int p1] (us_Pu dC dI h0 u sz)) (va_Qi (fun r (_ : Unit) => r = sp_there u p1) (fun _ _ => True) (us_new sz)) 0 0 (us_new sz) := by
  refine Met.ofW (cc := cX0_isThereAt) (maxL := 2) (ret := (some .boolean)) (by decide) rfl ?_
  intro p e s m args below meth c s₁ B hml hv
  obtain ⟨rfl, hsz, hP, hK⟩ := hv
  have hx := B.exec
  have hb := B.bytes
  have hr := B.returns
  have htb := us_htb (atoms_spec (ws := wsX0_isThereAt) B.pre)
  have hown : s.vm.findClass RX0 = some m.cls := findClass_of_methodNamed B.named
  have hlocks := B.notSynchronized
  subst hsz
  have hA : ∀ q : Nat, s.heap.size ≤ q → us_new s.heap.size q := fun q h => h
  have hS : va_S (us_new s.heap.size) s.heap s.heap [] := va_S.rf
  have hP : va_P (dC, dI) vwCl (us_wu h0 u) s.heap := hP
  have hl := lv_entry ([.ref h0, .int p1]) (n := 2) (Nat.le_of_ble_eq_true rfl)
  rw [lg_entry_eq]
  generalize (lg_sl ([.ref h0, .int p1]) ++ List.replicate (2 - (lg_sl ([.ref h0, .int p1])).length) Slot.unset).toArray = ls at hl ⊢
  have hl : lv_has ls 2 [(0, .ref h0), (1, .int p1)] := hl
  refine lv_aload_n hx hb dX0_isThereAt_0 rfl (lv_at hl 0 rfl) ?_
  refine us_getU (v := (u 2)) hx hb htb us_inX0 hown hK hP 0 rfl 2 (by decide) (htb _ mw_58) rfl dX0_isThereAt_1 ?_
  refine lv_iconst (v := 3) hx hb dX0_isThereAt_4 (by decide) ?_
  refine lv_icmp_lt (tgt := 28) hx hb dX0_isThereAt_5 (by decide) (fun c_1 => ?_) (fun c_1 => ?_)
  · refine lv_iconst (v := 0) hx hb dX0_isThereAt_28 (by decide) ?_
    have hsp : 0 = sp_there u p1 := by first | (simp only [sp_there, eq_true c_1, if_true, if_false]; done) | (simp [sp_there, c_1]; done)
    exact W.zret (v := 0) hx hb hr (us_nz (by decide)) (fun t ht hW => ⟨⟨0, (), rfl, hsp, trivial⟩, hS.F ht⟩) hS.2.2 dX0_isThereAt_29
  · refine lv_aload_n hx hb dX0_isThereAt_8 rfl (lv_at hl 0 rfl) ?_
    refine us_getU (v := (u 2)) hx hb htb us_inX0 hown hK hP 0 rfl 2 (by decide) (htb _ mw_58) rfl dX0_isThereAt_9 ?_
    refine lv_iconst (v := 5) hx hb dX0_isThereAt_12 (by decide) ?_
    refine lv_icmp_gt (tgt := 28) hx hb dX0_isThereAt_13 (by decide) (fun c_2 => ?_) (fun c_2 => ?_)
    · refine lv_iconst (v := 0) hx hb dX0_isThereAt_28 (by decide) ?_
      have hsp : 0 = sp_there u p1 := by first | (simp only [sp_there, eq_false c_1, eq_true c_2, if_true, if_false]; done) | (simp [sp_there, c_1, c_2]; done)
      exact W.zret (v := 0) hx hb hr (us_nz (by decide)) (fun t ht hW => ⟨⟨0, (), rfl, hsp, trivial⟩, hS.F ht⟩) hS.2.2 dX0_isThereAt_29
    · refine lv_aload_n hx hb dX0_isThereAt_16 rfl (lv_at hl 0 rfl) ?_
      refine us_getU (v := (u 5)) hx hb htb us_inX0 hown hK hP 0 rfl 5 (by decide) (htb _ mw_63) rfl dX0_isThereAt_17 ?_
      refine lv_iload_n hx hb dX0_isThereAt_20 rfl (lv_at hl 1 rfl) ?_
      refine lv_icmp_ne (tgt := 28) hx hb dX0_isThereAt_21 (by decide) (fun c_3 => ?_) (fun c_3 => ?_)
      · refine lv_iconst (v := 0) hx hb dX0_isThereAt_28 (by decide) ?_
        have hsp : 0 = sp_there u p1 := by first | (simp only [sp_there, eq_false c_1, eq_false c_2, eq_false c_3, if_true, if_false]; done) | (simp [sp_there, c_1, c_2, c_3]; done)
        exact W.zret (v := 0) hx hb hr (us_nz (by decide)) (fun t ht hW => ⟨⟨0, (), rfl, hsp, trivial⟩, hS.F ht⟩) hS.2.2 dX0_isThereAt_29
      · refine lv_iconst (v := 1) hx hb dX0_isThereAt_24 (by decide) ?_
        refine lv_goto (tgt := 29) hx hb dX0_isThereAt_25 (by decide) ?_
        have hsp : 1 = sp_there u p1 := by first | (simp only [sp_there, eq_false c_1, eq_false c_2, eq_true c_3, if_true, if_false]; done) | (simp [sp_there, c_1, c_2, c_3]; done)
        exact W.zret (v := 1) hx hb hr (us_nz (by decide)) (fun t ht hW => ⟨⟨1, (), rfl, hsp, trivial⟩, hS.F ht⟩) hS.2.2 dX0_isThereAt_29
set_option maxHeartbeats 4000000 in
set_option maxRecDepth 100000 in
theorem kt_X0_takePlace (l : Launch) (dC : Nat → ClassId) (dI : Nat → Nat → Nat) (h0 : Nat) (sz : Nat) (u : Nat → Int32) (p1 p2 : Int32) : Met l yX0_takePlace wsX0_takePlace ({ frames := 0, cells := 0, slots := 0, locals := 0 }) (va_Pc [.ref h0, .int p1, .int p2] (us_Pu dC dI h0 u sz)) (va_Qi (fun r (_ : Unit) => r = (sp_tp u p1 p2).1) (fun _ t => us_Bu dC dI h0 (sp_tp u p1 p2).2 t) (us_Au h0 sz)) 0 0 (us_Au h0 sz) := by
  refine Met.ofW (cc := cX0_takePlace) (maxL := 3) (ret := (some .int)) (by decide) rfl ?_
  intro p e s m args below meth c s₁ B hml hv
  obtain ⟨rfl, hsz, hP, hK⟩ := hv
  have hx := B.exec
  have hb := B.bytes
  have hr := B.returns
  have htb := us_htb (atoms_spec (ws := wsX0_takePlace) B.pre)
  have hown : s.vm.findClass RX0 = some m.cls := findClass_of_methodNamed B.named
  have hlocks := B.notSynchronized
  subst hsz
  have hA : ∀ q : Nat, s.heap.size ≤ q → us_Au h0 s.heap.size q := fun q h => Or.inr h
  have hD : va_D (us_Au h0 s.heap.size) (us_wu h0 u) := us_D1 (Or.inl rfl)
  have hS : va_S (us_Au h0 s.heap.size) s.heap s.heap [] := va_S.rf
  have hP : va_P (dC, dI) vwCl (us_wu h0 u) s.heap := hP
  have hl := lv_entry ([.ref h0, .int p1, .int p2]) (n := 3) (Nat.le_of_ble_eq_true rfl)
  rw [lg_entry_eq]
  generalize (lg_sl ([.ref h0, .int p1, .int p2]) ++ List.replicate (3 - (lg_sl ([.ref h0, .int p1, .int p2])).length) Slot.unset).toArray = ls at hl ⊢
  have hl : lv_has ls 3 [(0, .ref h0), (1, .int p1), (2, .int p2)] := hl
  refine lv_aload_n hx hb dX0_takePlace_0 rfl (lv_at hl 0 rfl) ?_
  refine us_getU (v := (u 8)) hx hb htb us_inX0 hown hK hP 0 rfl 8 (by decide) (htb _ mw_68) rfl dX0_takePlace_1 ?_
  refine lv_if_ne (tgt := 9) hx hb dX0_takePlace_4 (by decide) (fun c_1 => ?_) (fun c_1 => ?_)
  · refine lv_aload_n hx hb dX0_takePlace_9 rfl (lv_at hl 0 rfl) ?_
    refine lv_iload_n hx hb dX0_takePlace_10 rfl (lv_at hl 1 rfl) ?_
    refine us_putU (u := u) hx hb htb us_inX0 hown hK hP hD hS 0 rfl 9 (by decide) (htb _ mw_70) dX0_takePlace_11 (fun H_2 locs hP hD hS => ?_)
    have hP : va_P (dC, dI) vwCl (us_wu h0 (upd u 9 p1)) H_2 := hP
    have hD : va_D (us_Au h0 s.heap.size) (us_wu h0 (upd u 9 p1)) := hD
    refine lv_aload_n hx hb dX0_takePlace_14 rfl (lv_at hl 0 rfl) ?_
    refine lv_iload_n hx hb dX0_takePlace_15 rfl (lv_at hl 2 rfl) ?_
    refine us_putU (u := (upd u 9 p1)) hx hb htb us_inX0 hown hK hP hD hS 0 rfl 10 (by decide) (htb _ mw_72) dX0_takePlace_16 (fun H_3 locs hP hD hS => ?_)
    have hP : va_P (dC, dI) vwCl (us_wu h0 (upd (upd u 9 p1) 10 p2)) H_3 := hP
    have hD : va_D (us_Au h0 s.heap.size) (us_wu h0 (upd (upd u 9 p1) 10 p2)) := hD
    refine lv_iconst (v := 0) hx hb dX0_takePlace_19 (by decide) ?_
    have hsp : sp_tp u p1 p2 = (0, (upd (upd u 9 p1) 10 p2)) := by first | (simp only [sp_tp, eq_false c_1, if_true, if_false]; done) | (simp [sp_tp, c_1]; done)
    exact W.iret (v := 0) hx hb hr (fun t ht hW => ⟨⟨0, (), rfl, by rw [hsp], us_Bu_of ht hP (by rw [hsp])⟩, hS.F ht⟩) hS.2.2 dX0_takePlace_20
  · refine lv_iconst (v := 4) hx hb dX0_takePlace_7 (by decide) ?_
    have hsp : sp_tp u p1 p2 = (4, u) := by first | (simp only [sp_tp, eq_true c_1, if_true, if_false]; done) | (simp [sp_tp, c_1]; done)
    exact W.iret (v := 4) hx hb hr (fun t ht hW => ⟨⟨4, (), rfl, by rw [hsp], us_Bu_of ht hP (by rw [hsp])⟩, hS.F ht⟩) hS.2.2 dX0_takePlace_8
set_option maxHeartbeats 4000000 in
set_option maxRecDepth 100000 in
theorem kt_X0_takeStation (l : Launch) (dC : Nat → ClassId) (dI : Nat → Nat → Nat) (h0 : Nat) (sz : Nat) (u : Nat → Int32) (p1 : Int32) : Met l yX0_takeStation wsX0_takeStation ({ frames := 0, cells := 0, slots := 0, locals := 0 }) (va_Pc [.ref h0, .int p1] (us_Pu dC dI h0 u sz)) (va_Qi (fun r (_ : Unit) => r = (sp_ts u p1).1) (fun _ t => us_Bu dC dI h0 (sp_ts u p1).2 t) (us_Au h0 sz)) 0 0 (us_Au h0 sz) := by
  refine Met.ofW (cc := cX0_takeStation) (maxL := 2) (ret := (some .int)) (by decide) rfl ?_
  intro p e s m args below meth c s₁ B hml hv
  obtain ⟨rfl, hsz, hP, hK⟩ := hv
  have hx := B.exec
  have hb := B.bytes
  have hr := B.returns
  have htb := us_htb (atoms_spec (ws := wsX0_takeStation) B.pre)
  have hown : s.vm.findClass RX0 = some m.cls := findClass_of_methodNamed B.named
  have hlocks := B.notSynchronized
  subst hsz
  have hA : ∀ q : Nat, s.heap.size ≤ q → us_Au h0 s.heap.size q := fun q h => Or.inr h
  have hD : va_D (us_Au h0 s.heap.size) (us_wu h0 u) := us_D1 (Or.inl rfl)
  have hS : va_S (us_Au h0 s.heap.size) s.heap s.heap [] := va_S.rf
  have hP : va_P (dC, dI) vwCl (us_wu h0 u) s.heap := hP
  have hl := lv_entry ([.ref h0, .int p1]) (n := 2) (Nat.le_of_ble_eq_true rfl)
  rw [lg_entry_eq]
  generalize (lg_sl ([.ref h0, .int p1]) ++ List.replicate (2 - (lg_sl ([.ref h0, .int p1])).length) Slot.unset).toArray = ls at hl ⊢
  have hl : lv_has ls 2 [(0, .ref h0), (1, .int p1)] := hl
  refine lv_aload_n hx hb dX0_takeStation_0 rfl (lv_at hl 0 rfl) ?_
  refine lv_iload_n hx hb dX0_takeStation_1 rfl (lv_at hl 1 rfl) ?_
  refine us_putU (u := u) hx hb htb us_inX0 hown hK hP hD hS 0 rfl 4 (by decide) (htb _ mw_62) dX0_takeStation_2 (fun H_1 locs hP hD hS => ?_)
  have hP : va_P (dC, dI) vwCl (us_wu h0 (upd u 4 p1)) H_1 := hP
  have hD : va_D (us_Au h0 s.heap.size) (us_wu h0 (upd u 4 p1)) := hD
  refine lv_aload_n hx hb dX0_takeStation_5 rfl (lv_at hl 0 rfl) ?_
  refine us_getU (v := p1) hx hb htb us_inX0 hown hK hP 0 rfl 4 (by decide) (htb _ mw_62) rfl dX0_takeStation_6 ?_
  refine lv_aload_n hx hb dX0_takeStation_9 rfl (lv_at hl 0 rfl) ?_
  refine us_getU (v := (u 0)) hx hb htb us_inX0 hown hK hP 0 rfl 0 (by decide) (htb _ mw_56) rfl dX0_takeStation_10 ?_
  refine lv_icmp_ne (tgt := 20) hx hb dX0_takeStation_13 (by decide) (fun c_2 => ?_) (fun c_2 => ?_)
  · refine lv_iconst (v := 3) hx hb dX0_takeStation_20 (by decide) ?_
    have hsp : sp_ts u p1 = (3, (upd u 4 p1)) := by first | (simp only [sp_ts, eq_false c_2, if_true, if_false]; done) | (simp [sp_ts, c_2]; done)
    exact W.iret (v := 3) hx hb hr (fun t ht hW => ⟨⟨3, (), rfl, by rw [hsp], us_Bu_of ht hP (by rw [hsp])⟩, hS.F ht⟩) hS.2.2 dX0_takeStation_21
  · refine lv_iconst (v := 0) hx hb dX0_takeStation_16 (by decide) ?_
    refine lv_goto (tgt := 21) hx hb dX0_takeStation_17 (by decide) ?_
    have hsp : sp_ts u p1 = (0, (upd u 4 p1)) := by first | (simp only [sp_ts, eq_true c_2, if_true, if_false]; done) | (simp [sp_ts, c_2]; done)
    exact W.iret (v := 0) hx hb hr (fun t ht hW => ⟨⟨0, (), rfl, by rw [hsp], us_Bu_of ht hP (by rw [hsp])⟩, hS.F ht⟩) hS.2.2 dX0_takeStation_21
set_option maxHeartbeats 4000000 in
set_option maxRecDepth 100000 in
theorem kt_X0_takeState (l : Launch) (dC : Nat → ClassId) (dI : Nat → Nat → Nat) (h0 : Nat) (sz : Nat) (u : Nat → Int32) (p1 p2 p3 p4 : Int32) : Met l yX0_takeState wsX0_takeState ({ frames := 2, cells := 0, slots := 0, locals := 42 }) (va_Pc [.ref h0, .int p1, .int p2, .int p3, .int p4] (us_Pu dC dI h0 u sz)) (va_Qi (fun r (_ : Unit) => r = (sp_tst u p1 p2 p3 p4).1) (fun _ t => us_Bu dC dI h0 (sp_tst u p1 p2 p3 p4).2 t) (us_Au h0 sz)) 0 0 (us_Au h0 sz) := by
  refine Met.ofW (cc := cX0_takeState) (maxL := 5) (ret := (some .int)) (by decide) rfl ?_
  intro p e s m args below meth c s₁ B hml hv
  obtain ⟨rfl, hsz, hP, hK⟩ := hv
  have hx := B.exec
  have hb := B.bytes
  have hr := B.returns
  have htb := us_htb (atoms_spec (ws := wsX0_takeState) B.pre)
  have hown : s.vm.findClass RX0 = some m.cls := findClass_of_methodNamed B.named
  have hlocks := B.notSynchronized
  subst hsz
  have hA : ∀ q : Nat, s.heap.size ≤ q → us_Au h0 s.heap.size q := fun q h => Or.inr h
  have hD : va_D (us_Au h0 s.heap.size) (us_wu h0 u) := us_D1 (Or.inl rfl)
  have hS : va_S (us_Au h0 s.heap.size) s.heap s.heap [] := va_S.rf
  have hP : va_P (dC, dI) vwCl (us_wu h0 u) s.heap := hP
  have hl := lv_entry ([.ref h0, .int p1, .int p2, .int p3, .int p4]) (n := 5) (Nat.le_of_ble_eq_true rfl)
  rw [lg_entry_eq]
  generalize (lg_sl ([.ref h0, .int p1, .int p2, .int p3, .int p4]) ++ List.replicate (5 - (lg_sl ([.ref h0, .int p1, .int p2, .int p3, .int p4])).length) Slot.unset).toArray = ls at hl ⊢
  have hl : lv_has ls 5 [(0, .ref h0), (1, .int p1), (2, .int p2), (3, .int p3), (4, .int p4)] := hl
  refine lv_aload_n hx hb dX0_takeState_0 rfl (lv_at hl 0 rfl) ?_
  refine us_getU (v := (u 2)) hx hb htb us_inX0 hown hK hP 0 rfl 2 (by decide) (htb _ mw_58) rfl dX0_takeState_1 ?_
  refine lv_iload_n hx hb dX0_takeState_4 rfl (lv_at hl 1 rfl) ?_
  refine va_calli (va_runS (As := [.int (u 2), .int p1]) (rest := []) ⟨hx, hb, hml, hown, htb⟩ (kt_X0_canFollow l s.heap.size (u 2) p1) (cwS 2 htb (us_gS mw_317 mw_318 mw_33 mw_319) rfl rfl rfl (by decide +kernel) ⟨Nat.le_of_ble_eq_true rfl, Nat.le_of_ble_eq_true rfl⟩) ⟨us_blind0, fun U hU _ => ⟨rfl, congrArg Array.size hU⟩⟩ rfl rfl hl.1 rfl (lv_room (Nat.le_of_ble_eq_true rfl)) dX0_takeState_5 ⟨Nat.le_of_ble_eq_true rfl, Nat.le_of_ble_eq_true rfl⟩) hS (fun q h1 h2 => absurd h2 (Nat.not_le.mpr h1)) (fun q h => hA q (Nat.le_trans hS.1 h)) (fun r_2 _ t_3 H_1 locs ht hvm hw hB hz1 hk1 hS => ?_)
  subst hw
  have hP := us_mono hP (fun q h => hk1 q h (Nat.not_le.mpr h))
  refine lv_if_ne (tgt := 13) hx hb dX0_takeState_8 (by decide) (fun c_4 => ?_) (fun c_4 => ?_)
  · refine lv_iload_n hx hb dX0_takeState_13 rfl (lv_at hl 1 rfl) ?_
    refine va_calli (va_runS (As := [.int p1]) (rest := []) ⟨hx, hb, hml, hown, htb⟩ (kt_X0_needsCrew l H_1.size p1) (cwS 1 htb (us_gS mw_320 mw_321 mw_33 mw_322) rfl rfl rfl (by decide +kernel) ⟨Nat.le_of_ble_eq_true rfl, Nat.le_of_ble_eq_true rfl⟩) ⟨us_blind0, fun U hU _ => ⟨rfl, congrArg Array.size hU⟩⟩ rfl rfl hl.1 rfl (lv_room (Nat.le_of_ble_eq_true rfl)) dX0_takeState_14 ⟨Nat.le_of_ble_eq_true rfl, Nat.le_of_ble_eq_true rfl⟩) hS (fun q h1 h2 => absurd h2 (Nat.not_le.mpr h1)) (fun q h => hA q (Nat.le_trans hS.1 h)) (fun r_6 _ t_7 H_5 locs ht hvm hw hB hz1 hk1 hS => ?_)
    subst hw
    have hP := us_mono hP (fun q h => hk1 q h (Nat.not_le.mpr h))
    refine lv_if_eq (tgt := 33) hx hb dX0_takeState_17 (by decide) (fun c_8 => ?_) (fun c_8 => ?_)
    · refine lv_aload_n hx hb dX0_takeState_33 rfl (lv_at hl 0 rfl) ?_
      refine lv_aload_n hx hb dX0_takeState_34 rfl (lv_at hl 0 rfl) ?_
      refine lv_iload_n hx hb dX0_takeState_35 rfl (lv_at hl 3 rfl) ?_
      refine va_calli (va_runV (As := [.int p3]) (rest := [.ref h0]) ⟨hx, hb, hml, hown, htb⟩ (kt_X0_drivenUpTo l dC dI h0 H_5.size u p3) (cwV 1 htb (us_gV mw_323 mw_325 mw_10 mw_33 mw_326) rfl rfl rfl (by decide +kernel) ⟨Nat.le_of_ble_eq_true rfl, Nat.le_of_ble_eq_true rfl⟩) ⟨us_Pu_blind, va_recv hK hP (ci := 0) (q0 := 0) rfl rfl, fun U hU hW => ⟨rfl, us_Pu_at hP hK hU hW⟩⟩ rfl rfl hl.1 rfl (lv_room (Nat.le_of_ble_eq_true rfl)) dX0_takeState_36 ⟨Nat.le_of_ble_eq_true rfl, Nat.le_of_ble_eq_true rfl⟩) hS (fun q h1 h2 => absurd h2 (Nat.not_le.mpr h1)) (fun q h => hA q (Nat.le_trans hS.1 h)) (fun r_10 _ t_11 H_9 locs ht hvm hw hB hz1 hk1 hS => ?_)
      subst hw
      have hP := us_mono hP (fun q h => hk1 q h (Nat.not_le.mpr h))
      refine us_putU (u := u) hx hb htb us_inX0 hown hK hP hD hS 0 rfl 13 (by decide) (htb _ mw_78) dX0_takeState_39 (fun H_12 locs hP hD hS => ?_)
      have hP : va_P (dC, dI) vwCl (us_wu h0 (upd u 13 (sp_dr u p3))) H_12 := hP
      have hD : va_D (us_Au h0 s.heap.size) (us_wu h0 (upd u 13 (sp_dr u p3))) := hD
      refine lv_aload_n hx hb dX0_takeState_42 rfl (lv_at hl 0 rfl) ?_
      refine lv_iload_n hx hb dX0_takeState_43 rfl (lv_at hl 1 rfl) ?_
      refine us_putU (u := (upd u 13 (sp_dr u p3))) hx hb htb us_inX0 hown hK hP hD hS 0 rfl 2 (by decide) (htb _ mw_58) dX0_takeState_44 (fun H_13 locs hP hD hS => ?_)
      have hP : va_P (dC, dI) vwCl (us_wu h0 (upd (upd u 13 (sp_dr u p3)) 2 p1)) H_13 := hP
      have hD : va_D (us_Au h0 s.heap.size) (us_wu h0 (upd (upd u 13 (sp_dr u p3)) 2 p1)) := hD
      refine lv_aload_n hx hb dX0_takeState_47 rfl (lv_at hl 0 rfl) ?_
      refine lv_iload_n hx hb dX0_takeState_48 rfl (lv_at hl 3 rfl) ?_
      refine us_putU (u := (upd (upd u 13 (sp_dr u p3)) 2 p1)) hx hb htb us_inX0 hown hK hP hD hS 0 rfl 3 (by decide) (htb _ mw_60) dX0_takeState_49 (fun H_14 locs hP hD hS => ?_)
      have hP : va_P (dC, dI) vwCl (us_wu h0 (upd (upd (upd u 13 (sp_dr u p3)) 2 p1) 3 p3)) H_14 := hP
      have hD : va_D (us_Au h0 s.heap.size) (us_wu h0 (upd (upd (upd u 13 (sp_dr u p3)) 2 p1) 3 p3)) := hD
      refine lv_iload_n hx hb dX0_takeState_52 rfl (lv_at hl 1 rfl) ?_
      refine lv_iconst (v := 1) hx hb dX0_takeState_53 (by decide) ?_
      refine lv_icmp_ne (tgt := 62) hx hb dX0_takeState_54 (by decide) (fun c_15 => ?_) (fun c_15 => ?_)
      · refine lv_iload_n hx hb dX0_takeState_62 rfl (lv_at hl 1 rfl) ?_
        refine lv_iconst (v := 3) hx hb dX0_takeState_63 (by decide) ?_
        refine lv_icmp_ne (tgt := 78) hx hb dX0_takeState_64 (by decide) (fun c_16 => ?_) (fun c_16 => ?_)
        · refine lv_iload_n hx hb dX0_takeState_78 rfl (lv_at hl 1 rfl) ?_
          refine lv_if_ne (tgt := 90) hx hb dX0_takeState_79 (by decide) (fun c_17 => ?_) (fun c_17 => ?_)
          · refine lv_iconst (v := 0) hx hb dX0_takeState_90 (by decide) ?_
            have hsp : sp_tst u p1 p2 p3 p4 = (0, (upd (upd (upd u 13 (sp_dr u p3)) 2 p1) 3 p3)) := by first | (simp only [sp_tst, sp_go, eq_false c_4, eq_true c_8, eq_false c_15, eq_false c_16, eq_false c_17, if_true, if_false]; done) | (simp [sp_tst, sp_go, c_4, c_8, c_15, c_16, c_17]; done)
            exact W.iret (v := 0) hx hb hr (fun t ht hW => ⟨⟨0, (), rfl, by rw [hsp], us_Bu_of ht hP (by rw [hsp])⟩, hS.F ht⟩) hS.2.2 dX0_takeState_91
          · refine lv_aload_n hx hb dX0_takeState_82 rfl (lv_at hl 0 rfl) ?_
            refine lv_iload_n hx hb dX0_takeState_83 rfl (lv_at hl 2 rfl) ?_
            refine va_calli (va_runV (As := [.int p2]) (rest := []) ⟨hx, hb, hml, hown, htb⟩ (kt_X0_takeStation l dC dI h0 H_14.size (upd (upd (upd u 13 (sp_dr u p3)) 2 p1) 3 p3) p2) (cwV 1 htb (us_gV mw_331 mw_333 mw_12 mw_33 mw_334) rfl rfl rfl (by decide +kernel) ⟨Nat.le_of_ble_eq_true rfl, Nat.le_of_ble_eq_true rfl⟩) ⟨us_Pu_blind, va_recv hK hP (ci := 0) (q0 := 0) rfl rfl, fun U hU hW => ⟨rfl, us_Pu_at hP hK hU hW⟩⟩ rfl rfl hl.1 rfl (lv_room (Nat.le_of_ble_eq_true rfl)) dX0_takeState_84 ⟨Nat.le_of_ble_eq_true rfl, Nat.le_of_ble_eq_true rfl⟩) hS (fun q _ h => (us_Au_le (Or.inl rfl) hS hA) q h) (us_Au_le (Or.inl rfl) hS hA) (fun r_19 _ t_20 H_18 locs ht hvm hw hB hz1 hk1 hS => ?_)
            subst hw
            have hP := us_Bu_use ht hB
            have hD : va_D (us_Au h0 s.heap.size) (us_wu h0 (sp_ts (upd (upd (upd u 13 (sp_dr u p3)) 2 p1) 3 p3) p2).2) := us_D1 (Or.inl rfl)
            refine lv_goto (tgt := 91) hx hb dX0_takeState_87 (by decide) ?_
            have hsp : sp_tst u p1 p2 p3 p4 = ((sp_ts (upd (upd (upd u 13 (sp_dr u p3)) 2 p1) 3 p3) p2).1, (sp_ts (upd (upd (upd u 13 (sp_dr u p3)) 2 p1) 3 p3) p2).2) := by first | (simp only [sp_tst, sp_go, eq_false c_4, eq_true c_8, eq_false c_15, eq_false c_16, eq_true c_17, if_true, if_false]; done) | (simp [sp_tst, sp_go, c_4, c_8, c_15, c_16, c_17]; done)
            exact W.iret (v := (sp_ts (upd (upd (upd u 13 (sp_dr u p3)) 2 p1) 3 p3) p2).1) hx hb hr (fun t ht hW => ⟨⟨(sp_ts (upd (upd (upd u 13 (sp_dr u p3)) 2 p1) 3 p3) p2).1, (), rfl, by rw [hsp], us_Bu_of ht hP (by rw [hsp])⟩, hS.F ht⟩) hS.2.2 dX0_takeState_91
        · refine lv_aload_n hx hb dX0_takeState_67 rfl (lv_at hl 0 rfl) ?_
          refine lv_iload hx hb dX0_takeState_68 (lv_at hl 4 rfl) ?_
          refine us_putU (u := (upd (upd (upd u 13 (sp_dr u p3)) 2 p1) 3 p3)) hx hb htb us_inX0 hown hK hP hD hS 0 rfl 12 (by decide) (htb _ mw_76) dX0_takeState_70 (fun H_21 locs hP hD hS => ?_)
          have hP : va_P (dC, dI) vwCl (us_wu h0 (upd (upd (upd (upd u 13 (sp_dr u p3)) 2 p1) 3 p3) 12 p4)) H_21 := hP
          have hD : va_D (us_Au h0 s.heap.size) (us_wu h0 (upd (upd (upd (upd u 13 (sp_dr u p3)) 2 p1) 3 p3) 12 p4)) := hD
          refine lv_aload_n hx hb dX0_takeState_73 rfl (lv_at hl 0 rfl) ?_
          refine lv_iconst (v := (-1)) hx hb dX0_takeState_74 (by decide) ?_
          refine us_putU (u := (upd (upd (upd (upd u 13 (sp_dr u p3)) 2 p1) 3 p3) 12 p4)) hx hb htb us_inX0 hown hK hP hD hS 0 rfl 11 (by decide) (htb _ mw_74) dX0_takeState_75 (fun H_22 locs hP hD hS => ?_)
          have hP : va_P (dC, dI) vwCl (us_wu h0 (upd (upd (upd (upd (upd u 13 (sp_dr u p3)) 2 p1) 3 p3) 12 p4) 11 (-1))) H_22 := hP
          have hD : va_D (us_Au h0 s.heap.size) (us_wu h0 (upd (upd (upd (upd (upd u 13 (sp_dr u p3)) 2 p1) 3 p3) 12 p4) 11 (-1))) := hD
          refine lv_iload_n hx hb dX0_takeState_78 rfl (lv_at hl 1 rfl) ?_
          refine lv_if_ne (tgt := 90) hx hb dX0_takeState_79 (by decide) (fun c_23 => ?_) (fun c_23 => ?_)
          · refine lv_iconst (v := 0) hx hb dX0_takeState_90 (by decide) ?_
            have hsp : sp_tst u p1 p2 p3 p4 = (0, (upd (upd (upd (upd (upd u 13 (sp_dr u p3)) 2 p1) 3 p3) 12 p4) 11 (-1))) := by first | (simp only [sp_tst, sp_go, eq_false c_4, eq_true c_8, eq_false c_15, eq_true c_16, eq_false c_23, if_true, if_false]; done) | (simp [sp_tst, sp_go, c_4, c_8, c_15, c_16, c_23]; done)
            exact W.iret (v := 0) hx hb hr (fun t ht hW => ⟨⟨0, (), rfl, by rw [hsp], us_Bu_of ht hP (by rw [hsp])⟩, hS.F ht⟩) hS.2.2 dX0_takeState_91
          · exact absurd (c_16.symm.trans c_23) (by decide)
      · refine lv_aload_n hx hb dX0_takeState_57 rfl (lv_at hl 0 rfl) ?_
        refine lv_iload_n hx hb dX0_takeState_58 rfl (lv_at hl 2 rfl) ?_
        refine us_putU (u := (upd (upd (upd u 13 (sp_dr u p3)) 2 p1) 3 p3)) hx hb htb us_inX0 hown hK hP hD hS 0 rfl 5 (by decide) (htb _ mw_63) dX0_takeState_59 (fun H_24 locs hP hD hS => ?_)
        have hP : va_P (dC, dI) vwCl (us_wu h0 (upd (upd (upd (upd u 13 (sp_dr u p3)) 2 p1) 3 p3) 5 p2)) H_24 := hP
        have hD : va_D (us_Au h0 s.heap.size) (us_wu h0 (upd (upd (upd (upd u 13 (sp_dr u p3)) 2 p1) 3 p3) 5 p2)) := hD
        refine lv_iload_n hx hb dX0_takeState_62 rfl (lv_at hl 1 rfl) ?_
        refine lv_iconst (v := 3) hx hb dX0_takeState_63 (by decide) ?_
        refine lv_icmp_ne (tgt := 78) hx hb dX0_takeState_64 (by decide) (fun c_25 => ?_) (fun c_25 => ?_)
        · refine lv_iload_n hx hb dX0_takeState_78 rfl (lv_at hl 1 rfl) ?_
          refine lv_if_ne (tgt := 90) hx hb dX0_takeState_79 (by decide) (fun c_26 => ?_) (fun c_26 => ?_)
          · refine lv_iconst (v := 0) hx hb dX0_takeState_90 (by decide) ?_
            have hsp : sp_tst u p1 p2 p3 p4 = (0, (upd (upd (upd (upd u 13 (sp_dr u p3)) 2 p1) 3 p3) 5 p2)) := by first | (simp only [sp_tst, sp_go, eq_false c_4, eq_true c_8, eq_true c_15, eq_false c_25, eq_false c_26, if_true, if_false]; done) | (simp [sp_tst, sp_go, c_4, c_8, c_15, c_25, c_26]; done)
            exact W.iret (v := 0) hx hb hr (fun t ht hW => ⟨⟨0, (), rfl, by rw [hsp], us_Bu_of ht hP (by rw [hsp])⟩, hS.F ht⟩) hS.2.2 dX0_takeState_91
          · exact absurd (c_15.symm.trans c_26) (by decide)
        · exact absurd (c_15.symm.trans c_25) (by decide)
    · refine lv_aload_n hx hb dX0_takeState_20 rfl (lv_at hl 0 rfl) ?_
      refine us_getU (v := (u 6)) hx hb htb us_inX0 hown hK hP 0 rfl 6 (by decide) (htb _ mw_64) rfl dX0_takeState_21 ?_
      refine lv_aload_n hx hb dX0_takeState_24 rfl (lv_at hl 0 rfl) ?_
      refine us_getU (v := (u 1)) hx hb htb us_inX0 hown hK hP 0 rfl 1 (by decide) (htb _ mw_57) rfl dX0_takeState_25 ?_
      refine lv_icmp_ge (tgt := 33) hx hb dX0_takeState_28 (by decide) (fun c_27 => ?_) (fun c_27 => ?_)
      · refine lv_aload_n hx hb dX0_takeState_33 rfl (lv_at hl 0 rfl) ?_
        refine lv_aload_n hx hb dX0_takeState_34 rfl (lv_at hl 0 rfl) ?_
        refine lv_iload_n hx hb dX0_takeState_35 rfl (lv_at hl 3 rfl) ?_
        refine va_calli (va_runV (As := [.int p3]) (rest := [.ref h0]) ⟨hx, hb, hml, hown, htb⟩ (kt_X0_drivenUpTo l dC dI h0 H_5.size u p3) (cwV 1 htb (us_gV mw_323 mw_325 mw_10 mw_33 mw_326) rfl rfl rfl (by decide +kernel) ⟨Nat.le_of_ble_eq_true rfl, Nat.le_of_ble_eq_true rfl⟩) ⟨us_Pu_blind, va_recv hK hP (ci := 0) (q0 := 0) rfl rfl, fun U hU hW => ⟨rfl, us_Pu_at hP hK hU hW⟩⟩ rfl rfl hl.1 rfl (lv_room (Nat.le_of_ble_eq_true rfl)) dX0_takeState_36 ⟨Nat.le_of_ble_eq_true rfl, Nat.le_of_ble_eq_true rfl⟩) hS (fun q h1 h2 => absurd h2 (Nat.not_le.mpr h1)) (fun q h => hA q (Nat.le_trans hS.1 h)) (fun r_29 _ t_30 H_28 locs ht hvm hw hB hz1 hk1 hS => ?_)
        subst hw
        have hP := us_mono hP (fun q h => hk1 q h (Nat.not_le.mpr h))
        refine us_putU (u := u) hx hb htb us_inX0 hown hK hP hD hS 0 rfl 13 (by decide) (htb _ mw_78) dX0_takeState_39 (fun H_31 locs hP hD hS => ?_)
        have hP : va_P (dC, dI) vwCl (us_wu h0 (upd u 13 (sp_dr u p3))) H_31 := hP
        have hD : va_D (us_Au h0 s.heap.size) (us_wu h0 (upd u 13 (sp_dr u p3))) := hD
        refine lv_aload_n hx hb dX0_takeState_42 rfl (lv_at hl 0 rfl) ?_
        refine lv_iload_n hx hb dX0_takeState_43 rfl (lv_at hl 1 rfl) ?_
        refine us_putU (u := (upd u 13 (sp_dr u p3))) hx hb htb us_inX0 hown hK hP hD hS 0 rfl 2 (by decide) (htb _ mw_58) dX0_takeState_44 (fun H_32 locs hP hD hS => ?_)
        have hP : va_P (dC, dI) vwCl (us_wu h0 (upd (upd u 13 (sp_dr u p3)) 2 p1)) H_32 := hP
        have hD : va_D (us_Au h0 s.heap.size) (us_wu h0 (upd (upd u 13 (sp_dr u p3)) 2 p1)) := hD
        refine lv_aload_n hx hb dX0_takeState_47 rfl (lv_at hl 0 rfl) ?_
        refine lv_iload_n hx hb dX0_takeState_48 rfl (lv_at hl 3 rfl) ?_
        refine us_putU (u := (upd (upd u 13 (sp_dr u p3)) 2 p1)) hx hb htb us_inX0 hown hK hP hD hS 0 rfl 3 (by decide) (htb _ mw_60) dX0_takeState_49 (fun H_33 locs hP hD hS => ?_)
        have hP : va_P (dC, dI) vwCl (us_wu h0 (upd (upd (upd u 13 (sp_dr u p3)) 2 p1) 3 p3)) H_33 := hP
        have hD : va_D (us_Au h0 s.heap.size) (us_wu h0 (upd (upd (upd u 13 (sp_dr u p3)) 2 p1) 3 p3)) := hD
        refine lv_iload_n hx hb dX0_takeState_52 rfl (lv_at hl 1 rfl) ?_
        refine lv_iconst (v := 1) hx hb dX0_takeState_53 (by decide) ?_
        refine lv_icmp_ne (tgt := 62) hx hb dX0_takeState_54 (by decide) (fun c_34 => ?_) (fun c_34 => ?_)
        · refine lv_iload_n hx hb dX0_takeState_62 rfl (lv_at hl 1 rfl) ?_
          refine lv_iconst (v := 3) hx hb dX0_takeState_63 (by decide) ?_
          refine lv_icmp_ne (tgt := 78) hx hb dX0_takeState_64 (by decide) (fun c_35 => ?_) (fun c_35 => ?_)
          · refine lv_iload_n hx hb dX0_takeState_78 rfl (lv_at hl 1 rfl) ?_
            refine lv_if_ne (tgt := 90) hx hb dX0_takeState_79 (by decide) (fun c_36 => ?_) (fun c_36 => ?_)
            · refine lv_iconst (v := 0) hx hb dX0_takeState_90 (by decide) ?_
              have hsp : sp_tst u p1 p2 p3 p4 = (0, (upd (upd (upd u 13 (sp_dr u p3)) 2 p1) 3 p3)) := by first | (simp only [sp_tst, sp_go, eq_false c_4, eq_false c_8, eq_true c_27, eq_false c_34, eq_false c_35, eq_false c_36, if_true, if_false]; done) | (simp [sp_tst, sp_go, c_4, c_8, c_27, c_34, c_35, c_36]; done)
              exact W.iret (v := 0) hx hb hr (fun t ht hW => ⟨⟨0, (), rfl, by rw [hsp], us_Bu_of ht hP (by rw [hsp])⟩, hS.F ht⟩) hS.2.2 dX0_takeState_91
            · refine lv_aload_n hx hb dX0_takeState_82 rfl (lv_at hl 0 rfl) ?_
              refine lv_iload_n hx hb dX0_takeState_83 rfl (lv_at hl 2 rfl) ?_
              refine va_calli (va_runV (As := [.int p2]) (rest := []) ⟨hx, hb, hml, hown, htb⟩ (kt_X0_takeStation l dC dI h0 H_33.size (upd (upd (upd u 13 (sp_dr u p3)) 2 p1) 3 p3) p2) (cwV 1 htb (us_gV mw_331 mw_333 mw_12 mw_33 mw_334) rfl rfl rfl (by decide +kernel) ⟨Nat.le_of_ble_eq_true rfl, Nat.le_of_ble_eq_true rfl⟩) ⟨us_Pu_blind, va_recv hK hP (ci := 0) (q0 := 0) rfl rfl, fun U hU hW => ⟨rfl, us_Pu_at hP hK hU hW⟩⟩ rfl rfl hl.1 rfl (lv_room (Nat.le_of_ble_eq_true rfl)) dX0_takeState_84 ⟨Nat.le_of_ble_eq_true rfl, Nat.le_of_ble_eq_true rfl⟩) hS (fun q _ h => (us_Au_le (Or.inl rfl) hS hA) q h) (us_Au_le (Or.inl rfl) hS hA) (fun r_38 _ t_39 H_37 locs ht hvm hw hB hz1 hk1 hS => ?_)
              subst hw
              have hP := us_Bu_use ht hB
              have hD : va_D (us_Au h0 s.heap.size) (us_wu h0 (sp_ts (upd (upd (upd u 13 (sp_dr u p3)) 2 p1) 3 p3) p2).2) := us_D1 (Or.inl rfl)
              refine lv_goto (tgt := 91) hx hb dX0_takeState_87 (by decide) ?_
              have hsp : sp_tst u p1 p2 p3 p4 = ((sp_ts (upd (upd (upd u 13 (sp_dr u p3)) 2 p1) 3 p3) p2).1, (sp_ts (upd (upd (upd u 13 (sp_dr u p3)) 2 p1) 3 p3) p2).2) := by first | (simp only [sp_tst, sp_go, eq_false c_4, eq_false c_8, eq_true c_27, eq_false c_34, eq_false c_35, eq_true c_36, if_true, if_false]; done) | (simp [sp_tst, sp_go, c_4, c_8, c_27, c_34, c_35, c_36]; done)
              exact W.iret (v := (sp_ts (upd (upd (upd u 13 (sp_dr u p3)) 2 p1) 3 p3) p2).1) hx hb hr (fun t ht hW => ⟨⟨(sp_ts (upd (upd (upd u 13 (sp_dr u p3)) 2 p1) 3 p3) p2).1, (), rfl, by rw [hsp], us_Bu_of ht hP (by rw [hsp])⟩, hS.F ht⟩) hS.2.2 dX0_takeState_91
          · refine lv_aload_n hx hb dX0_takeState_67 rfl (lv_at hl 0 rfl) ?_
            refine lv_iload hx hb dX0_takeState_68 (lv_at hl 4 rfl) ?_
            refine us_putU (u := (upd (upd (upd u 13 (sp_dr u p3)) 2 p1) 3 p3)) hx hb htb us_inX0 hown hK hP hD hS 0 rfl 12 (by decide) (htb _ mw_76) dX0_takeState_70 (fun H_40 locs hP hD hS => ?_)
            have hP : va_P (dC, dI) vwCl (us_wu h0 (upd (upd (upd (upd u 13 (sp_dr u p3)) 2 p1) 3 p3) 12 p4)) H_40 := hP
            have hD : va_D (us_Au h0 s.heap.size) (us_wu h0 (upd (upd (upd (upd u 13 (sp_dr u p3)) 2 p1) 3 p3) 12 p4)) := hD
            refine lv_aload_n hx hb dX0_takeState_73 rfl (lv_at hl 0 rfl) ?_
            refine lv_iconst (v := (-1)) hx hb dX0_takeState_74 (by decide) ?_
            refine us_putU (u := (upd (upd (upd (upd u 13 (sp_dr u p3)) 2 p1) 3 p3) 12 p4)) hx hb htb us_inX0 hown hK hP hD hS 0 rfl 11 (by decide) (htb _ mw_74) dX0_takeState_75 (fun H_41 locs hP hD hS => ?_)
            have hP : va_P (dC, dI) vwCl (us_wu h0 (upd (upd (upd (upd (upd u 13 (sp_dr u p3)) 2 p1) 3 p3) 12 p4) 11 (-1))) H_41 := hP
            have hD : va_D (us_Au h0 s.heap.size) (us_wu h0 (upd (upd (upd (upd (upd u 13 (sp_dr u p3)) 2 p1) 3 p3) 12 p4) 11 (-1))) := hD
            refine lv_iload_n hx hb dX0_takeState_78 rfl (lv_at hl 1 rfl) ?_
            refine lv_if_ne (tgt := 90) hx hb dX0_takeState_79 (by decide) (fun c_42 => ?_) (fun c_42 => ?_)
            · refine lv_iconst (v := 0) hx hb dX0_takeState_90 (by decide) ?_
              have hsp : sp_tst u p1 p2 p3 p4 = (0, (upd (upd (upd (upd (upd u 13 (sp_dr u p3)) 2 p1) 3 p3) 12 p4) 11 (-1))) := by first | (simp only [sp_tst, sp_go, eq_false c_4, eq_false c_8, eq_true c_27, eq_false c_34, eq_true c_35, eq_false c_42, if_true, if_false]; done) | (simp [sp_tst, sp_go, c_4, c_8, c_27, c_34, c_35, c_42]; done)
              exact W.iret (v := 0) hx hb hr (fun t ht hW => ⟨⟨0, (), rfl, by rw [hsp], us_Bu_of ht hP (by rw [hsp])⟩, hS.F ht⟩) hS.2.2 dX0_takeState_91
            · exact absurd (c_35.symm.trans c_42) (by decide)
        · refine lv_aload_n hx hb dX0_takeState_57 rfl (lv_at hl 0 rfl) ?_
          refine lv_iload_n hx hb dX0_takeState_58 rfl (lv_at hl 2 rfl) ?_
          refine us_putU (u := (upd (upd (upd u 13 (sp_dr u p3)) 2 p1) 3 p3)) hx hb htb us_inX0 hown hK hP hD hS 0 rfl 5 (by decide) (htb _ mw_63) dX0_takeState_59 (fun H_43 locs hP hD hS => ?_)
          have hP : va_P (dC, dI) vwCl (us_wu h0 (upd (upd (upd (upd u 13 (sp_dr u p3)) 2 p1) 3 p3) 5 p2)) H_43 := hP
          have hD : va_D (us_Au h0 s.heap.size) (us_wu h0 (upd (upd (upd (upd u 13 (sp_dr u p3)) 2 p1) 3 p3) 5 p2)) := hD
          refine lv_iload_n hx hb dX0_takeState_62 rfl (lv_at hl 1 rfl) ?_
          refine lv_iconst (v := 3) hx hb dX0_takeState_63 (by decide) ?_
          refine lv_icmp_ne (tgt := 78) hx hb dX0_takeState_64 (by decide) (fun c_44 => ?_) (fun c_44 => ?_)
          · refine lv_iload_n hx hb dX0_takeState_78 rfl (lv_at hl 1 rfl) ?_
            refine lv_if_ne (tgt := 90) hx hb dX0_takeState_79 (by decide) (fun c_45 => ?_) (fun c_45 => ?_)
            · refine lv_iconst (v := 0) hx hb dX0_takeState_90 (by decide) ?_
              have hsp : sp_tst u p1 p2 p3 p4 = (0, (upd (upd (upd (upd u 13 (sp_dr u p3)) 2 p1) 3 p3) 5 p2)) := by first | (simp only [sp_tst, sp_go, eq_false c_4, eq_false c_8, eq_true c_27, eq_true c_34, eq_false c_44, eq_false c_45, if_true, if_false]; done) | (simp [sp_tst, sp_go, c_4, c_8, c_27, c_34, c_44, c_45]; done)
              exact W.iret (v := 0) hx hb hr (fun t ht hW => ⟨⟨0, (), rfl, by rw [hsp], us_Bu_of ht hP (by rw [hsp])⟩, hS.F ht⟩) hS.2.2 dX0_takeState_91
            · exact absurd (c_34.symm.trans c_45) (by decide)
          · exact absurd (c_34.symm.trans c_44) (by decide)
      · refine lv_iconst (v := 2) hx hb dX0_takeState_31 (by decide) ?_
        have hsp : sp_tst u p1 p2 p3 p4 = (2, u) := by first | (simp only [sp_tst, sp_go, eq_false c_4, eq_false c_8, eq_false c_27, if_true, if_false]; done) | (simp [sp_tst, sp_go, c_4, c_8, c_27]; done)
        exact W.iret (v := 2) hx hb hr (fun t ht hW => ⟨⟨2, (), rfl, by rw [hsp], us_Bu_of ht hP (by rw [hsp])⟩, hS.F ht⟩) hS.2.2 dX0_takeState_32
  · refine lv_iconst (v := 1) hx hb dX0_takeState_11 (by decide) ?_
    have hsp : sp_tst u p1 p2 p3 p4 = (1, u) := by first | (simp only [sp_tst, sp_go, eq_true c_4, if_true, if_false]; done) | (simp [sp_tst, sp_go, c_4]; done)
    exact W.iret (v := 1) hx hb hr (fun t ht hW => ⟨⟨1, (), rfl, by rw [hsp], us_Bu_of ht hP (by rw [hsp])⟩, hS.F ht⟩) hS.2.2 dX0_takeState_12
set_option maxHeartbeats 4000000 in
set_option maxRecDepth 100000 in
theorem kt_X0_take (l : Launch) (dC : Nat → ClassId) (dI : Nat → Nat → Nat) (h0 : Nat) (sz : Nat) (u : Nat → Int32) (p1 p2 p3 p4 : Int32) : Met l yX0_take wsX0_take ({ frames := 3, cells := 0, slots := 0, locals := 66 }) (va_Pc [.ref h0, .int p1, .int p2, .int p3, .int p4] (us_Pu dC dI h0 u sz)) (va_Qi (fun r (_ : Unit) => r = (sp_take u p1 p2 p3 p4).1) (fun _ t => us_Bu dC dI h0 (sp_take u p1 p2 p3 p4).2 t) (us_Au h0 sz)) 0 0 (us_Au h0 sz) := by
  refine Met.ofW (cc := cX0_take) (maxL := 5) (ret := (some .int)) (by decide) rfl ?_
  intro p e s m args below meth c s₁ B hml hv
  obtain ⟨rfl, hsz, hP, hK⟩ := hv
  have hx := B.exec
  have hb := B.bytes
  have hr := B.returns
  have htb := us_htb (atoms_spec (ws := wsX0_take) B.pre)
  have hown : s.vm.findClass RX0 = some m.cls := findClass_of_methodNamed B.named
  have hlocks := B.notSynchronized
  subst hsz
  have hA : ∀ q : Nat, s.heap.size ≤ q → us_Au h0 s.heap.size q := fun q h => Or.inr h
  have hD : va_D (us_Au h0 s.heap.size) (us_wu h0 u) := us_D1 (Or.inl rfl)
  have hS : va_S (us_Au h0 s.heap.size) s.heap s.heap [] := va_S.rf
  have hP : va_P (dC, dI) vwCl (us_wu h0 u) s.heap := hP
  have hl := lv_entry ([.ref h0, .int p1, .int p2, .int p3, .int p4]) (n := 5) (Nat.le_of_ble_eq_true rfl)
  rw [lg_entry_eq]
  generalize (lg_sl ([.ref h0, .int p1, .int p2, .int p3, .int p4]) ++ List.replicate (5 - (lg_sl ([.ref h0, .int p1, .int p2, .int p3, .int p4])).length) Slot.unset).toArray = ls at hl ⊢
  have hl : lv_has ls 5 [(0, .ref h0), (1, .int p1), (2, .int p2), (3, .int p3), (4, .int p4)] := hl
  refine lv_iload_n hx hb dX0_take_0 rfl (lv_at hl 1 rfl) ?_
  by_cases k_1 : p1 = 11
  · refine lv_tableIn (tgt := 36) hx hb dX0_take_1 (by rw [k_1]; decide) (by rw [k_1]; decide) (by rw [k_1]; rfl) (by decide) ?_
    refine lv_aload_n hx hb dX0_take_36 rfl (lv_at hl 0 rfl) ?_
    refine lv_iload_n hx hb dX0_take_37 rfl (lv_at hl 2 rfl) ?_
    refine lv_iload_n hx hb dX0_take_38 rfl (lv_at hl 3 rfl) ?_
    refine va_calli (va_runV (As := [.int p2, .int p3]) (rest := []) ⟨hx, hb, hml, hown, htb⟩ (kt_X0_takePlace l dC dI h0 s.heap.size u p2 p3) (cwV 2 htb (us_gV mw_309 mw_311 mw_8 mw_33 mw_312) rfl rfl rfl (by decide +kernel) ⟨Nat.le_of_ble_eq_true rfl, Nat.le_of_ble_eq_true rfl⟩) ⟨us_Pu_blind, va_recv hK hP (ci := 0) (q0 := 0) rfl rfl, fun U hU hW => ⟨rfl, us_Pu_at hP hK hU hW⟩⟩ rfl rfl hl.1 rfl (lv_room (Nat.le_of_ble_eq_true rfl)) dX0_take_39 ⟨Nat.le_of_ble_eq_true rfl, Nat.le_of_ble_eq_true rfl⟩) hS (fun q _ h => (us_Au_le (Or.inl rfl) hS hA) q h) (us_Au_le (Or.inl rfl) hS hA) (fun r_3 _ t_4 H_2 locs ht hvm hw hB hz1 hk1 hS => ?_)
    subst hw
    have hP := us_Bu_use ht hB
    have hD : va_D (us_Au h0 s.heap.size) (us_wu h0 (sp_tp u p2 p3).2) := us_D1 (Or.inl rfl)
    have hsp : sp_take u p1 p2 p3 p4 = ((sp_tp u p2 p3).1, (sp_tp u p2 p3).2) := by first | (simp only [sp_take, eq_true k_1, if_true, if_false]; done) | (simp [sp_take, k_1]; done)
    exact W.iret (v := (sp_tp u p2 p3).1) hx hb hr (fun t ht hW => ⟨⟨(sp_tp u p2 p3).1, (), rfl, by rw [hsp], us_Bu_of ht hP (by rw [hsp])⟩, hS.F ht⟩) hS.2.2 dX0_take_42
  by_cases k_5 : p1 = 12
  · refine lv_tableIn (tgt := 43) hx hb dX0_take_1 (by rw [k_5]; decide) (by rw [k_5]; decide) (by rw [k_5]; rfl) (by decide) ?_
    refine lv_aload_n hx hb dX0_take_43 rfl (lv_at hl 0 rfl) ?_
    refine lv_iload_n hx hb dX0_take_44 rfl (lv_at hl 2 rfl) ?_
    refine us_putU (u := u) hx hb htb us_inX0 hown hK hP hD hS 0 rfl 6 (by decide) (htb _ mw_64) dX0_take_45 (fun H_6 locs hP hD hS => ?_)
    have hP : va_P (dC, dI) vwCl (us_wu h0 (upd u 6 p2)) H_6 := hP
    have hD : va_D (us_Au h0 s.heap.size) (us_wu h0 (upd u 6 p2)) := hD
    refine lv_iconst (v := 0) hx hb dX0_take_48 (by decide) ?_
    have hsp : sp_take u p1 p2 p3 p4 = (0, (upd u 6 p2)) := by first | (simp only [sp_take, eq_true k_5, if_true, if_false]; done) | (simp [sp_take, k_5]; done)
    exact W.iret (v := 0) hx hb hr (fun t ht hW => ⟨⟨0, (), rfl, by rw [hsp], us_Bu_of ht hP (by rw [hsp])⟩, hS.F ht⟩) hS.2.2 dX0_take_49
  by_cases k_7 : p1 = 13
  · refine lv_tableIn (tgt := 50) hx hb dX0_take_1 (by rw [k_7]; decide) (by rw [k_7]; decide) (by rw [k_7]; rfl) (by decide) ?_
    refine lv_aload_n hx hb dX0_take_50 rfl (lv_at hl 0 rfl) ?_
    refine lv_iload_n hx hb dX0_take_51 rfl (lv_at hl 2 rfl) ?_
    refine us_putU (u := u) hx hb htb us_inX0 hown hK hP hD hS 0 rfl 7 (by decide) (htb _ mw_66) dX0_take_52 (fun H_8 locs hP hD hS => ?_)
    have hP : va_P (dC, dI) vwCl (us_wu h0 (upd u 7 p2)) H_8 := hP
    have hD : va_D (us_Au h0 s.heap.size) (us_wu h0 (upd u 7 p2)) := hD
    refine lv_iconst (v := 0) hx hb dX0_take_55 (by decide) ?_
    have hsp : sp_take u p1 p2 p3 p4 = (0, (upd u 7 p2)) := by first | (simp only [sp_take, eq_true k_7, if_true, if_false]; done) | (simp [sp_take, k_7]; done)
    exact W.iret (v := 0) hx hb hr (fun t ht hW => ⟨⟨0, (), rfl, by rw [hsp], us_Bu_of ht hP (by rw [hsp])⟩, hS.F ht⟩) hS.2.2 dX0_take_56
  by_cases k_9 : p1 = 14
  · refine lv_tableIn (tgt := 57) hx hb dX0_take_1 (by rw [k_9]; decide) (by rw [k_9]; decide) (by rw [k_9]; rfl) (by decide) ?_
    refine lv_aload_n hx hb dX0_take_57 rfl (lv_at hl 0 rfl) ?_
    refine lv_iload_n hx hb dX0_take_58 rfl (lv_at hl 2 rfl) ?_
    refine us_putU (u := u) hx hb htb us_inX0 hown hK hP hD hS 0 rfl 8 (by decide) (htb _ mw_68) dX0_take_59 (fun H_10 locs hP hD hS => ?_)
    have hP : va_P (dC, dI) vwCl (us_wu h0 (upd u 8 p2)) H_10 := hP
    have hD : va_D (us_Au h0 s.heap.size) (us_wu h0 (upd u 8 p2)) := hD
    refine lv_iconst (v := 0) hx hb dX0_take_62 (by decide) ?_
    have hsp : sp_take u p1 p2 p3 p4 = (0, (upd u 8 p2)) := by first | (simp only [sp_take, eq_true k_9, if_true, if_false]; done) | (simp [sp_take, k_9]; done)
    exact W.iret (v := 0) hx hb hr (fun t ht hW => ⟨⟨0, (), rfl, by rw [hsp], us_Bu_of ht hP (by rw [hsp])⟩, hS.F ht⟩) hS.2.2 dX0_take_63
  by_cases k_11 : p1 = 15
  · refine lv_tableIn (tgt := 64) hx hb dX0_take_1 (by rw [k_11]; decide) (by rw [k_11]; decide) (by rw [k_11]; rfl) (by decide) ?_
    refine lv_aload_n hx hb dX0_take_64 rfl (lv_at hl 0 rfl) ?_
    refine lv_iload_n hx hb dX0_take_65 rfl (lv_at hl 3 rfl) ?_
    refine lv_iload_n hx hb dX0_take_66 rfl (lv_at hl 2 rfl) ?_
    refine lv_iadd hx hb dX0_take_67 ?_
    refine us_putU (u := u) hx hb htb us_inX0 hown hK hP hD hS 0 rfl 11 (by decide) (htb _ mw_74) dX0_take_68 (fun H_12 locs hP hD hS => ?_)
    have hP : va_P (dC, dI) vwCl (us_wu h0 (upd u 11 (p3 + p2))) H_12 := hP
    have hD : va_D (us_Au h0 s.heap.size) (us_wu h0 (upd u 11 (p3 + p2))) := hD
    refine lv_iconst (v := 0) hx hb dX0_take_71 (by decide) ?_
    have hsp : sp_take u p1 p2 p3 p4 = (0, (upd u 11 (p3 + p2))) := by first | (simp only [sp_take, eq_true k_11, if_true, if_false]; done) | (simp [sp_take, k_11]; done)
    exact W.iret (v := 0) hx hb hr (fun t ht hW => ⟨⟨0, (), rfl, by rw [hsp], us_Bu_of ht hP (by rw [hsp])⟩, hS.F ht⟩) hS.2.2 dX0_take_72
  have hout_1 : p1.toInt < 11 ∨ 15 < p1.toInt := us_sw (lo := 11) (hi := 15) (fun z h1 h2 => by
    rcases (show z = 11 ∨ z = 12 ∨ z = 13 ∨ z = 14 ∨ z = 15 by omega) with rfl | rfl | rfl | rfl | rfl
    · exact fun e => k_1 (e.trans (by decide))
    · exact fun e => k_5 (e.trans (by decide))
    · exact fun e => k_7 (e.trans (by decide))
    · exact fun e => k_9 (e.trans (by decide))
    · exact fun e => k_11 (e.trans (by decide)))
  refine lv_tableOut (tgt := 73) hx hb dX0_take_1 hout_1 (by decide) ?_
  refine lv_aload_n hx hb dX0_take_73 rfl (lv_at hl 0 rfl) ?_
  refine lv_iload_n hx hb dX0_take_74 rfl (lv_at hl 1 rfl) ?_
  refine lv_iload_n hx hb dX0_take_75 rfl (lv_at hl 2 rfl) ?_
  refine lv_iload_n hx hb dX0_take_76 rfl (lv_at hl 3 rfl) ?_
  refine lv_iload hx hb dX0_take_77 (lv_at hl 4 rfl) ?_
  refine va_calli (va_runV (As := [.int p1, .int p2, .int p3, .int p4]) (rest := []) ⟨hx, hb, hml, hown, htb⟩ (kt_X0_takeState l dC dI h0 s.heap.size u p1 p2 p3 p4) (cwV 4 htb (us_gV mw_313 mw_315 mw_9 mw_33 mw_316) rfl rfl rfl (by decide +kernel) ⟨Nat.le_of_ble_eq_true rfl, Nat.le_of_ble_eq_true rfl⟩) ⟨us_Pu_blind, va_recv hK hP (ci := 0) (q0 := 0) rfl rfl, fun U hU hW => ⟨rfl, us_Pu_at hP hK hU hW⟩⟩ rfl rfl hl.1 rfl (lv_room (Nat.le_of_ble_eq_true rfl)) dX0_take_79 ⟨Nat.le_of_ble_eq_true rfl, Nat.le_of_ble_eq_true rfl⟩) hS (fun q _ h => (us_Au_le (Or.inl rfl) hS hA) q h) (us_Au_le (Or.inl rfl) hS hA) (fun r_14 _ t_15 H_13 locs ht hvm hw hB hz1 hk1 hS => ?_)
  subst hw
  have hP := us_Bu_use ht hB
  have hD : va_D (us_Au h0 s.heap.size) (us_wu h0 (sp_tst u p1 p2 p3 p4).2) := us_D1 (Or.inl rfl)
  have hsp : sp_take u p1 p2 p3 p4 = ((sp_tst u p1 p2 p3 p4).1, (sp_tst u p1 p2 p3 p4).2) := by first | (simp only [sp_take, eq_false k_1, eq_false k_5, eq_false k_7, eq_false k_9, eq_false k_11, if_true, if_false]; done) | (simp [sp_take, k_1, k_5, k_7, k_9, k_11]; done)
  exact W.iret (v := (sp_tst u p1 p2 p3 p4).1) hx hb hr (fun t ht hW => ⟨⟨(sp_tst u p1 p2 p3 p4).1, (), rfl, by rw [hsp], us_Bu_of ht hP (by rw [hsp])⟩, hS.F ht⟩) hS.2.2 dX0_take_82
end
section
set_option maxHeartbeats 8000000 in
set_option maxRecDepth 100000 in
theorem kt_X1_isWithin (l : Launch) (sz : Nat) (p1 : Int32) (p2 : Int32) : Met l yX1_isWithin wsX1_isWithin ({ frames := 0, cells := 0, slots := 0, locals := 0 }) (va_Pc [.int p1, .int p2] (fun S => S.heap.size = sz)) (va_Qi (fun r (_ : Unit) => True ∧ r = sp_in p1 p2) (fun _ _ => True) (us_new sz)) 0 0 (us_new sz) := by
  refine Met.ofW (cc := cX1_isWithin) (maxL := 2) (ret := (some .boolean)) (by decide) rfl ?_
  intro p e s m args below meth c s₁ B hml hv
  obtain ⟨rfl, hsz⟩ := hv
  have hx := B.exec
  have hb := B.bytes
  have hr := B.returns
  have htb := us_htb (atoms_spec (ws := wsX1_isWithin) B.pre)
  have hown : s.vm.findClass RX1 = some m.cls := findClass_of_methodNamed B.named
  have hlocks := B.notSynchronized
  subst hsz
  have hA : ∀ q : Nat, s.heap.size ≤ q → (us_new s.heap.size) q := fun q h => h
  have hS : va_S (us_new s.heap.size) s.heap s.heap [] := va_S.rf
  have hl := lv_entry ([.int p1, .int p2]) (n := 2) (Nat.le_of_ble_eq_true rfl)
  rw [lg_entry_eq]
  generalize (lg_sl ([.int p1, .int p2]) ++ List.replicate (2 - (lg_sl ([.int p1, .int p2])).length) Slot.unset).toArray = ls at hl ⊢
  have hl : lv_has ls 2 [(0, .int p1), (1, .int p2)] := hl
  refine lv_iload_n hx hb dX1_isWithin_0 rfl (lv_at hl 0 rfl) ?_
  refine lv_if_lt (tgt := 13) hx hb dX1_isWithin_1 (by decide) (fun c_1 => ?_) (fun c_1 => ?_)
  · refine lv_iconst (v := 0) hx hb dX1_isWithin_13 (by decide) ?_
    have hsp : 0 = sp_in p1 p2 := by first | (simp only [sp_in, eq_true c_1, if_true, if_false]; done) | (simp [sp_in, c_1]; done)
    exact ((W.zret (v := 0) hx hb hr (us_nz (by decide)) (fun t ht hW => ⟨⟨0, (), rfl, ⟨trivial, hsp⟩, trivial⟩, hS.F ht⟩) hS.2.2 dX1_isWithin_14))
  · refine lv_iload_n hx hb dX1_isWithin_4 rfl (lv_at hl 0 rfl) ?_
    refine lv_iload_n hx hb dX1_isWithin_5 rfl (lv_at hl 1 rfl) ?_
    refine lv_icmp_gt (tgt := 13) hx hb dX1_isWithin_6 (by decide) (fun c_2 => ?_) (fun c_2 => ?_)
    · refine lv_iconst (v := 0) hx hb dX1_isWithin_13 (by decide) ?_
      have hsp : 0 = sp_in p1 p2 := by first | (simp only [sp_in, eq_false c_1, eq_true c_2, if_true, if_false]; done) | (simp [sp_in, c_1, c_2]; done)
      exact ((W.zret (v := 0) hx hb hr (us_nz (by decide)) (fun t ht hW => ⟨⟨0, (), rfl, ⟨trivial, hsp⟩, trivial⟩, hS.F ht⟩) hS.2.2 dX1_isWithin_14))
    · refine lv_iconst (v := 1) hx hb dX1_isWithin_9 (by decide) ?_
      refine lv_goto (tgt := 14) hx hb dX1_isWithin_10 (by decide) ?_
      have hsp : 1 = sp_in p1 p2 := by first | (simp only [sp_in, eq_false c_1, eq_false c_2, if_true, if_false]; done) | (simp [sp_in, c_1, c_2]; done)
      exact ((W.zret (v := 1) hx hb hr (us_nz (by decide)) (fun t ht hW => ⟨⟨1, (), rfl, ⟨trivial, hsp⟩, trivial⟩, hS.F ht⟩) hS.2.2 dX1_isWithin_14))
set_option maxHeartbeats 8000000 in
set_option maxRecDepth 100000 in
theorem kt_X1_isValueOf (l : Launch) (sz : Nat) (p1 : Int32) (p2 : Int32) : Met l yX1_isValueOf wsX1_isValueOf ({ frames := 1, cells := 0, slots := 0, locals := 21 }) (va_Pc [.int p1, .int p2] (fun S => S.heap.size = sz)) (va_Qi (fun r (_ : Unit) => True ∧ r = sp_val p1 p2) (fun _ _ => True) (us_new sz)) 0 0 (us_new sz) := by
  refine Met.ofW (cc := cX1_isValueOf) (maxL := 2) (ret := (some .boolean)) (by decide) rfl ?_
  intro p e s m args below meth c s₁ B hml hv
  obtain ⟨rfl, hsz⟩ := hv
  have hx := B.exec
  have hb := B.bytes
  have hr := B.returns
  have htb := us_htb (atoms_spec (ws := wsX1_isValueOf) B.pre)
  have hown : s.vm.findClass RX1 = some m.cls := findClass_of_methodNamed B.named
  have hlocks := B.notSynchronized
  subst hsz
  have hA : ∀ q : Nat, s.heap.size ≤ q → (us_new s.heap.size) q := fun q h => h
  have hS : va_S (us_new s.heap.size) s.heap s.heap [] := va_S.rf
  have hl := lv_entry ([.int p1, .int p2]) (n := 2) (Nat.le_of_ble_eq_true rfl)
  rw [lg_entry_eq]
  generalize (lg_sl ([.int p1, .int p2]) ++ List.replicate (2 - (lg_sl ([.int p1, .int p2])).length) Slot.unset).toArray = ls at hl ⊢
  have hl : lv_has ls 2 [(0, .int p1), (1, .int p2)] := hl
  refine lv_iload_n hx hb dX1_isValueOf_0 rfl (lv_at hl 0 rfl) ?_
  by_cases k_1 : p1 = 0
  · refine lv_tableIn (tgt := 80) hx hb dX1_isValueOf_1 (by rw [k_1]; decide) (by rw [k_1]; decide) (by rw [k_1]; rfl) (by decide) ?_
    refine lv_iload_n hx hb dX1_isValueOf_80 rfl (lv_at hl 1 rfl) ?_
    refine lv_bipush (v := 9) hx hb dX1_isValueOf_81 (by decide) ?_
    refine va_calli (va_runS (As := [.int p2, .int 9]) (rest := []) ⟨hx, hb, hml, hown, htb⟩ (kt_X1_isWithin l s.heap.size p2 9) (cwS 2 htb (us_gS mw_149 mw_150 mw_32 mw_151) rfl rfl rfl (by decide +kernel) ⟨Nat.le_of_ble_eq_true rfl, Nat.le_of_ble_eq_true rfl⟩) ⟨us_blind0, fun U hU _ => ⟨rfl, congrArg Array.size hU⟩⟩ rfl rfl hl.1 rfl (lv_room (Nat.le_of_ble_eq_true rfl)) dX1_isValueOf_83 ⟨Nat.le_of_ble_eq_true rfl, Nat.le_of_ble_eq_true rfl⟩) hS (fun q h1 h2 => absurd h2 (Nat.not_le.mpr h1)) (fun q h => hA q (Nat.le_trans hS.1 h)) (fun r_3 _ t_4 H_2 locs ht hvm hw hB hz1 hk1 hS => ?_)
    obtain ⟨-, hw⟩ := hw
    subst hw
    have hsp : (sp_in p2 9) = sp_val p1 p2 := by first | (simp only [sp_val, eq_true k_1, if_true, if_false]; done) | (simp [sp_val, k_1]; done)
    exact ((W.zret (v := (sp_in p2 9)) hx hb hr (us_nz (sp_in_01 _ _)) (fun t ht hW => ⟨⟨(sp_in p2 9), (), rfl, ⟨trivial, hsp⟩, trivial⟩, hS.F ht⟩) hS.2.2 dX1_isValueOf_86))
  by_cases k_5 : p1 = 1
  · refine lv_tableIn (tgt := 87) hx hb dX1_isValueOf_1 (by rw [k_5]; decide) (by rw [k_5]; decide) (by rw [k_5]; rfl) (by decide) ?_
    refine lv_iload_n hx hb dX1_isValueOf_87 rfl (lv_at hl 1 rfl) ?_
    refine lv_bipush (v := 19) hx hb dX1_isValueOf_88 (by decide) ?_
    refine va_calli (va_runS (As := [.int p2, .int 19]) (rest := []) ⟨hx, hb, hml, hown, htb⟩ (kt_X1_isWithin l s.heap.size p2 19) (cwS 2 htb (us_gS mw_149 mw_150 mw_32 mw_151) rfl rfl rfl (by decide +kernel) ⟨Nat.le_of_ble_eq_true rfl, Nat.le_of_ble_eq_true rfl⟩) ⟨us_blind0, fun U hU _ => ⟨rfl, congrArg Array.size hU⟩⟩ rfl rfl hl.1 rfl (lv_room (Nat.le_of_ble_eq_true rfl)) dX1_isValueOf_90 ⟨Nat.le_of_ble_eq_true rfl, Nat.le_of_ble_eq_true rfl⟩) hS (fun q h1 h2 => absurd h2 (Nat.not_le.mpr h1)) (fun q h => hA q (Nat.le_trans hS.1 h)) (fun r_7 _ t_8 H_6 locs ht hvm hw hB hz1 hk1 hS => ?_)
    obtain ⟨-, hw⟩ := hw
    subst hw
    have hsp : (sp_in p2 19) = sp_val p1 p2 := by first | (simp only [sp_val, eq_true k_5, if_true, if_false]; done) | (simp [sp_val, k_5]; done)
    exact ((W.zret (v := (sp_in p2 19)) hx hb hr (us_nz (sp_in_01 _ _)) (fun t ht hW => ⟨⟨(sp_in p2 19), (), rfl, ⟨trivial, hsp⟩, trivial⟩, hS.F ht⟩) hS.2.2 dX1_isValueOf_93))
  by_cases k_9 : p1 = 2
  · refine lv_tableIn (tgt := 130) hx hb dX1_isValueOf_1 (by rw [k_9]; decide) (by rw [k_9]; decide) (by rw [k_9]; rfl) (by decide) ?_
    refine lv_iconst (v := 1) hx hb dX1_isValueOf_130 (by decide) ?_
    have hsp : 1 = sp_val p1 p2 := by first | (simp only [sp_val, eq_true k_9, if_true, if_false]; done) | (simp [sp_val, k_9]; done)
    exact ((W.zret (v := 1) hx hb hr (us_nz (by decide)) (fun t ht hW => ⟨⟨1, (), rfl, ⟨trivial, hsp⟩, trivial⟩, hS.F ht⟩) hS.2.2 dX1_isValueOf_131))
  by_cases k_10 : p1 = 3
  · refine lv_tableIn (tgt := 130) hx hb dX1_isValueOf_1 (by rw [k_10]; decide) (by rw [k_10]; decide) (by rw [k_10]; rfl) (by decide) ?_
    refine lv_iconst (v := 1) hx hb dX1_isValueOf_130 (by decide) ?_
    have hsp : 1 = sp_val p1 p2 := by first | (simp only [sp_val, eq_true k_10, if_true, if_false]; done) | (simp [sp_val, k_10]; done)
    exact ((W.zret (v := 1) hx hb hr (us_nz (by decide)) (fun t ht hW => ⟨⟨1, (), rfl, ⟨trivial, hsp⟩, trivial⟩, hS.F ht⟩) hS.2.2 dX1_isValueOf_131))
  by_cases k_11 : p1 = 4
  · refine lv_tableIn (tgt := 130) hx hb dX1_isValueOf_1 (by rw [k_11]; decide) (by rw [k_11]; decide) (by rw [k_11]; rfl) (by decide) ?_
    refine lv_iconst (v := 1) hx hb dX1_isValueOf_130 (by decide) ?_
    have hsp : 1 = sp_val p1 p2 := by first | (simp only [sp_val, eq_true k_11, if_true, if_false]; done) | (simp [sp_val, k_11]; done)
    exact ((W.zret (v := 1) hx hb hr (us_nz (by decide)) (fun t ht hW => ⟨⟨1, (), rfl, ⟨trivial, hsp⟩, trivial⟩, hS.F ht⟩) hS.2.2 dX1_isValueOf_131))
  by_cases k_12 : p1 = 5
  · refine lv_tableIn (tgt := 130) hx hb dX1_isValueOf_1 (by rw [k_12]; decide) (by rw [k_12]; decide) (by rw [k_12]; rfl) (by decide) ?_
    refine lv_iconst (v := 1) hx hb dX1_isValueOf_130 (by decide) ?_
    have hsp : 1 = sp_val p1 p2 := by first | (simp only [sp_val, eq_true k_12, if_true, if_false]; done) | (simp [sp_val, k_12]; done)
    exact ((W.zret (v := 1) hx hb hr (us_nz (by decide)) (fun t ht hW => ⟨⟨1, (), rfl, ⟨trivial, hsp⟩, trivial⟩, hS.F ht⟩) hS.2.2 dX1_isValueOf_131))
  by_cases k_13 : p1 = 6
  · refine lv_tableIn (tgt := 130) hx hb dX1_isValueOf_1 (by rw [k_13]; decide) (by rw [k_13]; decide) (by rw [k_13]; rfl) (by decide) ?_
    refine lv_iconst (v := 1) hx hb dX1_isValueOf_130 (by decide) ?_
    have hsp : 1 = sp_val p1 p2 := by first | (simp only [sp_val, eq_true k_13, if_true, if_false]; done) | (simp [sp_val, k_13]; done)
    exact ((W.zret (v := 1) hx hb hr (us_nz (by decide)) (fun t ht hW => ⟨⟨1, (), rfl, ⟨trivial, hsp⟩, trivial⟩, hS.F ht⟩) hS.2.2 dX1_isValueOf_131))
  by_cases k_14 : p1 = 7
  · refine lv_tableIn (tgt := 130) hx hb dX1_isValueOf_1 (by rw [k_14]; decide) (by rw [k_14]; decide) (by rw [k_14]; rfl) (by decide) ?_
    refine lv_iconst (v := 1) hx hb dX1_isValueOf_130 (by decide) ?_
    have hsp : 1 = sp_val p1 p2 := by first | (simp only [sp_val, eq_true k_14, if_true, if_false]; done) | (simp [sp_val, k_14]; done)
    exact ((W.zret (v := 1) hx hb hr (us_nz (by decide)) (fun t ht hW => ⟨⟨1, (), rfl, ⟨trivial, hsp⟩, trivial⟩, hS.F ht⟩) hS.2.2 dX1_isValueOf_131))
  by_cases k_15 : p1 = 8
  · refine lv_tableIn (tgt := 130) hx hb dX1_isValueOf_1 (by rw [k_15]; decide) (by rw [k_15]; decide) (by rw [k_15]; rfl) (by decide) ?_
    refine lv_iconst (v := 1) hx hb dX1_isValueOf_130 (by decide) ?_
    have hsp : 1 = sp_val p1 p2 := by first | (simp only [sp_val, eq_true k_15, if_true, if_false]; done) | (simp [sp_val, k_15]; done)
    exact ((W.zret (v := 1) hx hb hr (us_nz (by decide)) (fun t ht hW => ⟨⟨1, (), rfl, ⟨trivial, hsp⟩, trivial⟩, hS.F ht⟩) hS.2.2 dX1_isValueOf_131))
  by_cases k_16 : p1 = 9
  · refine lv_tableIn (tgt := 130) hx hb dX1_isValueOf_1 (by rw [k_16]; decide) (by rw [k_16]; decide) (by rw [k_16]; rfl) (by decide) ?_
    refine lv_iconst (v := 1) hx hb dX1_isValueOf_130 (by decide) ?_
    have hsp : 1 = sp_val p1 p2 := by first | (simp only [sp_val, eq_true k_16, if_true, if_false]; done) | (simp [sp_val, k_16]; done)
    exact ((W.zret (v := 1) hx hb hr (us_nz (by decide)) (fun t ht hW => ⟨⟨1, (), rfl, ⟨trivial, hsp⟩, trivial⟩, hS.F ht⟩) hS.2.2 dX1_isValueOf_131))
  by_cases k_17 : p1 = 10
  · refine lv_tableIn (tgt := 130) hx hb dX1_isValueOf_1 (by rw [k_17]; decide) (by rw [k_17]; decide) (by rw [k_17]; rfl) (by decide) ?_
    refine lv_iconst (v := 1) hx hb dX1_isValueOf_130 (by decide) ?_
    have hsp : 1 = sp_val p1 p2 := by first | (simp only [sp_val, eq_true k_17, if_true, if_false]; done) | (simp [sp_val, k_17]; done)
    exact ((W.zret (v := 1) hx hb hr (us_nz (by decide)) (fun t ht hW => ⟨⟨1, (), rfl, ⟨trivial, hsp⟩, trivial⟩, hS.F ht⟩) hS.2.2 dX1_isValueOf_131))
  by_cases k_18 : p1 = 11
  · refine lv_tableIn (tgt := 94) hx hb dX1_isValueOf_1 (by rw [k_18]; decide) (by rw [k_18]; decide) (by rw [k_18]; rfl) (by decide) ?_
    refine lv_iload_n hx hb dX1_isValueOf_94 rfl (lv_at hl 1 rfl) ?_
    refine lv_ldc (v := 999999) hx hb hown (htb _ mw_278) dX1_isValueOf_95 ?_
    refine va_calli (va_runS (As := [.int p2, .int 999999]) (rest := []) ⟨hx, hb, hml, hown, htb⟩ (kt_X1_isWithin l s.heap.size p2 999999) (cwS 2 htb (us_gS mw_149 mw_150 mw_32 mw_151) rfl rfl rfl (by decide +kernel) ⟨Nat.le_of_ble_eq_true rfl, Nat.le_of_ble_eq_true rfl⟩) ⟨us_blind0, fun U hU _ => ⟨rfl, congrArg Array.size hU⟩⟩ rfl rfl hl.1 rfl (lv_room (Nat.le_of_ble_eq_true rfl)) dX1_isValueOf_97 ⟨Nat.le_of_ble_eq_true rfl, Nat.le_of_ble_eq_true rfl⟩) hS (fun q h1 h2 => absurd h2 (Nat.not_le.mpr h1)) (fun q h => hA q (Nat.le_trans hS.1 h)) (fun r_20 _ t_21 H_19 locs ht hvm hw hB hz1 hk1 hS => ?_)
    obtain ⟨-, hw⟩ := hw
    subst hw
    have hsp : (sp_in p2 999999) = sp_val p1 p2 := by first | (simp only [sp_val, eq_true k_18, if_true, if_false]; done) | (simp [sp_val, k_18]; done)
    exact ((W.zret (v := (sp_in p2 999999)) hx hb hr (us_nz (sp_in_01 _ _)) (fun t ht hW => ⟨⟨(sp_in p2 999999), (), rfl, ⟨trivial, hsp⟩, trivial⟩, hS.F ht⟩) hS.2.2 dX1_isValueOf_100))
  by_cases k_22 : p1 = 12
  · refine lv_tableIn (tgt := 101) hx hb dX1_isValueOf_1 (by rw [k_22]; decide) (by rw [k_22]; decide) (by rw [k_22]; rfl) (by decide) ?_
    refine lv_iload_n hx hb dX1_isValueOf_101 rfl (lv_at hl 1 rfl) ?_
    refine lv_bipush (v := 9) hx hb dX1_isValueOf_102 (by decide) ?_
    refine va_calli (va_runS (As := [.int p2, .int 9]) (rest := []) ⟨hx, hb, hml, hown, htb⟩ (kt_X1_isWithin l s.heap.size p2 9) (cwS 2 htb (us_gS mw_149 mw_150 mw_32 mw_151) rfl rfl rfl (by decide +kernel) ⟨Nat.le_of_ble_eq_true rfl, Nat.le_of_ble_eq_true rfl⟩) ⟨us_blind0, fun U hU _ => ⟨rfl, congrArg Array.size hU⟩⟩ rfl rfl hl.1 rfl (lv_room (Nat.le_of_ble_eq_true rfl)) dX1_isValueOf_104 ⟨Nat.le_of_ble_eq_true rfl, Nat.le_of_ble_eq_true rfl⟩) hS (fun q h1 h2 => absurd h2 (Nat.not_le.mpr h1)) (fun q h => hA q (Nat.le_trans hS.1 h)) (fun r_24 _ t_25 H_23 locs ht hvm hw hB hz1 hk1 hS => ?_)
    obtain ⟨-, hw⟩ := hw
    subst hw
    have hsp : (sp_in p2 9) = sp_val p1 p2 := by first | (simp only [sp_val, eq_true k_22, if_true, if_false]; done) | (simp [sp_val, k_22]; done)
    exact ((W.zret (v := (sp_in p2 9)) hx hb hr (us_nz (sp_in_01 _ _)) (fun t ht hW => ⟨⟨(sp_in p2 9), (), rfl, ⟨trivial, hsp⟩, trivial⟩, hS.F ht⟩) hS.2.2 dX1_isValueOf_107))
  by_cases k_26 : p1 = 13
  · refine lv_tableIn (tgt := 108) hx hb dX1_isValueOf_1 (by rw [k_26]; decide) (by rw [k_26]; decide) (by rw [k_26]; rfl) (by decide) ?_
    refine lv_iload_n hx hb dX1_isValueOf_108 rfl (lv_at hl 1 rfl) ?_
    refine lv_sipush (v := 255) hx hb dX1_isValueOf_109 (by decide) ?_
    refine va_calli (va_runS (As := [.int p2, .int 255]) (rest := []) ⟨hx, hb, hml, hown, htb⟩ (kt_X1_isWithin l s.heap.size p2 255) (cwS 2 htb (us_gS mw_149 mw_150 mw_32 mw_151) rfl rfl rfl (by decide +kernel) ⟨Nat.le_of_ble_eq_true rfl, Nat.le_of_ble_eq_true rfl⟩) ⟨us_blind0, fun U hU _ => ⟨rfl, congrArg Array.size hU⟩⟩ rfl rfl hl.1 rfl (lv_room (Nat.le_of_ble_eq_true rfl)) dX1_isValueOf_112 ⟨Nat.le_of_ble_eq_true rfl, Nat.le_of_ble_eq_true rfl⟩) hS (fun q h1 h2 => absurd h2 (Nat.not_le.mpr h1)) (fun q h => hA q (Nat.le_trans hS.1 h)) (fun r_28 _ t_29 H_27 locs ht hvm hw hB hz1 hk1 hS => ?_)
    obtain ⟨-, hw⟩ := hw
    subst hw
    have hsp : (sp_in p2 255) = sp_val p1 p2 := by first | (simp only [sp_val, eq_true k_26, if_true, if_false]; done) | (simp [sp_val, k_26]; done)
    exact ((W.zret (v := (sp_in p2 255)) hx hb hr (us_nz (sp_in_01 _ _)) (fun t ht hW => ⟨⟨(sp_in p2 255), (), rfl, ⟨trivial, hsp⟩, trivial⟩, hS.F ht⟩) hS.2.2 dX1_isValueOf_115))
  by_cases k_30 : p1 = 14
  · refine lv_tableIn (tgt := 116) hx hb dX1_isValueOf_1 (by rw [k_30]; decide) (by rw [k_30]; decide) (by rw [k_30]; rfl) (by decide) ?_
    refine lv_iload_n hx hb dX1_isValueOf_116 rfl (lv_at hl 1 rfl) ?_
    refine lv_iconst (v := 1) hx hb dX1_isValueOf_117 (by decide) ?_
    refine va_calli (va_runS (As := [.int p2, .int 1]) (rest := []) ⟨hx, hb, hml, hown, htb⟩ (kt_X1_isWithin l s.heap.size p2 1) (cwS 2 htb (us_gS mw_149 mw_150 mw_32 mw_151) rfl rfl rfl (by decide +kernel) ⟨Nat.le_of_ble_eq_true rfl, Nat.le_of_ble_eq_true rfl⟩) ⟨us_blind0, fun U hU _ => ⟨rfl, congrArg Array.size hU⟩⟩ rfl rfl hl.1 rfl (lv_room (Nat.le_of_ble_eq_true rfl)) dX1_isValueOf_118 ⟨Nat.le_of_ble_eq_true rfl, Nat.le_of_ble_eq_true rfl⟩) hS (fun q h1 h2 => absurd h2 (Nat.not_le.mpr h1)) (fun q h => hA q (Nat.le_trans hS.1 h)) (fun r_32 _ t_33 H_31 locs ht hvm hw hB hz1 hk1 hS => ?_)
    obtain ⟨-, hw⟩ := hw
    subst hw
    have hsp : (sp_in p2 1) = sp_val p1 p2 := by first | (simp only [sp_val, eq_true k_30, if_true, if_false]; done) | (simp [sp_val, k_30]; done)
    exact ((W.zret (v := (sp_in p2 1)) hx hb hr (us_nz (sp_in_01 _ _)) (fun t ht hW => ⟨⟨(sp_in p2 1), (), rfl, ⟨trivial, hsp⟩, trivial⟩, hS.F ht⟩) hS.2.2 dX1_isValueOf_121))
  by_cases k_34 : p1 = 15
  · refine lv_tableIn (tgt := 122) hx hb dX1_isValueOf_1 (by rw [k_34]; decide) (by rw [k_34]; decide) (by rw [k_34]; rfl) (by decide) ?_
    refine lv_iload_n hx hb dX1_isValueOf_122 rfl (lv_at hl 1 rfl) ?_
    refine lv_sipush (v := 999) hx hb dX1_isValueOf_123 (by decide) ?_
    refine va_calli (va_runS (As := [.int p2, .int 999]) (rest := []) ⟨hx, hb, hml, hown, htb⟩ (kt_X1_isWithin l s.heap.size p2 999) (cwS 2 htb (us_gS mw_149 mw_150 mw_32 mw_151) rfl rfl rfl (by decide +kernel) ⟨Nat.le_of_ble_eq_true rfl, Nat.le_of_ble_eq_true rfl⟩) ⟨us_blind0, fun U hU _ => ⟨rfl, congrArg Array.size hU⟩⟩ rfl rfl hl.1 rfl (lv_room (Nat.le_of_ble_eq_true rfl)) dX1_isValueOf_126 ⟨Nat.le_of_ble_eq_true rfl, Nat.le_of_ble_eq_true rfl⟩) hS (fun q h1 h2 => absurd h2 (Nat.not_le.mpr h1)) (fun q h => hA q (Nat.le_trans hS.1 h)) (fun r_36 _ t_37 H_35 locs ht hvm hw hB hz1 hk1 hS => ?_)
    obtain ⟨-, hw⟩ := hw
    subst hw
    have hsp : (sp_in p2 999) = sp_val p1 p2 := by first | (simp only [sp_val, eq_true k_34, if_true, if_false]; done) | (simp [sp_val, k_34]; done)
    exact ((W.zret (v := (sp_in p2 999)) hx hb hr (us_nz (sp_in_01 _ _)) (fun t ht hW => ⟨⟨(sp_in p2 999), (), rfl, ⟨trivial, hsp⟩, trivial⟩, hS.F ht⟩) hS.2.2 dX1_isValueOf_129))
  have hout_1 : p1.toInt < 0 ∨ 15 < p1.toInt := us_sw (lo := 0) (hi := 15) (fun z h1 h2 => by
    rcases (show z = 0 ∨ z = 1 ∨ z = 2 ∨ z = 3 ∨ z = 4 ∨ z = 5 ∨ z = 6 ∨ z = 7 ∨ z = 8 ∨ z = 9 ∨ z = 10 ∨ z = 11 ∨ z = 12 ∨ z = 13 ∨ z = 14 ∨ z = 15 by omega) with rfl | rfl | rfl | rfl | rfl | rfl | rfl | rfl | rfl | rfl | rfl | rfl | rfl | rfl | rfl | rfl
    · exact fun e => k_1 (e.trans (by decide))
    · exact fun e => k_5 (e.trans (by decide))
    · exact fun e => k_9 (e.trans (by decide))
    · exact fun e => k_10 (e.trans (by decide))
    · exact fun e => k_11 (e.trans (by decide))
    · exact fun e => k_12 (e.trans (by decide))
    · exact fun e => k_13 (e.trans (by decide))
    · exact fun e => k_14 (e.trans (by decide))
    · exact fun e => k_15 (e.trans (by decide))
    · exact fun e => k_16 (e.trans (by decide))
    · exact fun e => k_17 (e.trans (by decide))
    · exact fun e => k_18 (e.trans (by decide))
    · exact fun e => k_22 (e.trans (by decide))
    · exact fun e => k_26 (e.trans (by decide))
    · exact fun e => k_30 (e.trans (by decide))
    · exact fun e => k_34 (e.trans (by decide)))
  refine lv_tableOut (tgt := 130) hx hb dX1_isValueOf_1 hout_1 (by decide) ?_
  refine lv_iconst (v := 1) hx hb dX1_isValueOf_130 (by decide) ?_
  have hsp : 1 = sp_val p1 p2 := by first | (simp only [sp_val, eq_false k_1, eq_false k_5, eq_false k_9, eq_false k_10, eq_false k_11, eq_false k_12, eq_false k_13, eq_false k_14, eq_false k_15, eq_false k_16, eq_false k_17, eq_false k_18, eq_false k_22, eq_false k_26, eq_false k_30, eq_false k_34, if_true, if_false]; done) | (simp [sp_val, k_1, k_5, k_9, k_10, k_11, k_12, k_13, k_14, k_15, k_16, k_17, k_18, k_22, k_26, k_30, k_34]; done)
  exact ((W.zret (v := 1) hx hb hr (us_nz (by decide)) (fun t ht hW => ⟨⟨1, (), rfl, ⟨trivial, hsp⟩, trivial⟩, hS.F ht⟩) hS.2.2 dX1_isValueOf_131))
set_option maxHeartbeats 8000000 in
set_option maxRecDepth 100000 in
theorem kt_X1_refuseOutsideMinutes (l : Launch) (hl9 : l.stackTraces = false) (sz : Nat) (p1 : Int32) : vx_Met l yX1_refuseOutsideMinutes wsX1_refuseOutsideMinutes ({ frames := 6, cells := 1, slots := 6, locals := 91 }) (va_Pc [.int p1] (us_P0 sz)) (va_Qv (fun _ : Unit => sp_minK p1 = 0) (fun _ _ => True) (us_new sz)) (vx_X (fun _ : Unit => ¬ sp_minK p1 = 0) (fun E _ t => E = us_en (sp_minK p1)) (us_new sz)) 1 6 (us_new sz) := by
  refine vx_ofW (cc := cX1_refuseOutsideMinutes) (maxL := 1) (ret := none) (by decide) rfl ?_
  intro p e s m args below meth c s₁ B hml hte hv
  obtain ⟨rfl, hsz, hE⟩ := hv
  have hx := B.exec
  have hb := B.bytes
  have hr := B.returns
  have htb := us_htb (atoms_spec (ws := wsX1_refuseOutsideMinutes) B.pre)
  have hown : s.vm.findClass RX1 = some m.cls := findClass_of_methodNamed B.named
  have hlocks := B.notSynchronized
  subst hsz
  have hA : ∀ q : Nat, s.heap.size ≤ q → (us_new s.heap.size) q := fun q h => h
  have hS : va_S (us_new s.heap.size) s.heap s.heap [] := va_S.rf
  have hl := lv_entry ([.int p1]) (n := 1) (Nat.le_of_ble_eq_true rfl)
  rw [lg_entry_eq]
  generalize (lg_sl ([.int p1]) ++ List.replicate (1 - (lg_sl ([.int p1])).length) Slot.unset).toArray = ls at hl ⊢
  have hl : lv_has ls 1 [(0, .int p1)] := hl
  refine lv_iload_n hx hb dX1_refuseOutsideMinutes_0 rfl (lv_at hl 0 rfl) ?_
  refine lv_ldc (v := 99999) hx hb hown (htb _ mw_273) dX1_refuseOutsideMinutes_1 ?_
  refine va_calli (va_runS (As := [.int p1, .int 99999]) (rest := []) ⟨hx, hb, hml, hown, htb⟩ (kt_X1_isWithin l s.heap.size p1 99999) (cwS 2 htb (us_gS mw_149 mw_150 mw_32 mw_151) rfl rfl rfl (by decide +kernel) ⟨Nat.le_of_ble_eq_true rfl, Nat.le_of_ble_eq_true rfl⟩) ⟨us_blind0, fun U hU _ => ⟨rfl, congrArg Array.size hU⟩⟩ rfl rfl hl.1 rfl (lv_room (Nat.le_of_ble_eq_true rfl)) dX1_refuseOutsideMinutes_3 ⟨Nat.le_of_ble_eq_true rfl, Nat.le_of_ble_eq_true rfl⟩) hS (fun q h1 h2 => absurd h2 (Nat.not_le.mpr h1)) (fun q h => hA q (Nat.le_trans hS.1 h)) (fun r_2 _ t_3 H_1 locs ht hvm hw hB hz1 hk1 hS => ?_)
  obtain ⟨-, hw⟩ := hw
  subst hw
  refine lv_if_ne (tgt := 19) hx hb dX1_refuseOutsideMinutes_6 (by decide) (fun c_4 => ?_) (fun c_4 => ?_)
  · have hk9 : sp_minK p1 = 0 := by first | (simp only [sp_minK, eq_false c_4, if_true, if_false]; done) | (simp [sp_minK, c_4]; done)
    exact vx_ret (W.widen (k := 1) (n := 6) (Nat.le_of_ble_eq_true rfl) (Nat.le_of_ble_eq_true rfl) (W.vret hx hb hr (fun t ht hW => ⟨⟨(), rfl, hk9, trivial⟩, hS.F ht⟩) hS.2.2 dX1_refuseOutsideMinutes_19))
  · obtain ⟨sa_5, hst_sa_5⟩ := hE.2.2.2.2 (RX1, 162, "no such minute") (by decide +kernel)
    have hk9 : sp_minK p1 = 2 := by first | (simp only [sp_minK, eq_true c_4, if_true, if_false]; done) | (simp [sp_minK, c_4]; done)
    exact vx_throwS (own := RX1) (cls := "java/lang/IndexOutOfBoundsException") (names := ["java/lang/RuntimeException", "java/lang/Exception"]) hx hb hl9 hown (by decide +kernel) (by decide +kernel) (htb _ mw_152) (htb _ mw_38) hst_sa_5 (vx_hat (L := vx_atS RX1 43 "java/lang/IndexOutOfBoundsException" ["java/lang/RuntimeException", "java/lang/Exception"]) (B := [.castable "java/lang/IndexOutOfBoundsException" "java/lang/IndexOutOfBoundsException", .declares ⟨"java/lang/RuntimeException", "<init>", "(Ljava/lang/String;)V"⟩, .declares ⟨"java/lang/Exception", "<init>", "(Ljava/lang/String;)V"⟩, .declares ⟨"java/lang/Throwable", "<init>", "(Ljava/lang/String;)V"⟩]) (fun w hw => htb w (us_at43 w hw)) us_ab43 (vx_c (va_Nw.use rfl (hE.2.2.1 _ (by decide +kernel))) (vx_c (va_Nw.use rfl (hE.2.2.1 _ (by decide +kernel))) (vx_c (va_Nw.use rfl (hE.2.2.1 _ (by decide +kernel))) (vx_c (va_Nw.use rfl (hE.2.2.1 _ (by decide +kernel))) (vx_n)))))) us_ag43 hE.1 hE.2.1 hS (hl.1.trans hml.symm) dX1_refuseOutsideMinutes_9 dX1_refuseOutsideMinutes_12 dX1_refuseOutsideMinutes_13 dX1_refuseOutsideMinutes_15 dX1_refuseOutsideMinutes_18 (fun x hx => (hte x hx).elim) (Nat.le_of_ble_eq_true rfl) (Nat.le_of_ble_eq_true rfl) (Nat.le_of_ble_eq_true rfl) (Nat.le_of_ble_eq_true rfl) hlocks (fun t ha hsz hk => ⟨(), (by rw [hk9]; decide), (by rw [hk9]; rfl), Nat.le_trans hS.1 hsz, fun q h1 h2 => (hk q (Nat.lt_of_lt_of_le h1 hS.1)).trans (hS.2.1 q h1 h2)⟩) hS.2.2 (Nat.le_of_ble_eq_true rfl) (Nat.le_of_ble_eq_true rfl)
set_option maxHeartbeats 8000000 in
set_option maxRecDepth 100000 in
theorem kt_X1_isUnit (l : Launch) (dC : Nat → ClassId) (dI : Nat → Nat → Nat) (ad : Nat → Nat) (cU cI : ClassId) (pa : Nat → Nat) (sz : Nat) (nu nm : Nat) (nk : Int32) (F U : Nat → Nat → Int32) (p1 : Int32) : Met l yX1_isUnit wsX1_isUnit ({ frames := 0, cells := 0, slots := 0, locals := 0 }) (va_Pc [.ref (ad 0), .int p1] (us_Px dC dI ad cU cI pa nu nm nk F U (us_new sz) sz)) (va_Qi (fun r (_ : Unit) => True ∧ r = sp_isU p1 nu) (fun _ _ => True) (us_new sz)) 0 0 (us_new sz) := by
  refine Met.ofW (cc := cX1_isUnit) (maxL := 2) (ret := (some .boolean)) (by decide) rfl ?_
  intro p e s m args below meth c s₁ B hml hv
  obtain ⟨rfl, hsz, hP, hK, hD, hE⟩ := hv
  have hx := B.exec
  have hb := B.bytes
  have hr := B.returns
  have htb := us_htb (atoms_spec (ws := wsX1_isUnit) B.pre)
  have hown : s.vm.findClass RX1 = some m.cls := findClass_of_methodNamed B.named
  have hlocks := B.notSynchronized
  subst hsz
  have hA : ∀ q : Nat, s.heap.size ≤ q → (us_new s.heap.size) q := fun q h => h
  have hS : va_S (us_new s.heap.size) s.heap s.heap [] := va_S.rf
  have hP : va_P (dC, dI) vwCl (us_W ad cU cI pa nu nm nk F U) s.heap := hP
  have hl := lv_entry ([.ref (ad 0), .int p1]) (n := 2) (Nat.le_of_ble_eq_true rfl)
  rw [lg_entry_eq]
  generalize (lg_sl ([.ref (ad 0), .int p1]) ++ List.replicate (2 - (lg_sl ([.ref (ad 0), .int p1])).length) Slot.unset).toArray = ls at hl ⊢
  have hl : lv_has ls 2 [(0, .ref (ad 0)), (1, .int p1)] := hl
  refine lv_iload_n hx hb dX1_isUnit_0 rfl (lv_at hl 1 rfl) ?_
  refine lv_if_lt (tgt := 16) hx hb dX1_isUnit_1 (by decide) (fun c_1 => ?_) (fun c_1 => ?_)
  · refine lv_iconst (v := 0) hx hb dX1_isUnit_16 (by decide) ?_
    have hsp : 0 = sp_isU p1 nu := by first | (simp only [sp_isU, eq_true c_1, if_true, if_false]; done) | (simp [sp_isU, c_1]; done)
    exact ((W.zret (v := 0) hx hb hr (us_nz (by decide)) (fun t ht hW => ⟨⟨0, (), rfl, ⟨trivial, hsp⟩, trivial⟩, hS.F ht⟩) hS.2.2 dX1_isUnit_17))
  · refine lv_iload_n hx hb dX1_isUnit_4 rfl (lv_at hl 1 rfl) ?_
    refine lv_aload_n hx hb dX1_isUnit_5 rfl (lv_at hl 0 rfl) ?_
    refine va_get (D := (dC, dI)) (ci := 1) (v := .int (nI nu)) (C := RX1) (T := TX1) (N := 10) hx hb htb us_inX1 hown hK hP 0 rfl rfl 1 (by decide) (htb _ mw_110) (fun _ h9 => h9) rfl dX1_isUnit_6 ?_
    refine lv_icmp_ge (tgt := 16) hx hb dX1_isUnit_9 (by decide) (fun c_2 => ?_) (fun c_2 => ?_)
    · refine lv_iconst (v := 0) hx hb dX1_isUnit_16 (by decide) ?_
      have hsp : 0 = sp_isU p1 nu := by first | (simp only [sp_isU, eq_false c_1, eq_true c_2, if_true, if_false]; done) | (simp [sp_isU, c_1, c_2]; done)
      exact ((W.zret (v := 0) hx hb hr (us_nz (by decide)) (fun t ht hW => ⟨⟨0, (), rfl, ⟨trivial, hsp⟩, trivial⟩, hS.F ht⟩) hS.2.2 dX1_isUnit_17))
    · refine lv_iconst (v := 1) hx hb dX1_isUnit_12 (by decide) ?_
      refine lv_goto (tgt := 17) hx hb dX1_isUnit_13 (by decide) ?_
      have hsp : 1 = sp_isU p1 nu := by first | (simp only [sp_isU, eq_false c_1, eq_false c_2, if_true, if_false]; done) | (simp [sp_isU, c_1, c_2]; done)
      exact ((W.zret (v := 1) hx hb hr (us_nz (by decide)) (fun t ht hW => ⟨⟨1, (), rfl, ⟨trivial, hsp⟩, trivial⟩, hS.F ht⟩) hS.2.2 dX1_isUnit_17))
set_option maxHeartbeats 8000000 in
set_option maxRecDepth 100000 in
theorem kt_X1_refuseUnknownUnit (l : Launch) (hl9 : l.stackTraces = false) (dC : Nat → ClassId) (dI : Nat → Nat → Nat) (ad : Nat → Nat) (cU cI : ClassId) (pa : Nat → Nat) (sz : Nat) (nu nm : Nat) (nk : Int32) (F U : Nat → Nat → Int32) (p1 : Int32) : vx_Met l yX1_refuseUnknownUnit wsX1_refuseUnknownUnit ({ frames := 6, cells := 1, slots := 6, locals := 91 }) (va_Pc [.ref (ad 0), .int p1] (us_Px dC dI ad cU cI pa nu nm nk F U (us_new sz) sz)) (va_Qv (fun _ : Unit => sp_refK p1 nu = 0) (fun _ _ => True) (us_new sz)) (vx_X (fun _ : Unit => ¬ sp_refK p1 nu = 0) (fun E _ t => E = us_en (sp_refK p1 nu)) (us_new sz)) 1 6 (us_new sz) := by
  refine vx_ofW (cc := cX1_refuseUnknownUnit) (maxL := 2) (ret := none) (by decide) rfl ?_
  intro p e s m args below meth c s₁ B hml hte hv
  obtain ⟨rfl, hsz, hP, hK, hD, hE⟩ := hv
  have hx := B.exec
  have hb := B.bytes
  have hr := B.returns
  have htb := us_htb (atoms_spec (ws := wsX1_refuseUnknownUnit) B.pre)
  have hown : s.vm.findClass RX1 = some m.cls := findClass_of_methodNamed B.named
  have hlocks := B.notSynchronized
  subst hsz
  have hA : ∀ q : Nat, s.heap.size ≤ q → (us_new s.heap.size) q := fun q h => h
  have hS : va_S (us_new s.heap.size) s.heap s.heap [] := va_S.rf
  have hP : va_P (dC, dI) vwCl (us_W ad cU cI pa nu nm nk F U) s.heap := hP
  have hl := lv_entry ([.ref (ad 0), .int p1]) (n := 2) (Nat.le_of_ble_eq_true rfl)
  rw [lg_entry_eq]
  generalize (lg_sl ([.ref (ad 0), .int p1]) ++ List.replicate (2 - (lg_sl ([.ref (ad 0), .int p1])).length) Slot.unset).toArray = ls at hl ⊢
  have hl : lv_has ls 2 [(0, .ref (ad 0)), (1, .int p1)] := hl
  refine lv_aload_n hx hb dX1_refuseUnknownUnit_0 rfl (lv_at hl 0 rfl) ?_
  refine lv_iload_n hx hb dX1_refuseUnknownUnit_1 rfl (lv_at hl 1 rfl) ?_
  refine va_calli (va_runV (As := [.int p1]) (rest := []) ⟨hx, hb, hml, hown, htb⟩ (kt_X1_isUnit l dC dI ad cU cI pa s.heap.size nu nm nk F U p1) (cwV 1 htb (us_gV mw_249 mw_251 mw_2 mw_32 mw_252) rfl rfl rfl (by decide +kernel) ⟨Nat.le_of_ble_eq_true rfl, Nat.le_of_ble_eq_true rfl⟩) ⟨us_Px_blind, va_recv hK hP (ci := 1) (q0 := 0) rfl rfl, fun U hU hW => ⟨rfl, us_Px_at hP hK hD hE hS (fun q h => hA q (Nat.le_trans hS.1 h)) hU hW⟩⟩ rfl rfl hl.1 rfl (lv_room (Nat.le_of_ble_eq_true rfl)) dX1_refuseUnknownUnit_2 ⟨Nat.le_of_ble_eq_true rfl, Nat.le_of_ble_eq_true rfl⟩) hS (fun q h1 h2 => absurd h2 (Nat.not_le.mpr h1)) (fun q h => hA q (Nat.le_trans hS.1 h)) (fun r_2 _ t_3 H_1 locs ht hvm hw hB hz1 hk1 hS => ?_)
  obtain ⟨-, hw⟩ := hw
  subst hw
  have hP := us_mono hP (fun q h => hk1 q h (Nat.not_le.mpr h))
  refine lv_if_ne (tgt := 18) hx hb dX1_refuseUnknownUnit_5 (by decide) (fun c_4 => ?_) (fun c_4 => ?_)
  · have hk9 : sp_refK p1 nu = 0 := by first | (simp only [sp_refK, eq_false c_4, if_true, if_false]; done) | (simp [sp_refK, c_4]; done)
    exact vx_ret (W.widen (k := 1) (n := 6) (Nat.le_of_ble_eq_true rfl) (Nat.le_of_ble_eq_true rfl) (W.vret hx hb hr (fun t ht hW => ⟨⟨(), rfl, hk9, trivial⟩, hS.F ht⟩) hS.2.2 dX1_refuseUnknownUnit_18))
  · obtain ⟨sa_5, hst_sa_5⟩ := hE.2.2.2.2 (RX1, 70, "no such unit") (by decide +kernel)
    have hk9 : sp_refK p1 nu = 1 := by first | (simp only [sp_refK, eq_true c_4, if_true, if_false]; done) | (simp [sp_refK, c_4]; done)
    exact vx_throwS (own := RX1) (cls := "java/lang/IllegalArgumentException") (names := ["java/lang/RuntimeException", "java/lang/Exception"]) hx hb hl9 hown (by decide +kernel) (by decide +kernel) (htb _ mw_253) (htb _ mw_40) hst_sa_5 (vx_hat (L := vx_atS RX1 72 "java/lang/IllegalArgumentException" ["java/lang/RuntimeException", "java/lang/Exception"]) (B := [.castable "java/lang/IllegalArgumentException" "java/lang/IllegalArgumentException", .declares ⟨"java/lang/RuntimeException", "<init>", "(Ljava/lang/String;)V"⟩, .declares ⟨"java/lang/Exception", "<init>", "(Ljava/lang/String;)V"⟩, .declares ⟨"java/lang/Throwable", "<init>", "(Ljava/lang/String;)V"⟩]) (fun w hw => htb w (us_at72 w hw)) us_ab72 (vx_c (va_Nw.use rfl (hE.2.2.1 _ (by decide +kernel))) (vx_c (va_Nw.use rfl (hE.2.2.1 _ (by decide +kernel))) (vx_c (va_Nw.use rfl (hE.2.2.1 _ (by decide +kernel))) (vx_c (va_Nw.use rfl (hE.2.2.1 _ (by decide +kernel))) (vx_n)))))) us_ag72 hE.1 hE.2.1 hS (hl.1.trans hml.symm) dX1_refuseUnknownUnit_8 dX1_refuseUnknownUnit_11 dX1_refuseUnknownUnit_12 dX1_refuseUnknownUnit_14 dX1_refuseUnknownUnit_17 (fun x hx => (hte x hx).elim) (Nat.le_of_ble_eq_true rfl) (Nat.le_of_ble_eq_true rfl) (Nat.le_of_ble_eq_true rfl) (Nat.le_of_ble_eq_true rfl) hlocks (fun t ha hsz hk => ⟨(), (by rw [hk9]; decide), (by rw [hk9]; rfl), Nat.le_trans hS.1 hsz, fun q h1 h2 => (hk q (Nat.lt_of_lt_of_le h1 hS.1)).trans (hS.2.1 q h1 h2)⟩) hS.2.2 (Nat.le_of_ble_eq_true rfl) (Nat.le_of_ble_eq_true rfl)
set_option maxHeartbeats 8000000 in
set_option maxRecDepth 100000 in
theorem kt_X1_putInOrder (l : Launch) (dC : Nat → ClassId) (dI : Nat → Nat → Nat) (ad : Nat → Nat) (cU cI : ClassId) (pa : Nat → Nat) (sz : Nat) (nu nm : Nat) (nk : Int32) (F U : Nat → Nat → Int32) (p1 : Int32) (p2 : Int32) (hnm : nm < 200) (hO : ∀ q, q < nm → ∃ n, n < 200 ∧ F 5 q = nI n) : Met l yX1_putInOrder wsX1_putInOrder ({ frames := 0, cells := 0, slots := 0, locals := 0 }) (va_Pc [.ref (ad 0), .int p1, .int p2] (us_Px dC dI ad cU cI pa nu nm nk F U (us_AA (us_ads ad pa) sz) sz)) (va_Qv (fun _ : Unit => True) (fun _ t => us_Bx dC dI ad cU cI pa nu nm nk (va_up F 5 (sp_ins (F 1) p1 p2 nm (F 5))) U t) (us_AA (us_ads ad pa) sz)) 0 0 (us_AA (us_ads ad pa) sz) := by
  refine Met.ofW (cc := cX1_putInOrder) (maxL := 4) (ret := none) (by decide) rfl ?_
  intro p e s m args below meth c s₁ B hml hv
  obtain ⟨rfl, hsz, hP, hK, hD, hE⟩ := hv
  have hx := B.exec
  have hb := B.bytes
  have hr := B.returns
  have htb := us_htb (atoms_spec (ws := wsX1_putInOrder) B.pre)
  have hown : s.vm.findClass RX1 = some m.cls := findClass_of_methodNamed B.named
  have hlocks := B.notSynchronized
  subst hsz
  have hA : ∀ q : Nat, s.heap.size ≤ q → (us_AA (us_ads ad pa) s.heap.size) q := fun q h => Or.inr h
  have hS : va_S (us_AA (us_ads ad pa) s.heap.size) s.heap s.heap [] := va_S.rf
  have hP : va_P (dC, dI) vwCl (us_W ad cU cI pa nu nm nk F U) s.heap := hP
  have hD : va_D (us_AA (us_ads ad pa) s.heap.size) (us_W ad cU cI pa nu nm nk F U) := us_D_aa hD
  have hl := lv_entry ([.ref (ad 0), .int p1, .int p2]) (n := 4) (Nat.le_of_ble_eq_true rfl)
  rw [lg_entry_eq]
  generalize (lg_sl ([.ref (ad 0), .int p1, .int p2]) ++ List.replicate (4 - (lg_sl ([.ref (ad 0), .int p1, .int p2])).length) Slot.unset).toArray = ls at hl ⊢
  have hl : lv_has ls 4 [(0, .ref (ad 0)), (1, .int p1), (2, .int p2)] := hl
  have lp5 : ∀ (po : Nat) (oo : Nat → Int32) (H : Heap) (locs : List Loc) (ls : Array Slot), po ≤ nm → (∀ q, q < nm → ∃ n, n < 200 ∧ oo q = nI n) → sp_ins (F 1) p1 p2 po oo = sp_ins (F 1) p1 p2 nm (F 5) → va_P (dC, dI) vwCl (us_W ad cU cI pa nu nm nk (va_up F 5 oo) U) H → va_D (us_AA (us_ads ad pa) s.heap.size) (us_W ad cU cI pa nu nm nk (va_up F 5 oo) U) → va_S (us_AA (us_ads ad pa) s.heap.size) s.heap H locs → lv_has ls 4 [(3, .int (nI po)), (0, .ref (ad 0)), (1, .int p1), (2, .int p2)] → W p l e (headSpec wsX1_putInOrder ({ frames := 0, cells := 0, slots := 0, locals := 0 })).room s m ([.ref (ad 0), .int p1, .int p2]).toArray below meth c H locs 0 0 (MQ below (va_Qv (fun _ : Unit => True) (fun _ t => us_Bx dC dI ad cU cI pa nu nm nk (va_up F 5 (sp_ins (F 1) p1 p2 nm (F 5))) U t) (us_AA (us_ads ad pa) s.heap.size)) ([.ref (ad 0), .int p1, .int p2]).toArray s 0 0 (us_AA (us_ads ad pa) s.heap.size)) (F0 m 5 ls []) := by
    intro po
    induction po with
    | zero =>
      intro oo H locs ls hpn hO hR hP hD hS hl
      have hp2 : 0 < 200 := by omega
      refine lv_iload_n hx hb dX1_putInOrder_5 rfl (lv_at hl 0 rfl) ?_
      refine lv_if_le (tgt := 46) hx hb dX1_putInOrder_6 (by decide) (fun c_1 => ?_) (fun c_1 => ?_)
      · refine lv_aload_n hx hb dX1_putInOrder_46 rfl (lv_at hl 1 rfl) ?_
        refine va_get (D := (dC, dI)) (ci := 1) (v := .ref (ad 7)) (C := RX1) (T := TX1) (N := 10) hx hb htb us_inX1 hown hK hP 0 rfl rfl 7 (by decide) (htb _ mw_116) (fun _ h9 => h9) rfl dX1_putInOrder_47 ?_
        refine lv_iload_n hx hb dX1_putInOrder_50 rfl (lv_at hl 0 rfl) ?_
        refine lv_iload_n hx hb dX1_putInOrder_51 rfl (lv_at hl 2 rfl) ?_
        refine us_iast (f := oo) hx hb hK hP hD hS 7 1 rfl rfl hp2 (by decide) dX1_putInOrder_52 (fun H_2 locs hP hD hS => ?_)
        have hP : va_P (dC, dI) vwCl (us_W ad cU cI pa nu nm nk (va_up (va_up F 5 oo) 5 (upd oo 0 p1)) U) H_2 := hP
        have hD : va_D (us_AA (us_ads ad pa) s.heap.size) (us_W ad cU cI pa nu nm nk (va_up (va_up F 5 oo) 5 (upd oo 0 p1)) U) := hD
        exact ((W.vret hx hb hr (fun t ht hW => ⟨⟨(), rfl, trivial, us_Bx_of ht hP rfl (by rw [← hR, us_up_up]; rfl) rfl⟩, hS.F ht⟩) hS.2.2 dX1_putInOrder_53))
      · exact absurd (show nI 0 ≤ 0 by decide) c_1
    | succ po ih =>
      intro oo H locs ls hpn hO hR hP hD hS hl
      have hpl : po < nm := by omega
      obtain ⟨n, hn, en⟩ := hO po hpl
      have hp2 : po + 1 < 200 := by omega
      have hp3 : po < 200 := by omega
      refine lv_iload_n hx hb dX1_putInOrder_5 rfl (lv_at hl 0 rfl) ?_
      refine lv_if_le (tgt := 46) hx hb dX1_putInOrder_6 (by decide) (fun c_3 => ?_) (fun c_3 => ?_)
      · exact absurd c_3 (nI_nle (by omega) (by omega))
      · refine lv_aload_n hx hb dX1_putInOrder_9 rfl (lv_at hl 1 rfl) ?_
        refine va_get (D := (dC, dI)) (ci := 1) (v := .ref (ad 3)) (C := RX1) (T := TX1) (N := 10) hx hb htb us_inX1 hown hK hP 0 rfl rfl 3 (by decide) (htb _ mw_112) (fun _ h9 => h9) rfl dX1_putInOrder_10 ?_
        refine lv_aload_n hx hb dX1_putInOrder_13 rfl (lv_at hl 1 rfl) ?_
        refine va_get (D := (dC, dI)) (ci := 1) (v := .ref (ad 7)) (C := RX1) (T := TX1) (N := 10) hx hb htb us_inX1 hown hK hP 0 rfl rfl 7 (by decide) (htb _ mw_116) (fun _ h9 => h9) rfl dX1_putInOrder_14 ?_
        refine lv_iload_n hx hb dX1_putInOrder_17 rfl (lv_at hl 0 rfl) ?_
        refine lv_iconst (v := 1) hx hb dX1_putInOrder_18 (by decide) ?_
        refine lv_isub hx hb dX1_putInOrder_19 ?_
        rw [nI_pred]
        refine us_iald (f := oo) hx hb hK hP 7 1 rfl rfl hp3 (by decide) dX1_putInOrder_20 ?_
        rw [en]
        refine us_iald (f := (F 1)) hx hb hK hP 3 1 rfl rfl hn (by decide) dX1_putInOrder_21 ?_
        refine lv_iload_n hx hb dX1_putInOrder_22 rfl (lv_at hl 3 rfl) ?_
        refine lv_icmp_le (tgt := 46) hx hb dX1_putInOrder_23 (by decide) (fun c_4 => ?_) (fun c_4 => ?_)
        · have hR2 : sp_ins (F 1) p1 p2 (po + 1) oo = upd oo (po + 1) p1 := by
            rw [sp_ins, en, nI_clamp (by omega), if_pos c_4]
          refine lv_aload_n hx hb dX1_putInOrder_46 rfl (lv_at hl 1 rfl) ?_
          refine va_get (D := (dC, dI)) (ci := 1) (v := .ref (ad 7)) (C := RX1) (T := TX1) (N := 10) hx hb htb us_inX1 hown hK hP 0 rfl rfl 7 (by decide) (htb _ mw_116) (fun _ h9 => h9) rfl dX1_putInOrder_47 ?_
          refine lv_iload_n hx hb dX1_putInOrder_50 rfl (lv_at hl 0 rfl) ?_
          refine lv_iload_n hx hb dX1_putInOrder_51 rfl (lv_at hl 2 rfl) ?_
          refine us_iast (f := oo) hx hb hK hP hD hS 7 1 rfl rfl hp2 (by decide) dX1_putInOrder_52 (fun H_5 locs hP hD hS => ?_)
          have hP : va_P (dC, dI) vwCl (us_W ad cU cI pa nu nm nk (va_up (va_up F 5 oo) 5 (upd oo (po + 1) p1)) U) H_5 := hP
          have hD : va_D (us_AA (us_ads ad pa) s.heap.size) (us_W ad cU cI pa nu nm nk (va_up (va_up F 5 oo) 5 (upd oo (po + 1) p1)) U) := hD
          exact ((W.vret hx hb hr (fun t ht hW => ⟨⟨(), rfl, trivial, us_Bx_of ht hP rfl (by rw [← hR, hR2, us_up_up]) rfl⟩, hS.F ht⟩) hS.2.2 dX1_putInOrder_53))
        · refine lv_aload_n hx hb dX1_putInOrder_26 rfl (lv_at hl 1 rfl) ?_
          refine va_get (D := (dC, dI)) (ci := 1) (v := .ref (ad 7)) (C := RX1) (T := TX1) (N := 10) hx hb htb us_inX1 hown hK hP 0 rfl rfl 7 (by decide) (htb _ mw_116) (fun _ h9 => h9) rfl dX1_putInOrder_27 ?_
          refine lv_iload_n hx hb dX1_putInOrder_30 rfl (lv_at hl 0 rfl) ?_
          refine lv_aload_n hx hb dX1_putInOrder_31 rfl (lv_at hl 1 rfl) ?_
          refine va_get (D := (dC, dI)) (ci := 1) (v := .ref (ad 7)) (C := RX1) (T := TX1) (N := 10) hx hb htb us_inX1 hown hK hP 0 rfl rfl 7 (by decide) (htb _ mw_116) (fun _ h9 => h9) rfl dX1_putInOrder_32 ?_
          refine lv_iload_n hx hb dX1_putInOrder_35 rfl (lv_at hl 0 rfl) ?_
          refine lv_iconst (v := 1) hx hb dX1_putInOrder_36 (by decide) ?_
          refine lv_isub hx hb dX1_putInOrder_37 ?_
          rw [nI_pred]
          refine us_iald (f := oo) hx hb hK hP 7 1 rfl rfl hp3 (by decide) dX1_putInOrder_38 ?_
          refine us_iast (f := oo) hx hb hK hP hD hS 7 1 rfl rfl hp2 (by decide) dX1_putInOrder_39 (fun H_6 locs hP hD hS => ?_)
          have hP : va_P (dC, dI) vwCl (us_W ad cU cI pa nu nm nk (va_up (va_up F 5 oo) 5 (upd oo (po + 1) (oo po))) U) H_6 := hP
          have hD : va_D (us_AA (us_ads ad pa) s.heap.size) (us_W ad cU cI pa nu nm nk (va_up (va_up F 5 oo) 5 (upd oo (po + 1) (oo po))) U) := hD
          refine lv_iinc (v := (nI po)) (lv' := [(3, .int (nI po)), (0, .ref (ad 0)), (1, .int p1), (2, .int p2)]) hx hb dX1_putInOrder_40 hl (k := 0) rfl (pk_m1 po) (by decide) rfl (fun ls hl => ?_)
          refine lv_goto (tgt := 5) hx hb dX1_putInOrder_43 (by decide) ?_
          rw [us_up_up] at hP hD
          refine ih (upd oo (po + 1) (oo po)) _ _ _ (by omega) (us_ins_ok hO en hn) ?_ hP hD hS (lv_sub hl [0, 1, 2, 3] rfl)
          rw [← hR, sp_ins, en, nI_clamp (by omega), if_neg c_4]
  refine lv_aload_n hx hb dX1_putInOrder_0 rfl (lv_at hl 0 rfl) ?_
  refine va_get (D := (dC, dI)) (ci := 1) (v := .int (nI nm)) (C := RX1) (T := TX1) (N := 10) hx hb htb us_inX1 hown hK hP 0 rfl rfl 8 (by decide) (htb _ mw_117) (fun _ h9 => h9) rfl dX1_putInOrder_1 ?_
  refine lv_istore_n (lv' := [(3, .int (nI nm)), (0, .ref (ad 0)), (1, .int p1), (2, .int p2)]) hx hb dX1_putInOrder_4 rfl hl (by decide) rfl (fun ls hl => ?_)
  exact lp5 nm (F 5) _ _ _ (Nat.le_refl _) hO rfl (by rw [us_up_self]; exact hP) (by rw [us_up_self]; exact hD) hS (lv_sub hl [0, 1, 2, 3] rfl)
end
section
set_option maxHeartbeats 8000000 in
set_option maxRecDepth 100000 in
theorem kt_X1_replay (l : Launch) (dC : Nat → ClassId) (dI : Nat → Nat → Nat) (ad : Nat → Nat) (cU cI : ClassId) (pa : Nat → Nat) (sz : Nat) (nu nm : Nat) (nk : Int32) (F U : Nat → Nat → Int32) (p1 : Int32) (hnu : nu ≤ 30) (hnm : nm ≤ 200) (hO : ∀ p, p < nm → ∃ n, n < nm ∧ F 5 p = nI n) (hV : ∀ n, n < nm → ∃ j, j < nu ∧ F 0 n = nI j) : Met l yX1_replay wsX1_replay ({ frames := 4, cells := 0, slots := 0, locals := 90 }) (va_Pc [.ref (ad 0), .int p1] (us_Px dC dI ad cU cI pa nu nm nk F U (us_AA (us_ads ad pa) sz) sz)) (va_Qv (fun _ : Unit => True) (fun _ t => us_Bx dC dI ad cU cI pa nu nm nk (sp_rf nu nm F U p1) (sp_ru nu nm F U p1) t) (us_AA (us_ads ad pa) sz)) 0 0 (us_AA (us_ads ad pa) sz) := by
  refine Met.ofW (cc := cX1_replay) (maxL := 5) (ret := none) (by decide) rfl ?_
  intro p e s m args below meth c s₁ B hml hv
  obtain ⟨rfl, hsz, hP, hK, hD, hE⟩ := hv
  have hx := B.exec
  have hb := B.bytes
  have hr := B.returns
  have htb := us_htb (atoms_spec (ws := wsX1_replay) B.pre)
  have hown : s.vm.findClass RX1 = some m.cls := findClass_of_methodNamed B.named
  have hlocks := B.notSynchronized
  subst hsz
  have hA : ∀ q : Nat, s.heap.size ≤ q → (us_AA (us_ads ad pa) s.heap.size) q := fun q h => Or.inr h
  have hS : va_S (us_AA (us_ads ad pa) s.heap.size) s.heap s.heap [] := va_S.rf
  have hP : va_P (dC, dI) vwCl (us_W ad cU cI pa nu nm nk F U) s.heap := hP
  have hD : va_D (us_AA (us_ads ad pa) s.heap.size) (us_W ad cU cI pa nu nm nk F U) := us_D_aa hD
  have hl := lv_entry ([.ref (ad 0), .int p1]) (n := 5) (Nat.le_of_ble_eq_true rfl)
  rw [lg_entry_eq]
  generalize (lg_sl ([.ref (ad 0), .int p1]) ++ List.replicate (5 - (lg_sl ([.ref (ad 0), .int p1])).length) Slot.unset).toArray = ls at hl ⊢
  have hl : lv_has ls 5 [(0, .ref (ad 0)), (1, .int p1)] := hl
  have lp27 : ∀ (f po : Nat) (V : Nat → Nat → Int32) (fo : Nat → Int32) (H : Heap) (locs : List Loc) (ls : Array Slot) (lv : List (Nat × Value)), po + f = nm → sp_rp F p1 f po (V, fo) = sp_rp F p1 nm 0 (sp_st nu U, F 4) → va_P (dC, dI) vwCl (us_W ad cU cI pa nu nm nk (va_up F 4 fo) V) H → va_D (us_AA (us_ads ad pa) s.heap.size) (us_W ad cU cI pa nu nm nk (va_up F 4 fo) V) → va_S (us_AA (us_ads ad pa) s.heap.size) s.heap H locs → lv_has ls 5 [(2, .int (nI po)), (0, .ref (ad 0)), (1, .int p1)] → W p l e (headSpec wsX1_replay ({ frames := 4, cells := 0, slots := 0, locals := 90 })).room s m ([.ref (ad 0), .int p1]).toArray below meth c H locs 0 0 (MQ below (va_Qv (fun _ : Unit => True) (fun _ t => us_Bx dC dI ad cU cI pa nu nm nk (sp_rf nu nm F U p1) (sp_ru nu nm F U p1) t) (us_AA (us_ads ad pa) s.heap.size)) ([.ref (ad 0), .int p1]).toArray s 0 0 (us_AA (us_ads ad pa) s.heap.size)) (F0 m 27 ls []) := by
    intro f
    induction f with
    | zero =>
      intro po V fo H locs ls lv hpf hR hP hD hS hl
      have hpe : po = nm := by omega
      refine lv_iload_n hx hb dX1_replay_27 rfl (lv_at hl 0 rfl) ?_
      refine lv_aload_n hx hb dX1_replay_28 rfl (lv_at hl 1 rfl) ?_
      refine va_get (D := (dC, dI)) (ci := 1) (v := .int (nI nm)) (C := RX1) (T := TX1) (N := 10) hx hb htb us_inX1 hown hK hP 0 rfl rfl 8 (by decide) (htb _ mw_117) (fun _ h9 => h9) rfl dX1_replay_29 ?_
      refine lv_icmp_ge (tgt := 104) hx hb dX1_replay_32 (by decide) (fun c_1 => ?_) (fun c_1 => ?_)
      · exact ((W.vret hx hb hr (fun t ht hW => ⟨⟨(), rfl, trivial, us_Bx_of ht hP rfl (by rw [sp_rf, ← hR]; rfl) (by rw [sp_ru, ← hR]; rfl)⟩, hS.F ht⟩) hS.2.2 dX1_replay_104))
      · exact absurd (nI_le (by omega) (by omega)) c_1
    | succ f ih =>
      intro po V fo H locs ls lv hpf hR hP hD hS hl
      have hpl : po < nm := by omega
      obtain ⟨n, hn, en⟩ := hO po hpl
      obtain ⟨j, hj, ej⟩ := hV n hn
      have hp2 : po < 200 := by omega
      have hn2 : n < 200 := by omega
      have hj3 : j < 30 := by omega
      refine lv_iload_n hx hb dX1_replay_27 rfl (lv_at hl 0 rfl) ?_
      refine lv_aload_n hx hb dX1_replay_28 rfl (lv_at hl 1 rfl) ?_
      refine va_get (D := (dC, dI)) (ci := 1) (v := .int (nI nm)) (C := RX1) (T := TX1) (N := 10) hx hb htb us_inX1 hown hK hP 0 rfl rfl 8 (by decide) (htb _ mw_117) (fun _ h9 => h9) rfl dX1_replay_29 ?_
      refine lv_icmp_ge (tgt := 104) hx hb dX1_replay_32 (by decide) (fun c_2 => ?_) (fun c_2 => ?_)
      · exact absurd c_2 (nI_ge (by omega) (by omega))
      · refine lv_aload_n hx hb dX1_replay_35 rfl (lv_at hl 1 rfl) ?_
        refine va_get (D := (dC, dI)) (ci := 1) (v := .ref (ad 7)) (C := RX1) (T := TX1) (N := 10) hx hb htb us_inX1 hown hK hP 0 rfl rfl 7 (by decide) (htb _ mw_116) (fun _ h9 => h9) rfl dX1_replay_36 ?_
        refine lv_iload_n hx hb dX1_replay_39 rfl (lv_at hl 0 rfl) ?_
        refine us_iald (f := (F 5)) hx hb hK hP 7 1 rfl rfl hp2 (by decide) dX1_replay_40 ?_
        rw [en]
        refine lv_istore_n (lv' := [(3, .int (nI n)), (2, .int (nI po)), (0, .ref (ad 0)), (1, .int p1)]) hx hb dX1_replay_41 rfl hl (by decide) rfl (fun ls hl => ?_)
        refine lv_aload_n hx hb dX1_replay_42 rfl (lv_at hl 2 rfl) ?_
        refine va_get (D := (dC, dI)) (ci := 1) (v := .ref (ad 3)) (C := RX1) (T := TX1) (N := 10) hx hb htb us_inX1 hown hK hP 0 rfl rfl 3 (by decide) (htb _ mw_112) (fun _ h9 => h9) rfl dX1_replay_43 ?_
        refine lv_iload_n hx hb dX1_replay_46 rfl (lv_at hl 0 rfl) ?_
        refine us_iald (f := (F 1)) hx hb hK hP 3 1 rfl rfl hn2 (by decide) dX1_replay_47 ?_
        refine lv_iload_n hx hb dX1_replay_48 rfl (lv_at hl 3 rfl) ?_
        refine lv_icmp_le (tgt := 55) hx hb dX1_replay_49 (by decide) (fun c_3 => ?_) (fun c_3 => ?_)
        · refine lv_aload_n hx hb dX1_replay_55 rfl (lv_at hl 2 rfl) ?_
          refine va_get (D := (dC, dI)) (ci := 1) (v := .ref (ad 1)) (C := RX1) (T := TX1) (N := 10) hx hb htb us_inX1 hown hK hP 0 rfl rfl 0 (by decide) (htb _ mw_109) (fun _ h9 => h9) rfl dX1_replay_56 ?_
          refine lv_aload_n hx hb dX1_replay_59 rfl (lv_at hl 2 rfl) ?_
          refine va_get (D := (dC, dI)) (ci := 1) (v := .ref (ad 2)) (C := RX1) (T := TX1) (N := 10) hx hb htb us_inX1 hown hK hP 0 rfl rfl 2 (by decide) (htb _ mw_111) (fun _ h9 => h9) rfl dX1_replay_60 ?_
          refine lv_iload_n hx hb dX1_replay_63 rfl (lv_at hl 0 rfl) ?_
          refine us_iald (f := (F 0)) hx hb hK hP 2 1 rfl rfl hn2 (by decide) dX1_replay_64 ?_
          rw [ej]
          refine us_aald hx hb hK hP 1 0 rfl rfl hj3 (by decide) rfl dX1_replay_65 ?_
          refine lv_astore (lv' := [(4, .ref (pa j)), (3, .int (nI n)), (2, .int (nI po)), (0, .ref (ad 0)), (1, .int p1)]) hx hb dX1_replay_66 hl (by decide) rfl (fun ls hl => ?_)
          refine lv_aload_n hx hb dX1_replay_68 rfl (lv_at hl 3 rfl) ?_
          refine va_get (D := (dC, dI)) (ci := 1) (v := .ref (ad 6)) (C := RX1) (T := TX1) (N := 10) hx hb htb us_inX1 hown hK hP 0 rfl rfl 6 (by decide) (htb _ mw_115) (fun _ h9 => h9) rfl dX1_replay_69 ?_
          refine lv_iload_n hx hb dX1_replay_72 rfl (lv_at hl 1 rfl) ?_
          refine lv_aload hx hb dX1_replay_73 (lv_at hl 0 rfl) ?_
          refine lv_aload_n hx hb dX1_replay_75 rfl (lv_at hl 3 rfl) ?_
          refine va_get (D := (dC, dI)) (ci := 1) (v := .ref (ad 4)) (C := RX1) (T := TX1) (N := 10) hx hb htb us_inX1 hown hK hP 0 rfl rfl 4 (by decide) (htb _ mw_113) (fun _ h9 => h9) rfl dX1_replay_76 ?_
          refine lv_iload_n hx hb dX1_replay_79 rfl (lv_at hl 1 rfl) ?_
          refine us_iald (f := (F 2)) hx hb hK hP 4 1 rfl rfl hn2 (by decide) dX1_replay_80 ?_
          refine lv_aload_n hx hb dX1_replay_81 rfl (lv_at hl 3 rfl) ?_
          refine va_get (D := (dC, dI)) (ci := 1) (v := .ref (ad 5)) (C := RX1) (T := TX1) (N := 10) hx hb htb us_inX1 hown hK hP 0 rfl rfl 5 (by decide) (htb _ mw_114) (fun _ h9 => h9) rfl dX1_replay_82 ?_
          refine lv_iload_n hx hb dX1_replay_85 rfl (lv_at hl 1 rfl) ?_
          refine us_iald (f := (F 3)) hx hb hK hP 5 1 rfl rfl hn2 (by decide) dX1_replay_86 ?_
          refine lv_aload_n hx hb dX1_replay_87 rfl (lv_at hl 3 rfl) ?_
          refine va_get (D := (dC, dI)) (ci := 1) (v := .ref (ad 3)) (C := RX1) (T := TX1) (N := 10) hx hb htb us_inX1 hown hK hP 0 rfl rfl 3 (by decide) (htb _ mw_112) (fun _ h9 => h9) rfl dX1_replay_88 ?_
          refine lv_iload_n hx hb dX1_replay_91 rfl (lv_at hl 1 rfl) ?_
          refine us_iald (f := (F 1)) hx hb hK hP 3 1 rfl rfl hn2 (by decide) dX1_replay_92 ?_
          refine lv_iload_n hx hb dX1_replay_93 rfl (lv_at hl 2 rfl) ?_
          refine va_calli (va_runVN (C := RX0) (As := [.int ((F 2) n), .int ((F 3) n), .int ((F 1) n), .int (nI po)]) (rest := [.int (nI n), .ref (ad 6)]) ⟨hx, hb, hml, hown, htb⟩ (kt_X0_take l dC dI (pa j) H.size (V j) ((F 2) n) ((F 3) n) ((F 1) n) (nI po)) ⟨va_cnB 4 htb (us_g0 mw_308) rfl rfl rfl (hE.2.2.1 (.methodLinkNest RX1 167 yX0_take "UnitStates") (by decide +kernel)) (htb _ mw_33) (by decide +kernel) ⟨Nat.le_of_ble_eq_true rfl, Nat.le_of_ble_eq_true rfl⟩, htb _ mw_307, htb _ mw_7⟩ ⟨us_Pu_blind, va_recv hK hP (ci := 0) (q0 := 8 + j) rfl (us_W_get hj3), fun U hU hW => ⟨rfl, us_Pu_at (us_W_sub hP hj3) hK hU hW⟩⟩ rfl rfl hl.1 rfl (lv_room (Nat.le_of_ble_eq_true rfl)) dX1_replay_94 ⟨Nat.le_of_ble_eq_true rfl, Nat.le_of_ble_eq_true rfl⟩) hS (fun q _ h => (us_Au_le (Or.inl (us_ads_pa hj3)) hS hA) q h) (us_Au_le (Or.inl (us_ads_pa hj3)) hS hA) (fun r_5 _ t_6 H_4 locs ht hvm hw hB hz1 hk1 hS => ?_)
          subst hw
          have hP := us_W_put hj3 hP hD hk1 (us_Bu_use ht hB)
          have hD : va_D (us_AA (us_ads ad pa) s.heap.size) (us_W ad cU cI pa nu nm nk (va_up F 4 fo) (va_up V j (sp_take (V j) ((F 2) n) ((F 3) n) ((F 1) n) (nI po)).2)) := us_D_of (by rw [us_W_adr, us_W_adr]) hD
          refine us_iast (f := fo) hx hb hK hP hD hS 6 1 rfl rfl hn2 (by decide) dX1_replay_97 (fun H_7 locs hP hD hS => ?_)
          have hP : va_P (dC, dI) vwCl (us_W ad cU cI pa nu nm nk (va_up (va_up F 4 fo) 4 (upd fo n ((sp_take (V j) ((F 2) n) ((F 3) n) ((F 1) n) (nI po)).1))) (va_up V j (sp_take (V j) ((F 2) n) ((F 3) n) ((F 1) n) (nI po)).2)) H_7 := hP
          have hD : va_D (us_AA (us_ads ad pa) s.heap.size) (us_W ad cU cI pa nu nm nk (va_up (va_up F 4 fo) 4 (upd fo n ((sp_take (V j) ((F 2) n) ((F 3) n) ((F 1) n) (nI po)).1))) (va_up V j (sp_take (V j) ((F 2) n) ((F 3) n) ((F 1) n) (nI po)).2)) := hD
          refine lv_iinc (v := (nI (po + 1))) (lv' := [(2, .int (nI (po + 1))), (4, .ref (pa j)), (3, .int (nI n)), (0, .ref (ad 0)), (1, .int p1)]) hx hb dX1_replay_98 hl (k := 2) rfl (nI_1 po) (by decide) rfl (fun ls hl => ?_)
          refine lv_goto (tgt := 27) hx hb dX1_replay_101 (by decide) ?_
          refine ih (po + 1) _ _ _ _ _ lv (by omega) ?_ hP hD hS (lv_sub hl [0, 3, 4] rfl)
          rw [← hR, sp_rp, en, nI_clamp (by omega), if_pos c_3, ej, nI_clamp (by omega)]
        · refine lv_goto (tgt := 104) hx hb dX1_replay_52 (by decide) ?_
          have hR2 : sp_rp F p1 (f + 1) po (V, fo) = (V, fo) := by
            rw [sp_rp, en, nI_clamp (by omega), if_neg c_3]
          exact ((W.vret hx hb hr (fun t ht hW => ⟨⟨(), rfl, trivial, us_Bx_of ht hP rfl (by rw [sp_rf, ← hR, hR2]) (by rw [sp_ru, ← hR, hR2])⟩, hS.F ht⟩) hS.2.2 dX1_replay_104))
  have lp2 : ∀ (n i : Nat) (H : Heap) (locs : List Loc) (ls : Array Slot), i + n = nu → va_P (dC, dI) vwCl (us_W ad cU cI pa nu nm nk F (sp_st i U)) H → va_D (us_AA (us_ads ad pa) s.heap.size) (us_W ad cU cI pa nu nm nk F (sp_st i U)) → va_S (us_AA (us_ads ad pa) s.heap.size) s.heap H locs → lv_has ls 5 [(2, .int (nI i)), (0, .ref (ad 0)), (1, .int p1)] → W p l e (headSpec wsX1_replay ({ frames := 4, cells := 0, slots := 0, locals := 90 })).room s m ([.ref (ad 0), .int p1]).toArray below meth c H locs 0 0 (MQ below (va_Qv (fun _ : Unit => True) (fun _ t => us_Bx dC dI ad cU cI pa nu nm nk (sp_rf nu nm F U p1) (sp_ru nu nm F U p1) t) (us_AA (us_ads ad pa) s.heap.size)) ([.ref (ad 0), .int p1]).toArray s 0 0 (us_AA (us_ads ad pa) s.heap.size)) (F0 m 2 ls []) := by
    intro n
    induction n with
    | zero =>
      intro i H locs ls hin hP hD hS hl
      have hie : i = nu := by omega
      refine lv_iload_n hx hb dX1_replay_2 rfl (lv_at hl 0 rfl) ?_
      refine lv_aload_n hx hb dX1_replay_3 rfl (lv_at hl 1 rfl) ?_
      refine va_get (D := (dC, dI)) (ci := 1) (v := .int (nI nu)) (C := RX1) (T := TX1) (N := 10) hx hb htb us_inX1 hown hK hP 0 rfl rfl 1 (by decide) (htb _ mw_110) (fun _ h9 => h9) rfl dX1_replay_4 ?_
      refine lv_icmp_ge (tgt := 25) hx hb dX1_replay_7 (by decide) (fun c_8 => ?_) (fun c_8 => ?_)
      · refine lv_iconst (v := 0) hx hb dX1_replay_25 (by decide) ?_
        refine lv_istore_n (lv' := [(2, .int 0), (0, .ref (ad 0)), (1, .int p1)]) hx hb dX1_replay_26 rfl hl (by decide) rfl (fun ls hl => ?_)
        subst hie
        exact lp27 nm 0 (sp_st i U) (F 4) _ _ _ [] (by omega) rfl (by rw [us_up_self]; exact hP) (by rw [us_up_self]; exact hD) hS (lv_sub hl [0, 1, 2] rfl)
      · exact absurd (nI_le (by omega) (by omega)) c_8
    | succ n ih =>
      intro i H locs ls hin hP hD hS hl
      have hil : i < nu := by omega
      have hi3 : i < 30 := by omega
      refine lv_iload_n hx hb dX1_replay_2 rfl (lv_at hl 0 rfl) ?_
      refine lv_aload_n hx hb dX1_replay_3 rfl (lv_at hl 1 rfl) ?_
      refine va_get (D := (dC, dI)) (ci := 1) (v := .int (nI nu)) (C := RX1) (T := TX1) (N := 10) hx hb htb us_inX1 hown hK hP 0 rfl rfl 1 (by decide) (htb _ mw_110) (fun _ h9 => h9) rfl dX1_replay_4 ?_
      refine lv_icmp_ge (tgt := 25) hx hb dX1_replay_7 (by decide) (fun c_9 => ?_) (fun c_9 => ?_)
      · exact absurd c_9 (nI_ge (by omega) (by omega))
      · refine lv_aload_n hx hb dX1_replay_10 rfl (lv_at hl 1 rfl) ?_
        refine va_get (D := (dC, dI)) (ci := 1) (v := .ref (ad 1)) (C := RX1) (T := TX1) (N := 10) hx hb htb us_inX1 hown hK hP 0 rfl rfl 0 (by decide) (htb _ mw_109) (fun _ h9 => h9) rfl dX1_replay_11 ?_
        refine lv_iload_n hx hb dX1_replay_14 rfl (lv_at hl 0 rfl) ?_
        refine us_aald hx hb hK hP 1 0 rfl rfl hi3 (by decide) rfl dX1_replay_15 ?_
        refine va_callv (va_runVN (C := RX0) (As := []) (rest := []) ⟨hx, hb, hml, hown, htb⟩ (kt_X0_startAnew l dC dI (pa i) H.size ((sp_st i U) i)) ⟨va_cnB 0 htb (us_g0 mw_304) rfl rfl rfl (hE.2.2.1 (.methodLinkNest RX1 164 yX0_startAnew "UnitStates") (by decide +kernel)) (htb _ mw_33) (by decide +kernel) ⟨Nat.le_of_ble_eq_true rfl, Nat.le_of_ble_eq_true rfl⟩, htb _ mw_303, htb _ mw_6⟩ ⟨us_Pu_blind, va_recv hK hP (ci := 0) (q0 := 8 + i) rfl (us_W_get hi3), fun U hU hW => ⟨rfl, us_Pu_at (us_W_sub hP hi3) hK hU hW⟩⟩ rfl rfl hl.1 rfl (lv_room (Nat.le_of_ble_eq_true rfl)) dX1_replay_16 ⟨Nat.le_of_ble_eq_true rfl, Nat.le_of_ble_eq_true rfl⟩) hS (fun q _ h => (us_Au_le (Or.inl (us_ads_pa hi3)) hS hA) q h) (us_Au_le (Or.inl (us_ads_pa hi3)) hS hA) (fun _ t_12 H_10 locs ht hvm hw hB hz1 hk1 hS => ?_)
        have hP := us_W_put hi3 hP hD hk1 (us_Bu_use ht hB)
        have hD : va_D (us_AA (us_ads ad pa) s.heap.size) (us_W ad cU cI pa nu nm nk F (va_up (sp_st i U) i (sp_fresh ((sp_st i U) i)))) := us_D_of (by rw [us_W_adr, us_W_adr]) hD
        refine lv_iinc (v := (nI (i + 1))) (lv' := [(2, .int (nI (i + 1))), (0, .ref (ad 0)), (1, .int p1)]) hx hb dX1_replay_19 hl (k := 0) rfl (nI_1 i) (by decide) rfl (fun ls hl => ?_)
        refine lv_goto (tgt := 2) hx hb dX1_replay_22 (by decide) ?_
        have e9 : va_up (sp_st i U) i (sp_fresh (sp_st i U i)) = sp_st (i + 1) U := us_st_next
        rw [e9] at hP hD
        exact ih (i + 1) _ _ _ (by omega) hP hD hS (lv_sub hl [0, 1, 2] rfl)
  refine lv_iconst (v := 0) hx hb dX1_replay_0 (by decide) ?_
  refine lv_istore_n (lv' := [(2, .int 0), (0, .ref (ad 0)), (1, .int p1)]) hx hb dX1_replay_1 rfl hl (by decide) rfl (fun ls hl => ?_)
  exact lp2 nu 0 _ _ _ (by omega) (by rw [us_st_0]; exact hP) (by rw [us_st_0]; exact hD) hS (lv_sub hl [0, 1, 2] rfl)
set_option maxHeartbeats 8000000 in
set_option maxRecDepth 100000 in
theorem kt_X1_rankOf (l : Launch) (dC : Nat → ClassId) (dI : Nat → Nat → Nat) (ad : Nat → Nat) (cU cI : ClassId) (pa : Nat → Nat) (sz : Nat) (nu nm : Nat) (nk : Int32) (F U : Nat → Nat → Int32) (p1 : Nat) (hnu : nu ≤ 30) (hp1 : p1 < 30) : Met l yX1_rankOf wsX1_rankOf ({ frames := 1, cells := 0, slots := 0, locals := 21 }) (va_Pc [.ref (ad 0), .ref (pa p1)] (us_Px dC dI ad cU cI pa nu nm nk F U (us_new sz) sz)) (va_Qi (fun r (_ : Unit) => True ∧ r = sp_rank nu U p1) (fun _ _ => True) (us_new sz)) 0 0 (us_new sz) := by
  refine Met.ofW (cc := cX1_rankOf) (maxL := 5) (ret := (some .int)) (by decide) rfl ?_
  intro p e s m args below meth c s₁ B hml hv
  obtain ⟨rfl, hsz, hP, hK, hD, hE⟩ := hv
  have hx := B.exec
  have hb := B.bytes
  have hr := B.returns
  have htb := us_htb (atoms_spec (ws := wsX1_rankOf) B.pre)
  have hown : s.vm.findClass RX1 = some m.cls := findClass_of_methodNamed B.named
  have hlocks := B.notSynchronized
  subst hsz
  have hA : ∀ q : Nat, s.heap.size ≤ q → (us_new s.heap.size) q := fun q h => h
  have hS : va_S (us_new s.heap.size) s.heap s.heap [] := va_S.rf
  have hP : va_P (dC, dI) vwCl (us_W ad cU cI pa nu nm nk F U) s.heap := hP
  have hl := lv_entry ([.ref (ad 0), .ref (pa p1)]) (n := 5) (Nat.le_of_ble_eq_true rfl)
  rw [lg_entry_eq]
  generalize (lg_sl ([.ref (ad 0), .ref (pa p1)]) ++ List.replicate (5 - (lg_sl ([.ref (ad 0), .ref (pa p1)])).length) Slot.unset).toArray = ls at hl ⊢
  have hl : lv_has ls 5 [(0, .ref (ad 0)), (1, .ref (pa p1))] := hl
  have lp20 : ∀ (n i : Nat) (H : Heap) (locs : List Loc) (ls : Array Slot), i + n = nu → va_P (dC, dI) vwCl (us_W ad cU cI pa nu nm nk F U) H → va_S (us_new s.heap.size) s.heap H locs → lv_has ls 5 [(4, .int (nI i)), (3, .int (sp_rk U (sp_inc (U p1)) (U p1 12) i)), (2, .int (sp_inc (U p1))), (0, .ref (ad 0)), (1, .ref (pa p1))] → ¬ sp_there (U p1) (sp_inc (U p1)) = 0 → W p l e (headSpec wsX1_rankOf ({ frames := 1, cells := 0, slots := 0, locals := 21 })).room s m ([.ref (ad 0), .ref (pa p1)]).toArray below meth c H locs 0 0 (MQ below (va_Qi (fun r (_ : Unit) => True ∧ r = sp_rank nu U p1) (fun _ _ => True) (us_new s.heap.size)) ([.ref (ad 0), .ref (pa p1)]).toArray s 0 0 (us_new s.heap.size)) (F0 m 20 ls []) := by
    intro n
    induction n with
    | zero =>
      intro i H locs ls hin hP hS hl ht0
      have hie : i = nu := by omega
      refine lv_iload hx hb dX1_rankOf_20 (lv_at hl 0 rfl) ?_
      refine lv_aload_n hx hb dX1_rankOf_22 rfl (lv_at hl 3 rfl) ?_
      refine va_get (D := (dC, dI)) (ci := 1) (v := .int (nI nu)) (C := RX1) (T := TX1) (N := 10) hx hb htb us_inX1 hown hK hP 0 rfl rfl 1 (by decide) (htb _ mw_110) (fun _ h9 => h9) rfl dX1_rankOf_23 ?_
      refine lv_icmp_ge (tgt := 69) hx hb dX1_rankOf_26 (by decide) (fun c_1 => ?_) (fun c_1 => ?_)
      · refine lv_iload_n hx hb dX1_rankOf_69 rfl (lv_at hl 1 rfl) ?_
        have hsp : (sp_rk U (sp_inc (U p1)) (U p1 12) i) = sp_rank nu U p1 := by rw [sp_rank, if_neg ht0, hie]
        exact ((W.iret (v := (sp_rk U (sp_inc (U p1)) (U p1 12) i)) hx hb hr (fun t ht hW => ⟨⟨(sp_rk U (sp_inc (U p1)) (U p1 12) i), (), rfl, ⟨trivial, hsp⟩, trivial⟩, hS.F ht⟩) hS.2.2 dX1_rankOf_70))
      · exact absurd (nI_le (by omega) (by omega)) c_1
    | succ n ih =>
      intro i H locs ls hin hP hS hl ht0
      have hil : i < nu := by omega
      have hi3 : i < 30 := by omega
      refine lv_iload hx hb dX1_rankOf_20 (lv_at hl 0 rfl) ?_
      refine lv_aload_n hx hb dX1_rankOf_22 rfl (lv_at hl 3 rfl) ?_
      refine va_get (D := (dC, dI)) (ci := 1) (v := .int (nI nu)) (C := RX1) (T := TX1) (N := 10) hx hb htb us_inX1 hown hK hP 0 rfl rfl 1 (by decide) (htb _ mw_110) (fun _ h9 => h9) rfl dX1_rankOf_23 ?_
      refine lv_icmp_ge (tgt := 69) hx hb dX1_rankOf_26 (by decide) (fun c_2 => ?_) (fun c_2 => ?_)
      · exact absurd c_2 (nI_ge (by omega) (by omega))
      · refine lv_aload_n hx hb dX1_rankOf_29 rfl (lv_at hl 3 rfl) ?_
        refine va_get (D := (dC, dI)) (ci := 1) (v := .ref (ad 1)) (C := RX1) (T := TX1) (N := 10) hx hb htb us_inX1 hown hK hP 0 rfl rfl 0 (by decide) (htb _ mw_109) (fun _ h9 => h9) rfl dX1_rankOf_30 ?_
        refine lv_iload hx hb dX1_rankOf_33 (lv_at hl 0 rfl) ?_
        refine us_aald hx hb hK hP 1 0 rfl rfl hi3 (by decide) rfl dX1_rankOf_35 ?_
        refine lv_iload_n hx hb dX1_rankOf_36 rfl (lv_at hl 2 rfl) ?_
        refine va_calli (va_runVN (C := RX0) (As := [.int (sp_inc (U p1))]) (rest := []) ⟨hx, hb, hml, hown, htb⟩ (kt_X0_isThereAt l dC dI (pa i) H.size (U i) (sp_inc (U p1))) ⟨va_cnB 1 htb (us_g0 mw_355) rfl rfl rfl (hE.2.2.1 (.methodLinkNest RX1 158 yX0_isThereAt "UnitStates") (by decide +kernel)) (htb _ mw_33) (by decide +kernel) ⟨Nat.le_of_ble_eq_true rfl, Nat.le_of_ble_eq_true rfl⟩, htb _ mw_354, htb _ mw_17⟩ ⟨us_Pu_blind, va_recv hK hP (ci := 0) (q0 := 8 + i) rfl (us_W_get hi3), fun U hU hW => ⟨rfl, us_Pu_at (us_W_sub hP hi3) hK hU hW⟩⟩ rfl rfl hl.1 rfl (lv_room (Nat.le_of_ble_eq_true rfl)) dX1_rankOf_37 ⟨Nat.le_of_ble_eq_true rfl, Nat.le_of_ble_eq_true rfl⟩) hS (fun q h1 h2 => absurd h2 (Nat.not_le.mpr h1)) (fun q h => hA q (Nat.le_trans hS.1 h)) (fun r_4 _ t_5 H_3 locs ht hvm hw hB hz1 hk1 hS => ?_)
        subst hw
        have hP := us_mono hP (fun q h => hk1 q h (Nat.not_le.mpr h))
        refine lv_if_eq (tgt := 63) hx hb dX1_rankOf_40 (by decide) (fun c_6 => ?_) (fun c_6 => ?_)
        · refine lv_iinc (v := (nI (i + 1))) (lv' := [(4, .int (nI (i + 1))), (3, .int (sp_rk U (sp_inc (U p1)) (U p1 12) i)), (2, .int (sp_inc (U p1))), (0, .ref (ad 0)), (1, .ref (pa p1))]) hx hb dX1_rankOf_63 hl (k := 0) rfl (nI_1 i) (by decide) rfl (fun ls hl => ?_)
          refine lv_goto (tgt := 20) hx hb dX1_rankOf_66 (by decide) ?_
          have e9 : sp_rk U (sp_inc (U p1)) (U p1 12) (i + 1) = sp_rk U (sp_inc (U p1)) (U p1 12) i := by rw [sp_rk, if_pos c_6]
          exact ih (i + 1) _ _ _ (by omega) hP hS (by rw [e9]; exact lv_sub hl [0, 1, 2, 3, 4] rfl) ht0
        · refine lv_aload_n hx hb dX1_rankOf_43 rfl (lv_at hl 3 rfl) ?_
          refine va_get (D := (dC, dI)) (ci := 1) (v := .ref (ad 1)) (C := RX1) (T := TX1) (N := 10) hx hb htb us_inX1 hown hK hP 0 rfl rfl 0 (by decide) (htb _ mw_109) (fun _ h9 => h9) rfl dX1_rankOf_44 ?_
          refine lv_iload hx hb dX1_rankOf_47 (lv_at hl 0 rfl) ?_
          refine us_aald hx hb hK hP 1 0 rfl rfl hi3 (by decide) rfl dX1_rankOf_49 ?_
          refine us_getUN (v := U i 12) hx hb htb us_inX0 hown hK hP (8 + i) (us_W_get hi3) 12 (by decide) (va_Nw.use rfl (hE.2.2.1 (.fieldLinkNest RX1 171 "UnitStates$Unit" "arrival" "I" "UnitStates") (by decide +kernel))) rfl dX1_rankOf_50 ?_
          refine lv_aload_n hx hb dX1_rankOf_53 rfl (lv_at hl 4 rfl) ?_
          refine us_getUN (v := U p1 12) hx hb htb us_inX0 hown hK hP (8 + p1) (us_W_get hp1) 12 (by decide) (va_Nw.use rfl (hE.2.2.1 (.fieldLinkNest RX1 171 "UnitStates$Unit" "arrival" "I" "UnitStates") (by decide +kernel))) rfl dX1_rankOf_54 ?_
          refine lv_icmp_ge (tgt := 63) hx hb dX1_rankOf_57 (by decide) (fun c_7 => ?_) (fun c_7 => ?_)
          · refine lv_iinc (v := (nI (i + 1))) (lv' := [(4, .int (nI (i + 1))), (3, .int (sp_rk U (sp_inc (U p1)) (U p1 12) i)), (2, .int (sp_inc (U p1))), (0, .ref (ad 0)), (1, .ref (pa p1))]) hx hb dX1_rankOf_63 hl (k := 0) rfl (nI_1 i) (by decide) rfl (fun ls hl => ?_)
            refine lv_goto (tgt := 20) hx hb dX1_rankOf_66 (by decide) ?_
            have e9 : sp_rk U (sp_inc (U p1)) (U p1 12) (i + 1) = sp_rk U (sp_inc (U p1)) (U p1 12) i := by rw [sp_rk, if_neg c_6, if_pos c_7]
            exact ih (i + 1) _ _ _ (by omega) hP hS (by rw [e9]; exact lv_sub hl [0, 1, 2, 3, 4] rfl) ht0
          · refine lv_iinc (v := (sp_rk U (sp_inc (U p1)) (U p1 12) (i + 1))) (lv' := [(3, .int (sp_rk U (sp_inc (U p1)) (U p1 12) (i + 1))), (4, .int (nI i)), (2, .int (sp_inc (U p1))), (0, .ref (ad 0)), (1, .ref (pa p1))]) hx hb dX1_rankOf_60 hl (k := 1) rfl (by rw [sp_rk, if_neg c_6, if_neg c_7]; rfl) (by decide) rfl (fun ls hl => ?_)
            refine lv_iinc (v := (nI (i + 1))) (lv' := [(4, .int (nI (i + 1))), (3, .int (sp_rk U (sp_inc (U p1)) (U p1 12) (i + 1))), (2, .int (sp_inc (U p1))), (0, .ref (ad 0)), (1, .ref (pa p1))]) hx hb dX1_rankOf_63 hl (k := 1) rfl (nI_1 i) (by decide) rfl (fun ls hl => ?_)
            refine lv_goto (tgt := 20) hx hb dX1_rankOf_66 (by decide) ?_
            exact ih (i + 1) _ _ _ (by omega) hP hS (lv_sub hl [0, 1, 2, 3, 4] rfl) ht0
  refine lv_aload_n hx hb dX1_rankOf_0 rfl (lv_at hl 1 rfl) ?_
  refine va_calli (va_runVN (C := RX0) (As := []) (rest := []) ⟨hx, hb, hml, hown, htb⟩ (kt_X0_incidentNow l dC dI (pa p1) s.heap.size (U p1)) ⟨va_cnB 0 htb (us_g0 mw_342) rfl rfl rfl (hE.2.2.1 (.methodLinkNest RX1 110 yX0_incidentNow "UnitStates") (by decide +kernel)) (htb _ mw_33) (by decide +kernel) ⟨Nat.le_of_ble_eq_true rfl, Nat.le_of_ble_eq_true rfl⟩, htb _ mw_341, htb _ mw_14⟩ ⟨us_Pu_blind, va_recv hK hP (ci := 0) (q0 := 8 + p1) rfl (us_W_get hp1), fun U hU hW => ⟨rfl, us_Pu_at (us_W_sub hP hp1) hK hU hW⟩⟩ rfl rfl hl.1 rfl (lv_room (Nat.le_of_ble_eq_true rfl)) dX1_rankOf_1 ⟨Nat.le_of_ble_eq_true rfl, Nat.le_of_ble_eq_true rfl⟩) hS (fun q h1 h2 => absurd h2 (Nat.not_le.mpr h1)) (fun q h => hA q (Nat.le_trans hS.1 h)) (fun r_9 _ t_10 H_8 locs ht hvm hw hB hz1 hk1 hS => ?_)
  subst hw
  have hP := us_mono hP (fun q h => hk1 q h (Nat.not_le.mpr h))
  refine lv_istore_n (lv' := [(2, .int (sp_inc (U p1))), (0, .ref (ad 0)), (1, .ref (pa p1))]) hx hb dX1_rankOf_4 rfl hl (by decide) rfl (fun ls hl => ?_)
  refine lv_aload_n hx hb dX1_rankOf_5 rfl (lv_at hl 2 rfl) ?_
  refine lv_iload_n hx hb dX1_rankOf_6 rfl (lv_at hl 0 rfl) ?_
  refine va_calli (va_runVN (C := RX0) (As := [.int (sp_inc (U p1))]) (rest := []) ⟨hx, hb, hml, hown, htb⟩ (kt_X0_isThereAt l dC dI (pa p1) H_8.size (U p1) (sp_inc (U p1))) ⟨va_cnB 1 htb (us_g0 mw_355) rfl rfl rfl (hE.2.2.1 (.methodLinkNest RX1 158 yX0_isThereAt "UnitStates") (by decide +kernel)) (htb _ mw_33) (by decide +kernel) ⟨Nat.le_of_ble_eq_true rfl, Nat.le_of_ble_eq_true rfl⟩, htb _ mw_354, htb _ mw_17⟩ ⟨us_Pu_blind, va_recv hK hP (ci := 0) (q0 := 8 + p1) rfl (us_W_get hp1), fun U hU hW => ⟨rfl, us_Pu_at (us_W_sub hP hp1) hK hU hW⟩⟩ rfl rfl hl.1 rfl (lv_room (Nat.le_of_ble_eq_true rfl)) dX1_rankOf_7 ⟨Nat.le_of_ble_eq_true rfl, Nat.le_of_ble_eq_true rfl⟩) hS (fun q h1 h2 => absurd h2 (Nat.not_le.mpr h1)) (fun q h => hA q (Nat.le_trans hS.1 h)) (fun r_12 _ t_13 H_11 locs ht hvm hw hB hz1 hk1 hS => ?_)
  subst hw
  have hP := us_mono hP (fun q h => hk1 q h (Nat.not_le.mpr h))
  refine lv_if_ne (tgt := 15) hx hb dX1_rankOf_10 (by decide) (fun c_14 => ?_) (fun c_14 => ?_)
  · refine lv_iconst (v := 1) hx hb dX1_rankOf_15 (by decide) ?_
    refine lv_istore_n (lv' := [(3, .int 1), (2, .int (sp_inc (U p1))), (0, .ref (ad 0)), (1, .ref (pa p1))]) hx hb dX1_rankOf_16 rfl hl (by decide) rfl (fun ls hl => ?_)
    refine lv_iconst (v := 0) hx hb dX1_rankOf_17 (by decide) ?_
    refine lv_istore (lv' := [(4, .int 0), (3, .int 1), (2, .int (sp_inc (U p1))), (0, .ref (ad 0)), (1, .ref (pa p1))]) hx hb dX1_rankOf_18 hl (by decide) rfl (fun ls hl => ?_)
    exact lp20 nu 0 _ _ _ (by omega) hP hS (lv_sub hl [0, 1, 2, 3, 4] rfl) c_14
  · refine lv_iconst (v := 0) hx hb dX1_rankOf_13 (by decide) ?_
    have hsp : 0 = sp_rank nu U p1 := by first | (simp only [sp_rank, eq_true c_14, if_true, if_false]; done) | (simp [sp_rank, c_14]; done)
    exact ((W.iret (v := 0) hx hb hr (fun t ht hW => ⟨⟨0, (), rfl, ⟨trivial, hsp⟩, trivial⟩, hS.F ht⟩) hS.2.2 dX1_rankOf_14))
set_option maxHeartbeats 8000000 in
set_option maxRecDepth 100000 in
theorem kt_X1_countFindings (l : Launch) (dC : Nat → ClassId) (dI : Nat → Nat → Nat) (ad : Nat → Nat) (cU cI : ClassId) (pa : Nat → Nat) (sz : Nat) (nu nm : Nat) (nk : Int32) (F U : Nat → Nat → Int32) (p1 : Int32) (hnu : nu ≤ 30) (hnm : nm ≤ 200) (hO : ∀ p, p < nm → ∃ n, n < nm ∧ F 5 p = nI n) (hV : ∀ n, n < nm → ∃ j, j < nu ∧ F 0 n = nI j) : Met l yX1_countFindings wsX1_countFindings ({ frames := 5, cells := 0, slots := 0, locals := 114 }) (va_Pc [.ref (ad 0), .int p1] (us_Px dC dI ad cU cI pa nu nm nk F U (us_AA (us_ads ad pa) sz) sz)) (va_Qi (fun r (_ : Unit) => True ∧ r = sp_cf (sp_rf nu nm F U 99999 4) p1 nm) (fun _ t => us_Bx dC dI ad cU cI pa nu nm nk (sp_rf nu nm F U 99999) (sp_ru nu nm F U 99999) t) (us_AA (us_ads ad pa) sz)) 0 0 (us_AA (us_ads ad pa) sz) := by
  refine Met.ofW (cc := cX1_countFindings) (maxL := 4) (ret := (some .int)) (by decide) rfl ?_
  intro p e s m args below meth c s₁ B hml hv
  obtain ⟨rfl, hsz, hP, hK, hD, hE⟩ := hv
  have hx := B.exec
  have hb := B.bytes
  have hr := B.returns
  have htb := us_htb (atoms_spec (ws := wsX1_countFindings) B.pre)
  have hown : s.vm.findClass RX1 = some m.cls := findClass_of_methodNamed B.named
  have hlocks := B.notSynchronized
  subst hsz
  have hA : ∀ q : Nat, s.heap.size ≤ q → (us_AA (us_ads ad pa) s.heap.size) q := fun q h => Or.inr h
  have hS : va_S (us_AA (us_ads ad pa) s.heap.size) s.heap s.heap [] := va_S.rf
  have hP : va_P (dC, dI) vwCl (us_W ad cU cI pa nu nm nk F U) s.heap := hP
  have hD : va_D (us_AA (us_ads ad pa) s.heap.size) (us_W ad cU cI pa nu nm nk F U) := us_D_aa hD
  have hl := lv_entry ([.ref (ad 0), .int p1]) (n := 4) (Nat.le_of_ble_eq_true rfl)
  rw [lg_entry_eq]
  generalize (lg_sl ([.ref (ad 0), .int p1]) ++ List.replicate (4 - (lg_sl ([.ref (ad 0), .int p1])).length) Slot.unset).toArray = ls at hl ⊢
  have hl : lv_has ls 4 [(0, .ref (ad 0)), (1, .int p1)] := hl
  have lp10 : ∀ (n i : Nat) (H : Heap) (locs : List Loc) (ls : Array Slot), i + n = nm → va_P (dC, dI) vwCl (us_W ad cU cI pa nu nm nk (sp_rf nu nm F U 99999) (sp_ru nu nm F U 99999)) H → va_S (us_AA (us_ads ad pa) s.heap.size) s.heap H locs → lv_has ls 4 [(3, .int (nI i)), (2, .int (sp_cf ((sp_rf nu nm F U 99999) 4) p1 i)), (0, .ref (ad 0)), (1, .int p1)] → W p l e (headSpec wsX1_countFindings ({ frames := 5, cells := 0, slots := 0, locals := 114 })).room s m ([.ref (ad 0), .int p1]).toArray below meth c H locs 0 0 (MQ below (va_Qi (fun r (_ : Unit) => True ∧ r = sp_cf (sp_rf nu nm F U 99999 4) p1 nm) (fun _ t => us_Bx dC dI ad cU cI pa nu nm nk (sp_rf nu nm F U 99999) (sp_ru nu nm F U 99999) t) (us_AA (us_ads ad pa) s.heap.size)) ([.ref (ad 0), .int p1]).toArray s 0 0 (us_AA (us_ads ad pa) s.heap.size)) (F0 m 10 ls []) := by
    intro n
    induction n with
    | zero =>
      intro i H locs ls hin hP hS hl
      have hie : i = nm := by omega
      refine lv_iload_n hx hb dX1_countFindings_10 rfl (lv_at hl 0 rfl) ?_
      refine lv_aload_n hx hb dX1_countFindings_11 rfl (lv_at hl 2 rfl) ?_
      refine va_get (D := (dC, dI)) (ci := 1) (v := .int (nI nm)) (C := RX1) (T := TX1) (N := 10) hx hb htb us_inX1 hown hK hP 0 rfl rfl 8 (by decide) (htb _ mw_117) (fun _ h9 => h9) rfl dX1_countFindings_12 ?_
      refine lv_icmp_ge (tgt := 37) hx hb dX1_countFindings_15 (by decide) (fun c_1 => ?_) (fun c_1 => ?_)
      · refine lv_iload_n hx hb dX1_countFindings_37 rfl (lv_at hl 1 rfl) ?_
        have hsp : (sp_cf ((sp_rf nu nm F U 99999) 4) p1 i) = sp_cf (sp_rf nu nm F U 99999 4) p1 nm := by rw [hie]
        exact ((W.iret (v := (sp_cf ((sp_rf nu nm F U 99999) 4) p1 i)) hx hb hr (fun t ht hW => ⟨⟨(sp_cf ((sp_rf nu nm F U 99999) 4) p1 i), (), rfl, ⟨trivial, hsp⟩, us_Bx_of ht hP rfl rfl rfl⟩, hS.F ht⟩) hS.2.2 dX1_countFindings_38))
      · exact absurd (nI_le (by omega) (by omega)) c_1
    | succ n ih =>
      intro i H locs ls hin hP hS hl
      have hil : i < nm := by omega
      have hi2 : i < 200 := by omega
      refine lv_iload_n hx hb dX1_countFindings_10 rfl (lv_at hl 0 rfl) ?_
      refine lv_aload_n hx hb dX1_countFindings_11 rfl (lv_at hl 2 rfl) ?_
      refine va_get (D := (dC, dI)) (ci := 1) (v := .int (nI nm)) (C := RX1) (T := TX1) (N := 10) hx hb htb us_inX1 hown hK hP 0 rfl rfl 8 (by decide) (htb _ mw_117) (fun _ h9 => h9) rfl dX1_countFindings_12 ?_
      refine lv_icmp_ge (tgt := 37) hx hb dX1_countFindings_15 (by decide) (fun c_2 => ?_) (fun c_2 => ?_)
      · exact absurd c_2 (nI_ge (by omega) (by omega))
      · refine lv_aload_n hx hb dX1_countFindings_18 rfl (lv_at hl 2 rfl) ?_
        refine va_get (D := (dC, dI)) (ci := 1) (v := .ref (ad 6)) (C := RX1) (T := TX1) (N := 10) hx hb htb us_inX1 hown hK hP 0 rfl rfl 6 (by decide) (htb _ mw_115) (fun _ h9 => h9) rfl dX1_countFindings_19 ?_
        refine lv_iload_n hx hb dX1_countFindings_22 rfl (lv_at hl 0 rfl) ?_
        refine us_iald (f := ((sp_rf nu nm F U 99999) 4)) hx hb hK hP 6 1 rfl rfl hi2 (by decide) dX1_countFindings_23 ?_
        refine lv_iload_n hx hb dX1_countFindings_24 rfl (lv_at hl 3 rfl) ?_
        refine lv_icmp_ne (tgt := 31) hx hb dX1_countFindings_25 (by decide) (fun c_3 => ?_) (fun c_3 => ?_)
        · refine lv_iinc (v := (nI (i + 1))) (lv' := [(3, .int (nI (i + 1))), (2, .int (sp_cf ((sp_rf nu nm F U 99999) 4) p1 i)), (0, .ref (ad 0)), (1, .int p1)]) hx hb dX1_countFindings_31 hl (k := 0) rfl (nI_1 i) (by decide) rfl (fun ls hl => ?_)
          refine lv_goto (tgt := 10) hx hb dX1_countFindings_34 (by decide) ?_
          have e9 : sp_cf ((sp_rf nu nm F U 99999) 4) p1 (i + 1) = sp_cf ((sp_rf nu nm F U 99999) 4) p1 i := by rw [sp_cf, if_neg c_3]
          exact ih (i + 1) _ _ _ (by omega) hP hS (by rw [e9]; exact lv_sub hl [0, 1, 2, 3] rfl)
        · refine lv_iinc (v := (sp_cf ((sp_rf nu nm F U 99999) 4) p1 (i + 1))) (lv' := [(2, .int (sp_cf ((sp_rf nu nm F U 99999) 4) p1 (i + 1))), (3, .int (nI i)), (0, .ref (ad 0)), (1, .int p1)]) hx hb dX1_countFindings_28 hl (k := 1) rfl (by rw [sp_cf, if_pos c_3]; rfl) (by decide) rfl (fun ls hl => ?_)
          refine lv_iinc (v := (nI (i + 1))) (lv' := [(3, .int (nI (i + 1))), (2, .int (sp_cf ((sp_rf nu nm F U 99999) 4) p1 (i + 1))), (0, .ref (ad 0)), (1, .int p1)]) hx hb dX1_countFindings_31 hl (k := 1) rfl (nI_1 i) (by decide) rfl (fun ls hl => ?_)
          refine lv_goto (tgt := 10) hx hb dX1_countFindings_34 (by decide) ?_
          exact ih (i + 1) _ _ _ (by omega) hP hS (lv_sub hl [0, 1, 2, 3] rfl)
  refine lv_aload_n hx hb dX1_countFindings_0 rfl (lv_at hl 0 rfl) ?_
  refine lv_ldc (v := 99999) hx hb hown (htb _ mw_273) dX1_countFindings_1 ?_
  refine va_callv (va_runV (As := [.int 99999]) (rest := []) ⟨hx, hb, hml, hown, htb⟩ (kt_X1_replay l dC dI ad cU cI pa s.heap.size nu nm nk F U 99999 hnu hnm hO hV) (cwV 1 htb (us_gV mw_297 mw_299 mw_5 mw_32 mw_300) rfl rfl rfl (by decide +kernel) ⟨Nat.le_of_ble_eq_true rfl, Nat.le_of_ble_eq_true rfl⟩) ⟨us_Px_blind, va_recv hK hP (ci := 1) (q0 := 0) rfl rfl, fun U hU hW => ⟨rfl, us_Px_at hP hK hD hE hS (us_AA_le hS) hU hW⟩⟩ rfl rfl hl.1 rfl (lv_room (Nat.le_of_ble_eq_true rfl)) dX1_countFindings_3 ⟨Nat.le_of_ble_eq_true rfl, Nat.le_of_ble_eq_true rfl⟩) hS (fun q _ h => us_AA_le hS q h) (us_AA_le hS) (fun _ t_6 H_4 locs ht hvm hw hB hz1 hk1 hS => ?_)
  have hP := us_Bx_use ht hB
  have hD : va_D (us_AA (us_ads ad pa) s.heap.size) (us_W ad cU cI pa nu nm nk (sp_rf nu nm F U 99999) (sp_ru nu nm F U 99999)) := us_D_of (by rw [us_W_adr, us_W_adr]) hD
  have hP : va_P (dC, dI) vwCl (us_W ad cU cI pa nu nm nk (sp_rf nu nm F U 99999) (sp_ru nu nm F U 99999)) H_4 := hP
  refine lv_iconst (v := 0) hx hb dX1_countFindings_6 (by decide) ?_
  refine lv_istore_n (lv' := [(2, .int 0), (0, .ref (ad 0)), (1, .int p1)]) hx hb dX1_countFindings_7 rfl hl (by decide) rfl (fun ls hl => ?_)
  refine lv_iconst (v := 0) hx hb dX1_countFindings_8 (by decide) ?_
  refine lv_istore_n (lv' := [(3, .int 0), (2, .int 0), (0, .ref (ad 0)), (1, .int p1)]) hx hb dX1_countFindings_9 rfl hl (by decide) rfl (fun ls hl => ?_)
  exact lp10 nm 0 _ _ _ (by omega) hP hS (lv_sub hl [0, 1, 2, 3] rfl)
set_option maxHeartbeats 8000000 in
set_option maxRecDepth 100000 in
theorem kt_X1_replayedUnit (l : Launch) (hl9 : l.stackTraces = false) (dC : Nat → ClassId) (dI : Nat → Nat → Nat) (ad : Nat → Nat) (cU cI : ClassId) (pa : Nat → Nat) (sz : Nat) (nu nm : Nat) (nk : Int32) (F U : Nat → Nat → Int32) (p1 : Int32) (p2 : Int32) (hnu : nu ≤ 30) (hnm : nm ≤ 200) (hO : ∀ p, p < nm → ∃ n, n < nm ∧ F 5 p = nI n) (hV : ∀ n, n < nm → ∃ j, j < nu ∧ F 0 n = nI j) : vx_Met l yX1_replayedUnit wsX1_replayedUnit ({ frames := 7, cells := 2, slots := 12, locals := 114 }) (va_Pc [.ref (ad 0), .int p1, .int p2] (us_Px dC dI ad cU cI pa nu nm nk F U (us_AA (us_ads ad pa) sz) sz)) (va_Qr (fun _ : Unit => sp_ruK p1 p2 nu = 0) (fun _ a t => a = pa p1.toNatClampNeg ∧ us_Bx dC dI ad cU cI pa nu nm nk (sp_rf nu nm F U p2) (sp_ru nu nm F U p2) t) (us_AA (us_ads ad pa) sz)) (vx_X (fun _ : Unit => ¬ sp_ruK p1 p2 nu = 0) (fun E _ t => E = us_en (sp_ruK p1 p2 nu) ∧ us_Bx dC dI ad cU cI pa nu nm nk F U t) (us_AA (us_ads ad pa) sz)) 2 12 (us_AA (us_ads ad pa) sz) := by
  refine vx_ofW (cc := cX1_replayedUnit) (maxL := 3) (ret := (some (.object RX0))) (by decide) rfl ?_
  intro p e s m args below meth c s₁ B hml hte hv
  obtain ⟨rfl, hsz, hP, hK, hD, hE⟩ := hv
  have hx := B.exec
  have hb := B.bytes
  have hr := B.returns
  have htb := us_htb (atoms_spec (ws := wsX1_replayedUnit) B.pre)
  have hown : s.vm.findClass RX1 = some m.cls := findClass_of_methodNamed B.named
  have hlocks := B.notSynchronized
  subst hsz
  have hA : ∀ q : Nat, s.heap.size ≤ q → (us_AA (us_ads ad pa) s.heap.size) q := fun q h => Or.inr h
  have hS : va_S (us_AA (us_ads ad pa) s.heap.size) s.heap s.heap [] := va_S.rf
  have hP : va_P (dC, dI) vwCl (us_W ad cU cI pa nu nm nk F U) s.heap := hP
  have hD : va_D (us_AA (us_ads ad pa) s.heap.size) (us_W ad cU cI pa nu nm nk F U) := us_D_aa hD
  have hl := lv_entry ([.ref (ad 0), .int p1, .int p2]) (n := 3) (Nat.le_of_ble_eq_true rfl)
  rw [lg_entry_eq]
  generalize (lg_sl ([.ref (ad 0), .int p1, .int p2]) ++ List.replicate (3 - (lg_sl ([.ref (ad 0), .int p1, .int p2])).length) Slot.unset).toArray = ls at hl ⊢
  have hl : lv_has ls 3 [(0, .ref (ad 0)), (1, .int p1), (2, .int p2)] := hl
  refine lv_aload_n hx hb dX1_replayedUnit_0 rfl (lv_at hl 0 rfl) ?_
  refine lv_iload_n hx hb dX1_replayedUnit_1 rfl (lv_at hl 1 rfl) ?_
  refine vx_callv (vx_runV (As := [.int p1]) (rest := []) ⟨hx, hb, hml, hown, htb⟩ (kt_X1_refuseUnknownUnit l hl9 dC dI ad cU cI pa s.heap.size nu nm nk F U p1) (cwV 1 htb (us_gV mw_292 mw_294 mw_4 mw_32 mw_295) rfl rfl rfl (by decide +kernel) ⟨Nat.le_of_ble_eq_true rfl, Nat.le_of_ble_eq_true rfl⟩) ⟨us_Px_blind, va_recv hK hP (ci := 1) (q0 := 0) rfl rfl, fun U hU hW => ⟨rfl, us_Px_at hP hK hD hE hS (fun q h => hA q (Nat.le_trans hS.1 h)) hU hW⟩⟩ rfl rfl hl.1 rfl (lv_room (Nat.le_of_ble_eq_true rfl)) dX1_replayedUnit_2 ⟨Nat.le_of_ble_eq_true rfl, Nat.le_of_ble_eq_true rfl⟩) hS (fun q h1 h2 => absurd h2 (Nat.not_le.mpr h1)) (fun q h => hA q (Nat.le_trans hS.1 h)) (fun q h1 h2 => absurd h2 (Nat.not_le.mpr h1)) (fun E_t_3 ce_t_3 q_t_3 _ t_3 H_1 locs ht hvm hw hB hz1 hk1 hS hce hcv hcl => ?_) (fun _ t_3 H_1 locs ht hvm hw hB hz1 hk1 hS => ?_)
  · have hkk := hw
    have hx9 : sp_isU p1 nu = 0 := by refine Decidable.byContradiction (fun h9 => hkk ?_); simp only [sp_refK, eq_false h9, if_false]
    have hE9 := hB
    have hP := us_mono hP (fun q h => hk1 q h (Nat.not_le.mpr h))
    have hk9 : sp_ruK p1 p2 nu = sp_refK p1 nu := by first | (simp only [sp_ruK, sp_refK, sp_minK, eq_true hx9, if_true, if_false]; done) | (simp [sp_ruK, sp_refK, sp_minK, hx9]; done)
    exact vx_out (E := E_t_3) (fun x hx => (hte x hx).elim) hlocks hce hcv hcl (fun t9 ht9 ha => ⟨(), (by rw [hk9]; exact hkk), ⟨(by rw [hk9]; exact hE9), us_Bx_of ht9 hP rfl rfl rfl⟩, hS.F ht9⟩) hS.2.2 (Nat.le_of_ble_eq_true rfl) (Nat.le_of_ble_eq_true rfl)
  have hk0 := hw
  have hk_4 : sp_refK p1 nu = 0 := hk0
  have hf_5 : ¬ sp_isU p1 nu = 0 := by intro h9; simp [sp_refK, h9] at hk_4
  have hP := us_mono hP (fun q h => hk1 q h (Nat.not_le.mpr h))
  obtain ⟨j, hj, ej⟩ := us_isU_spec hnu hf_5
  have hj3 : j < 30 := by omega
  refine lv_iload_n hx hb dX1_replayedUnit_5 rfl (lv_at hl 2 rfl) ?_
  refine vx_callv (vx_runS (As := [.int p2]) (rest := []) ⟨hx, hb, hml, hown, htb⟩ (kt_X1_refuseOutsideMinutes l hl9 H_1.size p2) (cwS 1 htb (us_gS mw_270 mw_271 mw_32 mw_272) rfl rfl rfl (by decide +kernel) ⟨Nat.le_of_ble_eq_true rfl, Nat.le_of_ble_eq_true rfl⟩) ⟨us_P0_blind, fun U hU hW => ⟨rfl, us_P0_at hE hS (fun q h => hA q (Nat.le_trans hS.1 h)) hU hW⟩⟩ rfl rfl hl.1 rfl (lv_room (Nat.le_of_ble_eq_true rfl)) dX1_replayedUnit_6 ⟨Nat.le_of_ble_eq_true rfl, Nat.le_of_ble_eq_true rfl⟩) hS (fun q h1 h2 => absurd h2 (Nat.not_le.mpr h1)) (fun q h => hA q (Nat.le_trans hS.1 h)) (fun q h1 h2 => absurd h2 (Nat.not_le.mpr h1)) (fun E_t_8 ce_t_8 q_t_8 _ t_8 H_6 locs ht hvm hw hB hz1 hk1 hS hce hcv hcl => ?_) (fun _ t_8 H_6 locs ht hvm hw hB hz1 hk1 hS => ?_)
  · have hkk := hw
    have hx9 : sp_in p2 99999 = 0 := by refine Decidable.byContradiction (fun h9 => hkk ?_); simp only [sp_minK, eq_false h9, if_false]
    have hE9 := hB
    have hP := us_mono hP (fun q h => hk1 q h (Nat.not_le.mpr h))
    have hk9 : sp_ruK p1 p2 nu = sp_minK p2 := by first | (simp only [sp_ruK, sp_refK, sp_minK, eq_true hk_4, eq_false hf_5, eq_true hx9, if_true, if_false]; done) | (simp [sp_ruK, sp_refK, sp_minK, hk_4, hf_5, hx9]; done)
    exact vx_out (E := E_t_8) (fun x hx => (hte x hx).elim) hlocks hce hcv hcl (fun t9 ht9 ha => ⟨(), (by rw [hk9]; exact hkk), ⟨(by rw [hk9]; exact hE9), us_Bx_of ht9 hP rfl rfl rfl⟩, hS.F ht9⟩) hS.2.2 (Nat.le_of_ble_eq_true rfl) (Nat.le_of_ble_eq_true rfl)
  have hk0 := hw
  have hk_9 : sp_minK p2 = 0 := hk0
  have hf_10 : ¬ sp_in p2 99999 = 0 := by intro h9; simp [sp_minK, h9] at hk_9
  have hP := us_mono hP (fun q h => hk1 q h (Nat.not_le.mpr h))
  refine lv_aload_n hx hb dX1_replayedUnit_9 rfl (lv_at hl 0 rfl) ?_
  refine lv_iload_n hx hb dX1_replayedUnit_10 rfl (lv_at hl 2 rfl) ?_
  refine va_callv (va_runV (As := [.int p2]) (rest := []) ⟨hx, hb, hml, hown, htb⟩ (kt_X1_replay l dC dI ad cU cI pa H_6.size nu nm nk F U p2 hnu hnm hO hV) (cwV 1 htb (us_gV mw_297 mw_299 mw_5 mw_32 mw_300) rfl rfl rfl (by decide +kernel) ⟨Nat.le_of_ble_eq_true rfl, Nat.le_of_ble_eq_true rfl⟩) ⟨us_Px_blind, va_recv hK hP (ci := 1) (q0 := 0) rfl rfl, fun U hU hW => ⟨rfl, us_Px_at hP hK hD hE hS (us_AA_le hS) hU hW⟩⟩ rfl rfl hl.1 rfl (lv_room (Nat.le_of_ble_eq_true rfl)) dX1_replayedUnit_11 ⟨Nat.le_of_ble_eq_true rfl, Nat.le_of_ble_eq_true rfl⟩) hS (fun q _ h => us_AA_le hS q h) (us_AA_le hS) (fun _ t_13 H_11 locs ht hvm hw hB hz1 hk1 hS => ?_)
  have hP := us_Bx_use ht hB
  have hD : va_D (us_AA (us_ads ad pa) s.heap.size) (us_W ad cU cI pa nu nm nk (sp_rf nu nm F U p2) (sp_ru nu nm F U p2)) := us_D_of (by rw [us_W_adr, us_W_adr]) hD
  have hP : va_P (dC, dI) vwCl (us_W ad cU cI pa nu nm nk (sp_rf nu nm F U p2) (sp_ru nu nm F U p2)) H_11 := hP
  refine lv_aload_n hx hb dX1_replayedUnit_14 rfl (lv_at hl 0 rfl) ?_
  refine va_get (D := (dC, dI)) (ci := 1) (v := .ref (ad 1)) (C := RX1) (T := TX1) (N := 10) hx hb htb us_inX1 hown hK hP 0 rfl rfl 0 (by decide) (htb _ mw_109) (fun _ h9 => h9) rfl dX1_replayedUnit_15 ?_
  refine lv_iload_n hx hb dX1_replayedUnit_18 rfl (lv_at hl 1 rfl) ?_
  refine lv_topi (fun i9 ei9 => ?_)
  have ei9 := ei9.trans ej
  subst ei9
  refine us_aald hx hb hK hP 1 0 rfl rfl hj3 (by decide) rfl dX1_replayedUnit_19 ?_
  have hk9 : sp_ruK p1 p2 nu = 0 := by first | (simp only [sp_ruK, sp_refK, sp_minK, eq_true hk_4, eq_false hf_5, eq_true hk_9, eq_false hf_10, if_true, if_false]; done) | (simp [sp_ruK, sp_refK, sp_minK, hk_4, hf_5, hk_9, hf_10]; done)
  exact vx_ret ((W.aret (v := .ref (pa j)) hx hb hr (Or.inl ⟨_, rfl⟩) (Or.inr ⟨_, rfl⟩) (fun t ht hW => ⟨⟨(), _, rfl, hk9, (by rw [ej, nI_clamp (by omega)]), us_Bx_of ht hP rfl rfl rfl⟩, hS.F ht⟩) hS.2.2 dX1_replayedUnit_20))
end
section
set_option maxHeartbeats 8000000 in
set_option maxRecDepth 100000 in
theorem kt_X1_unit (l : Launch) (hl9 : l.stackTraces = false) (dC : Nat → ClassId) (dI : Nat → Nat → Nat) (ad : Nat → Nat) (cU cI : ClassId) (pa : Nat → Nat) (sz : Nat) (nu nm : Nat) (nk : Int32) (F U : Nat → Nat → Int32) (p1 : Int32) (p2 : Int32) (hnu : nu ≤ 30) : vx_Met l yX1_unit wsX1_unit ({ frames := 6, cells := 1, slots := 6, locals := 91 }) (va_Pc [.ref (ad 0), .int p1, .int p2] (us_Px dC dI ad cU cI pa nu nm nk F U (us_AA (us_ads ad pa) sz) sz)) (va_Qi (fun r (_ : Unit) => sp_unitK p1 p2 nu = 0 ∧ r = nI nu) (fun _ t => us_Bx dC dI ad cU cI pa (nu + 1) nm nk F (va_up U nu (sp_settle (U nu) p1 p2)) t) (us_AA (us_ads ad pa) sz)) (vx_X (fun _ : Unit => ¬ sp_unitK p1 p2 nu = 0) (fun E _ t => E = us_en (sp_unitK p1 p2 nu) ∧ us_Bx dC dI ad cU cI pa nu nm nk F U t) (us_AA (us_ads ad pa) sz)) 1 6 (us_AA (us_ads ad pa) sz) := by
  refine vx_ofW (cc := cX1_unit) (maxL := 3) (ret := (some .int)) (by decide) rfl ?_
  intro p e s m args below meth c s₁ B hml hte hv
  obtain ⟨rfl, hsz, hP, hK, hD, hE⟩ := hv
  have hx := B.exec
  have hb := B.bytes
  have hr := B.returns
  have htb := us_htb (atoms_spec (ws := wsX1_unit) B.pre)
  have hown : s.vm.findClass RX1 = some m.cls := findClass_of_methodNamed B.named
  have hlocks := B.notSynchronized
  subst hsz
  have hA : ∀ q : Nat, s.heap.size ≤ q → (us_AA (us_ads ad pa) s.heap.size) q := fun q h => Or.inr h
  have hS : va_S (us_AA (us_ads ad pa) s.heap.size) s.heap s.heap [] := va_S.rf
  have hP : va_P (dC, dI) vwCl (us_W ad cU cI pa nu nm nk F U) s.heap := hP
  have hD : va_D (us_AA (us_ads ad pa) s.heap.size) (us_W ad cU cI pa nu nm nk F U) := us_D_aa hD
  have hl := lv_entry ([.ref (ad 0), .int p1, .int p2]) (n := 3) (Nat.le_of_ble_eq_true rfl)
  rw [lg_entry_eq]
  generalize (lg_sl ([.ref (ad 0), .int p1, .int p2]) ++ List.replicate (3 - (lg_sl ([.ref (ad 0), .int p1, .int p2])).length) Slot.unset).toArray = ls at hl ⊢
  have hl : lv_has ls 3 [(0, .ref (ad 0)), (1, .int p1), (2, .int p2)] := hl
  refine lv_iload_n hx hb dX1_unit_0 rfl (lv_at hl 1 rfl) ?_
  refine lv_bipush (v := 9) hx hb dX1_unit_1 (by decide) ?_
  refine va_calli (va_runS (As := [.int p1, .int 9]) (rest := []) ⟨hx, hb, hml, hown, htb⟩ (kt_X1_isWithin l s.heap.size p1 9) (cwS 2 htb (us_gS mw_149 mw_150 mw_32 mw_151) rfl rfl rfl (by decide +kernel) ⟨Nat.le_of_ble_eq_true rfl, Nat.le_of_ble_eq_true rfl⟩) ⟨us_blind0, fun U hU _ => ⟨rfl, congrArg Array.size hU⟩⟩ rfl rfl hl.1 rfl (lv_room (Nat.le_of_ble_eq_true rfl)) dX1_unit_3 ⟨Nat.le_of_ble_eq_true rfl, Nat.le_of_ble_eq_true rfl⟩) hS (fun q h1 h2 => absurd h2 (Nat.not_le.mpr h1)) (fun q h => hA q (Nat.le_trans hS.1 h)) (fun r_2 _ t_3 H_1 locs ht hvm hw hB hz1 hk1 hS => ?_)
  obtain ⟨-, hw⟩ := hw
  subst hw
  have hP := us_mono hP (fun q h => hk1 q h (Nat.not_le.mpr h))
  refine lv_if_ne (tgt := 19) hx hb dX1_unit_6 (by decide) (fun c_4 => ?_) (fun c_4 => ?_)
  · refine lv_iload_n hx hb dX1_unit_19 rfl (lv_at hl 2 rfl) ?_
    refine lv_bipush (v := 9) hx hb dX1_unit_20 (by decide) ?_
    refine va_calli (va_runS (As := [.int p2, .int 9]) (rest := []) ⟨hx, hb, hml, hown, htb⟩ (kt_X1_isWithin l H_1.size p2 9) (cwS 2 htb (us_gS mw_149 mw_150 mw_32 mw_151) rfl rfl rfl (by decide +kernel) ⟨Nat.le_of_ble_eq_true rfl, Nat.le_of_ble_eq_true rfl⟩) ⟨us_blind0, fun U hU _ => ⟨rfl, congrArg Array.size hU⟩⟩ rfl rfl hl.1 rfl (lv_room (Nat.le_of_ble_eq_true rfl)) dX1_unit_22 ⟨Nat.le_of_ble_eq_true rfl, Nat.le_of_ble_eq_true rfl⟩) hS (fun q h1 h2 => absurd h2 (Nat.not_le.mpr h1)) (fun q h => hA q (Nat.le_trans hS.1 h)) (fun r_6 _ t_7 H_5 locs ht hvm hw hB hz1 hk1 hS => ?_)
    obtain ⟨-, hw⟩ := hw
    subst hw
    have hP := us_mono hP (fun q h => hk1 q h (Nat.not_le.mpr h))
    refine lv_if_ne (tgt := 38) hx hb dX1_unit_25 (by decide) (fun c_8 => ?_) (fun c_8 => ?_)
    · refine lv_aload_n hx hb dX1_unit_38 rfl (lv_at hl 0 rfl) ?_
      refine va_get (D := (dC, dI)) (ci := 1) (v := .int (nI nu)) (C := RX1) (T := TX1) (N := 10) hx hb htb us_inX1 hown hK hP 0 rfl rfl 1 (by decide) (htb _ mw_110) (fun _ h9 => h9) rfl dX1_unit_39 ?_
      refine lv_bipush (v := 30) hx hb dX1_unit_42 (by decide) ?_
      refine lv_icmp_lt (tgt := 57) hx hb dX1_unit_44 (by decide) (fun c_9 => ?_) (fun c_9 => ?_)
      · have hn3 : nu < 30 := by
          rcases Nat.lt_or_ge nu 30 with h | h
          · exact h
          · exact absurd c_9 (nI_nlt (a := nu) (b := 30) h (by omega))
        refine lv_aload_n hx hb dX1_unit_57 rfl (lv_at hl 0 rfl) ?_
        refine va_get (D := (dC, dI)) (ci := 1) (v := .ref (ad 1)) (C := RX1) (T := TX1) (N := 10) hx hb htb us_inX1 hown hK hP 0 rfl rfl 0 (by decide) (htb _ mw_109) (fun _ h9 => h9) rfl dX1_unit_58 ?_
        refine lv_aload_n hx hb dX1_unit_61 rfl (lv_at hl 0 rfl) ?_
        refine va_get (D := (dC, dI)) (ci := 1) (v := .int (nI nu)) (C := RX1) (T := TX1) (N := 10) hx hb htb us_inX1 hown hK hP 0 rfl rfl 1 (by decide) (htb _ mw_110) (fun _ h9 => h9) rfl dX1_unit_62 ?_
        refine us_aald hx hb hK hP 1 0 rfl rfl hn3 (by decide) rfl dX1_unit_65 ?_
        refine lv_iload_n hx hb dX1_unit_66 rfl (lv_at hl 1 rfl) ?_
        refine lv_iload_n hx hb dX1_unit_67 rfl (lv_at hl 2 rfl) ?_
        refine va_callv (va_runVN (C := RX0) (As := [.int p1, .int p2]) (rest := []) ⟨hx, hb, hml, hown, htb⟩ (kt_X0_settle l dC dI (pa nu) H_5.size (U nu) p1 p2) ⟨va_cnB 2 htb (us_g0 mw_240) rfl rfl rfl (hE.2.2.1 (.methodLinkNest RX1 57 yX0_settle "UnitStates") (by decide +kernel)) (htb _ mw_33) (by decide +kernel) ⟨Nat.le_of_ble_eq_true rfl, Nat.le_of_ble_eq_true rfl⟩, htb _ mw_239, htb _ mw_1⟩ ⟨us_Pu_blind, va_recv hK hP (ci := 0) (q0 := 8 + nu) rfl (us_W_get hn3), fun U hU hW => ⟨rfl, us_Pu_at (us_W_sub hP hn3) hK hU hW⟩⟩ rfl rfl hl.1 rfl (lv_room (Nat.le_of_ble_eq_true rfl)) dX1_unit_68 ⟨Nat.le_of_ble_eq_true rfl, Nat.le_of_ble_eq_true rfl⟩) hS (fun q _ h => (us_Au_le (Or.inl (us_ads_pa hn3)) hS hA) q h) (us_Au_le (Or.inl (us_ads_pa hn3)) hS hA) (fun _ t_12 H_10 locs ht hvm hw hB hz1 hk1 hS => ?_)
        have hP := us_W_put hn3 hP hD hk1 (us_Bu_use ht hB)
        have hD : va_D (us_AA (us_ads ad pa) s.heap.size) (us_W ad cU cI pa nu nm nk F (va_up U nu (sp_settle (U nu) p1 p2))) := us_D_of (by rw [us_W_adr, us_W_adr]) hD
        refine lv_aload_n hx hb dX1_unit_71 rfl (lv_at hl 0 rfl) ?_
        refine lv_dup hx hb dX1_unit_72 rfl ?_
        refine va_get (D := (dC, dI)) (ci := 1) (v := .int (nI nu)) (C := RX1) (T := TX1) (N := 10) hx hb htb us_inX1 hown hK hP 0 rfl rfl 1 (by decide) (htb _ mw_110) (fun _ h9 => h9) rfl dX1_unit_73 ?_
        refine lv_dup_x1 hx hb dX1_unit_76 rfl rfl ?_
        refine lv_iconst (v := 1) hx hb dX1_unit_77 (by decide) ?_
        refine lv_iadd hx hb dX1_unit_78 ?_
        rw [nI_1]
        refine va_put (D := (dC, dI)) (ci := 1) (v := .int (nI (nu + 1))) (ty := .int) (C := RX1) (T := TX1) (N := 10) hx hb htb us_inX1 tyX1 tyX1_ok nmX1 hown hK hP hD hS 0 rfl rfl 1 (by decide) (htb _ mw_110) (fun _ h9 => h9) rfl (by decide +kernel) rfl rfl (Nat.le_of_ble_eq_true rfl) dX1_unit_79 (fun H_13 locs hP hD hS => ?_)
        have hP : va_P (dC, dI) vwCl (us_W ad cU cI pa (nu + 1) nm nk F (va_up U nu (sp_settle (U nu) p1 p2))) H_13 := hP
        have hD : va_D (us_AA (us_ads ad pa) s.heap.size) (us_W ad cU cI pa (nu + 1) nm nk F (va_up U nu (sp_settle (U nu) p1 p2))) := hD
        have hk9 : sp_unitK p1 p2 nu = 0 := by first | (simp only [sp_unitK, eq_false c_4, eq_false c_8, eq_true c_9, if_true, if_false]; done) | (simp [sp_unitK, c_4, c_8, c_9]; done)
        have hsp : (nI nu) = nI nu := by first | (simp only [sp_unitK, eq_false c_4, eq_false c_8, eq_true c_9, if_true, if_false]; done) | (simp [sp_unitK, c_4, c_8, c_9]; done)
        exact vx_ret (W.widen (k := 1) (n := 6) (Nat.le_of_ble_eq_true rfl) (Nat.le_of_ble_eq_true rfl) (W.iret (v := (nI nu)) hx hb hr (fun t ht hW => ⟨⟨(nI nu), (), rfl, ⟨hk9, hsp⟩, us_Bx_of ht hP rfl rfl rfl⟩, hS.F ht⟩) hS.2.2 dX1_unit_82))
      · obtain ⟨sa_14, hst_sa_14⟩ := hE.2.2.2.2 (RX1, 54, "no room for a unit") (by decide +kernel)
        have hk9 : sp_unitK p1 p2 nu = 3 := by first | (simp only [sp_unitK, eq_false c_4, eq_false c_8, eq_false c_9, if_true, if_false]; done) | (simp [sp_unitK, c_4, c_8, c_9]; done)
        exact vx_throwS (own := RX1) (cls := "java/lang/UnsupportedOperationException") (names := ["java/lang/RuntimeException", "java/lang/Exception"]) hx hb hl9 hown (by decide +kernel) (by decide +kernel) (htb _ mw_221) (htb _ mw_39) hst_sa_14 (vx_hat (L := vx_atS RX1 56 "java/lang/UnsupportedOperationException" ["java/lang/RuntimeException", "java/lang/Exception"]) (B := [.castable "java/lang/UnsupportedOperationException" "java/lang/UnsupportedOperationException", .declares ⟨"java/lang/RuntimeException", "<init>", "(Ljava/lang/String;)V"⟩, .declares ⟨"java/lang/Exception", "<init>", "(Ljava/lang/String;)V"⟩, .declares ⟨"java/lang/Throwable", "<init>", "(Ljava/lang/String;)V"⟩]) (fun w hw => htb w (us_at56 w hw)) us_ab56 (vx_c (va_Nw.use rfl (hE.2.2.1 _ (by decide +kernel))) (vx_c (va_Nw.use rfl (hE.2.2.1 _ (by decide +kernel))) (vx_c (va_Nw.use rfl (hE.2.2.1 _ (by decide +kernel))) (vx_c (va_Nw.use rfl (hE.2.2.1 _ (by decide +kernel))) (vx_n)))))) us_ag56 hE.1 hE.2.1 hS (hl.1.trans hml.symm) dX1_unit_47 dX1_unit_50 dX1_unit_51 dX1_unit_53 dX1_unit_56 (fun x hx => (hte x hx).elim) (Nat.le_of_ble_eq_true rfl) (Nat.le_of_ble_eq_true rfl) (Nat.le_of_ble_eq_true rfl) (Nat.le_of_ble_eq_true rfl) hlocks (fun t ha hsz hk => ⟨(), (by rw [hk9]; decide), ⟨(by rw [hk9]; rfl), us_Bx_of rfl (us_mono hP (fun q hq => hk q hq)) rfl rfl rfl⟩, Nat.le_trans hS.1 hsz, fun q h1 h2 => (hk q (Nat.lt_of_lt_of_le h1 hS.1)).trans (hS.2.1 q h1 h2)⟩) hS.2.2 (Nat.le_of_ble_eq_true rfl) (Nat.le_of_ble_eq_true rfl)
    · obtain ⟨sa_15, hst_sa_15⟩ := hE.2.2.2.2 (RX1, 46, "no such crew") (by decide +kernel)
      have hk9 : sp_unitK p1 p2 nu = 2 := by first | (simp only [sp_unitK, eq_false c_4, eq_true c_8, if_true, if_false]; done) | (simp [sp_unitK, c_4, c_8]; done)
      exact vx_throwS (own := RX1) (cls := "java/lang/IndexOutOfBoundsException") (names := ["java/lang/RuntimeException", "java/lang/Exception"]) hx hb hl9 hown (by decide +kernel) (by decide +kernel) (htb _ mw_152) (htb _ mw_38) hst_sa_15 (vx_hat (L := vx_atS RX1 43 "java/lang/IndexOutOfBoundsException" ["java/lang/RuntimeException", "java/lang/Exception"]) (B := [.castable "java/lang/IndexOutOfBoundsException" "java/lang/IndexOutOfBoundsException", .declares ⟨"java/lang/RuntimeException", "<init>", "(Ljava/lang/String;)V"⟩, .declares ⟨"java/lang/Exception", "<init>", "(Ljava/lang/String;)V"⟩, .declares ⟨"java/lang/Throwable", "<init>", "(Ljava/lang/String;)V"⟩]) (fun w hw => htb w (us_at43 w hw)) us_ab43 (vx_c (va_Nw.use rfl (hE.2.2.1 _ (by decide +kernel))) (vx_c (va_Nw.use rfl (hE.2.2.1 _ (by decide +kernel))) (vx_c (va_Nw.use rfl (hE.2.2.1 _ (by decide +kernel))) (vx_c (va_Nw.use rfl (hE.2.2.1 _ (by decide +kernel))) (vx_n)))))) us_ag43 hE.1 hE.2.1 hS (hl.1.trans hml.symm) dX1_unit_28 dX1_unit_31 dX1_unit_32 dX1_unit_34 dX1_unit_37 (fun x hx => (hte x hx).elim) (Nat.le_of_ble_eq_true rfl) (Nat.le_of_ble_eq_true rfl) (Nat.le_of_ble_eq_true rfl) (Nat.le_of_ble_eq_true rfl) hlocks (fun t ha hsz hk => ⟨(), (by rw [hk9]; decide), ⟨(by rw [hk9]; rfl), us_Bx_of rfl (us_mono hP (fun q hq => hk q hq)) rfl rfl rfl⟩, Nat.le_trans hS.1 hsz, fun q h1 h2 => (hk q (Nat.lt_of_lt_of_le h1 hS.1)).trans (hS.2.1 q h1 h2)⟩) hS.2.2 (Nat.le_of_ble_eq_true rfl) (Nat.le_of_ble_eq_true rfl)
  · obtain ⟨sa_16, hst_sa_16⟩ := hE.2.2.2.2 (RX1, 41, "no such station") (by decide +kernel)
    have hk9 : sp_unitK p1 p2 nu = 2 := by first | (simp only [sp_unitK, eq_true c_4, if_true, if_false]; done) | (simp [sp_unitK, c_4]; done)
    exact vx_throwS (own := RX1) (cls := "java/lang/IndexOutOfBoundsException") (names := ["java/lang/RuntimeException", "java/lang/Exception"]) hx hb hl9 hown (by decide +kernel) (by decide +kernel) (htb _ mw_152) (htb _ mw_38) hst_sa_16 (vx_hat (L := vx_atS RX1 43 "java/lang/IndexOutOfBoundsException" ["java/lang/RuntimeException", "java/lang/Exception"]) (B := [.castable "java/lang/IndexOutOfBoundsException" "java/lang/IndexOutOfBoundsException", .declares ⟨"java/lang/RuntimeException", "<init>", "(Ljava/lang/String;)V"⟩, .declares ⟨"java/lang/Exception", "<init>", "(Ljava/lang/String;)V"⟩, .declares ⟨"java/lang/Throwable", "<init>", "(Ljava/lang/String;)V"⟩]) (fun w hw => htb w (us_at43 w hw)) us_ab43 (vx_c (va_Nw.use rfl (hE.2.2.1 _ (by decide +kernel))) (vx_c (va_Nw.use rfl (hE.2.2.1 _ (by decide +kernel))) (vx_c (va_Nw.use rfl (hE.2.2.1 _ (by decide +kernel))) (vx_c (va_Nw.use rfl (hE.2.2.1 _ (by decide +kernel))) (vx_n)))))) us_ag43 hE.1 hE.2.1 hS (hl.1.trans hml.symm) dX1_unit_9 dX1_unit_12 dX1_unit_13 dX1_unit_15 dX1_unit_18 (fun x hx => (hte x hx).elim) (Nat.le_of_ble_eq_true rfl) (Nat.le_of_ble_eq_true rfl) (Nat.le_of_ble_eq_true rfl) (Nat.le_of_ble_eq_true rfl) hlocks (fun t ha hsz hk => ⟨(), (by rw [hk9]; decide), ⟨(by rw [hk9]; rfl), us_Bx_of rfl (us_mono hP (fun q hq => hk q hq)) rfl rfl rfl⟩, Nat.le_trans hS.1 hsz, fun q h1 h2 => (hk q (Nat.lt_of_lt_of_le h1 hS.1)).trans (hS.2.1 q h1 h2)⟩) hS.2.2 (Nat.le_of_ble_eq_true rfl) (Nat.le_of_ble_eq_true rfl)
set_option maxHeartbeats 8000000 in
set_option maxRecDepth 100000 in
theorem kt_X1_message (l : Launch) (hl9 : l.stackTraces = false) (dC : Nat → ClassId) (dI : Nat → Nat → Nat) (ad : Nat → Nat) (cU cI : ClassId) (pa : Nat → Nat) (sz : Nat) (nu nm : Nat) (nk : Int32) (F U : Nat → Nat → Int32) (p1 : Int32) (p2 : Int32) (p3 : Int32) (p4 : Int32) (hnu : nu ≤ 30) (hnm : nm ≤ 200) (hO : ∀ p, p < nm → ∃ n, n < nm ∧ F 5 p = nI n) (hV : ∀ n, n < nm → ∃ j, j < nu ∧ F 0 n = nI j) : vx_Met l yX1_message wsX1_message ({ frames := 7, cells := 2, slots := 12, locals := 111 }) (va_Pc [.ref (ad 0), .int p1, .int p2, .int p3, .int p4] (us_Px dC dI ad cU cI pa nu nm nk F U (us_AA (us_ads ad pa) sz) sz)) (va_Qi (fun r (_ : Unit) => sp_msgK p1 p2 p3 p4 nu nm = 0 ∧ r = nI nm) (fun _ t => us_Bx dC dI ad cU cI pa nu (nm + 1) nk (sp_msgF nm F p1 p2 p3 p4) U t) (us_AA (us_ads ad pa) sz)) (vx_X (fun _ : Unit => ¬ sp_msgK p1 p2 p3 p4 nu nm = 0) (fun E _ t => E = us_en (sp_msgK p1 p2 p3 p4 nu nm) ∧ us_Bx dC dI ad cU cI pa nu nm (if sp_isU p1 nu = 0 then nk + 1 else nk) F U t) (us_AA (us_ads ad pa) sz)) 2 12 (us_AA (us_ads ad pa) sz) := by
  refine vx_ofW (cc := cX1_message) (maxL := 5) (ret := (some .int)) (by decide) rfl ?_
  intro p e s m args below meth c s₁ B hml hte hv
  obtain ⟨rfl, hsz, hP, hK, hD, hE⟩ := hv
  have hx := B.exec
  have hb := B.bytes
  have hr := B.returns
  have htb := us_htb (atoms_spec (ws := wsX1_message) B.pre)
  have hown : s.vm.findClass RX1 = some m.cls := findClass_of_methodNamed B.named
  have hlocks := B.notSynchronized
  subst hsz
  have hA : ∀ q : Nat, s.heap.size ≤ q → (us_AA (us_ads ad pa) s.heap.size) q := fun q h => Or.inr h
  have hS : va_S (us_AA (us_ads ad pa) s.heap.size) s.heap s.heap [] := va_S.rf
  have hP : va_P (dC, dI) vwCl (us_W ad cU cI pa nu nm nk F U) s.heap := hP
  have hD : va_D (us_AA (us_ads ad pa) s.heap.size) (us_W ad cU cI pa nu nm nk F U) := us_D_aa hD
  have hl := lv_entry ([.ref (ad 0), .int p1, .int p2, .int p3, .int p4]) (n := 5) (Nat.le_of_ble_eq_true rfl)
  rw [lg_entry_eq]
  generalize (lg_sl ([.ref (ad 0), .int p1, .int p2, .int p3, .int p4]) ++ List.replicate (5 - (lg_sl ([.ref (ad 0), .int p1, .int p2, .int p3, .int p4])).length) Slot.unset).toArray = ls at hl ⊢
  have hl : lv_has ls 5 [(0, .ref (ad 0)), (1, .int p1), (2, .int p2), (3, .int p3), (4, .int p4)] := hl
  refine lv_aload_n hx hb dX1_message_0 rfl (lv_at hl 0 rfl) ?_
  refine lv_iload_n hx hb dX1_message_1 rfl (lv_at hl 1 rfl) ?_
  refine va_calli (va_runV (As := [.int p1]) (rest := []) ⟨hx, hb, hml, hown, htb⟩ (kt_X1_isUnit l dC dI ad cU cI pa s.heap.size nu nm nk F U p1) (cwV 1 htb (us_gV mw_249 mw_251 mw_2 mw_32 mw_252) rfl rfl rfl (by decide +kernel) ⟨Nat.le_of_ble_eq_true rfl, Nat.le_of_ble_eq_true rfl⟩) ⟨us_Px_blind, va_recv hK hP (ci := 1) (q0 := 0) rfl rfl, fun U hU hW => ⟨rfl, us_Px_at hP hK hD hE hS (fun q h => hA q (Nat.le_trans hS.1 h)) hU hW⟩⟩ rfl rfl hl.1 rfl (lv_room (Nat.le_of_ble_eq_true rfl)) dX1_message_2 ⟨Nat.le_of_ble_eq_true rfl, Nat.le_of_ble_eq_true rfl⟩) hS (fun q h1 h2 => absurd h2 (Nat.not_le.mpr h1)) (fun q h => hA q (Nat.le_trans hS.1 h)) (fun r_2 _ t_3 H_1 locs ht hvm hw hB hz1 hk1 hS => ?_)
  obtain ⟨-, hw⟩ := hw
  subst hw
  have hP := us_mono hP (fun q h => hk1 q h (Nat.not_le.mpr h))
  refine lv_if_ne (tgt := 28) hx hb dX1_message_5 (by decide) (fun c_4 => ?_) (fun c_4 => ?_)
  · refine lv_iload_n hx hb dX1_message_28 rfl (lv_at hl 3 rfl) ?_
    refine lv_bipush (v := 15) hx hb dX1_message_29 (by decide) ?_
    refine va_calli (va_runS (As := [.int p3, .int 15]) (rest := []) ⟨hx, hb, hml, hown, htb⟩ (kt_X1_isWithin l H_1.size p3 15) (cwS 2 htb (us_gS mw_149 mw_150 mw_32 mw_151) rfl rfl rfl (by decide +kernel) ⟨Nat.le_of_ble_eq_true rfl, Nat.le_of_ble_eq_true rfl⟩) ⟨us_blind0, fun U hU _ => ⟨rfl, congrArg Array.size hU⟩⟩ rfl rfl hl.1 rfl (lv_room (Nat.le_of_ble_eq_true rfl)) dX1_message_31 ⟨Nat.le_of_ble_eq_true rfl, Nat.le_of_ble_eq_true rfl⟩) hS (fun q h1 h2 => absurd h2 (Nat.not_le.mpr h1)) (fun q h => hA q (Nat.le_trans hS.1 h)) (fun r_6 _ t_7 H_5 locs ht hvm hw hB hz1 hk1 hS => ?_)
    obtain ⟨-, hw⟩ := hw
    subst hw
    have hP := us_mono hP (fun q h => hk1 q h (Nat.not_le.mpr h))
    refine lv_if_ne (tgt := 47) hx hb dX1_message_34 (by decide) (fun c_8 => ?_) (fun c_8 => ?_)
    · refine lv_iload_n hx hb dX1_message_47 rfl (lv_at hl 2 rfl) ?_
      refine vx_callv (vx_runS (As := [.int p2]) (rest := []) ⟨hx, hb, hml, hown, htb⟩ (kt_X1_refuseOutsideMinutes l hl9 H_5.size p2) (cwS 1 htb (us_gS mw_270 mw_271 mw_32 mw_272) rfl rfl rfl (by decide +kernel) ⟨Nat.le_of_ble_eq_true rfl, Nat.le_of_ble_eq_true rfl⟩) ⟨us_P0_blind, fun U hU hW => ⟨rfl, us_P0_at hE hS (fun q h => hA q (Nat.le_trans hS.1 h)) hU hW⟩⟩ rfl rfl hl.1 rfl (lv_room (Nat.le_of_ble_eq_true rfl)) dX1_message_48 ⟨Nat.le_of_ble_eq_true rfl, Nat.le_of_ble_eq_true rfl⟩) hS (fun q h1 h2 => absurd h2 (Nat.not_le.mpr h1)) (fun q h => hA q (Nat.le_trans hS.1 h)) (fun q h1 h2 => absurd h2 (Nat.not_le.mpr h1)) (fun E_t_11 ce_t_11 q_t_11 _ t_11 H_9 locs ht hvm hw hB hz1 hk1 hS hce hcv hcl => ?_) (fun _ t_11 H_9 locs ht hvm hw hB hz1 hk1 hS => ?_)
      · have hkk := hw
        have hx9 : sp_in p2 99999 = 0 := by refine Decidable.byContradiction (fun h9 => hkk ?_); simp only [sp_minK, eq_false h9, if_false]
        have hE9 := hB
        have hP := us_mono hP (fun q h => hk1 q h (Nat.not_le.mpr h))
        have hk9 : sp_msgK p1 p2 p3 p4 nu nm = sp_minK p2 := by first | (simp only [sp_msgK, sp_minK, eq_false c_4, eq_false c_8, eq_true hx9, if_true, if_false]; done) | (simp [sp_msgK, sp_minK, c_4, c_8, hx9]; done)
        exact vx_out (E := E_t_11) (fun x hx => (hte x hx).elim) hlocks hce hcv hcl (fun t9 ht9 ha => ⟨(), (by rw [hk9]; exact hkk), ⟨(by rw [hk9]; exact hE9), us_Bx_of ht9 hP (by rw [if_neg c_4]) rfl rfl⟩, hS.F ht9⟩) hS.2.2 (Nat.le_of_ble_eq_true rfl) (Nat.le_of_ble_eq_true rfl)
      have hk0 := hw
      have hk_12 : sp_minK p2 = 0 := hk0
      have hf_13 : ¬ sp_in p2 99999 = 0 := by intro h9; simp [sp_minK, h9] at hk_12
      have hP := us_mono hP (fun q h => hk1 q h (Nat.not_le.mpr h))
      refine lv_iload_n hx hb dX1_message_51 rfl (lv_at hl 3 rfl) ?_
      refine lv_iload hx hb dX1_message_52 (lv_at hl 4 rfl) ?_
      refine va_calli (va_runS (As := [.int p3, .int p4]) (rest := []) ⟨hx, hb, hml, hown, htb⟩ (kt_X1_isValueOf l H_9.size p3 p4) (cwS 2 htb (us_gS mw_275 mw_276 mw_32 mw_277) rfl rfl rfl (by decide +kernel) ⟨Nat.le_of_ble_eq_true rfl, Nat.le_of_ble_eq_true rfl⟩) ⟨us_blind0, fun U hU _ => ⟨rfl, congrArg Array.size hU⟩⟩ rfl rfl hl.1 rfl (lv_room (Nat.le_of_ble_eq_true rfl)) dX1_message_54 ⟨Nat.le_of_ble_eq_true rfl, Nat.le_of_ble_eq_true rfl⟩) hS (fun q h1 h2 => absurd h2 (Nat.not_le.mpr h1)) (fun q h => hA q (Nat.le_trans hS.1 h)) (fun r_15 _ t_16 H_14 locs ht hvm hw hB hz1 hk1 hS => ?_)
      obtain ⟨-, hw⟩ := hw
      subst hw
      have hP := us_mono hP (fun q h => hk1 q h (Nat.not_le.mpr h))
      refine lv_if_ne (tgt := 70) hx hb dX1_message_57 (by decide) (fun c_17 => ?_) (fun c_17 => ?_)
      · refine lv_aload_n hx hb dX1_message_70 rfl (lv_at hl 0 rfl) ?_
        refine va_get (D := (dC, dI)) (ci := 1) (v := .int (nI nm)) (C := RX1) (T := TX1) (N := 10) hx hb htb us_inX1 hown hK hP 0 rfl rfl 8 (by decide) (htb _ mw_117) (fun _ h9 => h9) rfl dX1_message_71 ?_
        refine lv_sipush (v := 200) hx hb dX1_message_74 (by decide) ?_
        refine lv_icmp_lt (tgt := 90) hx hb dX1_message_77 (by decide) (fun c_18 => ?_) (fun c_18 => ?_)
        · have hnm2 : nm < 200 := by
            rcases Nat.lt_or_ge nm 200 with h | h
            · exact h
            · exact absurd c_18 (nI_nlt (a := nm) (b := 200) h (by omega))
          have hO2 : ∀ q, q < nm → ∃ n, n < 200 ∧ F 5 q = nI n := fun q hq => by
            obtain ⟨n, h1, h2⟩ := hO q hq
            exact ⟨n, by omega, h2⟩
          refine lv_aload_n hx hb dX1_message_90 rfl (lv_at hl 0 rfl) ?_
          refine va_get (D := (dC, dI)) (ci := 1) (v := .ref (ad 2)) (C := RX1) (T := TX1) (N := 10) hx hb htb us_inX1 hown hK hP 0 rfl rfl 2 (by decide) (htb _ mw_111) (fun _ h9 => h9) rfl dX1_message_91 ?_
          refine lv_aload_n hx hb dX1_message_94 rfl (lv_at hl 0 rfl) ?_
          refine va_get (D := (dC, dI)) (ci := 1) (v := .int (nI nm)) (C := RX1) (T := TX1) (N := 10) hx hb htb us_inX1 hown hK hP 0 rfl rfl 8 (by decide) (htb _ mw_117) (fun _ h9 => h9) rfl dX1_message_95 ?_
          refine lv_iload_n hx hb dX1_message_98 rfl (lv_at hl 1 rfl) ?_
          refine us_iast (f := (F 0)) hx hb hK hP hD hS 2 1 rfl rfl hnm2 (by decide) dX1_message_99 (fun H_19 locs hP hD hS => ?_)
          have hP : va_P (dC, dI) vwCl (us_W ad cU cI pa nu nm nk (va_up F 0 (upd (F 0) nm p1)) U) H_19 := hP
          have hD : va_D (us_AA (us_ads ad pa) s.heap.size) (us_W ad cU cI pa nu nm nk (va_up F 0 (upd (F 0) nm p1)) U) := hD
          refine lv_aload_n hx hb dX1_message_100 rfl (lv_at hl 0 rfl) ?_
          refine va_get (D := (dC, dI)) (ci := 1) (v := .ref (ad 3)) (C := RX1) (T := TX1) (N := 10) hx hb htb us_inX1 hown hK hP 0 rfl rfl 3 (by decide) (htb _ mw_112) (fun _ h9 => h9) rfl dX1_message_101 ?_
          refine lv_aload_n hx hb dX1_message_104 rfl (lv_at hl 0 rfl) ?_
          refine va_get (D := (dC, dI)) (ci := 1) (v := .int (nI nm)) (C := RX1) (T := TX1) (N := 10) hx hb htb us_inX1 hown hK hP 0 rfl rfl 8 (by decide) (htb _ mw_117) (fun _ h9 => h9) rfl dX1_message_105 ?_
          refine lv_iload_n hx hb dX1_message_108 rfl (lv_at hl 2 rfl) ?_
          refine us_iast (f := (F 1)) hx hb hK hP hD hS 3 1 rfl rfl hnm2 (by decide) dX1_message_109 (fun H_20 locs hP hD hS => ?_)
          have hP : va_P (dC, dI) vwCl (us_W ad cU cI pa nu nm nk (va_up (va_up F 0 (upd (F 0) nm p1)) 1 (upd (F 1) nm p2)) U) H_20 := hP
          have hD : va_D (us_AA (us_ads ad pa) s.heap.size) (us_W ad cU cI pa nu nm nk (va_up (va_up F 0 (upd (F 0) nm p1)) 1 (upd (F 1) nm p2)) U) := hD
          refine lv_aload_n hx hb dX1_message_110 rfl (lv_at hl 0 rfl) ?_
          refine va_get (D := (dC, dI)) (ci := 1) (v := .ref (ad 4)) (C := RX1) (T := TX1) (N := 10) hx hb htb us_inX1 hown hK hP 0 rfl rfl 4 (by decide) (htb _ mw_113) (fun _ h9 => h9) rfl dX1_message_111 ?_
          refine lv_aload_n hx hb dX1_message_114 rfl (lv_at hl 0 rfl) ?_
          refine va_get (D := (dC, dI)) (ci := 1) (v := .int (nI nm)) (C := RX1) (T := TX1) (N := 10) hx hb htb us_inX1 hown hK hP 0 rfl rfl 8 (by decide) (htb _ mw_117) (fun _ h9 => h9) rfl dX1_message_115 ?_
          refine lv_iload_n hx hb dX1_message_118 rfl (lv_at hl 3 rfl) ?_
          refine us_iast (f := (F 2)) hx hb hK hP hD hS 4 1 rfl rfl hnm2 (by decide) dX1_message_119 (fun H_21 locs hP hD hS => ?_)
          have hP : va_P (dC, dI) vwCl (us_W ad cU cI pa nu nm nk (va_up (va_up (va_up F 0 (upd (F 0) nm p1)) 1 (upd (F 1) nm p2)) 2 (upd (F 2) nm p3)) U) H_21 := hP
          have hD : va_D (us_AA (us_ads ad pa) s.heap.size) (us_W ad cU cI pa nu nm nk (va_up (va_up (va_up F 0 (upd (F 0) nm p1)) 1 (upd (F 1) nm p2)) 2 (upd (F 2) nm p3)) U) := hD
          refine lv_aload_n hx hb dX1_message_120 rfl (lv_at hl 0 rfl) ?_
          refine va_get (D := (dC, dI)) (ci := 1) (v := .ref (ad 5)) (C := RX1) (T := TX1) (N := 10) hx hb htb us_inX1 hown hK hP 0 rfl rfl 5 (by decide) (htb _ mw_114) (fun _ h9 => h9) rfl dX1_message_121 ?_
          refine lv_aload_n hx hb dX1_message_124 rfl (lv_at hl 0 rfl) ?_
          refine va_get (D := (dC, dI)) (ci := 1) (v := .int (nI nm)) (C := RX1) (T := TX1) (N := 10) hx hb htb us_inX1 hown hK hP 0 rfl rfl 8 (by decide) (htb _ mw_117) (fun _ h9 => h9) rfl dX1_message_125 ?_
          refine lv_iload hx hb dX1_message_128 (lv_at hl 4 rfl) ?_
          refine us_iast (f := (F 3)) hx hb hK hP hD hS 5 1 rfl rfl hnm2 (by decide) dX1_message_130 (fun H_22 locs hP hD hS => ?_)
          have hP : va_P (dC, dI) vwCl (us_W ad cU cI pa nu nm nk (va_up (va_up (va_up (va_up F 0 (upd (F 0) nm p1)) 1 (upd (F 1) nm p2)) 2 (upd (F 2) nm p3)) 3 (upd (F 3) nm p4)) U) H_22 := hP
          have hD : va_D (us_AA (us_ads ad pa) s.heap.size) (us_W ad cU cI pa nu nm nk (va_up (va_up (va_up (va_up F 0 (upd (F 0) nm p1)) 1 (upd (F 1) nm p2)) 2 (upd (F 2) nm p3)) 3 (upd (F 3) nm p4)) U) := hD
          refine lv_aload_n hx hb dX1_message_131 rfl (lv_at hl 0 rfl) ?_
          refine lv_aload_n hx hb dX1_message_132 rfl (lv_at hl 0 rfl) ?_
          refine va_get (D := (dC, dI)) (ci := 1) (v := .int (nI nm)) (C := RX1) (T := TX1) (N := 10) hx hb htb us_inX1 hown hK hP 0 rfl rfl 8 (by decide) (htb _ mw_117) (fun _ h9 => h9) rfl dX1_message_133 ?_
          refine lv_iload_n hx hb dX1_message_136 rfl (lv_at hl 2 rfl) ?_
          refine va_callv (va_runV (As := [.int (nI nm), .int p2]) (rest := []) ⟨hx, hb, hml, hown, htb⟩ (kt_X1_putInOrder l dC dI ad cU cI pa H_22.size nu nm nk (va_up (va_up (va_up (va_up F 0 (upd (F 0) nm p1)) 1 (upd (F 1) nm p2)) 2 (upd (F 2) nm p3)) 3 (upd (F 3) nm p4)) U (nI nm) p2 hnm2 hO2) (cwV 2 htb (us_gV mw_281 mw_283 mw_3 mw_32 mw_284) rfl rfl rfl (by decide +kernel) ⟨Nat.le_of_ble_eq_true rfl, Nat.le_of_ble_eq_true rfl⟩) ⟨us_Px_blind, va_recv hK hP (ci := 1) (q0 := 0) rfl rfl, fun U hU hW => ⟨rfl, us_Px_at hP hK hD hE hS (us_AA_le hS) hU hW⟩⟩ rfl rfl hl.1 rfl (lv_room (Nat.le_of_ble_eq_true rfl)) dX1_message_137 ⟨Nat.le_of_ble_eq_true rfl, Nat.le_of_ble_eq_true rfl⟩) hS (fun q _ h => us_AA_le hS q h) (us_AA_le hS) (fun _ t_25 H_23 locs ht hvm hw hB hz1 hk1 hS => ?_)
          have hP := us_Bx_use ht hB
          have hD : va_D (us_AA (us_ads ad pa) s.heap.size) (us_W ad cU cI pa nu nm nk (va_up (va_up (va_up (va_up (va_up F 0 (upd (F 0) nm p1)) 1 (upd (F 1) nm p2)) 2 (upd (F 2) nm p3)) 3 (upd (F 3) nm p4)) 5 (sp_ins ((va_up (va_up (va_up (va_up F 0 (upd (F 0) nm p1)) 1 (upd (F 1) nm p2)) 2 (upd (F 2) nm p3)) 3 (upd (F 3) nm p4)) 1) (nI nm) p2 nm ((va_up (va_up (va_up (va_up F 0 (upd (F 0) nm p1)) 1 (upd (F 1) nm p2)) 2 (upd (F 2) nm p3)) 3 (upd (F 3) nm p4)) 5))) U) := us_D_of (by rw [us_W_adr, us_W_adr]) hD
          have hP : va_P (dC, dI) vwCl (us_W ad cU cI pa nu nm nk (va_up (va_up (va_up (va_up (va_up F 0 (upd (F 0) nm p1)) 1 (upd (F 1) nm p2)) 2 (upd (F 2) nm p3)) 3 (upd (F 3) nm p4)) 5 (sp_ins ((va_up (va_up (va_up (va_up F 0 (upd (F 0) nm p1)) 1 (upd (F 1) nm p2)) 2 (upd (F 2) nm p3)) 3 (upd (F 3) nm p4)) 1) (nI nm) p2 nm ((va_up (va_up (va_up (va_up F 0 (upd (F 0) nm p1)) 1 (upd (F 1) nm p2)) 2 (upd (F 2) nm p3)) 3 (upd (F 3) nm p4)) 5))) U) H_23 := hP
          refine lv_aload_n hx hb dX1_message_140 rfl (lv_at hl 0 rfl) ?_
          refine lv_dup hx hb dX1_message_141 rfl ?_
          refine va_get (D := (dC, dI)) (ci := 1) (v := .int (nI nm)) (C := RX1) (T := TX1) (N := 10) hx hb htb us_inX1 hown hK hP 0 rfl rfl 8 (by decide) (htb _ mw_117) (fun _ h9 => h9) rfl dX1_message_142 ?_
          refine lv_dup_x1 hx hb dX1_message_145 rfl rfl ?_
          refine lv_iconst (v := 1) hx hb dX1_message_146 (by decide) ?_
          refine lv_iadd hx hb dX1_message_147 ?_
          rw [nI_1]
          refine va_put (D := (dC, dI)) (ci := 1) (v := .int (nI (nm + 1))) (ty := .int) (C := RX1) (T := TX1) (N := 10) hx hb htb us_inX1 tyX1 tyX1_ok nmX1 hown hK hP hD hS 0 rfl rfl 8 (by decide) (htb _ mw_117) (fun _ h9 => h9) rfl (by decide +kernel) rfl rfl (Nat.le_of_ble_eq_true rfl) dX1_message_148 (fun H_26 locs hP hD hS => ?_)
          have hP : va_P (dC, dI) vwCl (us_W ad cU cI pa nu (nm + 1) nk (va_up (va_up (va_up (va_up (va_up F 0 (upd (F 0) nm p1)) 1 (upd (F 1) nm p2)) 2 (upd (F 2) nm p3)) 3 (upd (F 3) nm p4)) 5 (sp_ins ((va_up (va_up (va_up (va_up F 0 (upd (F 0) nm p1)) 1 (upd (F 1) nm p2)) 2 (upd (F 2) nm p3)) 3 (upd (F 3) nm p4)) 1) (nI nm) p2 nm ((va_up (va_up (va_up (va_up F 0 (upd (F 0) nm p1)) 1 (upd (F 1) nm p2)) 2 (upd (F 2) nm p3)) 3 (upd (F 3) nm p4)) 5))) U) H_26 := hP
          have hD : va_D (us_AA (us_ads ad pa) s.heap.size) (us_W ad cU cI pa nu (nm + 1) nk (va_up (va_up (va_up (va_up (va_up F 0 (upd (F 0) nm p1)) 1 (upd (F 1) nm p2)) 2 (upd (F 2) nm p3)) 3 (upd (F 3) nm p4)) 5 (sp_ins ((va_up (va_up (va_up (va_up F 0 (upd (F 0) nm p1)) 1 (upd (F 1) nm p2)) 2 (upd (F 2) nm p3)) 3 (upd (F 3) nm p4)) 1) (nI nm) p2 nm ((va_up (va_up (va_up (va_up F 0 (upd (F 0) nm p1)) 1 (upd (F 1) nm p2)) 2 (upd (F 2) nm p3)) 3 (upd (F 3) nm p4)) 5))) U) := hD
          have hk9 : sp_msgK p1 p2 p3 p4 nu nm = 0 := by first | (simp only [sp_msgK, sp_minK, eq_false c_4, eq_false c_8, eq_true hk_12, eq_false hf_13, eq_false c_17, eq_true c_18, if_true, if_false]; done) | (simp [sp_msgK, sp_minK, c_4, c_8, hk_12, hf_13, c_17, c_18]; done)
          have hsp : (nI nm) = nI nm := by first | (simp only [sp_msgK, sp_minK, eq_false c_4, eq_false c_8, eq_true hk_12, eq_false hf_13, eq_false c_17, eq_true c_18, if_true, if_false]; done) | (simp [sp_msgK, sp_minK, c_4, c_8, hk_12, hf_13, c_17, c_18]; done)
          exact vx_ret (W.widen (k := 2) (n := 12) (Nat.le_of_ble_eq_true rfl) (Nat.le_of_ble_eq_true rfl) (W.iret (v := (nI nm)) hx hb hr (fun t ht hW => ⟨⟨(nI nm), (), rfl, ⟨hk9, hsp⟩, us_Bx_of ht hP rfl rfl rfl⟩, hS.F ht⟩) hS.2.2 dX1_message_151))
        · obtain ⟨sa_27, hst_sa_27⟩ := hE.2.2.2.2 (RX1, 87, "no room for a message") (by decide +kernel)
          have hk9 : sp_msgK p1 p2 p3 p4 nu nm = 3 := by first | (simp only [sp_msgK, sp_minK, eq_false c_4, eq_false c_8, eq_true hk_12, eq_false hf_13, eq_false c_17, eq_false c_18, if_true, if_false]; done) | (simp [sp_msgK, sp_minK, c_4, c_8, hk_12, hf_13, c_17, c_18]; done)
          exact vx_throwS (own := RX1) (cls := "java/lang/UnsupportedOperationException") (names := ["java/lang/RuntimeException", "java/lang/Exception"]) hx hb hl9 hown (by decide +kernel) (by decide +kernel) (htb _ mw_221) (htb _ mw_39) hst_sa_27 (vx_hat (L := vx_atS RX1 56 "java/lang/UnsupportedOperationException" ["java/lang/RuntimeException", "java/lang/Exception"]) (B := [.castable "java/lang/UnsupportedOperationException" "java/lang/UnsupportedOperationException", .declares ⟨"java/lang/RuntimeException", "<init>", "(Ljava/lang/String;)V"⟩, .declares ⟨"java/lang/Exception", "<init>", "(Ljava/lang/String;)V"⟩, .declares ⟨"java/lang/Throwable", "<init>", "(Ljava/lang/String;)V"⟩]) (fun w hw => htb w (us_at56 w hw)) us_ab56 (vx_c (va_Nw.use rfl (hE.2.2.1 _ (by decide +kernel))) (vx_c (va_Nw.use rfl (hE.2.2.1 _ (by decide +kernel))) (vx_c (va_Nw.use rfl (hE.2.2.1 _ (by decide +kernel))) (vx_c (va_Nw.use rfl (hE.2.2.1 _ (by decide +kernel))) (vx_n)))))) us_ag56 hE.1 hE.2.1 hS (hl.1.trans hml.symm) dX1_message_80 dX1_message_83 dX1_message_84 dX1_message_86 dX1_message_89 (fun x hx => (hte x hx).elim) (Nat.le_of_ble_eq_true rfl) (Nat.le_of_ble_eq_true rfl) (Nat.le_of_ble_eq_true rfl) (Nat.le_of_ble_eq_true rfl) hlocks (fun t ha hsz hk => ⟨(), (by rw [hk9]; decide), ⟨(by rw [hk9]; rfl), us_Bx_of rfl (us_mono hP (fun q hq => hk q hq)) (by rw [if_neg c_4]) rfl rfl⟩, Nat.le_trans hS.1 hsz, fun q h1 h2 => (hk q (Nat.lt_of_lt_of_le h1 hS.1)).trans (hS.2.1 q h1 h2)⟩) hS.2.2 (Nat.le_of_ble_eq_true rfl) (Nat.le_of_ble_eq_true rfl)
      · obtain ⟨sa_28, hst_sa_28⟩ := hE.2.2.2.2 (RX1, 82, "no such value of this kind") (by decide +kernel)
        have hk9 : sp_msgK p1 p2 p3 p4 nu nm = 2 := by first | (simp only [sp_msgK, sp_minK, eq_false c_4, eq_false c_8, eq_true hk_12, eq_false hf_13, eq_true c_17, if_true, if_false]; done) | (simp [sp_msgK, sp_minK, c_4, c_8, hk_12, hf_13, c_17]; done)
        exact vx_throwS (own := RX1) (cls := "java/lang/IndexOutOfBoundsException") (names := ["java/lang/RuntimeException", "java/lang/Exception"]) hx hb hl9 hown (by decide +kernel) (by decide +kernel) (htb _ mw_152) (htb _ mw_38) hst_sa_28 (vx_hat (L := vx_atS RX1 43 "java/lang/IndexOutOfBoundsException" ["java/lang/RuntimeException", "java/lang/Exception"]) (B := [.castable "java/lang/IndexOutOfBoundsException" "java/lang/IndexOutOfBoundsException", .declares ⟨"java/lang/RuntimeException", "<init>", "(Ljava/lang/String;)V"⟩, .declares ⟨"java/lang/Exception", "<init>", "(Ljava/lang/String;)V"⟩, .declares ⟨"java/lang/Throwable", "<init>", "(Ljava/lang/String;)V"⟩]) (fun w hw => htb w (us_at43 w hw)) us_ab43 (vx_c (va_Nw.use rfl (hE.2.2.1 _ (by decide +kernel))) (vx_c (va_Nw.use rfl (hE.2.2.1 _ (by decide +kernel))) (vx_c (va_Nw.use rfl (hE.2.2.1 _ (by decide +kernel))) (vx_c (va_Nw.use rfl (hE.2.2.1 _ (by decide +kernel))) (vx_n)))))) us_ag43 hE.1 hE.2.1 hS (hl.1.trans hml.symm) dX1_message_60 dX1_message_63 dX1_message_64 dX1_message_66 dX1_message_69 (fun x hx => (hte x hx).elim) (Nat.le_of_ble_eq_true rfl) (Nat.le_of_ble_eq_true rfl) (Nat.le_of_ble_eq_true rfl) (Nat.le_of_ble_eq_true rfl) hlocks (fun t ha hsz hk => ⟨(), (by rw [hk9]; decide), ⟨(by rw [hk9]; rfl), us_Bx_of rfl (us_mono hP (fun q hq => hk q hq)) (by rw [if_neg c_4]) rfl rfl⟩, Nat.le_trans hS.1 hsz, fun q h1 h2 => (hk q (Nat.lt_of_lt_of_le h1 hS.1)).trans (hS.2.1 q h1 h2)⟩) hS.2.2 (Nat.le_of_ble_eq_true rfl) (Nat.le_of_ble_eq_true rfl)
    · obtain ⟨sa_29, hst_sa_29⟩ := hE.2.2.2.2 (RX1, 73, "no such kind") (by decide +kernel)
      have hk9 : sp_msgK p1 p2 p3 p4 nu nm = 1 := by first | (simp only [sp_msgK, sp_minK, eq_false c_4, eq_true c_8, if_true, if_false]; done) | (simp [sp_msgK, sp_minK, c_4, c_8]; done)
      exact vx_throwS (own := RX1) (cls := "java/lang/IllegalArgumentException") (names := ["java/lang/RuntimeException", "java/lang/Exception"]) hx hb hl9 hown (by decide +kernel) (by decide +kernel) (htb _ mw_253) (htb _ mw_40) hst_sa_29 (vx_hat (L := vx_atS RX1 72 "java/lang/IllegalArgumentException" ["java/lang/RuntimeException", "java/lang/Exception"]) (B := [.castable "java/lang/IllegalArgumentException" "java/lang/IllegalArgumentException", .declares ⟨"java/lang/RuntimeException", "<init>", "(Ljava/lang/String;)V"⟩, .declares ⟨"java/lang/Exception", "<init>", "(Ljava/lang/String;)V"⟩, .declares ⟨"java/lang/Throwable", "<init>", "(Ljava/lang/String;)V"⟩]) (fun w hw => htb w (us_at72 w hw)) us_ab72 (vx_c (va_Nw.use rfl (hE.2.2.1 _ (by decide +kernel))) (vx_c (va_Nw.use rfl (hE.2.2.1 _ (by decide +kernel))) (vx_c (va_Nw.use rfl (hE.2.2.1 _ (by decide +kernel))) (vx_c (va_Nw.use rfl (hE.2.2.1 _ (by decide +kernel))) (vx_n)))))) us_ag72 hE.1 hE.2.1 hS (hl.1.trans hml.symm) dX1_message_37 dX1_message_40 dX1_message_41 dX1_message_43 dX1_message_46 (fun x hx => (hte x hx).elim) (Nat.le_of_ble_eq_true rfl) (Nat.le_of_ble_eq_true rfl) (Nat.le_of_ble_eq_true rfl) (Nat.le_of_ble_eq_true rfl) hlocks (fun t ha hsz hk => ⟨(), (by rw [hk9]; decide), ⟨(by rw [hk9]; rfl), us_Bx_of rfl (us_mono hP (fun q hq => hk q hq)) (by rw [if_neg c_4]) rfl rfl⟩, Nat.le_trans hS.1 hsz, fun q h1 h2 => (hk q (Nat.lt_of_lt_of_le h1 hS.1)).trans (hS.2.1 q h1 h2)⟩) hS.2.2 (Nat.le_of_ble_eq_true rfl) (Nat.le_of_ble_eq_true rfl)
  · refine lv_aload_n hx hb dX1_message_8 rfl (lv_at hl 0 rfl) ?_
    refine lv_dup hx hb dX1_message_9 rfl ?_
    refine va_get (D := (dC, dI)) (ci := 1) (v := .int nk) (C := RX1) (T := TX1) (N := 10) hx hb htb us_inX1 hown hK hP 0 rfl rfl 9 (by decide) (htb _ mw_118) (fun _ h9 => h9) rfl dX1_message_10 ?_
    refine lv_iconst (v := 1) hx hb dX1_message_13 (by decide) ?_
    refine lv_iadd hx hb dX1_message_14 ?_
    refine va_put (D := (dC, dI)) (ci := 1) (v := .int (nk + 1)) (ty := .int) (C := RX1) (T := TX1) (N := 10) hx hb htb us_inX1 tyX1 tyX1_ok nmX1 hown hK hP hD hS 0 rfl rfl 9 (by decide) (htb _ mw_118) (fun _ h9 => h9) rfl (by decide +kernel) rfl rfl (Nat.le_of_ble_eq_true rfl) dX1_message_15 (fun H_30 locs hP hD hS => ?_)
    have hP : va_P (dC, dI) vwCl (us_W ad cU cI pa nu nm (nk + 1) F U) H_30 := hP
    have hD : va_D (us_AA (us_ads ad pa) s.heap.size) (us_W ad cU cI pa nu nm (nk + 1) F U) := hD
    obtain ⟨sa_31, hst_sa_31⟩ := hE.2.2.2.2 (RX1, 70, "no such unit") (by decide +kernel)
    have hk9 : sp_msgK p1 p2 p3 p4 nu nm = 1 := by first | (simp only [sp_msgK, sp_minK, eq_true c_4, if_true, if_false]; done) | (simp [sp_msgK, sp_minK, c_4]; done)
    exact vx_throwS (own := RX1) (cls := "java/lang/IllegalArgumentException") (names := ["java/lang/RuntimeException", "java/lang/Exception"]) hx hb hl9 hown (by decide +kernel) (by decide +kernel) (htb _ mw_253) (htb _ mw_40) hst_sa_31 (vx_hat (L := vx_atS RX1 72 "java/lang/IllegalArgumentException" ["java/lang/RuntimeException", "java/lang/Exception"]) (B := [.castable "java/lang/IllegalArgumentException" "java/lang/IllegalArgumentException", .declares ⟨"java/lang/RuntimeException", "<init>", "(Ljava/lang/String;)V"⟩, .declares ⟨"java/lang/Exception", "<init>", "(Ljava/lang/String;)V"⟩, .declares ⟨"java/lang/Throwable", "<init>", "(Ljava/lang/String;)V"⟩]) (fun w hw => htb w (us_at72 w hw)) us_ab72 (vx_c (va_Nw.use rfl (hE.2.2.1 _ (by decide +kernel))) (vx_c (va_Nw.use rfl (hE.2.2.1 _ (by decide +kernel))) (vx_c (va_Nw.use rfl (hE.2.2.1 _ (by decide +kernel))) (vx_c (va_Nw.use rfl (hE.2.2.1 _ (by decide +kernel))) (vx_n)))))) us_ag72 hE.1 hE.2.1 hS (hl.1.trans hml.symm) dX1_message_18 dX1_message_21 dX1_message_22 dX1_message_24 dX1_message_27 (fun x hx => (hte x hx).elim) (Nat.le_of_ble_eq_true rfl) (Nat.le_of_ble_eq_true rfl) (Nat.le_of_ble_eq_true rfl) (Nat.le_of_ble_eq_true rfl) hlocks (fun t ha hsz hk => ⟨(), (by rw [hk9]; decide), ⟨(by rw [hk9]; rfl), us_Bx_of rfl (us_mono hP (fun q hq => hk q hq)) (by rw [if_pos c_4]) rfl rfl⟩, Nat.le_trans hS.1 hsz, fun q h1 h2 => (hk q (Nat.lt_of_lt_of_le h1 hS.1)).trans (hS.2.1 q h1 h2)⟩) hS.2.2 (Nat.le_of_ble_eq_true rfl) (Nat.le_of_ble_eq_true rfl)
set_option maxHeartbeats 8000000 in
set_option maxRecDepth 100000 in
theorem kt_X1_at (l : Launch) (hl9 : l.stackTraces = false) (dC : Nat → ClassId) (dI : Nat → Nat → Nat) (ad : Nat → Nat) (cU cI : ClassId) (pa : Nat → Nat) (sz : Nat) (nu nm : Nat) (nk : Int32) (F U : Nat → Nat → Int32) (p1 : Int32) (p2 : Int32) (p3 : Int32) (hnu : nu ≤ 30) (hnm : nm ≤ 200) (hO : ∀ p, p < nm → ∃ n, n < nm ∧ F 5 p = nI n) (hV : ∀ n, n < nm → ∃ j, j < nu ∧ F 0 n = nI j) : vx_Met l yX1_at wsX1_at ({ frames := 7, cells := 2, slots := 12, locals := 114 }) (va_Pc [.ref (ad 0), .int p1, .int p2, .int p3] (us_Px dC dI ad cU cI pa nu nm nk F U (us_AA (us_ads ad pa) sz) sz)) (va_Qi (fun r (_ : Unit) => sp_atK p1 p2 p3 nu = 0 ∧ r = sp_atR nu (sp_ru nu nm F U p2) p1.toNatClampNeg p2 p3) (fun _ t => us_Bx dC dI ad cU cI pa nu nm nk (sp_rf nu nm F U p2) (sp_ru nu nm F U p2) t) (us_AA (us_ads ad pa) sz)) (vx_X (fun _ : Unit => ¬ sp_atK p1 p2 p3 nu = 0) (fun E _ t => E = us_en (sp_atK p1 p2 p3 nu) ∧ us_Bx dC dI ad cU cI pa nu nm nk F U t) (us_AA (us_ads ad pa) sz)) 2 12 (us_AA (us_ads ad pa) sz) := by
  refine vx_ofW (cc := cX1_at) (maxL := 5) (ret := (some .int)) (by decide) rfl ?_
  intro p e s m args below meth c s₁ B hml hte hv
  obtain ⟨rfl, hsz, hP, hK, hD, hE⟩ := hv
  have hx := B.exec
  have hb := B.bytes
  have hr := B.returns
  have htb := us_htb (atoms_spec (ws := wsX1_at) B.pre)
  have hown : s.vm.findClass RX1 = some m.cls := findClass_of_methodNamed B.named
  have hlocks := B.notSynchronized
  subst hsz
  have hA : ∀ q : Nat, s.heap.size ≤ q → (us_AA (us_ads ad pa) s.heap.size) q := fun q h => Or.inr h
  have hS : va_S (us_AA (us_ads ad pa) s.heap.size) s.heap s.heap [] := va_S.rf
  have hP : va_P (dC, dI) vwCl (us_W ad cU cI pa nu nm nk F U) s.heap := hP
  have hD : va_D (us_AA (us_ads ad pa) s.heap.size) (us_W ad cU cI pa nu nm nk F U) := us_D_aa hD
  have hl := lv_entry ([.ref (ad 0), .int p1, .int p2, .int p3]) (n := 5) (Nat.le_of_ble_eq_true rfl)
  rw [lg_entry_eq]
  generalize (lg_sl ([.ref (ad 0), .int p1, .int p2, .int p3]) ++ List.replicate (5 - (lg_sl ([.ref (ad 0), .int p1, .int p2, .int p3])).length) Slot.unset).toArray = ls at hl ⊢
  have hl : lv_has ls 5 [(0, .ref (ad 0)), (1, .int p1), (2, .int p2), (3, .int p3)] := hl
  refine lv_aload_n hx hb dX1_at_0 rfl (lv_at hl 0 rfl) ?_
  refine lv_iload_n hx hb dX1_at_1 rfl (lv_at hl 1 rfl) ?_
  refine vx_callv (vx_runV (As := [.int p1]) (rest := []) ⟨hx, hb, hml, hown, htb⟩ (kt_X1_refuseUnknownUnit l hl9 dC dI ad cU cI pa s.heap.size nu nm nk F U p1) (cwV 1 htb (us_gV mw_292 mw_294 mw_4 mw_32 mw_295) rfl rfl rfl (by decide +kernel) ⟨Nat.le_of_ble_eq_true rfl, Nat.le_of_ble_eq_true rfl⟩) ⟨us_Px_blind, va_recv hK hP (ci := 1) (q0 := 0) rfl rfl, fun U hU hW => ⟨rfl, us_Px_at hP hK hD hE hS (fun q h => hA q (Nat.le_trans hS.1 h)) hU hW⟩⟩ rfl rfl hl.1 rfl (lv_room (Nat.le_of_ble_eq_true rfl)) dX1_at_2 ⟨Nat.le_of_ble_eq_true rfl, Nat.le_of_ble_eq_true rfl⟩) hS (fun q h1 h2 => absurd h2 (Nat.not_le.mpr h1)) (fun q h => hA q (Nat.le_trans hS.1 h)) (fun q h1 h2 => absurd h2 (Nat.not_le.mpr h1)) (fun E_t_3 ce_t_3 q_t_3 _ t_3 H_1 locs ht hvm hw hB hz1 hk1 hS hce hcv hcl => ?_) (fun _ t_3 H_1 locs ht hvm hw hB hz1 hk1 hS => ?_)
  · have hkk := hw
    have hx9 : sp_isU p1 nu = 0 := by refine Decidable.byContradiction (fun h9 => hkk ?_); simp only [sp_refK, eq_false h9, if_false]
    have hE9 := hB
    have hP := us_mono hP (fun q h => hk1 q h (Nat.not_le.mpr h))
    have hk9 : sp_atK p1 p2 p3 nu = sp_refK p1 nu := by first | (simp only [sp_atK, sp_refK, sp_minK, eq_true hx9, if_true, if_false]; done) | (simp [sp_atK, sp_refK, sp_minK, hx9]; done)
    exact vx_out (E := E_t_3) (fun x hx => (hte x hx).elim) hlocks hce hcv hcl (fun t9 ht9 ha => ⟨(), (by rw [hk9]; exact hkk), ⟨(by rw [hk9]; exact hE9), us_Bx_of ht9 hP rfl rfl rfl⟩, hS.F ht9⟩) hS.2.2 (Nat.le_of_ble_eq_true rfl) (Nat.le_of_ble_eq_true rfl)
  have hk0 := hw
  have hk_4 : sp_refK p1 nu = 0 := hk0
  have hf_5 : ¬ sp_isU p1 nu = 0 := by intro h9; simp [sp_refK, h9] at hk_4
  have hP := us_mono hP (fun q h => hk1 q h (Nat.not_le.mpr h))
  obtain ⟨j, hj, ej⟩ := us_isU_spec hnu hf_5
  have hj3 : j < 30 := by omega
  refine lv_iload_n hx hb dX1_at_5 rfl (lv_at hl 3 rfl) ?_
  refine lv_bipush (v := 9) hx hb dX1_at_6 (by decide) ?_
  refine va_calli (va_runS (As := [.int p3, .int 9]) (rest := []) ⟨hx, hb, hml, hown, htb⟩ (kt_X1_isWithin l H_1.size p3 9) (cwS 2 htb (us_gS mw_149 mw_150 mw_32 mw_151) rfl rfl rfl (by decide +kernel) ⟨Nat.le_of_ble_eq_true rfl, Nat.le_of_ble_eq_true rfl⟩) ⟨us_blind0, fun U hU _ => ⟨rfl, congrArg Array.size hU⟩⟩ rfl rfl hl.1 rfl (lv_room (Nat.le_of_ble_eq_true rfl)) dX1_at_8 ⟨Nat.le_of_ble_eq_true rfl, Nat.le_of_ble_eq_true rfl⟩) hS (fun q h1 h2 => absurd h2 (Nat.not_le.mpr h1)) (fun q h => hA q (Nat.le_trans hS.1 h)) (fun r_7 _ t_8 H_6 locs ht hvm hw hB hz1 hk1 hS => ?_)
  obtain ⟨-, hw⟩ := hw
  subst hw
  have hP := us_mono hP (fun q h => hk1 q h (Nat.not_le.mpr h))
  refine lv_if_ne (tgt := 24) hx hb dX1_at_11 (by decide) (fun c_9 => ?_) (fun c_9 => ?_)
  · refine lv_iload_n hx hb dX1_at_24 rfl (lv_at hl 2 rfl) ?_
    refine vx_callv (vx_runS (As := [.int p2]) (rest := []) ⟨hx, hb, hml, hown, htb⟩ (kt_X1_refuseOutsideMinutes l hl9 H_6.size p2) (cwS 1 htb (us_gS mw_270 mw_271 mw_32 mw_272) rfl rfl rfl (by decide +kernel) ⟨Nat.le_of_ble_eq_true rfl, Nat.le_of_ble_eq_true rfl⟩) ⟨us_P0_blind, fun U hU hW => ⟨rfl, us_P0_at hE hS (fun q h => hA q (Nat.le_trans hS.1 h)) hU hW⟩⟩ rfl rfl hl.1 rfl (lv_room (Nat.le_of_ble_eq_true rfl)) dX1_at_25 ⟨Nat.le_of_ble_eq_true rfl, Nat.le_of_ble_eq_true rfl⟩) hS (fun q h1 h2 => absurd h2 (Nat.not_le.mpr h1)) (fun q h => hA q (Nat.le_trans hS.1 h)) (fun q h1 h2 => absurd h2 (Nat.not_le.mpr h1)) (fun E_t_12 ce_t_12 q_t_12 _ t_12 H_10 locs ht hvm hw hB hz1 hk1 hS hce hcv hcl => ?_) (fun _ t_12 H_10 locs ht hvm hw hB hz1 hk1 hS => ?_)
    · have hkk := hw
      have hx9 : sp_in p2 99999 = 0 := by refine Decidable.byContradiction (fun h9 => hkk ?_); simp only [sp_minK, eq_false h9, if_false]
      have hE9 := hB
      have hP := us_mono hP (fun q h => hk1 q h (Nat.not_le.mpr h))
      have hk9 : sp_atK p1 p2 p3 nu = sp_minK p2 := by first | (simp only [sp_atK, sp_refK, sp_minK, eq_true hk_4, eq_false hf_5, eq_false c_9, eq_true hx9, if_true, if_false]; done) | (simp [sp_atK, sp_refK, sp_minK, hk_4, hf_5, c_9, hx9]; done)
      exact vx_out (E := E_t_12) (fun x hx => (hte x hx).elim) hlocks hce hcv hcl (fun t9 ht9 ha => ⟨(), (by rw [hk9]; exact hkk), ⟨(by rw [hk9]; exact hE9), us_Bx_of ht9 hP rfl rfl rfl⟩, hS.F ht9⟩) hS.2.2 (Nat.le_of_ble_eq_true rfl) (Nat.le_of_ble_eq_true rfl)
    have hk0 := hw
    have hk_13 : sp_minK p2 = 0 := hk0
    have hf_14 : ¬ sp_in p2 99999 = 0 := by intro h9; simp [sp_minK, h9] at hk_13
    have hP := us_mono hP (fun q h => hk1 q h (Nat.not_le.mpr h))
    refine lv_aload_n hx hb dX1_at_28 rfl (lv_at hl 0 rfl) ?_
    refine lv_iload_n hx hb dX1_at_29 rfl (lv_at hl 2 rfl) ?_
    refine va_callv (va_runV (As := [.int p2]) (rest := []) ⟨hx, hb, hml, hown, htb⟩ (kt_X1_replay l dC dI ad cU cI pa H_10.size nu nm nk F U p2 hnu hnm hO hV) (cwV 1 htb (us_gV mw_297 mw_299 mw_5 mw_32 mw_300) rfl rfl rfl (by decide +kernel) ⟨Nat.le_of_ble_eq_true rfl, Nat.le_of_ble_eq_true rfl⟩) ⟨us_Px_blind, va_recv hK hP (ci := 1) (q0 := 0) rfl rfl, fun U hU hW => ⟨rfl, us_Px_at hP hK hD hE hS (us_AA_le hS) hU hW⟩⟩ rfl rfl hl.1 rfl (lv_room (Nat.le_of_ble_eq_true rfl)) dX1_at_30 ⟨Nat.le_of_ble_eq_true rfl, Nat.le_of_ble_eq_true rfl⟩) hS (fun q _ h => us_AA_le hS q h) (us_AA_le hS) (fun _ t_17 H_15 locs ht hvm hw hB hz1 hk1 hS => ?_)
    have hP := us_Bx_use ht hB
    have hD : va_D (us_AA (us_ads ad pa) s.heap.size) (us_W ad cU cI pa nu nm nk (sp_rf nu nm F U p2) (sp_ru nu nm F U p2)) := us_D_of (by rw [us_W_adr, us_W_adr]) hD
    have hP : va_P (dC, dI) vwCl (us_W ad cU cI pa nu nm nk (sp_rf nu nm F U p2) (sp_ru nu nm F U p2)) H_15 := hP
    refine lv_aload_n hx hb dX1_at_33 rfl (lv_at hl 0 rfl) ?_
    refine va_get (D := (dC, dI)) (ci := 1) (v := .ref (ad 1)) (C := RX1) (T := TX1) (N := 10) hx hb htb us_inX1 hown hK hP 0 rfl rfl 0 (by decide) (htb _ mw_109) (fun _ h9 => h9) rfl dX1_at_34 ?_
    refine lv_iload_n hx hb dX1_at_37 rfl (lv_at hl 1 rfl) ?_
    refine lv_topi (fun i9 ei9 => ?_)
    have ei9 := ei9.trans ej
    subst ei9
    refine us_aald hx hb hK hP 1 0 rfl rfl hj3 (by decide) rfl dX1_at_38 ?_
    refine lv_astore (lv' := [(4, .ref (pa j)), (0, .ref (ad 0)), (1, .int p1), (2, .int p2), (3, .int p3)]) hx hb dX1_at_39 hl (by decide) rfl (fun ls hl => ?_)
    refine lv_iload_n hx hb dX1_at_41 rfl (lv_at hl 4 rfl) ?_
    by_cases k_18 : p3 = 0
    · refine lv_tableIn (tgt := 92) hx hb dX1_at_42 (by rw [k_18]; decide) (by rw [k_18]; decide) (by rw [k_18]; rfl) (by decide) ?_
      refine lv_aload hx hb dX1_at_92 (lv_at hl 0 rfl) ?_
      refine us_getUN (v := (sp_ru nu nm F U p2) j 2) hx hb htb us_inX0 hown hK hP (8 + j) (us_W_get hj3) 2 (by decide) (va_Nw.use rfl (hE.2.2.1 (.fieldLinkNest RX1 100 "UnitStates$Unit" "state" "I" "UnitStates") (by decide +kernel))) rfl dX1_at_94 ?_
      have hk9 : sp_atK p1 p2 p3 nu = 0 := by first | (simp only [sp_atK, sp_refK, sp_minK, eq_true hk_4, eq_false hf_5, eq_false c_9, eq_true hk_13, eq_false hf_14, eq_true k_18, if_true, if_false]; done) | (simp [sp_atK, sp_refK, sp_minK, hk_4, hf_5, c_9, hk_13, hf_14, k_18]; done)
      have hsp : ((sp_ru nu nm F U p2) j 2) = sp_atR nu (sp_ru nu nm F U p2) p1.toNatClampNeg p2 p3 := by rw [ej, nI_clamp (by omega)]; first | (simp only [sp_atR, eq_true hk_4, eq_false hf_5, eq_false c_9, eq_true hk_13, eq_false hf_14, eq_true k_18, if_true, if_false]; done) | (simp [sp_atR, hk_4, hf_5, c_9, hk_13, hf_14, k_18]; done)
      exact vx_ret ((W.iret (v := ((sp_ru nu nm F U p2) j 2)) hx hb hr (fun t ht hW => ⟨⟨((sp_ru nu nm F U p2) j 2), (), rfl, ⟨hk9, hsp⟩, us_Bx_of ht hP rfl rfl rfl⟩, hS.F ht⟩) hS.2.2 dX1_at_97))
    by_cases k_19 : p3 = 1
    · refine lv_tableIn (tgt := 98) hx hb dX1_at_42 (by rw [k_19]; decide) (by rw [k_19]; decide) (by rw [k_19]; rfl) (by decide) ?_
      refine lv_aload hx hb dX1_at_98 (lv_at hl 0 rfl) ?_
      refine us_getUN (v := (sp_ru nu nm F U p2) j 3) hx hb htb us_inX0 hown hK hP (8 + j) (us_W_get hj3) 3 (by decide) (va_Nw.use rfl (hE.2.2.1 (.fieldLinkNest RX1 103 "UnitStates$Unit" "since" "I" "UnitStates") (by decide +kernel))) rfl dX1_at_100 ?_
      have hk9 : sp_atK p1 p2 p3 nu = 0 := by first | (simp only [sp_atK, sp_refK, sp_minK, eq_true hk_4, eq_false hf_5, eq_false c_9, eq_true hk_13, eq_false hf_14, eq_true k_19, if_true, if_false]; done) | (simp [sp_atK, sp_refK, sp_minK, hk_4, hf_5, c_9, hk_13, hf_14, k_19]; done)
      have hsp : ((sp_ru nu nm F U p2) j 3) = sp_atR nu (sp_ru nu nm F U p2) p1.toNatClampNeg p2 p3 := by rw [ej, nI_clamp (by omega)]; first | (simp only [sp_atR, eq_true hk_4, eq_false hf_5, eq_false c_9, eq_true hk_13, eq_false hf_14, eq_true k_19, if_true, if_false]; done) | (simp [sp_atR, hk_4, hf_5, c_9, hk_13, hf_14, k_19]; done)
      exact vx_ret ((W.iret (v := ((sp_ru nu nm F U p2) j 3)) hx hb hr (fun t ht hW => ⟨⟨((sp_ru nu nm F U p2) j 3), (), rfl, ⟨hk9, hsp⟩, us_Bx_of ht hP rfl rfl rfl⟩, hS.F ht⟩) hS.2.2 dX1_at_103))
    by_cases k_20 : p3 = 2
    · refine lv_tableIn (tgt := 104) hx hb dX1_at_42 (by rw [k_20]; decide) (by rw [k_20]; decide) (by rw [k_20]; rfl) (by decide) ?_
      refine lv_aload hx hb dX1_at_104 (lv_at hl 0 rfl) ?_
      refine va_calli (va_runVN (C := RX0) (As := []) (rest := []) ⟨hx, hb, hml, hown, htb⟩ (kt_X0_stationNow l dC dI (pa j) H_15.size ((sp_ru nu nm F U p2) j)) ⟨va_cnB 0 htb (us_g0 mw_338) rfl rfl rfl (hE.2.2.1 (.methodLinkNest RX1 106 yX0_stationNow "UnitStates") (by decide +kernel)) (htb _ mw_33) (by decide +kernel) ⟨Nat.le_of_ble_eq_true rfl, Nat.le_of_ble_eq_true rfl⟩, htb _ mw_337, htb _ mw_13⟩ ⟨us_Pu_blind, va_recv hK hP (ci := 0) (q0 := 8 + j) rfl (us_W_get hj3), fun U hU hW => ⟨rfl, us_Pu_at (us_W_sub hP hj3) hK hU hW⟩⟩ rfl rfl hl.1 rfl (lv_room (Nat.le_of_ble_eq_true rfl)) dX1_at_106 ⟨Nat.le_of_ble_eq_true rfl, Nat.le_of_ble_eq_true rfl⟩) hS (fun q h1 h2 => absurd h2 (Nat.not_le.mpr h1)) (fun q h => hA q (Nat.le_trans hS.1 h)) (fun r_22 _ t_23 H_21 locs ht hvm hw hB hz1 hk1 hS => ?_)
      subst hw
      have hP := us_mono hP (fun q h => hk1 q h (Nat.not_le.mpr h))
      have hk9 : sp_atK p1 p2 p3 nu = 0 := by first | (simp only [sp_atK, sp_refK, sp_minK, eq_true hk_4, eq_false hf_5, eq_false c_9, eq_true hk_13, eq_false hf_14, eq_true k_20, if_true, if_false]; done) | (simp [sp_atK, sp_refK, sp_minK, hk_4, hf_5, c_9, hk_13, hf_14, k_20]; done)
      have hsp : (sp_stn ((sp_ru nu nm F U p2) j)) = sp_atR nu (sp_ru nu nm F U p2) p1.toNatClampNeg p2 p3 := by rw [ej, nI_clamp (by omega)]; first | (simp only [sp_atR, eq_true hk_4, eq_false hf_5, eq_false c_9, eq_true hk_13, eq_false hf_14, eq_true k_20, if_true, if_false]; done) | (simp [sp_atR, hk_4, hf_5, c_9, hk_13, hf_14, k_20]; done)
      exact vx_ret ((W.iret (v := (sp_stn ((sp_ru nu nm F U p2) j))) hx hb hr (fun t ht hW => ⟨⟨(sp_stn ((sp_ru nu nm F U p2) j)), (), rfl, ⟨hk9, hsp⟩, us_Bx_of ht hP rfl rfl rfl⟩, hS.F ht⟩) hS.2.2 dX1_at_109))
    by_cases k_24 : p3 = 3
    · refine lv_tableIn (tgt := 110) hx hb dX1_at_42 (by rw [k_24]; decide) (by rw [k_24]; decide) (by rw [k_24]; rfl) (by decide) ?_
      refine lv_aload hx hb dX1_at_110 (lv_at hl 0 rfl) ?_
      refine va_calli (va_runVN (C := RX0) (As := []) (rest := []) ⟨hx, hb, hml, hown, htb⟩ (kt_X0_incidentNow l dC dI (pa j) H_15.size ((sp_ru nu nm F U p2) j)) ⟨va_cnB 0 htb (us_g0 mw_342) rfl rfl rfl (hE.2.2.1 (.methodLinkNest RX1 110 yX0_incidentNow "UnitStates") (by decide +kernel)) (htb _ mw_33) (by decide +kernel) ⟨Nat.le_of_ble_eq_true rfl, Nat.le_of_ble_eq_true rfl⟩, htb _ mw_341, htb _ mw_14⟩ ⟨us_Pu_blind, va_recv hK hP (ci := 0) (q0 := 8 + j) rfl (us_W_get hj3), fun U hU hW => ⟨rfl, us_Pu_at (us_W_sub hP hj3) hK hU hW⟩⟩ rfl rfl hl.1 rfl (lv_room (Nat.le_of_ble_eq_true rfl)) dX1_at_112 ⟨Nat.le_of_ble_eq_true rfl, Nat.le_of_ble_eq_true rfl⟩) hS (fun q h1 h2 => absurd h2 (Nat.not_le.mpr h1)) (fun q h => hA q (Nat.le_trans hS.1 h)) (fun r_26 _ t_27 H_25 locs ht hvm hw hB hz1 hk1 hS => ?_)
      subst hw
      have hP := us_mono hP (fun q h => hk1 q h (Nat.not_le.mpr h))
      have hk9 : sp_atK p1 p2 p3 nu = 0 := by first | (simp only [sp_atK, sp_refK, sp_minK, eq_true hk_4, eq_false hf_5, eq_false c_9, eq_true hk_13, eq_false hf_14, eq_true k_24, if_true, if_false]; done) | (simp [sp_atK, sp_refK, sp_minK, hk_4, hf_5, c_9, hk_13, hf_14, k_24]; done)
      have hsp : (sp_inc ((sp_ru nu nm F U p2) j)) = sp_atR nu (sp_ru nu nm F U p2) p1.toNatClampNeg p2 p3 := by rw [ej, nI_clamp (by omega)]; first | (simp only [sp_atR, eq_true hk_4, eq_false hf_5, eq_false c_9, eq_true hk_13, eq_false hf_14, eq_true k_24, if_true, if_false]; done) | (simp [sp_atR, hk_4, hf_5, c_9, hk_13, hf_14, k_24]; done)
      exact vx_ret ((W.iret (v := (sp_inc ((sp_ru nu nm F U p2) j))) hx hb hr (fun t ht hW => ⟨⟨(sp_inc ((sp_ru nu nm F U p2) j)), (), rfl, ⟨hk9, hsp⟩, us_Bx_of ht hP rfl rfl rfl⟩, hS.F ht⟩) hS.2.2 dX1_at_115))
    by_cases k_28 : p3 = 4
    · refine lv_tableIn (tgt := 116) hx hb dX1_at_42 (by rw [k_28]; decide) (by rw [k_28]; decide) (by rw [k_28]; rfl) (by decide) ?_
      refine lv_aload hx hb dX1_at_116 (lv_at hl 0 rfl) ?_
      refine us_getUN (v := (sp_ru nu nm F U p2) j 6) hx hb htb us_inX0 hown hK hP (8 + j) (us_W_get hj3) 6 (by decide) (va_Nw.use rfl (hE.2.2.1 (.fieldLinkNest RX1 113 "UnitStates$Unit" "crew" "I" "UnitStates") (by decide +kernel))) rfl dX1_at_118 ?_
      have hk9 : sp_atK p1 p2 p3 nu = 0 := by first | (simp only [sp_atK, sp_refK, sp_minK, eq_true hk_4, eq_false hf_5, eq_false c_9, eq_true hk_13, eq_false hf_14, eq_true k_28, if_true, if_false]; done) | (simp [sp_atK, sp_refK, sp_minK, hk_4, hf_5, c_9, hk_13, hf_14, k_28]; done)
      have hsp : ((sp_ru nu nm F U p2) j 6) = sp_atR nu (sp_ru nu nm F U p2) p1.toNatClampNeg p2 p3 := by rw [ej, nI_clamp (by omega)]; first | (simp only [sp_atR, eq_true hk_4, eq_false hf_5, eq_false c_9, eq_true hk_13, eq_false hf_14, eq_true k_28, if_true, if_false]; done) | (simp [sp_atR, hk_4, hf_5, c_9, hk_13, hf_14, k_28]; done)
      exact vx_ret ((W.iret (v := ((sp_ru nu nm F U p2) j 6)) hx hb hr (fun t ht hW => ⟨⟨((sp_ru nu nm F U p2) j 6), (), rfl, ⟨hk9, hsp⟩, us_Bx_of ht hP rfl rfl rfl⟩, hS.F ht⟩) hS.2.2 dX1_at_121))
    by_cases k_29 : p3 = 5
    · refine lv_tableIn (tgt := 122) hx hb dX1_at_42 (by rw [k_29]; decide) (by rw [k_29]; decide) (by rw [k_29]; rfl) (by decide) ?_
      refine lv_aload hx hb dX1_at_122 (lv_at hl 0 rfl) ?_
      refine us_getUN (v := (sp_ru nu nm F U p2) j 7) hx hb htb us_inX0 hown hK hP (8 + j) (us_W_get hj3) 7 (by decide) (va_Nw.use rfl (hE.2.2.1 (.fieldLinkNest RX1 116 "UnitStates$Unit" "things" "I" "UnitStates") (by decide +kernel))) rfl dX1_at_124 ?_
      have hk9 : sp_atK p1 p2 p3 nu = 0 := by first | (simp only [sp_atK, sp_refK, sp_minK, eq_true hk_4, eq_false hf_5, eq_false c_9, eq_true hk_13, eq_false hf_14, eq_true k_29, if_true, if_false]; done) | (simp [sp_atK, sp_refK, sp_minK, hk_4, hf_5, c_9, hk_13, hf_14, k_29]; done)
      have hsp : ((sp_ru nu nm F U p2) j 7) = sp_atR nu (sp_ru nu nm F U p2) p1.toNatClampNeg p2 p3 := by rw [ej, nI_clamp (by omega)]; first | (simp only [sp_atR, eq_true hk_4, eq_false hf_5, eq_false c_9, eq_true hk_13, eq_false hf_14, eq_true k_29, if_true, if_false]; done) | (simp [sp_atR, hk_4, hf_5, c_9, hk_13, hf_14, k_29]; done)
      exact vx_ret ((W.iret (v := ((sp_ru nu nm F U p2) j 7)) hx hb hr (fun t ht hW => ⟨⟨((sp_ru nu nm F U p2) j 7), (), rfl, ⟨hk9, hsp⟩, us_Bx_of ht hP rfl rfl rfl⟩, hS.F ht⟩) hS.2.2 dX1_at_127))
    by_cases k_30 : p3 = 6
    · refine lv_tableIn (tgt := 128) hx hb dX1_at_42 (by rw [k_30]; decide) (by rw [k_30]; decide) (by rw [k_30]; rfl) (by decide) ?_
      refine lv_aload hx hb dX1_at_128 (lv_at hl 0 rfl) ?_
      refine us_getUN (v := (sp_ru nu nm F U p2) j 8) hx hb htb us_inX0 hown hK hP (8 + j) (us_W_get hj3) 8 (by decide) (va_Nw.use rfl (hE.2.2.1 (.fieldLinkNest RX1 119 "UnitStates$Unit" "link" "I" "UnitStates") (by decide +kernel))) rfl dX1_at_130 ?_
      have hk9 : sp_atK p1 p2 p3 nu = 0 := by first | (simp only [sp_atK, sp_refK, sp_minK, eq_true hk_4, eq_false hf_5, eq_false c_9, eq_true hk_13, eq_false hf_14, eq_true k_30, if_true, if_false]; done) | (simp [sp_atK, sp_refK, sp_minK, hk_4, hf_5, c_9, hk_13, hf_14, k_30]; done)
      have hsp : ((sp_ru nu nm F U p2) j 8) = sp_atR nu (sp_ru nu nm F U p2) p1.toNatClampNeg p2 p3 := by rw [ej, nI_clamp (by omega)]; first | (simp only [sp_atR, eq_true hk_4, eq_false hf_5, eq_false c_9, eq_true hk_13, eq_false hf_14, eq_true k_30, if_true, if_false]; done) | (simp [sp_atR, hk_4, hf_5, c_9, hk_13, hf_14, k_30]; done)
      exact vx_ret ((W.iret (v := ((sp_ru nu nm F U p2) j 8)) hx hb hr (fun t ht hW => ⟨⟨((sp_ru nu nm F U p2) j 8), (), rfl, ⟨hk9, hsp⟩, us_Bx_of ht hP rfl rfl rfl⟩, hS.F ht⟩) hS.2.2 dX1_at_133))
    by_cases k_31 : p3 = 7
    · refine lv_tableIn (tgt := 134) hx hb dX1_at_42 (by rw [k_31]; decide) (by rw [k_31]; decide) (by rw [k_31]; rfl) (by decide) ?_
      refine lv_aload hx hb dX1_at_134 (lv_at hl 0 rfl) ?_
      refine lv_iload_n hx hb dX1_at_136 rfl (lv_at hl 3 rfl) ?_
      refine va_calli (va_runVN (C := RX0) (As := [.int p2]) (rest := []) ⟨hx, hb, hml, hown, htb⟩ (kt_X0_drivenUpTo l dC dI (pa j) H_15.size ((sp_ru nu nm F U p2) j) p2) ⟨va_cnB 1 htb (us_g0 mw_326) rfl rfl rfl (hE.2.2.1 (.methodLinkNest RX1 122 yX0_drivenUpTo "UnitStates") (by decide +kernel)) (htb _ mw_33) (by decide +kernel) ⟨Nat.le_of_ble_eq_true rfl, Nat.le_of_ble_eq_true rfl⟩, htb _ mw_325, htb _ mw_10⟩ ⟨us_Pu_blind, va_recv hK hP (ci := 0) (q0 := 8 + j) rfl (us_W_get hj3), fun U hU hW => ⟨rfl, us_Pu_at (us_W_sub hP hj3) hK hU hW⟩⟩ rfl rfl hl.1 rfl (lv_room (Nat.le_of_ble_eq_true rfl)) dX1_at_137 ⟨Nat.le_of_ble_eq_true rfl, Nat.le_of_ble_eq_true rfl⟩) hS (fun q h1 h2 => absurd h2 (Nat.not_le.mpr h1)) (fun q h => hA q (Nat.le_trans hS.1 h)) (fun r_33 _ t_34 H_32 locs ht hvm hw hB hz1 hk1 hS => ?_)
      subst hw
      have hP := us_mono hP (fun q h => hk1 q h (Nat.not_le.mpr h))
      have hk9 : sp_atK p1 p2 p3 nu = 0 := by first | (simp only [sp_atK, sp_refK, sp_minK, eq_true hk_4, eq_false hf_5, eq_false c_9, eq_true hk_13, eq_false hf_14, eq_true k_31, if_true, if_false]; done) | (simp [sp_atK, sp_refK, sp_minK, hk_4, hf_5, c_9, hk_13, hf_14, k_31]; done)
      have hsp : (sp_dr ((sp_ru nu nm F U p2) j) p2) = sp_atR nu (sp_ru nu nm F U p2) p1.toNatClampNeg p2 p3 := by rw [ej, nI_clamp (by omega)]; first | (simp only [sp_atR, eq_true hk_4, eq_false hf_5, eq_false c_9, eq_true hk_13, eq_false hf_14, eq_true k_31, if_true, if_false]; done) | (simp [sp_atR, hk_4, hf_5, c_9, hk_13, hf_14, k_31]; done)
      exact vx_ret ((W.iret (v := (sp_dr ((sp_ru nu nm F U p2) j) p2)) hx hb hr (fun t ht hW => ⟨⟨(sp_dr ((sp_ru nu nm F U p2) j) p2), (), rfl, ⟨hk9, hsp⟩, us_Bx_of ht hP rfl rfl rfl⟩, hS.F ht⟩) hS.2.2 dX1_at_140))
    by_cases k_35 : p3 = 8
    · refine lv_tableIn (tgt := 141) hx hb dX1_at_42 (by rw [k_35]; decide) (by rw [k_35]; decide) (by rw [k_35]; rfl) (by decide) ?_
      refine lv_aload hx hb dX1_at_141 (lv_at hl 0 rfl) ?_
      refine lv_iload_n hx hb dX1_at_143 rfl (lv_at hl 3 rfl) ?_
      refine va_calli (va_runVN (C := RX0) (As := [.int p2]) (rest := []) ⟨hx, hb, hml, hown, htb⟩ (kt_X0_isSendable l dC dI (pa j) H_15.size ((sp_ru nu nm F U p2) j) p2) ⟨va_cnB 1 htb (us_g0 mw_347) rfl rfl rfl (hE.2.2.1 (.methodLinkNest RX1 126 yX0_isSendable "UnitStates") (by decide +kernel)) (htb _ mw_33) (by decide +kernel) ⟨Nat.le_of_ble_eq_true rfl, Nat.le_of_ble_eq_true rfl⟩, htb _ mw_346, htb _ mw_15⟩ ⟨us_Pu_blind, va_recv hK hP (ci := 0) (q0 := 8 + j) rfl (us_W_get hj3), fun U hU hW => ⟨rfl, us_Pu_at (us_W_sub hP hj3) hK hU hW⟩⟩ rfl rfl hl.1 rfl (lv_room (Nat.le_of_ble_eq_true rfl)) dX1_at_144 ⟨Nat.le_of_ble_eq_true rfl, Nat.le_of_ble_eq_true rfl⟩) hS (fun q h1 h2 => absurd h2 (Nat.not_le.mpr h1)) (fun q h => hA q (Nat.le_trans hS.1 h)) (fun r_37 _ t_38 H_36 locs ht hvm hw hB hz1 hk1 hS => ?_)
      subst hw
      have hP := us_mono hP (fun q h => hk1 q h (Nat.not_le.mpr h))
      refine lv_if_eq (tgt := 154) hx hb dX1_at_147 (by decide) (fun c_39 => ?_) (fun c_39 => ?_)
      · refine lv_iconst (v := 0) hx hb dX1_at_154 (by decide) ?_
        have hk9 : sp_atK p1 p2 p3 nu = 0 := by first | (simp only [sp_atK, sp_refK, sp_minK, eq_true hk_4, eq_false hf_5, eq_false c_9, eq_true hk_13, eq_false hf_14, eq_true k_35, eq_true c_39, if_true, if_false]; done) | (simp [sp_atK, sp_refK, sp_minK, hk_4, hf_5, c_9, hk_13, hf_14, k_35, c_39]; done)
        have hsp : 0 = sp_atR nu (sp_ru nu nm F U p2) p1.toNatClampNeg p2 p3 := by rw [ej, nI_clamp (by omega)]; first | (simp only [sp_atR, eq_true hk_4, eq_false hf_5, eq_false c_9, eq_true hk_13, eq_false hf_14, eq_true k_35, eq_true c_39, if_true, if_false]; done) | (simp [sp_atR, hk_4, hf_5, c_9, hk_13, hf_14, k_35, c_39]; done)
        exact vx_ret ((W.iret (v := 0) hx hb hr (fun t ht hW => ⟨⟨0, (), rfl, ⟨hk9, hsp⟩, us_Bx_of ht hP rfl rfl rfl⟩, hS.F ht⟩) hS.2.2 dX1_at_155))
      · refine lv_iconst (v := 1) hx hb dX1_at_150 (by decide) ?_
        refine lv_goto (tgt := 155) hx hb dX1_at_151 (by decide) ?_
        have hk9 : sp_atK p1 p2 p3 nu = 0 := by first | (simp only [sp_atK, sp_refK, sp_minK, eq_true hk_4, eq_false hf_5, eq_false c_9, eq_true hk_13, eq_false hf_14, eq_true k_35, eq_false c_39, if_true, if_false]; done) | (simp [sp_atK, sp_refK, sp_minK, hk_4, hf_5, c_9, hk_13, hf_14, k_35, c_39]; done)
        have hsp : 1 = sp_atR nu (sp_ru nu nm F U p2) p1.toNatClampNeg p2 p3 := by rw [ej, nI_clamp (by omega)]; first | (simp only [sp_atR, eq_true hk_4, eq_false hf_5, eq_false c_9, eq_true hk_13, eq_false hf_14, eq_true k_35, eq_false c_39, if_true, if_false]; done) | (simp [sp_atR, hk_4, hf_5, c_9, hk_13, hf_14, k_35, c_39]; done)
        exact vx_ret ((W.iret (v := 1) hx hb hr (fun t ht hW => ⟨⟨1, (), rfl, ⟨hk9, hsp⟩, us_Bx_of ht hP rfl rfl rfl⟩, hS.F ht⟩) hS.2.2 dX1_at_155))
    have hout_42 : p3.toInt < 0 ∨ 8 < p3.toInt := us_sw (lo := 0) (hi := 8) (fun z h1 h2 => by
      rcases (show z = 0 ∨ z = 1 ∨ z = 2 ∨ z = 3 ∨ z = 4 ∨ z = 5 ∨ z = 6 ∨ z = 7 ∨ z = 8 by omega) with rfl | rfl | rfl | rfl | rfl | rfl | rfl | rfl | rfl
      · exact fun e => k_18 (e.trans (by decide))
      · exact fun e => k_19 (e.trans (by decide))
      · exact fun e => k_20 (e.trans (by decide))
      · exact fun e => k_24 (e.trans (by decide))
      · exact fun e => k_28 (e.trans (by decide))
      · exact fun e => k_29 (e.trans (by decide))
      · exact fun e => k_30 (e.trans (by decide))
      · exact fun e => k_31 (e.trans (by decide))
      · exact fun e => k_35 (e.trans (by decide)))
    refine lv_tableOut (tgt := 156) hx hb dX1_at_42 hout_42 (by decide) ?_
    refine lv_aload_n hx hb dX1_at_156 rfl (lv_at hl 1 rfl) ?_
    refine lv_aload hx hb dX1_at_157 (lv_at hl 0 rfl) ?_
    refine va_calli (va_runV (As := [.ref (pa j)]) (rest := []) ⟨hx, hb, hml, hown, htb⟩ (kt_X1_rankOf l dC dI ad cU cI pa H_15.size nu nm nk (sp_rf nu nm F U p2) (sp_ru nu nm F U p2) j hnu hj3) (cwV 1 htb (us_gV mw_348 mw_350 mw_16 mw_32 mw_351) rfl rfl rfl (by decide +kernel) ⟨Nat.le_of_ble_eq_true rfl, Nat.le_of_ble_eq_true rfl⟩) ⟨us_Px_blind, va_recv hK hP (ci := 1) (q0 := 0) rfl rfl, fun U hU hW => ⟨rfl, us_Px_at hP hK hD hE hS (fun q h => hA q (Nat.le_trans hS.1 h)) hU hW⟩⟩ rfl rfl hl.1 rfl (lv_room (Nat.le_of_ble_eq_true rfl)) dX1_at_159 ⟨Nat.le_of_ble_eq_true rfl, Nat.le_of_ble_eq_true rfl⟩) hS (fun q h1 h2 => absurd h2 (Nat.not_le.mpr h1)) (fun q h => hA q (Nat.le_trans hS.1 h)) (fun r_41 _ t_42 H_40 locs ht hvm hw hB hz1 hk1 hS => ?_)
    obtain ⟨-, hw⟩ := hw
    subst hw
    have hP := us_mono hP (fun q h => hk1 q h (Nat.not_le.mpr h))
    have hk9 : sp_atK p1 p2 p3 nu = 0 := by first | (simp only [sp_atK, sp_refK, sp_minK, eq_true hk_4, eq_false hf_5, eq_false c_9, eq_true hk_13, eq_false hf_14, eq_false k_18, eq_false k_19, eq_false k_20, eq_false k_24, eq_false k_28, eq_false k_29, eq_false k_30, eq_false k_31, eq_false k_35, if_true, if_false]; done) | (simp [sp_atK, sp_refK, sp_minK, hk_4, hf_5, c_9, hk_13, hf_14, k_18, k_19, k_20, k_24, k_28, k_29, k_30, k_31, k_35]; done)
    have hsp : (sp_rank nu (sp_ru nu nm F U p2) j) = sp_atR nu (sp_ru nu nm F U p2) p1.toNatClampNeg p2 p3 := by rw [ej, nI_clamp (by omega)]; first | (simp only [sp_atR, eq_true hk_4, eq_false hf_5, eq_false c_9, eq_true hk_13, eq_false hf_14, eq_false k_18, eq_false k_19, eq_false k_20, eq_false k_24, eq_false k_28, eq_false k_29, eq_false k_30, eq_false k_31, eq_false k_35, if_true, if_false]; done) | (simp [sp_atR, hk_4, hf_5, c_9, hk_13, hf_14, k_18, k_19, k_20, k_24, k_28, k_29, k_30, k_31, k_35]; done)
    exact vx_ret ((W.iret (v := (sp_rank nu (sp_ru nu nm F U p2) j)) hx hb hr (fun t ht hW => ⟨⟨(sp_rank nu (sp_ru nu nm F U p2) j), (), rfl, ⟨hk9, hsp⟩, us_Bx_of ht hP rfl rfl rfl⟩, hS.F ht⟩) hS.2.2 dX1_at_162))
  · obtain ⟨sa_43, hst_sa_43⟩ := hE.2.2.2.2 (RX1, 95, "no such what") (by decide +kernel)
    have hk9 : sp_atK p1 p2 p3 nu = 1 := by first | (simp only [sp_atK, sp_refK, sp_minK, eq_true hk_4, eq_false hf_5, eq_true c_9, if_true, if_false]; done) | (simp [sp_atK, sp_refK, sp_minK, hk_4, hf_5, c_9]; done)
    exact vx_throwS (own := RX1) (cls := "java/lang/IllegalArgumentException") (names := ["java/lang/RuntimeException", "java/lang/Exception"]) hx hb hl9 hown (by decide +kernel) (by decide +kernel) (htb _ mw_253) (htb _ mw_40) hst_sa_43 (vx_hat (L := vx_atS RX1 72 "java/lang/IllegalArgumentException" ["java/lang/RuntimeException", "java/lang/Exception"]) (B := [.castable "java/lang/IllegalArgumentException" "java/lang/IllegalArgumentException", .declares ⟨"java/lang/RuntimeException", "<init>", "(Ljava/lang/String;)V"⟩, .declares ⟨"java/lang/Exception", "<init>", "(Ljava/lang/String;)V"⟩, .declares ⟨"java/lang/Throwable", "<init>", "(Ljava/lang/String;)V"⟩]) (fun w hw => htb w (us_at72 w hw)) us_ab72 (vx_c (va_Nw.use rfl (hE.2.2.1 _ (by decide +kernel))) (vx_c (va_Nw.use rfl (hE.2.2.1 _ (by decide +kernel))) (vx_c (va_Nw.use rfl (hE.2.2.1 _ (by decide +kernel))) (vx_c (va_Nw.use rfl (hE.2.2.1 _ (by decide +kernel))) (vx_n)))))) us_ag72 hE.1 hE.2.1 hS (hl.1.trans hml.symm) dX1_at_14 dX1_at_17 dX1_at_18 dX1_at_20 dX1_at_23 (fun x hx => (hte x hx).elim) (Nat.le_of_ble_eq_true rfl) (Nat.le_of_ble_eq_true rfl) (Nat.le_of_ble_eq_true rfl) (Nat.le_of_ble_eq_true rfl) hlocks (fun t ha hsz hk => ⟨(), (by rw [hk9]; decide), ⟨(by rw [hk9]; rfl), us_Bx_of rfl (us_mono hP (fun q hq => hk q hq)) rfl rfl rfl⟩, Nat.le_trans hS.1 hsz, fun q h1 h2 => (hk q (Nat.lt_of_lt_of_le h1 hS.1)).trans (hS.2.1 q h1 h2)⟩) hS.2.2 (Nat.le_of_ble_eq_true rfl) (Nat.le_of_ble_eq_true rfl)
end
section
set_option maxHeartbeats 8000000 in
set_option maxRecDepth 100000 in
theorem kt_X1_place (l : Launch) (hl9 : l.stackTraces = false) (dC : Nat → ClassId) (dI : Nat → Nat → Nat) (ad : Nat → Nat) (cU cI : ClassId) (pa : Nat → Nat) (sz : Nat) (nu nm : Nat) (nk : Int32) (F U : Nat → Nat → Int32) (p1 : Int32) (p2 : Int32) (hnu : nu ≤ 30) (hnm : nm ≤ 200) (hO : ∀ p, p < nm → ∃ n, n < nm ∧ F 5 p = nI n) (hV : ∀ n, n < nm → ∃ j, j < nu ∧ F 0 n = nI j) : vx_Met l yX1_place wsX1_place ({ frames := 8, cells := 2, slots := 12, locals := 136 }) (va_Pc [.ref (ad 0), .int p1, .int p2] (us_Px dC dI ad cU cI pa nu nm nk F U (us_AA (us_ads ad pa) sz) sz)) (va_Qi (fun r (_ : Unit) => sp_ruK p1 p2 nu = 0 ∧ r = (sp_ru nu nm F U p2) p1.toNatClampNeg 9) (fun _ t => us_Bx dC dI ad cU cI pa nu nm nk (sp_rf nu nm F U p2) (sp_ru nu nm F U p2) t) (us_AA (us_ads ad pa) sz)) (vx_X (fun _ : Unit => ¬ sp_ruK p1 p2 nu = 0) (fun E _ t => E = us_en (sp_ruK p1 p2 nu) ∧ us_Bx dC dI ad cU cI pa nu nm nk F U t) (us_AA (us_ads ad pa) sz)) 2 12 (us_AA (us_ads ad pa) sz) := by
  refine vx_ofW (cc := cX1_place) (maxL := 3) (ret := (some .int)) (by decide) rfl ?_
  intro p e s m args below meth c s₁ B hml hte hv
  obtain ⟨rfl, hsz, hP, hK, hD, hE⟩ := hv
  have hx := B.exec
  have hb := B.bytes
  have hr := B.returns
  have htb := us_htb (atoms_spec (ws := wsX1_place) B.pre)
  have hown : s.vm.findClass RX1 = some m.cls := findClass_of_methodNamed B.named
  have hlocks := B.notSynchronized
  subst hsz
  have hA : ∀ q : Nat, s.heap.size ≤ q → (us_AA (us_ads ad pa) s.heap.size) q := fun q h => Or.inr h
  have hS : va_S (us_AA (us_ads ad pa) s.heap.size) s.heap s.heap [] := va_S.rf
  have hP : va_P (dC, dI) vwCl (us_W ad cU cI pa nu nm nk F U) s.heap := hP
  have hD : va_D (us_AA (us_ads ad pa) s.heap.size) (us_W ad cU cI pa nu nm nk F U) := us_D_aa hD
  have hl := lv_entry ([.ref (ad 0), .int p1, .int p2]) (n := 3) (Nat.le_of_ble_eq_true rfl)
  rw [lg_entry_eq]
  generalize (lg_sl ([.ref (ad 0), .int p1, .int p2]) ++ List.replicate (3 - (lg_sl ([.ref (ad 0), .int p1, .int p2])).length) Slot.unset).toArray = ls at hl ⊢
  have hl : lv_has ls 3 [(0, .ref (ad 0)), (1, .int p1), (2, .int p2)] := hl
  refine lv_aload_n hx hb dX1_place_0 rfl (lv_at hl 0 rfl) ?_
  refine lv_iload_n hx hb dX1_place_1 rfl (lv_at hl 1 rfl) ?_
  refine lv_iload_n hx hb dX1_place_2 rfl (lv_at hl 2 rfl) ?_
  refine us_callr (vx_runV (As := [.int p1, .int p2]) (rest := []) ⟨hx, hb, hml, hown, htb⟩ (kt_X1_replayedUnit l hl9 dC dI ad cU cI pa s.heap.size nu nm nk F U p1 p2 hnu hnm hO hV) (cwV 2 htb (us_gV mw_363 mw_365 mw_18 mw_32 mw_366) rfl rfl rfl (by decide +kernel) ⟨Nat.le_of_ble_eq_true rfl, Nat.le_of_ble_eq_true rfl⟩) ⟨us_Px_blind, va_recv hK hP (ci := 1) (q0 := 0) rfl rfl, fun U hU hW => ⟨rfl, us_Px_at hP hK hD hE hS (us_AA_le hS) hU hW⟩⟩ rfl rfl hl.1 rfl (lv_room (Nat.le_of_ble_eq_true rfl)) dX1_place_3 ⟨Nat.le_of_ble_eq_true rfl, Nat.le_of_ble_eq_true rfl⟩) hS (fun q _ h => us_AA_le hS q h) (us_AA_le hS) (fun q _ h => us_AA_le hS q h) (fun E_t_3 ce_t_3 q_t_3 _ t_3 H_1 locs ht hvm hw hB hz1 hk1 hS hce hcv hcl => ?_) (fun _ r_2 t_3 H_1 locs ht hvm hw hB hz1 hk1 hS => ?_)
  · have hkk := hw
    obtain ⟨hE9, hB⟩ := hB
    have hP := us_Bx_use ht hB
    have hk9 : sp_ruK p1 p2 nu = sp_ruK p1 p2 nu := by first | (simp only [sp_ruK, sp_age, if_true, if_false]; done) | (simp [sp_ruK, sp_age]; done)
    exact vx_out (E := E_t_3) (fun x hx => (hte x hx).elim) hlocks hce hcv hcl (fun t9 ht9 ha => ⟨(), (by rw [hk9]; exact hkk), ⟨(by rw [hk9]; exact hE9), us_Bx_of ht9 hP rfl rfl rfl⟩, hS.F ht9⟩) hS.2.2 (Nat.le_of_ble_eq_true rfl) (Nat.le_of_ble_eq_true rfl)
  have hk0 := hw
  obtain ⟨rfl, hB⟩ := hB
  have hk_4 : sp_ruK p1 p2 nu = 0 := hk0
  have hf_5 : ¬ sp_isU p1 nu = 0 := by intro h9; simp [sp_ruK, h9] at hk_4
  have hf_6 : ¬ sp_in p2 99999 = 0 := by intro h9; simp only [sp_ruK, h9] at hk_4; split at hk_4 <;> cases hk_4
  have hP := us_Bx_use ht hB
  have hD : va_D (us_AA (us_ads ad pa) s.heap.size) (us_W ad cU cI pa nu nm nk (sp_rf nu nm F U p2) (sp_ru nu nm F U p2)) := us_D_of (by rw [us_W_adr, us_W_adr]) hD
  have hP : va_P (dC, dI) vwCl (us_W ad cU cI pa nu nm nk (sp_rf nu nm F U p2) (sp_ru nu nm F U p2)) H_1 := hP
  have hj9 : p1.toNatClampNeg < 30 := us_isU_cl hnu hf_5
  refine us_getUN (v := (sp_ru nu nm F U p2) p1.toNatClampNeg 9) hx hb htb us_inX0 hown hK hP (8 + p1.toNatClampNeg) (us_W_get hj9) 9 (by decide) (va_Nw.use rfl (hE.2.2.1 (.fieldLinkNest RX1 137 "UnitStates$Unit" "lastPlace" "I" "UnitStates") (by decide +kernel))) rfl dX1_place_6 ?_
  have hk9 : sp_ruK p1 p2 nu = 0 := by first | (simp only [sp_ruK, sp_age, eq_true hk_4, eq_false hf_5, eq_false hf_6, if_true, if_false]; done) | (simp [sp_ruK, sp_age, hk_4, hf_5, hf_6]; done)
  have hsp : ((sp_ru nu nm F U p2) p1.toNatClampNeg 9) = (sp_ru nu nm F U p2) p1.toNatClampNeg 9 := by first | (simp only [sp_ruK, sp_age, eq_true hk_4, eq_false hf_5, eq_false hf_6, if_true, if_false]; done) | (simp [sp_ruK, sp_age, hk_4, hf_5, hf_6]; done)
  exact vx_ret ((W.iret (v := ((sp_ru nu nm F U p2) p1.toNatClampNeg 9)) hx hb hr (fun t ht hW => ⟨⟨((sp_ru nu nm F U p2) p1.toNatClampNeg 9), (), rfl, ⟨hk9, hsp⟩, us_Bx_of ht hP rfl rfl rfl⟩, hS.F ht⟩) hS.2.2 dX1_place_9))
set_option maxHeartbeats 8000000 in
set_option maxRecDepth 100000 in
theorem kt_X1_age (l : Launch) (hl9 : l.stackTraces = false) (dC : Nat → ClassId) (dI : Nat → Nat → Nat) (ad : Nat → Nat) (cU cI : ClassId) (pa : Nat → Nat) (sz : Nat) (nu nm : Nat) (nk : Int32) (F U : Nat → Nat → Int32) (p1 : Int32) (p2 : Int32) (hnu : nu ≤ 30) (hnm : nm ≤ 200) (hO : ∀ p, p < nm → ∃ n, n < nm ∧ F 5 p = nI n) (hV : ∀ n, n < nm → ∃ j, j < nu ∧ F 0 n = nI j) : vx_Met l yX1_age wsX1_age ({ frames := 8, cells := 2, slots := 12, locals := 136 }) (va_Pc [.ref (ad 0), .int p1, .int p2] (us_Px dC dI ad cU cI pa nu nm nk F U (us_AA (us_ads ad pa) sz) sz)) (va_Qi (fun r (_ : Unit) => sp_ruK p1 p2 nu = 0 ∧ r = sp_age ((sp_ru nu nm F U p2) p1.toNatClampNeg) p2) (fun _ t => us_Bx dC dI ad cU cI pa nu nm nk (sp_rf nu nm F U p2) (sp_ru nu nm F U p2) t) (us_AA (us_ads ad pa) sz)) (vx_X (fun _ : Unit => ¬ sp_ruK p1 p2 nu = 0) (fun E _ t => E = us_en (sp_ruK p1 p2 nu) ∧ us_Bx dC dI ad cU cI pa nu nm nk F U t) (us_AA (us_ads ad pa) sz)) 2 12 (us_AA (us_ads ad pa) sz) := by
  refine vx_ofW (cc := cX1_age) (maxL := 4) (ret := (some .int)) (by decide) rfl ?_
  intro p e s m args below meth c s₁ B hml hte hv
  obtain ⟨rfl, hsz, hP, hK, hD, hE⟩ := hv
  have hx := B.exec
  have hb := B.bytes
  have hr := B.returns
  have htb := us_htb (atoms_spec (ws := wsX1_age) B.pre)
  have hown : s.vm.findClass RX1 = some m.cls := findClass_of_methodNamed B.named
  have hlocks := B.notSynchronized
  subst hsz
  have hA : ∀ q : Nat, s.heap.size ≤ q → (us_AA (us_ads ad pa) s.heap.size) q := fun q h => Or.inr h
  have hS : va_S (us_AA (us_ads ad pa) s.heap.size) s.heap s.heap [] := va_S.rf
  have hP : va_P (dC, dI) vwCl (us_W ad cU cI pa nu nm nk F U) s.heap := hP
  have hD : va_D (us_AA (us_ads ad pa) s.heap.size) (us_W ad cU cI pa nu nm nk F U) := us_D_aa hD
  have hl := lv_entry ([.ref (ad 0), .int p1, .int p2]) (n := 4) (Nat.le_of_ble_eq_true rfl)
  rw [lg_entry_eq]
  generalize (lg_sl ([.ref (ad 0), .int p1, .int p2]) ++ List.replicate (4 - (lg_sl ([.ref (ad 0), .int p1, .int p2])).length) Slot.unset).toArray = ls at hl ⊢
  have hl : lv_has ls 4 [(0, .ref (ad 0)), (1, .int p1), (2, .int p2)] := hl
  refine lv_aload_n hx hb dX1_age_0 rfl (lv_at hl 0 rfl) ?_
  refine lv_iload_n hx hb dX1_age_1 rfl (lv_at hl 1 rfl) ?_
  refine lv_iload_n hx hb dX1_age_2 rfl (lv_at hl 2 rfl) ?_
  refine us_callr (vx_runV (As := [.int p1, .int p2]) (rest := []) ⟨hx, hb, hml, hown, htb⟩ (kt_X1_replayedUnit l hl9 dC dI ad cU cI pa s.heap.size nu nm nk F U p1 p2 hnu hnm hO hV) (cwV 2 htb (us_gV mw_363 mw_365 mw_18 mw_32 mw_366) rfl rfl rfl (by decide +kernel) ⟨Nat.le_of_ble_eq_true rfl, Nat.le_of_ble_eq_true rfl⟩) ⟨us_Px_blind, va_recv hK hP (ci := 1) (q0 := 0) rfl rfl, fun U hU hW => ⟨rfl, us_Px_at hP hK hD hE hS (us_AA_le hS) hU hW⟩⟩ rfl rfl hl.1 rfl (lv_room (Nat.le_of_ble_eq_true rfl)) dX1_age_3 ⟨Nat.le_of_ble_eq_true rfl, Nat.le_of_ble_eq_true rfl⟩) hS (fun q _ h => us_AA_le hS q h) (us_AA_le hS) (fun q _ h => us_AA_le hS q h) (fun E_t_3 ce_t_3 q_t_3 _ t_3 H_1 locs ht hvm hw hB hz1 hk1 hS hce hcv hcl => ?_) (fun _ r_2 t_3 H_1 locs ht hvm hw hB hz1 hk1 hS => ?_)
  · have hkk := hw
    obtain ⟨hE9, hB⟩ := hB
    have hP := us_Bx_use ht hB
    have hk9 : sp_ruK p1 p2 nu = sp_ruK p1 p2 nu := by first | (simp only [sp_ruK, sp_age, if_true, if_false]; done) | (simp [sp_ruK, sp_age]; done)
    exact vx_out (E := E_t_3) (fun x hx => (hte x hx).elim) hlocks hce hcv hcl (fun t9 ht9 ha => ⟨(), (by rw [hk9]; exact hkk), ⟨(by rw [hk9]; exact hE9), us_Bx_of ht9 hP rfl rfl rfl⟩, hS.F ht9⟩) hS.2.2 (Nat.le_of_ble_eq_true rfl) (Nat.le_of_ble_eq_true rfl)
  have hk0 := hw
  obtain ⟨rfl, hB⟩ := hB
  have hk_4 : sp_ruK p1 p2 nu = 0 := hk0
  have hf_5 : ¬ sp_isU p1 nu = 0 := by intro h9; simp [sp_ruK, h9] at hk_4
  have hf_6 : ¬ sp_in p2 99999 = 0 := by intro h9; simp only [sp_ruK, h9] at hk_4; split at hk_4 <;> cases hk_4
  have hP := us_Bx_use ht hB
  have hD : va_D (us_AA (us_ads ad pa) s.heap.size) (us_W ad cU cI pa nu nm nk (sp_rf nu nm F U p2) (sp_ru nu nm F U p2)) := us_D_of (by rw [us_W_adr, us_W_adr]) hD
  have hP : va_P (dC, dI) vwCl (us_W ad cU cI pa nu nm nk (sp_rf nu nm F U p2) (sp_ru nu nm F U p2)) H_1 := hP
  have hj9 : p1.toNatClampNeg < 30 := us_isU_cl hnu hf_5
  refine lv_astore_n (lv' := [(3, .ref (pa p1.toNatClampNeg)), (0, .ref (ad 0)), (1, .int p1), (2, .int p2)]) hx hb dX1_age_6 rfl hl (by decide) rfl (fun ls hl => ?_)
  refine lv_aload_n hx hb dX1_age_7 rfl (lv_at hl 0 rfl) ?_
  refine us_getUN (v := (sp_ru nu nm F U p2) p1.toNatClampNeg 9) hx hb htb us_inX0 hown hK hP (8 + p1.toNatClampNeg) (us_W_get hj9) 9 (by decide) (va_Nw.use rfl (hE.2.2.1 (.fieldLinkNest RX1 137 "UnitStates$Unit" "lastPlace" "I" "UnitStates") (by decide +kernel))) rfl dX1_age_8 ?_
  refine lv_iconst (v := (-1)) hx hb dX1_age_11 (by decide) ?_
  refine lv_icmp_ne (tgt := 19) hx hb dX1_age_12 (by decide) (fun c_7 => ?_) (fun c_7 => ?_)
  · refine lv_iload_n hx hb dX1_age_19 rfl (lv_at hl 3 rfl) ?_
    refine lv_aload_n hx hb dX1_age_20 rfl (lv_at hl 0 rfl) ?_
    refine us_getUN (v := (sp_ru nu nm F U p2) p1.toNatClampNeg 10) hx hb htb us_inX0 hown hK hP (8 + p1.toNatClampNeg) (us_W_get hj9) 10 (by decide) (va_Nw.use rfl (hE.2.2.1 (.fieldLinkNest RX1 140 "UnitStates$Unit" "lastPlaceMinute" "I" "UnitStates") (by decide +kernel))) rfl dX1_age_21 ?_
    refine lv_isub hx hb dX1_age_24 ?_
    have hk9 : sp_ruK p1 p2 nu = 0 := by first | (simp only [sp_ruK, sp_age, eq_true hk_4, eq_false hf_5, eq_false hf_6, eq_false c_7, if_true, if_false]; done) | (simp [sp_ruK, sp_age, hk_4, hf_5, hf_6, c_7]; done)
    have hsp : (p2 - ((sp_ru nu nm F U p2) p1.toNatClampNeg 10)) = sp_age ((sp_ru nu nm F U p2) p1.toNatClampNeg) p2 := by first | (simp only [sp_ruK, sp_age, eq_true hk_4, eq_false hf_5, eq_false hf_6, eq_false c_7, if_true, if_false]; done) | (simp [sp_ruK, sp_age, hk_4, hf_5, hf_6, c_7]; done)
    exact vx_ret ((W.iret (v := (p2 - ((sp_ru nu nm F U p2) p1.toNatClampNeg 10))) hx hb hr (fun t ht hW => ⟨⟨(p2 - ((sp_ru nu nm F U p2) p1.toNatClampNeg 10)), (), rfl, ⟨hk9, hsp⟩, us_Bx_of ht hP rfl rfl rfl⟩, hS.F ht⟩) hS.2.2 dX1_age_25))
  · refine lv_iconst (v := (-1)) hx hb dX1_age_15 (by decide) ?_
    refine lv_goto (tgt := 25) hx hb dX1_age_16 (by decide) ?_
    have hk9 : sp_ruK p1 p2 nu = 0 := by first | (simp only [sp_ruK, sp_age, eq_true hk_4, eq_false hf_5, eq_false hf_6, eq_true c_7, if_true, if_false]; done) | (simp [sp_ruK, sp_age, hk_4, hf_5, hf_6, c_7]; done)
    have hsp : (-1) = sp_age ((sp_ru nu nm F U p2) p1.toNatClampNeg) p2 := by first | (simp only [sp_ruK, sp_age, eq_true hk_4, eq_false hf_5, eq_false hf_6, eq_true c_7, if_true, if_false]; done) | (simp [sp_ruK, sp_age, hk_4, hf_5, hf_6, c_7]; done)
    exact vx_ret ((W.iret (v := (-1)) hx hb hr (fun t ht hW => ⟨⟨(-1), (), rfl, ⟨hk9, hsp⟩, us_Bx_of ht hP rfl rfl rfl⟩, hS.F ht⟩) hS.2.2 dX1_age_25))
set_option maxHeartbeats 8000000 in
set_option maxRecDepth 100000 in
theorem kt_X1_expected (l : Launch) (hl9 : l.stackTraces = false) (dC : Nat → ClassId) (dI : Nat → Nat → Nat) (ad : Nat → Nat) (cU cI : ClassId) (pa : Nat → Nat) (sz : Nat) (nu nm : Nat) (nk : Int32) (F U : Nat → Nat → Int32) (p1 : Int32) (p2 : Int32) (hnu : nu ≤ 30) (hnm : nm ≤ 200) (hO : ∀ p, p < nm → ∃ n, n < nm ∧ F 5 p = nI n) (hV : ∀ n, n < nm → ∃ j, j < nu ∧ F 0 n = nI j) : vx_Met l yX1_expected wsX1_expected ({ frames := 8, cells := 2, slots := 12, locals := 136 }) (va_Pc [.ref (ad 0), .int p1, .int p2] (us_Px dC dI ad cU cI pa nu nm nk F U (us_AA (us_ads ad pa) sz) sz)) (va_Qi (fun r (_ : Unit) => sp_ruK p1 p2 nu = 0 ∧ r = (sp_ru nu nm F U p2) p1.toNatClampNeg 11) (fun _ t => us_Bx dC dI ad cU cI pa nu nm nk (sp_rf nu nm F U p2) (sp_ru nu nm F U p2) t) (us_AA (us_ads ad pa) sz)) (vx_X (fun _ : Unit => ¬ sp_ruK p1 p2 nu = 0) (fun E _ t => E = us_en (sp_ruK p1 p2 nu) ∧ us_Bx dC dI ad cU cI pa nu nm nk F U t) (us_AA (us_ads ad pa) sz)) 2 12 (us_AA (us_ads ad pa) sz) := by
  refine vx_ofW (cc := cX1_expected) (maxL := 3) (ret := (some .int)) (by decide) rfl ?_
  intro p e s m args below meth c s₁ B hml hte hv
  obtain ⟨rfl, hsz, hP, hK, hD, hE⟩ := hv
  have hx := B.exec
  have hb := B.bytes
  have hr := B.returns
  have htb := us_htb (atoms_spec (ws := wsX1_expected) B.pre)
  have hown : s.vm.findClass RX1 = some m.cls := findClass_of_methodNamed B.named
  have hlocks := B.notSynchronized
  subst hsz
  have hA : ∀ q : Nat, s.heap.size ≤ q → (us_AA (us_ads ad pa) s.heap.size) q := fun q h => Or.inr h
  have hS : va_S (us_AA (us_ads ad pa) s.heap.size) s.heap s.heap [] := va_S.rf
  have hP : va_P (dC, dI) vwCl (us_W ad cU cI pa nu nm nk F U) s.heap := hP
  have hD : va_D (us_AA (us_ads ad pa) s.heap.size) (us_W ad cU cI pa nu nm nk F U) := us_D_aa hD
  have hl := lv_entry ([.ref (ad 0), .int p1, .int p2]) (n := 3) (Nat.le_of_ble_eq_true rfl)
  rw [lg_entry_eq]
  generalize (lg_sl ([.ref (ad 0), .int p1, .int p2]) ++ List.replicate (3 - (lg_sl ([.ref (ad 0), .int p1, .int p2])).length) Slot.unset).toArray = ls at hl ⊢
  have hl : lv_has ls 3 [(0, .ref (ad 0)), (1, .int p1), (2, .int p2)] := hl
  refine lv_aload_n hx hb dX1_expected_0 rfl (lv_at hl 0 rfl) ?_
  refine lv_iload_n hx hb dX1_expected_1 rfl (lv_at hl 1 rfl) ?_
  refine lv_iload_n hx hb dX1_expected_2 rfl (lv_at hl 2 rfl) ?_
  refine us_callr (vx_runV (As := [.int p1, .int p2]) (rest := []) ⟨hx, hb, hml, hown, htb⟩ (kt_X1_replayedUnit l hl9 dC dI ad cU cI pa s.heap.size nu nm nk F U p1 p2 hnu hnm hO hV) (cwV 2 htb (us_gV mw_363 mw_365 mw_18 mw_32 mw_366) rfl rfl rfl (by decide +kernel) ⟨Nat.le_of_ble_eq_true rfl, Nat.le_of_ble_eq_true rfl⟩) ⟨us_Px_blind, va_recv hK hP (ci := 1) (q0 := 0) rfl rfl, fun U hU hW => ⟨rfl, us_Px_at hP hK hD hE hS (us_AA_le hS) hU hW⟩⟩ rfl rfl hl.1 rfl (lv_room (Nat.le_of_ble_eq_true rfl)) dX1_expected_3 ⟨Nat.le_of_ble_eq_true rfl, Nat.le_of_ble_eq_true rfl⟩) hS (fun q _ h => us_AA_le hS q h) (us_AA_le hS) (fun q _ h => us_AA_le hS q h) (fun E_t_3 ce_t_3 q_t_3 _ t_3 H_1 locs ht hvm hw hB hz1 hk1 hS hce hcv hcl => ?_) (fun _ r_2 t_3 H_1 locs ht hvm hw hB hz1 hk1 hS => ?_)
  · have hkk := hw
    obtain ⟨hE9, hB⟩ := hB
    have hP := us_Bx_use ht hB
    have hk9 : sp_ruK p1 p2 nu = sp_ruK p1 p2 nu := by first | (simp only [sp_ruK, sp_age, if_true, if_false]; done) | (simp [sp_ruK, sp_age]; done)
    exact vx_out (E := E_t_3) (fun x hx => (hte x hx).elim) hlocks hce hcv hcl (fun t9 ht9 ha => ⟨(), (by rw [hk9]; exact hkk), ⟨(by rw [hk9]; exact hE9), us_Bx_of ht9 hP rfl rfl rfl⟩, hS.F ht9⟩) hS.2.2 (Nat.le_of_ble_eq_true rfl) (Nat.le_of_ble_eq_true rfl)
  have hk0 := hw
  obtain ⟨rfl, hB⟩ := hB
  have hk_4 : sp_ruK p1 p2 nu = 0 := hk0
  have hf_5 : ¬ sp_isU p1 nu = 0 := by intro h9; simp [sp_ruK, h9] at hk_4
  have hf_6 : ¬ sp_in p2 99999 = 0 := by intro h9; simp only [sp_ruK, h9] at hk_4; split at hk_4 <;> cases hk_4
  have hP := us_Bx_use ht hB
  have hD : va_D (us_AA (us_ads ad pa) s.heap.size) (us_W ad cU cI pa nu nm nk (sp_rf nu nm F U p2) (sp_ru nu nm F U p2)) := us_D_of (by rw [us_W_adr, us_W_adr]) hD
  have hP : va_P (dC, dI) vwCl (us_W ad cU cI pa nu nm nk (sp_rf nu nm F U p2) (sp_ru nu nm F U p2)) H_1 := hP
  have hj9 : p1.toNatClampNeg < 30 := us_isU_cl hnu hf_5
  refine us_getUN (v := (sp_ru nu nm F U p2) p1.toNatClampNeg 11) hx hb htb us_inX0 hown hK hP (8 + p1.toNatClampNeg) (us_W_get hj9) 11 (by decide) (va_Nw.use rfl (hE.2.2.1 (.fieldLinkNest RX1 143 "UnitStates$Unit" "expectedMinute" "I" "UnitStates") (by decide +kernel))) rfl dX1_expected_6 ?_
  have hk9 : sp_ruK p1 p2 nu = 0 := by first | (simp only [sp_ruK, sp_age, eq_true hk_4, eq_false hf_5, eq_false hf_6, if_true, if_false]; done) | (simp [sp_ruK, sp_age, hk_4, hf_5, hf_6]; done)
  have hsp : ((sp_ru nu nm F U p2) p1.toNatClampNeg 11) = (sp_ru nu nm F U p2) p1.toNatClampNeg 11 := by first | (simp only [sp_ruK, sp_age, eq_true hk_4, eq_false hf_5, eq_false hf_6, if_true, if_false]; done) | (simp [sp_ruK, sp_age, hk_4, hf_5, hf_6]; done)
  exact vx_ret ((W.iret (v := ((sp_ru nu nm F U p2) p1.toNatClampNeg 11)) hx hb hr (fun t ht hW => ⟨⟨((sp_ru nu nm F U p2) p1.toNatClampNeg 11), (), rfl, ⟨hk9, hsp⟩, us_Bx_of ht hP rfl rfl rfl⟩, hS.F ht⟩) hS.2.2 dX1_expected_9))
set_option maxHeartbeats 8000000 in
set_option maxRecDepth 100000 in
theorem kt_X1_wrong (l : Launch) (hl9 : l.stackTraces = false) (dC : Nat → ClassId) (dI : Nat → Nat → Nat) (ad : Nat → Nat) (cU cI : ClassId) (pa : Nat → Nat) (sz : Nat) (nu nm : Nat) (nk : Int32) (F U : Nat → Nat → Int32) (p1 : Int32) (hnu : nu ≤ 30) (hnm : nm ≤ 200) (hO : ∀ p, p < nm → ∃ n, n < nm ∧ F 5 p = nI n) (hV : ∀ n, n < nm → ∃ j, j < nu ∧ F 0 n = nI j) : vx_Met l yX1_wrong wsX1_wrong ({ frames := 6, cells := 1, slots := 6, locals := 114 }) (va_Pc [.ref (ad 0), .int p1] (us_Px dC dI ad cU cI pa nu nm nk F U (us_AA (us_ads ad pa) sz) sz)) (va_Qi (fun r (_ : Unit) => sp_wrongK p1 nm = 0 ∧ r = sp_rf nu nm F U 99999 4 p1.toNatClampNeg) (fun _ t => us_Bx dC dI ad cU cI pa nu nm nk (sp_rf nu nm F U 99999) (sp_ru nu nm F U 99999) t) (us_AA (us_ads ad pa) sz)) (vx_X (fun _ : Unit => ¬ sp_wrongK p1 nm = 0) (fun E _ t => E = us_en (sp_wrongK p1 nm) ∧ us_Bx dC dI ad cU cI pa nu nm nk F U t) (us_AA (us_ads ad pa) sz)) 1 6 (us_AA (us_ads ad pa) sz) := by
  refine vx_ofW (cc := cX1_wrong) (maxL := 2) (ret := (some .int)) (by decide) rfl ?_
  intro p e s m args below meth c s₁ B hml hte hv
  obtain ⟨rfl, hsz, hP, hK, hD, hE⟩ := hv
  have hx := B.exec
  have hb := B.bytes
  have hr := B.returns
  have htb := us_htb (atoms_spec (ws := wsX1_wrong) B.pre)
  have hown : s.vm.findClass RX1 = some m.cls := findClass_of_methodNamed B.named
  have hlocks := B.notSynchronized
  subst hsz
  have hA : ∀ q : Nat, s.heap.size ≤ q → (us_AA (us_ads ad pa) s.heap.size) q := fun q h => Or.inr h
  have hS : va_S (us_AA (us_ads ad pa) s.heap.size) s.heap s.heap [] := va_S.rf
  have hP : va_P (dC, dI) vwCl (us_W ad cU cI pa nu nm nk F U) s.heap := hP
  have hD : va_D (us_AA (us_ads ad pa) s.heap.size) (us_W ad cU cI pa nu nm nk F U) := us_D_aa hD
  have hl := lv_entry ([.ref (ad 0), .int p1]) (n := 2) (Nat.le_of_ble_eq_true rfl)
  rw [lg_entry_eq]
  generalize (lg_sl ([.ref (ad 0), .int p1]) ++ List.replicate (2 - (lg_sl ([.ref (ad 0), .int p1])).length) Slot.unset).toArray = ls at hl ⊢
  have hl : lv_has ls 2 [(0, .ref (ad 0)), (1, .int p1)] := hl
  refine lv_iload_n hx hb dX1_wrong_0 rfl (lv_at hl 1 rfl) ?_
  refine lv_if_lt (tgt := 12) hx hb dX1_wrong_1 (by decide) (fun c_1 => ?_) (fun c_1 => ?_)
  · obtain ⟨sa_2, hst_sa_2⟩ := hE.2.2.2.2 (RX1, 146, "no such message") (by decide +kernel)
    have hk9 : sp_wrongK p1 nm = 1 := by first | (simp only [sp_wrongK, eq_true c_1, if_true, if_false]; done) | (simp [sp_wrongK, c_1]; done)
    exact vx_throwS (own := RX1) (cls := "java/lang/IllegalArgumentException") (names := ["java/lang/RuntimeException", "java/lang/Exception"]) hx hb hl9 hown (by decide +kernel) (by decide +kernel) (htb _ mw_253) (htb _ mw_40) hst_sa_2 (vx_hat (L := vx_atS RX1 72 "java/lang/IllegalArgumentException" ["java/lang/RuntimeException", "java/lang/Exception"]) (B := [.castable "java/lang/IllegalArgumentException" "java/lang/IllegalArgumentException", .declares ⟨"java/lang/RuntimeException", "<init>", "(Ljava/lang/String;)V"⟩, .declares ⟨"java/lang/Exception", "<init>", "(Ljava/lang/String;)V"⟩, .declares ⟨"java/lang/Throwable", "<init>", "(Ljava/lang/String;)V"⟩]) (fun w hw => htb w (us_at72 w hw)) us_ab72 (vx_c (va_Nw.use rfl (hE.2.2.1 _ (by decide +kernel))) (vx_c (va_Nw.use rfl (hE.2.2.1 _ (by decide +kernel))) (vx_c (va_Nw.use rfl (hE.2.2.1 _ (by decide +kernel))) (vx_c (va_Nw.use rfl (hE.2.2.1 _ (by decide +kernel))) (vx_n)))))) us_ag72 hE.1 hE.2.1 hS (hl.1.trans hml.symm) dX1_wrong_12 dX1_wrong_15 dX1_wrong_16 dX1_wrong_18 dX1_wrong_21 (fun x hx => (hte x hx).elim) (Nat.le_of_ble_eq_true rfl) (Nat.le_of_ble_eq_true rfl) (Nat.le_of_ble_eq_true rfl) (Nat.le_of_ble_eq_true rfl) hlocks (fun t ha hsz hk => ⟨(), (by rw [hk9]; decide), ⟨(by rw [hk9]; rfl), us_Bx_of rfl (us_mono hP (fun q hq => hk q hq)) rfl rfl rfl⟩, Nat.le_trans hS.1 hsz, fun q h1 h2 => (hk q (Nat.lt_of_lt_of_le h1 hS.1)).trans (hS.2.1 q h1 h2)⟩) hS.2.2 (Nat.le_of_ble_eq_true rfl) (Nat.le_of_ble_eq_true rfl)
  · refine lv_iload_n hx hb dX1_wrong_4 rfl (lv_at hl 1 rfl) ?_
    refine lv_aload_n hx hb dX1_wrong_5 rfl (lv_at hl 0 rfl) ?_
    refine va_get (D := (dC, dI)) (ci := 1) (v := .int (nI nm)) (C := RX1) (T := TX1) (N := 10) hx hb htb us_inX1 hown hK hP 0 rfl rfl 8 (by decide) (htb _ mw_117) (fun _ h9 => h9) rfl dX1_wrong_6 ?_
    refine lv_icmp_lt (tgt := 22) hx hb dX1_wrong_9 (by decide) (fun c_3 => ?_) (fun c_3 => ?_)
    · obtain ⟨j, hj, ej⟩ : ∃ j, j < nm ∧ p1 = nI j := us_lt_spec hnm c_1 c_3
      have hj2 : j < 200 := by omega
      refine lv_aload_n hx hb dX1_wrong_22 rfl (lv_at hl 0 rfl) ?_
      refine lv_ldc (v := 99999) hx hb hown (htb _ mw_273) dX1_wrong_23 ?_
      refine va_callv (va_runV (As := [.int 99999]) (rest := []) ⟨hx, hb, hml, hown, htb⟩ (kt_X1_replay l dC dI ad cU cI pa s.heap.size nu nm nk F U 99999 hnu hnm hO hV) (cwV 1 htb (us_gV mw_297 mw_299 mw_5 mw_32 mw_300) rfl rfl rfl (by decide +kernel) ⟨Nat.le_of_ble_eq_true rfl, Nat.le_of_ble_eq_true rfl⟩) ⟨us_Px_blind, va_recv hK hP (ci := 1) (q0 := 0) rfl rfl, fun U hU hW => ⟨rfl, us_Px_at hP hK hD hE hS (us_AA_le hS) hU hW⟩⟩ rfl rfl hl.1 rfl (lv_room (Nat.le_of_ble_eq_true rfl)) dX1_wrong_25 ⟨Nat.le_of_ble_eq_true rfl, Nat.le_of_ble_eq_true rfl⟩) hS (fun q _ h => us_AA_le hS q h) (us_AA_le hS) (fun _ t_6 H_4 locs ht hvm hw hB hz1 hk1 hS => ?_)
      have hP := us_Bx_use ht hB
      have hD : va_D (us_AA (us_ads ad pa) s.heap.size) (us_W ad cU cI pa nu nm nk (sp_rf nu nm F U 99999) (sp_ru nu nm F U 99999)) := us_D_of (by rw [us_W_adr, us_W_adr]) hD
      have hP : va_P (dC, dI) vwCl (us_W ad cU cI pa nu nm nk (sp_rf nu nm F U 99999) (sp_ru nu nm F U 99999)) H_4 := hP
      refine lv_aload_n hx hb dX1_wrong_28 rfl (lv_at hl 0 rfl) ?_
      refine va_get (D := (dC, dI)) (ci := 1) (v := .ref (ad 6)) (C := RX1) (T := TX1) (N := 10) hx hb htb us_inX1 hown hK hP 0 rfl rfl 6 (by decide) (htb _ mw_115) (fun _ h9 => h9) rfl dX1_wrong_29 ?_
      refine lv_iload_n hx hb dX1_wrong_32 rfl (lv_at hl 1 rfl) ?_
      refine lv_topi (fun i9 ei9 => ?_)
      have ei9 := ei9.trans ej
      subst ei9
      refine us_iald (f := ((sp_rf nu nm F U 99999) 4)) hx hb hK hP 6 1 rfl rfl hj2 (by decide) dX1_wrong_33 ?_
      have hk9 : sp_wrongK p1 nm = 0 := by first | (simp only [sp_wrongK, eq_false c_1, eq_true c_3, if_true, if_false]; done) | (simp [sp_wrongK, c_1, c_3]; done)
      have hsp : (((sp_rf nu nm F U 99999) 4) j) = sp_rf nu nm F U 99999 4 p1.toNatClampNeg := by rw [ej, nI_clamp (by omega)]
      exact vx_ret (W.widen (k := 1) (n := 6) (Nat.le_of_ble_eq_true rfl) (Nat.le_of_ble_eq_true rfl) (W.iret (v := (((sp_rf nu nm F U 99999) 4) j)) hx hb hr (fun t ht hW => ⟨⟨(((sp_rf nu nm F U 99999) 4) j), (), rfl, ⟨hk9, hsp⟩, us_Bx_of ht hP rfl rfl rfl⟩, hS.F ht⟩) hS.2.2 dX1_wrong_34))
    · obtain ⟨sa_7, hst_sa_7⟩ := hE.2.2.2.2 (RX1, 146, "no such message") (by decide +kernel)
      have hk9 : sp_wrongK p1 nm = 1 := by first | (simp only [sp_wrongK, eq_false c_1, eq_false c_3, if_true, if_false]; done) | (simp [sp_wrongK, c_1, c_3]; done)
      exact vx_throwS (own := RX1) (cls := "java/lang/IllegalArgumentException") (names := ["java/lang/RuntimeException", "java/lang/Exception"]) hx hb hl9 hown (by decide +kernel) (by decide +kernel) (htb _ mw_253) (htb _ mw_40) hst_sa_7 (vx_hat (L := vx_atS RX1 72 "java/lang/IllegalArgumentException" ["java/lang/RuntimeException", "java/lang/Exception"]) (B := [.castable "java/lang/IllegalArgumentException" "java/lang/IllegalArgumentException", .declares ⟨"java/lang/RuntimeException", "<init>", "(Ljava/lang/String;)V"⟩, .declares ⟨"java/lang/Exception", "<init>", "(Ljava/lang/String;)V"⟩, .declares ⟨"java/lang/Throwable", "<init>", "(Ljava/lang/String;)V"⟩]) (fun w hw => htb w (us_at72 w hw)) us_ab72 (vx_c (va_Nw.use rfl (hE.2.2.1 _ (by decide +kernel))) (vx_c (va_Nw.use rfl (hE.2.2.1 _ (by decide +kernel))) (vx_c (va_Nw.use rfl (hE.2.2.1 _ (by decide +kernel))) (vx_c (va_Nw.use rfl (hE.2.2.1 _ (by decide +kernel))) (vx_n)))))) us_ag72 hE.1 hE.2.1 hS (hl.1.trans hml.symm) dX1_wrong_12 dX1_wrong_15 dX1_wrong_16 dX1_wrong_18 dX1_wrong_21 (fun x hx => (hte x hx).elim) (Nat.le_of_ble_eq_true rfl) (Nat.le_of_ble_eq_true rfl) (Nat.le_of_ble_eq_true rfl) (Nat.le_of_ble_eq_true rfl) hlocks (fun t ha hsz hk => ⟨(), (by rw [hk9]; decide), ⟨(by rw [hk9]; rfl), us_Bx_of rfl (us_mono hP (fun q hq => hk q hq)) rfl rfl rfl⟩, Nat.le_trans hS.1 hsz, fun q h1 h2 => (hk q (Nat.lt_of_lt_of_le h1 hS.1)).trans (hS.2.1 q h1 h2)⟩) hS.2.2 (Nat.le_of_ble_eq_true rfl) (Nat.le_of_ble_eq_true rfl)
set_option maxHeartbeats 8000000 in
set_option maxRecDepth 100000 in
theorem kt_X1_told (l : Launch) (hl9 : l.stackTraces = false) (dC : Nat → ClassId) (dI : Nat → Nat → Nat) (ad : Nat → Nat) (cU cI : ClassId) (pa : Nat → Nat) (sz : Nat) (nu nm : Nat) (nk : Int32) (F U : Nat → Nat → Int32) (p1 : Int32) (hnu : nu ≤ 30) (hnm : nm ≤ 200) (hO : ∀ p, p < nm → ∃ n, n < nm ∧ F 5 p = nI n) (hV : ∀ n, n < nm → ∃ j, j < nu ∧ F 0 n = nI j) : vx_Met l yX1_told wsX1_told ({ frames := 6, cells := 1, slots := 6, locals := 137 }) (va_Pc [.ref (ad 0), .int p1] (us_Px dC dI ad cU cI pa nu nm nk F U (us_AA (us_ads ad pa) sz) sz)) (va_Qi (fun r (_ : Unit) => sp_toldK p1 = 0 ∧ r = sp_toldR p1 nu nm nk F U) (fun _ t => us_Bx dC dI ad cU cI pa nu nm nk (sp_toldF p1 nu nm F U) (sp_toldU p1 nu nm F U) t) (us_AA (us_ads ad pa) sz)) (vx_X (fun _ : Unit => ¬ sp_toldK p1 = 0) (fun E _ t => E = us_en (sp_toldK p1) ∧ us_Bx dC dI ad cU cI pa nu nm nk F U t) (us_AA (us_ads ad pa) sz)) 1 6 (us_AA (us_ads ad pa) sz) := by
  refine vx_ofW (cc := cX1_told) (maxL := 2) (ret := (some .int)) (by decide) rfl ?_
  intro p e s m args below meth c s₁ B hml hte hv
  obtain ⟨rfl, hsz, hP, hK, hD, hE⟩ := hv
  have hx := B.exec
  have hb := B.bytes
  have hr := B.returns
  have htb := us_htb (atoms_spec (ws := wsX1_told) B.pre)
  have hown : s.vm.findClass RX1 = some m.cls := findClass_of_methodNamed B.named
  have hlocks := B.notSynchronized
  subst hsz
  have hA : ∀ q : Nat, s.heap.size ≤ q → (us_AA (us_ads ad pa) s.heap.size) q := fun q h => Or.inr h
  have hS : va_S (us_AA (us_ads ad pa) s.heap.size) s.heap s.heap [] := va_S.rf
  have hP : va_P (dC, dI) vwCl (us_W ad cU cI pa nu nm nk F U) s.heap := hP
  have hD : va_D (us_AA (us_ads ad pa) s.heap.size) (us_W ad cU cI pa nu nm nk F U) := us_D_aa hD
  have hl := lv_entry ([.ref (ad 0), .int p1]) (n := 2) (Nat.le_of_ble_eq_true rfl)
  rw [lg_entry_eq]
  generalize (lg_sl ([.ref (ad 0), .int p1]) ++ List.replicate (2 - (lg_sl ([.ref (ad 0), .int p1])).length) Slot.unset).toArray = ls at hl ⊢
  have hl : lv_has ls 2 [(0, .ref (ad 0)), (1, .int p1)] := hl
  refine lv_iload_n hx hb dX1_told_0 rfl (lv_at hl 1 rfl) ?_
  by_cases k_1 : p1 = 0
  · refine lv_tableIn (tgt := 44) hx hb dX1_told_1 (by rw [k_1]; decide) (by rw [k_1]; decide) (by rw [k_1]; rfl) (by decide) ?_
    refine lv_aload_n hx hb dX1_told_44 rfl (lv_at hl 0 rfl) ?_
    refine va_get (D := (dC, dI)) (ci := 1) (v := .int nk) (C := RX1) (T := TX1) (N := 10) hx hb htb us_inX1 hown hK hP 0 rfl rfl 9 (by decide) (htb _ mw_118) (fun _ h9 => h9) rfl dX1_told_45 ?_
    have hk9 : sp_toldK p1 = 0 := by first | (simp only [sp_toldK, eq_true k_1, if_true, if_false]; done) | (simp [sp_toldK, k_1]; done)
    have hsp : nk = sp_toldR p1 nu nm nk F U := by simp [sp_toldR, k_1]
    exact vx_ret (W.widen (k := 1) (n := 6) (Nat.le_of_ble_eq_true rfl) (Nat.le_of_ble_eq_true rfl) (W.iret (v := nk) hx hb hr (fun t ht hW => ⟨⟨nk, (), rfl, ⟨hk9, hsp⟩, us_Bx_of ht hP rfl (by simp [sp_toldF, k_1]) (by simp [sp_toldU, k_1])⟩, hS.F ht⟩) hS.2.2 dX1_told_48))
  by_cases k_2 : p1 = 1
  · refine lv_tableIn (tgt := 49) hx hb dX1_told_1 (by rw [k_2]; decide) (by rw [k_2]; decide) (by rw [k_2]; rfl) (by decide) ?_
    refine lv_aload_n hx hb dX1_told_49 rfl (lv_at hl 0 rfl) ?_
    refine lv_iload_n hx hb dX1_told_50 rfl (lv_at hl 1 rfl) ?_
    refine va_calli (va_runV (As := [.int p1]) (rest := []) ⟨hx, hb, hml, hown, htb⟩ (kt_X1_countFindings l dC dI ad cU cI pa s.heap.size nu nm nk F U p1 hnu hnm hO hV) (cwV 1 htb (us_gV mw_396 mw_398 mw_19 mw_32 mw_399) rfl rfl rfl (by decide +kernel) ⟨Nat.le_of_ble_eq_true rfl, Nat.le_of_ble_eq_true rfl⟩) ⟨us_Px_blind, va_recv hK hP (ci := 1) (q0 := 0) rfl rfl, fun U hU hW => ⟨rfl, us_Px_at hP hK hD hE hS (us_AA_le hS) hU hW⟩⟩ rfl rfl hl.1 rfl (lv_room (Nat.le_of_ble_eq_true rfl)) dX1_told_51 ⟨Nat.le_of_ble_eq_true rfl, Nat.le_of_ble_eq_true rfl⟩) hS (fun q _ h => us_AA_le hS q h) (us_AA_le hS) (fun r_4 _ t_5 H_3 locs ht hvm hw hB hz1 hk1 hS => ?_)
    obtain ⟨-, hw⟩ := hw
    subst hw
    have hP := us_Bx_use ht hB
    have hD : va_D (us_AA (us_ads ad pa) s.heap.size) (us_W ad cU cI pa nu nm nk (sp_rf nu nm F U 99999) (sp_ru nu nm F U 99999)) := us_D_of (by rw [us_W_adr, us_W_adr]) hD
    have hP : va_P (dC, dI) vwCl (us_W ad cU cI pa nu nm nk (sp_rf nu nm F U 99999) (sp_ru nu nm F U 99999)) H_3 := hP
    have hk9 : sp_toldK p1 = 0 := by first | (simp only [sp_toldK, eq_true k_2, if_true, if_false]; done) | (simp [sp_toldK, k_2]; done)
    have hsp : (sp_cf (sp_rf nu nm F U 99999 4) p1 nm) = sp_toldR p1 nu nm nk F U := by simp [sp_toldR, k_2]
    exact vx_ret (W.widen (k := 1) (n := 6) (Nat.le_of_ble_eq_true rfl) (Nat.le_of_ble_eq_true rfl) (W.iret (v := (sp_cf (sp_rf nu nm F U 99999 4) p1 nm)) hx hb hr (fun t ht hW => ⟨⟨(sp_cf (sp_rf nu nm F U 99999 4) p1 nm), (), rfl, ⟨hk9, hsp⟩, us_Bx_of ht hP rfl (by simp [sp_toldF, k_2]) (by simp [sp_toldU, k_2])⟩, hS.F ht⟩) hS.2.2 dX1_told_54))
  by_cases k_6 : p1 = 2
  · refine lv_tableIn (tgt := 49) hx hb dX1_told_1 (by rw [k_6]; decide) (by rw [k_6]; decide) (by rw [k_6]; rfl) (by decide) ?_
    refine lv_aload_n hx hb dX1_told_49 rfl (lv_at hl 0 rfl) ?_
    refine lv_iload_n hx hb dX1_told_50 rfl (lv_at hl 1 rfl) ?_
    refine va_calli (va_runV (As := [.int p1]) (rest := []) ⟨hx, hb, hml, hown, htb⟩ (kt_X1_countFindings l dC dI ad cU cI pa s.heap.size nu nm nk F U p1 hnu hnm hO hV) (cwV 1 htb (us_gV mw_396 mw_398 mw_19 mw_32 mw_399) rfl rfl rfl (by decide +kernel) ⟨Nat.le_of_ble_eq_true rfl, Nat.le_of_ble_eq_true rfl⟩) ⟨us_Px_blind, va_recv hK hP (ci := 1) (q0 := 0) rfl rfl, fun U hU hW => ⟨rfl, us_Px_at hP hK hD hE hS (us_AA_le hS) hU hW⟩⟩ rfl rfl hl.1 rfl (lv_room (Nat.le_of_ble_eq_true rfl)) dX1_told_51 ⟨Nat.le_of_ble_eq_true rfl, Nat.le_of_ble_eq_true rfl⟩) hS (fun q _ h => us_AA_le hS q h) (us_AA_le hS) (fun r_8 _ t_9 H_7 locs ht hvm hw hB hz1 hk1 hS => ?_)
    obtain ⟨-, hw⟩ := hw
    subst hw
    have hP := us_Bx_use ht hB
    have hD : va_D (us_AA (us_ads ad pa) s.heap.size) (us_W ad cU cI pa nu nm nk (sp_rf nu nm F U 99999) (sp_ru nu nm F U 99999)) := us_D_of (by rw [us_W_adr, us_W_adr]) hD
    have hP : va_P (dC, dI) vwCl (us_W ad cU cI pa nu nm nk (sp_rf nu nm F U 99999) (sp_ru nu nm F U 99999)) H_7 := hP
    have hk9 : sp_toldK p1 = 0 := by first | (simp only [sp_toldK, eq_true k_6, if_true, if_false]; done) | (simp [sp_toldK, k_6]; done)
    have hsp : (sp_cf (sp_rf nu nm F U 99999 4) p1 nm) = sp_toldR p1 nu nm nk F U := by simp [sp_toldR, k_6]
    exact vx_ret (W.widen (k := 1) (n := 6) (Nat.le_of_ble_eq_true rfl) (Nat.le_of_ble_eq_true rfl) (W.iret (v := (sp_cf (sp_rf nu nm F U 99999 4) p1 nm)) hx hb hr (fun t ht hW => ⟨⟨(sp_cf (sp_rf nu nm F U 99999 4) p1 nm), (), rfl, ⟨hk9, hsp⟩, us_Bx_of ht hP rfl (by simp [sp_toldF, k_6]) (by simp [sp_toldU, k_6])⟩, hS.F ht⟩) hS.2.2 dX1_told_54))
  by_cases k_10 : p1 = 3
  · refine lv_tableIn (tgt := 49) hx hb dX1_told_1 (by rw [k_10]; decide) (by rw [k_10]; decide) (by rw [k_10]; rfl) (by decide) ?_
    refine lv_aload_n hx hb dX1_told_49 rfl (lv_at hl 0 rfl) ?_
    refine lv_iload_n hx hb dX1_told_50 rfl (lv_at hl 1 rfl) ?_
    refine va_calli (va_runV (As := [.int p1]) (rest := []) ⟨hx, hb, hml, hown, htb⟩ (kt_X1_countFindings l dC dI ad cU cI pa s.heap.size nu nm nk F U p1 hnu hnm hO hV) (cwV 1 htb (us_gV mw_396 mw_398 mw_19 mw_32 mw_399) rfl rfl rfl (by decide +kernel) ⟨Nat.le_of_ble_eq_true rfl, Nat.le_of_ble_eq_true rfl⟩) ⟨us_Px_blind, va_recv hK hP (ci := 1) (q0 := 0) rfl rfl, fun U hU hW => ⟨rfl, us_Px_at hP hK hD hE hS (us_AA_le hS) hU hW⟩⟩ rfl rfl hl.1 rfl (lv_room (Nat.le_of_ble_eq_true rfl)) dX1_told_51 ⟨Nat.le_of_ble_eq_true rfl, Nat.le_of_ble_eq_true rfl⟩) hS (fun q _ h => us_AA_le hS q h) (us_AA_le hS) (fun r_12 _ t_13 H_11 locs ht hvm hw hB hz1 hk1 hS => ?_)
    obtain ⟨-, hw⟩ := hw
    subst hw
    have hP := us_Bx_use ht hB
    have hD : va_D (us_AA (us_ads ad pa) s.heap.size) (us_W ad cU cI pa nu nm nk (sp_rf nu nm F U 99999) (sp_ru nu nm F U 99999)) := us_D_of (by rw [us_W_adr, us_W_adr]) hD
    have hP : va_P (dC, dI) vwCl (us_W ad cU cI pa nu nm nk (sp_rf nu nm F U 99999) (sp_ru nu nm F U 99999)) H_11 := hP
    have hk9 : sp_toldK p1 = 0 := by first | (simp only [sp_toldK, eq_true k_10, if_true, if_false]; done) | (simp [sp_toldK, k_10]; done)
    have hsp : (sp_cf (sp_rf nu nm F U 99999 4) p1 nm) = sp_toldR p1 nu nm nk F U := by simp [sp_toldR, k_10]
    exact vx_ret (W.widen (k := 1) (n := 6) (Nat.le_of_ble_eq_true rfl) (Nat.le_of_ble_eq_true rfl) (W.iret (v := (sp_cf (sp_rf nu nm F U 99999 4) p1 nm)) hx hb hr (fun t ht hW => ⟨⟨(sp_cf (sp_rf nu nm F U 99999 4) p1 nm), (), rfl, ⟨hk9, hsp⟩, us_Bx_of ht hP rfl (by simp [sp_toldF, k_10]) (by simp [sp_toldU, k_10])⟩, hS.F ht⟩) hS.2.2 dX1_told_54))
  by_cases k_14 : p1 = 4
  · refine lv_tableIn (tgt := 49) hx hb dX1_told_1 (by rw [k_14]; decide) (by rw [k_14]; decide) (by rw [k_14]; rfl) (by decide) ?_
    refine lv_aload_n hx hb dX1_told_49 rfl (lv_at hl 0 rfl) ?_
    refine lv_iload_n hx hb dX1_told_50 rfl (lv_at hl 1 rfl) ?_
    refine va_calli (va_runV (As := [.int p1]) (rest := []) ⟨hx, hb, hml, hown, htb⟩ (kt_X1_countFindings l dC dI ad cU cI pa s.heap.size nu nm nk F U p1 hnu hnm hO hV) (cwV 1 htb (us_gV mw_396 mw_398 mw_19 mw_32 mw_399) rfl rfl rfl (by decide +kernel) ⟨Nat.le_of_ble_eq_true rfl, Nat.le_of_ble_eq_true rfl⟩) ⟨us_Px_blind, va_recv hK hP (ci := 1) (q0 := 0) rfl rfl, fun U hU hW => ⟨rfl, us_Px_at hP hK hD hE hS (us_AA_le hS) hU hW⟩⟩ rfl rfl hl.1 rfl (lv_room (Nat.le_of_ble_eq_true rfl)) dX1_told_51 ⟨Nat.le_of_ble_eq_true rfl, Nat.le_of_ble_eq_true rfl⟩) hS (fun q _ h => us_AA_le hS q h) (us_AA_le hS) (fun r_16 _ t_17 H_15 locs ht hvm hw hB hz1 hk1 hS => ?_)
    obtain ⟨-, hw⟩ := hw
    subst hw
    have hP := us_Bx_use ht hB
    have hD : va_D (us_AA (us_ads ad pa) s.heap.size) (us_W ad cU cI pa nu nm nk (sp_rf nu nm F U 99999) (sp_ru nu nm F U 99999)) := us_D_of (by rw [us_W_adr, us_W_adr]) hD
    have hP : va_P (dC, dI) vwCl (us_W ad cU cI pa nu nm nk (sp_rf nu nm F U 99999) (sp_ru nu nm F U 99999)) H_15 := hP
    have hk9 : sp_toldK p1 = 0 := by first | (simp only [sp_toldK, eq_true k_14, if_true, if_false]; done) | (simp [sp_toldK, k_14]; done)
    have hsp : (sp_cf (sp_rf nu nm F U 99999 4) p1 nm) = sp_toldR p1 nu nm nk F U := by simp [sp_toldR, k_14]
    exact vx_ret (W.widen (k := 1) (n := 6) (Nat.le_of_ble_eq_true rfl) (Nat.le_of_ble_eq_true rfl) (W.iret (v := (sp_cf (sp_rf nu nm F U 99999 4) p1 nm)) hx hb hr (fun t ht hW => ⟨⟨(sp_cf (sp_rf nu nm F U 99999 4) p1 nm), (), rfl, ⟨hk9, hsp⟩, us_Bx_of ht hP rfl (by simp [sp_toldF, k_14]) (by simp [sp_toldU, k_14])⟩, hS.F ht⟩) hS.2.2 dX1_told_54))
  by_cases k_18 : p1 = 5
  · refine lv_tableIn (tgt := 55) hx hb dX1_told_1 (by rw [k_18]; decide) (by rw [k_18]; decide) (by rw [k_18]; rfl) (by decide) ?_
    refine lv_aload_n hx hb dX1_told_55 rfl (lv_at hl 0 rfl) ?_
    refine va_get (D := (dC, dI)) (ci := 1) (v := .int (nI nm)) (C := RX1) (T := TX1) (N := 10) hx hb htb us_inX1 hown hK hP 0 rfl rfl 8 (by decide) (htb _ mw_117) (fun _ h9 => h9) rfl dX1_told_56 ?_
    have hk9 : sp_toldK p1 = 0 := by first | (simp only [sp_toldK, eq_true k_18, if_true, if_false]; done) | (simp [sp_toldK, k_18]; done)
    have hsp : (nI nm) = sp_toldR p1 nu nm nk F U := by simp [sp_toldR, k_18]
    exact vx_ret (W.widen (k := 1) (n := 6) (Nat.le_of_ble_eq_true rfl) (Nat.le_of_ble_eq_true rfl) (W.iret (v := (nI nm)) hx hb hr (fun t ht hW => ⟨⟨(nI nm), (), rfl, ⟨hk9, hsp⟩, us_Bx_of ht hP rfl (by simp [sp_toldF, k_18]) (by simp [sp_toldU, k_18])⟩, hS.F ht⟩) hS.2.2 dX1_told_59))
  by_cases k_19 : p1 = 6
  · refine lv_tableIn (tgt := 60) hx hb dX1_told_1 (by rw [k_19]; decide) (by rw [k_19]; decide) (by rw [k_19]; rfl) (by decide) ?_
    refine lv_aload_n hx hb dX1_told_60 rfl (lv_at hl 0 rfl) ?_
    refine va_get (D := (dC, dI)) (ci := 1) (v := .int (nI nu)) (C := RX1) (T := TX1) (N := 10) hx hb htb us_inX1 hown hK hP 0 rfl rfl 1 (by decide) (htb _ mw_110) (fun _ h9 => h9) rfl dX1_told_61 ?_
    have hk9 : sp_toldK p1 = 0 := by first | (simp only [sp_toldK, eq_true k_19, if_true, if_false]; done) | (simp [sp_toldK, k_19]; done)
    have hsp : (nI nu) = sp_toldR p1 nu nm nk F U := by simp [sp_toldR, k_19]
    exact vx_ret (W.widen (k := 1) (n := 6) (Nat.le_of_ble_eq_true rfl) (Nat.le_of_ble_eq_true rfl) (W.iret (v := (nI nu)) hx hb hr (fun t ht hW => ⟨⟨(nI nu), (), rfl, ⟨hk9, hsp⟩, us_Bx_of ht hP rfl (by simp [sp_toldF, k_19]) (by simp [sp_toldU, k_19])⟩, hS.F ht⟩) hS.2.2 dX1_told_64))
  have hout_1 : p1.toInt < 0 ∨ 6 < p1.toInt := us_sw (lo := 0) (hi := 6) (fun z h1 h2 => by
    rcases (show z = 0 ∨ z = 1 ∨ z = 2 ∨ z = 3 ∨ z = 4 ∨ z = 5 ∨ z = 6 by omega) with rfl | rfl | rfl | rfl | rfl | rfl | rfl
    · exact fun e => k_1 (e.trans (by decide))
    · exact fun e => k_2 (e.trans (by decide))
    · exact fun e => k_6 (e.trans (by decide))
    · exact fun e => k_10 (e.trans (by decide))
    · exact fun e => k_14 (e.trans (by decide))
    · exact fun e => k_18 (e.trans (by decide))
    · exact fun e => k_19 (e.trans (by decide)))
  refine lv_tableOut (tgt := 65) hx hb dX1_told_1 hout_1 (by decide) ?_
  obtain ⟨sa_20, hst_sa_20⟩ := hE.2.2.2.2 (RX1, 95, "no such what") (by decide +kernel)
  have hk9 : sp_toldK p1 = 1 := by first | (simp only [sp_toldK, eq_false k_1, eq_false k_2, eq_false k_6, eq_false k_10, eq_false k_14, eq_false k_18, eq_false k_19, if_true, if_false]; done) | (simp [sp_toldK, k_1, k_2, k_6, k_10, k_14, k_18, k_19]; done)
  exact vx_throwS (own := RX1) (cls := "java/lang/IllegalArgumentException") (names := ["java/lang/RuntimeException", "java/lang/Exception"]) hx hb hl9 hown (by decide +kernel) (by decide +kernel) (htb _ mw_253) (htb _ mw_40) hst_sa_20 (vx_hat (L := vx_atS RX1 72 "java/lang/IllegalArgumentException" ["java/lang/RuntimeException", "java/lang/Exception"]) (B := [.castable "java/lang/IllegalArgumentException" "java/lang/IllegalArgumentException", .declares ⟨"java/lang/RuntimeException", "<init>", "(Ljava/lang/String;)V"⟩, .declares ⟨"java/lang/Exception", "<init>", "(Ljava/lang/String;)V"⟩, .declares ⟨"java/lang/Throwable", "<init>", "(Ljava/lang/String;)V"⟩]) (fun w hw => htb w (us_at72 w hw)) us_ab72 (vx_c (va_Nw.use rfl (hE.2.2.1 _ (by decide +kernel))) (vx_c (va_Nw.use rfl (hE.2.2.1 _ (by decide +kernel))) (vx_c (va_Nw.use rfl (hE.2.2.1 _ (by decide +kernel))) (vx_c (va_Nw.use rfl (hE.2.2.1 _ (by decide +kernel))) (vx_n)))))) us_ag72 hE.1 hE.2.1 hS (hl.1.trans hml.symm) dX1_told_65 dX1_told_68 dX1_told_69 dX1_told_71 dX1_told_74 (fun x hx => (hte x hx).elim) (Nat.le_of_ble_eq_true rfl) (Nat.le_of_ble_eq_true rfl) (Nat.le_of_ble_eq_true rfl) (Nat.le_of_ble_eq_true rfl) hlocks (fun t ha hsz hk => ⟨(), (by rw [hk9]; decide), ⟨(by rw [hk9]; rfl), us_Bx_of rfl (us_mono hP (fun q hq => hk q hq)) rfl rfl rfl⟩, Nat.le_trans hS.1 hsz, fun q h1 h2 => (hk q (Nat.lt_of_lt_of_le h1 hS.1)).trans (hS.2.1 q h1 h2)⟩) hS.2.2 (Nat.le_of_ble_eq_true rfl) (Nat.le_of_ble_eq_true rfl)
set_option maxHeartbeats 8000000 in
set_option maxRecDepth 100000 in
theorem kt_X1_many (l : Launch) (hl9 : l.stackTraces = false) (dC : Nat → ClassId) (dI : Nat → Nat → Nat) (ad : Nat → Nat) (cU cI : ClassId) (pa : Nat → Nat) (sz : Nat) (nu nm : Nat) (nk : Int32) (F U : Nat → Nat → Int32) (p1 : Int32) (p2 : Int32) (hnu : nu ≤ 30) (hnm : nm ≤ 200) (hO : ∀ p, p < nm → ∃ n, n < nm ∧ F 5 p = nI n) (hV : ∀ n, n < nm → ∃ j, j < nu ∧ F 0 n = nI j) : vx_Met l yX1_many wsX1_many ({ frames := 7, cells := 1, slots := 6, locals := 114 }) (va_Pc [.ref (ad 0), .int p1, .int p2] (us_Px dC dI ad cU cI pa nu nm nk F U (us_AA (us_ads ad pa) sz) sz)) (va_Qi (fun r (_ : Unit) => sp_manyK p1 p2 = 0 ∧ r = sp_many (sp_ru nu nm F U p2) p1 nu) (fun _ t => us_Bx dC dI ad cU cI pa nu nm nk (sp_rf nu nm F U p2) (sp_ru nu nm F U p2) t) (us_AA (us_ads ad pa) sz)) (vx_X (fun _ : Unit => ¬ sp_manyK p1 p2 = 0) (fun E _ t => E = us_en (sp_manyK p1 p2) ∧ us_Bx dC dI ad cU cI pa nu nm nk F U t) (us_AA (us_ads ad pa) sz)) 1 6 (us_AA (us_ads ad pa) sz) := by
  refine vx_ofW (cc := cX1_many) (maxL := 5) (ret := (some .int)) (by decide) rfl ?_
  intro p e s m args below meth c s₁ B hml hte hv
  obtain ⟨rfl, hsz, hP, hK, hD, hE⟩ := hv
  have hx := B.exec
  have hb := B.bytes
  have hr := B.returns
  have htb := us_htb (atoms_spec (ws := wsX1_many) B.pre)
  have hown : s.vm.findClass RX1 = some m.cls := findClass_of_methodNamed B.named
  have hlocks := B.notSynchronized
  subst hsz
  have hA : ∀ q : Nat, s.heap.size ≤ q → (us_AA (us_ads ad pa) s.heap.size) q := fun q h => Or.inr h
  have hS : va_S (us_AA (us_ads ad pa) s.heap.size) s.heap s.heap [] := va_S.rf
  have hP : va_P (dC, dI) vwCl (us_W ad cU cI pa nu nm nk F U) s.heap := hP
  have hD : va_D (us_AA (us_ads ad pa) s.heap.size) (us_W ad cU cI pa nu nm nk F U) := us_D_aa hD
  have hl := lv_entry ([.ref (ad 0), .int p1, .int p2]) (n := 5) (Nat.le_of_ble_eq_true rfl)
  rw [lg_entry_eq]
  generalize (lg_sl ([.ref (ad 0), .int p1, .int p2]) ++ List.replicate (5 - (lg_sl ([.ref (ad 0), .int p1, .int p2])).length) Slot.unset).toArray = ls at hl ⊢
  have hl : lv_has ls 5 [(0, .ref (ad 0)), (1, .int p1), (2, .int p2)] := hl
  have lp33 : ∀ (n i : Nat) (H : Heap) (locs : List Loc) (ls : Array Slot), i + n = nu → va_P (dC, dI) vwCl (us_W ad cU cI pa nu nm nk (sp_rf nu nm F U p2) (sp_ru nu nm F U p2)) H → va_S (us_AA (us_ads ad pa) s.heap.size) s.heap H locs → lv_has ls 5 [(4, .int (nI i)), (3, .int (sp_many (sp_ru nu nm F U p2) p1 i)), (0, .ref (ad 0)), (1, .int p1), (2, .int p2)] → sp_manyK p1 p2 = 0 → W p l e (headSpec wsX1_many ({ frames := 7, cells := 1, slots := 6, locals := 114 })).room s m ([.ref (ad 0), .int p1, .int p2]).toArray below meth c H locs 1 6 (vx_MQ below (va_Qi (fun r (_ : Unit) => sp_manyK p1 p2 = 0 ∧ r = sp_many (sp_ru nu nm F U p2) p1 nu) (fun _ t => us_Bx dC dI ad cU cI pa nu nm nk (sp_rf nu nm F U p2) (sp_ru nu nm F U p2) t) (us_AA (us_ads ad pa) s.heap.size)) (vx_X (fun _ : Unit => ¬ sp_manyK p1 p2 = 0) (fun E _ t => E = us_en (sp_manyK p1 p2) ∧ us_Bx dC dI ad cU cI pa nu nm nk F U t) (us_AA (us_ads ad pa) s.heap.size)) ([.ref (ad 0), .int p1, .int p2]).toArray s 1 6 (us_AA (us_ads ad pa) s.heap.size)) (F0 m 33 ls []) := by
    intro n
    induction n with
    | zero =>
      intro i H locs ls hin hP hS hl hk0
      have hie : i = nu := by omega
      refine lv_iload hx hb dX1_many_33 (lv_at hl 0 rfl) ?_
      refine lv_aload_n hx hb dX1_many_35 rfl (lv_at hl 2 rfl) ?_
      refine va_get (D := (dC, dI)) (ci := 1) (v := .int (nI nu)) (C := RX1) (T := TX1) (N := 10) hx hb htb us_inX1 hown hK hP 0 rfl rfl 1 (by decide) (htb _ mw_110) (fun _ h9 => h9) rfl dX1_many_36 ?_
      refine lv_icmp_ge (tgt := 65) hx hb dX1_many_39 (by decide) (fun c_1 => ?_) (fun c_1 => ?_)
      · refine lv_iload_n hx hb dX1_many_65 rfl (lv_at hl 1 rfl) ?_
        have hk9 : sp_manyK p1 p2 = 0 := by exact hk0
        have hsp : (sp_many (sp_ru nu nm F U p2) p1 i) = sp_many (sp_ru nu nm F U p2) p1 nu := by rw [hie]
        exact vx_ret (W.widen (k := 1) (n := 6) (Nat.le_of_ble_eq_true rfl) (Nat.le_of_ble_eq_true rfl) (W.iret (v := (sp_many (sp_ru nu nm F U p2) p1 i)) hx hb hr (fun t ht hW => ⟨⟨(sp_many (sp_ru nu nm F U p2) p1 i), (), rfl, ⟨hk9, hsp⟩, us_Bx_of ht hP rfl rfl rfl⟩, hS.F ht⟩) hS.2.2 dX1_many_66))
      · exact absurd (nI_le (by omega) (by omega)) c_1
    | succ n ih =>
      intro i H locs ls hin hP hS hl hk0
      have hil : i < nu := by omega
      have hi3 : i < 30 := by omega
      refine lv_iload hx hb dX1_many_33 (lv_at hl 0 rfl) ?_
      refine lv_aload_n hx hb dX1_many_35 rfl (lv_at hl 2 rfl) ?_
      refine va_get (D := (dC, dI)) (ci := 1) (v := .int (nI nu)) (C := RX1) (T := TX1) (N := 10) hx hb htb us_inX1 hown hK hP 0 rfl rfl 1 (by decide) (htb _ mw_110) (fun _ h9 => h9) rfl dX1_many_36 ?_
      refine lv_icmp_ge (tgt := 65) hx hb dX1_many_39 (by decide) (fun c_2 => ?_) (fun c_2 => ?_)
      · exact absurd c_2 (nI_ge (by omega) (by omega))
      · refine lv_aload_n hx hb dX1_many_42 rfl (lv_at hl 2 rfl) ?_
        refine va_get (D := (dC, dI)) (ci := 1) (v := .ref (ad 1)) (C := RX1) (T := TX1) (N := 10) hx hb htb us_inX1 hown hK hP 0 rfl rfl 0 (by decide) (htb _ mw_109) (fun _ h9 => h9) rfl dX1_many_43 ?_
        refine lv_iload hx hb dX1_many_46 (lv_at hl 0 rfl) ?_
        refine us_aald hx hb hK hP 1 0 rfl rfl hi3 (by decide) rfl dX1_many_48 ?_
        refine us_getUN (v := (sp_ru nu nm F U p2) i 2) hx hb htb us_inX0 hown hK hP (8 + i) (us_W_get hi3) 2 (by decide) (va_Nw.use rfl (hE.2.2.1 (.fieldLinkNest RX1 100 "UnitStates$Unit" "state" "I" "UnitStates") (by decide +kernel))) rfl dX1_many_49 ?_
        refine lv_iload_n hx hb dX1_many_52 rfl (lv_at hl 3 rfl) ?_
        refine lv_icmp_ne (tgt := 59) hx hb dX1_many_53 (by decide) (fun c_3 => ?_) (fun c_3 => ?_)
        · refine lv_iinc (v := (nI (i + 1))) (lv' := [(4, .int (nI (i + 1))), (3, .int (sp_many (sp_ru nu nm F U p2) p1 i)), (0, .ref (ad 0)), (1, .int p1), (2, .int p2)]) hx hb dX1_many_59 hl (k := 0) rfl (nI_1 i) (by decide) rfl (fun ls hl => ?_)
          refine lv_goto (tgt := 33) hx hb dX1_many_62 (by decide) ?_
          have e9 : sp_many (sp_ru nu nm F U p2) p1 (i + 1) = sp_many (sp_ru nu nm F U p2) p1 i := by rw [sp_many, if_neg c_3]
          exact ih (i + 1) _ _ _ (by omega) hP hS (by rw [e9]; exact lv_sub hl [0, 1, 2, 3, 4] rfl) hk0
        · refine lv_iinc (v := (sp_many (sp_ru nu nm F U p2) p1 (i + 1))) (lv' := [(3, .int (sp_many (sp_ru nu nm F U p2) p1 (i + 1))), (4, .int (nI i)), (0, .ref (ad 0)), (1, .int p1), (2, .int p2)]) hx hb dX1_many_56 hl (k := 1) rfl (by rw [sp_many, if_pos c_3]; rfl) (by decide) rfl (fun ls hl => ?_)
          refine lv_iinc (v := (nI (i + 1))) (lv' := [(4, .int (nI (i + 1))), (3, .int (sp_many (sp_ru nu nm F U p2) p1 (i + 1))), (0, .ref (ad 0)), (1, .int p1), (2, .int p2)]) hx hb dX1_many_59 hl (k := 1) rfl (nI_1 i) (by decide) rfl (fun ls hl => ?_)
          refine lv_goto (tgt := 33) hx hb dX1_many_62 (by decide) ?_
          exact ih (i + 1) _ _ _ (by omega) hP hS (lv_sub hl [0, 1, 2, 3, 4] rfl) hk0
  refine lv_iload_n hx hb dX1_many_0 rfl (lv_at hl 1 rfl) ?_
  refine lv_bipush (v := 10) hx hb dX1_many_1 (by decide) ?_
  refine va_calli (va_runS (As := [.int p1, .int 10]) (rest := []) ⟨hx, hb, hml, hown, htb⟩ (kt_X1_isWithin l s.heap.size p1 10) (cwS 2 htb (us_gS mw_149 mw_150 mw_32 mw_151) rfl rfl rfl (by decide +kernel) ⟨Nat.le_of_ble_eq_true rfl, Nat.le_of_ble_eq_true rfl⟩) ⟨us_blind0, fun U hU _ => ⟨rfl, congrArg Array.size hU⟩⟩ rfl rfl hl.1 rfl (lv_room (Nat.le_of_ble_eq_true rfl)) dX1_many_3 ⟨Nat.le_of_ble_eq_true rfl, Nat.le_of_ble_eq_true rfl⟩) hS (fun q h1 h2 => absurd h2 (Nat.not_le.mpr h1)) (fun q h => hA q (Nat.le_trans hS.1 h)) (fun r_5 _ t_6 H_4 locs ht hvm hw hB hz1 hk1 hS => ?_)
  obtain ⟨-, hw⟩ := hw
  subst hw
  have hP := us_mono hP (fun q h => hk1 q h (Nat.not_le.mpr h))
  refine lv_if_ne (tgt := 19) hx hb dX1_many_6 (by decide) (fun c_7 => ?_) (fun c_7 => ?_)
  · refine lv_iload_n hx hb dX1_many_19 rfl (lv_at hl 2 rfl) ?_
    refine vx_callv (vx_runS (As := [.int p2]) (rest := []) ⟨hx, hb, hml, hown, htb⟩ (kt_X1_refuseOutsideMinutes l hl9 H_4.size p2) (cwS 1 htb (us_gS mw_270 mw_271 mw_32 mw_272) rfl rfl rfl (by decide +kernel) ⟨Nat.le_of_ble_eq_true rfl, Nat.le_of_ble_eq_true rfl⟩) ⟨us_P0_blind, fun U hU hW => ⟨rfl, us_P0_at hE hS (fun q h => hA q (Nat.le_trans hS.1 h)) hU hW⟩⟩ rfl rfl hl.1 rfl (lv_room (Nat.le_of_ble_eq_true rfl)) dX1_many_20 ⟨Nat.le_of_ble_eq_true rfl, Nat.le_of_ble_eq_true rfl⟩) hS (fun q h1 h2 => absurd h2 (Nat.not_le.mpr h1)) (fun q h => hA q (Nat.le_trans hS.1 h)) (fun q h1 h2 => absurd h2 (Nat.not_le.mpr h1)) (fun E_t_10 ce_t_10 q_t_10 _ t_10 H_8 locs ht hvm hw hB hz1 hk1 hS hce hcv hcl => ?_) (fun _ t_10 H_8 locs ht hvm hw hB hz1 hk1 hS => ?_)
    · have hkk := hw
      have hx9 : sp_in p2 99999 = 0 := by refine Decidable.byContradiction (fun h9 => hkk ?_); simp only [sp_minK, eq_false h9, if_false]
      have hE9 := hB
      have hP := us_mono hP (fun q h => hk1 q h (Nat.not_le.mpr h))
      have hk9 : sp_manyK p1 p2 = sp_minK p2 := by first | (simp only [sp_manyK, sp_minK, eq_false c_7, eq_true hx9, if_true, if_false]; done) | (simp [sp_manyK, sp_minK, c_7, hx9]; done)
      exact vx_out (E := E_t_10) (fun x hx => (hte x hx).elim) hlocks hce hcv hcl (fun t9 ht9 ha => ⟨(), (by rw [hk9]; exact hkk), ⟨(by rw [hk9]; exact hE9), us_Bx_of ht9 hP rfl rfl rfl⟩, hS.F ht9⟩) hS.2.2 (Nat.le_of_ble_eq_true rfl) (Nat.le_of_ble_eq_true rfl)
    have hk0 := hw
    have hk_11 : sp_minK p2 = 0 := hk0
    have hf_12 : ¬ sp_in p2 99999 = 0 := by intro h9; simp [sp_minK, h9] at hk_11
    have hP := us_mono hP (fun q h => hk1 q h (Nat.not_le.mpr h))
    refine lv_aload_n hx hb dX1_many_23 rfl (lv_at hl 0 rfl) ?_
    refine lv_iload_n hx hb dX1_many_24 rfl (lv_at hl 2 rfl) ?_
    refine va_callv (va_runV (As := [.int p2]) (rest := []) ⟨hx, hb, hml, hown, htb⟩ (kt_X1_replay l dC dI ad cU cI pa H_8.size nu nm nk F U p2 hnu hnm hO hV) (cwV 1 htb (us_gV mw_297 mw_299 mw_5 mw_32 mw_300) rfl rfl rfl (by decide +kernel) ⟨Nat.le_of_ble_eq_true rfl, Nat.le_of_ble_eq_true rfl⟩) ⟨us_Px_blind, va_recv hK hP (ci := 1) (q0 := 0) rfl rfl, fun U hU hW => ⟨rfl, us_Px_at hP hK hD hE hS (us_AA_le hS) hU hW⟩⟩ rfl rfl hl.1 rfl (lv_room (Nat.le_of_ble_eq_true rfl)) dX1_many_25 ⟨Nat.le_of_ble_eq_true rfl, Nat.le_of_ble_eq_true rfl⟩) hS (fun q _ h => us_AA_le hS q h) (us_AA_le hS) (fun _ t_15 H_13 locs ht hvm hw hB hz1 hk1 hS => ?_)
    have hP := us_Bx_use ht hB
    have hD : va_D (us_AA (us_ads ad pa) s.heap.size) (us_W ad cU cI pa nu nm nk (sp_rf nu nm F U p2) (sp_ru nu nm F U p2)) := us_D_of (by rw [us_W_adr, us_W_adr]) hD
    have hP : va_P (dC, dI) vwCl (us_W ad cU cI pa nu nm nk (sp_rf nu nm F U p2) (sp_ru nu nm F U p2)) H_13 := hP
    refine lv_iconst (v := 0) hx hb dX1_many_28 (by decide) ?_
    refine lv_istore_n (lv' := [(3, .int 0), (0, .ref (ad 0)), (1, .int p1), (2, .int p2)]) hx hb dX1_many_29 rfl hl (by decide) rfl (fun ls hl => ?_)
    refine lv_iconst (v := 0) hx hb dX1_many_30 (by decide) ?_
    refine lv_istore (lv' := [(4, .int 0), (3, .int 0), (0, .ref (ad 0)), (1, .int p1), (2, .int p2)]) hx hb dX1_many_31 hl (by decide) rfl (fun ls hl => ?_)
    exact lp33 nu 0 _ _ _ (by omega) hP hS (lv_sub hl [0, 1, 2, 3, 4] rfl) (by simp [sp_manyK, c_7, hk_11, hf_12])
  · obtain ⟨sa_16, hst_sa_16⟩ := hE.2.2.2.2 (RX1, 152, "no such state") (by decide +kernel)
    have hk9 : sp_manyK p1 p2 = 1 := by first | (simp only [sp_manyK, sp_minK, eq_true c_7, if_true, if_false]; done) | (simp [sp_manyK, sp_minK, c_7]; done)
    exact vx_throwS (own := RX1) (cls := "java/lang/IllegalArgumentException") (names := ["java/lang/RuntimeException", "java/lang/Exception"]) hx hb hl9 hown (by decide +kernel) (by decide +kernel) (htb _ mw_253) (htb _ mw_40) hst_sa_16 (vx_hat (L := vx_atS RX1 72 "java/lang/IllegalArgumentException" ["java/lang/RuntimeException", "java/lang/Exception"]) (B := [.castable "java/lang/IllegalArgumentException" "java/lang/IllegalArgumentException", .declares ⟨"java/lang/RuntimeException", "<init>", "(Ljava/lang/String;)V"⟩, .declares ⟨"java/lang/Exception", "<init>", "(Ljava/lang/String;)V"⟩, .declares ⟨"java/lang/Throwable", "<init>", "(Ljava/lang/String;)V"⟩]) (fun w hw => htb w (us_at72 w hw)) us_ab72 (vx_c (va_Nw.use rfl (hE.2.2.1 _ (by decide +kernel))) (vx_c (va_Nw.use rfl (hE.2.2.1 _ (by decide +kernel))) (vx_c (va_Nw.use rfl (hE.2.2.1 _ (by decide +kernel))) (vx_c (va_Nw.use rfl (hE.2.2.1 _ (by decide +kernel))) (vx_n)))))) us_ag72 hE.1 hE.2.1 hS (hl.1.trans hml.symm) dX1_many_9 dX1_many_12 dX1_many_13 dX1_many_15 dX1_many_18 (fun x hx => (hte x hx).elim) (Nat.le_of_ble_eq_true rfl) (Nat.le_of_ble_eq_true rfl) (Nat.le_of_ble_eq_true rfl) (Nat.le_of_ble_eq_true rfl) hlocks (fun t ha hsz hk => ⟨(), (by rw [hk9]; decide), ⟨(by rw [hk9]; rfl), us_Bx_of rfl (us_mono hP (fun q hq => hk q hq)) rfl rfl rfl⟩, Nat.le_trans hS.1 hsz, fun q h1 h2 => (hk q (Nat.lt_of_lt_of_le h1 hS.1)).trans (hS.2.1 q h1 h2)⟩) hS.2.2 (Nat.le_of_ble_eq_true rfl) (Nat.le_of_ble_eq_true rfl)
set_option maxHeartbeats 8000000 in
set_option maxRecDepth 100000 in
theorem kt_X1_arrived (l : Launch) (hl9 : l.stackTraces = false) (dC : Nat → ClassId) (dI : Nat → Nat → Nat) (ad : Nat → Nat) (cU cI : ClassId) (pa : Nat → Nat) (sz : Nat) (nu nm : Nat) (nk : Int32) (F U : Nat → Nat → Int32) (p1 : Int32) (p2 : Int32) (p3 : Int32) (hnu : nu ≤ 30) (hnm : nm ≤ 200) (hO : ∀ p, p < nm → ∃ n, n < nm ∧ F 5 p = nI n) (hV : ∀ n, n < nm → ∃ j, j < nu ∧ F 0 n = nI j) : vx_Met l yX1_arrived wsX1_arrived ({ frames := 7, cells := 2, slots := 12, locals := 114 }) (va_Pc [.ref (ad 0), .int p1, .int p2, .int p3] (us_Px dC dI ad cU cI pa nu nm nk F U (us_AA (us_ads ad pa) sz) sz)) (va_Qi (fun r (_ : Unit) => sp_arrK p1 p2 p3 = 0 ∧ r = sp_arr nu (sp_ru nu nm F U p3) p1 p2 nu 0) (fun _ t => us_Bx dC dI ad cU cI pa nu nm nk (sp_rf nu nm F U p3) (sp_ru nu nm F U p3) t) (us_AA (us_ads ad pa) sz)) (vx_X (fun _ : Unit => ¬ sp_arrK p1 p2 p3 = 0) (fun E _ t => E = us_en (sp_arrK p1 p2 p3) ∧ us_Bx dC dI ad cU cI pa nu nm nk F U t) (us_AA (us_ads ad pa) sz)) 2 12 (us_AA (us_ads ad pa) sz) := by
  refine vx_ofW (cc := cX1_arrived) (maxL := 5) (ret := (some .int)) (by decide) rfl ?_
  intro p e s m args below meth c s₁ B hml hte hv
  obtain ⟨rfl, hsz, hP, hK, hD, hE⟩ := hv
  have hx := B.exec
  have hb := B.bytes
  have hr := B.returns
  have htb := us_htb (atoms_spec (ws := wsX1_arrived) B.pre)
  have hown : s.vm.findClass RX1 = some m.cls := findClass_of_methodNamed B.named
  have hlocks := B.notSynchronized
  subst hsz
  have hA : ∀ q : Nat, s.heap.size ≤ q → (us_AA (us_ads ad pa) s.heap.size) q := fun q h => Or.inr h
  have hS : va_S (us_AA (us_ads ad pa) s.heap.size) s.heap s.heap [] := va_S.rf
  have hP : va_P (dC, dI) vwCl (us_W ad cU cI pa nu nm nk F U) s.heap := hP
  have hD : va_D (us_AA (us_ads ad pa) s.heap.size) (us_W ad cU cI pa nu nm nk F U) := us_D_aa hD
  have hl := lv_entry ([.ref (ad 0), .int p1, .int p2, .int p3]) (n := 5) (Nat.le_of_ble_eq_true rfl)
  rw [lg_entry_eq]
  generalize (lg_sl ([.ref (ad 0), .int p1, .int p2, .int p3]) ++ List.replicate (5 - (lg_sl ([.ref (ad 0), .int p1, .int p2, .int p3])).length) Slot.unset).toArray = ls at hl ⊢
  have hl : lv_has ls 5 [(0, .ref (ad 0)), (1, .int p1), (2, .int p2), (3, .int p3)] := hl
  have lp46 : ∀ (n i : Nat) (H : Heap) (locs : List Loc) (ls : Array Slot), i + n = nu → sp_arr nu (sp_ru nu nm F U p3) p1 p2 n i = sp_arr nu (sp_ru nu nm F U p3) p1 p2 nu 0 → va_P (dC, dI) vwCl (us_W ad cU cI pa nu nm nk (sp_rf nu nm F U p3) (sp_ru nu nm F U p3)) H → va_D (us_AA (us_ads ad pa) s.heap.size) (us_W ad cU cI pa nu nm nk (sp_rf nu nm F U p3) (sp_ru nu nm F U p3)) → va_S (us_AA (us_ads ad pa) s.heap.size) s.heap H locs → lv_has ls 5 [(4, .int (nI i)), (0, .ref (ad 0)), (1, .int p1), (2, .int p2), (3, .int p3)] → sp_arrK p1 p2 p3 = 0 → W p l e (headSpec wsX1_arrived ({ frames := 7, cells := 2, slots := 12, locals := 114 })).room s m ([.ref (ad 0), .int p1, .int p2, .int p3]).toArray below meth c H locs 1 6 (vx_MQ below (va_Qi (fun r (_ : Unit) => sp_arrK p1 p2 p3 = 0 ∧ r = sp_arr nu (sp_ru nu nm F U p3) p1 p2 nu 0) (fun _ t => us_Bx dC dI ad cU cI pa nu nm nk (sp_rf nu nm F U p3) (sp_ru nu nm F U p3) t) (us_AA (us_ads ad pa) s.heap.size)) (vx_X (fun _ : Unit => ¬ sp_arrK p1 p2 p3 = 0) (fun E _ t => E = us_en (sp_arrK p1 p2 p3) ∧ us_Bx dC dI ad cU cI pa nu nm nk F U t) (us_AA (us_ads ad pa) s.heap.size)) ([.ref (ad 0), .int p1, .int p2, .int p3]).toArray s 2 12 (us_AA (us_ads ad pa) s.heap.size)) (F0 m 46 ls []) := by
    intro n
    induction n with
    | zero =>
      intro i H locs ls hin hR hP hD hS hl hk0
      have hie : i = nu := by omega
      refine lv_iload hx hb dX1_arrived_46 (lv_at hl 0 rfl) ?_
      refine lv_aload_n hx hb dX1_arrived_48 rfl (lv_at hl 1 rfl) ?_
      refine va_get (D := (dC, dI)) (ci := 1) (v := .int (nI nu)) (C := RX1) (T := TX1) (N := 10) hx hb htb us_inX1 hown hK hP 0 rfl rfl 1 (by decide) (htb _ mw_110) (fun _ h9 => h9) rfl dX1_arrived_49 ?_
      refine lv_icmp_ge (tgt := 93) hx hb dX1_arrived_52 (by decide) (fun c_1 => ?_) (fun c_1 => ?_)
      · refine lv_iconst (v := (-1)) hx hb dX1_arrived_93 (by decide) ?_
        have hk9 : sp_arrK p1 p2 p3 = 0 := by exact hk0
        have hsp : (-1) = sp_arr nu (sp_ru nu nm F U p3) p1 p2 nu 0 := by exact hR
        exact vx_ret (W.widen (k := 2) (n := 12) (Nat.le_of_ble_eq_true rfl) (Nat.le_of_ble_eq_true rfl) (W.iret (v := (-1)) hx hb hr (fun t ht hW => ⟨⟨(-1), (), rfl, ⟨hk9, hsp⟩, us_Bx_of ht hP rfl rfl rfl⟩, hS.F ht⟩) hS.2.2 dX1_arrived_94))
      · exact absurd (nI_le (by omega) (by omega)) c_1
    | succ n ih =>
      intro i H locs ls hin hR hP hD hS hl hk0
      have hil : i < nu := by omega
      have hi3 : i < 30 := by omega
      refine lv_iload hx hb dX1_arrived_46 (lv_at hl 0 rfl) ?_
      refine lv_aload_n hx hb dX1_arrived_48 rfl (lv_at hl 1 rfl) ?_
      refine va_get (D := (dC, dI)) (ci := 1) (v := .int (nI nu)) (C := RX1) (T := TX1) (N := 10) hx hb htb us_inX1 hown hK hP 0 rfl rfl 1 (by decide) (htb _ mw_110) (fun _ h9 => h9) rfl dX1_arrived_49 ?_
      refine lv_icmp_ge (tgt := 93) hx hb dX1_arrived_52 (by decide) (fun c_2 => ?_) (fun c_2 => ?_)
      · exact absurd c_2 (nI_ge (by omega) (by omega))
      · refine lv_aload_n hx hb dX1_arrived_55 rfl (lv_at hl 1 rfl) ?_
        refine va_get (D := (dC, dI)) (ci := 1) (v := .ref (ad 1)) (C := RX1) (T := TX1) (N := 10) hx hb htb us_inX1 hown hK hP 0 rfl rfl 0 (by decide) (htb _ mw_109) (fun _ h9 => h9) rfl dX1_arrived_56 ?_
        refine lv_iload hx hb dX1_arrived_59 (lv_at hl 0 rfl) ?_
        refine us_aald hx hb hK hP 1 0 rfl rfl hi3 (by decide) rfl dX1_arrived_61 ?_
        refine lv_iload_n hx hb dX1_arrived_62 rfl (lv_at hl 2 rfl) ?_
        refine va_calli (va_runVN (C := RX0) (As := [.int p1]) (rest := []) ⟨hx, hb, hml, hown, htb⟩ (kt_X0_isThereAt l dC dI (pa i) H.size ((sp_ru nu nm F U p3) i) p1) ⟨va_cnB 1 htb (us_g0 mw_355) rfl rfl rfl (hE.2.2.1 (.methodLinkNest RX1 158 yX0_isThereAt "UnitStates") (by decide +kernel)) (htb _ mw_33) (by decide +kernel) ⟨Nat.le_of_ble_eq_true rfl, Nat.le_of_ble_eq_true rfl⟩, htb _ mw_354, htb _ mw_17⟩ ⟨us_Pu_blind, va_recv hK hP (ci := 0) (q0 := 8 + i) rfl (us_W_get hi3), fun U hU hW => ⟨rfl, us_Pu_at (us_W_sub hP hi3) hK hU hW⟩⟩ rfl rfl hl.1 rfl (lv_room (Nat.le_of_ble_eq_true rfl)) dX1_arrived_63 ⟨Nat.le_of_ble_eq_true rfl, Nat.le_of_ble_eq_true rfl⟩) hS (fun q h1 h2 => absurd h2 (Nat.not_le.mpr h1)) (fun q h => hA q (Nat.le_trans hS.1 h)) (fun r_4 _ t_5 H_3 locs ht hvm hw hB hz1 hk1 hS => ?_)
        subst hw
        have hP := us_mono hP (fun q h => hk1 q h (Nat.not_le.mpr h))
        refine lv_if_eq (tgt := 87) hx hb dX1_arrived_66 (by decide) (fun c_6 => ?_) (fun c_6 => ?_)
        · refine lv_iinc (v := (nI (i + 1))) (lv' := [(4, .int (nI (i + 1))), (0, .ref (ad 0)), (1, .int p1), (2, .int p2), (3, .int p3)]) hx hb dX1_arrived_87 hl (k := 0) rfl (nI_1 i) (by decide) rfl (fun ls hl => ?_)
          refine lv_goto (tgt := 46) hx hb dX1_arrived_90 (by decide) ?_
          have e9 : sp_arr nu (sp_ru nu nm F U p3) p1 p2 (n + 1) i = sp_arr nu (sp_ru nu nm F U p3) p1 p2 n (i + 1) := by rw [sp_arr, if_pos c_6]
          exact ih (i + 1) _ _ _ (by omega) (by rw [← e9]; exact hR) hP hD hS (lv_sub hl [0, 1, 2, 3, 4] rfl) hk0
        · refine lv_aload_n hx hb dX1_arrived_69 rfl (lv_at hl 1 rfl) ?_
          refine lv_aload_n hx hb dX1_arrived_70 rfl (lv_at hl 1 rfl) ?_
          refine va_get (D := (dC, dI)) (ci := 1) (v := .ref (ad 1)) (C := RX1) (T := TX1) (N := 10) hx hb htb us_inX1 hown hK hP 0 rfl rfl 0 (by decide) (htb _ mw_109) (fun _ h9 => h9) rfl dX1_arrived_71 ?_
          refine lv_iload hx hb dX1_arrived_74 (lv_at hl 0 rfl) ?_
          refine us_aald hx hb hK hP 1 0 rfl rfl hi3 (by decide) rfl dX1_arrived_76 ?_
          refine va_calli (va_runV (As := [.ref (pa i)]) (rest := []) ⟨hx, hb, hml, hown, htb⟩ (kt_X1_rankOf l dC dI ad cU cI pa H_3.size nu nm nk (sp_rf nu nm F U p3) (sp_ru nu nm F U p3) i hnu hi3) (cwV 1 htb (us_gV mw_348 mw_350 mw_16 mw_32 mw_351) rfl rfl rfl (by decide +kernel) ⟨Nat.le_of_ble_eq_true rfl, Nat.le_of_ble_eq_true rfl⟩) ⟨us_Px_blind, va_recv hK hP (ci := 1) (q0 := 0) rfl rfl, fun U hU hW => ⟨rfl, us_Px_at hP hK hD hE hS (fun q h => hA q (Nat.le_trans hS.1 h)) hU hW⟩⟩ rfl rfl hl.1 rfl (lv_room (Nat.le_of_ble_eq_true rfl)) dX1_arrived_77 ⟨Nat.le_of_ble_eq_true rfl, Nat.le_of_ble_eq_true rfl⟩) hS (fun q h1 h2 => absurd h2 (Nat.not_le.mpr h1)) (fun q h => hA q (Nat.le_trans hS.1 h)) (fun r_8 _ t_9 H_7 locs ht hvm hw hB hz1 hk1 hS => ?_)
          obtain ⟨-, hw⟩ := hw
          subst hw
          have hP := us_mono hP (fun q h => hk1 q h (Nat.not_le.mpr h))
          refine lv_iload_n hx hb dX1_arrived_80 rfl (lv_at hl 3 rfl) ?_
          refine lv_icmp_ne (tgt := 87) hx hb dX1_arrived_81 (by decide) (fun c_10 => ?_) (fun c_10 => ?_)
          · refine lv_iinc (v := (nI (i + 1))) (lv' := [(4, .int (nI (i + 1))), (0, .ref (ad 0)), (1, .int p1), (2, .int p2), (3, .int p3)]) hx hb dX1_arrived_87 hl (k := 0) rfl (nI_1 i) (by decide) rfl (fun ls hl => ?_)
            refine lv_goto (tgt := 46) hx hb dX1_arrived_90 (by decide) ?_
            have e9 : sp_arr nu (sp_ru nu nm F U p3) p1 p2 (n + 1) i = sp_arr nu (sp_ru nu nm F U p3) p1 p2 n (i + 1) := by rw [sp_arr, if_neg c_6, if_neg c_10]
            exact ih (i + 1) _ _ _ (by omega) (by rw [← e9]; exact hR) hP hD hS (lv_sub hl [0, 1, 2, 3, 4] rfl) hk0
          · refine lv_iload hx hb dX1_arrived_84 (lv_at hl 0 rfl) ?_
            have hk9 : sp_arrK p1 p2 p3 = 0 := by exact hk0
            have hsp : (nI i) = sp_arr nu (sp_ru nu nm F U p3) p1 p2 nu 0 := by rw [← hR, sp_arr, if_neg c_6, if_pos c_10]
            exact vx_ret (W.widen (k := 2) (n := 12) (Nat.le_of_ble_eq_true rfl) (Nat.le_of_ble_eq_true rfl) (W.iret (v := (nI i)) hx hb hr (fun t ht hW => ⟨⟨(nI i), (), rfl, ⟨hk9, hsp⟩, us_Bx_of ht hP rfl rfl rfl⟩, hS.F ht⟩) hS.2.2 dX1_arrived_86))
  refine lv_iload_n hx hb dX1_arrived_0 rfl (lv_at hl 1 rfl) ?_
  refine lv_bipush (v := 19) hx hb dX1_arrived_1 (by decide) ?_
  refine va_calli (va_runS (As := [.int p1, .int 19]) (rest := []) ⟨hx, hb, hml, hown, htb⟩ (kt_X1_isWithin l s.heap.size p1 19) (cwS 2 htb (us_gS mw_149 mw_150 mw_32 mw_151) rfl rfl rfl (by decide +kernel) ⟨Nat.le_of_ble_eq_true rfl, Nat.le_of_ble_eq_true rfl⟩) ⟨us_blind0, fun U hU _ => ⟨rfl, congrArg Array.size hU⟩⟩ rfl rfl hl.1 rfl (lv_room (Nat.le_of_ble_eq_true rfl)) dX1_arrived_3 ⟨Nat.le_of_ble_eq_true rfl, Nat.le_of_ble_eq_true rfl⟩) hS (fun q h1 h2 => absurd h2 (Nat.not_le.mpr h1)) (fun q h => hA q (Nat.le_trans hS.1 h)) (fun r_12 _ t_13 H_11 locs ht hvm hw hB hz1 hk1 hS => ?_)
  obtain ⟨-, hw⟩ := hw
  subst hw
  have hP := us_mono hP (fun q h => hk1 q h (Nat.not_le.mpr h))
  refine lv_if_ne (tgt := 19) hx hb dX1_arrived_6 (by decide) (fun c_14 => ?_) (fun c_14 => ?_)
  · refine lv_iload_n hx hb dX1_arrived_19 rfl (lv_at hl 3 rfl) ?_
    refine vx_callv (vx_runS (As := [.int p3]) (rest := []) ⟨hx, hb, hml, hown, htb⟩ (kt_X1_refuseOutsideMinutes l hl9 H_11.size p3) (cwS 1 htb (us_gS mw_270 mw_271 mw_32 mw_272) rfl rfl rfl (by decide +kernel) ⟨Nat.le_of_ble_eq_true rfl, Nat.le_of_ble_eq_true rfl⟩) ⟨us_P0_blind, fun U hU hW => ⟨rfl, us_P0_at hE hS (fun q h => hA q (Nat.le_trans hS.1 h)) hU hW⟩⟩ rfl rfl hl.1 rfl (lv_room (Nat.le_of_ble_eq_true rfl)) dX1_arrived_20 ⟨Nat.le_of_ble_eq_true rfl, Nat.le_of_ble_eq_true rfl⟩) hS (fun q h1 h2 => absurd h2 (Nat.not_le.mpr h1)) (fun q h => hA q (Nat.le_trans hS.1 h)) (fun q h1 h2 => absurd h2 (Nat.not_le.mpr h1)) (fun E_t_17 ce_t_17 q_t_17 _ t_17 H_15 locs ht hvm hw hB hz1 hk1 hS hce hcv hcl => ?_) (fun _ t_17 H_15 locs ht hvm hw hB hz1 hk1 hS => ?_)
    · have hkk := hw
      have hx9 : sp_in p3 99999 = 0 := by refine Decidable.byContradiction (fun h9 => hkk ?_); simp only [sp_minK, eq_false h9, if_false]
      have hE9 := hB
      have hP := us_mono hP (fun q h => hk1 q h (Nat.not_le.mpr h))
      have hk9 : sp_arrK p1 p2 p3 = sp_minK p3 := by first | (simp only [sp_arrK, sp_minK, eq_false c_14, eq_true hx9, if_true, if_false]; done) | (simp [sp_arrK, sp_minK, c_14, hx9]; done)
      exact vx_out (E := E_t_17) (fun x hx => (hte x hx).elim) hlocks hce hcv hcl (fun t9 ht9 ha => ⟨(), (by rw [hk9]; exact hkk), ⟨(by rw [hk9]; exact hE9), us_Bx_of ht9 hP rfl rfl rfl⟩, hS.F ht9⟩) hS.2.2 (Nat.le_of_ble_eq_true rfl) (Nat.le_of_ble_eq_true rfl)
    have hk0 := hw
    have hk_18 : sp_minK p3 = 0 := hk0
    have hf_19 : ¬ sp_in p3 99999 = 0 := by intro h9; simp [sp_minK, h9] at hk_18
    have hP := us_mono hP (fun q h => hk1 q h (Nat.not_le.mpr h))
    refine lv_iload_n hx hb dX1_arrived_23 rfl (lv_at hl 2 rfl) ?_
    refine lv_iconst (v := 1) hx hb dX1_arrived_24 (by decide) ?_
    refine lv_icmp_ge (tgt := 38) hx hb dX1_arrived_25 (by decide) (fun c_20 => ?_) (fun c_20 => ?_)
    · refine lv_aload_n hx hb dX1_arrived_38 rfl (lv_at hl 0 rfl) ?_
      refine lv_iload_n hx hb dX1_arrived_39 rfl (lv_at hl 3 rfl) ?_
      refine va_callv (va_runV (As := [.int p3]) (rest := []) ⟨hx, hb, hml, hown, htb⟩ (kt_X1_replay l dC dI ad cU cI pa H_15.size nu nm nk F U p3 hnu hnm hO hV) (cwV 1 htb (us_gV mw_297 mw_299 mw_5 mw_32 mw_300) rfl rfl rfl (by decide +kernel) ⟨Nat.le_of_ble_eq_true rfl, Nat.le_of_ble_eq_true rfl⟩) ⟨us_Px_blind, va_recv hK hP (ci := 1) (q0 := 0) rfl rfl, fun U hU hW => ⟨rfl, us_Px_at hP hK hD hE hS (us_AA_le hS) hU hW⟩⟩ rfl rfl hl.1 rfl (lv_room (Nat.le_of_ble_eq_true rfl)) dX1_arrived_40 ⟨Nat.le_of_ble_eq_true rfl, Nat.le_of_ble_eq_true rfl⟩) hS (fun q _ h => us_AA_le hS q h) (us_AA_le hS) (fun _ t_23 H_21 locs ht hvm hw hB hz1 hk1 hS => ?_)
      have hP := us_Bx_use ht hB
      have hD : va_D (us_AA (us_ads ad pa) s.heap.size) (us_W ad cU cI pa nu nm nk (sp_rf nu nm F U p3) (sp_ru nu nm F U p3)) := us_D_of (by rw [us_W_adr, us_W_adr]) hD
      have hP : va_P (dC, dI) vwCl (us_W ad cU cI pa nu nm nk (sp_rf nu nm F U p3) (sp_ru nu nm F U p3)) H_21 := hP
      refine lv_iconst (v := 0) hx hb dX1_arrived_43 (by decide) ?_
      refine lv_istore (lv' := [(4, .int 0), (0, .ref (ad 0)), (1, .int p1), (2, .int p2), (3, .int p3)]) hx hb dX1_arrived_44 hl (by decide) rfl (fun ls hl => ?_)
      exact lp46 nu 0 _ _ _ (by omega) rfl hP hD hS (lv_sub hl [0, 1, 2, 3, 4] rfl) (by simp [sp_arrK, c_14, hk_18, hf_19, c_20])
    · obtain ⟨sa_24, hst_sa_24⟩ := hE.2.2.2.2 (RX1, 156, "ranks begin with 1") (by decide +kernel)
      have hk9 : sp_arrK p1 p2 p3 = 2 := by first | (simp only [sp_arrK, sp_minK, eq_false c_14, eq_true hk_18, eq_false hf_19, eq_false c_20, if_true, if_false]; done) | (simp [sp_arrK, sp_minK, c_14, hk_18, hf_19, c_20]; done)
      exact vx_throwS (own := RX1) (cls := "java/lang/IndexOutOfBoundsException") (names := ["java/lang/RuntimeException", "java/lang/Exception"]) hx hb hl9 hown (by decide +kernel) (by decide +kernel) (htb _ mw_152) (htb _ mw_38) hst_sa_24 (vx_hat (L := vx_atS RX1 43 "java/lang/IndexOutOfBoundsException" ["java/lang/RuntimeException", "java/lang/Exception"]) (B := [.castable "java/lang/IndexOutOfBoundsException" "java/lang/IndexOutOfBoundsException", .declares ⟨"java/lang/RuntimeException", "<init>", "(Ljava/lang/String;)V"⟩, .declares ⟨"java/lang/Exception", "<init>", "(Ljava/lang/String;)V"⟩, .declares ⟨"java/lang/Throwable", "<init>", "(Ljava/lang/String;)V"⟩]) (fun w hw => htb w (us_at43 w hw)) us_ab43 (vx_c (va_Nw.use rfl (hE.2.2.1 _ (by decide +kernel))) (vx_c (va_Nw.use rfl (hE.2.2.1 _ (by decide +kernel))) (vx_c (va_Nw.use rfl (hE.2.2.1 _ (by decide +kernel))) (vx_c (va_Nw.use rfl (hE.2.2.1 _ (by decide +kernel))) (vx_n)))))) us_ag43 hE.1 hE.2.1 hS (hl.1.trans hml.symm) dX1_arrived_28 dX1_arrived_31 dX1_arrived_32 dX1_arrived_34 dX1_arrived_37 (fun x hx => (hte x hx).elim) (Nat.le_of_ble_eq_true rfl) (Nat.le_of_ble_eq_true rfl) (Nat.le_of_ble_eq_true rfl) (Nat.le_of_ble_eq_true rfl) hlocks (fun t ha hsz hk => ⟨(), (by rw [hk9]; decide), ⟨(by rw [hk9]; rfl), us_Bx_of rfl (us_mono hP (fun q hq => hk q hq)) rfl rfl rfl⟩, Nat.le_trans hS.1 hsz, fun q h1 h2 => (hk q (Nat.lt_of_lt_of_le h1 hS.1)).trans (hS.2.1 q h1 h2)⟩) hS.2.2 (Nat.le_of_ble_eq_true rfl) (Nat.le_of_ble_eq_true rfl)
  · obtain ⟨sa_25, hst_sa_25⟩ := hE.2.2.2.2 (RX1, 154, "no such incident") (by decide +kernel)
    have hk9 : sp_arrK p1 p2 p3 = 1 := by first | (simp only [sp_arrK, sp_minK, eq_true c_14, if_true, if_false]; done) | (simp [sp_arrK, sp_minK, c_14]; done)
    exact vx_throwS (own := RX1) (cls := "java/lang/IllegalArgumentException") (names := ["java/lang/RuntimeException", "java/lang/Exception"]) hx hb hl9 hown (by decide +kernel) (by decide +kernel) (htb _ mw_253) (htb _ mw_40) hst_sa_25 (vx_hat (L := vx_atS RX1 72 "java/lang/IllegalArgumentException" ["java/lang/RuntimeException", "java/lang/Exception"]) (B := [.castable "java/lang/IllegalArgumentException" "java/lang/IllegalArgumentException", .declares ⟨"java/lang/RuntimeException", "<init>", "(Ljava/lang/String;)V"⟩, .declares ⟨"java/lang/Exception", "<init>", "(Ljava/lang/String;)V"⟩, .declares ⟨"java/lang/Throwable", "<init>", "(Ljava/lang/String;)V"⟩]) (fun w hw => htb w (us_at72 w hw)) us_ab72 (vx_c (va_Nw.use rfl (hE.2.2.1 _ (by decide +kernel))) (vx_c (va_Nw.use rfl (hE.2.2.1 _ (by decide +kernel))) (vx_c (va_Nw.use rfl (hE.2.2.1 _ (by decide +kernel))) (vx_c (va_Nw.use rfl (hE.2.2.1 _ (by decide +kernel))) (vx_n)))))) us_ag72 hE.1 hE.2.1 hS (hl.1.trans hml.symm) dX1_arrived_9 dX1_arrived_12 dX1_arrived_13 dX1_arrived_15 dX1_arrived_18 (fun x hx => (hte x hx).elim) (Nat.le_of_ble_eq_true rfl) (Nat.le_of_ble_eq_true rfl) (Nat.le_of_ble_eq_true rfl) (Nat.le_of_ble_eq_true rfl) hlocks (fun t ha hsz hk => ⟨(), (by rw [hk9]; decide), ⟨(by rw [hk9]; rfl), us_Bx_of rfl (us_mono hP (fun q hq => hk q hq)) rfl rfl rfl⟩, Nat.le_trans hS.1 hsz, fun q h1 h2 => (hk q (Nat.lt_of_lt_of_le h1 hS.1)).trans (hS.2.1 q h1 h2)⟩) hS.2.2 (Nat.le_of_ble_eq_true rfl) (Nat.le_of_ble_eq_true rfl)
end
section
theorem mw_20 : Cond.selects RX2 yX2_throwing yX2_throwing ∈ us_big := us_in 20 (by decide +kernel) rfl
theorem mw_21 : Cond.selects RX2 yX2_isUnit yX2_isUnit ∈ us_big := us_in 21 (by decide +kernel) rfl
theorem mw_26 : Cond.selects RX2 yX2_become yX2_become ∈ us_big := us_in 26 (by decide +kernel) rfl
theorem mw_27 : Cond.selects RX2 yX2_spend yX2_spend ∈ us_big := us_in 27 (by decide +kernel) rfl
theorem mw_34 : Cond.initialized RX2 ∈ us_big := us_in 34 (by decide +kernel) rfl
theorem mw_423 : Cond.fieldLink RX2 28 "UnitStatesModel" "thrown" "I" ∈ us_big := us_in 423 (by decide +kernel) rfl
theorem mw_424 : Cond.fieldLink RX2 32 "UnitStatesModel" "units" "I" ∈ us_big := us_in 424 (by decide +kernel) rfl
theorem mw_425 : Cond.fieldLink RX2 7 "UnitStatesModel" "home" "[I" ∈ us_big := us_in 425 (by decide +kernel) rfl
theorem mw_426 : Cond.fieldLink RX2 13 "UnitStatesModel" "least" "[I" ∈ us_big := us_in 426 (by decide +kernel) rfl
theorem mw_427 : Cond.fieldLink RX2 59 "UnitStatesModel" "messages" "I" ∈ us_big := us_in 427 (by decide +kernel) rfl
theorem mw_428 : Cond.fieldLink RX2 16 "UnitStatesModel" "unitOf" "[I" ∈ us_big := us_in 428 (by decide +kernel) rfl
theorem mw_429 : Cond.fieldLink RX2 19 "UnitStatesModel" "minute" "[I" ∈ us_big := us_in 429 (by decide +kernel) rfl
theorem mw_430 : Cond.fieldLink RX2 22 "UnitStatesModel" "kind" "[I" ∈ us_big := us_in 430 (by decide +kernel) rfl
theorem mw_431 : Cond.fieldLink RX2 25 "UnitStatesModel" "value" "[I" ∈ us_big := us_in 431 (by decide +kernel) rfl
theorem mw_432 : Cond.fieldLink RX2 49 "UnitStatesModel" "strangers" "I" ∈ us_big := us_in 432 (by decide +kernel) rfl
theorem mw_433 : Cond.fieldLink RX2 65 "UnitStatesModel" "state" "I" ∈ us_big := us_in 433 (by decide +kernel) rfl
theorem mw_434 : Cond.fieldLink RX2 62 "UnitStatesModel" "since" "I" ∈ us_big := us_in 434 (by decide +kernel) rfl
theorem mw_435 : Cond.fieldLink RX2 75 "UnitStatesModel" "station" "I" ∈ us_big := us_in 435 (by decide +kernel) rfl
theorem mw_436 : Cond.fieldLink RX2 78 "UnitStatesModel" "incident" "I" ∈ us_big := us_in 436 (by decide +kernel) rfl
theorem mw_437 : Cond.fieldLink RX2 93 "UnitStatesModel" "crew" "I" ∈ us_big := us_in 437 (by decide +kernel) rfl
theorem mw_438 : Cond.fieldLink RX2 108 "UnitStatesModel" "things" "I" ∈ us_big := us_in 438 (by decide +kernel) rfl
theorem mw_439 : Cond.fieldLink RX2 99 "UnitStatesModel" "link" "I" ∈ us_big := us_in 439 (by decide +kernel) rfl
theorem mw_440 : Cond.fieldLink RX2 68 "UnitStatesModel" "driven" "I" ∈ us_big := us_in 440 (by decide +kernel) rfl
theorem mw_441 : Cond.fieldLink RX2 102 "UnitStatesModel" "place" "I" ∈ us_big := us_in 441 (by decide +kernel) rfl
theorem mw_442 : Cond.fieldLink RX2 105 "UnitStatesModel" "placed" "I" ∈ us_big := us_in 442 (by decide +kernel) rfl
theorem mw_443 : Cond.fieldLink RX2 84 "UnitStatesModel" "expected" "I" ∈ us_big := us_in 443 (by decide +kernel) rfl
theorem mw_444 : Cond.fieldLink RX2 81 "UnitStatesModel" "arrived" "I" ∈ us_big := us_in 444 (by decide +kernel) rfl
theorem mw_445 : Cond.fieldLink RX2 87 "UnitStatesModel" "said" "I" ∈ us_big := us_in 445 (by decide +kernel) rfl
theorem mw_501 : Cond.methodLink RX2 35 yX2_in ∈ us_big := us_in 501 (by decide +kernel) rfl
theorem mw_502 : Cond.static yX2_in ∈ us_big := us_in 502 (by decide +kernel) rfl
set_option maxRecDepth 100000 in
theorem mw_503 : Cond.code yX2_in cX2_in 3 (some .boolean) ∈ us_big := us_in 503 rfl rfl
theorem mw_504 : Cond.methodLink RX2 40 yX2_throwing ∈ us_big := us_in 504 (by decide +kernel) rfl
theorem mw_506 : Cond.instanceMethod yX2_throwing ∈ us_big := us_in 506 (by decide +kernel) rfl
set_option maxRecDepth 100000 in
theorem mw_507 : Cond.code yX2_throwing cX2_throwing 4 (some .boolean) ∈ us_big := us_in 507 rfl rfl
theorem mw_512 : Cond.methodLink RX2 45 yX2_isUnit ∈ us_big := us_in 512 (by decide +kernel) rfl
theorem mw_514 : Cond.instanceMethod yX2_isUnit ∈ us_big := us_in 514 (by decide +kernel) rfl
set_option maxRecDepth 100000 in
theorem mw_515 : Cond.code yX2_isUnit cX2_isUnit 2 (some .boolean) ∈ us_big := us_in 515 rfl rfl
theorem mw_516 : Cond.methodLink RX2 52 yX2_isMinute ∈ us_big := us_in 516 (by decide +kernel) rfl
theorem mw_517 : Cond.static yX2_isMinute ∈ us_big := us_in 517 (by decide +kernel) rfl
set_option maxRecDepth 100000 in
theorem mw_518 : Cond.code yX2_isMinute cX2_isMinute 1 (some .boolean) ∈ us_big := us_in 518 rfl rfl
theorem mw_519 : Cond.constant RX2 39 99999 ∈ us_big := us_in 519 (by decide +kernel) rfl
theorem mw_520 : Cond.methodLink RX2 55 yX2_isValue ∈ us_big := us_in 520 (by decide +kernel) rfl
theorem mw_521 : Cond.static yX2_isValue ∈ us_big := us_in 521 (by decide +kernel) rfl
set_option maxRecDepth 100000 in
theorem mw_522 : Cond.code yX2_isValue cX2_isValue 2 (some .boolean) ∈ us_big := us_in 522 rfl rfl
theorem mw_523 : Cond.constant RX2 44 999999 ∈ us_big := us_in 523 (by decide +kernel) rfl
theorem mw_544 : Cond.methodLink RX2 90 yX2_follows ∈ us_big := us_in 544 (by decide +kernel) rfl
theorem mw_545 : Cond.static yX2_follows ∈ us_big := us_in 545 (by decide +kernel) rfl
set_option maxRecDepth 100000 in
theorem mw_546 : Cond.code yX2_follows cX2_follows 2 (some .boolean) ∈ us_big := us_in 546 rfl rfl
theorem mw_547 : Cond.methodLink RX2 96 yX2_become ∈ us_big := us_in 547 (by decide +kernel) rfl
theorem mw_549 : Cond.instanceMethod yX2_become ∈ us_big := us_in 549 (by decide +kernel) rfl
set_option maxRecDepth 100000 in
theorem mw_550 : Cond.code yX2_become cX2_become 2 none ∈ us_big := us_in 550 rfl rfl
theorem mw_551 : Cond.methodLink RX2 71 yX2_spend ∈ us_big := us_in 551 (by decide +kernel) rfl
theorem mw_553 : Cond.instanceMethod yX2_spend ∈ us_big := us_in 553 (by decide +kernel) rfl
set_option maxRecDepth 100000 in
theorem mw_554 : Cond.code yX2_spend cX2_spend 3 none ∈ us_big := us_in 554 rfl rfl
theorem dX2_init_0 : decode cX2_init 0 = .ok (.aload_n 0, 1) := by decide +kernel
theorem dX2_init_1 : decode cX2_init 1 = .ok (.invokespecial 1, 3) := by decide +kernel
theorem dX2_init_4 : decode cX2_init 4 = .ok (.aload_n 0, 1) := by decide +kernel
theorem dX2_init_5 : decode cX2_init 5 = .ok (.bipush 30, 2) := by decide +kernel
theorem dX2_init_7 : decode cX2_init 7 = .ok (.newarray .int, 2) := by decide +kernel
theorem dX2_init_9 : decode cX2_init 9 = .ok (.putfield 7, 3) := by decide +kernel
theorem dX2_init_12 : decode cX2_init 12 = .ok (.aload_n 0, 1) := by decide +kernel
theorem dX2_init_13 : decode cX2_init 13 = .ok (.bipush 30, 2) := by decide +kernel
theorem dX2_init_15 : decode cX2_init 15 = .ok (.newarray .int, 2) := by decide +kernel
theorem dX2_init_17 : decode cX2_init 17 = .ok (.putfield 13, 3) := by decide +kernel
theorem dX2_init_20 : decode cX2_init 20 = .ok (.aload_n 0, 1) := by decide +kernel
theorem dX2_init_21 : decode cX2_init 21 = .ok (.sipush 200, 3) := by decide +kernel
theorem dX2_init_24 : decode cX2_init 24 = .ok (.newarray .int, 2) := by decide +kernel
theorem dX2_init_26 : decode cX2_init 26 = .ok (.putfield 16, 3) := by decide +kernel
theorem dX2_init_29 : decode cX2_init 29 = .ok (.aload_n 0, 1) := by decide +kernel
theorem dX2_init_30 : decode cX2_init 30 = .ok (.sipush 200, 3) := by decide +kernel
theorem dX2_init_33 : decode cX2_init 33 = .ok (.newarray .int, 2) := by decide +kernel
theorem dX2_init_35 : decode cX2_init 35 = .ok (.putfield 19, 3) := by decide +kernel
theorem dX2_init_38 : decode cX2_init 38 = .ok (.aload_n 0, 1) := by decide +kernel
theorem dX2_init_39 : decode cX2_init 39 = .ok (.sipush 200, 3) := by decide +kernel
theorem dX2_init_42 : decode cX2_init 42 = .ok (.newarray .int, 2) := by decide +kernel
theorem dX2_init_44 : decode cX2_init 44 = .ok (.putfield 22, 3) := by decide +kernel
theorem dX2_init_47 : decode cX2_init 47 = .ok (.aload_n 0, 1) := by decide +kernel
theorem dX2_init_48 : decode cX2_init 48 = .ok (.sipush 200, 3) := by decide +kernel
theorem dX2_init_51 : decode cX2_init 51 = .ok (.newarray .int, 2) := by decide +kernel
theorem dX2_init_53 : decode cX2_init 53 = .ok (.putfield 25, 3) := by decide +kernel
theorem dX2_init_56 : decode cX2_init 56 = .ok (.return_, 1) := by decide +kernel
theorem dX2_thrown_0 : decode cX2_thrown 0 = .ok (.aload_n 0, 1) := by decide +kernel
theorem dX2_thrown_1 : decode cX2_thrown 1 = .ok (.getfield 28, 3) := by decide +kernel
theorem dX2_thrown_4 : decode cX2_thrown 4 = .ok (.ireturn, 1) := by decide +kernel
theorem dX2_unit_0 : decode cX2_unit 0 = .ok (.aload_n 0, 1) := by decide +kernel
theorem dX2_unit_1 : decode cX2_unit 1 = .ok (.iload_n 1, 1) := by decide +kernel
theorem dX2_unit_2 : decode cX2_unit 2 = .ok (.iconst 0, 1) := by decide +kernel
theorem dX2_unit_3 : decode cX2_unit 3 = .ok (.bipush 9, 2) := by decide +kernel
theorem dX2_unit_5 : decode cX2_unit 5 = .ok (.invokestatic 35, 3) := by decide +kernel
theorem dX2_unit_8 : decode cX2_unit 8 = .ok (.ifCond .eq 13, 3) := by decide +kernel
theorem dX2_unit_11 : decode cX2_unit 11 = .ok (.iload_n 2, 1) := by decide +kernel
theorem dX2_unit_12 : decode cX2_unit 12 = .ok (.iconst 0, 1) := by decide +kernel
theorem dX2_unit_13 : decode cX2_unit 13 = .ok (.bipush 9, 2) := by decide +kernel
theorem dX2_unit_15 : decode cX2_unit 15 = .ok (.invokestatic 35, 3) := by decide +kernel
theorem dX2_unit_18 : decode cX2_unit 18 = .ok (.ifCond .ne 7, 3) := by decide +kernel
theorem dX2_unit_21 : decode cX2_unit 21 = .ok (.iconst 1, 1) := by decide +kernel
theorem dX2_unit_22 : decode cX2_unit 22 = .ok (.goto 4, 3) := by decide +kernel
theorem dX2_unit_25 : decode cX2_unit 25 = .ok (.iconst 0, 1) := by decide +kernel
theorem dX2_unit_26 : decode cX2_unit 26 = .ok (.aload_n 0, 1) := by decide +kernel
theorem dX2_unit_27 : decode cX2_unit 27 = .ok (.getfield 32, 3) := by decide +kernel
theorem dX2_unit_30 : decode cX2_unit 30 = .ok (.bipush 30, 2) := by decide +kernel
theorem dX2_unit_32 : decode cX2_unit 32 = .ok (.if_icmp .ne 7, 3) := by decide +kernel
theorem dX2_unit_35 : decode cX2_unit 35 = .ok (.iconst 1, 1) := by decide +kernel
theorem dX2_unit_36 : decode cX2_unit 36 = .ok (.goto 4, 3) := by decide +kernel
theorem dX2_unit_39 : decode cX2_unit 39 = .ok (.iconst 0, 1) := by decide +kernel
theorem dX2_unit_40 : decode cX2_unit 40 = .ok (.iconst 0, 1) := by decide +kernel
theorem dX2_unit_41 : decode cX2_unit 41 = .ok (.invokevirtual 40, 3) := by decide +kernel
theorem dX2_unit_44 : decode cX2_unit 44 = .ok (.ifCond .eq 5, 3) := by decide +kernel
theorem dX2_unit_47 : decode cX2_unit 47 = .ok (.iconst 0, 1) := by decide +kernel
theorem dX2_unit_48 : decode cX2_unit 48 = .ok (.ireturn, 1) := by decide +kernel
theorem dX2_unit_49 : decode cX2_unit 49 = .ok (.aload_n 0, 1) := by decide +kernel
theorem dX2_unit_50 : decode cX2_unit 50 = .ok (.getfield 7, 3) := by decide +kernel
theorem dX2_unit_53 : decode cX2_unit 53 = .ok (.aload_n 0, 1) := by decide +kernel
theorem dX2_unit_54 : decode cX2_unit 54 = .ok (.getfield 32, 3) := by decide +kernel
theorem dX2_unit_57 : decode cX2_unit 57 = .ok (.iload_n 1, 1) := by decide +kernel
theorem dX2_unit_58 : decode cX2_unit 58 = .ok (.iastore, 1) := by decide +kernel
theorem dX2_unit_59 : decode cX2_unit 59 = .ok (.aload_n 0, 1) := by decide +kernel
theorem dX2_unit_60 : decode cX2_unit 60 = .ok (.getfield 13, 3) := by decide +kernel
theorem dX2_unit_63 : decode cX2_unit 63 = .ok (.aload_n 0, 1) := by decide +kernel
theorem dX2_unit_64 : decode cX2_unit 64 = .ok (.getfield 32, 3) := by decide +kernel
theorem dX2_unit_67 : decode cX2_unit 67 = .ok (.iload_n 2, 1) := by decide +kernel
theorem dX2_unit_68 : decode cX2_unit 68 = .ok (.iastore, 1) := by decide +kernel
theorem dX2_unit_69 : decode cX2_unit 69 = .ok (.aload_n 0, 1) := by decide +kernel
theorem dX2_unit_70 : decode cX2_unit 70 = .ok (.dup, 1) := by decide +kernel
theorem dX2_unit_71 : decode cX2_unit 71 = .ok (.getfield 32, 3) := by decide +kernel
theorem dX2_unit_74 : decode cX2_unit 74 = .ok (.iconst 1, 1) := by decide +kernel
theorem dX2_unit_75 : decode cX2_unit 75 = .ok (.iadd, 1) := by decide +kernel
theorem dX2_unit_76 : decode cX2_unit 76 = .ok (.putfield 32, 3) := by decide +kernel
theorem dX2_unit_79 : decode cX2_unit 79 = .ok (.aload_n 0, 1) := by decide +kernel
theorem dX2_unit_80 : decode cX2_unit 80 = .ok (.getfield 32, 3) := by decide +kernel
theorem dX2_unit_83 : decode cX2_unit 83 = .ok (.iconst 1, 1) := by decide +kernel
theorem dX2_unit_84 : decode cX2_unit 84 = .ok (.isub, 1) := by decide +kernel
theorem dX2_unit_85 : decode cX2_unit 85 = .ok (.ireturn, 1) := by decide +kernel
theorem dX2_in_0 : decode cX2_in 0 = .ok (.iload_n 0, 1) := by decide +kernel
theorem dX2_in_1 : decode cX2_in 1 = .ok (.iload_n 1, 1) := by decide +kernel
theorem dX2_in_2 : decode cX2_in 2 = .ok (.if_icmp .lt 12, 3) := by decide +kernel
theorem dX2_in_5 : decode cX2_in 5 = .ok (.iload_n 0, 1) := by decide +kernel
theorem dX2_in_6 : decode cX2_in 6 = .ok (.iload_n 2, 1) := by decide +kernel
theorem dX2_in_7 : decode cX2_in 7 = .ok (.if_icmp .gt 7, 3) := by decide +kernel
theorem dX2_in_10 : decode cX2_in 10 = .ok (.iconst 1, 1) := by decide +kernel
theorem dX2_in_11 : decode cX2_in 11 = .ok (.goto 4, 3) := by decide +kernel
theorem dX2_in_14 : decode cX2_in 14 = .ok (.iconst 0, 1) := by decide +kernel
theorem dX2_in_15 : decode cX2_in 15 = .ok (.ireturn, 1) := by decide +kernel
theorem dX2_throwing_0 : decode cX2_throwing 0 = .ok (.aload_n 0, 1) := by decide +kernel
theorem dX2_throwing_1 : decode cX2_throwing 1 = .ok (.iload_n 1, 1) := by decide +kernel
theorem dX2_throwing_2 : decode cX2_throwing 2 = .ok (.ifCond .eq 7, 3) := by decide +kernel
theorem dX2_throwing_5 : decode cX2_throwing 5 = .ok (.iconst 1, 1) := by decide +kernel
theorem dX2_throwing_6 : decode cX2_throwing 6 = .ok (.goto 20, 3) := by decide +kernel
theorem dX2_throwing_9 : decode cX2_throwing 9 = .ok (.iload_n 2, 1) := by decide +kernel
theorem dX2_throwing_10 : decode cX2_throwing 10 = .ok (.ifCond .eq 7, 3) := by decide +kernel
theorem dX2_throwing_13 : decode cX2_throwing 13 = .ok (.iconst 2, 1) := by decide +kernel
theorem dX2_throwing_14 : decode cX2_throwing 14 = .ok (.goto 12, 3) := by decide +kernel
theorem dX2_throwing_17 : decode cX2_throwing 17 = .ok (.iload_n 3, 1) := by decide +kernel
theorem dX2_throwing_18 : decode cX2_throwing 18 = .ok (.ifCond .eq 7, 3) := by decide +kernel
theorem dX2_throwing_21 : decode cX2_throwing 21 = .ok (.iconst 3, 1) := by decide +kernel
theorem dX2_throwing_22 : decode cX2_throwing 22 = .ok (.goto 4, 3) := by decide +kernel
theorem dX2_throwing_25 : decode cX2_throwing 25 = .ok (.iconst 0, 1) := by decide +kernel
theorem dX2_throwing_26 : decode cX2_throwing 26 = .ok (.putfield 28, 3) := by decide +kernel
theorem dX2_throwing_29 : decode cX2_throwing 29 = .ok (.aload_n 0, 1) := by decide +kernel
theorem dX2_throwing_30 : decode cX2_throwing 30 = .ok (.getfield 28, 3) := by decide +kernel
theorem dX2_throwing_33 : decode cX2_throwing 33 = .ok (.ifCond .le 7, 3) := by decide +kernel
theorem dX2_throwing_36 : decode cX2_throwing 36 = .ok (.iconst 1, 1) := by decide +kernel
theorem dX2_throwing_37 : decode cX2_throwing 37 = .ok (.goto 4, 3) := by decide +kernel
theorem dX2_throwing_40 : decode cX2_throwing 40 = .ok (.iconst 0, 1) := by decide +kernel
theorem dX2_throwing_41 : decode cX2_throwing 41 = .ok (.ireturn, 1) := by decide +kernel
theorem dX2_message_0 : decode cX2_message 0 = .ok (.aload_n 0, 1) := by decide +kernel
theorem dX2_message_1 : decode cX2_message 1 = .ok (.iload_n 1, 1) := by decide +kernel
theorem dX2_message_2 : decode cX2_message 2 = .ok (.invokevirtual 45, 3) := by decide +kernel
theorem dX2_message_5 : decode cX2_message 5 = .ok (.ifCond .ne 7, 3) := by decide +kernel
theorem dX2_message_8 : decode cX2_message 8 = .ok (.iconst 1, 1) := by decide +kernel
theorem dX2_message_9 : decode cX2_message 9 = .ok (.goto 4, 3) := by decide +kernel
theorem dX2_message_12 : decode cX2_message 12 = .ok (.iconst 0, 1) := by decide +kernel
theorem dX2_message_13 : decode cX2_message 13 = .ok (.istore 5, 2) := by decide +kernel
theorem dX2_message_15 : decode cX2_message 15 = .ok (.aload_n 0, 1) := by decide +kernel
theorem dX2_message_16 : decode cX2_message 16 = .ok (.dup, 1) := by decide +kernel
theorem dX2_message_17 : decode cX2_message 17 = .ok (.getfield 49, 3) := by decide +kernel
theorem dX2_message_20 : decode cX2_message 20 = .ok (.iload 5, 2) := by decide +kernel
theorem dX2_message_22 : decode cX2_message 22 = .ok (.ifCond .eq 7, 3) := by decide +kernel
theorem dX2_message_25 : decode cX2_message 25 = .ok (.iconst 1, 1) := by decide +kernel
theorem dX2_message_26 : decode cX2_message 26 = .ok (.goto 4, 3) := by decide +kernel
theorem dX2_message_29 : decode cX2_message 29 = .ok (.iconst 0, 1) := by decide +kernel
theorem dX2_message_30 : decode cX2_message 30 = .ok (.iadd, 1) := by decide +kernel
theorem dX2_message_31 : decode cX2_message 31 = .ok (.putfield 49, 3) := by decide +kernel
theorem dX2_message_34 : decode cX2_message 34 = .ok (.iload 5, 2) := by decide +kernel
theorem dX2_message_36 : decode cX2_message 36 = .ok (.ifCond .ne 13, 3) := by decide +kernel
theorem dX2_message_39 : decode cX2_message 39 = .ok (.iload_n 3, 1) := by decide +kernel
theorem dX2_message_40 : decode cX2_message 40 = .ok (.iconst 0, 1) := by decide +kernel
theorem dX2_message_41 : decode cX2_message 41 = .ok (.bipush 15, 2) := by decide +kernel
theorem dX2_message_43 : decode cX2_message 43 = .ok (.invokestatic 35, 3) := by decide +kernel
theorem dX2_message_46 : decode cX2_message 46 = .ok (.ifCond .ne 7, 3) := by decide +kernel
theorem dX2_message_49 : decode cX2_message 49 = .ok (.iconst 1, 1) := by decide +kernel
theorem dX2_message_50 : decode cX2_message 50 = .ok (.goto 4, 3) := by decide +kernel
theorem dX2_message_53 : decode cX2_message 53 = .ok (.iconst 0, 1) := by decide +kernel
theorem dX2_message_54 : decode cX2_message 54 = .ok (.istore 5, 2) := by decide +kernel
theorem dX2_message_56 : decode cX2_message 56 = .ok (.aload_n 0, 1) := by decide +kernel
theorem dX2_message_57 : decode cX2_message 57 = .ok (.iload 5, 2) := by decide +kernel
theorem dX2_message_59 : decode cX2_message 59 = .ok (.iload_n 2, 1) := by decide +kernel
theorem dX2_message_60 : decode cX2_message 60 = .ok (.invokestatic 52, 3) := by decide +kernel
theorem dX2_message_63 : decode cX2_message 63 = .ok (.ifCond .eq 12, 3) := by decide +kernel
theorem dX2_message_66 : decode cX2_message 66 = .ok (.iload_n 3, 1) := by decide +kernel
theorem dX2_message_67 : decode cX2_message 67 = .ok (.iload 4, 2) := by decide +kernel
theorem dX2_message_69 : decode cX2_message 69 = .ok (.invokestatic 55, 3) := by decide +kernel
theorem dX2_message_72 : decode cX2_message 72 = .ok (.ifCond .ne 7, 3) := by decide +kernel
theorem dX2_message_75 : decode cX2_message 75 = .ok (.iconst 1, 1) := by decide +kernel
theorem dX2_message_76 : decode cX2_message 76 = .ok (.goto 4, 3) := by decide +kernel
theorem dX2_message_79 : decode cX2_message 79 = .ok (.iconst 0, 1) := by decide +kernel
theorem dX2_message_80 : decode cX2_message 80 = .ok (.aload_n 0, 1) := by decide +kernel
theorem dX2_message_81 : decode cX2_message 81 = .ok (.getfield 59, 3) := by decide +kernel
theorem dX2_message_84 : decode cX2_message 84 = .ok (.sipush 200, 3) := by decide +kernel
theorem dX2_message_87 : decode cX2_message 87 = .ok (.if_icmp .ne 7, 3) := by decide +kernel
theorem dX2_message_90 : decode cX2_message 90 = .ok (.iconst 1, 1) := by decide +kernel
theorem dX2_message_91 : decode cX2_message 91 = .ok (.goto 4, 3) := by decide +kernel
theorem dX2_message_94 : decode cX2_message 94 = .ok (.iconst 0, 1) := by decide +kernel
theorem dX2_message_95 : decode cX2_message 95 = .ok (.invokevirtual 40, 3) := by decide +kernel
theorem dX2_message_98 : decode cX2_message 98 = .ok (.ifCond .eq 5, 3) := by decide +kernel
theorem dX2_message_101 : decode cX2_message 101 = .ok (.iconst 0, 1) := by decide +kernel
theorem dX2_message_102 : decode cX2_message 102 = .ok (.ireturn, 1) := by decide +kernel
theorem dX2_message_103 : decode cX2_message 103 = .ok (.aload_n 0, 1) := by decide +kernel
theorem dX2_message_104 : decode cX2_message 104 = .ok (.getfield 16, 3) := by decide +kernel
theorem dX2_message_107 : decode cX2_message 107 = .ok (.aload_n 0, 1) := by decide +kernel
theorem dX2_message_108 : decode cX2_message 108 = .ok (.getfield 59, 3) := by decide +kernel
theorem dX2_message_111 : decode cX2_message 111 = .ok (.iload_n 1, 1) := by decide +kernel
theorem dX2_message_112 : decode cX2_message 112 = .ok (.iastore, 1) := by decide +kernel
theorem dX2_message_113 : decode cX2_message 113 = .ok (.aload_n 0, 1) := by decide +kernel
theorem dX2_message_114 : decode cX2_message 114 = .ok (.getfield 19, 3) := by decide +kernel
theorem dX2_message_117 : decode cX2_message 117 = .ok (.aload_n 0, 1) := by decide +kernel
theorem dX2_message_118 : decode cX2_message 118 = .ok (.getfield 59, 3) := by decide +kernel
theorem dX2_message_121 : decode cX2_message 121 = .ok (.iload_n 2, 1) := by decide +kernel
theorem dX2_message_122 : decode cX2_message 122 = .ok (.iastore, 1) := by decide +kernel
theorem dX2_message_123 : decode cX2_message 123 = .ok (.aload_n 0, 1) := by decide +kernel
theorem dX2_message_124 : decode cX2_message 124 = .ok (.getfield 22, 3) := by decide +kernel
theorem dX2_message_127 : decode cX2_message 127 = .ok (.aload_n 0, 1) := by decide +kernel
theorem dX2_message_128 : decode cX2_message 128 = .ok (.getfield 59, 3) := by decide +kernel
theorem dX2_message_131 : decode cX2_message 131 = .ok (.iload_n 3, 1) := by decide +kernel
theorem dX2_message_132 : decode cX2_message 132 = .ok (.iastore, 1) := by decide +kernel
theorem dX2_message_133 : decode cX2_message 133 = .ok (.aload_n 0, 1) := by decide +kernel
theorem dX2_message_134 : decode cX2_message 134 = .ok (.getfield 25, 3) := by decide +kernel
theorem dX2_message_137 : decode cX2_message 137 = .ok (.aload_n 0, 1) := by decide +kernel
theorem dX2_message_138 : decode cX2_message 138 = .ok (.getfield 59, 3) := by decide +kernel
theorem dX2_message_141 : decode cX2_message 141 = .ok (.iload 4, 2) := by decide +kernel
theorem dX2_message_143 : decode cX2_message 143 = .ok (.iastore, 1) := by decide +kernel
theorem dX2_message_144 : decode cX2_message 144 = .ok (.aload_n 0, 1) := by decide +kernel
theorem dX2_message_145 : decode cX2_message 145 = .ok (.dup, 1) := by decide +kernel
theorem dX2_message_146 : decode cX2_message 146 = .ok (.getfield 59, 3) := by decide +kernel
theorem dX2_message_149 : decode cX2_message 149 = .ok (.iconst 1, 1) := by decide +kernel
theorem dX2_message_150 : decode cX2_message 150 = .ok (.iadd, 1) := by decide +kernel
theorem dX2_message_151 : decode cX2_message 151 = .ok (.putfield 59, 3) := by decide +kernel
theorem dX2_message_154 : decode cX2_message 154 = .ok (.aload_n 0, 1) := by decide +kernel
theorem dX2_message_155 : decode cX2_message 155 = .ok (.getfield 59, 3) := by decide +kernel
theorem dX2_message_158 : decode cX2_message 158 = .ok (.iconst 1, 1) := by decide +kernel
theorem dX2_message_159 : decode cX2_message 159 = .ok (.isub, 1) := by decide +kernel
theorem dX2_message_160 : decode cX2_message 160 = .ok (.ireturn, 1) := by decide +kernel
theorem dX2_isUnit_0 : decode cX2_isUnit 0 = .ok (.iload_n 1, 1) := by decide +kernel
theorem dX2_isUnit_1 : decode cX2_isUnit 1 = .ok (.iconst 0, 1) := by decide +kernel
theorem dX2_isUnit_2 : decode cX2_isUnit 2 = .ok (.aload_n 0, 1) := by decide +kernel
theorem dX2_isUnit_3 : decode cX2_isUnit 3 = .ok (.getfield 32, 3) := by decide +kernel
theorem dX2_isUnit_6 : decode cX2_isUnit 6 = .ok (.iconst 1, 1) := by decide +kernel
theorem dX2_isUnit_7 : decode cX2_isUnit 7 = .ok (.isub, 1) := by decide +kernel
theorem dX2_isUnit_8 : decode cX2_isUnit 8 = .ok (.invokestatic 35, 3) := by decide +kernel
theorem dX2_isUnit_11 : decode cX2_isUnit 11 = .ok (.ireturn, 1) := by decide +kernel
theorem dX2_isMinute_0 : decode cX2_isMinute 0 = .ok (.iload_n 0, 1) := by decide +kernel
theorem dX2_isMinute_1 : decode cX2_isMinute 1 = .ok (.iconst 0, 1) := by decide +kernel
theorem dX2_isMinute_2 : decode cX2_isMinute 2 = .ok (.ldc 39, 2) := by decide +kernel
theorem dX2_isMinute_4 : decode cX2_isMinute 4 = .ok (.invokestatic 35, 3) := by decide +kernel
theorem dX2_isMinute_7 : decode cX2_isMinute 7 = .ok (.ireturn, 1) := by decide +kernel
theorem dX2_isValue_0 : decode cX2_isValue 0 = .ok (.iload_n 0, 1) := by decide +kernel
theorem dX2_isValue_1 : decode cX2_isValue 1 = .ok (.tableswitch 128 0 15 #[79, 87, 128, 128, 128, 128, 128, 128, 128, 128, 128, 95, 79, 103, 112, 119], 79) := by decide +kernel
theorem dX2_isValue_80 : decode cX2_isValue 80 = .ok (.iload_n 1, 1) := by decide +kernel
theorem dX2_isValue_81 : decode cX2_isValue 81 = .ok (.iconst 0, 1) := by decide +kernel
theorem dX2_isValue_82 : decode cX2_isValue 82 = .ok (.bipush 9, 2) := by decide +kernel
theorem dX2_isValue_84 : decode cX2_isValue 84 = .ok (.invokestatic 35, 3) := by decide +kernel
theorem dX2_isValue_87 : decode cX2_isValue 87 = .ok (.ireturn, 1) := by decide +kernel
theorem dX2_isValue_88 : decode cX2_isValue 88 = .ok (.iload_n 1, 1) := by decide +kernel
theorem dX2_isValue_89 : decode cX2_isValue 89 = .ok (.iconst 0, 1) := by decide +kernel
theorem dX2_isValue_90 : decode cX2_isValue 90 = .ok (.bipush 19, 2) := by decide +kernel
theorem dX2_isValue_92 : decode cX2_isValue 92 = .ok (.invokestatic 35, 3) := by decide +kernel
theorem dX2_isValue_95 : decode cX2_isValue 95 = .ok (.ireturn, 1) := by decide +kernel
theorem dX2_isValue_96 : decode cX2_isValue 96 = .ok (.iload_n 1, 1) := by decide +kernel
theorem dX2_isValue_97 : decode cX2_isValue 97 = .ok (.iconst 0, 1) := by decide +kernel
theorem dX2_isValue_98 : decode cX2_isValue 98 = .ok (.ldc 44, 2) := by decide +kernel
theorem dX2_isValue_100 : decode cX2_isValue 100 = .ok (.invokestatic 35, 3) := by decide +kernel
theorem dX2_isValue_103 : decode cX2_isValue 103 = .ok (.ireturn, 1) := by decide +kernel
theorem dX2_isValue_104 : decode cX2_isValue 104 = .ok (.iload_n 1, 1) := by decide +kernel
theorem dX2_isValue_105 : decode cX2_isValue 105 = .ok (.iconst 0, 1) := by decide +kernel
theorem dX2_isValue_106 : decode cX2_isValue 106 = .ok (.sipush 255, 3) := by decide +kernel
theorem dX2_isValue_109 : decode cX2_isValue 109 = .ok (.invokestatic 35, 3) := by decide +kernel
theorem dX2_isValue_112 : decode cX2_isValue 112 = .ok (.ireturn, 1) := by decide +kernel
theorem dX2_isValue_113 : decode cX2_isValue 113 = .ok (.iload_n 1, 1) := by decide +kernel
theorem dX2_isValue_114 : decode cX2_isValue 114 = .ok (.iconst 0, 1) := by decide +kernel
theorem dX2_isValue_115 : decode cX2_isValue 115 = .ok (.iconst 1, 1) := by decide +kernel
theorem dX2_isValue_116 : decode cX2_isValue 116 = .ok (.invokestatic 35, 3) := by decide +kernel
theorem dX2_isValue_119 : decode cX2_isValue 119 = .ok (.ireturn, 1) := by decide +kernel
theorem dX2_isValue_120 : decode cX2_isValue 120 = .ok (.iload_n 1, 1) := by decide +kernel
theorem dX2_isValue_121 : decode cX2_isValue 121 = .ok (.iconst 0, 1) := by decide +kernel
theorem dX2_isValue_122 : decode cX2_isValue 122 = .ok (.sipush 999, 3) := by decide +kernel
theorem dX2_isValue_125 : decode cX2_isValue 125 = .ok (.invokestatic 35, 3) := by decide +kernel
theorem dX2_isValue_128 : decode cX2_isValue 128 = .ok (.ireturn, 1) := by decide +kernel
theorem dX2_isValue_129 : decode cX2_isValue 129 = .ok (.iconst 1, 1) := by decide +kernel
theorem dX2_isValue_130 : decode cX2_isValue 130 = .ok (.ireturn, 1) := by decide +kernel
theorem dX2_at_0 : decode cX2_at 0 = .ok (.aload_n 0, 1) := by decide +kernel
theorem dX2_at_1 : decode cX2_at 1 = .ok (.aload_n 0, 1) := by decide +kernel
theorem dX2_at_2 : decode cX2_at 2 = .ok (.iload_n 1, 1) := by decide +kernel
theorem dX2_at_3 : decode cX2_at 3 = .ok (.invokevirtual 45, 3) := by decide +kernel
theorem dX2_at_6 : decode cX2_at 6 = .ok (.ifCond .eq 13, 3) := by decide +kernel
theorem dX2_at_9 : decode cX2_at 9 = .ok (.iload_n 3, 1) := by decide +kernel
theorem dX2_at_10 : decode cX2_at 10 = .ok (.iconst 0, 1) := by decide +kernel
theorem dX2_at_11 : decode cX2_at 11 = .ok (.bipush 9, 2) := by decide +kernel
theorem dX2_at_13 : decode cX2_at 13 = .ok (.invokestatic 35, 3) := by decide +kernel
theorem dX2_at_16 : decode cX2_at 16 = .ok (.ifCond .ne 7, 3) := by decide +kernel
theorem dX2_at_19 : decode cX2_at 19 = .ok (.iconst 1, 1) := by decide +kernel
theorem dX2_at_20 : decode cX2_at 20 = .ok (.goto 4, 3) := by decide +kernel
theorem dX2_at_23 : decode cX2_at 23 = .ok (.iconst 0, 1) := by decide +kernel
theorem dX2_at_24 : decode cX2_at 24 = .ok (.iload_n 2, 1) := by decide +kernel
theorem dX2_at_25 : decode cX2_at 25 = .ok (.invokestatic 52, 3) := by decide +kernel
theorem dX2_at_28 : decode cX2_at 28 = .ok (.ifCond .ne 7, 3) := by decide +kernel
theorem dX2_at_31 : decode cX2_at 31 = .ok (.iconst 1, 1) := by decide +kernel
theorem dX2_at_32 : decode cX2_at 32 = .ok (.goto 4, 3) := by decide +kernel
theorem dX2_at_35 : decode cX2_at 35 = .ok (.iconst 0, 1) := by decide +kernel
theorem dX2_at_36 : decode cX2_at 36 = .ok (.iconst 0, 1) := by decide +kernel
theorem dX2_at_37 : decode cX2_at 37 = .ok (.invokevirtual 40, 3) := by decide +kernel
theorem dX2_at_40 : decode cX2_at 40 = .ok (.ifCond .eq 5, 3) := by decide +kernel
theorem dX2_at_43 : decode cX2_at 43 = .ok (.iconst 0, 1) := by decide +kernel
theorem dX2_at_44 : decode cX2_at 44 = .ok (.ireturn, 1) := by decide +kernel
theorem dX2_at_45 : decode cX2_at 45 = .ok (.iload_n 3, 1) := by decide +kernel
theorem dX2_at_46 : decode cX2_at 46 = .ok (.bipush 9, 2) := by decide +kernel
theorem dX2_at_48 : decode cX2_at 48 = .ok (.if_icmp .ne 10, 3) := by decide +kernel
theorem dX2_at_51 : decode cX2_at 51 = .ok (.aload_n 0, 1) := by decide +kernel
theorem dX2_at_52 : decode cX2_at 52 = .ok (.iload_n 1, 1) := by decide +kernel
theorem dX2_at_53 : decode cX2_at 53 = .ok (.iload_n 2, 1) := by decide +kernel
theorem dX2_at_54 : decode cX2_at 54 = .ok (.invokevirtual 126, 3) := by decide +kernel
theorem dX2_at_57 : decode cX2_at 57 = .ok (.ireturn, 1) := by decide +kernel
theorem dX2_at_58 : decode cX2_at 58 = .ok (.aload_n 0, 1) := by decide +kernel
theorem dX2_at_59 : decode cX2_at 59 = .ok (.iload_n 1, 1) := by decide +kernel
theorem dX2_at_60 : decode cX2_at 60 = .ok (.iload_n 2, 1) := by decide +kernel
theorem dX2_at_61 : decode cX2_at 61 = .ok (.iconst (-1), 1) := by decide +kernel
theorem dX2_at_62 : decode cX2_at 62 = .ok (.invokevirtual 119, 3) := by decide +kernel
theorem dX2_at_65 : decode cX2_at 65 = .ok (.iload_n 3, 1) := by decide +kernel
theorem dX2_at_66 : decode cX2_at 66 = .ok (.tableswitch 97 0 7 #[46, 51, 56, 72, 77, 82, 87, 92], 46) := by decide +kernel
theorem dX2_at_112 : decode cX2_at 112 = .ok (.aload_n 0, 1) := by decide +kernel
theorem dX2_at_113 : decode cX2_at 113 = .ok (.getfield 65, 3) := by decide +kernel
theorem dX2_at_116 : decode cX2_at 116 = .ok (.ireturn, 1) := by decide +kernel
theorem dX2_at_117 : decode cX2_at 117 = .ok (.aload_n 0, 1) := by decide +kernel
theorem dX2_at_118 : decode cX2_at 118 = .ok (.getfield 62, 3) := by decide +kernel
theorem dX2_at_121 : decode cX2_at 121 = .ok (.ireturn, 1) := by decide +kernel
theorem dX2_at_122 : decode cX2_at 122 = .ok (.aload_n 0, 1) := by decide +kernel
theorem dX2_at_123 : decode cX2_at 123 = .ok (.getfield 65, 3) := by decide +kernel
theorem dX2_at_126 : decode cX2_at 126 = .ok (.ifCond .ne 10, 3) := by decide +kernel
theorem dX2_at_129 : decode cX2_at 129 = .ok (.aload_n 0, 1) := by decide +kernel
theorem dX2_at_130 : decode cX2_at 130 = .ok (.getfield 75, 3) := by decide +kernel
theorem dX2_at_133 : decode cX2_at 133 = .ok (.goto 4, 3) := by decide +kernel
theorem dX2_at_136 : decode cX2_at 136 = .ok (.iconst (-1), 1) := by decide +kernel
theorem dX2_at_137 : decode cX2_at 137 = .ok (.ireturn, 1) := by decide +kernel
theorem dX2_at_138 : decode cX2_at 138 = .ok (.aload_n 0, 1) := by decide +kernel
theorem dX2_at_139 : decode cX2_at 139 = .ok (.invokevirtual 130, 3) := by decide +kernel
theorem dX2_at_142 : decode cX2_at 142 = .ok (.ireturn, 1) := by decide +kernel
theorem dX2_at_143 : decode cX2_at 143 = .ok (.aload_n 0, 1) := by decide +kernel
theorem dX2_at_144 : decode cX2_at 144 = .ok (.getfield 93, 3) := by decide +kernel
theorem dX2_at_147 : decode cX2_at 147 = .ok (.ireturn, 1) := by decide +kernel
theorem dX2_at_148 : decode cX2_at 148 = .ok (.aload_n 0, 1) := by decide +kernel
theorem dX2_at_149 : decode cX2_at 149 = .ok (.getfield 108, 3) := by decide +kernel
theorem dX2_at_152 : decode cX2_at 152 = .ok (.ireturn, 1) := by decide +kernel
theorem dX2_at_153 : decode cX2_at 153 = .ok (.aload_n 0, 1) := by decide +kernel
theorem dX2_at_154 : decode cX2_at 154 = .ok (.getfield 99, 3) := by decide +kernel
theorem dX2_at_157 : decode cX2_at 157 = .ok (.ireturn, 1) := by decide +kernel
theorem dX2_at_158 : decode cX2_at 158 = .ok (.aload_n 0, 1) := by decide +kernel
theorem dX2_at_159 : decode cX2_at 159 = .ok (.getfield 68, 3) := by decide +kernel
theorem dX2_at_162 : decode cX2_at 162 = .ok (.ireturn, 1) := by decide +kernel
theorem dX2_at_163 : decode cX2_at 163 = .ok (.aload_n 0, 1) := by decide +kernel
theorem dX2_at_164 : decode cX2_at 164 = .ok (.getfield 65, 3) := by decide +kernel
theorem dX2_at_167 : decode cX2_at 167 = .ok (.ifCond .eq 20, 3) := by decide +kernel
theorem dX2_at_170 : decode cX2_at 170 = .ok (.aload_n 0, 1) := by decide +kernel
theorem dX2_at_171 : decode cX2_at 171 = .ok (.getfield 65, 3) := by decide +kernel
theorem dX2_at_174 : decode cX2_at 174 = .ok (.iconst 5, 1) := by decide +kernel
theorem dX2_at_175 : decode cX2_at 175 = .ok (.if_icmp .eq 12, 3) := by decide +kernel
theorem dX2_at_178 : decode cX2_at 178 = .ok (.aload_n 0, 1) := by decide +kernel
theorem dX2_at_179 : decode cX2_at 179 = .ok (.getfield 65, 3) := by decide +kernel
theorem dX2_at_182 : decode cX2_at 182 = .ok (.bipush 6, 2) := by decide +kernel
theorem dX2_at_184 : decode cX2_at 184 = .ok (.if_icmp .ne 38, 3) := by decide +kernel
theorem dX2_at_187 : decode cX2_at 187 = .ok (.aload_n 0, 1) := by decide +kernel
theorem dX2_at_188 : decode cX2_at 188 = .ok (.getfield 93, 3) := by decide +kernel
theorem dX2_at_191 : decode cX2_at 191 = .ok (.aload_n 0, 1) := by decide +kernel
theorem dX2_at_192 : decode cX2_at 192 = .ok (.getfield 13, 3) := by decide +kernel
theorem dX2_at_195 : decode cX2_at 195 = .ok (.iload_n 1, 1) := by decide +kernel
theorem dX2_at_196 : decode cX2_at 196 = .ok (.iaload, 1) := by decide +kernel
theorem dX2_at_197 : decode cX2_at 197 = .ok (.if_icmp .lt 25, 3) := by decide +kernel
theorem dX2_at_200 : decode cX2_at 200 = .ok (.aload_n 0, 1) := by decide +kernel
theorem dX2_at_201 : decode cX2_at 201 = .ok (.getfield 99, 3) := by decide +kernel
theorem dX2_at_204 : decode cX2_at 204 = .ok (.iconst 1, 1) := by decide +kernel
theorem dX2_at_205 : decode cX2_at 205 = .ok (.if_icmp .ne 17, 3) := by decide +kernel
theorem dX2_at_208 : decode cX2_at 208 = .ok (.aload_n 0, 1) := by decide +kernel
theorem dX2_at_209 : decode cX2_at 209 = .ok (.getfield 68, 3) := by decide +kernel
theorem dX2_at_212 : decode cX2_at 212 = .ok (.sipush 240, 3) := by decide +kernel
theorem dX2_at_215 : decode cX2_at 215 = .ok (.if_icmp .ge 7, 3) := by decide +kernel
theorem dX2_at_218 : decode cX2_at 218 = .ok (.iconst 1, 1) := by decide +kernel
theorem dX2_at_219 : decode cX2_at 219 = .ok (.goto 4, 3) := by decide +kernel
theorem dX2_at_222 : decode cX2_at 222 = .ok (.iconst 0, 1) := by decide +kernel
theorem dX2_at_223 : decode cX2_at 223 = .ok (.ireturn, 1) := by decide +kernel
theorem dX2_rank_0 : decode cX2_rank 0 = .ok (.aload_n 0, 1) := by decide +kernel
theorem dX2_rank_1 : decode cX2_rank 1 = .ok (.iload_n 1, 1) := by decide +kernel
theorem dX2_rank_2 : decode cX2_rank 2 = .ok (.iload_n 2, 1) := by decide +kernel
theorem dX2_rank_3 : decode cX2_rank 3 = .ok (.iconst (-1), 1) := by decide +kernel
theorem dX2_rank_4 : decode cX2_rank 4 = .ok (.invokevirtual 119, 3) := by decide +kernel
theorem dX2_rank_7 : decode cX2_rank 7 = .ok (.aload_n 0, 1) := by decide +kernel
theorem dX2_rank_8 : decode cX2_rank 8 = .ok (.getfield 65, 3) := by decide +kernel
theorem dX2_rank_11 : decode cX2_rank 11 = .ok (.iconst 3, 1) := by decide +kernel
theorem dX2_rank_12 : decode cX2_rank 12 = .ok (.iconst 5, 1) := by decide +kernel
theorem dX2_rank_13 : decode cX2_rank 13 = .ok (.invokestatic 35, 3) := by decide +kernel
theorem dX2_rank_16 : decode cX2_rank 16 = .ok (.ifCond .ne 5, 3) := by decide +kernel
theorem dX2_rank_19 : decode cX2_rank 19 = .ok (.iconst 0, 1) := by decide +kernel
theorem dX2_rank_20 : decode cX2_rank 20 = .ok (.ireturn, 1) := by decide +kernel
theorem dX2_rank_21 : decode cX2_rank 21 = .ok (.iconst 1, 1) := by decide +kernel
theorem dX2_rank_22 : decode cX2_rank 22 = .ok (.aload_n 0, 1) := by decide +kernel
theorem dX2_rank_23 : decode cX2_rank 23 = .ok (.aload_n 0, 1) := by decide +kernel
theorem dX2_rank_24 : decode cX2_rank 24 = .ok (.getfield 78, 3) := by decide +kernel
theorem dX2_rank_27 : decode cX2_rank 27 = .ok (.aload_n 0, 1) := by decide +kernel
theorem dX2_rank_28 : decode cX2_rank 28 = .ok (.getfield 81, 3) := by decide +kernel
theorem dX2_rank_31 : decode cX2_rank 31 = .ok (.iload_n 2, 1) := by decide +kernel
theorem dX2_rank_32 : decode cX2_rank 32 = .ok (.invokevirtual 123, 3) := by decide +kernel
theorem dX2_rank_35 : decode cX2_rank 35 = .ok (.iadd, 1) := by decide +kernel
theorem dX2_rank_36 : decode cX2_rank 36 = .ok (.ireturn, 1) := by decide +kernel
theorem dX2_follow_0 : decode cX2_follow 0 = .ok (.aload_n 0, 1) := by decide +kernel
theorem dX2_follow_1 : decode cX2_follow 1 = .ok (.iconst 0, 1) := by decide +kernel
theorem dX2_follow_2 : decode cX2_follow 2 = .ok (.putfield 65, 3) := by decide +kernel
theorem dX2_follow_5 : decode cX2_follow 5 = .ok (.aload_n 0, 1) := by decide +kernel
theorem dX2_follow_6 : decode cX2_follow 6 = .ok (.iconst 0, 1) := by decide +kernel
theorem dX2_follow_7 : decode cX2_follow 7 = .ok (.putfield 62, 3) := by decide +kernel
theorem dX2_follow_10 : decode cX2_follow 10 = .ok (.aload_n 0, 1) := by decide +kernel
theorem dX2_follow_11 : decode cX2_follow 11 = .ok (.aload_n 0, 1) := by decide +kernel
theorem dX2_follow_12 : decode cX2_follow 12 = .ok (.getfield 7, 3) := by decide +kernel
theorem dX2_follow_15 : decode cX2_follow 15 = .ok (.iload_n 1, 1) := by decide +kernel
theorem dX2_follow_16 : decode cX2_follow 16 = .ok (.iaload, 1) := by decide +kernel
theorem dX2_follow_17 : decode cX2_follow 17 = .ok (.putfield 75, 3) := by decide +kernel
theorem dX2_follow_20 : decode cX2_follow 20 = .ok (.aload_n 0, 1) := by decide +kernel
theorem dX2_follow_21 : decode cX2_follow 21 = .ok (.iconst (-1), 1) := by decide +kernel
theorem dX2_follow_22 : decode cX2_follow 22 = .ok (.putfield 78, 3) := by decide +kernel
theorem dX2_follow_25 : decode cX2_follow 25 = .ok (.aload_n 0, 1) := by decide +kernel
theorem dX2_follow_26 : decode cX2_follow 26 = .ok (.aload_n 0, 1) := by decide +kernel
theorem dX2_follow_27 : decode cX2_follow 27 = .ok (.getfield 13, 3) := by decide +kernel
theorem dX2_follow_30 : decode cX2_follow 30 = .ok (.iload_n 1, 1) := by decide +kernel
theorem dX2_follow_31 : decode cX2_follow 31 = .ok (.iaload, 1) := by decide +kernel
theorem dX2_follow_32 : decode cX2_follow 32 = .ok (.putfield 93, 3) := by decide +kernel
theorem dX2_follow_35 : decode cX2_follow 35 = .ok (.aload_n 0, 1) := by decide +kernel
theorem dX2_follow_36 : decode cX2_follow 36 = .ok (.iconst 0, 1) := by decide +kernel
theorem dX2_follow_37 : decode cX2_follow 37 = .ok (.putfield 108, 3) := by decide +kernel
theorem dX2_follow_40 : decode cX2_follow 40 = .ok (.aload_n 0, 1) := by decide +kernel
theorem dX2_follow_41 : decode cX2_follow 41 = .ok (.iconst 1, 1) := by decide +kernel
theorem dX2_follow_42 : decode cX2_follow 42 = .ok (.putfield 99, 3) := by decide +kernel
theorem dX2_follow_45 : decode cX2_follow 45 = .ok (.aload_n 0, 1) := by decide +kernel
theorem dX2_follow_46 : decode cX2_follow 46 = .ok (.iconst 0, 1) := by decide +kernel
theorem dX2_follow_47 : decode cX2_follow 47 = .ok (.putfield 68, 3) := by decide +kernel
theorem dX2_follow_50 : decode cX2_follow 50 = .ok (.aload_n 0, 1) := by decide +kernel
theorem dX2_follow_51 : decode cX2_follow 51 = .ok (.iconst (-1), 1) := by decide +kernel
theorem dX2_follow_52 : decode cX2_follow 52 = .ok (.putfield 102, 3) := by decide +kernel
theorem dX2_follow_55 : decode cX2_follow 55 = .ok (.aload_n 0, 1) := by decide +kernel
theorem dX2_follow_56 : decode cX2_follow 56 = .ok (.iconst (-1), 1) := by decide +kernel
theorem dX2_follow_57 : decode cX2_follow 57 = .ok (.putfield 105, 3) := by decide +kernel
theorem dX2_follow_60 : decode cX2_follow 60 = .ok (.aload_n 0, 1) := by decide +kernel
theorem dX2_follow_61 : decode cX2_follow 61 = .ok (.iconst (-1), 1) := by decide +kernel
theorem dX2_follow_62 : decode cX2_follow 62 = .ok (.putfield 84, 3) := by decide +kernel
theorem dX2_follow_65 : decode cX2_follow 65 = .ok (.aload_n 0, 1) := by decide +kernel
theorem dX2_follow_66 : decode cX2_follow 66 = .ok (.iconst (-1), 1) := by decide +kernel
theorem dX2_follow_67 : decode cX2_follow 67 = .ok (.putfield 81, 3) := by decide +kernel
theorem dX2_follow_70 : decode cX2_follow 70 = .ok (.aload_n 0, 1) := by decide +kernel
theorem dX2_follow_71 : decode cX2_follow 71 = .ok (.iload_n 1, 1) := by decide +kernel
theorem dX2_follow_72 : decode cX2_follow 72 = .ok (.iconst (-1), 1) := by decide +kernel
theorem dX2_follow_73 : decode cX2_follow 73 = .ok (.iload_n 2, 1) := by decide +kernel
theorem dX2_follow_74 : decode cX2_follow 74 = .ok (.invokevirtual 111, 3) := by decide +kernel
theorem dX2_follow_77 : decode cX2_follow 77 = .ok (.istore 4, 2) := by decide +kernel
theorem dX2_follow_79 : decode cX2_follow 79 = .ok (.iload 4, 2) := by decide +kernel
theorem dX2_follow_81 : decode cX2_follow 81 = .ok (.ifCond .lt 7, 3) := by decide +kernel
theorem dX2_follow_84 : decode cX2_follow 84 = .ok (.iconst 1, 1) := by decide +kernel
theorem dX2_follow_85 : decode cX2_follow 85 = .ok (.goto 4, 3) := by decide +kernel
theorem dX2_follow_88 : decode cX2_follow 88 = .ok (.iconst 0, 1) := by decide +kernel
theorem dX2_follow_89 : decode cX2_follow 89 = .ok (.istore 5, 2) := by decide +kernel
theorem dX2_follow_91 : decode cX2_follow 91 = .ok (.iload 5, 2) := by decide +kernel
theorem dX2_follow_93 : decode cX2_follow 93 = .ok (.ifCond .eq 63, 3) := by decide +kernel
theorem dX2_follow_96 : decode cX2_follow 96 = .ok (.aload_n 0, 1) := by decide +kernel
theorem dX2_follow_97 : decode cX2_follow 97 = .ok (.iload_n 1, 1) := by decide +kernel
theorem dX2_follow_98 : decode cX2_follow 98 = .ok (.iload 4, 2) := by decide +kernel
theorem dX2_follow_100 : decode cX2_follow 100 = .ok (.invokevirtual 115, 3) := by decide +kernel
theorem dX2_follow_103 : decode cX2_follow 103 = .ok (.iload 4, 2) := by decide +kernel
theorem dX2_follow_105 : decode cX2_follow 105 = .ok (.iload_n 3, 1) := by decide +kernel
theorem dX2_follow_106 : decode cX2_follow 106 = .ok (.if_icmp .eq 7, 3) := by decide +kernel
theorem dX2_follow_109 : decode cX2_follow 109 = .ok (.iconst 1, 1) := by decide +kernel
theorem dX2_follow_110 : decode cX2_follow 110 = .ok (.goto 4, 3) := by decide +kernel
theorem dX2_follow_113 : decode cX2_follow 113 = .ok (.iconst 0, 1) := by decide +kernel
theorem dX2_follow_114 : decode cX2_follow 114 = .ok (.istore 5, 2) := by decide +kernel
theorem dX2_follow_116 : decode cX2_follow 116 = .ok (.iload 5, 2) := by decide +kernel
theorem dX2_follow_118 : decode cX2_follow 118 = .ok (.ifCond .eq 14, 3) := by decide +kernel
theorem dX2_follow_121 : decode cX2_follow 121 = .ok (.aload_n 0, 1) := by decide +kernel
theorem dX2_follow_122 : decode cX2_follow 122 = .ok (.iload_n 1, 1) := by decide +kernel
theorem dX2_follow_123 : decode cX2_follow 123 = .ok (.iload 4, 2) := by decide +kernel
theorem dX2_follow_125 : decode cX2_follow 125 = .ok (.iload_n 2, 1) := by decide +kernel
theorem dX2_follow_126 : decode cX2_follow 126 = .ok (.invokevirtual 111, 3) := by decide +kernel
theorem dX2_follow_129 : decode cX2_follow 129 = .ok (.goto 5, 3) := by decide +kernel
theorem dX2_follow_132 : decode cX2_follow 132 = .ok (.iload 4, 2) := by decide +kernel
theorem dX2_follow_134 : decode cX2_follow 134 = .ok (.istore 4, 2) := by decide +kernel
theorem dX2_follow_136 : decode cX2_follow 136 = .ok (.iload 5, 2) := by decide +kernel
theorem dX2_follow_138 : decode cX2_follow 138 = .ok (.ifCond .eq 12, 3) := by decide +kernel
theorem dX2_follow_141 : decode cX2_follow 141 = .ok (.iload 4, 2) := by decide +kernel
theorem dX2_follow_143 : decode cX2_follow 143 = .ok (.ifCond .lt 7, 3) := by decide +kernel
theorem dX2_follow_146 : decode cX2_follow 146 = .ok (.iconst 1, 1) := by decide +kernel
theorem dX2_follow_147 : decode cX2_follow 147 = .ok (.goto 4, 3) := by decide +kernel
theorem dX2_follow_150 : decode cX2_follow 150 = .ok (.iconst 0, 1) := by decide +kernel
theorem dX2_follow_151 : decode cX2_follow 151 = .ok (.istore 5, 2) := by decide +kernel
theorem dX2_follow_153 : decode cX2_follow 153 = .ok (.goto (-62), 3) := by decide +kernel
theorem dX2_follow_156 : decode cX2_follow 156 = .ok (.iload_n 3, 1) := by decide +kernel
theorem dX2_follow_157 : decode cX2_follow 157 = .ok (.ifCond .ge 8, 3) := by decide +kernel
theorem dX2_follow_160 : decode cX2_follow 160 = .ok (.aload_n 0, 1) := by decide +kernel
theorem dX2_follow_161 : decode cX2_follow 161 = .ok (.iload_n 2, 1) := by decide +kernel
theorem dX2_follow_162 : decode cX2_follow 162 = .ok (.invokevirtual 71, 3) := by decide +kernel
theorem dX2_follow_165 : decode cX2_follow 165 = .ok (.return_, 1) := by decide +kernel
theorem dX2_next_0 : decode cX2_next 0 = .ok (.iconst (-1), 1) := by decide +kernel
theorem dX2_next_1 : decode cX2_next 1 = .ok (.istore 4, 2) := by decide +kernel
theorem dX2_next_3 : decode cX2_next 3 = .ok (.iconst 0, 1) := by decide +kernel
theorem dX2_next_4 : decode cX2_next 4 = .ok (.istore 5, 2) := by decide +kernel
theorem dX2_next_6 : decode cX2_next 6 = .ok (.iload 5, 2) := by decide +kernel
theorem dX2_next_8 : decode cX2_next 8 = .ok (.aload_n 0, 1) := by decide +kernel
theorem dX2_next_9 : decode cX2_next 9 = .ok (.getfield 59, 3) := by decide +kernel
theorem dX2_next_12 : decode cX2_next 12 = .ok (.if_icmp .ge 123, 3) := by decide +kernel
theorem dX2_next_15 : decode cX2_next 15 = .ok (.iload_n 2, 1) := by decide +kernel
theorem dX2_next_16 : decode cX2_next 16 = .ok (.ifCond .lt 41, 3) := by decide +kernel
theorem dX2_next_19 : decode cX2_next 19 = .ok (.aload_n 0, 1) := by decide +kernel
theorem dX2_next_20 : decode cX2_next 20 = .ok (.getfield 19, 3) := by decide +kernel
theorem dX2_next_23 : decode cX2_next 23 = .ok (.iload 5, 2) := by decide +kernel
theorem dX2_next_25 : decode cX2_next 25 = .ok (.iaload, 1) := by decide +kernel
theorem dX2_next_26 : decode cX2_next 26 = .ok (.aload_n 0, 1) := by decide +kernel
theorem dX2_next_27 : decode cX2_next 27 = .ok (.getfield 19, 3) := by decide +kernel
theorem dX2_next_30 : decode cX2_next 30 = .ok (.iload_n 2, 1) := by decide +kernel
theorem dX2_next_31 : decode cX2_next 31 = .ok (.iaload, 1) := by decide +kernel
theorem dX2_next_32 : decode cX2_next 32 = .ok (.if_icmp .gt 25, 3) := by decide +kernel
theorem dX2_next_35 : decode cX2_next 35 = .ok (.aload_n 0, 1) := by decide +kernel
theorem dX2_next_36 : decode cX2_next 36 = .ok (.getfield 19, 3) := by decide +kernel
theorem dX2_next_39 : decode cX2_next 39 = .ok (.iload 5, 2) := by decide +kernel
theorem dX2_next_41 : decode cX2_next 41 = .ok (.iaload, 1) := by decide +kernel
theorem dX2_next_42 : decode cX2_next 42 = .ok (.aload_n 0, 1) := by decide +kernel
theorem dX2_next_43 : decode cX2_next 43 = .ok (.getfield 19, 3) := by decide +kernel
theorem dX2_next_46 : decode cX2_next 46 = .ok (.iload_n 2, 1) := by decide +kernel
theorem dX2_next_47 : decode cX2_next 47 = .ok (.iaload, 1) := by decide +kernel
theorem dX2_next_48 : decode cX2_next 48 = .ok (.if_icmp .ne 13, 3) := by decide +kernel
theorem dX2_next_51 : decode cX2_next 51 = .ok (.iload 5, 2) := by decide +kernel
theorem dX2_next_53 : decode cX2_next 53 = .ok (.iload_n 2, 1) := by decide +kernel
theorem dX2_next_54 : decode cX2_next 54 = .ok (.if_icmp .le 7, 3) := by decide +kernel
theorem dX2_next_57 : decode cX2_next 57 = .ok (.iconst 1, 1) := by decide +kernel
theorem dX2_next_58 : decode cX2_next 58 = .ok (.goto 4, 3) := by decide +kernel
theorem dX2_next_61 : decode cX2_next 61 = .ok (.iconst 0, 1) := by decide +kernel
theorem dX2_next_62 : decode cX2_next 62 = .ok (.istore 6, 2) := by decide +kernel
theorem dX2_next_64 : decode cX2_next 64 = .ok (.aload_n 0, 1) := by decide +kernel
theorem dX2_next_65 : decode cX2_next 65 = .ok (.getfield 16, 3) := by decide +kernel
theorem dX2_next_68 : decode cX2_next 68 = .ok (.iload 5, 2) := by decide +kernel
theorem dX2_next_70 : decode cX2_next 70 = .ok (.iaload, 1) := by decide +kernel
theorem dX2_next_71 : decode cX2_next 71 = .ok (.iload_n 1, 1) := by decide +kernel
theorem dX2_next_72 : decode cX2_next 72 = .ok (.if_icmp .ne 23, 3) := by decide +kernel
theorem dX2_next_75 : decode cX2_next 75 = .ok (.aload_n 0, 1) := by decide +kernel
theorem dX2_next_76 : decode cX2_next 76 = .ok (.getfield 19, 3) := by decide +kernel
theorem dX2_next_79 : decode cX2_next 79 = .ok (.iload 5, 2) := by decide +kernel
theorem dX2_next_81 : decode cX2_next 81 = .ok (.iaload, 1) := by decide +kernel
theorem dX2_next_82 : decode cX2_next 82 = .ok (.iload_n 3, 1) := by decide +kernel
theorem dX2_next_83 : decode cX2_next 83 = .ok (.if_icmp .gt 12, 3) := by decide +kernel
theorem dX2_next_86 : decode cX2_next 86 = .ok (.iload 6, 2) := by decide +kernel
theorem dX2_next_88 : decode cX2_next 88 = .ok (.ifCond .eq 7, 3) := by decide +kernel
theorem dX2_next_91 : decode cX2_next 91 = .ok (.iconst 1, 1) := by decide +kernel
theorem dX2_next_92 : decode cX2_next 92 = .ok (.goto 4, 3) := by decide +kernel
theorem dX2_next_95 : decode cX2_next 95 = .ok (.iconst 0, 1) := by decide +kernel
theorem dX2_next_96 : decode cX2_next 96 = .ok (.istore 7, 2) := by decide +kernel
theorem dX2_next_98 : decode cX2_next 98 = .ok (.iload 7, 2) := by decide +kernel
theorem dX2_next_100 : decode cX2_next 100 = .ok (.ifCond .eq 29, 3) := by decide +kernel
theorem dX2_next_103 : decode cX2_next 103 = .ok (.iload 4, 2) := by decide +kernel
theorem dX2_next_105 : decode cX2_next 105 = .ok (.ifCond .lt 20, 3) := by decide +kernel
theorem dX2_next_108 : decode cX2_next 108 = .ok (.aload_n 0, 1) := by decide +kernel
theorem dX2_next_109 : decode cX2_next 109 = .ok (.getfield 19, 3) := by decide +kernel
theorem dX2_next_112 : decode cX2_next 112 = .ok (.iload 5, 2) := by decide +kernel
theorem dX2_next_114 : decode cX2_next 114 = .ok (.iaload, 1) := by decide +kernel
theorem dX2_next_115 : decode cX2_next 115 = .ok (.aload_n 0, 1) := by decide +kernel
theorem dX2_next_116 : decode cX2_next 116 = .ok (.getfield 19, 3) := by decide +kernel
theorem dX2_next_119 : decode cX2_next 119 = .ok (.iload 4, 2) := by decide +kernel
theorem dX2_next_121 : decode cX2_next 121 = .ok (.iaload, 1) := by decide +kernel
theorem dX2_next_122 : decode cX2_next 122 = .ok (.if_icmp .ge 7, 3) := by decide +kernel
theorem dX2_next_125 : decode cX2_next 125 = .ok (.iload 5, 2) := by decide +kernel
theorem dX2_next_127 : decode cX2_next 127 = .ok (.istore 4, 2) := by decide +kernel
theorem dX2_next_129 : decode cX2_next 129 = .ok (.iinc 5 1, 3) := by decide +kernel
theorem dX2_next_132 : decode cX2_next 132 = .ok (.goto (-126), 3) := by decide +kernel
theorem dX2_next_135 : decode cX2_next 135 = .ok (.iload 4, 2) := by decide +kernel
theorem dX2_next_137 : decode cX2_next 137 = .ok (.ireturn, 1) := by decide +kernel
theorem dX2_take_0 : decode cX2_take 0 = .ok (.aload_n 0, 1) := by decide +kernel
theorem dX2_take_1 : decode cX2_take 1 = .ok (.getfield 22, 3) := by decide +kernel
theorem dX2_take_4 : decode cX2_take 4 = .ok (.iload_n 2, 1) := by decide +kernel
theorem dX2_take_5 : decode cX2_take 5 = .ok (.iaload, 1) := by decide +kernel
theorem dX2_take_6 : decode cX2_take 6 = .ok (.istore_n 3, 1) := by decide +kernel
theorem dX2_take_7 : decode cX2_take 7 = .ok (.aload_n 0, 1) := by decide +kernel
theorem dX2_take_8 : decode cX2_take 8 = .ok (.iconst 0, 1) := by decide +kernel
theorem dX2_take_9 : decode cX2_take 9 = .ok (.putfield 87, 3) := by decide +kernel
theorem dX2_take_12 : decode cX2_take 12 = .ok (.iload_n 3, 1) := by decide +kernel
theorem dX2_take_13 : decode cX2_take 13 = .ok (.bipush 11, 2) := by decide +kernel
theorem dX2_take_15 : decode cX2_take 15 = .ok (.if_icmp .ge 88, 3) := by decide +kernel
theorem dX2_take_18 : decode cX2_take 18 = .ok (.aload_n 0, 1) := by decide +kernel
theorem dX2_take_19 : decode cX2_take 19 = .ok (.getfield 65, 3) := by decide +kernel
theorem dX2_take_22 : decode cX2_take 22 = .ok (.iload_n 3, 1) := by decide +kernel
theorem dX2_take_23 : decode cX2_take 23 = .ok (.invokestatic 90, 3) := by decide +kernel
theorem dX2_take_26 : decode cX2_take 26 = .ok (.ifCond .ne 11, 3) := by decide +kernel
theorem dX2_take_29 : decode cX2_take 29 = .ok (.aload_n 0, 1) := by decide +kernel
theorem dX2_take_30 : decode cX2_take 30 = .ok (.iconst 1, 1) := by decide +kernel
theorem dX2_take_31 : decode cX2_take 31 = .ok (.putfield 87, 3) := by decide +kernel
theorem dX2_take_34 : decode cX2_take 34 = .ok (.goto 187, 3) := by decide +kernel
theorem dX2_take_37 : decode cX2_take 37 = .ok (.iload_n 3, 1) := by decide +kernel
theorem dX2_take_38 : decode cX2_take 38 = .ok (.iconst 2, 1) := by decide +kernel
theorem dX2_take_39 : decode cX2_take 39 = .ok (.iconst 4, 1) := by decide +kernel
theorem dX2_take_40 : decode cX2_take 40 = .ok (.invokestatic 35, 3) := by decide +kernel
theorem dX2_take_43 : decode cX2_take 43 = .ok (.ifCond .eq 24, 3) := by decide +kernel
theorem dX2_take_46 : decode cX2_take 46 = .ok (.aload_n 0, 1) := by decide +kernel
theorem dX2_take_47 : decode cX2_take 47 = .ok (.getfield 93, 3) := by decide +kernel
theorem dX2_take_50 : decode cX2_take 50 = .ok (.aload_n 0, 1) := by decide +kernel
theorem dX2_take_51 : decode cX2_take 51 = .ok (.getfield 13, 3) := by decide +kernel
theorem dX2_take_54 : decode cX2_take 54 = .ok (.iload_n 1, 1) := by decide +kernel
theorem dX2_take_55 : decode cX2_take 55 = .ok (.iaload, 1) := by decide +kernel
theorem dX2_take_56 : decode cX2_take 56 = .ok (.if_icmp .ge 11, 3) := by decide +kernel
theorem dX2_take_59 : decode cX2_take 59 = .ok (.aload_n 0, 1) := by decide +kernel
theorem dX2_take_60 : decode cX2_take 60 = .ok (.iconst 2, 1) := by decide +kernel
theorem dX2_take_61 : decode cX2_take 61 = .ok (.putfield 87, 3) := by decide +kernel
theorem dX2_take_64 : decode cX2_take 64 = .ok (.goto 157, 3) := by decide +kernel
theorem dX2_take_67 : decode cX2_take 67 = .ok (.aload_n 0, 1) := by decide +kernel
theorem dX2_take_68 : decode cX2_take 68 = .ok (.iload_n 2, 1) := by decide +kernel
theorem dX2_take_69 : decode cX2_take 69 = .ok (.invokevirtual 96, 3) := by decide +kernel
theorem dX2_take_72 : decode cX2_take 72 = .ok (.aload_n 0, 1) := by decide +kernel
theorem dX2_take_73 : decode cX2_take 73 = .ok (.iload_n 3, 1) := by decide +kernel
theorem dX2_take_74 : decode cX2_take 74 = .ok (.ifCond .ne 22, 3) := by decide +kernel
theorem dX2_take_77 : decode cX2_take 77 = .ok (.aload_n 0, 1) := by decide +kernel
theorem dX2_take_78 : decode cX2_take 78 = .ok (.getfield 25, 3) := by decide +kernel
theorem dX2_take_81 : decode cX2_take 81 = .ok (.iload_n 2, 1) := by decide +kernel
theorem dX2_take_82 : decode cX2_take 82 = .ok (.iaload, 1) := by decide +kernel
theorem dX2_take_83 : decode cX2_take 83 = .ok (.aload_n 0, 1) := by decide +kernel
theorem dX2_take_84 : decode cX2_take 84 = .ok (.getfield 7, 3) := by decide +kernel
theorem dX2_take_87 : decode cX2_take 87 = .ok (.iload_n 1, 1) := by decide +kernel
theorem dX2_take_88 : decode cX2_take 88 = .ok (.iaload, 1) := by decide +kernel
theorem dX2_take_89 : decode cX2_take 89 = .ok (.if_icmp .eq 7, 3) := by decide +kernel
theorem dX2_take_92 : decode cX2_take 92 = .ok (.iconst 3, 1) := by decide +kernel
theorem dX2_take_93 : decode cX2_take 93 = .ok (.goto 4, 3) := by decide +kernel
theorem dX2_take_96 : decode cX2_take 96 = .ok (.iconst 0, 1) := by decide +kernel
theorem dX2_take_97 : decode cX2_take 97 = .ok (.putfield 87, 3) := by decide +kernel
theorem dX2_take_100 : decode cX2_take 100 = .ok (.goto 121, 3) := by decide +kernel
theorem dX2_take_103 : decode cX2_take 103 = .ok (.iload_n 3, 1) := by decide +kernel
theorem dX2_take_104 : decode cX2_take 104 = .ok (.bipush 11, 2) := by decide +kernel
theorem dX2_take_106 : decode cX2_take 106 = .ok (.if_icmp .ne 41, 3) := by decide +kernel
theorem dX2_take_109 : decode cX2_take 109 = .ok (.aload_n 0, 1) := by decide +kernel
theorem dX2_take_110 : decode cX2_take 110 = .ok (.getfield 99, 3) := by decide +kernel
theorem dX2_take_113 : decode cX2_take 113 = .ok (.ifCond .ne 11, 3) := by decide +kernel
theorem dX2_take_116 : decode cX2_take 116 = .ok (.aload_n 0, 1) := by decide +kernel
theorem dX2_take_117 : decode cX2_take 117 = .ok (.iconst 4, 1) := by decide +kernel
theorem dX2_take_118 : decode cX2_take 118 = .ok (.putfield 87, 3) := by decide +kernel
theorem dX2_take_121 : decode cX2_take 121 = .ok (.goto 100, 3) := by decide +kernel
theorem dX2_take_124 : decode cX2_take 124 = .ok (.aload_n 0, 1) := by decide +kernel
theorem dX2_take_125 : decode cX2_take 125 = .ok (.aload_n 0, 1) := by decide +kernel
theorem dX2_take_126 : decode cX2_take 126 = .ok (.getfield 25, 3) := by decide +kernel
theorem dX2_take_129 : decode cX2_take 129 = .ok (.iload_n 2, 1) := by decide +kernel
theorem dX2_take_130 : decode cX2_take 130 = .ok (.iaload, 1) := by decide +kernel
theorem dX2_take_131 : decode cX2_take 131 = .ok (.putfield 102, 3) := by decide +kernel
theorem dX2_take_134 : decode cX2_take 134 = .ok (.aload_n 0, 1) := by decide +kernel
theorem dX2_take_135 : decode cX2_take 135 = .ok (.aload_n 0, 1) := by decide +kernel
theorem dX2_take_136 : decode cX2_take 136 = .ok (.getfield 19, 3) := by decide +kernel
theorem dX2_take_139 : decode cX2_take 139 = .ok (.iload_n 2, 1) := by decide +kernel
theorem dX2_take_140 : decode cX2_take 140 = .ok (.iaload, 1) := by decide +kernel
theorem dX2_take_141 : decode cX2_take 141 = .ok (.putfield 105, 3) := by decide +kernel
theorem dX2_take_144 : decode cX2_take 144 = .ok (.goto 77, 3) := by decide +kernel
theorem dX2_take_147 : decode cX2_take 147 = .ok (.iload_n 3, 1) := by decide +kernel
theorem dX2_take_148 : decode cX2_take 148 = .ok (.bipush 12, 2) := by decide +kernel
theorem dX2_take_150 : decode cX2_take 150 = .ok (.if_icmp .ne 16, 3) := by decide +kernel
theorem dX2_take_153 : decode cX2_take 153 = .ok (.aload_n 0, 1) := by decide +kernel
theorem dX2_take_154 : decode cX2_take 154 = .ok (.aload_n 0, 1) := by decide +kernel
theorem dX2_take_155 : decode cX2_take 155 = .ok (.getfield 25, 3) := by decide +kernel
theorem dX2_take_158 : decode cX2_take 158 = .ok (.iload_n 2, 1) := by decide +kernel
theorem dX2_take_159 : decode cX2_take 159 = .ok (.iaload, 1) := by decide +kernel
theorem dX2_take_160 : decode cX2_take 160 = .ok (.putfield 93, 3) := by decide +kernel
theorem dX2_take_163 : decode cX2_take 163 = .ok (.goto 58, 3) := by decide +kernel
theorem dX2_take_166 : decode cX2_take 166 = .ok (.iload_n 3, 1) := by decide +kernel
theorem dX2_take_167 : decode cX2_take 167 = .ok (.bipush 13, 2) := by decide +kernel
theorem dX2_take_169 : decode cX2_take 169 = .ok (.if_icmp .ne 16, 3) := by decide +kernel
theorem dX2_take_172 : decode cX2_take 172 = .ok (.aload_n 0, 1) := by decide +kernel
theorem dX2_take_173 : decode cX2_take 173 = .ok (.aload_n 0, 1) := by decide +kernel
theorem dX2_take_174 : decode cX2_take 174 = .ok (.getfield 25, 3) := by decide +kernel
theorem dX2_take_177 : decode cX2_take 177 = .ok (.iload_n 2, 1) := by decide +kernel
theorem dX2_take_178 : decode cX2_take 178 = .ok (.iaload, 1) := by decide +kernel
theorem dX2_take_179 : decode cX2_take 179 = .ok (.putfield 108, 3) := by decide +kernel
theorem dX2_take_182 : decode cX2_take 182 = .ok (.goto 39, 3) := by decide +kernel
theorem dX2_take_185 : decode cX2_take 185 = .ok (.iload_n 3, 1) := by decide +kernel
theorem dX2_take_186 : decode cX2_take 186 = .ok (.bipush 14, 2) := by decide +kernel
theorem dX2_take_188 : decode cX2_take 188 = .ok (.if_icmp .ne 16, 3) := by decide +kernel
theorem dX2_take_191 : decode cX2_take 191 = .ok (.aload_n 0, 1) := by decide +kernel
theorem dX2_take_192 : decode cX2_take 192 = .ok (.aload_n 0, 1) := by decide +kernel
theorem dX2_take_193 : decode cX2_take 193 = .ok (.getfield 25, 3) := by decide +kernel
theorem dX2_take_196 : decode cX2_take 196 = .ok (.iload_n 2, 1) := by decide +kernel
theorem dX2_take_197 : decode cX2_take 197 = .ok (.iaload, 1) := by decide +kernel
theorem dX2_take_198 : decode cX2_take 198 = .ok (.putfield 99, 3) := by decide +kernel
theorem dX2_take_201 : decode cX2_take 201 = .ok (.goto 20, 3) := by decide +kernel
theorem dX2_take_204 : decode cX2_take 204 = .ok (.aload_n 0, 1) := by decide +kernel
theorem dX2_take_205 : decode cX2_take 205 = .ok (.aload_n 0, 1) := by decide +kernel
theorem dX2_take_206 : decode cX2_take 206 = .ok (.getfield 19, 3) := by decide +kernel
theorem dX2_take_209 : decode cX2_take 209 = .ok (.iload_n 2, 1) := by decide +kernel
theorem dX2_take_210 : decode cX2_take 210 = .ok (.iaload, 1) := by decide +kernel
theorem dX2_take_211 : decode cX2_take 211 = .ok (.aload_n 0, 1) := by decide +kernel
theorem dX2_take_212 : decode cX2_take 212 = .ok (.getfield 25, 3) := by decide +kernel
theorem dX2_take_215 : decode cX2_take 215 = .ok (.iload_n 2, 1) := by decide +kernel
theorem dX2_take_216 : decode cX2_take 216 = .ok (.iaload, 1) := by decide +kernel
theorem dX2_take_217 : decode cX2_take 217 = .ok (.iadd, 1) := by decide +kernel
theorem dX2_take_218 : decode cX2_take 218 = .ok (.putfield 84, 3) := by decide +kernel
theorem dX2_take_221 : decode cX2_take 221 = .ok (.return_, 1) := by decide +kernel
theorem dX2_follows_0 : decode cX2_follows 0 = .ok (.iload_n 0, 1) := by decide +kernel
theorem dX2_follows_1 : decode cX2_follows 1 = .ok (.tableswitch 217 0 9 #[55, 72, 87, 104, 120, 131, 148, 169, 185, 201], 55) := by decide +kernel
theorem dX2_follows_56 : decode cX2_follows 56 = .ok (.iload_n 1, 1) := by decide +kernel
theorem dX2_follows_57 : decode cX2_follows 57 = .ok (.iconst 1, 1) := by decide +kernel
theorem dX2_follows_58 : decode cX2_follows 58 = .ok (.if_icmp .eq 9, 3) := by decide +kernel
theorem dX2_follows_61 : decode cX2_follows 61 = .ok (.iload_n 1, 1) := by decide +kernel
theorem dX2_follows_62 : decode cX2_follows 62 = .ok (.bipush 6, 2) := by decide +kernel
theorem dX2_follows_64 : decode cX2_follows 64 = .ok (.if_icmp .le 7, 3) := by decide +kernel
theorem dX2_follows_67 : decode cX2_follows 67 = .ok (.iconst 1, 1) := by decide +kernel
theorem dX2_follows_68 : decode cX2_follows 68 = .ok (.goto 4, 3) := by decide +kernel
theorem dX2_follows_71 : decode cX2_follows 71 = .ok (.iconst 0, 1) := by decide +kernel
theorem dX2_follows_72 : decode cX2_follows 72 = .ok (.ireturn, 1) := by decide +kernel
theorem dX2_follows_73 : decode cX2_follows 73 = .ok (.iload_n 1, 1) := by decide +kernel
theorem dX2_follows_74 : decode cX2_follows 74 = .ok (.iconst 2, 1) := by decide +kernel
theorem dX2_follows_75 : decode cX2_follows 75 = .ok (.if_icmp .eq 7, 3) := by decide +kernel
theorem dX2_follows_78 : decode cX2_follows 78 = .ok (.iload_n 1, 1) := by decide +kernel
theorem dX2_follows_79 : decode cX2_follows 79 = .ok (.ifCond .ne 7, 3) := by decide +kernel
theorem dX2_follows_82 : decode cX2_follows 82 = .ok (.iconst 1, 1) := by decide +kernel
theorem dX2_follows_83 : decode cX2_follows 83 = .ok (.goto 4, 3) := by decide +kernel
theorem dX2_follows_86 : decode cX2_follows 86 = .ok (.iconst 0, 1) := by decide +kernel
theorem dX2_follows_87 : decode cX2_follows 87 = .ok (.ireturn, 1) := by decide +kernel
theorem dX2_follows_88 : decode cX2_follows 88 = .ok (.iload_n 1, 1) := by decide +kernel
theorem dX2_follows_89 : decode cX2_follows 89 = .ok (.iconst 3, 1) := by decide +kernel
theorem dX2_follows_90 : decode cX2_follows 90 = .ok (.if_icmp .eq 9, 3) := by decide +kernel
theorem dX2_follows_93 : decode cX2_follows 93 = .ok (.iload_n 1, 1) := by decide +kernel
theorem dX2_follows_94 : decode cX2_follows 94 = .ok (.bipush 6, 2) := by decide +kernel
theorem dX2_follows_96 : decode cX2_follows 96 = .ok (.if_icmp .ne 7, 3) := by decide +kernel
theorem dX2_follows_99 : decode cX2_follows 99 = .ok (.iconst 1, 1) := by decide +kernel
theorem dX2_follows_100 : decode cX2_follows 100 = .ok (.goto 4, 3) := by decide +kernel
theorem dX2_follows_103 : decode cX2_follows 103 = .ok (.iconst 0, 1) := by decide +kernel
theorem dX2_follows_104 : decode cX2_follows 104 = .ok (.ireturn, 1) := by decide +kernel
theorem dX2_follows_105 : decode cX2_follows 105 = .ok (.iload_n 1, 1) := by decide +kernel
theorem dX2_follows_106 : decode cX2_follows 106 = .ok (.iconst 4, 1) := by decide +kernel
theorem dX2_follows_107 : decode cX2_follows 107 = .ok (.if_icmp .eq 8, 3) := by decide +kernel
theorem dX2_follows_110 : decode cX2_follows 110 = .ok (.iload_n 1, 1) := by decide +kernel
theorem dX2_follows_111 : decode cX2_follows 111 = .ok (.iconst 5, 1) := by decide +kernel
theorem dX2_follows_112 : decode cX2_follows 112 = .ok (.if_icmp .ne 7, 3) := by decide +kernel
theorem dX2_follows_115 : decode cX2_follows 115 = .ok (.iconst 1, 1) := by decide +kernel
theorem dX2_follows_116 : decode cX2_follows 116 = .ok (.goto 4, 3) := by decide +kernel
theorem dX2_follows_119 : decode cX2_follows 119 = .ok (.iconst 0, 1) := by decide +kernel
theorem dX2_follows_120 : decode cX2_follows 120 = .ok (.ireturn, 1) := by decide +kernel
theorem dX2_follows_121 : decode cX2_follows 121 = .ok (.iload_n 1, 1) := by decide +kernel
theorem dX2_follows_122 : decode cX2_follows 122 = .ok (.iconst 5, 1) := by decide +kernel
theorem dX2_follows_123 : decode cX2_follows 123 = .ok (.if_icmp .ne 7, 3) := by decide +kernel
theorem dX2_follows_126 : decode cX2_follows 126 = .ok (.iconst 1, 1) := by decide +kernel
theorem dX2_follows_127 : decode cX2_follows 127 = .ok (.goto 4, 3) := by decide +kernel
theorem dX2_follows_130 : decode cX2_follows 130 = .ok (.iconst 0, 1) := by decide +kernel
theorem dX2_follows_131 : decode cX2_follows 131 = .ok (.ireturn, 1) := by decide +kernel
theorem dX2_follows_132 : decode cX2_follows 132 = .ok (.iload_n 1, 1) := by decide +kernel
theorem dX2_follows_133 : decode cX2_follows 133 = .ok (.iconst 1, 1) := by decide +kernel
theorem dX2_follows_134 : decode cX2_follows 134 = .ok (.if_icmp .eq 9, 3) := by decide +kernel
theorem dX2_follows_137 : decode cX2_follows 137 = .ok (.iload_n 1, 1) := by decide +kernel
theorem dX2_follows_138 : decode cX2_follows 138 = .ok (.bipush 6, 2) := by decide +kernel
theorem dX2_follows_140 : decode cX2_follows 140 = .ok (.if_icmp .ne 7, 3) := by decide +kernel
theorem dX2_follows_143 : decode cX2_follows 143 = .ok (.iconst 1, 1) := by decide +kernel
theorem dX2_follows_144 : decode cX2_follows 144 = .ok (.goto 4, 3) := by decide +kernel
theorem dX2_follows_147 : decode cX2_follows 147 = .ok (.iconst 0, 1) := by decide +kernel
theorem dX2_follows_148 : decode cX2_follows 148 = .ok (.ireturn, 1) := by decide +kernel
theorem dX2_follows_149 : decode cX2_follows 149 = .ok (.iload_n 1, 1) := by decide +kernel
theorem dX2_follows_150 : decode cX2_follows 150 = .ok (.ifCond .eq 14, 3) := by decide +kernel
theorem dX2_follows_153 : decode cX2_follows 153 = .ok (.iload_n 1, 1) := by decide +kernel
theorem dX2_follows_154 : decode cX2_follows 154 = .ok (.iconst 1, 1) := by decide +kernel
theorem dX2_follows_155 : decode cX2_follows 155 = .ok (.if_icmp .eq 9, 3) := by decide +kernel
theorem dX2_follows_158 : decode cX2_follows 158 = .ok (.iload_n 1, 1) := by decide +kernel
theorem dX2_follows_159 : decode cX2_follows 159 = .ok (.bipush 7, 2) := by decide +kernel
theorem dX2_follows_161 : decode cX2_follows 161 = .ok (.if_icmp .ne 7, 3) := by decide +kernel
theorem dX2_follows_164 : decode cX2_follows 164 = .ok (.iconst 1, 1) := by decide +kernel
theorem dX2_follows_165 : decode cX2_follows 165 = .ok (.goto 4, 3) := by decide +kernel
theorem dX2_follows_168 : decode cX2_follows 168 = .ok (.iconst 0, 1) := by decide +kernel
theorem dX2_follows_169 : decode cX2_follows 169 = .ok (.ireturn, 1) := by decide +kernel
theorem dX2_follows_170 : decode cX2_follows 170 = .ok (.iload_n 1, 1) := by decide +kernel
theorem dX2_follows_171 : decode cX2_follows 171 = .ok (.ifCond .eq 9, 3) := by decide +kernel
theorem dX2_follows_174 : decode cX2_follows 174 = .ok (.iload_n 1, 1) := by decide +kernel
theorem dX2_follows_175 : decode cX2_follows 175 = .ok (.bipush 6, 2) := by decide +kernel
theorem dX2_follows_177 : decode cX2_follows 177 = .ok (.if_icmp .ne 7, 3) := by decide +kernel
theorem dX2_follows_180 : decode cX2_follows 180 = .ok (.iconst 1, 1) := by decide +kernel
theorem dX2_follows_181 : decode cX2_follows 181 = .ok (.goto 4, 3) := by decide +kernel
theorem dX2_follows_184 : decode cX2_follows 184 = .ok (.iconst 0, 1) := by decide +kernel
theorem dX2_follows_185 : decode cX2_follows 185 = .ok (.ireturn, 1) := by decide +kernel
theorem dX2_follows_186 : decode cX2_follows 186 = .ok (.iload_n 1, 1) := by decide +kernel
theorem dX2_follows_187 : decode cX2_follows 187 = .ok (.ifCond .eq 9, 3) := by decide +kernel
theorem dX2_follows_190 : decode cX2_follows 190 = .ok (.iload_n 1, 1) := by decide +kernel
theorem dX2_follows_191 : decode cX2_follows 191 = .ok (.bipush 9, 2) := by decide +kernel
theorem dX2_follows_193 : decode cX2_follows 193 = .ok (.if_icmp .ne 7, 3) := by decide +kernel
theorem dX2_follows_196 : decode cX2_follows 196 = .ok (.iconst 1, 1) := by decide +kernel
theorem dX2_follows_197 : decode cX2_follows 197 = .ok (.goto 4, 3) := by decide +kernel
theorem dX2_follows_200 : decode cX2_follows 200 = .ok (.iconst 0, 1) := by decide +kernel
theorem dX2_follows_201 : decode cX2_follows 201 = .ok (.ireturn, 1) := by decide +kernel
theorem dX2_follows_202 : decode cX2_follows 202 = .ok (.iload_n 1, 1) := by decide +kernel
theorem dX2_follows_203 : decode cX2_follows 203 = .ok (.ifCond .eq 9, 3) := by decide +kernel
theorem dX2_follows_206 : decode cX2_follows 206 = .ok (.iload_n 1, 1) := by decide +kernel
theorem dX2_follows_207 : decode cX2_follows 207 = .ok (.bipush 8, 2) := by decide +kernel
theorem dX2_follows_209 : decode cX2_follows 209 = .ok (.if_icmp .ne 7, 3) := by decide +kernel
theorem dX2_follows_212 : decode cX2_follows 212 = .ok (.iconst 1, 1) := by decide +kernel
theorem dX2_follows_213 : decode cX2_follows 213 = .ok (.goto 4, 3) := by decide +kernel
theorem dX2_follows_216 : decode cX2_follows 216 = .ok (.iconst 0, 1) := by decide +kernel
theorem dX2_follows_217 : decode cX2_follows 217 = .ok (.ireturn, 1) := by decide +kernel
theorem dX2_follows_218 : decode cX2_follows 218 = .ok (.iload_n 1, 1) := by decide +kernel
theorem dX2_follows_219 : decode cX2_follows 219 = .ok (.ifCond .eq 9, 3) := by decide +kernel
theorem dX2_follows_222 : decode cX2_follows 222 = .ok (.iload_n 1, 1) := by decide +kernel
theorem dX2_follows_223 : decode cX2_follows 223 = .ok (.bipush 9, 2) := by decide +kernel
theorem dX2_follows_225 : decode cX2_follows 225 = .ok (.if_icmp .ne 7, 3) := by decide +kernel
theorem dX2_follows_228 : decode cX2_follows 228 = .ok (.iconst 1, 1) := by decide +kernel
theorem dX2_follows_229 : decode cX2_follows 229 = .ok (.goto 4, 3) := by decide +kernel
theorem dX2_follows_232 : decode cX2_follows 232 = .ok (.iconst 0, 1) := by decide +kernel
theorem dX2_follows_233 : decode cX2_follows 233 = .ok (.ireturn, 1) := by decide +kernel
theorem dX2_become_0 : decode cX2_become 0 = .ok (.aload_n 0, 1) := by decide +kernel
theorem dX2_become_1 : decode cX2_become 1 = .ok (.aload_n 0, 1) := by decide +kernel
theorem dX2_become_2 : decode cX2_become 2 = .ok (.getfield 19, 3) := by decide +kernel
theorem dX2_become_5 : decode cX2_become 5 = .ok (.iload_n 1, 1) := by decide +kernel
theorem dX2_become_6 : decode cX2_become 6 = .ok (.iaload, 1) := by decide +kernel
theorem dX2_become_7 : decode cX2_become 7 = .ok (.invokevirtual 71, 3) := by decide +kernel
theorem dX2_become_10 : decode cX2_become 10 = .ok (.aload_n 0, 1) := by decide +kernel
theorem dX2_become_11 : decode cX2_become 11 = .ok (.aload_n 0, 1) := by decide +kernel
theorem dX2_become_12 : decode cX2_become 12 = .ok (.getfield 22, 3) := by decide +kernel
theorem dX2_become_15 : decode cX2_become 15 = .ok (.iload_n 1, 1) := by decide +kernel
theorem dX2_become_16 : decode cX2_become 16 = .ok (.iaload, 1) := by decide +kernel
theorem dX2_become_17 : decode cX2_become 17 = .ok (.putfield 65, 3) := by decide +kernel
theorem dX2_become_20 : decode cX2_become 20 = .ok (.aload_n 0, 1) := by decide +kernel
theorem dX2_become_21 : decode cX2_become 21 = .ok (.aload_n 0, 1) := by decide +kernel
theorem dX2_become_22 : decode cX2_become 22 = .ok (.getfield 19, 3) := by decide +kernel
theorem dX2_become_25 : decode cX2_become 25 = .ok (.iload_n 1, 1) := by decide +kernel
theorem dX2_become_26 : decode cX2_become 26 = .ok (.iaload, 1) := by decide +kernel
theorem dX2_become_27 : decode cX2_become 27 = .ok (.putfield 62, 3) := by decide +kernel
theorem dX2_become_30 : decode cX2_become 30 = .ok (.aload_n 0, 1) := by decide +kernel
theorem dX2_become_31 : decode cX2_become 31 = .ok (.getfield 65, 3) := by decide +kernel
theorem dX2_become_34 : decode cX2_become 34 = .ok (.ifCond .ne 13, 3) := by decide +kernel
theorem dX2_become_37 : decode cX2_become 37 = .ok (.aload_n 0, 1) := by decide +kernel
theorem dX2_become_38 : decode cX2_become 38 = .ok (.aload_n 0, 1) := by decide +kernel
theorem dX2_become_39 : decode cX2_become 39 = .ok (.getfield 25, 3) := by decide +kernel
theorem dX2_become_42 : decode cX2_become 42 = .ok (.iload_n 1, 1) := by decide +kernel
theorem dX2_become_43 : decode cX2_become 43 = .ok (.iaload, 1) := by decide +kernel
theorem dX2_become_44 : decode cX2_become 44 = .ok (.putfield 75, 3) := by decide +kernel
theorem dX2_become_47 : decode cX2_become 47 = .ok (.aload_n 0, 1) := by decide +kernel
theorem dX2_become_48 : decode cX2_become 48 = .ok (.getfield 65, 3) := by decide +kernel
theorem dX2_become_51 : decode cX2_become 51 = .ok (.iconst 1, 1) := by decide +kernel
theorem dX2_become_52 : decode cX2_become 52 = .ok (.if_icmp .ne 13, 3) := by decide +kernel
theorem dX2_become_55 : decode cX2_become 55 = .ok (.aload_n 0, 1) := by decide +kernel
theorem dX2_become_56 : decode cX2_become 56 = .ok (.aload_n 0, 1) := by decide +kernel
theorem dX2_become_57 : decode cX2_become 57 = .ok (.getfield 25, 3) := by decide +kernel
theorem dX2_become_60 : decode cX2_become 60 = .ok (.iload_n 1, 1) := by decide +kernel
theorem dX2_become_61 : decode cX2_become 61 = .ok (.iaload, 1) := by decide +kernel
theorem dX2_become_62 : decode cX2_become 62 = .ok (.putfield 78, 3) := by decide +kernel
theorem dX2_become_65 : decode cX2_become 65 = .ok (.aload_n 0, 1) := by decide +kernel
theorem dX2_become_66 : decode cX2_become 66 = .ok (.getfield 65, 3) := by decide +kernel
theorem dX2_become_69 : decode cX2_become 69 = .ok (.iconst 3, 1) := by decide +kernel
theorem dX2_become_70 : decode cX2_become 70 = .ok (.if_icmp .ne 13, 3) := by decide +kernel
theorem dX2_become_73 : decode cX2_become 73 = .ok (.aload_n 0, 1) := by decide +kernel
theorem dX2_become_74 : decode cX2_become 74 = .ok (.iload_n 1, 1) := by decide +kernel
theorem dX2_become_75 : decode cX2_become 75 = .ok (.putfield 81, 3) := by decide +kernel
theorem dX2_become_78 : decode cX2_become 78 = .ok (.aload_n 0, 1) := by decide +kernel
theorem dX2_become_79 : decode cX2_become 79 = .ok (.iconst (-1), 1) := by decide +kernel
theorem dX2_become_80 : decode cX2_become 80 = .ok (.putfield 84, 3) := by decide +kernel
theorem dX2_become_83 : decode cX2_become 83 = .ok (.return_, 1) := by decide +kernel
theorem dX2_spend_0 : decode cX2_spend 0 = .ok (.iload_n 1, 1) := by decide +kernel
theorem dX2_spend_1 : decode cX2_spend 1 = .ok (.aload_n 0, 1) := by decide +kernel
theorem dX2_spend_2 : decode cX2_spend 2 = .ok (.getfield 62, 3) := by decide +kernel
theorem dX2_spend_5 : decode cX2_spend 5 = .ok (.isub, 1) := by decide +kernel
theorem dX2_spend_6 : decode cX2_spend 6 = .ok (.istore_n 2, 1) := by decide +kernel
theorem dX2_spend_7 : decode cX2_spend 7 = .ok (.aload_n 0, 1) := by decide +kernel
theorem dX2_spend_8 : decode cX2_spend 8 = .ok (.getfield 65, 3) := by decide +kernel
theorem dX2_spend_11 : decode cX2_spend 11 = .ok (.iconst 2, 1) := by decide +kernel
theorem dX2_spend_12 : decode cX2_spend 12 = .ok (.if_icmp .eq 12, 3) := by decide +kernel
theorem dX2_spend_15 : decode cX2_spend 15 = .ok (.aload_n 0, 1) := by decide +kernel
theorem dX2_spend_16 : decode cX2_spend 16 = .ok (.getfield 65, 3) := by decide +kernel
theorem dX2_spend_19 : decode cX2_spend 19 = .ok (.bipush 6, 2) := by decide +kernel
theorem dX2_spend_21 : decode cX2_spend 21 = .ok (.if_icmp .ne 13, 3) := by decide +kernel
theorem dX2_spend_24 : decode cX2_spend 24 = .ok (.aload_n 0, 1) := by decide +kernel
theorem dX2_spend_25 : decode cX2_spend 25 = .ok (.dup, 1) := by decide +kernel
theorem dX2_spend_26 : decode cX2_spend 26 = .ok (.getfield 68, 3) := by decide +kernel
theorem dX2_spend_29 : decode cX2_spend 29 = .ok (.iload_n 2, 1) := by decide +kernel
theorem dX2_spend_30 : decode cX2_spend 30 = .ok (.iadd, 1) := by decide +kernel
theorem dX2_spend_31 : decode cX2_spend 31 = .ok (.putfield 68, 3) := by decide +kernel
theorem dX2_spend_34 : decode cX2_spend 34 = .ok (.aload_n 0, 1) := by decide +kernel
theorem dX2_spend_35 : decode cX2_spend 35 = .ok (.getfield 65, 3) := by decide +kernel
theorem dX2_spend_38 : decode cX2_spend 38 = .ok (.ifCond .eq 12, 3) := by decide +kernel
theorem dX2_spend_41 : decode cX2_spend 41 = .ok (.aload_n 0, 1) := by decide +kernel
theorem dX2_spend_42 : decode cX2_spend 42 = .ok (.getfield 65, 3) := by decide +kernel
theorem dX2_spend_45 : decode cX2_spend 45 = .ok (.bipush 6, 2) := by decide +kernel
theorem dX2_spend_47 : decode cX2_spend 47 = .ok (.if_icmp .le 14, 3) := by decide +kernel
theorem dX2_spend_50 : decode cX2_spend 50 = .ok (.iload_n 2, 1) := by decide +kernel
theorem dX2_spend_51 : decode cX2_spend 51 = .ok (.bipush 30, 2) := by decide +kernel
theorem dX2_spend_53 : decode cX2_spend 53 = .ok (.if_icmp .lt 8, 3) := by decide +kernel
theorem dX2_spend_56 : decode cX2_spend 56 = .ok (.aload_n 0, 1) := by decide +kernel
theorem dX2_spend_57 : decode cX2_spend 57 = .ok (.iconst 0, 1) := by decide +kernel
theorem dX2_spend_58 : decode cX2_spend 58 = .ok (.putfield 68, 3) := by decide +kernel
theorem dX2_spend_61 : decode cX2_spend 61 = .ok (.return_, 1) := by decide +kernel
theorem dX2_ahead_0 : decode cX2_ahead 0 = .ok (.iconst 0, 1) := by decide +kernel
theorem dX2_ahead_1 : decode cX2_ahead 1 = .ok (.istore 4, 2) := by decide +kernel
theorem dX2_ahead_3 : decode cX2_ahead 3 = .ok (.iconst 0, 1) := by decide +kernel
theorem dX2_ahead_4 : decode cX2_ahead 4 = .ok (.istore 5, 2) := by decide +kernel
theorem dX2_ahead_6 : decode cX2_ahead 6 = .ok (.iload 5, 2) := by decide +kernel
theorem dX2_ahead_8 : decode cX2_ahead 8 = .ok (.aload_n 0, 1) := by decide +kernel
theorem dX2_ahead_9 : decode cX2_ahead 9 = .ok (.getfield 32, 3) := by decide +kernel
theorem dX2_ahead_12 : decode cX2_ahead 12 = .ok (.if_icmp .ge 115, 3) := by decide +kernel
theorem dX2_ahead_15 : decode cX2_ahead 15 = .ok (.aload_n 0, 1) := by decide +kernel
theorem dX2_ahead_16 : decode cX2_ahead 16 = .ok (.iload 5, 2) := by decide +kernel
theorem dX2_ahead_18 : decode cX2_ahead 18 = .ok (.iload_n 3, 1) := by decide +kernel
theorem dX2_ahead_19 : decode cX2_ahead 19 = .ok (.iconst (-1), 1) := by decide +kernel
theorem dX2_ahead_20 : decode cX2_ahead 20 = .ok (.invokevirtual 119, 3) := by decide +kernel
theorem dX2_ahead_23 : decode cX2_ahead 23 = .ok (.aload_n 0, 1) := by decide +kernel
theorem dX2_ahead_24 : decode cX2_ahead 24 = .ok (.getfield 65, 3) := by decide +kernel
theorem dX2_ahead_27 : decode cX2_ahead 27 = .ok (.iconst 3, 1) := by decide +kernel
theorem dX2_ahead_28 : decode cX2_ahead 28 = .ok (.iconst 5, 1) := by decide +kernel
theorem dX2_ahead_29 : decode cX2_ahead 29 = .ok (.invokestatic 35, 3) := by decide +kernel
theorem dX2_ahead_32 : decode cX2_ahead 32 = .ok (.ifCond .eq 15, 3) := by decide +kernel
theorem dX2_ahead_35 : decode cX2_ahead 35 = .ok (.aload_n 0, 1) := by decide +kernel
theorem dX2_ahead_36 : decode cX2_ahead 36 = .ok (.getfield 78, 3) := by decide +kernel
theorem dX2_ahead_39 : decode cX2_ahead 39 = .ok (.iload_n 1, 1) := by decide +kernel
theorem dX2_ahead_40 : decode cX2_ahead 40 = .ok (.if_icmp .ne 7, 3) := by decide +kernel
theorem dX2_ahead_43 : decode cX2_ahead 43 = .ok (.iconst 1, 1) := by decide +kernel
theorem dX2_ahead_44 : decode cX2_ahead 44 = .ok (.goto 4, 3) := by decide +kernel
theorem dX2_ahead_47 : decode cX2_ahead 47 = .ok (.iconst 0, 1) := by decide +kernel
theorem dX2_ahead_48 : decode cX2_ahead 48 = .ok (.istore 6, 2) := by decide +kernel
theorem dX2_ahead_50 : decode cX2_ahead 50 = .ok (.iload 6, 2) := by decide +kernel
theorem dX2_ahead_52 : decode cX2_ahead 52 = .ok (.ifCond .eq 51, 3) := by decide +kernel
theorem dX2_ahead_55 : decode cX2_ahead 55 = .ok (.aload_n 0, 1) := by decide +kernel
theorem dX2_ahead_56 : decode cX2_ahead 56 = .ok (.getfield 19, 3) := by decide +kernel
theorem dX2_ahead_59 : decode cX2_ahead 59 = .ok (.aload_n 0, 1) := by decide +kernel
theorem dX2_ahead_60 : decode cX2_ahead 60 = .ok (.getfield 81, 3) := by decide +kernel
theorem dX2_ahead_63 : decode cX2_ahead 63 = .ok (.iaload, 1) := by decide +kernel
theorem dX2_ahead_64 : decode cX2_ahead 64 = .ok (.aload_n 0, 1) := by decide +kernel
theorem dX2_ahead_65 : decode cX2_ahead 65 = .ok (.getfield 19, 3) := by decide +kernel
theorem dX2_ahead_68 : decode cX2_ahead 68 = .ok (.iload_n 2, 1) := by decide +kernel
theorem dX2_ahead_69 : decode cX2_ahead 69 = .ok (.iaload, 1) := by decide +kernel
theorem dX2_ahead_70 : decode cX2_ahead 70 = .ok (.if_icmp .lt 29, 3) := by decide +kernel
theorem dX2_ahead_73 : decode cX2_ahead 73 = .ok (.aload_n 0, 1) := by decide +kernel
theorem dX2_ahead_74 : decode cX2_ahead 74 = .ok (.getfield 19, 3) := by decide +kernel
theorem dX2_ahead_77 : decode cX2_ahead 77 = .ok (.aload_n 0, 1) := by decide +kernel
theorem dX2_ahead_78 : decode cX2_ahead 78 = .ok (.getfield 81, 3) := by decide +kernel
theorem dX2_ahead_81 : decode cX2_ahead 81 = .ok (.iaload, 1) := by decide +kernel
theorem dX2_ahead_82 : decode cX2_ahead 82 = .ok (.aload_n 0, 1) := by decide +kernel
theorem dX2_ahead_83 : decode cX2_ahead 83 = .ok (.getfield 19, 3) := by decide +kernel
theorem dX2_ahead_86 : decode cX2_ahead 86 = .ok (.iload_n 2, 1) := by decide +kernel
theorem dX2_ahead_87 : decode cX2_ahead 87 = .ok (.iaload, 1) := by decide +kernel
theorem dX2_ahead_88 : decode cX2_ahead 88 = .ok (.if_icmp .ne 15, 3) := by decide +kernel
theorem dX2_ahead_91 : decode cX2_ahead 91 = .ok (.aload_n 0, 1) := by decide +kernel
theorem dX2_ahead_92 : decode cX2_ahead 92 = .ok (.getfield 81, 3) := by decide +kernel
theorem dX2_ahead_95 : decode cX2_ahead 95 = .ok (.iload_n 2, 1) := by decide +kernel
theorem dX2_ahead_96 : decode cX2_ahead 96 = .ok (.if_icmp .ge 7, 3) := by decide +kernel
theorem dX2_ahead_99 : decode cX2_ahead 99 = .ok (.iconst 1, 1) := by decide +kernel
theorem dX2_ahead_100 : decode cX2_ahead 100 = .ok (.goto 4, 3) := by decide +kernel
theorem dX2_ahead_103 : decode cX2_ahead 103 = .ok (.iconst 0, 1) := by decide +kernel
theorem dX2_ahead_104 : decode cX2_ahead 104 = .ok (.istore 7, 2) := by decide +kernel
theorem dX2_ahead_106 : decode cX2_ahead 106 = .ok (.iload 4, 2) := by decide +kernel
theorem dX2_ahead_108 : decode cX2_ahead 108 = .ok (.iload 7, 2) := by decide +kernel
theorem dX2_ahead_110 : decode cX2_ahead 110 = .ok (.ifCond .eq 7, 3) := by decide +kernel
theorem dX2_ahead_113 : decode cX2_ahead 113 = .ok (.iconst 1, 1) := by decide +kernel
theorem dX2_ahead_114 : decode cX2_ahead 114 = .ok (.goto 4, 3) := by decide +kernel
theorem dX2_ahead_117 : decode cX2_ahead 117 = .ok (.iconst 0, 1) := by decide +kernel
theorem dX2_ahead_118 : decode cX2_ahead 118 = .ok (.iadd, 1) := by decide +kernel
theorem dX2_ahead_119 : decode cX2_ahead 119 = .ok (.istore 4, 2) := by decide +kernel
theorem dX2_ahead_121 : decode cX2_ahead 121 = .ok (.iinc 5 1, 3) := by decide +kernel
theorem dX2_ahead_124 : decode cX2_ahead 124 = .ok (.goto (-118), 3) := by decide +kernel
theorem dX2_ahead_127 : decode cX2_ahead 127 = .ok (.iload 4, 2) := by decide +kernel
theorem dX2_ahead_129 : decode cX2_ahead 129 = .ok (.ireturn, 1) := by decide +kernel
theorem dX2_incidentNow_0 : decode cX2_incidentNow 0 = .ok (.aload_n 0, 1) := by decide +kernel
theorem dX2_incidentNow_1 : decode cX2_incidentNow 1 = .ok (.getfield 65, 3) := by decide +kernel
theorem dX2_incidentNow_4 : decode cX2_incidentNow 4 = .ok (.iconst 1, 1) := by decide +kernel
theorem dX2_incidentNow_5 : decode cX2_incidentNow 5 = .ok (.iconst 5, 1) := by decide +kernel
theorem dX2_incidentNow_6 : decode cX2_incidentNow 6 = .ok (.invokestatic 35, 3) := by decide +kernel
theorem dX2_incidentNow_9 : decode cX2_incidentNow 9 = .ok (.ifCond .eq 10, 3) := by decide +kernel
theorem dX2_incidentNow_12 : decode cX2_incidentNow 12 = .ok (.aload_n 0, 1) := by decide +kernel
theorem dX2_incidentNow_13 : decode cX2_incidentNow 13 = .ok (.getfield 78, 3) := by decide +kernel
theorem dX2_incidentNow_16 : decode cX2_incidentNow 16 = .ok (.goto 4, 3) := by decide +kernel
theorem dX2_incidentNow_19 : decode cX2_incidentNow 19 = .ok (.iconst (-1), 1) := by decide +kernel
theorem dX2_incidentNow_20 : decode cX2_incidentNow 20 = .ok (.ireturn, 1) := by decide +kernel
theorem dX2_place_0 : decode cX2_place 0 = .ok (.aload_n 0, 1) := by decide +kernel
theorem dX2_place_1 : decode cX2_place 1 = .ok (.aload_n 0, 1) := by decide +kernel
theorem dX2_place_2 : decode cX2_place 2 = .ok (.iload_n 1, 1) := by decide +kernel
theorem dX2_place_3 : decode cX2_place 3 = .ok (.invokevirtual 45, 3) := by decide +kernel
theorem dX2_place_6 : decode cX2_place 6 = .ok (.ifCond .ne 7, 3) := by decide +kernel
theorem dX2_place_9 : decode cX2_place 9 = .ok (.iconst 1, 1) := by decide +kernel
theorem dX2_place_10 : decode cX2_place 10 = .ok (.goto 4, 3) := by decide +kernel
theorem dX2_place_13 : decode cX2_place 13 = .ok (.iconst 0, 1) := by decide +kernel
theorem dX2_place_14 : decode cX2_place 14 = .ok (.iload_n 2, 1) := by decide +kernel
theorem dX2_place_15 : decode cX2_place 15 = .ok (.invokestatic 52, 3) := by decide +kernel
theorem dX2_place_18 : decode cX2_place 18 = .ok (.ifCond .ne 7, 3) := by decide +kernel
theorem dX2_place_21 : decode cX2_place 21 = .ok (.iconst 1, 1) := by decide +kernel
theorem dX2_place_22 : decode cX2_place 22 = .ok (.goto 4, 3) := by decide +kernel
theorem dX2_place_25 : decode cX2_place 25 = .ok (.iconst 0, 1) := by decide +kernel
theorem dX2_place_26 : decode cX2_place 26 = .ok (.iconst 0, 1) := by decide +kernel
theorem dX2_place_27 : decode cX2_place 27 = .ok (.invokevirtual 40, 3) := by decide +kernel
theorem dX2_place_30 : decode cX2_place 30 = .ok (.ifCond .eq 5, 3) := by decide +kernel
theorem dX2_place_33 : decode cX2_place 33 = .ok (.iconst 0, 1) := by decide +kernel
theorem dX2_place_34 : decode cX2_place 34 = .ok (.ireturn, 1) := by decide +kernel
theorem dX2_place_35 : decode cX2_place 35 = .ok (.aload_n 0, 1) := by decide +kernel
theorem dX2_place_36 : decode cX2_place 36 = .ok (.iload_n 1, 1) := by decide +kernel
theorem dX2_place_37 : decode cX2_place 37 = .ok (.iload_n 2, 1) := by decide +kernel
theorem dX2_place_38 : decode cX2_place 38 = .ok (.iconst (-1), 1) := by decide +kernel
theorem dX2_place_39 : decode cX2_place 39 = .ok (.invokevirtual 119, 3) := by decide +kernel
theorem dX2_place_42 : decode cX2_place 42 = .ok (.aload_n 0, 1) := by decide +kernel
theorem dX2_place_43 : decode cX2_place 43 = .ok (.getfield 102, 3) := by decide +kernel
theorem dX2_place_46 : decode cX2_place 46 = .ok (.ireturn, 1) := by decide +kernel
theorem dX2_age_0 : decode cX2_age 0 = .ok (.aload_n 0, 1) := by decide +kernel
theorem dX2_age_1 : decode cX2_age 1 = .ok (.aload_n 0, 1) := by decide +kernel
theorem dX2_age_2 : decode cX2_age 2 = .ok (.iload_n 1, 1) := by decide +kernel
theorem dX2_age_3 : decode cX2_age 3 = .ok (.invokevirtual 45, 3) := by decide +kernel
theorem dX2_age_6 : decode cX2_age 6 = .ok (.ifCond .ne 7, 3) := by decide +kernel
theorem dX2_age_9 : decode cX2_age 9 = .ok (.iconst 1, 1) := by decide +kernel
theorem dX2_age_10 : decode cX2_age 10 = .ok (.goto 4, 3) := by decide +kernel
theorem dX2_age_13 : decode cX2_age 13 = .ok (.iconst 0, 1) := by decide +kernel
theorem dX2_age_14 : decode cX2_age 14 = .ok (.iload_n 2, 1) := by decide +kernel
theorem dX2_age_15 : decode cX2_age 15 = .ok (.invokestatic 52, 3) := by decide +kernel
theorem dX2_age_18 : decode cX2_age 18 = .ok (.ifCond .ne 7, 3) := by decide +kernel
theorem dX2_age_21 : decode cX2_age 21 = .ok (.iconst 1, 1) := by decide +kernel
theorem dX2_age_22 : decode cX2_age 22 = .ok (.goto 4, 3) := by decide +kernel
theorem dX2_age_25 : decode cX2_age 25 = .ok (.iconst 0, 1) := by decide +kernel
theorem dX2_age_26 : decode cX2_age 26 = .ok (.iconst 0, 1) := by decide +kernel
theorem dX2_age_27 : decode cX2_age 27 = .ok (.invokevirtual 40, 3) := by decide +kernel
theorem dX2_age_30 : decode cX2_age 30 = .ok (.ifCond .eq 5, 3) := by decide +kernel
theorem dX2_age_33 : decode cX2_age 33 = .ok (.iconst 0, 1) := by decide +kernel
theorem dX2_age_34 : decode cX2_age 34 = .ok (.ireturn, 1) := by decide +kernel
theorem dX2_age_35 : decode cX2_age 35 = .ok (.aload_n 0, 1) := by decide +kernel
theorem dX2_age_36 : decode cX2_age 36 = .ok (.iload_n 1, 1) := by decide +kernel
theorem dX2_age_37 : decode cX2_age 37 = .ok (.iload_n 2, 1) := by decide +kernel
theorem dX2_age_38 : decode cX2_age 38 = .ok (.iconst (-1), 1) := by decide +kernel
theorem dX2_age_39 : decode cX2_age 39 = .ok (.invokevirtual 119, 3) := by decide +kernel
theorem dX2_age_42 : decode cX2_age 42 = .ok (.aload_n 0, 1) := by decide +kernel
theorem dX2_age_43 : decode cX2_age 43 = .ok (.getfield 102, 3) := by decide +kernel
theorem dX2_age_46 : decode cX2_age 46 = .ok (.ifCond .ge 7, 3) := by decide +kernel
theorem dX2_age_49 : decode cX2_age 49 = .ok (.iconst (-1), 1) := by decide +kernel
theorem dX2_age_50 : decode cX2_age 50 = .ok (.goto 9, 3) := by decide +kernel
theorem dX2_age_53 : decode cX2_age 53 = .ok (.iload_n 2, 1) := by decide +kernel
theorem dX2_age_54 : decode cX2_age 54 = .ok (.aload_n 0, 1) := by decide +kernel
theorem dX2_age_55 : decode cX2_age 55 = .ok (.getfield 105, 3) := by decide +kernel
theorem dX2_age_58 : decode cX2_age 58 = .ok (.isub, 1) := by decide +kernel
theorem dX2_age_59 : decode cX2_age 59 = .ok (.ireturn, 1) := by decide +kernel
theorem dX2_expected_0 : decode cX2_expected 0 = .ok (.aload_n 0, 1) := by decide +kernel
theorem dX2_expected_1 : decode cX2_expected 1 = .ok (.aload_n 0, 1) := by decide +kernel
theorem dX2_expected_2 : decode cX2_expected 2 = .ok (.iload_n 1, 1) := by decide +kernel
theorem dX2_expected_3 : decode cX2_expected 3 = .ok (.invokevirtual 45, 3) := by decide +kernel
theorem dX2_expected_6 : decode cX2_expected 6 = .ok (.ifCond .ne 7, 3) := by decide +kernel
theorem dX2_expected_9 : decode cX2_expected 9 = .ok (.iconst 1, 1) := by decide +kernel
theorem dX2_expected_10 : decode cX2_expected 10 = .ok (.goto 4, 3) := by decide +kernel
theorem dX2_expected_13 : decode cX2_expected 13 = .ok (.iconst 0, 1) := by decide +kernel
theorem dX2_expected_14 : decode cX2_expected 14 = .ok (.iload_n 2, 1) := by decide +kernel
theorem dX2_expected_15 : decode cX2_expected 15 = .ok (.invokestatic 52, 3) := by decide +kernel
theorem dX2_expected_18 : decode cX2_expected 18 = .ok (.ifCond .ne 7, 3) := by decide +kernel
theorem dX2_expected_21 : decode cX2_expected 21 = .ok (.iconst 1, 1) := by decide +kernel
theorem dX2_expected_22 : decode cX2_expected 22 = .ok (.goto 4, 3) := by decide +kernel
theorem dX2_expected_25 : decode cX2_expected 25 = .ok (.iconst 0, 1) := by decide +kernel
theorem dX2_expected_26 : decode cX2_expected 26 = .ok (.iconst 0, 1) := by decide +kernel
theorem dX2_expected_27 : decode cX2_expected 27 = .ok (.invokevirtual 40, 3) := by decide +kernel
theorem dX2_expected_30 : decode cX2_expected 30 = .ok (.ifCond .eq 5, 3) := by decide +kernel
theorem dX2_expected_33 : decode cX2_expected 33 = .ok (.iconst 0, 1) := by decide +kernel
theorem dX2_expected_34 : decode cX2_expected 34 = .ok (.ireturn, 1) := by decide +kernel
theorem dX2_expected_35 : decode cX2_expected 35 = .ok (.aload_n 0, 1) := by decide +kernel
theorem dX2_expected_36 : decode cX2_expected 36 = .ok (.iload_n 1, 1) := by decide +kernel
theorem dX2_expected_37 : decode cX2_expected 37 = .ok (.iload_n 2, 1) := by decide +kernel
theorem dX2_expected_38 : decode cX2_expected 38 = .ok (.iconst (-1), 1) := by decide +kernel
theorem dX2_expected_39 : decode cX2_expected 39 = .ok (.invokevirtual 119, 3) := by decide +kernel
theorem dX2_expected_42 : decode cX2_expected 42 = .ok (.aload_n 0, 1) := by decide +kernel
theorem dX2_expected_43 : decode cX2_expected 43 = .ok (.getfield 84, 3) := by decide +kernel
theorem dX2_expected_46 : decode cX2_expected 46 = .ok (.ireturn, 1) := by decide +kernel
theorem dX2_wrong_0 : decode cX2_wrong 0 = .ok (.aload_n 0, 1) := by decide +kernel
theorem dX2_wrong_1 : decode cX2_wrong 1 = .ok (.iload_n 1, 1) := by decide +kernel
theorem dX2_wrong_2 : decode cX2_wrong 2 = .ok (.iconst 0, 1) := by decide +kernel
theorem dX2_wrong_3 : decode cX2_wrong 3 = .ok (.aload_n 0, 1) := by decide +kernel
theorem dX2_wrong_4 : decode cX2_wrong 4 = .ok (.getfield 59, 3) := by decide +kernel
theorem dX2_wrong_7 : decode cX2_wrong 7 = .ok (.iconst 1, 1) := by decide +kernel
theorem dX2_wrong_8 : decode cX2_wrong 8 = .ok (.isub, 1) := by decide +kernel
theorem dX2_wrong_9 : decode cX2_wrong 9 = .ok (.invokestatic 35, 3) := by decide +kernel
theorem dX2_wrong_12 : decode cX2_wrong 12 = .ok (.ifCond .ne 7, 3) := by decide +kernel
theorem dX2_wrong_15 : decode cX2_wrong 15 = .ok (.iconst 1, 1) := by decide +kernel
theorem dX2_wrong_16 : decode cX2_wrong 16 = .ok (.goto 4, 3) := by decide +kernel
theorem dX2_wrong_19 : decode cX2_wrong 19 = .ok (.iconst 0, 1) := by decide +kernel
theorem dX2_wrong_20 : decode cX2_wrong 20 = .ok (.iconst 0, 1) := by decide +kernel
theorem dX2_wrong_21 : decode cX2_wrong 21 = .ok (.iconst 0, 1) := by decide +kernel
theorem dX2_wrong_22 : decode cX2_wrong 22 = .ok (.invokevirtual 40, 3) := by decide +kernel
theorem dX2_wrong_25 : decode cX2_wrong 25 = .ok (.ifCond .eq 5, 3) := by decide +kernel
theorem dX2_wrong_28 : decode cX2_wrong 28 = .ok (.iconst 0, 1) := by decide +kernel
theorem dX2_wrong_29 : decode cX2_wrong 29 = .ok (.ireturn, 1) := by decide +kernel
theorem dX2_wrong_30 : decode cX2_wrong 30 = .ok (.aload_n 0, 1) := by decide +kernel
theorem dX2_wrong_31 : decode cX2_wrong 31 = .ok (.iload_n 1, 1) := by decide +kernel
theorem dX2_wrong_32 : decode cX2_wrong 32 = .ok (.invokevirtual 134, 3) := by decide +kernel
theorem dX2_wrong_35 : decode cX2_wrong 35 = .ok (.ireturn, 1) := by decide +kernel
theorem dX2_saidOf_0 : decode cX2_saidOf 0 = .ok (.aload_n 0, 1) := by decide +kernel
theorem dX2_saidOf_1 : decode cX2_saidOf 1 = .ok (.aload_n 0, 1) := by decide +kernel
theorem dX2_saidOf_2 : decode cX2_saidOf 2 = .ok (.getfield 16, 3) := by decide +kernel
theorem dX2_saidOf_5 : decode cX2_saidOf 5 = .ok (.iload_n 1, 1) := by decide +kernel
theorem dX2_saidOf_6 : decode cX2_saidOf 6 = .ok (.iaload, 1) := by decide +kernel
theorem dX2_saidOf_7 : decode cX2_saidOf 7 = .ok (.ldc 39, 2) := by decide +kernel
theorem dX2_saidOf_9 : decode cX2_saidOf 9 = .ok (.iload_n 1, 1) := by decide +kernel
theorem dX2_saidOf_10 : decode cX2_saidOf 10 = .ok (.invokevirtual 119, 3) := by decide +kernel
theorem dX2_saidOf_13 : decode cX2_saidOf 13 = .ok (.aload_n 0, 1) := by decide +kernel
theorem dX2_saidOf_14 : decode cX2_saidOf 14 = .ok (.getfield 87, 3) := by decide +kernel
theorem dX2_saidOf_17 : decode cX2_saidOf 17 = .ok (.ireturn, 1) := by decide +kernel
theorem dX2_told_0 : decode cX2_told 0 = .ok (.aload_n 0, 1) := by decide +kernel
theorem dX2_told_1 : decode cX2_told 1 = .ok (.iload_n 1, 1) := by decide +kernel
theorem dX2_told_2 : decode cX2_told 2 = .ok (.iconst 0, 1) := by decide +kernel
theorem dX2_told_3 : decode cX2_told 3 = .ok (.bipush 6, 2) := by decide +kernel
theorem dX2_told_5 : decode cX2_told 5 = .ok (.invokestatic 35, 3) := by decide +kernel
theorem dX2_told_8 : decode cX2_told 8 = .ok (.ifCond .ne 7, 3) := by decide +kernel
theorem dX2_told_11 : decode cX2_told 11 = .ok (.iconst 1, 1) := by decide +kernel
theorem dX2_told_12 : decode cX2_told 12 = .ok (.goto 4, 3) := by decide +kernel
theorem dX2_told_15 : decode cX2_told 15 = .ok (.iconst 0, 1) := by decide +kernel
theorem dX2_told_16 : decode cX2_told 16 = .ok (.iconst 0, 1) := by decide +kernel
theorem dX2_told_17 : decode cX2_told 17 = .ok (.iconst 0, 1) := by decide +kernel
theorem dX2_told_18 : decode cX2_told 18 = .ok (.invokevirtual 40, 3) := by decide +kernel
theorem dX2_told_21 : decode cX2_told 21 = .ok (.ifCond .eq 5, 3) := by decide +kernel
theorem dX2_told_24 : decode cX2_told 24 = .ok (.iconst 0, 1) := by decide +kernel
theorem dX2_told_25 : decode cX2_told 25 = .ok (.ireturn, 1) := by decide +kernel
theorem dX2_told_26 : decode cX2_told 26 = .ok (.iload_n 1, 1) := by decide +kernel
theorem dX2_told_27 : decode cX2_told 27 = .ok (.ifCond .ne 8, 3) := by decide +kernel
theorem dX2_told_30 : decode cX2_told 30 = .ok (.aload_n 0, 1) := by decide +kernel
theorem dX2_told_31 : decode cX2_told 31 = .ok (.getfield 49, 3) := by decide +kernel
theorem dX2_told_34 : decode cX2_told 34 = .ok (.ireturn, 1) := by decide +kernel
theorem dX2_told_35 : decode cX2_told 35 = .ok (.iload_n 1, 1) := by decide +kernel
theorem dX2_told_36 : decode cX2_told 36 = .ok (.iconst 4, 1) := by decide +kernel
theorem dX2_told_37 : decode cX2_told 37 = .ok (.if_icmp .le 20, 3) := by decide +kernel
theorem dX2_told_40 : decode cX2_told 40 = .ok (.iload_n 1, 1) := by decide +kernel
theorem dX2_told_41 : decode cX2_told 41 = .ok (.iconst 5, 1) := by decide +kernel
theorem dX2_told_42 : decode cX2_told 42 = .ok (.if_icmp .ne 10, 3) := by decide +kernel
theorem dX2_told_45 : decode cX2_told 45 = .ok (.aload_n 0, 1) := by decide +kernel
theorem dX2_told_46 : decode cX2_told 46 = .ok (.getfield 59, 3) := by decide +kernel
theorem dX2_told_49 : decode cX2_told 49 = .ok (.goto 7, 3) := by decide +kernel
theorem dX2_told_52 : decode cX2_told 52 = .ok (.aload_n 0, 1) := by decide +kernel
theorem dX2_told_53 : decode cX2_told 53 = .ok (.getfield 32, 3) := by decide +kernel
theorem dX2_told_56 : decode cX2_told 56 = .ok (.ireturn, 1) := by decide +kernel
theorem dX2_told_57 : decode cX2_told 57 = .ok (.iconst 0, 1) := by decide +kernel
theorem dX2_told_58 : decode cX2_told 58 = .ok (.istore_n 2, 1) := by decide +kernel
theorem dX2_told_59 : decode cX2_told 59 = .ok (.iconst 0, 1) := by decide +kernel
theorem dX2_told_60 : decode cX2_told 60 = .ok (.istore_n 3, 1) := by decide +kernel
theorem dX2_told_61 : decode cX2_told 61 = .ok (.iload_n 3, 1) := by decide +kernel
theorem dX2_told_62 : decode cX2_told 62 = .ok (.aload_n 0, 1) := by decide +kernel
theorem dX2_told_63 : decode cX2_told 63 = .ok (.getfield 59, 3) := by decide +kernel
theorem dX2_told_66 : decode cX2_told 66 = .ok (.if_icmp .ge 26, 3) := by decide +kernel
theorem dX2_told_69 : decode cX2_told 69 = .ok (.iload_n 2, 1) := by decide +kernel
theorem dX2_told_70 : decode cX2_told 70 = .ok (.aload_n 0, 1) := by decide +kernel
theorem dX2_told_71 : decode cX2_told 71 = .ok (.iload_n 3, 1) := by decide +kernel
theorem dX2_told_72 : decode cX2_told 72 = .ok (.invokevirtual 134, 3) := by decide +kernel
theorem dX2_told_75 : decode cX2_told 75 = .ok (.iload_n 1, 1) := by decide +kernel
theorem dX2_told_76 : decode cX2_told 76 = .ok (.if_icmp .ne 7, 3) := by decide +kernel
theorem dX2_told_79 : decode cX2_told 79 = .ok (.iconst 1, 1) := by decide +kernel
theorem dX2_told_80 : decode cX2_told 80 = .ok (.goto 4, 3) := by decide +kernel
theorem dX2_told_83 : decode cX2_told 83 = .ok (.iconst 0, 1) := by decide +kernel
theorem dX2_told_84 : decode cX2_told 84 = .ok (.iadd, 1) := by decide +kernel
theorem dX2_told_85 : decode cX2_told 85 = .ok (.istore_n 2, 1) := by decide +kernel
theorem dX2_told_86 : decode cX2_told 86 = .ok (.iinc 3 1, 3) := by decide +kernel
theorem dX2_told_89 : decode cX2_told 89 = .ok (.goto (-28), 3) := by decide +kernel
theorem dX2_told_92 : decode cX2_told 92 = .ok (.iload_n 2, 1) := by decide +kernel
theorem dX2_told_93 : decode cX2_told 93 = .ok (.ireturn, 1) := by decide +kernel
theorem dX2_many_0 : decode cX2_many 0 = .ok (.aload_n 0, 1) := by decide +kernel
theorem dX2_many_1 : decode cX2_many 1 = .ok (.iload_n 1, 1) := by decide +kernel
theorem dX2_many_2 : decode cX2_many 2 = .ok (.iconst 0, 1) := by decide +kernel
theorem dX2_many_3 : decode cX2_many 3 = .ok (.bipush 10, 2) := by decide +kernel
theorem dX2_many_5 : decode cX2_many 5 = .ok (.invokestatic 35, 3) := by decide +kernel
theorem dX2_many_8 : decode cX2_many 8 = .ok (.ifCond .ne 7, 3) := by decide +kernel
theorem dX2_many_11 : decode cX2_many 11 = .ok (.iconst 1, 1) := by decide +kernel
theorem dX2_many_12 : decode cX2_many 12 = .ok (.goto 4, 3) := by decide +kernel
theorem dX2_many_15 : decode cX2_many 15 = .ok (.iconst 0, 1) := by decide +kernel
theorem dX2_many_16 : decode cX2_many 16 = .ok (.iload_n 2, 1) := by decide +kernel
theorem dX2_many_17 : decode cX2_many 17 = .ok (.invokestatic 52, 3) := by decide +kernel
theorem dX2_many_20 : decode cX2_many 20 = .ok (.ifCond .ne 7, 3) := by decide +kernel
theorem dX2_many_23 : decode cX2_many 23 = .ok (.iconst 1, 1) := by decide +kernel
theorem dX2_many_24 : decode cX2_many 24 = .ok (.goto 4, 3) := by decide +kernel
theorem dX2_many_27 : decode cX2_many 27 = .ok (.iconst 0, 1) := by decide +kernel
theorem dX2_many_28 : decode cX2_many 28 = .ok (.iconst 0, 1) := by decide +kernel
theorem dX2_many_29 : decode cX2_many 29 = .ok (.invokevirtual 40, 3) := by decide +kernel
theorem dX2_many_32 : decode cX2_many 32 = .ok (.ifCond .eq 5, 3) := by decide +kernel
theorem dX2_many_35 : decode cX2_many 35 = .ok (.iconst 0, 1) := by decide +kernel
theorem dX2_many_36 : decode cX2_many 36 = .ok (.ireturn, 1) := by decide +kernel
theorem dX2_many_37 : decode cX2_many 37 = .ok (.iconst 0, 1) := by decide +kernel
theorem dX2_many_38 : decode cX2_many 38 = .ok (.istore_n 3, 1) := by decide +kernel
theorem dX2_many_39 : decode cX2_many 39 = .ok (.iconst 0, 1) := by decide +kernel
theorem dX2_many_40 : decode cX2_many 40 = .ok (.istore 4, 2) := by decide +kernel
theorem dX2_many_42 : decode cX2_many 42 = .ok (.iload 4, 2) := by decide +kernel
theorem dX2_many_44 : decode cX2_many 44 = .ok (.aload_n 0, 1) := by decide +kernel
theorem dX2_many_45 : decode cX2_many 45 = .ok (.getfield 32, 3) := by decide +kernel
theorem dX2_many_48 : decode cX2_many 48 = .ok (.if_icmp .ge 33, 3) := by decide +kernel
theorem dX2_many_51 : decode cX2_many 51 = .ok (.aload_n 0, 1) := by decide +kernel
theorem dX2_many_52 : decode cX2_many 52 = .ok (.iload 4, 2) := by decide +kernel
theorem dX2_many_54 : decode cX2_many 54 = .ok (.iload_n 2, 1) := by decide +kernel
theorem dX2_many_55 : decode cX2_many 55 = .ok (.iconst (-1), 1) := by decide +kernel
theorem dX2_many_56 : decode cX2_many 56 = .ok (.invokevirtual 119, 3) := by decide +kernel
theorem dX2_many_59 : decode cX2_many 59 = .ok (.iload_n 3, 1) := by decide +kernel
theorem dX2_many_60 : decode cX2_many 60 = .ok (.aload_n 0, 1) := by decide +kernel
theorem dX2_many_61 : decode cX2_many 61 = .ok (.getfield 65, 3) := by decide +kernel
theorem dX2_many_64 : decode cX2_many 64 = .ok (.iload_n 1, 1) := by decide +kernel
theorem dX2_many_65 : decode cX2_many 65 = .ok (.if_icmp .ne 7, 3) := by decide +kernel
theorem dX2_many_68 : decode cX2_many 68 = .ok (.iconst 1, 1) := by decide +kernel
theorem dX2_many_69 : decode cX2_many 69 = .ok (.goto 4, 3) := by decide +kernel
theorem dX2_many_72 : decode cX2_many 72 = .ok (.iconst 0, 1) := by decide +kernel
theorem dX2_many_73 : decode cX2_many 73 = .ok (.iadd, 1) := by decide +kernel
theorem dX2_many_74 : decode cX2_many 74 = .ok (.istore_n 3, 1) := by decide +kernel
theorem dX2_many_75 : decode cX2_many 75 = .ok (.iinc 4 1, 3) := by decide +kernel
theorem dX2_many_78 : decode cX2_many 78 = .ok (.goto (-36), 3) := by decide +kernel
theorem dX2_many_81 : decode cX2_many 81 = .ok (.iload_n 3, 1) := by decide +kernel
theorem dX2_many_82 : decode cX2_many 82 = .ok (.ireturn, 1) := by decide +kernel
theorem dX2_arrived_0 : decode cX2_arrived 0 = .ok (.aload_n 0, 1) := by decide +kernel
theorem dX2_arrived_1 : decode cX2_arrived 1 = .ok (.iload_n 1, 1) := by decide +kernel
theorem dX2_arrived_2 : decode cX2_arrived 2 = .ok (.iconst 0, 1) := by decide +kernel
theorem dX2_arrived_3 : decode cX2_arrived 3 = .ok (.bipush 19, 2) := by decide +kernel
theorem dX2_arrived_5 : decode cX2_arrived 5 = .ok (.invokestatic 35, 3) := by decide +kernel
theorem dX2_arrived_8 : decode cX2_arrived 8 = .ok (.ifCond .ne 7, 3) := by decide +kernel
theorem dX2_arrived_11 : decode cX2_arrived 11 = .ok (.iconst 1, 1) := by decide +kernel
theorem dX2_arrived_12 : decode cX2_arrived 12 = .ok (.goto 4, 3) := by decide +kernel
theorem dX2_arrived_15 : decode cX2_arrived 15 = .ok (.iconst 0, 1) := by decide +kernel
theorem dX2_arrived_16 : decode cX2_arrived 16 = .ok (.iload_n 2, 1) := by decide +kernel
theorem dX2_arrived_17 : decode cX2_arrived 17 = .ok (.iconst 1, 1) := by decide +kernel
theorem dX2_arrived_18 : decode cX2_arrived 18 = .ok (.if_icmp .lt 10, 3) := by decide +kernel
theorem dX2_arrived_21 : decode cX2_arrived 21 = .ok (.iload_n 3, 1) := by decide +kernel
theorem dX2_arrived_22 : decode cX2_arrived 22 = .ok (.invokestatic 52, 3) := by decide +kernel
theorem dX2_arrived_25 : decode cX2_arrived 25 = .ok (.ifCond .ne 7, 3) := by decide +kernel
theorem dX2_arrived_28 : decode cX2_arrived 28 = .ok (.iconst 1, 1) := by decide +kernel
theorem dX2_arrived_29 : decode cX2_arrived 29 = .ok (.goto 4, 3) := by decide +kernel
theorem dX2_arrived_32 : decode cX2_arrived 32 = .ok (.iconst 0, 1) := by decide +kernel
theorem dX2_arrived_33 : decode cX2_arrived 33 = .ok (.iconst 0, 1) := by decide +kernel
theorem dX2_arrived_34 : decode cX2_arrived 34 = .ok (.invokevirtual 40, 3) := by decide +kernel
theorem dX2_arrived_37 : decode cX2_arrived 37 = .ok (.ifCond .eq 5, 3) := by decide +kernel
theorem dX2_arrived_40 : decode cX2_arrived 40 = .ok (.iconst 0, 1) := by decide +kernel
theorem dX2_arrived_41 : decode cX2_arrived 41 = .ok (.ireturn, 1) := by decide +kernel
theorem dX2_arrived_42 : decode cX2_arrived 42 = .ok (.iconst 0, 1) := by decide +kernel
theorem dX2_arrived_43 : decode cX2_arrived 43 = .ok (.istore 4, 2) := by decide +kernel
theorem dX2_arrived_45 : decode cX2_arrived 45 = .ok (.iload 4, 2) := by decide +kernel
theorem dX2_arrived_47 : decode cX2_arrived 47 = .ok (.aload_n 0, 1) := by decide +kernel
theorem dX2_arrived_48 : decode cX2_arrived 48 = .ok (.getfield 32, 3) := by decide +kernel
theorem dX2_arrived_51 : decode cX2_arrived 51 = .ok (.if_icmp .ge 68, 3) := by decide +kernel
theorem dX2_arrived_54 : decode cX2_arrived 54 = .ok (.aload_n 0, 1) := by decide +kernel
theorem dX2_arrived_55 : decode cX2_arrived 55 = .ok (.iload 4, 2) := by decide +kernel
theorem dX2_arrived_57 : decode cX2_arrived 57 = .ok (.iload_n 3, 1) := by decide +kernel
theorem dX2_arrived_58 : decode cX2_arrived 58 = .ok (.iconst (-1), 1) := by decide +kernel
theorem dX2_arrived_59 : decode cX2_arrived 59 = .ok (.invokevirtual 119, 3) := by decide +kernel
theorem dX2_arrived_62 : decode cX2_arrived 62 = .ok (.aload_n 0, 1) := by decide +kernel
theorem dX2_arrived_63 : decode cX2_arrived 63 = .ok (.getfield 65, 3) := by decide +kernel
theorem dX2_arrived_66 : decode cX2_arrived 66 = .ok (.iconst 3, 1) := by decide +kernel
theorem dX2_arrived_67 : decode cX2_arrived 67 = .ok (.iconst 5, 1) := by decide +kernel
theorem dX2_arrived_68 : decode cX2_arrived 68 = .ok (.invokestatic 35, 3) := by decide +kernel
theorem dX2_arrived_71 : decode cX2_arrived 71 = .ok (.ifCond .eq 15, 3) := by decide +kernel
theorem dX2_arrived_74 : decode cX2_arrived 74 = .ok (.aload_n 0, 1) := by decide +kernel
theorem dX2_arrived_75 : decode cX2_arrived 75 = .ok (.getfield 78, 3) := by decide +kernel
theorem dX2_arrived_78 : decode cX2_arrived 78 = .ok (.iload_n 1, 1) := by decide +kernel
theorem dX2_arrived_79 : decode cX2_arrived 79 = .ok (.if_icmp .ne 7, 3) := by decide +kernel
theorem dX2_arrived_82 : decode cX2_arrived 82 = .ok (.iconst 1, 1) := by decide +kernel
theorem dX2_arrived_83 : decode cX2_arrived 83 = .ok (.goto 4, 3) := by decide +kernel
theorem dX2_arrived_86 : decode cX2_arrived 86 = .ok (.iconst 0, 1) := by decide +kernel
theorem dX2_arrived_87 : decode cX2_arrived 87 = .ok (.istore 5, 2) := by decide +kernel
theorem dX2_arrived_89 : decode cX2_arrived 89 = .ok (.iload 5, 2) := by decide +kernel
theorem dX2_arrived_91 : decode cX2_arrived 91 = .ok (.ifCond .eq 22, 3) := by decide +kernel
theorem dX2_arrived_94 : decode cX2_arrived 94 = .ok (.aload_n 0, 1) := by decide +kernel
theorem dX2_arrived_95 : decode cX2_arrived 95 = .ok (.iload_n 1, 1) := by decide +kernel
theorem dX2_arrived_96 : decode cX2_arrived 96 = .ok (.aload_n 0, 1) := by decide +kernel
theorem dX2_arrived_97 : decode cX2_arrived 97 = .ok (.getfield 81, 3) := by decide +kernel
theorem dX2_arrived_100 : decode cX2_arrived 100 = .ok (.iload_n 3, 1) := by decide +kernel
theorem dX2_arrived_101 : decode cX2_arrived 101 = .ok (.invokevirtual 123, 3) := by decide +kernel
theorem dX2_arrived_104 : decode cX2_arrived 104 = .ok (.iload_n 2, 1) := by decide +kernel
theorem dX2_arrived_105 : decode cX2_arrived 105 = .ok (.iconst 1, 1) := by decide +kernel
theorem dX2_arrived_106 : decode cX2_arrived 106 = .ok (.isub, 1) := by decide +kernel
theorem dX2_arrived_107 : decode cX2_arrived 107 = .ok (.if_icmp .ne 6, 3) := by decide +kernel
theorem dX2_arrived_110 : decode cX2_arrived 110 = .ok (.iload 4, 2) := by decide +kernel
theorem dX2_arrived_112 : decode cX2_arrived 112 = .ok (.ireturn, 1) := by decide +kernel
theorem dX2_arrived_113 : decode cX2_arrived 113 = .ok (.iinc 4 1, 3) := by decide +kernel
theorem dX2_arrived_116 : decode cX2_arrived 116 = .ok (.goto (-71), 3) := by decide +kernel
theorem dX2_arrived_119 : decode cX2_arrived 119 = .ok (.iconst (-1), 1) := by decide +kernel
theorem dX2_arrived_120 : decode cX2_arrived 120 = .ok (.ireturn, 1) := by decide +kernel
end
section
/-! what the reference's methods answer and leave. G: 0 home 1 least 2 unitOf 3 minute 4 kind 5 value.
v: 0 state 1 since 2 station 3 incident 4 crew 5 things 6 link 7 driven 8 place 9 placed 10 expected 11 arrived 12 said -/
def um_in (x a b : Int32) : Int32 := if x < a then 0 else if b < x then 0 else 1
def um_isU (x : Int32) (nu : Nat) : Int32 := um_in x 0 (nI nu - 1)
def um_val (k v : Int32) : Int32 :=
  if k = 0 then um_in v 0 9 else if k = 1 then um_in v 0 19 else if k = 11 then um_in v 0 999999 else if k = 12 then um_in v 0 9
  else if k = 13 then um_in v 0 255 else if k = 14 then um_in v 0 1 else if k = 15 then um_in v 0 999 else 1
def um_th (a b c : Int32) : Int32 := if a = 0 then (if b = 0 then (if c = 0 then 0 else 3) else 2) else 1
def um_thr (a b c : Int32) : Int32 := if um_th a b c ≤ 0 then 0 else 1
def um_fls (a b : Int32) : Int32 :=
  if a = 0 then (if b = 1 then 1 else if b ≤ 6 then 0 else 1)
  else if a = 1 then (if b = 2 then 1 else if b = 0 then 1 else 0)
  else if a = 2 then (if b = 3 then 1 else if b = 6 then 1 else 0)
  else if a = 3 then (if b = 4 then 1 else if b = 5 then 1 else 0)
  else if a = 4 then (if b = 5 then 1 else 0)
  else if a = 5 then (if b = 1 then 1 else if b = 6 then 1 else 0)
  else if a = 6 then (if b = 0 then 1 else if b = 1 then 1 else if b = 7 then 1 else 0)
  else if a = 7 then (if b = 0 then 1 else if b = 6 then 1 else 0)
  else if a = 8 then (if b = 0 then 1 else if b = 9 then 1 else 0)
  else if a = 9 then (if b = 0 then 1 else if b = 8 then 1 else 0)
  else (if b = 0 then 1 else if b = 9 then 1 else 0)
def um_spend (v : Nat → Int32) (t : Int32) : Nat → Int32 :=
  if v 0 = 2 then upd v 7 (v 7 + (t - v 1)) else if v 0 = 6 then upd v 7 (v 7 + (t - v 1))
  else if v 0 = 0 then (if t - v 1 < 30 then v else upd v 7 0) else if v 0 ≤ 6 then v else if t - v 1 < 30 then v else upd v 7 0
def um_be2 (G : Nat → Nat → Int32) (v : Nat → Int32) (m : Nat) : Nat → Int32 := upd (upd (um_spend v (G 3 m)) 0 (G 4 m)) 1 (G 3 m)
def um_become (G : Nat → Nat → Int32) (v : Nat → Int32) (m : Nat) : Nat → Int32 :=
  if G 4 m = 0 then upd (um_be2 G v m) 2 (G 5 m) else if G 4 m = 1 then upd (um_be2 G v m) 3 (G 5 m)
  else if G 4 m = 3 then upd (upd (um_be2 G v m) 11 (nI m)) 10 (-1) else um_be2 G v m
def um_tst (G : Nat → Nat → Int32) (j m : Nat) (v : Nat → Int32) : Nat → Int32 :=
  if G 4 m = 0 then (if G 5 m = G 0 j then upd (um_become G v m) 12 0 else upd (um_become G v m) 12 3) else upd (um_become G v m) 12 0
def um_take (G : Nat → Nat → Int32) (j m : Nat) (v : Nat → Int32) : Nat → Int32 :=
  if 11 ≤ G 4 m then
    (if G 4 m = 11 then (if v 6 = 0 then upd (upd v 12 0) 12 4 else upd (upd (upd v 12 0) 8 (G 5 m)) 9 (G 3 m))
     else if G 4 m = 12 then upd (upd v 12 0) 4 (G 5 m) else if G 4 m = 13 then upd (upd v 12 0) 5 (G 5 m) else if G 4 m = 14 then upd (upd v 12 0) 6 (G 5 m)
     else upd (upd v 12 0) 10 (G 3 m + G 5 m))
  else if um_fls (v 0) (G 4 m) = 0 then upd (upd v 12 0) 12 1
  else if um_in (G 4 m) 2 4 = 0 then um_tst G j m (upd v 12 0)
  else if G 1 j ≤ v 4 then um_tst G j m (upd v 12 0) else upd (upd v 12 0) 12 2
def um_later (G : Nat → Nat → Int32) (b : Int32) (m : Nat) : Int32 :=
  if b < 0 then 1 else if G 3 b.toNatClampNeg < G 3 m then 1 else if G 3 m = G 3 b.toNatClampNeg then (if nI m ≤ b then 0 else 1) else 0
def um_may (G : Nat → Nat → Int32) (u b t : Int32) (m : Nat) : Int32 :=
  if G 2 m = u then (if t < G 3 m then 0 else um_later G b m) else 0
def um_nx (G : Nat → Nat → Int32) (u b t : Int32) : Nat → Int32
  | 0 => -1
  | m + 1 => if um_may G u b t m = 0 then um_nx G u b t m else if um_nx G u b t m < 0 then nI m else if G 3 (um_nx G u b t m).toNatClampNeg ≤ G 3 m then um_nx G u b t m else nI m
def um_init (G : Nat → Nat → Int32) (j : Nat) (v : Nat → Int32) : Nat → Int32 :=
  upd (upd (upd (upd (upd (upd (upd (upd (upd (upd (upd (upd v 0 0) 1 0) 2 (G 0 j)) 3 (-1)) 4 (G 1 j)) 5 0) 6 1) 7 0) 8 (-1)) 9 (-1)) 10 (-1)) 11 (-1)
/-- the state of a unit behind the messages of a list -/
def um_run (G : Nat → Nat → Int32) (j : Nat) : List Nat → (Nat → Int32) → Nat → Int32
  | [], v => v
  | m :: L, v => um_run G j L (um_take G j m v)
/-- the messages of a unit up to a minute, out of the list of all, in order -/
def um_ls (G : Nat → Nat → Int32) (L : List Nat) (j : Nat) (t : Int32) : List Nat := L.filter (fun m => decide (G 2 m = nI j ∧ G 3 m ≤ t))
def um_fol (G : Nat → Nat → Int32) (L : List Nat) (j : Nat) (t : Int32) (v : Nat → Int32) : Nat → Int32 := um_spend (um_run G j (um_ls G L j t) (um_init G j v)) t
/-- that list is right: all messages, once, by minutes, then by numbers -/
def um_lt (G : Nat → Nat → Int32) (a b : Nat) : Prop := G 3 a < G 3 b ∨ (G 3 a = G 3 b ∧ a < b)
def um_ok (G : Nat → Nat → Int32) (nm : Nat) (L : List Nat) : Prop := (∀ m, m ∈ L ↔ m < nm) ∧ L.Pairwise (um_lt G)
def um_inc (v : Nat → Int32) : Int32 := if um_in (v 0) 1 5 = 0 then -1 else v 3
/-- a unit at a minute -/
def um_st (G : Nat → Nat → Int32) (L : List Nat) (t : Int32) (j : Nat) : Nat → Int32 := um_fol G L j t (fun _ => 0)
def um_there (w : Nat → Int32) (i : Int32) : Int32 := if um_in (w 0) 3 5 = 0 then 0 else if w 3 = i then 1 else 0
def um_early (G : Nat → Nat → Int32) (w : Nat → Int32) (i msg : Int32) : Int32 :=
  if um_there w i = 0 then 0 else if G 3 (w 11).toNatClampNeg < G 3 msg.toNatClampNeg then 1
  else if G 3 (w 11).toNatClampNeg = G 3 msg.toNatClampNeg then (if msg ≤ w 11 then 0 else 1) else 0
def um_ahd (G : Nat → Nat → Int32) (L : List Nat) (t i msg : Int32) : Nat → Int32
  | 0 => 0
  | j + 1 => um_ahd G L t i msg j + um_early G (um_st G L t j) i msg
def um_rank (G : Nat → Nat → Int32) (L : List Nat) (nu : Nat) (t : Int32) (j : Nat) : Int32 :=
  if um_in (um_st G L t j 0) 3 5 = 0 then 0 else 1 + um_ahd G L t (um_st G L t j 3) (um_st G L t j 11) nu
def um_send2 (w : Nat → Int32) (k : Int32) : Int32 := if w 4 < k then 0 else if w 6 = 1 then (if 240 ≤ w 7 then 0 else 1) else 0
def um_send (w : Nat → Int32) (k : Int32) : Int32 := if w 0 = 0 then um_send2 w k else if w 0 = 5 then um_send2 w k else if w 0 = 6 then um_send2 w k else 0
def um_atR (G : Nat → Nat → Int32) (L : List Nat) (nu j : Nat) (t w : Int32) : Int32 :=
  if w = 9 then um_rank G L nu t j else if w = 0 then um_st G L t j 0 else if w = 1 then um_st G L t j 1 else if w = 2 then (if um_st G L t j 0 = 0 then um_st G L t j 2 else -1)
  else if w = 3 then um_inc (um_st G L t j) else if w = 4 then um_st G L t j 4 else if w = 5 then um_st G L t j 5 else if w = 6 then um_st G L t j 6 else if w = 7 then um_st G L t j 7
  else um_send (um_st G L t j) (G 1 j)
def um_age (w : Nat → Int32) (t : Int32) : Int32 := if 0 ≤ w 8 then t - w 9 else -1
/-- what is said of message m: the list of its unit's messages up to it -/
def um_upto (m : Nat) : List Nat → List Nat
  | [] => []
  | a :: L => if a = m then [a] else a :: um_upto m L
def um_said (G : Nat → Nat → Int32) (L : List Nat) (m : Nat) : Int32 := um_run G (G 2 m).toNatClampNeg (um_upto m (um_ls G L (G 2 m).toNatClampNeg 99999)) (um_init G (G 2 m).toNatClampNeg (fun _ => 0)) 12
def um_cnt (G : Nat → Nat → Int32) (L : List Nat) (x : Int32) : Nat → Int32
  | 0 => 0
  | m + 1 => um_cnt G L x m + (if um_said G L m = x then 1 else 0)
def um_many (G : Nat → Nat → Int32) (L : List Nat) (t s : Int32) : Nat → Int32
  | 0 => 0
  | j + 1 => um_many G L t s j + (if um_st G L t j 0 = s then 1 else 0)
def um_arr (G : Nat → Nat → Int32) (L : List Nat) (nu : Nat) (t i rk : Int32) : Nat → Nat → Int32
  | 0, _ => -1
  | f + 1, j => if um_there (um_st G L t j) i = 0 then um_arr G L nu t i rk f (j + 1) else if um_ahd G L t i (um_st G L t j 11) nu = rk - 1 then nI j else um_arr G L nu t i rk f (j + 1)
def um_unitK (a b : Int32) (nu : Nat) : Int32 := if um_in a 0 9 = 0 then 1 else if um_in b 0 9 = 0 then 1 else if nI nu = 30 then 2 else 0
def um_msgK (u t k v : Int32) (nu nm : Nat) : Int32 :=
  if um_isU u nu = 0 then 1 else if um_in k 0 15 = 0 then 1 else if um_in t 0 99999 = 0 then 2 else if um_val k v = 0 then 2 else if nI nm = 200 then 3 else 0
def um_atK (u t w : Int32) (nu : Nat) : Int32 := if um_isU u nu = 0 then 1 else if um_in w 0 9 = 0 then 1 else if um_in t 0 99999 = 0 then 2 else 0
def um_plK (u t : Int32) (nu : Nat) : Int32 := if um_isU u nu = 0 then 1 else if um_in t 0 99999 = 0 then 2 else 0
def um_wrK (m : Int32) (nm : Nat) : Int32 := if um_in m 0 (nI nm - 1) = 0 then 1 else 0
def um_toK (w : Int32) : Int32 := if um_in w 0 6 = 0 then 1 else 0
def um_maK (s t : Int32) : Int32 := if um_in s 0 10 = 0 then 1 else if um_in t 0 99999 = 0 then 2 else 0
def um_arK (i rk t : Int32) : Int32 := if um_in i 0 19 = 0 then 1 else if rk < 1 then 2 else if um_in t 0 99999 = 0 then 2 else 0
def um_toR (G : Nat → Nat → Int32) (L : List Nat) (w : Int32) (nu nm : Nat) (sk : Int32) : Int32 :=
  if w = 0 then sk else if w ≤ 4 then um_cnt G L w nm else if w = 5 then nI nm else nI nu
def um_unitG (nu : Nat) (G : Nat → Nat → Int32) (a b : Int32) : Nat → Nat → Int32 := va_up (va_up G 0 (upd (G 0) nu a)) 1 (upd (G 1) nu b)
def um_msgG (nm : Nat) (G : Nat → Nat → Int32) (u t k v : Int32) : Nat → Nat → Int32 := va_up (va_up (va_up (va_up G 2 (upd (G 2) nm u)) 3 (upd (G 3) nm t)) 4 (upd (G 4) nm k)) 5 (upd (G 5) nm v)
def um_hd : List Nat → Int32
  | [] => -1
  | m :: _ => nI m
/-! the reference's object and its rows -/
def um_o (md : Nat → Nat) (th : Int32) (nu nm : Nat) (sk : Int32) (v : Nat → Int32) : List Value :=
  [.int th, .int (nI nu), .ref (md 1), .ref (md 2), .int (nI nm), .ref (md 3), .ref (md 4), .ref (md 5), .ref (md 6), .int sk, .int (v 0), .int (v 1), .int (v 2), .int (v 3), .int (v 4), .int (v 5), .int (v 6), .int (v 7), .int (v 8), .int (v 9), .int (v 10), .int (v 11), .int (v 12)]
def um_W (md : Nat → Nat) (cI : ClassId) (th : Int32) (nu nm : Nat) (sk : Int32) (G : Nat → Nat → Int32) (v : Nat → Int32) : va_W :=
  [(md 0, .inr (2, um_o md th nu nm sk v)), (md 1, .inl (cI, 30, .inl (G 0))), (md 2, .inl (cI, 30, .inl (G 1))), (md 3, .inl (cI, 200, .inl (G 2))), (md 4, .inl (cI, 200, .inl (G 3))), (md 5, .inl (cI, 200, .inl (G 4))), (md 6, .inl (cI, 200, .inl (G 5)))]
def um_ads (md : Nat → Nat) : List Nat := [md 0, md 1, md 2, md 3, md 4, md 5, md 6]
theorem um_W_adr {md : Nat → Nat} {cI : ClassId} {th : Int32} {nu nm : Nat} {sk : Int32} {G : Nat → Nat → Int32} {v : Nat → Int32} : us_adr (um_W md cI th nu nm sk G v) = um_ads md := rfl
def um_P (dC : Nat → ClassId) (dI : Nat → Nat → Nat) (md : Nat → Nat) (cI : ClassId) (th : Int32) (nu nm : Nat) (sk : Int32) (G : Nat → Nat → Int32) (v : Nat → Int32) (sz : Nat) (S : State) : Prop :=
  S.heap.size = sz ∧ va_P (dC, dI) vwCl (um_W md cI th nu nm sk G v) S.heap ∧ va_K (dC, dI) vwCl [(cI, .int)] S ∧ va_D (us_In (um_ads md)) (um_W md cI th nu nm sk G v)
def um_B (dC : Nat → ClassId) (dI : Nat → Nat → Nat) (md : Nat → Nat) (cI : ClassId) (th : Int32) (nu nm : Nat) (sk : Int32) (G : Nat → Nat → Int32) (v : Nat → Int32) (t : State) : Prop := va_P (dC, dI) vwCl (um_W md cI th nu nm sk G v) t.heap
theorem um_P_blind {av : List Value} {dC : Nat → ClassId} {dI : Nat → Nat → Nat} {md : Nat → Nat} {cI : ClassId} {th : Int32} {nu nm : Nat} {sk : Int32} {G : Nat → Nat → Int32} {v : Nat → Int32} {sz : Nat} : FrameBlind (va_Pc av (um_P dC dI md cI th nu nm sk G v sz)) :=
  fun a S g mk q => ⟨q.1, q.2.1, q.2.2.1, va_K.moved (u := S) (U := S.calling g mk a) (Vm.Alike.refl S.vm) q.2.2.2.1, q.2.2.2.2⟩
theorem um_P_at {s : State} {dC : Nat → ClassId} {dI : Nat → Nat → Nat} {md : Nat → Nat} {cI : ClassId} {th : Int32} {nu nm : Nat} {sk : Int32} {G : Nat → Nat → Int32} {v : Nat → Int32} {H : Heap} {A0 : Nat → Prop} (hP : va_P (dC, dI) vwCl (um_W md cI th nu nm sk G v) H) (hK : va_K (dC, dI) vwCl [(cI, .int)] s) (hD : va_D A0 (um_W md cI th nu nm sk G v)) {S : State} (hU : S.heap = H) (hW : s.WarmedH S.vm) : um_P dC dI md cI th nu nm sk G v H.size S :=
  ⟨by rw [hU], by rw [hU]; exact hP, va_K.moved hW.alike hK, us_D_in um_W_adr hD⟩
theorem um_B_use {dC : Nat → ClassId} {dI : Nat → Nat → Nat} {md : Nat → Nat} {cI : ClassId} {th : Int32} {nu nm : Nat} {sk : Int32} {G : Nat → Nat → Int32} {v : Nat → Int32} {t : State} {H : Heap} (ht : t.heap = H) (h : um_B dC dI md cI th nu nm sk G v t) : va_P (dC, dI) vwCl (um_W md cI th nu nm sk G v) H := by
  subst ht; exact h
theorem um_B_of {dC : Nat → ClassId} {dI : Nat → Nat → Nat} {md : Nat → Nat} {cI : ClassId} {th th' : Int32} {nu nm nu' nm' : Nat} {sk sk' : Int32} {G G' : Nat → Nat → Int32} {v v' : Nat → Int32} {t : State} {H : Heap} (ht : t.heap = H) (h : va_P (dC, dI) vwCl (um_W md cI th nu nm sk G v) H) (e1 : th = th') (e2 : nu = nu') (e3 : nm = nm') (e4 : sk = sk') (e5 : G = G') (e6 : v = v') : um_B dC dI md cI th' nu' nm' sk' G' v' t := by
  subst e1; subst e2; subst e3; subst e4; subst e5; subst e6; subst ht; exact h
theorem um_k13 {P : Nat → Prop} {k : Nat} (hk : k < 13) (h0 : P 0) (h1 : P 1) (h2 : P 2) (h3 : P 3) (h4 : P 4) (h5 : P 5) (h6 : P 6) (h7 : P 7) (h8 : P 8) (h9 : P 9) (h10 : P 10) (h11 : P 11) (h12 : P 12) : P k := by
  have : k = 0 ∨ k = 1 ∨ k = 2 ∨ k = 3 ∨ k = 4 ∨ k = 5 ∨ k = 6 ∨ k = 7 ∨ k = 8 ∨ k = 9 ∨ k = 10 ∨ k = 11 ∨ k = 12 := by omega
  rcases this with rfl | rfl | rfl | rfl | rfl | rfl | rfl | rfl | rfl | rfl | rfl | rfl | rfl <;> assumption
theorem um_o_get {md : Nat → Nat} {th : Int32} {nu nm : Nat} {sk : Int32} {v : Nat → Int32} {k : Nat} (hk : k < 13) : (um_o md th nu nm sk v)[10 + k]? = some (.int (v k)) :=
  um_k13 (P := fun k => (um_o md th nu nm sk v)[10 + k]? = some (.int (v k))) hk rfl rfl rfl rfl rfl rfl rfl rfl rfl rfl rfl rfl rfl
theorem um_o_set {md : Nat → Nat} {th : Int32} {nu nm : Nat} {sk : Int32} {v : Nat → Int32} {k : Nat} {x : Int32} (hk : k < 13) : (um_o md th nu nm sk v).set (10 + k) (.int x) = um_o md th nu nm sk (upd v k x) :=
  um_k13 (P := fun k => (um_o md th nu nm sk v).set (10 + k) (.int x) = um_o md th nu nm sk (upd v k x)) hk rfl rfl rfl rfl rfl rfl rfl rfl rfl rfl rfl rfl rfl
theorem um_T_own {k : Nat} (hk : k < 13) : (TX2 (10 + k)).1 = RX2 := um_k13 (P := fun k => (TX2 (10 + k)).1 = RX2) hk rfl rfl rfl rfl rfl rfl rfl rfl rfl rfl rfl rfl rfl
theorem um_T_fin {k : Nat} (hk : k < 13) : (TX2 (10 + k)).2.2.2 = false := um_k13 (P := fun k => (TX2 (10 + k)).2.2.2 = false) hk rfl rfl rfl rfl rfl rfl rfl rfl rfl rfl rfl rfl rfl
theorem um_T_int {k : Nat} (hk : k < 13) : parseFieldDescriptor (TX2 (10 + k)).2.2.1 = some .int := by
  rw [tyX2_ok (10 + k) (by omega)]
  exact um_k13 (P := fun k => some (tyX2 (10 + k)) = some .int) hk rfl rfl rfl rfl rfl rfl rfl rfl rfl rfl rfl rfl rfl
theorem um_nz (x a b : Int32) : um_in x a b = 0 ∨ um_in x a b = 1 := by
  unfold um_in
  split
  · exact Or.inl rfl
  · split
    · exact Or.inl rfl
    · exact Or.inr rfl
section UMR
variable {p : Program} {l : Launch} {e : Env} {R : Room} {s : State} {m : MethodId} {args : Array Value} {below : List Frame} {meth : Method} {c : Code} {H : Heap} {locs : List Loc} {cells slots : Nat} {Q : State → Prop}
variable {cc : ByteArray} {pc : Nat} {ls : Array Slot} {rest : List Value} {D : va_G} {A : Nat → Prop} {tys : List (ClassId × FieldType)} {H0 : Heap}
variable {md : Nat → Nat} {cI : ClassId} {th : Int32} {nu nm : Nat} {sk : Int32} {G : Nat → Nat → Int32} {v : Nat → Int32}
theorem um_get (hexec : p.tables.exec = Jvm.exec) (hb : c.code = cc) {index : Nat} {Ts : List Cond} (hts : ∀ w ∈ Ts, w.before args s = true) (hin : ∀ w ∈ u_ws RX2 TX2 23, w ∈ Ts) (hown : s.vm.findClass RX2 = some m.cls) (hK : va_K D vwCl tys s) (hP : va_P D vwCl (um_W md cI th nu nm sk G v) H) (k : Nat) (hk : k < 13) (hlink : (Cond.fieldLink RX2 index RX2 (TX2 (10 + k)).2.1 (TX2 (10 + k)).2.2.1).before args s = true) {x : Int32} (hv : v k = x) (hdg : decode cc pc = .ok (.getfield index, 3))
    (kk : W p l e R s m args below meth c H locs cells slots Q (F0 m (pc + 3) ls (.int x :: rest))) : W p l e R s m args below meth c H locs cells slots Q (F0 m pc ls (.ref (md 0) :: rest)) := by
  subst hv
  exact va_get (ci := 2) (C := RX2) (T := TX2) (N := 23) hexec hb hts hin hown hK hP 0 rfl rfl (10 + k) (by omega) hlink (fun x h => by rw [um_T_own hk] at h; exact h) (um_o_get hk) hdg kk
theorem um_put (hexec : p.tables.exec = Jvm.exec) (hb : c.code = cc) {index : Nat} {Ts : List Cond} (hts : ∀ w ∈ Ts, w.before args s = true) (hin : ∀ w ∈ u_ws RX2 TX2 23, w ∈ Ts) (hown : s.vm.findClass RX2 = some m.cls) (hK : va_K D vwCl tys s) (hP : va_P D vwCl (um_W md cI th nu nm sk G v) H) (hD : va_D A (um_W md cI th nu nm sk G v)) (hS : va_S A H0 H locs) (k : Nat) (hk : k < 13) (hlink : (Cond.fieldLink RX2 index RX2 (TX2 (10 + k)).2.1 (TX2 (10 + k)).2.2.1).before args s = true) {x : Int32} (hdg : decode cc pc = .ok (.putfield index, 3))
    (kk : ∀ (H1 : Heap) (locs1 : List Loc), va_P D vwCl (um_W md cI th nu nm sk G (upd v k x)) H1 → va_D A (um_W md cI th nu nm sk G (upd v k x)) → va_S A H0 H1 locs1 → W p l e R s m args below meth c H1 locs1 cells slots Q (F0 m (pc + 3) ls rest)) : W p l e R s m args below meth c H locs cells slots Q (F0 m pc ls (.int x :: .ref (md 0) :: rest)) := by
  refine va_put (ci := 2) (C := RX2) (T := TX2) (N := 23) (ty := .int) hexec hb hts hin tyX2 tyX2_ok nmX2 hown hK hP hD hS 0 rfl rfl (10 + k) (by omega) hlink (fun x h => by rw [um_T_own hk] at h; exact h) (um_T_fin hk) (um_T_int hk) rfl rfl (by show 10 + k < 23; omega) hdg ?_
  rw [um_o_set hk]
  exact kk
end UMR
end
section
set_option maxHeartbeats 8000000 in
set_option maxRecDepth 100000 in
theorem kt_X2_in (l : Launch) (sz : Nat) (p1 : Int32) (p2 : Int32) (p3 : Int32) : Met l yX2_in wsX2_in ({ frames := 0, cells := 0, slots := 0, locals := 0 }) (va_Pc [.int p1, .int p2, .int p3] (fun S => S.heap.size = sz)) (va_Qi (fun r (_ : Unit) => r = um_in p1 p2 p3) (fun _ _ => True) (us_new sz)) 0 0 (us_new sz) := by
  refine Met.ofW (cc := cX2_in) (maxL := 3) (ret := (some .boolean)) (by decide) rfl ?_
  intro p e s m args below meth c s₁ B hml hv
  obtain ⟨rfl, hsz⟩ := hv
  have hx := B.exec
  have hb := B.bytes
  have hr := B.returns
  have htb := us_htb (atoms_spec (ws := wsX2_in) B.pre)
  have hown : s.vm.findClass RX2 = some m.cls := findClass_of_methodNamed B.named
  have hlocks := B.notSynchronized
  subst hsz
  have hA : ∀ q : Nat, s.heap.size ≤ q → (us_new s.heap.size) q := fun q h => h
  have hS : va_S (us_new s.heap.size) s.heap s.heap [] := va_S.rf
  have hl := lv_entry ([.int p1, .int p2, .int p3]) (n := 3) (Nat.le_of_ble_eq_true rfl)
  rw [lg_entry_eq]
  generalize (lg_sl ([.int p1, .int p2, .int p3]) ++ List.replicate (3 - (lg_sl ([.int p1, .int p2, .int p3])).length) Slot.unset).toArray = ls at hl ⊢
  have hl : lv_has ls 3 [(0, .int p1), (1, .int p2), (2, .int p3)] := hl
  refine lv_iload_n hx hb dX2_in_0 rfl (lv_at hl 0 rfl) ?_
  refine lv_iload_n hx hb dX2_in_1 rfl (lv_at hl 1 rfl) ?_
  refine lv_icmp_lt (tgt := 14) hx hb dX2_in_2 (by decide) (fun c_1 => ?_) (fun c_1 => ?_)
  · refine lv_iconst (v := 0) hx hb dX2_in_14 (by decide) ?_
    have hsp : 0 = um_in p1 p2 p3 := by first | (simp only [um_in, eq_true c_1, if_true, if_false]; done) | (simp [um_in, c_1]; done)
    exact W.zret (v := 0) hx hb hr (us_nz (by decide)) (fun t ht hW => ⟨⟨0, (), rfl, hsp, trivial⟩, hS.F ht⟩) hS.2.2 dX2_in_15
  · refine lv_iload_n hx hb dX2_in_5 rfl (lv_at hl 0 rfl) ?_
    refine lv_iload_n hx hb dX2_in_6 rfl (lv_at hl 2 rfl) ?_
    refine lv_icmp_gt (tgt := 14) hx hb dX2_in_7 (by decide) (fun c_2 => ?_) (fun c_2 => ?_)
    · refine lv_iconst (v := 0) hx hb dX2_in_14 (by decide) ?_
      have hsp : 0 = um_in p1 p2 p3 := by first | (simp only [um_in, eq_false c_1, eq_true c_2, if_true, if_false]; done) | (simp [um_in, c_1, c_2]; done)
      exact W.zret (v := 0) hx hb hr (us_nz (by decide)) (fun t ht hW => ⟨⟨0, (), rfl, hsp, trivial⟩, hS.F ht⟩) hS.2.2 dX2_in_15
    · refine lv_iconst (v := 1) hx hb dX2_in_10 (by decide) ?_
      refine lv_goto (tgt := 15) hx hb dX2_in_11 (by decide) ?_
      have hsp : 1 = um_in p1 p2 p3 := by first | (simp only [um_in, eq_false c_1, eq_false c_2, if_true, if_false]; done) | (simp [um_in, c_1, c_2]; done)
      exact W.zret (v := 1) hx hb hr (us_nz (by decide)) (fun t ht hW => ⟨⟨1, (), rfl, hsp, trivial⟩, hS.F ht⟩) hS.2.2 dX2_in_15
set_option maxHeartbeats 8000000 in
set_option maxRecDepth 100000 in
theorem kt_X2_isUnit (l : Launch) (dC : Nat → ClassId) (dI : Nat → Nat → Nat) (md : Nat → Nat) (cI : ClassId) (sz : Nat) (th : Int32) (nu nm : Nat) (sk : Int32) (G : Nat → Nat → Int32) (v : Nat → Int32) (p1 : Int32) : Met l yX2_isUnit wsX2_isUnit ({ frames := 1, cells := 0, slots := 0, locals := 22 }) (va_Pc [.ref (md 0), .int p1] (um_P dC dI md cI th nu nm sk G v sz)) (va_Qi (fun r (_ : Unit) => r = um_isU p1 nu) (fun _ _ => True) (us_new sz)) 0 0 (us_new sz) := by
  refine Met.ofW (cc := cX2_isUnit) (maxL := 2) (ret := (some .boolean)) (by decide) rfl ?_
  intro p e s m args below meth c s₁ B hml hv
  obtain ⟨rfl, hsz, hP, hK, hD⟩ := hv
  have hx := B.exec
  have hb := B.bytes
  have hr := B.returns
  have htb := us_htb (atoms_spec (ws := wsX2_isUnit) B.pre)
  have hown : s.vm.findClass RX2 = some m.cls := findClass_of_methodNamed B.named
  have hlocks := B.notSynchronized
  subst hsz
  have hA : ∀ q : Nat, s.heap.size ≤ q → (us_new s.heap.size) q := fun q h => h
  have hS : va_S (us_new s.heap.size) s.heap s.heap [] := va_S.rf
  have hP : va_P (dC, dI) vwCl (um_W md cI th nu nm sk G v) s.heap := hP
  have hl := lv_entry ([.ref (md 0), .int p1]) (n := 2) (Nat.le_of_ble_eq_true rfl)
  rw [lg_entry_eq]
  generalize (lg_sl ([.ref (md 0), .int p1]) ++ List.replicate (2 - (lg_sl ([.ref (md 0), .int p1])).length) Slot.unset).toArray = ls at hl ⊢
  have hl : lv_has ls 2 [(0, .ref (md 0)), (1, .int p1)] := hl
  refine lv_iload_n hx hb dX2_isUnit_0 rfl (lv_at hl 1 rfl) ?_
  refine lv_iconst (v := 0) hx hb dX2_isUnit_1 (by decide) ?_
  refine lv_aload_n hx hb dX2_isUnit_2 rfl (lv_at hl 0 rfl) ?_
  refine va_get (D := (dC, dI)) (ci := 2) (v := .int (nI nu)) (C := RX2) (T := TX2) (N := 23) hx hb htb us_inX2 hown hK hP 0 rfl rfl 1 (by decide) (htb _ mw_424) (fun _ h9 => h9) rfl dX2_isUnit_3 ?_
  refine lv_iconst (v := 1) hx hb dX2_isUnit_6 (by decide) ?_
  refine lv_isub hx hb dX2_isUnit_7 ?_
  refine va_calli (va_runS (As := [.int p1, .int 0, .int ((nI nu) - 1)]) (rest := []) ⟨hx, hb, hml, hown, htb⟩ (kt_X2_in l s.heap.size p1 0 ((nI nu) - 1)) (cwS 3 htb (us_gS mw_501 mw_502 mw_34 mw_503) rfl rfl rfl (by decide +kernel) ⟨Nat.le_of_ble_eq_true rfl, Nat.le_of_ble_eq_true rfl⟩) ⟨us_blind0, fun U hU _ => ⟨rfl, congrArg Array.size hU⟩⟩ rfl rfl hl.1 rfl (lv_room (Nat.le_of_ble_eq_true rfl)) dX2_isUnit_8 ⟨Nat.le_of_ble_eq_true rfl, Nat.le_of_ble_eq_true rfl⟩) hS (fun q h1 h2 => absurd h2 (Nat.not_le.mpr h1)) (fun q h => hA q (Nat.le_trans hS.1 h)) (fun r_2 _ t_3 H_1 locs ht hvm hw hB hz1 hk1 hS => ?_)
  subst hw
  have hP := us_mono hP (fun q h => hk1 q h (Nat.not_le.mpr h))
  have hsp : (um_in p1 0 ((nI nu) - 1)) = um_isU p1 nu := by rfl
  exact W.zret (v := (um_in p1 0 ((nI nu) - 1))) hx hb hr (us_nz (um_nz _ _ _)) (fun t ht hW => ⟨⟨(um_in p1 0 ((nI nu) - 1)), (), rfl, hsp, trivial⟩, hS.F ht⟩) hS.2.2 dX2_isUnit_11
set_option maxHeartbeats 8000000 in
set_option maxRecDepth 100000 in
theorem kt_X2_isMinute (l : Launch) (sz : Nat) (p1 : Int32) : Met l yX2_isMinute wsX2_isMinute ({ frames := 1, cells := 0, slots := 0, locals := 22 }) (va_Pc [.int p1] (fun S => S.heap.size = sz)) (va_Qi (fun r (_ : Unit) => r = um_in p1 0 99999) (fun _ _ => True) (us_new sz)) 0 0 (us_new sz) := by
  refine Met.ofW (cc := cX2_isMinute) (maxL := 1) (ret := (some .boolean)) (by decide) rfl ?_
  intro p e s m args below meth c s₁ B hml hv
  obtain ⟨rfl, hsz⟩ := hv
  have hx := B.exec
  have hb := B.bytes
  have hr := B.returns
  have htb := us_htb (atoms_spec (ws := wsX2_isMinute) B.pre)
  have hown : s.vm.findClass RX2 = some m.cls := findClass_of_methodNamed B.named
  have hlocks := B.notSynchronized
  subst hsz
  have hA : ∀ q : Nat, s.heap.size ≤ q → (us_new s.heap.size) q := fun q h => h
  have hS : va_S (us_new s.heap.size) s.heap s.heap [] := va_S.rf
  have hl := lv_entry ([.int p1]) (n := 1) (Nat.le_of_ble_eq_true rfl)
  rw [lg_entry_eq]
  generalize (lg_sl ([.int p1]) ++ List.replicate (1 - (lg_sl ([.int p1])).length) Slot.unset).toArray = ls at hl ⊢
  have hl : lv_has ls 1 [(0, .int p1)] := hl
  refine lv_iload_n hx hb dX2_isMinute_0 rfl (lv_at hl 0 rfl) ?_
  refine lv_iconst (v := 0) hx hb dX2_isMinute_1 (by decide) ?_
  refine lv_ldc (v := 99999) hx hb hown (htb _ mw_519) dX2_isMinute_2 ?_
  refine va_calli (va_runS (As := [.int p1, .int 0, .int 99999]) (rest := []) ⟨hx, hb, hml, hown, htb⟩ (kt_X2_in l s.heap.size p1 0 99999) (cwS 3 htb (us_gS mw_501 mw_502 mw_34 mw_503) rfl rfl rfl (by decide +kernel) ⟨Nat.le_of_ble_eq_true rfl, Nat.le_of_ble_eq_true rfl⟩) ⟨us_blind0, fun U hU _ => ⟨rfl, congrArg Array.size hU⟩⟩ rfl rfl hl.1 rfl (lv_room (Nat.le_of_ble_eq_true rfl)) dX2_isMinute_4 ⟨Nat.le_of_ble_eq_true rfl, Nat.le_of_ble_eq_true rfl⟩) hS (fun q h1 h2 => absurd h2 (Nat.not_le.mpr h1)) (fun q h => hA q (Nat.le_trans hS.1 h)) (fun r_2 _ t_3 H_1 locs ht hvm hw hB hz1 hk1 hS => ?_)
  subst hw
  have hsp : (um_in p1 0 99999) = um_in p1 0 99999 := by rfl
  exact W.zret (v := (um_in p1 0 99999)) hx hb hr (us_nz (um_nz _ _ _)) (fun t ht hW => ⟨⟨(um_in p1 0 99999), (), rfl, hsp, trivial⟩, hS.F ht⟩) hS.2.2 dX2_isMinute_7
set_option maxHeartbeats 8000000 in
set_option maxRecDepth 100000 in
theorem kt_X2_throwing (l : Launch) (dC : Nat → ClassId) (dI : Nat → Nat → Nat) (md : Nat → Nat) (cI : ClassId) (sz : Nat) (th : Int32) (nu nm : Nat) (sk : Int32) (G : Nat → Nat → Int32) (v : Nat → Int32) (p1 : Int32) (p2 : Int32) (p3 : Int32) : Met l yX2_throwing wsX2_throwing ({ frames := 0, cells := 0, slots := 0, locals := 0 }) (va_Pc [.ref (md 0), .int p1, .int p2, .int p3] (um_P dC dI md cI th nu nm sk G v sz)) (va_Qi (fun r (_ : Unit) => r = um_thr p1 p2 p3) (fun _ t => um_B dC dI md cI (um_th p1 p2 p3) nu nm sk G v t) (us_AA (um_ads md) sz)) 0 0 (us_AA (um_ads md) sz) := by
  refine Met.ofW (cc := cX2_throwing) (maxL := 4) (ret := (some .boolean)) (by decide) rfl ?_
  intro p e s m args below meth c s₁ B hml hv
  obtain ⟨rfl, hsz, hP, hK, hD⟩ := hv
  have hx := B.exec
  have hb := B.bytes
  have hr := B.returns
  have htb := us_htb (atoms_spec (ws := wsX2_throwing) B.pre)
  have hown : s.vm.findClass RX2 = some m.cls := findClass_of_methodNamed B.named
  have hlocks := B.notSynchronized
  subst hsz
  have hA : ∀ q : Nat, s.heap.size ≤ q → (us_AA (um_ads md) s.heap.size) q := fun q h => Or.inr h
  have hS : va_S (us_AA (um_ads md) s.heap.size) s.heap s.heap [] := va_S.rf
  have hP : va_P (dC, dI) vwCl (um_W md cI th nu nm sk G v) s.heap := hP
  have hD : va_D (us_AA (um_ads md) s.heap.size) (um_W md cI th nu nm sk G v) := us_D_aa hD
  have hl := lv_entry ([.ref (md 0), .int p1, .int p2, .int p3]) (n := 4) (Nat.le_of_ble_eq_true rfl)
  rw [lg_entry_eq]
  generalize (lg_sl ([.ref (md 0), .int p1, .int p2, .int p3]) ++ List.replicate (4 - (lg_sl ([.ref (md 0), .int p1, .int p2, .int p3])).length) Slot.unset).toArray = ls at hl ⊢
  have hl : lv_has ls 4 [(0, .ref (md 0)), (1, .int p1), (2, .int p2), (3, .int p3)] := hl
  refine lv_aload_n hx hb dX2_throwing_0 rfl (lv_at hl 0 rfl) ?_
  refine lv_iload_n hx hb dX2_throwing_1 rfl (lv_at hl 1 rfl) ?_
  refine lv_if_eq (tgt := 9) hx hb dX2_throwing_2 (by decide) (fun c_1 => ?_) (fun c_1 => ?_)
  · refine lv_iload_n hx hb dX2_throwing_9 rfl (lv_at hl 2 rfl) ?_
    refine lv_if_eq (tgt := 17) hx hb dX2_throwing_10 (by decide) (fun c_2 => ?_) (fun c_2 => ?_)
    · refine lv_iload_n hx hb dX2_throwing_17 rfl (lv_at hl 3 rfl) ?_
      refine lv_if_eq (tgt := 25) hx hb dX2_throwing_18 (by decide) (fun c_3 => ?_) (fun c_3 => ?_)
      · refine lv_iconst (v := 0) hx hb dX2_throwing_25 (by decide) ?_
        refine va_put (D := (dC, dI)) (ci := 2) (v := .int 0) (ty := .int) (C := RX2) (T := TX2) (N := 23) hx hb htb us_inX2 tyX2 tyX2_ok nmX2 hown hK hP hD hS 0 rfl rfl 0 (by decide) (htb _ mw_423) (fun _ h9 => h9) rfl (by decide +kernel) rfl rfl (Nat.le_of_ble_eq_true rfl) dX2_throwing_26 (fun H_4 locs hP hD hS => ?_)
        have hP : va_P (dC, dI) vwCl (um_W md cI 0 nu nm sk G v) H_4 := hP
        have hD : va_D (us_AA (um_ads md) s.heap.size) (um_W md cI 0 nu nm sk G v) := hD
        refine lv_aload_n hx hb dX2_throwing_29 rfl (lv_at hl 0 rfl) ?_
        refine va_get (D := (dC, dI)) (ci := 2) (v := .int 0) (C := RX2) (T := TX2) (N := 23) hx hb htb us_inX2 hown hK hP 0 rfl rfl 0 (by decide) (htb _ mw_423) (fun _ h9 => h9) rfl dX2_throwing_30 ?_
        refine lv_if_le (tgt := 40) hx hb dX2_throwing_33 (by decide) (fun c_5 => ?_) (fun c_5 => ?_)
        · refine lv_iconst (v := 0) hx hb dX2_throwing_40 (by decide) ?_
          have hsp : 0 = um_thr p1 p2 p3 := by first | (simp only [um_thr, um_th, eq_true c_1, eq_true c_2, eq_true c_3, eq_true c_5, if_true, if_false]; decide) | (simp [um_thr, um_th, c_1, c_2, c_3, c_5]; done)
          exact W.zret (v := 0) hx hb hr (us_nz (by decide)) (fun t ht hW => ⟨⟨0, (), rfl, hsp, um_B_of ht hP (by first | (simp only [um_th, eq_true c_1, eq_true c_2, eq_true c_3, eq_true c_5, if_true, if_false]; done) | (simp [um_th, c_1, c_2, c_3, c_5]; done)) rfl rfl rfl rfl rfl⟩, hS.F ht⟩) hS.2.2 dX2_throwing_41
        · exact absurd (by decide) c_5
      · refine lv_iconst (v := 3) hx hb dX2_throwing_21 (by decide) ?_
        refine lv_goto (tgt := 26) hx hb dX2_throwing_22 (by decide) ?_
        refine va_put (D := (dC, dI)) (ci := 2) (v := .int 3) (ty := .int) (C := RX2) (T := TX2) (N := 23) hx hb htb us_inX2 tyX2 tyX2_ok nmX2 hown hK hP hD hS 0 rfl rfl 0 (by decide) (htb _ mw_423) (fun _ h9 => h9) rfl (by decide +kernel) rfl rfl (Nat.le_of_ble_eq_true rfl) dX2_throwing_26 (fun H_6 locs hP hD hS => ?_)
        have hP : va_P (dC, dI) vwCl (um_W md cI 3 nu nm sk G v) H_6 := hP
        have hD : va_D (us_AA (um_ads md) s.heap.size) (um_W md cI 3 nu nm sk G v) := hD
        refine lv_aload_n hx hb dX2_throwing_29 rfl (lv_at hl 0 rfl) ?_
        refine va_get (D := (dC, dI)) (ci := 2) (v := .int 3) (C := RX2) (T := TX2) (N := 23) hx hb htb us_inX2 hown hK hP 0 rfl rfl 0 (by decide) (htb _ mw_423) (fun _ h9 => h9) rfl dX2_throwing_30 ?_
        refine lv_if_le (tgt := 40) hx hb dX2_throwing_33 (by decide) (fun c_7 => ?_) (fun c_7 => ?_)
        · exact absurd c_7 (by decide)
        · refine lv_iconst (v := 1) hx hb dX2_throwing_36 (by decide) ?_
          refine lv_goto (tgt := 41) hx hb dX2_throwing_37 (by decide) ?_
          have hsp : 1 = um_thr p1 p2 p3 := by first | (simp only [um_thr, um_th, eq_true c_1, eq_true c_2, eq_false c_3, eq_false c_7, if_true, if_false]; decide) | (simp [um_thr, um_th, c_1, c_2, c_3, c_7]; done)
          exact W.zret (v := 1) hx hb hr (us_nz (by decide)) (fun t ht hW => ⟨⟨1, (), rfl, hsp, um_B_of ht hP (by first | (simp only [um_th, eq_true c_1, eq_true c_2, eq_false c_3, eq_false c_7, if_true, if_false]; done) | (simp [um_th, c_1, c_2, c_3, c_7]; done)) rfl rfl rfl rfl rfl⟩, hS.F ht⟩) hS.2.2 dX2_throwing_41
    · refine lv_iconst (v := 2) hx hb dX2_throwing_13 (by decide) ?_
      refine lv_goto (tgt := 26) hx hb dX2_throwing_14 (by decide) ?_
      refine va_put (D := (dC, dI)) (ci := 2) (v := .int 2) (ty := .int) (C := RX2) (T := TX2) (N := 23) hx hb htb us_inX2 tyX2 tyX2_ok nmX2 hown hK hP hD hS 0 rfl rfl 0 (by decide) (htb _ mw_423) (fun _ h9 => h9) rfl (by decide +kernel) rfl rfl (Nat.le_of_ble_eq_true rfl) dX2_throwing_26 (fun H_8 locs hP hD hS => ?_)
      have hP : va_P (dC, dI) vwCl (um_W md cI 2 nu nm sk G v) H_8 := hP
      have hD : va_D (us_AA (um_ads md) s.heap.size) (um_W md cI 2 nu nm sk G v) := hD
      refine lv_aload_n hx hb dX2_throwing_29 rfl (lv_at hl 0 rfl) ?_
      refine va_get (D := (dC, dI)) (ci := 2) (v := .int 2) (C := RX2) (T := TX2) (N := 23) hx hb htb us_inX2 hown hK hP 0 rfl rfl 0 (by decide) (htb _ mw_423) (fun _ h9 => h9) rfl dX2_throwing_30 ?_
      refine lv_if_le (tgt := 40) hx hb dX2_throwing_33 (by decide) (fun c_9 => ?_) (fun c_9 => ?_)
      · exact absurd c_9 (by decide)
      · refine lv_iconst (v := 1) hx hb dX2_throwing_36 (by decide) ?_
        refine lv_goto (tgt := 41) hx hb dX2_throwing_37 (by decide) ?_
        have hsp : 1 = um_thr p1 p2 p3 := by first | (simp only [um_thr, um_th, eq_true c_1, eq_false c_2, eq_false c_9, if_true, if_false]; decide) | (simp [um_thr, um_th, c_1, c_2, c_9]; done)
        exact W.zret (v := 1) hx hb hr (us_nz (by decide)) (fun t ht hW => ⟨⟨1, (), rfl, hsp, um_B_of ht hP (by first | (simp only [um_th, eq_true c_1, eq_false c_2, eq_false c_9, if_true, if_false]; done) | (simp [um_th, c_1, c_2, c_9]; done)) rfl rfl rfl rfl rfl⟩, hS.F ht⟩) hS.2.2 dX2_throwing_41
  · refine lv_iconst (v := 1) hx hb dX2_throwing_5 (by decide) ?_
    refine lv_goto (tgt := 26) hx hb dX2_throwing_6 (by decide) ?_
    refine va_put (D := (dC, dI)) (ci := 2) (v := .int 1) (ty := .int) (C := RX2) (T := TX2) (N := 23) hx hb htb us_inX2 tyX2 tyX2_ok nmX2 hown hK hP hD hS 0 rfl rfl 0 (by decide) (htb _ mw_423) (fun _ h9 => h9) rfl (by decide +kernel) rfl rfl (Nat.le_of_ble_eq_true rfl) dX2_throwing_26 (fun H_10 locs hP hD hS => ?_)
    have hP : va_P (dC, dI) vwCl (um_W md cI 1 nu nm sk G v) H_10 := hP
    have hD : va_D (us_AA (um_ads md) s.heap.size) (um_W md cI 1 nu nm sk G v) := hD
    refine lv_aload_n hx hb dX2_throwing_29 rfl (lv_at hl 0 rfl) ?_
    refine va_get (D := (dC, dI)) (ci := 2) (v := .int 1) (C := RX2) (T := TX2) (N := 23) hx hb htb us_inX2 hown hK hP 0 rfl rfl 0 (by decide) (htb _ mw_423) (fun _ h9 => h9) rfl dX2_throwing_30 ?_
    refine lv_if_le (tgt := 40) hx hb dX2_throwing_33 (by decide) (fun c_11 => ?_) (fun c_11 => ?_)
    · exact absurd c_11 (by decide)
    · refine lv_iconst (v := 1) hx hb dX2_throwing_36 (by decide) ?_
      refine lv_goto (tgt := 41) hx hb dX2_throwing_37 (by decide) ?_
      have hsp : 1 = um_thr p1 p2 p3 := by first | (simp only [um_thr, um_th, eq_false c_1, eq_false c_11, if_true, if_false]; decide) | (simp [um_thr, um_th, c_1, c_11]; done)
      exact W.zret (v := 1) hx hb hr (us_nz (by decide)) (fun t ht hW => ⟨⟨1, (), rfl, hsp, um_B_of ht hP (by first | (simp only [um_th, eq_false c_1, eq_false c_11, if_true, if_false]; done) | (simp [um_th, c_1, c_11]; done)) rfl rfl rfl rfl rfl⟩, hS.F ht⟩) hS.2.2 dX2_throwing_41
set_option maxHeartbeats 8000000 in
set_option maxRecDepth 100000 in
theorem kt_X2_isValue (l : Launch) (sz : Nat) (p1 : Int32) (p2 : Int32) : Met l yX2_isValue wsX2_isValue ({ frames := 1, cells := 0, slots := 0, locals := 22 }) (va_Pc [.int p1, .int p2] (fun S => S.heap.size = sz)) (va_Qi (fun r (_ : Unit) => r = um_val p1 p2) (fun _ _ => True) (us_new sz)) 0 0 (us_new sz) := by
  refine Met.ofW (cc := cX2_isValue) (maxL := 2) (ret := (some .boolean)) (by decide) rfl ?_
  intro p e s m args below meth c s₁ B hml hv
  obtain ⟨rfl, hsz⟩ := hv
  have hx := B.exec
  have hb := B.bytes
  have hr := B.returns
  have htb := us_htb (atoms_spec (ws := wsX2_isValue) B.pre)
  have hown : s.vm.findClass RX2 = some m.cls := findClass_of_methodNamed B.named
  have hlocks := B.notSynchronized
  subst hsz
  have hA : ∀ q : Nat, s.heap.size ≤ q → (us_new s.heap.size) q := fun q h => h
  have hS : va_S (us_new s.heap.size) s.heap s.heap [] := va_S.rf
  have hl := lv_entry ([.int p1, .int p2]) (n := 2) (Nat.le_of_ble_eq_true rfl)
  rw [lg_entry_eq]
  generalize (lg_sl ([.int p1, .int p2]) ++ List.replicate (2 - (lg_sl ([.int p1, .int p2])).length) Slot.unset).toArray = ls at hl ⊢
  have hl : lv_has ls 2 [(0, .int p1), (1, .int p2)] := hl
  refine lv_iload_n hx hb dX2_isValue_0 rfl (lv_at hl 0 rfl) ?_
  by_cases k_1 : p1 = 0
  · refine lv_tableIn (tgt := 80) hx hb dX2_isValue_1 (by rw [k_1]; decide) (by rw [k_1]; decide) (by rw [k_1]; rfl) (by decide) ?_
    refine lv_iload_n hx hb dX2_isValue_80 rfl (lv_at hl 1 rfl) ?_
    refine lv_iconst (v := 0) hx hb dX2_isValue_81 (by decide) ?_
    refine lv_bipush (v := 9) hx hb dX2_isValue_82 (by decide) ?_
    refine va_calli (va_runS (As := [.int p2, .int 0, .int 9]) (rest := []) ⟨hx, hb, hml, hown, htb⟩ (kt_X2_in l s.heap.size p2 0 9) (cwS 3 htb (us_gS mw_501 mw_502 mw_34 mw_503) rfl rfl rfl (by decide +kernel) ⟨Nat.le_of_ble_eq_true rfl, Nat.le_of_ble_eq_true rfl⟩) ⟨us_blind0, fun U hU _ => ⟨rfl, congrArg Array.size hU⟩⟩ rfl rfl hl.1 rfl (lv_room (Nat.le_of_ble_eq_true rfl)) dX2_isValue_84 ⟨Nat.le_of_ble_eq_true rfl, Nat.le_of_ble_eq_true rfl⟩) hS (fun q h1 h2 => absurd h2 (Nat.not_le.mpr h1)) (fun q h => hA q (Nat.le_trans hS.1 h)) (fun r_3 _ t_4 H_2 locs ht hvm hw hB hz1 hk1 hS => ?_)
    subst hw
    have hsp : (um_in p2 0 9) = um_val p1 p2 := by first | (simp only [um_val, eq_true k_1, if_true, if_false]; done) | (simp [um_val, k_1]; done)
    exact W.zret (v := (um_in p2 0 9)) hx hb hr (us_nz (um_nz _ _ _)) (fun t ht hW => ⟨⟨(um_in p2 0 9), (), rfl, hsp, trivial⟩, hS.F ht⟩) hS.2.2 dX2_isValue_87
  by_cases k_5 : p1 = 1
  · refine lv_tableIn (tgt := 88) hx hb dX2_isValue_1 (by rw [k_5]; decide) (by rw [k_5]; decide) (by rw [k_5]; rfl) (by decide) ?_
    refine lv_iload_n hx hb dX2_isValue_88 rfl (lv_at hl 1 rfl) ?_
    refine lv_iconst (v := 0) hx hb dX2_isValue_89 (by decide) ?_
    refine lv_bipush (v := 19) hx hb dX2_isValue_90 (by decide) ?_
    refine va_calli (va_runS (As := [.int p2, .int 0, .int 19]) (rest := []) ⟨hx, hb, hml, hown, htb⟩ (kt_X2_in l s.heap.size p2 0 19) (cwS 3 htb (us_gS mw_501 mw_502 mw_34 mw_503) rfl rfl rfl (by decide +kernel) ⟨Nat.le_of_ble_eq_true rfl, Nat.le_of_ble_eq_true rfl⟩) ⟨us_blind0, fun U hU _ => ⟨rfl, congrArg Array.size hU⟩⟩ rfl rfl hl.1 rfl (lv_room (Nat.le_of_ble_eq_true rfl)) dX2_isValue_92 ⟨Nat.le_of_ble_eq_true rfl, Nat.le_of_ble_eq_true rfl⟩) hS (fun q h1 h2 => absurd h2 (Nat.not_le.mpr h1)) (fun q h => hA q (Nat.le_trans hS.1 h)) (fun r_7 _ t_8 H_6 locs ht hvm hw hB hz1 hk1 hS => ?_)
    subst hw
    have hsp : (um_in p2 0 19) = um_val p1 p2 := by first | (simp only [um_val, eq_true k_5, if_true, if_false]; done) | (simp [um_val, k_5]; done)
    exact W.zret (v := (um_in p2 0 19)) hx hb hr (us_nz (um_nz _ _ _)) (fun t ht hW => ⟨⟨(um_in p2 0 19), (), rfl, hsp, trivial⟩, hS.F ht⟩) hS.2.2 dX2_isValue_95
  by_cases k_9 : p1 = 2
  · refine lv_tableIn (tgt := 129) hx hb dX2_isValue_1 (by rw [k_9]; decide) (by rw [k_9]; decide) (by rw [k_9]; rfl) (by decide) ?_
    refine lv_iconst (v := 1) hx hb dX2_isValue_129 (by decide) ?_
    have hsp : 1 = um_val p1 p2 := by first | (simp only [um_val, eq_true k_9, if_true, if_false]; done) | (simp [um_val, k_9]; done)
    exact W.zret (v := 1) hx hb hr (us_nz (by decide)) (fun t ht hW => ⟨⟨1, (), rfl, hsp, trivial⟩, hS.F ht⟩) hS.2.2 dX2_isValue_130
  by_cases k_10 : p1 = 3
  · refine lv_tableIn (tgt := 129) hx hb dX2_isValue_1 (by rw [k_10]; decide) (by rw [k_10]; decide) (by rw [k_10]; rfl) (by decide) ?_
    refine lv_iconst (v := 1) hx hb dX2_isValue_129 (by decide) ?_
    have hsp : 1 = um_val p1 p2 := by first | (simp only [um_val, eq_true k_10, if_true, if_false]; done) | (simp [um_val, k_10]; done)
    exact W.zret (v := 1) hx hb hr (us_nz (by decide)) (fun t ht hW => ⟨⟨1, (), rfl, hsp, trivial⟩, hS.F ht⟩) hS.2.2 dX2_isValue_130
  by_cases k_11 : p1 = 4
  · refine lv_tableIn (tgt := 129) hx hb dX2_isValue_1 (by rw [k_11]; decide) (by rw [k_11]; decide) (by rw [k_11]; rfl) (by decide) ?_
    refine lv_iconst (v := 1) hx hb dX2_isValue_129 (by decide) ?_
    have hsp : 1 = um_val p1 p2 := by first | (simp only [um_val, eq_true k_11, if_true, if_false]; done) | (simp [um_val, k_11]; done)
    exact W.zret (v := 1) hx hb hr (us_nz (by decide)) (fun t ht hW => ⟨⟨1, (), rfl, hsp, trivial⟩, hS.F ht⟩) hS.2.2 dX2_isValue_130
  by_cases k_12 : p1 = 5
  · refine lv_tableIn (tgt := 129) hx hb dX2_isValue_1 (by rw [k_12]; decide) (by rw [k_12]; decide) (by rw [k_12]; rfl) (by decide) ?_
    refine lv_iconst (v := 1) hx hb dX2_isValue_129 (by decide) ?_
    have hsp : 1 = um_val p1 p2 := by first | (simp only [um_val, eq_true k_12, if_true, if_false]; done) | (simp [um_val, k_12]; done)
    exact W.zret (v := 1) hx hb hr (us_nz (by decide)) (fun t ht hW => ⟨⟨1, (), rfl, hsp, trivial⟩, hS.F ht⟩) hS.2.2 dX2_isValue_130
  by_cases k_13 : p1 = 6
  · refine lv_tableIn (tgt := 129) hx hb dX2_isValue_1 (by rw [k_13]; decide) (by rw [k_13]; decide) (by rw [k_13]; rfl) (by decide) ?_
    refine lv_iconst (v := 1) hx hb dX2_isValue_129 (by decide) ?_
    have hsp : 1 = um_val p1 p2 := by first | (simp only [um_val, eq_true k_13, if_true, if_false]; done) | (simp [um_val, k_13]; done)
    exact W.zret (v := 1) hx hb hr (us_nz (by decide)) (fun t ht hW => ⟨⟨1, (), rfl, hsp, trivial⟩, hS.F ht⟩) hS.2.2 dX2_isValue_130
  by_cases k_14 : p1 = 7
  · refine lv_tableIn (tgt := 129) hx hb dX2_isValue_1 (by rw [k_14]; decide) (by rw [k_14]; decide) (by rw [k_14]; rfl) (by decide) ?_
    refine lv_iconst (v := 1) hx hb dX2_isValue_129 (by decide) ?_
    have hsp : 1 = um_val p1 p2 := by first | (simp only [um_val, eq_true k_14, if_true, if_false]; done) | (simp [um_val, k_14]; done)
    exact W.zret (v := 1) hx hb hr (us_nz (by decide)) (fun t ht hW => ⟨⟨1, (), rfl, hsp, trivial⟩, hS.F ht⟩) hS.2.2 dX2_isValue_130
  by_cases k_15 : p1 = 8
  · refine lv_tableIn (tgt := 129) hx hb dX2_isValue_1 (by rw [k_15]; decide) (by rw [k_15]; decide) (by rw [k_15]; rfl) (by decide) ?_
    refine lv_iconst (v := 1) hx hb dX2_isValue_129 (by decide) ?_
    have hsp : 1 = um_val p1 p2 := by first | (simp only [um_val, eq_true k_15, if_true, if_false]; done) | (simp [um_val, k_15]; done)
    exact W.zret (v := 1) hx hb hr (us_nz (by decide)) (fun t ht hW => ⟨⟨1, (), rfl, hsp, trivial⟩, hS.F ht⟩) hS.2.2 dX2_isValue_130
  by_cases k_16 : p1 = 9
  · refine lv_tableIn (tgt := 129) hx hb dX2_isValue_1 (by rw [k_16]; decide) (by rw [k_16]; decide) (by rw [k_16]; rfl) (by decide) ?_
    refine lv_iconst (v := 1) hx hb dX2_isValue_129 (by decide) ?_
    have hsp : 1 = um_val p1 p2 := by first | (simp only [um_val, eq_true k_16, if_true, if_false]; done) | (simp [um_val, k_16]; done)
    exact W.zret (v := 1) hx hb hr (us_nz (by decide)) (fun t ht hW => ⟨⟨1, (), rfl, hsp, trivial⟩, hS.F ht⟩) hS.2.2 dX2_isValue_130
  by_cases k_17 : p1 = 10
  · refine lv_tableIn (tgt := 129) hx hb dX2_isValue_1 (by rw [k_17]; decide) (by rw [k_17]; decide) (by rw [k_17]; rfl) (by decide) ?_
    refine lv_iconst (v := 1) hx hb dX2_isValue_129 (by decide) ?_
    have hsp : 1 = um_val p1 p2 := by first | (simp only [um_val, eq_true k_17, if_true, if_false]; done) | (simp [um_val, k_17]; done)
    exact W.zret (v := 1) hx hb hr (us_nz (by decide)) (fun t ht hW => ⟨⟨1, (), rfl, hsp, trivial⟩, hS.F ht⟩) hS.2.2 dX2_isValue_130
  by_cases k_18 : p1 = 11
  · refine lv_tableIn (tgt := 96) hx hb dX2_isValue_1 (by rw [k_18]; decide) (by rw [k_18]; decide) (by rw [k_18]; rfl) (by decide) ?_
    refine lv_iload_n hx hb dX2_isValue_96 rfl (lv_at hl 1 rfl) ?_
    refine lv_iconst (v := 0) hx hb dX2_isValue_97 (by decide) ?_
    refine lv_ldc (v := 999999) hx hb hown (htb _ mw_523) dX2_isValue_98 ?_
    refine va_calli (va_runS (As := [.int p2, .int 0, .int 999999]) (rest := []) ⟨hx, hb, hml, hown, htb⟩ (kt_X2_in l s.heap.size p2 0 999999) (cwS 3 htb (us_gS mw_501 mw_502 mw_34 mw_503) rfl rfl rfl (by decide +kernel) ⟨Nat.le_of_ble_eq_true rfl, Nat.le_of_ble_eq_true rfl⟩) ⟨us_blind0, fun U hU _ => ⟨rfl, congrArg Array.size hU⟩⟩ rfl rfl hl.1 rfl (lv_room (Nat.le_of_ble_eq_true rfl)) dX2_isValue_100 ⟨Nat.le_of_ble_eq_true rfl, Nat.le_of_ble_eq_true rfl⟩) hS (fun q h1 h2 => absurd h2 (Nat.not_le.mpr h1)) (fun q h => hA q (Nat.le_trans hS.1 h)) (fun r_20 _ t_21 H_19 locs ht hvm hw hB hz1 hk1 hS => ?_)
    subst hw
    have hsp : (um_in p2 0 999999) = um_val p1 p2 := by first | (simp only [um_val, eq_true k_18, if_true, if_false]; done) | (simp [um_val, k_18]; done)
    exact W.zret (v := (um_in p2 0 999999)) hx hb hr (us_nz (um_nz _ _ _)) (fun t ht hW => ⟨⟨(um_in p2 0 999999), (), rfl, hsp, trivial⟩, hS.F ht⟩) hS.2.2 dX2_isValue_103
  by_cases k_22 : p1 = 12
  · refine lv_tableIn (tgt := 80) hx hb dX2_isValue_1 (by rw [k_22]; decide) (by rw [k_22]; decide) (by rw [k_22]; rfl) (by decide) ?_
    refine lv_iload_n hx hb dX2_isValue_80 rfl (lv_at hl 1 rfl) ?_
    refine lv_iconst (v := 0) hx hb dX2_isValue_81 (by decide) ?_
    refine lv_bipush (v := 9) hx hb dX2_isValue_82 (by decide) ?_
    refine va_calli (va_runS (As := [.int p2, .int 0, .int 9]) (rest := []) ⟨hx, hb, hml, hown, htb⟩ (kt_X2_in l s.heap.size p2 0 9) (cwS 3 htb (us_gS mw_501 mw_502 mw_34 mw_503) rfl rfl rfl (by decide +kernel) ⟨Nat.le_of_ble_eq_true rfl, Nat.le_of_ble_eq_true rfl⟩) ⟨us_blind0, fun U hU _ => ⟨rfl, congrArg Array.size hU⟩⟩ rfl rfl hl.1 rfl (lv_room (Nat.le_of_ble_eq_true rfl)) dX2_isValue_84 ⟨Nat.le_of_ble_eq_true rfl, Nat.le_of_ble_eq_true rfl⟩) hS (fun q h1 h2 => absurd h2 (Nat.not_le.mpr h1)) (fun q h => hA q (Nat.le_trans hS.1 h)) (fun r_24 _ t_25 H_23 locs ht hvm hw hB hz1 hk1 hS => ?_)
    subst hw
    have hsp : (um_in p2 0 9) = um_val p1 p2 := by first | (simp only [um_val, eq_true k_22, if_true, if_false]; done) | (simp [um_val, k_22]; done)
    exact W.zret (v := (um_in p2 0 9)) hx hb hr (us_nz (um_nz _ _ _)) (fun t ht hW => ⟨⟨(um_in p2 0 9), (), rfl, hsp, trivial⟩, hS.F ht⟩) hS.2.2 dX2_isValue_87
  by_cases k_26 : p1 = 13
  · refine lv_tableIn (tgt := 104) hx hb dX2_isValue_1 (by rw [k_26]; decide) (by rw [k_26]; decide) (by rw [k_26]; rfl) (by decide) ?_
    refine lv_iload_n hx hb dX2_isValue_104 rfl (lv_at hl 1 rfl) ?_
    refine lv_iconst (v := 0) hx hb dX2_isValue_105 (by decide) ?_
    refine lv_sipush (v := 255) hx hb dX2_isValue_106 (by decide) ?_
    refine va_calli (va_runS (As := [.int p2, .int 0, .int 255]) (rest := []) ⟨hx, hb, hml, hown, htb⟩ (kt_X2_in l s.heap.size p2 0 255) (cwS 3 htb (us_gS mw_501 mw_502 mw_34 mw_503) rfl rfl rfl (by decide +kernel) ⟨Nat.le_of_ble_eq_true rfl, Nat.le_of_ble_eq_true rfl⟩) ⟨us_blind0, fun U hU _ => ⟨rfl, congrArg Array.size hU⟩⟩ rfl rfl hl.1 rfl (lv_room (Nat.le_of_ble_eq_true rfl)) dX2_isValue_109 ⟨Nat.le_of_ble_eq_true rfl, Nat.le_of_ble_eq_true rfl⟩) hS (fun q h1 h2 => absurd h2 (Nat.not_le.mpr h1)) (fun q h => hA q (Nat.le_trans hS.1 h)) (fun r_28 _ t_29 H_27 locs ht hvm hw hB hz1 hk1 hS => ?_)
    subst hw
    have hsp : (um_in p2 0 255) = um_val p1 p2 := by first | (simp only [um_val, eq_true k_26, if_true, if_false]; done) | (simp [um_val, k_26]; done)
    exact W.zret (v := (um_in p2 0 255)) hx hb hr (us_nz (um_nz _ _ _)) (fun t ht hW => ⟨⟨(um_in p2 0 255), (), rfl, hsp, trivial⟩, hS.F ht⟩) hS.2.2 dX2_isValue_112
  by_cases k_30 : p1 = 14
  · refine lv_tableIn (tgt := 113) hx hb dX2_isValue_1 (by rw [k_30]; decide) (by rw [k_30]; decide) (by rw [k_30]; rfl) (by decide) ?_
    refine lv_iload_n hx hb dX2_isValue_113 rfl (lv_at hl 1 rfl) ?_
    refine lv_iconst (v := 0) hx hb dX2_isValue_114 (by decide) ?_
    refine lv_iconst (v := 1) hx hb dX2_isValue_115 (by decide) ?_
    refine va_calli (va_runS (As := [.int p2, .int 0, .int 1]) (rest := []) ⟨hx, hb, hml, hown, htb⟩ (kt_X2_in l s.heap.size p2 0 1) (cwS 3 htb (us_gS mw_501 mw_502 mw_34 mw_503) rfl rfl rfl (by decide +kernel) ⟨Nat.le_of_ble_eq_true rfl, Nat.le_of_ble_eq_true rfl⟩) ⟨us_blind0, fun U hU _ => ⟨rfl, congrArg Array.size hU⟩⟩ rfl rfl hl.1 rfl (lv_room (Nat.le_of_ble_eq_true rfl)) dX2_isValue_116 ⟨Nat.le_of_ble_eq_true rfl, Nat.le_of_ble_eq_true rfl⟩) hS (fun q h1 h2 => absurd h2 (Nat.not_le.mpr h1)) (fun q h => hA q (Nat.le_trans hS.1 h)) (fun r_32 _ t_33 H_31 locs ht hvm hw hB hz1 hk1 hS => ?_)
    subst hw
    have hsp : (um_in p2 0 1) = um_val p1 p2 := by first | (simp only [um_val, eq_true k_30, if_true, if_false]; done) | (simp [um_val, k_30]; done)
    exact W.zret (v := (um_in p2 0 1)) hx hb hr (us_nz (um_nz _ _ _)) (fun t ht hW => ⟨⟨(um_in p2 0 1), (), rfl, hsp, trivial⟩, hS.F ht⟩) hS.2.2 dX2_isValue_119
  by_cases k_34 : p1 = 15
  · refine lv_tableIn (tgt := 120) hx hb dX2_isValue_1 (by rw [k_34]; decide) (by rw [k_34]; decide) (by rw [k_34]; rfl) (by decide) ?_
    refine lv_iload_n hx hb dX2_isValue_120 rfl (lv_at hl 1 rfl) ?_
    refine lv_iconst (v := 0) hx hb dX2_isValue_121 (by decide) ?_
    refine lv_sipush (v := 999) hx hb dX2_isValue_122 (by decide) ?_
    refine va_calli (va_runS (As := [.int p2, .int 0, .int 999]) (rest := []) ⟨hx, hb, hml, hown, htb⟩ (kt_X2_in l s.heap.size p2 0 999) (cwS 3 htb (us_gS mw_501 mw_502 mw_34 mw_503) rfl rfl rfl (by decide +kernel) ⟨Nat.le_of_ble_eq_true rfl, Nat.le_of_ble_eq_true rfl⟩) ⟨us_blind0, fun U hU _ => ⟨rfl, congrArg Array.size hU⟩⟩ rfl rfl hl.1 rfl (lv_room (Nat.le_of_ble_eq_true rfl)) dX2_isValue_125 ⟨Nat.le_of_ble_eq_true rfl, Nat.le_of_ble_eq_true rfl⟩) hS (fun q h1 h2 => absurd h2 (Nat.not_le.mpr h1)) (fun q h => hA q (Nat.le_trans hS.1 h)) (fun r_36 _ t_37 H_35 locs ht hvm hw hB hz1 hk1 hS => ?_)
    subst hw
    have hsp : (um_in p2 0 999) = um_val p1 p2 := by first | (simp only [um_val, eq_true k_34, if_true, if_false]; done) | (simp [um_val, k_34]; done)
    exact W.zret (v := (um_in p2 0 999)) hx hb hr (us_nz (um_nz _ _ _)) (fun t ht hW => ⟨⟨(um_in p2 0 999), (), rfl, hsp, trivial⟩, hS.F ht⟩) hS.2.2 dX2_isValue_128
  have hout_1 : p1.toInt < 0 ∨ 15 < p1.toInt := us_sw (lo := 0) (hi := 15) (fun z h1 h2 => by
    rcases (show z = 0 ∨ z = 1 ∨ z = 2 ∨ z = 3 ∨ z = 4 ∨ z = 5 ∨ z = 6 ∨ z = 7 ∨ z = 8 ∨ z = 9 ∨ z = 10 ∨ z = 11 ∨ z = 12 ∨ z = 13 ∨ z = 14 ∨ z = 15 by omega) with rfl | rfl | rfl | rfl | rfl | rfl | rfl | rfl | rfl | rfl | rfl | rfl | rfl | rfl | rfl | rfl
    · exact fun e => k_1 (e.trans (by decide))
    · exact fun e => k_5 (e.trans (by decide))
    · exact fun e => k_9 (e.trans (by decide))
    · exact fun e => k_10 (e.trans (by decide))
    · exact fun e => k_11 (e.trans (by decide))
    · exact fun e => k_12 (e.trans (by decide))
    · exact fun e => k_13 (e.trans (by decide))
    · exact fun e => k_14 (e.trans (by decide))
    · exact fun e => k_15 (e.trans (by decide))
    · exact fun e => k_16 (e.trans (by decide))
    · exact fun e => k_17 (e.trans (by decide))
    · exact fun e => k_18 (e.trans (by decide))
    · exact fun e => k_22 (e.trans (by decide))
    · exact fun e => k_26 (e.trans (by decide))
    · exact fun e => k_30 (e.trans (by decide))
    · exact fun e => k_34 (e.trans (by decide)))
  refine lv_tableOut (tgt := 129) hx hb dX2_isValue_1 hout_1 (by decide) ?_
  refine lv_iconst (v := 1) hx hb dX2_isValue_129 (by decide) ?_
  have hsp : 1 = um_val p1 p2 := by first | (simp only [um_val, eq_false k_1, eq_false k_5, eq_false k_9, eq_false k_10, eq_false k_11, eq_false k_12, eq_false k_13, eq_false k_14, eq_false k_15, eq_false k_16, eq_false k_17, eq_false k_18, eq_false k_22, eq_false k_26, eq_false k_30, eq_false k_34, if_true, if_false]; done) | (simp [um_val, k_1, k_5, k_9, k_10, k_11, k_12, k_13, k_14, k_15, k_16, k_17, k_18, k_22, k_26, k_30, k_34]; done)
  exact W.zret (v := 1) hx hb hr (us_nz (by decide)) (fun t ht hW => ⟨⟨1, (), rfl, hsp, trivial⟩, hS.F ht⟩) hS.2.2 dX2_isValue_130
set_option maxHeartbeats 8000000 in
set_option maxRecDepth 100000 in
theorem kt_X2_follows (l : Launch) (sz : Nat) (p1 : Int32) (p2 : Int32) : Met l yX2_follows wsX2_follows ({ frames := 0, cells := 0, slots := 0, locals := 0 }) (va_Pc [.int p1, .int p2] (fun S => S.heap.size = sz)) (va_Qi (fun r (_ : Unit) => r = um_fls p1 p2) (fun _ _ => True) (us_new sz)) 0 0 (us_new sz) := by
  refine Met.ofW (cc := cX2_follows) (maxL := 2) (ret := (some .boolean)) (by decide) rfl ?_
  intro p e s m args below meth c s₁ B hml hv
  obtain ⟨rfl, hsz⟩ := hv
  have hx := B.exec
  have hb := B.bytes
  have hr := B.returns
  have htb := us_htb (atoms_spec (ws := wsX2_follows) B.pre)
  have hown : s.vm.findClass RX2 = some m.cls := findClass_of_methodNamed B.named
  have hlocks := B.notSynchronized
  subst hsz
  have hA : ∀ q : Nat, s.heap.size ≤ q → (us_new s.heap.size) q := fun q h => h
  have hS : va_S (us_new s.heap.size) s.heap s.heap [] := va_S.rf
  have hl := lv_entry ([.int p1, .int p2]) (n := 2) (Nat.le_of_ble_eq_true rfl)
  rw [lg_entry_eq]
  generalize (lg_sl ([.int p1, .int p2]) ++ List.replicate (2 - (lg_sl ([.int p1, .int p2])).length) Slot.unset).toArray = ls at hl ⊢
  have hl : lv_has ls 2 [(0, .int p1), (1, .int p2)] := hl
  refine lv_iload_n hx hb dX2_follows_0 rfl (lv_at hl 0 rfl) ?_
  by_cases k_1 : p1 = 0
  · refine lv_tableIn (tgt := 56) hx hb dX2_follows_1 (by rw [k_1]; decide) (by rw [k_1]; decide) (by rw [k_1]; rfl) (by decide) ?_
    refine lv_iload_n hx hb dX2_follows_56 rfl (lv_at hl 1 rfl) ?_
    refine lv_iconst (v := 1) hx hb dX2_follows_57 (by decide) ?_
    refine lv_icmp_eq (tgt := 67) hx hb dX2_follows_58 (by decide) (fun c_2 => ?_) (fun c_2 => ?_)
    · refine lv_iconst (v := 1) hx hb dX2_follows_67 (by decide) ?_
      refine lv_goto (tgt := 72) hx hb dX2_follows_68 (by decide) ?_
      have hsp : 1 = um_fls p1 p2 := by first | (simp only [um_fls, eq_true k_1, eq_true c_2, if_true, if_false]; done) | (simp [um_fls, k_1, c_2]; done)
      exact W.zret (v := 1) hx hb hr (us_nz (by decide)) (fun t ht hW => ⟨⟨1, (), rfl, hsp, trivial⟩, hS.F ht⟩) hS.2.2 dX2_follows_72
    · refine lv_iload_n hx hb dX2_follows_61 rfl (lv_at hl 1 rfl) ?_
      refine lv_bipush (v := 6) hx hb dX2_follows_62 (by decide) ?_
      refine lv_icmp_le (tgt := 71) hx hb dX2_follows_64 (by decide) (fun c_3 => ?_) (fun c_3 => ?_)
      · refine lv_iconst (v := 0) hx hb dX2_follows_71 (by decide) ?_
        have hsp : 0 = um_fls p1 p2 := by first | (simp only [um_fls, eq_true k_1, eq_false c_2, eq_true c_3, if_true, if_false]; done) | (simp [um_fls, k_1, c_2, c_3]; done)
        exact W.zret (v := 0) hx hb hr (us_nz (by decide)) (fun t ht hW => ⟨⟨0, (), rfl, hsp, trivial⟩, hS.F ht⟩) hS.2.2 dX2_follows_72
      · refine lv_iconst (v := 1) hx hb dX2_follows_67 (by decide) ?_
        refine lv_goto (tgt := 72) hx hb dX2_follows_68 (by decide) ?_
        have hsp : 1 = um_fls p1 p2 := by first | (simp only [um_fls, eq_true k_1, eq_false c_2, eq_false c_3, if_true, if_false]; done) | (simp [um_fls, k_1, c_2, c_3]; done)
        exact W.zret (v := 1) hx hb hr (us_nz (by decide)) (fun t ht hW => ⟨⟨1, (), rfl, hsp, trivial⟩, hS.F ht⟩) hS.2.2 dX2_follows_72
  by_cases k_4 : p1 = 1
  · refine lv_tableIn (tgt := 73) hx hb dX2_follows_1 (by rw [k_4]; decide) (by rw [k_4]; decide) (by rw [k_4]; rfl) (by decide) ?_
    refine lv_iload_n hx hb dX2_follows_73 rfl (lv_at hl 1 rfl) ?_
    refine lv_iconst (v := 2) hx hb dX2_follows_74 (by decide) ?_
    refine lv_icmp_eq (tgt := 82) hx hb dX2_follows_75 (by decide) (fun c_5 => ?_) (fun c_5 => ?_)
    · refine lv_iconst (v := 1) hx hb dX2_follows_82 (by decide) ?_
      refine lv_goto (tgt := 87) hx hb dX2_follows_83 (by decide) ?_
      have hsp : 1 = um_fls p1 p2 := by first | (simp only [um_fls, eq_true k_4, eq_true c_5, if_true, if_false]; done) | (simp [um_fls, k_4, c_5]; done)
      exact W.zret (v := 1) hx hb hr (us_nz (by decide)) (fun t ht hW => ⟨⟨1, (), rfl, hsp, trivial⟩, hS.F ht⟩) hS.2.2 dX2_follows_87
    · refine lv_iload_n hx hb dX2_follows_78 rfl (lv_at hl 1 rfl) ?_
      refine lv_if_ne (tgt := 86) hx hb dX2_follows_79 (by decide) (fun c_6 => ?_) (fun c_6 => ?_)
      · refine lv_iconst (v := 0) hx hb dX2_follows_86 (by decide) ?_
        have hsp : 0 = um_fls p1 p2 := by first | (simp only [um_fls, eq_true k_4, eq_false c_5, eq_false c_6, if_true, if_false]; done) | (simp [um_fls, k_4, c_5, c_6]; done)
        exact W.zret (v := 0) hx hb hr (us_nz (by decide)) (fun t ht hW => ⟨⟨0, (), rfl, hsp, trivial⟩, hS.F ht⟩) hS.2.2 dX2_follows_87
      · refine lv_iconst (v := 1) hx hb dX2_follows_82 (by decide) ?_
        refine lv_goto (tgt := 87) hx hb dX2_follows_83 (by decide) ?_
        have hsp : 1 = um_fls p1 p2 := by first | (simp only [um_fls, eq_true k_4, eq_false c_5, eq_true c_6, if_true, if_false]; done) | (simp [um_fls, k_4, c_5, c_6]; done)
        exact W.zret (v := 1) hx hb hr (us_nz (by decide)) (fun t ht hW => ⟨⟨1, (), rfl, hsp, trivial⟩, hS.F ht⟩) hS.2.2 dX2_follows_87
  by_cases k_7 : p1 = 2
  · refine lv_tableIn (tgt := 88) hx hb dX2_follows_1 (by rw [k_7]; decide) (by rw [k_7]; decide) (by rw [k_7]; rfl) (by decide) ?_
    refine lv_iload_n hx hb dX2_follows_88 rfl (lv_at hl 1 rfl) ?_
    refine lv_iconst (v := 3) hx hb dX2_follows_89 (by decide) ?_
    refine lv_icmp_eq (tgt := 99) hx hb dX2_follows_90 (by decide) (fun c_8 => ?_) (fun c_8 => ?_)
    · refine lv_iconst (v := 1) hx hb dX2_follows_99 (by decide) ?_
      refine lv_goto (tgt := 104) hx hb dX2_follows_100 (by decide) ?_
      have hsp : 1 = um_fls p1 p2 := by first | (simp only [um_fls, eq_true k_7, eq_true c_8, if_true, if_false]; done) | (simp [um_fls, k_7, c_8]; done)
      exact W.zret (v := 1) hx hb hr (us_nz (by decide)) (fun t ht hW => ⟨⟨1, (), rfl, hsp, trivial⟩, hS.F ht⟩) hS.2.2 dX2_follows_104
    · refine lv_iload_n hx hb dX2_follows_93 rfl (lv_at hl 1 rfl) ?_
      refine lv_bipush (v := 6) hx hb dX2_follows_94 (by decide) ?_
      refine lv_icmp_ne (tgt := 103) hx hb dX2_follows_96 (by decide) (fun c_9 => ?_) (fun c_9 => ?_)
      · refine lv_iconst (v := 0) hx hb dX2_follows_103 (by decide) ?_
        have hsp : 0 = um_fls p1 p2 := by first | (simp only [um_fls, eq_true k_7, eq_false c_8, eq_false c_9, if_true, if_false]; done) | (simp [um_fls, k_7, c_8, c_9]; done)
        exact W.zret (v := 0) hx hb hr (us_nz (by decide)) (fun t ht hW => ⟨⟨0, (), rfl, hsp, trivial⟩, hS.F ht⟩) hS.2.2 dX2_follows_104
      · refine lv_iconst (v := 1) hx hb dX2_follows_99 (by decide) ?_
        refine lv_goto (tgt := 104) hx hb dX2_follows_100 (by decide) ?_
        have hsp : 1 = um_fls p1 p2 := by first | (simp only [um_fls, eq_true k_7, eq_false c_8, eq_true c_9, if_true, if_false]; done) | (simp [um_fls, k_7, c_8, c_9]; done)
        exact W.zret (v := 1) hx hb hr (us_nz (by decide)) (fun t ht hW => ⟨⟨1, (), rfl, hsp, trivial⟩, hS.F ht⟩) hS.2.2 dX2_follows_104
  by_cases k_10 : p1 = 3
  · refine lv_tableIn (tgt := 105) hx hb dX2_follows_1 (by rw [k_10]; decide) (by rw [k_10]; decide) (by rw [k_10]; rfl) (by decide) ?_
    refine lv_iload_n hx hb dX2_follows_105 rfl (lv_at hl 1 rfl) ?_
    refine lv_iconst (v := 4) hx hb dX2_follows_106 (by decide) ?_
    refine lv_icmp_eq (tgt := 115) hx hb dX2_follows_107 (by decide) (fun c_11 => ?_) (fun c_11 => ?_)
    · refine lv_iconst (v := 1) hx hb dX2_follows_115 (by decide) ?_
      refine lv_goto (tgt := 120) hx hb dX2_follows_116 (by decide) ?_
      have hsp : 1 = um_fls p1 p2 := by first | (simp only [um_fls, eq_true k_10, eq_true c_11, if_true, if_false]; done) | (simp [um_fls, k_10, c_11]; done)
      exact W.zret (v := 1) hx hb hr (us_nz (by decide)) (fun t ht hW => ⟨⟨1, (), rfl, hsp, trivial⟩, hS.F ht⟩) hS.2.2 dX2_follows_120
    · refine lv_iload_n hx hb dX2_follows_110 rfl (lv_at hl 1 rfl) ?_
      refine lv_iconst (v := 5) hx hb dX2_follows_111 (by decide) ?_
      refine lv_icmp_ne (tgt := 119) hx hb dX2_follows_112 (by decide) (fun c_12 => ?_) (fun c_12 => ?_)
      · refine lv_iconst (v := 0) hx hb dX2_follows_119 (by decide) ?_
        have hsp : 0 = um_fls p1 p2 := by first | (simp only [um_fls, eq_true k_10, eq_false c_11, eq_false c_12, if_true, if_false]; done) | (simp [um_fls, k_10, c_11, c_12]; done)
        exact W.zret (v := 0) hx hb hr (us_nz (by decide)) (fun t ht hW => ⟨⟨0, (), rfl, hsp, trivial⟩, hS.F ht⟩) hS.2.2 dX2_follows_120
      · refine lv_iconst (v := 1) hx hb dX2_follows_115 (by decide) ?_
        refine lv_goto (tgt := 120) hx hb dX2_follows_116 (by decide) ?_
        have hsp : 1 = um_fls p1 p2 := by first | (simp only [um_fls, eq_true k_10, eq_false c_11, eq_true c_12, if_true, if_false]; done) | (simp [um_fls, k_10, c_11, c_12]; done)
        exact W.zret (v := 1) hx hb hr (us_nz (by decide)) (fun t ht hW => ⟨⟨1, (), rfl, hsp, trivial⟩, hS.F ht⟩) hS.2.2 dX2_follows_120
  by_cases k_13 : p1 = 4
  · refine lv_tableIn (tgt := 121) hx hb dX2_follows_1 (by rw [k_13]; decide) (by rw [k_13]; decide) (by rw [k_13]; rfl) (by decide) ?_
    refine lv_iload_n hx hb dX2_follows_121 rfl (lv_at hl 1 rfl) ?_
    refine lv_iconst (v := 5) hx hb dX2_follows_122 (by decide) ?_
    refine lv_icmp_ne (tgt := 130) hx hb dX2_follows_123 (by decide) (fun c_14 => ?_) (fun c_14 => ?_)
    · refine lv_iconst (v := 0) hx hb dX2_follows_130 (by decide) ?_
      have hsp : 0 = um_fls p1 p2 := by first | (simp only [um_fls, eq_true k_13, eq_false c_14, if_true, if_false]; done) | (simp [um_fls, k_13, c_14]; done)
      exact W.zret (v := 0) hx hb hr (us_nz (by decide)) (fun t ht hW => ⟨⟨0, (), rfl, hsp, trivial⟩, hS.F ht⟩) hS.2.2 dX2_follows_131
    · refine lv_iconst (v := 1) hx hb dX2_follows_126 (by decide) ?_
      refine lv_goto (tgt := 131) hx hb dX2_follows_127 (by decide) ?_
      have hsp : 1 = um_fls p1 p2 := by first | (simp only [um_fls, eq_true k_13, eq_true c_14, if_true, if_false]; done) | (simp [um_fls, k_13, c_14]; done)
      exact W.zret (v := 1) hx hb hr (us_nz (by decide)) (fun t ht hW => ⟨⟨1, (), rfl, hsp, trivial⟩, hS.F ht⟩) hS.2.2 dX2_follows_131
  by_cases k_15 : p1 = 5
  · refine lv_tableIn (tgt := 132) hx hb dX2_follows_1 (by rw [k_15]; decide) (by rw [k_15]; decide) (by rw [k_15]; rfl) (by decide) ?_
    refine lv_iload_n hx hb dX2_follows_132 rfl (lv_at hl 1 rfl) ?_
    refine lv_iconst (v := 1) hx hb dX2_follows_133 (by decide) ?_
    refine lv_icmp_eq (tgt := 143) hx hb dX2_follows_134 (by decide) (fun c_16 => ?_) (fun c_16 => ?_)
    · refine lv_iconst (v := 1) hx hb dX2_follows_143 (by decide) ?_
      refine lv_goto (tgt := 148) hx hb dX2_follows_144 (by decide) ?_
      have hsp : 1 = um_fls p1 p2 := by first | (simp only [um_fls, eq_true k_15, eq_true c_16, if_true, if_false]; done) | (simp [um_fls, k_15, c_16]; done)
      exact W.zret (v := 1) hx hb hr (us_nz (by decide)) (fun t ht hW => ⟨⟨1, (), rfl, hsp, trivial⟩, hS.F ht⟩) hS.2.2 dX2_follows_148
    · refine lv_iload_n hx hb dX2_follows_137 rfl (lv_at hl 1 rfl) ?_
      refine lv_bipush (v := 6) hx hb dX2_follows_138 (by decide) ?_
      refine lv_icmp_ne (tgt := 147) hx hb dX2_follows_140 (by decide) (fun c_17 => ?_) (fun c_17 => ?_)
      · refine lv_iconst (v := 0) hx hb dX2_follows_147 (by decide) ?_
        have hsp : 0 = um_fls p1 p2 := by first | (simp only [um_fls, eq_true k_15, eq_false c_16, eq_false c_17, if_true, if_false]; done) | (simp [um_fls, k_15, c_16, c_17]; done)
        exact W.zret (v := 0) hx hb hr (us_nz (by decide)) (fun t ht hW => ⟨⟨0, (), rfl, hsp, trivial⟩, hS.F ht⟩) hS.2.2 dX2_follows_148
      · refine lv_iconst (v := 1) hx hb dX2_follows_143 (by decide) ?_
        refine lv_goto (tgt := 148) hx hb dX2_follows_144 (by decide) ?_
        have hsp : 1 = um_fls p1 p2 := by first | (simp only [um_fls, eq_true k_15, eq_false c_16, eq_true c_17, if_true, if_false]; done) | (simp [um_fls, k_15, c_16, c_17]; done)
        exact W.zret (v := 1) hx hb hr (us_nz (by decide)) (fun t ht hW => ⟨⟨1, (), rfl, hsp, trivial⟩, hS.F ht⟩) hS.2.2 dX2_follows_148
  by_cases k_18 : p1 = 6
  · refine lv_tableIn (tgt := 149) hx hb dX2_follows_1 (by rw [k_18]; decide) (by rw [k_18]; decide) (by rw [k_18]; rfl) (by decide) ?_
    refine lv_iload_n hx hb dX2_follows_149 rfl (lv_at hl 1 rfl) ?_
    refine lv_if_eq (tgt := 164) hx hb dX2_follows_150 (by decide) (fun c_19 => ?_) (fun c_19 => ?_)
    · refine lv_iconst (v := 1) hx hb dX2_follows_164 (by decide) ?_
      refine lv_goto (tgt := 169) hx hb dX2_follows_165 (by decide) ?_
      have hsp : 1 = um_fls p1 p2 := by first | (simp only [um_fls, eq_true k_18, eq_true c_19, if_true, if_false]; done) | (simp [um_fls, k_18, c_19]; done)
      exact W.zret (v := 1) hx hb hr (us_nz (by decide)) (fun t ht hW => ⟨⟨1, (), rfl, hsp, trivial⟩, hS.F ht⟩) hS.2.2 dX2_follows_169
    · refine lv_iload_n hx hb dX2_follows_153 rfl (lv_at hl 1 rfl) ?_
      refine lv_iconst (v := 1) hx hb dX2_follows_154 (by decide) ?_
      refine lv_icmp_eq (tgt := 164) hx hb dX2_follows_155 (by decide) (fun c_20 => ?_) (fun c_20 => ?_)
      · refine lv_iconst (v := 1) hx hb dX2_follows_164 (by decide) ?_
        refine lv_goto (tgt := 169) hx hb dX2_follows_165 (by decide) ?_
        have hsp : 1 = um_fls p1 p2 := by first | (simp only [um_fls, eq_true k_18, eq_false c_19, eq_true c_20, if_true, if_false]; done) | (simp [um_fls, k_18, c_19, c_20]; done)
        exact W.zret (v := 1) hx hb hr (us_nz (by decide)) (fun t ht hW => ⟨⟨1, (), rfl, hsp, trivial⟩, hS.F ht⟩) hS.2.2 dX2_follows_169
      · refine lv_iload_n hx hb dX2_follows_158 rfl (lv_at hl 1 rfl) ?_
        refine lv_bipush (v := 7) hx hb dX2_follows_159 (by decide) ?_
        refine lv_icmp_ne (tgt := 168) hx hb dX2_follows_161 (by decide) (fun c_21 => ?_) (fun c_21 => ?_)
        · refine lv_iconst (v := 0) hx hb dX2_follows_168 (by decide) ?_
          have hsp : 0 = um_fls p1 p2 := by first | (simp only [um_fls, eq_true k_18, eq_false c_19, eq_false c_20, eq_false c_21, if_true, if_false]; done) | (simp [um_fls, k_18, c_19, c_20, c_21]; done)
          exact W.zret (v := 0) hx hb hr (us_nz (by decide)) (fun t ht hW => ⟨⟨0, (), rfl, hsp, trivial⟩, hS.F ht⟩) hS.2.2 dX2_follows_169
        · refine lv_iconst (v := 1) hx hb dX2_follows_164 (by decide) ?_
          refine lv_goto (tgt := 169) hx hb dX2_follows_165 (by decide) ?_
          have hsp : 1 = um_fls p1 p2 := by first | (simp only [um_fls, eq_true k_18, eq_false c_19, eq_false c_20, eq_true c_21, if_true, if_false]; done) | (simp [um_fls, k_18, c_19, c_20, c_21]; done)
          exact W.zret (v := 1) hx hb hr (us_nz (by decide)) (fun t ht hW => ⟨⟨1, (), rfl, hsp, trivial⟩, hS.F ht⟩) hS.2.2 dX2_follows_169
  by_cases k_22 : p1 = 7
  · refine lv_tableIn (tgt := 170) hx hb dX2_follows_1 (by rw [k_22]; decide) (by rw [k_22]; decide) (by rw [k_22]; rfl) (by decide) ?_
    refine lv_iload_n hx hb dX2_follows_170 rfl (lv_at hl 1 rfl) ?_
    refine lv_if_eq (tgt := 180) hx hb dX2_follows_171 (by decide) (fun c_23 => ?_) (fun c_23 => ?_)
    · refine lv_iconst (v := 1) hx hb dX2_follows_180 (by decide) ?_
      refine lv_goto (tgt := 185) hx hb dX2_follows_181 (by decide) ?_
      have hsp : 1 = um_fls p1 p2 := by first | (simp only [um_fls, eq_true k_22, eq_true c_23, if_true, if_false]; done) | (simp [um_fls, k_22, c_23]; done)
      exact W.zret (v := 1) hx hb hr (us_nz (by decide)) (fun t ht hW => ⟨⟨1, (), rfl, hsp, trivial⟩, hS.F ht⟩) hS.2.2 dX2_follows_185
    · refine lv_iload_n hx hb dX2_follows_174 rfl (lv_at hl 1 rfl) ?_
      refine lv_bipush (v := 6) hx hb dX2_follows_175 (by decide) ?_
      refine lv_icmp_ne (tgt := 184) hx hb dX2_follows_177 (by decide) (fun c_24 => ?_) (fun c_24 => ?_)
      · refine lv_iconst (v := 0) hx hb dX2_follows_184 (by decide) ?_
        have hsp : 0 = um_fls p1 p2 := by first | (simp only [um_fls, eq_true k_22, eq_false c_23, eq_false c_24, if_true, if_false]; done) | (simp [um_fls, k_22, c_23, c_24]; done)
        exact W.zret (v := 0) hx hb hr (us_nz (by decide)) (fun t ht hW => ⟨⟨0, (), rfl, hsp, trivial⟩, hS.F ht⟩) hS.2.2 dX2_follows_185
      · refine lv_iconst (v := 1) hx hb dX2_follows_180 (by decide) ?_
        refine lv_goto (tgt := 185) hx hb dX2_follows_181 (by decide) ?_
        have hsp : 1 = um_fls p1 p2 := by first | (simp only [um_fls, eq_true k_22, eq_false c_23, eq_true c_24, if_true, if_false]; done) | (simp [um_fls, k_22, c_23, c_24]; done)
        exact W.zret (v := 1) hx hb hr (us_nz (by decide)) (fun t ht hW => ⟨⟨1, (), rfl, hsp, trivial⟩, hS.F ht⟩) hS.2.2 dX2_follows_185
  by_cases k_25 : p1 = 8
  · refine lv_tableIn (tgt := 186) hx hb dX2_follows_1 (by rw [k_25]; decide) (by rw [k_25]; decide) (by rw [k_25]; rfl) (by decide) ?_
    refine lv_iload_n hx hb dX2_follows_186 rfl (lv_at hl 1 rfl) ?_
    refine lv_if_eq (tgt := 196) hx hb dX2_follows_187 (by decide) (fun c_26 => ?_) (fun c_26 => ?_)
    · refine lv_iconst (v := 1) hx hb dX2_follows_196 (by decide) ?_
      refine lv_goto (tgt := 201) hx hb dX2_follows_197 (by decide) ?_
      have hsp : 1 = um_fls p1 p2 := by first | (simp only [um_fls, eq_true k_25, eq_true c_26, if_true, if_false]; done) | (simp [um_fls, k_25, c_26]; done)
      exact W.zret (v := 1) hx hb hr (us_nz (by decide)) (fun t ht hW => ⟨⟨1, (), rfl, hsp, trivial⟩, hS.F ht⟩) hS.2.2 dX2_follows_201
    · refine lv_iload_n hx hb dX2_follows_190 rfl (lv_at hl 1 rfl) ?_
      refine lv_bipush (v := 9) hx hb dX2_follows_191 (by decide) ?_
      refine lv_icmp_ne (tgt := 200) hx hb dX2_follows_193 (by decide) (fun c_27 => ?_) (fun c_27 => ?_)
      · refine lv_iconst (v := 0) hx hb dX2_follows_200 (by decide) ?_
        have hsp : 0 = um_fls p1 p2 := by first | (simp only [um_fls, eq_true k_25, eq_false c_26, eq_false c_27, if_true, if_false]; done) | (simp [um_fls, k_25, c_26, c_27]; done)
        exact W.zret (v := 0) hx hb hr (us_nz (by decide)) (fun t ht hW => ⟨⟨0, (), rfl, hsp, trivial⟩, hS.F ht⟩) hS.2.2 dX2_follows_201
      · refine lv_iconst (v := 1) hx hb dX2_follows_196 (by decide) ?_
        refine lv_goto (tgt := 201) hx hb dX2_follows_197 (by decide) ?_
        have hsp : 1 = um_fls p1 p2 := by first | (simp only [um_fls, eq_true k_25, eq_false c_26, eq_true c_27, if_true, if_false]; done) | (simp [um_fls, k_25, c_26, c_27]; done)
        exact W.zret (v := 1) hx hb hr (us_nz (by decide)) (fun t ht hW => ⟨⟨1, (), rfl, hsp, trivial⟩, hS.F ht⟩) hS.2.2 dX2_follows_201
  by_cases k_28 : p1 = 9
  · refine lv_tableIn (tgt := 202) hx hb dX2_follows_1 (by rw [k_28]; decide) (by rw [k_28]; decide) (by rw [k_28]; rfl) (by decide) ?_
    refine lv_iload_n hx hb dX2_follows_202 rfl (lv_at hl 1 rfl) ?_
    refine lv_if_eq (tgt := 212) hx hb dX2_follows_203 (by decide) (fun c_29 => ?_) (fun c_29 => ?_)
    · refine lv_iconst (v := 1) hx hb dX2_follows_212 (by decide) ?_
      refine lv_goto (tgt := 217) hx hb dX2_follows_213 (by decide) ?_
      have hsp : 1 = um_fls p1 p2 := by first | (simp only [um_fls, eq_true k_28, eq_true c_29, if_true, if_false]; done) | (simp [um_fls, k_28, c_29]; done)
      exact W.zret (v := 1) hx hb hr (us_nz (by decide)) (fun t ht hW => ⟨⟨1, (), rfl, hsp, trivial⟩, hS.F ht⟩) hS.2.2 dX2_follows_217
    · refine lv_iload_n hx hb dX2_follows_206 rfl (lv_at hl 1 rfl) ?_
      refine lv_bipush (v := 8) hx hb dX2_follows_207 (by decide) ?_
      refine lv_icmp_ne (tgt := 216) hx hb dX2_follows_209 (by decide) (fun c_30 => ?_) (fun c_30 => ?_)
      · refine lv_iconst (v := 0) hx hb dX2_follows_216 (by decide) ?_
        have hsp : 0 = um_fls p1 p2 := by first | (simp only [um_fls, eq_true k_28, eq_false c_29, eq_false c_30, if_true, if_false]; done) | (simp [um_fls, k_28, c_29, c_30]; done)
        exact W.zret (v := 0) hx hb hr (us_nz (by decide)) (fun t ht hW => ⟨⟨0, (), rfl, hsp, trivial⟩, hS.F ht⟩) hS.2.2 dX2_follows_217
      · refine lv_iconst (v := 1) hx hb dX2_follows_212 (by decide) ?_
        refine lv_goto (tgt := 217) hx hb dX2_follows_213 (by decide) ?_
        have hsp : 1 = um_fls p1 p2 := by first | (simp only [um_fls, eq_true k_28, eq_false c_29, eq_true c_30, if_true, if_false]; done) | (simp [um_fls, k_28, c_29, c_30]; done)
        exact W.zret (v := 1) hx hb hr (us_nz (by decide)) (fun t ht hW => ⟨⟨1, (), rfl, hsp, trivial⟩, hS.F ht⟩) hS.2.2 dX2_follows_217
  have hout_1 : p1.toInt < 0 ∨ 9 < p1.toInt := us_sw (lo := 0) (hi := 9) (fun z h1 h2 => by
    rcases (show z = 0 ∨ z = 1 ∨ z = 2 ∨ z = 3 ∨ z = 4 ∨ z = 5 ∨ z = 6 ∨ z = 7 ∨ z = 8 ∨ z = 9 by omega) with rfl | rfl | rfl | rfl | rfl | rfl | rfl | rfl | rfl | rfl
    · exact fun e => k_1 (e.trans (by decide))
    · exact fun e => k_4 (e.trans (by decide))
    · exact fun e => k_7 (e.trans (by decide))
    · exact fun e => k_10 (e.trans (by decide))
    · exact fun e => k_13 (e.trans (by decide))
    · exact fun e => k_15 (e.trans (by decide))
    · exact fun e => k_18 (e.trans (by decide))
    · exact fun e => k_22 (e.trans (by decide))
    · exact fun e => k_25 (e.trans (by decide))
    · exact fun e => k_28 (e.trans (by decide)))
  refine lv_tableOut (tgt := 218) hx hb dX2_follows_1 hout_1 (by decide) ?_
  refine lv_iload_n hx hb dX2_follows_218 rfl (lv_at hl 1 rfl) ?_
  refine lv_if_eq (tgt := 228) hx hb dX2_follows_219 (by decide) (fun c_31 => ?_) (fun c_31 => ?_)
  · refine lv_iconst (v := 1) hx hb dX2_follows_228 (by decide) ?_
    refine lv_goto (tgt := 233) hx hb dX2_follows_229 (by decide) ?_
    have hsp : 1 = um_fls p1 p2 := by first | (simp only [um_fls, eq_false k_1, eq_false k_4, eq_false k_7, eq_false k_10, eq_false k_13, eq_false k_15, eq_false k_18, eq_false k_22, eq_false k_25, eq_false k_28, eq_true c_31, if_true, if_false]; done) | (simp [um_fls, k_1, k_4, k_7, k_10, k_13, k_15, k_18, k_22, k_25, k_28, c_31]; done)
    exact W.zret (v := 1) hx hb hr (us_nz (by decide)) (fun t ht hW => ⟨⟨1, (), rfl, hsp, trivial⟩, hS.F ht⟩) hS.2.2 dX2_follows_233
  · refine lv_iload_n hx hb dX2_follows_222 rfl (lv_at hl 1 rfl) ?_
    refine lv_bipush (v := 9) hx hb dX2_follows_223 (by decide) ?_
    refine lv_icmp_ne (tgt := 232) hx hb dX2_follows_225 (by decide) (fun c_32 => ?_) (fun c_32 => ?_)
    · refine lv_iconst (v := 0) hx hb dX2_follows_232 (by decide) ?_
      have hsp : 0 = um_fls p1 p2 := by first | (simp only [um_fls, eq_false k_1, eq_false k_4, eq_false k_7, eq_false k_10, eq_false k_13, eq_false k_15, eq_false k_18, eq_false k_22, eq_false k_25, eq_false k_28, eq_false c_31, eq_false c_32, if_true, if_false]; done) | (simp [um_fls, k_1, k_4, k_7, k_10, k_13, k_15, k_18, k_22, k_25, k_28, c_31, c_32]; done)
      exact W.zret (v := 0) hx hb hr (us_nz (by decide)) (fun t ht hW => ⟨⟨0, (), rfl, hsp, trivial⟩, hS.F ht⟩) hS.2.2 dX2_follows_233
    · refine lv_iconst (v := 1) hx hb dX2_follows_228 (by decide) ?_
      refine lv_goto (tgt := 233) hx hb dX2_follows_229 (by decide) ?_
      have hsp : 1 = um_fls p1 p2 := by first | (simp only [um_fls, eq_false k_1, eq_false k_4, eq_false k_7, eq_false k_10, eq_false k_13, eq_false k_15, eq_false k_18, eq_false k_22, eq_false k_25, eq_false k_28, eq_false c_31, eq_true c_32, if_true, if_false]; done) | (simp [um_fls, k_1, k_4, k_7, k_10, k_13, k_15, k_18, k_22, k_25, k_28, c_31, c_32]; done)
      exact W.zret (v := 1) hx hb hr (us_nz (by decide)) (fun t ht hW => ⟨⟨1, (), rfl, hsp, trivial⟩, hS.F ht⟩) hS.2.2 dX2_follows_233
set_option maxHeartbeats 8000000 in
set_option maxRecDepth 100000 in
theorem kt_X2_spend (l : Launch) (dC : Nat → ClassId) (dI : Nat → Nat → Nat) (md : Nat → Nat) (cI : ClassId) (sz : Nat) (th : Int32) (nu nm : Nat) (sk : Int32) (G : Nat → Nat → Int32) (v : Nat → Int32) (p1 : Int32) : Met l yX2_spend wsX2_spend ({ frames := 0, cells := 0, slots := 0, locals := 0 }) (va_Pc [.ref (md 0), .int p1] (um_P dC dI md cI th nu nm sk G v sz)) (va_Qv (fun _ : Unit => True) (fun _ t => um_B dC dI md cI th nu nm sk G (um_spend v p1) t) (us_AA (um_ads md) sz)) 0 0 (us_AA (um_ads md) sz) := by
  refine Met.ofW (cc := cX2_spend) (maxL := 3) (ret := none) (by decide) rfl ?_
  intro p e s m args below meth c s₁ B hml hv
  obtain ⟨rfl, hsz, hP, hK, hD⟩ := hv
  have hx := B.exec
  have hb := B.bytes
  have hr := B.returns
  have htb := us_htb (atoms_spec (ws := wsX2_spend) B.pre)
  have hown : s.vm.findClass RX2 = some m.cls := findClass_of_methodNamed B.named
  have hlocks := B.notSynchronized
  subst hsz
  have hA : ∀ q : Nat, s.heap.size ≤ q → (us_AA (um_ads md) s.heap.size) q := fun q h => Or.inr h
  have hS : va_S (us_AA (um_ads md) s.heap.size) s.heap s.heap [] := va_S.rf
  have hP : va_P (dC, dI) vwCl (um_W md cI th nu nm sk G v) s.heap := hP
  have hD : va_D (us_AA (um_ads md) s.heap.size) (um_W md cI th nu nm sk G v) := us_D_aa hD
  have hl := lv_entry ([.ref (md 0), .int p1]) (n := 3) (Nat.le_of_ble_eq_true rfl)
  rw [lg_entry_eq]
  generalize (lg_sl ([.ref (md 0), .int p1]) ++ List.replicate (3 - (lg_sl ([.ref (md 0), .int p1])).length) Slot.unset).toArray = ls at hl ⊢
  have hl : lv_has ls 3 [(0, .ref (md 0)), (1, .int p1)] := hl
  refine lv_iload_n hx hb dX2_spend_0 rfl (lv_at hl 1 rfl) ?_
  refine lv_aload_n hx hb dX2_spend_1 rfl (lv_at hl 0 rfl) ?_
  refine um_get (x := (v 1)) hx hb htb us_inX2 hown hK hP 1 (by decide) (htb _ mw_434) rfl dX2_spend_2 ?_
  refine lv_isub hx hb dX2_spend_5 ?_
  refine lv_istore_n (lv' := [(2, .int (p1 - (v 1))), (0, .ref (md 0)), (1, .int p1)]) hx hb dX2_spend_6 rfl hl (by decide) rfl (fun ls hl => ?_)
  refine lv_aload_n hx hb dX2_spend_7 rfl (lv_at hl 1 rfl) ?_
  refine um_get (x := (v 0)) hx hb htb us_inX2 hown hK hP 0 (by decide) (htb _ mw_433) rfl dX2_spend_8 ?_
  refine lv_iconst (v := 2) hx hb dX2_spend_11 (by decide) ?_
  refine lv_icmp_eq (tgt := 24) hx hb dX2_spend_12 (by decide) (fun c_1 => ?_) (fun c_1 => ?_)
  · refine lv_aload_n hx hb dX2_spend_24 rfl (lv_at hl 1 rfl) ?_
    refine lv_dup hx hb dX2_spend_25 rfl ?_
    refine um_get (x := (v 7)) hx hb htb us_inX2 hown hK hP 7 (by decide) (htb _ mw_440) rfl dX2_spend_26 ?_
    refine lv_iload_n hx hb dX2_spend_29 rfl (lv_at hl 0 rfl) ?_
    refine lv_iadd hx hb dX2_spend_30 ?_
    refine um_put hx hb htb us_inX2 hown hK hP hD hS 7 (by decide) (htb _ mw_440) dX2_spend_31 (fun H_2 locs hP hD hS => ?_)
    have hP : va_P (dC, dI) vwCl (um_W md cI th nu nm sk G (upd v 7 ((v 7) + (p1 - (v 1))))) H_2 := hP
    have hD : va_D (us_AA (um_ads md) s.heap.size) (um_W md cI th nu nm sk G (upd v 7 ((v 7) + (p1 - (v 1))))) := hD
    refine lv_aload_n hx hb dX2_spend_34 rfl (lv_at hl 1 rfl) ?_
    refine um_get (x := (v 0)) hx hb htb us_inX2 hown hK hP 0 (by decide) (htb _ mw_433) rfl dX2_spend_35 ?_
    refine lv_if_eq (tgt := 50) hx hb dX2_spend_38 (by decide) (fun c_3 => ?_) (fun c_3 => ?_)
    · exact absurd (c_1.symm.trans c_3) (by decide)
    · refine lv_aload_n hx hb dX2_spend_41 rfl (lv_at hl 1 rfl) ?_
      refine um_get (x := (v 0)) hx hb htb us_inX2 hown hK hP 0 (by decide) (htb _ mw_433) rfl dX2_spend_42 ?_
      refine lv_bipush (v := 6) hx hb dX2_spend_45 (by decide) ?_
      refine lv_icmp_le (tgt := 61) hx hb dX2_spend_47 (by decide) (fun c_4 => ?_) (fun c_4 => ?_)
      · exact W.vret hx hb hr (fun t ht hW => ⟨⟨(), rfl, trivial, um_B_of ht hP rfl rfl rfl rfl rfl (by first | (simp only [um_spend, eq_true c_1, eq_false c_3, eq_true c_4, if_true, if_false]; done) | (simp [um_spend, c_1, c_3, c_4]; done))⟩, hS.F ht⟩) hS.2.2 dX2_spend_61
      · exact absurd (by rw [c_1]; decide) c_4
  · refine lv_aload_n hx hb dX2_spend_15 rfl (lv_at hl 1 rfl) ?_
    refine um_get (x := (v 0)) hx hb htb us_inX2 hown hK hP 0 (by decide) (htb _ mw_433) rfl dX2_spend_16 ?_
    refine lv_bipush (v := 6) hx hb dX2_spend_19 (by decide) ?_
    refine lv_icmp_ne (tgt := 34) hx hb dX2_spend_21 (by decide) (fun c_5 => ?_) (fun c_5 => ?_)
    · refine lv_aload_n hx hb dX2_spend_34 rfl (lv_at hl 1 rfl) ?_
      refine um_get (x := (v 0)) hx hb htb us_inX2 hown hK hP 0 (by decide) (htb _ mw_433) rfl dX2_spend_35 ?_
      refine lv_if_eq (tgt := 50) hx hb dX2_spend_38 (by decide) (fun c_6 => ?_) (fun c_6 => ?_)
      · refine lv_iload_n hx hb dX2_spend_50 rfl (lv_at hl 0 rfl) ?_
        refine lv_bipush (v := 30) hx hb dX2_spend_51 (by decide) ?_
        refine lv_icmp_lt (tgt := 61) hx hb dX2_spend_53 (by decide) (fun c_7 => ?_) (fun c_7 => ?_)
        · exact W.vret hx hb hr (fun t ht hW => ⟨⟨(), rfl, trivial, um_B_of ht hP rfl rfl rfl rfl rfl (by first | (simp only [um_spend, eq_false c_1, eq_false c_5, eq_true c_6, eq_true c_7, if_true, if_false]; done) | (simp [um_spend, c_1, c_5, c_6, c_7]; done))⟩, hS.F ht⟩) hS.2.2 dX2_spend_61
        · refine lv_aload_n hx hb dX2_spend_56 rfl (lv_at hl 1 rfl) ?_
          refine lv_iconst (v := 0) hx hb dX2_spend_57 (by decide) ?_
          refine um_put hx hb htb us_inX2 hown hK hP hD hS 7 (by decide) (htb _ mw_440) dX2_spend_58 (fun H_8 locs hP hD hS => ?_)
          have hP : va_P (dC, dI) vwCl (um_W md cI th nu nm sk G (upd v 7 0)) H_8 := hP
          have hD : va_D (us_AA (um_ads md) s.heap.size) (um_W md cI th nu nm sk G (upd v 7 0)) := hD
          exact W.vret hx hb hr (fun t ht hW => ⟨⟨(), rfl, trivial, um_B_of ht hP rfl rfl rfl rfl rfl (by first | (simp only [um_spend, eq_false c_1, eq_false c_5, eq_true c_6, eq_false c_7, if_true, if_false]; done) | (simp [um_spend, c_1, c_5, c_6, c_7]; done))⟩, hS.F ht⟩) hS.2.2 dX2_spend_61
      · refine lv_aload_n hx hb dX2_spend_41 rfl (lv_at hl 1 rfl) ?_
        refine um_get (x := (v 0)) hx hb htb us_inX2 hown hK hP 0 (by decide) (htb _ mw_433) rfl dX2_spend_42 ?_
        refine lv_bipush (v := 6) hx hb dX2_spend_45 (by decide) ?_
        refine lv_icmp_le (tgt := 61) hx hb dX2_spend_47 (by decide) (fun c_9 => ?_) (fun c_9 => ?_)
        · exact W.vret hx hb hr (fun t ht hW => ⟨⟨(), rfl, trivial, um_B_of ht hP rfl rfl rfl rfl rfl (by first | (simp only [um_spend, eq_false c_1, eq_false c_5, eq_false c_6, eq_true c_9, if_true, if_false]; done) | (simp [um_spend, c_1, c_5, c_6, c_9]; done))⟩, hS.F ht⟩) hS.2.2 dX2_spend_61
        · refine lv_iload_n hx hb dX2_spend_50 rfl (lv_at hl 0 rfl) ?_
          refine lv_bipush (v := 30) hx hb dX2_spend_51 (by decide) ?_
          refine lv_icmp_lt (tgt := 61) hx hb dX2_spend_53 (by decide) (fun c_10 => ?_) (fun c_10 => ?_)
          · exact W.vret hx hb hr (fun t ht hW => ⟨⟨(), rfl, trivial, um_B_of ht hP rfl rfl rfl rfl rfl (by first | (simp only [um_spend, eq_false c_1, eq_false c_5, eq_false c_6, eq_false c_9, eq_true c_10, if_true, if_false]; done) | (simp [um_spend, c_1, c_5, c_6, c_9, c_10]; done))⟩, hS.F ht⟩) hS.2.2 dX2_spend_61
          · refine lv_aload_n hx hb dX2_spend_56 rfl (lv_at hl 1 rfl) ?_
            refine lv_iconst (v := 0) hx hb dX2_spend_57 (by decide) ?_
            refine um_put hx hb htb us_inX2 hown hK hP hD hS 7 (by decide) (htb _ mw_440) dX2_spend_58 (fun H_11 locs hP hD hS => ?_)
            have hP : va_P (dC, dI) vwCl (um_W md cI th nu nm sk G (upd v 7 0)) H_11 := hP
            have hD : va_D (us_AA (um_ads md) s.heap.size) (um_W md cI th nu nm sk G (upd v 7 0)) := hD
            exact W.vret hx hb hr (fun t ht hW => ⟨⟨(), rfl, trivial, um_B_of ht hP rfl rfl rfl rfl rfl (by first | (simp only [um_spend, eq_false c_1, eq_false c_5, eq_false c_6, eq_false c_9, eq_false c_10, if_true, if_false]; done) | (simp [um_spend, c_1, c_5, c_6, c_9, c_10]; done))⟩, hS.F ht⟩) hS.2.2 dX2_spend_61
    · refine lv_aload_n hx hb dX2_spend_24 rfl (lv_at hl 1 rfl) ?_
      refine lv_dup hx hb dX2_spend_25 rfl ?_
      refine um_get (x := (v 7)) hx hb htb us_inX2 hown hK hP 7 (by decide) (htb _ mw_440) rfl dX2_spend_26 ?_
      refine lv_iload_n hx hb dX2_spend_29 rfl (lv_at hl 0 rfl) ?_
      refine lv_iadd hx hb dX2_spend_30 ?_
      refine um_put hx hb htb us_inX2 hown hK hP hD hS 7 (by decide) (htb _ mw_440) dX2_spend_31 (fun H_12 locs hP hD hS => ?_)
      have hP : va_P (dC, dI) vwCl (um_W md cI th nu nm sk G (upd v 7 ((v 7) + (p1 - (v 1))))) H_12 := hP
      have hD : va_D (us_AA (um_ads md) s.heap.size) (um_W md cI th nu nm sk G (upd v 7 ((v 7) + (p1 - (v 1))))) := hD
      refine lv_aload_n hx hb dX2_spend_34 rfl (lv_at hl 1 rfl) ?_
      refine um_get (x := (v 0)) hx hb htb us_inX2 hown hK hP 0 (by decide) (htb _ mw_433) rfl dX2_spend_35 ?_
      refine lv_if_eq (tgt := 50) hx hb dX2_spend_38 (by decide) (fun c_13 => ?_) (fun c_13 => ?_)
      · exact absurd (c_5.symm.trans c_13) (by decide)
      · refine lv_aload_n hx hb dX2_spend_41 rfl (lv_at hl 1 rfl) ?_
        refine um_get (x := (v 0)) hx hb htb us_inX2 hown hK hP 0 (by decide) (htb _ mw_433) rfl dX2_spend_42 ?_
        refine lv_bipush (v := 6) hx hb dX2_spend_45 (by decide) ?_
        refine lv_icmp_le (tgt := 61) hx hb dX2_spend_47 (by decide) (fun c_14 => ?_) (fun c_14 => ?_)
        · exact W.vret hx hb hr (fun t ht hW => ⟨⟨(), rfl, trivial, um_B_of ht hP rfl rfl rfl rfl rfl (by first | (simp only [um_spend, eq_false c_1, eq_true c_5, eq_false c_13, eq_true c_14, if_true, if_false]; done) | (simp [um_spend, c_1, c_5, c_13, c_14]; done))⟩, hS.F ht⟩) hS.2.2 dX2_spend_61
        · exact absurd (by rw [c_5]; decide) c_14
set_option maxHeartbeats 8000000 in
set_option maxRecDepth 100000 in
theorem kt_X2_become (l : Launch) (dC : Nat → ClassId) (dI : Nat → Nat → Nat) (md : Nat → Nat) (cI : ClassId) (sz : Nat) (th : Int32) (nu nm : Nat) (sk : Int32) (G : Nat → Nat → Int32) (v : Nat → Int32) (p1 : Nat) (hp1 : p1 < 200) : Met l yX2_become wsX2_become ({ frames := 1, cells := 0, slots := 0, locals := 22 }) (va_Pc [.ref (md 0), .int (nI p1)] (um_P dC dI md cI th nu nm sk G v sz)) (va_Qv (fun _ : Unit => True) (fun _ t => um_B dC dI md cI th nu nm sk G (um_become G v p1) t) (us_AA (um_ads md) sz)) 0 0 (us_AA (um_ads md) sz) := by
  refine Met.ofW (cc := cX2_become) (maxL := 2) (ret := none) (by decide) rfl ?_
  intro p e s m args below meth c s₁ B hml hv
  obtain ⟨rfl, hsz, hP, hK, hD⟩ := hv
  have hx := B.exec
  have hb := B.bytes
  have hr := B.returns
  have htb := us_htb (atoms_spec (ws := wsX2_become) B.pre)
  have hown : s.vm.findClass RX2 = some m.cls := findClass_of_methodNamed B.named
  have hlocks := B.notSynchronized
  subst hsz
  have hA : ∀ q : Nat, s.heap.size ≤ q → (us_AA (um_ads md) s.heap.size) q := fun q h => Or.inr h
  have hS : va_S (us_AA (um_ads md) s.heap.size) s.heap s.heap [] := va_S.rf
  have hP : va_P (dC, dI) vwCl (um_W md cI th nu nm sk G v) s.heap := hP
  have hD : va_D (us_AA (um_ads md) s.heap.size) (um_W md cI th nu nm sk G v) := us_D_aa hD
  have hl := lv_entry ([.ref (md 0), .int (nI p1)]) (n := 2) (Nat.le_of_ble_eq_true rfl)
  rw [lg_entry_eq]
  generalize (lg_sl ([.ref (md 0), .int (nI p1)]) ++ List.replicate (2 - (lg_sl ([.ref (md 0), .int (nI p1)])).length) Slot.unset).toArray = ls at hl ⊢
  have hl : lv_has ls 2 [(0, .ref (md 0)), (1, .int (nI p1))] := hl
  refine lv_aload_n hx hb dX2_become_0 rfl (lv_at hl 0 rfl) ?_
  refine lv_aload_n hx hb dX2_become_1 rfl (lv_at hl 0 rfl) ?_
  refine va_get (D := (dC, dI)) (ci := 2) (v := .ref (md 4)) (C := RX2) (T := TX2) (N := 23) hx hb htb us_inX2 hown hK hP 0 rfl rfl 6 (by decide) (htb _ mw_429) (fun _ h9 => h9) rfl dX2_become_2 ?_
  refine lv_iload_n hx hb dX2_become_5 rfl (lv_at hl 1 rfl) ?_
  refine us_iald (f := (G 3)) hx hb hK hP 4 0 rfl rfl hp1 (by decide) dX2_become_6 ?_
  refine va_callv (va_runV (As := [.int (G 3 p1)]) (rest := []) ⟨hx, hb, hml, hown, htb⟩ (kt_X2_spend l dC dI md cI s.heap.size th nu nm sk G v (G 3 p1)) (cwV 1 htb (us_gV mw_551 mw_553 mw_27 mw_34 mw_554) rfl rfl rfl (by decide +kernel) ⟨Nat.le_of_ble_eq_true rfl, Nat.le_of_ble_eq_true rfl⟩) ⟨um_P_blind, va_recv hK hP (ci := 2) (q0 := 0) rfl rfl, fun U hU hW => ⟨rfl, um_P_at hP hK hD hU hW⟩⟩ rfl rfl hl.1 rfl (lv_room (Nat.le_of_ble_eq_true rfl)) dX2_become_7 ⟨Nat.le_of_ble_eq_true rfl, Nat.le_of_ble_eq_true rfl⟩) hS (fun q _ h => us_AA_le hS q h) (us_AA_le hS) (fun _ t_3 H_1 locs ht hvm hw hB hz1 hk1 hS => ?_)
  have hP := um_B_use ht hB
  have hD : va_D (us_AA (um_ads md) s.heap.size) (um_W md cI th nu nm sk G (um_spend v (G 3 p1))) := us_D_of (by rw [um_W_adr, um_W_adr]) hD
  have hP : va_P (dC, dI) vwCl (um_W md cI th nu nm sk G (um_spend v (G 3 p1))) H_1 := hP
  refine lv_aload_n hx hb dX2_become_10 rfl (lv_at hl 0 rfl) ?_
  refine lv_aload_n hx hb dX2_become_11 rfl (lv_at hl 0 rfl) ?_
  refine va_get (D := (dC, dI)) (ci := 2) (v := .ref (md 5)) (C := RX2) (T := TX2) (N := 23) hx hb htb us_inX2 hown hK hP 0 rfl rfl 7 (by decide) (htb _ mw_430) (fun _ h9 => h9) rfl dX2_become_12 ?_
  refine lv_iload_n hx hb dX2_become_15 rfl (lv_at hl 1 rfl) ?_
  refine us_iald (f := (G 4)) hx hb hK hP 5 0 rfl rfl hp1 (by decide) dX2_become_16 ?_
  refine um_put hx hb htb us_inX2 hown hK hP hD hS 0 (by decide) (htb _ mw_433) dX2_become_17 (fun H_4 locs hP hD hS => ?_)
  have hP : va_P (dC, dI) vwCl (um_W md cI th nu nm sk G (upd (um_spend v (G 3 p1)) 0 (G 4 p1))) H_4 := hP
  have hD : va_D (us_AA (um_ads md) s.heap.size) (um_W md cI th nu nm sk G (upd (um_spend v (G 3 p1)) 0 (G 4 p1))) := hD
  refine lv_aload_n hx hb dX2_become_20 rfl (lv_at hl 0 rfl) ?_
  refine lv_aload_n hx hb dX2_become_21 rfl (lv_at hl 0 rfl) ?_
  refine va_get (D := (dC, dI)) (ci := 2) (v := .ref (md 4)) (C := RX2) (T := TX2) (N := 23) hx hb htb us_inX2 hown hK hP 0 rfl rfl 6 (by decide) (htb _ mw_429) (fun _ h9 => h9) rfl dX2_become_22 ?_
  refine lv_iload_n hx hb dX2_become_25 rfl (lv_at hl 1 rfl) ?_
  refine us_iald (f := (G 3)) hx hb hK hP 4 0 rfl rfl hp1 (by decide) dX2_become_26 ?_
  refine um_put hx hb htb us_inX2 hown hK hP hD hS 1 (by decide) (htb _ mw_434) dX2_become_27 (fun H_5 locs hP hD hS => ?_)
  have hP : va_P (dC, dI) vwCl (um_W md cI th nu nm sk G (upd (upd (um_spend v (G 3 p1)) 0 (G 4 p1)) 1 (G 3 p1))) H_5 := hP
  have hD : va_D (us_AA (um_ads md) s.heap.size) (um_W md cI th nu nm sk G (upd (upd (um_spend v (G 3 p1)) 0 (G 4 p1)) 1 (G 3 p1))) := hD
  refine lv_aload_n hx hb dX2_become_30 rfl (lv_at hl 0 rfl) ?_
  refine um_get (x := (G 4 p1)) hx hb htb us_inX2 hown hK hP 0 (by decide) (htb _ mw_433) rfl dX2_become_31 ?_
  refine lv_if_ne (tgt := 47) hx hb dX2_become_34 (by decide) (fun c_6 => ?_) (fun c_6 => ?_)
  · refine lv_aload_n hx hb dX2_become_47 rfl (lv_at hl 0 rfl) ?_
    refine um_get (x := (G 4 p1)) hx hb htb us_inX2 hown hK hP 0 (by decide) (htb _ mw_433) rfl dX2_become_48 ?_
    refine lv_iconst (v := 1) hx hb dX2_become_51 (by decide) ?_
    refine lv_icmp_ne (tgt := 65) hx hb dX2_become_52 (by decide) (fun c_7 => ?_) (fun c_7 => ?_)
    · refine lv_aload_n hx hb dX2_become_65 rfl (lv_at hl 0 rfl) ?_
      refine um_get (x := (G 4 p1)) hx hb htb us_inX2 hown hK hP 0 (by decide) (htb _ mw_433) rfl dX2_become_66 ?_
      refine lv_iconst (v := 3) hx hb dX2_become_69 (by decide) ?_
      refine lv_icmp_ne (tgt := 83) hx hb dX2_become_70 (by decide) (fun c_8 => ?_) (fun c_8 => ?_)
      · exact W.vret hx hb hr (fun t ht hW => ⟨⟨(), rfl, trivial, um_B_of ht hP rfl rfl rfl rfl rfl (by first | (simp only [um_become, um_be2, eq_false c_6, eq_false c_7, eq_false c_8, if_true, if_false]; done) | (simp [um_become, um_be2, c_6, c_7, c_8]; done))⟩, hS.F ht⟩) hS.2.2 dX2_become_83
      · refine lv_aload_n hx hb dX2_become_73 rfl (lv_at hl 0 rfl) ?_
        refine lv_iload_n hx hb dX2_become_74 rfl (lv_at hl 1 rfl) ?_
        refine um_put hx hb htb us_inX2 hown hK hP hD hS 11 (by decide) (htb _ mw_444) dX2_become_75 (fun H_9 locs hP hD hS => ?_)
        have hP : va_P (dC, dI) vwCl (um_W md cI th nu nm sk G (upd (upd (upd (um_spend v (G 3 p1)) 0 (G 4 p1)) 1 (G 3 p1)) 11 (nI p1))) H_9 := hP
        have hD : va_D (us_AA (um_ads md) s.heap.size) (um_W md cI th nu nm sk G (upd (upd (upd (um_spend v (G 3 p1)) 0 (G 4 p1)) 1 (G 3 p1)) 11 (nI p1))) := hD
        refine lv_aload_n hx hb dX2_become_78 rfl (lv_at hl 0 rfl) ?_
        refine lv_iconst (v := (-1)) hx hb dX2_become_79 (by decide) ?_
        refine um_put hx hb htb us_inX2 hown hK hP hD hS 10 (by decide) (htb _ mw_443) dX2_become_80 (fun H_10 locs hP hD hS => ?_)
        have hP : va_P (dC, dI) vwCl (um_W md cI th nu nm sk G (upd (upd (upd (upd (um_spend v (G 3 p1)) 0 (G 4 p1)) 1 (G 3 p1)) 11 (nI p1)) 10 (-1))) H_10 := hP
        have hD : va_D (us_AA (um_ads md) s.heap.size) (um_W md cI th nu nm sk G (upd (upd (upd (upd (um_spend v (G 3 p1)) 0 (G 4 p1)) 1 (G 3 p1)) 11 (nI p1)) 10 (-1))) := hD
        exact W.vret hx hb hr (fun t ht hW => ⟨⟨(), rfl, trivial, um_B_of ht hP rfl rfl rfl rfl rfl (by first | (simp only [um_become, um_be2, eq_false c_6, eq_false c_7, eq_true c_8, if_true, if_false]; done) | (simp [um_become, um_be2, c_6, c_7, c_8]; done))⟩, hS.F ht⟩) hS.2.2 dX2_become_83
    · refine lv_aload_n hx hb dX2_become_55 rfl (lv_at hl 0 rfl) ?_
      refine lv_aload_n hx hb dX2_become_56 rfl (lv_at hl 0 rfl) ?_
      refine va_get (D := (dC, dI)) (ci := 2) (v := .ref (md 6)) (C := RX2) (T := TX2) (N := 23) hx hb htb us_inX2 hown hK hP 0 rfl rfl 8 (by decide) (htb _ mw_431) (fun _ h9 => h9) rfl dX2_become_57 ?_
      refine lv_iload_n hx hb dX2_become_60 rfl (lv_at hl 1 rfl) ?_
      refine us_iald (f := (G 5)) hx hb hK hP 6 0 rfl rfl hp1 (by decide) dX2_become_61 ?_
      refine um_put hx hb htb us_inX2 hown hK hP hD hS 3 (by decide) (htb _ mw_436) dX2_become_62 (fun H_11 locs hP hD hS => ?_)
      have hP : va_P (dC, dI) vwCl (um_W md cI th nu nm sk G (upd (upd (upd (um_spend v (G 3 p1)) 0 (G 4 p1)) 1 (G 3 p1)) 3 (G 5 p1))) H_11 := hP
      have hD : va_D (us_AA (um_ads md) s.heap.size) (um_W md cI th nu nm sk G (upd (upd (upd (um_spend v (G 3 p1)) 0 (G 4 p1)) 1 (G 3 p1)) 3 (G 5 p1))) := hD
      refine lv_aload_n hx hb dX2_become_65 rfl (lv_at hl 0 rfl) ?_
      refine um_get (x := (G 4 p1)) hx hb htb us_inX2 hown hK hP 0 (by decide) (htb _ mw_433) rfl dX2_become_66 ?_
      refine lv_iconst (v := 3) hx hb dX2_become_69 (by decide) ?_
      refine lv_icmp_ne (tgt := 83) hx hb dX2_become_70 (by decide) (fun c_12 => ?_) (fun c_12 => ?_)
      · exact W.vret hx hb hr (fun t ht hW => ⟨⟨(), rfl, trivial, um_B_of ht hP rfl rfl rfl rfl rfl (by first | (simp only [um_become, um_be2, eq_false c_6, eq_true c_7, eq_false c_12, if_true, if_false]; done) | (simp [um_become, um_be2, c_6, c_7, c_12]; done))⟩, hS.F ht⟩) hS.2.2 dX2_become_83
      · exact absurd (c_7.symm.trans c_12) (by decide)
  · refine lv_aload_n hx hb dX2_become_37 rfl (lv_at hl 0 rfl) ?_
    refine lv_aload_n hx hb dX2_become_38 rfl (lv_at hl 0 rfl) ?_
    refine va_get (D := (dC, dI)) (ci := 2) (v := .ref (md 6)) (C := RX2) (T := TX2) (N := 23) hx hb htb us_inX2 hown hK hP 0 rfl rfl 8 (by decide) (htb _ mw_431) (fun _ h9 => h9) rfl dX2_become_39 ?_
    refine lv_iload_n hx hb dX2_become_42 rfl (lv_at hl 1 rfl) ?_
    refine us_iald (f := (G 5)) hx hb hK hP 6 0 rfl rfl hp1 (by decide) dX2_become_43 ?_
    refine um_put hx hb htb us_inX2 hown hK hP hD hS 2 (by decide) (htb _ mw_435) dX2_become_44 (fun H_13 locs hP hD hS => ?_)
    have hP : va_P (dC, dI) vwCl (um_W md cI th nu nm sk G (upd (upd (upd (um_spend v (G 3 p1)) 0 (G 4 p1)) 1 (G 3 p1)) 2 (G 5 p1))) H_13 := hP
    have hD : va_D (us_AA (um_ads md) s.heap.size) (um_W md cI th nu nm sk G (upd (upd (upd (um_spend v (G 3 p1)) 0 (G 4 p1)) 1 (G 3 p1)) 2 (G 5 p1))) := hD
    refine lv_aload_n hx hb dX2_become_47 rfl (lv_at hl 0 rfl) ?_
    refine um_get (x := (G 4 p1)) hx hb htb us_inX2 hown hK hP 0 (by decide) (htb _ mw_433) rfl dX2_become_48 ?_
    refine lv_iconst (v := 1) hx hb dX2_become_51 (by decide) ?_
    refine lv_icmp_ne (tgt := 65) hx hb dX2_become_52 (by decide) (fun c_14 => ?_) (fun c_14 => ?_)
    · refine lv_aload_n hx hb dX2_become_65 rfl (lv_at hl 0 rfl) ?_
      refine um_get (x := (G 4 p1)) hx hb htb us_inX2 hown hK hP 0 (by decide) (htb _ mw_433) rfl dX2_become_66 ?_
      refine lv_iconst (v := 3) hx hb dX2_become_69 (by decide) ?_
      refine lv_icmp_ne (tgt := 83) hx hb dX2_become_70 (by decide) (fun c_15 => ?_) (fun c_15 => ?_)
      · exact W.vret hx hb hr (fun t ht hW => ⟨⟨(), rfl, trivial, um_B_of ht hP rfl rfl rfl rfl rfl (by first | (simp only [um_become, um_be2, eq_true c_6, eq_false c_14, eq_false c_15, if_true, if_false]; done) | (simp [um_become, um_be2, c_6, c_14, c_15]; done))⟩, hS.F ht⟩) hS.2.2 dX2_become_83
      · exact absurd (c_6.symm.trans c_15) (by decide)
    · exact absurd (c_6.symm.trans c_14) (by decide)
set_option maxHeartbeats 8000000 in
set_option maxRecDepth 100000 in
theorem kt_X2_take (l : Launch) (dC : Nat → ClassId) (dI : Nat → Nat → Nat) (md : Nat → Nat) (cI : ClassId) (sz : Nat) (th : Int32) (nu nm : Nat) (sk : Int32) (G : Nat → Nat → Int32) (v : Nat → Int32) (p1 p2 : Nat) (hp1 : p1 < 30) (hp2 : p2 < 200) : Met l yX2_take wsX2_take ({ frames := 2, cells := 0, slots := 0, locals := 43 }) (va_Pc [.ref (md 0), .int (nI p1), .int (nI p2)] (um_P dC dI md cI th nu nm sk G v sz)) (va_Qv (fun _ : Unit => True) (fun _ t => um_B dC dI md cI th nu nm sk G (um_take G p1 p2 v) t) (us_AA (um_ads md) sz)) 0 0 (us_AA (um_ads md) sz) := by
  refine Met.ofW (cc := cX2_take) (maxL := 4) (ret := none) (by decide) rfl ?_
  intro p e s m args below meth c s₁ B hml hv
  obtain ⟨rfl, hsz, hP, hK, hD⟩ := hv
  have hx := B.exec
  have hb := B.bytes
  have hr := B.returns
  have htb := us_htb (atoms_spec (ws := wsX2_take) B.pre)
  have hown : s.vm.findClass RX2 = some m.cls := findClass_of_methodNamed B.named
  have hlocks := B.notSynchronized
  subst hsz
  have hA : ∀ q : Nat, s.heap.size ≤ q → (us_AA (um_ads md) s.heap.size) q := fun q h => Or.inr h
  have hS : va_S (us_AA (um_ads md) s.heap.size) s.heap s.heap [] := va_S.rf
  have hP : va_P (dC, dI) vwCl (um_W md cI th nu nm sk G v) s.heap := hP
  have hD : va_D (us_AA (um_ads md) s.heap.size) (um_W md cI th nu nm sk G v) := us_D_aa hD
  have hl := lv_entry ([.ref (md 0), .int (nI p1), .int (nI p2)]) (n := 4) (Nat.le_of_ble_eq_true rfl)
  rw [lg_entry_eq]
  generalize (lg_sl ([.ref (md 0), .int (nI p1), .int (nI p2)]) ++ List.replicate (4 - (lg_sl ([.ref (md 0), .int (nI p1), .int (nI p2)])).length) Slot.unset).toArray = ls at hl ⊢
  have hl : lv_has ls 4 [(0, .ref (md 0)), (1, .int (nI p1)), (2, .int (nI p2))] := hl
  refine lv_aload_n hx hb dX2_take_0 rfl (lv_at hl 0 rfl) ?_
  refine va_get (D := (dC, dI)) (ci := 2) (v := .ref (md 5)) (C := RX2) (T := TX2) (N := 23) hx hb htb us_inX2 hown hK hP 0 rfl rfl 7 (by decide) (htb _ mw_430) (fun _ h9 => h9) rfl dX2_take_1 ?_
  refine lv_iload_n hx hb dX2_take_4 rfl (lv_at hl 2 rfl) ?_
  refine us_iald (f := (G 4)) hx hb hK hP 5 0 rfl rfl hp2 (by decide) dX2_take_5 ?_
  refine lv_istore_n (lv' := [(3, .int (G 4 p2)), (0, .ref (md 0)), (1, .int (nI p1)), (2, .int (nI p2))]) hx hb dX2_take_6 rfl hl (by decide) rfl (fun ls hl => ?_)
  refine lv_aload_n hx hb dX2_take_7 rfl (lv_at hl 1 rfl) ?_
  refine lv_iconst (v := 0) hx hb dX2_take_8 (by decide) ?_
  refine um_put hx hb htb us_inX2 hown hK hP hD hS 12 (by decide) (htb _ mw_445) dX2_take_9 (fun H_1 locs hP hD hS => ?_)
  have hP : va_P (dC, dI) vwCl (um_W md cI th nu nm sk G (upd v 12 0)) H_1 := hP
  have hD : va_D (us_AA (um_ads md) s.heap.size) (um_W md cI th nu nm sk G (upd v 12 0)) := hD
  refine lv_iload_n hx hb dX2_take_12 rfl (lv_at hl 0 rfl) ?_
  refine lv_bipush (v := 11) hx hb dX2_take_13 (by decide) ?_
  refine lv_icmp_ge (tgt := 103) hx hb dX2_take_15 (by decide) (fun c_2 => ?_) (fun c_2 => ?_)
  · refine lv_iload_n hx hb dX2_take_103 rfl (lv_at hl 0 rfl) ?_
    refine lv_bipush (v := 11) hx hb dX2_take_104 (by decide) ?_
    refine lv_icmp_ne (tgt := 147) hx hb dX2_take_106 (by decide) (fun c_3 => ?_) (fun c_3 => ?_)
    · refine lv_iload_n hx hb dX2_take_147 rfl (lv_at hl 0 rfl) ?_
      refine lv_bipush (v := 12) hx hb dX2_take_148 (by decide) ?_
      refine lv_icmp_ne (tgt := 166) hx hb dX2_take_150 (by decide) (fun c_4 => ?_) (fun c_4 => ?_)
      · refine lv_iload_n hx hb dX2_take_166 rfl (lv_at hl 0 rfl) ?_
        refine lv_bipush (v := 13) hx hb dX2_take_167 (by decide) ?_
        refine lv_icmp_ne (tgt := 185) hx hb dX2_take_169 (by decide) (fun c_5 => ?_) (fun c_5 => ?_)
        · refine lv_iload_n hx hb dX2_take_185 rfl (lv_at hl 0 rfl) ?_
          refine lv_bipush (v := 14) hx hb dX2_take_186 (by decide) ?_
          refine lv_icmp_ne (tgt := 204) hx hb dX2_take_188 (by decide) (fun c_6 => ?_) (fun c_6 => ?_)
          · refine lv_aload_n hx hb dX2_take_204 rfl (lv_at hl 1 rfl) ?_
            refine lv_aload_n hx hb dX2_take_205 rfl (lv_at hl 1 rfl) ?_
            refine va_get (D := (dC, dI)) (ci := 2) (v := .ref (md 4)) (C := RX2) (T := TX2) (N := 23) hx hb htb us_inX2 hown hK hP 0 rfl rfl 6 (by decide) (htb _ mw_429) (fun _ h9 => h9) rfl dX2_take_206 ?_
            refine lv_iload_n hx hb dX2_take_209 rfl (lv_at hl 3 rfl) ?_
            refine us_iald (f := (G 3)) hx hb hK hP 4 0 rfl rfl hp2 (by decide) dX2_take_210 ?_
            refine lv_aload_n hx hb dX2_take_211 rfl (lv_at hl 1 rfl) ?_
            refine va_get (D := (dC, dI)) (ci := 2) (v := .ref (md 6)) (C := RX2) (T := TX2) (N := 23) hx hb htb us_inX2 hown hK hP 0 rfl rfl 8 (by decide) (htb _ mw_431) (fun _ h9 => h9) rfl dX2_take_212 ?_
            refine lv_iload_n hx hb dX2_take_215 rfl (lv_at hl 3 rfl) ?_
            refine us_iald (f := (G 5)) hx hb hK hP 6 0 rfl rfl hp2 (by decide) dX2_take_216 ?_
            refine lv_iadd hx hb dX2_take_217 ?_
            refine um_put hx hb htb us_inX2 hown hK hP hD hS 10 (by decide) (htb _ mw_443) dX2_take_218 (fun H_7 locs hP hD hS => ?_)
            have hP : va_P (dC, dI) vwCl (um_W md cI th nu nm sk G (upd (upd v 12 0) 10 ((G 3 p2) + (G 5 p2)))) H_7 := hP
            have hD : va_D (us_AA (um_ads md) s.heap.size) (um_W md cI th nu nm sk G (upd (upd v 12 0) 10 ((G 3 p2) + (G 5 p2)))) := hD
            exact W.vret hx hb hr (fun t ht hW => ⟨⟨(), rfl, trivial, um_B_of ht hP rfl rfl rfl rfl rfl (by first | (simp only [um_take, um_tst, eq_true c_2, eq_false c_3, eq_false c_4, eq_false c_5, eq_false c_6, if_true, if_false]; done) | (simp [um_take, um_tst, c_2, c_3, c_4, c_5, c_6]; done))⟩, hS.F ht⟩) hS.2.2 dX2_take_221
          · refine lv_aload_n hx hb dX2_take_191 rfl (lv_at hl 1 rfl) ?_
            refine lv_aload_n hx hb dX2_take_192 rfl (lv_at hl 1 rfl) ?_
            refine va_get (D := (dC, dI)) (ci := 2) (v := .ref (md 6)) (C := RX2) (T := TX2) (N := 23) hx hb htb us_inX2 hown hK hP 0 rfl rfl 8 (by decide) (htb _ mw_431) (fun _ h9 => h9) rfl dX2_take_193 ?_
            refine lv_iload_n hx hb dX2_take_196 rfl (lv_at hl 3 rfl) ?_
            refine us_iald (f := (G 5)) hx hb hK hP 6 0 rfl rfl hp2 (by decide) dX2_take_197 ?_
            refine um_put hx hb htb us_inX2 hown hK hP hD hS 6 (by decide) (htb _ mw_439) dX2_take_198 (fun H_8 locs hP hD hS => ?_)
            have hP : va_P (dC, dI) vwCl (um_W md cI th nu nm sk G (upd (upd v 12 0) 6 (G 5 p2))) H_8 := hP
            have hD : va_D (us_AA (um_ads md) s.heap.size) (um_W md cI th nu nm sk G (upd (upd v 12 0) 6 (G 5 p2))) := hD
            refine lv_goto (tgt := 221) hx hb dX2_take_201 (by decide) ?_
            exact W.vret hx hb hr (fun t ht hW => ⟨⟨(), rfl, trivial, um_B_of ht hP rfl rfl rfl rfl rfl (by first | (simp only [um_take, um_tst, eq_true c_2, eq_false c_3, eq_false c_4, eq_false c_5, eq_true c_6, if_true, if_false]; done) | (simp [um_take, um_tst, c_2, c_3, c_4, c_5, c_6]; done))⟩, hS.F ht⟩) hS.2.2 dX2_take_221
        · refine lv_aload_n hx hb dX2_take_172 rfl (lv_at hl 1 rfl) ?_
          refine lv_aload_n hx hb dX2_take_173 rfl (lv_at hl 1 rfl) ?_
          refine va_get (D := (dC, dI)) (ci := 2) (v := .ref (md 6)) (C := RX2) (T := TX2) (N := 23) hx hb htb us_inX2 hown hK hP 0 rfl rfl 8 (by decide) (htb _ mw_431) (fun _ h9 => h9) rfl dX2_take_174 ?_
          refine lv_iload_n hx hb dX2_take_177 rfl (lv_at hl 3 rfl) ?_
          refine us_iald (f := (G 5)) hx hb hK hP 6 0 rfl rfl hp2 (by decide) dX2_take_178 ?_
          refine um_put hx hb htb us_inX2 hown hK hP hD hS 5 (by decide) (htb _ mw_438) dX2_take_179 (fun H_9 locs hP hD hS => ?_)
          have hP : va_P (dC, dI) vwCl (um_W md cI th nu nm sk G (upd (upd v 12 0) 5 (G 5 p2))) H_9 := hP
          have hD : va_D (us_AA (um_ads md) s.heap.size) (um_W md cI th nu nm sk G (upd (upd v 12 0) 5 (G 5 p2))) := hD
          refine lv_goto (tgt := 221) hx hb dX2_take_182 (by decide) ?_
          exact W.vret hx hb hr (fun t ht hW => ⟨⟨(), rfl, trivial, um_B_of ht hP rfl rfl rfl rfl rfl (by first | (simp only [um_take, um_tst, eq_true c_2, eq_false c_3, eq_false c_4, eq_true c_5, if_true, if_false]; done) | (simp [um_take, um_tst, c_2, c_3, c_4, c_5]; done))⟩, hS.F ht⟩) hS.2.2 dX2_take_221
      · refine lv_aload_n hx hb dX2_take_153 rfl (lv_at hl 1 rfl) ?_
        refine lv_aload_n hx hb dX2_take_154 rfl (lv_at hl 1 rfl) ?_
        refine va_get (D := (dC, dI)) (ci := 2) (v := .ref (md 6)) (C := RX2) (T := TX2) (N := 23) hx hb htb us_inX2 hown hK hP 0 rfl rfl 8 (by decide) (htb _ mw_431) (fun _ h9 => h9) rfl dX2_take_155 ?_
        refine lv_iload_n hx hb dX2_take_158 rfl (lv_at hl 3 rfl) ?_
        refine us_iald (f := (G 5)) hx hb hK hP 6 0 rfl rfl hp2 (by decide) dX2_take_159 ?_
        refine um_put hx hb htb us_inX2 hown hK hP hD hS 4 (by decide) (htb _ mw_437) dX2_take_160 (fun H_10 locs hP hD hS => ?_)
        have hP : va_P (dC, dI) vwCl (um_W md cI th nu nm sk G (upd (upd v 12 0) 4 (G 5 p2))) H_10 := hP
        have hD : va_D (us_AA (um_ads md) s.heap.size) (um_W md cI th nu nm sk G (upd (upd v 12 0) 4 (G 5 p2))) := hD
        refine lv_goto (tgt := 221) hx hb dX2_take_163 (by decide) ?_
        exact W.vret hx hb hr (fun t ht hW => ⟨⟨(), rfl, trivial, um_B_of ht hP rfl rfl rfl rfl rfl (by first | (simp only [um_take, um_tst, eq_true c_2, eq_false c_3, eq_true c_4, if_true, if_false]; done) | (simp [um_take, um_tst, c_2, c_3, c_4]; done))⟩, hS.F ht⟩) hS.2.2 dX2_take_221
    · refine lv_aload_n hx hb dX2_take_109 rfl (lv_at hl 1 rfl) ?_
      refine um_get (x := (v 6)) hx hb htb us_inX2 hown hK hP 6 (by decide) (htb _ mw_439) rfl dX2_take_110 ?_
      refine lv_if_ne (tgt := 124) hx hb dX2_take_113 (by decide) (fun c_11 => ?_) (fun c_11 => ?_)
      · refine lv_aload_n hx hb dX2_take_124 rfl (lv_at hl 1 rfl) ?_
        refine lv_aload_n hx hb dX2_take_125 rfl (lv_at hl 1 rfl) ?_
        refine va_get (D := (dC, dI)) (ci := 2) (v := .ref (md 6)) (C := RX2) (T := TX2) (N := 23) hx hb htb us_inX2 hown hK hP 0 rfl rfl 8 (by decide) (htb _ mw_431) (fun _ h9 => h9) rfl dX2_take_126 ?_
        refine lv_iload_n hx hb dX2_take_129 rfl (lv_at hl 3 rfl) ?_
        refine us_iald (f := (G 5)) hx hb hK hP 6 0 rfl rfl hp2 (by decide) dX2_take_130 ?_
        refine um_put hx hb htb us_inX2 hown hK hP hD hS 8 (by decide) (htb _ mw_441) dX2_take_131 (fun H_12 locs hP hD hS => ?_)
        have hP : va_P (dC, dI) vwCl (um_W md cI th nu nm sk G (upd (upd v 12 0) 8 (G 5 p2))) H_12 := hP
        have hD : va_D (us_AA (um_ads md) s.heap.size) (um_W md cI th nu nm sk G (upd (upd v 12 0) 8 (G 5 p2))) := hD
        refine lv_aload_n hx hb dX2_take_134 rfl (lv_at hl 1 rfl) ?_
        refine lv_aload_n hx hb dX2_take_135 rfl (lv_at hl 1 rfl) ?_
        refine va_get (D := (dC, dI)) (ci := 2) (v := .ref (md 4)) (C := RX2) (T := TX2) (N := 23) hx hb htb us_inX2 hown hK hP 0 rfl rfl 6 (by decide) (htb _ mw_429) (fun _ h9 => h9) rfl dX2_take_136 ?_
        refine lv_iload_n hx hb dX2_take_139 rfl (lv_at hl 3 rfl) ?_
        refine us_iald (f := (G 3)) hx hb hK hP 4 0 rfl rfl hp2 (by decide) dX2_take_140 ?_
        refine um_put hx hb htb us_inX2 hown hK hP hD hS 9 (by decide) (htb _ mw_442) dX2_take_141 (fun H_13 locs hP hD hS => ?_)
        have hP : va_P (dC, dI) vwCl (um_W md cI th nu nm sk G (upd (upd (upd v 12 0) 8 (G 5 p2)) 9 (G 3 p2))) H_13 := hP
        have hD : va_D (us_AA (um_ads md) s.heap.size) (um_W md cI th nu nm sk G (upd (upd (upd v 12 0) 8 (G 5 p2)) 9 (G 3 p2))) := hD
        refine lv_goto (tgt := 221) hx hb dX2_take_144 (by decide) ?_
        exact W.vret hx hb hr (fun t ht hW => ⟨⟨(), rfl, trivial, um_B_of ht hP rfl rfl rfl rfl rfl (by first | (simp only [um_take, um_tst, eq_true c_2, eq_true c_3, eq_false c_11, if_true, if_false]; done) | (simp [um_take, um_tst, c_2, c_3, c_11]; done))⟩, hS.F ht⟩) hS.2.2 dX2_take_221
      · refine lv_aload_n hx hb dX2_take_116 rfl (lv_at hl 1 rfl) ?_
        refine lv_iconst (v := 4) hx hb dX2_take_117 (by decide) ?_
        refine um_put hx hb htb us_inX2 hown hK hP hD hS 12 (by decide) (htb _ mw_445) dX2_take_118 (fun H_14 locs hP hD hS => ?_)
        have hP : va_P (dC, dI) vwCl (um_W md cI th nu nm sk G (upd (upd v 12 0) 12 4)) H_14 := hP
        have hD : va_D (us_AA (um_ads md) s.heap.size) (um_W md cI th nu nm sk G (upd (upd v 12 0) 12 4)) := hD
        refine lv_goto (tgt := 221) hx hb dX2_take_121 (by decide) ?_
        exact W.vret hx hb hr (fun t ht hW => ⟨⟨(), rfl, trivial, um_B_of ht hP rfl rfl rfl rfl rfl (by first | (simp only [um_take, um_tst, eq_true c_2, eq_true c_3, eq_true c_11, if_true, if_false]; done) | (simp [um_take, um_tst, c_2, c_3, c_11]; done))⟩, hS.F ht⟩) hS.2.2 dX2_take_221
  · refine lv_aload_n hx hb dX2_take_18 rfl (lv_at hl 1 rfl) ?_
    refine um_get (x := (v 0)) hx hb htb us_inX2 hown hK hP 0 (by decide) (htb _ mw_433) rfl dX2_take_19 ?_
    refine lv_iload_n hx hb dX2_take_22 rfl (lv_at hl 0 rfl) ?_
    refine va_calli (va_runS (As := [.int (v 0), .int (G 4 p2)]) (rest := []) ⟨hx, hb, hml, hown, htb⟩ (kt_X2_follows l H_1.size (v 0) (G 4 p2)) (cwS 2 htb (us_gS mw_544 mw_545 mw_34 mw_546) rfl rfl rfl (by decide +kernel) ⟨Nat.le_of_ble_eq_true rfl, Nat.le_of_ble_eq_true rfl⟩) ⟨us_blind0, fun U hU _ => ⟨rfl, congrArg Array.size hU⟩⟩ rfl rfl hl.1 rfl (lv_room (Nat.le_of_ble_eq_true rfl)) dX2_take_23 ⟨Nat.le_of_ble_eq_true rfl, Nat.le_of_ble_eq_true rfl⟩) hS (fun q h1 h2 => absurd h2 (Nat.not_le.mpr h1)) (fun q h => hA q (Nat.le_trans hS.1 h)) (fun r_16 _ t_17 H_15 locs ht hvm hw hB hz1 hk1 hS => ?_)
    subst hw
    have hP := us_mono hP (fun q h => hk1 q h (Nat.not_le.mpr h))
    refine lv_if_ne (tgt := 37) hx hb dX2_take_26 (by decide) (fun c_18 => ?_) (fun c_18 => ?_)
    · refine lv_iload_n hx hb dX2_take_37 rfl (lv_at hl 0 rfl) ?_
      refine lv_iconst (v := 2) hx hb dX2_take_38 (by decide) ?_
      refine lv_iconst (v := 4) hx hb dX2_take_39 (by decide) ?_
      refine va_calli (va_runS (As := [.int (G 4 p2), .int 2, .int 4]) (rest := []) ⟨hx, hb, hml, hown, htb⟩ (kt_X2_in l H_15.size (G 4 p2) 2 4) (cwS 3 htb (us_gS mw_501 mw_502 mw_34 mw_503) rfl rfl rfl (by decide +kernel) ⟨Nat.le_of_ble_eq_true rfl, Nat.le_of_ble_eq_true rfl⟩) ⟨us_blind0, fun U hU _ => ⟨rfl, congrArg Array.size hU⟩⟩ rfl rfl hl.1 rfl (lv_room (Nat.le_of_ble_eq_true rfl)) dX2_take_40 ⟨Nat.le_of_ble_eq_true rfl, Nat.le_of_ble_eq_true rfl⟩) hS (fun q h1 h2 => absurd h2 (Nat.not_le.mpr h1)) (fun q h => hA q (Nat.le_trans hS.1 h)) (fun r_20 _ t_21 H_19 locs ht hvm hw hB hz1 hk1 hS => ?_)
      subst hw
      have hP := us_mono hP (fun q h => hk1 q h (Nat.not_le.mpr h))
      refine lv_if_eq (tgt := 67) hx hb dX2_take_43 (by decide) (fun c_22 => ?_) (fun c_22 => ?_)
      · refine lv_aload_n hx hb dX2_take_67 rfl (lv_at hl 1 rfl) ?_
        refine lv_iload_n hx hb dX2_take_68 rfl (lv_at hl 3 rfl) ?_
        refine va_callv (va_runV (As := [.int (nI p2)]) (rest := []) ⟨hx, hb, hml, hown, htb⟩ (kt_X2_become l dC dI md cI H_19.size th nu nm sk G (upd v 12 0) p2 hp2) (cwV 1 htb (us_gV mw_547 mw_549 mw_26 mw_34 mw_550) rfl rfl rfl (by decide +kernel) ⟨Nat.le_of_ble_eq_true rfl, Nat.le_of_ble_eq_true rfl⟩) ⟨um_P_blind, va_recv hK hP (ci := 2) (q0 := 0) rfl rfl, fun U hU hW => ⟨rfl, um_P_at hP hK hD hU hW⟩⟩ rfl rfl hl.1 rfl (lv_room (Nat.le_of_ble_eq_true rfl)) dX2_take_69 ⟨Nat.le_of_ble_eq_true rfl, Nat.le_of_ble_eq_true rfl⟩) hS (fun q _ h => us_AA_le hS q h) (us_AA_le hS) (fun _ t_25 H_23 locs ht hvm hw hB hz1 hk1 hS => ?_)
        have hP := um_B_use ht hB
        have hD : va_D (us_AA (um_ads md) s.heap.size) (um_W md cI th nu nm sk G (um_become G (upd v 12 0) p2)) := us_D_of (by rw [um_W_adr, um_W_adr]) hD
        have hP : va_P (dC, dI) vwCl (um_W md cI th nu nm sk G (um_become G (upd v 12 0) p2)) H_23 := hP
        refine lv_aload_n hx hb dX2_take_72 rfl (lv_at hl 1 rfl) ?_
        refine lv_iload_n hx hb dX2_take_73 rfl (lv_at hl 0 rfl) ?_
        refine lv_if_ne (tgt := 96) hx hb dX2_take_74 (by decide) (fun c_26 => ?_) (fun c_26 => ?_)
        · refine lv_iconst (v := 0) hx hb dX2_take_96 (by decide) ?_
          refine um_put hx hb htb us_inX2 hown hK hP hD hS 12 (by decide) (htb _ mw_445) dX2_take_97 (fun H_27 locs hP hD hS => ?_)
          have hP : va_P (dC, dI) vwCl (um_W md cI th nu nm sk G (upd (um_become G (upd v 12 0) p2) 12 0)) H_27 := hP
          have hD : va_D (us_AA (um_ads md) s.heap.size) (um_W md cI th nu nm sk G (upd (um_become G (upd v 12 0) p2) 12 0)) := hD
          refine lv_goto (tgt := 221) hx hb dX2_take_100 (by decide) ?_
          exact W.vret hx hb hr (fun t ht hW => ⟨⟨(), rfl, trivial, um_B_of ht hP rfl rfl rfl rfl rfl (by first | (simp only [um_take, um_tst, eq_false c_2, eq_false c_18, eq_true c_22, eq_false c_26, if_true, if_false]; done) | (simp [um_take, um_tst, c_2, c_18, c_22, c_26]; done))⟩, hS.F ht⟩) hS.2.2 dX2_take_221
        · refine lv_aload_n hx hb dX2_take_77 rfl (lv_at hl 1 rfl) ?_
          refine va_get (D := (dC, dI)) (ci := 2) (v := .ref (md 6)) (C := RX2) (T := TX2) (N := 23) hx hb htb us_inX2 hown hK hP 0 rfl rfl 8 (by decide) (htb _ mw_431) (fun _ h9 => h9) rfl dX2_take_78 ?_
          refine lv_iload_n hx hb dX2_take_81 rfl (lv_at hl 3 rfl) ?_
          refine us_iald (f := (G 5)) hx hb hK hP 6 0 rfl rfl hp2 (by decide) dX2_take_82 ?_
          refine lv_aload_n hx hb dX2_take_83 rfl (lv_at hl 1 rfl) ?_
          refine va_get (D := (dC, dI)) (ci := 2) (v := .ref (md 1)) (C := RX2) (T := TX2) (N := 23) hx hb htb us_inX2 hown hK hP 0 rfl rfl 2 (by decide) (htb _ mw_425) (fun _ h9 => h9) rfl dX2_take_84 ?_
          refine lv_iload_n hx hb dX2_take_87 rfl (lv_at hl 2 rfl) ?_
          refine us_iald (f := (G 0)) hx hb hK hP 1 0 rfl rfl hp1 (by decide) dX2_take_88 ?_
          refine lv_icmp_eq (tgt := 96) hx hb dX2_take_89 (by decide) (fun c_28 => ?_) (fun c_28 => ?_)
          · refine lv_iconst (v := 0) hx hb dX2_take_96 (by decide) ?_
            refine um_put hx hb htb us_inX2 hown hK hP hD hS 12 (by decide) (htb _ mw_445) dX2_take_97 (fun H_29 locs hP hD hS => ?_)
            have hP : va_P (dC, dI) vwCl (um_W md cI th nu nm sk G (upd (um_become G (upd v 12 0) p2) 12 0)) H_29 := hP
            have hD : va_D (us_AA (um_ads md) s.heap.size) (um_W md cI th nu nm sk G (upd (um_become G (upd v 12 0) p2) 12 0)) := hD
            refine lv_goto (tgt := 221) hx hb dX2_take_100 (by decide) ?_
            exact W.vret hx hb hr (fun t ht hW => ⟨⟨(), rfl, trivial, um_B_of ht hP rfl rfl rfl rfl rfl (by first | (simp only [um_take, um_tst, eq_false c_2, eq_false c_18, eq_true c_22, eq_true c_26, eq_true c_28, if_true, if_false]; done) | (simp [um_take, um_tst, c_2, c_18, c_22, c_26, c_28]; done))⟩, hS.F ht⟩) hS.2.2 dX2_take_221
          · refine lv_iconst (v := 3) hx hb dX2_take_92 (by decide) ?_
            refine lv_goto (tgt := 97) hx hb dX2_take_93 (by decide) ?_
            refine um_put hx hb htb us_inX2 hown hK hP hD hS 12 (by decide) (htb _ mw_445) dX2_take_97 (fun H_30 locs hP hD hS => ?_)
            have hP : va_P (dC, dI) vwCl (um_W md cI th nu nm sk G (upd (um_become G (upd v 12 0) p2) 12 3)) H_30 := hP
            have hD : va_D (us_AA (um_ads md) s.heap.size) (um_W md cI th nu nm sk G (upd (um_become G (upd v 12 0) p2) 12 3)) := hD
            refine lv_goto (tgt := 221) hx hb dX2_take_100 (by decide) ?_
            exact W.vret hx hb hr (fun t ht hW => ⟨⟨(), rfl, trivial, um_B_of ht hP rfl rfl rfl rfl rfl (by first | (simp only [um_take, um_tst, eq_false c_2, eq_false c_18, eq_true c_22, eq_true c_26, eq_false c_28, if_true, if_false]; done) | (simp [um_take, um_tst, c_2, c_18, c_22, c_26, c_28]; done))⟩, hS.F ht⟩) hS.2.2 dX2_take_221
      · refine lv_aload_n hx hb dX2_take_46 rfl (lv_at hl 1 rfl) ?_
        refine um_get (x := (v 4)) hx hb htb us_inX2 hown hK hP 4 (by decide) (htb _ mw_437) rfl dX2_take_47 ?_
        refine lv_aload_n hx hb dX2_take_50 rfl (lv_at hl 1 rfl) ?_
        refine va_get (D := (dC, dI)) (ci := 2) (v := .ref (md 2)) (C := RX2) (T := TX2) (N := 23) hx hb htb us_inX2 hown hK hP 0 rfl rfl 3 (by decide) (htb _ mw_426) (fun _ h9 => h9) rfl dX2_take_51 ?_
        refine lv_iload_n hx hb dX2_take_54 rfl (lv_at hl 2 rfl) ?_
        refine us_iald (f := (G 1)) hx hb hK hP 2 0 rfl rfl hp1 (by decide) dX2_take_55 ?_
        refine lv_icmp_ge (tgt := 67) hx hb dX2_take_56 (by decide) (fun c_31 => ?_) (fun c_31 => ?_)
        · refine lv_aload_n hx hb dX2_take_67 rfl (lv_at hl 1 rfl) ?_
          refine lv_iload_n hx hb dX2_take_68 rfl (lv_at hl 3 rfl) ?_
          refine va_callv (va_runV (As := [.int (nI p2)]) (rest := []) ⟨hx, hb, hml, hown, htb⟩ (kt_X2_become l dC dI md cI H_19.size th nu nm sk G (upd v 12 0) p2 hp2) (cwV 1 htb (us_gV mw_547 mw_549 mw_26 mw_34 mw_550) rfl rfl rfl (by decide +kernel) ⟨Nat.le_of_ble_eq_true rfl, Nat.le_of_ble_eq_true rfl⟩) ⟨um_P_blind, va_recv hK hP (ci := 2) (q0 := 0) rfl rfl, fun U hU hW => ⟨rfl, um_P_at hP hK hD hU hW⟩⟩ rfl rfl hl.1 rfl (lv_room (Nat.le_of_ble_eq_true rfl)) dX2_take_69 ⟨Nat.le_of_ble_eq_true rfl, Nat.le_of_ble_eq_true rfl⟩) hS (fun q _ h => us_AA_le hS q h) (us_AA_le hS) (fun _ t_34 H_32 locs ht hvm hw hB hz1 hk1 hS => ?_)
          have hP := um_B_use ht hB
          have hD : va_D (us_AA (um_ads md) s.heap.size) (um_W md cI th nu nm sk G (um_become G (upd v 12 0) p2)) := us_D_of (by rw [um_W_adr, um_W_adr]) hD
          have hP : va_P (dC, dI) vwCl (um_W md cI th nu nm sk G (um_become G (upd v 12 0) p2)) H_32 := hP
          refine lv_aload_n hx hb dX2_take_72 rfl (lv_at hl 1 rfl) ?_
          refine lv_iload_n hx hb dX2_take_73 rfl (lv_at hl 0 rfl) ?_
          refine lv_if_ne (tgt := 96) hx hb dX2_take_74 (by decide) (fun c_35 => ?_) (fun c_35 => ?_)
          · refine lv_iconst (v := 0) hx hb dX2_take_96 (by decide) ?_
            refine um_put hx hb htb us_inX2 hown hK hP hD hS 12 (by decide) (htb _ mw_445) dX2_take_97 (fun H_36 locs hP hD hS => ?_)
            have hP : va_P (dC, dI) vwCl (um_W md cI th nu nm sk G (upd (um_become G (upd v 12 0) p2) 12 0)) H_36 := hP
            have hD : va_D (us_AA (um_ads md) s.heap.size) (um_W md cI th nu nm sk G (upd (um_become G (upd v 12 0) p2) 12 0)) := hD
            refine lv_goto (tgt := 221) hx hb dX2_take_100 (by decide) ?_
            exact W.vret hx hb hr (fun t ht hW => ⟨⟨(), rfl, trivial, um_B_of ht hP rfl rfl rfl rfl rfl (by first | (simp only [um_take, um_tst, eq_false c_2, eq_false c_18, eq_false c_22, eq_true c_31, eq_false c_35, if_true, if_false]; done) | (simp [um_take, um_tst, c_2, c_18, c_22, c_31, c_35]; done))⟩, hS.F ht⟩) hS.2.2 dX2_take_221
          · refine lv_aload_n hx hb dX2_take_77 rfl (lv_at hl 1 rfl) ?_
            refine va_get (D := (dC, dI)) (ci := 2) (v := .ref (md 6)) (C := RX2) (T := TX2) (N := 23) hx hb htb us_inX2 hown hK hP 0 rfl rfl 8 (by decide) (htb _ mw_431) (fun _ h9 => h9) rfl dX2_take_78 ?_
            refine lv_iload_n hx hb dX2_take_81 rfl (lv_at hl 3 rfl) ?_
            refine us_iald (f := (G 5)) hx hb hK hP 6 0 rfl rfl hp2 (by decide) dX2_take_82 ?_
            refine lv_aload_n hx hb dX2_take_83 rfl (lv_at hl 1 rfl) ?_
            refine va_get (D := (dC, dI)) (ci := 2) (v := .ref (md 1)) (C := RX2) (T := TX2) (N := 23) hx hb htb us_inX2 hown hK hP 0 rfl rfl 2 (by decide) (htb _ mw_425) (fun _ h9 => h9) rfl dX2_take_84 ?_
            refine lv_iload_n hx hb dX2_take_87 rfl (lv_at hl 2 rfl) ?_
            refine us_iald (f := (G 0)) hx hb hK hP 1 0 rfl rfl hp1 (by decide) dX2_take_88 ?_
            refine lv_icmp_eq (tgt := 96) hx hb dX2_take_89 (by decide) (fun c_37 => ?_) (fun c_37 => ?_)
            · refine lv_iconst (v := 0) hx hb dX2_take_96 (by decide) ?_
              refine um_put hx hb htb us_inX2 hown hK hP hD hS 12 (by decide) (htb _ mw_445) dX2_take_97 (fun H_38 locs hP hD hS => ?_)
              have hP : va_P (dC, dI) vwCl (um_W md cI th nu nm sk G (upd (um_become G (upd v 12 0) p2) 12 0)) H_38 := hP
              have hD : va_D (us_AA (um_ads md) s.heap.size) (um_W md cI th nu nm sk G (upd (um_become G (upd v 12 0) p2) 12 0)) := hD
              refine lv_goto (tgt := 221) hx hb dX2_take_100 (by decide) ?_
              exact W.vret hx hb hr (fun t ht hW => ⟨⟨(), rfl, trivial, um_B_of ht hP rfl rfl rfl rfl rfl (by first | (simp only [um_take, um_tst, eq_false c_2, eq_false c_18, eq_false c_22, eq_true c_31, eq_true c_35, eq_true c_37, if_true, if_false]; done) | (simp [um_take, um_tst, c_2, c_18, c_22, c_31, c_35, c_37]; done))⟩, hS.F ht⟩) hS.2.2 dX2_take_221
            · refine lv_iconst (v := 3) hx hb dX2_take_92 (by decide) ?_
              refine lv_goto (tgt := 97) hx hb dX2_take_93 (by decide) ?_
              refine um_put hx hb htb us_inX2 hown hK hP hD hS 12 (by decide) (htb _ mw_445) dX2_take_97 (fun H_39 locs hP hD hS => ?_)
              have hP : va_P (dC, dI) vwCl (um_W md cI th nu nm sk G (upd (um_become G (upd v 12 0) p2) 12 3)) H_39 := hP
              have hD : va_D (us_AA (um_ads md) s.heap.size) (um_W md cI th nu nm sk G (upd (um_become G (upd v 12 0) p2) 12 3)) := hD
              refine lv_goto (tgt := 221) hx hb dX2_take_100 (by decide) ?_
              exact W.vret hx hb hr (fun t ht hW => ⟨⟨(), rfl, trivial, um_B_of ht hP rfl rfl rfl rfl rfl (by first | (simp only [um_take, um_tst, eq_false c_2, eq_false c_18, eq_false c_22, eq_true c_31, eq_true c_35, eq_false c_37, if_true, if_false]; done) | (simp [um_take, um_tst, c_2, c_18, c_22, c_31, c_35, c_37]; done))⟩, hS.F ht⟩) hS.2.2 dX2_take_221
        · refine lv_aload_n hx hb dX2_take_59 rfl (lv_at hl 1 rfl) ?_
          refine lv_iconst (v := 2) hx hb dX2_take_60 (by decide) ?_
          refine um_put hx hb htb us_inX2 hown hK hP hD hS 12 (by decide) (htb _ mw_445) dX2_take_61 (fun H_40 locs hP hD hS => ?_)
          have hP : va_P (dC, dI) vwCl (um_W md cI th nu nm sk G (upd (upd v 12 0) 12 2)) H_40 := hP
          have hD : va_D (us_AA (um_ads md) s.heap.size) (um_W md cI th nu nm sk G (upd (upd v 12 0) 12 2)) := hD
          refine lv_goto (tgt := 221) hx hb dX2_take_64 (by decide) ?_
          exact W.vret hx hb hr (fun t ht hW => ⟨⟨(), rfl, trivial, um_B_of ht hP rfl rfl rfl rfl rfl (by first | (simp only [um_take, um_tst, eq_false c_2, eq_false c_18, eq_false c_22, eq_false c_31, if_true, if_false]; done) | (simp [um_take, um_tst, c_2, c_18, c_22, c_31]; done))⟩, hS.F ht⟩) hS.2.2 dX2_take_221
    · refine lv_aload_n hx hb dX2_take_29 rfl (lv_at hl 1 rfl) ?_
      refine lv_iconst (v := 1) hx hb dX2_take_30 (by decide) ?_
      refine um_put hx hb htb us_inX2 hown hK hP hD hS 12 (by decide) (htb _ mw_445) dX2_take_31 (fun H_41 locs hP hD hS => ?_)
      have hP : va_P (dC, dI) vwCl (um_W md cI th nu nm sk G (upd (upd v 12 0) 12 1)) H_41 := hP
      have hD : va_D (us_AA (um_ads md) s.heap.size) (um_W md cI th nu nm sk G (upd (upd v 12 0) 12 1)) := hD
      refine lv_goto (tgt := 221) hx hb dX2_take_34 (by decide) ?_
      exact W.vret hx hb hr (fun t ht hW => ⟨⟨(), rfl, trivial, um_B_of ht hP rfl rfl rfl rfl rfl (by first | (simp only [um_take, um_tst, eq_false c_2, eq_true c_18, if_true, if_false]; done) | (simp [um_take, um_tst, c_2, c_18]; done))⟩, hS.F ht⟩) hS.2.2 dX2_take_221
set_option maxHeartbeats 8000000 in
set_option maxRecDepth 100000 in
theorem kt_X2_incidentNow (l : Launch) (dC : Nat → ClassId) (dI : Nat → Nat → Nat) (md : Nat → Nat) (cI : ClassId) (sz : Nat) (th : Int32) (nu nm : Nat) (sk : Int32) (G : Nat → Nat → Int32) (v : Nat → Int32) : Met l yX2_incidentNow wsX2_incidentNow ({ frames := 1, cells := 0, slots := 0, locals := 22 }) (va_Pc [.ref (md 0)] (um_P dC dI md cI th nu nm sk G v sz)) (va_Qi (fun r (_ : Unit) => r = um_inc v) (fun _ _ => True) (us_new sz)) 0 0 (us_new sz) := by
  refine Met.ofW (cc := cX2_incidentNow) (maxL := 1) (ret := (some .int)) (by decide) rfl ?_
  intro p e s m args below meth c s₁ B hml hv
  obtain ⟨rfl, hsz, hP, hK, hD⟩ := hv
  have hx := B.exec
  have hb := B.bytes
  have hr := B.returns
  have htb := us_htb (atoms_spec (ws := wsX2_incidentNow) B.pre)
  have hown : s.vm.findClass RX2 = some m.cls := findClass_of_methodNamed B.named
  have hlocks := B.notSynchronized
  subst hsz
  have hA : ∀ q : Nat, s.heap.size ≤ q → (us_new s.heap.size) q := fun q h => h
  have hS : va_S (us_new s.heap.size) s.heap s.heap [] := va_S.rf
  have hP : va_P (dC, dI) vwCl (um_W md cI th nu nm sk G v) s.heap := hP
  have hl := lv_entry ([.ref (md 0)]) (n := 1) (Nat.le_of_ble_eq_true rfl)
  rw [lg_entry_eq]
  generalize (lg_sl ([.ref (md 0)]) ++ List.replicate (1 - (lg_sl ([.ref (md 0)])).length) Slot.unset).toArray = ls at hl ⊢
  have hl : lv_has ls 1 [(0, .ref (md 0))] := hl
  refine lv_aload_n hx hb dX2_incidentNow_0 rfl (lv_at hl 0 rfl) ?_
  refine um_get (x := (v 0)) hx hb htb us_inX2 hown hK hP 0 (by decide) (htb _ mw_433) rfl dX2_incidentNow_1 ?_
  refine lv_iconst (v := 1) hx hb dX2_incidentNow_4 (by decide) ?_
  refine lv_iconst (v := 5) hx hb dX2_incidentNow_5 (by decide) ?_
  refine va_calli (va_runS (As := [.int (v 0), .int 1, .int 5]) (rest := []) ⟨hx, hb, hml, hown, htb⟩ (kt_X2_in l s.heap.size (v 0) 1 5) (cwS 3 htb (us_gS mw_501 mw_502 mw_34 mw_503) rfl rfl rfl (by decide +kernel) ⟨Nat.le_of_ble_eq_true rfl, Nat.le_of_ble_eq_true rfl⟩) ⟨us_blind0, fun U hU _ => ⟨rfl, congrArg Array.size hU⟩⟩ rfl rfl hl.1 rfl (lv_room (Nat.le_of_ble_eq_true rfl)) dX2_incidentNow_6 ⟨Nat.le_of_ble_eq_true rfl, Nat.le_of_ble_eq_true rfl⟩) hS (fun q h1 h2 => absurd h2 (Nat.not_le.mpr h1)) (fun q h => hA q (Nat.le_trans hS.1 h)) (fun r_2 _ t_3 H_1 locs ht hvm hw hB hz1 hk1 hS => ?_)
  subst hw
  have hP := us_mono hP (fun q h => hk1 q h (Nat.not_le.mpr h))
  refine lv_if_eq (tgt := 19) hx hb dX2_incidentNow_9 (by decide) (fun c_4 => ?_) (fun c_4 => ?_)
  · refine lv_iconst (v := (-1)) hx hb dX2_incidentNow_19 (by decide) ?_
    have hsp : (-1) = um_inc v := by first | (simp only [um_inc, eq_true c_4, if_true, if_false]; done) | (simp [um_inc, c_4]; done)
    exact W.iret (v := (-1)) hx hb hr (fun t ht hW => ⟨⟨(-1), (), rfl, hsp, trivial⟩, hS.F ht⟩) hS.2.2 dX2_incidentNow_20
  · refine lv_aload_n hx hb dX2_incidentNow_12 rfl (lv_at hl 0 rfl) ?_
    refine um_get (x := (v 3)) hx hb htb us_inX2 hown hK hP 3 (by decide) (htb _ mw_436) rfl dX2_incidentNow_13 ?_
    refine lv_goto (tgt := 20) hx hb dX2_incidentNow_16 (by decide) ?_
    have hsp : (v 3) = um_inc v := by first | (simp only [um_inc, eq_false c_4, if_true, if_false]; done) | (simp [um_inc, c_4]; done)
    exact W.iret (v := (v 3)) hx hb hr (fun t ht hW => ⟨⟨(v 3), (), rfl, hsp, trivial⟩, hS.F ht⟩) hS.2.2 dX2_incidentNow_20
set_option maxHeartbeats 8000000 in
set_option maxRecDepth 100000 in
theorem kt_X2_unit (l : Launch) (dC : Nat → ClassId) (dI : Nat → Nat → Nat) (md : Nat → Nat) (cI : ClassId) (sz : Nat) (th : Int32) (nu nm : Nat) (sk : Int32) (G : Nat → Nat → Int32) (v : Nat → Int32) (p1 : Int32) (p2 : Int32) (hnu : nu ≤ 30) : Met l yX2_unit wsX2_unit ({ frames := 1, cells := 0, slots := 0, locals := 23 }) (va_Pc [.ref (md 0), .int p1, .int p2] (um_P dC dI md cI th nu nm sk G v sz)) (va_Qi (fun r (_ : Unit) => um_unitK p1 p2 nu = 0 → r = nI nu) (fun _ t => um_B dC dI md cI (um_unitK p1 p2 nu) (if um_unitK p1 p2 nu = 0 then nu + 1 else nu) nm sk (if um_unitK p1 p2 nu = 0 then um_unitG nu G p1 p2 else G) v t) (us_AA (um_ads md) sz)) 0 0 (us_AA (um_ads md) sz) := by
  refine Met.ofW (cc := cX2_unit) (maxL := 3) (ret := (some .int)) (by decide) rfl ?_
  intro p e s m args below meth c s₁ B hml hv
  obtain ⟨rfl, hsz, hP, hK, hD⟩ := hv
  have hx := B.exec
  have hb := B.bytes
  have hr := B.returns
  have htb := us_htb (atoms_spec (ws := wsX2_unit) B.pre)
  have hown : s.vm.findClass RX2 = some m.cls := findClass_of_methodNamed B.named
  have hlocks := B.notSynchronized
  subst hsz
  have hA : ∀ q : Nat, s.heap.size ≤ q → (us_AA (um_ads md) s.heap.size) q := fun q h => Or.inr h
  have hS : va_S (us_AA (um_ads md) s.heap.size) s.heap s.heap [] := va_S.rf
  have hP : va_P (dC, dI) vwCl (um_W md cI th nu nm sk G v) s.heap := hP
  have hD : va_D (us_AA (um_ads md) s.heap.size) (um_W md cI th nu nm sk G v) := us_D_aa hD
  have hl := lv_entry ([.ref (md 0), .int p1, .int p2]) (n := 3) (Nat.le_of_ble_eq_true rfl)
  rw [lg_entry_eq]
  generalize (lg_sl ([.ref (md 0), .int p1, .int p2]) ++ List.replicate (3 - (lg_sl ([.ref (md 0), .int p1, .int p2])).length) Slot.unset).toArray = ls at hl ⊢
  have hl : lv_has ls 3 [(0, .ref (md 0)), (1, .int p1), (2, .int p2)] := hl
  refine lv_aload_n hx hb dX2_unit_0 rfl (lv_at hl 0 rfl) ?_
  refine lv_iload_n hx hb dX2_unit_1 rfl (lv_at hl 1 rfl) ?_
  refine lv_iconst (v := 0) hx hb dX2_unit_2 (by decide) ?_
  refine lv_bipush (v := 9) hx hb dX2_unit_3 (by decide) ?_
  refine va_calli (va_runS (As := [.int p1, .int 0, .int 9]) (rest := [.ref (md 0)]) ⟨hx, hb, hml, hown, htb⟩ (kt_X2_in l s.heap.size p1 0 9) (cwS 3 htb (us_gS mw_501 mw_502 mw_34 mw_503) rfl rfl rfl (by decide +kernel) ⟨Nat.le_of_ble_eq_true rfl, Nat.le_of_ble_eq_true rfl⟩) ⟨us_blind0, fun U hU _ => ⟨rfl, congrArg Array.size hU⟩⟩ rfl rfl hl.1 rfl (lv_room (Nat.le_of_ble_eq_true rfl)) dX2_unit_5 ⟨Nat.le_of_ble_eq_true rfl, Nat.le_of_ble_eq_true rfl⟩) hS (fun q h1 h2 => absurd h2 (Nat.not_le.mpr h1)) (fun q h => hA q (Nat.le_trans hS.1 h)) (fun r_2 _ t_3 H_1 locs ht hvm hw hB hz1 hk1 hS => ?_)
  subst hw
  have hP := us_mono hP (fun q h => hk1 q h (Nat.not_le.mpr h))
  refine lv_if_eq (tgt := 21) hx hb dX2_unit_8 (by decide) (fun c_4 => ?_) (fun c_4 => ?_)
  · refine lv_iconst (v := 1) hx hb dX2_unit_21 (by decide) ?_
    refine lv_goto (tgt := 26) hx hb dX2_unit_22 (by decide) ?_
    refine lv_aload_n hx hb dX2_unit_26 rfl (lv_at hl 0 rfl) ?_
    refine va_get (D := (dC, dI)) (ci := 2) (v := .int (nI nu)) (C := RX2) (T := TX2) (N := 23) hx hb htb us_inX2 hown hK hP 0 rfl rfl 1 (by decide) (htb _ mw_424) (fun _ h9 => h9) rfl dX2_unit_27 ?_
    refine lv_bipush (v := 30) hx hb dX2_unit_30 (by decide) ?_
    refine lv_icmp_ne (tgt := 39) hx hb dX2_unit_32 (by decide) (fun c_5 => ?_) (fun c_5 => ?_)
    · refine lv_iconst (v := 0) hx hb dX2_unit_39 (by decide) ?_
      refine lv_iconst (v := 0) hx hb dX2_unit_40 (by decide) ?_
      refine va_calli (va_runV (As := [.int 1, .int 0, .int 0]) (rest := []) ⟨hx, hb, hml, hown, htb⟩ (kt_X2_throwing l dC dI md cI H_1.size th nu nm sk G v 1 0 0) (cwV 3 htb (us_gV mw_504 mw_506 mw_20 mw_34 mw_507) rfl rfl rfl (by decide +kernel) ⟨Nat.le_of_ble_eq_true rfl, Nat.le_of_ble_eq_true rfl⟩) ⟨um_P_blind, va_recv hK hP (ci := 2) (q0 := 0) rfl rfl, fun U hU hW => ⟨rfl, um_P_at hP hK hD hU hW⟩⟩ rfl rfl hl.1 rfl (lv_room (Nat.le_of_ble_eq_true rfl)) dX2_unit_41 ⟨Nat.le_of_ble_eq_true rfl, Nat.le_of_ble_eq_true rfl⟩) hS (fun q _ h => us_AA_le hS q h) (us_AA_le hS) (fun r_7 _ t_8 H_6 locs ht hvm hw hB hz1 hk1 hS => ?_)
      subst hw
      have hP := um_B_use ht hB
      have hD : va_D (us_AA (um_ads md) s.heap.size) (um_W md cI (um_th 1 0 0) nu nm sk G v) := us_D_of (by rw [um_W_adr, um_W_adr]) hD
      have hP : va_P (dC, dI) vwCl (um_W md cI (um_th 1 0 0) nu nm sk G v) H_6 := hP
      refine lv_if_eq (tgt := 49) hx hb dX2_unit_44 (by decide) (fun c_9 => ?_) (fun c_9 => ?_)
      · exact absurd c_9 (by decide)
      · refine lv_iconst (v := 0) hx hb dX2_unit_47 (by decide) ?_
        have hkv : um_unitK p1 p2 nu = 1 := by first | (simp only [um_unitK, eq_true c_4, eq_false c_5, eq_false c_9, if_true, if_false]; done) | (simp [um_unitK, c_4, c_5, c_9]; done)
        have hsp : um_unitK p1 p2 nu = 0 → 0 = nI nu := by exact fun h9 => absurd (hkv.symm.trans h9) (by decide)
        exact W.iret (v := 0) hx hb hr (fun t ht hW => ⟨⟨0, (), rfl, hsp, um_B_of ht hP (by rw [hkv]; decide) (by rw [hkv, if_neg (by decide)]) rfl rfl (by rw [hkv, if_neg (by decide)]) rfl⟩, hS.F ht⟩) hS.2.2 dX2_unit_48
    · refine lv_iconst (v := 1) hx hb dX2_unit_35 (by decide) ?_
      refine lv_goto (tgt := 40) hx hb dX2_unit_36 (by decide) ?_
      refine lv_iconst (v := 0) hx hb dX2_unit_40 (by decide) ?_
      refine va_calli (va_runV (As := [.int 1, .int 1, .int 0]) (rest := []) ⟨hx, hb, hml, hown, htb⟩ (kt_X2_throwing l dC dI md cI H_1.size th nu nm sk G v 1 1 0) (cwV 3 htb (us_gV mw_504 mw_506 mw_20 mw_34 mw_507) rfl rfl rfl (by decide +kernel) ⟨Nat.le_of_ble_eq_true rfl, Nat.le_of_ble_eq_true rfl⟩) ⟨um_P_blind, va_recv hK hP (ci := 2) (q0 := 0) rfl rfl, fun U hU hW => ⟨rfl, um_P_at hP hK hD hU hW⟩⟩ rfl rfl hl.1 rfl (lv_room (Nat.le_of_ble_eq_true rfl)) dX2_unit_41 ⟨Nat.le_of_ble_eq_true rfl, Nat.le_of_ble_eq_true rfl⟩) hS (fun q _ h => us_AA_le hS q h) (us_AA_le hS) (fun r_11 _ t_12 H_10 locs ht hvm hw hB hz1 hk1 hS => ?_)
      subst hw
      have hP := um_B_use ht hB
      have hD : va_D (us_AA (um_ads md) s.heap.size) (um_W md cI (um_th 1 1 0) nu nm sk G v) := us_D_of (by rw [um_W_adr, um_W_adr]) hD
      have hP : va_P (dC, dI) vwCl (um_W md cI (um_th 1 1 0) nu nm sk G v) H_10 := hP
      refine lv_if_eq (tgt := 49) hx hb dX2_unit_44 (by decide) (fun c_13 => ?_) (fun c_13 => ?_)
      · exact absurd c_13 (by decide)
      · refine lv_iconst (v := 0) hx hb dX2_unit_47 (by decide) ?_
        have hkv : um_unitK p1 p2 nu = 1 := by first | (simp only [um_unitK, eq_true c_4, eq_true c_5, eq_false c_13, if_true, if_false]; done) | (simp [um_unitK, c_4, c_5, c_13]; done)
        have hsp : um_unitK p1 p2 nu = 0 → 0 = nI nu := by exact fun h9 => absurd (hkv.symm.trans h9) (by decide)
        exact W.iret (v := 0) hx hb hr (fun t ht hW => ⟨⟨0, (), rfl, hsp, um_B_of ht hP (by rw [hkv]; decide) (by rw [hkv, if_neg (by decide)]) rfl rfl (by rw [hkv, if_neg (by decide)]) rfl⟩, hS.F ht⟩) hS.2.2 dX2_unit_48
  · refine lv_iload_n hx hb dX2_unit_11 rfl (lv_at hl 2 rfl) ?_
    refine lv_iconst (v := 0) hx hb dX2_unit_12 (by decide) ?_
    refine lv_bipush (v := 9) hx hb dX2_unit_13 (by decide) ?_
    refine va_calli (va_runS (As := [.int p2, .int 0, .int 9]) (rest := [.ref (md 0)]) ⟨hx, hb, hml, hown, htb⟩ (kt_X2_in l H_1.size p2 0 9) (cwS 3 htb (us_gS mw_501 mw_502 mw_34 mw_503) rfl rfl rfl (by decide +kernel) ⟨Nat.le_of_ble_eq_true rfl, Nat.le_of_ble_eq_true rfl⟩) ⟨us_blind0, fun U hU _ => ⟨rfl, congrArg Array.size hU⟩⟩ rfl rfl hl.1 rfl (lv_room (Nat.le_of_ble_eq_true rfl)) dX2_unit_15 ⟨Nat.le_of_ble_eq_true rfl, Nat.le_of_ble_eq_true rfl⟩) hS (fun q h1 h2 => absurd h2 (Nat.not_le.mpr h1)) (fun q h => hA q (Nat.le_trans hS.1 h)) (fun r_15 _ t_16 H_14 locs ht hvm hw hB hz1 hk1 hS => ?_)
    subst hw
    have hP := us_mono hP (fun q h => hk1 q h (Nat.not_le.mpr h))
    refine lv_if_ne (tgt := 25) hx hb dX2_unit_18 (by decide) (fun c_17 => ?_) (fun c_17 => ?_)
    · refine lv_iconst (v := 0) hx hb dX2_unit_25 (by decide) ?_
      refine lv_aload_n hx hb dX2_unit_26 rfl (lv_at hl 0 rfl) ?_
      refine va_get (D := (dC, dI)) (ci := 2) (v := .int (nI nu)) (C := RX2) (T := TX2) (N := 23) hx hb htb us_inX2 hown hK hP 0 rfl rfl 1 (by decide) (htb _ mw_424) (fun _ h9 => h9) rfl dX2_unit_27 ?_
      refine lv_bipush (v := 30) hx hb dX2_unit_30 (by decide) ?_
      refine lv_icmp_ne (tgt := 39) hx hb dX2_unit_32 (by decide) (fun c_18 => ?_) (fun c_18 => ?_)
      · refine lv_iconst (v := 0) hx hb dX2_unit_39 (by decide) ?_
        refine lv_iconst (v := 0) hx hb dX2_unit_40 (by decide) ?_
        refine va_calli (va_runV (As := [.int 0, .int 0, .int 0]) (rest := []) ⟨hx, hb, hml, hown, htb⟩ (kt_X2_throwing l dC dI md cI H_14.size th nu nm sk G v 0 0 0) (cwV 3 htb (us_gV mw_504 mw_506 mw_20 mw_34 mw_507) rfl rfl rfl (by decide +kernel) ⟨Nat.le_of_ble_eq_true rfl, Nat.le_of_ble_eq_true rfl⟩) ⟨um_P_blind, va_recv hK hP (ci := 2) (q0 := 0) rfl rfl, fun U hU hW => ⟨rfl, um_P_at hP hK hD hU hW⟩⟩ rfl rfl hl.1 rfl (lv_room (Nat.le_of_ble_eq_true rfl)) dX2_unit_41 ⟨Nat.le_of_ble_eq_true rfl, Nat.le_of_ble_eq_true rfl⟩) hS (fun q _ h => us_AA_le hS q h) (us_AA_le hS) (fun r_20 _ t_21 H_19 locs ht hvm hw hB hz1 hk1 hS => ?_)
        subst hw
        have hP := um_B_use ht hB
        have hD : va_D (us_AA (um_ads md) s.heap.size) (um_W md cI (um_th 0 0 0) nu nm sk G v) := us_D_of (by rw [um_W_adr, um_W_adr]) hD
        have hP : va_P (dC, dI) vwCl (um_W md cI (um_th 0 0 0) nu nm sk G v) H_19 := hP
        refine lv_if_eq (tgt := 49) hx hb dX2_unit_44 (by decide) (fun c_22 => ?_) (fun c_22 => ?_)
        · have hn3 : nu < 30 := by
            rcases Nat.lt_or_ge nu 30 with h | h
            · exact h
            · exact absurd (by rw [show nu = 30 by omega]; rfl) c_18
          refine lv_aload_n hx hb dX2_unit_49 rfl (lv_at hl 0 rfl) ?_
          refine va_get (D := (dC, dI)) (ci := 2) (v := .ref (md 1)) (C := RX2) (T := TX2) (N := 23) hx hb htb us_inX2 hown hK hP 0 rfl rfl 2 (by decide) (htb _ mw_425) (fun _ h9 => h9) rfl dX2_unit_50 ?_
          refine lv_aload_n hx hb dX2_unit_53 rfl (lv_at hl 0 rfl) ?_
          refine va_get (D := (dC, dI)) (ci := 2) (v := .int (nI nu)) (C := RX2) (T := TX2) (N := 23) hx hb htb us_inX2 hown hK hP 0 rfl rfl 1 (by decide) (htb _ mw_424) (fun _ h9 => h9) rfl dX2_unit_54 ?_
          refine lv_iload_n hx hb dX2_unit_57 rfl (lv_at hl 1 rfl) ?_
          refine us_iast (f := (G 0)) hx hb hK hP hD hS 1 0 rfl rfl hn3 (by decide) dX2_unit_58 (fun H_23 locs hP hD hS => ?_)
          have hP : va_P (dC, dI) vwCl (um_W md cI (um_th 0 0 0) nu nm sk (va_up G 0 (upd (G 0) nu p1)) v) H_23 := hP
          have hD : va_D (us_AA (um_ads md) s.heap.size) (um_W md cI (um_th 0 0 0) nu nm sk (va_up G 0 (upd (G 0) nu p1)) v) := hD
          refine lv_aload_n hx hb dX2_unit_59 rfl (lv_at hl 0 rfl) ?_
          refine va_get (D := (dC, dI)) (ci := 2) (v := .ref (md 2)) (C := RX2) (T := TX2) (N := 23) hx hb htb us_inX2 hown hK hP 0 rfl rfl 3 (by decide) (htb _ mw_426) (fun _ h9 => h9) rfl dX2_unit_60 ?_
          refine lv_aload_n hx hb dX2_unit_63 rfl (lv_at hl 0 rfl) ?_
          refine va_get (D := (dC, dI)) (ci := 2) (v := .int (nI nu)) (C := RX2) (T := TX2) (N := 23) hx hb htb us_inX2 hown hK hP 0 rfl rfl 1 (by decide) (htb _ mw_424) (fun _ h9 => h9) rfl dX2_unit_64 ?_
          refine lv_iload_n hx hb dX2_unit_67 rfl (lv_at hl 2 rfl) ?_
          refine us_iast (f := (G 1)) hx hb hK hP hD hS 2 0 rfl rfl hn3 (by decide) dX2_unit_68 (fun H_24 locs hP hD hS => ?_)
          have hP : va_P (dC, dI) vwCl (um_W md cI (um_th 0 0 0) nu nm sk (va_up (va_up G 0 (upd (G 0) nu p1)) 1 (upd (G 1) nu p2)) v) H_24 := hP
          have hD : va_D (us_AA (um_ads md) s.heap.size) (um_W md cI (um_th 0 0 0) nu nm sk (va_up (va_up G 0 (upd (G 0) nu p1)) 1 (upd (G 1) nu p2)) v) := hD
          refine lv_aload_n hx hb dX2_unit_69 rfl (lv_at hl 0 rfl) ?_
          refine lv_dup hx hb dX2_unit_70 rfl ?_
          refine va_get (D := (dC, dI)) (ci := 2) (v := .int (nI nu)) (C := RX2) (T := TX2) (N := 23) hx hb htb us_inX2 hown hK hP 0 rfl rfl 1 (by decide) (htb _ mw_424) (fun _ h9 => h9) rfl dX2_unit_71 ?_
          refine lv_iconst (v := 1) hx hb dX2_unit_74 (by decide) ?_
          refine lv_iadd hx hb dX2_unit_75 ?_
          rw [nI_1]
          refine va_put (D := (dC, dI)) (ci := 2) (v := .int (nI (nu + 1))) (ty := .int) (C := RX2) (T := TX2) (N := 23) hx hb htb us_inX2 tyX2 tyX2_ok nmX2 hown hK hP hD hS 0 rfl rfl 1 (by decide) (htb _ mw_424) (fun _ h9 => h9) rfl (by decide +kernel) rfl rfl (Nat.le_of_ble_eq_true rfl) dX2_unit_76 (fun H_25 locs hP hD hS => ?_)
          have hP : va_P (dC, dI) vwCl (um_W md cI (um_th 0 0 0) (nu + 1) nm sk (va_up (va_up G 0 (upd (G 0) nu p1)) 1 (upd (G 1) nu p2)) v) H_25 := hP
          have hD : va_D (us_AA (um_ads md) s.heap.size) (um_W md cI (um_th 0 0 0) (nu + 1) nm sk (va_up (va_up G 0 (upd (G 0) nu p1)) 1 (upd (G 1) nu p2)) v) := hD
          refine lv_aload_n hx hb dX2_unit_79 rfl (lv_at hl 0 rfl) ?_
          refine va_get (D := (dC, dI)) (ci := 2) (v := .int (nI (nu + 1))) (C := RX2) (T := TX2) (N := 23) hx hb htb us_inX2 hown hK hP 0 rfl rfl 1 (by decide) (htb _ mw_424) (fun _ h9 => h9) rfl dX2_unit_80 ?_
          refine lv_iconst (v := 1) hx hb dX2_unit_83 (by decide) ?_
          refine lv_isub hx hb dX2_unit_84 ?_
          rw [nI_pred]
          have hkv : um_unitK p1 p2 nu = 0 := by first | (simp only [um_unitK, eq_false c_4, eq_false c_17, eq_false c_18, eq_true c_22, if_true, if_false]; done) | (simp [um_unitK, c_4, c_17, c_18, c_22]; done)
          have hsp : um_unitK p1 p2 nu = 0 → (nI nu) = nI nu := by intro _; rfl
          exact W.iret (v := (nI nu)) hx hb hr (fun t ht hW => ⟨⟨(nI nu), (), rfl, hsp, um_B_of ht hP (by rw [hkv]; decide) (by rw [hkv, if_pos rfl]) rfl rfl (by rw [hkv, if_pos rfl]; rfl) rfl⟩, hS.F ht⟩) hS.2.2 dX2_unit_85
        · exact absurd (by decide) c_22
      · refine lv_iconst (v := 1) hx hb dX2_unit_35 (by decide) ?_
        refine lv_goto (tgt := 40) hx hb dX2_unit_36 (by decide) ?_
        refine lv_iconst (v := 0) hx hb dX2_unit_40 (by decide) ?_
        refine va_calli (va_runV (As := [.int 0, .int 1, .int 0]) (rest := []) ⟨hx, hb, hml, hown, htb⟩ (kt_X2_throwing l dC dI md cI H_14.size th nu nm sk G v 0 1 0) (cwV 3 htb (us_gV mw_504 mw_506 mw_20 mw_34 mw_507) rfl rfl rfl (by decide +kernel) ⟨Nat.le_of_ble_eq_true rfl, Nat.le_of_ble_eq_true rfl⟩) ⟨um_P_blind, va_recv hK hP (ci := 2) (q0 := 0) rfl rfl, fun U hU hW => ⟨rfl, um_P_at hP hK hD hU hW⟩⟩ rfl rfl hl.1 rfl (lv_room (Nat.le_of_ble_eq_true rfl)) dX2_unit_41 ⟨Nat.le_of_ble_eq_true rfl, Nat.le_of_ble_eq_true rfl⟩) hS (fun q _ h => us_AA_le hS q h) (us_AA_le hS) (fun r_27 _ t_28 H_26 locs ht hvm hw hB hz1 hk1 hS => ?_)
        subst hw
        have hP := um_B_use ht hB
        have hD : va_D (us_AA (um_ads md) s.heap.size) (um_W md cI (um_th 0 1 0) nu nm sk G v) := us_D_of (by rw [um_W_adr, um_W_adr]) hD
        have hP : va_P (dC, dI) vwCl (um_W md cI (um_th 0 1 0) nu nm sk G v) H_26 := hP
        refine lv_if_eq (tgt := 49) hx hb dX2_unit_44 (by decide) (fun c_29 => ?_) (fun c_29 => ?_)
        · exact absurd c_29 (by decide)
        · refine lv_iconst (v := 0) hx hb dX2_unit_47 (by decide) ?_
          have hkv : um_unitK p1 p2 nu = 2 := by first | (simp only [um_unitK, eq_false c_4, eq_false c_17, eq_true c_18, eq_false c_29, if_true, if_false]; done) | (simp [um_unitK, c_4, c_17, c_18, c_29]; done)
          have hsp : um_unitK p1 p2 nu = 0 → 0 = nI nu := by exact fun h9 => absurd (hkv.symm.trans h9) (by decide)
          exact W.iret (v := 0) hx hb hr (fun t ht hW => ⟨⟨0, (), rfl, hsp, um_B_of ht hP (by rw [hkv]; decide) (by rw [hkv, if_neg (by decide)]) rfl rfl (by rw [hkv, if_neg (by decide)]) rfl⟩, hS.F ht⟩) hS.2.2 dX2_unit_48
    · refine lv_iconst (v := 1) hx hb dX2_unit_21 (by decide) ?_
      refine lv_goto (tgt := 26) hx hb dX2_unit_22 (by decide) ?_
      refine lv_aload_n hx hb dX2_unit_26 rfl (lv_at hl 0 rfl) ?_
      refine va_get (D := (dC, dI)) (ci := 2) (v := .int (nI nu)) (C := RX2) (T := TX2) (N := 23) hx hb htb us_inX2 hown hK hP 0 rfl rfl 1 (by decide) (htb _ mw_424) (fun _ h9 => h9) rfl dX2_unit_27 ?_
      refine lv_bipush (v := 30) hx hb dX2_unit_30 (by decide) ?_
      refine lv_icmp_ne (tgt := 39) hx hb dX2_unit_32 (by decide) (fun c_30 => ?_) (fun c_30 => ?_)
      · refine lv_iconst (v := 0) hx hb dX2_unit_39 (by decide) ?_
        refine lv_iconst (v := 0) hx hb dX2_unit_40 (by decide) ?_
        refine va_calli (va_runV (As := [.int 1, .int 0, .int 0]) (rest := []) ⟨hx, hb, hml, hown, htb⟩ (kt_X2_throwing l dC dI md cI H_14.size th nu nm sk G v 1 0 0) (cwV 3 htb (us_gV mw_504 mw_506 mw_20 mw_34 mw_507) rfl rfl rfl (by decide +kernel) ⟨Nat.le_of_ble_eq_true rfl, Nat.le_of_ble_eq_true rfl⟩) ⟨um_P_blind, va_recv hK hP (ci := 2) (q0 := 0) rfl rfl, fun U hU hW => ⟨rfl, um_P_at hP hK hD hU hW⟩⟩ rfl rfl hl.1 rfl (lv_room (Nat.le_of_ble_eq_true rfl)) dX2_unit_41 ⟨Nat.le_of_ble_eq_true rfl, Nat.le_of_ble_eq_true rfl⟩) hS (fun q _ h => us_AA_le hS q h) (us_AA_le hS) (fun r_32 _ t_33 H_31 locs ht hvm hw hB hz1 hk1 hS => ?_)
        subst hw
        have hP := um_B_use ht hB
        have hD : va_D (us_AA (um_ads md) s.heap.size) (um_W md cI (um_th 1 0 0) nu nm sk G v) := us_D_of (by rw [um_W_adr, um_W_adr]) hD
        have hP : va_P (dC, dI) vwCl (um_W md cI (um_th 1 0 0) nu nm sk G v) H_31 := hP
        refine lv_if_eq (tgt := 49) hx hb dX2_unit_44 (by decide) (fun c_34 => ?_) (fun c_34 => ?_)
        · exact absurd c_34 (by decide)
        · refine lv_iconst (v := 0) hx hb dX2_unit_47 (by decide) ?_
          have hkv : um_unitK p1 p2 nu = 1 := by first | (simp only [um_unitK, eq_false c_4, eq_true c_17, eq_false c_30, eq_false c_34, if_true, if_false]; done) | (simp [um_unitK, c_4, c_17, c_30, c_34]; done)
          have hsp : um_unitK p1 p2 nu = 0 → 0 = nI nu := by exact fun h9 => absurd (hkv.symm.trans h9) (by decide)
          exact W.iret (v := 0) hx hb hr (fun t ht hW => ⟨⟨0, (), rfl, hsp, um_B_of ht hP (by rw [hkv]; decide) (by rw [hkv, if_neg (by decide)]) rfl rfl (by rw [hkv, if_neg (by decide)]) rfl⟩, hS.F ht⟩) hS.2.2 dX2_unit_48
      · refine lv_iconst (v := 1) hx hb dX2_unit_35 (by decide) ?_
        refine lv_goto (tgt := 40) hx hb dX2_unit_36 (by decide) ?_
        refine lv_iconst (v := 0) hx hb dX2_unit_40 (by decide) ?_
        refine va_calli (va_runV (As := [.int 1, .int 1, .int 0]) (rest := []) ⟨hx, hb, hml, hown, htb⟩ (kt_X2_throwing l dC dI md cI H_14.size th nu nm sk G v 1 1 0) (cwV 3 htb (us_gV mw_504 mw_506 mw_20 mw_34 mw_507) rfl rfl rfl (by decide +kernel) ⟨Nat.le_of_ble_eq_true rfl, Nat.le_of_ble_eq_true rfl⟩) ⟨um_P_blind, va_recv hK hP (ci := 2) (q0 := 0) rfl rfl, fun U hU hW => ⟨rfl, um_P_at hP hK hD hU hW⟩⟩ rfl rfl hl.1 rfl (lv_room (Nat.le_of_ble_eq_true rfl)) dX2_unit_41 ⟨Nat.le_of_ble_eq_true rfl, Nat.le_of_ble_eq_true rfl⟩) hS (fun q _ h => us_AA_le hS q h) (us_AA_le hS) (fun r_36 _ t_37 H_35 locs ht hvm hw hB hz1 hk1 hS => ?_)
        subst hw
        have hP := um_B_use ht hB
        have hD : va_D (us_AA (um_ads md) s.heap.size) (um_W md cI (um_th 1 1 0) nu nm sk G v) := us_D_of (by rw [um_W_adr, um_W_adr]) hD
        have hP : va_P (dC, dI) vwCl (um_W md cI (um_th 1 1 0) nu nm sk G v) H_35 := hP
        refine lv_if_eq (tgt := 49) hx hb dX2_unit_44 (by decide) (fun c_38 => ?_) (fun c_38 => ?_)
        · exact absurd c_38 (by decide)
        · refine lv_iconst (v := 0) hx hb dX2_unit_47 (by decide) ?_
          have hkv : um_unitK p1 p2 nu = 1 := by first | (simp only [um_unitK, eq_false c_4, eq_true c_17, eq_true c_30, eq_false c_38, if_true, if_false]; done) | (simp [um_unitK, c_4, c_17, c_30, c_38]; done)
          have hsp : um_unitK p1 p2 nu = 0 → 0 = nI nu := by exact fun h9 => absurd (hkv.symm.trans h9) (by decide)
          exact W.iret (v := 0) hx hb hr (fun t ht hW => ⟨⟨0, (), rfl, hsp, um_B_of ht hP (by rw [hkv]; decide) (by rw [hkv, if_neg (by decide)]) rfl rfl (by rw [hkv, if_neg (by decide)]) rfl⟩, hS.F ht⟩) hS.2.2 dX2_unit_48
set_option maxHeartbeats 8000000 in
set_option maxRecDepth 100000 in
theorem kt_X2_message (l : Launch) (dC : Nat → ClassId) (dI : Nat → Nat → Nat) (md : Nat → Nat) (cI : ClassId) (sz : Nat) (th : Int32) (nu nm : Nat) (sk : Int32) (G : Nat → Nat → Int32) (v : Nat → Int32) (p1 : Int32) (p2 : Int32) (p3 : Int32) (p4 : Int32) (hnm : nm ≤ 200) : Met l yX2_message wsX2_message ({ frames := 2, cells := 0, slots := 0, locals := 43 }) (va_Pc [.ref (md 0), .int p1, .int p2, .int p3, .int p4] (um_P dC dI md cI th nu nm sk G v sz)) (va_Qi (fun r (_ : Unit) => um_msgK p1 p2 p3 p4 nu nm = 0 → r = nI nm) (fun _ t => um_B dC dI md cI (um_msgK p1 p2 p3 p4 nu nm) nu (if um_msgK p1 p2 p3 p4 nu nm = 0 then nm + 1 else nm) (sk + (if um_isU p1 nu = 0 then 1 else 0)) (if um_msgK p1 p2 p3 p4 nu nm = 0 then um_msgG nm G p1 p2 p3 p4 else G) v t) (us_AA (um_ads md) sz)) 0 0 (us_AA (um_ads md) sz) := by
  refine Met.ofW (cc := cX2_message) (maxL := 6) (ret := (some .int)) (by decide) rfl ?_
  intro p e s m args below meth c s₁ B hml hv
  obtain ⟨rfl, hsz, hP, hK, hD⟩ := hv
  have hx := B.exec
  have hb := B.bytes
  have hr := B.returns
  have htb := us_htb (atoms_spec (ws := wsX2_message) B.pre)
  have hown : s.vm.findClass RX2 = some m.cls := findClass_of_methodNamed B.named
  have hlocks := B.notSynchronized
  subst hsz
  have hA : ∀ q : Nat, s.heap.size ≤ q → (us_AA (um_ads md) s.heap.size) q := fun q h => Or.inr h
  have hS : va_S (us_AA (um_ads md) s.heap.size) s.heap s.heap [] := va_S.rf
  have hP : va_P (dC, dI) vwCl (um_W md cI th nu nm sk G v) s.heap := hP
  have hD : va_D (us_AA (um_ads md) s.heap.size) (um_W md cI th nu nm sk G v) := us_D_aa hD
  have hl := lv_entry ([.ref (md 0), .int p1, .int p2, .int p3, .int p4]) (n := 6) (Nat.le_of_ble_eq_true rfl)
  rw [lg_entry_eq]
  generalize (lg_sl ([.ref (md 0), .int p1, .int p2, .int p3, .int p4]) ++ List.replicate (6 - (lg_sl ([.ref (md 0), .int p1, .int p2, .int p3, .int p4])).length) Slot.unset).toArray = ls at hl ⊢
  have hl : lv_has ls 6 [(0, .ref (md 0)), (1, .int p1), (2, .int p2), (3, .int p3), (4, .int p4)] := hl
  refine lv_aload_n hx hb dX2_message_0 rfl (lv_at hl 0 rfl) ?_
  refine lv_iload_n hx hb dX2_message_1 rfl (lv_at hl 1 rfl) ?_
  refine va_calli (va_runV (As := [.int p1]) (rest := []) ⟨hx, hb, hml, hown, htb⟩ (kt_X2_isUnit l dC dI md cI s.heap.size th nu nm sk G v p1) (cwV 1 htb (us_gV mw_512 mw_514 mw_21 mw_34 mw_515) rfl rfl rfl (by decide +kernel) ⟨Nat.le_of_ble_eq_true rfl, Nat.le_of_ble_eq_true rfl⟩) ⟨um_P_blind, va_recv hK hP (ci := 2) (q0 := 0) rfl rfl, fun U hU hW => ⟨rfl, um_P_at hP hK hD hU hW⟩⟩ rfl rfl hl.1 rfl (lv_room (Nat.le_of_ble_eq_true rfl)) dX2_message_2 ⟨Nat.le_of_ble_eq_true rfl, Nat.le_of_ble_eq_true rfl⟩) hS (fun q h1 h2 => absurd h2 (Nat.not_le.mpr h1)) (fun q h => hA q (Nat.le_trans hS.1 h)) (fun r_2 _ t_3 H_1 locs ht hvm hw hB hz1 hk1 hS => ?_)
  subst hw
  have hP := us_mono hP (fun q h => hk1 q h (Nat.not_le.mpr h))
  refine lv_if_ne (tgt := 12) hx hb dX2_message_5 (by decide) (fun c_4 => ?_) (fun c_4 => ?_)
  · refine lv_iconst (v := 0) hx hb dX2_message_12 (by decide) ?_
    refine lv_istore (lv' := [(5, .int 0), (0, .ref (md 0)), (1, .int p1), (2, .int p2), (3, .int p3), (4, .int p4)]) hx hb dX2_message_13 hl (by decide) rfl (fun ls hl => ?_)
    refine lv_aload_n hx hb dX2_message_15 rfl (lv_at hl 1 rfl) ?_
    refine lv_dup hx hb dX2_message_16 rfl ?_
    refine va_get (D := (dC, dI)) (ci := 2) (v := .int sk) (C := RX2) (T := TX2) (N := 23) hx hb htb us_inX2 hown hK hP 0 rfl rfl 9 (by decide) (htb _ mw_432) (fun _ h9 => h9) rfl dX2_message_17 ?_
    refine lv_iload hx hb dX2_message_20 (lv_at hl 0 rfl) ?_
    refine lv_if_eq (tgt := 29) hx hb dX2_message_22 (by decide) (fun c_5 => ?_) (fun c_5 => ?_)
    · refine lv_iconst (v := 0) hx hb dX2_message_29 (by decide) ?_
      refine lv_iadd hx hb dX2_message_30 ?_
      refine va_put (D := (dC, dI)) (ci := 2) (v := .int (sk + 0)) (ty := .int) (C := RX2) (T := TX2) (N := 23) hx hb htb us_inX2 tyX2 tyX2_ok nmX2 hown hK hP hD hS 0 rfl rfl 9 (by decide) (htb _ mw_432) (fun _ h9 => h9) rfl (by decide +kernel) rfl rfl (Nat.le_of_ble_eq_true rfl) dX2_message_31 (fun H_6 locs hP hD hS => ?_)
      have hP : va_P (dC, dI) vwCl (um_W md cI th nu nm (sk + 0) G v) H_6 := hP
      have hD : va_D (us_AA (um_ads md) s.heap.size) (um_W md cI th nu nm (sk + 0) G v) := hD
      refine lv_iload hx hb dX2_message_34 (lv_at hl 0 rfl) ?_
      refine lv_if_ne (tgt := 49) hx hb dX2_message_36 (by decide) (fun c_7 => ?_) (fun c_7 => ?_)
      · exact absurd (by decide) c_7
      · refine lv_iload_n hx hb dX2_message_39 rfl (lv_at hl 4 rfl) ?_
        refine lv_iconst (v := 0) hx hb dX2_message_40 (by decide) ?_
        refine lv_bipush (v := 15) hx hb dX2_message_41 (by decide) ?_
        refine va_calli (va_runS (As := [.int p3, .int 0, .int 15]) (rest := []) ⟨hx, hb, hml, hown, htb⟩ (kt_X2_in l H_6.size p3 0 15) (cwS 3 htb (us_gS mw_501 mw_502 mw_34 mw_503) rfl rfl rfl (by decide +kernel) ⟨Nat.le_of_ble_eq_true rfl, Nat.le_of_ble_eq_true rfl⟩) ⟨us_blind0, fun U hU _ => ⟨rfl, congrArg Array.size hU⟩⟩ rfl rfl hl.1 rfl (lv_room (Nat.le_of_ble_eq_true rfl)) dX2_message_43 ⟨Nat.le_of_ble_eq_true rfl, Nat.le_of_ble_eq_true rfl⟩) hS (fun q h1 h2 => absurd h2 (Nat.not_le.mpr h1)) (fun q h => hA q (Nat.le_trans hS.1 h)) (fun r_9 _ t_10 H_8 locs ht hvm hw hB hz1 hk1 hS => ?_)
        subst hw
        have hP := us_mono hP (fun q h => hk1 q h (Nat.not_le.mpr h))
        refine lv_if_ne (tgt := 53) hx hb dX2_message_46 (by decide) (fun c_11 => ?_) (fun c_11 => ?_)
        · refine lv_iconst (v := 0) hx hb dX2_message_53 (by decide) ?_
          refine lv_istore (lv' := [(5, .int 0), (0, .ref (md 0)), (1, .int p1), (2, .int p2), (3, .int p3), (4, .int p4)]) hx hb dX2_message_54 hl (by decide) rfl (fun ls hl => ?_)
          refine lv_aload_n hx hb dX2_message_56 rfl (lv_at hl 1 rfl) ?_
          refine lv_iload hx hb dX2_message_57 (lv_at hl 0 rfl) ?_
          refine lv_iload_n hx hb dX2_message_59 rfl (lv_at hl 3 rfl) ?_
          refine va_calli (va_runS (As := [.int p2]) (rest := [.int 0, .ref (md 0)]) ⟨hx, hb, hml, hown, htb⟩ (kt_X2_isMinute l H_8.size p2) (cwS 1 htb (us_gS mw_516 mw_517 mw_34 mw_518) rfl rfl rfl (by decide +kernel) ⟨Nat.le_of_ble_eq_true rfl, Nat.le_of_ble_eq_true rfl⟩) ⟨us_blind0, fun U hU _ => ⟨rfl, congrArg Array.size hU⟩⟩ rfl rfl hl.1 rfl (lv_room (Nat.le_of_ble_eq_true rfl)) dX2_message_60 ⟨Nat.le_of_ble_eq_true rfl, Nat.le_of_ble_eq_true rfl⟩) hS (fun q h1 h2 => absurd h2 (Nat.not_le.mpr h1)) (fun q h => hA q (Nat.le_trans hS.1 h)) (fun r_13 _ t_14 H_12 locs ht hvm hw hB hz1 hk1 hS => ?_)
          subst hw
          have hP := us_mono hP (fun q h => hk1 q h (Nat.not_le.mpr h))
          refine lv_if_eq (tgt := 75) hx hb dX2_message_63 (by decide) (fun c_15 => ?_) (fun c_15 => ?_)
          · refine lv_iconst (v := 1) hx hb dX2_message_75 (by decide) ?_
            refine lv_goto (tgt := 80) hx hb dX2_message_76 (by decide) ?_
            refine lv_aload_n hx hb dX2_message_80 rfl (lv_at hl 1 rfl) ?_
            refine va_get (D := (dC, dI)) (ci := 2) (v := .int (nI nm)) (C := RX2) (T := TX2) (N := 23) hx hb htb us_inX2 hown hK hP 0 rfl rfl 4 (by decide) (htb _ mw_427) (fun _ h9 => h9) rfl dX2_message_81 ?_
            refine lv_sipush (v := 200) hx hb dX2_message_84 (by decide) ?_
            refine lv_icmp_ne (tgt := 94) hx hb dX2_message_87 (by decide) (fun c_16 => ?_) (fun c_16 => ?_)
            · refine lv_iconst (v := 0) hx hb dX2_message_94 (by decide) ?_
              refine va_calli (va_runV (As := [.int 0, .int 1, .int 0]) (rest := []) ⟨hx, hb, hml, hown, htb⟩ (kt_X2_throwing l dC dI md cI H_12.size th nu nm (sk + 0) G v 0 1 0) (cwV 3 htb (us_gV mw_504 mw_506 mw_20 mw_34 mw_507) rfl rfl rfl (by decide +kernel) ⟨Nat.le_of_ble_eq_true rfl, Nat.le_of_ble_eq_true rfl⟩) ⟨um_P_blind, va_recv hK hP (ci := 2) (q0 := 0) rfl rfl, fun U hU hW => ⟨rfl, um_P_at hP hK hD hU hW⟩⟩ rfl rfl hl.1 rfl (lv_room (Nat.le_of_ble_eq_true rfl)) dX2_message_95 ⟨Nat.le_of_ble_eq_true rfl, Nat.le_of_ble_eq_true rfl⟩) hS (fun q _ h => us_AA_le hS q h) (us_AA_le hS) (fun r_18 _ t_19 H_17 locs ht hvm hw hB hz1 hk1 hS => ?_)
              subst hw
              have hP := um_B_use ht hB
              have hD : va_D (us_AA (um_ads md) s.heap.size) (um_W md cI (um_th 0 1 0) nu nm (sk + 0) G v) := us_D_of (by rw [um_W_adr, um_W_adr]) hD
              have hP : va_P (dC, dI) vwCl (um_W md cI (um_th 0 1 0) nu nm (sk + 0) G v) H_17 := hP
              refine lv_if_eq (tgt := 103) hx hb dX2_message_98 (by decide) (fun c_20 => ?_) (fun c_20 => ?_)
              · exact absurd c_20 (by decide)
              · refine lv_iconst (v := 0) hx hb dX2_message_101 (by decide) ?_
                have hkv : um_msgK p1 p2 p3 p4 nu nm = 2 := by first | (simp only [um_msgK, eq_false c_4, eq_true c_5, eq_true c_7, eq_false c_11, eq_true c_15, eq_false c_16, eq_false c_20, if_true, if_false]; done) | (simp [um_msgK, c_4, c_5, c_7, c_11, c_15, c_16, c_20]; done)
                have hsp : um_msgK p1 p2 p3 p4 nu nm = 0 → 0 = nI nm := by exact fun h9 => absurd (hkv.symm.trans h9) (by decide)
                exact W.iret (v := 0) hx hb hr (fun t ht hW => ⟨⟨0, (), rfl, hsp, um_B_of ht hP (by rw [hkv]; decide) rfl (by rw [hkv, if_neg (by decide)]) (by rw [if_neg c_4]) (by rw [hkv, if_neg (by decide)]) rfl⟩, hS.F ht⟩) hS.2.2 dX2_message_102
            · refine lv_iconst (v := 1) hx hb dX2_message_90 (by decide) ?_
              refine lv_goto (tgt := 95) hx hb dX2_message_91 (by decide) ?_
              refine va_calli (va_runV (As := [.int 0, .int 1, .int 1]) (rest := []) ⟨hx, hb, hml, hown, htb⟩ (kt_X2_throwing l dC dI md cI H_12.size th nu nm (sk + 0) G v 0 1 1) (cwV 3 htb (us_gV mw_504 mw_506 mw_20 mw_34 mw_507) rfl rfl rfl (by decide +kernel) ⟨Nat.le_of_ble_eq_true rfl, Nat.le_of_ble_eq_true rfl⟩) ⟨um_P_blind, va_recv hK hP (ci := 2) (q0 := 0) rfl rfl, fun U hU hW => ⟨rfl, um_P_at hP hK hD hU hW⟩⟩ rfl rfl hl.1 rfl (lv_room (Nat.le_of_ble_eq_true rfl)) dX2_message_95 ⟨Nat.le_of_ble_eq_true rfl, Nat.le_of_ble_eq_true rfl⟩) hS (fun q _ h => us_AA_le hS q h) (us_AA_le hS) (fun r_22 _ t_23 H_21 locs ht hvm hw hB hz1 hk1 hS => ?_)
              subst hw
              have hP := um_B_use ht hB
              have hD : va_D (us_AA (um_ads md) s.heap.size) (um_W md cI (um_th 0 1 1) nu nm (sk + 0) G v) := us_D_of (by rw [um_W_adr, um_W_adr]) hD
              have hP : va_P (dC, dI) vwCl (um_W md cI (um_th 0 1 1) nu nm (sk + 0) G v) H_21 := hP
              refine lv_if_eq (tgt := 103) hx hb dX2_message_98 (by decide) (fun c_24 => ?_) (fun c_24 => ?_)
              · exact absurd c_24 (by decide)
              · refine lv_iconst (v := 0) hx hb dX2_message_101 (by decide) ?_
                have hkv : um_msgK p1 p2 p3 p4 nu nm = 2 := by first | (simp only [um_msgK, eq_false c_4, eq_true c_5, eq_true c_7, eq_false c_11, eq_true c_15, eq_true c_16, eq_false c_24, if_true, if_false]; done) | (simp [um_msgK, c_4, c_5, c_7, c_11, c_15, c_16, c_24]; done)
                have hsp : um_msgK p1 p2 p3 p4 nu nm = 0 → 0 = nI nm := by exact fun h9 => absurd (hkv.symm.trans h9) (by decide)
                exact W.iret (v := 0) hx hb hr (fun t ht hW => ⟨⟨0, (), rfl, hsp, um_B_of ht hP (by rw [hkv]; decide) rfl (by rw [hkv, if_neg (by decide)]) (by rw [if_neg c_4]) (by rw [hkv, if_neg (by decide)]) rfl⟩, hS.F ht⟩) hS.2.2 dX2_message_102
          · refine lv_iload_n hx hb dX2_message_66 rfl (lv_at hl 4 rfl) ?_
            refine lv_iload hx hb dX2_message_67 (lv_at hl 5 rfl) ?_
            refine va_calli (va_runS (As := [.int p3, .int p4]) (rest := [.int 0, .ref (md 0)]) ⟨hx, hb, hml, hown, htb⟩ (kt_X2_isValue l H_12.size p3 p4) (cwS 2 htb (us_gS mw_520 mw_521 mw_34 mw_522) rfl rfl rfl (by decide +kernel) ⟨Nat.le_of_ble_eq_true rfl, Nat.le_of_ble_eq_true rfl⟩) ⟨us_blind0, fun U hU _ => ⟨rfl, congrArg Array.size hU⟩⟩ rfl rfl hl.1 rfl (lv_room (Nat.le_of_ble_eq_true rfl)) dX2_message_69 ⟨Nat.le_of_ble_eq_true rfl, Nat.le_of_ble_eq_true rfl⟩) hS (fun q h1 h2 => absurd h2 (Nat.not_le.mpr h1)) (fun q h => hA q (Nat.le_trans hS.1 h)) (fun r_26 _ t_27 H_25 locs ht hvm hw hB hz1 hk1 hS => ?_)
            subst hw
            have hP := us_mono hP (fun q h => hk1 q h (Nat.not_le.mpr h))
            refine lv_if_ne (tgt := 79) hx hb dX2_message_72 (by decide) (fun c_28 => ?_) (fun c_28 => ?_)
            · refine lv_iconst (v := 0) hx hb dX2_message_79 (by decide) ?_
              refine lv_aload_n hx hb dX2_message_80 rfl (lv_at hl 1 rfl) ?_
              refine va_get (D := (dC, dI)) (ci := 2) (v := .int (nI nm)) (C := RX2) (T := TX2) (N := 23) hx hb htb us_inX2 hown hK hP 0 rfl rfl 4 (by decide) (htb _ mw_427) (fun _ h9 => h9) rfl dX2_message_81 ?_
              refine lv_sipush (v := 200) hx hb dX2_message_84 (by decide) ?_
              refine lv_icmp_ne (tgt := 94) hx hb dX2_message_87 (by decide) (fun c_29 => ?_) (fun c_29 => ?_)
              · refine lv_iconst (v := 0) hx hb dX2_message_94 (by decide) ?_
                refine va_calli (va_runV (As := [.int 0, .int 0, .int 0]) (rest := []) ⟨hx, hb, hml, hown, htb⟩ (kt_X2_throwing l dC dI md cI H_25.size th nu nm (sk + 0) G v 0 0 0) (cwV 3 htb (us_gV mw_504 mw_506 mw_20 mw_34 mw_507) rfl rfl rfl (by decide +kernel) ⟨Nat.le_of_ble_eq_true rfl, Nat.le_of_ble_eq_true rfl⟩) ⟨um_P_blind, va_recv hK hP (ci := 2) (q0 := 0) rfl rfl, fun U hU hW => ⟨rfl, um_P_at hP hK hD hU hW⟩⟩ rfl rfl hl.1 rfl (lv_room (Nat.le_of_ble_eq_true rfl)) dX2_message_95 ⟨Nat.le_of_ble_eq_true rfl, Nat.le_of_ble_eq_true rfl⟩) hS (fun q _ h => us_AA_le hS q h) (us_AA_le hS) (fun r_31 _ t_32 H_30 locs ht hvm hw hB hz1 hk1 hS => ?_)
                subst hw
                have hP := um_B_use ht hB
                have hD : va_D (us_AA (um_ads md) s.heap.size) (um_W md cI (um_th 0 0 0) nu nm (sk + 0) G v) := us_D_of (by rw [um_W_adr, um_W_adr]) hD
                have hP : va_P (dC, dI) vwCl (um_W md cI (um_th 0 0 0) nu nm (sk + 0) G v) H_30 := hP
                refine lv_if_eq (tgt := 103) hx hb dX2_message_98 (by decide) (fun c_33 => ?_) (fun c_33 => ?_)
                · have hn2 : nm < 200 := by
                    rcases Nat.lt_or_ge nm 200 with h | h
                    · exact h
                    · exact absurd (by rw [show nm = 200 by omega]; rfl) c_29
                  refine lv_aload_n hx hb dX2_message_103 rfl (lv_at hl 1 rfl) ?_
                  refine va_get (D := (dC, dI)) (ci := 2) (v := .ref (md 3)) (C := RX2) (T := TX2) (N := 23) hx hb htb us_inX2 hown hK hP 0 rfl rfl 5 (by decide) (htb _ mw_428) (fun _ h9 => h9) rfl dX2_message_104 ?_
                  refine lv_aload_n hx hb dX2_message_107 rfl (lv_at hl 1 rfl) ?_
                  refine va_get (D := (dC, dI)) (ci := 2) (v := .int (nI nm)) (C := RX2) (T := TX2) (N := 23) hx hb htb us_inX2 hown hK hP 0 rfl rfl 4 (by decide) (htb _ mw_427) (fun _ h9 => h9) rfl dX2_message_108 ?_
                  refine lv_iload_n hx hb dX2_message_111 rfl (lv_at hl 2 rfl) ?_
                  refine us_iast (f := (G 2)) hx hb hK hP hD hS 3 0 rfl rfl hn2 (by decide) dX2_message_112 (fun H_34 locs hP hD hS => ?_)
                  have hP : va_P (dC, dI) vwCl (um_W md cI (um_th 0 0 0) nu nm (sk + 0) (va_up G 2 (upd (G 2) nm p1)) v) H_34 := hP
                  have hD : va_D (us_AA (um_ads md) s.heap.size) (um_W md cI (um_th 0 0 0) nu nm (sk + 0) (va_up G 2 (upd (G 2) nm p1)) v) := hD
                  refine lv_aload_n hx hb dX2_message_113 rfl (lv_at hl 1 rfl) ?_
                  refine va_get (D := (dC, dI)) (ci := 2) (v := .ref (md 4)) (C := RX2) (T := TX2) (N := 23) hx hb htb us_inX2 hown hK hP 0 rfl rfl 6 (by decide) (htb _ mw_429) (fun _ h9 => h9) rfl dX2_message_114 ?_
                  refine lv_aload_n hx hb dX2_message_117 rfl (lv_at hl 1 rfl) ?_
                  refine va_get (D := (dC, dI)) (ci := 2) (v := .int (nI nm)) (C := RX2) (T := TX2) (N := 23) hx hb htb us_inX2 hown hK hP 0 rfl rfl 4 (by decide) (htb _ mw_427) (fun _ h9 => h9) rfl dX2_message_118 ?_
                  refine lv_iload_n hx hb dX2_message_121 rfl (lv_at hl 3 rfl) ?_
                  refine us_iast (f := (G 3)) hx hb hK hP hD hS 4 0 rfl rfl hn2 (by decide) dX2_message_122 (fun H_35 locs hP hD hS => ?_)
                  have hP : va_P (dC, dI) vwCl (um_W md cI (um_th 0 0 0) nu nm (sk + 0) (va_up (va_up G 2 (upd (G 2) nm p1)) 3 (upd (G 3) nm p2)) v) H_35 := hP
                  have hD : va_D (us_AA (um_ads md) s.heap.size) (um_W md cI (um_th 0 0 0) nu nm (sk + 0) (va_up (va_up G 2 (upd (G 2) nm p1)) 3 (upd (G 3) nm p2)) v) := hD
                  refine lv_aload_n hx hb dX2_message_123 rfl (lv_at hl 1 rfl) ?_
                  refine va_get (D := (dC, dI)) (ci := 2) (v := .ref (md 5)) (C := RX2) (T := TX2) (N := 23) hx hb htb us_inX2 hown hK hP 0 rfl rfl 7 (by decide) (htb _ mw_430) (fun _ h9 => h9) rfl dX2_message_124 ?_
                  refine lv_aload_n hx hb dX2_message_127 rfl (lv_at hl 1 rfl) ?_
                  refine va_get (D := (dC, dI)) (ci := 2) (v := .int (nI nm)) (C := RX2) (T := TX2) (N := 23) hx hb htb us_inX2 hown hK hP 0 rfl rfl 4 (by decide) (htb _ mw_427) (fun _ h9 => h9) rfl dX2_message_128 ?_
                  refine lv_iload_n hx hb dX2_message_131 rfl (lv_at hl 4 rfl) ?_
                  refine us_iast (f := (G 4)) hx hb hK hP hD hS 5 0 rfl rfl hn2 (by decide) dX2_message_132 (fun H_36 locs hP hD hS => ?_)
                  have hP : va_P (dC, dI) vwCl (um_W md cI (um_th 0 0 0) nu nm (sk + 0) (va_up (va_up (va_up G 2 (upd (G 2) nm p1)) 3 (upd (G 3) nm p2)) 4 (upd (G 4) nm p3)) v) H_36 := hP
                  have hD : va_D (us_AA (um_ads md) s.heap.size) (um_W md cI (um_th 0 0 0) nu nm (sk + 0) (va_up (va_up (va_up G 2 (upd (G 2) nm p1)) 3 (upd (G 3) nm p2)) 4 (upd (G 4) nm p3)) v) := hD
                  refine lv_aload_n hx hb dX2_message_133 rfl (lv_at hl 1 rfl) ?_
                  refine va_get (D := (dC, dI)) (ci := 2) (v := .ref (md 6)) (C := RX2) (T := TX2) (N := 23) hx hb htb us_inX2 hown hK hP 0 rfl rfl 8 (by decide) (htb _ mw_431) (fun _ h9 => h9) rfl dX2_message_134 ?_
                  refine lv_aload_n hx hb dX2_message_137 rfl (lv_at hl 1 rfl) ?_
                  refine va_get (D := (dC, dI)) (ci := 2) (v := .int (nI nm)) (C := RX2) (T := TX2) (N := 23) hx hb htb us_inX2 hown hK hP 0 rfl rfl 4 (by decide) (htb _ mw_427) (fun _ h9 => h9) rfl dX2_message_138 ?_
                  refine lv_iload hx hb dX2_message_141 (lv_at hl 5 rfl) ?_
                  refine us_iast (f := (G 5)) hx hb hK hP hD hS 6 0 rfl rfl hn2 (by decide) dX2_message_143 (fun H_37 locs hP hD hS => ?_)
                  have hP : va_P (dC, dI) vwCl (um_W md cI (um_th 0 0 0) nu nm (sk + 0) (va_up (va_up (va_up (va_up G 2 (upd (G 2) nm p1)) 3 (upd (G 3) nm p2)) 4 (upd (G 4) nm p3)) 5 (upd (G 5) nm p4)) v) H_37 := hP
                  have hD : va_D (us_AA (um_ads md) s.heap.size) (um_W md cI (um_th 0 0 0) nu nm (sk + 0) (va_up (va_up (va_up (va_up G 2 (upd (G 2) nm p1)) 3 (upd (G 3) nm p2)) 4 (upd (G 4) nm p3)) 5 (upd (G 5) nm p4)) v) := hD
                  refine lv_aload_n hx hb dX2_message_144 rfl (lv_at hl 1 rfl) ?_
                  refine lv_dup hx hb dX2_message_145 rfl ?_
                  refine va_get (D := (dC, dI)) (ci := 2) (v := .int (nI nm)) (C := RX2) (T := TX2) (N := 23) hx hb htb us_inX2 hown hK hP 0 rfl rfl 4 (by decide) (htb _ mw_427) (fun _ h9 => h9) rfl dX2_message_146 ?_
                  refine lv_iconst (v := 1) hx hb dX2_message_149 (by decide) ?_
                  refine lv_iadd hx hb dX2_message_150 ?_
                  rw [nI_1]
                  refine va_put (D := (dC, dI)) (ci := 2) (v := .int (nI (nm + 1))) (ty := .int) (C := RX2) (T := TX2) (N := 23) hx hb htb us_inX2 tyX2 tyX2_ok nmX2 hown hK hP hD hS 0 rfl rfl 4 (by decide) (htb _ mw_427) (fun _ h9 => h9) rfl (by decide +kernel) rfl rfl (Nat.le_of_ble_eq_true rfl) dX2_message_151 (fun H_38 locs hP hD hS => ?_)
                  have hP : va_P (dC, dI) vwCl (um_W md cI (um_th 0 0 0) nu (nm + 1) (sk + 0) (va_up (va_up (va_up (va_up G 2 (upd (G 2) nm p1)) 3 (upd (G 3) nm p2)) 4 (upd (G 4) nm p3)) 5 (upd (G 5) nm p4)) v) H_38 := hP
                  have hD : va_D (us_AA (um_ads md) s.heap.size) (um_W md cI (um_th 0 0 0) nu (nm + 1) (sk + 0) (va_up (va_up (va_up (va_up G 2 (upd (G 2) nm p1)) 3 (upd (G 3) nm p2)) 4 (upd (G 4) nm p3)) 5 (upd (G 5) nm p4)) v) := hD
                  refine lv_aload_n hx hb dX2_message_154 rfl (lv_at hl 1 rfl) ?_
                  refine va_get (D := (dC, dI)) (ci := 2) (v := .int (nI (nm + 1))) (C := RX2) (T := TX2) (N := 23) hx hb htb us_inX2 hown hK hP 0 rfl rfl 4 (by decide) (htb _ mw_427) (fun _ h9 => h9) rfl dX2_message_155 ?_
                  refine lv_iconst (v := 1) hx hb dX2_message_158 (by decide) ?_
                  refine lv_isub hx hb dX2_message_159 ?_
                  rw [nI_pred]
                  have hkv : um_msgK p1 p2 p3 p4 nu nm = 0 := by first | (simp only [um_msgK, eq_false c_4, eq_true c_5, eq_true c_7, eq_false c_11, eq_false c_15, eq_false c_28, eq_false c_29, eq_true c_33, if_true, if_false]; done) | (simp [um_msgK, c_4, c_5, c_7, c_11, c_15, c_28, c_29, c_33]; done)
                  have hsp : um_msgK p1 p2 p3 p4 nu nm = 0 → (nI nm) = nI nm := by intro _; rfl
                  exact W.iret (v := (nI nm)) hx hb hr (fun t ht hW => ⟨⟨(nI nm), (), rfl, hsp, um_B_of ht hP (by rw [hkv]; decide) rfl (by rw [hkv, if_pos rfl]) (by rw [if_neg c_4]) (by rw [hkv, if_pos rfl]; rfl) rfl⟩, hS.F ht⟩) hS.2.2 dX2_message_160
                · exact absurd (by decide) c_33
              · refine lv_iconst (v := 1) hx hb dX2_message_90 (by decide) ?_
                refine lv_goto (tgt := 95) hx hb dX2_message_91 (by decide) ?_
                refine va_calli (va_runV (As := [.int 0, .int 0, .int 1]) (rest := []) ⟨hx, hb, hml, hown, htb⟩ (kt_X2_throwing l dC dI md cI H_25.size th nu nm (sk + 0) G v 0 0 1) (cwV 3 htb (us_gV mw_504 mw_506 mw_20 mw_34 mw_507) rfl rfl rfl (by decide +kernel) ⟨Nat.le_of_ble_eq_true rfl, Nat.le_of_ble_eq_true rfl⟩) ⟨um_P_blind, va_recv hK hP (ci := 2) (q0 := 0) rfl rfl, fun U hU hW => ⟨rfl, um_P_at hP hK hD hU hW⟩⟩ rfl rfl hl.1 rfl (lv_room (Nat.le_of_ble_eq_true rfl)) dX2_message_95 ⟨Nat.le_of_ble_eq_true rfl, Nat.le_of_ble_eq_true rfl⟩) hS (fun q _ h => us_AA_le hS q h) (us_AA_le hS) (fun r_40 _ t_41 H_39 locs ht hvm hw hB hz1 hk1 hS => ?_)
                subst hw
                have hP := um_B_use ht hB
                have hD : va_D (us_AA (um_ads md) s.heap.size) (um_W md cI (um_th 0 0 1) nu nm (sk + 0) G v) := us_D_of (by rw [um_W_adr, um_W_adr]) hD
                have hP : va_P (dC, dI) vwCl (um_W md cI (um_th 0 0 1) nu nm (sk + 0) G v) H_39 := hP
                refine lv_if_eq (tgt := 103) hx hb dX2_message_98 (by decide) (fun c_42 => ?_) (fun c_42 => ?_)
                · exact absurd c_42 (by decide)
                · refine lv_iconst (v := 0) hx hb dX2_message_101 (by decide) ?_
                  have hkv : um_msgK p1 p2 p3 p4 nu nm = 3 := by first | (simp only [um_msgK, eq_false c_4, eq_true c_5, eq_true c_7, eq_false c_11, eq_false c_15, eq_false c_28, eq_true c_29, eq_false c_42, if_true, if_false]; done) | (simp [um_msgK, c_4, c_5, c_7, c_11, c_15, c_28, c_29, c_42]; done)
                  have hsp : um_msgK p1 p2 p3 p4 nu nm = 0 → 0 = nI nm := by exact fun h9 => absurd (hkv.symm.trans h9) (by decide)
                  exact W.iret (v := 0) hx hb hr (fun t ht hW => ⟨⟨0, (), rfl, hsp, um_B_of ht hP (by rw [hkv]; decide) rfl (by rw [hkv, if_neg (by decide)]) (by rw [if_neg c_4]) (by rw [hkv, if_neg (by decide)]) rfl⟩, hS.F ht⟩) hS.2.2 dX2_message_102
            · refine lv_iconst (v := 1) hx hb dX2_message_75 (by decide) ?_
              refine lv_goto (tgt := 80) hx hb dX2_message_76 (by decide) ?_
              refine lv_aload_n hx hb dX2_message_80 rfl (lv_at hl 1 rfl) ?_
              refine va_get (D := (dC, dI)) (ci := 2) (v := .int (nI nm)) (C := RX2) (T := TX2) (N := 23) hx hb htb us_inX2 hown hK hP 0 rfl rfl 4 (by decide) (htb _ mw_427) (fun _ h9 => h9) rfl dX2_message_81 ?_
              refine lv_sipush (v := 200) hx hb dX2_message_84 (by decide) ?_
              refine lv_icmp_ne (tgt := 94) hx hb dX2_message_87 (by decide) (fun c_43 => ?_) (fun c_43 => ?_)
              · refine lv_iconst (v := 0) hx hb dX2_message_94 (by decide) ?_
                refine va_calli (va_runV (As := [.int 0, .int 1, .int 0]) (rest := []) ⟨hx, hb, hml, hown, htb⟩ (kt_X2_throwing l dC dI md cI H_25.size th nu nm (sk + 0) G v 0 1 0) (cwV 3 htb (us_gV mw_504 mw_506 mw_20 mw_34 mw_507) rfl rfl rfl (by decide +kernel) ⟨Nat.le_of_ble_eq_true rfl, Nat.le_of_ble_eq_true rfl⟩) ⟨um_P_blind, va_recv hK hP (ci := 2) (q0 := 0) rfl rfl, fun U hU hW => ⟨rfl, um_P_at hP hK hD hU hW⟩⟩ rfl rfl hl.1 rfl (lv_room (Nat.le_of_ble_eq_true rfl)) dX2_message_95 ⟨Nat.le_of_ble_eq_true rfl, Nat.le_of_ble_eq_true rfl⟩) hS (fun q _ h => us_AA_le hS q h) (us_AA_le hS) (fun r_45 _ t_46 H_44 locs ht hvm hw hB hz1 hk1 hS => ?_)
                subst hw
                have hP := um_B_use ht hB
                have hD : va_D (us_AA (um_ads md) s.heap.size) (um_W md cI (um_th 0 1 0) nu nm (sk + 0) G v) := us_D_of (by rw [um_W_adr, um_W_adr]) hD
                have hP : va_P (dC, dI) vwCl (um_W md cI (um_th 0 1 0) nu nm (sk + 0) G v) H_44 := hP
                refine lv_if_eq (tgt := 103) hx hb dX2_message_98 (by decide) (fun c_47 => ?_) (fun c_47 => ?_)
                · exact absurd c_47 (by decide)
                · refine lv_iconst (v := 0) hx hb dX2_message_101 (by decide) ?_
                  have hkv : um_msgK p1 p2 p3 p4 nu nm = 2 := by first | (simp only [um_msgK, eq_false c_4, eq_true c_5, eq_true c_7, eq_false c_11, eq_false c_15, eq_true c_28, eq_false c_43, eq_false c_47, if_true, if_false]; done) | (simp [um_msgK, c_4, c_5, c_7, c_11, c_15, c_28, c_43, c_47]; done)
                  have hsp : um_msgK p1 p2 p3 p4 nu nm = 0 → 0 = nI nm := by exact fun h9 => absurd (hkv.symm.trans h9) (by decide)
                  exact W.iret (v := 0) hx hb hr (fun t ht hW => ⟨⟨0, (), rfl, hsp, um_B_of ht hP (by rw [hkv]; decide) rfl (by rw [hkv, if_neg (by decide)]) (by rw [if_neg c_4]) (by rw [hkv, if_neg (by decide)]) rfl⟩, hS.F ht⟩) hS.2.2 dX2_message_102
              · refine lv_iconst (v := 1) hx hb dX2_message_90 (by decide) ?_
                refine lv_goto (tgt := 95) hx hb dX2_message_91 (by decide) ?_
                refine va_calli (va_runV (As := [.int 0, .int 1, .int 1]) (rest := []) ⟨hx, hb, hml, hown, htb⟩ (kt_X2_throwing l dC dI md cI H_25.size th nu nm (sk + 0) G v 0 1 1) (cwV 3 htb (us_gV mw_504 mw_506 mw_20 mw_34 mw_507) rfl rfl rfl (by decide +kernel) ⟨Nat.le_of_ble_eq_true rfl, Nat.le_of_ble_eq_true rfl⟩) ⟨um_P_blind, va_recv hK hP (ci := 2) (q0 := 0) rfl rfl, fun U hU hW => ⟨rfl, um_P_at hP hK hD hU hW⟩⟩ rfl rfl hl.1 rfl (lv_room (Nat.le_of_ble_eq_true rfl)) dX2_message_95 ⟨Nat.le_of_ble_eq_true rfl, Nat.le_of_ble_eq_true rfl⟩) hS (fun q _ h => us_AA_le hS q h) (us_AA_le hS) (fun r_49 _ t_50 H_48 locs ht hvm hw hB hz1 hk1 hS => ?_)
                subst hw
                have hP := um_B_use ht hB
                have hD : va_D (us_AA (um_ads md) s.heap.size) (um_W md cI (um_th 0 1 1) nu nm (sk + 0) G v) := us_D_of (by rw [um_W_adr, um_W_adr]) hD
                have hP : va_P (dC, dI) vwCl (um_W md cI (um_th 0 1 1) nu nm (sk + 0) G v) H_48 := hP
                refine lv_if_eq (tgt := 103) hx hb dX2_message_98 (by decide) (fun c_51 => ?_) (fun c_51 => ?_)
                · exact absurd c_51 (by decide)
                · refine lv_iconst (v := 0) hx hb dX2_message_101 (by decide) ?_
                  have hkv : um_msgK p1 p2 p3 p4 nu nm = 2 := by first | (simp only [um_msgK, eq_false c_4, eq_true c_5, eq_true c_7, eq_false c_11, eq_false c_15, eq_true c_28, eq_true c_43, eq_false c_51, if_true, if_false]; done) | (simp [um_msgK, c_4, c_5, c_7, c_11, c_15, c_28, c_43, c_51]; done)
                  have hsp : um_msgK p1 p2 p3 p4 nu nm = 0 → 0 = nI nm := by exact fun h9 => absurd (hkv.symm.trans h9) (by decide)
                  exact W.iret (v := 0) hx hb hr (fun t ht hW => ⟨⟨0, (), rfl, hsp, um_B_of ht hP (by rw [hkv]; decide) rfl (by rw [hkv, if_neg (by decide)]) (by rw [if_neg c_4]) (by rw [hkv, if_neg (by decide)]) rfl⟩, hS.F ht⟩) hS.2.2 dX2_message_102
        · refine lv_iconst (v := 1) hx hb dX2_message_49 (by decide) ?_
          refine lv_goto (tgt := 54) hx hb dX2_message_50 (by decide) ?_
          refine lv_istore (lv' := [(5, .int 1), (0, .ref (md 0)), (1, .int p1), (2, .int p2), (3, .int p3), (4, .int p4)]) hx hb dX2_message_54 hl (by decide) rfl (fun ls hl => ?_)
          refine lv_aload_n hx hb dX2_message_56 rfl (lv_at hl 1 rfl) ?_
          refine lv_iload hx hb dX2_message_57 (lv_at hl 0 rfl) ?_
          refine lv_iload_n hx hb dX2_message_59 rfl (lv_at hl 3 rfl) ?_
          refine va_calli (va_runS (As := [.int p2]) (rest := [.int 1, .ref (md 0)]) ⟨hx, hb, hml, hown, htb⟩ (kt_X2_isMinute l H_8.size p2) (cwS 1 htb (us_gS mw_516 mw_517 mw_34 mw_518) rfl rfl rfl (by decide +kernel) ⟨Nat.le_of_ble_eq_true rfl, Nat.le_of_ble_eq_true rfl⟩) ⟨us_blind0, fun U hU _ => ⟨rfl, congrArg Array.size hU⟩⟩ rfl rfl hl.1 rfl (lv_room (Nat.le_of_ble_eq_true rfl)) dX2_message_60 ⟨Nat.le_of_ble_eq_true rfl, Nat.le_of_ble_eq_true rfl⟩) hS (fun q h1 h2 => absurd h2 (Nat.not_le.mpr h1)) (fun q h => hA q (Nat.le_trans hS.1 h)) (fun r_53 _ t_54 H_52 locs ht hvm hw hB hz1 hk1 hS => ?_)
          subst hw
          have hP := us_mono hP (fun q h => hk1 q h (Nat.not_le.mpr h))
          refine lv_if_eq (tgt := 75) hx hb dX2_message_63 (by decide) (fun c_55 => ?_) (fun c_55 => ?_)
          · refine lv_iconst (v := 1) hx hb dX2_message_75 (by decide) ?_
            refine lv_goto (tgt := 80) hx hb dX2_message_76 (by decide) ?_
            refine lv_aload_n hx hb dX2_message_80 rfl (lv_at hl 1 rfl) ?_
            refine va_get (D := (dC, dI)) (ci := 2) (v := .int (nI nm)) (C := RX2) (T := TX2) (N := 23) hx hb htb us_inX2 hown hK hP 0 rfl rfl 4 (by decide) (htb _ mw_427) (fun _ h9 => h9) rfl dX2_message_81 ?_
            refine lv_sipush (v := 200) hx hb dX2_message_84 (by decide) ?_
            refine lv_icmp_ne (tgt := 94) hx hb dX2_message_87 (by decide) (fun c_56 => ?_) (fun c_56 => ?_)
            · refine lv_iconst (v := 0) hx hb dX2_message_94 (by decide) ?_
              refine va_calli (va_runV (As := [.int 1, .int 1, .int 0]) (rest := []) ⟨hx, hb, hml, hown, htb⟩ (kt_X2_throwing l dC dI md cI H_52.size th nu nm (sk + 0) G v 1 1 0) (cwV 3 htb (us_gV mw_504 mw_506 mw_20 mw_34 mw_507) rfl rfl rfl (by decide +kernel) ⟨Nat.le_of_ble_eq_true rfl, Nat.le_of_ble_eq_true rfl⟩) ⟨um_P_blind, va_recv hK hP (ci := 2) (q0 := 0) rfl rfl, fun U hU hW => ⟨rfl, um_P_at hP hK hD hU hW⟩⟩ rfl rfl hl.1 rfl (lv_room (Nat.le_of_ble_eq_true rfl)) dX2_message_95 ⟨Nat.le_of_ble_eq_true rfl, Nat.le_of_ble_eq_true rfl⟩) hS (fun q _ h => us_AA_le hS q h) (us_AA_le hS) (fun r_58 _ t_59 H_57 locs ht hvm hw hB hz1 hk1 hS => ?_)
              subst hw
              have hP := um_B_use ht hB
              have hD : va_D (us_AA (um_ads md) s.heap.size) (um_W md cI (um_th 1 1 0) nu nm (sk + 0) G v) := us_D_of (by rw [um_W_adr, um_W_adr]) hD
              have hP : va_P (dC, dI) vwCl (um_W md cI (um_th 1 1 0) nu nm (sk + 0) G v) H_57 := hP
              refine lv_if_eq (tgt := 103) hx hb dX2_message_98 (by decide) (fun c_60 => ?_) (fun c_60 => ?_)
              · exact absurd c_60 (by decide)
              · refine lv_iconst (v := 0) hx hb dX2_message_101 (by decide) ?_
                have hkv : um_msgK p1 p2 p3 p4 nu nm = 1 := by first | (simp only [um_msgK, eq_false c_4, eq_true c_5, eq_true c_7, eq_true c_11, eq_true c_55, eq_false c_56, eq_false c_60, if_true, if_false]; done) | (simp [um_msgK, c_4, c_5, c_7, c_11, c_55, c_56, c_60]; done)
                have hsp : um_msgK p1 p2 p3 p4 nu nm = 0 → 0 = nI nm := by exact fun h9 => absurd (hkv.symm.trans h9) (by decide)
                exact W.iret (v := 0) hx hb hr (fun t ht hW => ⟨⟨0, (), rfl, hsp, um_B_of ht hP (by rw [hkv]; decide) rfl (by rw [hkv, if_neg (by decide)]) (by rw [if_neg c_4]) (by rw [hkv, if_neg (by decide)]) rfl⟩, hS.F ht⟩) hS.2.2 dX2_message_102
            · refine lv_iconst (v := 1) hx hb dX2_message_90 (by decide) ?_
              refine lv_goto (tgt := 95) hx hb dX2_message_91 (by decide) ?_
              refine va_calli (va_runV (As := [.int 1, .int 1, .int 1]) (rest := []) ⟨hx, hb, hml, hown, htb⟩ (kt_X2_throwing l dC dI md cI H_52.size th nu nm (sk + 0) G v 1 1 1) (cwV 3 htb (us_gV mw_504 mw_506 mw_20 mw_34 mw_507) rfl rfl rfl (by decide +kernel) ⟨Nat.le_of_ble_eq_true rfl, Nat.le_of_ble_eq_true rfl⟩) ⟨um_P_blind, va_recv hK hP (ci := 2) (q0 := 0) rfl rfl, fun U hU hW => ⟨rfl, um_P_at hP hK hD hU hW⟩⟩ rfl rfl hl.1 rfl (lv_room (Nat.le_of_ble_eq_true rfl)) dX2_message_95 ⟨Nat.le_of_ble_eq_true rfl, Nat.le_of_ble_eq_true rfl⟩) hS (fun q _ h => us_AA_le hS q h) (us_AA_le hS) (fun r_62 _ t_63 H_61 locs ht hvm hw hB hz1 hk1 hS => ?_)
              subst hw
              have hP := um_B_use ht hB
              have hD : va_D (us_AA (um_ads md) s.heap.size) (um_W md cI (um_th 1 1 1) nu nm (sk + 0) G v) := us_D_of (by rw [um_W_adr, um_W_adr]) hD
              have hP : va_P (dC, dI) vwCl (um_W md cI (um_th 1 1 1) nu nm (sk + 0) G v) H_61 := hP
              refine lv_if_eq (tgt := 103) hx hb dX2_message_98 (by decide) (fun c_64 => ?_) (fun c_64 => ?_)
              · exact absurd c_64 (by decide)
              · refine lv_iconst (v := 0) hx hb dX2_message_101 (by decide) ?_
                have hkv : um_msgK p1 p2 p3 p4 nu nm = 1 := by first | (simp only [um_msgK, eq_false c_4, eq_true c_5, eq_true c_7, eq_true c_11, eq_true c_55, eq_true c_56, eq_false c_64, if_true, if_false]; done) | (simp [um_msgK, c_4, c_5, c_7, c_11, c_55, c_56, c_64]; done)
                have hsp : um_msgK p1 p2 p3 p4 nu nm = 0 → 0 = nI nm := by exact fun h9 => absurd (hkv.symm.trans h9) (by decide)
                exact W.iret (v := 0) hx hb hr (fun t ht hW => ⟨⟨0, (), rfl, hsp, um_B_of ht hP (by rw [hkv]; decide) rfl (by rw [hkv, if_neg (by decide)]) (by rw [if_neg c_4]) (by rw [hkv, if_neg (by decide)]) rfl⟩, hS.F ht⟩) hS.2.2 dX2_message_102
          · refine lv_iload_n hx hb dX2_message_66 rfl (lv_at hl 4 rfl) ?_
            refine lv_iload hx hb dX2_message_67 (lv_at hl 5 rfl) ?_
            refine va_calli (va_runS (As := [.int p3, .int p4]) (rest := [.int 1, .ref (md 0)]) ⟨hx, hb, hml, hown, htb⟩ (kt_X2_isValue l H_52.size p3 p4) (cwS 2 htb (us_gS mw_520 mw_521 mw_34 mw_522) rfl rfl rfl (by decide +kernel) ⟨Nat.le_of_ble_eq_true rfl, Nat.le_of_ble_eq_true rfl⟩) ⟨us_blind0, fun U hU _ => ⟨rfl, congrArg Array.size hU⟩⟩ rfl rfl hl.1 rfl (lv_room (Nat.le_of_ble_eq_true rfl)) dX2_message_69 ⟨Nat.le_of_ble_eq_true rfl, Nat.le_of_ble_eq_true rfl⟩) hS (fun q h1 h2 => absurd h2 (Nat.not_le.mpr h1)) (fun q h => hA q (Nat.le_trans hS.1 h)) (fun r_66 _ t_67 H_65 locs ht hvm hw hB hz1 hk1 hS => ?_)
            subst hw
            have hP := us_mono hP (fun q h => hk1 q h (Nat.not_le.mpr h))
            refine lv_if_ne (tgt := 79) hx hb dX2_message_72 (by decide) (fun c_68 => ?_) (fun c_68 => ?_)
            · refine lv_iconst (v := 0) hx hb dX2_message_79 (by decide) ?_
              refine lv_aload_n hx hb dX2_message_80 rfl (lv_at hl 1 rfl) ?_
              refine va_get (D := (dC, dI)) (ci := 2) (v := .int (nI nm)) (C := RX2) (T := TX2) (N := 23) hx hb htb us_inX2 hown hK hP 0 rfl rfl 4 (by decide) (htb _ mw_427) (fun _ h9 => h9) rfl dX2_message_81 ?_
              refine lv_sipush (v := 200) hx hb dX2_message_84 (by decide) ?_
              refine lv_icmp_ne (tgt := 94) hx hb dX2_message_87 (by decide) (fun c_69 => ?_) (fun c_69 => ?_)
              · refine lv_iconst (v := 0) hx hb dX2_message_94 (by decide) ?_
                refine va_calli (va_runV (As := [.int 1, .int 0, .int 0]) (rest := []) ⟨hx, hb, hml, hown, htb⟩ (kt_X2_throwing l dC dI md cI H_65.size th nu nm (sk + 0) G v 1 0 0) (cwV 3 htb (us_gV mw_504 mw_506 mw_20 mw_34 mw_507) rfl rfl rfl (by decide +kernel) ⟨Nat.le_of_ble_eq_true rfl, Nat.le_of_ble_eq_true rfl⟩) ⟨um_P_blind, va_recv hK hP (ci := 2) (q0 := 0) rfl rfl, fun U hU hW => ⟨rfl, um_P_at hP hK hD hU hW⟩⟩ rfl rfl hl.1 rfl (lv_room (Nat.le_of_ble_eq_true rfl)) dX2_message_95 ⟨Nat.le_of_ble_eq_true rfl, Nat.le_of_ble_eq_true rfl⟩) hS (fun q _ h => us_AA_le hS q h) (us_AA_le hS) (fun r_71 _ t_72 H_70 locs ht hvm hw hB hz1 hk1 hS => ?_)
                subst hw
                have hP := um_B_use ht hB
                have hD : va_D (us_AA (um_ads md) s.heap.size) (um_W md cI (um_th 1 0 0) nu nm (sk + 0) G v) := us_D_of (by rw [um_W_adr, um_W_adr]) hD
                have hP : va_P (dC, dI) vwCl (um_W md cI (um_th 1 0 0) nu nm (sk + 0) G v) H_70 := hP
                refine lv_if_eq (tgt := 103) hx hb dX2_message_98 (by decide) (fun c_73 => ?_) (fun c_73 => ?_)
                · exact absurd c_73 (by decide)
                · refine lv_iconst (v := 0) hx hb dX2_message_101 (by decide) ?_
                  have hkv : um_msgK p1 p2 p3 p4 nu nm = 1 := by first | (simp only [um_msgK, eq_false c_4, eq_true c_5, eq_true c_7, eq_true c_11, eq_false c_55, eq_false c_68, eq_false c_69, eq_false c_73, if_true, if_false]; done) | (simp [um_msgK, c_4, c_5, c_7, c_11, c_55, c_68, c_69, c_73]; done)
                  have hsp : um_msgK p1 p2 p3 p4 nu nm = 0 → 0 = nI nm := by exact fun h9 => absurd (hkv.symm.trans h9) (by decide)
                  exact W.iret (v := 0) hx hb hr (fun t ht hW => ⟨⟨0, (), rfl, hsp, um_B_of ht hP (by rw [hkv]; decide) rfl (by rw [hkv, if_neg (by decide)]) (by rw [if_neg c_4]) (by rw [hkv, if_neg (by decide)]) rfl⟩, hS.F ht⟩) hS.2.2 dX2_message_102
              · refine lv_iconst (v := 1) hx hb dX2_message_90 (by decide) ?_
                refine lv_goto (tgt := 95) hx hb dX2_message_91 (by decide) ?_
                refine va_calli (va_runV (As := [.int 1, .int 0, .int 1]) (rest := []) ⟨hx, hb, hml, hown, htb⟩ (kt_X2_throwing l dC dI md cI H_65.size th nu nm (sk + 0) G v 1 0 1) (cwV 3 htb (us_gV mw_504 mw_506 mw_20 mw_34 mw_507) rfl rfl rfl (by decide +kernel) ⟨Nat.le_of_ble_eq_true rfl, Nat.le_of_ble_eq_true rfl⟩) ⟨um_P_blind, va_recv hK hP (ci := 2) (q0 := 0) rfl rfl, fun U hU hW => ⟨rfl, um_P_at hP hK hD hU hW⟩⟩ rfl rfl hl.1 rfl (lv_room (Nat.le_of_ble_eq_true rfl)) dX2_message_95 ⟨Nat.le_of_ble_eq_true rfl, Nat.le_of_ble_eq_true rfl⟩) hS (fun q _ h => us_AA_le hS q h) (us_AA_le hS) (fun r_75 _ t_76 H_74 locs ht hvm hw hB hz1 hk1 hS => ?_)
                subst hw
                have hP := um_B_use ht hB
                have hD : va_D (us_AA (um_ads md) s.heap.size) (um_W md cI (um_th 1 0 1) nu nm (sk + 0) G v) := us_D_of (by rw [um_W_adr, um_W_adr]) hD
                have hP : va_P (dC, dI) vwCl (um_W md cI (um_th 1 0 1) nu nm (sk + 0) G v) H_74 := hP
                refine lv_if_eq (tgt := 103) hx hb dX2_message_98 (by decide) (fun c_77 => ?_) (fun c_77 => ?_)
                · exact absurd c_77 (by decide)
                · refine lv_iconst (v := 0) hx hb dX2_message_101 (by decide) ?_
                  have hkv : um_msgK p1 p2 p3 p4 nu nm = 1 := by first | (simp only [um_msgK, eq_false c_4, eq_true c_5, eq_true c_7, eq_true c_11, eq_false c_55, eq_false c_68, eq_true c_69, eq_false c_77, if_true, if_false]; done) | (simp [um_msgK, c_4, c_5, c_7, c_11, c_55, c_68, c_69, c_77]; done)
                  have hsp : um_msgK p1 p2 p3 p4 nu nm = 0 → 0 = nI nm := by exact fun h9 => absurd (hkv.symm.trans h9) (by decide)
                  exact W.iret (v := 0) hx hb hr (fun t ht hW => ⟨⟨0, (), rfl, hsp, um_B_of ht hP (by rw [hkv]; decide) rfl (by rw [hkv, if_neg (by decide)]) (by rw [if_neg c_4]) (by rw [hkv, if_neg (by decide)]) rfl⟩, hS.F ht⟩) hS.2.2 dX2_message_102
            · refine lv_iconst (v := 1) hx hb dX2_message_75 (by decide) ?_
              refine lv_goto (tgt := 80) hx hb dX2_message_76 (by decide) ?_
              refine lv_aload_n hx hb dX2_message_80 rfl (lv_at hl 1 rfl) ?_
              refine va_get (D := (dC, dI)) (ci := 2) (v := .int (nI nm)) (C := RX2) (T := TX2) (N := 23) hx hb htb us_inX2 hown hK hP 0 rfl rfl 4 (by decide) (htb _ mw_427) (fun _ h9 => h9) rfl dX2_message_81 ?_
              refine lv_sipush (v := 200) hx hb dX2_message_84 (by decide) ?_
              refine lv_icmp_ne (tgt := 94) hx hb dX2_message_87 (by decide) (fun c_78 => ?_) (fun c_78 => ?_)
              · refine lv_iconst (v := 0) hx hb dX2_message_94 (by decide) ?_
                refine va_calli (va_runV (As := [.int 1, .int 1, .int 0]) (rest := []) ⟨hx, hb, hml, hown, htb⟩ (kt_X2_throwing l dC dI md cI H_65.size th nu nm (sk + 0) G v 1 1 0) (cwV 3 htb (us_gV mw_504 mw_506 mw_20 mw_34 mw_507) rfl rfl rfl (by decide +kernel) ⟨Nat.le_of_ble_eq_true rfl, Nat.le_of_ble_eq_true rfl⟩) ⟨um_P_blind, va_recv hK hP (ci := 2) (q0 := 0) rfl rfl, fun U hU hW => ⟨rfl, um_P_at hP hK hD hU hW⟩⟩ rfl rfl hl.1 rfl (lv_room (Nat.le_of_ble_eq_true rfl)) dX2_message_95 ⟨Nat.le_of_ble_eq_true rfl, Nat.le_of_ble_eq_true rfl⟩) hS (fun q _ h => us_AA_le hS q h) (us_AA_le hS) (fun r_80 _ t_81 H_79 locs ht hvm hw hB hz1 hk1 hS => ?_)
                subst hw
                have hP := um_B_use ht hB
                have hD : va_D (us_AA (um_ads md) s.heap.size) (um_W md cI (um_th 1 1 0) nu nm (sk + 0) G v) := us_D_of (by rw [um_W_adr, um_W_adr]) hD
                have hP : va_P (dC, dI) vwCl (um_W md cI (um_th 1 1 0) nu nm (sk + 0) G v) H_79 := hP
                refine lv_if_eq (tgt := 103) hx hb dX2_message_98 (by decide) (fun c_82 => ?_) (fun c_82 => ?_)
                · exact absurd c_82 (by decide)
                · refine lv_iconst (v := 0) hx hb dX2_message_101 (by decide) ?_
                  have hkv : um_msgK p1 p2 p3 p4 nu nm = 1 := by first | (simp only [um_msgK, eq_false c_4, eq_true c_5, eq_true c_7, eq_true c_11, eq_false c_55, eq_true c_68, eq_false c_78, eq_false c_82, if_true, if_false]; done) | (simp [um_msgK, c_4, c_5, c_7, c_11, c_55, c_68, c_78, c_82]; done)
                  have hsp : um_msgK p1 p2 p3 p4 nu nm = 0 → 0 = nI nm := by exact fun h9 => absurd (hkv.symm.trans h9) (by decide)
                  exact W.iret (v := 0) hx hb hr (fun t ht hW => ⟨⟨0, (), rfl, hsp, um_B_of ht hP (by rw [hkv]; decide) rfl (by rw [hkv, if_neg (by decide)]) (by rw [if_neg c_4]) (by rw [hkv, if_neg (by decide)]) rfl⟩, hS.F ht⟩) hS.2.2 dX2_message_102
              · refine lv_iconst (v := 1) hx hb dX2_message_90 (by decide) ?_
                refine lv_goto (tgt := 95) hx hb dX2_message_91 (by decide) ?_
                refine va_calli (va_runV (As := [.int 1, .int 1, .int 1]) (rest := []) ⟨hx, hb, hml, hown, htb⟩ (kt_X2_throwing l dC dI md cI H_65.size th nu nm (sk + 0) G v 1 1 1) (cwV 3 htb (us_gV mw_504 mw_506 mw_20 mw_34 mw_507) rfl rfl rfl (by decide +kernel) ⟨Nat.le_of_ble_eq_true rfl, Nat.le_of_ble_eq_true rfl⟩) ⟨um_P_blind, va_recv hK hP (ci := 2) (q0 := 0) rfl rfl, fun U hU hW => ⟨rfl, um_P_at hP hK hD hU hW⟩⟩ rfl rfl hl.1 rfl (lv_room (Nat.le_of_ble_eq_true rfl)) dX2_message_95 ⟨Nat.le_of_ble_eq_true rfl, Nat.le_of_ble_eq_true rfl⟩) hS (fun q _ h => us_AA_le hS q h) (us_AA_le hS) (fun r_84 _ t_85 H_83 locs ht hvm hw hB hz1 hk1 hS => ?_)
                subst hw
                have hP := um_B_use ht hB
                have hD : va_D (us_AA (um_ads md) s.heap.size) (um_W md cI (um_th 1 1 1) nu nm (sk + 0) G v) := us_D_of (by rw [um_W_adr, um_W_adr]) hD
                have hP : va_P (dC, dI) vwCl (um_W md cI (um_th 1 1 1) nu nm (sk + 0) G v) H_83 := hP
                refine lv_if_eq (tgt := 103) hx hb dX2_message_98 (by decide) (fun c_86 => ?_) (fun c_86 => ?_)
                · exact absurd c_86 (by decide)
                · refine lv_iconst (v := 0) hx hb dX2_message_101 (by decide) ?_
                  have hkv : um_msgK p1 p2 p3 p4 nu nm = 1 := by first | (simp only [um_msgK, eq_false c_4, eq_true c_5, eq_true c_7, eq_true c_11, eq_false c_55, eq_true c_68, eq_true c_78, eq_false c_86, if_true, if_false]; done) | (simp [um_msgK, c_4, c_5, c_7, c_11, c_55, c_68, c_78, c_86]; done)
                  have hsp : um_msgK p1 p2 p3 p4 nu nm = 0 → 0 = nI nm := by exact fun h9 => absurd (hkv.symm.trans h9) (by decide)
                  exact W.iret (v := 0) hx hb hr (fun t ht hW => ⟨⟨0, (), rfl, hsp, um_B_of ht hP (by rw [hkv]; decide) rfl (by rw [hkv, if_neg (by decide)]) (by rw [if_neg c_4]) (by rw [hkv, if_neg (by decide)]) rfl⟩, hS.F ht⟩) hS.2.2 dX2_message_102
    · exact absurd (by decide) c_5
  · refine lv_iconst (v := 1) hx hb dX2_message_8 (by decide) ?_
    refine lv_goto (tgt := 13) hx hb dX2_message_9 (by decide) ?_
    refine lv_istore (lv' := [(5, .int 1), (0, .ref (md 0)), (1, .int p1), (2, .int p2), (3, .int p3), (4, .int p4)]) hx hb dX2_message_13 hl (by decide) rfl (fun ls hl => ?_)
    refine lv_aload_n hx hb dX2_message_15 rfl (lv_at hl 1 rfl) ?_
    refine lv_dup hx hb dX2_message_16 rfl ?_
    refine va_get (D := (dC, dI)) (ci := 2) (v := .int sk) (C := RX2) (T := TX2) (N := 23) hx hb htb us_inX2 hown hK hP 0 rfl rfl 9 (by decide) (htb _ mw_432) (fun _ h9 => h9) rfl dX2_message_17 ?_
    refine lv_iload hx hb dX2_message_20 (lv_at hl 0 rfl) ?_
    refine lv_if_eq (tgt := 29) hx hb dX2_message_22 (by decide) (fun c_87 => ?_) (fun c_87 => ?_)
    · exact absurd c_87 (by decide)
    · refine lv_iconst (v := 1) hx hb dX2_message_25 (by decide) ?_
      refine lv_goto (tgt := 30) hx hb dX2_message_26 (by decide) ?_
      refine lv_iadd hx hb dX2_message_30 ?_
      refine va_put (D := (dC, dI)) (ci := 2) (v := .int (sk + 1)) (ty := .int) (C := RX2) (T := TX2) (N := 23) hx hb htb us_inX2 tyX2 tyX2_ok nmX2 hown hK hP hD hS 0 rfl rfl 9 (by decide) (htb _ mw_432) (fun _ h9 => h9) rfl (by decide +kernel) rfl rfl (Nat.le_of_ble_eq_true rfl) dX2_message_31 (fun H_88 locs hP hD hS => ?_)
      have hP : va_P (dC, dI) vwCl (um_W md cI th nu nm (sk + 1) G v) H_88 := hP
      have hD : va_D (us_AA (um_ads md) s.heap.size) (um_W md cI th nu nm (sk + 1) G v) := hD
      refine lv_iload hx hb dX2_message_34 (lv_at hl 0 rfl) ?_
      refine lv_if_ne (tgt := 49) hx hb dX2_message_36 (by decide) (fun c_89 => ?_) (fun c_89 => ?_)
      · refine lv_iconst (v := 1) hx hb dX2_message_49 (by decide) ?_
        refine lv_goto (tgt := 54) hx hb dX2_message_50 (by decide) ?_
        refine lv_istore (lv' := [(5, .int 1), (0, .ref (md 0)), (1, .int p1), (2, .int p2), (3, .int p3), (4, .int p4)]) hx hb dX2_message_54 hl (by decide) rfl (fun ls hl => ?_)
        refine lv_aload_n hx hb dX2_message_56 rfl (lv_at hl 1 rfl) ?_
        refine lv_iload hx hb dX2_message_57 (lv_at hl 0 rfl) ?_
        refine lv_iload_n hx hb dX2_message_59 rfl (lv_at hl 3 rfl) ?_
        refine va_calli (va_runS (As := [.int p2]) (rest := [.int 1, .ref (md 0)]) ⟨hx, hb, hml, hown, htb⟩ (kt_X2_isMinute l H_88.size p2) (cwS 1 htb (us_gS mw_516 mw_517 mw_34 mw_518) rfl rfl rfl (by decide +kernel) ⟨Nat.le_of_ble_eq_true rfl, Nat.le_of_ble_eq_true rfl⟩) ⟨us_blind0, fun U hU _ => ⟨rfl, congrArg Array.size hU⟩⟩ rfl rfl hl.1 rfl (lv_room (Nat.le_of_ble_eq_true rfl)) dX2_message_60 ⟨Nat.le_of_ble_eq_true rfl, Nat.le_of_ble_eq_true rfl⟩) hS (fun q h1 h2 => absurd h2 (Nat.not_le.mpr h1)) (fun q h => hA q (Nat.le_trans hS.1 h)) (fun r_91 _ t_92 H_90 locs ht hvm hw hB hz1 hk1 hS => ?_)
        subst hw
        have hP := us_mono hP (fun q h => hk1 q h (Nat.not_le.mpr h))
        refine lv_if_eq (tgt := 75) hx hb dX2_message_63 (by decide) (fun c_93 => ?_) (fun c_93 => ?_)
        · refine lv_iconst (v := 1) hx hb dX2_message_75 (by decide) ?_
          refine lv_goto (tgt := 80) hx hb dX2_message_76 (by decide) ?_
          refine lv_aload_n hx hb dX2_message_80 rfl (lv_at hl 1 rfl) ?_
          refine va_get (D := (dC, dI)) (ci := 2) (v := .int (nI nm)) (C := RX2) (T := TX2) (N := 23) hx hb htb us_inX2 hown hK hP 0 rfl rfl 4 (by decide) (htb _ mw_427) (fun _ h9 => h9) rfl dX2_message_81 ?_
          refine lv_sipush (v := 200) hx hb dX2_message_84 (by decide) ?_
          refine lv_icmp_ne (tgt := 94) hx hb dX2_message_87 (by decide) (fun c_94 => ?_) (fun c_94 => ?_)
          · refine lv_iconst (v := 0) hx hb dX2_message_94 (by decide) ?_
            refine va_calli (va_runV (As := [.int 1, .int 1, .int 0]) (rest := []) ⟨hx, hb, hml, hown, htb⟩ (kt_X2_throwing l dC dI md cI H_90.size th nu nm (sk + 1) G v 1 1 0) (cwV 3 htb (us_gV mw_504 mw_506 mw_20 mw_34 mw_507) rfl rfl rfl (by decide +kernel) ⟨Nat.le_of_ble_eq_true rfl, Nat.le_of_ble_eq_true rfl⟩) ⟨um_P_blind, va_recv hK hP (ci := 2) (q0 := 0) rfl rfl, fun U hU hW => ⟨rfl, um_P_at hP hK hD hU hW⟩⟩ rfl rfl hl.1 rfl (lv_room (Nat.le_of_ble_eq_true rfl)) dX2_message_95 ⟨Nat.le_of_ble_eq_true rfl, Nat.le_of_ble_eq_true rfl⟩) hS (fun q _ h => us_AA_le hS q h) (us_AA_le hS) (fun r_96 _ t_97 H_95 locs ht hvm hw hB hz1 hk1 hS => ?_)
            subst hw
            have hP := um_B_use ht hB
            have hD : va_D (us_AA (um_ads md) s.heap.size) (um_W md cI (um_th 1 1 0) nu nm (sk + 1) G v) := us_D_of (by rw [um_W_adr, um_W_adr]) hD
            have hP : va_P (dC, dI) vwCl (um_W md cI (um_th 1 1 0) nu nm (sk + 1) G v) H_95 := hP
            refine lv_if_eq (tgt := 103) hx hb dX2_message_98 (by decide) (fun c_98 => ?_) (fun c_98 => ?_)
            · exact absurd c_98 (by decide)
            · refine lv_iconst (v := 0) hx hb dX2_message_101 (by decide) ?_
              have hkv : um_msgK p1 p2 p3 p4 nu nm = 1 := by first | (simp only [um_msgK, eq_true c_4, eq_false c_87, eq_false c_89, eq_true c_93, eq_false c_94, eq_false c_98, if_true, if_false]; done) | (simp [um_msgK, c_4, c_87, c_89, c_93, c_94, c_98]; done)
              have hsp : um_msgK p1 p2 p3 p4 nu nm = 0 → 0 = nI nm := by exact fun h9 => absurd (hkv.symm.trans h9) (by decide)
              exact W.iret (v := 0) hx hb hr (fun t ht hW => ⟨⟨0, (), rfl, hsp, um_B_of ht hP (by rw [hkv]; decide) rfl (by rw [hkv, if_neg (by decide)]) (by rw [if_pos c_4]) (by rw [hkv, if_neg (by decide)]) rfl⟩, hS.F ht⟩) hS.2.2 dX2_message_102
          · refine lv_iconst (v := 1) hx hb dX2_message_90 (by decide) ?_
            refine lv_goto (tgt := 95) hx hb dX2_message_91 (by decide) ?_
            refine va_calli (va_runV (As := [.int 1, .int 1, .int 1]) (rest := []) ⟨hx, hb, hml, hown, htb⟩ (kt_X2_throwing l dC dI md cI H_90.size th nu nm (sk + 1) G v 1 1 1) (cwV 3 htb (us_gV mw_504 mw_506 mw_20 mw_34 mw_507) rfl rfl rfl (by decide +kernel) ⟨Nat.le_of_ble_eq_true rfl, Nat.le_of_ble_eq_true rfl⟩) ⟨um_P_blind, va_recv hK hP (ci := 2) (q0 := 0) rfl rfl, fun U hU hW => ⟨rfl, um_P_at hP hK hD hU hW⟩⟩ rfl rfl hl.1 rfl (lv_room (Nat.le_of_ble_eq_true rfl)) dX2_message_95 ⟨Nat.le_of_ble_eq_true rfl, Nat.le_of_ble_eq_true rfl⟩) hS (fun q _ h => us_AA_le hS q h) (us_AA_le hS) (fun r_100 _ t_101 H_99 locs ht hvm hw hB hz1 hk1 hS => ?_)
            subst hw
            have hP := um_B_use ht hB
            have hD : va_D (us_AA (um_ads md) s.heap.size) (um_W md cI (um_th 1 1 1) nu nm (sk + 1) G v) := us_D_of (by rw [um_W_adr, um_W_adr]) hD
            have hP : va_P (dC, dI) vwCl (um_W md cI (um_th 1 1 1) nu nm (sk + 1) G v) H_99 := hP
            refine lv_if_eq (tgt := 103) hx hb dX2_message_98 (by decide) (fun c_102 => ?_) (fun c_102 => ?_)
            · exact absurd c_102 (by decide)
            · refine lv_iconst (v := 0) hx hb dX2_message_101 (by decide) ?_
              have hkv : um_msgK p1 p2 p3 p4 nu nm = 1 := by first | (simp only [um_msgK, eq_true c_4, eq_false c_87, eq_false c_89, eq_true c_93, eq_true c_94, eq_false c_102, if_true, if_false]; done) | (simp [um_msgK, c_4, c_87, c_89, c_93, c_94, c_102]; done)
              have hsp : um_msgK p1 p2 p3 p4 nu nm = 0 → 0 = nI nm := by exact fun h9 => absurd (hkv.symm.trans h9) (by decide)
              exact W.iret (v := 0) hx hb hr (fun t ht hW => ⟨⟨0, (), rfl, hsp, um_B_of ht hP (by rw [hkv]; decide) rfl (by rw [hkv, if_neg (by decide)]) (by rw [if_pos c_4]) (by rw [hkv, if_neg (by decide)]) rfl⟩, hS.F ht⟩) hS.2.2 dX2_message_102
        · refine lv_iload_n hx hb dX2_message_66 rfl (lv_at hl 4 rfl) ?_
          refine lv_iload hx hb dX2_message_67 (lv_at hl 5 rfl) ?_
          refine va_calli (va_runS (As := [.int p3, .int p4]) (rest := [.int 1, .ref (md 0)]) ⟨hx, hb, hml, hown, htb⟩ (kt_X2_isValue l H_90.size p3 p4) (cwS 2 htb (us_gS mw_520 mw_521 mw_34 mw_522) rfl rfl rfl (by decide +kernel) ⟨Nat.le_of_ble_eq_true rfl, Nat.le_of_ble_eq_true rfl⟩) ⟨us_blind0, fun U hU _ => ⟨rfl, congrArg Array.size hU⟩⟩ rfl rfl hl.1 rfl (lv_room (Nat.le_of_ble_eq_true rfl)) dX2_message_69 ⟨Nat.le_of_ble_eq_true rfl, Nat.le_of_ble_eq_true rfl⟩) hS (fun q h1 h2 => absurd h2 (Nat.not_le.mpr h1)) (fun q h => hA q (Nat.le_trans hS.1 h)) (fun r_104 _ t_105 H_103 locs ht hvm hw hB hz1 hk1 hS => ?_)
          subst hw
          have hP := us_mono hP (fun q h => hk1 q h (Nat.not_le.mpr h))
          refine lv_if_ne (tgt := 79) hx hb dX2_message_72 (by decide) (fun c_106 => ?_) (fun c_106 => ?_)
          · refine lv_iconst (v := 0) hx hb dX2_message_79 (by decide) ?_
            refine lv_aload_n hx hb dX2_message_80 rfl (lv_at hl 1 rfl) ?_
            refine va_get (D := (dC, dI)) (ci := 2) (v := .int (nI nm)) (C := RX2) (T := TX2) (N := 23) hx hb htb us_inX2 hown hK hP 0 rfl rfl 4 (by decide) (htb _ mw_427) (fun _ h9 => h9) rfl dX2_message_81 ?_
            refine lv_sipush (v := 200) hx hb dX2_message_84 (by decide) ?_
            refine lv_icmp_ne (tgt := 94) hx hb dX2_message_87 (by decide) (fun c_107 => ?_) (fun c_107 => ?_)
            · refine lv_iconst (v := 0) hx hb dX2_message_94 (by decide) ?_
              refine va_calli (va_runV (As := [.int 1, .int 0, .int 0]) (rest := []) ⟨hx, hb, hml, hown, htb⟩ (kt_X2_throwing l dC dI md cI H_103.size th nu nm (sk + 1) G v 1 0 0) (cwV 3 htb (us_gV mw_504 mw_506 mw_20 mw_34 mw_507) rfl rfl rfl (by decide +kernel) ⟨Nat.le_of_ble_eq_true rfl, Nat.le_of_ble_eq_true rfl⟩) ⟨um_P_blind, va_recv hK hP (ci := 2) (q0 := 0) rfl rfl, fun U hU hW => ⟨rfl, um_P_at hP hK hD hU hW⟩⟩ rfl rfl hl.1 rfl (lv_room (Nat.le_of_ble_eq_true rfl)) dX2_message_95 ⟨Nat.le_of_ble_eq_true rfl, Nat.le_of_ble_eq_true rfl⟩) hS (fun q _ h => us_AA_le hS q h) (us_AA_le hS) (fun r_109 _ t_110 H_108 locs ht hvm hw hB hz1 hk1 hS => ?_)
              subst hw
              have hP := um_B_use ht hB
              have hD : va_D (us_AA (um_ads md) s.heap.size) (um_W md cI (um_th 1 0 0) nu nm (sk + 1) G v) := us_D_of (by rw [um_W_adr, um_W_adr]) hD
              have hP : va_P (dC, dI) vwCl (um_W md cI (um_th 1 0 0) nu nm (sk + 1) G v) H_108 := hP
              refine lv_if_eq (tgt := 103) hx hb dX2_message_98 (by decide) (fun c_111 => ?_) (fun c_111 => ?_)
              · exact absurd c_111 (by decide)
              · refine lv_iconst (v := 0) hx hb dX2_message_101 (by decide) ?_
                have hkv : um_msgK p1 p2 p3 p4 nu nm = 1 := by first | (simp only [um_msgK, eq_true c_4, eq_false c_87, eq_false c_89, eq_false c_93, eq_false c_106, eq_false c_107, eq_false c_111, if_true, if_false]; done) | (simp [um_msgK, c_4, c_87, c_89, c_93, c_106, c_107, c_111]; done)
                have hsp : um_msgK p1 p2 p3 p4 nu nm = 0 → 0 = nI nm := by exact fun h9 => absurd (hkv.symm.trans h9) (by decide)
                exact W.iret (v := 0) hx hb hr (fun t ht hW => ⟨⟨0, (), rfl, hsp, um_B_of ht hP (by rw [hkv]; decide) rfl (by rw [hkv, if_neg (by decide)]) (by rw [if_pos c_4]) (by rw [hkv, if_neg (by decide)]) rfl⟩, hS.F ht⟩) hS.2.2 dX2_message_102
            · refine lv_iconst (v := 1) hx hb dX2_message_90 (by decide) ?_
              refine lv_goto (tgt := 95) hx hb dX2_message_91 (by decide) ?_
              refine va_calli (va_runV (As := [.int 1, .int 0, .int 1]) (rest := []) ⟨hx, hb, hml, hown, htb⟩ (kt_X2_throwing l dC dI md cI H_103.size th nu nm (sk + 1) G v 1 0 1) (cwV 3 htb (us_gV mw_504 mw_506 mw_20 mw_34 mw_507) rfl rfl rfl (by decide +kernel) ⟨Nat.le_of_ble_eq_true rfl, Nat.le_of_ble_eq_true rfl⟩) ⟨um_P_blind, va_recv hK hP (ci := 2) (q0 := 0) rfl rfl, fun U hU hW => ⟨rfl, um_P_at hP hK hD hU hW⟩⟩ rfl rfl hl.1 rfl (lv_room (Nat.le_of_ble_eq_true rfl)) dX2_message_95 ⟨Nat.le_of_ble_eq_true rfl, Nat.le_of_ble_eq_true rfl⟩) hS (fun q _ h => us_AA_le hS q h) (us_AA_le hS) (fun r_113 _ t_114 H_112 locs ht hvm hw hB hz1 hk1 hS => ?_)
              subst hw
              have hP := um_B_use ht hB
              have hD : va_D (us_AA (um_ads md) s.heap.size) (um_W md cI (um_th 1 0 1) nu nm (sk + 1) G v) := us_D_of (by rw [um_W_adr, um_W_adr]) hD
              have hP : va_P (dC, dI) vwCl (um_W md cI (um_th 1 0 1) nu nm (sk + 1) G v) H_112 := hP
              refine lv_if_eq (tgt := 103) hx hb dX2_message_98 (by decide) (fun c_115 => ?_) (fun c_115 => ?_)
              · exact absurd c_115 (by decide)
              · refine lv_iconst (v := 0) hx hb dX2_message_101 (by decide) ?_
                have hkv : um_msgK p1 p2 p3 p4 nu nm = 1 := by first | (simp only [um_msgK, eq_true c_4, eq_false c_87, eq_false c_89, eq_false c_93, eq_false c_106, eq_true c_107, eq_false c_115, if_true, if_false]; done) | (simp [um_msgK, c_4, c_87, c_89, c_93, c_106, c_107, c_115]; done)
                have hsp : um_msgK p1 p2 p3 p4 nu nm = 0 → 0 = nI nm := by exact fun h9 => absurd (hkv.symm.trans h9) (by decide)
                exact W.iret (v := 0) hx hb hr (fun t ht hW => ⟨⟨0, (), rfl, hsp, um_B_of ht hP (by rw [hkv]; decide) rfl (by rw [hkv, if_neg (by decide)]) (by rw [if_pos c_4]) (by rw [hkv, if_neg (by decide)]) rfl⟩, hS.F ht⟩) hS.2.2 dX2_message_102
          · refine lv_iconst (v := 1) hx hb dX2_message_75 (by decide) ?_
            refine lv_goto (tgt := 80) hx hb dX2_message_76 (by decide) ?_
            refine lv_aload_n hx hb dX2_message_80 rfl (lv_at hl 1 rfl) ?_
            refine va_get (D := (dC, dI)) (ci := 2) (v := .int (nI nm)) (C := RX2) (T := TX2) (N := 23) hx hb htb us_inX2 hown hK hP 0 rfl rfl 4 (by decide) (htb _ mw_427) (fun _ h9 => h9) rfl dX2_message_81 ?_
            refine lv_sipush (v := 200) hx hb dX2_message_84 (by decide) ?_
            refine lv_icmp_ne (tgt := 94) hx hb dX2_message_87 (by decide) (fun c_116 => ?_) (fun c_116 => ?_)
            · refine lv_iconst (v := 0) hx hb dX2_message_94 (by decide) ?_
              refine va_calli (va_runV (As := [.int 1, .int 1, .int 0]) (rest := []) ⟨hx, hb, hml, hown, htb⟩ (kt_X2_throwing l dC dI md cI H_103.size th nu nm (sk + 1) G v 1 1 0) (cwV 3 htb (us_gV mw_504 mw_506 mw_20 mw_34 mw_507) rfl rfl rfl (by decide +kernel) ⟨Nat.le_of_ble_eq_true rfl, Nat.le_of_ble_eq_true rfl⟩) ⟨um_P_blind, va_recv hK hP (ci := 2) (q0 := 0) rfl rfl, fun U hU hW => ⟨rfl, um_P_at hP hK hD hU hW⟩⟩ rfl rfl hl.1 rfl (lv_room (Nat.le_of_ble_eq_true rfl)) dX2_message_95 ⟨Nat.le_of_ble_eq_true rfl, Nat.le_of_ble_eq_true rfl⟩) hS (fun q _ h => us_AA_le hS q h) (us_AA_le hS) (fun r_118 _ t_119 H_117 locs ht hvm hw hB hz1 hk1 hS => ?_)
              subst hw
              have hP := um_B_use ht hB
              have hD : va_D (us_AA (um_ads md) s.heap.size) (um_W md cI (um_th 1 1 0) nu nm (sk + 1) G v) := us_D_of (by rw [um_W_adr, um_W_adr]) hD
              have hP : va_P (dC, dI) vwCl (um_W md cI (um_th 1 1 0) nu nm (sk + 1) G v) H_117 := hP
              refine lv_if_eq (tgt := 103) hx hb dX2_message_98 (by decide) (fun c_120 => ?_) (fun c_120 => ?_)
              · exact absurd c_120 (by decide)
              · refine lv_iconst (v := 0) hx hb dX2_message_101 (by decide) ?_
                have hkv : um_msgK p1 p2 p3 p4 nu nm = 1 := by first | (simp only [um_msgK, eq_true c_4, eq_false c_87, eq_false c_89, eq_false c_93, eq_true c_106, eq_false c_116, eq_false c_120, if_true, if_false]; done) | (simp [um_msgK, c_4, c_87, c_89, c_93, c_106, c_116, c_120]; done)
                have hsp : um_msgK p1 p2 p3 p4 nu nm = 0 → 0 = nI nm := by exact fun h9 => absurd (hkv.symm.trans h9) (by decide)
                exact W.iret (v := 0) hx hb hr (fun t ht hW => ⟨⟨0, (), rfl, hsp, um_B_of ht hP (by rw [hkv]; decide) rfl (by rw [hkv, if_neg (by decide)]) (by rw [if_pos c_4]) (by rw [hkv, if_neg (by decide)]) rfl⟩, hS.F ht⟩) hS.2.2 dX2_message_102
            · refine lv_iconst (v := 1) hx hb dX2_message_90 (by decide) ?_
              refine lv_goto (tgt := 95) hx hb dX2_message_91 (by decide) ?_
              refine va_calli (va_runV (As := [.int 1, .int 1, .int 1]) (rest := []) ⟨hx, hb, hml, hown, htb⟩ (kt_X2_throwing l dC dI md cI H_103.size th nu nm (sk + 1) G v 1 1 1) (cwV 3 htb (us_gV mw_504 mw_506 mw_20 mw_34 mw_507) rfl rfl rfl (by decide +kernel) ⟨Nat.le_of_ble_eq_true rfl, Nat.le_of_ble_eq_true rfl⟩) ⟨um_P_blind, va_recv hK hP (ci := 2) (q0 := 0) rfl rfl, fun U hU hW => ⟨rfl, um_P_at hP hK hD hU hW⟩⟩ rfl rfl hl.1 rfl (lv_room (Nat.le_of_ble_eq_true rfl)) dX2_message_95 ⟨Nat.le_of_ble_eq_true rfl, Nat.le_of_ble_eq_true rfl⟩) hS (fun q _ h => us_AA_le hS q h) (us_AA_le hS) (fun r_122 _ t_123 H_121 locs ht hvm hw hB hz1 hk1 hS => ?_)
              subst hw
              have hP := um_B_use ht hB
              have hD : va_D (us_AA (um_ads md) s.heap.size) (um_W md cI (um_th 1 1 1) nu nm (sk + 1) G v) := us_D_of (by rw [um_W_adr, um_W_adr]) hD
              have hP : va_P (dC, dI) vwCl (um_W md cI (um_th 1 1 1) nu nm (sk + 1) G v) H_121 := hP
              refine lv_if_eq (tgt := 103) hx hb dX2_message_98 (by decide) (fun c_124 => ?_) (fun c_124 => ?_)
              · exact absurd c_124 (by decide)
              · refine lv_iconst (v := 0) hx hb dX2_message_101 (by decide) ?_
                have hkv : um_msgK p1 p2 p3 p4 nu nm = 1 := by first | (simp only [um_msgK, eq_true c_4, eq_false c_87, eq_false c_89, eq_false c_93, eq_true c_106, eq_true c_116, eq_false c_124, if_true, if_false]; done) | (simp [um_msgK, c_4, c_87, c_89, c_93, c_106, c_116, c_124]; done)
                have hsp : um_msgK p1 p2 p3 p4 nu nm = 0 → 0 = nI nm := by exact fun h9 => absurd (hkv.symm.trans h9) (by decide)
                exact W.iret (v := 0) hx hb hr (fun t ht hW => ⟨⟨0, (), rfl, hsp, um_B_of ht hP (by rw [hkv]; decide) rfl (by rw [hkv, if_neg (by decide)]) (by rw [if_pos c_4]) (by rw [hkv, if_neg (by decide)]) rfl⟩, hS.F ht⟩) hS.2.2 dX2_message_102
      · exact absurd c_89 (by decide)
end
section
/-! the reference's order of messages, and what does not matter in its fields -/
theorem um_le_cases {x y : Int32} (h : x ≤ y) : x < y ∨ x = y := by
  rw [Int32.le_iff_toInt_le] at h
  rw [Int32.lt_iff_toInt_lt]
  rcases Int.lt_or_eq_of_le h with h1 | h1
  · exact Or.inl h1
  · exact Or.inr (Int32.toInt_inj.mp h1)
theorem um_not_le {x y : Int32} (h : ¬ x ≤ y) : y < x := Int32.not_le.mp h
theorem um_lt_trans {x y z : Int32} (h1 : x < y) (h2 : y < z) : x < z := Int32.lt_trans h1 h2
theorem um_lt_irr {x : Int32} (h : x < x) : False := Int32.lt_irrefl h
theorem um_lt_asymm {G : Nat → Nat → Int32} {a b : Nat} (h1 : um_lt G a b) (h2 : um_lt G b a) : False := by
  rcases h1 with h1 | ⟨h1, h1'⟩ <;> rcases h2 with h2 | ⟨h2, h2'⟩
  · exact um_lt_irr (um_lt_trans h1 h2)
  · rw [h2] at h1; exact um_lt_irr h1
  · rw [h1] at h2; exact um_lt_irr h2
  · omega
theorem um_nx_or {G : Nat → Nat → Int32} {u b t : Int32} : ∀ m, m ≤ 200 → (um_nx G u b t m = -1 ∧ ∀ k, k < m → um_may G u b t k = 0) ∨ ∃ f, f < m ∧ um_nx G u b t m = nI f ∧ ¬ um_may G u b t f = 0 ∧ ∀ k, k < m → ¬ um_may G u b t k = 0 → k = f ∨ um_lt G f k := by
  intro m
  induction m with
  | zero => intro _; exact Or.inl ⟨rfl, fun k h => absurd h (Nat.not_lt_zero k)⟩
  | succ m ih =>
    intro hm
    have ih := ih (by omega)
    by_cases hy : um_may G u b t m = 0
    · have e : um_nx G u b t (m + 1) = um_nx G u b t m := by rw [um_nx, if_pos hy]
      rcases ih with ⟨h1, h2⟩ | ⟨f, h1, h2, h3, h4⟩
      · refine Or.inl ⟨e.trans h1, fun k hk => ?_⟩
        by_cases hkm : k = m
        · rw [hkm]; exact hy
        · exact h2 k (by omega)
      · refine Or.inr ⟨f, by omega, e.trans h2, h3, fun k hk hky => ?_⟩
        by_cases hkm : k = m
        · rw [hkm] at hky; exact absurd hy hky
        · exact h4 k (by omega) hky
    · rcases ih with ⟨h1, h2⟩ | ⟨f, h1, h2, h3, h4⟩
      · refine Or.inr ⟨m, by omega, by rw [um_nx, if_neg hy, if_pos (by rw [h1]; decide)], hy, fun k hk hky => ?_⟩
        by_cases hkm : k = m
        · exact Or.inl hkm
        · exact absurd (h2 k (by omega)) hky
      · have hn : ¬ um_nx G u b t m < 0 := by rw [h2]; exact nI_pos (by omega)
        have hc : (um_nx G u b t m).toNatClampNeg = f := by rw [h2]; exact nI_clamp (by omega)
        by_cases hle : G 3 f ≤ G 3 m
        · refine Or.inr ⟨f, by omega, by rw [um_nx, if_neg hy, if_neg hn, if_pos (by rw [hc]; exact hle)]; exact h2, h3, fun k hk hky => ?_⟩
          by_cases hkm : k = m
          · subst hkm
            rcases um_le_cases hle with h | h
            · exact Or.inr (Or.inl h)
            · exact Or.inr (Or.inr ⟨h, h1⟩)
          · exact h4 k (by omega) hky
        · have hlt := um_not_le hle
          refine Or.inr ⟨m, by omega, by rw [um_nx, if_neg hy, if_neg hn, if_neg (by rw [hc]; exact hle)], hy, fun k hk hky => ?_⟩
          by_cases hkm : k = m
          · exact Or.inl hkm
          · rcases h4 k (by omega) hky with h | h
            · rw [h]; exact Or.inr (Or.inl hlt)
            · rcases h with h | ⟨h, -⟩
              · exact Or.inr (Or.inl (um_lt_trans hlt h))
              · exact Or.inr (Or.inl (by rw [← h]; exact hlt))
theorem um_nx_gen {G : Nat → Nat → Int32} {u b t : Int32} {nm : Nat} {T : List Nat} (hn : nm ≤ 200) (hT : ∀ k, k ∈ T ↔ k < nm ∧ ¬ um_may G u b t k = 0) (hp : T.Pairwise (um_lt G)) : um_nx G u b t nm = um_hd T := by
  rcases um_nx_or (G := G) (u := u) (b := b) (t := t) nm hn with ⟨h1, h2⟩ | ⟨f, h1, h2, h3, h4⟩
  · cases T with
    | nil => exact h1
    | cons a T =>
      have := (hT a).mp List.mem_cons_self
      exact absurd (h2 a this.1) this.2
  · have hf : f ∈ T := (hT f).mpr ⟨h1, h3⟩
    cases T with
    | nil => cases hf
    | cons a T =>
      have ha := (hT a).mp List.mem_cons_self
      have hfa : f = a := by
        rcases List.mem_cons.mp hf with h | h
        · exact h
        · have h5 := (List.pairwise_cons.mp hp).1 f h
          rcases h4 a ha.1 ha.2 with h6 | h6
          · exact h6.symm
          · exact absurd h6 (fun h6 => um_lt_asymm h5 h6)
      rw [h2, hfa]; rfl
theorem um_ls_mem {G : Nat → Nat → Int32} {nm : Nat} {L : List Nat} (hL : um_ok G nm L) {j : Nat} {t : Int32} {k : Nat} : k ∈ um_ls G L j t ↔ k < nm ∧ G 2 k = nI j ∧ G 3 k ≤ t := by
  unfold um_ls
  rw [List.mem_filter, hL.1 k]
  simp
theorem um_ls_pw {G : Nat → Nat → Int32} {nm : Nat} {L : List Nat} (hL : um_ok G nm L) {j : Nat} {t : Int32} : (um_ls G L j t).Pairwise (um_lt G) := hL.2.filter _
theorem um_may_0 {G : Nat → Nat → Int32} {u t : Int32} {k : Nat} : ¬ um_may G u (-1) t k = 0 ↔ G 2 k = u ∧ G 3 k ≤ t := by
  unfold um_may um_later
  rw [if_pos (show (-1 : Int32) < 0 by decide)]
  by_cases h1 : G 2 k = u
  · by_cases h2 : t < G 3 k
    · simp [h1, h2, Int32.not_le.mpr h2]
    · simp [h1, h2, Int32.not_lt.mp h2]
  · simp [h1]
theorem um_may_at {G : Nat → Nat → Int32} {u t : Int32} {a k : Nat} (ha : a < 200) (hk : k < 200) : ¬ um_may G u (nI a) t k = 0 ↔ G 2 k = u ∧ G 3 k ≤ t ∧ um_lt G a k := by
  unfold um_may um_later um_lt
  rw [if_neg (nI_pos (n := a) (by omega)), nI_clamp (n := a) (by omega)]
  by_cases h1 : G 2 k = u
  · by_cases h2 : t < G 3 k
    · simp [h1, h2, Int32.not_le.mpr h2]
    · have h2' := Int32.not_lt.mp h2
      by_cases h3 : G 3 a < G 3 k
      · simp [h1, h2, h2', h3]
      · by_cases h4 : G 3 k = G 3 a
        · by_cases h5 : nI k ≤ nI a
          · have h6 : ¬ a < k := fun h => nI_ge h (by omega) h5
            simp [h1, h2, h2', h3, h4, h5, h6]
          · have h6 : a < k := by
              rcases Nat.lt_or_ge a k with h | h
              · exact h
              · exact absurd (nI_le h (by omega)) h5
            rw [h4] at h2 h2'
            simp [h1, h2, h2', h4, h5, h6]
        · have h4' : ¬ G 3 a = G 3 k := fun h => h4 h.symm
          simp [h1, h2, h2', h3, h4, h4']
  · simp [h1]
theorem um_nx_0 {G : Nat → Nat → Int32} {nm : Nat} {L : List Nat} (hn : nm ≤ 200) (hL : um_ok G nm L) {j : Nat} {t : Int32} : um_nx G (nI j) (-1) t nm = um_hd (um_ls G L j t) := by
  refine um_nx_gen hn (fun k => ?_) (um_ls_pw hL)
  rw [um_ls_mem hL, um_may_0]
theorem um_nx_at {G : Nat → Nat → Int32} {nm : Nat} {L A T : List Nat} {a : Nat} (hn : nm ≤ 200) (hL : um_ok G nm L) {j : Nat} {t : Int32} (hs : um_ls G L j t = A ++ a :: T) : um_nx G (nI j) (nI a) t nm = um_hd T := by
  have hpw := um_ls_pw (j := j) (t := t) hL
  rw [hs] at hpw
  obtain ⟨hp1, hp2, hp3⟩ := List.pairwise_append.mp hpw
  obtain ⟨hp4, hp5⟩ := List.pairwise_cons.mp hp2
  have ha := (um_ls_mem (j := j) (t := t) (k := a) hL).mp (by rw [hs]; simp)
  refine um_nx_gen hn (fun k => ?_) hp5
  constructor
  · intro hk
    have hk2 := (um_ls_mem (j := j) (t := t) (k := k) hL).mp (by rw [hs]; simp [hk])
    exact ⟨hk2.1, (um_may_at (by omega) (by omega)).mpr ⟨hk2.2.1, hk2.2.2, hp4 k hk⟩⟩
  · rintro ⟨h1, h2⟩
    obtain ⟨h3, h4, h5⟩ := (um_may_at (by omega) (by omega)).mp h2
    have hk : k ∈ A ++ a :: T := by rw [← hs]; exact (um_ls_mem hL).mpr ⟨h1, h3, h4⟩
    rcases List.mem_append.mp hk with h | h
    · exact absurd (hp3 k h a List.mem_cons_self) (fun h6 => um_lt_asymm h5 h6)
    · rcases List.mem_cons.mp h with h | h
      · rw [h] at h5; exact absurd h5 (fun h6 => um_lt_asymm h6 h6)
      · exact h
def um_ag (n : Nat) (v w : Nat → Int32) : Prop := ∀ k, k < n → v k = w k
theorem um_ag_upd {n i : Nat} {v w : Nat → Int32} {x : Int32} (h : um_ag n v w) : um_ag n (upd v i x) (upd w i x) := by
  intro k hk
  by_cases hki : k = i
  · simp [upd, hki]
  · simp [upd, hki, h k hk]
theorem um_ag_12 {v w : Nat → Int32} {x : Int32} (h : um_ag 12 v w) : um_ag 13 (upd v 12 x) (upd w 12 x) := by
  intro k hk
  by_cases hki : k = 12
  · simp [upd, hki]
  · simp [upd, hki, h k (by omega)]
theorem um_ag_le {v w : Nat → Int32} (h : um_ag 13 v w) : um_ag 12 v w := fun k hk => h k (by omega)
theorem um_ag_spend {n : Nat} (hn : 12 ≤ n) {v w : Nat → Int32} {t : Int32} (h : um_ag n v w) : um_ag n (um_spend v t) (um_spend w t) := by
  unfold um_spend
  rw [h 0 (by omega), h 1 (by omega), h 7 (by omega)]
  split
  · exact um_ag_upd h
  · split
    · exact um_ag_upd h
    · split
      · split
        · exact h
        · exact um_ag_upd h
      · split
        · exact h
        · split
          · exact h
          · exact um_ag_upd h
theorem um_ag_become {G : Nat → Nat → Int32} {m : Nat} {v w : Nat → Int32} (h : um_ag 13 v w) : um_ag 13 (um_become G v m) (um_become G w m) := by
  have h2 : um_ag 13 (um_be2 G v m) (um_be2 G w m) := um_ag_upd (um_ag_upd (um_ag_spend (by omega) h))
  unfold um_become
  split
  · exact um_ag_upd h2
  · split
    · exact um_ag_upd h2
    · split
      · exact um_ag_upd (um_ag_upd h2)
      · exact h2
theorem um_ag_tst {G : Nat → Nat → Int32} {j m : Nat} {v w : Nat → Int32} (h : um_ag 13 v w) : um_ag 13 (um_tst G j m v) (um_tst G j m w) := by
  have h2 := um_ag_become (G := G) (m := m) h
  unfold um_tst
  split
  · split
    · exact um_ag_upd h2
    · exact um_ag_upd h2
  · exact um_ag_upd h2
theorem um_ag_take {G : Nat → Nat → Int32} {j m : Nat} {v w : Nat → Int32} (h : um_ag 12 v w) : um_ag 13 (um_take G j m v) (um_take G j m w) := by
  have h2 : um_ag 13 (upd v 12 0) (upd w 12 0) := um_ag_12 h
  unfold um_take
  rw [h 6 (by omega), h 0 (by omega), h 4 (by omega)]
  split
  · split
    · split
      · exact um_ag_upd h2
      · exact um_ag_upd (um_ag_upd h2)
    · split
      · exact um_ag_upd h2
      · split
        · exact um_ag_upd h2
        · split
          · exact um_ag_upd h2
          · exact um_ag_upd h2
  · split
    · exact um_ag_upd h2
    · split
      · exact um_ag_tst h2
      · split
        · exact um_ag_tst h2
        · exact um_ag_upd h2
theorem um_ag_run {G : Nat → Nat → Int32} {j : Nat} : ∀ (T : List Nat) {v w : Nat → Int32}, um_ag 12 v w → um_ag 12 (um_run G j T v) (um_run G j T w)
  | [], _, _, h => h
  | _ :: T, _, _, h => um_ag_run T (um_ag_le (um_ag_take h))
theorem um_ag_run1 {G : Nat → Nat → Int32} {j : Nat} : ∀ (T : List Nat) {v w : Nat → Int32}, um_ag 13 v w → um_ag 13 (um_run G j T v) (um_run G j T w)
  | [], _, _, h => h
  | _ :: T, _, _, h => um_ag_run1 T (um_ag_take (um_ag_le h))
theorem um_ag_init {G : Nat → Nat → Int32} {j : Nat} {v w : Nat → Int32} : um_ag 12 (um_init G j v) (um_init G j w) := by
  intro k hk
  have : k = 0 ∨ k = 1 ∨ k = 2 ∨ k = 3 ∨ k = 4 ∨ k = 5 ∨ k = 6 ∨ k = 7 ∨ k = 8 ∨ k = 9 ∨ k = 10 ∨ k = 11 := by omega
  rcases this with rfl | rfl | rfl | rfl | rfl | rfl | rfl | rfl | rfl | rfl | rfl | rfl <;> rfl
theorem um_fol_ag {G : Nat → Nat → Int32} {L : List Nat} {j k : Nat} {t : Int32} {v : Nat → Int32} (hk : k < 12) : um_fol G L j t v k = um_st G L t j k :=
  um_ag_spend (n := 12) (by omega) (um_ag_run _ um_ag_init) k hk
theorem um_said_ag {G : Nat → Nat → Int32} {j a : Nat} {T : List Nat} {v w : Nat → Int32} : um_run G j (a :: T) (um_init G j v) 12 = um_run G j (a :: T) (um_init G j w) 12 :=
  um_ag_run1 T (um_ag_take um_ag_init) 12 (by omega)
theorem um_in_spec {x : Int32} {n : Nat} (hn : n ≤ 200) (h : ¬ um_in x 0 (nI n - 1) = 0) : ∃ j : Nat, j < n ∧ x = nI j := by
  unfold um_in at h
  by_cases h1 : x < 0
  · rw [if_pos h1] at h; exact absurd rfl h
  · rw [if_neg h1] at h
    by_cases h2 : nI n - 1 < x
    · rw [if_pos h2] at h; exact absurd rfl h
    · cases n with
      | zero =>
        exfalso
        have h3 : x.toInt ≤ (nI 0 - 1).toInt := Int32.le_iff_toInt_le.mp (Int32.not_lt.mp h2)
        have h4 : (0 : Int32).toInt ≤ x.toInt := Int32.le_iff_toInt_le.mp (Int32.not_lt.mp h1)
        have e1 : (nI 0 - 1).toInt = -1 := by decide
        have e2 : (0 : Int32).toInt = 0 := by decide
        omega
      | succ k =>
        rw [nI_pred] at h2
        rcases pk_ix x (n := k + 1) (by omega) with h3 | h3 | h3
        · exact absurd h3 h1
        · exact absurd (Int32.not_lt.mp h2) (fun h4 => nI_ge (Nat.lt_succ_self k) (by omega) (Int32.le_trans h3 h4))
        · exact h3
theorem um_hd_pos {m : Nat} (h : m < 200) : ¬ nI m < 0 := nI_pos (by omega)
theorem um_ne_m1 {m : Nat} (h : m < 200) : ¬ nI m = (-1 : Int32) := by
  intro e
  have := nI_pos (n := m) (by omega)
  rw [e] at this
  exact this (by decide)
end
