section
-- ===== PART A: goes FIRST, ahead of the names: the tables' words, and 'selects' of the private methods out of them =====
/-- a private method of a class that the tables say can be made, by its rows of tables_1 -/
def lw_okq (q : MethodName × Nat) : Prop := (q.1.cls ≠ "java/lang/invoke/MethodHandle" ∧ q.1.cls ≠ "java/lang/invoke/VarHandle") ∧ Cond.instantiable q.1.cls q.2 ∈ tables_1 ∧ Cond.privateMethod q.1 ∈ tables_1 ∧ Cond.instanceMethod q.1 ∈ tables_1
theorem lw_p0 : lw_okq (⟨"KanbanLoop$Stage", "unitsHeld", "()I"⟩, 18) := ⟨⟨by decide +kernel, by decide +kernel⟩, List.mem_of_getElem? (i := 77) (by decide +kernel), List.mem_of_getElem? (i := 75) (by decide +kernel), List.mem_of_getElem? (i := 76) (by decide +kernel)⟩
theorem lw_p1 : lw_okq (⟨"KanbanLoop$Store", "allUnits", "()I"⟩, 3) := ⟨⟨by decide +kernel, by decide +kernel⟩, List.mem_of_getElem? (i := 82) (by decide +kernel), List.mem_of_getElem? (i := 80) (by decide +kernel), List.mem_of_getElem? (i := 81) (by decide +kernel)⟩
theorem lw_p2 : lw_okq (⟨"KanbanLoop$Road", "allUnits", "()I"⟩, 3) := ⟨⟨by decide +kernel, by decide +kernel⟩, List.mem_of_getElem? (i := 87) (by decide +kernel), List.mem_of_getElem? (i := 85) (by decide +kernel), List.mem_of_getElem? (i := 86) (by decide +kernel)⟩
theorem lw_p3 : lw_okq (⟨"java/lang/Throwable", "fillInStackTrace", "(I)Ljava/lang/Throwable;"⟩, 6) := ⟨⟨by decide +kernel, by decide +kernel⟩, List.mem_of_getElem? (i := 144) (by decide +kernel), List.mem_of_getElem? (i := 142) (by decide +kernel), List.mem_of_getElem? (i := 143) (by decide +kernel)⟩
theorem lw_p4 : lw_okq (⟨"KanbanLoop", "findFed", "(I)LKanbanLoop$Stage;"⟩, 8) := ⟨⟨by decide +kernel, by decide +kernel⟩, List.mem_of_getElem? (i := 14) (by decide +kernel), List.mem_of_getElem? (i := 313) (by decide +kernel), List.mem_of_getElem? (i := 314) (by decide +kernel)⟩
theorem lw_p5 : lw_okq (⟨"KanbanLoop", "find", "(I)LKanbanLoop$Stage;"⟩, 8) := ⟨⟨by decide +kernel, by decide +kernel⟩, List.mem_of_getElem? (i := 14) (by decide +kernel), List.mem_of_getElem? (i := 317) (by decide +kernel), List.mem_of_getElem? (i := 318) (by decide +kernel)⟩
theorem lw_p6 : lw_okq (⟨"KanbanLoop", "wayBehind", "(LKanbanLoop$Stage;)I"⟩, 8) := ⟨⟨by decide +kernel, by decide +kernel⟩, List.mem_of_getElem? (i := 14) (by decide +kernel), List.mem_of_getElem? (i := 399) (by decide +kernel), List.mem_of_getElem? (i := 400) (by decide +kernel)⟩
theorem lw_p7 : lw_okq (⟨"KanbanLoop", "passOneStep", "(LKanbanLoop$Stage;)V"⟩, 8) := ⟨⟨by decide +kernel, by decide +kernel⟩, List.mem_of_getElem? (i := 14) (by decide +kernel), List.mem_of_getElem? (i := 414) (by decide +kernel), List.mem_of_getElem? (i := 415) (by decide +kernel)⟩
theorem lw_p8 : lw_okq (⟨"KanbanLoop", "serveCustomers", "(LKanbanLoop$Stage;)V"⟩, 8) := ⟨⟨by decide +kernel, by decide +kernel⟩, List.mem_of_getElem? (i := 14) (by decide +kernel), List.mem_of_getElem? (i := 418) (by decide +kernel), List.mem_of_getElem? (i := 419) (by decide +kernel)⟩
theorem lw_p9 : lw_okq (⟨"KanbanLoop$Store", "takeOut", "(IZ)I"⟩, 3) := ⟨⟨by decide +kernel, by decide +kernel⟩, List.mem_of_getElem? (i := 82) (by decide +kernel), List.mem_of_getElem? (i := 423) (by decide +kernel), List.mem_of_getElem? (i := 424) (by decide +kernel)⟩
theorem lw_p10 : lw_okq (⟨"KanbanLoop$Store", "removeHead", "()V"⟩, 3) := ⟨⟨by decide +kernel, by decide +kernel⟩, List.mem_of_getElem? (i := 82) (by decide +kernel), List.mem_of_getElem? (i := 427) (by decide +kernel), List.mem_of_getElem? (i := 428) (by decide +kernel)⟩
theorem lw_p11 : lw_okq (⟨"KanbanLoop$Stage", "work", "(Z)V"⟩, 18) := ⟨⟨by decide +kernel, by decide +kernel⟩, List.mem_of_getElem? (i := 77) (by decide +kernel), List.mem_of_getElem? (i := 431) (by decide +kernel), List.mem_of_getElem? (i := 432) (by decide +kernel)⟩
theorem lw_p12 : lw_okq (⟨"KanbanLoop$Stage", "goOn", "()V"⟩, 18) := ⟨⟨by decide +kernel, by decide +kernel⟩, List.mem_of_getElem? (i := 77) (by decide +kernel), List.mem_of_getElem? (i := 435) (by decide +kernel), List.mem_of_getElem? (i := 436) (by decide +kernel)⟩
theorem lw_p13 : lw_okq (⟨"KanbanLoop$Store", "add", "(I)V"⟩, 3) := ⟨⟨by decide +kernel, by decide +kernel⟩, List.mem_of_getElem? (i := 82) (by decide +kernel), List.mem_of_getElem? (i := 439) (by decide +kernel), List.mem_of_getElem? (i := 440) (by decide +kernel)⟩
theorem lw_p14 : lw_okq (⟨"KanbanLoop$Stage", "begin", "(Z)V"⟩, 18) := ⟨⟨by decide +kernel, by decide +kernel⟩, List.mem_of_getElem? (i := 77) (by decide +kernel), List.mem_of_getElem? (i := 443) (by decide +kernel), List.mem_of_getElem? (i := 444) (by decide +kernel)⟩
theorem lw_p15 : lw_okq (⟨"KanbanLoop$Stage", "convey", "()V"⟩, 18) := ⟨⟨by decide +kernel, by decide +kernel⟩, List.mem_of_getElem? (i := 77) (by decide +kernel), List.mem_of_getElem? (i := 448) (by decide +kernel), List.mem_of_getElem? (i := 449) (by decide +kernel)⟩
def lw_privs_1 : List (MethodName × Nat) := [(⟨"KanbanLoop$Stage", "unitsHeld", "()I"⟩, 18), (⟨"KanbanLoop$Store", "allUnits", "()I"⟩, 3), (⟨"KanbanLoop$Road", "allUnits", "()I"⟩, 3), (⟨"java/lang/Throwable", "fillInStackTrace", "(I)Ljava/lang/Throwable;"⟩, 6), (⟨"KanbanLoop", "findFed", "(I)LKanbanLoop$Stage;"⟩, 8), (⟨"KanbanLoop", "find", "(I)LKanbanLoop$Stage;"⟩, 8), (⟨"KanbanLoop", "wayBehind", "(LKanbanLoop$Stage;)I"⟩, 8), (⟨"KanbanLoop", "passOneStep", "(LKanbanLoop$Stage;)V"⟩, 8), (⟨"KanbanLoop", "serveCustomers", "(LKanbanLoop$Stage;)V"⟩, 8), (⟨"KanbanLoop$Store", "takeOut", "(IZ)I"⟩, 3), (⟨"KanbanLoop$Store", "removeHead", "()V"⟩, 3), (⟨"KanbanLoop$Stage", "work", "(Z)V"⟩, 18), (⟨"KanbanLoop$Stage", "goOn", "()V"⟩, 18), (⟨"KanbanLoop$Store", "add", "(I)V"⟩, 3), (⟨"KanbanLoop$Stage", "begin", "(Z)V"⟩, 18), (⟨"KanbanLoop$Stage", "convey", "()V"⟩, 18)]
theorem lw_r1 : ∀ q ∈ lw_privs_1, lw_okq q := List.forall_mem_cons.mpr ⟨lw_p0, List.forall_mem_cons.mpr ⟨lw_p1, List.forall_mem_cons.mpr ⟨lw_p2, List.forall_mem_cons.mpr ⟨lw_p3, List.forall_mem_cons.mpr ⟨lw_p4, List.forall_mem_cons.mpr ⟨lw_p5, List.forall_mem_cons.mpr ⟨lw_p6, List.forall_mem_cons.mpr ⟨lw_p7, List.forall_mem_cons.mpr ⟨lw_p8, List.forall_mem_cons.mpr ⟨lw_p9, List.forall_mem_cons.mpr ⟨lw_p10, List.forall_mem_cons.mpr ⟨lw_p11, List.forall_mem_cons.mpr ⟨lw_p12, List.forall_mem_cons.mpr ⟨lw_p13, List.forall_mem_cons.mpr ⟨lw_p14, List.forall_mem_cons.mpr ⟨lw_p15, fun _ h => absurd h List.not_mem_nil⟩⟩⟩⟩⟩⟩⟩⟩⟩⟩⟩⟩⟩⟩⟩⟩
theorem lw_p16 : lw_okq (⟨"KanbanLoop$Road", "bringTo", "(LKanbanLoop$Store;)V"⟩, 3) := ⟨⟨by decide +kernel, by decide +kernel⟩, List.mem_of_getElem? (i := 87) (by decide +kernel), List.mem_of_getElem? (i := 452) (by decide +kernel), List.mem_of_getElem? (i := 453) (by decide +kernel)⟩
theorem lw_p17 : lw_okq (⟨"KanbanLoop$Stage", "fetchFrom", "(LKanbanLoop$Stage;)V"⟩, 18) := ⟨⟨by decide +kernel, by decide +kernel⟩, List.mem_of_getElem? (i := 77) (by decide +kernel), List.mem_of_getElem? (i := 458) (by decide +kernel), List.mem_of_getElem? (i := 459) (by decide +kernel)⟩
theorem lw_p18 : lw_okq (⟨"KanbanLoop$Store", "headUnits", "()I"⟩, 3) := ⟨⟨by decide +kernel, by decide +kernel⟩, List.mem_of_getElem? (i := 82) (by decide +kernel), List.mem_of_getElem? (i := 462) (by decide +kernel), List.mem_of_getElem? (i := 463) (by decide +kernel)⟩
theorem lw_p19 : lw_okq (⟨"KanbanLoop$Store", "headIsCarded", "()Z"⟩, 3) := ⟨⟨by decide +kernel, by decide +kernel⟩, List.mem_of_getElem? (i := 82) (by decide +kernel), List.mem_of_getElem? (i := 466) (by decide +kernel), List.mem_of_getElem? (i := 467) (by decide +kernel)⟩
theorem lw_p20 : lw_okq (⟨"KanbanLoop$Road", "add", "(II)V"⟩, 3) := ⟨⟨by decide +kernel, by decide +kernel⟩, List.mem_of_getElem? (i := 87) (by decide +kernel), List.mem_of_getElem? (i := 471) (by decide +kernel), List.mem_of_getElem? (i := 472) (by decide +kernel)⟩
theorem lw_p21 : lw_okq (⟨"KanbanLoop$Store", "cardsOn", "()I"⟩, 3) := ⟨⟨by decide +kernel, by decide +kernel⟩, List.mem_of_getElem? (i := 82) (by decide +kernel), List.mem_of_getElem? (i := 489) (by decide +kernel), List.mem_of_getElem? (i := 490) (by decide +kernel)⟩
theorem lw_p22 : lw_okq (⟨"KanbanLoopModel", "comesToMarket", "(II)V"⟩, 30) := ⟨⟨by decide +kernel, by decide +kernel⟩, List.mem_of_getElem? (i := 550) (by decide +kernel), List.mem_of_getElem? (i := 658) (by decide +kernel), List.mem_of_getElem? (i := 659) (by decide +kernel)⟩
theorem lw_p23 : lw_okq (⟨"KanbanLoopModel", "asks", "(II)Z"⟩, 30) := ⟨⟨by decide +kernel, by decide +kernel⟩, List.mem_of_getElem? (i := 550) (by decide +kernel), List.mem_of_getElem? (i := 666) (by decide +kernel), List.mem_of_getElem? (i := 667) (by decide +kernel)⟩
theorem lw_p24 : lw_okq (⟨"KanbanLoopModel", "marketOf", "(I)I"⟩, 30) := ⟨⟨by decide +kernel, by decide +kernel⟩, List.mem_of_getElem? (i := 550) (by decide +kernel), List.mem_of_getElem? (i := 710) (by decide +kernel), List.mem_of_getElem? (i := 711) (by decide +kernel)⟩
theorem lw_p25 : lw_okq (⟨"KanbanLoopModel", "sells", "(I)V"⟩, 30) := ⟨⟨by decide +kernel, by decide +kernel⟩, List.mem_of_getElem? (i := 550) (by decide +kernel), List.mem_of_getElem? (i := 714) (by decide +kernel), List.mem_of_getElem? (i := 715) (by decide +kernel)⟩
theorem lw_p26 : lw_okq (⟨"KanbanLoopModel", "leavesMarket", "(I)V"⟩, 30) := ⟨⟨by decide +kernel, by decide +kernel⟩, List.mem_of_getElem? (i := 550) (by decide +kernel), List.mem_of_getElem? (i := 718) (by decide +kernel), List.mem_of_getElem? (i := 719) (by decide +kernel)⟩
theorem lw_p27 : lw_okq (⟨"KanbanLoopModel", "works", "(I)V"⟩, 30) := ⟨⟨by decide +kernel, by decide +kernel⟩, List.mem_of_getElem? (i := 550) (by decide +kernel), List.mem_of_getElem? (i := 722) (by decide +kernel), List.mem_of_getElem? (i := 723) (by decide +kernel)⟩
theorem lw_p28 : lw_okq (⟨"KanbanLoopModel", "inboxOf", "(I)I"⟩, 30) := ⟨⟨by decide +kernel, by decide +kernel⟩, List.mem_of_getElem? (i := 550) (by decide +kernel), List.mem_of_getElem? (i := 726) (by decide +kernel), List.mem_of_getElem? (i := 727) (by decide +kernel)⟩
theorem lw_p29 : lw_okq (⟨"KanbanLoopModel", "uses", "(II)V"⟩, 30) := ⟨⟨by decide +kernel, by decide +kernel⟩, List.mem_of_getElem? (i := 550) (by decide +kernel), List.mem_of_getElem? (i := 730) (by decide +kernel), List.mem_of_getElem? (i := 731) (by decide +kernel)⟩
theorem lw_p30 : lw_okq (⟨"KanbanLoopModel", "conveys", "(I)V"⟩, 30) := ⟨⟨by decide +kernel, by decide +kernel⟩, List.mem_of_getElem? (i := 550) (by decide +kernel), List.mem_of_getElem? (i := 734) (by decide +kernel), List.mem_of_getElem? (i := 735) (by decide +kernel)⟩
theorem lw_p31 : lw_okq (⟨"KanbanLoopModel", "comesToInbox", "(II)V"⟩, 30) := ⟨⟨by decide +kernel, by decide +kernel⟩, List.mem_of_getElem? (i := 550) (by decide +kernel), List.mem_of_getElem? (i := 738) (by decide +kernel), List.mem_of_getElem? (i := 739) (by decide +kernel)⟩
def lw_privs_2 : List (MethodName × Nat) := [(⟨"KanbanLoop$Road", "bringTo", "(LKanbanLoop$Store;)V"⟩, 3), (⟨"KanbanLoop$Stage", "fetchFrom", "(LKanbanLoop$Stage;)V"⟩, 18), (⟨"KanbanLoop$Store", "headUnits", "()I"⟩, 3), (⟨"KanbanLoop$Store", "headIsCarded", "()Z"⟩, 3), (⟨"KanbanLoop$Road", "add", "(II)V"⟩, 3), (⟨"KanbanLoop$Store", "cardsOn", "()I"⟩, 3), (⟨"KanbanLoopModel", "comesToMarket", "(II)V"⟩, 30), (⟨"KanbanLoopModel", "asks", "(II)Z"⟩, 30), (⟨"KanbanLoopModel", "marketOf", "(I)I"⟩, 30), (⟨"KanbanLoopModel", "sells", "(I)V"⟩, 30), (⟨"KanbanLoopModel", "leavesMarket", "(I)V"⟩, 30), (⟨"KanbanLoopModel", "works", "(I)V"⟩, 30), (⟨"KanbanLoopModel", "inboxOf", "(I)I"⟩, 30), (⟨"KanbanLoopModel", "uses", "(II)V"⟩, 30), (⟨"KanbanLoopModel", "conveys", "(I)V"⟩, 30), (⟨"KanbanLoopModel", "comesToInbox", "(II)V"⟩, 30)]
theorem lw_r2 : ∀ q ∈ lw_privs_2, lw_okq q := List.forall_mem_cons.mpr ⟨lw_p16, List.forall_mem_cons.mpr ⟨lw_p17, List.forall_mem_cons.mpr ⟨lw_p18, List.forall_mem_cons.mpr ⟨lw_p19, List.forall_mem_cons.mpr ⟨lw_p20, List.forall_mem_cons.mpr ⟨lw_p21, List.forall_mem_cons.mpr ⟨lw_p22, List.forall_mem_cons.mpr ⟨lw_p23, List.forall_mem_cons.mpr ⟨lw_p24, List.forall_mem_cons.mpr ⟨lw_p25, List.forall_mem_cons.mpr ⟨lw_p26, List.forall_mem_cons.mpr ⟨lw_p27, List.forall_mem_cons.mpr ⟨lw_p28, List.forall_mem_cons.mpr ⟨lw_p29, List.forall_mem_cons.mpr ⟨lw_p30, List.forall_mem_cons.mpr ⟨lw_p31, fun _ h => absurd h List.not_mem_nil⟩⟩⟩⟩⟩⟩⟩⟩⟩⟩⟩⟩⟩⟩⟩⟩
def lw_privs : List (MethodName × Nat) := lw_privs_1 ++ (lw_privs_2)
def lw_tbl : List Cond := k2_sels lw_privs ++ tables_1
theorem lw_privs_ok : ∀ q ∈ lw_privs, lw_okq q := by
  show ∀ q ∈ lw_privs_1 ++ (lw_privs_2), lw_okq q
  exact List.forall_mem_append.mpr ⟨lw_r1, lw_r2⟩
-- ===== end of PART A; then your names; then what follows =====
/-! ===== BEGIN words of one list among another's, by their places ===== -/
theorem goodIn_r {big : List Cond} (ws : List Cond) (ps : List Nat) (hp : ws = ps.filterMap (fun i => big[i]?)) (h : ws.all goodWord = true) : GoodIn big ws := by
  intro w hw
  have h1 := List.all_eq_true.mp h w hw
  rw [hp] at hw
  obtain ⟨i, -, hi⟩ := List.mem_filterMap.mp hw
  have hm : w ∈ big := by first | exact List.mem_of_getElem? hi | exact List.getElem?_mem hi
  exact ⟨hm, good_of_word h1⟩
theorem goodIn_app {big a b : List Cond} (ha : GoodIn big a) (hb : GoodIn big b) : GoodIn big (a ++ b) := fun w h => (List.mem_append.mp h).elim (ha w) (hb w)
theorem goodIn_ca {big a b : List Cond} {c : Cond} (ha : GoodIn big (c :: a)) (hb : GoodIn big b) : GoodIn big (c :: (a ++ b)) := fun w h => (List.mem_cons.mp h).elim (fun e => ha w (List.mem_cons.mpr (Or.inl e))) (fun h => (List.mem_append.mp h).elim (fun h => ha w (List.mem_cons.mpr (Or.inr h))) (hb w))
theorem goodIn_sub {big ws : List Cond} (hm : ∀ w ∈ ws, w ∈ big) (h : ws.all goodWord = true) : GoodIn big ws := fun w hw => ⟨hm w hw, good_of_word (List.all_eq_true.mp h w hw)⟩
/-! ===== END ===== -/

/-! ===== BEGIN exceptions that leave a method, and their catching by the caller (launches without stack traces) ===== -/
section VXA
/-! The laws vx_back, vx_callV, vx_callS, vx_callSW, vx_throw0, vx_throwS follow proofs of the library, with one case more: JvmDerived/Free/Laws.lean (Back.of_free), Shelf42/LK1.lean (callV, callS), Shelf/KitTraced.lean (throwNew0V, throwNewS). -/
/-- where a method has thrown q: the class by its name, the cell, what was written, the world -/
def vx_T (XC : String → State → State → Prop) (st : State) (q : Addr) (t : State) (mc ms : Nat) (free : Addr → Prop) : Prop :=
  ∃ (E : String) (ce : Cell) (L : List Loc), XC E st t ∧ t.heap[q]? = some ce ∧ ce.vm = .none ∧ st.vm.findClass E = some ce.cls ∧ st.WarmedH t.vm ∧ st.sameButNew ({ t with vm := st.vm } : State) L mc ms ∧ ∀ z ∈ L, free z.base
def vx_Q (Qc : Array Value → State → Outcome → State → Prop) (XC : String → State → State → Prop) (mc ms : Nat) (free : Addr → Prop) : Array Value → State → Outcome → State → Prop := fun a st o t =>
  (Qc a st o t ∧ ∃ L, FrameEnd st o t L mc ms ∧ ∀ q ∈ L, free q.base) ∨ ∃ q, o = .threw q ∧ vx_T XC st q t mc ms free
/-- a callee that returns or throws -/
def vx_Met (l : Launch) (y : MethodName) (ws : List Cond) (rm : Room) (Pc : Array Value → State → Prop) (Qc : Array Value → State → Outcome → State → Prop) (XC : String → State → State → Prop) (mc ms : Nat) (free : Addr → Prop) : Prop :=
  MetFree l y (headSpec ws rm) Pc (fun _ _ _ _ _ => True) (vx_Q Qc XC mc ms free)
def vx_Post (XC : String → State → State → Prop) (mc ms : Nat) (free : Addr → Prop) : Pt → Array Value → Addr → Pt → Prop := fun A a q B =>
  ∃ (g : JFrame) (mk : MethodId) (t : State) (L : List Loc) (E : String) (ce : Cell), B.U.heap = t.heap ∧ B.U.vm = t.vm ∧ XC E (A.U.calling g mk a) t ∧ t.heap[q]? = some ce ∧ ce.vm = .none ∧ A.U.vm.findClass E = some ce.cls ∧ B.locs = A.locs ++ L ∧ (∀ z ∈ L, free z.base) ∧ B.cells = A.cells + mc ∧ B.slots = A.slots + ms
def vx_Back (l : Launch) (R : Room) (p : Program) (e : Env) (below : List Frame) (s : State) (sargs : Array Value) (y : MethodName) (len W9 : Nat)
    (Pre : Pt → Array Value → Prop) (Post : Pt → Array Value → Option Value → Pt → Prop) (PostX : Pt → Array Value → Addr → Pt → Prop) : Prop :=
  ∀ (m : MethodId) (meth : Method) (c : Code) (A : Pt) (g : JFrame) (ig : Instr) (mk : MethodId) (a : Array Value),
    Stand p l e R s m sargs below meth c A.U A.locs A.cells A.slots → g.method = m → g.locals.size = c.maxLocals → decode c.code g.pc = .ok (ig, len) →
    2 * g.monitorRoom + (g.stack.map fun v => v.category).sum ≤ W9 → A.U.methodNamed? y = some mk → Pre A a →
    (∃ (v : Option Value) (B : Pt), Stand p l e R s m sargs below meth c B.U B.locs B.cells B.slots ∧ Post A a v B ∧
      Steps p.tables e below (doInvoke e (A.U.setTop g) [] mk a).1 (B.U.setTop { g with pc := g.pc + len, stack := v.toList ++ g.stack })) ∨
    (∃ (q : Addr) (B : Pt), Stand p l e R s m sargs below meth c B.U B.locs B.cells B.slots ∧ PostX A a q B ∧
      Steps p.tables e below (doInvoke e (A.U.setTop g) [] mk a).1 ((B.U.setTop g).pushFrame (.throwing q)))
section Payer
variable {l : Launch} {R : Room} {p : Program} {e : Env} {below : List Frame} {s : State} {sargs : Array Value} {y : MethodName} {len W9 : Nat}
theorem vx_back {ws : List Cond} {rm : Room} {Pc : Array Value → State → Prop} {Qc : Array Value → State → Outcome → State → Prop} {XC : String → State → State → Prop} {mc ms : Nat} {free : Addr → Prop} {bytes : ByteArray} {maxL : Nat} {ret : Option FieldType}
    (hM : vx_Met l y ws rm Pc Qc XC mc ms free) (hblind : FrameBlind Pc) (hrc : rm.cells = mc) (hrs : rm.slots = ms)
    (hframes : rm.frames + 1 ≤ R.frames) (hlocals : W9 + (maxL + 11) + rm.locals ≤ R.locals)
    (hws : ∀ w ∈ ws, ∀ a' U, s.WarmedH U.vm → w.before a' U = true) (hcode : Cond.code y bytes maxL ret ∈ ws) (hinit : ∀ a' U, s.WarmedH U.vm → (Cond.initialized y.cls).before a' U = true) :
    vx_Back l R p e below s sargs y len W9 (PreOf R mc ms Pc) (PostOf Qc mc ms free) (vx_Post XC mc ms free) := by
  intro m meth c A g ig mk a X hg hsize hdg hW hn hp
  have h1 : (headSpec ws rm).pre.before a A.U = true := atoms_intro fun w hw => hws w hw _ _ X.warmed
  have h2 : (Cond.code y bytes maxL ret).before a A.U = true := hws _ hcode _ _ X.warmed
  have h3 : (Cond.initialized y.cls).before a A.U = true := hinit _ _ X.warmed
  have h4 : A.cells + (headSpec ws rm).room.cells ≤ R.cells := by rw [show (headSpec ws rm).room.cells = mc from hrc]; exact hp.1
  have h5 : A.slots + (headSpec ws rm).room.slots ≤ R.slots := by rw [show (headSpec ws rm).room.slots = ms from hrs]; exact hp.2.1
  have hPc : Pc a (A.U.calling g mk a) := hblind _ _ _ _ hp.2.2
  obtain ⟨U, Ls, c0, s0⟩ := A
  dsimp only [Pt.U, Pt.locs, Pt.cells, Pt.slots] at h1 h2 h3 h4 h5 X hn hPc ⊢
  obtain ⟨methY, cY, hmY, hcY, -, hlY, -, -, -, -⟩ := Cond.code_spec hn h2
  obtain ⟨kY, hkY, -⟩ := className_of_methodNamed hn
  have hinitY : kY.init = .initialized := Cond.initialized_spec (findClass_of_methodNamed hn) hkY h3
  have h : At U g.method c below := by rw [hg]; exact X.here
  have hlocals9 : W9 + (maxL + 11) + (headSpec ws rm).room.locals ≤ R.locals := hlocals
  have happ : (headSpec ws rm).appliesLoose y e.platform (U.calling g mk a) = true :=
    Spec.appliesLoose_calling (g := g) h hdg hn hkY hinitY
      (X.room_calling (g := g) (R' := (headSpec ws rm).room) hsize hmY hcY hframes (by rw [hlY]; omega) h4 h5) h1
  obtain ⟨mid, hmid⟩ := h.above
  have hfr : (U.setTop g).frames = (.java g :: mid) ++ below := by rw [State.frames_setTop' g h.top, hmid]; rfl
  obtain ⟨o, s₂, hsteps, -, hend, hq⟩ := Steps.callFree hM p X.admits X.cas X.clock (acts := []) hfr happ hPc trivial
  have hq' : vx_Q Qc XC mc ms free a (U.calling g mk a) o s₂ := hq
  rw [State.frames_setTop' g h.top] at hend
  obtain ⟨g₀, hg0⟩ := Option.isSome_iff_exists.mp h.top
  obtain ⟨r, hr⟩ := State.topJava?_eq_some.mp hg0
  have hr' : (({ U with heap := s₂.heap, slotsUsed := s₂.slotsUsed } : State).setVm s₂.vm).frames = .java g₀ :: r := hr
  rcases hq' with ⟨hqc, L, hfe, hL⟩ | ⟨q, rfl, E, ce, L, hx, hce, hcv, hcl, hW₂, hsm, hL⟩
  · obtain ⟨⟨v, rfl⟩, hW₂, e2, q2, q3, q4, q5, q6⟩ := id hfe
    have e3 : s₂ = ({ (U.calling g mk a).setFrames s₂.frames with heap := s₂.heap, slotsUsed := s₂.slotsUsed } : State).setVm s₂.vm := by
      have : s₂ = ({ s₂ with vm := (U.calling g mk a).vm } : State).setVm s₂.vm := rfl
      rw [e2] at this
      exact this
    obtain ⟨c₂, i₂, len₂, hc₂, hd₂, hf₂⟩ := hend
    have hW' : U.WarmedH s₂.vm := hW₂
    have hcc : c₂ = c := by
      have h1 : s₂.code? g.method = U.code? g.method := by
        rw [State.code?_eq, State.code?_eq, hW'.alike.method?]
      exact Option.some.inj (hc₂.symm.trans (h1.trans h.code))
    subst hcc
    have hlen : len₂ = len := by rw [hdg] at hd₂; cases hd₂; rfl
    subst hlen
    have hs₂ : s₂ = (({ U with heap := s₂.heap, slotsUsed := s₂.slotsUsed } : State).setVm s₂.vm).setTop { g with pc := g.pc + len₂, stack := v.toList ++ g.stack } := by
      refine e3.trans ?_
      rw [hf₂, State.calling_eq h.top, State.setFrames_setFrames, State.setTop_of_frames _ hr', hr]
      rfl
    have hsame : U.sameButNew ({ U with heap := s₂.heap, slotsUsed := s₂.slotsUsed } : State) L mc ms := by
      refine ⟨?_, q2, q3, q4, q5, q6⟩
      obtain ⟨t, ht, -⟩ := State.frames_cons hr
      show ({ U with heap := s₂.heap, slotsUsed := s₂.slotsUsed } : State) = { U.setFrames U.frames with heap := s₂.heap, slotsUsed := s₂.slotsUsed }
      rw [State.setFrames_self ht]
    subst hg
    refine Or.inl ⟨v, ⟨(({ U with heap := s₂.heap, slotsUsed := s₂.slotsUsed } : State).setVm s₂.vm), Ls ++ L, c0 + mc, s0 + ms⟩,
      ⟨X.admits, X.cas, X.clock, X.frames, X.room, X.hears, X.method, X.code, (X.here.setHeapUsed s₂.heap s₂.slotsUsed).setVm hW'.alike, X.tail, State.WarmedH.trans X.warmed hW', X.limits, X.bytes, X.same.trans (hsame.setVm s.vm)⟩,
      ⟨g, mk, s₂, L, rfl, rfl, hqc, rfl, hL, rfl, rfl⟩, ?_⟩
    show Steps p.tables e below _ ((({ U with heap := s₂.heap, slotsUsed := s₂.slotsUsed } : State).setVm s₂.vm).setTop { g with pc := g.pc + len₂, stack := v.toList ++ g.stack })
    rw [← hs₂]
    exact hsteps
  · obtain ⟨e2, q2, q3, q4, q5, q6⟩ := id hsm
    have e3 : s₂ = ({ (U.calling g mk a).setFrames s₂.frames with heap := s₂.heap, slotsUsed := s₂.slotsUsed } : State).setVm s₂.vm := by
      have : s₂ = ({ s₂ with vm := (U.calling g mk a).vm } : State).setVm s₂.vm := rfl
      rw [e2] at this
      exact this
    have hf₂ : s₂.frames = .throwing q :: .java g :: U.frames.tail := hend
    have hW' : U.WarmedH s₂.vm := hW₂
    have hs₂ : s₂ = ((({ U with heap := s₂.heap, slotsUsed := s₂.slotsUsed } : State).setVm s₂.vm).setTop g).pushFrame (.throwing q) := by
      refine e3.trans ?_
      rw [hf₂, State.calling_eq h.top, State.setFrames_setFrames, State.pushFrame, State.frames_setTop _ hr', State.setTop_of_frames _ hr', State.setFrames_setFrames, hr]
      rfl
    have hsame : U.sameButNew ({ U with heap := s₂.heap, slotsUsed := s₂.slotsUsed } : State) L mc ms := by
      refine ⟨?_, q2, q3, q4, q5, q6⟩
      obtain ⟨t, ht, -⟩ := State.frames_cons hr
      show ({ U with heap := s₂.heap, slotsUsed := s₂.slotsUsed } : State) = { U.setFrames U.frames with heap := s₂.heap, slotsUsed := s₂.slotsUsed }
      rw [State.setFrames_self ht]
    subst hg
    refine Or.inr ⟨q, ⟨(({ U with heap := s₂.heap, slotsUsed := s₂.slotsUsed } : State).setVm s₂.vm), Ls ++ L, c0 + mc, s0 + ms⟩,
      ⟨X.admits, X.cas, X.clock, X.frames, X.room, X.hears, X.method, X.code, (X.here.setHeapUsed s₂.heap s₂.slotsUsed).setVm hW'.alike, X.tail, State.WarmedH.trans X.warmed hW', X.limits, X.bytes, X.same.trans (hsame.setVm s.vm)⟩,
      ⟨g, mk, s₂, L, E, ce, rfl, rfl, hx, hce, hcv, hcl, rfl, hL, rfl, rfl⟩, ?_⟩
    show Steps p.tables e below _ (((({ U with heap := s₂.heap, slotsUsed := s₂.slotsUsed } : State).setVm s₂.vm).setTop g).pushFrame (.throwing q))
    rw [← hs₂]
    exact hsteps
end Payer
section Calls
variable {p : Program} {l : Launch} {e : Env} {R : Room} {s : State} {m : MethodId} {args : Array Value} {below : List Frame} {meth : Method} {c : Code} {T : State} {locs : List Loc} {cells slots : Nat}
theorem vx_callV (X : Stand p l e R s m args below meth c T locs cells slots) (hexec : p.tables.exec = Jvm.exec) {own C : String} {index : Nat} {y : MethodName} {bytes : ByteArray} {maxL : Nat} {ret : Option FieldType}
    (hown : s.vm.findClass own = some m.cls) (hlink : (Cond.methodLink own index y).before args s = true) (hinst : (Cond.instanceMethod y).before args s = true) (hsel : (Cond.selects C y y).before args s = true)
    (hcode : (Cond.code y bytes maxL ret).before args s = true) (hy : y.cls ≠ "java/lang/invoke/MethodHandle" ∧ y.cls ≠ "java/lang/invoke/VarHandle")
    {W9 : Nat} {Pre : Pt → Array Value → Prop} {Post : Pt → Array Value → Option Value → Pt → Prop} {PostX : Pt → Array Value → Addr → Pt → Prop} (hK : vx_Back l R p e below s args y 3 W9 Pre Post PostX)
    {b : Addr} {cellB : Cell} (hcell : T.heap[b]? = some cellB) (hobj : cellB.vm.isStatics = false) (hcls : s.vm.findClass C = some cellB.cls)
    {g : JFrame} (hg : g.method = m) (hsize : g.locals.size = c.maxLocals) {argsL rest : List Value} (hlen : ∀ sig, parseMethodDescriptor y.desc = some sig → argsL.length = sig.parameters.length)
    (hstack : g.stack = argsL.reverse ++ .ref b :: rest) (hW : 2 * g.monitorRoom + (rest.map fun v => v.category).sum ≤ W9) (hdg : decode c.code g.pc = .ok (.invokevirtual index, 3))
    (hpre : ∀ vm₁, s.WarmedH vm₁ → Pre ⟨T.setVm vm₁, locs, cells, slots⟩ (Value.ref b :: argsL).toArray) :
    (∃ (v : Option Value) (vm₁ : Vm) (B : Pt), s.WarmedH vm₁ ∧ Stand p l e R s m args below meth c B.U B.locs B.cells B.slots ∧ Post ⟨T.setVm vm₁, locs, cells, slots⟩ (Value.ref b :: argsL).toArray v B ∧
      ∀ target, Steps p.tables e below (B.U.setTop { g with pc := g.pc + 3, stack := v.toList ++ rest }) target → Steps p.tables e below (T.setTop g) target) ∨
    (∃ (q : Addr) (vm₁ : Vm) (B : Pt), s.WarmedH vm₁ ∧ Stand p l e R s m args below meth c B.U B.locs B.cells B.slots ∧ PostX ⟨T.setVm vm₁, locs, cells, slots⟩ (Value.ref b :: argsL).toArray q B ∧
      Steps p.tables e below (T.setTop g) ((B.U.setTop { g with stack := rest }).pushFrame (.throwing q))) := by
  obtain ⟨mk, methM, hnamed, hmethM, hstM, habM⟩ := Cond.instanceMethod_spec hinst
  obtain ⟨methM', cM, hmethM', -, -, -, -, -, -, hsigM⟩ := Cond.code_spec hnamed hcode
  cases hmethM.symm.trans hmethM'
  obtain ⟨c2, r2, m2, q1, q2, q3, q4, kP, hkP, hkPi⟩ := Cond.selects_spec hsel
  cases hcls.symm.trans q1
  cases (State.methodFound?_of_named hnamed hy).symm.trans q2
  cases hnamed.symm.trans q3
  have hselP : selectMethod e.platform s.vm cellB.cls mk = .method mk := by rw [Launch.admits_selectMethod X.admits]; exact q4
  obtain ⟨vm₁, X₁, hstep₁⟩ := X.invokevirtual hexec hown hlink hnamed hmethM hstM hkP hkPi hy (a := b) (cell := cellB) hcell
    (fun z h => by rw [h] at hobj; cases hobj) hselP hmethM habM hkP hkPi (g := g) hg (argsL := argsL) (rest := rest) (hlen _ hsigM) hstack hdg
  rcases hK m meth c ⟨T.setVm vm₁, locs, cells, slots⟩ { g with stack := rest } (.invokevirtual index) mk (Value.ref b :: argsL).toArray X₁ hg hsize hdg hW (X₁.named hnamed) (hpre vm₁ X₁.warmed) with ⟨v, B, X', hpost, hsteps⟩ | ⟨q, B, X', hpost, hsteps⟩
  · exact Or.inl ⟨v, vm₁, B, X₁.warmed, X', hpost, fun target h => hstep₁ _ fun acts => by rw [doInvoke_state]; exact hsteps.trans h⟩
  · exact Or.inr ⟨q, vm₁, B, X₁.warmed, X', hpost, hstep₁ _ fun acts => by rw [doInvoke_state]; exact hsteps⟩
theorem vx_callS (X : Stand p l e R s m args below meth c T locs cells slots) (hexec : p.tables.exec = Jvm.exec) {own : String} {index : Nat} {y : MethodName} {bytes : ByteArray} {maxL : Nat} {ret : Option FieldType}
    (hown : s.vm.findClass own = some m.cls) (hlink : (Cond.methodLink own index y).before args s = true) (hstat : (Cond.static y).before args s = true) (hinit : (Cond.initialized y.cls).before args s = true)
    (hcode : (Cond.code y bytes maxL ret).before args s = true) (hy : y.cls ≠ "java/lang/invoke/MethodHandle" ∧ y.cls ≠ "java/lang/invoke/VarHandle")
    {W9 : Nat} {Pre : Pt → Array Value → Prop} {Post : Pt → Array Value → Option Value → Pt → Prop} {PostX : Pt → Array Value → Addr → Pt → Prop} (hK : vx_Back l R p e below s args y 3 W9 Pre Post PostX)
    {g : JFrame} (hg : g.method = m) (hsize : g.locals.size = c.maxLocals) {argsL rest : List Value} (hlen : ∀ sig, parseMethodDescriptor y.desc = some sig → argsL.length = sig.parameters.length)
    (hstack : g.stack = argsL.reverse ++ rest) (hW : 2 * g.monitorRoom + (rest.map fun v => v.category).sum ≤ W9) (hdg : decode c.code g.pc = .ok (.invokestatic index, 3))
    (hpre : ∀ vm₁, s.WarmedH vm₁ → Pre ⟨T.setVm vm₁, locs, cells, slots⟩ argsL.toArray) :
    (∃ (v : Option Value) (vm₁ : Vm) (B : Pt), s.WarmedH vm₁ ∧ Stand p l e R s m args below meth c B.U B.locs B.cells B.slots ∧ Post ⟨T.setVm vm₁, locs, cells, slots⟩ argsL.toArray v B ∧
      ∀ target, Steps p.tables e below (B.U.setTop { g with pc := g.pc + 3, stack := v.toList ++ rest }) target → Steps p.tables e below (T.setTop g) target) ∨
    (∃ (q : Addr) (vm₁ : Vm) (B : Pt), s.WarmedH vm₁ ∧ Stand p l e R s m args below meth c B.U B.locs B.cells B.slots ∧ PostX ⟨T.setVm vm₁, locs, cells, slots⟩ argsL.toArray q B ∧
      Steps p.tables e below (T.setTop g) ((B.U.setTop { g with stack := rest }).pushFrame (.throwing q))) := by
  obtain ⟨mk, hnamed⟩ := Cond.code_named hcode
  obtain ⟨methM, cM, hmethM, -, -, -, -, -, -, hsigM⟩ := Cond.code_spec hnamed hcode
  have hstatic : methM.isStatic = true := Cond.static_spec hnamed hmethM hstat
  obtain ⟨kP, hkP, -⟩ := className_of_methodNamed hnamed
  have hinitP : kP.init = .initialized := Cond.initialized_spec (findClass_of_methodNamed hnamed) hkP hinit
  obtain ⟨vm₁, X₁, hstep₁⟩ := X.invokestatic hexec hown hlink hnamed hmethM hstatic hkP hinitP hy (g := g) hg (argsL := argsL) (rest := rest) (hlen _ hsigM) hstack hdg
  rcases hK m meth c ⟨T.setVm vm₁, locs, cells, slots⟩ { g with stack := rest } (.invokestatic index) mk argsL.toArray X₁ hg hsize hdg hW (X₁.named hnamed) (hpre vm₁ X₁.warmed) with ⟨v, B, X', hpost, hsteps⟩ | ⟨q, B, X', hpost, hsteps⟩
  · exact Or.inl ⟨v, vm₁, B, X₁.warmed, X', hpost, fun target h => hstep₁ _ fun acts => by rw [doInvoke_state]; exact hsteps.trans h⟩
  · exact Or.inr ⟨q, vm₁, B, X₁.warmed, X', hpost, hstep₁ _ fun acts => by rw [doInvoke_state]; exact hsteps⟩
end Calls
theorem vx_cls {s : State} {T : State} {vm₁ : Vm} {E : String} {k : ClassId} (hW : s.WarmedH vm₁) (h : (T.setVm vm₁).vm.findClass E = some k) : s.vm.findClass E = some k := by
  have h1 : vm₁.findClass E = some k := h
  rw [hW.alike.findClass] at h1
  exact h1
/-- the method's frame g, with q thrown over it -/
def vx_W (p : Program) (l : Launch) (e : Env) (R : Room) (s : State) (m : MethodId) (args : Array Value) (below : List Frame) (meth : Method) (c : Code) (H : Heap) (locs : List Loc) (cells slots : Nat) (Q : State → Prop) (g : JFrame) (q : Addr) : Prop :=
  ∀ T : State, T.heap = H → Stand p l e R s m args below meth c T locs cells slots → ∃ t, Steps p.tables e below ((T.setTop g).pushFrame (.throwing q)) t ∧ Q t
def vx_Run (p : Program) (l : Launch) (e : Env) (R : Room) (s : State) (m : MethodId) (args : Array Value) (below : List Frame) (meth : Method) (c : Code) (H : Heap) (locs : List Loc) (cells slots mc ms : Nat) (g : JFrame) (rest : List Value) (Qa : State → Outcome → State → Prop) (XC : String → State → State → Prop) (free : Addr → Prop) : Prop :=
  ∀ T : State, T.heap = H → Stand p l e R s m args below meth c T locs cells slots →
    (∃ (v : Option Value) (st₀ t T' : State) (L : List Loc), st₀.heap = H ∧ Stand p l e R s m args below meth c T' (locs ++ L) (cells + mc) (slots + ms) ∧ (∀ q ∈ L, free q.base) ∧ T'.heap = t.heap ∧ T'.vm = t.vm ∧ Qa st₀ (.returned v) t ∧
      Goes p e below T g T' { g with pc := g.pc + 3, stack := v.toList ++ rest }) ∨
    (∃ (q : Addr) (st₀ t T' : State) (L : List Loc) (E : String) (ce : Cell), st₀.heap = H ∧ Stand p l e R s m args below meth c T' (locs ++ L) (cells + mc) (slots + ms) ∧ (∀ z ∈ L, free z.base) ∧ T'.heap = t.heap ∧ T'.vm = t.vm ∧ XC E st₀ t ∧ t.heap[q]? = some ce ∧ ce.vm = .none ∧ s.vm.findClass E = some ce.cls ∧
      Steps p.tables e below (T.setTop g) ((T'.setTop { g with stack := rest }).pushFrame (.throwing q)))
def vx_X {S : Type} (px : S → Prop) (B : String → S → State → Prop) (A : Nat → Prop) : String → State → State → Prop := fun E st t => ∃ u : S, px u ∧ B E u t ∧ va_F A st t
section Runs
variable {p : Program} {l : Launch} {e : Env} {R : Room} {s : State} {m : MethodId} {args : Array Value} {below : List Frame} {meth : Method} {c : Code} {H : Heap} {locs : List Loc} {cells slots : Nat}
variable {y : MethodName} {bytes cc : ByteArray} {maxL nL mc ms n index : Nat} {ret : Option FieldType} {ws : List Cond} {rm : Room} {Pc : Array Value → State → Prop} {Qc : Array Value → State → Outcome → State → Prop} {XC : String → State → State → Prop} {free : Addr → Prop} {Ts : List Cond} {own C : String} {b : Addr} {As rest : List Value} {g : JFrame}
theorem vx_callBack (cb : CallB R s args own index y bytes maxL ret ws rm mc ms n) (hM : vx_Met l y ws rm Pc Qc XC mc ms free) (hbl : FrameBlind Pc) : vx_Back l R p e below s args y 3 8 (PreOf R mc ms Pc) (PostOf Qc mc ms free) (vx_Post XC mc ms free) := by
  obtain ⟨hrc, hrs, hfr, hlo, hws, hcw, -, hini, -⟩ := cb
  exact vx_back (bytes := bytes) (maxL := maxL) (ret := ret) hM hbl hrc hrs hfr hlo hws hcw (fun a' U hW => word_at hW (Or.inl (by first | rfl | simp [Cond.onTables, Cond.keeps, Cond.steady])) hini)
theorem vx_runV (S : CallFix p m c cc nL s args Ts own) (hM : vx_Met l y ws rm Pc Qc XC mc ms free) (cw : CallW R s args own C index y bytes maxL ret ws rm mc ms n) (hp : PreV s H C b Pc As)
    (hg : g.method = m) (hn : As.length = n) (hsize : g.locals.size = nL) (hstack : g.stack = As.reverse ++ .ref b :: rest) (hW : 2 * g.monitorRoom + (rest.map fun v => v.category).sum ≤ 8) (hdg : decode cc g.pc = .ok (.invokevirtual index, 3)) (hf : cells + mc ≤ R.cells ∧ slots + ms ≤ R.slots) :
    vx_Run p l e R s m args below meth c H locs cells slots mc ms g rest (Qc (Value.ref b :: As).toArray) XC free := by
  have hK : vx_Back l R p e below s args y 3 8 (PreOf R mc ms Pc) (PostOf Qc mc ms free) (vx_Post XC mc ms free) := vx_callBack cw.1 hM hp.1
  obtain ⟨⟨-, -, -, -, -, -, hcode, -, hy, hlen, hl⟩, hin, hse⟩ := cw
  obtain ⟨hx, hb, hml, ho, -⟩ := S
  obtain ⟨-, ⟨cellB, hcB, hoB, hclB⟩, hPc⟩ := hp
  intro T hT X
  rcases vx_callV X hx (C := C) (bytes := bytes) (maxL := maxL) (ret := ret) ho hl hin hse hcode hy hK (by rw [hT]; exact hcB) hoB hclB hg (hsize.trans hml.symm) (argsL := As) (rest := rest) (fun sig h => hn.trans (hlen sig h)) hstack hW (by rw [hb]; exact hdg)
    (fun vm₁ hW₁ => ⟨hf.1, hf.2, hPc (T.setVm vm₁) hT hW₁⟩) with ⟨v, vm₁, ⟨U', l2, c2, s2⟩, hW₁, X', ⟨g', mk, t, L, e1, e2, hq, h1, hL, h2, h3⟩, st⟩ | ⟨q, vm₁, ⟨U', l2, c2, s2⟩, hW₁, X', ⟨g', mk, t, L, E, ce, e1, e2, hq, hce, hcv, hcl, h1, hL, h2, h3⟩, st⟩
  · dsimp only [Pt.U, Pt.locs, Pt.cells, Pt.slots] at X' e1 e2 h1 h2 h3 st
    subst h1; subst h2; subst h3
    exact Or.inl ⟨v, (T.setVm vm₁).calling g' mk (Value.ref b :: As).toArray, t, U', L, hT, X', hL, e1, e2, hq, st⟩
  · dsimp only [Pt.U, Pt.locs, Pt.cells, Pt.slots] at X' e1 e2 h1 h2 h3 st hcl
    subst h1; subst h2; subst h3
    exact Or.inr ⟨q, (T.setVm vm₁).calling g' mk (Value.ref b :: As).toArray, t, U', L, E, ce, hT, X', hL, e1, e2, hq, hce, hcv, vx_cls hW₁ hcl, st⟩
theorem vx_runS (S : CallFix p m c cc nL s args Ts own) (hM : vx_Met l y ws rm Pc Qc XC mc ms free) (cw : CallB R s args own index y bytes maxL ret ws rm mc ms n ∧ (Cond.static y).before args s = true) (hp : PreS s H Pc As)
    (hg : g.method = m) (hn : As.length = n) (hsize : g.locals.size = nL) (hstack : g.stack = As.reverse ++ rest) (hW : 2 * g.monitorRoom + (rest.map fun v => v.category).sum ≤ 8) (hdg : decode cc g.pc = .ok (.invokestatic index, 3)) (hf : cells + mc ≤ R.cells ∧ slots + ms ≤ R.slots) :
    vx_Run p l e R s m args below meth c H locs cells slots mc ms g rest (Qc As.toArray) XC free := by
  have hK : vx_Back l R p e below s args y 3 8 (PreOf R mc ms Pc) (PostOf Qc mc ms free) (vx_Post XC mc ms free) := vx_callBack cw.1 hM hp.1
  obtain ⟨⟨-, -, -, -, -, -, hcode, hini, hy, hlen, hl⟩, hstt⟩ := cw
  obtain ⟨hx, hb, hml, ho, -⟩ := S
  intro T hT X
  rcases vx_callS X hx (bytes := bytes) (maxL := maxL) (ret := ret) ho hl hstt hini hcode hy hK hg (hsize.trans hml.symm) (argsL := As) (rest := rest) (fun sig h => hn.trans (hlen sig h)) hstack hW (by rw [hb]; exact hdg)
    (fun vm₁ hW₁ => ⟨hf.1, hf.2, hp.2 (T.setVm vm₁) hT hW₁⟩) with ⟨v, vm₁, ⟨U', l2, c2, s2⟩, hW₁, X', ⟨g', mk, t, L, e1, e2, hq, h1, hL, h2, h3⟩, st⟩ | ⟨q, vm₁, ⟨U', l2, c2, s2⟩, hW₁, X', ⟨g', mk, t, L, E, ce, e1, e2, hq, hce, hcv, hcl, h1, hL, h2, h3⟩, st⟩
  · dsimp only [Pt.U, Pt.locs, Pt.cells, Pt.slots] at X' e1 e2 h1 h2 h3 st
    subst h1; subst h2; subst h3
    exact Or.inl ⟨v, (T.setVm vm₁).calling g' mk As.toArray, t, U', L, hT, X', hL, e1, e2, hq, st⟩
  · dsimp only [Pt.U, Pt.locs, Pt.cells, Pt.slots] at X' e1 e2 h1 h2 h3 st hcl
    subst h1; subst h2; subst h3
    exact Or.inr ⟨q, (T.setVm vm₁).calling g' mk As.toArray, t, U', L, E, ce, hT, X', hL, e1, e2, hq, hce, hcv, vx_cls hW₁ hcl, st⟩
end Runs
section Rows
variable {p : Program} {l : Launch} {e : Env} {R : Room} {s : State} {m : MethodId} {args : Array Value} {below : List Frame} {meth : Method} {c : Code} {H : Heap} {locs : List Loc} {cells slots : Nat} {Q : State → Prop}
variable {mc ms : Nat} {free : Addr → Prop} {A0 A1 : Nat → Prop} {H0 : Heap} {a : Array Value} {pc : Nat} {ls : Array Slot} {st0 rest : List Value}
theorem vx_keep {st₀ t T' : State} {L : List Loc} (h0 : st₀.heap = H) (e1 : T'.heap = t.heap) (hS : va_S A0 H0 H locs) (hA : ∀ q, q < H.size → A1 q → A0 q) (hf : ∀ q, free q → A0 q) (hL : ∀ q ∈ L, free q.base) (hF : va_F A1 st₀ t) :
    H.size ≤ T'.heap.size ∧ (∀ q : Nat, q < H.size → ¬ A1 q → T'.heap[q]? = H[q]?) ∧ va_S A0 H0 T'.heap (locs ++ L) := by
  obtain ⟨hz, hk⟩ := hF
  rw [h0] at hz hk
  exact ⟨by rw [e1]; exact hz, fun q h1 h2 => by rw [e1]; exact hk q h1 h2,
    ⟨Nat.le_trans hS.1 (by rw [e1]; exact hz), fun q h1 h2 => by rw [e1, hk q (Nat.lt_of_lt_of_le h1 hS.1) (fun z => h2 (hA q (Nat.lt_of_lt_of_le h1 hS.1) z))]; exact hS.2.1 q h1 h2, fun q hq => by
      rcases List.mem_append.mp hq with h | h
      · exact hS.2.2 q h
      · exact hf _ (hL q h)⟩⟩
theorem vx_calli {S SX : Type} {post : Int32 → S → Prop} {px : SX → Prop} {B : S → State → Prop} {BX : String → SX → State → Prop} {AX : Nat → Prop} (hr : vx_Run p l e R s m args below meth c H locs cells slots mc ms (F0 m pc ls st0) rest (va_Qi post B A1 a) (vx_X px BX AX) free) (hS : va_S A0 H0 H locs) (hA : ∀ q, q < H.size → A1 q → A0 q) (hf : ∀ q, free q → A0 q) (hAX : ∀ q, q < H.size → AX q → A0 q)
    (kx : ∀ (E : String) (ce : Cell) (q9 : Addr) (u : SX) (t : State) (H1 : Heap) (locs1 : List Loc), t.heap = H1 → s.vm.Alike t.vm → px u → BX E u t → H.size ≤ H1.size → (∀ q : Nat, q < H.size → ¬ AX q → H1[q]? = H[q]?) → va_S A0 H0 H1 locs1 → H1[q9]? = some ce → ce.vm = .none → s.vm.findClass E = some ce.cls → vx_W p l e R s m args below meth c H1 locs1 (cells + mc) (slots + ms) Q (F0 m pc ls rest) q9)
    (kk : ∀ (r : Int32) (u : S) (t : State) (H1 : Heap) (locs1 : List Loc), t.heap = H1 → s.vm.Alike t.vm → post r u → B u t → H.size ≤ H1.size → (∀ q : Nat, q < H.size → ¬ A1 q → H1[q]? = H[q]?) → va_S A0 H0 H1 locs1 → W p l e R s m args below meth c H1 locs1 (cells + mc) (slots + ms) Q (F0 m (pc + 3) ls (.int r :: rest))) : W p l e R s m args below meth c H locs cells slots Q (F0 m pc ls st0) := by
  intro T hT X
  rcases hr T hT X with ⟨v, st₀, t, T', L, h0, X', hL, e1, e2, ⟨⟨r, u, hv, hp, hb⟩, hF⟩, st⟩ | ⟨q, st₀, t, T', L, E, ce, h0, X', hL, e1, e2, ⟨u, hp, hb, hF⟩, hce, hcv, hcl, st⟩
  · cases hv
    obtain ⟨k1, k2, k3⟩ := vx_keep h0 e1 hS hA hf hL hF
    obtain ⟨t2, a1, b1⟩ := kk r u t T'.heap (locs ++ L) e1.symm (by rw [← e2]; exact X'.warmed.alike) hp hb k1 k2 k3 T' rfl X'
    exact ⟨t2, st t2 a1, b1⟩
  · obtain ⟨k1, k2, k3⟩ := vx_keep h0 e1 hS hAX hf hL hF
    obtain ⟨t2, a1, b1⟩ := kx E ce q u t T'.heap (locs ++ L) e1.symm (by rw [← e2]; exact X'.warmed.alike) hp hb k1 k2 k3 (by rw [e1]; exact hce) hcv hcl T' rfl X'
    exact ⟨t2, st.trans a1, b1⟩
theorem vx_calll {S SX : Type} {post : Int64 → S → Prop} {px : SX → Prop} {B : S → State → Prop} {BX : String → SX → State → Prop} {AX : Nat → Prop} (hr : vx_Run p l e R s m args below meth c H locs cells slots mc ms (F0 m pc ls st0) rest (va_Ql post B A1 a) (vx_X px BX AX) free) (hS : va_S A0 H0 H locs) (hA : ∀ q, q < H.size → A1 q → A0 q) (hf : ∀ q, free q → A0 q) (hAX : ∀ q, q < H.size → AX q → A0 q)
    (kx : ∀ (E : String) (ce : Cell) (q9 : Addr) (u : SX) (t : State) (H1 : Heap) (locs1 : List Loc), t.heap = H1 → s.vm.Alike t.vm → px u → BX E u t → H.size ≤ H1.size → (∀ q : Nat, q < H.size → ¬ AX q → H1[q]? = H[q]?) → va_S A0 H0 H1 locs1 → H1[q9]? = some ce → ce.vm = .none → s.vm.findClass E = some ce.cls → vx_W p l e R s m args below meth c H1 locs1 (cells + mc) (slots + ms) Q (F0 m pc ls rest) q9)
    (kk : ∀ (r : Int64) (u : S) (t : State) (H1 : Heap) (locs1 : List Loc), t.heap = H1 → s.vm.Alike t.vm → post r u → B u t → H.size ≤ H1.size → (∀ q : Nat, q < H.size → ¬ A1 q → H1[q]? = H[q]?) → va_S A0 H0 H1 locs1 → W p l e R s m args below meth c H1 locs1 (cells + mc) (slots + ms) Q (F0 m (pc + 3) ls (.long r :: rest))) : W p l e R s m args below meth c H locs cells slots Q (F0 m pc ls st0) := by
  intro T hT X
  rcases hr T hT X with ⟨v, st₀, t, T', L, h0, X', hL, e1, e2, ⟨⟨r, u, hv, hp, hb⟩, hF⟩, st⟩ | ⟨q, st₀, t, T', L, E, ce, h0, X', hL, e1, e2, ⟨u, hp, hb, hF⟩, hce, hcv, hcl, st⟩
  · cases hv
    obtain ⟨k1, k2, k3⟩ := vx_keep h0 e1 hS hA hf hL hF
    obtain ⟨t2, a1, b1⟩ := kk r u t T'.heap (locs ++ L) e1.symm (by rw [← e2]; exact X'.warmed.alike) hp hb k1 k2 k3 T' rfl X'
    exact ⟨t2, st t2 a1, b1⟩
  · obtain ⟨k1, k2, k3⟩ := vx_keep h0 e1 hS hAX hf hL hF
    obtain ⟨t2, a1, b1⟩ := kx E ce q u t T'.heap (locs ++ L) e1.symm (by rw [← e2]; exact X'.warmed.alike) hp hb k1 k2 k3 (by rw [e1]; exact hce) hcv hcl T' rfl X'
    exact ⟨t2, st.trans a1, b1⟩
theorem vx_callf {S SX : Type} {post : UInt32 → S → Prop} {px : SX → Prop} {B : S → State → Prop} {BX : String → SX → State → Prop} {AX : Nat → Prop} (hr : vx_Run p l e R s m args below meth c H locs cells slots mc ms (F0 m pc ls st0) rest (va_Qf post B A1 a) (vx_X px BX AX) free) (hS : va_S A0 H0 H locs) (hA : ∀ q, q < H.size → A1 q → A0 q) (hf : ∀ q, free q → A0 q) (hAX : ∀ q, q < H.size → AX q → A0 q)
    (kx : ∀ (E : String) (ce : Cell) (q9 : Addr) (u : SX) (t : State) (H1 : Heap) (locs1 : List Loc), t.heap = H1 → s.vm.Alike t.vm → px u → BX E u t → H.size ≤ H1.size → (∀ q : Nat, q < H.size → ¬ AX q → H1[q]? = H[q]?) → va_S A0 H0 H1 locs1 → H1[q9]? = some ce → ce.vm = .none → s.vm.findClass E = some ce.cls → vx_W p l e R s m args below meth c H1 locs1 (cells + mc) (slots + ms) Q (F0 m pc ls rest) q9)
    (kk : ∀ (r : UInt32) (u : S) (t : State) (H1 : Heap) (locs1 : List Loc), t.heap = H1 → s.vm.Alike t.vm → post r u → B u t → H.size ≤ H1.size → (∀ q : Nat, q < H.size → ¬ A1 q → H1[q]? = H[q]?) → va_S A0 H0 H1 locs1 → W p l e R s m args below meth c H1 locs1 (cells + mc) (slots + ms) Q (F0 m (pc + 3) ls (.float r :: rest))) : W p l e R s m args below meth c H locs cells slots Q (F0 m pc ls st0) := by
  intro T hT X
  rcases hr T hT X with ⟨v, st₀, t, T', L, h0, X', hL, e1, e2, ⟨⟨r, u, hv, hp, hb⟩, hF⟩, st⟩ | ⟨q, st₀, t, T', L, E, ce, h0, X', hL, e1, e2, ⟨u, hp, hb, hF⟩, hce, hcv, hcl, st⟩
  · cases hv
    obtain ⟨k1, k2, k3⟩ := vx_keep h0 e1 hS hA hf hL hF
    obtain ⟨t2, a1, b1⟩ := kk r u t T'.heap (locs ++ L) e1.symm (by rw [← e2]; exact X'.warmed.alike) hp hb k1 k2 k3 T' rfl X'
    exact ⟨t2, st t2 a1, b1⟩
  · obtain ⟨k1, k2, k3⟩ := vx_keep h0 e1 hS hAX hf hL hF
    obtain ⟨t2, a1, b1⟩ := kx E ce q u t T'.heap (locs ++ L) e1.symm (by rw [← e2]; exact X'.warmed.alike) hp hb k1 k2 k3 (by rw [e1]; exact hce) hcv hcl T' rfl X'
    exact ⟨t2, st.trans a1, b1⟩
theorem vx_calld {S SX : Type} {post : UInt64 → S → Prop} {px : SX → Prop} {B : S → State → Prop} {BX : String → SX → State → Prop} {AX : Nat → Prop} (hr : vx_Run p l e R s m args below meth c H locs cells slots mc ms (F0 m pc ls st0) rest (va_Qd post B A1 a) (vx_X px BX AX) free) (hS : va_S A0 H0 H locs) (hA : ∀ q, q < H.size → A1 q → A0 q) (hf : ∀ q, free q → A0 q) (hAX : ∀ q, q < H.size → AX q → A0 q)
    (kx : ∀ (E : String) (ce : Cell) (q9 : Addr) (u : SX) (t : State) (H1 : Heap) (locs1 : List Loc), t.heap = H1 → s.vm.Alike t.vm → px u → BX E u t → H.size ≤ H1.size → (∀ q : Nat, q < H.size → ¬ AX q → H1[q]? = H[q]?) → va_S A0 H0 H1 locs1 → H1[q9]? = some ce → ce.vm = .none → s.vm.findClass E = some ce.cls → vx_W p l e R s m args below meth c H1 locs1 (cells + mc) (slots + ms) Q (F0 m pc ls rest) q9)
    (kk : ∀ (r : UInt64) (u : S) (t : State) (H1 : Heap) (locs1 : List Loc), t.heap = H1 → s.vm.Alike t.vm → post r u → B u t → H.size ≤ H1.size → (∀ q : Nat, q < H.size → ¬ A1 q → H1[q]? = H[q]?) → va_S A0 H0 H1 locs1 → W p l e R s m args below meth c H1 locs1 (cells + mc) (slots + ms) Q (F0 m (pc + 3) ls (.double r :: rest))) : W p l e R s m args below meth c H locs cells slots Q (F0 m pc ls st0) := by
  intro T hT X
  rcases hr T hT X with ⟨v, st₀, t, T', L, h0, X', hL, e1, e2, ⟨⟨r, u, hv, hp, hb⟩, hF⟩, st⟩ | ⟨q, st₀, t, T', L, E, ce, h0, X', hL, e1, e2, ⟨u, hp, hb, hF⟩, hce, hcv, hcl, st⟩
  · cases hv
    obtain ⟨k1, k2, k3⟩ := vx_keep h0 e1 hS hA hf hL hF
    obtain ⟨t2, a1, b1⟩ := kk r u t T'.heap (locs ++ L) e1.symm (by rw [← e2]; exact X'.warmed.alike) hp hb k1 k2 k3 T' rfl X'
    exact ⟨t2, st t2 a1, b1⟩
  · obtain ⟨k1, k2, k3⟩ := vx_keep h0 e1 hS hAX hf hL hF
    obtain ⟨t2, a1, b1⟩ := kx E ce q u t T'.heap (locs ++ L) e1.symm (by rw [← e2]; exact X'.warmed.alike) hp hb k1 k2 k3 (by rw [e1]; exact hce) hcv hcl T' rfl X'
    exact ⟨t2, st.trans a1, b1⟩
theorem vx_callv {S SX : Type} {post : S → Prop} {px : SX → Prop} {B : S → State → Prop} {BX : String → SX → State → Prop} {AX : Nat → Prop} (hr : vx_Run p l e R s m args below meth c H locs cells slots mc ms (F0 m pc ls st0) rest (va_Qv post B A1 a) (vx_X px BX AX) free) (hS : va_S A0 H0 H locs) (hA : ∀ q, q < H.size → A1 q → A0 q) (hf : ∀ q, free q → A0 q) (hAX : ∀ q, q < H.size → AX q → A0 q)
    (kx : ∀ (E : String) (ce : Cell) (q9 : Addr) (u : SX) (t : State) (H1 : Heap) (locs1 : List Loc), t.heap = H1 → s.vm.Alike t.vm → px u → BX E u t → H.size ≤ H1.size → (∀ q : Nat, q < H.size → ¬ AX q → H1[q]? = H[q]?) → va_S A0 H0 H1 locs1 → H1[q9]? = some ce → ce.vm = .none → s.vm.findClass E = some ce.cls → vx_W p l e R s m args below meth c H1 locs1 (cells + mc) (slots + ms) Q (F0 m pc ls rest) q9)
    (kk : ∀ (u : S) (t : State) (H1 : Heap) (locs1 : List Loc), t.heap = H1 → s.vm.Alike t.vm → post u → B u t → H.size ≤ H1.size → (∀ q : Nat, q < H.size → ¬ A1 q → H1[q]? = H[q]?) → va_S A0 H0 H1 locs1 → W p l e R s m args below meth c H1 locs1 (cells + mc) (slots + ms) Q (F0 m (pc + 3) ls (rest))) : W p l e R s m args below meth c H locs cells slots Q (F0 m pc ls st0) := by
  intro T hT X
  rcases hr T hT X with ⟨v, st₀, t, T', L, h0, X', hL, e1, e2, ⟨⟨u, hv, hp, hb⟩, hF⟩, st⟩ | ⟨q, st₀, t, T', L, E, ce, h0, X', hL, e1, e2, ⟨u, hp, hb, hF⟩, hce, hcv, hcl, st⟩
  · cases hv
    obtain ⟨k1, k2, k3⟩ := vx_keep h0 e1 hS hA hf hL hF
    obtain ⟨t2, a1, b1⟩ := kk u t T'.heap (locs ++ L) e1.symm (by rw [← e2]; exact X'.warmed.alike) hp hb k1 k2 k3 T' rfl X'
    exact ⟨t2, st t2 a1, b1⟩
  · obtain ⟨k1, k2, k3⟩ := vx_keep h0 e1 hS hAX hf hL hF
    obtain ⟨t2, a1, b1⟩ := kx E ce q u t T'.heap (locs ++ L) e1.symm (by rw [← e2]; exact X'.warmed.alike) hp hb k1 k2 k3 (by rw [e1]; exact hce) hcv hcl T' rfl X'
    exact ⟨t2, st.trans a1, b1⟩
/-- caught by the row x of this method's table; the rows ahead don't take it -/
theorem vx_catch {own name : String} {E : String} {ce : Cell} {q : Addr} (hown : s.vm.findClass own = some m.cls) (pre : List ExceptionTableEntry) (x : ExceptionTableEntry) (suf : List ExceptionTableEntry) (hsplit : c.exceptionTable.toList = pre ++ x :: suf)
    (hpass : ∀ z ∈ pre, covers z pc = false ∨ (z.catchType ≠ 0 ∧ ∃ nm : String, (Cond.classLink own z.catchType nm).before args s = true ∧ va_Nc E nm s)) (hx : covers x pc = true) (h0 : x.catchType ≠ 0)
    (hlink : (Cond.classLink own x.catchType name).before args s = true) (hcast : (Cond.castable E name).before args s = true) (hcell : H[q]? = some ce) (hv : ce.vm = .none) (hcl : s.vm.findClass E = some ce.cls)
    (kk : W p l e R s m args below meth c H locs cells slots Q (F0 m x.handlerPc ls [.ref q])) : vx_W p l e R s m args below meth c H locs cells slots Q (F0 m pc ls rest) q := by
  intro T hT X
  have hpl : e.platform.magicAccessors = ({} : Platform).magicAccessors := by rw [X.admits.platform]
  obtain ⟨c3, c4, hc3, hc4, hasg⟩ := Cond.castable_spec hcast
  cases Option.some.inj (hc3.symm.trans hcl)
  obtain ⟨c5, hc5, hcl5⟩ := Cond.classLink_spec hown hlink e.platform hpl
  cases Option.some.inj (hc4.symm.trans hc5)
  obtain ⟨vm', X', st⟩ := X.thenCaughtThrough q (g := F0 m pc ls rest) rfl (Steps.refl _) (by rw [hT]; exact hcell) (by rw [hv]; rfl) (by obtain ⟨k9, h9, -⟩ := Vm.findClass_spec hcl; exact ⟨k9, h9⟩) pre x suf hsplit
    (fun z hz => by
      rcases hpass z hz with h | ⟨hz0, nm, hl1, hn1⟩
      · exact Or.inl h
      · obtain ⟨c6, hc6, hcl6⟩ := Cond.classLink_spec hown hl1 e.platform hpl
        obtain ⟨a8, b8, h1, h2, h3⟩ := hn1
        cases Option.some.inj (h1.symm.trans hcl)
        cases Option.some.inj (h2.symm.trans hc6)
        exact Or.inr ⟨hz0, _, hcl6, h3⟩) hx (Or.inr ⟨h0, c4, hcl5, hasg⟩)
  obtain ⟨t, a1, b1⟩ := kk (T.setVm vm') hT X'
  exact ⟨t, st.trans a1, b1⟩
end Rows
section Ends
variable {p : Program} {l : Launch} {e : Env} {R : Room} {s : State} {m : MethodId} {args : Array Value} {below : List Frame} {meth : Method} {c : Code} {H : Heap} {locs : List Loc} {cells slots : Nat} {Q : State → Prop}
variable {mc ms : Nat} {free : Addr → Prop} {A0 A1 : Nat → Prop} {H0 : Heap} {a : Array Value} {ls : Array Slot} {st0 rest : List Value}
variable {Qc : Array Value → State → Outcome → State → Prop} {XC : String → State → State → Prop}
/-- what a body that may throw owes at its end -/
def vx_MQ (below : List Frame) (Qc : Array Value → State → Outcome → State → Prop) (XC : String → State → State → Prop) (a : Array Value) (s : State) (mc ms : Nat) (free : Addr → Prop) : State → Prop := fun t =>
  ∃ o, t.status = .running ∧ Ended t below o ∧ vx_Q Qc XC mc ms free a s o t
theorem vx_ret {g : JFrame} {mc ms : Nat} (k : W p l e R s m args below meth c H locs cells slots (MQ below Qc args s mc ms free) g) : W p l e R s m args below meth c H locs cells slots (vx_MQ below Qc XC args s mc ms free) g := by
  intro T hT X
  obtain ⟨t, a1, o, b1, b2, b3, b4⟩ := k T hT X
  exact ⟨t, a1, o, b1, b2, Or.inl ⟨b3, b4⟩⟩
/-- not caught here: it goes on to the caller -/
theorem vx_widen {g : JFrame} {q : Addr} {k n : Nat} (h1 : cells ≤ k) (h2 : slots ≤ n) (kk : vx_W p l e R s m args below meth c H locs k n Q g q) : vx_W p l e R s m args below meth c H locs cells slots Q g q := fun T hT X => kk T hT (stand_widen X h1 h2)
theorem vx_out {pc : Nat} {E : String} {ce : Cell} {q : Addr} {mc ms : Nat} (hout : ∀ x ∈ c.exceptionTable.toList, covers x pc = false) (hlocks : meth.locks = false) (hcell : H[q]? = some ce) (hv : ce.vm = .none) (hcl : s.vm.findClass E = some ce.cls)
    (hx : ∀ t : State, t.heap = H → s.vm.Alike t.vm → XC E s t) (hf : ∀ z ∈ locs, free z.base) (hc : cells ≤ mc) (hs : slots ≤ ms) :
    vx_W p l e R s m args below meth c H locs cells slots (vx_MQ below Qc XC args s mc ms free) (F0 m pc ls rest) q := by
  intro T hT X
  obtain ⟨st1, hrun, hend, hW, hsm⟩ := X.leaveThrown q (g := F0 m pc ls rest) rfl rfl rfl hout hlocks
  have hcell9 : (T.setFrames (.throwing q :: below)).heap[q]? = some ce := by
    show T.heap[q]? = some ce
    rw [hT]; exact hcell
  exact ⟨_, st1, .threw q, hrun, hend, Or.inr ⟨q, rfl, E, ce, locs, hx _ hT hW.alike, hcell9, hv, hcl, hW, hsm.mono hc hs, hf⟩⟩
theorem vx_frame {U : State} {k n : Nat} (h : s.sameButNew ({ U with vm := s.vm } : State) locs k n) : s.heap.size ≤ U.heap.size ∧ ∀ q : Nat, q < s.heap.size → (∀ z ∈ locs, z.base ≠ q) → U.heap[q]? = s.heap[q]? := by
  obtain ⟨-, h2, -, -, -, h6⟩ := h
  refine ⟨h2, fun q hq hz => ?_⟩
  obtain ⟨c9, e1, e2, e3, e4⟩ := h6 q _ (Array.getElem?_eq_getElem hq)
  have hs : c9.slots = (s.heap[q]).slots := Array.ext_getElem? fun i => e4 i fun hm => hz _ hm rfl
  have h9 : c9 = s.heap[q] := by
    rw [hs] at e2
    exact e2
  have e5 : U.heap[q]? = some c9 := e1
  rw [e5, h9, Array.getElem?_eq_getElem hq]
/-- the words of a throw but the four that speak of the heap -/
def vx_no (w : Cond) : Bool := decide (w ≠ .isRef (.static Bundle.tN "UNASSIGNED_STACK" Bundle.steD)) && decide (w ≠ .isRef (.static Bundle.tN "SUPPRESSED_SENTINEL" Bundle.listD)) && decide (w ≠ .laysStatic Bundle.tN "UNASSIGNED_STACK" Bundle.steD) && decide (w ≠ .laysStatic Bundle.tN "SUPPRESSED_SENTINEL" Bundle.listD)
def vx_at0 (own : String) (ic : Nat) (X : String) (names : List String) : List Cond := (Bundle.ownAtoms0 own ic X names).filter vx_no
def vx_atS (own : String) (ic : Nat) (X : String) (names : List String) : List Cond := (Bundle.ownAtoms own ic X names).filter vx_no
/-- a word that the tables alone decide, or a good one -/
def vx_ot (w : Cond) : Bool := w.onTables || goodWord w
theorem vx_ot_at {args a' : Array Value} {s U : State} {w : Cond} (hW : s.WarmedH U.vm) (hvm : s.vm = U.vm) (hg : vx_ot w = true) (h : w.before args s = true) : w.before a' U = true := by
  simp only [vx_ot, Bool.or_eq_true] at hg
  rcases hg with hg | hg
  · exact va_tabs hg hvm h
  · exact word_at hW (good_of_word hg) h
/-- a list's words: the good ones out of the method's own list, the others by premises of their own -/
theorem vx_hat {args : Array Value} {s : State} {L B : List Cond} (h1 : ∀ w ∈ L.filter goodWord, w.before args s = true) (h2 : ∀ w ∈ L.filter (fun w => !goodWord w), w ∈ B) (h3 : ∀ w ∈ B, w.before args s = true) : ∀ w ∈ L, w.before args s = true := by
  intro w hw
  by_cases g : goodWord w = true
  · exact h1 w (List.mem_filter.mpr ⟨hw, g⟩)
  · refine h3 w (h2 w (List.mem_filter.mpr ⟨hw, ?_⟩))
    show (!goodWord w) = true
    cases hgw : goodWord w
    · rfl
    · exact absurd hgw g
theorem vx_c {args : Array Value} {s : State} {w : Cond} {B : List Cond} (h : w.before args s = true) (t : ∀ w ∈ B, w.before args s = true) : ∀ w' ∈ w :: B, w'.before args s = true := fun w' h' => (List.mem_cons.mp h').elim (fun e => by rw [e]; exact h) (t w')
theorem vx_n {args : Array Value} {s : State} : ∀ w ∈ ([] : List Cond), w.before args s = true := fun _ h => nomatch h
theorem vx_own {args : Array Value} {s : State} {L : List Cond} (h1 : ∀ w ∈ L.filter vx_no, w.before args s = true)
    (hU : (Cond.isRef (.static Bundle.tN "UNASSIGNED_STACK" Bundle.steD)).before args s = true) (hN : (Cond.isRef (.static Bundle.tN "SUPPRESSED_SENTINEL" Bundle.listD)).before args s = true)
    (lU : (Cond.laysStatic Bundle.tN "UNASSIGNED_STACK" Bundle.steD).before args s = true) (lN : (Cond.laysStatic Bundle.tN "SUPPRESSED_SENTINEL" Bundle.listD).before args s = true) : ∀ w ∈ L, w.before args s = true := by
  intro w hw
  by_cases e1 : w = .isRef (.static Bundle.tN "UNASSIGNED_STACK" Bundle.steD)
  · rw [e1]; exact hU
  · by_cases e2 : w = .isRef (.static Bundle.tN "SUPPRESSED_SENTINEL" Bundle.listD)
    · rw [e2]; exact hN
    · by_cases e3 : w = .laysStatic Bundle.tN "UNASSIGNED_STACK" Bundle.steD
      · rw [e3]; exact lU
      · by_cases e4 : w = .laysStatic Bundle.tN "SUPPRESSED_SENTINEL" Bundle.listD
        · rw [e4]; exact lN
        · exact h1 w (List.mem_filter.mpr ⟨hw, by unfold vx_no; rw [decide_eq_true e1, decide_eq_true e2, decide_eq_true e3, decide_eq_true e4]; rfl⟩)
/-- where a static field lies, its class's statics cell in H -/
def vx_L (C n d : String) (A : Nat → Prop) (U : State) (H : Heap) : Prop := ∃ (c : ClassId) (k : Class) (i : Nat) (f : Field) (a : Nat) (cell : Cell), U.vm.findClass C = some c ∧ U.fieldFound? C n d = some (c, k, i, f) ∧ f.isStatic = true ∧ k.statics = some a ∧ H[a]? = some cell ∧ cell.vm.isStatics = true ∧ cell.cls = c ∧ f.slot < cell.slots.size ∧ k.staticTypes[f.slot]? = some f.type ∧ ¬ A a
theorem vx_L.moved {C n d : String} {A : Nat → Prop} {u U : State} {H : Heap} (hvm : u.vm.Alike U.vm) (h : vx_L C n d A u H) : vx_L C n d A U H := by
  obtain ⟨c, k, i, f, a, cell, h1, h2, h3, h4, h5, h6, h7, h8, h9, h10⟩ := h
  obtain ⟨k', hi', he⟩ := State.fieldFound?_setVm hvm h2
  exact ⟨c, k', i, f, a, cell, by rw [hvm.findClass]; exact h1, hi', h3, by rw [he]; exact h4, h5, h6, h7, h8, by rw [he]; exact h9, h10⟩
theorem vx_L.kept {C n d : String} {A : Nat → Prop} {U : State} {H H1 : Heap} (h : vx_L C n d A U H) (hq : ∀ a : Nat, a < H.size → ¬ A a → H1[a]? = H[a]?) : vx_L C n d A U H1 := by
  obtain ⟨c, k, i, f, a, cell, h1, h2, h3, h4, h5, h6, h7, h8, h9, h10⟩ := h
  exact ⟨c, k, i, f, a, cell, h1, h2, h3, h4, by rw [hq a (Array.getElem?_eq_some_iff.mp h5).1 h10]; exact h5, h6, h7, h8, h9, h10⟩
theorem vx_L.narrow {C n d : String} {A B : Nat → Prop} {U : State} {H : Heap} (h : vx_L C n d A U H) (hAB : ∀ q, B q → A q) : vx_L C n d B U H := by
  obtain ⟨c, k, i, f, a, cell, h1, h2, h3, h4, h5, h6, h7, h8, h9, h10⟩ := h
  exact ⟨c, k, i, f, a, cell, h1, h2, h3, h4, h5, h6, h7, h8, h9, fun z => h10 (hAB _ z)⟩
theorem vx_L.word {C n d : String} {A : Nat → Prop} {s : State} {args : Array Value} (h : vx_L C n d A s s.heap) : (Cond.laysStatic C n d).before args s = true := by
  obtain ⟨c, k, i, f, a, cell, h1, h2, h3, h4, h5, h6, h7, h8, h9, -⟩ := h
  show (Cond.laysStatic C n d).holds args s none s [] = true
  exact Cond.laysStatic_of h1 h2 h3 h4 h5 h6 h7 h8 h9
/-- .. and what it holds: null or some reference -/
def vx_Zq (C n d : String) (A : Nat → Prop) (U : State) (H : Heap) : Prop := va_Zq C n d A U H ∧ vx_L C n d A U H
theorem vx_Zq.moved {C n d : String} {A : Nat → Prop} {u U : State} {H : Heap} (hvm : u.vm.Alike U.vm) (h : vx_Zq C n d A u H) : vx_Zq C n d A U H := ⟨va_Zq.moved hvm h.1, vx_L.moved hvm h.2⟩
theorem vx_Zq.kept {C n d : String} {A : Nat → Prop} {U : State} {H H1 : Heap} (h : vx_Zq C n d A U H) (hq : ∀ a : Nat, a < H.size → ¬ A a → H1[a]? = H[a]?) : vx_Zq C n d A U H1 := ⟨va_Zq.kept h.1 hq, vx_L.kept h.2 hq⟩
theorem vx_Zq.narrow {C n d : String} {A B : Nat → Prop} {U : State} {H : Heap} (h : vx_Zq C n d A U H) (hAB : ∀ q, B q → A q) : vx_Zq C n d B U H := ⟨va_Zq.narrow h.1 hAB, vx_L.narrow h.2 hAB⟩
theorem vx_Zqof {args : Array Value} {s : State} {C n d : String} {A : Nat → Prop} (hl : (Cond.laysStatic C n d).before args s = true) (hini : (Cond.initialized C).before args s = true) (h : (Cond.isRef (.static C n d)).before args s = true) (hA : ∀ a : Nat, a < s.heap.size → ¬ A a) : vx_Zq C n d A s s.heap := by
  refine ⟨va_Zqof hl hini h hA, ?_⟩
  obtain ⟨c, k, i, f, a, cell, h1, h2, h3, h4, h5, h6, h7, h8, h9⟩ := Cond.laysStatic_spec hl
  exact ⟨c, k, i, f, a, cell, h1, h2, h3, h4, h5, h6, h7, h8, h9, hA a (Array.getElem?_eq_some_iff.mp h5).1⟩
theorem vx_isRef {C n d : String} {v : Value} {A : Nat → Prop} {s : State} {args : Array Value} (h : va_Z C n d v A s s.heap) (hv : v.isRef = true) : (Cond.isRef (.static C n d)).before args s = true := by
  obtain ⟨cf, kf, fi, f, a, cell, h1, h2, h3, h4, h5, h6, h7, -⟩ := h
  have he : (Term.static C n d).eval args s none [] s = some v := by
    simp [Term.eval, State.fieldNamed?, h1, h2, h4, h5, h6, h7]
  simp only [Cond.before, Cond.holds, Cond.value, he]
  cases v <;> simp_all [Value.isRef]
theorem vx_isRefq {C n d : String} {A : Nat → Prop} {s : State} {args : Array Value} (h : va_Zq C n d A s s.heap) : (Cond.isRef (.static C n d)).before args s = true := by
  rcases h with h | ⟨t, h⟩
  · exact vx_isRef h rfl
  · exact vx_isRef h rfl
/-- the same frame, seen from here: as if the method were called anew in this heap -/
theorem vx_rebase {T : State} (X : Stand p l e R s m args below meth c T locs cells slots) {R' : Room} (hf : R'.frames ≤ R.frames) (hl : R'.locals ≤ R.locals) (hc : cells + R'.cells ≤ R.cells) (hs : slots + R'.slots ≤ R.slots) :
    Stand p l e R' ((T.setVm s.vm).setFrames (.invoking m args :: below)) m args below meth c T [] 0 0 := by
  have htop : (T.setVm s.vm).topJava?.isSome := X.here.top
  have hF : ((T.setVm s.vm).setFrames (.invoking m args :: below)).frames = .invoking m args :: below := State.frames_setFrames _ (State.cur_lt_of_top htop)
  obtain ⟨g₀, hg0⟩ := Option.isSome_iff_exists.mp htop
  obtain ⟨r, hr⟩ := State.topJava?_eq_some.mp hg0
  have hl9 : e.platform.stackLimits (T.setVm s.vm).me = e.platform.stackLimits s.me := X.limits
  have hb9 : (T.setVm s.vm).me.stackBytes = s.me.stackBytes := X.bytes
  refine ⟨X.admits, X.cas, X.clock, hF, ?_, X.hears, X.method, X.code, X.here, X.tail, X.warmed, ?_, ?_, ?_⟩
  · have h := X.room
    have hU : ((T.setVm s.vm).setFrames (.invoking m args :: below)).localsInUse = s.localsInUse := by
      rw [State.localsInUse_invoking hF (meth := meth) (c := c) X.method X.code, State.localsInUse_invoking X.frames X.method X.code]
    simp only [State.hasRoom, Bool.and_eq_true, decide_eq_true_eq] at h ⊢
    obtain ⟨⟨⟨⟨h1, h2, h3, h4, h5, h6⟩, h7⟩, h8⟩, h9⟩ := h
    rw [X.frames, List.length_cons] at h2 h3
    have q1 := X.heapSize
    have q2 := X.used
    simp only [hF, hU, List.length_cons, State.stackLimits_setFrames, State.stackBytes_setFrames, hl9, hb9]
    refine ⟨⟨⟨⟨by omega, by omega, by omega, by omega, by omega, h6⟩, ?_⟩, ?_⟩, X.book⟩
    · show T.heap.size + R'.cells ≤ e.platform.maxCells
      omega
    · show T.slotsUsed + R'.slots ≤ e.platform.maxSlots
      omega
  · rw [State.stackLimits_setFrames]; rfl
  · rw [State.stackBytes_setFrames]; rfl
  · refine ⟨?_, Nat.le_refl _, Nat.le_refl _, ?_, ?_, fun a c9 h9 => ⟨c9, h9, rfl, rfl, fun _ _ => rfl⟩⟩
    · obtain ⟨t, ht, -⟩ := State.frames_cons hr
      show T.setVm s.vm = { ((T.setVm s.vm).setFrames (.invoking m args :: below)).setFrames (T.setVm s.vm).frames with heap := T.heap, slotsUsed := T.slotsUsed }
      rw [State.setFrames_setFrames, State.setFrames_self ht]
      rfl
    · show T.slotsUsed = T.slotsUsed + ((T.heap.toList.drop T.heap.size).map (·.slots.size)).sum
      rw [List.drop_eq_nil_of_le (Nat.le_of_eq Array.length_toList)]
      rfl
    · show ((T.heap.toList.drop T.heap.size).map (·.slots.size)).sum ≤ 0
      rw [List.drop_eq_nil_of_le (Nat.le_of_eq Array.length_toList)]
      exact Nat.le_refl _
/-- 'throw new E()': new; dup; invokespecial; athrow -/
theorem vx_throw0 {cc : ByteArray} {pc : Nat} (hexec : p.tables.exec = Jvm.exec) (hb : c.code = cc) (hl : l.stackTraces = false) {own cls : String} {names : List String} {ik ic mc ms : Nat} {A : Nat → Prop}
    (hown : s.vm.findClass own = some m.cls) (hcls : Bundle.fit cls = true) (hnames : ∀ n ∈ names, Bundle.fit n = true)
    (hk : (Cond.classLink own ik cls).before args s = true) (hini : (Cond.initialized cls).before args s = true) (hat : ∀ w ∈ vx_at0 own ic cls names, w.before args s = true)
    (hgood : ∀ w ∈ Cond.classLink own ik cls :: Cond.initialized cls :: vx_at0 own ic cls names, vx_ot w = true)
    (hU : vx_Zq Bundle.tN "UNASSIGNED_STACK" Bundle.steD A s s.heap) (hN : vx_Zq Bundle.tN "SUPPRESSED_SENTINEL" Bundle.listD A s s.heap) (hS : va_S A s.heap H locs) (hsize : ls.size = c.maxLocals)
    (d0 : decode cc pc = .ok (.new ik, 3)) (d3 : decode cc (pc + 3) = .ok (.dup, 1)) (d4 : decode cc (pc + 4) = .ok (.invokespecial ic, 3)) (d7 : decode cc (pc + 7) = .ok (.athrow, 1))
    (hout : ∀ x ∈ c.exceptionTable.toList, covers x (pc + 7) = false)
    (hRframes : names.length + 3 < R.frames) (hRlocals : (rest.map fun v => v.category).sum + (13 * (names.length + 1) + 42) ≤ R.locals) (hRcells : cells + 1 ≤ R.cells) (hRslots : slots + 6 ≤ R.slots) (hlocks : meth.locks = false)
    (hx : ∀ t : State, s.vm.Alike t.vm → H.size ≤ t.heap.size → (∀ q : Nat, q < H.size → t.heap[q]? = H[q]?) → XC cls s t)
    (hf : ∀ z ∈ locs, free z.base) (hc : cells + 1 ≤ mc) (hs : slots + 6 ≤ ms) :
    W p l e R s m args below meth c H locs cells slots (vx_MQ below Qc XC args s mc ms free) (F0 m pc ls rest) := by
  intro T hT X
  have htr : e.platform.stackTraces = false := (show e.platform.stackTraces = l.stackTraces by rw [X.admits.platform]).trans hl
  have Y := vx_rebase X (R' := { frames := R.frames, locals := R.locals, cells := 1, slots := 6 }) (Nat.le_refl _) (Nat.le_refl _) hRcells hRslots
  obtain ⟨s', hA⟩ : ∃ z, z = (T.setVm s.vm).setFrames (.invoking m args :: below) := ⟨_, rfl⟩
  rw [← hA] at Y
  have hvm : s'.vm = s.vm := by rw [hA]; rfl
  have hhp : s'.heap = H := by rw [hA]; exact hT
  have hW0 : s.WarmedH s'.vm := by rw [hvm]; exact State.WarmedH.refl s
  have hat' : ∀ w ∈ vx_at0 own ic cls names, w.before args s' = true := fun w hw => vx_ot_at hW0 hvm.symm (hgood w (List.mem_cons_of_mem _ (List.mem_cons_of_mem _ hw))) (hat w hw)
  have hk' : (Cond.classLink own ik cls).before args s' = true := vx_ot_at hW0 hvm.symm (hgood _ List.mem_cons_self) hk
  have hini' : (Cond.initialized cls).before args s' = true := vx_ot_at hW0 hvm.symm (hgood _ (List.mem_cons_of_mem _ List.mem_cons_self)) hini
  have hU' : vx_Zq Bundle.tN "UNASSIGNED_STACK" Bundle.steD A s' s'.heap := by rw [hhp]; exact vx_Zq.moved hW0.alike (hU.kept hS.2.1)
  have hN' : vx_Zq Bundle.tN "SUPPRESSED_SENTINEL" Bundle.listD A s' s'.heap := by rw [hhp]; exact vx_Zq.moved hW0.alike (hN.kept hS.2.1)
  have h : ∀ w ∈ Bundle.ownAtoms0 own ic cls names, w.before args s' = true := vx_own hat' (vx_isRefq hU'.1) (vx_isRefq hN'.1) hU'.2.word hN'.2.word
  have hown' : s'.vm.findClass own = some m.cls := by rw [hvm]; exact hown
  have hins : (Cond.instantiable cls 6).before args s' = true := h _ (by simp [Bundle.ownAtoms0])
  obtain ⟨vm₁, cX, kX, hfX, hkX, -, -, X₁, st1⟩ := Y.newCold hexec (own := own) (C := cls) (index := ik) (n := 6) hown' hk' hins hini'
    (g := F0 m pc ls rest) rfl (by rw [hb]; exact d0) (Nat.le_refl _) (Nat.le_refl _)
  generalize hT1 : (T.setVm vm₁).pushCell { cls := cX, slots := kX.instanceTypes.map defaultValue, vm := .none } = T1 at X₁ st1
  have hcat : (Value.ref T.heap.size).category = 1 := rfl
  have hcellA : T1.heap[T.heap.size]? = some (freshCell cX kX) := by rw [← hT1]; exact State.heap_pushCell_size _ _
  have d3' : decode c.code (pc + 3) = .ok (.dup, 1) := by rw [hb]; exact d3
  obtain ⟨U, hsteps, hrun, hend, hW, hsame, ce, hce, hO⟩ := X₁.ctorThrow0 hexec htr (own := own) (cls := cls) (names := names) (ic := ic) hown' hcls hnames h (fun x hx => nomatch hx) hfX hkX hcellA (by rw [hhp, hT]; exact Nat.le_refl _)
    (g := { method := m, pc := pc + 4, locals := ls, stack := .ref T.heap.size :: .ref T.heap.size :: rest, locked := none }) rfl hsize rfl rfl (rest := rest) rfl
    (by rw [hb]; exact d4) (by rw [hb]; exact d7) hout hRframes (by simp only [List.map_cons, List.sum_cons, hcat]; omega) hlocks
  obtain ⟨f1, f2⟩ := vx_frame hsame
  rw [hhp] at f1 f2
  have hWs : s.WarmedH U.vm := State.WarmedH.trans hW0 hW
  have hcl : s.vm.findClass cls = some ce.cls := by
    have h9 := hO.cls
    rw [hvm] at h9
    exact h9
  have hall : s.sameButNew ({ U with vm := s.vm } : State) locs mc ms := by
    subst hA
    obtain ⟨e1, e2⟩ := hsame
    rw [State.setFrames_setFrames] at e1
    have h2 : (T.setVm s.vm).sameButNew ({ U with vm := s.vm } : State) [] (0 + 1) (0 + 6) := ⟨e1, e2⟩
    have h3 := X.same.trans h2
    rw [List.append_nil] at h3
    exact h3.mono hc hs
  refine ⟨U, ?_, .threw T.heap.size, hrun, hend, Or.inr ⟨T.heap.size, rfl, cls, ce, locs, hx U hWs.alike f1 (fun q hq => f2 q hq (fun z hz => nomatch hz)), hce, hO.vm, hcl, hWs, hall, hf⟩⟩
  refine st1 _ ?_
  show Steps p.tables e below (T1.setTop { method := m, pc := pc + 3, locals := ls, stack := .ref T.heap.size :: rest, locked := none }) _
  jvm_step X₁.here [X₁.here.top, hexec, d3', Value.category]
  exact hsteps
/-- 'throw new E("text")': new; dup; ldc; invokespecial; athrow -/
theorem vx_throwS {cc : ByteArray} {pc : Nat} (hexec : p.tables.exec = Jvm.exec) (hb : c.code = cc) (hl : l.stackTraces = false) {own cls text : String} {names : List String} {ik is ic mc ms sa : Nat} {A : Nat → Prop}
    (hown : s.vm.findClass own = some m.cls) (hcls : Bundle.fit cls = true) (hnames : ∀ n ∈ names, Bundle.fit n = true)
    (hk : (Cond.classLink own ik cls).before args s = true) (hini : (Cond.initialized cls).before args s = true) (hstr : vk_R own is text sa s) (hat : ∀ w ∈ vx_atS own ic cls names, w.before args s = true)
    (hgood : ∀ w ∈ Cond.classLink own ik cls :: Cond.initialized cls :: vx_atS own ic cls names, vx_ot w = true)
    (hU : vx_Zq Bundle.tN "UNASSIGNED_STACK" Bundle.steD A s s.heap) (hN : vx_Zq Bundle.tN "SUPPRESSED_SENTINEL" Bundle.listD A s s.heap) (hS : va_S A s.heap H locs) (hsize : ls.size = c.maxLocals)
    (d0 : decode cc pc = .ok (.new ik, 3)) (d3 : decode cc (pc + 3) = .ok (.dup, 1)) (d4 : decode cc (pc + 4) = .ok (.ldc is, 2)) (d6 : decode cc (pc + 6) = .ok (.invokespecial ic, 3)) (d9 : decode cc (pc + 9) = .ok (.athrow, 1))
    (hout : ∀ x ∈ c.exceptionTable.toList, covers x (pc + 9) = false)
    (hRframes : names.length + 3 < R.frames) (hRlocals : (rest.map fun v => v.category).sum + (13 * (names.length + 1) + 43) ≤ R.locals) (hRcells : cells + 1 ≤ R.cells) (hRslots : slots + 6 ≤ R.slots) (hlocks : meth.locks = false)
    (hx : ∀ t : State, s.vm.Alike t.vm → H.size ≤ t.heap.size → (∀ q : Nat, q < H.size → t.heap[q]? = H[q]?) → XC cls s t)
    (hf : ∀ z ∈ locs, free z.base) (hc : cells + 1 ≤ mc) (hs : slots + 6 ≤ ms) :
    W p l e R s m args below meth c H locs cells slots (vx_MQ below Qc XC args s mc ms free) (F0 m pc ls rest) := by
  intro T hT X
  have htr : e.platform.stackTraces = false := (show e.platform.stackTraces = l.stackTraces by rw [X.admits.platform]).trans hl
  have Y := vx_rebase X (R' := { frames := R.frames, locals := R.locals, cells := 1, slots := 6 }) (Nat.le_refl _) (Nat.le_refl _) hRcells hRslots
  obtain ⟨s', hA⟩ : ∃ z, z = (T.setVm s.vm).setFrames (.invoking m args :: below) := ⟨_, rfl⟩
  rw [← hA] at Y
  have hvm : s'.vm = s.vm := by rw [hA]; rfl
  have hhp : s'.heap = H := by rw [hA]; exact hT
  have hW0 : s.WarmedH s'.vm := by rw [hvm]; exact State.WarmedH.refl s
  have hat' : ∀ w ∈ vx_atS own ic cls names, w.before args s' = true := fun w hw => vx_ot_at hW0 hvm.symm (hgood w (List.mem_cons_of_mem _ (List.mem_cons_of_mem _ hw))) (hat w hw)
  have hk' : (Cond.classLink own ik cls).before args s' = true := vx_ot_at hW0 hvm.symm (hgood _ List.mem_cons_self) hk
  have hini' : (Cond.initialized cls).before args s' = true := vx_ot_at hW0 hvm.symm (hgood _ (List.mem_cons_of_mem _ List.mem_cons_self)) hini
  have hU' : vx_Zq Bundle.tN "UNASSIGNED_STACK" Bundle.steD A s' s'.heap := by rw [hhp]; exact vx_Zq.moved hW0.alike (hU.kept hS.2.1)
  have hN' : vx_Zq Bundle.tN "SUPPRESSED_SENTINEL" Bundle.listD A s' s'.heap := by rw [hhp]; exact vx_Zq.moved hW0.alike (hN.kept hS.2.1)
  have h : ∀ w ∈ Bundle.ownAtoms own ic cls names, w.before args s' = true := vx_own hat' (vx_isRefq hU'.1) (vx_isRefq hN'.1) hU'.2.word hN'.2.word
  have hown' : s'.vm.findClass own = some m.cls := by rw [hvm]; exact hown
  have hins : (Cond.instantiable cls 6).before args s' = true := h _ (by simp [Bundle.ownAtoms])
  obtain ⟨vm₁, cX, kX, hfX, hkX, -, -, X₁, st1⟩ := Y.newCold hexec (own := own) (C := cls) (index := ik) (n := 6) hown' hk' hins hini'
    (g := F0 m pc ls rest) rfl (by rw [hb]; exact d0) (Nat.le_refl _) (Nat.le_refl _)
  generalize hT1 : (T.setVm vm₁).pushCell { cls := cX, slots := kX.instanceTypes.map defaultValue, vm := .none } = T1 at X₁ st1
  have hcat : (Value.ref T.heap.size).category = 1 := rfl
  have hcellA : T1.heap[T.heap.size]? = some (freshCell cX kX) := by rw [← hT1]; exact State.heap_pushCell_size _ _
  have d3' : decode c.code (pc + 3) = .ok (.dup, 1) := by rw [hb]; exact d3
  have d4' : decode c.code (pc + 4) = .ok (.ldc is, 2) := by rw [hb]; exact d4
  have hstr' : vk_R own is text sa s' := vk_R.warm hW0 hstr
  obtain ⟨U, hsteps, hrun, hend, hW, hsame, ce, hce, hO⟩ := X₁.ctorThrowS hexec htr (own := own) (cls := cls) (names := names) (ic := ic) hown' hcls hnames h (fun x hx => nomatch hx) hfX hkX hcellA (by rw [hhp, hT]; exact Nat.le_refl _) (msg := .ref sa) rfl
    (g := { method := m, pc := pc + 6, locals := ls, stack := .ref sa :: .ref T.heap.size :: .ref T.heap.size :: rest, locked := none }) rfl hsize rfl rfl (rest := rest) rfl
    (by rw [hb]; exact d6) (by rw [hb]; exact d9) hout hRframes (by simp only [List.map_cons, List.sum_cons, hcat]; omega) hlocks
  obtain ⟨f1, f2⟩ := vx_frame hsame
  rw [hhp] at f1 f2
  have hWs : s.WarmedH U.vm := State.WarmedH.trans hW0 hW
  have hcl : s.vm.findClass cls = some ce.cls := by
    have h9 := hO.cls
    rw [hvm] at h9
    exact h9
  have hall : s.sameButNew ({ U with vm := s.vm } : State) locs mc ms := by
    subst hA
    obtain ⟨e1, e2⟩ := hsame
    rw [State.setFrames_setFrames] at e1
    have h2 : (T.setVm s.vm).sameButNew ({ U with vm := s.vm } : State) [] (0 + 1) (0 + 6) := ⟨e1, e2⟩
    have h3 := X.same.trans h2
    rw [List.append_nil] at h3
    exact h3.mono hc hs
  refine ⟨U, ?_, .threw T.heap.size, hrun, hend, Or.inr ⟨T.heap.size, rfl, cls, ce, locs, hx U hWs.alike f1 (fun q hq => f2 q hq (fun z hz => nomatch hz)), hce, hO.vm, hcl, hWs, hall, hf⟩⟩
  refine st1 _ ?_
  show Steps p.tables e below (T1.setTop { method := m, pc := pc + 3, locals := ls, stack := .ref T.heap.size :: rest, locked := none }) _
  jvm_step X₁.here [X₁.here.top, hexec, d3', Value.category]
  exact X₁.ldcString hexec (own := own) (text := text) (index := is) (a := sa) hown' hstr'.1 hstr'.2
    (g := { method := m, pc := pc + 4, locals := ls, stack := .ref T.heap.size :: .ref T.heap.size :: rest, locked := none }) rfl d4' _ hsteps
/-- 'throw new E("text")', the text by a wide index -/
theorem vx_throwSW {cc : ByteArray} {pc : Nat} (hexec : p.tables.exec = Jvm.exec) (hb : c.code = cc) (hl : l.stackTraces = false) {own cls text : String} {names : List String} {ik is ic mc ms sa : Nat} {A : Nat → Prop}
    (hown : s.vm.findClass own = some m.cls) (hcls : Bundle.fit cls = true) (hnames : ∀ n ∈ names, Bundle.fit n = true)
    (hk : (Cond.classLink own ik cls).before args s = true) (hini : (Cond.initialized cls).before args s = true) (hstr : vk_R own is text sa s) (hat : ∀ w ∈ vx_atS own ic cls names, w.before args s = true)
    (hgood : ∀ w ∈ Cond.classLink own ik cls :: Cond.initialized cls :: vx_atS own ic cls names, vx_ot w = true)
    (hU : vx_Zq Bundle.tN "UNASSIGNED_STACK" Bundle.steD A s s.heap) (hN : vx_Zq Bundle.tN "SUPPRESSED_SENTINEL" Bundle.listD A s s.heap) (hS : va_S A s.heap H locs) (hsize : ls.size = c.maxLocals)
    (d0 : decode cc pc = .ok (.new ik, 3)) (d3 : decode cc (pc + 3) = .ok (.dup, 1)) (d4 : decode cc (pc + 4) = .ok (.ldc_w is, 3)) (d7 : decode cc (pc + 7) = .ok (.invokespecial ic, 3)) (d10 : decode cc (pc + 10) = .ok (.athrow, 1))
    (hout : ∀ x ∈ c.exceptionTable.toList, covers x (pc + 10) = false)
    (hRframes : names.length + 3 < R.frames) (hRlocals : (rest.map fun v => v.category).sum + (13 * (names.length + 1) + 43) ≤ R.locals) (hRcells : cells + 1 ≤ R.cells) (hRslots : slots + 6 ≤ R.slots) (hlocks : meth.locks = false)
    (hx : ∀ t : State, s.vm.Alike t.vm → H.size ≤ t.heap.size → (∀ q : Nat, q < H.size → t.heap[q]? = H[q]?) → XC cls s t)
    (hf : ∀ z ∈ locs, free z.base) (hc : cells + 1 ≤ mc) (hs : slots + 6 ≤ ms) :
    W p l e R s m args below meth c H locs cells slots (vx_MQ below Qc XC args s mc ms free) (F0 m pc ls rest) := by
  intro T hT X
  have htr : e.platform.stackTraces = false := (show e.platform.stackTraces = l.stackTraces by rw [X.admits.platform]).trans hl
  have Y := vx_rebase X (R' := { frames := R.frames, locals := R.locals, cells := 1, slots := 6 }) (Nat.le_refl _) (Nat.le_refl _) hRcells hRslots
  obtain ⟨s', hA⟩ : ∃ z, z = (T.setVm s.vm).setFrames (.invoking m args :: below) := ⟨_, rfl⟩
  rw [← hA] at Y
  have hvm : s'.vm = s.vm := by rw [hA]; rfl
  have hhp : s'.heap = H := by rw [hA]; exact hT
  have hW0 : s.WarmedH s'.vm := by rw [hvm]; exact State.WarmedH.refl s
  have hat' : ∀ w ∈ vx_atS own ic cls names, w.before args s' = true := fun w hw => vx_ot_at hW0 hvm.symm (hgood w (List.mem_cons_of_mem _ (List.mem_cons_of_mem _ hw))) (hat w hw)
  have hk' : (Cond.classLink own ik cls).before args s' = true := vx_ot_at hW0 hvm.symm (hgood _ List.mem_cons_self) hk
  have hini' : (Cond.initialized cls).before args s' = true := vx_ot_at hW0 hvm.symm (hgood _ (List.mem_cons_of_mem _ List.mem_cons_self)) hini
  have hU' : vx_Zq Bundle.tN "UNASSIGNED_STACK" Bundle.steD A s' s'.heap := by rw [hhp]; exact vx_Zq.moved hW0.alike (hU.kept hS.2.1)
  have hN' : vx_Zq Bundle.tN "SUPPRESSED_SENTINEL" Bundle.listD A s' s'.heap := by rw [hhp]; exact vx_Zq.moved hW0.alike (hN.kept hS.2.1)
  have h : ∀ w ∈ Bundle.ownAtoms own ic cls names, w.before args s' = true := vx_own hat' (vx_isRefq hU'.1) (vx_isRefq hN'.1) hU'.2.word hN'.2.word
  have hown' : s'.vm.findClass own = some m.cls := by rw [hvm]; exact hown
  have hins : (Cond.instantiable cls 6).before args s' = true := h _ (by simp [Bundle.ownAtoms])
  obtain ⟨vm₁, cX, kX, hfX, hkX, -, -, X₁, st1⟩ := Y.newCold hexec (own := own) (C := cls) (index := ik) (n := 6) hown' hk' hins hini'
    (g := F0 m pc ls rest) rfl (by rw [hb]; exact d0) (Nat.le_refl _) (Nat.le_refl _)
  generalize hT1 : (T.setVm vm₁).pushCell { cls := cX, slots := kX.instanceTypes.map defaultValue, vm := .none } = T1 at X₁ st1
  have hcat : (Value.ref T.heap.size).category = 1 := rfl
  have hcellA : T1.heap[T.heap.size]? = some (freshCell cX kX) := by rw [← hT1]; exact State.heap_pushCell_size _ _
  have d3' : decode c.code (pc + 3) = .ok (.dup, 1) := by rw [hb]; exact d3
  have d4' : decode c.code (pc + 4) = .ok (.ldc_w is, 3) := by rw [hb]; exact d4
  have hstr' : vk_R own is text sa s' := vk_R.warm hW0 hstr
  obtain ⟨U, hsteps, hrun, hend, hW, hsame, ce, hce, hO⟩ := X₁.ctorThrowS hexec htr (own := own) (cls := cls) (names := names) (ic := ic) hown' hcls hnames h (fun x hx => nomatch hx) hfX hkX hcellA (by rw [hhp, hT]; exact Nat.le_refl _) (msg := .ref sa) rfl
    (g := { method := m, pc := pc + 7, locals := ls, stack := .ref sa :: .ref T.heap.size :: .ref T.heap.size :: rest, locked := none }) rfl hsize rfl rfl (rest := rest) rfl
    (by rw [hb]; exact d7) (by rw [hb]; exact d10) hout hRframes (by simp only [List.map_cons, List.sum_cons, hcat]; omega) hlocks
  obtain ⟨f1, f2⟩ := vx_frame hsame
  rw [hhp] at f1 f2
  have hWs : s.WarmedH U.vm := State.WarmedH.trans hW0 hW
  have hcl : s.vm.findClass cls = some ce.cls := by
    have h9 := hO.cls
    rw [hvm] at h9
    exact h9
  have hall : s.sameButNew ({ U with vm := s.vm } : State) locs mc ms := by
    subst hA
    obtain ⟨e1, e2⟩ := hsame
    rw [State.setFrames_setFrames] at e1
    have h2 : (T.setVm s.vm).sameButNew ({ U with vm := s.vm } : State) [] (0 + 1) (0 + 6) := ⟨e1, e2⟩
    have h3 := X.same.trans h2
    rw [List.append_nil] at h3
    exact h3.mono hc hs
  refine ⟨U, ?_, .threw T.heap.size, hrun, hend, Or.inr ⟨T.heap.size, rfl, cls, ce, locs, hx U hWs.alike f1 (fun q hq => f2 q hq (fun z hz => nomatch hz)), hce, hO.vm, hcl, hWs, hall, hf⟩⟩
  refine st1 _ ?_
  show Steps p.tables e below (T1.setTop { method := m, pc := pc + 3, locals := ls, stack := .ref T.heap.size :: rest, locked := none }) _
  jvm_step X₁.here [X₁.here.top, hexec, d3', Value.category]
  exact X₁.ldcStringW hexec (own := own) (text := text) (index := is) (a := sa) hown' hstr'.1 hstr'.2
    (g := { method := m, pc := pc + 4, locals := ls, stack := .ref T.heap.size :: .ref T.heap.size :: rest, locked := none }) rfl d4' _ hsteps
end Ends
section Bodies
variable {l : Launch}
theorem vx_ofW {y : MethodName} {ws ws' : List Cond} {rm : Room} {Pc : Array Value → State → Prop} {Qc : Array Value → State → Outcome → State → Prop} {XC : String → State → State → Prop} {mc ms : Nat} {free : Addr → Prop} {cc : ByteArray} {maxL : Nat} {ret : Option FieldType}
    (hy : plainName y.cls = true) (hw : ws = Cond.code y cc maxL ret :: ws')
    (body : ∀ p e s m args below meth c s₁, BodyLoose p l y (headSpec ws rm) cc maxL ret e s m args below meth c s₁ → c.maxLocals = maxL → (∀ x ∈ c.exceptionTable.toList, False) → Pc args s →
      W p l e (headSpec ws rm).room s m args below meth c s.heap [] 0 0 (vx_MQ below Qc XC args s mc ms free) (entryFrame m args maxL)) : vx_Met l y ws rm Pc Qc XC mc ms free := by
  refine MetFree.of_bodyS (code := cc) (maxLocals := maxL) (ret := ret) hy ?_ ?_
  · intro args s m h hn
    obtain ⟨meth, c, h1, h2, h3, h4, h5, h6, -, -⟩ := Cond.code_spec hn (atoms_spec (ws := ws) h _ (by rw [hw]; exact List.mem_cons_self))
    exact ⟨meth, c, h1, h2, h3, h4, h5, h6⟩
  · intro p e s m args below meth c s₁ B hml hP _
    have hh0 : s₁.heap = s.heap := by rw [B.state]; rfl
    have ht : ∀ x ∈ c.exceptionTable.toList, False := by
      obtain ⟨meth9, c9, h1, h2, -, -, -, -, h7, -⟩ := Cond.code_spec B.named (atoms_spec (ws := ws) B.pre _ (by rw [hw]; exact List.mem_cons_self))
      cases Option.some.inj (h1.symm.trans B.method)
      cases Option.some.inj (h2.symm.trans (Stand.of_body B).code)
      intro x hx
      rw [Array.isEmpty_iff.mp h7] at hx
      cases hx
    obtain ⟨t, a1, o, b1, b2, b3⟩ := body p e s m args below meth c s₁ B hml ht hP s₁ hh0 (Stand.of_body B)
    exact ⟨t, o, a1, b1, b2, b3⟩
/-- the table of a body with handlers -/
theorem vx_table {p : Program} {x y : MethodName} {S : Spec} {cc bytes : ByteArray} {maxL maxL' : Nat} {ret ret' : Option FieldType} {e : Env} {s s₁ : State} {m : MethodId} {args : Array Value} {below : List Frame} {meth : Method} {c : Code} {hh : List (Nat × Nat × Nat × Nat)}
    (B : BodyLoose p l y S cc maxL ret e s m args below meth c s₁) (h : (Cond.codeWith y bytes maxL' ret' hh).before args s = true) : c.exceptionTable.toList = tableOf hh := by
  obtain ⟨m9, meth9, c9, hn9, h1, h2, -, -, h6, -⟩ := Cond.codeWith_spec h
  cases Option.some.inj (hn9.symm.trans B.named)
  cases Option.some.inj (h1.symm.trans B.method)
  cases Option.some.inj (h2.symm.trans (Stand.of_body B).code)
  rw [← h6, table_eq]
end Bodies
end VXA
/-! ===== END ===== -/
/-! ===== BEGIN a static call of a method with an exception table ===== -/
section VXS
variable {p : Program} {l : Launch} {e : Env} {R : Room} {s : State} {m : MethodId} {args : Array Value} {below : List Frame} {meth : Method} {c : Code} {T : State} {H : Heap} {locs : List Loc} {cells slots : Nat}
abbrev vx_CSW (R : Room) (s : State) (args : Array Value) (own : String) (index : Nat) (y : MethodName) (bytes : ByteArray) (maxL : Nat) (ret : Option FieldType) (hh : List (Nat × Nat × Nat × Nat)) (ws : List Cond) (rm : Room) (mc ms n : Nat) : Prop :=
  (rm.cells = mc ∧ rm.slots = ms ∧ rm.frames + 1 ≤ R.frames ∧ 8 + (maxL + 11) + rm.locals ≤ R.locals ∧ (∀ w ∈ ws, ∀ (a' : Array Value) (U : State), s.WarmedH U.vm → w.before a' U = true) ∧ Cond.codeWith y bytes maxL ret hh ∈ ws) ∧
  (Cond.codeWith y bytes maxL ret hh).before args s = true ∧ (Cond.initialized y.cls).before args s = true ∧ (y.cls ≠ "java/lang/invoke/MethodHandle" ∧ y.cls ≠ "java/lang/invoke/VarHandle") ∧
  (∀ sig, parseMethodDescriptor y.desc = some sig → n = sig.parameters.length) ∧ (Cond.methodLink own index y).before args s = true ∧ (Cond.static y).before args s = true
theorem vx_cwSW {own : String} {index maxL mc ms : Nat} {y : MethodName} {bytes : ByteArray} {ret : Option FieldType} {hh : List (Nat × Nat × Nat × Nat)} {Ts ws ws' : List Cond} {rm : Room} (n : Nat) (ht : ∀ w ∈ Ts, w.before args s = true) (hT : GoodIn Ts (va_wsS own index y ws)) (hw : ws = Cond.codeWith y bytes maxL ret hh :: ws') (hrc : rm.cells = mc) (hrs : rm.slots = ms)
    (hd : y.cls ≠ "java/lang/invoke/MethodHandle" ∧ y.cls ≠ "java/lang/invoke/VarHandle" ∧ (parseMethodDescriptor y.desc).map (fun d => d.parameters.length) = some n) (hR : rm.frames + 1 ≤ R.frames ∧ 8 + (maxL + 11) + rm.locals ≤ R.locals) :
    vx_CSW R s args own index y bytes maxL ret hh ws rm mc ms n := by
  have ok : ∀ w ∈ va_wsS own index y ws, w.before args s = true := fun w h => ht w (hT w h).1
  have hG : GoodIn Ts ws := fun w h => hT w (by unfold va_wsS; exact List.mem_append_right _ h)
  have hc : Cond.codeWith y bytes maxL ret hh ∈ ws := by rw [hw]; exact List.mem_cons_self
  refine ⟨⟨hrc, hrs, hR.1, hR.2, pay_in ht hG, hc⟩, ht _ (hG _ hc).1, ok _ (by simp [va_wsS]), ⟨hd.1, hd.2.1⟩, fun sig h => ?_, ok _ (by simp [va_wsS]), ok _ (by simp [va_wsS])⟩
  have h2 := hd.2.2
  rw [h] at h2
  exact (Option.some.inj h2).symm
theorem vx_callSW (X : Stand p l e R s m args below meth c T locs cells slots) (hexec : p.tables.exec = Jvm.exec) {own : String} {index : Nat} {y : MethodName} {bytes : ByteArray} {maxL : Nat} {ret : Option FieldType} {hh : List (Nat × Nat × Nat × Nat)}
    (hown : s.vm.findClass own = some m.cls) (hlink : (Cond.methodLink own index y).before args s = true) (hstat : (Cond.static y).before args s = true) (hinit : (Cond.initialized y.cls).before args s = true)
    (hcode : (Cond.codeWith y bytes maxL ret hh).before args s = true) (hy : y.cls ≠ "java/lang/invoke/MethodHandle" ∧ y.cls ≠ "java/lang/invoke/VarHandle")
    {W9 : Nat} {Pre : Pt → Array Value → Prop} {Post : Pt → Array Value → Option Value → Pt → Prop} (hK : Back l R p e below s args y 3 W9 Pre Post)
    {g : JFrame} (hg : g.method = m) (hsize : g.locals.size = c.maxLocals) {argsL rest : List Value} (hlen : ∀ sig, parseMethodDescriptor y.desc = some sig → argsL.length = sig.parameters.length)
    (hstack : g.stack = argsL.reverse ++ rest) (hW : 2 * g.monitorRoom + (rest.map fun v => v.category).sum ≤ W9) (hdg : decode c.code g.pc = .ok (.invokestatic index, 3))
    (hpre : ∀ vm₁, s.WarmedH vm₁ → Pre ⟨T.setVm vm₁, locs, cells, slots⟩ argsL.toArray) :
    ∃ (v : Option Value) (vm₁ : Vm) (B : Pt), s.WarmedH vm₁ ∧ Stand p l e R s m args below meth c B.U B.locs B.cells B.slots ∧ Post ⟨T.setVm vm₁, locs, cells, slots⟩ argsL.toArray v B ∧
      ∀ target, Steps p.tables e below (B.U.setTop { g with pc := g.pc + 3, stack := v.toList ++ rest }) target → Steps p.tables e below (T.setTop g) target := by
  obtain ⟨mk, methM, cM, hnamed, hmethM, -, -, -, -, -, -, hsigM⟩ := Cond.codeWith_spec hcode
  have hstatic : methM.isStatic = true := Cond.static_spec hnamed hmethM hstat
  obtain ⟨kP, hkP, -⟩ := className_of_methodNamed hnamed
  have hinitP : kP.init = .initialized := Cond.initialized_spec (findClass_of_methodNamed hnamed) hkP hinit
  obtain ⟨vm₁, X₁, hstep₁⟩ := X.invokestatic hexec hown hlink hnamed hmethM hstatic hkP hinitP hy (g := g) hg (argsL := argsL) (rest := rest) (hlen _ hsigM) hstack hdg
  obtain ⟨v, B, X', hpost, hsteps⟩ := hK m meth c ⟨T.setVm vm₁, locs, cells, slots⟩ { g with stack := rest } (.invokestatic index) mk argsL.toArray X₁ hg hsize hdg hW (X₁.named hnamed) (hpre vm₁ X₁.warmed)
  exact ⟨v, vm₁, B, X₁.warmed, X', hpost, fun target h => hstep₁ _ fun acts => by rw [doInvoke_state]; exact hsteps.trans h⟩
theorem vx_runSW {y : MethodName} {bytes cc : ByteArray} {maxL nL mc ms n index : Nat} {ret : Option FieldType} {hh : List (Nat × Nat × Nat × Nat)} {ws : List Cond} {rm : Room} {Pc : Array Value → State → Prop} {Qc : Array Value → State → Outcome → State → Prop} {free : Addr → Prop} {Ts : List Cond} {own : String} {As rest : List Value} {g : JFrame}
    (S : CallFix p m c cc nL s args Ts own) (hM : Met l y ws rm Pc Qc mc ms free) (cw : vx_CSW R s args own index y bytes maxL ret hh ws rm mc ms n) (hp : PreS s H Pc As)
    (hg : g.method = m) (hn : As.length = n) (hsize : g.locals.size = nL) (hstack : g.stack = As.reverse ++ rest) (hW : 2 * g.monitorRoom + (rest.map fun v => v.category).sum ≤ 8) (hdg : decode cc g.pc = .ok (.invokestatic index, 3)) (hf : cells + mc ≤ R.cells ∧ slots + ms ≤ R.slots) :
    va_Run p l e R s m args below meth c H locs cells slots mc ms g rest (Qc As.toArray) (free) := by
  obtain ⟨⟨hrc, hrs, hfr, hlo, hws, hcw⟩, hcode, hini, hy, hlen, hl, hstt⟩ := cw
  have hK : Back l R p e below s args y 3 8 (PreOf R mc ms Pc) (PostOf Qc mc ms free) := va_backW (hh := hh) (bytes := bytes) (maxL := maxL) (ret := ret) hM hp.1 hrc hrs hfr hlo hws hcw (fun a' U hW => word_at hW (Or.inl (by first | rfl | simp [Cond.onTables, Cond.keeps, Cond.steady])) hini)
  obtain ⟨hx, hb, hml, ho, -⟩ := S
  intro T hT X
  obtain ⟨v, vm₁, ⟨U', l2, c2, s2⟩, hW₁, X', ⟨g', mk, t, L, e1, e2, hq, h1, hL, h2, h3⟩, st⟩ := vx_callSW X hx (hh := hh) (bytes := bytes) (maxL := maxL) (ret := ret) ho hl hstt hini hcode hy hK hg (hsize.trans hml.symm) (argsL := As) (rest := rest) (fun sig h => hn.trans (hlen sig h)) hstack hW (by rw [hb]; exact hdg)
    (fun vm₁ hW₁ => ⟨hf.1, hf.2, hp.2 (T.setVm vm₁) hT hW₁⟩)
  dsimp only [Pt.U, Pt.locs, Pt.cells, Pt.slots] at X' e1 e2 h1 h2 h3 st
  subst h1; subst h2; subst h3
  exact ⟨v, (T.setVm vm₁).calling g' mk As.toArray, t, U', L, hT, X', hL, e1, e2, hq, st⟩
/-- not caught here, past rows that name other classes: it goes on to the caller -/
theorem vx_outP {p : Program} {l : Launch} {e : Env} {R : Room} {s : State} {m : MethodId} {args : Array Value} {below : List Frame} {meth : Method} {c : Code} {H : Heap} {locs : List Loc} {cells slots : Nat} {free : Addr → Prop} {ls : Array Slot} {rest : List Value} {Qc : Array Value → State → Outcome → State → Prop} {XC : String → State → State → Prop}
    {pc : Nat} {own E : String} {ce : Cell} {q : Addr} {mc ms : Nat} (hown : s.vm.findClass own = some m.cls) (hlocks : meth.locks = false)
    (hpass : ∀ z ∈ c.exceptionTable.toList, covers z pc = false ∨ (z.catchType ≠ 0 ∧ ∃ nm : String, (Cond.classLink own z.catchType nm).before args s = true ∧ va_Nc E nm s)) (hcell : H[q]? = some ce) (hv : ce.vm = .none) (hcl : s.vm.findClass E = some ce.cls)
    (hx : ∀ t : State, t.heap = H → s.vm.Alike t.vm → XC E s t) (hf : ∀ z ∈ locs, free z.base) (hc : cells ≤ mc) (hs : slots ≤ ms) :
    vx_W p l e R s m args below meth c H locs cells slots (vx_MQ below Qc XC args s mc ms free) (F0 m pc ls rest) q := by
  intro T hT X
  have hpl : e.platform.magicAccessors = ({} : Platform).magicAccessors := by rw [X.admits.platform]
  obtain ⟨vm', hW', X', st⟩ := X.outThrough hlocks q (g := F0 m pc ls rest) rfl rfl rfl (cell := ce) (by rw [hT]; exact hcell) (by rw [hv]; rfl)
    (by obtain ⟨k9, h9, -⟩ := Vm.findClass_spec hcl; exact ⟨k9, h9⟩) (fun z hz => by
      rcases hpass z hz with h | ⟨hz0, nm, hl1, hn1⟩
      · exact Or.inl h
      · obtain ⟨c6, hc6, hcl6⟩ := Cond.classLink_spec hown hl1 e.platform hpl
        obtain ⟨a8, b8, h1, h2, h3⟩ := hn1
        cases Option.some.inj (h1.symm.trans hcl)
        cases Option.some.inj (h2.symm.trans hc6)
        exact Or.inr ⟨hz0, _, hcl6, h3⟩)
  obtain ⟨g₀, hfr⟩ := X'.frames_eq
  have hcell9 : ((T.setVm vm').setFrames (.throwing q :: below)).heap[q]? = some ce := by
    show T.heap[q]? = some ce
    rw [hT]; exact hcell
  have hend : Ended ((T.setVm vm').setFrames (.throwing q :: below)) below (.threw q) := State.frames_setFrames _ (State.cur_lt_of_frames hfr)
  refine ⟨(T.setVm vm').setFrames (.throwing q :: below), ?_, .threw q, X'.here.running, hend, Or.inr ⟨q, rfl, E, ce, locs, hx _ hT (X'.ends _).1.alike, hcell9, hv, hcl, (X'.ends _).1, (X'.ends _).2.mono hc hs, hf⟩⟩
  rw [X.pushThrowing_eq]
  exact st
/-- a thing of a world lies in the heap -/
theorem vx_lt {D : va_G} {cl : List vw_C} {ws : va_W} {H1 : Heap} (h : va_P D cl ws H1) {k : Nat} {q : Nat × va_E} (hk : ws[k]? = some q) : q.1 < H1.size := (h k q hk).lt
end VXS
/-! ===== END ===== -/
/-! ===== BEGIN methods with a table of their own: called by a name, returning or throwing ===== -/
section VXH
/-! vx_backW, vx_callVX, vx_callSX, vx_callVW, vx_runVW, vx_runVX, vx_runSX, vx_ofWH follow the same proofs as their sisters above (Free/Laws.lean, Shelf42/LK1.lean); vx_outP calls Shelf42/NT130.lean (outThrough). -/
section
variable {l : Launch} {R : Room} {p : Program} {e : Env} {below : List Frame} {s : State} {sargs : Array Value} {y : MethodName} {len W9 : Nat}
theorem vx_backW {ws : List Cond} {rm : Room} {Pc : Array Value → State → Prop} {Qc : Array Value → State → Outcome → State → Prop} {XC : String → State → State → Prop} {mc ms : Nat} {free : Addr → Prop} {bytes : ByteArray} {maxL : Nat} {ret : Option FieldType} {hh : List (Nat × Nat × Nat × Nat)}
    (hM : vx_Met l y ws rm Pc Qc XC mc ms free) (hblind : FrameBlind Pc) (hrc : rm.cells = mc) (hrs : rm.slots = ms)
    (hframes : rm.frames + 1 ≤ R.frames) (hlocals : W9 + (maxL + 11) + rm.locals ≤ R.locals)
    (hws : ∀ w ∈ ws, ∀ a' U, s.WarmedH U.vm → w.before a' U = true) (hcode : Cond.codeWith y bytes maxL ret hh ∈ ws) (hinit : ∀ a' U, s.WarmedH U.vm → (Cond.initialized y.cls).before a' U = true) :
    vx_Back l R p e below s sargs y len W9 (PreOf R mc ms Pc) (PostOf Qc mc ms free) (vx_Post XC mc ms free) := by
  intro m meth c A g ig mk a X hg hsize hdg hW hn hp
  have h1 : (headSpec ws rm).pre.before a A.U = true := atoms_intro fun w hw => hws w hw _ _ X.warmed
  have h2 : (Cond.codeWith y bytes maxL ret hh).before a A.U = true := hws _ hcode _ _ X.warmed
  have h3 : (Cond.initialized y.cls).before a A.U = true := hinit _ _ X.warmed
  have h4 : A.cells + (headSpec ws rm).room.cells ≤ R.cells := by rw [show (headSpec ws rm).room.cells = mc from hrc]; exact hp.1
  have h5 : A.slots + (headSpec ws rm).room.slots ≤ R.slots := by rw [show (headSpec ws rm).room.slots = ms from hrs]; exact hp.2.1
  have hPc : Pc a (A.U.calling g mk a) := hblind _ _ _ _ hp.2.2
  obtain ⟨U, Ls, c0, s0⟩ := A
  dsimp only [Pt.U, Pt.locs, Pt.cells, Pt.slots] at h1 h2 h3 h4 h5 X hn hPc ⊢
  obtain ⟨m9, methY, cY, hn9, hmY, hcY, -, hlY, -⟩ := Cond.codeWith_spec h2
  cases Option.some.inj (hn9.symm.trans hn)
  obtain ⟨kY, hkY, -⟩ := className_of_methodNamed hn
  have hinitY : kY.init = .initialized := Cond.initialized_spec (findClass_of_methodNamed hn) hkY h3
  have h : At U g.method c below := by rw [hg]; exact X.here
  have hlocals9 : W9 + (maxL + 11) + (headSpec ws rm).room.locals ≤ R.locals := hlocals
  have happ : (headSpec ws rm).appliesLoose y e.platform (U.calling g mk a) = true :=
    Spec.appliesLoose_calling (g := g) h hdg hn hkY hinitY
      (X.room_calling (g := g) (R' := (headSpec ws rm).room) hsize hmY hcY hframes (by rw [hlY]; omega) h4 h5) h1
  obtain ⟨mid, hmid⟩ := h.above
  have hfr : (U.setTop g).frames = (.java g :: mid) ++ below := by rw [State.frames_setTop' g h.top, hmid]; rfl
  obtain ⟨o, s₂, hsteps, -, hend, hq⟩ := Steps.callFree hM p X.admits X.cas X.clock (acts := []) hfr happ hPc trivial
  have hq' : vx_Q Qc XC mc ms free a (U.calling g mk a) o s₂ := hq
  rw [State.frames_setTop' g h.top] at hend
  obtain ⟨g₀, hg0⟩ := Option.isSome_iff_exists.mp h.top
  obtain ⟨r, hr⟩ := State.topJava?_eq_some.mp hg0
  have hr' : (({ U with heap := s₂.heap, slotsUsed := s₂.slotsUsed } : State).setVm s₂.vm).frames = .java g₀ :: r := hr
  rcases hq' with ⟨hqc, L, hfe, hL⟩ | ⟨q, rfl, E, ce, L, hx, hce, hcv, hcl, hW₂, hsm, hL⟩
  · obtain ⟨⟨v, rfl⟩, hW₂, e2, q2, q3, q4, q5, q6⟩ := id hfe
    have e3 : s₂ = ({ (U.calling g mk a).setFrames s₂.frames with heap := s₂.heap, slotsUsed := s₂.slotsUsed } : State).setVm s₂.vm := by
      have : s₂ = ({ s₂ with vm := (U.calling g mk a).vm } : State).setVm s₂.vm := rfl
      rw [e2] at this
      exact this
    obtain ⟨c₂, i₂, len₂, hc₂, hd₂, hf₂⟩ := hend
    have hW' : U.WarmedH s₂.vm := hW₂
    have hcc : c₂ = c := by
      have h1 : s₂.code? g.method = U.code? g.method := by
        rw [State.code?_eq, State.code?_eq, hW'.alike.method?]
      exact Option.some.inj (hc₂.symm.trans (h1.trans h.code))
    subst hcc
    have hlen : len₂ = len := by rw [hdg] at hd₂; cases hd₂; rfl
    subst hlen
    have hs₂ : s₂ = (({ U with heap := s₂.heap, slotsUsed := s₂.slotsUsed } : State).setVm s₂.vm).setTop { g with pc := g.pc + len₂, stack := v.toList ++ g.stack } := by
      refine e3.trans ?_
      rw [hf₂, State.calling_eq h.top, State.setFrames_setFrames, State.setTop_of_frames _ hr', hr]
      rfl
    have hsame : U.sameButNew ({ U with heap := s₂.heap, slotsUsed := s₂.slotsUsed } : State) L mc ms := by
      refine ⟨?_, q2, q3, q4, q5, q6⟩
      obtain ⟨t, ht, -⟩ := State.frames_cons hr
      show ({ U with heap := s₂.heap, slotsUsed := s₂.slotsUsed } : State) = { U.setFrames U.frames with heap := s₂.heap, slotsUsed := s₂.slotsUsed }
      rw [State.setFrames_self ht]
    subst hg
    refine Or.inl ⟨v, ⟨(({ U with heap := s₂.heap, slotsUsed := s₂.slotsUsed } : State).setVm s₂.vm), Ls ++ L, c0 + mc, s0 + ms⟩,
      ⟨X.admits, X.cas, X.clock, X.frames, X.room, X.hears, X.method, X.code, (X.here.setHeapUsed s₂.heap s₂.slotsUsed).setVm hW'.alike, X.tail, State.WarmedH.trans X.warmed hW', X.limits, X.bytes, X.same.trans (hsame.setVm s.vm)⟩,
      ⟨g, mk, s₂, L, rfl, rfl, hqc, rfl, hL, rfl, rfl⟩, ?_⟩
    show Steps p.tables e below _ ((({ U with heap := s₂.heap, slotsUsed := s₂.slotsUsed } : State).setVm s₂.vm).setTop { g with pc := g.pc + len₂, stack := v.toList ++ g.stack })
    rw [← hs₂]
    exact hsteps
  · obtain ⟨e2, q2, q3, q4, q5, q6⟩ := id hsm
    have e3 : s₂ = ({ (U.calling g mk a).setFrames s₂.frames with heap := s₂.heap, slotsUsed := s₂.slotsUsed } : State).setVm s₂.vm := by
      have : s₂ = ({ s₂ with vm := (U.calling g mk a).vm } : State).setVm s₂.vm := rfl
      rw [e2] at this
      exact this
    have hf₂ : s₂.frames = .throwing q :: .java g :: U.frames.tail := hend
    have hW' : U.WarmedH s₂.vm := hW₂
    have hs₂ : s₂ = ((({ U with heap := s₂.heap, slotsUsed := s₂.slotsUsed } : State).setVm s₂.vm).setTop g).pushFrame (.throwing q) := by
      refine e3.trans ?_
      rw [hf₂, State.calling_eq h.top, State.setFrames_setFrames, State.pushFrame, State.frames_setTop _ hr', State.setTop_of_frames _ hr', State.setFrames_setFrames, hr]
      rfl
    have hsame : U.sameButNew ({ U with heap := s₂.heap, slotsUsed := s₂.slotsUsed } : State) L mc ms := by
      refine ⟨?_, q2, q3, q4, q5, q6⟩
      obtain ⟨t, ht, -⟩ := State.frames_cons hr
      show ({ U with heap := s₂.heap, slotsUsed := s₂.slotsUsed } : State) = { U.setFrames U.frames with heap := s₂.heap, slotsUsed := s₂.slotsUsed }
      rw [State.setFrames_self ht]
    subst hg
    refine Or.inr ⟨q, ⟨(({ U with heap := s₂.heap, slotsUsed := s₂.slotsUsed } : State).setVm s₂.vm), Ls ++ L, c0 + mc, s0 + ms⟩,
      ⟨X.admits, X.cas, X.clock, X.frames, X.room, X.hears, X.method, X.code, (X.here.setHeapUsed s₂.heap s₂.slotsUsed).setVm hW'.alike, X.tail, State.WarmedH.trans X.warmed hW', X.limits, X.bytes, X.same.trans (hsame.setVm s.vm)⟩,
      ⟨g, mk, s₂, L, E, ce, rfl, rfl, hx, hce, hcv, hcl, rfl, hL, rfl, rfl⟩, ?_⟩
    show Steps p.tables e below _ (((({ U with heap := s₂.heap, slotsUsed := s₂.slotsUsed } : State).setVm s₂.vm).setTop g).pushFrame (.throwing q))
    rw [← hs₂]
    exact hsteps
end
variable {p : Program} {l : Launch} {e : Env} {R : Room} {s : State} {m : MethodId} {args : Array Value} {below : List Frame} {meth : Method} {c : Code} {T : State} {H : Heap} {locs : List Loc} {cells slots : Nat}
theorem vx_callVX (X : Stand p l e R s m args below meth c T locs cells slots) (hexec : p.tables.exec = Jvm.exec) {own C : String} {index : Nat} {y : MethodName} {bytes : ByteArray} {maxL : Nat} {ret : Option FieldType} {hh : List (Nat × Nat × Nat × Nat)}
    (hown : s.vm.findClass own = some m.cls) (hlink : (Cond.methodLink own index y).before args s = true) (hinst : (Cond.instanceMethod y).before args s = true) (hsel : (Cond.selects C y y).before args s = true)
    (hcode : (Cond.codeWith y bytes maxL ret hh).before args s = true) (hy : y.cls ≠ "java/lang/invoke/MethodHandle" ∧ y.cls ≠ "java/lang/invoke/VarHandle")
    {W9 : Nat} {Pre : Pt → Array Value → Prop} {Post : Pt → Array Value → Option Value → Pt → Prop} {PostX : Pt → Array Value → Addr → Pt → Prop} (hK : vx_Back l R p e below s args y 3 W9 Pre Post PostX)
    {b : Addr} {cellB : Cell} (hcell : T.heap[b]? = some cellB) (hobj : cellB.vm.isStatics = false) (hcls : s.vm.findClass C = some cellB.cls)
    {g : JFrame} (hg : g.method = m) (hsize : g.locals.size = c.maxLocals) {argsL rest : List Value} (hlen : ∀ sig, parseMethodDescriptor y.desc = some sig → argsL.length = sig.parameters.length)
    (hstack : g.stack = argsL.reverse ++ .ref b :: rest) (hW : 2 * g.monitorRoom + (rest.map fun v => v.category).sum ≤ W9) (hdg : decode c.code g.pc = .ok (.invokevirtual index, 3))
    (hpre : ∀ vm₁, s.WarmedH vm₁ → Pre ⟨T.setVm vm₁, locs, cells, slots⟩ (Value.ref b :: argsL).toArray) :
    (∃ (v : Option Value) (vm₁ : Vm) (B : Pt), s.WarmedH vm₁ ∧ Stand p l e R s m args below meth c B.U B.locs B.cells B.slots ∧ Post ⟨T.setVm vm₁, locs, cells, slots⟩ (Value.ref b :: argsL).toArray v B ∧
      ∀ target, Steps p.tables e below (B.U.setTop { g with pc := g.pc + 3, stack := v.toList ++ rest }) target → Steps p.tables e below (T.setTop g) target) ∨
    (∃ (q : Addr) (vm₁ : Vm) (B : Pt), s.WarmedH vm₁ ∧ Stand p l e R s m args below meth c B.U B.locs B.cells B.slots ∧ PostX ⟨T.setVm vm₁, locs, cells, slots⟩ (Value.ref b :: argsL).toArray q B ∧
      Steps p.tables e below (T.setTop g) ((B.U.setTop { g with stack := rest }).pushFrame (.throwing q))) := by
  obtain ⟨mk, methM, hnamed, hmethM, hstM, habM⟩ := Cond.instanceMethod_spec hinst
  obtain ⟨m8, methM', cM, hn8, hmethM', -, -, -, -, -, -, hsigM⟩ := Cond.codeWith_spec hcode
  cases Option.some.inj (hn8.symm.trans hnamed)
  cases hmethM.symm.trans hmethM'
  obtain ⟨c2, r2, m2, q1, q2, q3, q4, kP, hkP, hkPi⟩ := Cond.selects_spec hsel
  cases hcls.symm.trans q1
  cases (State.methodFound?_of_named hnamed hy).symm.trans q2
  cases hnamed.symm.trans q3
  have hselP : selectMethod e.platform s.vm cellB.cls mk = .method mk := by rw [Launch.admits_selectMethod X.admits]; exact q4
  obtain ⟨vm₁, X₁, hstep₁⟩ := X.invokevirtual hexec hown hlink hnamed hmethM hstM hkP hkPi hy (a := b) (cell := cellB) hcell
    (fun z h => by rw [h] at hobj; cases hobj) hselP hmethM habM hkP hkPi (g := g) hg (argsL := argsL) (rest := rest) (hlen _ hsigM) hstack hdg
  rcases hK m meth c ⟨T.setVm vm₁, locs, cells, slots⟩ { g with stack := rest } (.invokevirtual index) mk (Value.ref b :: argsL).toArray X₁ hg hsize hdg hW (X₁.named hnamed) (hpre vm₁ X₁.warmed) with ⟨v, B, X', hpost, hsteps⟩ | ⟨q, B, X', hpost, hsteps⟩
  · exact Or.inl ⟨v, vm₁, B, X₁.warmed, X', hpost, fun target h => hstep₁ _ fun acts => by rw [doInvoke_state]; exact hsteps.trans h⟩
  · exact Or.inr ⟨q, vm₁, B, X₁.warmed, X', hpost, hstep₁ _ fun acts => by rw [doInvoke_state]; exact hsteps⟩
theorem vx_callSX (X : Stand p l e R s m args below meth c T locs cells slots) (hexec : p.tables.exec = Jvm.exec) {own : String} {index : Nat} {y : MethodName} {bytes : ByteArray} {maxL : Nat} {ret : Option FieldType} {hh : List (Nat × Nat × Nat × Nat)}
    (hown : s.vm.findClass own = some m.cls) (hlink : (Cond.methodLink own index y).before args s = true) (hstat : (Cond.static y).before args s = true) (hinit : (Cond.initialized y.cls).before args s = true)
    (hcode : (Cond.codeWith y bytes maxL ret hh).before args s = true) (hy : y.cls ≠ "java/lang/invoke/MethodHandle" ∧ y.cls ≠ "java/lang/invoke/VarHandle")
    {W9 : Nat} {Pre : Pt → Array Value → Prop} {Post : Pt → Array Value → Option Value → Pt → Prop} {PostX : Pt → Array Value → Addr → Pt → Prop} (hK : vx_Back l R p e below s args y 3 W9 Pre Post PostX)
    {g : JFrame} (hg : g.method = m) (hsize : g.locals.size = c.maxLocals) {argsL rest : List Value} (hlen : ∀ sig, parseMethodDescriptor y.desc = some sig → argsL.length = sig.parameters.length)
    (hstack : g.stack = argsL.reverse ++ rest) (hW : 2 * g.monitorRoom + (rest.map fun v => v.category).sum ≤ W9) (hdg : decode c.code g.pc = .ok (.invokestatic index, 3))
    (hpre : ∀ vm₁, s.WarmedH vm₁ → Pre ⟨T.setVm vm₁, locs, cells, slots⟩ argsL.toArray) :
    (∃ (v : Option Value) (vm₁ : Vm) (B : Pt), s.WarmedH vm₁ ∧ Stand p l e R s m args below meth c B.U B.locs B.cells B.slots ∧ Post ⟨T.setVm vm₁, locs, cells, slots⟩ argsL.toArray v B ∧
      ∀ target, Steps p.tables e below (B.U.setTop { g with pc := g.pc + 3, stack := v.toList ++ rest }) target → Steps p.tables e below (T.setTop g) target) ∨
    (∃ (q : Addr) (vm₁ : Vm) (B : Pt), s.WarmedH vm₁ ∧ Stand p l e R s m args below meth c B.U B.locs B.cells B.slots ∧ PostX ⟨T.setVm vm₁, locs, cells, slots⟩ argsL.toArray q B ∧
      Steps p.tables e below (T.setTop g) ((B.U.setTop { g with stack := rest }).pushFrame (.throwing q))) := by
  obtain ⟨mk, methM, cM, hnamed, hmethM, -, -, -, -, -, -, hsigM⟩ := Cond.codeWith_spec hcode
  have hstatic : methM.isStatic = true := Cond.static_spec hnamed hmethM hstat
  obtain ⟨kP, hkP, -⟩ := className_of_methodNamed hnamed
  have hinitP : kP.init = .initialized := Cond.initialized_spec (findClass_of_methodNamed hnamed) hkP hinit
  obtain ⟨vm₁, X₁, hstep₁⟩ := X.invokestatic hexec hown hlink hnamed hmethM hstatic hkP hinitP hy (g := g) hg (argsL := argsL) (rest := rest) (hlen _ hsigM) hstack hdg
  rcases hK m meth c ⟨T.setVm vm₁, locs, cells, slots⟩ { g with stack := rest } (.invokestatic index) mk argsL.toArray X₁ hg hsize hdg hW (X₁.named hnamed) (hpre vm₁ X₁.warmed) with ⟨v, B, X', hpost, hsteps⟩ | ⟨q, B, X', hpost, hsteps⟩
  · exact Or.inl ⟨v, vm₁, B, X₁.warmed, X', hpost, fun target h => hstep₁ _ fun acts => by rw [doInvoke_state]; exact hsteps.trans h⟩
  · exact Or.inr ⟨q, vm₁, B, X₁.warmed, X', hpost, hstep₁ _ fun acts => by rw [doInvoke_state]; exact hsteps⟩
theorem vx_callVW (X : Stand p l e R s m args below meth c T locs cells slots) (hexec : p.tables.exec = Jvm.exec) {own C : String} {index : Nat} {y : MethodName} {bytes : ByteArray} {maxL : Nat} {ret : Option FieldType} {hh : List (Nat × Nat × Nat × Nat)}
    (hown : s.vm.findClass own = some m.cls) (hlink : (Cond.methodLink own index y).before args s = true) (hinst : (Cond.instanceMethod y).before args s = true) (hsel : (Cond.selects C y y).before args s = true)
    (hcode : (Cond.codeWith y bytes maxL ret hh).before args s = true) (hy : y.cls ≠ "java/lang/invoke/MethodHandle" ∧ y.cls ≠ "java/lang/invoke/VarHandle")
    {W9 : Nat} {Pre : Pt → Array Value → Prop} {Post : Pt → Array Value → Option Value → Pt → Prop} (hK : Back l R p e below s args y 3 W9 Pre Post)
    {b : Addr} {cellB : Cell} (hcell : T.heap[b]? = some cellB) (hobj : cellB.vm.isStatics = false) (hcls : s.vm.findClass C = some cellB.cls)
    {g : JFrame} (hg : g.method = m) (hsize : g.locals.size = c.maxLocals) {argsL rest : List Value} (hlen : ∀ sig, parseMethodDescriptor y.desc = some sig → argsL.length = sig.parameters.length)
    (hstack : g.stack = argsL.reverse ++ .ref b :: rest) (hW : 2 * g.monitorRoom + (rest.map fun v => v.category).sum ≤ W9) (hdg : decode c.code g.pc = .ok (.invokevirtual index, 3))
    (hpre : ∀ vm₁, s.WarmedH vm₁ → Pre ⟨T.setVm vm₁, locs, cells, slots⟩ (Value.ref b :: argsL).toArray) :
    ∃ (v : Option Value) (vm₁ : Vm) (B : Pt), s.WarmedH vm₁ ∧ Stand p l e R s m args below meth c B.U B.locs B.cells B.slots ∧ Post ⟨T.setVm vm₁, locs, cells, slots⟩ (Value.ref b :: argsL).toArray v B ∧
      ∀ target, Steps p.tables e below (B.U.setTop { g with pc := g.pc + 3, stack := v.toList ++ rest }) target → Steps p.tables e below (T.setTop g) target := by
  obtain ⟨mk, methM, hnamed, hmethM, hstM, habM⟩ := Cond.instanceMethod_spec hinst
  obtain ⟨m8, methM', cM, hn8, hmethM', -, -, -, -, -, -, hsigM⟩ := Cond.codeWith_spec hcode
  cases Option.some.inj (hn8.symm.trans hnamed)
  cases hmethM.symm.trans hmethM'
  obtain ⟨c2, r2, m2, q1, q2, q3, q4, kP, hkP, hkPi⟩ := Cond.selects_spec hsel
  cases hcls.symm.trans q1
  cases (State.methodFound?_of_named hnamed hy).symm.trans q2
  cases hnamed.symm.trans q3
  have hselP : selectMethod e.platform s.vm cellB.cls mk = .method mk := by rw [Launch.admits_selectMethod X.admits]; exact q4
  obtain ⟨vm₁, X₁, hstep₁⟩ := X.invokevirtual hexec hown hlink hnamed hmethM hstM hkP hkPi hy (a := b) (cell := cellB) hcell
    (fun z h => by rw [h] at hobj; cases hobj) hselP hmethM habM hkP hkPi (g := g) hg (argsL := argsL) (rest := rest) (hlen _ hsigM) hstack hdg
  obtain ⟨v, B, X', hpost, hsteps⟩ := hK m meth c ⟨T.setVm vm₁, locs, cells, slots⟩ { g with stack := rest } (.invokevirtual index) mk (Value.ref b :: argsL).toArray X₁ hg hsize hdg hW (X₁.named hnamed) (hpre vm₁ X₁.warmed)
  exact ⟨v, vm₁, B, X₁.warmed, X', hpost, fun target h => hstep₁ _ fun acts => by rw [doInvoke_state]; exact hsteps.trans h⟩
abbrev vx_CVW (R : Room) (s : State) (args : Array Value) (own C : String) (index : Nat) (y : MethodName) (bytes : ByteArray) (maxL : Nat) (ret : Option FieldType) (hh : List (Nat × Nat × Nat × Nat)) (ws : List Cond) (rm : Room) (mc ms n : Nat) : Prop :=
  (rm.cells = mc ∧ rm.slots = ms ∧ rm.frames + 1 ≤ R.frames ∧ 8 + (maxL + 11) + rm.locals ≤ R.locals ∧ (∀ w ∈ ws, ∀ (a' : Array Value) (U : State), s.WarmedH U.vm → w.before a' U = true) ∧ Cond.codeWith y bytes maxL ret hh ∈ ws) ∧
  (Cond.codeWith y bytes maxL ret hh).before args s = true ∧ (Cond.initialized y.cls).before args s = true ∧ (y.cls ≠ "java/lang/invoke/MethodHandle" ∧ y.cls ≠ "java/lang/invoke/VarHandle") ∧
  (∀ sig, parseMethodDescriptor y.desc = some sig → n = sig.parameters.length) ∧ (Cond.methodLink own index y).before args s = true ∧ (Cond.instanceMethod y).before args s = true ∧ (Cond.selects C y y).before args s = true
theorem vx_cwVW {own C : String} {index maxL mc ms : Nat} {y : MethodName} {bytes : ByteArray} {ret : Option FieldType} {hh : List (Nat × Nat × Nat × Nat)} {Ts ws ws' : List Cond} {rm : Room} (n : Nat) (ht : ∀ w ∈ Ts, w.before args s = true) (hT : GoodIn Ts (wsV own index C y ws)) (hw : ws = Cond.codeWith y bytes maxL ret hh :: ws') (hrc : rm.cells = mc) (hrs : rm.slots = ms)
    (hd : y.cls = C ∧ y.cls ≠ "java/lang/invoke/MethodHandle" ∧ y.cls ≠ "java/lang/invoke/VarHandle" ∧ (parseMethodDescriptor y.desc).map (fun d => d.parameters.length) = some n) (hR : rm.frames + 1 ≤ R.frames ∧ 8 + (maxL + 11) + rm.locals ≤ R.locals) :
    vx_CVW R s args own C index y bytes maxL ret hh ws rm mc ms n := by
  obtain ⟨hC, hd⟩ := hd
  subst hC
  have ok : ∀ w ∈ wsV own index y.cls y ws, w.before args s = true := fun w h => ht w (hT w h).1
  have hG : GoodIn Ts ws := fun w h => hT w (by unfold wsV; exact List.mem_append_right _ h)
  have hc : Cond.codeWith y bytes maxL ret hh ∈ ws := by rw [hw]; exact List.mem_cons_self
  refine ⟨⟨hrc, hrs, hR.1, hR.2, pay_in ht hG, hc⟩, ht _ (hG _ hc).1, ok _ (by simp [wsV]), ⟨hd.1, hd.2.1⟩, fun sig h => ?_, ok _ (by simp [wsV]), ok _ (by simp [wsV]), ok _ (by simp [wsV])⟩
  have h2 := hd.2.2
  rw [h] at h2
  exact (Option.some.inj h2).symm
theorem vx_runVW {y : MethodName} {bytes cc : ByteArray} {maxL nL mc ms n index : Nat} {ret : Option FieldType} {hh : List (Nat × Nat × Nat × Nat)} {ws : List Cond} {rm : Room} {Pc : Array Value → State → Prop} {Qc : Array Value → State → Outcome → State → Prop} {free : Addr → Prop} {Ts : List Cond} {own C : String} {b : Addr} {As rest : List Value} {g : JFrame}
    (S : CallFix p m c cc nL s args Ts own) (hM : Met l y ws rm Pc Qc mc ms free) (cw : vx_CVW R s args own C index y bytes maxL ret hh ws rm mc ms n) (hp : PreV s H C b Pc As)
    (hg : g.method = m) (hn : As.length = n) (hsize : g.locals.size = nL) (hstack : g.stack = As.reverse ++ .ref b :: rest) (hW : 2 * g.monitorRoom + (rest.map fun v => v.category).sum ≤ 8) (hdg : decode cc g.pc = .ok (.invokevirtual index, 3)) (hf : cells + mc ≤ R.cells ∧ slots + ms ≤ R.slots) :
    va_Run p l e R s m args below meth c H locs cells slots mc ms g rest (Qc (Value.ref b :: As).toArray) free := by
  obtain ⟨⟨hrc, hrs, hfr, hlo, hws, hcw⟩, hcode, hini, hy, hlen, hl, hin, hse⟩ := cw
  have hK : Back l R p e below s args y 3 8 (PreOf R mc ms Pc) (PostOf Qc mc ms free) := va_backW (hh := hh) (bytes := bytes) (maxL := maxL) (ret := ret) hM hp.1 hrc hrs hfr hlo hws hcw (fun a' U hW => word_at hW (Or.inl (by first | rfl | simp [Cond.onTables, Cond.keeps, Cond.steady])) hini)
  obtain ⟨hx, hb, hml, ho, -⟩ := S
  obtain ⟨-, ⟨cellB, hcB, hoB, hclB⟩, hPc⟩ := hp
  intro T hT X
  obtain ⟨v, vm₁, ⟨U', l2, c2, s2⟩, hW₁, X', ⟨g', mk, t, L, e1, e2, hq, h1, hL, h2, h3⟩, st⟩ := vx_callVW X hx (C := C) (hh := hh) (bytes := bytes) (maxL := maxL) (ret := ret) ho hl hin hse hcode hy hK (by rw [hT]; exact hcB) hoB hclB hg (hsize.trans hml.symm) (argsL := As) (rest := rest) (fun sig h => hn.trans (hlen sig h)) hstack hW (by rw [hb]; exact hdg)
    (fun vm₁ hW₁ => ⟨hf.1, hf.2, hPc (T.setVm vm₁) hT hW₁⟩)
  dsimp only [Pt.U, Pt.locs, Pt.cells, Pt.slots] at X' e1 e2 h1 h2 h3 st
  subst h1; subst h2; subst h3
  exact ⟨v, (T.setVm vm₁).calling g' mk (Value.ref b :: As).toArray, t, U', L, hT, X', hL, e1, e2, hq, st⟩
section
variable {y : MethodName} {bytes cc : ByteArray} {maxL nL mc ms n index : Nat} {ret : Option FieldType} {ws : List Cond} {rm : Room} {Pc : Array Value → State → Prop} {Qc : Array Value → State → Outcome → State → Prop} {XC : String → State → State → Prop} {free : Addr → Prop} {Ts : List Cond} {own C : String} {b : Addr} {As rest : List Value} {g : JFrame}
theorem vx_runVX {hh : List (Nat × Nat × Nat × Nat)} (S : CallFix p m c cc nL s args Ts own) (hM : vx_Met l y ws rm Pc Qc XC mc ms free) (cw : vx_CVW R s args own C index y bytes maxL ret hh ws rm mc ms n) (hp : PreV s H C b Pc As)
    (hg : g.method = m) (hn : As.length = n) (hsize : g.locals.size = nL) (hstack : g.stack = As.reverse ++ .ref b :: rest) (hW : 2 * g.monitorRoom + (rest.map fun v => v.category).sum ≤ 8) (hdg : decode cc g.pc = .ok (.invokevirtual index, 3)) (hf : cells + mc ≤ R.cells ∧ slots + ms ≤ R.slots) :
    vx_Run p l e R s m args below meth c H locs cells slots mc ms g rest (Qc (Value.ref b :: As).toArray) XC free := by
  obtain ⟨⟨hrc, hrs, hfr, hlo, hws, hcw⟩, hcode, hini, hy, hlen, hl, hin, hse⟩ := cw
  have hK : vx_Back l R p e below s args y 3 8 (PreOf R mc ms Pc) (PostOf Qc mc ms free) (vx_Post XC mc ms free) := vx_backW (hh := hh) (bytes := bytes) (maxL := maxL) (ret := ret) hM hp.1 hrc hrs hfr hlo hws hcw (fun a' U hW => word_at hW (Or.inl (by first | rfl | simp [Cond.onTables, Cond.keeps, Cond.steady])) hini)
  obtain ⟨hx, hb, hml, ho, -⟩ := S
  obtain ⟨-, ⟨cellB, hcB, hoB, hclB⟩, hPc⟩ := hp
  intro T hT X
  rcases vx_callVX X hx (C := C) (hh := hh) (bytes := bytes) (maxL := maxL) (ret := ret) ho hl hin hse hcode hy hK (by rw [hT]; exact hcB) hoB hclB hg (hsize.trans hml.symm) (argsL := As) (rest := rest) (fun sig h => hn.trans (hlen sig h)) hstack hW (by rw [hb]; exact hdg)
    (fun vm₁ hW₁ => ⟨hf.1, hf.2, hPc (T.setVm vm₁) hT hW₁⟩) with ⟨v, vm₁, ⟨U', l2, c2, s2⟩, hW₁, X', ⟨g', mk, t, L, e1, e2, hq, h1, hL, h2, h3⟩, st⟩ | ⟨q, vm₁, ⟨U', l2, c2, s2⟩, hW₁, X', ⟨g', mk, t, L, E, ce, e1, e2, hq, hce, hcv, hcl, h1, hL, h2, h3⟩, st⟩
  · dsimp only [Pt.U, Pt.locs, Pt.cells, Pt.slots] at X' e1 e2 h1 h2 h3 st
    subst h1; subst h2; subst h3
    exact Or.inl ⟨v, (T.setVm vm₁).calling g' mk (Value.ref b :: As).toArray, t, U', L, hT, X', hL, e1, e2, hq, st⟩
  · dsimp only [Pt.U, Pt.locs, Pt.cells, Pt.slots] at X' e1 e2 h1 h2 h3 st hcl
    subst h1; subst h2; subst h3
    exact Or.inr ⟨q, (T.setVm vm₁).calling g' mk (Value.ref b :: As).toArray, t, U', L, E, ce, hT, X', hL, e1, e2, hq, hce, hcv, vx_cls hW₁ hcl, st⟩
theorem vx_runSX {hh : List (Nat × Nat × Nat × Nat)} (S : CallFix p m c cc nL s args Ts own) (hM : vx_Met l y ws rm Pc Qc XC mc ms free) (cw : vx_CSW R s args own index y bytes maxL ret hh ws rm mc ms n) (hp : PreS s H Pc As)
    (hg : g.method = m) (hn : As.length = n) (hsize : g.locals.size = nL) (hstack : g.stack = As.reverse ++ rest) (hW : 2 * g.monitorRoom + (rest.map fun v => v.category).sum ≤ 8) (hdg : decode cc g.pc = .ok (.invokestatic index, 3)) (hf : cells + mc ≤ R.cells ∧ slots + ms ≤ R.slots) :
    vx_Run p l e R s m args below meth c H locs cells slots mc ms g rest (Qc As.toArray) XC free := by
  obtain ⟨⟨hrc, hrs, hfr, hlo, hws, hcw⟩, hcode, hini, hy, hlen, hl, hstt⟩ := cw
  have hK : vx_Back l R p e below s args y 3 8 (PreOf R mc ms Pc) (PostOf Qc mc ms free) (vx_Post XC mc ms free) := vx_backW (hh := hh) (bytes := bytes) (maxL := maxL) (ret := ret) hM hp.1 hrc hrs hfr hlo hws hcw (fun a' U hW => word_at hW (Or.inl (by first | rfl | simp [Cond.onTables, Cond.keeps, Cond.steady])) hini)
  obtain ⟨hx, hb, hml, ho, -⟩ := S
  intro T hT X
  rcases vx_callSX X hx (hh := hh) (bytes := bytes) (maxL := maxL) (ret := ret) ho hl hstt hini hcode hy hK hg (hsize.trans hml.symm) (argsL := As) (rest := rest) (fun sig h => hn.trans (hlen sig h)) hstack hW (by rw [hb]; exact hdg)
    (fun vm₁ hW₁ => ⟨hf.1, hf.2, hp.2 (T.setVm vm₁) hT hW₁⟩) with ⟨v, vm₁, ⟨U', l2, c2, s2⟩, hW₁, X', ⟨g', mk, t, L, e1, e2, hq, h1, hL, h2, h3⟩, st⟩ | ⟨q, vm₁, ⟨U', l2, c2, s2⟩, hW₁, X', ⟨g', mk, t, L, E, ce, e1, e2, hq, hce, hcv, hcl, h1, hL, h2, h3⟩, st⟩
  · dsimp only [Pt.U, Pt.locs, Pt.cells, Pt.slots] at X' e1 e2 h1 h2 h3 st
    subst h1; subst h2; subst h3
    exact Or.inl ⟨v, (T.setVm vm₁).calling g' mk As.toArray, t, U', L, hT, X', hL, e1, e2, hq, st⟩
  · dsimp only [Pt.U, Pt.locs, Pt.cells, Pt.slots] at X' e1 e2 h1 h2 h3 st hcl
    subst h1; subst h2; subst h3
    exact Or.inr ⟨q, (T.setVm vm₁).calling g' mk As.toArray, t, U', L, E, ce, hT, X', hL, e1, e2, hq, hce, hcv, vx_cls hW₁ hcl, st⟩
end
end VXH
theorem vx_ofWH {l : Launch} {y : MethodName} {ws ws' : List Cond} {rm : Room} {Pc : Array Value → State → Prop} {Qc : Array Value → State → Outcome → State → Prop} {XC : String → State → State → Prop} {mc ms : Nat} {free : Addr → Prop} {cc : ByteArray} {maxL : Nat} {ret : Option FieldType} {hh : List (Nat × Nat × Nat × Nat)}
    (hy : plainName y.cls = true) (hw : ws = Cond.codeWith y cc maxL ret hh :: ws')
    (body : ∀ p e s m args below meth c s₁, BodyLoose p l y (headSpec ws rm) cc maxL ret e s m args below meth c s₁ → c.maxLocals = maxL → Pc args s →
      W p l e (headSpec ws rm).room s m args below meth c s.heap [] 0 0 (vx_MQ below Qc XC args s mc ms free) (entryFrame m args maxL)) : vx_Met l y ws rm Pc Qc XC mc ms free := by
  refine MetFree.of_bodyS (code := cc) (maxLocals := maxL) (ret := ret) hy ?_ ?_
  · intro args s m h hn
    obtain ⟨m9, meth, c, hn9, h1, h2, h3, h4, -, h5, h6, -⟩ := Cond.codeWith_spec (atoms_spec (ws := ws) h _ (by rw [hw]; exact List.mem_cons_self))
    cases hn.symm.trans hn9
    exact ⟨meth, c, h1, h2, h3, h4, h5, h6⟩
  · intro p e s m args below meth c s₁ B hml hP _
    have hh0 : s₁.heap = s.heap := by rw [B.state]; rfl
    obtain ⟨t, a1, o, b1, b2, b3⟩ := body p e s m args below meth c s₁ B hml hP s₁ hh0 (Stand.of_body B)
    exact ⟨t, o, a1, b1, b2, b3⟩
/-! ===== END ===== -/
end
section
/-! names: classes, fields, methods; the words of the tables that proofs use (kALL), by their places -/
/-! ===== BEGIN printed: names, fields, word lists, decode rows ===== -/
def RX0 : String := "KanbanLoop$Road"
def TX0 : u_T := fun k => match k with
  | 0 => ("KanbanLoop$Road", "units", "[I", true)
  | 1 => ("KanbanLoop$Road", "stepsToGo", "[I", true)
  | _ => ("KanbanLoop$Road", "count", "I", false)
def tyX0 : Nat → FieldType := fun k => match k with
  | 0 => .array .int
  | 1 => .array .int
  | _ => .int
abbrev wsX00 : List Cond := u_ws RX0 TX0 3
theorem nmX0 : ∀ a, a < 3 → ∀ b, b < 3 → a ≠ b → (TX0 a).2.1 ≠ (TX0 b).2.1 := by decide +kernel
theorem tyX0_ok : ∀ k, k < 3 → parseFieldDescriptor (TX0 k).2.2.1 = some (tyX0 k) := by decide +kernel
abbrev cX0_init : ByteArray := prog_2_method_1_code
def yX0_init : MethodName := ⟨RX0, "<init>", "()V"⟩
abbrev cX0_allUnits : ByteArray := prog_2_method_2_code
def yX0_allUnits : MethodName := ⟨RX0, "allUnits", "()I"⟩
abbrev cX0_add : ByteArray := prog_2_method_3_code
def yX0_add : MethodName := ⟨RX0, "add", "(II)V"⟩
abbrev cX0_bringTo : ByteArray := prog_2_method_4_code
def yX0_bringTo : MethodName := ⟨RX0, "bringTo", "(LKanbanLoop$Store;)V"⟩
def RX1 : String := "KanbanLoop$Stage"
def TX1 : u_T := fun k => match k with
  | 0 => ("KanbanLoop$Stage", "ahead", "LKanbanLoop$Stage;", true)
  | 1 => ("KanbanLoop$Stage", "number", "I", true)
  | 2 => ("KanbanLoop$Stage", "size", "I", true)
  | 3 => ("KanbanLoop$Stage", "time", "I", true)
  | 4 => ("KanbanLoop$Stage", "market", "LKanbanLoop$Store;", true)
  | 5 => ("KanbanLoop$Stage", "inbox", "LKanbanLoop$Store;", true)
  | 6 => ("KanbanLoop$Stage", "road", "LKanbanLoop$Road;", true)
  | 7 => ("KanbanLoop$Stage", "mark", "I", false)
  | 8 => ("KanbanLoop$Stage", "cards", "I", false)
  | 9 => ("KanbanLoop$Stage", "board", "I", false)
  | 10 => ("KanbanLoop$Stage", "left", "I", false)
  | 11 => ("KanbanLoop$Stage", "run", "I", false)
  | 12 => ("KanbanLoop$Stage", "stopped", "Z", false)
  | 13 => ("KanbanLoop$Stage", "conveyance", "I", false)
  | 14 => ("KanbanLoop$Stage", "waiting", "I", false)
  | 15 => ("KanbanLoop$Stage", "waySteps", "I", false)
  | 16 => ("KanbanLoop$Stage", "starvedSteps", "I", false)
  | _ => ("KanbanLoop$Stage", "unitsEntered", "I", false)
def tyX1 : Nat → FieldType := fun k => match k with
  | 0 => .object "KanbanLoop$Stage"
  | 1 => .int
  | 2 => .int
  | 3 => .int
  | 4 => .object "KanbanLoop$Store"
  | 5 => .object "KanbanLoop$Store"
  | 6 => .object "KanbanLoop$Road"
  | 7 => .int
  | 8 => .int
  | 9 => .int
  | 10 => .int
  | 11 => .int
  | 12 => .boolean
  | 13 => .int
  | 14 => .int
  | 15 => .int
  | 16 => .int
  | _ => .int
abbrev wsX10 : List Cond := u_ws RX1 TX1 18
theorem nmX1 : ∀ a, a < 18 → ∀ b, b < 18 → a ≠ b → (TX1 a).2.1 ≠ (TX1 b).2.1 := by decide +kernel
theorem tyX1_ok : ∀ k, k < 18 → parseFieldDescriptor (TX1 k).2.2.1 = some (tyX1 k) := by decide +kernel
abbrev cX1_init : ByteArray := prog_3_method_1_code
def yX1_init : MethodName := ⟨RX1, "<init>", "(LKanbanLoop$Stage;IIIIZ)V"⟩
abbrev cX1_unitsHeld : ByteArray := prog_3_method_2_code
def yX1_unitsHeld : MethodName := ⟨RX1, "unitsHeld", "()I"⟩
abbrev cX1_work : ByteArray := prog_3_method_3_code
def yX1_work : MethodName := ⟨RX1, "work", "(Z)V"⟩
abbrev cX1_goOn : ByteArray := prog_3_method_4_code
def yX1_goOn : MethodName := ⟨RX1, "goOn", "()V"⟩
abbrev cX1_begin : ByteArray := prog_3_method_5_code
def yX1_begin : MethodName := ⟨RX1, "begin", "(Z)V"⟩
abbrev cX1_convey : ByteArray := prog_3_method_6_code
def yX1_convey : MethodName := ⟨RX1, "convey", "()V"⟩
abbrev cX1_fetchFrom : ByteArray := prog_3_method_7_code
def yX1_fetchFrom : MethodName := ⟨RX1, "fetchFrom", "(LKanbanLoop$Stage;)V"⟩
def RX2 : String := "KanbanLoop$Store"
def TX2 : u_T := fun k => match k with
  | 0 => ("KanbanLoop$Store", "units", "[I", true)
  | 1 => ("KanbanLoop$Store", "carded", "[Z", true)
  | _ => ("KanbanLoop$Store", "count", "I", false)
def tyX2 : Nat → FieldType := fun k => match k with
  | 0 => .array .int
  | 1 => .array .boolean
  | _ => .int
abbrev wsX20 : List Cond := u_ws RX2 TX2 3
theorem nmX2 : ∀ a, a < 3 → ∀ b, b < 3 → a ≠ b → (TX2 a).2.1 ≠ (TX2 b).2.1 := by decide +kernel
theorem tyX2_ok : ∀ k, k < 3 → parseFieldDescriptor (TX2 k).2.2.1 = some (tyX2 k) := by decide +kernel
abbrev cX2_init : ByteArray := prog_4_method_1_code
def yX2_init : MethodName := ⟨RX2, "<init>", "(II)V"⟩
abbrev cX2_allUnits : ByteArray := prog_4_method_2_code
def yX2_allUnits : MethodName := ⟨RX2, "allUnits", "()I"⟩
abbrev cX2_cardsOn : ByteArray := prog_4_method_3_code
def yX2_cardsOn : MethodName := ⟨RX2, "cardsOn", "()I"⟩
abbrev cX2_headUnits : ByteArray := prog_4_method_4_code
def yX2_headUnits : MethodName := ⟨RX2, "headUnits", "()I"⟩
abbrev cX2_headIsCarded : ByteArray := prog_4_method_5_code
def yX2_headIsCarded : MethodName := ⟨RX2, "headIsCarded", "()Z"⟩
abbrev cX2_add : ByteArray := prog_4_method_6_code
def yX2_add : MethodName := ⟨RX2, "add", "(I)V"⟩
abbrev cX2_removeHead : ByteArray := prog_4_method_7_code
def yX2_removeHead : MethodName := ⟨RX2, "removeHead", "()V"⟩
abbrev cX2_takeOut : ByteArray := prog_4_method_8_code
def yX2_takeOut : MethodName := ⟨RX2, "takeOut", "(IZ)I"⟩
def RX3 : String := "KanbanLoop"
def TX3 : u_T := fun k => match k with
  | 0 => ("KanbanLoop", "last", "LKanbanLoop$Stage;", false)
  | 1 => ("KanbanLoop", "stageCount", "I", false)
  | 2 => ("KanbanLoop", "ruleIsFirst", "Z", false)
  | 3 => ("KanbanLoop", "wantedPerStep", "I", false)
  | 4 => ("KanbanLoop", "now", "I", false)
  | 5 => ("KanbanLoop", "unitsTaken", "I", false)
  | 6 => ("KanbanLoop", "unitsOwed", "I", false)
  | _ => ("KanbanLoop", "shortCount", "I", false)
def tyX3 : Nat → FieldType := fun k => match k with
  | 0 => .object "KanbanLoop$Stage"
  | 1 => .int
  | 2 => .boolean
  | 3 => .int
  | 4 => .int
  | 5 => .int
  | 6 => .int
  | _ => .int
abbrev wsX30 : List Cond := u_ws RX3 TX3 8
theorem nmX3 : ∀ a, a < 8 → ∀ b, b < 8 → a ≠ b → (TX3 a).2.1 ≠ (TX3 b).2.1 := by decide +kernel
theorem tyX3_ok : ∀ k, k < 8 → parseFieldDescriptor (TX3 k).2.2.1 = some (tyX3 k) := by decide +kernel
abbrev cX3_init : ByteArray := prog_1_method_1_code
def yX3_init : MethodName := ⟨RX3, "<init>", "()V"⟩
abbrev cX3_stage : ByteArray := prog_1_method_2_code
def yX3_stage : MethodName := ⟨RX3, "stage", "(IIIIZ)I"⟩
abbrev cX3_way : ByteArray := prog_1_method_3_code
def yX3_way : MethodName := ⟨RX3, "way", "(II)I"⟩
abbrev cX3_mark : ByteArray := prog_1_method_4_code
def yX3_mark : MethodName := ⟨RX3, "mark", "(II)I"⟩
abbrev cX3_rule : ByteArray := prog_1_method_5_code
def yX3_rule : MethodName := ⟨RX3, "rule", "(Z)Z"⟩
abbrev cX3_demand : ByteArray := prog_1_method_6_code
def yX3_demand : MethodName := ⟨RX3, "demand", "(I)I"⟩
abbrev cX3_stop : ByteArray := prog_1_method_7_code
def yX3_stop : MethodName := ⟨RX3, "stop", "(I)Z"⟩
abbrev cX3_issue : ByteArray := prog_1_method_8_code
def yX3_issue : MethodName := ⟨RX3, "issue", "(I)I"⟩
abbrev cX3_retire : ByteArray := prog_1_method_9_code
def yX3_retire : MethodName := ⟨RX3, "retire", "(I)I"⟩
abbrev cX3_issueConveyance : ByteArray := prog_1_method_10_code
def yX3_issueConveyance : MethodName := ⟨RX3, "issueConveyance", "(I)I"⟩
abbrev cX3_retireConveyance : ByteArray := prog_1_method_11_code
def yX3_retireConveyance : MethodName := ⟨RX3, "retireConveyance", "(I)I"⟩
abbrev cX3_needed : ByteArray := prog_1_method_12_code
def yX3_needed : MethodName := ⟨RX3, "needed", "(II)I"⟩
abbrev cX3_step : ByteArray := prog_1_method_13_code
def yX3_step : MethodName := ⟨RX3, "step", "(I)I"⟩
abbrev cX3_time : ByteArray := prog_1_method_14_code
def yX3_time : MethodName := ⟨RX3, "time", "()I"⟩
abbrev cX3_stages : ByteArray := prog_1_method_15_code
def yX3_stages : MethodName := ⟨RX3, "stages", "()I"⟩
abbrev cX3_board : ByteArray := prog_1_method_16_code
def yX3_board : MethodName := ⟨RX3, "board", "(I)I"⟩
abbrev cX3_attached : ByteArray := prog_1_method_17_code
def yX3_attached : MethodName := ⟨RX3, "attached", "(I)I"⟩
abbrev cX3_left : ByteArray := prog_1_method_18_code
def yX3_left : MethodName := ⟨RX3, "left", "(I)I"⟩
abbrev cX3_run : ByteArray := prog_1_method_19_code
def yX3_run : MethodName := ⟨RX3, "run", "(I)I"⟩
abbrev cX3_market : ByteArray := prog_1_method_20_code
def yX3_market : MethodName := ⟨RX3, "market", "(I)I"⟩
abbrev cX3_inbox : ByteArray := prog_1_method_21_code
def yX3_inbox : MethodName := ⟨RX3, "inbox", "(I)I"⟩
abbrev cX3_waiting : ByteArray := prog_1_method_22_code
def yX3_waiting : MethodName := ⟨RX3, "waiting", "(I)I"⟩
abbrev cX3_travelling : ByteArray := prog_1_method_23_code
def yX3_travelling : MethodName := ⟨RX3, "travelling", "(I)I"⟩
abbrev cX3_firstUnits : ByteArray := prog_1_method_24_code
def yX3_firstUnits : MethodName := ⟨RX3, "firstUnits", "(I)I"⟩
abbrev cX3_taken : ByteArray := prog_1_method_25_code
def yX3_taken : MethodName := ⟨RX3, "taken", "()I"⟩
abbrev cX3_backlog : ByteArray := prog_1_method_26_code
def yX3_backlog : MethodName := ⟨RX3, "backlog", "()I"⟩
abbrev cX3_shortSteps : ByteArray := prog_1_method_27_code
def yX3_shortSteps : MethodName := ⟨RX3, "shortSteps", "()I"⟩
abbrev cX3_starved : ByteArray := prog_1_method_28_code
def yX3_starved : MethodName := ⟨RX3, "starved", "(I)I"⟩
abbrev cX3_stock : ByteArray := prog_1_method_29_code
def yX3_stock : MethodName := ⟨RX3, "stock", "()I"⟩
abbrev cX3_stockByFlow : ByteArray := prog_1_method_30_code
def yX3_stockByFlow : MethodName := ⟨RX3, "stockByFlow", "()I"⟩
abbrev cX3_checkRange : ByteArray := prog_1_method_31_code
def yX3_checkRange : MethodName := ⟨RX3, "checkRange", "(III)V"⟩
abbrev cX3_find : ByteArray := prog_1_method_32_code
def yX3_find : MethodName := ⟨RX3, "find", "(I)LKanbanLoop$Stage;"⟩
abbrev cX3_findFed : ByteArray := prog_1_method_33_code
def yX3_findFed : MethodName := ⟨RX3, "findFed", "(I)LKanbanLoop$Stage;"⟩
abbrev cX3_wayBehind : ByteArray := prog_1_method_34_code
def yX3_wayBehind : MethodName := ⟨RX3, "wayBehind", "(LKanbanLoop$Stage;)I"⟩
abbrev cX3_passOneStep : ByteArray := prog_1_method_35_code
def yX3_passOneStep : MethodName := ⟨RX3, "passOneStep", "(LKanbanLoop$Stage;)V"⟩
abbrev cX3_serveCustomers : ByteArray := prog_1_method_36_code
def yX3_serveCustomers : MethodName := ⟨RX3, "serveCustomers", "(LKanbanLoop$Stage;)V"⟩
def RX4 : String := "KanbanLoopModel"
def TX4 : u_T := fun k => match k with
  | 0 => ("KanbanLoopModel", "thrown", "I", false)
  | 1 => ("KanbanLoopModel", "stages", "I", false)
  | 2 => ("KanbanLoopModel", "isFirstRule", "Z", false)
  | 3 => ("KanbanLoopModel", "demand", "I", false)
  | 4 => ("KanbanLoopModel", "time", "I", false)
  | 5 => ("KanbanLoopModel", "taken", "I", false)
  | 6 => ("KanbanLoopModel", "backlog", "I", false)
  | 7 => ("KanbanLoopModel", "shortSteps", "I", false)
  | 8 => ("KanbanLoopModel", "flowed", "I", false)
  | 9 => ("KanbanLoopModel", "cards", "[I", true)
  | 10 => ("KanbanLoopModel", "size", "[I", true)
  | 11 => ("KanbanLoopModel", "duration", "[I", true)
  | 12 => ("KanbanLoopModel", "mark", "[I", true)
  | 13 => ("KanbanLoopModel", "isStopped", "[Z", true)
  | 14 => ("KanbanLoopModel", "board", "[I", true)
  | 15 => ("KanbanLoopModel", "left", "[I", true)
  | 16 => ("KanbanLoopModel", "run", "[I", true)
  | 17 => ("KanbanLoopModel", "starved", "[I", true)
  | 18 => ("KanbanLoopModel", "way", "[I", true)
  | 19 => ("KanbanLoopModel", "conveyance", "[I", true)
  | 20 => ("KanbanLoopModel", "waiting", "[I", true)
  | 21 => ("KanbanLoopModel", "marketUnits", "[I", true)
  | 22 => ("KanbanLoopModel", "marketCard", "[I", true)
  | 23 => ("KanbanLoopModel", "inMarket", "[I", true)
  | 24 => ("KanbanLoopModel", "inboxUnits", "[I", true)
  | 25 => ("KanbanLoopModel", "inboxCard", "[I", true)
  | 26 => ("KanbanLoopModel", "inInbox", "[I", true)
  | 27 => ("KanbanLoopModel", "wayUnits", "[I", true)
  | 28 => ("KanbanLoopModel", "waySteps", "[I", true)
  | _ => ("KanbanLoopModel", "onWay", "[I", true)
def tyX4 : Nat → FieldType := fun k => match k with
  | 0 => .int
  | 1 => .int
  | 2 => .boolean
  | 3 => .int
  | 4 => .int
  | 5 => .int
  | 6 => .int
  | 7 => .int
  | 8 => .int
  | 9 => .array .int
  | 10 => .array .int
  | 11 => .array .int
  | 12 => .array .int
  | 13 => .array .boolean
  | 14 => .array .int
  | 15 => .array .int
  | 16 => .array .int
  | 17 => .array .int
  | 18 => .array .int
  | 19 => .array .int
  | 20 => .array .int
  | 21 => .array .int
  | 22 => .array .int
  | 23 => .array .int
  | 24 => .array .int
  | 25 => .array .int
  | 26 => .array .int
  | 27 => .array .int
  | 28 => .array .int
  | _ => .array .int
abbrev wsX40 : List Cond := u_ws RX4 TX4 30
theorem nmX4 : ∀ a, a < 30 → ∀ b, b < 30 → a ≠ b → (TX4 a).2.1 ≠ (TX4 b).2.1 := by decide +kernel
theorem tyX4_ok : ∀ k, k < 30 → parseFieldDescriptor (TX4 k).2.2.1 = some (tyX4 k) := by decide +kernel
abbrev cX4_init : ByteArray := prog_6_method_1_code
def yX4_init : MethodName := ⟨RX4, "<init>", "()V"⟩
abbrev cX4_thrown : ByteArray := prog_6_method_2_code
def yX4_thrown : MethodName := ⟨RX4, "thrown", "()I"⟩
abbrev cX4_isIn : ByteArray := prog_6_method_3_code
def yX4_isIn : MethodName := ⟨RX4, "isIn", "(III)Z"⟩
abbrev cX4_asks : ByteArray := prog_6_method_4_code
def yX4_asks : MethodName := ⟨RX4, "asks", "(II)Z"⟩
abbrev cX4_stage : ByteArray := prog_6_method_5_code
def yX4_stage : MethodName := ⟨RX4, "stage", "(IIIIZ)I"⟩
abbrev cX4_comesToMarket : ByteArray := prog_6_method_6_code
def yX4_comesToMarket : MethodName := ⟨RX4, "comesToMarket", "(II)V"⟩
abbrev cX4_comesToInbox : ByteArray := prog_6_method_7_code
def yX4_comesToInbox : MethodName := ⟨RX4, "comesToInbox", "(II)V"⟩
abbrev cX4_way : ByteArray := prog_6_method_8_code
def yX4_way : MethodName := ⟨RX4, "way", "(II)I"⟩
abbrev cX4_mark : ByteArray := prog_6_method_9_code
def yX4_mark : MethodName := ⟨RX4, "mark", "(II)I"⟩
abbrev cX4_rule : ByteArray := prog_6_method_10_code
def yX4_rule : MethodName := ⟨RX4, "rule", "(Z)Z"⟩
abbrev cX4_demand : ByteArray := prog_6_method_11_code
def yX4_demand : MethodName := ⟨RX4, "demand", "(I)I"⟩
abbrev cX4_stop : ByteArray := prog_6_method_12_code
def yX4_stop : MethodName := ⟨RX4, "stop", "(I)Z"⟩
abbrev cX4_issue : ByteArray := prog_6_method_13_code
def yX4_issue : MethodName := ⟨RX4, "issue", "(I)I"⟩
abbrev cX4_retire : ByteArray := prog_6_method_14_code
def yX4_retire : MethodName := ⟨RX4, "retire", "(I)I"⟩
abbrev cX4_issueConveyance : ByteArray := prog_6_method_15_code
def yX4_issueConveyance : MethodName := ⟨RX4, "issueConveyance", "(I)I"⟩
abbrev cX4_retireConveyance : ByteArray := prog_6_method_16_code
def yX4_retireConveyance : MethodName := ⟨RX4, "retireConveyance", "(I)I"⟩
abbrev cX4_needed : ByteArray := prog_6_method_17_code
def yX4_needed : MethodName := ⟨RX4, "needed", "(II)I"⟩
abbrev cX4_sells : ByteArray := prog_6_method_18_code
def yX4_sells : MethodName := ⟨RX4, "sells", "(I)V"⟩
abbrev cX4_leavesMarket : ByteArray := prog_6_method_19_code
def yX4_leavesMarket : MethodName := ⟨RX4, "leavesMarket", "(I)V"⟩
abbrev cX4_uses : ByteArray := prog_6_method_20_code
def yX4_uses : MethodName := ⟨RX4, "uses", "(II)V"⟩
abbrev cX4_marketOf : ByteArray := prog_6_method_21_code
def yX4_marketOf : MethodName := ⟨RX4, "marketOf", "(I)I"⟩
abbrev cX4_inboxOf : ByteArray := prog_6_method_22_code
def yX4_inboxOf : MethodName := ⟨RX4, "inboxOf", "(I)I"⟩
abbrev cX4_works : ByteArray := prog_6_method_23_code
def yX4_works : MethodName := ⟨RX4, "works", "(I)V"⟩
abbrev cX4_conveys : ByteArray := prog_6_method_24_code
def yX4_conveys : MethodName := ⟨RX4, "conveys", "(I)V"⟩
abbrev cX4_step : ByteArray := prog_6_method_25_code
def yX4_step : MethodName := ⟨RX4, "step", "(I)I"⟩
abbrev cX4_time : ByteArray := prog_6_method_26_code
def yX4_time : MethodName := ⟨RX4, "time", "()I"⟩
abbrev cX4_stages : ByteArray := prog_6_method_27_code
def yX4_stages : MethodName := ⟨RX4, "stages", "()I"⟩
abbrev cX4_board : ByteArray := prog_6_method_28_code
def yX4_board : MethodName := ⟨RX4, "board", "(I)I"⟩
abbrev cX4_attached : ByteArray := prog_6_method_29_code
def yX4_attached : MethodName := ⟨RX4, "attached", "(I)I"⟩
abbrev cX4_left : ByteArray := prog_6_method_30_code
def yX4_left : MethodName := ⟨RX4, "left", "(I)I"⟩
abbrev cX4_run : ByteArray := prog_6_method_31_code
def yX4_run : MethodName := ⟨RX4, "run", "(I)I"⟩
abbrev cX4_market : ByteArray := prog_6_method_32_code
def yX4_market : MethodName := ⟨RX4, "market", "(I)I"⟩
abbrev cX4_inbox : ByteArray := prog_6_method_33_code
def yX4_inbox : MethodName := ⟨RX4, "inbox", "(I)I"⟩
abbrev cX4_waiting : ByteArray := prog_6_method_34_code
def yX4_waiting : MethodName := ⟨RX4, "waiting", "(I)I"⟩
abbrev cX4_travelling : ByteArray := prog_6_method_35_code
def yX4_travelling : MethodName := ⟨RX4, "travelling", "(I)I"⟩
abbrev cX4_firstUnits : ByteArray := prog_6_method_36_code
def yX4_firstUnits : MethodName := ⟨RX4, "firstUnits", "(I)I"⟩
abbrev cX4_taken : ByteArray := prog_6_method_37_code
def yX4_taken : MethodName := ⟨RX4, "taken", "()I"⟩
abbrev cX4_backlog : ByteArray := prog_6_method_38_code
def yX4_backlog : MethodName := ⟨RX4, "backlog", "()I"⟩
abbrev cX4_shortSteps : ByteArray := prog_6_method_39_code
def yX4_shortSteps : MethodName := ⟨RX4, "shortSteps", "()I"⟩
abbrev cX4_starved : ByteArray := prog_6_method_40_code
def yX4_starved : MethodName := ⟨RX4, "starved", "(I)I"⟩
abbrev cX4_stock : ByteArray := prog_6_method_41_code
def yX4_stock : MethodName := ⟨RX4, "stock", "()I"⟩
abbrev cX4_stockByFlow : ByteArray := prog_6_method_42_code
def yX4_stockByFlow : MethodName := ⟨RX4, "stockByFlow", "()I"⟩
def RJ9 : String := "java/lang/Math"
def TJ9 : u_T := fun k => match k with
  | _ => ("", "", "", false)
def tyJ9 : Nat → FieldType := fun k => match k with
  | _ => .int
theorem nmJ9 : ∀ a, a < 0 → ∀ b, b < 0 → a ≠ b → (TJ9 a).2.1 ≠ (TJ9 b).2.1 := by decide +kernel
theorem tyJ9_ok : ∀ k, k < 0 → parseFieldDescriptor (TJ9 k).2.2.1 = some (tyJ9 k) := by decide +kernel
abbrev cJ9_max_7cf53 : ByteArray := prog_11_method_65_code
def yJ9_max_7cf53 : MethodName := ⟨RJ9, "max", "(II)I"⟩
abbrev cJ9_min_7cf53 : ByteArray := prog_11_method_69_code
def yJ9_min_7cf53 : MethodName := ⟨RJ9, "min", "(II)I"⟩
def RJ0 : String := "java/lang/String"
def TJ0 : u_T := fun k => match k with
  | _ => ("", "", "", false)
def tyJ0 : Nat → FieldType := fun k => match k with
  | _ => .int
theorem nmJ0 : ∀ a, a < 0 → ∀ b, b < 0 → a ≠ b → (TJ0 a).2.1 ≠ (TJ0 b).2.1 := by decide +kernel
theorem tyJ0_ok : ∀ k, k < 0 → parseFieldDescriptor (TJ0 k).2.2.1 = some (tyJ0 k) := by decide +kernel
def RL : String := "KanbanLoopLaw"
abbrev cL_stage : ByteArray := method_3_code
def yL_stage : MethodName := ⟨RL, "stage", "(LKanbanLoop;IIIIZ[J)I"⟩
abbrev cL_way : ByteArray := method_4_code
def yL_way : MethodName := ⟨RL, "way", "(LKanbanLoop;II[J)I"⟩
abbrev cL_mark : ByteArray := method_5_code
def yL_mark : MethodName := ⟨RL, "mark", "(LKanbanLoop;II[J)I"⟩
abbrev cL_demand : ByteArray := method_6_code
def yL_demand : MethodName := ⟨RL, "demand", "(LKanbanLoop;I[J)I"⟩
abbrev cL_stop : ByteArray := method_7_code
def yL_stop : MethodName := ⟨RL, "stop", "(LKanbanLoop;I[J)I"⟩
abbrev cL_issue : ByteArray := method_8_code
def yL_issue : MethodName := ⟨RL, "issue", "(LKanbanLoop;I[J)I"⟩
abbrev cL_retire : ByteArray := method_9_code
def yL_retire : MethodName := ⟨RL, "retire", "(LKanbanLoop;I[J)I"⟩
abbrev cL_issueConveyance : ByteArray := method_10_code
def yL_issueConveyance : MethodName := ⟨RL, "issueConveyance", "(LKanbanLoop;I[J)I"⟩
abbrev cL_retireConveyance : ByteArray := method_11_code
def yL_retireConveyance : MethodName := ⟨RL, "retireConveyance", "(LKanbanLoop;I[J)I"⟩
abbrev cL_needed : ByteArray := method_12_code
def yL_needed : MethodName := ⟨RL, "needed", "(LKanbanLoop;II[J)I"⟩
abbrev cL_step : ByteArray := method_13_code
def yL_step : MethodName := ⟨RL, "step", "(LKanbanLoop;I[J)I"⟩
abbrev cL_board : ByteArray := method_14_code
def yL_board : MethodName := ⟨RL, "board", "(LKanbanLoop;I[J)I"⟩
abbrev cL_attached : ByteArray := method_15_code
def yL_attached : MethodName := ⟨RL, "attached", "(LKanbanLoop;I[J)I"⟩
abbrev cL_left : ByteArray := method_16_code
def yL_left : MethodName := ⟨RL, "left", "(LKanbanLoop;I[J)I"⟩
abbrev cL_run : ByteArray := method_17_code
def yL_run : MethodName := ⟨RL, "run", "(LKanbanLoop;I[J)I"⟩
abbrev cL_market : ByteArray := method_18_code
def yL_market : MethodName := ⟨RL, "market", "(LKanbanLoop;I[J)I"⟩
abbrev cL_inbox : ByteArray := method_19_code
def yL_inbox : MethodName := ⟨RL, "inbox", "(LKanbanLoop;I[J)I"⟩
abbrev cL_waiting : ByteArray := method_20_code
def yL_waiting : MethodName := ⟨RL, "waiting", "(LKanbanLoop;I[J)I"⟩
abbrev cL_travelling : ByteArray := method_21_code
def yL_travelling : MethodName := ⟨RL, "travelling", "(LKanbanLoop;I[J)I"⟩
abbrev cL_firstUnits : ByteArray := method_22_code
def yL_firstUnits : MethodName := ⟨RL, "firstUnits", "(LKanbanLoop;I[J)I"⟩
abbrev cL_starved : ByteArray := method_23_code
def yL_starved : MethodName := ⟨RL, "starved", "(LKanbanLoop;I[J)I"⟩
abbrev cL_law : ByteArray := code
def yL_law : MethodName := ⟨RL, "law", "([I)Z"⟩
theorem dJ9_max_7cf53_0 : decode cJ9_max_7cf53 0 = .ok (.iload_n 0, 1) := by decide +kernel
theorem dJ9_max_7cf53_1 : decode cJ9_max_7cf53 1 = .ok (.iload_n 1, 1) := by decide +kernel
theorem dJ9_max_7cf53_2 : decode cJ9_max_7cf53 2 = .ok (.if_icmp .lt 7, 3) := by decide +kernel
theorem dJ9_max_7cf53_5 : decode cJ9_max_7cf53 5 = .ok (.iload_n 0, 1) := by decide +kernel
theorem dJ9_max_7cf53_6 : decode cJ9_max_7cf53 6 = .ok (.goto 4, 3) := by decide +kernel
theorem dJ9_max_7cf53_9 : decode cJ9_max_7cf53 9 = .ok (.iload_n 1, 1) := by decide +kernel
theorem dJ9_max_7cf53_10 : decode cJ9_max_7cf53 10 = .ok (.ireturn, 1) := by decide +kernel
theorem dJ9_min_7cf53_0 : decode cJ9_min_7cf53 0 = .ok (.iload_n 0, 1) := by decide +kernel
theorem dJ9_min_7cf53_1 : decode cJ9_min_7cf53 1 = .ok (.iload_n 1, 1) := by decide +kernel
theorem dJ9_min_7cf53_2 : decode cJ9_min_7cf53 2 = .ok (.if_icmp .gt 7, 3) := by decide +kernel
theorem dJ9_min_7cf53_5 : decode cJ9_min_7cf53 5 = .ok (.iload_n 0, 1) := by decide +kernel
theorem dJ9_min_7cf53_6 : decode cJ9_min_7cf53 6 = .ok (.goto 4, 3) := by decide +kernel
theorem dJ9_min_7cf53_9 : decode cJ9_min_7cf53 9 = .ok (.iload_n 1, 1) := by decide +kernel
theorem dJ9_min_7cf53_10 : decode cJ9_min_7cf53 10 = .ok (.ireturn, 1) := by decide +kernel
abbrev vwCl : List vw_C := [(RX0, TX0, 3), (RX1, TX1, 18), (RX2, TX2, 3), (RX3, TX3, 8), (RX4, TX4, 30)]
def kALL : List Cond := lw_tbl.filter goodWord
theorem kALL_tbl : ∀ w ∈ kALL, w ∈ lw_tbl := fun w h => (List.mem_filter.mp h).1
theorem kALL_good : ∀ w ∈ kALL, goodWord w = true := fun w h => (List.mem_filter.mp h).2
theorem kw_in {w : Cond} (i : Nat) (h : lw_tbl[i]? = some w) (hg : goodWord w = true) : w ∈ kALL := List.mem_filter.mpr ⟨List.mem_of_getElem? h, hg⟩
theorem lkS_yX1_unitsHeld : Cond.selects RX1 yX1_unitsHeld yX1_unitsHeld ∈ kALL := kw_in 0 (by decide +kernel) (by decide +kernel)
theorem lkS_yX2_allUnits : Cond.selects RX2 yX2_allUnits yX2_allUnits ∈ kALL := kw_in 1 (by decide +kernel) (by decide +kernel)
theorem lkS_yX0_allUnits : Cond.selects RX0 yX0_allUnits yX0_allUnits ∈ kALL := kw_in 2 (by decide +kernel) (by decide +kernel)
theorem lkS_yX3_findFed : Cond.selects RX3 yX3_findFed yX3_findFed ∈ kALL := kw_in 4 (by decide +kernel) (by decide +kernel)
theorem lkS_yX3_find : Cond.selects RX3 yX3_find yX3_find ∈ kALL := kw_in 5 (by decide +kernel) (by decide +kernel)
theorem lkS_yX3_wayBehind : Cond.selects RX3 yX3_wayBehind yX3_wayBehind ∈ kALL := kw_in 6 (by decide +kernel) (by decide +kernel)
theorem lkS_yX3_passOneStep : Cond.selects RX3 yX3_passOneStep yX3_passOneStep ∈ kALL := kw_in 7 (by decide +kernel) (by decide +kernel)
theorem lkS_yX3_serveCustomers : Cond.selects RX3 yX3_serveCustomers yX3_serveCustomers ∈ kALL := kw_in 8 (by decide +kernel) (by decide +kernel)
theorem lkS_yX2_takeOut : Cond.selects RX2 yX2_takeOut yX2_takeOut ∈ kALL := kw_in 9 (by decide +kernel) (by decide +kernel)
theorem lkS_yX2_removeHead : Cond.selects RX2 yX2_removeHead yX2_removeHead ∈ kALL := kw_in 10 (by decide +kernel) (by decide +kernel)
theorem lkS_yX1_work : Cond.selects RX1 yX1_work yX1_work ∈ kALL := kw_in 11 (by decide +kernel) (by decide +kernel)
theorem lkS_yX1_goOn : Cond.selects RX1 yX1_goOn yX1_goOn ∈ kALL := kw_in 12 (by decide +kernel) (by decide +kernel)
theorem lkS_yX2_add : Cond.selects RX2 yX2_add yX2_add ∈ kALL := kw_in 13 (by decide +kernel) (by decide +kernel)
theorem lkS_yX1_begin : Cond.selects RX1 yX1_begin yX1_begin ∈ kALL := kw_in 14 (by decide +kernel) (by decide +kernel)
theorem lkS_yX1_convey : Cond.selects RX1 yX1_convey yX1_convey ∈ kALL := kw_in 15 (by decide +kernel) (by decide +kernel)
theorem lkS_yX0_bringTo : Cond.selects RX0 yX0_bringTo yX0_bringTo ∈ kALL := kw_in 16 (by decide +kernel) (by decide +kernel)
theorem lkS_yX1_fetchFrom : Cond.selects RX1 yX1_fetchFrom yX1_fetchFrom ∈ kALL := kw_in 17 (by decide +kernel) (by decide +kernel)
theorem lkS_yX2_headUnits : Cond.selects RX2 yX2_headUnits yX2_headUnits ∈ kALL := kw_in 18 (by decide +kernel) (by decide +kernel)
theorem lkS_yX2_headIsCarded : Cond.selects RX2 yX2_headIsCarded yX2_headIsCarded ∈ kALL := kw_in 19 (by decide +kernel) (by decide +kernel)
theorem lkS_yX0_add : Cond.selects RX0 yX0_add yX0_add ∈ kALL := kw_in 20 (by decide +kernel) (by decide +kernel)
theorem lkS_yX2_cardsOn : Cond.selects RX2 yX2_cardsOn yX2_cardsOn ∈ kALL := kw_in 21 (by decide +kernel) (by decide +kernel)
theorem lkS_yX4_comesToMarket : Cond.selects RX4 yX4_comesToMarket yX4_comesToMarket ∈ kALL := kw_in 22 (by decide +kernel) (by decide +kernel)
theorem lkS_yX4_asks : Cond.selects RX4 yX4_asks yX4_asks ∈ kALL := kw_in 23 (by decide +kernel) (by decide +kernel)
theorem lkS_yX4_marketOf : Cond.selects RX4 yX4_marketOf yX4_marketOf ∈ kALL := kw_in 24 (by decide +kernel) (by decide +kernel)
theorem lkS_yX4_sells : Cond.selects RX4 yX4_sells yX4_sells ∈ kALL := kw_in 25 (by decide +kernel) (by decide +kernel)
theorem lkS_yX4_leavesMarket : Cond.selects RX4 yX4_leavesMarket yX4_leavesMarket ∈ kALL := kw_in 26 (by decide +kernel) (by decide +kernel)
theorem lkS_yX4_works : Cond.selects RX4 yX4_works yX4_works ∈ kALL := kw_in 27 (by decide +kernel) (by decide +kernel)
theorem lkS_yX4_inboxOf : Cond.selects RX4 yX4_inboxOf yX4_inboxOf ∈ kALL := kw_in 28 (by decide +kernel) (by decide +kernel)
theorem lkS_yX4_uses : Cond.selects RX4 yX4_uses yX4_uses ∈ kALL := kw_in 29 (by decide +kernel) (by decide +kernel)
theorem lkS_yX4_conveys : Cond.selects RX4 yX4_conveys yX4_conveys ∈ kALL := kw_in 30 (by decide +kernel) (by decide +kernel)
theorem lkS_yX4_comesToInbox : Cond.selects RX4 yX4_comesToInbox yX4_comesToInbox ∈ kALL := kw_in 31 (by decide +kernel) (by decide +kernel)
theorem lkN_L : Cond.initialized RL ∈ kALL := kw_in 32 (by decide +kernel) (by decide +kernel)
theorem lkN_X3 : Cond.initialized RX3 ∈ kALL := kw_in 33 (by decide +kernel) (by decide +kernel)
theorem lkN_X4 : Cond.initialized RX4 ∈ kALL := kw_in 34 (by decide +kernel) (by decide +kernel)
theorem lkN_Exception : Cond.initialized "java/lang/Exception" ∈ kALL := kw_in 36 (by decide +kernel) (by decide +kernel)
theorem lkN_RuntimeException : Cond.initialized "java/lang/RuntimeException" ∈ kALL := kw_in 37 (by decide +kernel) (by decide +kernel)
theorem lkN_IllegalArgumentException : Cond.initialized "java/lang/IllegalArgumentException" ∈ kALL := kw_in 38 (by decide +kernel) (by decide +kernel)
theorem lkN_IllegalStateException : Cond.initialized "java/lang/IllegalStateException" ∈ kALL := kw_in 39 (by decide +kernel) (by decide +kernel)
theorem lkN_X1 : Cond.initialized RX1 ∈ kALL := kw_in 40 (by decide +kernel) (by decide +kernel)
theorem lkN_X2 : Cond.initialized RX2 ∈ kALL := kw_in 41 (by decide +kernel) (by decide +kernel)
theorem lkN_J9 : Cond.initialized RJ9 ∈ kALL := kw_in 42 (by decide +kernel) (by decide +kernel)
theorem lkN_X0 : Cond.initialized RX0 ∈ kALL := kw_in 43 (by decide +kernel) (by decide +kernel)
theorem lkN_IndexOutOfBoundsException : Cond.initialized "java/lang/IndexOutOfBoundsException" ∈ kALL := kw_in 44 (by decide +kernel) (by decide +kernel)
theorem lkL_L_8 : Cond.classLink RL 8 RX3 ∈ kALL := kw_in 45 (by decide +kernel) (by decide +kernel)
theorem lkB_X3 : Cond.instantiable RX3 8 ∈ kALL := kw_in 46 (by decide +kernel) (by decide +kernel)
theorem lkM_L_82 : Cond.methodLink RL 82 yX3_init ∈ kALL := kw_in 47 (by decide +kernel) (by decide +kernel)
theorem lkI_yX3_init : Cond.instanceMethod yX3_init ∈ kALL := kw_in 48 (by decide +kernel) (by decide +kernel)
theorem lkC_yX3_init : Cond.code yX3_init cX3_init 1 none ∈ kALL := kw_in 49 (by decide +kernel) (by decide +kernel)
theorem lkM_X3_1 : Cond.methodLink RX3 1 Lib.objectInit ∈ kALL := kw_in 50 (by decide +kernel) (by decide +kernel)
theorem lkI_objectInit : Cond.instanceMethod Lib.objectInit ∈ kALL := kw_in 51 (by decide +kernel) (by decide +kernel)
theorem lkC_objectInit : Cond.code Lib.objectInit ⟨#[0xb1]⟩ 1 none ∈ kALL := kw_in 52 (by decide +kernel) (by decide +kernel)
theorem lkF_X3_7 : Cond.fieldLink RX3 7 "KanbanLoop" "last" "LKanbanLoop$Stage;" ∈ kALL := kw_in 53 (by decide +kernel) (by decide +kernel)
theorem lkF_X3_13 : Cond.fieldLink RX3 13 "KanbanLoop" "stageCount" "I" ∈ kALL := kw_in 54 (by decide +kernel) (by decide +kernel)
theorem lkF_X3_17 : Cond.fieldLink RX3 17 "KanbanLoop" "ruleIsFirst" "Z" ∈ kALL := kw_in 55 (by decide +kernel) (by decide +kernel)
theorem lkF_X3_21 : Cond.fieldLink RX3 21 "KanbanLoop" "wantedPerStep" "I" ∈ kALL := kw_in 56 (by decide +kernel) (by decide +kernel)
theorem lkF_X3_24 : Cond.fieldLink RX3 24 "KanbanLoop" "now" "I" ∈ kALL := kw_in 57 (by decide +kernel) (by decide +kernel)
theorem lkF_X3_27 : Cond.fieldLink RX3 27 "KanbanLoop" "unitsTaken" "I" ∈ kALL := kw_in 58 (by decide +kernel) (by decide +kernel)
theorem lkF_X3_30 : Cond.fieldLink RX3 30 "KanbanLoop" "unitsOwed" "I" ∈ kALL := kw_in 59 (by decide +kernel) (by decide +kernel)
theorem lkF_X3_33 : Cond.fieldLink RX3 33 "KanbanLoop" "shortCount" "I" ∈ kALL := kw_in 60 (by decide +kernel) (by decide +kernel)
theorem lkM_L_103 : Cond.methodLink RL 103 yX3_rule ∈ kALL := kw_in 78 (by decide +kernel) (by decide +kernel)
theorem lkI_yX3_rule : Cond.instanceMethod yX3_rule ∈ kALL := kw_in 79 (by decide +kernel) (by decide +kernel)
theorem lkS_yX3_rule : Cond.selects RX3 yX3_rule yX3_rule ∈ kALL := kw_in 80 (by decide +kernel) (by decide +kernel)
theorem lkC_yX3_rule : Cond.code yX3_rule cX3_rule 3 (some .boolean) ∈ kALL := kw_in 81 (by decide +kernel) (by decide +kernel)
theorem lkM_L_133 : Cond.methodLink RL 133 yX3_time ∈ kALL := kw_in 82 (by decide +kernel) (by decide +kernel)
theorem lkI_yX3_time : Cond.instanceMethod yX3_time ∈ kALL := kw_in 83 (by decide +kernel) (by decide +kernel)
theorem lkS_yX3_time : Cond.selects RX3 yX3_time yX3_time ∈ kALL := kw_in 84 (by decide +kernel) (by decide +kernel)
theorem lkC_yX3_time : Cond.code yX3_time cX3_time 1 (some .int) ∈ kALL := kw_in 85 (by decide +kernel) (by decide +kernel)
theorem lkM_L_137 : Cond.methodLink RL 137 yX3_stages ∈ kALL := kw_in 86 (by decide +kernel) (by decide +kernel)
theorem lkI_yX3_stages : Cond.instanceMethod yX3_stages ∈ kALL := kw_in 87 (by decide +kernel) (by decide +kernel)
theorem lkS_yX3_stages : Cond.selects RX3 yX3_stages yX3_stages ∈ kALL := kw_in 88 (by decide +kernel) (by decide +kernel)
theorem lkC_yX3_stages : Cond.code yX3_stages cX3_stages 1 (some .int) ∈ kALL := kw_in 89 (by decide +kernel) (by decide +kernel)
theorem lkM_L_168 : Cond.methodLink RL 168 yX3_taken ∈ kALL := kw_in 90 (by decide +kernel) (by decide +kernel)
theorem lkI_yX3_taken : Cond.instanceMethod yX3_taken ∈ kALL := kw_in 91 (by decide +kernel) (by decide +kernel)
theorem lkS_yX3_taken : Cond.selects RX3 yX3_taken yX3_taken ∈ kALL := kw_in 92 (by decide +kernel) (by decide +kernel)
theorem lkC_yX3_taken : Cond.code yX3_taken cX3_taken 1 (some .int) ∈ kALL := kw_in 93 (by decide +kernel) (by decide +kernel)
theorem lkM_L_172 : Cond.methodLink RL 172 yX3_backlog ∈ kALL := kw_in 94 (by decide +kernel) (by decide +kernel)
theorem lkI_yX3_backlog : Cond.instanceMethod yX3_backlog ∈ kALL := kw_in 95 (by decide +kernel) (by decide +kernel)
theorem lkS_yX3_backlog : Cond.selects RX3 yX3_backlog yX3_backlog ∈ kALL := kw_in 96 (by decide +kernel) (by decide +kernel)
theorem lkC_yX3_backlog : Cond.code yX3_backlog cX3_backlog 1 (some .int) ∈ kALL := kw_in 97 (by decide +kernel) (by decide +kernel)
theorem lkM_L_176 : Cond.methodLink RL 176 yX3_shortSteps ∈ kALL := kw_in 98 (by decide +kernel) (by decide +kernel)
theorem lkI_yX3_shortSteps : Cond.instanceMethod yX3_shortSteps ∈ kALL := kw_in 99 (by decide +kernel) (by decide +kernel)
theorem lkS_yX3_shortSteps : Cond.selects RX3 yX3_shortSteps yX3_shortSteps ∈ kALL := kw_in 100 (by decide +kernel) (by decide +kernel)
theorem lkC_yX3_shortSteps : Cond.code yX3_shortSteps cX3_shortSteps 1 (some .int) ∈ kALL := kw_in 101 (by decide +kernel) (by decide +kernel)
theorem lkM_L_183 : Cond.methodLink RL 183 yX3_stock ∈ kALL := kw_in 102 (by decide +kernel) (by decide +kernel)
theorem lkI_yX3_stock : Cond.instanceMethod yX3_stock ∈ kALL := kw_in 103 (by decide +kernel) (by decide +kernel)
theorem lkS_yX3_stock : Cond.selects RX3 yX3_stock yX3_stock ∈ kALL := kw_in 104 (by decide +kernel) (by decide +kernel)
theorem lkC_yX3_stock : Cond.code yX3_stock cX3_stock 3 (some .int) ∈ kALL := kw_in 105 (by decide +kernel) (by decide +kernel)
theorem lkI_yX1_unitsHeld : Cond.instanceMethod yX1_unitsHeld ∈ kALL := kw_in 108 (by decide +kernel) (by decide +kernel)
theorem lkB_X1 : Cond.instantiable RX1 18 ∈ kALL := kw_in 109 (by decide +kernel) (by decide +kernel)
theorem lkC_yX1_unitsHeld : Cond.code yX1_unitsHeld cX1_unitsHeld 2 (some .int) ∈ kALL := kw_in 110 (by decide +kernel) (by decide +kernel)
theorem lkI_yX2_allUnits : Cond.instanceMethod yX2_allUnits ∈ kALL := kw_in 113 (by decide +kernel) (by decide +kernel)
theorem lkB_X2 : Cond.instantiable RX2 3 ∈ kALL := kw_in 114 (by decide +kernel) (by decide +kernel)
theorem lkC_yX2_allUnits : Cond.code yX2_allUnits cX2_allUnits 3 (some .int) ∈ kALL := kw_in 115 (by decide +kernel) (by decide +kernel)
theorem lkI_yX0_allUnits : Cond.instanceMethod yX0_allUnits ∈ kALL := kw_in 118 (by decide +kernel) (by decide +kernel)
theorem lkB_X0 : Cond.instantiable RX0 3 ∈ kALL := kw_in 119 (by decide +kernel) (by decide +kernel)
theorem lkC_yX0_allUnits : Cond.code yX0_allUnits cX0_allUnits 3 (some .int) ∈ kALL := kw_in 120 (by decide +kernel) (by decide +kernel)
theorem lkM_L_187 : Cond.methodLink RL 187 yX3_stockByFlow ∈ kALL := kw_in 121 (by decide +kernel) (by decide +kernel)
theorem lkI_yX3_stockByFlow : Cond.instanceMethod yX3_stockByFlow ∈ kALL := kw_in 122 (by decide +kernel) (by decide +kernel)
theorem lkS_yX3_stockByFlow : Cond.selects RX3 yX3_stockByFlow yX3_stockByFlow ∈ kALL := kw_in 123 (by decide +kernel) (by decide +kernel)
theorem lkC_yX3_stockByFlow : Cond.code yX3_stockByFlow cX3_stockByFlow 3 (some .int) ∈ kALL := kw_in 124 (by decide +kernel) (by decide +kernel)
theorem lkM_L_86 : Cond.methodLink RL 86 yL_stage ∈ kALL := kw_in 125 (by decide +kernel) (by decide +kernel)
theorem lkT_yL_stage : Cond.static yL_stage ∈ kALL := kw_in 126 (by decide +kernel) (by decide +kernel)
theorem lkC_yL_stage : Cond.codeWith yL_stage cL_stage 8 (some .int) [(0, 16, 19, 13), (0, 16, 23, 15)] ∈ kALL := kw_in 127 (by decide +kernel) (by decide +kernel)
theorem lkL_L_13 : Cond.classLink RL 13 "java/lang/IllegalArgumentException" ∈ kALL := kw_in 128 (by decide +kernel) (by decide +kernel)
theorem lkL_L_15 : Cond.classLink RL 15 "java/lang/IllegalStateException" ∈ kALL := kw_in 129 (by decide +kernel) (by decide +kernel)
theorem lkM_L_7 : Cond.methodLink RL 7 yX3_stage ∈ kALL := kw_in 130 (by decide +kernel) (by decide +kernel)
theorem lkI_yX3_stage : Cond.instanceMethod yX3_stage ∈ kALL := kw_in 131 (by decide +kernel) (by decide +kernel)
theorem lkS_yX3_stage : Cond.selects RX3 yX3_stage yX3_stage ∈ kALL := kw_in 132 (by decide +kernel) (by decide +kernel)
theorem lkC_yX3_stage : Cond.code yX3_stage cX3_stage 6 (some .int) ∈ kALL := kw_in 133 (by decide +kernel) (by decide +kernel)
theorem lkM_X3_36 : Cond.methodLink RX3 36 yX3_checkRange ∈ kALL := kw_in 134 (by decide +kernel) (by decide +kernel)
theorem lkT_yX3_checkRange : Cond.static yX3_checkRange ∈ kALL := kw_in 135 (by decide +kernel) (by decide +kernel)
theorem lkC_yX3_checkRange : Cond.code yX3_checkRange cX3_checkRange 3 none ∈ kALL := kw_in 136 (by decide +kernel) (by decide +kernel)
theorem lkL_X3_162 : Cond.classLink RX3 162 "java/lang/IllegalArgumentException" ∈ kALL := kw_in 137 (by decide +kernel) (by decide +kernel)
theorem lkA_byte : Cond.arrayClass .byte ∈ kALL := kw_in 204 (by decide +kernel) (by decide +kernel)
theorem lkL_X3_40 : Cond.classLink RX3 40 "java/lang/IllegalStateException" ∈ kALL := kw_in 205 (by decide +kernel) (by decide +kernel)
theorem lkL_X3_47 : Cond.classLink RX3 47 RX1 ∈ kALL := kw_in 221 (by decide +kernel) (by decide +kernel)
theorem lkI_yX1_init : Cond.instanceMethod yX1_init ∈ kALL := kw_in 223 (by decide +kernel) (by decide +kernel)
theorem lkC_yX1_init : Cond.code yX1_init cX1_init 7 none ∈ kALL := kw_in 224 (by decide +kernel) (by decide +kernel)
theorem lkM_X1_1 : Cond.methodLink RX1 1 Lib.objectInit ∈ kALL := kw_in 225 (by decide +kernel) (by decide +kernel)
theorem lkL_X1_32 : Cond.classLink RX1 32 RX2 ∈ kALL := kw_in 226 (by decide +kernel) (by decide +kernel)
theorem lkI_yX2_init : Cond.instanceMethod yX2_init ∈ kALL := kw_in 228 (by decide +kernel) (by decide +kernel)
theorem lkC_yX2_init : Cond.code yX2_init cX2_init 4 none ∈ kALL := kw_in 229 (by decide +kernel) (by decide +kernel)
theorem lkM_X2_3 : Cond.methodLink RX2 3 Lib.objectInit ∈ kALL := kw_in 230 (by decide +kernel) (by decide +kernel)
theorem lkM_X2_19 : Cond.methodLink RX2 19 Lib.Math.min.name ∈ kALL := kw_in 231 (by decide +kernel) (by decide +kernel)
theorem lkT_Math_min_name : Cond.static Lib.Math.min.name ∈ kALL := kw_in 232 (by decide +kernel) (by decide +kernel)
theorem lkC_Math_min_name : Cond.code Lib.Math.min.name Lib.Math.min.code 2 (some .int) ∈ kALL := kw_in 233 (by decide +kernel) (by decide +kernel)
theorem lkF_X2_11 : Cond.fieldLink RX2 11 "KanbanLoop$Store" "units" "[I" ∈ kALL := kw_in 234 (by decide +kernel) (by decide +kernel)
theorem lkF_X2_15 : Cond.fieldLink RX2 15 "KanbanLoop$Store" "carded" "[Z" ∈ kALL := kw_in 235 (by decide +kernel) (by decide +kernel)
theorem lkF_X2_25 : Cond.fieldLink RX2 25 "KanbanLoop$Store" "count" "I" ∈ kALL := kw_in 236 (by decide +kernel) (by decide +kernel)
theorem lkA_int : Cond.arrayClass .int ∈ kALL := kw_in 245 (by decide +kernel) (by decide +kernel)
theorem lkA_boolean : Cond.arrayClass .boolean ∈ kALL := kw_in 246 (by decide +kernel) (by decide +kernel)
theorem lkL_X1_44 : Cond.classLink RX1 44 RX0 ∈ kALL := kw_in 247 (by decide +kernel) (by decide +kernel)
theorem lkI_yX0_init : Cond.instanceMethod yX0_init ∈ kALL := kw_in 249 (by decide +kernel) (by decide +kernel)
theorem lkC_yX0_init : Cond.code yX0_init cX0_init 1 none ∈ kALL := kw_in 250 (by decide +kernel) (by decide +kernel)
theorem lkM_X0_3 : Cond.methodLink RX0 3 Lib.objectInit ∈ kALL := kw_in 251 (by decide +kernel) (by decide +kernel)
theorem lkF_X0_9 : Cond.fieldLink RX0 9 "KanbanLoop$Road" "units" "[I" ∈ kALL := kw_in 252 (by decide +kernel) (by decide +kernel)
theorem lkF_X0_15 : Cond.fieldLink RX0 15 "KanbanLoop$Road" "stepsToGo" "[I" ∈ kALL := kw_in 253 (by decide +kernel) (by decide +kernel)
theorem lkF_X0_18 : Cond.fieldLink RX0 18 "KanbanLoop$Road" "count" "I" ∈ kALL := kw_in 254 (by decide +kernel) (by decide +kernel)
theorem lkF_X1_7 : Cond.fieldLink RX1 7 "KanbanLoop$Stage" "ahead" "LKanbanLoop$Stage;" ∈ kALL := kw_in 263 (by decide +kernel) (by decide +kernel)
theorem lkF_X1_13 : Cond.fieldLink RX1 13 "KanbanLoop$Stage" "number" "I" ∈ kALL := kw_in 265 (by decide +kernel) (by decide +kernel)
theorem lkF_X1_17 : Cond.fieldLink RX1 17 "KanbanLoop$Stage" "size" "I" ∈ kALL := kw_in 267 (by decide +kernel) (by decide +kernel)
theorem lkF_X1_20 : Cond.fieldLink RX1 20 "KanbanLoop$Stage" "time" "I" ∈ kALL := kw_in 269 (by decide +kernel) (by decide +kernel)
theorem lkF_X1_37 : Cond.fieldLink RX1 37 "KanbanLoop$Stage" "market" "LKanbanLoop$Store;" ∈ kALL := kw_in 271 (by decide +kernel) (by decide +kernel)
theorem lkF_X1_41 : Cond.fieldLink RX1 41 "KanbanLoop$Stage" "inbox" "LKanbanLoop$Store;" ∈ kALL := kw_in 273 (by decide +kernel) (by decide +kernel)
theorem lkF_X1_47 : Cond.fieldLink RX1 47 "KanbanLoop$Stage" "road" "LKanbanLoop$Road;" ∈ kALL := kw_in 275 (by decide +kernel) (by decide +kernel)
theorem lkF_X1_23 : Cond.fieldLink RX1 23 "KanbanLoop$Stage" "mark" "I" ∈ kALL := kw_in 277 (by decide +kernel) (by decide +kernel)
theorem lkF_X1_26 : Cond.fieldLink RX1 26 "KanbanLoop$Stage" "cards" "I" ∈ kALL := kw_in 279 (by decide +kernel) (by decide +kernel)
theorem lkF_X1_29 : Cond.fieldLink RX1 29 "KanbanLoop$Stage" "board" "I" ∈ kALL := kw_in 281 (by decide +kernel) (by decide +kernel)
theorem lkF_X1_60 : Cond.fieldLink RX1 60 "KanbanLoop$Stage" "left" "I" ∈ kALL := kw_in 283 (by decide +kernel) (by decide +kernel)
theorem lkF_X1_75 : Cond.fieldLink RX1 75 "KanbanLoop$Stage" "run" "I" ∈ kALL := kw_in 285 (by decide +kernel) (by decide +kernel)
theorem lkF_X1_68 : Cond.fieldLink RX1 68 "KanbanLoop$Stage" "stopped" "Z" ∈ kALL := kw_in 287 (by decide +kernel) (by decide +kernel)
theorem lkF_X1_51 : Cond.fieldLink RX1 51 "KanbanLoop$Stage" "conveyance" "I" ∈ kALL := kw_in 289 (by decide +kernel) (by decide +kernel)
theorem lkF_X1_54 : Cond.fieldLink RX1 54 "KanbanLoop$Stage" "waiting" "I" ∈ kALL := kw_in 291 (by decide +kernel) (by decide +kernel)
theorem lkF_X1_120 : Cond.fieldLink RX1 120 "KanbanLoop$Stage" "waySteps" "I" ∈ kALL := kw_in 294 (by decide +kernel) (by decide +kernel)
theorem lkF_X1_78 : Cond.fieldLink RX1 78 "KanbanLoop$Stage" "starvedSteps" "I" ∈ kALL := kw_in 295 (by decide +kernel) (by decide +kernel)
theorem lkF_X1_57 : Cond.fieldLink RX1 57 "KanbanLoop$Stage" "unitsEntered" "I" ∈ kALL := kw_in 297 (by decide +kernel) (by decide +kernel)
theorem lkM_L_96 : Cond.methodLink RL 96 yL_way ∈ kALL := kw_in 336 (by decide +kernel) (by decide +kernel)
theorem lkT_yL_way : Cond.static yL_way ∈ kALL := kw_in 337 (by decide +kernel) (by decide +kernel)
theorem lkC_yL_way : Cond.codeWith yL_way cL_way 5 (some .int) [(0, 10, 13, 21), (0, 10, 17, 13)] ∈ kALL := kw_in 338 (by decide +kernel) (by decide +kernel)
theorem lkL_L_21 : Cond.classLink RL 21 "java/lang/IndexOutOfBoundsException" ∈ kALL := kw_in 339 (by decide +kernel) (by decide +kernel)
theorem lkM_L_17 : Cond.methodLink RL 17 yX3_way ∈ kALL := kw_in 340 (by decide +kernel) (by decide +kernel)
theorem lkI_yX3_way : Cond.instanceMethod yX3_way ∈ kALL := kw_in 341 (by decide +kernel) (by decide +kernel)
theorem lkS_yX3_way : Cond.selects RX3 yX3_way yX3_way ∈ kALL := kw_in 342 (by decide +kernel) (by decide +kernel)
theorem lkC_yX3_way : Cond.code yX3_way cX3_way 5 (some .int) ∈ kALL := kw_in 343 (by decide +kernel) (by decide +kernel)
theorem lkM_X3_55 : Cond.methodLink RX3 55 yX3_findFed ∈ kALL := kw_in 344 (by decide +kernel) (by decide +kernel)
theorem lkI_yX3_findFed : Cond.instanceMethod yX3_findFed ∈ kALL := kw_in 346 (by decide +kernel) (by decide +kernel)
theorem lkC_yX3_findFed : Cond.code yX3_findFed cX3_findFed 3 (some (.object "KanbanLoop$Stage")) ∈ kALL := kw_in 347 (by decide +kernel) (by decide +kernel)
theorem lkM_X3_62 : Cond.methodLink RX3 62 yX3_find ∈ kALL := kw_in 348 (by decide +kernel) (by decide +kernel)
theorem lkI_yX3_find : Cond.instanceMethod yX3_find ∈ kALL := kw_in 350 (by decide +kernel) (by decide +kernel)
theorem lkC_yX3_find : Cond.code yX3_find cX3_find 3 (some (.object "KanbanLoop$Stage")) ∈ kALL := kw_in 351 (by decide +kernel) (by decide +kernel)
theorem lkL_X3_167 : Cond.classLink RX3 167 "java/lang/IndexOutOfBoundsException" ∈ kALL := kw_in 352 (by decide +kernel) (by decide +kernel)
theorem lkM_L_100 : Cond.methodLink RL 100 yL_mark ∈ kALL := kw_in 369 (by decide +kernel) (by decide +kernel)
theorem lkT_yL_mark : Cond.static yL_mark ∈ kALL := kw_in 370 (by decide +kernel) (by decide +kernel)
theorem lkC_yL_mark : Cond.codeWith yL_mark cL_mark 5 (some .int) [(0, 10, 13, 21), (0, 10, 17, 13)] ∈ kALL := kw_in 371 (by decide +kernel) (by decide +kernel)
theorem lkM_L_23 : Cond.methodLink RL 23 yX3_mark ∈ kALL := kw_in 372 (by decide +kernel) (by decide +kernel)
theorem lkI_yX3_mark : Cond.instanceMethod yX3_mark ∈ kALL := kw_in 373 (by decide +kernel) (by decide +kernel)
theorem lkS_yX3_mark : Cond.selects RX3 yX3_mark yX3_mark ∈ kALL := kw_in 374 (by decide +kernel) (by decide +kernel)
theorem lkC_yX3_mark : Cond.code yX3_mark cX3_mark 5 (some .int) ∈ kALL := kw_in 375 (by decide +kernel) (by decide +kernel)
theorem lkM_L_108 : Cond.methodLink RL 108 yL_demand ∈ kALL := kw_in 376 (by decide +kernel) (by decide +kernel)
theorem lkT_yL_demand : Cond.static yL_demand ∈ kALL := kw_in 377 (by decide +kernel) (by decide +kernel)
theorem lkC_yL_demand : Cond.codeWith yL_demand cL_demand 4 (some .int) [(0, 9, 12, 13)] ∈ kALL := kw_in 378 (by decide +kernel) (by decide +kernel)
theorem lkM_L_26 : Cond.methodLink RL 26 yX3_demand ∈ kALL := kw_in 379 (by decide +kernel) (by decide +kernel)
theorem lkI_yX3_demand : Cond.instanceMethod yX3_demand ∈ kALL := kw_in 380 (by decide +kernel) (by decide +kernel)
theorem lkS_yX3_demand : Cond.selects RX3 yX3_demand yX3_demand ∈ kALL := kw_in 381 (by decide +kernel) (by decide +kernel)
theorem lkC_yX3_demand : Cond.code yX3_demand cX3_demand 3 (some .int) ∈ kALL := kw_in 382 (by decide +kernel) (by decide +kernel)
theorem lkM_L_112 : Cond.methodLink RL 112 yL_stop ∈ kALL := kw_in 383 (by decide +kernel) (by decide +kernel)
theorem lkT_yL_stop : Cond.static yL_stop ∈ kALL := kw_in 384 (by decide +kernel) (by decide +kernel)
theorem lkC_yL_stop : Cond.codeWith yL_stop cL_stop 4 (some .int) [(0, 16, 19, 21)] ∈ kALL := kw_in 385 (by decide +kernel) (by decide +kernel)
theorem lkM_L_30 : Cond.methodLink RL 30 yX3_stop ∈ kALL := kw_in 386 (by decide +kernel) (by decide +kernel)
theorem lkI_yX3_stop : Cond.instanceMethod yX3_stop ∈ kALL := kw_in 387 (by decide +kernel) (by decide +kernel)
theorem lkS_yX3_stop : Cond.selects RX3 yX3_stop yX3_stop ∈ kALL := kw_in 388 (by decide +kernel) (by decide +kernel)
theorem lkC_yX3_stop : Cond.code yX3_stop cX3_stop 3 (some .boolean) ∈ kALL := kw_in 389 (by decide +kernel) (by decide +kernel)
theorem lkM_L_115 : Cond.methodLink RL 115 yL_issue ∈ kALL := kw_in 390 (by decide +kernel) (by decide +kernel)
theorem lkT_yL_issue : Cond.static yL_issue ∈ kALL := kw_in 391 (by decide +kernel) (by decide +kernel)
theorem lkC_yL_issue : Cond.codeWith yL_issue cL_issue 4 (some .int) [(0, 9, 12, 21), (0, 9, 15, 15)] ∈ kALL := kw_in 392 (by decide +kernel) (by decide +kernel)
theorem lkM_L_34 : Cond.methodLink RL 34 yX3_issue ∈ kALL := kw_in 393 (by decide +kernel) (by decide +kernel)
theorem lkI_yX3_issue : Cond.instanceMethod yX3_issue ∈ kALL := kw_in 394 (by decide +kernel) (by decide +kernel)
theorem lkS_yX3_issue : Cond.selects RX3 yX3_issue yX3_issue ∈ kALL := kw_in 395 (by decide +kernel) (by decide +kernel)
theorem lkC_yX3_issue : Cond.code yX3_issue cX3_issue 3 (some .int) ∈ kALL := kw_in 396 (by decide +kernel) (by decide +kernel)
theorem lkM_L_118 : Cond.methodLink RL 118 yL_retire ∈ kALL := kw_in 398 (by decide +kernel) (by decide +kernel)
theorem lkT_yL_retire : Cond.static yL_retire ∈ kALL := kw_in 399 (by decide +kernel) (by decide +kernel)
theorem lkC_yL_retire : Cond.codeWith yL_retire cL_retire 4 (some .int) [(0, 9, 12, 21), (0, 9, 15, 15)] ∈ kALL := kw_in 400 (by decide +kernel) (by decide +kernel)
theorem lkM_L_37 : Cond.methodLink RL 37 yX3_retire ∈ kALL := kw_in 401 (by decide +kernel) (by decide +kernel)
theorem lkI_yX3_retire : Cond.instanceMethod yX3_retire ∈ kALL := kw_in 402 (by decide +kernel) (by decide +kernel)
theorem lkS_yX3_retire : Cond.selects RX3 yX3_retire yX3_retire ∈ kALL := kw_in 403 (by decide +kernel) (by decide +kernel)
theorem lkC_yX3_retire : Cond.code yX3_retire cX3_retire 3 (some .int) ∈ kALL := kw_in 404 (by decide +kernel) (by decide +kernel)
theorem lkM_X3_84 : Cond.methodLink RX3 84 Lib.Math.min.name ∈ kALL := kw_in 406 (by decide +kernel) (by decide +kernel)
theorem lkM_L_121 : Cond.methodLink RL 121 yL_issueConveyance ∈ kALL := kw_in 407 (by decide +kernel) (by decide +kernel)
theorem lkT_yL_issueConveyance : Cond.static yL_issueConveyance ∈ kALL := kw_in 408 (by decide +kernel) (by decide +kernel)
theorem lkC_yL_issueConveyance : Cond.codeWith yL_issueConveyance cL_issueConveyance 4 (some .int) [(0, 9, 12, 21), (0, 9, 15, 15)] ∈ kALL := kw_in 409 (by decide +kernel) (by decide +kernel)
theorem lkM_L_40 : Cond.methodLink RL 40 yX3_issueConveyance ∈ kALL := kw_in 410 (by decide +kernel) (by decide +kernel)
theorem lkI_yX3_issueConveyance : Cond.instanceMethod yX3_issueConveyance ∈ kALL := kw_in 411 (by decide +kernel) (by decide +kernel)
theorem lkS_yX3_issueConveyance : Cond.selects RX3 yX3_issueConveyance yX3_issueConveyance ∈ kALL := kw_in 412 (by decide +kernel) (by decide +kernel)
theorem lkC_yX3_issueConveyance : Cond.code yX3_issueConveyance cX3_issueConveyance 3 (some .int) ∈ kALL := kw_in 413 (by decide +kernel) (by decide +kernel)
theorem lkM_L_124 : Cond.methodLink RL 124 yL_retireConveyance ∈ kALL := kw_in 415 (by decide +kernel) (by decide +kernel)
theorem lkT_yL_retireConveyance : Cond.static yL_retireConveyance ∈ kALL := kw_in 416 (by decide +kernel) (by decide +kernel)
theorem lkC_yL_retireConveyance : Cond.codeWith yL_retireConveyance cL_retireConveyance 4 (some .int) [(0, 9, 12, 21), (0, 9, 15, 15)] ∈ kALL := kw_in 417 (by decide +kernel) (by decide +kernel)
theorem lkM_L_43 : Cond.methodLink RL 43 yX3_retireConveyance ∈ kALL := kw_in 418 (by decide +kernel) (by decide +kernel)
theorem lkI_yX3_retireConveyance : Cond.instanceMethod yX3_retireConveyance ∈ kALL := kw_in 419 (by decide +kernel) (by decide +kernel)
theorem lkS_yX3_retireConveyance : Cond.selects RX3 yX3_retireConveyance yX3_retireConveyance ∈ kALL := kw_in 420 (by decide +kernel) (by decide +kernel)
theorem lkC_yX3_retireConveyance : Cond.code yX3_retireConveyance cX3_retireConveyance 3 (some .int) ∈ kALL := kw_in 421 (by decide +kernel) (by decide +kernel)
theorem lkM_L_127 : Cond.methodLink RL 127 yL_needed ∈ kALL := kw_in 423 (by decide +kernel) (by decide +kernel)
theorem lkT_yL_needed : Cond.static yL_needed ∈ kALL := kw_in 424 (by decide +kernel) (by decide +kernel)
theorem lkC_yL_needed : Cond.codeWith yL_needed cL_needed 5 (some .int) [(0, 10, 13, 21), (0, 10, 17, 13)] ∈ kALL := kw_in 425 (by decide +kernel) (by decide +kernel)
theorem lkM_L_46 : Cond.methodLink RL 46 yX3_needed ∈ kALL := kw_in 426 (by decide +kernel) (by decide +kernel)
theorem lkI_yX3_needed : Cond.instanceMethod yX3_needed ∈ kALL := kw_in 427 (by decide +kernel) (by decide +kernel)
theorem lkS_yX3_needed : Cond.selects RX3 yX3_needed yX3_needed ∈ kALL := kw_in 428 (by decide +kernel) (by decide +kernel)
theorem lkC_yX3_needed : Cond.code yX3_needed cX3_needed 8 (some .int) ∈ kALL := kw_in 429 (by decide +kernel) (by decide +kernel)
theorem lkM_X3_103 : Cond.methodLink RX3 103 yX3_wayBehind ∈ kALL := kw_in 430 (by decide +kernel) (by decide +kernel)
theorem lkI_yX3_wayBehind : Cond.instanceMethod yX3_wayBehind ∈ kALL := kw_in 432 (by decide +kernel) (by decide +kernel)
theorem lkC_yX3_wayBehind : Cond.code yX3_wayBehind cX3_wayBehind 3 (some .int) ∈ kALL := kw_in 433 (by decide +kernel) (by decide +kernel)
theorem lkM_X3_110 : Cond.methodLink RX3 110 Lib.Math.max.name ∈ kALL := kw_in 434 (by decide +kernel) (by decide +kernel)
theorem lkT_Math_max_name : Cond.static Lib.Math.max.name ∈ kALL := kw_in 435 (by decide +kernel) (by decide +kernel)
theorem lkC_Math_max_name : Cond.code Lib.Math.max.name Lib.Math.max.code 2 (some .int) ∈ kALL := kw_in 436 (by decide +kernel) (by decide +kernel)
theorem lkM_L_130 : Cond.methodLink RL 130 yL_step ∈ kALL := kw_in 437 (by decide +kernel) (by decide +kernel)
theorem lkT_yL_step : Cond.static yL_step ∈ kALL := kw_in 438 (by decide +kernel) (by decide +kernel)
theorem lkC_yL_step : Cond.codeWith yL_step cL_step 4 (some .int) [(0, 9, 12, 13), (0, 9, 15, 15)] ∈ kALL := kw_in 439 (by decide +kernel) (by decide +kernel)
theorem lkM_L_49 : Cond.methodLink RL 49 yX3_step ∈ kALL := kw_in 440 (by decide +kernel) (by decide +kernel)
theorem lkI_yX3_step : Cond.instanceMethod yX3_step ∈ kALL := kw_in 441 (by decide +kernel) (by decide +kernel)
theorem lkS_yX3_step : Cond.selects RX3 yX3_step yX3_step ∈ kALL := kw_in 442 (by decide +kernel) (by decide +kernel)
theorem lkC_yX3_step : Cond.code yX3_step cX3_step 4 (some .int) ∈ kALL := kw_in 443 (by decide +kernel) (by decide +kernel)
theorem lkM_X3_115 : Cond.methodLink RX3 115 yX3_passOneStep ∈ kALL := kw_in 445 (by decide +kernel) (by decide +kernel)
theorem lkI_yX3_passOneStep : Cond.instanceMethod yX3_passOneStep ∈ kALL := kw_in 447 (by decide +kernel) (by decide +kernel)
theorem lkC_yX3_passOneStep : Cond.code yX3_passOneStep cX3_passOneStep 3 none ∈ kALL := kw_in 448 (by decide +kernel) (by decide +kernel)
theorem lkM_X3_174 : Cond.methodLink RX3 174 yX3_serveCustomers ∈ kALL := kw_in 449 (by decide +kernel) (by decide +kernel)
theorem lkI_yX3_serveCustomers : Cond.instanceMethod yX3_serveCustomers ∈ kALL := kw_in 451 (by decide +kernel) (by decide +kernel)
theorem lkC_yX3_serveCustomers : Cond.code yX3_serveCustomers cX3_serveCustomers 4 none ∈ kALL := kw_in 452 (by decide +kernel) (by decide +kernel)
theorem lkI_yX2_takeOut : Cond.instanceMethod yX2_takeOut ∈ kALL := kw_in 456 (by decide +kernel) (by decide +kernel)
theorem lkC_yX2_takeOut : Cond.code yX2_takeOut cX2_takeOut 8 (some .int) ∈ kALL := kw_in 457 (by decide +kernel) (by decide +kernel)
theorem lkM_X2_29 : Cond.methodLink RX2 29 yX2_removeHead ∈ kALL := kw_in 458 (by decide +kernel) (by decide +kernel)
theorem lkI_yX2_removeHead : Cond.instanceMethod yX2_removeHead ∈ kALL := kw_in 460 (by decide +kernel) (by decide +kernel)
theorem lkC_yX2_removeHead : Cond.code yX2_removeHead cX2_removeHead 2 none ∈ kALL := kw_in 461 (by decide +kernel) (by decide +kernel)
theorem lkI_yX1_work : Cond.instanceMethod yX1_work ∈ kALL := kw_in 464 (by decide +kernel) (by decide +kernel)
theorem lkC_yX1_work : Cond.code yX1_work cX1_work 2 none ∈ kALL := kw_in 465 (by decide +kernel) (by decide +kernel)
theorem lkM_X1_72 : Cond.methodLink RX1 72 yX1_goOn ∈ kALL := kw_in 466 (by decide +kernel) (by decide +kernel)
theorem lkI_yX1_goOn : Cond.instanceMethod yX1_goOn ∈ kALL := kw_in 468 (by decide +kernel) (by decide +kernel)
theorem lkC_yX1_goOn : Cond.code yX1_goOn cX1_goOn 1 none ∈ kALL := kw_in 469 (by decide +kernel) (by decide +kernel)
theorem lkI_yX2_add : Cond.instanceMethod yX2_add ∈ kALL := kw_in 472 (by decide +kernel) (by decide +kernel)
theorem lkC_yX2_add : Cond.code yX2_add cX2_add 2 none ∈ kALL := kw_in 473 (by decide +kernel) (by decide +kernel)
theorem lkM_X1_81 : Cond.methodLink RX1 81 yX1_begin ∈ kALL := kw_in 474 (by decide +kernel) (by decide +kernel)
theorem lkI_yX1_begin : Cond.instanceMethod yX1_begin ∈ kALL := kw_in 476 (by decide +kernel) (by decide +kernel)
theorem lkC_yX1_begin : Cond.code yX1_begin cX1_begin 2 none ∈ kALL := kw_in 477 (by decide +kernel) (by decide +kernel)
theorem lkI_yX1_convey : Cond.instanceMethod yX1_convey ∈ kALL := kw_in 481 (by decide +kernel) (by decide +kernel)
theorem lkC_yX1_convey : Cond.code yX1_convey cX1_convey 2 none ∈ kALL := kw_in 482 (by decide +kernel) (by decide +kernel)
theorem lkI_yX0_bringTo : Cond.instanceMethod yX0_bringTo ∈ kALL := kw_in 485 (by decide +kernel) (by decide +kernel)
theorem lkC_yX0_bringTo : Cond.code yX0_bringTo cX0_bringTo 5 none ∈ kALL := kw_in 486 (by decide +kernel) (by decide +kernel)
theorem lkM_X1_100 : Cond.methodLink RX1 100 Lib.Math.min.name ∈ kALL := kw_in 488 (by decide +kernel) (by decide +kernel)
theorem lkM_X1_106 : Cond.methodLink RX1 106 yX1_fetchFrom ∈ kALL := kw_in 489 (by decide +kernel) (by decide +kernel)
theorem lkI_yX1_fetchFrom : Cond.instanceMethod yX1_fetchFrom ∈ kALL := kw_in 491 (by decide +kernel) (by decide +kernel)
theorem lkC_yX1_fetchFrom : Cond.code yX1_fetchFrom cX1_fetchFrom 3 none ∈ kALL := kw_in 492 (by decide +kernel) (by decide +kernel)
theorem lkI_yX2_headUnits : Cond.instanceMethod yX2_headUnits ∈ kALL := kw_in 495 (by decide +kernel) (by decide +kernel)
theorem lkC_yX2_headUnits : Cond.code yX2_headUnits cX2_headUnits 1 (some .int) ∈ kALL := kw_in 496 (by decide +kernel) (by decide +kernel)
theorem lkI_yX2_headIsCarded : Cond.instanceMethod yX2_headIsCarded ∈ kALL := kw_in 499 (by decide +kernel) (by decide +kernel)
theorem lkC_yX2_headIsCarded : Cond.code yX2_headIsCarded cX2_headIsCarded 1 (some .boolean) ∈ kALL := kw_in 500 (by decide +kernel) (by decide +kernel)
theorem lkI_yX0_add : Cond.instanceMethod yX0_add ∈ kALL := kw_in 504 (by decide +kernel) (by decide +kernel)
theorem lkC_yX0_add : Cond.code yX0_add cX0_add 3 none ∈ kALL := kw_in 505 (by decide +kernel) (by decide +kernel)
theorem lkM_L_141 : Cond.methodLink RL 141 yL_board ∈ kALL := kw_in 506 (by decide +kernel) (by decide +kernel)
theorem lkT_yL_board : Cond.static yL_board ∈ kALL := kw_in 507 (by decide +kernel) (by decide +kernel)
theorem lkC_yL_board : Cond.codeWith yL_board cL_board 4 (some .int) [(0, 9, 12, 21)] ∈ kALL := kw_in 508 (by decide +kernel) (by decide +kernel)
theorem lkM_L_52 : Cond.methodLink RL 52 yX3_board ∈ kALL := kw_in 509 (by decide +kernel) (by decide +kernel)
theorem lkI_yX3_board : Cond.instanceMethod yX3_board ∈ kALL := kw_in 510 (by decide +kernel) (by decide +kernel)
theorem lkS_yX3_board : Cond.selects RX3 yX3_board yX3_board ∈ kALL := kw_in 511 (by decide +kernel) (by decide +kernel)
theorem lkC_yX3_board : Cond.code yX3_board cX3_board 2 (some .int) ∈ kALL := kw_in 512 (by decide +kernel) (by decide +kernel)
theorem lkM_L_144 : Cond.methodLink RL 144 yL_attached ∈ kALL := kw_in 513 (by decide +kernel) (by decide +kernel)
theorem lkT_yL_attached : Cond.static yL_attached ∈ kALL := kw_in 514 (by decide +kernel) (by decide +kernel)
theorem lkC_yL_attached : Cond.codeWith yL_attached cL_attached 4 (some .int) [(0, 9, 12, 21)] ∈ kALL := kw_in 515 (by decide +kernel) (by decide +kernel)
theorem lkM_L_55 : Cond.methodLink RL 55 yX3_attached ∈ kALL := kw_in 516 (by decide +kernel) (by decide +kernel)
theorem lkI_yX3_attached : Cond.instanceMethod yX3_attached ∈ kALL := kw_in 517 (by decide +kernel) (by decide +kernel)
theorem lkS_yX3_attached : Cond.selects RX3 yX3_attached yX3_attached ∈ kALL := kw_in 518 (by decide +kernel) (by decide +kernel)
theorem lkC_yX3_attached : Cond.code yX3_attached cX3_attached 2 (some .int) ∈ kALL := kw_in 519 (by decide +kernel) (by decide +kernel)
theorem lkI_yX2_cardsOn : Cond.instanceMethod yX2_cardsOn ∈ kALL := kw_in 522 (by decide +kernel) (by decide +kernel)
theorem lkC_yX2_cardsOn : Cond.code yX2_cardsOn cX2_cardsOn 3 (some .int) ∈ kALL := kw_in 523 (by decide +kernel) (by decide +kernel)
theorem lkM_L_147 : Cond.methodLink RL 147 yL_left ∈ kALL := kw_in 524 (by decide +kernel) (by decide +kernel)
theorem lkT_yL_left : Cond.static yL_left ∈ kALL := kw_in 525 (by decide +kernel) (by decide +kernel)
theorem lkC_yL_left : Cond.codeWith yL_left cL_left 4 (some .int) [(0, 9, 12, 21)] ∈ kALL := kw_in 526 (by decide +kernel) (by decide +kernel)
theorem lkM_L_58 : Cond.methodLink RL 58 yX3_left ∈ kALL := kw_in 527 (by decide +kernel) (by decide +kernel)
theorem lkI_yX3_left : Cond.instanceMethod yX3_left ∈ kALL := kw_in 528 (by decide +kernel) (by decide +kernel)
theorem lkS_yX3_left : Cond.selects RX3 yX3_left yX3_left ∈ kALL := kw_in 529 (by decide +kernel) (by decide +kernel)
theorem lkC_yX3_left : Cond.code yX3_left cX3_left 2 (some .int) ∈ kALL := kw_in 530 (by decide +kernel) (by decide +kernel)
theorem lkM_L_150 : Cond.methodLink RL 150 yL_run ∈ kALL := kw_in 531 (by decide +kernel) (by decide +kernel)
theorem lkT_yL_run : Cond.static yL_run ∈ kALL := kw_in 532 (by decide +kernel) (by decide +kernel)
theorem lkC_yL_run : Cond.codeWith yL_run cL_run 4 (some .int) [(0, 9, 12, 21)] ∈ kALL := kw_in 533 (by decide +kernel) (by decide +kernel)
theorem lkM_L_61 : Cond.methodLink RL 61 yX3_run ∈ kALL := kw_in 534 (by decide +kernel) (by decide +kernel)
theorem lkI_yX3_run : Cond.instanceMethod yX3_run ∈ kALL := kw_in 535 (by decide +kernel) (by decide +kernel)
theorem lkS_yX3_run : Cond.selects RX3 yX3_run yX3_run ∈ kALL := kw_in 536 (by decide +kernel) (by decide +kernel)
theorem lkC_yX3_run : Cond.code yX3_run cX3_run 2 (some .int) ∈ kALL := kw_in 537 (by decide +kernel) (by decide +kernel)
theorem lkM_L_153 : Cond.methodLink RL 153 yL_market ∈ kALL := kw_in 538 (by decide +kernel) (by decide +kernel)
theorem lkT_yL_market : Cond.static yL_market ∈ kALL := kw_in 539 (by decide +kernel) (by decide +kernel)
theorem lkC_yL_market : Cond.codeWith yL_market cL_market 4 (some .int) [(0, 9, 12, 21)] ∈ kALL := kw_in 540 (by decide +kernel) (by decide +kernel)
theorem lkM_L_64 : Cond.methodLink RL 64 yX3_market ∈ kALL := kw_in 541 (by decide +kernel) (by decide +kernel)
theorem lkI_yX3_market : Cond.instanceMethod yX3_market ∈ kALL := kw_in 542 (by decide +kernel) (by decide +kernel)
theorem lkS_yX3_market : Cond.selects RX3 yX3_market yX3_market ∈ kALL := kw_in 543 (by decide +kernel) (by decide +kernel)
theorem lkC_yX3_market : Cond.code yX3_market cX3_market 2 (some .int) ∈ kALL := kw_in 544 (by decide +kernel) (by decide +kernel)
theorem lkM_L_156 : Cond.methodLink RL 156 yL_inbox ∈ kALL := kw_in 545 (by decide +kernel) (by decide +kernel)
theorem lkT_yL_inbox : Cond.static yL_inbox ∈ kALL := kw_in 546 (by decide +kernel) (by decide +kernel)
theorem lkC_yL_inbox : Cond.codeWith yL_inbox cL_inbox 4 (some .int) [(0, 9, 12, 21)] ∈ kALL := kw_in 547 (by decide +kernel) (by decide +kernel)
theorem lkM_L_67 : Cond.methodLink RL 67 yX3_inbox ∈ kALL := kw_in 548 (by decide +kernel) (by decide +kernel)
theorem lkI_yX3_inbox : Cond.instanceMethod yX3_inbox ∈ kALL := kw_in 549 (by decide +kernel) (by decide +kernel)
theorem lkS_yX3_inbox : Cond.selects RX3 yX3_inbox yX3_inbox ∈ kALL := kw_in 550 (by decide +kernel) (by decide +kernel)
theorem lkC_yX3_inbox : Cond.code yX3_inbox cX3_inbox 2 (some .int) ∈ kALL := kw_in 551 (by decide +kernel) (by decide +kernel)
theorem lkM_L_159 : Cond.methodLink RL 159 yL_waiting ∈ kALL := kw_in 552 (by decide +kernel) (by decide +kernel)
theorem lkT_yL_waiting : Cond.static yL_waiting ∈ kALL := kw_in 553 (by decide +kernel) (by decide +kernel)
theorem lkC_yL_waiting : Cond.codeWith yL_waiting cL_waiting 4 (some .int) [(0, 9, 12, 21)] ∈ kALL := kw_in 554 (by decide +kernel) (by decide +kernel)
theorem lkM_L_70 : Cond.methodLink RL 70 yX3_waiting ∈ kALL := kw_in 555 (by decide +kernel) (by decide +kernel)
theorem lkI_yX3_waiting : Cond.instanceMethod yX3_waiting ∈ kALL := kw_in 556 (by decide +kernel) (by decide +kernel)
theorem lkS_yX3_waiting : Cond.selects RX3 yX3_waiting yX3_waiting ∈ kALL := kw_in 557 (by decide +kernel) (by decide +kernel)
theorem lkC_yX3_waiting : Cond.code yX3_waiting cX3_waiting 2 (some .int) ∈ kALL := kw_in 558 (by decide +kernel) (by decide +kernel)
theorem lkM_L_162 : Cond.methodLink RL 162 yL_travelling ∈ kALL := kw_in 559 (by decide +kernel) (by decide +kernel)
theorem lkT_yL_travelling : Cond.static yL_travelling ∈ kALL := kw_in 560 (by decide +kernel) (by decide +kernel)
theorem lkC_yL_travelling : Cond.codeWith yL_travelling cL_travelling 4 (some .int) [(0, 9, 12, 21)] ∈ kALL := kw_in 561 (by decide +kernel) (by decide +kernel)
theorem lkM_L_73 : Cond.methodLink RL 73 yX3_travelling ∈ kALL := kw_in 562 (by decide +kernel) (by decide +kernel)
theorem lkI_yX3_travelling : Cond.instanceMethod yX3_travelling ∈ kALL := kw_in 563 (by decide +kernel) (by decide +kernel)
theorem lkS_yX3_travelling : Cond.selects RX3 yX3_travelling yX3_travelling ∈ kALL := kw_in 564 (by decide +kernel) (by decide +kernel)
theorem lkC_yX3_travelling : Cond.code yX3_travelling cX3_travelling 2 (some .int) ∈ kALL := kw_in 565 (by decide +kernel) (by decide +kernel)
theorem lkM_L_165 : Cond.methodLink RL 165 yL_firstUnits ∈ kALL := kw_in 566 (by decide +kernel) (by decide +kernel)
theorem lkT_yL_firstUnits : Cond.static yL_firstUnits ∈ kALL := kw_in 567 (by decide +kernel) (by decide +kernel)
theorem lkC_yL_firstUnits : Cond.codeWith yL_firstUnits cL_firstUnits 4 (some .int) [(0, 9, 12, 21)] ∈ kALL := kw_in 568 (by decide +kernel) (by decide +kernel)
theorem lkM_L_76 : Cond.methodLink RL 76 yX3_firstUnits ∈ kALL := kw_in 569 (by decide +kernel) (by decide +kernel)
theorem lkI_yX3_firstUnits : Cond.instanceMethod yX3_firstUnits ∈ kALL := kw_in 570 (by decide +kernel) (by decide +kernel)
theorem lkS_yX3_firstUnits : Cond.selects RX3 yX3_firstUnits yX3_firstUnits ∈ kALL := kw_in 571 (by decide +kernel) (by decide +kernel)
theorem lkC_yX3_firstUnits : Cond.code yX3_firstUnits cX3_firstUnits 2 (some .int) ∈ kALL := kw_in 572 (by decide +kernel) (by decide +kernel)
theorem lkM_L_180 : Cond.methodLink RL 180 yL_starved ∈ kALL := kw_in 574 (by decide +kernel) (by decide +kernel)
theorem lkT_yL_starved : Cond.static yL_starved ∈ kALL := kw_in 575 (by decide +kernel) (by decide +kernel)
theorem lkC_yL_starved : Cond.codeWith yL_starved cL_starved 4 (some .int) [(0, 9, 12, 21)] ∈ kALL := kw_in 576 (by decide +kernel) (by decide +kernel)
theorem lkM_L_79 : Cond.methodLink RL 79 yX3_starved ∈ kALL := kw_in 577 (by decide +kernel) (by decide +kernel)
theorem lkI_yX3_starved : Cond.instanceMethod yX3_starved ∈ kALL := kw_in 578 (by decide +kernel) (by decide +kernel)
theorem lkS_yX3_starved : Cond.selects RX3 yX3_starved yX3_starved ∈ kALL := kw_in 579 (by decide +kernel) (by decide +kernel)
theorem lkC_yX3_starved : Cond.code yX3_starved cX3_starved 2 (some .int) ∈ kALL := kw_in 580 (by decide +kernel) (by decide +kernel)
theorem lkL_L_83 : Cond.classLink RL 83 RX4 ∈ kALL := kw_in 581 (by decide +kernel) (by decide +kernel)
theorem lkB_X4 : Cond.instantiable RX4 30 ∈ kALL := kw_in 582 (by decide +kernel) (by decide +kernel)
theorem lkM_L_85 : Cond.methodLink RL 85 yX4_init ∈ kALL := kw_in 583 (by decide +kernel) (by decide +kernel)
theorem lkI_yX4_init : Cond.instanceMethod yX4_init ∈ kALL := kw_in 584 (by decide +kernel) (by decide +kernel)
theorem lkC_yX4_init : Cond.code yX4_init cX4_init 1 none ∈ kALL := kw_in 585 (by decide +kernel) (by decide +kernel)
theorem lkM_X4_1 : Cond.methodLink RX4 1 Lib.objectInit ∈ kALL := kw_in 586 (by decide +kernel) (by decide +kernel)
theorem lkF_X4_74 : Cond.fieldLink RX4 74 "KanbanLoopModel" "thrown" "I" ∈ kALL := kw_in 587 (by decide +kernel) (by decide +kernel)
theorem lkF_X4_78 : Cond.fieldLink RX4 78 "KanbanLoopModel" "stages" "I" ∈ kALL := kw_in 588 (by decide +kernel) (by decide +kernel)
theorem lkF_X4_96 : Cond.fieldLink RX4 96 "KanbanLoopModel" "isFirstRule" "Z" ∈ kALL := kw_in 589 (by decide +kernel) (by decide +kernel)
theorem lkF_X4_100 : Cond.fieldLink RX4 100 "KanbanLoopModel" "demand" "I" ∈ kALL := kw_in 590 (by decide +kernel) (by decide +kernel)
theorem lkF_X4_120 : Cond.fieldLink RX4 120 "KanbanLoopModel" "time" "I" ∈ kALL := kw_in 591 (by decide +kernel) (by decide +kernel)
theorem lkF_X4_117 : Cond.fieldLink RX4 117 "KanbanLoopModel" "taken" "I" ∈ kALL := kw_in 592 (by decide +kernel) (by decide +kernel)
theorem lkF_X4_123 : Cond.fieldLink RX4 123 "KanbanLoopModel" "backlog" "I" ∈ kALL := kw_in 593 (by decide +kernel) (by decide +kernel)
theorem lkF_X4_132 : Cond.fieldLink RX4 132 "KanbanLoopModel" "shortSteps" "I" ∈ kALL := kw_in 594 (by decide +kernel) (by decide +kernel)
theorem lkF_X4_89 : Cond.fieldLink RX4 89 "KanbanLoopModel" "flowed" "I" ∈ kALL := kw_in 595 (by decide +kernel) (by decide +kernel)
theorem lkF_X4_7 : Cond.fieldLink RX4 7 "KanbanLoopModel" "cards" "[I" ∈ kALL := kw_in 596 (by decide +kernel) (by decide +kernel)
theorem lkF_X4_13 : Cond.fieldLink RX4 13 "KanbanLoopModel" "size" "[I" ∈ kALL := kw_in 597 (by decide +kernel) (by decide +kernel)
theorem lkF_X4_16 : Cond.fieldLink RX4 16 "KanbanLoopModel" "duration" "[I" ∈ kALL := kw_in 598 (by decide +kernel) (by decide +kernel)
theorem lkF_X4_19 : Cond.fieldLink RX4 19 "KanbanLoopModel" "mark" "[I" ∈ kALL := kw_in 599 (by decide +kernel) (by decide +kernel)
theorem lkF_X4_22 : Cond.fieldLink RX4 22 "KanbanLoopModel" "isStopped" "[Z" ∈ kALL := kw_in 600 (by decide +kernel) (by decide +kernel)
theorem lkF_X4_26 : Cond.fieldLink RX4 26 "KanbanLoopModel" "board" "[I" ∈ kALL := kw_in 601 (by decide +kernel) (by decide +kernel)
theorem lkF_X4_29 : Cond.fieldLink RX4 29 "KanbanLoopModel" "left" "[I" ∈ kALL := kw_in 602 (by decide +kernel) (by decide +kernel)
theorem lkF_X4_32 : Cond.fieldLink RX4 32 "KanbanLoopModel" "run" "[I" ∈ kALL := kw_in 603 (by decide +kernel) (by decide +kernel)
theorem lkF_X4_35 : Cond.fieldLink RX4 35 "KanbanLoopModel" "starved" "[I" ∈ kALL := kw_in 604 (by decide +kernel) (by decide +kernel)
theorem lkF_X4_38 : Cond.fieldLink RX4 38 "KanbanLoopModel" "way" "[I" ∈ kALL := kw_in 605 (by decide +kernel) (by decide +kernel)
theorem lkF_X4_41 : Cond.fieldLink RX4 41 "KanbanLoopModel" "conveyance" "[I" ∈ kALL := kw_in 606 (by decide +kernel) (by decide +kernel)
theorem lkF_X4_44 : Cond.fieldLink RX4 44 "KanbanLoopModel" "waiting" "[I" ∈ kALL := kw_in 607 (by decide +kernel) (by decide +kernel)
theorem lkF_X4_47 : Cond.fieldLink RX4 47 "KanbanLoopModel" "marketUnits" "[I" ∈ kALL := kw_in 608 (by decide +kernel) (by decide +kernel)
theorem lkF_X4_50 : Cond.fieldLink RX4 50 "KanbanLoopModel" "marketCard" "[I" ∈ kALL := kw_in 609 (by decide +kernel) (by decide +kernel)
theorem lkF_X4_53 : Cond.fieldLink RX4 53 "KanbanLoopModel" "inMarket" "[I" ∈ kALL := kw_in 610 (by decide +kernel) (by decide +kernel)
theorem lkF_X4_56 : Cond.fieldLink RX4 56 "KanbanLoopModel" "inboxUnits" "[I" ∈ kALL := kw_in 611 (by decide +kernel) (by decide +kernel)
theorem lkF_X4_59 : Cond.fieldLink RX4 59 "KanbanLoopModel" "inboxCard" "[I" ∈ kALL := kw_in 612 (by decide +kernel) (by decide +kernel)
theorem lkF_X4_62 : Cond.fieldLink RX4 62 "KanbanLoopModel" "inInbox" "[I" ∈ kALL := kw_in 613 (by decide +kernel) (by decide +kernel)
theorem lkF_X4_65 : Cond.fieldLink RX4 65 "KanbanLoopModel" "wayUnits" "[I" ∈ kALL := kw_in 614 (by decide +kernel) (by decide +kernel)
theorem lkF_X4_68 : Cond.fieldLink RX4 68 "KanbanLoopModel" "waySteps" "[I" ∈ kALL := kw_in 615 (by decide +kernel) (by decide +kernel)
theorem lkF_X4_71 : Cond.fieldLink RX4 71 "KanbanLoopModel" "onWay" "[I" ∈ kALL := kw_in 616 (by decide +kernel) (by decide +kernel)
theorem lkM_L_92 : Cond.methodLink RL 92 yX4_thrown ∈ kALL := kw_in 678 (by decide +kernel) (by decide +kernel)
theorem lkI_yX4_thrown : Cond.instanceMethod yX4_thrown ∈ kALL := kw_in 679 (by decide +kernel) (by decide +kernel)
theorem lkS_yX4_thrown : Cond.selects RX4 yX4_thrown yX4_thrown ∈ kALL := kw_in 680 (by decide +kernel) (by decide +kernel)
theorem lkC_yX4_thrown : Cond.code yX4_thrown cX4_thrown 1 (some .int) ∈ kALL := kw_in 681 (by decide +kernel) (by decide +kernel)
theorem lkM_L_91 : Cond.methodLink RL 91 yX4_stage ∈ kALL := kw_in 682 (by decide +kernel) (by decide +kernel)
theorem lkI_yX4_stage : Cond.instanceMethod yX4_stage ∈ kALL := kw_in 683 (by decide +kernel) (by decide +kernel)
theorem lkS_yX4_stage : Cond.selects RX4 yX4_stage yX4_stage ∈ kALL := kw_in 684 (by decide +kernel) (by decide +kernel)
theorem lkC_yX4_stage : Cond.code yX4_stage cX4_stage 9 (some .int) ∈ kALL := kw_in 685 (by decide +kernel) (by decide +kernel)
theorem lkM_X4_81 : Cond.methodLink RX4 81 yX4_isIn ∈ kALL := kw_in 686 (by decide +kernel) (by decide +kernel)
theorem lkT_yX4_isIn : Cond.static yX4_isIn ∈ kALL := kw_in 687 (by decide +kernel) (by decide +kernel)
theorem lkC_yX4_isIn : Cond.code yX4_isIn cX4_isIn 3 (some .boolean) ∈ kALL := kw_in 688 (by decide +kernel) (by decide +kernel)
theorem lkM_X4_85 : Cond.methodLink RX4 85 yX4_comesToMarket ∈ kALL := kw_in 689 (by decide +kernel) (by decide +kernel)
theorem lkI_yX4_comesToMarket : Cond.instanceMethod yX4_comesToMarket ∈ kALL := kw_in 691 (by decide +kernel) (by decide +kernel)
theorem lkC_yX4_comesToMarket : Cond.code yX4_comesToMarket cX4_comesToMarket 3 none ∈ kALL := kw_in 692 (by decide +kernel) (by decide +kernel)
theorem lkM_L_99 : Cond.methodLink RL 99 yX4_way ∈ kALL := kw_in 693 (by decide +kernel) (by decide +kernel)
theorem lkI_yX4_way : Cond.instanceMethod yX4_way ∈ kALL := kw_in 694 (by decide +kernel) (by decide +kernel)
theorem lkS_yX4_way : Cond.selects RX4 yX4_way yX4_way ∈ kALL := kw_in 695 (by decide +kernel) (by decide +kernel)
theorem lkC_yX4_way : Cond.code yX4_way cX4_way 4 (some .int) ∈ kALL := kw_in 696 (by decide +kernel) (by decide +kernel)
theorem lkM_X4_92 : Cond.methodLink RX4 92 yX4_asks ∈ kALL := kw_in 697 (by decide +kernel) (by decide +kernel)
theorem lkI_yX4_asks : Cond.instanceMethod yX4_asks ∈ kALL := kw_in 699 (by decide +kernel) (by decide +kernel)
theorem lkC_yX4_asks : Cond.code yX4_asks cX4_asks 4 (some .boolean) ∈ kALL := kw_in 700 (by decide +kernel) (by decide +kernel)
theorem lkM_L_102 : Cond.methodLink RL 102 yX4_mark ∈ kALL := kw_in 701 (by decide +kernel) (by decide +kernel)
theorem lkI_yX4_mark : Cond.instanceMethod yX4_mark ∈ kALL := kw_in 702 (by decide +kernel) (by decide +kernel)
theorem lkS_yX4_mark : Cond.selects RX4 yX4_mark yX4_mark ∈ kALL := kw_in 703 (by decide +kernel) (by decide +kernel)
theorem lkC_yX4_mark : Cond.code yX4_mark cX4_mark 4 (some .int) ∈ kALL := kw_in 704 (by decide +kernel) (by decide +kernel)
theorem lkM_L_107 : Cond.methodLink RL 107 yX4_rule ∈ kALL := kw_in 705 (by decide +kernel) (by decide +kernel)
theorem lkI_yX4_rule : Cond.instanceMethod yX4_rule ∈ kALL := kw_in 706 (by decide +kernel) (by decide +kernel)
theorem lkS_yX4_rule : Cond.selects RX4 yX4_rule yX4_rule ∈ kALL := kw_in 707 (by decide +kernel) (by decide +kernel)
theorem lkC_yX4_rule : Cond.code yX4_rule cX4_rule 3 (some .boolean) ∈ kALL := kw_in 708 (by decide +kernel) (by decide +kernel)
theorem lkM_L_111 : Cond.methodLink RL 111 yX4_demand ∈ kALL := kw_in 709 (by decide +kernel) (by decide +kernel)
theorem lkI_yX4_demand : Cond.instanceMethod yX4_demand ∈ kALL := kw_in 710 (by decide +kernel) (by decide +kernel)
theorem lkS_yX4_demand : Cond.selects RX4 yX4_demand yX4_demand ∈ kALL := kw_in 711 (by decide +kernel) (by decide +kernel)
theorem lkC_yX4_demand : Cond.code yX4_demand cX4_demand 3 (some .int) ∈ kALL := kw_in 712 (by decide +kernel) (by decide +kernel)
theorem lkM_L_114 : Cond.methodLink RL 114 yX4_stop ∈ kALL := kw_in 713 (by decide +kernel) (by decide +kernel)
theorem lkI_yX4_stop : Cond.instanceMethod yX4_stop ∈ kALL := kw_in 714 (by decide +kernel) (by decide +kernel)
theorem lkS_yX4_stop : Cond.selects RX4 yX4_stop yX4_stop ∈ kALL := kw_in 715 (by decide +kernel) (by decide +kernel)
theorem lkC_yX4_stop : Cond.code yX4_stop cX4_stop 2 (some .boolean) ∈ kALL := kw_in 716 (by decide +kernel) (by decide +kernel)
theorem lkM_L_117 : Cond.methodLink RL 117 yX4_issue ∈ kALL := kw_in 717 (by decide +kernel) (by decide +kernel)
theorem lkI_yX4_issue : Cond.instanceMethod yX4_issue ∈ kALL := kw_in 718 (by decide +kernel) (by decide +kernel)
theorem lkS_yX4_issue : Cond.selects RX4 yX4_issue yX4_issue ∈ kALL := kw_in 719 (by decide +kernel) (by decide +kernel)
theorem lkC_yX4_issue : Cond.code yX4_issue cX4_issue 2 (some .int) ∈ kALL := kw_in 720 (by decide +kernel) (by decide +kernel)
theorem lkM_L_120 : Cond.methodLink RL 120 yX4_retire ∈ kALL := kw_in 721 (by decide +kernel) (by decide +kernel)
theorem lkI_yX4_retire : Cond.instanceMethod yX4_retire ∈ kALL := kw_in 722 (by decide +kernel) (by decide +kernel)
theorem lkS_yX4_retire : Cond.selects RX4 yX4_retire yX4_retire ∈ kALL := kw_in 723 (by decide +kernel) (by decide +kernel)
theorem lkC_yX4_retire : Cond.code yX4_retire cX4_retire 2 (some .int) ∈ kALL := kw_in 724 (by decide +kernel) (by decide +kernel)
theorem lkM_L_123 : Cond.methodLink RL 123 yX4_issueConveyance ∈ kALL := kw_in 725 (by decide +kernel) (by decide +kernel)
theorem lkI_yX4_issueConveyance : Cond.instanceMethod yX4_issueConveyance ∈ kALL := kw_in 726 (by decide +kernel) (by decide +kernel)
theorem lkS_yX4_issueConveyance : Cond.selects RX4 yX4_issueConveyance yX4_issueConveyance ∈ kALL := kw_in 727 (by decide +kernel) (by decide +kernel)
theorem lkC_yX4_issueConveyance : Cond.code yX4_issueConveyance cX4_issueConveyance 2 (some .int) ∈ kALL := kw_in 728 (by decide +kernel) (by decide +kernel)
theorem lkM_L_126 : Cond.methodLink RL 126 yX4_retireConveyance ∈ kALL := kw_in 729 (by decide +kernel) (by decide +kernel)
theorem lkI_yX4_retireConveyance : Cond.instanceMethod yX4_retireConveyance ∈ kALL := kw_in 730 (by decide +kernel) (by decide +kernel)
theorem lkS_yX4_retireConveyance : Cond.selects RX4 yX4_retireConveyance yX4_retireConveyance ∈ kALL := kw_in 731 (by decide +kernel) (by decide +kernel)
theorem lkC_yX4_retireConveyance : Cond.code yX4_retireConveyance cX4_retireConveyance 2 (some .int) ∈ kALL := kw_in 732 (by decide +kernel) (by decide +kernel)
theorem lkM_L_129 : Cond.methodLink RL 129 yX4_needed ∈ kALL := kw_in 733 (by decide +kernel) (by decide +kernel)
theorem lkI_yX4_needed : Cond.instanceMethod yX4_needed ∈ kALL := kw_in 734 (by decide +kernel) (by decide +kernel)
theorem lkS_yX4_needed : Cond.selects RX4 yX4_needed yX4_needed ∈ kALL := kw_in 735 (by decide +kernel) (by decide +kernel)
theorem lkC_yX4_needed : Cond.code yX4_needed cX4_needed 6 (some .int) ∈ kALL := kw_in 736 (by decide +kernel) (by decide +kernel)
theorem lkM_L_132 : Cond.methodLink RL 132 yX4_step ∈ kALL := kw_in 737 (by decide +kernel) (by decide +kernel)
theorem lkI_yX4_step : Cond.instanceMethod yX4_step ∈ kALL := kw_in 738 (by decide +kernel) (by decide +kernel)
theorem lkS_yX4_step : Cond.selects RX4 yX4_step yX4_step ∈ kALL := kw_in 739 (by decide +kernel) (by decide +kernel)
theorem lkC_yX4_step : Cond.code yX4_step cX4_step 8 (some .int) ∈ kALL := kw_in 740 (by decide +kernel) (by decide +kernel)
theorem lkM_X4_126 : Cond.methodLink RX4 126 yX4_marketOf ∈ kALL := kw_in 741 (by decide +kernel) (by decide +kernel)
theorem lkI_yX4_marketOf : Cond.instanceMethod yX4_marketOf ∈ kALL := kw_in 743 (by decide +kernel) (by decide +kernel)
theorem lkC_yX4_marketOf : Cond.code yX4_marketOf cX4_marketOf 4 (some .int) ∈ kALL := kw_in 744 (by decide +kernel) (by decide +kernel)
theorem lkM_X4_129 : Cond.methodLink RX4 129 yX4_sells ∈ kALL := kw_in 745 (by decide +kernel) (by decide +kernel)
theorem lkI_yX4_sells : Cond.instanceMethod yX4_sells ∈ kALL := kw_in 747 (by decide +kernel) (by decide +kernel)
theorem lkC_yX4_sells : Cond.code yX4_sells cX4_sells 6 none ∈ kALL := kw_in 748 (by decide +kernel) (by decide +kernel)
theorem lkM_X4_103 : Cond.methodLink RX4 103 yX4_leavesMarket ∈ kALL := kw_in 749 (by decide +kernel) (by decide +kernel)
theorem lkI_yX4_leavesMarket : Cond.instanceMethod yX4_leavesMarket ∈ kALL := kw_in 751 (by decide +kernel) (by decide +kernel)
theorem lkC_yX4_leavesMarket : Cond.code yX4_leavesMarket cX4_leavesMarket 3 none ∈ kALL := kw_in 752 (by decide +kernel) (by decide +kernel)
theorem lkM_X4_135 : Cond.methodLink RX4 135 yX4_works ∈ kALL := kw_in 753 (by decide +kernel) (by decide +kernel)
theorem lkI_yX4_works : Cond.instanceMethod yX4_works ∈ kALL := kw_in 755 (by decide +kernel) (by decide +kernel)
theorem lkC_yX4_works : Cond.code yX4_works cX4_works 2 none ∈ kALL := kw_in 756 (by decide +kernel) (by decide +kernel)
theorem lkM_X4_107 : Cond.methodLink RX4 107 yX4_inboxOf ∈ kALL := kw_in 757 (by decide +kernel) (by decide +kernel)
theorem lkI_yX4_inboxOf : Cond.instanceMethod yX4_inboxOf ∈ kALL := kw_in 759 (by decide +kernel) (by decide +kernel)
theorem lkC_yX4_inboxOf : Cond.code yX4_inboxOf cX4_inboxOf 4 (some .int) ∈ kALL := kw_in 760 (by decide +kernel) (by decide +kernel)
theorem lkM_X4_111 : Cond.methodLink RX4 111 yX4_uses ∈ kALL := kw_in 761 (by decide +kernel) (by decide +kernel)
theorem lkI_yX4_uses : Cond.instanceMethod yX4_uses ∈ kALL := kw_in 763 (by decide +kernel) (by decide +kernel)
theorem lkC_yX4_uses : Cond.code yX4_uses cX4_uses 7 none ∈ kALL := kw_in 764 (by decide +kernel) (by decide +kernel)
theorem lkM_X4_138 : Cond.methodLink RX4 138 yX4_conveys ∈ kALL := kw_in 765 (by decide +kernel) (by decide +kernel)
theorem lkI_yX4_conveys : Cond.instanceMethod yX4_conveys ∈ kALL := kw_in 767 (by decide +kernel) (by decide +kernel)
theorem lkC_yX4_conveys : Cond.code yX4_conveys cX4_conveys 6 none ∈ kALL := kw_in 768 (by decide +kernel) (by decide +kernel)
theorem lkM_X4_114 : Cond.methodLink RX4 114 yX4_comesToInbox ∈ kALL := kw_in 769 (by decide +kernel) (by decide +kernel)
theorem lkI_yX4_comesToInbox : Cond.instanceMethod yX4_comesToInbox ∈ kALL := kw_in 771 (by decide +kernel) (by decide +kernel)
theorem lkC_yX4_comesToInbox : Cond.code yX4_comesToInbox cX4_comesToInbox 3 none ∈ kALL := kw_in 772 (by decide +kernel) (by decide +kernel)
theorem lkM_L_136 : Cond.methodLink RL 136 yX4_time ∈ kALL := kw_in 773 (by decide +kernel) (by decide +kernel)
theorem lkI_yX4_time : Cond.instanceMethod yX4_time ∈ kALL := kw_in 774 (by decide +kernel) (by decide +kernel)
theorem lkS_yX4_time : Cond.selects RX4 yX4_time yX4_time ∈ kALL := kw_in 775 (by decide +kernel) (by decide +kernel)
theorem lkC_yX4_time : Cond.code yX4_time cX4_time 1 (some .int) ∈ kALL := kw_in 776 (by decide +kernel) (by decide +kernel)
theorem lkM_L_140 : Cond.methodLink RL 140 yX4_stages ∈ kALL := kw_in 777 (by decide +kernel) (by decide +kernel)
theorem lkI_yX4_stages : Cond.instanceMethod yX4_stages ∈ kALL := kw_in 778 (by decide +kernel) (by decide +kernel)
theorem lkS_yX4_stages : Cond.selects RX4 yX4_stages yX4_stages ∈ kALL := kw_in 779 (by decide +kernel) (by decide +kernel)
theorem lkC_yX4_stages : Cond.code yX4_stages cX4_stages 1 (some .int) ∈ kALL := kw_in 780 (by decide +kernel) (by decide +kernel)
theorem lkM_L_143 : Cond.methodLink RL 143 yX4_board ∈ kALL := kw_in 781 (by decide +kernel) (by decide +kernel)
theorem lkI_yX4_board : Cond.instanceMethod yX4_board ∈ kALL := kw_in 782 (by decide +kernel) (by decide +kernel)
theorem lkS_yX4_board : Cond.selects RX4 yX4_board yX4_board ∈ kALL := kw_in 783 (by decide +kernel) (by decide +kernel)
theorem lkC_yX4_board : Cond.code yX4_board cX4_board 2 (some .int) ∈ kALL := kw_in 784 (by decide +kernel) (by decide +kernel)
theorem lkM_L_146 : Cond.methodLink RL 146 yX4_attached ∈ kALL := kw_in 785 (by decide +kernel) (by decide +kernel)
theorem lkI_yX4_attached : Cond.instanceMethod yX4_attached ∈ kALL := kw_in 786 (by decide +kernel) (by decide +kernel)
theorem lkS_yX4_attached : Cond.selects RX4 yX4_attached yX4_attached ∈ kALL := kw_in 787 (by decide +kernel) (by decide +kernel)
theorem lkC_yX4_attached : Cond.code yX4_attached cX4_attached 4 (some .int) ∈ kALL := kw_in 788 (by decide +kernel) (by decide +kernel)
theorem lkM_L_149 : Cond.methodLink RL 149 yX4_left ∈ kALL := kw_in 789 (by decide +kernel) (by decide +kernel)
theorem lkI_yX4_left : Cond.instanceMethod yX4_left ∈ kALL := kw_in 790 (by decide +kernel) (by decide +kernel)
theorem lkS_yX4_left : Cond.selects RX4 yX4_left yX4_left ∈ kALL := kw_in 791 (by decide +kernel) (by decide +kernel)
theorem lkC_yX4_left : Cond.code yX4_left cX4_left 2 (some .int) ∈ kALL := kw_in 792 (by decide +kernel) (by decide +kernel)
theorem lkM_L_152 : Cond.methodLink RL 152 yX4_run ∈ kALL := kw_in 793 (by decide +kernel) (by decide +kernel)
theorem lkI_yX4_run : Cond.instanceMethod yX4_run ∈ kALL := kw_in 794 (by decide +kernel) (by decide +kernel)
theorem lkS_yX4_run : Cond.selects RX4 yX4_run yX4_run ∈ kALL := kw_in 795 (by decide +kernel) (by decide +kernel)
theorem lkC_yX4_run : Cond.code yX4_run cX4_run 2 (some .int) ∈ kALL := kw_in 796 (by decide +kernel) (by decide +kernel)
theorem lkM_L_155 : Cond.methodLink RL 155 yX4_market ∈ kALL := kw_in 797 (by decide +kernel) (by decide +kernel)
theorem lkI_yX4_market : Cond.instanceMethod yX4_market ∈ kALL := kw_in 798 (by decide +kernel) (by decide +kernel)
theorem lkS_yX4_market : Cond.selects RX4 yX4_market yX4_market ∈ kALL := kw_in 799 (by decide +kernel) (by decide +kernel)
theorem lkC_yX4_market : Cond.code yX4_market cX4_market 2 (some .int) ∈ kALL := kw_in 800 (by decide +kernel) (by decide +kernel)
theorem lkM_L_158 : Cond.methodLink RL 158 yX4_inbox ∈ kALL := kw_in 801 (by decide +kernel) (by decide +kernel)
theorem lkI_yX4_inbox : Cond.instanceMethod yX4_inbox ∈ kALL := kw_in 802 (by decide +kernel) (by decide +kernel)
theorem lkS_yX4_inbox : Cond.selects RX4 yX4_inbox yX4_inbox ∈ kALL := kw_in 803 (by decide +kernel) (by decide +kernel)
theorem lkC_yX4_inbox : Cond.code yX4_inbox cX4_inbox 2 (some .int) ∈ kALL := kw_in 804 (by decide +kernel) (by decide +kernel)
theorem lkM_L_161 : Cond.methodLink RL 161 yX4_waiting ∈ kALL := kw_in 805 (by decide +kernel) (by decide +kernel)
theorem lkI_yX4_waiting : Cond.instanceMethod yX4_waiting ∈ kALL := kw_in 806 (by decide +kernel) (by decide +kernel)
theorem lkS_yX4_waiting : Cond.selects RX4 yX4_waiting yX4_waiting ∈ kALL := kw_in 807 (by decide +kernel) (by decide +kernel)
theorem lkC_yX4_waiting : Cond.code yX4_waiting cX4_waiting 2 (some .int) ∈ kALL := kw_in 808 (by decide +kernel) (by decide +kernel)
theorem lkM_L_164 : Cond.methodLink RL 164 yX4_travelling ∈ kALL := kw_in 809 (by decide +kernel) (by decide +kernel)
theorem lkI_yX4_travelling : Cond.instanceMethod yX4_travelling ∈ kALL := kw_in 810 (by decide +kernel) (by decide +kernel)
theorem lkS_yX4_travelling : Cond.selects RX4 yX4_travelling yX4_travelling ∈ kALL := kw_in 811 (by decide +kernel) (by decide +kernel)
theorem lkC_yX4_travelling : Cond.code yX4_travelling cX4_travelling 2 (some .int) ∈ kALL := kw_in 812 (by decide +kernel) (by decide +kernel)
theorem lkM_L_167 : Cond.methodLink RL 167 yX4_firstUnits ∈ kALL := kw_in 813 (by decide +kernel) (by decide +kernel)
theorem lkI_yX4_firstUnits : Cond.instanceMethod yX4_firstUnits ∈ kALL := kw_in 814 (by decide +kernel) (by decide +kernel)
theorem lkS_yX4_firstUnits : Cond.selects RX4 yX4_firstUnits yX4_firstUnits ∈ kALL := kw_in 815 (by decide +kernel) (by decide +kernel)
theorem lkC_yX4_firstUnits : Cond.code yX4_firstUnits cX4_firstUnits 2 (some .int) ∈ kALL := kw_in 816 (by decide +kernel) (by decide +kernel)
theorem lkM_L_171 : Cond.methodLink RL 171 yX4_taken ∈ kALL := kw_in 817 (by decide +kernel) (by decide +kernel)
theorem lkI_yX4_taken : Cond.instanceMethod yX4_taken ∈ kALL := kw_in 818 (by decide +kernel) (by decide +kernel)
theorem lkS_yX4_taken : Cond.selects RX4 yX4_taken yX4_taken ∈ kALL := kw_in 819 (by decide +kernel) (by decide +kernel)
theorem lkC_yX4_taken : Cond.code yX4_taken cX4_taken 1 (some .int) ∈ kALL := kw_in 820 (by decide +kernel) (by decide +kernel)
theorem lkM_L_175 : Cond.methodLink RL 175 yX4_backlog ∈ kALL := kw_in 821 (by decide +kernel) (by decide +kernel)
theorem lkI_yX4_backlog : Cond.instanceMethod yX4_backlog ∈ kALL := kw_in 822 (by decide +kernel) (by decide +kernel)
theorem lkS_yX4_backlog : Cond.selects RX4 yX4_backlog yX4_backlog ∈ kALL := kw_in 823 (by decide +kernel) (by decide +kernel)
theorem lkC_yX4_backlog : Cond.code yX4_backlog cX4_backlog 1 (some .int) ∈ kALL := kw_in 824 (by decide +kernel) (by decide +kernel)
theorem lkM_L_179 : Cond.methodLink RL 179 yX4_shortSteps ∈ kALL := kw_in 825 (by decide +kernel) (by decide +kernel)
theorem lkI_yX4_shortSteps : Cond.instanceMethod yX4_shortSteps ∈ kALL := kw_in 826 (by decide +kernel) (by decide +kernel)
theorem lkS_yX4_shortSteps : Cond.selects RX4 yX4_shortSteps yX4_shortSteps ∈ kALL := kw_in 827 (by decide +kernel) (by decide +kernel)
theorem lkC_yX4_shortSteps : Cond.code yX4_shortSteps cX4_shortSteps 1 (some .int) ∈ kALL := kw_in 828 (by decide +kernel) (by decide +kernel)
theorem lkM_L_182 : Cond.methodLink RL 182 yX4_starved ∈ kALL := kw_in 829 (by decide +kernel) (by decide +kernel)
theorem lkI_yX4_starved : Cond.instanceMethod yX4_starved ∈ kALL := kw_in 830 (by decide +kernel) (by decide +kernel)
theorem lkS_yX4_starved : Cond.selects RX4 yX4_starved yX4_starved ∈ kALL := kw_in 831 (by decide +kernel) (by decide +kernel)
theorem lkC_yX4_starved : Cond.code yX4_starved cX4_starved 2 (some .int) ∈ kALL := kw_in 832 (by decide +kernel) (by decide +kernel)
theorem lkM_L_186 : Cond.methodLink RL 186 yX4_stock ∈ kALL := kw_in 833 (by decide +kernel) (by decide +kernel)
theorem lkI_yX4_stock : Cond.instanceMethod yX4_stock ∈ kALL := kw_in 834 (by decide +kernel) (by decide +kernel)
theorem lkS_yX4_stock : Cond.selects RX4 yX4_stock yX4_stock ∈ kALL := kw_in 835 (by decide +kernel) (by decide +kernel)
theorem lkC_yX4_stock : Cond.code yX4_stock cX4_stock 4 (some .int) ∈ kALL := kw_in 836 (by decide +kernel) (by decide +kernel)
theorem lkM_L_190 : Cond.methodLink RL 190 yX4_stockByFlow ∈ kALL := kw_in 837 (by decide +kernel) (by decide +kernel)
theorem lkI_yX4_stockByFlow : Cond.instanceMethod yX4_stockByFlow ∈ kALL := kw_in 838 (by decide +kernel) (by decide +kernel)
theorem lkS_yX4_stockByFlow : Cond.selects RX4 yX4_stockByFlow yX4_stockByFlow ∈ kALL := kw_in 839 (by decide +kernel) (by decide +kernel)
theorem lkC_yX4_stockByFlow : Cond.code yX4_stockByFlow cX4_stockByFlow 1 (some .int) ∈ kALL := kw_in 840 (by decide +kernel) (by decide +kernel)
theorem lkA_long : Cond.arrayClass .long ∈ kALL := kw_in 841 (by decide +kernel) (by decide +kernel)
theorem inlX3 : ∀ w ∈ wsX30, w ∈ kALL := by decide +kernel
theorem inlX4 : ∀ w ∈ wsX40, w ∈ kALL := by decide +kernel
theorem inlX1 : ∀ w ∈ wsX10, w ∈ kALL := by decide +kernel
theorem inlX2 : ∀ w ∈ wsX20, w ∈ kALL := by decide +kernel
theorem inlX0 : ∀ w ∈ wsX00, w ∈ kALL := by decide +kernel
end
section
/-! base: the judgement kW (a world X ++ pl), contracts kM and kX, one row an instruction -/
def kn_F : List (String × Nat × String × String × String) := [("KanbanLoop$Stage", 97, "KanbanLoop$Store", "count", "I"), ("KanbanLoop", 142, "KanbanLoop$Road", "count", "I"), ("KanbanLoop", 156, "KanbanLoop$Stage", "ahead", "LKanbanLoop$Stage;"), ("KanbanLoop", 52, "KanbanLoop$Stage", "number", "I"), ("KanbanLoop", 107, "KanbanLoop$Stage", "size", "I"), ("KanbanLoop", 100, "KanbanLoop$Stage", "time", "I"), ("KanbanLoop", 119, "KanbanLoop$Stage", "market", "LKanbanLoop$Store;"), ("KanbanLoop", 135, "KanbanLoop$Stage", "inbox", "LKanbanLoop$Store;"), ("KanbanLoop", 138, "KanbanLoop$Stage", "road", "LKanbanLoop$Road;"), ("KanbanLoop", 65, "KanbanLoop$Stage", "mark", "I"), ("KanbanLoop", 71, "KanbanLoop$Stage", "cards", "I"), ("KanbanLoop", 76, "KanbanLoop$Stage", "board", "I"), ("KanbanLoop", 129, "KanbanLoop$Stage", "left", "I"), ("KanbanLoop", 81, "KanbanLoop$Stage", "run", "I"), ("KanbanLoop", 68, "KanbanLoop$Stage", "stopped", "Z"), ("KanbanLoop", 90, "KanbanLoop$Stage", "conveyance", "I"), ("KanbanLoop", 95, "KanbanLoop$Stage", "waiting", "I"), ("KanbanLoop", 59, "KanbanLoop$Stage", "waySteps", "I"), ("KanbanLoop", 150, "KanbanLoop$Stage", "starvedSteps", "I"), ("KanbanLoop", 159, "KanbanLoop$Stage", "unitsEntered", "I")]
def kn_M : List (String × Nat × MethodName) := [("KanbanLoop", 153, ⟨"KanbanLoop$Stage", "unitsHeld", "()I"⟩), ("KanbanLoop$Stage", 63, ⟨"KanbanLoop$Store", "allUnits", "()I"⟩), ("KanbanLoop$Stage", 67, ⟨"KanbanLoop$Road", "allUnits", "()I"⟩), ("KanbanLoop", 49, ⟨"KanbanLoop$Stage", "<init>", "(LKanbanLoop$Stage;IIIIZ)V"⟩), ("KanbanLoop$Stage", 34, ⟨"KanbanLoop$Store", "<init>", "(II)V"⟩), ("KanbanLoop$Stage", 46, ⟨"KanbanLoop$Road", "<init>", "()V"⟩), ("KanbanLoop", 132, ⟨"KanbanLoop$Store", "allUnits", "()I"⟩), ("KanbanLoop", 184, ⟨"KanbanLoop$Store", "takeOut", "(IZ)I"⟩), ("KanbanLoop", 177, ⟨"KanbanLoop$Stage", "work", "(Z)V"⟩), ("KanbanLoop$Stage", 85, ⟨"KanbanLoop$Store", "add", "(I)V"⟩), ("KanbanLoop$Stage", 89, ⟨"KanbanLoop$Store", "takeOut", "(IZ)I"⟩), ("KanbanLoop", 181, ⟨"KanbanLoop$Stage", "convey", "()V"⟩), ("KanbanLoop$Stage", 93, ⟨"KanbanLoop$Road", "bringTo", "(LKanbanLoop$Store;)V"⟩), ("KanbanLoop$Road", 22, ⟨"KanbanLoop$Store", "add", "(I)V"⟩), ("KanbanLoop$Stage", 110, ⟨"KanbanLoop$Store", "headUnits", "()I"⟩), ("KanbanLoop$Stage", 113, ⟨"KanbanLoop$Store", "headIsCarded", "()Z"⟩), ("KanbanLoop$Stage", 117, ⟨"KanbanLoop$Store", "removeHead", "()V"⟩), ("KanbanLoop$Stage", 123, ⟨"KanbanLoop$Road", "add", "(II)V"⟩), ("KanbanLoop", 123, ⟨"KanbanLoop$Store", "cardsOn", "()I"⟩), ("KanbanLoop", 147, ⟨"KanbanLoop$Store", "headUnits", "()I"⟩)]
def kn_S : List (Nat × String) := [(164, "an argument is out of its range"), (42, "the line has all its stages"), (169, "there is no such stage"), (172, "the first stage has no inbox"), (74, "the stage has all its production cards"), (79, "no production card can be retired"), (93, "the stage has all its conveyance cards"), (98, "no conveyance card can be retired"), (113, "the line has no stages")]
theorem kn_F_in : ∀ q ∈ kn_F, Cond.fieldLinkNest q.1 q.2.1 q.2.2.1 q.2.2.2.1 q.2.2.2.2 "KanbanLoop" ∈ tables_1 := by decide +kernel
theorem kn_M_in : ∀ q ∈ kn_M, Cond.methodLinkNest q.1 q.2.1 q.2.2 "KanbanLoop" ∈ tables_1 := by decide +kernel
theorem kn_S_in : ∀ q ∈ kn_S, Cond.stringRef "KanbanLoop" q.1 q.2 ∈ tables_1 := by decide +kernel
abbrev kE : Type := va_G × (Nat → ClassId) × (Nat → Nat)
abbrev kTy (K : kE) : List (ClassId × FieldType) := [(K.2.1 0, .int), (K.2.1 1, .boolean), (K.2.1 2, .long)]
abbrev kO (a ci : Nat) (fs : List Value) : Nat × va_E := (a, .inr (ci, fs))
abbrev kI (K : kE) (a n : Nat) (f : Nat → Int32) : Nat × va_E := (a, .inl (K.2.1 0, n, .inl f))
abbrev kZ (K : kE) (a n : Nat) (f : Nat → Int32) : Nat × va_E := (a, .inl (K.2.1 1, n, .inl f))
abbrev kJ (K : kE) (a n : Nat) (f : Nat → Int64) : Nat × va_E := (a, .inl (K.2.1 2, n, .inr (.inl f)))
def kn_D : List MethodName := [Bundle.initS "java/lang/RuntimeException", Bundle.initS "java/lang/Exception", Bundle.initS Bundle.tN]
def kn_C : List String := ["java/lang/IllegalArgumentException", "java/lang/IllegalStateException", "java/lang/IndexOutOfBoundsException"]
def kn_X : List (String × String) := [("java/lang/IllegalStateException", "java/lang/IllegalArgumentException"), ("java/lang/IllegalArgumentException", "java/lang/IndexOutOfBoundsException"), ("java/lang/IllegalStateException", "java/lang/IndexOutOfBoundsException")]
/-- what the tables and the statics say, at U: nothing of it is in A -/
def kG (K : kE) (A : Nat → Prop) (U : State) : Prop := va_K K.1 vwCl (kTy K) U ∧ (∀ q ∈ kn_F, va_Nw (.fieldLinkNest q.1 q.2.1 q.2.2.1 q.2.2.2.1 q.2.2.2.2 "KanbanLoop") U) ∧ (∀ q ∈ kn_M, va_Nw (.methodLinkNest q.1 q.2.1 q.2.2 "KanbanLoop") U) ∧ (∀ q ∈ kn_S, vk_R RX3 q.1 q.2 (K.2.2 q.1) U) ∧ vx_Zq Bundle.tN "UNASSIGNED_STACK" Bundle.steD A U U.heap ∧ vx_Zq Bundle.tN "SUPPRESSED_SENTINEL" Bundle.listD A U U.heap ∧ (∀ y ∈ kn_D, va_Nw (.declares y) U) ∧ (∀ q ∈ kn_C, va_Nw (.castable q q) U) ∧ ∀ q ∈ kn_X, va_Nc q.1 q.2 U
theorem kG_same {K : kE} {A : Nat → Prop} {u U : State} (hv : u.vm = U.vm) (hh : u.heap = U.heap) (h : kG K A u) : kG K A U := by
  have ha : u.vm.Alike U.vm := by rw [hv]; exact Vm.Alike.refl _
  obtain ⟨h1, h2, h3, h4, h5, h6, h7, h8, h9⟩ := h
  refine ⟨va_K.moved ha h1, fun q hq => va_Nw.same rfl hv (h2 q hq), fun q hq => va_Nw.same rfl hv (h3 q hq), fun q hq => vk_R.same hv.symm (h4 q hq), ?_, ?_, fun q hq => va_Nw.same rfl hv (h7 q hq), fun q hq => va_Nw.same rfl hv (h8 q hq), fun q hq => va_Nc.moved ha (h9 q hq)⟩
  · rw [← hh]; exact vx_Zq.moved ha h5
  · rw [← hh]; exact vx_Zq.moved ha h6
theorem kNw_warmD {y : MethodName} {s U : State} (hW : s.WarmedH U.vm) (hZ : va_Nw (.declares y) s) : va_Nw (.declares y) U := va_tabs rfl (rfl : (s.setVm U.vm).vm = U.vm) (by rw [Cond.declares_setVm hW.alike]; exact hZ)
theorem kG_call {K : kE} {A B : Nat → Prop} {s U : State} {H : Heap} {locs : List Loc} (h : kG K A s) (hS : va_S A s.heap H locs) (hU : U.heap = H) (hW : s.WarmedH U.vm) (hB : ∀ q, B q → A q) : kG K B U := by
  obtain ⟨h1, h2, h3, h4, h5, h6, h7, h8, h9⟩ := h
  refine ⟨va_K.moved hW.alike h1, fun q hq => va_Nw.warmF hW (h2 q hq), fun q hq => va_Nw.warmM hW (h3 q hq), fun q hq => vk_R.warm hW (h4 q hq), ?_, ?_, fun q hq => kNw_warmD hW (h7 q hq), fun q hq => va_Nw.warmC hW (h8 q hq), fun q hq => va_Nc.moved hW.alike (h9 q hq)⟩
  · rw [hU]; exact vx_Zq.moved hW.alike ((vx_Zq.kept h5 hS.2.1).narrow hB)
  · rw [hU]; exact vx_Zq.moved hW.alike ((vx_Zq.kept h6 hS.2.1).narrow hB)
def kC (p : Program) (s : State) (m : MethodId) (args : Array Value) (meth : Method) (c : Code) (K : kE) (A : Nat → Prop) (nL : Nat) (cc : ByteArray) (own : String) : Prop :=
  p.tables.exec = Jvm.exec ∧ c.code = cc ∧ c.maxLocals = nL ∧ s.vm.findClass own = some m.cls ∧ (∀ w ∈ kALL, w.before args s = true) ∧ kG K A s ∧ (∀ q : Nat, s.heap.size ≤ q → A q) ∧ meth.locks = false
def kl_get : List (Nat × Value) → Nat → Option Value
  | [], _ => none
  | (j, v) :: t, i => match Nat.beq j i with
    | true => some v
    | false => kl_get t i
def kl_del : List (Nat × Value) → Nat → List (Nat × Value)
  | [], _ => []
  | (j, v) :: t, i => match Nat.beq j i with
    | true => kl_del t i
    | false => (j, v) :: kl_del t i
def kl_set : List (Nat × Value) → Nat → Value → List (Nat × Value)
  | [], i, v => [(i, v)]
  | (j, u) :: t, i, v => match Nat.beq j i with
    | true => (i, v) :: kl_del t i
    | false => (j, u) :: kl_set t i v
def kl_v1 (v : Value) : Bool := match v with
  | .int _ => true
  | .ref _ => true
  | .null => true
  | _ => false
def kl_1 : List (Nat × Value) → Bool
  | [] => true
  | q :: t => kl_v1 q.2 && kl_1 t
theorem kl_mem {lv : List (Nat × Value)} {i : Nat} {v : Value} (h : kl_get lv i = some v) : (i, v) ∈ lv := by
  induction lv with
  | nil => cases h
  | cons q t ih =>
    obtain ⟨j, u⟩ := q
    unfold kl_get at h
    split at h
    next hb =>
      cases h
      rw [Nat.eq_of_beq_eq_true hb]
      exact List.mem_cons_self
    next => exact List.mem_cons_of_mem _ (ih h)
theorem kl_at {ls : Array Slot} {nL : Nat} {lv : List (Nat × Value)} {i : Nat} {v : Value} (hl : lv_has ls nL lv) (h : kl_get lv i = some v) : ls[i]? = some (.val v) := hl.2.2 (i, v) (kl_mem h)
theorem kl_ix {lv : List (Nat × Value)} {i : Nat} {v : Value} (h : kl_get lv i = some v) : ∃ j : Nat, lv[j]? = some (i, v) := List.getElem?_of_mem (kl_mem h)
theorem kl_del_mem {lv : List (Nat × Value)} {i : Nat} {q : Nat × Value} (h : q ∈ kl_del lv i) : q ∈ lv ∧ q.1 ≠ i := by
  induction lv with
  | nil => cases h
  | cons x t ih =>
    obtain ⟨j, u⟩ := x
    unfold kl_del at h
    split at h
    next => exact ⟨List.mem_cons_of_mem _ (ih h).1, (ih h).2⟩
    next hb =>
      rcases List.mem_cons.mp h with e | e
      · subst e
        exact ⟨List.mem_cons_self, fun z => by have z' : j = i := z; subst z'; rw [Nat.beq_refl] at hb; cases hb⟩
      · exact ⟨List.mem_cons_of_mem _ (ih e).1, (ih e).2⟩
theorem kl_set_mem {lv : List (Nat × Value)} {i : Nat} {v : Value} {q : Nat × Value} (h : q ∈ kl_set lv i v) : q = (i, v) ∨ (q ∈ lv ∧ q.1 ≠ i) := by
  induction lv with
  | nil =>
    unfold kl_set at h
    exact Or.inl (List.mem_singleton.mp h)
  | cons x t ih =>
    obtain ⟨j, u⟩ := x
    unfold kl_set at h
    split at h
    next =>
      rcases List.mem_cons.mp h with e | e
      · exact Or.inl e
      · exact Or.inr ⟨List.mem_cons_of_mem _ (kl_del_mem e).1, (kl_del_mem e).2⟩
    next hb =>
      rcases List.mem_cons.mp h with e | e
      · subst e
        exact Or.inr ⟨List.mem_cons_self, fun z => by have z' : j = i := z; subst z'; rw [Nat.beq_refl] at hb; cases hb⟩
      · rcases ih e with e | e
        · exact Or.inl e
        · exact Or.inr ⟨List.mem_cons_of_mem _ e.1, e.2⟩
theorem kl_1_mem {lv : List (Nat × Value)} (h : kl_1 lv = true) {q : Nat × Value} (hq : q ∈ lv) : kl_v1 q.2 = true := by
  induction lv with
  | nil => cases hq
  | cons x t ih =>
    unfold kl_1 at h
    rw [Bool.and_eq_true] at h
    rcases List.mem_cons.mp hq with e | e
    · rw [e]; exact h.1
    · exact ih h.2 e
theorem kl_put {ls : Array Slot} {nL : Nat} {lv : List (Nat × Value)} {i : Nat} {v : Value} (h1 : kl_1 lv = true) (h : lv_has ls nL ((i, v) :: lv.filter (fun q => !(q.1 == i) && !(q.1 + 1 == i && q.2.category == 2)))) : lv_has ls nL (kl_set lv i v) := by
  refine ⟨h.1, h.2.1, fun q hq => h.2.2 q ?_⟩
  rcases kl_set_mem hq with e | ⟨e, hne⟩
  · rw [e]; exact List.mem_cons_self
  · refine List.mem_cons_of_mem _ (List.mem_filter.mpr ⟨e, ?_⟩)
    have h2 := kl_1_mem h1 e
    obtain ⟨j, u⟩ := q
    have hc : u.category = 1 := by
      cases u <;> first | rfl | (exact absurd h2 (by simp [kl_v1]))
    simp [hc, hne]
def kW (p : Program) (l : Launch) (e : Env) (R : Room) (s : State) (m : MethodId) (args : Array Value) (below : List Frame) (meth : Method) (c : Code) (K : kE) (A : Nat → Prop) (nL : Nat) (Q : State → Prop) (k n : Nat) (pl X : va_W) (lv : List (Nat × Value)) (pc : Nat) (st : List Value) : Prop :=
  ∀ (H : Heap) (locs : List Loc) (ls : Array Slot), va_P K.1 vwCl (X ++ pl) H → va_D A (X ++ pl) → va_S A s.heap H locs → lv_has ls nL lv → W p l e R s m args below meth c H locs k n Q (F0 m pc ls st)
theorem kz_eq {x : Nat} (hx : x < 2 ^ 31) : nI x = 0 ↔ x = 0 := by
  have h := nI_eq hx (show 0 < 2 ^ 31 by decide)
  rw [nI_0] at h
  exact h
theorem kz_gt {x : Nat} (hx : x < 2 ^ 31) : 0 < nI x ↔ 0 < x := by
  have h := nI_ltI (show 0 < 2 ^ 31 by decide) hx
  rw [nI_0] at h
  exact h
theorem kz_le {x : Nat} (hx : x < 2 ^ 31) : nI x ≤ 0 ↔ x = 0 := by
  have h := nI_leI hx (show 0 < 2 ^ 31 by decide)
  rw [nI_0] at h
  exact h.trans Nat.le_zero
theorem kinc (x d : Nat) {z : Int32} (h : z = nI d) : nI x + z = nI (x + d) := by rw [h, nI_add]
theorem kdec (x d : Nat) (hle : d ≤ x) {z : Int32} (h : z = -(nI d)) : nI x + z = nI (x - d) := by rw [h, ← pk_sub hle, Int32.sub_eq_add_neg]
theorem kAll3 {a b c : Cond} (h1 : a ∈ kALL) (h2 : b ∈ kALL) (h3 : c ∈ kALL) : ∀ w ∈ [a, b, c], w ∈ kALL := by
  intro w hw
  simp only [List.mem_cons, List.not_mem_nil, or_false] at hw
  rcases hw with rfl | rfl | rfl <;> assumption
theorem kAll4 {a b c d : Cond} (h1 : a ∈ kALL) (h2 : b ∈ kALL) (h3 : c ∈ kALL) (h4 : d ∈ kALL) : ∀ w ∈ [a, b, c, d], w ∈ kALL := by
  intro w hw
  simp only [List.mem_cons, List.not_mem_nil, or_false] at hw
  rcases hw with rfl | rfl | rfl | rfl <;> assumption
theorem kAll5 {a b c d e : Cond} (h1 : a ∈ kALL) (h2 : b ∈ kALL) (h3 : c ∈ kALL) (h4 : d ∈ kALL) (h5 : e ∈ kALL) : ∀ w ∈ [a, b, c, d, e], w ∈ kALL := by
  intro w hw
  simp only [List.mem_cons, List.not_mem_nil, or_false] at hw
  rcases hw with rfl | rfl | rfl | rfl | rfl <;> assumption
def kB (r : Bool) : Int32 := if r then 1 else 0
section KROWS
variable {p : Program} {l : Launch} {e : Env} {R : Room} {s : State} {m : MethodId} {args : Array Value} {below : List Frame} {meth : Method} {c : Code} {K : kE} {A : Nat → Prop} {nL : Nat} {Q : State → Prop} {k n : Nat} {pl X : va_W} {lv : List (Nat × Value)} {pc : Nat} {st : List Value} {cc : ByteArray} {own : String}

theorem k_iconst (hC : kC p s m args meth c K A nL cc own) {a : Int} (v : Int32) (hd : decode cc pc = .ok (.iconst a, 1)) (hv : Int32.ofInt a = v) (kk : kW p l e R s m args below meth c K A nL Q k n pl X lv (pc + 1) (.int v :: st)) : kW p l e R s m args below meth c K A nL Q k n pl X lv (pc) (st) :=
  fun H locs ls hP hD hS hl => lv_iconst hC.1 hC.2.1 hd hv (kk H locs ls hP hD hS hl)
theorem k_bipush (hC : kC p s m args meth c K A nL cc own) {a : Int} (v : Int32) (hd : decode cc pc = .ok (.bipush a, 2)) (hv : (Int8.ofInt a).toInt32 = v) (kk : kW p l e R s m args below meth c K A nL Q k n pl X lv (pc + 2) (.int v :: st)) : kW p l e R s m args below meth c K A nL Q k n pl X lv (pc) (st) :=
  fun H locs ls hP hD hS hl => lv_bipush hC.1 hC.2.1 hd hv (kk H locs ls hP hD hS hl)
theorem k_lconst (hC : kC p s m args meth c K A nL cc own) {a : Fin 2} (v : Int64) (hd : decode cc pc = .ok (.lconst a, 1)) (hv : Int64.ofNat (a : Nat) = v) (kk : kW p l e R s m args below meth c K A nL Q k n pl X lv (pc + 1) (.long v :: st)) : kW p l e R s m args below meth c K A nL Q k n pl X lv (pc) (st) :=
  fun H locs ls hP hD hS hl => lv_lconst hC.1 hC.2.1 hd hv (kk H locs ls hP hD hS hl)
theorem k_null (hC : kC p s m args meth c K A nL cc own)  (hd : decode cc pc = .ok (.aconst_null, 1))  (kk : kW p l e R s m args below meth c K A nL Q k n pl X lv (pc + 1) (.null :: st)) : kW p l e R s m args below meth c K A nL Q k n pl X lv (pc) (st) :=
  fun H locs ls hP hD hS hl => lv_null hC.1 hC.2.1 hd (kk H locs ls hP hD hS hl)
theorem k_iload_n (hC : kC p s m args meth c K A nL cc own) {j : Fin 4} (i : Nat) {x : Int32} (hd : decode cc pc = .ok (.iload_n j, 1)) (hi : (j : Nat) = i) (hv : kl_get lv i = some (.int x)) (kk : kW p l e R s m args below meth c K A nL Q k n pl X lv (pc + 1) (.int x :: st)) : kW p l e R s m args below meth c K A nL Q k n pl X lv (pc) (st) :=
  fun H locs ls hP hD hS hl => lv_iload_n hC.1 hC.2.1 hd hi (kl_at hl hv) (kk H locs ls hP hD hS hl)
theorem k_iload (hC : kC p s m args meth c K A nL cc own) {i : Nat} {x : Int32} (hd : decode cc pc = .ok (.iload i, 2)) (hv : kl_get lv i = some (.int x)) (kk : kW p l e R s m args below meth c K A nL Q k n pl X lv (pc + 2) (.int x :: st)) : kW p l e R s m args below meth c K A nL Q k n pl X lv (pc) (st) :=
  fun H locs ls hP hD hS hl => lv_iload hC.1 hC.2.1 hd (kl_at hl hv) (kk H locs ls hP hD hS hl)
theorem k_aload_n (hC : kC p s m args meth c K A nL cc own) {j : Fin 4} (i : Nat) {x : Nat} (hd : decode cc pc = .ok (.aload_n j, 1)) (hi : (j : Nat) = i) (hv : kl_get lv i = some (.ref x)) (kk : kW p l e R s m args below meth c K A nL Q k n pl X lv (pc + 1) (.ref x :: st)) : kW p l e R s m args below meth c K A nL Q k n pl X lv (pc) (st) :=
  fun H locs ls hP hD hS hl => lv_aload_n hC.1 hC.2.1 hd hi (kl_at hl hv) (kk H locs ls hP hD hS hl)
theorem k_aload (hC : kC p s m args meth c K A nL cc own) {i : Nat} {x : Nat} (hd : decode cc pc = .ok (.aload i, 2)) (hv : kl_get lv i = some (.ref x)) (kk : kW p l e R s m args below meth c K A nL Q k n pl X lv (pc + 2) (.ref x :: st)) : kW p l e R s m args below meth c K A nL Q k n pl X lv (pc) (st) :=
  fun H locs ls hP hD hS hl => lv_aload hC.1 hC.2.1 hd (kl_at hl hv) (kk H locs ls hP hD hS hl)
theorem k_aload_nN (hC : kC p s m args meth c K A nL cc own) {j : Fin 4} (i : Nat) (hd : decode cc pc = .ok (.aload_n j, 1)) (hi : (j : Nat) = i) (hv : kl_get lv i = some .null) (kk : kW p l e R s m args below meth c K A nL Q k n pl X lv (pc + 1) (.null :: st)) : kW p l e R s m args below meth c K A nL Q k n pl X lv (pc) (st) :=
  fun H locs ls hP hD hS hl => lv_aload_nN hC.1 hC.2.1 hd hi (kl_at hl hv) (kk H locs ls hP hD hS hl)
theorem k_aloadN (hC : kC p s m args meth c K A nL cc own) {i : Nat} (hd : decode cc pc = .ok (.aload i, 2)) (hv : kl_get lv i = some .null) (kk : kW p l e R s m args below meth c K A nL Q k n pl X lv (pc + 2) (.null :: st)) : kW p l e R s m args below meth c K A nL Q k n pl X lv (pc) (st) :=
  fun H locs ls hP hD hS hl => lv_aloadN hC.1 hC.2.1 hd (kl_at hl hv) (kk H locs ls hP hD hS hl)
theorem k_istore_n (hC : kC p s m args meth c K A nL cc own) {j : Fin 4} (i : Nat) {x : Int32} (hd : decode cc pc = .ok (.istore_n j, 1)) (hi9 : (j : Nat) = i) (hi : i < nL) (h1 : kl_1 lv = true) (lv2 : List (Nat × Value)) (h2 : kl_set lv i (.int x) = lv2) (kk : kW p l e R s m args below meth c K A nL Q k n pl X lv2 (pc + 1) (st)) : kW p l e R s m args below meth c K A nL Q k n pl X lv (pc) (.int x :: st) :=
  fun H locs ls hP hD hS hl => lv_istore_n hC.1 hC.2.1 hd hi9 hl hi rfl (fun ls2 hl2 => kk H locs ls2 hP hD hS (h2 ▸ kl_put h1 hl2))
theorem k_istore (hC : kC p s m args meth c K A nL cc own) {i : Nat} {x : Int32} (hd : decode cc pc = .ok (.istore i, 2)) (hi : i < nL) (h1 : kl_1 lv = true) (lv2 : List (Nat × Value)) (h2 : kl_set lv i (.int x) = lv2) (kk : kW p l e R s m args below meth c K A nL Q k n pl X lv2 (pc + 2) (st)) : kW p l e R s m args below meth c K A nL Q k n pl X lv (pc) (.int x :: st) :=
  fun H locs ls hP hD hS hl => lv_istore hC.1 hC.2.1 hd hl hi rfl (fun ls2 hl2 => kk H locs ls2 hP hD hS (h2 ▸ kl_put h1 hl2))
theorem k_astore_n (hC : kC p s m args meth c K A nL cc own) {j : Fin 4} (i : Nat) {x : Nat} (hd : decode cc pc = .ok (.astore_n j, 1)) (hi9 : (j : Nat) = i) (hi : i < nL) (h1 : kl_1 lv = true) (lv2 : List (Nat × Value)) (h2 : kl_set lv i (.ref x) = lv2) (kk : kW p l e R s m args below meth c K A nL Q k n pl X lv2 (pc + 1) (st)) : kW p l e R s m args below meth c K A nL Q k n pl X lv (pc) (.ref x :: st) :=
  fun H locs ls hP hD hS hl => lv_astore_n hC.1 hC.2.1 hd hi9 hl hi rfl (fun ls2 hl2 => kk H locs ls2 hP hD hS (h2 ▸ kl_put h1 hl2))
theorem k_astore (hC : kC p s m args meth c K A nL cc own) {i : Nat} {x : Nat} (hd : decode cc pc = .ok (.astore i, 2)) (hi : i < nL) (h1 : kl_1 lv = true) (lv2 : List (Nat × Value)) (h2 : kl_set lv i (.ref x) = lv2) (kk : kW p l e R s m args below meth c K A nL Q k n pl X lv2 (pc + 2) (st)) : kW p l e R s m args below meth c K A nL Q k n pl X lv (pc) (.ref x :: st) :=
  fun H locs ls hP hD hS hl => lv_astore hC.1 hC.2.1 hd hl hi rfl (fun ls2 hl2 => kk H locs ls2 hP hD hS (h2 ▸ kl_put h1 hl2))
theorem k_astore_nN (hC : kC p s m args meth c K A nL cc own) {j : Fin 4} (i : Nat) (hd : decode cc pc = .ok (.astore_n j, 1)) (hi9 : (j : Nat) = i) (hi : i < nL) (h1 : kl_1 lv = true) (lv2 : List (Nat × Value)) (h2 : kl_set lv i .null = lv2) (kk : kW p l e R s m args below meth c K A nL Q k n pl X lv2 (pc + 1) (st)) : kW p l e R s m args below meth c K A nL Q k n pl X lv (pc) (.null :: st) :=
  fun H locs ls hP hD hS hl => lv_astore_nN hC.1 hC.2.1 hd hi9 hl hi rfl (fun ls2 hl2 => kk H locs ls2 hP hD hS (h2 ▸ kl_put h1 hl2))
theorem k_astoreN (hC : kC p s m args meth c K A nL cc own) {i : Nat} (hd : decode cc pc = .ok (.astore i, 2)) (hi : i < nL) (h1 : kl_1 lv = true) (lv2 : List (Nat × Value)) (h2 : kl_set lv i .null = lv2) (kk : kW p l e R s m args below meth c K A nL Q k n pl X lv2 (pc + 2) (st)) : kW p l e R s m args below meth c K A nL Q k n pl X lv (pc) (.null :: st) :=
  fun H locs ls hP hD hS hl => lv_astoreN hC.1 hC.2.1 hd hl hi rfl (fun ls2 hl2 => kk H locs ls2 hP hD hS (h2 ▸ kl_put h1 hl2))
theorem k_iinc (hC : kC p s m args meth c K A nL cc own) {i : Nat} {a : Int} {x : Int32} (hd : decode cc pc = .ok (.iinc i a, 3)) (hi : i < nL) (h1 : kl_1 lv = true) (hv : kl_get lv i = some (.int x)) (v : Int32) (hx : x + Int32.ofInt a = v) (lv2 : List (Nat × Value)) (h2 : kl_set lv i (.int v) = lv2) (kk : kW p l e R s m args below meth c K A nL Q k n pl X lv2 (pc + 3) (st)) : kW p l e R s m args below meth c K A nL Q k n pl X lv (pc) (st) := by
  intro H locs ls hP hD hS hl
  obtain ⟨j, hj⟩ := kl_ix hv
  exact lv_iinc hC.1 hC.2.1 hd hl hj hx hi rfl (fun ls2 hl2 => kk H locs ls2 hP hD hS (h2 ▸ kl_put h1 hl2))
theorem k_iadd (hC : kC p s m args meth c K A nL cc own) {x y : Int32} (hd : decode cc pc = .ok (.iadd, 1))  (kk : kW p l e R s m args below meth c K A nL Q k n pl X lv (pc + 1) (.int (x + y) :: st)) : kW p l e R s m args below meth c K A nL Q k n pl X lv (pc) (.int y :: .int x :: st) :=
  fun H locs ls hP hD hS hl => lv_iadd hC.1 hC.2.1 hd (kk H locs ls hP hD hS hl)
theorem k_isub (hC : kC p s m args meth c K A nL cc own) {x y : Int32} (hd : decode cc pc = .ok (.isub, 1))  (kk : kW p l e R s m args below meth c K A nL Q k n pl X lv (pc + 1) (.int (x - y) :: st)) : kW p l e R s m args below meth c K A nL Q k n pl X lv (pc) (.int y :: .int x :: st) :=
  fun H locs ls hP hD hS hl => lv_isub hC.1 hC.2.1 hd (kk H locs ls hP hD hS hl)
theorem k_imul (hC : kC p s m args meth c K A nL cc own) {x y : Int32} (hd : decode cc pc = .ok (.imul, 1))  (kk : kW p l e R s m args below meth c K A nL Q k n pl X lv (pc + 1) (.int (x * y) :: st)) : kW p l e R s m args below meth c K A nL Q k n pl X lv (pc) (.int y :: .int x :: st) :=
  fun H locs ls hP hD hS hl => lv_imul hC.1 hC.2.1 hd (kk H locs ls hP hD hS hl)
theorem k_iand (hC : kC p s m args meth c K A nL cc own) {x y : Int32} (hd : decode cc pc = .ok (.iand, 1))  (kk : kW p l e R s m args below meth c K A nL Q k n pl X lv (pc + 1) (.int (x &&& y) :: st)) : kW p l e R s m args below meth c K A nL Q k n pl X lv (pc) (.int y :: .int x :: st) :=
  fun H locs ls hP hD hS hl => lv_iand hC.1 hC.2.1 hd (kk H locs ls hP hD hS hl)
theorem k_iaddN (hC : kC p s m args meth c K A nL cc own) {x y : Nat} (hd : decode cc pc = .ok (.iadd, 1))  (kk : kW p l e R s m args below meth c K A nL Q k n pl X lv (pc + 1) (.int (nI (x + y)) :: st)) : kW p l e R s m args below meth c K A nL Q k n pl X lv (pc) (.int (nI y) :: .int (nI x) :: st) :=
  fun H locs ls hP hD hS hl => lv_iadd hC.1 hC.2.1 hd (by rw [nI_add]; exact (kk H locs ls hP hD hS hl))
theorem k_isubN (hC : kC p s m args meth c K A nL cc own) {x y : Nat} (hd : decode cc pc = .ok (.isub, 1)) (hle : y ≤ x) (kk : kW p l e R s m args below meth c K A nL Q k n pl X lv (pc + 1) (.int (nI (x - y)) :: st)) : kW p l e R s m args below meth c K A nL Q k n pl X lv (pc) (.int (nI y) :: .int (nI x) :: st) :=
  fun H locs ls hP hD hS hl => lv_isub hC.1 hC.2.1 hd (by rw [pk_sub hle]; exact (kk H locs ls hP hD hS hl))
theorem k_imulN (hC : kC p s m args meth c K A nL cc own) {x y : Nat} (hd : decode cc pc = .ok (.imul, 1))  (kk : kW p l e R s m args below meth c K A nL Q k n pl X lv (pc + 1) (.int (nI (x * y)) :: st)) : kW p l e R s m args below meth c K A nL Q k n pl X lv (pc) (.int (nI y) :: .int (nI x) :: st) :=
  fun H locs ls hP hD hS hl => lv_imul hC.1 hC.2.1 hd (by rw [pk_mul]; exact (kk H locs ls hP hD hS hl))
theorem k_idiv (hC : kC p s m args meth c K A nL cc own) {x y : Int32} (hd : decode cc pc = .ok (.idiv, 1)) (hne : ¬ y = 0) (kk : kW p l e R s m args below meth c K A nL Q k n pl X lv (pc + 1) (.int (x / y) :: st)) : kW p l e R s m args below meth c K A nL Q k n pl X lv (pc) (.int y :: .int x :: st) :=
  fun H locs ls hP hD hS hl => lv_idiv hC.1 hC.2.1 hd hne (kk H locs ls hP hD hS hl)
theorem k_ineg (hC : kC p s m args meth c K A nL cc own) {x : Int32} (hd : decode cc pc = .ok (.ineg, 1))  (kk : kW p l e R s m args below meth c K A nL Q k n pl X lv (pc + 1) (.int (-x) :: st)) : kW p l e R s m args below meth c K A nL Q k n pl X lv (pc) (.int x :: st) :=
  fun H locs ls hP hD hS hl => lv_ineg hC.1 hC.2.1 hd (kk H locs ls hP hD hS hl)
theorem k_i2l (hC : kC p s m args meth c K A nL cc own) {x : Int32} (hd : decode cc pc = .ok (.i2l, 1))  (kk : kW p l e R s m args below meth c K A nL Q k n pl X lv (pc + 1) (.long x.toInt64 :: st)) : kW p l e R s m args below meth c K A nL Q k n pl X lv (pc) (.int x :: st) :=
  fun H locs ls hP hD hS hl => lv_i2l hC.1 hC.2.1 hd rfl (kk H locs ls hP hD hS hl)
theorem k_lcmp (hC : kC p s m args meth c K A nL cc own) {x y : Int64} (hd : decode cc pc = .ok (.lcmp, 1))  (kk : kW p l e R s m args below meth c K A nL Q k n pl X lv (pc + 1) (.int (lg_cmp x y) :: st)) : kW p l e R s m args below meth c K A nL Q k n pl X lv (pc) (.long y :: .long x :: st) :=
  fun H locs ls hP hD hS hl => W.lcmp hC.1 hC.2.1 hd (kk H locs ls hP hD hS hl)
theorem k_dup (hC : kC p s m args meth c K A nL cc own) {va : Value} (hd : decode cc pc = .ok (.dup, 1)) (hva : va.category = 1) (kk : kW p l e R s m args below meth c K A nL Q k n pl X lv (pc + 1) (va :: va :: st)) : kW p l e R s m args below meth c K A nL Q k n pl X lv (pc) (va :: st) :=
  fun H locs ls hP hD hS hl => lv_dup hC.1 hC.2.1 hd hva (kk H locs ls hP hD hS hl)
theorem k_dup2 (hC : kC p s m args meth c K A nL cc own) {va vb : Value} (hd : decode cc pc = .ok (.dup2, 1)) (hva : va.category = 1) (hvb : vb.category = 1) (kk : kW p l e R s m args below meth c K A nL Q k n pl X lv (pc + 1) (vb :: va :: vb :: va :: st)) : kW p l e R s m args below meth c K A nL Q k n pl X lv (pc) (vb :: va :: st) :=
  fun H locs ls hP hD hS hl => lv_dup2_11 hC.1 hC.2.1 hd hvb hva (kk H locs ls hP hD hS hl)
theorem k_dup_x1 (hC : kC p s m args meth c K A nL cc own) {va vb : Value} (hd : decode cc pc = .ok (.dup_x1, 1)) (hva : va.category = 1) (hvb : vb.category = 1) (kk : kW p l e R s m args below meth c K A nL Q k n pl X lv (pc + 1) (va :: vb :: va :: st)) : kW p l e R s m args below meth c K A nL Q k n pl X lv (pc) (va :: vb :: st) :=
  fun H locs ls hP hD hS hl => lv_dup_x1 hC.1 hC.2.1 hd hva hvb (kk H locs ls hP hD hS hl)
theorem k_dup_x2 (hC : kC p s m args meth c K A nL cc own) {va vb vd : Value} (hd : decode cc pc = .ok (.dup_x2, 1)) (hva : va.category = 1) (hvb : vb.category = 1) (hvd : vd.category = 1) (kk : kW p l e R s m args below meth c K A nL Q k n pl X lv (pc + 1) (va :: vb :: vd :: va :: st)) : kW p l e R s m args below meth c K A nL Q k n pl X lv (pc) (va :: vb :: vd :: st) :=
  fun H locs ls hP hD hS hl => lv_dup_x2 hC.1 hC.2.1 hd hva hvb hvd (kk H locs ls hP hD hS hl)
theorem k_pop (hC : kC p s m args meth c K A nL cc own) {va : Value} (hd : decode cc pc = .ok (.pop, 1)) (hva : va.category = 1) (kk : kW p l e R s m args below meth c K A nL Q k n pl X lv (pc + 1) (st)) : kW p l e R s m args below meth c K A nL Q k n pl X lv (pc) (va :: st) :=
  fun H locs ls hP hD hS hl => lv_pop hC.1 hC.2.1 hd hva (kk H locs ls hP hD hS hl)
theorem k_goto (hC : kC p s m args meth c K A nL cc own) {off : Int} (tgt : Nat) (hd : decode cc pc = .ok (.goto off, 3)) (ht : (pc : Int) + off = (tgt : Int)) (kk : kW p l e R s m args below meth c K A nL Q k n pl X lv (tgt) (st)) : kW p l e R s m args below meth c K A nL Q k n pl X lv (pc) (st) :=
  fun H locs ls hP hD hS hl => lv_goto hC.1 hC.2.1 hd ht (kk H locs ls hP hD hS hl)
theorem k_if_eq (hC : kC p s m args meth c K A nL cc own) {x : Int32} {off : Int} (tgt : Nat) (hd : decode cc pc = .ok (.ifCond .eq off, 3)) (ht : (pc : Int) + off = (tgt : Int)) (kt : x = 0 → kW p l e R s m args below meth c K A nL Q k n pl X lv (tgt) (st)) (kf : ¬ x = 0 → kW p l e R s m args below meth c K A nL Q k n pl X lv (pc + 3) (st)) : kW p l e R s m args below meth c K A nL Q k n pl X lv (pc) (.int x :: st) :=
  fun H locs ls hP hD hS hl => lv_if_eq hC.1 hC.2.1 hd ht (fun h => kt h H locs ls hP hD hS hl) (fun h => kf h H locs ls hP hD hS hl)
theorem k_icmp_eq (hC : kC p s m args meth c K A nL cc own) {x y : Int32} {off : Int} (tgt : Nat) (hd : decode cc pc = .ok (.if_icmp .eq off, 3)) (ht : (pc : Int) + off = (tgt : Int)) (kt : x = y → kW p l e R s m args below meth c K A nL Q k n pl X lv (tgt) (st)) (kf : ¬ x = y → kW p l e R s m args below meth c K A nL Q k n pl X lv (pc + 3) (st)) : kW p l e R s m args below meth c K A nL Q k n pl X lv (pc) (.int y :: .int x :: st) :=
  fun H locs ls hP hD hS hl => lv_icmp_eq hC.1 hC.2.1 hd ht (fun h => kt h H locs ls hP hD hS hl) (fun h => kf h H locs ls hP hD hS hl)
theorem k_icmp_eqN (hC : kC p s m args meth c K A nL cc own) {x y : Nat} {off : Int} (tgt : Nat) (hd : decode cc pc = .ok (.if_icmp .eq off, 3)) (ht : (pc : Int) + off = (tgt : Int)) (hx : x < 2 ^ 31) (hy : y < 2 ^ 31) (kt : x = y → kW p l e R s m args below meth c K A nL Q k n pl X lv (tgt) (st)) (kf : ¬ x = y → kW p l e R s m args below meth c K A nL Q k n pl X lv (pc + 3) (st)) : kW p l e R s m args below meth c K A nL Q k n pl X lv (pc) (.int (nI y) :: .int (nI x) :: st) :=
  k_icmp_eq hC tgt hd ht (fun h => kt (by simpa only [nI_eq hx hy, nI_leI hx hy, nI_ltI hx hy, nI_leI hy hx, nI_ltI hy hx] using h)) (fun h => kf (by simpa only [nI_eq hx hy, nI_leI hx hy, nI_ltI hx hy, nI_leI hy hx, nI_ltI hy hx] using h))
theorem k_if_eqN (hC : kC p s m args meth c K A nL cc own) {x : Nat} {off : Int} (tgt : Nat) (hd : decode cc pc = .ok (.ifCond .eq off, 3)) (ht : (pc : Int) + off = (tgt : Int)) (hx : x < 2 ^ 31) (kt : x = 0 → kW p l e R s m args below meth c K A nL Q k n pl X lv (tgt) (st)) (kf : ¬ x = 0 → kW p l e R s m args below meth c K A nL Q k n pl X lv (pc + 3) (st)) : kW p l e R s m args below meth c K A nL Q k n pl X lv (pc) (.int (nI x) :: st) :=
  k_if_eq hC tgt hd ht (fun h => kt (by simpa only [kz_eq hx, kz_gt hx, kz_le hx] using h)) (fun h => kf (by simpa only [kz_eq hx, kz_gt hx, kz_le hx] using h))
theorem k_if_ne (hC : kC p s m args meth c K A nL cc own) {x : Int32} {off : Int} (tgt : Nat) (hd : decode cc pc = .ok (.ifCond .ne off, 3)) (ht : (pc : Int) + off = (tgt : Int)) (kt : ¬ x = 0 → kW p l e R s m args below meth c K A nL Q k n pl X lv (tgt) (st)) (kf : x = 0 → kW p l e R s m args below meth c K A nL Q k n pl X lv (pc + 3) (st)) : kW p l e R s m args below meth c K A nL Q k n pl X lv (pc) (.int x :: st) :=
  fun H locs ls hP hD hS hl => lv_if_ne hC.1 hC.2.1 hd ht (fun h => kt h H locs ls hP hD hS hl) (fun h => kf h H locs ls hP hD hS hl)
theorem k_icmp_ne (hC : kC p s m args meth c K A nL cc own) {x y : Int32} {off : Int} (tgt : Nat) (hd : decode cc pc = .ok (.if_icmp .ne off, 3)) (ht : (pc : Int) + off = (tgt : Int)) (kt : ¬ x = y → kW p l e R s m args below meth c K A nL Q k n pl X lv (tgt) (st)) (kf : x = y → kW p l e R s m args below meth c K A nL Q k n pl X lv (pc + 3) (st)) : kW p l e R s m args below meth c K A nL Q k n pl X lv (pc) (.int y :: .int x :: st) :=
  fun H locs ls hP hD hS hl => lv_icmp_ne hC.1 hC.2.1 hd ht (fun h => kt h H locs ls hP hD hS hl) (fun h => kf h H locs ls hP hD hS hl)
theorem k_icmp_neN (hC : kC p s m args meth c K A nL cc own) {x y : Nat} {off : Int} (tgt : Nat) (hd : decode cc pc = .ok (.if_icmp .ne off, 3)) (ht : (pc : Int) + off = (tgt : Int)) (hx : x < 2 ^ 31) (hy : y < 2 ^ 31) (kt : ¬ x = y → kW p l e R s m args below meth c K A nL Q k n pl X lv (tgt) (st)) (kf : x = y → kW p l e R s m args below meth c K A nL Q k n pl X lv (pc + 3) (st)) : kW p l e R s m args below meth c K A nL Q k n pl X lv (pc) (.int (nI y) :: .int (nI x) :: st) :=
  k_icmp_ne hC tgt hd ht (fun h => kt (by simpa only [nI_eq hx hy, nI_leI hx hy, nI_ltI hx hy, nI_leI hy hx, nI_ltI hy hx] using h)) (fun h => kf (by simpa only [nI_eq hx hy, nI_leI hx hy, nI_ltI hx hy, nI_leI hy hx, nI_ltI hy hx] using h))
theorem k_if_neN (hC : kC p s m args meth c K A nL cc own) {x : Nat} {off : Int} (tgt : Nat) (hd : decode cc pc = .ok (.ifCond .ne off, 3)) (ht : (pc : Int) + off = (tgt : Int)) (hx : x < 2 ^ 31) (kt : ¬ x = 0 → kW p l e R s m args below meth c K A nL Q k n pl X lv (tgt) (st)) (kf : x = 0 → kW p l e R s m args below meth c K A nL Q k n pl X lv (pc + 3) (st)) : kW p l e R s m args below meth c K A nL Q k n pl X lv (pc) (.int (nI x) :: st) :=
  k_if_ne hC tgt hd ht (fun h => kt (by simpa only [kz_eq hx, kz_gt hx, kz_le hx] using h)) (fun h => kf (by simpa only [kz_eq hx, kz_gt hx, kz_le hx] using h))
theorem k_if_lt (hC : kC p s m args meth c K A nL cc own) {x : Int32} {off : Int} (tgt : Nat) (hd : decode cc pc = .ok (.ifCond .lt off, 3)) (ht : (pc : Int) + off = (tgt : Int)) (kt : x < 0 → kW p l e R s m args below meth c K A nL Q k n pl X lv (tgt) (st)) (kf : ¬ x < 0 → kW p l e R s m args below meth c K A nL Q k n pl X lv (pc + 3) (st)) : kW p l e R s m args below meth c K A nL Q k n pl X lv (pc) (.int x :: st) :=
  fun H locs ls hP hD hS hl => lv_if_lt hC.1 hC.2.1 hd ht (fun h => kt h H locs ls hP hD hS hl) (fun h => kf h H locs ls hP hD hS hl)
theorem k_icmp_lt (hC : kC p s m args meth c K A nL cc own) {x y : Int32} {off : Int} (tgt : Nat) (hd : decode cc pc = .ok (.if_icmp .lt off, 3)) (ht : (pc : Int) + off = (tgt : Int)) (kt : x < y → kW p l e R s m args below meth c K A nL Q k n pl X lv (tgt) (st)) (kf : ¬ x < y → kW p l e R s m args below meth c K A nL Q k n pl X lv (pc + 3) (st)) : kW p l e R s m args below meth c K A nL Q k n pl X lv (pc) (.int y :: .int x :: st) :=
  fun H locs ls hP hD hS hl => lv_icmp_lt hC.1 hC.2.1 hd ht (fun h => kt h H locs ls hP hD hS hl) (fun h => kf h H locs ls hP hD hS hl)
theorem k_icmp_ltN (hC : kC p s m args meth c K A nL cc own) {x y : Nat} {off : Int} (tgt : Nat) (hd : decode cc pc = .ok (.if_icmp .lt off, 3)) (ht : (pc : Int) + off = (tgt : Int)) (hx : x < 2 ^ 31) (hy : y < 2 ^ 31) (kt : x < y → kW p l e R s m args below meth c K A nL Q k n pl X lv (tgt) (st)) (kf : ¬ x < y → kW p l e R s m args below meth c K A nL Q k n pl X lv (pc + 3) (st)) : kW p l e R s m args below meth c K A nL Q k n pl X lv (pc) (.int (nI y) :: .int (nI x) :: st) :=
  k_icmp_lt hC tgt hd ht (fun h => kt (by simpa only [nI_eq hx hy, nI_leI hx hy, nI_ltI hx hy, nI_leI hy hx, nI_ltI hy hx] using h)) (fun h => kf (by simpa only [nI_eq hx hy, nI_leI hx hy, nI_ltI hx hy, nI_leI hy hx, nI_ltI hy hx] using h))
theorem k_if_ge (hC : kC p s m args meth c K A nL cc own) {x : Int32} {off : Int} (tgt : Nat) (hd : decode cc pc = .ok (.ifCond .ge off, 3)) (ht : (pc : Int) + off = (tgt : Int)) (kt : 0 ≤ x → kW p l e R s m args below meth c K A nL Q k n pl X lv (tgt) (st)) (kf : ¬ 0 ≤ x → kW p l e R s m args below meth c K A nL Q k n pl X lv (pc + 3) (st)) : kW p l e R s m args below meth c K A nL Q k n pl X lv (pc) (.int x :: st) :=
  fun H locs ls hP hD hS hl => lv_if_ge hC.1 hC.2.1 hd ht (fun h => kt h H locs ls hP hD hS hl) (fun h => kf h H locs ls hP hD hS hl)
theorem k_icmp_ge (hC : kC p s m args meth c K A nL cc own) {x y : Int32} {off : Int} (tgt : Nat) (hd : decode cc pc = .ok (.if_icmp .ge off, 3)) (ht : (pc : Int) + off = (tgt : Int)) (kt : y ≤ x → kW p l e R s m args below meth c K A nL Q k n pl X lv (tgt) (st)) (kf : ¬ y ≤ x → kW p l e R s m args below meth c K A nL Q k n pl X lv (pc + 3) (st)) : kW p l e R s m args below meth c K A nL Q k n pl X lv (pc) (.int y :: .int x :: st) :=
  fun H locs ls hP hD hS hl => lv_icmp_ge hC.1 hC.2.1 hd ht (fun h => kt h H locs ls hP hD hS hl) (fun h => kf h H locs ls hP hD hS hl)
theorem k_icmp_geN (hC : kC p s m args meth c K A nL cc own) {x y : Nat} {off : Int} (tgt : Nat) (hd : decode cc pc = .ok (.if_icmp .ge off, 3)) (ht : (pc : Int) + off = (tgt : Int)) (hx : x < 2 ^ 31) (hy : y < 2 ^ 31) (kt : y ≤ x → kW p l e R s m args below meth c K A nL Q k n pl X lv (tgt) (st)) (kf : ¬ y ≤ x → kW p l e R s m args below meth c K A nL Q k n pl X lv (pc + 3) (st)) : kW p l e R s m args below meth c K A nL Q k n pl X lv (pc) (.int (nI y) :: .int (nI x) :: st) :=
  k_icmp_ge hC tgt hd ht (fun h => kt (by simpa only [nI_eq hx hy, nI_leI hx hy, nI_ltI hx hy, nI_leI hy hx, nI_ltI hy hx] using h)) (fun h => kf (by simpa only [nI_eq hx hy, nI_leI hx hy, nI_ltI hx hy, nI_leI hy hx, nI_ltI hy hx] using h))
theorem k_if_gt (hC : kC p s m args meth c K A nL cc own) {x : Int32} {off : Int} (tgt : Nat) (hd : decode cc pc = .ok (.ifCond .gt off, 3)) (ht : (pc : Int) + off = (tgt : Int)) (kt : 0 < x → kW p l e R s m args below meth c K A nL Q k n pl X lv (tgt) (st)) (kf : ¬ 0 < x → kW p l e R s m args below meth c K A nL Q k n pl X lv (pc + 3) (st)) : kW p l e R s m args below meth c K A nL Q k n pl X lv (pc) (.int x :: st) :=
  fun H locs ls hP hD hS hl => lv_if_gt hC.1 hC.2.1 hd ht (fun h => kt h H locs ls hP hD hS hl) (fun h => kf h H locs ls hP hD hS hl)
theorem k_icmp_gt (hC : kC p s m args meth c K A nL cc own) {x y : Int32} {off : Int} (tgt : Nat) (hd : decode cc pc = .ok (.if_icmp .gt off, 3)) (ht : (pc : Int) + off = (tgt : Int)) (kt : y < x → kW p l e R s m args below meth c K A nL Q k n pl X lv (tgt) (st)) (kf : ¬ y < x → kW p l e R s m args below meth c K A nL Q k n pl X lv (pc + 3) (st)) : kW p l e R s m args below meth c K A nL Q k n pl X lv (pc) (.int y :: .int x :: st) :=
  fun H locs ls hP hD hS hl => lv_icmp_gt hC.1 hC.2.1 hd ht (fun h => kt h H locs ls hP hD hS hl) (fun h => kf h H locs ls hP hD hS hl)
theorem k_icmp_gtN (hC : kC p s m args meth c K A nL cc own) {x y : Nat} {off : Int} (tgt : Nat) (hd : decode cc pc = .ok (.if_icmp .gt off, 3)) (ht : (pc : Int) + off = (tgt : Int)) (hx : x < 2 ^ 31) (hy : y < 2 ^ 31) (kt : y < x → kW p l e R s m args below meth c K A nL Q k n pl X lv (tgt) (st)) (kf : ¬ y < x → kW p l e R s m args below meth c K A nL Q k n pl X lv (pc + 3) (st)) : kW p l e R s m args below meth c K A nL Q k n pl X lv (pc) (.int (nI y) :: .int (nI x) :: st) :=
  k_icmp_gt hC tgt hd ht (fun h => kt (by simpa only [nI_eq hx hy, nI_leI hx hy, nI_ltI hx hy, nI_leI hy hx, nI_ltI hy hx] using h)) (fun h => kf (by simpa only [nI_eq hx hy, nI_leI hx hy, nI_ltI hx hy, nI_leI hy hx, nI_ltI hy hx] using h))
theorem k_if_gtN (hC : kC p s m args meth c K A nL cc own) {x : Nat} {off : Int} (tgt : Nat) (hd : decode cc pc = .ok (.ifCond .gt off, 3)) (ht : (pc : Int) + off = (tgt : Int)) (hx : x < 2 ^ 31) (kt : 0 < x → kW p l e R s m args below meth c K A nL Q k n pl X lv (tgt) (st)) (kf : ¬ 0 < x → kW p l e R s m args below meth c K A nL Q k n pl X lv (pc + 3) (st)) : kW p l e R s m args below meth c K A nL Q k n pl X lv (pc) (.int (nI x) :: st) :=
  k_if_gt hC tgt hd ht (fun h => kt (by simpa only [kz_eq hx, kz_gt hx, kz_le hx] using h)) (fun h => kf (by simpa only [kz_eq hx, kz_gt hx, kz_le hx] using h))
theorem k_if_le (hC : kC p s m args meth c K A nL cc own) {x : Int32} {off : Int} (tgt : Nat) (hd : decode cc pc = .ok (.ifCond .le off, 3)) (ht : (pc : Int) + off = (tgt : Int)) (kt : x ≤ 0 → kW p l e R s m args below meth c K A nL Q k n pl X lv (tgt) (st)) (kf : ¬ x ≤ 0 → kW p l e R s m args below meth c K A nL Q k n pl X lv (pc + 3) (st)) : kW p l e R s m args below meth c K A nL Q k n pl X lv (pc) (.int x :: st) :=
  fun H locs ls hP hD hS hl => lv_if_le hC.1 hC.2.1 hd ht (fun h => kt h H locs ls hP hD hS hl) (fun h => kf h H locs ls hP hD hS hl)
theorem k_icmp_le (hC : kC p s m args meth c K A nL cc own) {x y : Int32} {off : Int} (tgt : Nat) (hd : decode cc pc = .ok (.if_icmp .le off, 3)) (ht : (pc : Int) + off = (tgt : Int)) (kt : x ≤ y → kW p l e R s m args below meth c K A nL Q k n pl X lv (tgt) (st)) (kf : ¬ x ≤ y → kW p l e R s m args below meth c K A nL Q k n pl X lv (pc + 3) (st)) : kW p l e R s m args below meth c K A nL Q k n pl X lv (pc) (.int y :: .int x :: st) :=
  fun H locs ls hP hD hS hl => lv_icmp_le hC.1 hC.2.1 hd ht (fun h => kt h H locs ls hP hD hS hl) (fun h => kf h H locs ls hP hD hS hl)
theorem k_icmp_leN (hC : kC p s m args meth c K A nL cc own) {x y : Nat} {off : Int} (tgt : Nat) (hd : decode cc pc = .ok (.if_icmp .le off, 3)) (ht : (pc : Int) + off = (tgt : Int)) (hx : x < 2 ^ 31) (hy : y < 2 ^ 31) (kt : x ≤ y → kW p l e R s m args below meth c K A nL Q k n pl X lv (tgt) (st)) (kf : ¬ x ≤ y → kW p l e R s m args below meth c K A nL Q k n pl X lv (pc + 3) (st)) : kW p l e R s m args below meth c K A nL Q k n pl X lv (pc) (.int (nI y) :: .int (nI x) :: st) :=
  k_icmp_le hC tgt hd ht (fun h => kt (by simpa only [nI_eq hx hy, nI_leI hx hy, nI_ltI hx hy, nI_leI hy hx, nI_ltI hy hx] using h)) (fun h => kf (by simpa only [nI_eq hx hy, nI_leI hx hy, nI_ltI hx hy, nI_leI hy hx, nI_ltI hy hx] using h))
theorem k_if_leN (hC : kC p s m args meth c K A nL cc own) {x : Nat} {off : Int} (tgt : Nat) (hd : decode cc pc = .ok (.ifCond .le off, 3)) (ht : (pc : Int) + off = (tgt : Int)) (hx : x < 2 ^ 31) (kt : x = 0 → kW p l e R s m args below meth c K A nL Q k n pl X lv (tgt) (st)) (kf : ¬ x = 0 → kW p l e R s m args below meth c K A nL Q k n pl X lv (pc + 3) (st)) : kW p l e R s m args below meth c K A nL Q k n pl X lv (pc) (.int (nI x) :: st) :=
  k_if_le hC tgt hd ht (fun h => kt (by simpa only [kz_eq hx, kz_gt hx, kz_le hx] using h)) (fun h => kf (by simpa only [kz_eq hx, kz_gt hx, kz_le hx] using h))
theorem kx_l {α : Type} {X pl : List α} {i : Nat} {q : α} (h : X[i]? = some q) : (X ++ pl)[i]? = some q := by
  rw [List.getElem?_append_left (List.getElem?_eq_some_iff.mp h).1]; exact h
theorem kx_set {α : Type} {X pl : List α} {i : Nat} {q x : α} (h : X[i]? = some q) : (X ++ pl).set i x = X.set i x ++ pl := by
  rw [List.set_append_left _ _ (List.getElem?_eq_some_iff.mp h).1]
theorem k_get (hC : kC p s m args meth c K A nL cc own) {C : String} {T : u_T} {N ci idx : Nat} (hin : ∀ w ∈ u_ws C T N, w ∈ kALL) (i j : Nat) {fs : List Value} {a : Nat} {v : Value} (he : X[i]? = some (a, .inr (ci, fs))) (hc : vwCl[ci]? = some (C, T, N)) (hj : j < N) (hlk : Cond.fieldLink own idx (T j).1 (T j).2.1 (T j).2.2.1 ∈ kALL) (hv : fs[j]? = some v) (hd : decode cc pc = .ok (.getfield idx, 3))
    (kk : kW p l e R s m args below meth c K A nL Q k n pl X lv (pc + 3) (v :: st)) : kW p l e R s m args below meth c K A nL Q k n pl X lv pc (.ref a :: st) := by
  obtain ⟨h1, h2, h3, h4, h5, h6, h7, h8⟩ := hC
  exact fun H locs ls hP hD hS hl => va_get h1 h2 h5 hin h4 h6.1 hP i (kx_l he) hc j hj (h5 _ hlk) (fun _ h => h) hv hd (kk H locs ls hP hD hS hl)
theorem k_getN (hC : kC p s m args meth c K A nL cc own) {C : String} {T : u_T} {N ci idx : Nat} (hin : ∀ w ∈ u_ws C T N, w ∈ kALL) (i j : Nat) {fs : List Value} {a : Nat} {v : Value} (he : X[i]? = some (a, .inr (ci, fs))) (hc : vwCl[ci]? = some (C, T, N)) (hj : j < N) (hlk : (own, idx, (T j).1, (T j).2.1, (T j).2.2.1) ∈ kn_F) (hv : fs[j]? = some v) (hd : decode cc pc = .ok (.getfield idx, 3))
    (kk : kW p l e R s m args below meth c K A nL Q k n pl X lv (pc + 3) (v :: st)) : kW p l e R s m args below meth c K A nL Q k n pl X lv pc (.ref a :: st) := by
  obtain ⟨h1, h2, h3, h4, h5, h6, h7, h8⟩ := hC
  exact fun H locs ls hP hD hS hl => va_getN h1 h2 h5 hin h4 h6.1 hP i (kx_l he) hc j hj (va_Nw.use rfl (h6.2.1 _ hlk)) (fun _ h => h) hv hd (kk H locs ls hP hD hS hl)
theorem k_put (hC : kC p s m args meth c K A nL cc own) {C : String} {T : u_T} {N ci idx : Nat} (hin : ∀ w ∈ u_ws C T N, w ∈ kALL) {ty0 : Nat → FieldType} (hty : ∀ k, k < N → parseFieldDescriptor (T k).2.2.1 = some (ty0 k)) (hnm : ∀ a, a < N → ∀ b, b < N → a ≠ b → (T a).2.1 ≠ (T b).2.1) (i j : Nat) {fs : List Value} {a : Nat} {v : Value} (he : X[i]? = some (a, .inr (ci, fs))) (hc : vwCl[ci]? = some (C, T, N)) (hj : j < N) (hlk : Cond.fieldLink own idx (T j).1 (T j).2.1 (T j).2.2.1 ∈ kALL) (hfin : (T j).2.2.2 = false) (hn : narrow (ty0 j) v = v) (hfit : fits (ty0 j) v = true) (hl9 : j < fs.length) (hd : decode cc pc = .ok (.putfield idx, 3)) (X2 : va_W) (h2 : X.set i (a, .inr (ci, fs.set j v)) = X2)
    (kk : kW p l e R s m args below meth c K A nL Q k n pl X2 lv (pc + 3) st) : kW p l e R s m args below meth c K A nL Q k n pl X lv pc (v :: .ref a :: st) := by
  obtain ⟨h1, hb, h3, h4, h5, h6, h7, h8⟩ := hC
  exact fun H locs ls hP hD hS hl => va_put h1 hb h5 hin ty0 hty hnm h4 h6.1 hP hD hS i (kx_l he) hc j hj (h5 _ hlk) (fun _ h => h) hfin (hty j hj) hn hfit hl9 hd (fun H1 locs1 hP1 hD1 hS1 => kk H1 locs1 ls (by rw [← h2, ← kx_set he]; exact hP1) (by rw [← h2, ← kx_set he]; exact hD1) hS1 hl)
theorem k_putN (hC : kC p s m args meth c K A nL cc own) {C : String} {T : u_T} {N ci idx : Nat} (hin : ∀ w ∈ u_ws C T N, w ∈ kALL) {ty0 : Nat → FieldType} (hty : ∀ k, k < N → parseFieldDescriptor (T k).2.2.1 = some (ty0 k)) (hnm : ∀ a, a < N → ∀ b, b < N → a ≠ b → (T a).2.1 ≠ (T b).2.1) (i j : Nat) {fs : List Value} {a : Nat} {v : Value} (he : X[i]? = some (a, .inr (ci, fs))) (hc : vwCl[ci]? = some (C, T, N)) (hj : j < N) (hlk : (own, idx, (T j).1, (T j).2.1, (T j).2.2.1) ∈ kn_F) (hfin : (T j).2.2.2 = false) (hn : narrow (ty0 j) v = v) (hfit : fits (ty0 j) v = true) (hl9 : j < fs.length) (hd : decode cc pc = .ok (.putfield idx, 3)) (X2 : va_W) (h2 : X.set i (a, .inr (ci, fs.set j v)) = X2)
    (kk : kW p l e R s m args below meth c K A nL Q k n pl X2 lv (pc + 3) st) : kW p l e R s m args below meth c K A nL Q k n pl X lv pc (v :: .ref a :: st) := by
  obtain ⟨h1, hb, h3, h4, h5, h6, h7, h8⟩ := hC
  exact fun H locs ls hP hD hS hl => va_putN h1 hb h5 hin ty0 hty hnm h4 h6.1 hP hD hS i (kx_l he) hc j hj (va_Nw.use rfl (h6.2.1 _ hlk)) (fun _ h => h) hfin (hty j hj) hn hfit hl9 hd (fun H1 locs1 hP1 hD1 hS1 => kk H1 locs1 ls (by rw [← h2, ← kx_set he]; exact hP1) (by rw [← h2, ← kx_set he]; exact hD1) hS1 hl)
theorem k_putF (hC : kC p s m args meth c K A nL cc own) (hin2 : meth.name = "<init>") {C : String} {T : u_T} {N ci idx : Nat} (hin : ∀ w ∈ u_ws C T N, w ∈ kALL) {ty0 : Nat → FieldType} (hty : ∀ k, k < N → parseFieldDescriptor (T k).2.2.1 = some (ty0 k)) (hnm : ∀ a, a < N → ∀ b, b < N → a ≠ b → (T a).2.1 ≠ (T b).2.1) (i j : Nat) {fs : List Value} {a : Nat} {v : Value} (he : X[i]? = some (a, .inr (ci, fs))) (hc : vwCl[ci]? = some (C, T, N)) (hj : j < N) (hlk : Cond.fieldLink own idx (T j).1 (T j).2.1 (T j).2.2.1 ∈ kALL) (hfin : (T j).2.2.2 = true) (hdecl : (T j).1 = own) (hn : narrow (ty0 j) v = v) (hfit : fits (ty0 j) v = true) (hl9 : j < fs.length) (hd : decode cc pc = .ok (.putfield idx, 3)) (X2 : va_W) (h2 : X.set i (a, .inr (ci, fs.set j v)) = X2)
    (kk : kW p l e R s m args below meth c K A nL Q k n pl X2 lv (pc + 3) st) : kW p l e R s m args below meth c K A nL Q k n pl X lv pc (v :: .ref a :: st) := by
  obtain ⟨h1, hb, h3, h4, h5, h6, h7, h8⟩ := hC
  exact fun H locs ls hP hD hS hl => va_putF h1 hb h5 hin ty0 hty hnm h4 h6.1 hP hD hS i (kx_l he) hc j hj (h5 _ hlk) (fun _ h => h) hfin hin2 hdecl (hty j hj) hn hfit hl9 hd (fun H1 locs1 hP1 hD1 hS1 => kk H1 locs1 ls (by rw [← h2, ← kx_set he]; exact hP1) (by rw [← h2, ← kx_set he]; exact hD1) hS1 hl)
theorem k_ald (hC : kC p s m args meth c K A nL cc own) (i : Nat) {a z x : Nat} {f : Nat → Int32} (he : X[i]? = some (a, .inl (K.2.1 0, z, .inl f))) (hx : x < z) (hz : z < 2 ^ 31) (hd : decode cc pc = .ok (.iaload, 1))
    (kk : kW p l e R s m args below meth c K A nL Q k n pl X lv (pc + 1) (.int (f x) :: st)) : kW p l e R s m args below meth c K A nL Q k n pl X lv pc (.int (nI x) :: .ref a :: st) := by
  obtain ⟨h1, hb, h3, h4, h5, h6, h7, h8⟩ := hC
  exact fun H locs ls hP hD hS hl => va_iald h1 hb h6.1 hP i 0 (kx_l he) rfl (vp_in_nI hx hz) hd (by rw [nI_clamp (Nat.lt_trans hx hz)]; exact kk H locs ls hP hD hS hl)
theorem k_zald (hC : kC p s m args meth c K A nL cc own) (i : Nat) {a z x : Nat} {f : Nat → Int32} (he : X[i]? = some (a, .inl (K.2.1 1, z, .inl f))) (hx : x < z) (hz : z < 2 ^ 31) (hd : decode cc pc = .ok (.baload, 1))
    (kk : kW p l e R s m args below meth c K A nL Q k n pl X lv (pc + 1) (.int (f x) :: st)) : kW p l e R s m args below meth c K A nL Q k n pl X lv pc (.int (nI x) :: .ref a :: st) := by
  obtain ⟨h1, hb, h3, h4, h5, h6, h7, h8⟩ := hC
  exact fun H locs ls hP hD hS hl => va_zald h1 hb h6.1 hP i 1 (kx_l he) rfl (vp_in_nI hx hz) hd (by rw [nI_clamp (Nat.lt_trans hx hz)]; exact kk H locs ls hP hD hS hl)
theorem k_jald (hC : kC p s m args meth c K A nL cc own) (i : Nat) {a z x : Nat} {f : Nat → Int64} (he : X[i]? = some (a, .inl (K.2.1 2, z, .inr (.inl f)))) (hx : x < z) (hz : z < 2 ^ 31) (hd : decode cc pc = .ok (.laload, 1))
    (kk : kW p l e R s m args below meth c K A nL Q k n pl X lv (pc + 1) (.long (f x) :: st)) : kW p l e R s m args below meth c K A nL Q k n pl X lv pc (.int (nI x) :: .ref a :: st) := by
  obtain ⟨h1, hb, h3, h4, h5, h6, h7, h8⟩ := hC
  exact fun H locs ls hP hD hS hl => va_lald h1 hb h6.1 hP i 2 (kx_l he) rfl (vp_in_nI hx hz) hd (by rw [nI_clamp (Nat.lt_trans hx hz)]; exact kk H locs ls hP hD hS hl)
theorem k_ast (hC : kC p s m args meth c K A nL cc own) (i : Nat) {a z x : Nat} {f : Nat → Int32} {v : Int32} (he : X[i]? = some (a, .inl (K.2.1 0, z, .inl f))) (hx : x < z) (hz : z < 2 ^ 31) (hd : decode cc pc = .ok (.iastore, 1)) (X2 : va_W) (h2 : X.set i (a, .inl (K.2.1 0, z, .inl (upd f x v))) = X2)
    (kk : kW p l e R s m args below meth c K A nL Q k n pl X2 lv (pc + 1) st) : kW p l e R s m args below meth c K A nL Q k n pl X lv pc (.int v :: .int (nI x) :: .ref a :: st) := by
  obtain ⟨h1, hb, h3, h4, h5, h6, h7, h8⟩ := hC
  intro H locs ls hP hD hS hl
  have e0 := nI_clamp (Nat.lt_trans hx hz)
  exact va_iast h1 hb h6.1 hP hD hS i 0 (kx_l he) rfl (vp_in_nI hx hz) hd (fun H1 locs1 hP1 hD1 hS1 => kk H1 locs1 ls (by rw [e0] at hP1; rw [← h2, ← kx_set he]; exact hP1) (by rw [e0] at hD1; rw [← h2, ← kx_set he]; exact hD1) hS1 hl)
theorem k_zast (hC : kC p s m args meth c K A nL cc own) (i : Nat) {a z x : Nat} {f : Nat → Int32} {v : Int32} (he : X[i]? = some (a, .inl (K.2.1 1, z, .inl f))) (hx : x < z) (hz : z < 2 ^ 31) (hv : vp_nar .boolean v = v) (hd : decode cc pc = .ok (.bastore, 1)) (X2 : va_W) (h2 : X.set i (a, .inl (K.2.1 1, z, .inl (upd f x v))) = X2)
    (kk : kW p l e R s m args below meth c K A nL Q k n pl X2 lv (pc + 1) st) : kW p l e R s m args below meth c K A nL Q k n pl X lv pc (.int v :: .int (nI x) :: .ref a :: st) := by
  obtain ⟨h1, hb, h3, h4, h5, h6, h7, h8⟩ := hC
  intro H locs ls hP hD hS hl
  have e0 := nI_clamp (Nat.lt_trans hx hz)
  exact va_zast h1 hb h6.1 hP hD hS i 1 (kx_l he) rfl (vp_in_nI hx hz) hd (fun H1 locs1 hP1 hD1 hS1 => kk H1 locs1 ls (by rw [e0, hv] at hP1; rw [← h2, ← kx_set he]; exact hP1) (by rw [e0, hv] at hD1; rw [← h2, ← kx_set he]; exact hD1) hS1 hl)
theorem k_jast (hC : kC p s m args meth c K A nL cc own) (i : Nat) {a z x : Nat} {f : Nat → Int64} {v : Int64} (he : X[i]? = some (a, .inl (K.2.1 2, z, .inr (.inl f)))) (hx : x < z) (hz : z < 2 ^ 31) (hd : decode cc pc = .ok (.lastore, 1)) (X2 : va_W) (h2 : X.set i (a, .inl (K.2.1 2, z, .inr (.inl (vp_updL f x v)))) = X2)
    (kk : kW p l e R s m args below meth c K A nL Q k n pl X2 lv (pc + 1) st) : kW p l e R s m args below meth c K A nL Q k n pl X lv pc (.long v :: .int (nI x) :: .ref a :: st) := by
  obtain ⟨h1, hb, h3, h4, h5, h6, h7, h8⟩ := hC
  intro H locs ls hP hD hS hl
  have e0 := nI_clamp (Nat.lt_trans hx hz)
  exact va_last h1 hb h6.1 hP hD hS i 2 (kx_l he) rfl (vp_in_nI hx hz) hd (fun H1 locs1 hP1 hD1 hS1 => kk H1 locs1 ls (by rw [e0] at hP1; rw [← h2, ← kx_set he]; exact hP1) (by rw [e0] at hD1; rw [← h2, ← kx_set he]; exact hD1) hS1 hl)
theorem k_perm (is : List Nat) (X2 : va_W) (hs : is.map (fun i => X[i]?) = X2.map some) (hn : va_nd is = true) (kk : kW p l e R s m args below meth c K A nL Q k n pl X2 lv pc st) : kW p l e R s m args below meth c K A nL Q k n pl X lv pc st :=
  fun H locs ls hP hD hS hl => kk H locs ls (fun j q hq => hP _ q (va_part is hs j q hq)) (hD.part is hn hs) hS hl
theorem k_lsub (ks : List Nat) (lv2 : List (Nat × Value)) (h : lv_pick lv ks = lv2) (kk : kW p l e R s m args below meth c K A nL Q k n pl X lv2 pc st) : kW p l e R s m args below meth c K A nL Q k n pl X lv pc st :=
  fun H locs ls hP hD hS hl => kk H locs ls hP hD hS (lv_sub hl ks h)
theorem k_topE {x : Int32} (y : Int32) (h : x = y) (kk : kW p l e R s m args below meth c K A nL Q k n pl X lv pc (.int y :: st)) : kW p l e R s m args below meth c K A nL Q k n pl X lv pc (.int x :: st) := h ▸ kk
theorem k_topi {x : Int32} (kk : ∀ y : Int32, y = x → kW p l e R s m args below meth c K A nL Q k n pl X lv pc (.int y :: st)) : kW p l e R s m args below meth c K A nL Q k n pl X lv pc (.int x :: st) := kk x rfl
theorem k_world (pl2 X2 : va_W) (h1 : ∀ q ∈ X2 ++ pl2, q ∈ X ++ pl) (h2 : ((X2 ++ pl2).map Prod.fst).Nodup ∨ ∀ A : Nat → Prop, va_D A (X ++ pl) → va_D A (X2 ++ pl2)) (kk : kW p l e R s m args below meth c K A nL Q k n pl2 X2 lv pc st) : kW p l e R s m args below meth c K A nL Q k n pl X lv pc st := by
  intro H locs ls hP hD hS hl
  refine kk H locs ls (fun j q hq => ?_) ?_ hS hl
  · obtain ⟨i, hi⟩ := List.getElem?_of_mem (h1 q (List.mem_of_getElem? hq))
    exact hP i q hi
  · rcases h2 with h2 | h2
    · refine ⟨fun i j x y hi hj hxy => ?_, fun j q hq => ?_⟩
      · have hi' : ((X2 ++ pl2).map Prod.fst)[i]? = some x.1 := by rw [List.getElem?_map, hi]; rfl
        have hj' : ((X2 ++ pl2).map Prod.fst)[j]? = some y.1 := by rw [List.getElem?_map, hj]; rfl
        exact (List.getElem?_inj (List.getElem?_eq_some_iff.mp hi').1 h2).mp (by rw [hi', hj', hxy])
      · obtain ⟨i, hi⟩ := List.getElem?_of_mem (h1 q (List.mem_of_getElem? hq))
        exact hD.2 i q hi
    · exact h2 A hD
theorem k_as {pl2 X2 : va_W} (h : X ++ pl = X2 ++ pl2) (kk : kW p l e R s m args below meth c K A nL Q k n pl2 X2 lv pc st) : kW p l e R s m args below meth c K A nL Q k n pl X lv pc st :=
  fun H locs ls hP hD hS hl => kk H locs ls (h ▸ hP) (h ▸ hD) hS hl
theorem k_eX {X2 : va_W} (h : X = X2) (kk : kW p l e R s m args below meth c K A nL Q k n pl X2 lv pc st) : kW p l e R s m args below meth c K A nL Q k n pl X lv pc st := h ▸ kk
theorem k_re (k2 n2 : Nat) (X2 : va_W) (st2 : List Value) (h1 : k = k2) (h2 : n = n2) (hX : X = X2) (hs : st = st2) (kk : kW p l e R s m args below meth c K A nL Q k2 n2 pl X2 lv pc st2) : kW p l e R s m args below meth c K A nL Q k n pl X lv pc st := by subst h1; subst h2; subst hX; subst hs; exact kk
theorem k_widen {k2 n2 : Nat} (h1 : k ≤ k2) (h2 : n ≤ n2) (kk : kW p l e R s m args below meth c K A nL Q k2 n2 pl X lv pc st) : kW p l e R s m args below meth c K A nL Q k n pl X lv pc st :=
  fun H locs ls hP hD hS hl => W.widen h1 h2 (kk H locs ls hP hD hS hl)
theorem k_new (hC : kC p s m args meth c K A nL cc own) {C : String} {T : u_T} {N ci idx : Nat} (hin : ∀ w ∈ u_ws C T N, w ∈ kALL) {ty0 : Nat → FieldType} (hty : ∀ k, k < N → parseFieldDescriptor (T k).2.2.1 = some (ty0 k)) (hc : vwCl[ci]? = some (C, T, N)) (h1w : Cond.classLink own idx C ∈ kALL) (h2w : Cond.instantiable C N ∈ kALL) (h3w : Cond.initialized C ∈ kALL) (fs : List Value) (hfs : ∀ j, j < N → defaultValue (ty0 j) = vp_V fs j) (hk : k + 1 ≤ R.cells) (hn : n + N ≤ R.slots) (hd : decode cc pc = .ok (.new idx, 3))
    (kk : ∀ q : Nat, kW p l e R s m args below meth c K A nL Q (k + 1) (n + N) pl (X ++ [(q, .inr (ci, fs))]) lv (pc + 3) (.ref q :: st)) : kW p l e R s m args below meth c K A nL Q k n pl X lv pc st := by
  obtain ⟨h1, hb, h3, h4, h5, h6, h7, h8⟩ := hC
  intro H locs ls hP hD hS hl
  refine va_new h1 hb h5 hin ty0 hty h4 (h5 _ h1w) (h5 _ h2w) (h5 _ h3w) h6.1 hP hD hS h7 hc hfs hk hn hd (fun q H1 hP1 hD1 hS1 => ?_)
  exact kk q H1 locs ls hP1.swap hD1.swap hS1 hl
theorem kt_uni {K : kE} {U : State} {cA : ClassId} {t : Nat} {ty : FieldType} (h : va_K K.1 vwCl (kTy K ++ [(cA, ty)]) U) (ht : (kTy K)[t]? = some (K.2.1 t, ty)) (hp : ty = .int ∨ ty = .boolean ∨ ty = .long) : cA = K.2.1 t := by
  have hl : t < (kTy K).length := (List.getElem?_eq_some_iff.mp ht).1
  have h1 := (h.2 t (K.2.1 t, ty) (by rw [List.getElem?_append_left hl]; exact ht)).2
  have h2 := (h.2 3 (cA, ty) rfl).2
  rcases hp with rfl | rfl | rfl <;> exact Option.some.inj (h2.symm.trans h1)
theorem k_newI (hC : kC p s m args meth c K A nL cc own) (z : Nat) {x : Int32} (hx : x = nI z) (hz : z < 1000) (hk : k + 1 ≤ R.cells) (hn : n + z ≤ R.slots) (hw : Cond.arrayClass .int ∈ kALL) (hd : decode cc pc = .ok (.newarray .int, 2))
    (kk : ∀ q : Nat, kW p l e R s m args below meth c K A nL Q (k + 1) (n + z) pl (X ++ [(q, .inl (K.2.1 0, z, .inl (fun _ => 0)))]) lv (pc + 2) (.ref q :: st)) : kW p l e R s m args below meth c K A nL Q k n pl X lv pc (.int x :: st) := by
  obtain ⟨h1, hb, h3, h4, h5, h6, h7, h8⟩ := hC
  intro H locs ls hP hD hS hl
  subst hx
  refine va_newa (atype := .int) (a0 := (z, .inl (fun _ => 0))) h1 hb (h5 _ hw) rfl h6.1 hP hD hS h7 (fun _ => rfl) (nI_pos (by omega)) (nI_clamp (by omega)) (by show z * 4 ≤ _; omega) hk hn hd (fun q cA H1 hK1 hP1 hD1 hS1 => ?_)
  rw [kt_uni (t := 0) hK1 rfl (Or.inl rfl)] at hP1 hD1
  exact kk q H1 locs ls hP1.swap hD1.swap hS1 hl
theorem k_newZ (hC : kC p s m args meth c K A nL cc own) (z : Nat) {x : Int32} (hx : x = nI z) (hz : z < 1000) (hk : k + 1 ≤ R.cells) (hn : n + z ≤ R.slots) (hw : Cond.arrayClass .boolean ∈ kALL) (hd : decode cc pc = .ok (.newarray .boolean, 2))
    (kk : ∀ q : Nat, kW p l e R s m args below meth c K A nL Q (k + 1) (n + z) pl (X ++ [(q, .inl (K.2.1 1, z, .inl (fun _ => 0)))]) lv (pc + 2) (.ref q :: st)) : kW p l e R s m args below meth c K A nL Q k n pl X lv pc (.int x :: st) := by
  obtain ⟨h1, hb, h3, h4, h5, h6, h7, h8⟩ := hC
  intro H locs ls hP hD hS hl
  subst hx
  refine va_newa (atype := .boolean) (a0 := (z, .inl (fun _ => 0))) h1 hb (h5 _ hw) rfl h6.1 hP hD hS h7 (fun _ => rfl) (nI_pos (by omega)) (nI_clamp (by omega)) (by show z * 1 ≤ _; omega) hk hn hd (fun q cA H1 hK1 hP1 hD1 hS1 => ?_)
  rw [kt_uni (t := 1) hK1 rfl (Or.inr (Or.inl rfl))] at hP1 hD1
  exact kk q H1 locs ls hP1.swap hD1.swap hS1 hl
theorem k_newJ (hC : kC p s m args meth c K A nL cc own) (z : Nat) {x : Int32} (hx : x = nI z) (hz : z < 1000) (hk : k + 1 ≤ R.cells) (hn : n + z ≤ R.slots) (hw : Cond.arrayClass .long ∈ kALL) (hd : decode cc pc = .ok (.newarray .long, 2))
    (kk : ∀ q : Nat, kW p l e R s m args below meth c K A nL Q (k + 1) (n + z) pl (X ++ [(q, .inl (K.2.1 2, z, .inr (.inl (fun _ => 0))))]) lv (pc + 2) (.ref q :: st)) : kW p l e R s m args below meth c K A nL Q k n pl X lv pc (.int x :: st) := by
  obtain ⟨h1, hb, h3, h4, h5, h6, h7, h8⟩ := hC
  intro H locs ls hP hD hS hl
  subst hx
  refine va_newa (atype := .long) (a0 := (z, .inr (.inl (fun _ => 0)))) h1 hb (h5 _ hw) rfl h6.1 hP hD hS h7 (fun _ => rfl) (nI_pos (by omega)) (nI_clamp (by omega)) (by show z * 8 ≤ _; omega) hk hn hd (fun q cA H1 hK1 hP1 hD1 hS1 => ?_)
  rw [kt_uni (t := 2) hK1 rfl (Or.inr (Or.inr rfl))] at hP1 hD1
  exact kk q H1 locs ls hP1.swap hD1.swap hS1 hl
theorem k_objInit (hC : kC p s m args meth c K A nL cc own) {idx a : Nat} (hw : Cond.methodLink own idx Lib.objectInit ∈ kALL) (hw2 : Cond.instanceMethod Lib.objectInit ∈ kALL) (hw3 : Cond.code Lib.objectInit ⟨#[0xb1]⟩ 1 none ∈ kALL) (hd : decode cc pc = .ok (.invokespecial idx, 3)) (hf : 1 ≤ R.frames) (hR : (st.map fun v => v.category).sum + 12 ≤ R.locals)
    (kk : kW p l e R s m args below meth c K A nL Q k n pl X lv (pc + 3) st) : kW p l e R s m args below meth c K A nL Q k n pl X lv pc (.ref a :: st) := by
  obtain ⟨h1, hb, h3, h4, h5, h6, h7, h8⟩ := hC
  intro H locs ls hP hD hS hl
  refine W.objInit h1 hb h4 (h5 _ hw) (h5 _ hw2) (h5 _ hw3) rfl (by rw [h3]; exact hl.1) rfl hd hf (by show 2 * 0 + _ + 12 ≤ _; omega) ?_
  exact kk H locs ls hP hD hS hl
theorem k_min (hC : kC p s m args meth c K A nL cc own) {idx : Nat} {x y : Int32} (hw : Cond.methodLink own idx Lib.Math.min.name ∈ kALL) (hw2 : Cond.static Lib.Math.min.name ∈ kALL) (hw3 : Cond.initialized "java/lang/Math" ∈ kALL) (hw4 : Cond.code Lib.Math.min.name Lib.Math.min.code 2 (some .int) ∈ kALL) (hf : 1 ≤ R.frames) (hR : (st.map fun v => v.category).sum + 13 ≤ R.locals) (hk : k ≤ R.cells) (hn : n ≤ R.slots) (hd : decode cc pc = .ok (.invokestatic idx, 3))
    (kk : kW p l e R s m args below meth c K A nL Q k n pl X lv (pc + 3) (.int (if y < x then y else x) :: st)) : kW p l e R s m args below meth c K A nL Q k n pl X lv pc (.int y :: .int x :: st) := by
  obtain ⟨h1, hb, h3, h4, h5, h6, h7, h8⟩ := hC
  exact fun H locs ls hP hD hS hl => va_mmin h1 hb (by rw [h3]; exact hl.1.symm) h4 (h5 _ hw) (h5 _ hw2) (h5 _ hw3) (h5 _ hw4) hf hR hk hn hd (kk H locs ls hP hD hS hl)
theorem k_max (hC : kC p s m args meth c K A nL cc own) {idx : Nat} {x y : Int32} (hw : Cond.methodLink own idx Lib.Math.max.name ∈ kALL) (hw2 : Cond.static Lib.Math.max.name ∈ kALL) (hw3 : Cond.initialized "java/lang/Math" ∈ kALL) (hw4 : Cond.code Lib.Math.max.name Lib.Math.max.code 2 (some .int) ∈ kALL) (hf : 1 ≤ R.frames) (hR : (st.map fun v => v.category).sum + 13 ≤ R.locals) (hk : k ≤ R.cells) (hn : n ≤ R.slots) (hd : decode cc pc = .ok (.invokestatic idx, 3))
    (kk : kW p l e R s m args below meth c K A nL Q k n pl X lv (pc + 3) (.int (if x < y then y else x) :: st)) : kW p l e R s m args below meth c K A nL Q k n pl X lv pc (.int y :: .int x :: st) := by
  obtain ⟨h1, hb, h3, h4, h5, h6, h7, h8⟩ := hC
  exact fun H locs ls hP hD hS hl => va_mmax h1 hb (by rw [h3]; exact hl.1.symm) h4 (h5 _ hw) (h5 _ hw2) (h5 _ hw3) (h5 _ hw4) hf hR hk hn hd (kk H locs ls hP hD hS hl)
theorem k_ifnull (hC : kC p s m args meth c K A nL cc own) {x : Nat} {off : Int} (hd : decode cc pc = .ok (.ifnull off, 3)) (kk : kW p l e R s m args below meth c K A nL Q k n pl X lv (pc + 3) st) : kW p l e R s m args below meth c K A nL Q k n pl X lv pc (.ref x :: st) :=
  fun H locs ls hP hD hS hl => lv_ifnull hC.1 hC.2.1 hd (kk H locs ls hP hD hS hl)
theorem k_ifnullN (hC : kC p s m args meth c K A nL cc own) {off : Int} (tgt : Nat) (hd : decode cc pc = .ok (.ifnull off, 3)) (ht : (pc : Int) + off = (tgt : Int)) (kk : kW p l e R s m args below meth c K A nL Q k n pl X lv tgt st) : kW p l e R s m args below meth c K A nL Q k n pl X lv pc (.null :: st) :=
  fun H locs ls hP hD hS hl => lv_ifnullN hC.1 hC.2.1 hd ht (kk H locs ls hP hD hS hl)
theorem k_ifnonnull (hC : kC p s m args meth c K A nL cc own) {x : Nat} {off : Int} (tgt : Nat) (hd : decode cc pc = .ok (.ifnonnull off, 3)) (ht : (pc : Int) + off = (tgt : Int)) (kk : kW p l e R s m args below meth c K A nL Q k n pl X lv tgt st) : kW p l e R s m args below meth c K A nL Q k n pl X lv pc (.ref x :: st) :=
  fun H locs ls hP hD hS hl => lv_ifnonnull hC.1 hC.2.1 hd ht (kk H locs ls hP hD hS hl)
theorem k_ifnonnullN (hC : kC p s m args meth c K A nL cc own) {off : Int} (hd : decode cc pc = .ok (.ifnonnull off, 3)) (kk : kW p l e R s m args below meth c K A nL Q k n pl X lv (pc + 3) st) : kW p l e R s m args below meth c K A nL Q k n pl X lv pc (.null :: st) :=
  fun H locs ls hP hD hS hl => lv_ifnonnullN hC.1 hC.2.1 hd (kk H locs ls hP hD hS hl)
theorem k_acmp_ne (hC : kC p s m args meth c K A nL cc own) {rx ry : Option Nat} {vx vy : Value} (hx : vx = va_rf rx) (hy : vy = va_rf ry) {off : Int} (tgt : Nat) (hd : decode cc pc = .ok (.if_acmp .ne off, 3)) (ht : (pc : Int) + off = (tgt : Int)) (kt : ¬ rx = ry → kW p l e R s m args below meth c K A nL Q k n pl X lv tgt st) (kf : rx = ry → kW p l e R s m args below meth c K A nL Q k n pl X lv (pc + 3) st) : kW p l e R s m args below meth c K A nL Q k n pl X lv pc (vy :: vx :: st) := by
  subst hx
  subst hy
  exact fun H locs ls hP hD hS hl => lv_acmp_ne hC.1 hC.2.1 hd ht (fun h => kt h H locs ls hP hD hS hl) (fun h => kf h H locs ls hP hD hS hl)
/-- an object's class and that it is there -/
theorem kj_join {A0 : Nat → Prop} {D : va_G} {cl : List vw_C} {wc wr w1 : va_W} {H H1 : Heap} (hP : va_P D cl (wc ++ wr) H) (hD : va_D A0 (wc ++ wr)) (hk : ∀ q : Nat, q < H.size → ¬ va_A wc H.size q → H1[q]? = H[q]?) (hF : ∀ q, va_A wc H.size q → A0 q) (hP1 : va_P D cl w1 H1) (hD1 : va_D (va_A wc H.size) w1) : va_P D cl (w1 ++ wr) H1 ∧ va_D A0 (w1 ++ wr) := by
  have gt : ∀ (j : Nat) (q : Nat × va_E), wr[j]? = some q → (wc ++ wr)[wc.length + j]? = some q := fun j q hq => by
    rw [List.getElem?_append_right (Nat.le_add_right _ _), Nat.add_sub_cancel_left]; exact hq
  have apart : ∀ (j : Nat) (q : Nat × va_E), wr[j]? = some q → q.1 < H.size ∧ ¬ va_A wc H.size q.1 := by
    intro j q hq
    have hl := (hP _ q (gt j q hq)).lt
    refine ⟨hl, fun h => ?_⟩
    rcases h with ⟨k2, e, h⟩ | h
    · have h3 : k2 < wc.length := (List.getElem?_eq_some_iff.mp h).1
      have := hD.1 _ _ q (q.1, e) (gt j q hq) (kx_l h) rfl
      omega
    · omega
  have hDr : va_D A0 wr := ⟨fun i j x y hi hj hxy => by have := hD.1 _ _ x y (gt i x hi) (gt j y hj) hxy; omega, fun j q hq => hD.2 _ q (gt j q hq)⟩
  refine ⟨va_P.app hP1 (fun j q hq => ?_), va_D.app (hD1.weaken (fun _ q _ h => hF q.1 h)) hDr (fun i j x y hx hy hxy => ?_)⟩
  · obtain ⟨g1, g2⟩ := apart j q hq
    exact (hP _ q (gt j q hq)).kept (hk q.1 g1 g2)
  · exact (apart j y hy).2 (by rw [← hxy]; exact hD1.2 i x hx)
end KROWS
/-- a contract: from a world w (and anything beside it) to an answer and a world -/
def kPc (K : kE) (av : List Value) (w : va_W) (sz : Nat) : Array Value → State → Prop := va_Pc av (fun U => U.heap.size = sz ∧ va_P K.1 vwCl w U.heap ∧ va_D (fun _ => True) w ∧ kG K (va_A w sz) U)
def kQc (K : kE) (w : va_W) (sz : Nat) (Po : Option Value → va_W → Prop) : Array Value → State → Outcome → State → Prop := fun _ st oc t => (∃ (v : Option Value) (w' : va_W), oc = .returned v ∧ Po v w' ∧ va_P K.1 vwCl w' t.heap ∧ va_D (va_A w sz) w') ∧ va_F (va_A w sz) st t
def kXc (K : kE) (w : va_W) (sz : Nat) (Px : String → Prop) : String → State → State → Prop := fun E st t => Px E ∧ va_P K.1 vwCl w t.heap ∧ va_F (va_A w sz) st t
abbrev kws (y : MethodName) (cc : ByteArray) (maxL : Nat) (ret : Option FieldType) : List Cond := .code y cc maxL ret :: kALL
abbrev kwh (y : MethodName) (cc : ByteArray) (maxL : Nat) (ret : Option FieldType) (hh : List (Nat × Nat × Nat × Nat)) : List Cond := .codeWith y cc maxL ret hh :: kALL
def kM (l : Launch) (y : MethodName) (ws : List Cond) (rm : Room) (K : kE) (av : List Value) (w : va_W) (Po : Option Value → va_W → Prop) : Prop := ∀ sz : Nat, Met l y ws rm (kPc K av w sz) (kQc K w sz Po) rm.cells rm.slots (va_A w sz)
def kX (l : Launch) (y : MethodName) (ws : List Cond) (rm : Room) (K : kE) (av : List Value) (w : va_W) (Po : Option Value → va_W → Prop) (Px : String → Prop) : Prop := ∀ sz : Nat, vx_Met l y ws rm (kPc K av w sz) (kQc K w sz Po) (kXc K w sz Px) rm.cells rm.slots (va_A w sz)
theorem kPc_blind {K : kE} {av : List Value} {w : va_W} {sz : Nat} : FrameBlind (kPc K av w sz) := by
  intro a U g mk q
  obtain ⟨q0, q1, q2, q3, q4⟩ := q
  exact ⟨q0, q1, q2, q3, kG_same rfl rfl q4⟩
theorem kws_all : kALL.all goodWord = true := List.all_eq_true.mpr kALL_good
theorem kgood : GoodIn kALL kALL := fun w h => ⟨h, good_of_word (List.all_eq_true.mp kws_all w h)⟩
theorem kgood1 {w : Cond} {ws : List Cond} (h : w ∈ kALL) (hg : GoodIn kALL ws) : GoodIn kALL (w :: ws) := fun x hx => (List.mem_cons.mp hx).elim (fun e => by rw [e]; exact kgood w h) (hg x)
/-- the end of a body: how it returns, and what must hold then -/
def kEn (p : Program) (l : Launch) (e : Env) (R : Room) (s : State) (m : MethodId) (args : Array Value) (below : List Frame) (meth : Method) (c : Code) (K : kE) (A : Nat → Prop) (Q : State → Prop) (Po : Option Value → va_W → Prop) (ret : Option FieldType) (mc ms : Nat) : Prop :=
  meth.sig.returnType = ret ∧ ∃ Qc : Array Value → State → Outcome → State → Prop, (∀ (k n : Nat) (H : Heap) (locs : List Loc) (g : JFrame), k ≤ mc → n ≤ ms → W p l e R s m args below meth c H locs mc ms (MQ below Qc args s mc ms A) g → W p l e R s m args below meth c H locs k n Q g) ∧
    ∀ (v : Option Value) (w' : va_W) (H : Heap) (locs : List Loc) (t : State), Po v w' → va_P K.1 vwCl w' H → va_D A w' → va_S A s.heap H locs → t.heap = H → Qc args s (.returned v) t
section KENDS
variable {p : Program} {l : Launch} {e : Env} {R : Room} {s : State} {m : MethodId} {args : Array Value} {below : List Frame} {meth : Method} {c : Code} {K : kE} {A : Nat → Prop} {nL : Nat} {Q : State → Prop} {k n : Nat} {pl X : va_W} {lv : List (Nat × Value)} {pc : Nat} {st : List Value} {cc : ByteArray} {own : String}
theorem k_vret {Po : Option Value → va_W → Prop} {mc ms : Nat} (hC : kC p s m args meth c K A nL cc own) (hE : kEn p l e R s m args below meth c K A Q Po none mc ms) (hk : k ≤ mc) (hn : n ≤ ms) (hd : decode cc pc = .ok (.return_, 1)) (hp : Po none (X ++ pl)) : kW p l e R s m args below meth c K A nL Q k n pl X lv pc [] := by
  obtain ⟨h1, hb, h3, h4, h5, h6, h7, h8⟩ := hC
  obtain ⟨hr, Qc, hQ, hp2⟩ := hE
  exact fun H locs ls hP hD hS hl => hQ k n H locs _ hk hn (W.vret h1 hb hr (fun t ht _ => hp2 none (X ++ pl) H locs t hp hP hD hS ht) hS.2.2 hd h8)
theorem k_iret {Po : Option Value → va_W → Prop} {mc ms : Nat} {v : Int32} (hC : kC p s m args meth c K A nL cc own) (hE : kEn p l e R s m args below meth c K A Q Po (some .int) mc ms) (hk : k ≤ mc) (hn : n ≤ ms) (hd : decode cc pc = .ok (.ireturn, 1)) (hp : Po (some (.int v)) (X ++ pl)) : kW p l e R s m args below meth c K A nL Q k n pl X lv pc [.int v] := by
  obtain ⟨h1, hb, h3, h4, h5, h6, h7, h8⟩ := hC
  obtain ⟨hr, Qc, hQ, hp2⟩ := hE
  exact fun H locs ls hP hD hS hl => hQ k n H locs _ hk hn (W.iret h1 hb hr (fun t ht _ => hp2 _ (X ++ pl) H locs t hp hP hD hS ht) hS.2.2 hd h8)
theorem k_zret {Po : Option Value → va_W → Prop} {mc ms : Nat} {v : Int32} (hC : kC p s m args meth c K A nL cc own) (hE : kEn p l e R s m args below meth c K A Q Po (some .boolean) mc ms) (hk : k ≤ mc) (hn : n ≤ ms) (hv : narrow .boolean (.int v) = .int v) (hd : decode cc pc = .ok (.ireturn, 1)) (hp : Po (some (.int v)) (X ++ pl)) : kW p l e R s m args below meth c K A nL Q k n pl X lv pc [.int v] := by
  obtain ⟨h1, hb, h3, h4, h5, h6, h7, h8⟩ := hC
  obtain ⟨hr, Qc, hQ, hp2⟩ := hE
  exact fun H locs ls hP hD hS hl => hQ k n H locs _ hk hn (W.zret h1 hb hr hv (fun t ht _ => hp2 _ (X ++ pl) H locs t hp hP hD hS ht) hS.2.2 hd h8)
theorem k_aret {Po : Option Value → va_W → Prop} {mc ms : Nat} {a : Nat} {C : String} (hC : kC p s m args meth c K A nL cc own) (hE : kEn p l e R s m args below meth c K A Q Po (some (.object C)) mc ms) (hk : k ≤ mc) (hn : n ≤ ms) (hd : decode cc pc = .ok (.areturn, 1)) (hp : Po (some (.ref a)) (X ++ pl)) : kW p l e R s m args below meth c K A nL Q k n pl X lv pc [.ref a] := by
  obtain ⟨h1, hb, h3, h4, h5, h6, h7, h8⟩ := hC
  obtain ⟨hr, Qc, hQ, hp2⟩ := hE
  exact fun H locs ls hP hD hS hl => hQ k n H locs _ hk hn (W.aret h1 hb hr (Or.inl ⟨C, rfl⟩) (Or.inr ⟨a, rfl⟩) (fun t ht _ => hp2 _ (X ++ pl) H locs t hp hP hD hS ht) hS.2.2 hd h8)
/-- a callee's run, put back into the caller's world -/
theorem k_ofRun {wc wr : va_W} {mc ms : Nat} {stk : List Value} {a9 : Array Value} {Po : Option Value → va_W → Prop} (hX : X = wc ++ wr)
    (hr : ∀ (H : Heap) (locs : List Loc) (ls : Array Slot), va_P K.1 vwCl (X ++ pl) H → va_D A (X ++ pl) → va_S A s.heap H locs → lv_has ls nL lv → va_Run p l e R s m args below meth c H locs k n mc ms (F0 m pc ls stk) st (kQc K wc H.size Po a9) (va_A wc H.size))
    (hA : ∀ q : Nat, s.heap.size ≤ q → A q)
    (kk : ∀ (v : Option Value) (w' : va_W), Po v w' → kW p l e R s m args below meth c K A nL Q (k + mc) (n + ms) pl (w' ++ wr) lv (pc + 3) (v.toList ++ st)) : kW p l e R s m args below meth c K A nL Q k n pl X lv pc stk := by
  intro H locs ls hP hD hS hl T hT X9
  obtain ⟨v, st₀, t, T', L, h0, X', hL, e1, e2, ⟨⟨v', w', hv, hp, hPw, hDw⟩, hz, hk⟩, hst⟩ := hr H locs ls hP hD hS hl T hT X9
  cases hv
  subst hX
  rw [List.append_assoc] at hP hD
  have hF : ∀ q, va_A wc H.size q → A q := by
    intro q h
    rcases h with ⟨k2, e2, h⟩ | h
    · exact hD.2 k2 (q, e2) (kx_l h)
    · exact hA q (Nat.le_trans hS.1 h)
  rw [h0] at hz hk
  obtain ⟨j1, j2⟩ := kj_join hP hD hk hF hPw hDw
  rw [← List.append_assoc] at j1 j2
  obtain ⟨t2, a1, b1⟩ := kk v w' hp T'.heap (locs ++ L) ls (by rw [e1]; exact j1) j2
    ⟨Nat.le_trans hS.1 (by rw [e1]; exact hz), fun q h1 h2 => by rw [e1, hk q (Nat.lt_of_lt_of_le h1 hS.1) (fun z => h2 (hF q z))]; exact hS.2.1 q h1 h2, fun q hq => by
      rcases List.mem_append.mp hq with h | h
      · exact hS.2.2 q h
      · exact hF _ (hL q h)⟩ hl T' rfl X'
  exact ⟨t2, hst t2 a1, b1⟩
theorem k_pre {wc wr : va_W} {av : List Value} {H : Heap} {locs : List Loc} (hC : kC p s m args meth c K A nL cc own) (hX : X = wc ++ wr) (hP : va_P K.1 vwCl (X ++ pl) H) (hD : va_D A (X ++ pl)) (hS : va_S A s.heap H locs) : ∀ U : State, U.heap = H → s.WarmedH U.vm → kPc K av wc H.size av.toArray U := by
  intro U hU hW
  subst hX
  rw [List.append_assoc] at hP hD
  have hF : ∀ q, va_A wc H.size q → A q := by
    intro q h
    rcases h with ⟨k2, e2, h⟩ | h
    · exact hD.2 k2 (q, e2) (kx_l h)
    · exact hC.2.2.2.2.2.2.1 q (Nat.le_trans hS.1 h)
  refine ⟨rfl, by rw [hU], by rw [hU]; exact fun j q hq => hP j q (kx_l hq), ⟨fun i j x y hi hj hxy => hD.1 i j x y (kx_l hi) (kx_l hj) hxy, fun _ _ _ => trivial⟩, kG_call hC.2.2.2.2.2.1 hS hU hW hF⟩
theorem k_recv {wc wr : va_W} {H : Heap} {b i ci : Nat} {q : vw_C} {fs : List Value} (hC : kC p s m args meth c K A nL cc own) (hX : X = wc ++ wr) (hP : va_P K.1 vwCl (X ++ pl) H) (hc : vwCl[ci]? = some q) (he : wc[i]? = some (b, .inr (ci, fs))) : ∃ cellB : Cell, H[b]? = some cellB ∧ cellB.vm.isStatics = false ∧ s.vm.findClass q.1 = some cellB.cls := by
  subst hX
  exact va_recv hC.2.2.2.2.2.1.1 hP hc (kx_l (kx_l he))
/-- a call of a method of the own class, or of a public one -/
theorem k_callV {wc : va_W} {y : MethodName} {bytes : ByteArray} {maxL idx b ci N : Nat} {C : String} {T : u_T} {ret : Option FieldType} {rm : Room} {As : List Value} {fs : List Value} {Po : Option Value → va_W → Prop} {stk : List Value} (hC : kC p s m args meth c K A nL cc own) (hM : kM l y (kws y bytes maxL ret) rm K (.ref b :: As) wc Po) (wr : va_W) (hX : X = wc ++ wr) (i : Nat) (he : wc[i]? = some (b, .inr (ci, fs))) (hcl : vwCl[ci]? = some (C, T, N))
    (hT : ∀ w ∈ ([.methodLink own idx y, .instanceMethod y, .selects C y y, .initialized C, .code y bytes maxL ret] : List Cond), w ∈ kALL) (nn : Nat) (hdd : y.cls = C ∧ y.cls ≠ "java/lang/invoke/MethodHandle" ∧ y.cls ≠ "java/lang/invoke/VarHandle" ∧ (parseMethodDescriptor y.desc).map (fun d => d.parameters.length) = some nn) (hR : rm.frames + 1 ≤ R.frames ∧ 8 + (maxL + 11) + rm.locals ≤ R.locals)
    (hn : As.length = nn) (hst : stk = As.reverse ++ .ref b :: st) (h8 : (st.map fun v => v.category).sum ≤ 8) (hf : k + rm.cells ≤ R.cells ∧ n + rm.slots ≤ R.slots) (hd : decode cc pc = .ok (.invokevirtual idx, 3))
    (kk : ∀ (v : Option Value) (w' : va_W), Po v w' → kW p l e R s m args below meth c K A nL Q (k + rm.cells) (n + rm.slots) pl (w' ++ wr) lv (pc + 3) (v.toList ++ st)) : kW p l e R s m args below meth c K A nL Q k n pl X lv pc stk := by
  have hG : GoodIn kALL (wsV own idx C y (kws y bytes maxL ret)) := by
    intro w hw
    unfold wsV at hw
    rcases List.mem_append.mp hw with h | h
    · exact kgood w (hT w (by simp only [List.mem_cons] at h ⊢; grind))
    · exact kgood1 (hT _ (by simp)) kgood w h
  refine k_ofRun (a9 := (Value.ref b :: As).toArray) hX (fun H locs ls hP hD hS hl => ?_) hC.2.2.2.2.2.2.1 kk
  subst hst
  exact va_runV (As := As) (rest := st) (ws := kws y bytes maxL ret) ⟨hC.1, hC.2.1, hC.2.2.1, hC.2.2.2.1, hC.2.2.2.2.1⟩ (hM H.size) (cwV nn hC.2.2.2.2.1 hG rfl rfl rfl hdd hR) ⟨kPc_blind, k_recv hC hX hP hcl he, k_pre hC hX hP hD hS⟩ rfl hn hl.1 rfl (lv_room h8) hd hf
theorem k_callVN {wc : va_W} {y : MethodName} {bytes : ByteArray} {maxL idx b ci N : Nat} {C : String} {T : u_T} {ret : Option FieldType} {rm : Room} {As : List Value} {fs : List Value} {Po : Option Value → va_W → Prop} {stk : List Value} (hC : kC p s m args meth c K A nL cc own) (hM : kM l y (kws y bytes maxL ret) rm K (.ref b :: As) wc Po) (wr : va_W) (hX : X = wc ++ wr) (i : Nat) (he : wc[i]? = some (b, .inr (ci, fs))) (hcl : vwCl[ci]? = some (C, T, N))
    (hT : ∀ w ∈ ([.instanceMethod y, .selects C y y, .initialized y.cls, .code y bytes maxL ret] : List Cond), w ∈ kALL) (hl : (own, idx, y) ∈ kn_M) (nn : Nat) (hdd : y.cls ≠ "java/lang/invoke/MethodHandle" ∧ y.cls ≠ "java/lang/invoke/VarHandle" ∧ (parseMethodDescriptor y.desc).map (fun d => d.parameters.length) = some nn) (hR : rm.frames + 1 ≤ R.frames ∧ 8 + (maxL + 11) + rm.locals ≤ R.locals)
    (hn : As.length = nn) (hst : stk = As.reverse ++ .ref b :: st) (h8 : (st.map fun v => v.category).sum ≤ 8) (hf : k + rm.cells ≤ R.cells ∧ n + rm.slots ≤ R.slots) (hd : decode cc pc = .ok (.invokevirtual idx, 3))
    (kk : ∀ (v : Option Value) (w' : va_W), Po v w' → kW p l e R s m args below meth c K A nL Q (k + rm.cells) (n + rm.slots) pl (w' ++ wr) lv (pc + 3) (v.toList ++ st)) : kW p l e R s m args below meth c K A nL Q k n pl X lv pc stk := by
  refine k_ofRun (a9 := (Value.ref b :: As).toArray) hX (fun H locs ls hP hD hS hl9 => ?_) hC.2.2.2.2.2.2.1 kk
  subst hst
  have h5 := hC.2.2.2.2.1
  exact va_runVN (As := As) (rest := st) (ws := kws y bytes maxL ret) ⟨hC.1, hC.2.1, hC.2.2.1, hC.2.2.2.1, h5⟩ (hM H.size) ⟨va_cnB nn h5 (kgood1 (hT _ (by simp)) kgood) rfl rfl rfl (hC.2.2.2.2.2.1.2.2.1 _ hl) (h5 _ (hT _ (by simp))) hdd hR, h5 _ (hT _ (by simp)), h5 _ (hT _ (by simp))⟩ ⟨kPc_blind, k_recv hC hX hP hcl he, k_pre hC hX hP hD hS⟩ rfl hn hl9.1 rfl (lv_room h8) hd hf
theorem k_callIN {wc : va_W} {y : MethodName} {bytes : ByteArray} {maxL idx b : Nat} {rm : Room} {As : List Value} {Po : Option Value → va_W → Prop} {stk : List Value} (hC : kC p s m args meth c K A nL cc own) (hM : kM l y (kws y bytes maxL none) rm K (.ref b :: As) wc Po) (wr : va_W) (hX : X = wc ++ wr)
    (hT : ∀ w ∈ ([.instanceMethod y, .initialized y.cls, .code y bytes maxL none] : List Cond), w ∈ kALL) (hl : (own, idx, y) ∈ kn_M) (hy1 : y.name = "<init>") (nn : Nat) (hdd : y.cls ≠ "java/lang/invoke/MethodHandle" ∧ y.cls ≠ "java/lang/invoke/VarHandle" ∧ (parseMethodDescriptor y.desc).map (fun d => d.parameters.length) = some nn) (hR : rm.frames + 1 ≤ R.frames ∧ 8 + (maxL + 11) + rm.locals ≤ R.locals)
    (hn : As.length = nn) (hst : stk = As.reverse ++ .ref b :: st) (h8 : (st.map fun v => v.category).sum ≤ 8) (hf : k + rm.cells ≤ R.cells ∧ n + rm.slots ≤ R.slots) (hd : decode cc pc = .ok (.invokespecial idx, 3))
    (kk : ∀ (v : Option Value) (w' : va_W), Po v w' → kW p l e R s m args below meth c K A nL Q (k + rm.cells) (n + rm.slots) pl (w' ++ wr) lv (pc + 3) (v.toList ++ st)) : kW p l e R s m args below meth c K A nL Q k n pl X lv pc stk := by
  refine k_ofRun (a9 := (Value.ref b :: As).toArray) hX (fun H locs ls hP hD hS hl9 => ?_) hC.2.2.2.2.2.2.1 kk
  subst hst
  have h5 := hC.2.2.2.2.1
  exact va_runIN (As := As) (rest := st) (ws := kws y bytes maxL none) ⟨hC.1, hC.2.1, hC.2.2.1, hC.2.2.2.1, h5⟩ (hM H.size) ⟨va_cnB nn h5 (kgood1 (hT _ (by simp)) kgood) rfl rfl rfl (hC.2.2.2.2.2.1.2.2.1 _ hl) (h5 _ (hT _ (by simp))) hdd hR, hy1, h5 _ (hT _ (by simp))⟩ ⟨kPc_blind, k_pre hC hX hP hD hS⟩ rfl hn hl9.1 rfl (lv_room h8) hd hf
theorem k_callI {wc : va_W} {y : MethodName} {bytes : ByteArray} {maxL idx b : Nat} {rm : Room} {As : List Value} {Po : Option Value → va_W → Prop} {stk : List Value} (hC : kC p s m args meth c K A nL cc own) (hM : kM l y (kws y bytes maxL none) rm K (.ref b :: As) wc Po) (wr : va_W) (hX : X = wc ++ wr)
    (hT : ∀ w ∈ ([.methodLink own idx y, .instanceMethod y, .initialized y.cls, .code y bytes maxL none] : List Cond), w ∈ kALL) (hy1 : y.name = "<init>") (nn : Nat) (hdd : y.cls ≠ "java/lang/invoke/MethodHandle" ∧ y.cls ≠ "java/lang/invoke/VarHandle" ∧ (parseMethodDescriptor y.desc).map (fun d => d.parameters.length) = some nn) (hR : rm.frames + 1 ≤ R.frames ∧ 8 + (maxL + 11) + rm.locals ≤ R.locals)
    (hn : As.length = nn) (hst : stk = As.reverse ++ .ref b :: st) (h8 : (st.map fun v => v.category).sum ≤ 8) (hf : k + rm.cells ≤ R.cells ∧ n + rm.slots ≤ R.slots) (hd : decode cc pc = .ok (.invokespecial idx, 3))
    (kk : ∀ (v : Option Value) (w' : va_W), Po v w' → kW p l e R s m args below meth c K A nL Q (k + rm.cells) (n + rm.slots) pl (w' ++ wr) lv (pc + 3) (v.toList ++ st)) : kW p l e R s m args below meth c K A nL Q k n pl X lv pc stk := by
  refine k_ofRun (a9 := (Value.ref b :: As).toArray) hX (fun H locs ls hP hD hS hl9 => ?_) hC.2.2.2.2.2.2.1 kk
  subst hst
  have h5 := hC.2.2.2.2.1
  exact va_runI (As := As) (rest := st) (ws := kws y bytes maxL none) ⟨hC.1, hC.2.1, hC.2.2.1, hC.2.2.2.1, h5⟩ (hM H.size) (cwI nn h5 (kgood1 (hT _ (by simp)) kgood) rfl rfl rfl (h5 _ (hT _ (by simp))) (h5 _ (hT _ (by simp))) (h5 _ (hT _ (by simp))) hy1 hdd hR) ⟨kPc_blind, k_pre hC hX hP hD hS⟩ rfl hn hl9.1 rfl (lv_room h8) hd hf
theorem k_callS {wc : va_W} {y : MethodName} {bytes : ByteArray} {maxL idx : Nat} {ret : Option FieldType} {rm : Room} {As : List Value} {Po : Option Value → va_W → Prop} {stk : List Value} (hC : kC p s m args meth c K A nL cc own) (hM : kM l y (kws y bytes maxL ret) rm K As wc Po) (wr : va_W) (hX : X = wc ++ wr)
    (hT : ∀ w ∈ ([.methodLink own idx y, .static y, .initialized own, .code y bytes maxL ret] : List Cond), w ∈ kALL) (nn : Nat) (hdd : y.cls = own ∧ y.cls ≠ "java/lang/invoke/MethodHandle" ∧ y.cls ≠ "java/lang/invoke/VarHandle" ∧ (parseMethodDescriptor y.desc).map (fun d => d.parameters.length) = some nn) (hR : rm.frames + 1 ≤ R.frames ∧ 8 + (maxL + 11) + rm.locals ≤ R.locals)
    (hn : As.length = nn) (hst : stk = As.reverse ++ st) (h8 : (st.map fun v => v.category).sum ≤ 8) (hf : k + rm.cells ≤ R.cells ∧ n + rm.slots ≤ R.slots) (hd : decode cc pc = .ok (.invokestatic idx, 3))
    (kk : ∀ (v : Option Value) (w' : va_W), Po v w' → kW p l e R s m args below meth c K A nL Q (k + rm.cells) (n + rm.slots) pl (w' ++ wr) lv (pc + 3) (v.toList ++ st)) : kW p l e R s m args below meth c K A nL Q k n pl X lv pc stk := by
  have hG : GoodIn kALL (wsS own idx y (kws y bytes maxL ret)) := by
    intro w hw
    unfold wsS at hw
    rcases List.mem_append.mp hw with h | h
    · exact kgood w (hT w (by simp only [List.mem_cons] at h ⊢; grind))
    · exact kgood1 (hT _ (by simp)) kgood w h
  refine k_ofRun (a9 := As.toArray) hX (fun H locs ls hP hD hS hl9 => ?_) hC.2.2.2.2.2.2.1 kk
  subst hst
  have h5 := hC.2.2.2.2.1
  exact va_runS (As := As) (rest := st) (ws := kws y bytes maxL ret) ⟨hC.1, hC.2.1, hC.2.2.1, hC.2.2.2.1, h5⟩ (hM H.size) (cwS nn h5 hG rfl rfl rfl hdd hR) ⟨kPc_blind, k_pre hC hX hP hD hS⟩ rfl hn hl9.1 rfl (lv_room h8) hd hf
end KENDS
/-- a contract out of its body -/
theorem kM_of {l : Launch} {y : MethodName} {cc : ByteArray} {maxL : Nat} {ret : Option FieldType} {rm : Room} {K : kE} {av : List Value} {pl X w : va_W} {Po : Option Value → va_W → Prop} (hw : w = X ++ pl) (hy : plainName y.cls = true) (hav : (lg_sl av).length ≤ maxL)
    (body : ∀ (p : Program) (e : Env) (s : State) (m : MethodId) (args : Array Value) (below : List Frame) (meth : Method) (c : Code) (A : Nat → Prop) (Q : State → Prop), kC p s m args meth c K A maxL cc y.cls → meth.name = y.name → kEn p l e rm s m args below meth c K A Q Po ret rm.cells rm.slots → kW p l e rm s m args below meth c K A maxL Q 0 0 pl X (lv_args 0 av) 0 []) : kM l y (kws y cc maxL ret) rm K av w Po := by
  intro sz
  refine Met.ofW (cc := cc) (maxL := maxL) (ret := ret) hy rfl ?_
  intro p e s m args below meth c s₁ B hml hv
  obtain ⟨rfl, hsz, hP, hD0, hG⟩ := hv
  have hts := atoms_spec (ws := kws y cc maxL ret) B.pre
  have hown : s.vm.findClass y.cls = some m.cls := findClass_of_methodNamed B.named
  subst hsz
  have hA : ∀ q : Nat, s.heap.size ≤ q → va_A w s.heap.size q := fun q h => Or.inr h
  have hl := lv_entry av (n := maxL) hav
  rw [lg_entry_eq]
  generalize (lg_sl av ++ List.replicate (maxL - (lg_sl av).length) Slot.unset).toArray = ls at hl ⊢
  refine body p e s m av.toArray below meth c (va_A w s.heap.size) _ ⟨B.exec, B.bytes, hml, hown, fun w hw => hts w (List.mem_cons_of_mem _ hw), hG, hA, B.notSynchronized⟩ (name_of_methodNamed B.named B.method).1 ⟨B.returns, kQc K w s.heap.size Po, fun k n H locs g h1 h2 h3 => W.widen h1 h2 h3, fun v w' H locs t hp hP hD hS ht => ⟨⟨v, w', rfl, hp, by rw [ht]; exact hP, hD⟩, hS.F ht⟩⟩ s.heap [] ls (hw ▸ hP) (hw ▸ hD0.self) va_S.rf hl
end
section
theorem dX0_init_0 : decode cX0_init 0 = .ok (.aload_n 0, 1) := by decide +kernel
theorem dX0_init_1 : decode cX0_init 1 = .ok (.invokespecial 3, 3) := by decide +kernel
theorem dX0_init_4 : decode cX0_init 4 = .ok (.aload_n 0, 1) := by decide +kernel
theorem dX0_init_5 : decode cX0_init 5 = .ok (.iconst 5, 1) := by decide +kernel
theorem dX0_init_6 : decode cX0_init 6 = .ok (.newarray .int, 2) := by decide +kernel
theorem dX0_init_8 : decode cX0_init 8 = .ok (.putfield 9, 3) := by decide +kernel
theorem dX0_init_11 : decode cX0_init 11 = .ok (.aload_n 0, 1) := by decide +kernel
theorem dX0_init_12 : decode cX0_init 12 = .ok (.iconst 5, 1) := by decide +kernel
theorem dX0_init_13 : decode cX0_init 13 = .ok (.newarray .int, 2) := by decide +kernel
theorem dX0_init_15 : decode cX0_init 15 = .ok (.putfield 15, 3) := by decide +kernel
theorem dX0_init_18 : decode cX0_init 18 = .ok (.aload_n 0, 1) := by decide +kernel
theorem dX0_init_19 : decode cX0_init 19 = .ok (.iconst 0, 1) := by decide +kernel
theorem dX0_init_20 : decode cX0_init 20 = .ok (.putfield 18, 3) := by decide +kernel
theorem dX0_init_23 : decode cX0_init 23 = .ok (.return_, 1) := by decide +kernel
theorem dX0_allUnits_0 : decode cX0_allUnits 0 = .ok (.iconst 0, 1) := by decide +kernel
theorem dX0_allUnits_1 : decode cX0_allUnits 1 = .ok (.istore_n 1, 1) := by decide +kernel
theorem dX0_allUnits_2 : decode cX0_allUnits 2 = .ok (.iconst 0, 1) := by decide +kernel
theorem dX0_allUnits_3 : decode cX0_allUnits 3 = .ok (.istore_n 2, 1) := by decide +kernel
theorem dX0_allUnits_4 : decode cX0_allUnits 4 = .ok (.iload_n 2, 1) := by decide +kernel
theorem dX0_allUnits_5 : decode cX0_allUnits 5 = .ok (.aload_n 0, 1) := by decide +kernel
theorem dX0_allUnits_6 : decode cX0_allUnits 6 = .ok (.getfield 18, 3) := by decide +kernel
theorem dX0_allUnits_9 : decode cX0_allUnits 9 = .ok (.if_icmp .ge 23, 3) := by decide +kernel
theorem dX0_allUnits_12 : decode cX0_allUnits 12 = .ok (.iload_n 2, 1) := by decide +kernel
theorem dX0_allUnits_13 : decode cX0_allUnits 13 = .ok (.iconst 5, 1) := by decide +kernel
theorem dX0_allUnits_14 : decode cX0_allUnits 14 = .ok (.if_icmp .ge 18, 3) := by decide +kernel
theorem dX0_allUnits_17 : decode cX0_allUnits 17 = .ok (.iload_n 1, 1) := by decide +kernel
theorem dX0_allUnits_18 : decode cX0_allUnits 18 = .ok (.aload_n 0, 1) := by decide +kernel
theorem dX0_allUnits_19 : decode cX0_allUnits 19 = .ok (.getfield 9, 3) := by decide +kernel
theorem dX0_allUnits_22 : decode cX0_allUnits 22 = .ok (.iload_n 2, 1) := by decide +kernel
theorem dX0_allUnits_23 : decode cX0_allUnits 23 = .ok (.iaload, 1) := by decide +kernel
theorem dX0_allUnits_24 : decode cX0_allUnits 24 = .ok (.iadd, 1) := by decide +kernel
theorem dX0_allUnits_25 : decode cX0_allUnits 25 = .ok (.istore_n 1, 1) := by decide +kernel
theorem dX0_allUnits_26 : decode cX0_allUnits 26 = .ok (.iinc 2 1, 3) := by decide +kernel
theorem dX0_allUnits_29 : decode cX0_allUnits 29 = .ok (.goto (-25), 3) := by decide +kernel
theorem dX0_allUnits_32 : decode cX0_allUnits 32 = .ok (.iload_n 1, 1) := by decide +kernel
theorem dX0_allUnits_33 : decode cX0_allUnits 33 = .ok (.ireturn, 1) := by decide +kernel
theorem dX0_add_0 : decode cX0_add 0 = .ok (.aload_n 0, 1) := by decide +kernel
theorem dX0_add_1 : decode cX0_add 1 = .ok (.getfield 18, 3) := by decide +kernel
theorem dX0_add_4 : decode cX0_add 4 = .ok (.ifCond .lt 41, 3) := by decide +kernel
theorem dX0_add_7 : decode cX0_add 7 = .ok (.aload_n 0, 1) := by decide +kernel
theorem dX0_add_8 : decode cX0_add 8 = .ok (.getfield 18, 3) := by decide +kernel
theorem dX0_add_11 : decode cX0_add 11 = .ok (.iconst 5, 1) := by decide +kernel
theorem dX0_add_12 : decode cX0_add 12 = .ok (.if_icmp .ge 33, 3) := by decide +kernel
theorem dX0_add_15 : decode cX0_add 15 = .ok (.aload_n 0, 1) := by decide +kernel
theorem dX0_add_16 : decode cX0_add 16 = .ok (.getfield 9, 3) := by decide +kernel
theorem dX0_add_19 : decode cX0_add 19 = .ok (.aload_n 0, 1) := by decide +kernel
theorem dX0_add_20 : decode cX0_add 20 = .ok (.getfield 18, 3) := by decide +kernel
theorem dX0_add_23 : decode cX0_add 23 = .ok (.iload_n 1, 1) := by decide +kernel
theorem dX0_add_24 : decode cX0_add 24 = .ok (.iastore, 1) := by decide +kernel
theorem dX0_add_25 : decode cX0_add 25 = .ok (.aload_n 0, 1) := by decide +kernel
theorem dX0_add_26 : decode cX0_add 26 = .ok (.getfield 15, 3) := by decide +kernel
theorem dX0_add_29 : decode cX0_add 29 = .ok (.aload_n 0, 1) := by decide +kernel
theorem dX0_add_30 : decode cX0_add 30 = .ok (.getfield 18, 3) := by decide +kernel
theorem dX0_add_33 : decode cX0_add 33 = .ok (.iload_n 2, 1) := by decide +kernel
theorem dX0_add_34 : decode cX0_add 34 = .ok (.iastore, 1) := by decide +kernel
theorem dX0_add_35 : decode cX0_add 35 = .ok (.aload_n 0, 1) := by decide +kernel
theorem dX0_add_36 : decode cX0_add 36 = .ok (.dup, 1) := by decide +kernel
theorem dX0_add_37 : decode cX0_add 37 = .ok (.getfield 18, 3) := by decide +kernel
theorem dX0_add_40 : decode cX0_add 40 = .ok (.iconst 1, 1) := by decide +kernel
theorem dX0_add_41 : decode cX0_add 41 = .ok (.iadd, 1) := by decide +kernel
theorem dX0_add_42 : decode cX0_add 42 = .ok (.putfield 18, 3) := by decide +kernel
theorem dX0_add_45 : decode cX0_add 45 = .ok (.return_, 1) := by decide +kernel
theorem dX0_bringTo_0 : decode cX0_bringTo 0 = .ok (.iconst 0, 1) := by decide +kernel
theorem dX0_bringTo_1 : decode cX0_bringTo 1 = .ok (.istore_n 2, 1) := by decide +kernel
theorem dX0_bringTo_2 : decode cX0_bringTo 2 = .ok (.iconst 0, 1) := by decide +kernel
theorem dX0_bringTo_3 : decode cX0_bringTo 3 = .ok (.istore_n 3, 1) := by decide +kernel
theorem dX0_bringTo_4 : decode cX0_bringTo 4 = .ok (.iload_n 3, 1) := by decide +kernel
theorem dX0_bringTo_5 : decode cX0_bringTo 5 = .ok (.aload_n 0, 1) := by decide +kernel
theorem dX0_bringTo_6 : decode cX0_bringTo 6 = .ok (.getfield 18, 3) := by decide +kernel
theorem dX0_bringTo_9 : decode cX0_bringTo 9 = .ok (.if_icmp .ge 65, 3) := by decide +kernel
theorem dX0_bringTo_12 : decode cX0_bringTo 12 = .ok (.iload_n 3, 1) := by decide +kernel
theorem dX0_bringTo_13 : decode cX0_bringTo 13 = .ok (.iconst 5, 1) := by decide +kernel
theorem dX0_bringTo_14 : decode cX0_bringTo 14 = .ok (.if_icmp .ge 60, 3) := by decide +kernel
theorem dX0_bringTo_17 : decode cX0_bringTo 17 = .ok (.aload_n 0, 1) := by decide +kernel
theorem dX0_bringTo_18 : decode cX0_bringTo 18 = .ok (.getfield 15, 3) := by decide +kernel
theorem dX0_bringTo_21 : decode cX0_bringTo 21 = .ok (.iload_n 3, 1) := by decide +kernel
theorem dX0_bringTo_22 : decode cX0_bringTo 22 = .ok (.iaload, 1) := by decide +kernel
theorem dX0_bringTo_23 : decode cX0_bringTo 23 = .ok (.iconst 1, 1) := by decide +kernel
theorem dX0_bringTo_24 : decode cX0_bringTo 24 = .ok (.isub, 1) := by decide +kernel
theorem dX0_bringTo_25 : decode cX0_bringTo 25 = .ok (.istore 4, 2) := by decide +kernel
theorem dX0_bringTo_27 : decode cX0_bringTo 27 = .ok (.iload 4, 2) := by decide +kernel
theorem dX0_bringTo_29 : decode cX0_bringTo 29 = .ok (.ifCond .le 29, 3) := by decide +kernel
theorem dX0_bringTo_32 : decode cX0_bringTo 32 = .ok (.aload_n 0, 1) := by decide +kernel
theorem dX0_bringTo_33 : decode cX0_bringTo 33 = .ok (.getfield 9, 3) := by decide +kernel
theorem dX0_bringTo_36 : decode cX0_bringTo 36 = .ok (.iload_n 2, 1) := by decide +kernel
theorem dX0_bringTo_37 : decode cX0_bringTo 37 = .ok (.aload_n 0, 1) := by decide +kernel
theorem dX0_bringTo_38 : decode cX0_bringTo 38 = .ok (.getfield 9, 3) := by decide +kernel
theorem dX0_bringTo_41 : decode cX0_bringTo 41 = .ok (.iload_n 3, 1) := by decide +kernel
theorem dX0_bringTo_42 : decode cX0_bringTo 42 = .ok (.iaload, 1) := by decide +kernel
theorem dX0_bringTo_43 : decode cX0_bringTo 43 = .ok (.iastore, 1) := by decide +kernel
theorem dX0_bringTo_44 : decode cX0_bringTo 44 = .ok (.aload_n 0, 1) := by decide +kernel
theorem dX0_bringTo_45 : decode cX0_bringTo 45 = .ok (.getfield 15, 3) := by decide +kernel
theorem dX0_bringTo_48 : decode cX0_bringTo 48 = .ok (.iload_n 2, 1) := by decide +kernel
theorem dX0_bringTo_49 : decode cX0_bringTo 49 = .ok (.iload 4, 2) := by decide +kernel
theorem dX0_bringTo_51 : decode cX0_bringTo 51 = .ok (.iastore, 1) := by decide +kernel
theorem dX0_bringTo_52 : decode cX0_bringTo 52 = .ok (.iinc 2 1, 3) := by decide +kernel
theorem dX0_bringTo_55 : decode cX0_bringTo 55 = .ok (.goto 13, 3) := by decide +kernel
theorem dX0_bringTo_58 : decode cX0_bringTo 58 = .ok (.aload_n 1, 1) := by decide +kernel
theorem dX0_bringTo_59 : decode cX0_bringTo 59 = .ok (.aload_n 0, 1) := by decide +kernel
theorem dX0_bringTo_60 : decode cX0_bringTo 60 = .ok (.getfield 9, 3) := by decide +kernel
theorem dX0_bringTo_63 : decode cX0_bringTo 63 = .ok (.iload_n 3, 1) := by decide +kernel
theorem dX0_bringTo_64 : decode cX0_bringTo 64 = .ok (.iaload, 1) := by decide +kernel
theorem dX0_bringTo_65 : decode cX0_bringTo 65 = .ok (.invokevirtual 22, 3) := by decide +kernel
theorem dX0_bringTo_68 : decode cX0_bringTo 68 = .ok (.iinc 3 1, 3) := by decide +kernel
theorem dX0_bringTo_71 : decode cX0_bringTo 71 = .ok (.goto (-67), 3) := by decide +kernel
theorem dX0_bringTo_74 : decode cX0_bringTo 74 = .ok (.aload_n 0, 1) := by decide +kernel
theorem dX0_bringTo_75 : decode cX0_bringTo 75 = .ok (.iload_n 2, 1) := by decide +kernel
theorem dX0_bringTo_76 : decode cX0_bringTo 76 = .ok (.putfield 18, 3) := by decide +kernel
theorem dX0_bringTo_79 : decode cX0_bringTo 79 = .ok (.return_, 1) := by decide +kernel
theorem dX1_init_0 : decode cX1_init 0 = .ok (.aload_n 0, 1) := by decide +kernel
theorem dX1_init_1 : decode cX1_init 1 = .ok (.invokespecial 1, 3) := by decide +kernel
theorem dX1_init_4 : decode cX1_init 4 = .ok (.aload_n 0, 1) := by decide +kernel
theorem dX1_init_5 : decode cX1_init 5 = .ok (.aload_n 1, 1) := by decide +kernel
theorem dX1_init_6 : decode cX1_init 6 = .ok (.putfield 7, 3) := by decide +kernel
theorem dX1_init_9 : decode cX1_init 9 = .ok (.aload_n 0, 1) := by decide +kernel
theorem dX1_init_10 : decode cX1_init 10 = .ok (.aload_n 1, 1) := by decide +kernel
theorem dX1_init_11 : decode cX1_init 11 = .ok (.ifnonnull 7, 3) := by decide +kernel
theorem dX1_init_14 : decode cX1_init 14 = .ok (.iconst 0, 1) := by decide +kernel
theorem dX1_init_15 : decode cX1_init 15 = .ok (.goto 9, 3) := by decide +kernel
theorem dX1_init_18 : decode cX1_init 18 = .ok (.aload_n 1, 1) := by decide +kernel
theorem dX1_init_19 : decode cX1_init 19 = .ok (.getfield 13, 3) := by decide +kernel
theorem dX1_init_22 : decode cX1_init 22 = .ok (.iconst 1, 1) := by decide +kernel
theorem dX1_init_23 : decode cX1_init 23 = .ok (.iadd, 1) := by decide +kernel
theorem dX1_init_24 : decode cX1_init 24 = .ok (.putfield 13, 3) := by decide +kernel
theorem dX1_init_27 : decode cX1_init 27 = .ok (.aload_n 0, 1) := by decide +kernel
theorem dX1_init_28 : decode cX1_init 28 = .ok (.iload_n 3, 1) := by decide +kernel
theorem dX1_init_29 : decode cX1_init 29 = .ok (.putfield 17, 3) := by decide +kernel
theorem dX1_init_32 : decode cX1_init 32 = .ok (.aload_n 0, 1) := by decide +kernel
theorem dX1_init_33 : decode cX1_init 33 = .ok (.iload 4, 2) := by decide +kernel
theorem dX1_init_35 : decode cX1_init 35 = .ok (.putfield 20, 3) := by decide +kernel
theorem dX1_init_38 : decode cX1_init 38 = .ok (.aload_n 0, 1) := by decide +kernel
theorem dX1_init_39 : decode cX1_init 39 = .ok (.iload 5, 2) := by decide +kernel
theorem dX1_init_41 : decode cX1_init 41 = .ok (.putfield 23, 3) := by decide +kernel
theorem dX1_init_44 : decode cX1_init 44 = .ok (.aload_n 0, 1) := by decide +kernel
theorem dX1_init_45 : decode cX1_init 45 = .ok (.iload_n 2, 1) := by decide +kernel
theorem dX1_init_46 : decode cX1_init 46 = .ok (.putfield 26, 3) := by decide +kernel
theorem dX1_init_49 : decode cX1_init 49 = .ok (.aload_n 0, 1) := by decide +kernel
theorem dX1_init_50 : decode cX1_init 50 = .ok (.iload 6, 2) := by decide +kernel
theorem dX1_init_52 : decode cX1_init 52 = .ok (.ifCond .eq 7, 3) := by decide +kernel
theorem dX1_init_55 : decode cX1_init 55 = .ok (.iconst 0, 1) := by decide +kernel
theorem dX1_init_56 : decode cX1_init 56 = .ok (.goto 4, 3) := by decide +kernel
theorem dX1_init_59 : decode cX1_init 59 = .ok (.iload_n 2, 1) := by decide +kernel
theorem dX1_init_60 : decode cX1_init 60 = .ok (.putfield 29, 3) := by decide +kernel
theorem dX1_init_63 : decode cX1_init 63 = .ok (.aload_n 0, 1) := by decide +kernel
theorem dX1_init_64 : decode cX1_init 64 = .ok (.new 32, 3) := by decide +kernel
theorem dX1_init_67 : decode cX1_init 67 = .ok (.dup, 1) := by decide +kernel
theorem dX1_init_68 : decode cX1_init 68 = .ok (.iload 6, 2) := by decide +kernel
theorem dX1_init_70 : decode cX1_init 70 = .ok (.ifCond .eq 7, 3) := by decide +kernel
theorem dX1_init_73 : decode cX1_init 73 = .ok (.iload_n 2, 1) := by decide +kernel
theorem dX1_init_74 : decode cX1_init 74 = .ok (.goto 4, 3) := by decide +kernel
theorem dX1_init_77 : decode cX1_init 77 = .ok (.iconst 0, 1) := by decide +kernel
theorem dX1_init_78 : decode cX1_init 78 = .ok (.iload_n 3, 1) := by decide +kernel
theorem dX1_init_79 : decode cX1_init 79 = .ok (.invokespecial 34, 3) := by decide +kernel
theorem dX1_init_82 : decode cX1_init 82 = .ok (.putfield 37, 3) := by decide +kernel
theorem dX1_init_85 : decode cX1_init 85 = .ok (.aload_n 0, 1) := by decide +kernel
theorem dX1_init_86 : decode cX1_init 86 = .ok (.new 32, 3) := by decide +kernel
theorem dX1_init_89 : decode cX1_init 89 = .ok (.dup, 1) := by decide +kernel
theorem dX1_init_90 : decode cX1_init 90 = .ok (.iconst 0, 1) := by decide +kernel
theorem dX1_init_91 : decode cX1_init 91 = .ok (.iconst 0, 1) := by decide +kernel
theorem dX1_init_92 : decode cX1_init 92 = .ok (.invokespecial 34, 3) := by decide +kernel
theorem dX1_init_95 : decode cX1_init 95 = .ok (.putfield 41, 3) := by decide +kernel
theorem dX1_init_98 : decode cX1_init 98 = .ok (.aload_n 0, 1) := by decide +kernel
theorem dX1_init_99 : decode cX1_init 99 = .ok (.new 44, 3) := by decide +kernel
theorem dX1_init_102 : decode cX1_init 102 = .ok (.dup, 1) := by decide +kernel
theorem dX1_init_103 : decode cX1_init 103 = .ok (.invokespecial 46, 3) := by decide +kernel
theorem dX1_init_106 : decode cX1_init 106 = .ok (.putfield 47, 3) := by decide +kernel
theorem dX1_init_109 : decode cX1_init 109 = .ok (.aload_n 0, 1) := by decide +kernel
theorem dX1_init_110 : decode cX1_init 110 = .ok (.aload_n 1, 1) := by decide +kernel
theorem dX1_init_111 : decode cX1_init 111 = .ok (.ifnonnull 7, 3) := by decide +kernel
theorem dX1_init_114 : decode cX1_init 114 = .ok (.iconst 0, 1) := by decide +kernel
theorem dX1_init_115 : decode cX1_init 115 = .ok (.goto 4, 3) := by decide +kernel
theorem dX1_init_118 : decode cX1_init 118 = .ok (.iconst 1, 1) := by decide +kernel
theorem dX1_init_119 : decode cX1_init 119 = .ok (.putfield 51, 3) := by decide +kernel
theorem dX1_init_122 : decode cX1_init 122 = .ok (.aload_n 0, 1) := by decide +kernel
theorem dX1_init_123 : decode cX1_init 123 = .ok (.aload_n 0, 1) := by decide +kernel
theorem dX1_init_124 : decode cX1_init 124 = .ok (.getfield 51, 3) := by decide +kernel
theorem dX1_init_127 : decode cX1_init 127 = .ok (.putfield 54, 3) := by decide +kernel
theorem dX1_init_130 : decode cX1_init 130 = .ok (.aload_n 0, 1) := by decide +kernel
theorem dX1_init_131 : decode cX1_init 131 = .ok (.iload 6, 2) := by decide +kernel
theorem dX1_init_133 : decode cX1_init 133 = .ok (.ifCond .eq 9, 3) := by decide +kernel
theorem dX1_init_136 : decode cX1_init 136 = .ok (.iload_n 2, 1) := by decide +kernel
theorem dX1_init_137 : decode cX1_init 137 = .ok (.iload_n 3, 1) := by decide +kernel
theorem dX1_init_138 : decode cX1_init 138 = .ok (.imul, 1) := by decide +kernel
theorem dX1_init_139 : decode cX1_init 139 = .ok (.goto 4, 3) := by decide +kernel
theorem dX1_init_142 : decode cX1_init 142 = .ok (.iconst 0, 1) := by decide +kernel
theorem dX1_init_143 : decode cX1_init 143 = .ok (.putfield 57, 3) := by decide +kernel
theorem dX1_init_146 : decode cX1_init 146 = .ok (.return_, 1) := by decide +kernel
theorem dX1_unitsHeld_0 : decode cX1_unitsHeld 0 = .ok (.aload_n 0, 1) := by decide +kernel
theorem dX1_unitsHeld_1 : decode cX1_unitsHeld 1 = .ok (.getfield 60, 3) := by decide +kernel
theorem dX1_unitsHeld_4 : decode cX1_unitsHeld 4 = .ok (.ifCond .le 10, 3) := by decide +kernel
theorem dX1_unitsHeld_7 : decode cX1_unitsHeld 7 = .ok (.aload_n 0, 1) := by decide +kernel
theorem dX1_unitsHeld_8 : decode cX1_unitsHeld 8 = .ok (.getfield 17, 3) := by decide +kernel
theorem dX1_unitsHeld_11 : decode cX1_unitsHeld 11 = .ok (.goto 4, 3) := by decide +kernel
theorem dX1_unitsHeld_14 : decode cX1_unitsHeld 14 = .ok (.iconst 0, 1) := by decide +kernel
theorem dX1_unitsHeld_15 : decode cX1_unitsHeld 15 = .ok (.istore_n 1, 1) := by decide +kernel
theorem dX1_unitsHeld_16 : decode cX1_unitsHeld 16 = .ok (.aload_n 0, 1) := by decide +kernel
theorem dX1_unitsHeld_17 : decode cX1_unitsHeld 17 = .ok (.getfield 37, 3) := by decide +kernel
theorem dX1_unitsHeld_20 : decode cX1_unitsHeld 20 = .ok (.invokevirtual 63, 3) := by decide +kernel
theorem dX1_unitsHeld_23 : decode cX1_unitsHeld 23 = .ok (.aload_n 0, 1) := by decide +kernel
theorem dX1_unitsHeld_24 : decode cX1_unitsHeld 24 = .ok (.getfield 41, 3) := by decide +kernel
theorem dX1_unitsHeld_27 : decode cX1_unitsHeld 27 = .ok (.invokevirtual 63, 3) := by decide +kernel
theorem dX1_unitsHeld_30 : decode cX1_unitsHeld 30 = .ok (.iadd, 1) := by decide +kernel
theorem dX1_unitsHeld_31 : decode cX1_unitsHeld 31 = .ok (.aload_n 0, 1) := by decide +kernel
theorem dX1_unitsHeld_32 : decode cX1_unitsHeld 32 = .ok (.getfield 47, 3) := by decide +kernel
theorem dX1_unitsHeld_35 : decode cX1_unitsHeld 35 = .ok (.invokevirtual 67, 3) := by decide +kernel
theorem dX1_unitsHeld_38 : decode cX1_unitsHeld 38 = .ok (.iadd, 1) := by decide +kernel
theorem dX1_unitsHeld_39 : decode cX1_unitsHeld 39 = .ok (.iload_n 1, 1) := by decide +kernel
theorem dX1_unitsHeld_40 : decode cX1_unitsHeld 40 = .ok (.iadd, 1) := by decide +kernel
theorem dX1_unitsHeld_41 : decode cX1_unitsHeld 41 = .ok (.ireturn, 1) := by decide +kernel
theorem dX1_work_0 : decode cX1_work 0 = .ok (.aload_n 0, 1) := by decide +kernel
theorem dX1_work_1 : decode cX1_work 1 = .ok (.getfield 68, 3) := by decide +kernel
theorem dX1_work_4 : decode cX1_work 4 = .ok (.ifCond .eq 4, 3) := by decide +kernel
theorem dX1_work_7 : decode cX1_work 7 = .ok (.return_, 1) := by decide +kernel
theorem dX1_work_8 : decode cX1_work 8 = .ok (.aload_n 0, 1) := by decide +kernel
theorem dX1_work_9 : decode cX1_work 9 = .ok (.invokevirtual 72, 3) := by decide +kernel
theorem dX1_work_12 : decode cX1_work 12 = .ok (.aload_n 0, 1) := by decide +kernel
theorem dX1_work_13 : decode cX1_work 13 = .ok (.getfield 60, 3) := by decide +kernel
theorem dX1_work_16 : decode cX1_work 16 = .ok (.ifCond .le 4, 3) := by decide +kernel
theorem dX1_work_19 : decode cX1_work 19 = .ok (.return_, 1) := by decide +kernel
theorem dX1_work_20 : decode cX1_work 20 = .ok (.aload_n 0, 1) := by decide +kernel
theorem dX1_work_21 : decode cX1_work 21 = .ok (.getfield 75, 3) := by decide +kernel
theorem dX1_work_24 : decode cX1_work 24 = .ok (.ifCond .ne 22, 3) := by decide +kernel
theorem dX1_work_27 : decode cX1_work 27 = .ok (.aload_n 0, 1) := by decide +kernel
theorem dX1_work_28 : decode cX1_work 28 = .ok (.getfield 29, 3) := by decide +kernel
theorem dX1_work_31 : decode cX1_work 31 = .ok (.aload_n 0, 1) := by decide +kernel
theorem dX1_work_32 : decode cX1_work 32 = .ok (.getfield 23, 3) := by decide +kernel
theorem dX1_work_35 : decode cX1_work 35 = .ok (.if_icmp .lt 11, 3) := by decide +kernel
theorem dX1_work_38 : decode cX1_work 38 = .ok (.aload_n 0, 1) := by decide +kernel
theorem dX1_work_39 : decode cX1_work 39 = .ok (.aload_n 0, 1) := by decide +kernel
theorem dX1_work_40 : decode cX1_work 40 = .ok (.getfield 29, 3) := by decide +kernel
theorem dX1_work_43 : decode cX1_work 43 = .ok (.putfield 75, 3) := by decide +kernel
theorem dX1_work_46 : decode cX1_work 46 = .ok (.aload_n 0, 1) := by decide +kernel
theorem dX1_work_47 : decode cX1_work 47 = .ok (.getfield 75, 3) := by decide +kernel
theorem dX1_work_50 : decode cX1_work 50 = .ok (.ifCond .ne 4, 3) := by decide +kernel
theorem dX1_work_53 : decode cX1_work 53 = .ok (.return_, 1) := by decide +kernel
theorem dX1_work_54 : decode cX1_work 54 = .ok (.aload_n 0, 1) := by decide +kernel
theorem dX1_work_55 : decode cX1_work 55 = .ok (.getfield 7, 3) := by decide +kernel
theorem dX1_work_58 : decode cX1_work 58 = .ok (.ifnull 28, 3) := by decide +kernel
theorem dX1_work_61 : decode cX1_work 61 = .ok (.aload_n 0, 1) := by decide +kernel
theorem dX1_work_62 : decode cX1_work 62 = .ok (.getfield 41, 3) := by decide +kernel
theorem dX1_work_65 : decode cX1_work 65 = .ok (.invokevirtual 63, 3) := by decide +kernel
theorem dX1_work_68 : decode cX1_work 68 = .ok (.aload_n 0, 1) := by decide +kernel
theorem dX1_work_69 : decode cX1_work 69 = .ok (.getfield 17, 3) := by decide +kernel
theorem dX1_work_72 : decode cX1_work 72 = .ok (.if_icmp .ge 14, 3) := by decide +kernel
theorem dX1_work_75 : decode cX1_work 75 = .ok (.aload_n 0, 1) := by decide +kernel
theorem dX1_work_76 : decode cX1_work 76 = .ok (.dup, 1) := by decide +kernel
theorem dX1_work_77 : decode cX1_work 77 = .ok (.getfield 78, 3) := by decide +kernel
theorem dX1_work_80 : decode cX1_work 80 = .ok (.iconst 1, 1) := by decide +kernel
theorem dX1_work_81 : decode cX1_work 81 = .ok (.iadd, 1) := by decide +kernel
theorem dX1_work_82 : decode cX1_work 82 = .ok (.putfield 78, 3) := by decide +kernel
theorem dX1_work_85 : decode cX1_work 85 = .ok (.return_, 1) := by decide +kernel
theorem dX1_work_86 : decode cX1_work 86 = .ok (.aload_n 0, 1) := by decide +kernel
theorem dX1_work_87 : decode cX1_work 87 = .ok (.iload_n 1, 1) := by decide +kernel
theorem dX1_work_88 : decode cX1_work 88 = .ok (.invokevirtual 81, 3) := by decide +kernel
theorem dX1_work_91 : decode cX1_work 91 = .ok (.return_, 1) := by decide +kernel
theorem dX1_goOn_0 : decode cX1_goOn 0 = .ok (.aload_n 0, 1) := by decide +kernel
theorem dX1_goOn_1 : decode cX1_goOn 1 = .ok (.getfield 60, 3) := by decide +kernel
theorem dX1_goOn_4 : decode cX1_goOn 4 = .ok (.ifCond .le 31, 3) := by decide +kernel
theorem dX1_goOn_7 : decode cX1_goOn 7 = .ok (.aload_n 0, 1) := by decide +kernel
theorem dX1_goOn_8 : decode cX1_goOn 8 = .ok (.dup, 1) := by decide +kernel
theorem dX1_goOn_9 : decode cX1_goOn 9 = .ok (.getfield 60, 3) := by decide +kernel
theorem dX1_goOn_12 : decode cX1_goOn 12 = .ok (.iconst 1, 1) := by decide +kernel
theorem dX1_goOn_13 : decode cX1_goOn 13 = .ok (.isub, 1) := by decide +kernel
theorem dX1_goOn_14 : decode cX1_goOn 14 = .ok (.putfield 60, 3) := by decide +kernel
theorem dX1_goOn_17 : decode cX1_goOn 17 = .ok (.aload_n 0, 1) := by decide +kernel
theorem dX1_goOn_18 : decode cX1_goOn 18 = .ok (.getfield 60, 3) := by decide +kernel
theorem dX1_goOn_21 : decode cX1_goOn 21 = .ok (.ifCond .ne 14, 3) := by decide +kernel
theorem dX1_goOn_24 : decode cX1_goOn 24 = .ok (.aload_n 0, 1) := by decide +kernel
theorem dX1_goOn_25 : decode cX1_goOn 25 = .ok (.getfield 37, 3) := by decide +kernel
theorem dX1_goOn_28 : decode cX1_goOn 28 = .ok (.aload_n 0, 1) := by decide +kernel
theorem dX1_goOn_29 : decode cX1_goOn 29 = .ok (.getfield 17, 3) := by decide +kernel
theorem dX1_goOn_32 : decode cX1_goOn 32 = .ok (.invokevirtual 85, 3) := by decide +kernel
theorem dX1_goOn_35 : decode cX1_goOn 35 = .ok (.return_, 1) := by decide +kernel
theorem dX1_begin_0 : decode cX1_begin 0 = .ok (.aload_n 0, 1) := by decide +kernel
theorem dX1_begin_1 : decode cX1_begin 1 = .ok (.getfield 7, 3) := by decide +kernel
theorem dX1_begin_4 : decode cX1_begin 4 = .ok (.ifnonnull 19, 3) := by decide +kernel
theorem dX1_begin_7 : decode cX1_begin 7 = .ok (.aload_n 0, 1) := by decide +kernel
theorem dX1_begin_8 : decode cX1_begin 8 = .ok (.dup, 1) := by decide +kernel
theorem dX1_begin_9 : decode cX1_begin 9 = .ok (.getfield 57, 3) := by decide +kernel
theorem dX1_begin_12 : decode cX1_begin 12 = .ok (.aload_n 0, 1) := by decide +kernel
theorem dX1_begin_13 : decode cX1_begin 13 = .ok (.getfield 17, 3) := by decide +kernel
theorem dX1_begin_16 : decode cX1_begin 16 = .ok (.iadd, 1) := by decide +kernel
theorem dX1_begin_17 : decode cX1_begin 17 = .ok (.putfield 57, 3) := by decide +kernel
theorem dX1_begin_20 : decode cX1_begin 20 = .ok (.goto 24, 3) := by decide +kernel
theorem dX1_begin_23 : decode cX1_begin 23 = .ok (.aload_n 0, 1) := by decide +kernel
theorem dX1_begin_24 : decode cX1_begin 24 = .ok (.dup, 1) := by decide +kernel
theorem dX1_begin_25 : decode cX1_begin 25 = .ok (.getfield 54, 3) := by decide +kernel
theorem dX1_begin_28 : decode cX1_begin 28 = .ok (.aload_n 0, 1) := by decide +kernel
theorem dX1_begin_29 : decode cX1_begin 29 = .ok (.getfield 41, 3) := by decide +kernel
theorem dX1_begin_32 : decode cX1_begin 32 = .ok (.aload_n 0, 1) := by decide +kernel
theorem dX1_begin_33 : decode cX1_begin 33 = .ok (.getfield 17, 3) := by decide +kernel
theorem dX1_begin_36 : decode cX1_begin 36 = .ok (.iload_n 1, 1) := by decide +kernel
theorem dX1_begin_37 : decode cX1_begin 37 = .ok (.invokevirtual 89, 3) := by decide +kernel
theorem dX1_begin_40 : decode cX1_begin 40 = .ok (.iadd, 1) := by decide +kernel
theorem dX1_begin_41 : decode cX1_begin 41 = .ok (.putfield 54, 3) := by decide +kernel
theorem dX1_begin_44 : decode cX1_begin 44 = .ok (.aload_n 0, 1) := by decide +kernel
theorem dX1_begin_45 : decode cX1_begin 45 = .ok (.dup, 1) := by decide +kernel
theorem dX1_begin_46 : decode cX1_begin 46 = .ok (.getfield 29, 3) := by decide +kernel
theorem dX1_begin_49 : decode cX1_begin 49 = .ok (.iconst 1, 1) := by decide +kernel
theorem dX1_begin_50 : decode cX1_begin 50 = .ok (.isub, 1) := by decide +kernel
theorem dX1_begin_51 : decode cX1_begin 51 = .ok (.putfield 29, 3) := by decide +kernel
theorem dX1_begin_54 : decode cX1_begin 54 = .ok (.aload_n 0, 1) := by decide +kernel
theorem dX1_begin_55 : decode cX1_begin 55 = .ok (.dup, 1) := by decide +kernel
theorem dX1_begin_56 : decode cX1_begin 56 = .ok (.getfield 75, 3) := by decide +kernel
theorem dX1_begin_59 : decode cX1_begin 59 = .ok (.iconst 1, 1) := by decide +kernel
theorem dX1_begin_60 : decode cX1_begin 60 = .ok (.isub, 1) := by decide +kernel
theorem dX1_begin_61 : decode cX1_begin 61 = .ok (.putfield 75, 3) := by decide +kernel
theorem dX1_begin_64 : decode cX1_begin 64 = .ok (.aload_n 0, 1) := by decide +kernel
theorem dX1_begin_65 : decode cX1_begin 65 = .ok (.aload_n 0, 1) := by decide +kernel
theorem dX1_begin_66 : decode cX1_begin 66 = .ok (.getfield 20, 3) := by decide +kernel
theorem dX1_begin_69 : decode cX1_begin 69 = .ok (.putfield 60, 3) := by decide +kernel
theorem dX1_begin_72 : decode cX1_begin 72 = .ok (.return_, 1) := by decide +kernel
theorem dX1_convey_0 : decode cX1_convey 0 = .ok (.aload_n 0, 1) := by decide +kernel
theorem dX1_convey_1 : decode cX1_convey 1 = .ok (.getfield 7, 3) := by decide +kernel
theorem dX1_convey_4 : decode cX1_convey 4 = .ok (.ifnonnull 4, 3) := by decide +kernel
theorem dX1_convey_7 : decode cX1_convey 7 = .ok (.return_, 1) := by decide +kernel
theorem dX1_convey_8 : decode cX1_convey 8 = .ok (.aload_n 0, 1) := by decide +kernel
theorem dX1_convey_9 : decode cX1_convey 9 = .ok (.getfield 47, 3) := by decide +kernel
theorem dX1_convey_12 : decode cX1_convey 12 = .ok (.aload_n 0, 1) := by decide +kernel
theorem dX1_convey_13 : decode cX1_convey 13 = .ok (.getfield 41, 3) := by decide +kernel
theorem dX1_convey_16 : decode cX1_convey 16 = .ok (.invokevirtual 93, 3) := by decide +kernel
theorem dX1_convey_19 : decode cX1_convey 19 = .ok (.aload_n 0, 1) := by decide +kernel
theorem dX1_convey_20 : decode cX1_convey 20 = .ok (.getfield 54, 3) := by decide +kernel
theorem dX1_convey_23 : decode cX1_convey 23 = .ok (.aload_n 0, 1) := by decide +kernel
theorem dX1_convey_24 : decode cX1_convey 24 = .ok (.getfield 7, 3) := by decide +kernel
theorem dX1_convey_27 : decode cX1_convey 27 = .ok (.getfield 37, 3) := by decide +kernel
theorem dX1_convey_30 : decode cX1_convey 30 = .ok (.getfield 97, 3) := by decide +kernel
theorem dX1_convey_33 : decode cX1_convey 33 = .ok (.invokestatic 100, 3) := by decide +kernel
theorem dX1_convey_36 : decode cX1_convey 36 = .ok (.istore_n 1, 1) := by decide +kernel
theorem dX1_convey_37 : decode cX1_convey 37 = .ok (.iload_n 1, 1) := by decide +kernel
theorem dX1_convey_38 : decode cX1_convey 38 = .ok (.ifCond .le 17, 3) := by decide +kernel
theorem dX1_convey_41 : decode cX1_convey 41 = .ok (.aload_n 0, 1) := by decide +kernel
theorem dX1_convey_42 : decode cX1_convey 42 = .ok (.aload_n 0, 1) := by decide +kernel
theorem dX1_convey_43 : decode cX1_convey 43 = .ok (.getfield 7, 3) := by decide +kernel
theorem dX1_convey_46 : decode cX1_convey 46 = .ok (.invokevirtual 106, 3) := by decide +kernel
theorem dX1_convey_49 : decode cX1_convey 49 = .ok (.iinc 1 (-1), 3) := by decide +kernel
theorem dX1_convey_52 : decode cX1_convey 52 = .ok (.goto (-15), 3) := by decide +kernel
theorem dX1_convey_55 : decode cX1_convey 55 = .ok (.return_, 1) := by decide +kernel
theorem dX1_fetchFrom_0 : decode cX1_fetchFrom 0 = .ok (.aload_n 1, 1) := by decide +kernel
theorem dX1_fetchFrom_1 : decode cX1_fetchFrom 1 = .ok (.getfield 37, 3) := by decide +kernel
theorem dX1_fetchFrom_4 : decode cX1_fetchFrom 4 = .ok (.invokevirtual 110, 3) := by decide +kernel
theorem dX1_fetchFrom_7 : decode cX1_fetchFrom 7 = .ok (.istore_n 2, 1) := by decide +kernel
theorem dX1_fetchFrom_8 : decode cX1_fetchFrom 8 = .ok (.aload_n 1, 1) := by decide +kernel
theorem dX1_fetchFrom_9 : decode cX1_fetchFrom 9 = .ok (.getfield 37, 3) := by decide +kernel
theorem dX1_fetchFrom_12 : decode cX1_fetchFrom 12 = .ok (.invokevirtual 113, 3) := by decide +kernel
theorem dX1_fetchFrom_15 : decode cX1_fetchFrom 15 = .ok (.ifCond .eq 13, 3) := by decide +kernel
theorem dX1_fetchFrom_18 : decode cX1_fetchFrom 18 = .ok (.aload_n 1, 1) := by decide +kernel
theorem dX1_fetchFrom_19 : decode cX1_fetchFrom 19 = .ok (.dup, 1) := by decide +kernel
theorem dX1_fetchFrom_20 : decode cX1_fetchFrom 20 = .ok (.getfield 29, 3) := by decide +kernel
theorem dX1_fetchFrom_23 : decode cX1_fetchFrom 23 = .ok (.iconst 1, 1) := by decide +kernel
theorem dX1_fetchFrom_24 : decode cX1_fetchFrom 24 = .ok (.iadd, 1) := by decide +kernel
theorem dX1_fetchFrom_25 : decode cX1_fetchFrom 25 = .ok (.putfield 29, 3) := by decide +kernel
theorem dX1_fetchFrom_28 : decode cX1_fetchFrom 28 = .ok (.aload_n 1, 1) := by decide +kernel
theorem dX1_fetchFrom_29 : decode cX1_fetchFrom 29 = .ok (.getfield 37, 3) := by decide +kernel
theorem dX1_fetchFrom_32 : decode cX1_fetchFrom 32 = .ok (.invokevirtual 117, 3) := by decide +kernel
theorem dX1_fetchFrom_35 : decode cX1_fetchFrom 35 = .ok (.aload_n 0, 1) := by decide +kernel
theorem dX1_fetchFrom_36 : decode cX1_fetchFrom 36 = .ok (.dup, 1) := by decide +kernel
theorem dX1_fetchFrom_37 : decode cX1_fetchFrom 37 = .ok (.getfield 54, 3) := by decide +kernel
theorem dX1_fetchFrom_40 : decode cX1_fetchFrom 40 = .ok (.iconst 1, 1) := by decide +kernel
theorem dX1_fetchFrom_41 : decode cX1_fetchFrom 41 = .ok (.isub, 1) := by decide +kernel
theorem dX1_fetchFrom_42 : decode cX1_fetchFrom 42 = .ok (.putfield 54, 3) := by decide +kernel
theorem dX1_fetchFrom_45 : decode cX1_fetchFrom 45 = .ok (.aload_n 0, 1) := by decide +kernel
theorem dX1_fetchFrom_46 : decode cX1_fetchFrom 46 = .ok (.getfield 120, 3) := by decide +kernel
theorem dX1_fetchFrom_49 : decode cX1_fetchFrom 49 = .ok (.ifCond .ne 14, 3) := by decide +kernel
theorem dX1_fetchFrom_52 : decode cX1_fetchFrom 52 = .ok (.aload_n 0, 1) := by decide +kernel
theorem dX1_fetchFrom_53 : decode cX1_fetchFrom 53 = .ok (.getfield 41, 3) := by decide +kernel
theorem dX1_fetchFrom_56 : decode cX1_fetchFrom 56 = .ok (.iload_n 2, 1) := by decide +kernel
theorem dX1_fetchFrom_57 : decode cX1_fetchFrom 57 = .ok (.invokevirtual 85, 3) := by decide +kernel
theorem dX1_fetchFrom_60 : decode cX1_fetchFrom 60 = .ok (.goto 15, 3) := by decide +kernel
theorem dX1_fetchFrom_63 : decode cX1_fetchFrom 63 = .ok (.aload_n 0, 1) := by decide +kernel
theorem dX1_fetchFrom_64 : decode cX1_fetchFrom 64 = .ok (.getfield 47, 3) := by decide +kernel
theorem dX1_fetchFrom_67 : decode cX1_fetchFrom 67 = .ok (.iload_n 2, 1) := by decide +kernel
theorem dX1_fetchFrom_68 : decode cX1_fetchFrom 68 = .ok (.aload_n 0, 1) := by decide +kernel
theorem dX1_fetchFrom_69 : decode cX1_fetchFrom 69 = .ok (.getfield 120, 3) := by decide +kernel
theorem dX1_fetchFrom_72 : decode cX1_fetchFrom 72 = .ok (.invokevirtual 123, 3) := by decide +kernel
theorem dX1_fetchFrom_75 : decode cX1_fetchFrom 75 = .ok (.return_, 1) := by decide +kernel
theorem dX2_init_0 : decode cX2_init 0 = .ok (.aload_n 0, 1) := by decide +kernel
theorem dX2_init_1 : decode cX2_init 1 = .ok (.invokespecial 3, 3) := by decide +kernel
theorem dX2_init_4 : decode cX2_init 4 = .ok (.aload_n 0, 1) := by decide +kernel
theorem dX2_init_5 : decode cX2_init 5 = .ok (.bipush 10, 2) := by decide +kernel
theorem dX2_init_7 : decode cX2_init 7 = .ok (.newarray .int, 2) := by decide +kernel
theorem dX2_init_9 : decode cX2_init 9 = .ok (.putfield 11, 3) := by decide +kernel
theorem dX2_init_12 : decode cX2_init 12 = .ok (.aload_n 0, 1) := by decide +kernel
theorem dX2_init_13 : decode cX2_init 13 = .ok (.bipush 10, 2) := by decide +kernel
theorem dX2_init_15 : decode cX2_init 15 = .ok (.newarray .boolean, 2) := by decide +kernel
theorem dX2_init_17 : decode cX2_init 17 = .ok (.putfield 15, 3) := by decide +kernel
theorem dX2_init_20 : decode cX2_init 20 = .ok (.aload_n 0, 1) := by decide +kernel
theorem dX2_init_21 : decode cX2_init 21 = .ok (.iload_n 1, 1) := by decide +kernel
theorem dX2_init_22 : decode cX2_init 22 = .ok (.bipush 10, 2) := by decide +kernel
theorem dX2_init_24 : decode cX2_init 24 = .ok (.invokestatic 19, 3) := by decide +kernel
theorem dX2_init_27 : decode cX2_init 27 = .ok (.putfield 25, 3) := by decide +kernel
theorem dX2_init_30 : decode cX2_init 30 = .ok (.iconst 0, 1) := by decide +kernel
theorem dX2_init_31 : decode cX2_init 31 = .ok (.istore_n 3, 1) := by decide +kernel
theorem dX2_init_32 : decode cX2_init 32 = .ok (.iload_n 3, 1) := by decide +kernel
theorem dX2_init_33 : decode cX2_init 33 = .ok (.aload_n 0, 1) := by decide +kernel
theorem dX2_init_34 : decode cX2_init 34 = .ok (.getfield 25, 3) := by decide +kernel
theorem dX2_init_37 : decode cX2_init 37 = .ok (.if_icmp .ge 23, 3) := by decide +kernel
theorem dX2_init_40 : decode cX2_init 40 = .ok (.aload_n 0, 1) := by decide +kernel
theorem dX2_init_41 : decode cX2_init 41 = .ok (.getfield 11, 3) := by decide +kernel
theorem dX2_init_44 : decode cX2_init 44 = .ok (.iload_n 3, 1) := by decide +kernel
theorem dX2_init_45 : decode cX2_init 45 = .ok (.iload_n 2, 1) := by decide +kernel
theorem dX2_init_46 : decode cX2_init 46 = .ok (.iastore, 1) := by decide +kernel
theorem dX2_init_47 : decode cX2_init 47 = .ok (.aload_n 0, 1) := by decide +kernel
theorem dX2_init_48 : decode cX2_init 48 = .ok (.getfield 15, 3) := by decide +kernel
theorem dX2_init_51 : decode cX2_init 51 = .ok (.iload_n 3, 1) := by decide +kernel
theorem dX2_init_52 : decode cX2_init 52 = .ok (.iconst 1, 1) := by decide +kernel
theorem dX2_init_53 : decode cX2_init 53 = .ok (.bastore, 1) := by decide +kernel
theorem dX2_init_54 : decode cX2_init 54 = .ok (.iinc 3 1, 3) := by decide +kernel
theorem dX2_init_57 : decode cX2_init 57 = .ok (.goto (-25), 3) := by decide +kernel
theorem dX2_init_60 : decode cX2_init 60 = .ok (.return_, 1) := by decide +kernel
theorem dX2_allUnits_0 : decode cX2_allUnits 0 = .ok (.iconst 0, 1) := by decide +kernel
theorem dX2_allUnits_1 : decode cX2_allUnits 1 = .ok (.istore_n 1, 1) := by decide +kernel
theorem dX2_allUnits_2 : decode cX2_allUnits 2 = .ok (.iconst 0, 1) := by decide +kernel
theorem dX2_allUnits_3 : decode cX2_allUnits 3 = .ok (.istore_n 2, 1) := by decide +kernel
theorem dX2_allUnits_4 : decode cX2_allUnits 4 = .ok (.iload_n 2, 1) := by decide +kernel
theorem dX2_allUnits_5 : decode cX2_allUnits 5 = .ok (.aload_n 0, 1) := by decide +kernel
theorem dX2_allUnits_6 : decode cX2_allUnits 6 = .ok (.getfield 25, 3) := by decide +kernel
theorem dX2_allUnits_9 : decode cX2_allUnits 9 = .ok (.if_icmp .ge 24, 3) := by decide +kernel
theorem dX2_allUnits_12 : decode cX2_allUnits 12 = .ok (.iload_n 2, 1) := by decide +kernel
theorem dX2_allUnits_13 : decode cX2_allUnits 13 = .ok (.bipush 10, 2) := by decide +kernel
theorem dX2_allUnits_15 : decode cX2_allUnits 15 = .ok (.if_icmp .ge 18, 3) := by decide +kernel
theorem dX2_allUnits_18 : decode cX2_allUnits 18 = .ok (.iload_n 1, 1) := by decide +kernel
theorem dX2_allUnits_19 : decode cX2_allUnits 19 = .ok (.aload_n 0, 1) := by decide +kernel
theorem dX2_allUnits_20 : decode cX2_allUnits 20 = .ok (.getfield 11, 3) := by decide +kernel
theorem dX2_allUnits_23 : decode cX2_allUnits 23 = .ok (.iload_n 2, 1) := by decide +kernel
theorem dX2_allUnits_24 : decode cX2_allUnits 24 = .ok (.iaload, 1) := by decide +kernel
theorem dX2_allUnits_25 : decode cX2_allUnits 25 = .ok (.iadd, 1) := by decide +kernel
theorem dX2_allUnits_26 : decode cX2_allUnits 26 = .ok (.istore_n 1, 1) := by decide +kernel
theorem dX2_allUnits_27 : decode cX2_allUnits 27 = .ok (.iinc 2 1, 3) := by decide +kernel
theorem dX2_allUnits_30 : decode cX2_allUnits 30 = .ok (.goto (-26), 3) := by decide +kernel
theorem dX2_allUnits_33 : decode cX2_allUnits 33 = .ok (.iload_n 1, 1) := by decide +kernel
theorem dX2_allUnits_34 : decode cX2_allUnits 34 = .ok (.ireturn, 1) := by decide +kernel
theorem dX2_cardsOn_0 : decode cX2_cardsOn 0 = .ok (.iconst 0, 1) := by decide +kernel
theorem dX2_cardsOn_1 : decode cX2_cardsOn 1 = .ok (.istore_n 1, 1) := by decide +kernel
theorem dX2_cardsOn_2 : decode cX2_cardsOn 2 = .ok (.iconst 0, 1) := by decide +kernel
theorem dX2_cardsOn_3 : decode cX2_cardsOn 3 = .ok (.istore_n 2, 1) := by decide +kernel
theorem dX2_cardsOn_4 : decode cX2_cardsOn 4 = .ok (.iload_n 2, 1) := by decide +kernel
theorem dX2_cardsOn_5 : decode cX2_cardsOn 5 = .ok (.aload_n 0, 1) := by decide +kernel
theorem dX2_cardsOn_6 : decode cX2_cardsOn 6 = .ok (.getfield 25, 3) := by decide +kernel
theorem dX2_cardsOn_9 : decode cX2_cardsOn 9 = .ok (.if_icmp .ge 27, 3) := by decide +kernel
theorem dX2_cardsOn_12 : decode cX2_cardsOn 12 = .ok (.iload_n 2, 1) := by decide +kernel
theorem dX2_cardsOn_13 : decode cX2_cardsOn 13 = .ok (.bipush 10, 2) := by decide +kernel
theorem dX2_cardsOn_15 : decode cX2_cardsOn 15 = .ok (.if_icmp .ge 21, 3) := by decide +kernel
theorem dX2_cardsOn_18 : decode cX2_cardsOn 18 = .ok (.aload_n 0, 1) := by decide +kernel
theorem dX2_cardsOn_19 : decode cX2_cardsOn 19 = .ok (.getfield 15, 3) := by decide +kernel
theorem dX2_cardsOn_22 : decode cX2_cardsOn 22 = .ok (.iload_n 2, 1) := by decide +kernel
theorem dX2_cardsOn_23 : decode cX2_cardsOn 23 = .ok (.baload, 1) := by decide +kernel
theorem dX2_cardsOn_24 : decode cX2_cardsOn 24 = .ok (.ifCond .eq 6, 3) := by decide +kernel
theorem dX2_cardsOn_27 : decode cX2_cardsOn 27 = .ok (.iinc 1 1, 3) := by decide +kernel
theorem dX2_cardsOn_30 : decode cX2_cardsOn 30 = .ok (.iinc 2 1, 3) := by decide +kernel
theorem dX2_cardsOn_33 : decode cX2_cardsOn 33 = .ok (.goto (-29), 3) := by decide +kernel
theorem dX2_cardsOn_36 : decode cX2_cardsOn 36 = .ok (.iload_n 1, 1) := by decide +kernel
theorem dX2_cardsOn_37 : decode cX2_cardsOn 37 = .ok (.ireturn, 1) := by decide +kernel
theorem dX2_headUnits_0 : decode cX2_headUnits 0 = .ok (.aload_n 0, 1) := by decide +kernel
theorem dX2_headUnits_1 : decode cX2_headUnits 1 = .ok (.getfield 25, 3) := by decide +kernel
theorem dX2_headUnits_4 : decode cX2_headUnits 4 = .ok (.ifCond .le 12, 3) := by decide +kernel
theorem dX2_headUnits_7 : decode cX2_headUnits 7 = .ok (.aload_n 0, 1) := by decide +kernel
theorem dX2_headUnits_8 : decode cX2_headUnits 8 = .ok (.getfield 11, 3) := by decide +kernel
theorem dX2_headUnits_11 : decode cX2_headUnits 11 = .ok (.iconst 0, 1) := by decide +kernel
theorem dX2_headUnits_12 : decode cX2_headUnits 12 = .ok (.iaload, 1) := by decide +kernel
theorem dX2_headUnits_13 : decode cX2_headUnits 13 = .ok (.goto 4, 3) := by decide +kernel
theorem dX2_headUnits_16 : decode cX2_headUnits 16 = .ok (.iconst 0, 1) := by decide +kernel
theorem dX2_headUnits_17 : decode cX2_headUnits 17 = .ok (.ireturn, 1) := by decide +kernel
theorem dX2_headIsCarded_0 : decode cX2_headIsCarded 0 = .ok (.aload_n 0, 1) := by decide +kernel
theorem dX2_headIsCarded_1 : decode cX2_headIsCarded 1 = .ok (.getfield 25, 3) := by decide +kernel
theorem dX2_headIsCarded_4 : decode cX2_headIsCarded 4 = .ok (.ifCond .le 16, 3) := by decide +kernel
theorem dX2_headIsCarded_7 : decode cX2_headIsCarded 7 = .ok (.aload_n 0, 1) := by decide +kernel
theorem dX2_headIsCarded_8 : decode cX2_headIsCarded 8 = .ok (.getfield 15, 3) := by decide +kernel
theorem dX2_headIsCarded_11 : decode cX2_headIsCarded 11 = .ok (.iconst 0, 1) := by decide +kernel
theorem dX2_headIsCarded_12 : decode cX2_headIsCarded 12 = .ok (.baload, 1) := by decide +kernel
theorem dX2_headIsCarded_13 : decode cX2_headIsCarded 13 = .ok (.ifCond .eq 7, 3) := by decide +kernel
theorem dX2_headIsCarded_16 : decode cX2_headIsCarded 16 = .ok (.iconst 1, 1) := by decide +kernel
theorem dX2_headIsCarded_17 : decode cX2_headIsCarded 17 = .ok (.goto 4, 3) := by decide +kernel
theorem dX2_headIsCarded_20 : decode cX2_headIsCarded 20 = .ok (.iconst 0, 1) := by decide +kernel
theorem dX2_headIsCarded_21 : decode cX2_headIsCarded 21 = .ok (.ireturn, 1) := by decide +kernel
theorem dX2_add_0 : decode cX2_add 0 = .ok (.aload_n 0, 1) := by decide +kernel
theorem dX2_add_1 : decode cX2_add 1 = .ok (.getfield 25, 3) := by decide +kernel
theorem dX2_add_4 : decode cX2_add 4 = .ok (.ifCond .lt 42, 3) := by decide +kernel
theorem dX2_add_7 : decode cX2_add 7 = .ok (.aload_n 0, 1) := by decide +kernel
theorem dX2_add_8 : decode cX2_add 8 = .ok (.getfield 25, 3) := by decide +kernel
theorem dX2_add_11 : decode cX2_add 11 = .ok (.bipush 10, 2) := by decide +kernel
theorem dX2_add_13 : decode cX2_add 13 = .ok (.if_icmp .ge 33, 3) := by decide +kernel
theorem dX2_add_16 : decode cX2_add 16 = .ok (.aload_n 0, 1) := by decide +kernel
theorem dX2_add_17 : decode cX2_add 17 = .ok (.getfield 11, 3) := by decide +kernel
theorem dX2_add_20 : decode cX2_add 20 = .ok (.aload_n 0, 1) := by decide +kernel
theorem dX2_add_21 : decode cX2_add 21 = .ok (.getfield 25, 3) := by decide +kernel
theorem dX2_add_24 : decode cX2_add 24 = .ok (.iload_n 1, 1) := by decide +kernel
theorem dX2_add_25 : decode cX2_add 25 = .ok (.iastore, 1) := by decide +kernel
theorem dX2_add_26 : decode cX2_add 26 = .ok (.aload_n 0, 1) := by decide +kernel
theorem dX2_add_27 : decode cX2_add 27 = .ok (.getfield 15, 3) := by decide +kernel
theorem dX2_add_30 : decode cX2_add 30 = .ok (.aload_n 0, 1) := by decide +kernel
theorem dX2_add_31 : decode cX2_add 31 = .ok (.getfield 25, 3) := by decide +kernel
theorem dX2_add_34 : decode cX2_add 34 = .ok (.iconst 1, 1) := by decide +kernel
theorem dX2_add_35 : decode cX2_add 35 = .ok (.bastore, 1) := by decide +kernel
theorem dX2_add_36 : decode cX2_add 36 = .ok (.aload_n 0, 1) := by decide +kernel
theorem dX2_add_37 : decode cX2_add 37 = .ok (.dup, 1) := by decide +kernel
theorem dX2_add_38 : decode cX2_add 38 = .ok (.getfield 25, 3) := by decide +kernel
theorem dX2_add_41 : decode cX2_add 41 = .ok (.iconst 1, 1) := by decide +kernel
theorem dX2_add_42 : decode cX2_add 42 = .ok (.iadd, 1) := by decide +kernel
theorem dX2_add_43 : decode cX2_add 43 = .ok (.putfield 25, 3) := by decide +kernel
theorem dX2_add_46 : decode cX2_add 46 = .ok (.return_, 1) := by decide +kernel
theorem dX2_removeHead_0 : decode cX2_removeHead 0 = .ok (.aload_n 0, 1) := by decide +kernel
theorem dX2_removeHead_1 : decode cX2_removeHead 1 = .ok (.getfield 25, 3) := by decide +kernel
theorem dX2_removeHead_4 : decode cX2_removeHead 4 = .ok (.iconst 1, 1) := by decide +kernel
theorem dX2_removeHead_5 : decode cX2_removeHead 5 = .ok (.if_icmp .ge 4, 3) := by decide +kernel
theorem dX2_removeHead_8 : decode cX2_removeHead 8 = .ok (.return_, 1) := by decide +kernel
theorem dX2_removeHead_9 : decode cX2_removeHead 9 = .ok (.iconst 1, 1) := by decide +kernel
theorem dX2_removeHead_10 : decode cX2_removeHead 10 = .ok (.istore_n 1, 1) := by decide +kernel
theorem dX2_removeHead_11 : decode cX2_removeHead 11 = .ok (.iload_n 1, 1) := by decide +kernel
theorem dX2_removeHead_12 : decode cX2_removeHead 12 = .ok (.aload_n 0, 1) := by decide +kernel
theorem dX2_removeHead_13 : decode cX2_removeHead 13 = .ok (.getfield 25, 3) := by decide +kernel
theorem dX2_removeHead_16 : decode cX2_removeHead 16 = .ok (.if_icmp .ge 43, 3) := by decide +kernel
theorem dX2_removeHead_19 : decode cX2_removeHead 19 = .ok (.iload_n 1, 1) := by decide +kernel
theorem dX2_removeHead_20 : decode cX2_removeHead 20 = .ok (.bipush 10, 2) := by decide +kernel
theorem dX2_removeHead_22 : decode cX2_removeHead 22 = .ok (.if_icmp .ge 37, 3) := by decide +kernel
theorem dX2_removeHead_25 : decode cX2_removeHead 25 = .ok (.aload_n 0, 1) := by decide +kernel
theorem dX2_removeHead_26 : decode cX2_removeHead 26 = .ok (.getfield 11, 3) := by decide +kernel
theorem dX2_removeHead_29 : decode cX2_removeHead 29 = .ok (.iload_n 1, 1) := by decide +kernel
theorem dX2_removeHead_30 : decode cX2_removeHead 30 = .ok (.iconst 1, 1) := by decide +kernel
theorem dX2_removeHead_31 : decode cX2_removeHead 31 = .ok (.isub, 1) := by decide +kernel
theorem dX2_removeHead_32 : decode cX2_removeHead 32 = .ok (.aload_n 0, 1) := by decide +kernel
theorem dX2_removeHead_33 : decode cX2_removeHead 33 = .ok (.getfield 11, 3) := by decide +kernel
theorem dX2_removeHead_36 : decode cX2_removeHead 36 = .ok (.iload_n 1, 1) := by decide +kernel
theorem dX2_removeHead_37 : decode cX2_removeHead 37 = .ok (.iaload, 1) := by decide +kernel
theorem dX2_removeHead_38 : decode cX2_removeHead 38 = .ok (.iastore, 1) := by decide +kernel
theorem dX2_removeHead_39 : decode cX2_removeHead 39 = .ok (.aload_n 0, 1) := by decide +kernel
theorem dX2_removeHead_40 : decode cX2_removeHead 40 = .ok (.getfield 15, 3) := by decide +kernel
theorem dX2_removeHead_43 : decode cX2_removeHead 43 = .ok (.iload_n 1, 1) := by decide +kernel
theorem dX2_removeHead_44 : decode cX2_removeHead 44 = .ok (.iconst 1, 1) := by decide +kernel
theorem dX2_removeHead_45 : decode cX2_removeHead 45 = .ok (.isub, 1) := by decide +kernel
theorem dX2_removeHead_46 : decode cX2_removeHead 46 = .ok (.aload_n 0, 1) := by decide +kernel
theorem dX2_removeHead_47 : decode cX2_removeHead 47 = .ok (.getfield 15, 3) := by decide +kernel
theorem dX2_removeHead_50 : decode cX2_removeHead 50 = .ok (.iload_n 1, 1) := by decide +kernel
theorem dX2_removeHead_51 : decode cX2_removeHead 51 = .ok (.baload, 1) := by decide +kernel
theorem dX2_removeHead_52 : decode cX2_removeHead 52 = .ok (.bastore, 1) := by decide +kernel
theorem dX2_removeHead_53 : decode cX2_removeHead 53 = .ok (.iinc 1 1, 3) := by decide +kernel
theorem dX2_removeHead_56 : decode cX2_removeHead 56 = .ok (.goto (-45), 3) := by decide +kernel
theorem dX2_removeHead_59 : decode cX2_removeHead 59 = .ok (.aload_n 0, 1) := by decide +kernel
theorem dX2_removeHead_60 : decode cX2_removeHead 60 = .ok (.dup, 1) := by decide +kernel
theorem dX2_removeHead_61 : decode cX2_removeHead 61 = .ok (.getfield 25, 3) := by decide +kernel
theorem dX2_removeHead_64 : decode cX2_removeHead 64 = .ok (.iconst 1, 1) := by decide +kernel
theorem dX2_removeHead_65 : decode cX2_removeHead 65 = .ok (.isub, 1) := by decide +kernel
theorem dX2_removeHead_66 : decode cX2_removeHead 66 = .ok (.putfield 25, 3) := by decide +kernel
theorem dX2_removeHead_69 : decode cX2_removeHead 69 = .ok (.return_, 1) := by decide +kernel
theorem dX2_takeOut_0 : decode cX2_takeOut 0 = .ok (.iload_n 1, 1) := by decide +kernel
theorem dX2_takeOut_1 : decode cX2_takeOut 1 = .ok (.istore_n 3, 1) := by decide +kernel
theorem dX2_takeOut_2 : decode cX2_takeOut 2 = .ok (.iconst 0, 1) := by decide +kernel
theorem dX2_takeOut_3 : decode cX2_takeOut 3 = .ok (.istore 4, 2) := by decide +kernel
theorem dX2_takeOut_5 : decode cX2_takeOut 5 = .ok (.aload_n 0, 1) := by decide +kernel
theorem dX2_takeOut_6 : decode cX2_takeOut 6 = .ok (.getfield 25, 3) := by decide +kernel
theorem dX2_takeOut_9 : decode cX2_takeOut 9 = .ok (.istore 5, 2) := by decide +kernel
theorem dX2_takeOut_11 : decode cX2_takeOut 11 = .ok (.iload 5, 2) := by decide +kernel
theorem dX2_takeOut_13 : decode cX2_takeOut 13 = .ok (.ifCond .le 94, 3) := by decide +kernel
theorem dX2_takeOut_16 : decode cX2_takeOut 16 = .ok (.iload_n 3, 1) := by decide +kernel
theorem dX2_takeOut_17 : decode cX2_takeOut 17 = .ok (.ifCond .le 90, 3) := by decide +kernel
theorem dX2_takeOut_20 : decode cX2_takeOut 20 = .ok (.iload_n 3, 1) := by decide +kernel
theorem dX2_takeOut_21 : decode cX2_takeOut 21 = .ok (.aload_n 0, 1) := by decide +kernel
theorem dX2_takeOut_22 : decode cX2_takeOut 22 = .ok (.getfield 11, 3) := by decide +kernel
theorem dX2_takeOut_25 : decode cX2_takeOut 25 = .ok (.iconst 0, 1) := by decide +kernel
theorem dX2_takeOut_26 : decode cX2_takeOut 26 = .ok (.iaload, 1) := by decide +kernel
theorem dX2_takeOut_27 : decode cX2_takeOut 27 = .ok (.invokestatic 19, 3) := by decide +kernel
theorem dX2_takeOut_30 : decode cX2_takeOut 30 = .ok (.istore 6, 2) := by decide +kernel
theorem dX2_takeOut_32 : decode cX2_takeOut 32 = .ok (.iload_n 3, 1) := by decide +kernel
theorem dX2_takeOut_33 : decode cX2_takeOut 33 = .ok (.iload 6, 2) := by decide +kernel
theorem dX2_takeOut_35 : decode cX2_takeOut 35 = .ok (.isub, 1) := by decide +kernel
theorem dX2_takeOut_36 : decode cX2_takeOut 36 = .ok (.istore_n 3, 1) := by decide +kernel
theorem dX2_takeOut_37 : decode cX2_takeOut 37 = .ok (.aload_n 0, 1) := by decide +kernel
theorem dX2_takeOut_38 : decode cX2_takeOut 38 = .ok (.getfield 11, 3) := by decide +kernel
theorem dX2_takeOut_41 : decode cX2_takeOut 41 = .ok (.iconst 0, 1) := by decide +kernel
theorem dX2_takeOut_42 : decode cX2_takeOut 42 = .ok (.dup2, 1) := by decide +kernel
theorem dX2_takeOut_43 : decode cX2_takeOut 43 = .ok (.iaload, 1) := by decide +kernel
theorem dX2_takeOut_44 : decode cX2_takeOut 44 = .ok (.iload 6, 2) := by decide +kernel
theorem dX2_takeOut_46 : decode cX2_takeOut 46 = .ok (.isub, 1) := by decide +kernel
theorem dX2_takeOut_47 : decode cX2_takeOut 47 = .ok (.iastore, 1) := by decide +kernel
theorem dX2_takeOut_48 : decode cX2_takeOut 48 = .ok (.aload_n 0, 1) := by decide +kernel
theorem dX2_takeOut_49 : decode cX2_takeOut 49 = .ok (.getfield 11, 3) := by decide +kernel
theorem dX2_takeOut_52 : decode cX2_takeOut 52 = .ok (.iconst 0, 1) := by decide +kernel
theorem dX2_takeOut_53 : decode cX2_takeOut 53 = .ok (.iaload, 1) := by decide +kernel
theorem dX2_takeOut_54 : decode cX2_takeOut 54 = .ok (.ifCond .ne 7, 3) := by decide +kernel
theorem dX2_takeOut_57 : decode cX2_takeOut 57 = .ok (.iconst 1, 1) := by decide +kernel
theorem dX2_takeOut_58 : decode cX2_takeOut 58 = .ok (.goto 4, 3) := by decide +kernel
theorem dX2_takeOut_61 : decode cX2_takeOut 61 = .ok (.iconst 0, 1) := by decide +kernel
theorem dX2_takeOut_62 : decode cX2_takeOut 62 = .ok (.istore 7, 2) := by decide +kernel
theorem dX2_takeOut_64 : decode cX2_takeOut 64 = .ok (.aload_n 0, 1) := by decide +kernel
theorem dX2_takeOut_65 : decode cX2_takeOut 65 = .ok (.getfield 15, 3) := by decide +kernel
theorem dX2_takeOut_68 : decode cX2_takeOut 68 = .ok (.iconst 0, 1) := by decide +kernel
theorem dX2_takeOut_69 : decode cX2_takeOut 69 = .ok (.baload, 1) := by decide +kernel
theorem dX2_takeOut_70 : decode cX2_takeOut 70 = .ok (.ifCond .eq 22, 3) := by decide +kernel
theorem dX2_takeOut_73 : decode cX2_takeOut 73 = .ok (.iload_n 2, 1) := by decide +kernel
theorem dX2_takeOut_74 : decode cX2_takeOut 74 = .ok (.ifCond .ne 8, 3) := by decide +kernel
theorem dX2_takeOut_77 : decode cX2_takeOut 77 = .ok (.iload 7, 2) := by decide +kernel
theorem dX2_takeOut_79 : decode cX2_takeOut 79 = .ok (.ifCond .eq 13, 3) := by decide +kernel
theorem dX2_takeOut_82 : decode cX2_takeOut 82 = .ok (.aload_n 0, 1) := by decide +kernel
theorem dX2_takeOut_83 : decode cX2_takeOut 83 = .ok (.getfield 15, 3) := by decide +kernel
theorem dX2_takeOut_86 : decode cX2_takeOut 86 = .ok (.iconst 0, 1) := by decide +kernel
theorem dX2_takeOut_87 : decode cX2_takeOut 87 = .ok (.iconst 0, 1) := by decide +kernel
theorem dX2_takeOut_88 : decode cX2_takeOut 88 = .ok (.bastore, 1) := by decide +kernel
theorem dX2_takeOut_89 : decode cX2_takeOut 89 = .ok (.iinc 4 1, 3) := by decide +kernel
theorem dX2_takeOut_92 : decode cX2_takeOut 92 = .ok (.iload 7, 2) := by decide +kernel
theorem dX2_takeOut_94 : decode cX2_takeOut 94 = .ok (.ifCond .eq 7, 3) := by decide +kernel
theorem dX2_takeOut_97 : decode cX2_takeOut 97 = .ok (.aload_n 0, 1) := by decide +kernel
theorem dX2_takeOut_98 : decode cX2_takeOut 98 = .ok (.invokevirtual 29, 3) := by decide +kernel
theorem dX2_takeOut_101 : decode cX2_takeOut 101 = .ok (.iinc 5 (-1), 3) := by decide +kernel
theorem dX2_takeOut_104 : decode cX2_takeOut 104 = .ok (.goto (-93), 3) := by decide +kernel
theorem dX2_takeOut_107 : decode cX2_takeOut 107 = .ok (.iload 4, 2) := by decide +kernel
theorem dX2_takeOut_109 : decode cX2_takeOut 109 = .ok (.ireturn, 1) := by decide +kernel
theorem dX3_init_0 : decode cX3_init 0 = .ok (.aload_n 0, 1) := by decide +kernel
theorem dX3_init_1 : decode cX3_init 1 = .ok (.invokespecial 1, 3) := by decide +kernel
theorem dX3_init_4 : decode cX3_init 4 = .ok (.aload_n 0, 1) := by decide +kernel
theorem dX3_init_5 : decode cX3_init 5 = .ok (.aconst_null, 1) := by decide +kernel
theorem dX3_init_6 : decode cX3_init 6 = .ok (.putfield 7, 3) := by decide +kernel
theorem dX3_init_9 : decode cX3_init 9 = .ok (.aload_n 0, 1) := by decide +kernel
theorem dX3_init_10 : decode cX3_init 10 = .ok (.iconst 0, 1) := by decide +kernel
theorem dX3_init_11 : decode cX3_init 11 = .ok (.putfield 13, 3) := by decide +kernel
theorem dX3_init_14 : decode cX3_init 14 = .ok (.aload_n 0, 1) := by decide +kernel
theorem dX3_init_15 : decode cX3_init 15 = .ok (.iconst 0, 1) := by decide +kernel
theorem dX3_init_16 : decode cX3_init 16 = .ok (.putfield 17, 3) := by decide +kernel
theorem dX3_init_19 : decode cX3_init 19 = .ok (.aload_n 0, 1) := by decide +kernel
theorem dX3_init_20 : decode cX3_init 20 = .ok (.iconst 0, 1) := by decide +kernel
theorem dX3_init_21 : decode cX3_init 21 = .ok (.putfield 21, 3) := by decide +kernel
theorem dX3_init_24 : decode cX3_init 24 = .ok (.aload_n 0, 1) := by decide +kernel
theorem dX3_init_25 : decode cX3_init 25 = .ok (.iconst 0, 1) := by decide +kernel
theorem dX3_init_26 : decode cX3_init 26 = .ok (.putfield 24, 3) := by decide +kernel
theorem dX3_init_29 : decode cX3_init 29 = .ok (.aload_n 0, 1) := by decide +kernel
theorem dX3_init_30 : decode cX3_init 30 = .ok (.iconst 0, 1) := by decide +kernel
theorem dX3_init_31 : decode cX3_init 31 = .ok (.putfield 27, 3) := by decide +kernel
theorem dX3_init_34 : decode cX3_init 34 = .ok (.aload_n 0, 1) := by decide +kernel
theorem dX3_init_35 : decode cX3_init 35 = .ok (.iconst 0, 1) := by decide +kernel
theorem dX3_init_36 : decode cX3_init 36 = .ok (.putfield 30, 3) := by decide +kernel
theorem dX3_init_39 : decode cX3_init 39 = .ok (.aload_n 0, 1) := by decide +kernel
theorem dX3_init_40 : decode cX3_init 40 = .ok (.iconst 0, 1) := by decide +kernel
theorem dX3_init_41 : decode cX3_init 41 = .ok (.putfield 33, 3) := by decide +kernel
theorem dX3_init_44 : decode cX3_init 44 = .ok (.return_, 1) := by decide +kernel
theorem dX3_stage_0 : decode cX3_stage 0 = .ok (.iload_n 1, 1) := by decide +kernel
theorem dX3_stage_1 : decode cX3_stage 1 = .ok (.iconst 1, 1) := by decide +kernel
theorem dX3_stage_2 : decode cX3_stage 2 = .ok (.bipush 9, 2) := by decide +kernel
theorem dX3_stage_4 : decode cX3_stage 4 = .ok (.invokestatic 36, 3) := by decide +kernel
theorem dX3_stage_7 : decode cX3_stage 7 = .ok (.iload_n 2, 1) := by decide +kernel
theorem dX3_stage_8 : decode cX3_stage 8 = .ok (.iconst 1, 1) := by decide +kernel
theorem dX3_stage_9 : decode cX3_stage 9 = .ok (.bipush 10, 2) := by decide +kernel
theorem dX3_stage_11 : decode cX3_stage 11 = .ok (.invokestatic 36, 3) := by decide +kernel
theorem dX3_stage_14 : decode cX3_stage 14 = .ok (.iload_n 3, 1) := by decide +kernel
theorem dX3_stage_15 : decode cX3_stage 15 = .ok (.iconst 1, 1) := by decide +kernel
theorem dX3_stage_16 : decode cX3_stage 16 = .ok (.bipush 9, 2) := by decide +kernel
theorem dX3_stage_18 : decode cX3_stage 18 = .ok (.invokestatic 36, 3) := by decide +kernel
theorem dX3_stage_21 : decode cX3_stage 21 = .ok (.iload 4, 2) := by decide +kernel
theorem dX3_stage_23 : decode cX3_stage 23 = .ok (.iconst 1, 1) := by decide +kernel
theorem dX3_stage_24 : decode cX3_stage 24 = .ok (.bipush 9, 2) := by decide +kernel
theorem dX3_stage_26 : decode cX3_stage 26 = .ok (.invokestatic 36, 3) := by decide +kernel
theorem dX3_stage_29 : decode cX3_stage 29 = .ok (.aload_n 0, 1) := by decide +kernel
theorem dX3_stage_30 : decode cX3_stage 30 = .ok (.getfield 13, 3) := by decide +kernel
theorem dX3_stage_33 : decode cX3_stage 33 = .ok (.bipush 6, 2) := by decide +kernel
theorem dX3_stage_35 : decode cX3_stage 35 = .ok (.if_icmp .lt 13, 3) := by decide +kernel
theorem dX3_stage_38 : decode cX3_stage 38 = .ok (.new 40, 3) := by decide +kernel
theorem dX3_stage_41 : decode cX3_stage 41 = .ok (.dup, 1) := by decide +kernel
theorem dX3_stage_42 : decode cX3_stage 42 = .ok (.ldc 42, 2) := by decide +kernel
theorem dX3_stage_44 : decode cX3_stage 44 = .ok (.invokespecial 44, 3) := by decide +kernel
theorem dX3_stage_47 : decode cX3_stage 47 = .ok (.athrow, 1) := by decide +kernel
theorem dX3_stage_48 : decode cX3_stage 48 = .ok (.aload_n 0, 1) := by decide +kernel
theorem dX3_stage_49 : decode cX3_stage 49 = .ok (.new 47, 3) := by decide +kernel
theorem dX3_stage_52 : decode cX3_stage 52 = .ok (.dup, 1) := by decide +kernel
theorem dX3_stage_53 : decode cX3_stage 53 = .ok (.aload_n 0, 1) := by decide +kernel
theorem dX3_stage_54 : decode cX3_stage 54 = .ok (.getfield 7, 3) := by decide +kernel
theorem dX3_stage_57 : decode cX3_stage 57 = .ok (.iload_n 1, 1) := by decide +kernel
theorem dX3_stage_58 : decode cX3_stage 58 = .ok (.iload_n 2, 1) := by decide +kernel
theorem dX3_stage_59 : decode cX3_stage 59 = .ok (.iload_n 3, 1) := by decide +kernel
theorem dX3_stage_60 : decode cX3_stage 60 = .ok (.iload 4, 2) := by decide +kernel
theorem dX3_stage_62 : decode cX3_stage 62 = .ok (.iload 5, 2) := by decide +kernel
theorem dX3_stage_64 : decode cX3_stage 64 = .ok (.invokespecial 49, 3) := by decide +kernel
theorem dX3_stage_67 : decode cX3_stage 67 = .ok (.putfield 7, 3) := by decide +kernel
theorem dX3_stage_70 : decode cX3_stage 70 = .ok (.aload_n 0, 1) := by decide +kernel
theorem dX3_stage_71 : decode cX3_stage 71 = .ok (.dup, 1) := by decide +kernel
theorem dX3_stage_72 : decode cX3_stage 72 = .ok (.getfield 13, 3) := by decide +kernel
theorem dX3_stage_75 : decode cX3_stage 75 = .ok (.iconst 1, 1) := by decide +kernel
theorem dX3_stage_76 : decode cX3_stage 76 = .ok (.iadd, 1) := by decide +kernel
theorem dX3_stage_77 : decode cX3_stage 77 = .ok (.putfield 13, 3) := by decide +kernel
theorem dX3_stage_80 : decode cX3_stage 80 = .ok (.aload_n 0, 1) := by decide +kernel
theorem dX3_stage_81 : decode cX3_stage 81 = .ok (.getfield 7, 3) := by decide +kernel
theorem dX3_stage_84 : decode cX3_stage 84 = .ok (.getfield 52, 3) := by decide +kernel
theorem dX3_stage_87 : decode cX3_stage 87 = .ok (.ireturn, 1) := by decide +kernel
theorem dX3_way_0 : decode cX3_way 0 = .ok (.aload_n 0, 1) := by decide +kernel
theorem dX3_way_1 : decode cX3_way 1 = .ok (.iload_n 1, 1) := by decide +kernel
theorem dX3_way_2 : decode cX3_way 2 = .ok (.invokevirtual 55, 3) := by decide +kernel
theorem dX3_way_5 : decode cX3_way 5 = .ok (.astore_n 3, 1) := by decide +kernel
theorem dX3_way_6 : decode cX3_way 6 = .ok (.iload_n 2, 1) := by decide +kernel
theorem dX3_way_7 : decode cX3_way 7 = .ok (.iconst 0, 1) := by decide +kernel
theorem dX3_way_8 : decode cX3_way 8 = .ok (.iconst 5, 1) := by decide +kernel
theorem dX3_way_9 : decode cX3_way 9 = .ok (.invokestatic 36, 3) := by decide +kernel
theorem dX3_way_12 : decode cX3_way 12 = .ok (.aload_n 3, 1) := by decide +kernel
theorem dX3_way_13 : decode cX3_way 13 = .ok (.getfield 59, 3) := by decide +kernel
theorem dX3_way_16 : decode cX3_way 16 = .ok (.istore 4, 2) := by decide +kernel
theorem dX3_way_18 : decode cX3_way 18 = .ok (.aload_n 3, 1) := by decide +kernel
theorem dX3_way_19 : decode cX3_way 19 = .ok (.iload_n 2, 1) := by decide +kernel
theorem dX3_way_20 : decode cX3_way 20 = .ok (.putfield 59, 3) := by decide +kernel
theorem dX3_way_23 : decode cX3_way 23 = .ok (.iload 4, 2) := by decide +kernel
theorem dX3_way_25 : decode cX3_way 25 = .ok (.ireturn, 1) := by decide +kernel
theorem dX3_mark_0 : decode cX3_mark 0 = .ok (.aload_n 0, 1) := by decide +kernel
theorem dX3_mark_1 : decode cX3_mark 1 = .ok (.iload_n 1, 1) := by decide +kernel
theorem dX3_mark_2 : decode cX3_mark 2 = .ok (.invokevirtual 62, 3) := by decide +kernel
theorem dX3_mark_5 : decode cX3_mark 5 = .ok (.astore_n 3, 1) := by decide +kernel
theorem dX3_mark_6 : decode cX3_mark 6 = .ok (.iload_n 2, 1) := by decide +kernel
theorem dX3_mark_7 : decode cX3_mark 7 = .ok (.iconst 1, 1) := by decide +kernel
theorem dX3_mark_8 : decode cX3_mark 8 = .ok (.bipush 9, 2) := by decide +kernel
theorem dX3_mark_10 : decode cX3_mark 10 = .ok (.invokestatic 36, 3) := by decide +kernel
theorem dX3_mark_13 : decode cX3_mark 13 = .ok (.aload_n 3, 1) := by decide +kernel
theorem dX3_mark_14 : decode cX3_mark 14 = .ok (.getfield 65, 3) := by decide +kernel
theorem dX3_mark_17 : decode cX3_mark 17 = .ok (.istore 4, 2) := by decide +kernel
theorem dX3_mark_19 : decode cX3_mark 19 = .ok (.aload_n 3, 1) := by decide +kernel
theorem dX3_mark_20 : decode cX3_mark 20 = .ok (.iload_n 2, 1) := by decide +kernel
theorem dX3_mark_21 : decode cX3_mark 21 = .ok (.putfield 65, 3) := by decide +kernel
theorem dX3_mark_24 : decode cX3_mark 24 = .ok (.iload 4, 2) := by decide +kernel
theorem dX3_mark_26 : decode cX3_mark 26 = .ok (.ireturn, 1) := by decide +kernel
theorem dX3_rule_0 : decode cX3_rule 0 = .ok (.aload_n 0, 1) := by decide +kernel
theorem dX3_rule_1 : decode cX3_rule 1 = .ok (.getfield 17, 3) := by decide +kernel
theorem dX3_rule_4 : decode cX3_rule 4 = .ok (.istore_n 2, 1) := by decide +kernel
theorem dX3_rule_5 : decode cX3_rule 5 = .ok (.aload_n 0, 1) := by decide +kernel
theorem dX3_rule_6 : decode cX3_rule 6 = .ok (.iload_n 1, 1) := by decide +kernel
theorem dX3_rule_7 : decode cX3_rule 7 = .ok (.putfield 17, 3) := by decide +kernel
theorem dX3_rule_10 : decode cX3_rule 10 = .ok (.iload_n 2, 1) := by decide +kernel
theorem dX3_rule_11 : decode cX3_rule 11 = .ok (.ireturn, 1) := by decide +kernel
theorem dX3_demand_0 : decode cX3_demand 0 = .ok (.iload_n 1, 1) := by decide +kernel
theorem dX3_demand_1 : decode cX3_demand 1 = .ok (.iconst 0, 1) := by decide +kernel
theorem dX3_demand_2 : decode cX3_demand 2 = .ok (.bipush 20, 2) := by decide +kernel
theorem dX3_demand_4 : decode cX3_demand 4 = .ok (.invokestatic 36, 3) := by decide +kernel
theorem dX3_demand_7 : decode cX3_demand 7 = .ok (.aload_n 0, 1) := by decide +kernel
theorem dX3_demand_8 : decode cX3_demand 8 = .ok (.getfield 21, 3) := by decide +kernel
theorem dX3_demand_11 : decode cX3_demand 11 = .ok (.istore_n 2, 1) := by decide +kernel
theorem dX3_demand_12 : decode cX3_demand 12 = .ok (.aload_n 0, 1) := by decide +kernel
theorem dX3_demand_13 : decode cX3_demand 13 = .ok (.iload_n 1, 1) := by decide +kernel
theorem dX3_demand_14 : decode cX3_demand 14 = .ok (.putfield 21, 3) := by decide +kernel
theorem dX3_demand_17 : decode cX3_demand 17 = .ok (.iload_n 2, 1) := by decide +kernel
theorem dX3_demand_18 : decode cX3_demand 18 = .ok (.ireturn, 1) := by decide +kernel
theorem dX3_stop_0 : decode cX3_stop 0 = .ok (.aload_n 0, 1) := by decide +kernel
theorem dX3_stop_1 : decode cX3_stop 1 = .ok (.iload_n 1, 1) := by decide +kernel
theorem dX3_stop_2 : decode cX3_stop 2 = .ok (.invokevirtual 62, 3) := by decide +kernel
theorem dX3_stop_5 : decode cX3_stop 5 = .ok (.astore_n 2, 1) := by decide +kernel
theorem dX3_stop_6 : decode cX3_stop 6 = .ok (.aload_n 2, 1) := by decide +kernel
theorem dX3_stop_7 : decode cX3_stop 7 = .ok (.aload_n 2, 1) := by decide +kernel
theorem dX3_stop_8 : decode cX3_stop 8 = .ok (.getfield 68, 3) := by decide +kernel
theorem dX3_stop_11 : decode cX3_stop 11 = .ok (.ifCond .ne 7, 3) := by decide +kernel
theorem dX3_stop_14 : decode cX3_stop 14 = .ok (.iconst 1, 1) := by decide +kernel
theorem dX3_stop_15 : decode cX3_stop 15 = .ok (.goto 4, 3) := by decide +kernel
theorem dX3_stop_18 : decode cX3_stop 18 = .ok (.iconst 0, 1) := by decide +kernel
theorem dX3_stop_19 : decode cX3_stop 19 = .ok (.putfield 68, 3) := by decide +kernel
theorem dX3_stop_22 : decode cX3_stop 22 = .ok (.aload_n 2, 1) := by decide +kernel
theorem dX3_stop_23 : decode cX3_stop 23 = .ok (.getfield 68, 3) := by decide +kernel
theorem dX3_stop_26 : decode cX3_stop 26 = .ok (.ireturn, 1) := by decide +kernel
theorem dX3_issue_0 : decode cX3_issue 0 = .ok (.aload_n 0, 1) := by decide +kernel
theorem dX3_issue_1 : decode cX3_issue 1 = .ok (.iload_n 1, 1) := by decide +kernel
theorem dX3_issue_2 : decode cX3_issue 2 = .ok (.invokevirtual 62, 3) := by decide +kernel
theorem dX3_issue_5 : decode cX3_issue 5 = .ok (.astore_n 2, 1) := by decide +kernel
theorem dX3_issue_6 : decode cX3_issue 6 = .ok (.aload_n 2, 1) := by decide +kernel
theorem dX3_issue_7 : decode cX3_issue 7 = .ok (.getfield 71, 3) := by decide +kernel
theorem dX3_issue_10 : decode cX3_issue 10 = .ok (.bipush 9, 2) := by decide +kernel
theorem dX3_issue_12 : decode cX3_issue 12 = .ok (.if_icmp .lt 13, 3) := by decide +kernel
theorem dX3_issue_15 : decode cX3_issue 15 = .ok (.new 40, 3) := by decide +kernel
theorem dX3_issue_18 : decode cX3_issue 18 = .ok (.dup, 1) := by decide +kernel
theorem dX3_issue_19 : decode cX3_issue 19 = .ok (.ldc 74, 2) := by decide +kernel
theorem dX3_issue_21 : decode cX3_issue 21 = .ok (.invokespecial 44, 3) := by decide +kernel
theorem dX3_issue_24 : decode cX3_issue 24 = .ok (.athrow, 1) := by decide +kernel
theorem dX3_issue_25 : decode cX3_issue 25 = .ok (.aload_n 2, 1) := by decide +kernel
theorem dX3_issue_26 : decode cX3_issue 26 = .ok (.dup, 1) := by decide +kernel
theorem dX3_issue_27 : decode cX3_issue 27 = .ok (.getfield 71, 3) := by decide +kernel
theorem dX3_issue_30 : decode cX3_issue 30 = .ok (.iconst 1, 1) := by decide +kernel
theorem dX3_issue_31 : decode cX3_issue 31 = .ok (.iadd, 1) := by decide +kernel
theorem dX3_issue_32 : decode cX3_issue 32 = .ok (.putfield 71, 3) := by decide +kernel
theorem dX3_issue_35 : decode cX3_issue 35 = .ok (.aload_n 2, 1) := by decide +kernel
theorem dX3_issue_36 : decode cX3_issue 36 = .ok (.dup, 1) := by decide +kernel
theorem dX3_issue_37 : decode cX3_issue 37 = .ok (.getfield 76, 3) := by decide +kernel
theorem dX3_issue_40 : decode cX3_issue 40 = .ok (.iconst 1, 1) := by decide +kernel
theorem dX3_issue_41 : decode cX3_issue 41 = .ok (.iadd, 1) := by decide +kernel
theorem dX3_issue_42 : decode cX3_issue 42 = .ok (.putfield 76, 3) := by decide +kernel
theorem dX3_issue_45 : decode cX3_issue 45 = .ok (.aload_n 2, 1) := by decide +kernel
theorem dX3_issue_46 : decode cX3_issue 46 = .ok (.getfield 71, 3) := by decide +kernel
theorem dX3_issue_49 : decode cX3_issue 49 = .ok (.ireturn, 1) := by decide +kernel
theorem dX3_retire_0 : decode cX3_retire 0 = .ok (.aload_n 0, 1) := by decide +kernel
theorem dX3_retire_1 : decode cX3_retire 1 = .ok (.iload_n 1, 1) := by decide +kernel
theorem dX3_retire_2 : decode cX3_retire 2 = .ok (.invokevirtual 62, 3) := by decide +kernel
theorem dX3_retire_5 : decode cX3_retire 5 = .ok (.astore_n 2, 1) := by decide +kernel
theorem dX3_retire_6 : decode cX3_retire 6 = .ok (.aload_n 2, 1) := by decide +kernel
theorem dX3_retire_7 : decode cX3_retire 7 = .ok (.getfield 76, 3) := by decide +kernel
theorem dX3_retire_10 : decode cX3_retire 10 = .ok (.iconst 1, 1) := by decide +kernel
theorem dX3_retire_11 : decode cX3_retire 11 = .ok (.if_icmp .lt 11, 3) := by decide +kernel
theorem dX3_retire_14 : decode cX3_retire 14 = .ok (.aload_n 2, 1) := by decide +kernel
theorem dX3_retire_15 : decode cX3_retire 15 = .ok (.getfield 71, 3) := by decide +kernel
theorem dX3_retire_18 : decode cX3_retire 18 = .ok (.iconst 1, 1) := by decide +kernel
theorem dX3_retire_19 : decode cX3_retire 19 = .ok (.if_icmp .gt 13, 3) := by decide +kernel
theorem dX3_retire_22 : decode cX3_retire 22 = .ok (.new 40, 3) := by decide +kernel
theorem dX3_retire_25 : decode cX3_retire 25 = .ok (.dup, 1) := by decide +kernel
theorem dX3_retire_26 : decode cX3_retire 26 = .ok (.ldc 79, 2) := by decide +kernel
theorem dX3_retire_28 : decode cX3_retire 28 = .ok (.invokespecial 44, 3) := by decide +kernel
theorem dX3_retire_31 : decode cX3_retire 31 = .ok (.athrow, 1) := by decide +kernel
theorem dX3_retire_32 : decode cX3_retire 32 = .ok (.aload_n 2, 1) := by decide +kernel
theorem dX3_retire_33 : decode cX3_retire 33 = .ok (.dup, 1) := by decide +kernel
theorem dX3_retire_34 : decode cX3_retire 34 = .ok (.getfield 71, 3) := by decide +kernel
theorem dX3_retire_37 : decode cX3_retire 37 = .ok (.iconst 1, 1) := by decide +kernel
theorem dX3_retire_38 : decode cX3_retire 38 = .ok (.isub, 1) := by decide +kernel
theorem dX3_retire_39 : decode cX3_retire 39 = .ok (.putfield 71, 3) := by decide +kernel
theorem dX3_retire_42 : decode cX3_retire 42 = .ok (.aload_n 2, 1) := by decide +kernel
theorem dX3_retire_43 : decode cX3_retire 43 = .ok (.dup, 1) := by decide +kernel
theorem dX3_retire_44 : decode cX3_retire 44 = .ok (.getfield 76, 3) := by decide +kernel
theorem dX3_retire_47 : decode cX3_retire 47 = .ok (.iconst 1, 1) := by decide +kernel
theorem dX3_retire_48 : decode cX3_retire 48 = .ok (.isub, 1) := by decide +kernel
theorem dX3_retire_49 : decode cX3_retire 49 = .ok (.putfield 76, 3) := by decide +kernel
theorem dX3_retire_52 : decode cX3_retire 52 = .ok (.aload_n 2, 1) := by decide +kernel
theorem dX3_retire_53 : decode cX3_retire 53 = .ok (.aload_n 2, 1) := by decide +kernel
theorem dX3_retire_54 : decode cX3_retire 54 = .ok (.getfield 81, 3) := by decide +kernel
theorem dX3_retire_57 : decode cX3_retire 57 = .ok (.aload_n 2, 1) := by decide +kernel
theorem dX3_retire_58 : decode cX3_retire 58 = .ok (.getfield 76, 3) := by decide +kernel
theorem dX3_retire_61 : decode cX3_retire 61 = .ok (.invokestatic 84, 3) := by decide +kernel
theorem dX3_retire_64 : decode cX3_retire 64 = .ok (.putfield 81, 3) := by decide +kernel
theorem dX3_retire_67 : decode cX3_retire 67 = .ok (.aload_n 2, 1) := by decide +kernel
theorem dX3_retire_68 : decode cX3_retire 68 = .ok (.getfield 71, 3) := by decide +kernel
theorem dX3_retire_71 : decode cX3_retire 71 = .ok (.ireturn, 1) := by decide +kernel
theorem dX3_issueConveyance_0 : decode cX3_issueConveyance 0 = .ok (.aload_n 0, 1) := by decide +kernel
theorem dX3_issueConveyance_1 : decode cX3_issueConveyance 1 = .ok (.iload_n 1, 1) := by decide +kernel
theorem dX3_issueConveyance_2 : decode cX3_issueConveyance 2 = .ok (.invokevirtual 55, 3) := by decide +kernel
theorem dX3_issueConveyance_5 : decode cX3_issueConveyance 5 = .ok (.astore_n 2, 1) := by decide +kernel
theorem dX3_issueConveyance_6 : decode cX3_issueConveyance 6 = .ok (.aload_n 2, 1) := by decide +kernel
theorem dX3_issueConveyance_7 : decode cX3_issueConveyance 7 = .ok (.getfield 90, 3) := by decide +kernel
theorem dX3_issueConveyance_10 : decode cX3_issueConveyance 10 = .ok (.iconst 5, 1) := by decide +kernel
theorem dX3_issueConveyance_11 : decode cX3_issueConveyance 11 = .ok (.if_icmp .lt 13, 3) := by decide +kernel
theorem dX3_issueConveyance_14 : decode cX3_issueConveyance 14 = .ok (.new 40, 3) := by decide +kernel
theorem dX3_issueConveyance_17 : decode cX3_issueConveyance 17 = .ok (.dup, 1) := by decide +kernel
theorem dX3_issueConveyance_18 : decode cX3_issueConveyance 18 = .ok (.ldc 93, 2) := by decide +kernel
theorem dX3_issueConveyance_20 : decode cX3_issueConveyance 20 = .ok (.invokespecial 44, 3) := by decide +kernel
theorem dX3_issueConveyance_23 : decode cX3_issueConveyance 23 = .ok (.athrow, 1) := by decide +kernel
theorem dX3_issueConveyance_24 : decode cX3_issueConveyance 24 = .ok (.aload_n 2, 1) := by decide +kernel
theorem dX3_issueConveyance_25 : decode cX3_issueConveyance 25 = .ok (.dup, 1) := by decide +kernel
theorem dX3_issueConveyance_26 : decode cX3_issueConveyance 26 = .ok (.getfield 90, 3) := by decide +kernel
theorem dX3_issueConveyance_29 : decode cX3_issueConveyance 29 = .ok (.iconst 1, 1) := by decide +kernel
theorem dX3_issueConveyance_30 : decode cX3_issueConveyance 30 = .ok (.iadd, 1) := by decide +kernel
theorem dX3_issueConveyance_31 : decode cX3_issueConveyance 31 = .ok (.putfield 90, 3) := by decide +kernel
theorem dX3_issueConveyance_34 : decode cX3_issueConveyance 34 = .ok (.aload_n 2, 1) := by decide +kernel
theorem dX3_issueConveyance_35 : decode cX3_issueConveyance 35 = .ok (.dup, 1) := by decide +kernel
theorem dX3_issueConveyance_36 : decode cX3_issueConveyance 36 = .ok (.getfield 95, 3) := by decide +kernel
theorem dX3_issueConveyance_39 : decode cX3_issueConveyance 39 = .ok (.iconst 1, 1) := by decide +kernel
theorem dX3_issueConveyance_40 : decode cX3_issueConveyance 40 = .ok (.iadd, 1) := by decide +kernel
theorem dX3_issueConveyance_41 : decode cX3_issueConveyance 41 = .ok (.putfield 95, 3) := by decide +kernel
theorem dX3_issueConveyance_44 : decode cX3_issueConveyance 44 = .ok (.aload_n 2, 1) := by decide +kernel
theorem dX3_issueConveyance_45 : decode cX3_issueConveyance 45 = .ok (.getfield 90, 3) := by decide +kernel
theorem dX3_issueConveyance_48 : decode cX3_issueConveyance 48 = .ok (.ireturn, 1) := by decide +kernel
theorem dX3_retireConveyance_0 : decode cX3_retireConveyance 0 = .ok (.aload_n 0, 1) := by decide +kernel
theorem dX3_retireConveyance_1 : decode cX3_retireConveyance 1 = .ok (.iload_n 1, 1) := by decide +kernel
theorem dX3_retireConveyance_2 : decode cX3_retireConveyance 2 = .ok (.invokevirtual 55, 3) := by decide +kernel
theorem dX3_retireConveyance_5 : decode cX3_retireConveyance 5 = .ok (.astore_n 2, 1) := by decide +kernel
theorem dX3_retireConveyance_6 : decode cX3_retireConveyance 6 = .ok (.aload_n 2, 1) := by decide +kernel
theorem dX3_retireConveyance_7 : decode cX3_retireConveyance 7 = .ok (.getfield 95, 3) := by decide +kernel
theorem dX3_retireConveyance_10 : decode cX3_retireConveyance 10 = .ok (.iconst 1, 1) := by decide +kernel
theorem dX3_retireConveyance_11 : decode cX3_retireConveyance 11 = .ok (.if_icmp .lt 11, 3) := by decide +kernel
theorem dX3_retireConveyance_14 : decode cX3_retireConveyance 14 = .ok (.aload_n 2, 1) := by decide +kernel
theorem dX3_retireConveyance_15 : decode cX3_retireConveyance 15 = .ok (.getfield 90, 3) := by decide +kernel
theorem dX3_retireConveyance_18 : decode cX3_retireConveyance 18 = .ok (.iconst 1, 1) := by decide +kernel
theorem dX3_retireConveyance_19 : decode cX3_retireConveyance 19 = .ok (.if_icmp .gt 13, 3) := by decide +kernel
theorem dX3_retireConveyance_22 : decode cX3_retireConveyance 22 = .ok (.new 40, 3) := by decide +kernel
theorem dX3_retireConveyance_25 : decode cX3_retireConveyance 25 = .ok (.dup, 1) := by decide +kernel
theorem dX3_retireConveyance_26 : decode cX3_retireConveyance 26 = .ok (.ldc 98, 2) := by decide +kernel
theorem dX3_retireConveyance_28 : decode cX3_retireConveyance 28 = .ok (.invokespecial 44, 3) := by decide +kernel
theorem dX3_retireConveyance_31 : decode cX3_retireConveyance 31 = .ok (.athrow, 1) := by decide +kernel
theorem dX3_retireConveyance_32 : decode cX3_retireConveyance 32 = .ok (.aload_n 2, 1) := by decide +kernel
theorem dX3_retireConveyance_33 : decode cX3_retireConveyance 33 = .ok (.dup, 1) := by decide +kernel
theorem dX3_retireConveyance_34 : decode cX3_retireConveyance 34 = .ok (.getfield 90, 3) := by decide +kernel
theorem dX3_retireConveyance_37 : decode cX3_retireConveyance 37 = .ok (.iconst 1, 1) := by decide +kernel
theorem dX3_retireConveyance_38 : decode cX3_retireConveyance 38 = .ok (.isub, 1) := by decide +kernel
theorem dX3_retireConveyance_39 : decode cX3_retireConveyance 39 = .ok (.putfield 90, 3) := by decide +kernel
theorem dX3_retireConveyance_42 : decode cX3_retireConveyance 42 = .ok (.aload_n 2, 1) := by decide +kernel
theorem dX3_retireConveyance_43 : decode cX3_retireConveyance 43 = .ok (.dup, 1) := by decide +kernel
theorem dX3_retireConveyance_44 : decode cX3_retireConveyance 44 = .ok (.getfield 95, 3) := by decide +kernel
theorem dX3_retireConveyance_47 : decode cX3_retireConveyance 47 = .ok (.iconst 1, 1) := by decide +kernel
theorem dX3_retireConveyance_48 : decode cX3_retireConveyance 48 = .ok (.isub, 1) := by decide +kernel
theorem dX3_retireConveyance_49 : decode cX3_retireConveyance 49 = .ok (.putfield 95, 3) := by decide +kernel
theorem dX3_retireConveyance_52 : decode cX3_retireConveyance 52 = .ok (.aload_n 2, 1) := by decide +kernel
theorem dX3_retireConveyance_53 : decode cX3_retireConveyance 53 = .ok (.getfield 90, 3) := by decide +kernel
theorem dX3_retireConveyance_56 : decode cX3_retireConveyance 56 = .ok (.ireturn, 1) := by decide +kernel
theorem dX3_needed_0 : decode cX3_needed 0 = .ok (.aload_n 0, 1) := by decide +kernel
theorem dX3_needed_1 : decode cX3_needed 1 = .ok (.iload_n 1, 1) := by decide +kernel
theorem dX3_needed_2 : decode cX3_needed 2 = .ok (.invokevirtual 62, 3) := by decide +kernel
theorem dX3_needed_5 : decode cX3_needed 5 = .ok (.astore_n 3, 1) := by decide +kernel
theorem dX3_needed_6 : decode cX3_needed 6 = .ok (.iload_n 2, 1) := by decide +kernel
theorem dX3_needed_7 : decode cX3_needed 7 = .ok (.iconst 0, 1) := by decide +kernel
theorem dX3_needed_8 : decode cX3_needed 8 = .ok (.bipush 100, 2) := by decide +kernel
theorem dX3_needed_10 : decode cX3_needed 10 = .ok (.invokestatic 36, 3) := by decide +kernel
theorem dX3_needed_13 : decode cX3_needed 13 = .ok (.aload_n 3, 1) := by decide +kernel
theorem dX3_needed_14 : decode cX3_needed 14 = .ok (.getfield 65, 3) := by decide +kernel
theorem dX3_needed_17 : decode cX3_needed 17 = .ok (.aload_n 3, 1) := by decide +kernel
theorem dX3_needed_18 : decode cX3_needed 18 = .ok (.getfield 100, 3) := by decide +kernel
theorem dX3_needed_21 : decode cX3_needed 21 = .ok (.imul, 1) := by decide +kernel
theorem dX3_needed_22 : decode cX3_needed 22 = .ok (.aload_n 0, 1) := by decide +kernel
theorem dX3_needed_23 : decode cX3_needed 23 = .ok (.aload_n 3, 1) := by decide +kernel
theorem dX3_needed_24 : decode cX3_needed 24 = .ok (.invokevirtual 103, 3) := by decide +kernel
theorem dX3_needed_27 : decode cX3_needed 27 = .ok (.iadd, 1) := by decide +kernel
theorem dX3_needed_28 : decode cX3_needed 28 = .ok (.istore 4, 2) := by decide +kernel
theorem dX3_needed_30 : decode cX3_needed 30 = .ok (.aload_n 0, 1) := by decide +kernel
theorem dX3_needed_31 : decode cX3_needed 31 = .ok (.getfield 21, 3) := by decide +kernel
theorem dX3_needed_34 : decode cX3_needed 34 = .ok (.iload 4, 2) := by decide +kernel
theorem dX3_needed_36 : decode cX3_needed 36 = .ok (.imul, 1) := by decide +kernel
theorem dX3_needed_37 : decode cX3_needed 37 = .ok (.bipush 100, 2) := by decide +kernel
theorem dX3_needed_39 : decode cX3_needed 39 = .ok (.iload_n 2, 1) := by decide +kernel
theorem dX3_needed_40 : decode cX3_needed 40 = .ok (.iadd, 1) := by decide +kernel
theorem dX3_needed_41 : decode cX3_needed 41 = .ok (.imul, 1) := by decide +kernel
theorem dX3_needed_42 : decode cX3_needed 42 = .ok (.istore 5, 2) := by decide +kernel
theorem dX3_needed_44 : decode cX3_needed 44 = .ok (.bipush 100, 2) := by decide +kernel
theorem dX3_needed_46 : decode cX3_needed 46 = .ok (.aload_n 3, 1) := by decide +kernel
theorem dX3_needed_47 : decode cX3_needed 47 = .ok (.getfield 107, 3) := by decide +kernel
theorem dX3_needed_50 : decode cX3_needed 50 = .ok (.imul, 1) := by decide +kernel
theorem dX3_needed_51 : decode cX3_needed 51 = .ok (.istore 6, 2) := by decide +kernel
theorem dX3_needed_53 : decode cX3_needed 53 = .ok (.iload 6, 2) := by decide +kernel
theorem dX3_needed_55 : decode cX3_needed 55 = .ok (.iconst 1, 1) := by decide +kernel
theorem dX3_needed_56 : decode cX3_needed 56 = .ok (.if_icmp .ge 5, 3) := by decide +kernel
theorem dX3_needed_59 : decode cX3_needed 59 = .ok (.iconst 1, 1) := by decide +kernel
theorem dX3_needed_60 : decode cX3_needed 60 = .ok (.ireturn, 1) := by decide +kernel
theorem dX3_needed_61 : decode cX3_needed 61 = .ok (.iload 5, 2) := by decide +kernel
theorem dX3_needed_63 : decode cX3_needed 63 = .ok (.iload 6, 2) := by decide +kernel
theorem dX3_needed_65 : decode cX3_needed 65 = .ok (.iadd, 1) := by decide +kernel
theorem dX3_needed_66 : decode cX3_needed 66 = .ok (.iconst 1, 1) := by decide +kernel
theorem dX3_needed_67 : decode cX3_needed 67 = .ok (.isub, 1) := by decide +kernel
theorem dX3_needed_68 : decode cX3_needed 68 = .ok (.iload 6, 2) := by decide +kernel
theorem dX3_needed_70 : decode cX3_needed 70 = .ok (.idiv, 1) := by decide +kernel
theorem dX3_needed_71 : decode cX3_needed 71 = .ok (.istore 7, 2) := by decide +kernel
theorem dX3_needed_73 : decode cX3_needed 73 = .ok (.iconst 1, 1) := by decide +kernel
theorem dX3_needed_74 : decode cX3_needed 74 = .ok (.iload 7, 2) := by decide +kernel
theorem dX3_needed_76 : decode cX3_needed 76 = .ok (.invokestatic 110, 3) := by decide +kernel
theorem dX3_needed_79 : decode cX3_needed 79 = .ok (.ireturn, 1) := by decide +kernel
theorem dX3_step_0 : decode cX3_step 0 = .ok (.iload_n 1, 1) := by decide +kernel
theorem dX3_step_1 : decode cX3_step 1 = .ok (.iconst 1, 1) := by decide +kernel
theorem dX3_step_2 : decode cX3_step 2 = .ok (.bipush 50, 2) := by decide +kernel
theorem dX3_step_4 : decode cX3_step 4 = .ok (.invokestatic 36, 3) := by decide +kernel
theorem dX3_step_7 : decode cX3_step 7 = .ok (.aload_n 0, 1) := by decide +kernel
theorem dX3_step_8 : decode cX3_step 8 = .ok (.getfield 7, 3) := by decide +kernel
theorem dX3_step_11 : decode cX3_step 11 = .ok (.ifnonnull 13, 3) := by decide +kernel
theorem dX3_step_14 : decode cX3_step 14 = .ok (.new 40, 3) := by decide +kernel
theorem dX3_step_17 : decode cX3_step 17 = .ok (.dup, 1) := by decide +kernel
theorem dX3_step_18 : decode cX3_step 18 = .ok (.ldc 113, 2) := by decide +kernel
theorem dX3_step_20 : decode cX3_step 20 = .ok (.invokespecial 44, 3) := by decide +kernel
theorem dX3_step_23 : decode cX3_step 23 = .ok (.athrow, 1) := by decide +kernel
theorem dX3_step_24 : decode cX3_step 24 = .ok (.aload_n 0, 1) := by decide +kernel
theorem dX3_step_25 : decode cX3_step 25 = .ok (.getfield 27, 3) := by decide +kernel
theorem dX3_step_28 : decode cX3_step 28 = .ok (.istore_n 2, 1) := by decide +kernel
theorem dX3_step_29 : decode cX3_step 29 = .ok (.iconst 0, 1) := by decide +kernel
theorem dX3_step_30 : decode cX3_step 30 = .ok (.istore_n 3, 1) := by decide +kernel
theorem dX3_step_31 : decode cX3_step 31 = .ok (.iload_n 3, 1) := by decide +kernel
theorem dX3_step_32 : decode cX3_step 32 = .ok (.iload_n 1, 1) := by decide +kernel
theorem dX3_step_33 : decode cX3_step 33 = .ok (.if_icmp .ge 17, 3) := by decide +kernel
theorem dX3_step_36 : decode cX3_step 36 = .ok (.aload_n 0, 1) := by decide +kernel
theorem dX3_step_37 : decode cX3_step 37 = .ok (.aload_n 0, 1) := by decide +kernel
theorem dX3_step_38 : decode cX3_step 38 = .ok (.getfield 7, 3) := by decide +kernel
theorem dX3_step_41 : decode cX3_step 41 = .ok (.invokevirtual 115, 3) := by decide +kernel
theorem dX3_step_44 : decode cX3_step 44 = .ok (.iinc 3 1, 3) := by decide +kernel
theorem dX3_step_47 : decode cX3_step 47 = .ok (.goto (-16), 3) := by decide +kernel
theorem dX3_step_50 : decode cX3_step 50 = .ok (.aload_n 0, 1) := by decide +kernel
theorem dX3_step_51 : decode cX3_step 51 = .ok (.getfield 27, 3) := by decide +kernel
theorem dX3_step_54 : decode cX3_step 54 = .ok (.iload_n 2, 1) := by decide +kernel
theorem dX3_step_55 : decode cX3_step 55 = .ok (.isub, 1) := by decide +kernel
theorem dX3_step_56 : decode cX3_step 56 = .ok (.ireturn, 1) := by decide +kernel
theorem dX3_time_0 : decode cX3_time 0 = .ok (.aload_n 0, 1) := by decide +kernel
theorem dX3_time_1 : decode cX3_time 1 = .ok (.getfield 24, 3) := by decide +kernel
theorem dX3_time_4 : decode cX3_time 4 = .ok (.ireturn, 1) := by decide +kernel
theorem dX3_stages_0 : decode cX3_stages 0 = .ok (.aload_n 0, 1) := by decide +kernel
theorem dX3_stages_1 : decode cX3_stages 1 = .ok (.getfield 13, 3) := by decide +kernel
theorem dX3_stages_4 : decode cX3_stages 4 = .ok (.ireturn, 1) := by decide +kernel
theorem dX3_board_0 : decode cX3_board 0 = .ok (.aload_n 0, 1) := by decide +kernel
theorem dX3_board_1 : decode cX3_board 1 = .ok (.iload_n 1, 1) := by decide +kernel
theorem dX3_board_2 : decode cX3_board 2 = .ok (.invokevirtual 62, 3) := by decide +kernel
theorem dX3_board_5 : decode cX3_board 5 = .ok (.getfield 76, 3) := by decide +kernel
theorem dX3_board_8 : decode cX3_board 8 = .ok (.ireturn, 1) := by decide +kernel
theorem dX3_attached_0 : decode cX3_attached 0 = .ok (.aload_n 0, 1) := by decide +kernel
theorem dX3_attached_1 : decode cX3_attached 1 = .ok (.iload_n 1, 1) := by decide +kernel
theorem dX3_attached_2 : decode cX3_attached 2 = .ok (.invokevirtual 62, 3) := by decide +kernel
theorem dX3_attached_5 : decode cX3_attached 5 = .ok (.getfield 119, 3) := by decide +kernel
theorem dX3_attached_8 : decode cX3_attached 8 = .ok (.invokevirtual 123, 3) := by decide +kernel
theorem dX3_attached_11 : decode cX3_attached 11 = .ok (.ireturn, 1) := by decide +kernel
theorem dX3_left_0 : decode cX3_left 0 = .ok (.aload_n 0, 1) := by decide +kernel
theorem dX3_left_1 : decode cX3_left 1 = .ok (.iload_n 1, 1) := by decide +kernel
theorem dX3_left_2 : decode cX3_left 2 = .ok (.invokevirtual 62, 3) := by decide +kernel
theorem dX3_left_5 : decode cX3_left 5 = .ok (.getfield 129, 3) := by decide +kernel
theorem dX3_left_8 : decode cX3_left 8 = .ok (.ireturn, 1) := by decide +kernel
theorem dX3_run_0 : decode cX3_run 0 = .ok (.aload_n 0, 1) := by decide +kernel
theorem dX3_run_1 : decode cX3_run 1 = .ok (.iload_n 1, 1) := by decide +kernel
theorem dX3_run_2 : decode cX3_run 2 = .ok (.invokevirtual 62, 3) := by decide +kernel
theorem dX3_run_5 : decode cX3_run 5 = .ok (.getfield 81, 3) := by decide +kernel
theorem dX3_run_8 : decode cX3_run 8 = .ok (.ireturn, 1) := by decide +kernel
theorem dX3_market_0 : decode cX3_market 0 = .ok (.aload_n 0, 1) := by decide +kernel
theorem dX3_market_1 : decode cX3_market 1 = .ok (.iload_n 1, 1) := by decide +kernel
theorem dX3_market_2 : decode cX3_market 2 = .ok (.invokevirtual 62, 3) := by decide +kernel
theorem dX3_market_5 : decode cX3_market 5 = .ok (.getfield 119, 3) := by decide +kernel
theorem dX3_market_8 : decode cX3_market 8 = .ok (.invokevirtual 132, 3) := by decide +kernel
theorem dX3_market_11 : decode cX3_market 11 = .ok (.ireturn, 1) := by decide +kernel
theorem dX3_inbox_0 : decode cX3_inbox 0 = .ok (.aload_n 0, 1) := by decide +kernel
theorem dX3_inbox_1 : decode cX3_inbox 1 = .ok (.iload_n 1, 1) := by decide +kernel
theorem dX3_inbox_2 : decode cX3_inbox 2 = .ok (.invokevirtual 62, 3) := by decide +kernel
theorem dX3_inbox_5 : decode cX3_inbox 5 = .ok (.getfield 135, 3) := by decide +kernel
theorem dX3_inbox_8 : decode cX3_inbox 8 = .ok (.invokevirtual 132, 3) := by decide +kernel
theorem dX3_inbox_11 : decode cX3_inbox 11 = .ok (.ireturn, 1) := by decide +kernel
theorem dX3_waiting_0 : decode cX3_waiting 0 = .ok (.aload_n 0, 1) := by decide +kernel
theorem dX3_waiting_1 : decode cX3_waiting 1 = .ok (.iload_n 1, 1) := by decide +kernel
theorem dX3_waiting_2 : decode cX3_waiting 2 = .ok (.invokevirtual 62, 3) := by decide +kernel
theorem dX3_waiting_5 : decode cX3_waiting 5 = .ok (.getfield 95, 3) := by decide +kernel
theorem dX3_waiting_8 : decode cX3_waiting 8 = .ok (.ireturn, 1) := by decide +kernel
theorem dX3_travelling_0 : decode cX3_travelling 0 = .ok (.aload_n 0, 1) := by decide +kernel
theorem dX3_travelling_1 : decode cX3_travelling 1 = .ok (.iload_n 1, 1) := by decide +kernel
theorem dX3_travelling_2 : decode cX3_travelling 2 = .ok (.invokevirtual 62, 3) := by decide +kernel
theorem dX3_travelling_5 : decode cX3_travelling 5 = .ok (.getfield 138, 3) := by decide +kernel
theorem dX3_travelling_8 : decode cX3_travelling 8 = .ok (.getfield 142, 3) := by decide +kernel
theorem dX3_travelling_11 : decode cX3_travelling 11 = .ok (.ireturn, 1) := by decide +kernel
theorem dX3_firstUnits_0 : decode cX3_firstUnits 0 = .ok (.aload_n 0, 1) := by decide +kernel
theorem dX3_firstUnits_1 : decode cX3_firstUnits 1 = .ok (.iload_n 1, 1) := by decide +kernel
theorem dX3_firstUnits_2 : decode cX3_firstUnits 2 = .ok (.invokevirtual 62, 3) := by decide +kernel
theorem dX3_firstUnits_5 : decode cX3_firstUnits 5 = .ok (.getfield 119, 3) := by decide +kernel
theorem dX3_firstUnits_8 : decode cX3_firstUnits 8 = .ok (.invokevirtual 147, 3) := by decide +kernel
theorem dX3_firstUnits_11 : decode cX3_firstUnits 11 = .ok (.ireturn, 1) := by decide +kernel
theorem dX3_taken_0 : decode cX3_taken 0 = .ok (.aload_n 0, 1) := by decide +kernel
theorem dX3_taken_1 : decode cX3_taken 1 = .ok (.getfield 27, 3) := by decide +kernel
theorem dX3_taken_4 : decode cX3_taken 4 = .ok (.ireturn, 1) := by decide +kernel
theorem dX3_backlog_0 : decode cX3_backlog 0 = .ok (.aload_n 0, 1) := by decide +kernel
theorem dX3_backlog_1 : decode cX3_backlog 1 = .ok (.getfield 30, 3) := by decide +kernel
theorem dX3_backlog_4 : decode cX3_backlog 4 = .ok (.ireturn, 1) := by decide +kernel
theorem dX3_shortSteps_0 : decode cX3_shortSteps 0 = .ok (.aload_n 0, 1) := by decide +kernel
theorem dX3_shortSteps_1 : decode cX3_shortSteps 1 = .ok (.getfield 33, 3) := by decide +kernel
theorem dX3_shortSteps_4 : decode cX3_shortSteps 4 = .ok (.ireturn, 1) := by decide +kernel
theorem dX3_starved_0 : decode cX3_starved 0 = .ok (.aload_n 0, 1) := by decide +kernel
theorem dX3_starved_1 : decode cX3_starved 1 = .ok (.iload_n 1, 1) := by decide +kernel
theorem dX3_starved_2 : decode cX3_starved 2 = .ok (.invokevirtual 62, 3) := by decide +kernel
theorem dX3_starved_5 : decode cX3_starved 5 = .ok (.getfield 150, 3) := by decide +kernel
theorem dX3_starved_8 : decode cX3_starved 8 = .ok (.ireturn, 1) := by decide +kernel
theorem dX3_stock_0 : decode cX3_stock 0 = .ok (.iconst 0, 1) := by decide +kernel
theorem dX3_stock_1 : decode cX3_stock 1 = .ok (.istore_n 1, 1) := by decide +kernel
theorem dX3_stock_2 : decode cX3_stock 2 = .ok (.aload_n 0, 1) := by decide +kernel
theorem dX3_stock_3 : decode cX3_stock 3 = .ok (.getfield 7, 3) := by decide +kernel
theorem dX3_stock_6 : decode cX3_stock 6 = .ok (.astore_n 2, 1) := by decide +kernel
theorem dX3_stock_7 : decode cX3_stock 7 = .ok (.aload_n 2, 1) := by decide +kernel
theorem dX3_stock_8 : decode cX3_stock 8 = .ok (.ifnull 18, 3) := by decide +kernel
theorem dX3_stock_11 : decode cX3_stock 11 = .ok (.iload_n 1, 1) := by decide +kernel
theorem dX3_stock_12 : decode cX3_stock 12 = .ok (.aload_n 2, 1) := by decide +kernel
theorem dX3_stock_13 : decode cX3_stock 13 = .ok (.invokevirtual 153, 3) := by decide +kernel
theorem dX3_stock_16 : decode cX3_stock 16 = .ok (.iadd, 1) := by decide +kernel
theorem dX3_stock_17 : decode cX3_stock 17 = .ok (.istore_n 1, 1) := by decide +kernel
theorem dX3_stock_18 : decode cX3_stock 18 = .ok (.aload_n 2, 1) := by decide +kernel
theorem dX3_stock_19 : decode cX3_stock 19 = .ok (.getfield 156, 3) := by decide +kernel
theorem dX3_stock_22 : decode cX3_stock 22 = .ok (.astore_n 2, 1) := by decide +kernel
theorem dX3_stock_23 : decode cX3_stock 23 = .ok (.goto (-16), 3) := by decide +kernel
theorem dX3_stock_26 : decode cX3_stock 26 = .ok (.iload_n 1, 1) := by decide +kernel
theorem dX3_stock_27 : decode cX3_stock 27 = .ok (.ireturn, 1) := by decide +kernel
theorem dX3_stockByFlow_0 : decode cX3_stockByFlow 0 = .ok (.aload_n 0, 1) := by decide +kernel
theorem dX3_stockByFlow_1 : decode cX3_stockByFlow 1 = .ok (.getfield 27, 3) := by decide +kernel
theorem dX3_stockByFlow_4 : decode cX3_stockByFlow 4 = .ok (.ineg, 1) := by decide +kernel
theorem dX3_stockByFlow_5 : decode cX3_stockByFlow 5 = .ok (.istore_n 1, 1) := by decide +kernel
theorem dX3_stockByFlow_6 : decode cX3_stockByFlow 6 = .ok (.aload_n 0, 1) := by decide +kernel
theorem dX3_stockByFlow_7 : decode cX3_stockByFlow 7 = .ok (.getfield 7, 3) := by decide +kernel
theorem dX3_stockByFlow_10 : decode cX3_stockByFlow 10 = .ok (.astore_n 2, 1) := by decide +kernel
theorem dX3_stockByFlow_11 : decode cX3_stockByFlow 11 = .ok (.aload_n 2, 1) := by decide +kernel
theorem dX3_stockByFlow_12 : decode cX3_stockByFlow 12 = .ok (.ifnull 18, 3) := by decide +kernel
theorem dX3_stockByFlow_15 : decode cX3_stockByFlow 15 = .ok (.iload_n 1, 1) := by decide +kernel
theorem dX3_stockByFlow_16 : decode cX3_stockByFlow 16 = .ok (.aload_n 2, 1) := by decide +kernel
theorem dX3_stockByFlow_17 : decode cX3_stockByFlow 17 = .ok (.getfield 159, 3) := by decide +kernel
theorem dX3_stockByFlow_20 : decode cX3_stockByFlow 20 = .ok (.iadd, 1) := by decide +kernel
theorem dX3_stockByFlow_21 : decode cX3_stockByFlow 21 = .ok (.istore_n 1, 1) := by decide +kernel
theorem dX3_stockByFlow_22 : decode cX3_stockByFlow 22 = .ok (.aload_n 2, 1) := by decide +kernel
theorem dX3_stockByFlow_23 : decode cX3_stockByFlow 23 = .ok (.getfield 156, 3) := by decide +kernel
theorem dX3_stockByFlow_26 : decode cX3_stockByFlow 26 = .ok (.astore_n 2, 1) := by decide +kernel
theorem dX3_stockByFlow_27 : decode cX3_stockByFlow 27 = .ok (.goto (-16), 3) := by decide +kernel
theorem dX3_stockByFlow_30 : decode cX3_stockByFlow 30 = .ok (.iload_n 1, 1) := by decide +kernel
theorem dX3_stockByFlow_31 : decode cX3_stockByFlow 31 = .ok (.ireturn, 1) := by decide +kernel
theorem dX3_checkRange_0 : decode cX3_checkRange 0 = .ok (.iload_n 0, 1) := by decide +kernel
theorem dX3_checkRange_1 : decode cX3_checkRange 1 = .ok (.iload_n 1, 1) := by decide +kernel
theorem dX3_checkRange_2 : decode cX3_checkRange 2 = .ok (.if_icmp .lt 8, 3) := by decide +kernel
theorem dX3_checkRange_5 : decode cX3_checkRange 5 = .ok (.iload_n 0, 1) := by decide +kernel
theorem dX3_checkRange_6 : decode cX3_checkRange 6 = .ok (.iload_n 2, 1) := by decide +kernel
theorem dX3_checkRange_7 : decode cX3_checkRange 7 = .ok (.if_icmp .le 13, 3) := by decide +kernel
theorem dX3_checkRange_10 : decode cX3_checkRange 10 = .ok (.new 162, 3) := by decide +kernel
theorem dX3_checkRange_13 : decode cX3_checkRange 13 = .ok (.dup, 1) := by decide +kernel
theorem dX3_checkRange_14 : decode cX3_checkRange 14 = .ok (.ldc 164, 2) := by decide +kernel
theorem dX3_checkRange_16 : decode cX3_checkRange 16 = .ok (.invokespecial 166, 3) := by decide +kernel
theorem dX3_checkRange_19 : decode cX3_checkRange 19 = .ok (.athrow, 1) := by decide +kernel
theorem dX3_checkRange_20 : decode cX3_checkRange 20 = .ok (.return_, 1) := by decide +kernel
theorem dX3_find_0 : decode cX3_find 0 = .ok (.aload_n 0, 1) := by decide +kernel
theorem dX3_find_1 : decode cX3_find 1 = .ok (.getfield 7, 3) := by decide +kernel
theorem dX3_find_4 : decode cX3_find 4 = .ok (.astore_n 2, 1) := by decide +kernel
theorem dX3_find_5 : decode cX3_find 5 = .ok (.aload_n 2, 1) := by decide +kernel
theorem dX3_find_6 : decode cX3_find 6 = .ok (.ifnull 19, 3) := by decide +kernel
theorem dX3_find_9 : decode cX3_find 9 = .ok (.aload_n 2, 1) := by decide +kernel
theorem dX3_find_10 : decode cX3_find 10 = .ok (.getfield 52, 3) := by decide +kernel
theorem dX3_find_13 : decode cX3_find 13 = .ok (.iload_n 1, 1) := by decide +kernel
theorem dX3_find_14 : decode cX3_find 14 = .ok (.if_icmp .eq 11, 3) := by decide +kernel
theorem dX3_find_17 : decode cX3_find 17 = .ok (.aload_n 2, 1) := by decide +kernel
theorem dX3_find_18 : decode cX3_find 18 = .ok (.getfield 156, 3) := by decide +kernel
theorem dX3_find_21 : decode cX3_find 21 = .ok (.astore_n 2, 1) := by decide +kernel
theorem dX3_find_22 : decode cX3_find 22 = .ok (.goto (-17), 3) := by decide +kernel
theorem dX3_find_25 : decode cX3_find 25 = .ok (.aload_n 2, 1) := by decide +kernel
theorem dX3_find_26 : decode cX3_find 26 = .ok (.ifnonnull 13, 3) := by decide +kernel
theorem dX3_find_29 : decode cX3_find 29 = .ok (.new 167, 3) := by decide +kernel
theorem dX3_find_32 : decode cX3_find 32 = .ok (.dup, 1) := by decide +kernel
theorem dX3_find_33 : decode cX3_find 33 = .ok (.ldc 169, 2) := by decide +kernel
theorem dX3_find_35 : decode cX3_find 35 = .ok (.invokespecial 171, 3) := by decide +kernel
theorem dX3_find_38 : decode cX3_find 38 = .ok (.athrow, 1) := by decide +kernel
theorem dX3_find_39 : decode cX3_find 39 = .ok (.aload_n 2, 1) := by decide +kernel
theorem dX3_find_40 : decode cX3_find 40 = .ok (.areturn, 1) := by decide +kernel
theorem dX3_findFed_0 : decode cX3_findFed 0 = .ok (.aload_n 0, 1) := by decide +kernel
theorem dX3_findFed_1 : decode cX3_findFed 1 = .ok (.iload_n 1, 1) := by decide +kernel
theorem dX3_findFed_2 : decode cX3_findFed 2 = .ok (.invokevirtual 62, 3) := by decide +kernel
theorem dX3_findFed_5 : decode cX3_findFed 5 = .ok (.astore_n 2, 1) := by decide +kernel
theorem dX3_findFed_6 : decode cX3_findFed 6 = .ok (.aload_n 2, 1) := by decide +kernel
theorem dX3_findFed_7 : decode cX3_findFed 7 = .ok (.getfield 156, 3) := by decide +kernel
theorem dX3_findFed_10 : decode cX3_findFed 10 = .ok (.ifnonnull 13, 3) := by decide +kernel
theorem dX3_findFed_13 : decode cX3_findFed 13 = .ok (.new 167, 3) := by decide +kernel
theorem dX3_findFed_16 : decode cX3_findFed 16 = .ok (.dup, 1) := by decide +kernel
theorem dX3_findFed_17 : decode cX3_findFed 17 = .ok (.ldc 172, 2) := by decide +kernel
theorem dX3_findFed_19 : decode cX3_findFed 19 = .ok (.invokespecial 171, 3) := by decide +kernel
theorem dX3_findFed_22 : decode cX3_findFed 22 = .ok (.athrow, 1) := by decide +kernel
theorem dX3_findFed_23 : decode cX3_findFed 23 = .ok (.aload_n 2, 1) := by decide +kernel
theorem dX3_findFed_24 : decode cX3_findFed 24 = .ok (.areturn, 1) := by decide +kernel
theorem dX3_wayBehind_0 : decode cX3_wayBehind 0 = .ok (.aload_n 0, 1) := by decide +kernel
theorem dX3_wayBehind_1 : decode cX3_wayBehind 1 = .ok (.getfield 7, 3) := by decide +kernel
theorem dX3_wayBehind_4 : decode cX3_wayBehind 4 = .ok (.astore_n 2, 1) := by decide +kernel
theorem dX3_wayBehind_5 : decode cX3_wayBehind 5 = .ok (.aload_n 2, 1) := by decide +kernel
theorem dX3_wayBehind_6 : decode cX3_wayBehind 6 = .ok (.ifnull 24, 3) := by decide +kernel
theorem dX3_wayBehind_9 : decode cX3_wayBehind 9 = .ok (.aload_n 2, 1) := by decide +kernel
theorem dX3_wayBehind_10 : decode cX3_wayBehind 10 = .ok (.getfield 156, 3) := by decide +kernel
theorem dX3_wayBehind_13 : decode cX3_wayBehind 13 = .ok (.aload_n 1, 1) := by decide +kernel
theorem dX3_wayBehind_14 : decode cX3_wayBehind 14 = .ok (.if_acmp .ne 8, 3) := by decide +kernel
theorem dX3_wayBehind_17 : decode cX3_wayBehind 17 = .ok (.aload_n 2, 1) := by decide +kernel
theorem dX3_wayBehind_18 : decode cX3_wayBehind 18 = .ok (.getfield 59, 3) := by decide +kernel
theorem dX3_wayBehind_21 : decode cX3_wayBehind 21 = .ok (.ireturn, 1) := by decide +kernel
theorem dX3_wayBehind_22 : decode cX3_wayBehind 22 = .ok (.aload_n 2, 1) := by decide +kernel
theorem dX3_wayBehind_23 : decode cX3_wayBehind 23 = .ok (.getfield 156, 3) := by decide +kernel
theorem dX3_wayBehind_26 : decode cX3_wayBehind 26 = .ok (.astore_n 2, 1) := by decide +kernel
theorem dX3_wayBehind_27 : decode cX3_wayBehind 27 = .ok (.goto (-22), 3) := by decide +kernel
theorem dX3_wayBehind_30 : decode cX3_wayBehind 30 = .ok (.iconst 0, 1) := by decide +kernel
theorem dX3_wayBehind_31 : decode cX3_wayBehind 31 = .ok (.ireturn, 1) := by decide +kernel
theorem dX3_passOneStep_0 : decode cX3_passOneStep 0 = .ok (.aload_n 0, 1) := by decide +kernel
theorem dX3_passOneStep_1 : decode cX3_passOneStep 1 = .ok (.dup, 1) := by decide +kernel
theorem dX3_passOneStep_2 : decode cX3_passOneStep 2 = .ok (.getfield 24, 3) := by decide +kernel
theorem dX3_passOneStep_5 : decode cX3_passOneStep 5 = .ok (.iconst 1, 1) := by decide +kernel
theorem dX3_passOneStep_6 : decode cX3_passOneStep 6 = .ok (.iadd, 1) := by decide +kernel
theorem dX3_passOneStep_7 : decode cX3_passOneStep 7 = .ok (.putfield 24, 3) := by decide +kernel
theorem dX3_passOneStep_10 : decode cX3_passOneStep 10 = .ok (.aload_n 0, 1) := by decide +kernel
theorem dX3_passOneStep_11 : decode cX3_passOneStep 11 = .ok (.aload_n 1, 1) := by decide +kernel
theorem dX3_passOneStep_12 : decode cX3_passOneStep 12 = .ok (.invokevirtual 174, 3) := by decide +kernel
theorem dX3_passOneStep_15 : decode cX3_passOneStep 15 = .ok (.aload_n 1, 1) := by decide +kernel
theorem dX3_passOneStep_16 : decode cX3_passOneStep 16 = .ok (.astore_n 2, 1) := by decide +kernel
theorem dX3_passOneStep_17 : decode cX3_passOneStep 17 = .ok (.aload_n 2, 1) := by decide +kernel
theorem dX3_passOneStep_18 : decode cX3_passOneStep 18 = .ok (.ifnull 19, 3) := by decide +kernel
theorem dX3_passOneStep_21 : decode cX3_passOneStep 21 = .ok (.aload_n 2, 1) := by decide +kernel
theorem dX3_passOneStep_22 : decode cX3_passOneStep 22 = .ok (.aload_n 0, 1) := by decide +kernel
theorem dX3_passOneStep_23 : decode cX3_passOneStep 23 = .ok (.getfield 17, 3) := by decide +kernel
theorem dX3_passOneStep_26 : decode cX3_passOneStep 26 = .ok (.invokevirtual 177, 3) := by decide +kernel
theorem dX3_passOneStep_29 : decode cX3_passOneStep 29 = .ok (.aload_n 2, 1) := by decide +kernel
theorem dX3_passOneStep_30 : decode cX3_passOneStep 30 = .ok (.getfield 156, 3) := by decide +kernel
theorem dX3_passOneStep_33 : decode cX3_passOneStep 33 = .ok (.astore_n 2, 1) := by decide +kernel
theorem dX3_passOneStep_34 : decode cX3_passOneStep 34 = .ok (.goto (-17), 3) := by decide +kernel
theorem dX3_passOneStep_37 : decode cX3_passOneStep 37 = .ok (.aload_n 1, 1) := by decide +kernel
theorem dX3_passOneStep_38 : decode cX3_passOneStep 38 = .ok (.astore_n 2, 1) := by decide +kernel
theorem dX3_passOneStep_39 : decode cX3_passOneStep 39 = .ok (.aload_n 2, 1) := by decide +kernel
theorem dX3_passOneStep_40 : decode cX3_passOneStep 40 = .ok (.ifnull 15, 3) := by decide +kernel
theorem dX3_passOneStep_43 : decode cX3_passOneStep 43 = .ok (.aload_n 2, 1) := by decide +kernel
theorem dX3_passOneStep_44 : decode cX3_passOneStep 44 = .ok (.invokevirtual 181, 3) := by decide +kernel
theorem dX3_passOneStep_47 : decode cX3_passOneStep 47 = .ok (.aload_n 2, 1) := by decide +kernel
theorem dX3_passOneStep_48 : decode cX3_passOneStep 48 = .ok (.getfield 156, 3) := by decide +kernel
theorem dX3_passOneStep_51 : decode cX3_passOneStep 51 = .ok (.astore_n 2, 1) := by decide +kernel
theorem dX3_passOneStep_52 : decode cX3_passOneStep 52 = .ok (.goto (-13), 3) := by decide +kernel
theorem dX3_passOneStep_55 : decode cX3_passOneStep 55 = .ok (.return_, 1) := by decide +kernel
theorem dX3_serveCustomers_0 : decode cX3_serveCustomers 0 = .ok (.aload_n 0, 1) := by decide +kernel
theorem dX3_serveCustomers_1 : decode cX3_serveCustomers 1 = .ok (.getfield 21, 3) := by decide +kernel
theorem dX3_serveCustomers_4 : decode cX3_serveCustomers 4 = .ok (.aload_n 0, 1) := by decide +kernel
theorem dX3_serveCustomers_5 : decode cX3_serveCustomers 5 = .ok (.getfield 30, 3) := by decide +kernel
theorem dX3_serveCustomers_8 : decode cX3_serveCustomers 8 = .ok (.iadd, 1) := by decide +kernel
theorem dX3_serveCustomers_9 : decode cX3_serveCustomers 9 = .ok (.istore_n 2, 1) := by decide +kernel
theorem dX3_serveCustomers_10 : decode cX3_serveCustomers 10 = .ok (.iload_n 2, 1) := by decide +kernel
theorem dX3_serveCustomers_11 : decode cX3_serveCustomers 11 = .ok (.aload_n 1, 1) := by decide +kernel
theorem dX3_serveCustomers_12 : decode cX3_serveCustomers 12 = .ok (.getfield 119, 3) := by decide +kernel
theorem dX3_serveCustomers_15 : decode cX3_serveCustomers 15 = .ok (.invokevirtual 132, 3) := by decide +kernel
theorem dX3_serveCustomers_18 : decode cX3_serveCustomers 18 = .ok (.invokestatic 84, 3) := by decide +kernel
theorem dX3_serveCustomers_21 : decode cX3_serveCustomers 21 = .ok (.istore_n 3, 1) := by decide +kernel
theorem dX3_serveCustomers_22 : decode cX3_serveCustomers 22 = .ok (.aload_n 1, 1) := by decide +kernel
theorem dX3_serveCustomers_23 : decode cX3_serveCustomers 23 = .ok (.dup, 1) := by decide +kernel
theorem dX3_serveCustomers_24 : decode cX3_serveCustomers 24 = .ok (.getfield 76, 3) := by decide +kernel
theorem dX3_serveCustomers_27 : decode cX3_serveCustomers 27 = .ok (.aload_n 1, 1) := by decide +kernel
theorem dX3_serveCustomers_28 : decode cX3_serveCustomers 28 = .ok (.getfield 119, 3) := by decide +kernel
theorem dX3_serveCustomers_31 : decode cX3_serveCustomers 31 = .ok (.iload_n 3, 1) := by decide +kernel
theorem dX3_serveCustomers_32 : decode cX3_serveCustomers 32 = .ok (.aload_n 0, 1) := by decide +kernel
theorem dX3_serveCustomers_33 : decode cX3_serveCustomers 33 = .ok (.getfield 17, 3) := by decide +kernel
theorem dX3_serveCustomers_36 : decode cX3_serveCustomers 36 = .ok (.invokevirtual 184, 3) := by decide +kernel
theorem dX3_serveCustomers_39 : decode cX3_serveCustomers 39 = .ok (.iadd, 1) := by decide +kernel
theorem dX3_serveCustomers_40 : decode cX3_serveCustomers 40 = .ok (.putfield 76, 3) := by decide +kernel
theorem dX3_serveCustomers_43 : decode cX3_serveCustomers 43 = .ok (.aload_n 0, 1) := by decide +kernel
theorem dX3_serveCustomers_44 : decode cX3_serveCustomers 44 = .ok (.dup, 1) := by decide +kernel
theorem dX3_serveCustomers_45 : decode cX3_serveCustomers 45 = .ok (.getfield 27, 3) := by decide +kernel
theorem dX3_serveCustomers_48 : decode cX3_serveCustomers 48 = .ok (.iload_n 3, 1) := by decide +kernel
theorem dX3_serveCustomers_49 : decode cX3_serveCustomers 49 = .ok (.iadd, 1) := by decide +kernel
theorem dX3_serveCustomers_50 : decode cX3_serveCustomers 50 = .ok (.putfield 27, 3) := by decide +kernel
theorem dX3_serveCustomers_53 : decode cX3_serveCustomers 53 = .ok (.aload_n 0, 1) := by decide +kernel
theorem dX3_serveCustomers_54 : decode cX3_serveCustomers 54 = .ok (.iload_n 2, 1) := by decide +kernel
theorem dX3_serveCustomers_55 : decode cX3_serveCustomers 55 = .ok (.iload_n 3, 1) := by decide +kernel
theorem dX3_serveCustomers_56 : decode cX3_serveCustomers 56 = .ok (.isub, 1) := by decide +kernel
theorem dX3_serveCustomers_57 : decode cX3_serveCustomers 57 = .ok (.putfield 30, 3) := by decide +kernel
theorem dX3_serveCustomers_60 : decode cX3_serveCustomers 60 = .ok (.aload_n 0, 1) := by decide +kernel
theorem dX3_serveCustomers_61 : decode cX3_serveCustomers 61 = .ok (.getfield 30, 3) := by decide +kernel
theorem dX3_serveCustomers_64 : decode cX3_serveCustomers 64 = .ok (.ifCond .le 13, 3) := by decide +kernel
theorem dX3_serveCustomers_67 : decode cX3_serveCustomers 67 = .ok (.aload_n 0, 1) := by decide +kernel
theorem dX3_serveCustomers_68 : decode cX3_serveCustomers 68 = .ok (.dup, 1) := by decide +kernel
theorem dX3_serveCustomers_69 : decode cX3_serveCustomers 69 = .ok (.getfield 33, 3) := by decide +kernel
theorem dX3_serveCustomers_72 : decode cX3_serveCustomers 72 = .ok (.iconst 1, 1) := by decide +kernel
theorem dX3_serveCustomers_73 : decode cX3_serveCustomers 73 = .ok (.iadd, 1) := by decide +kernel
theorem dX3_serveCustomers_74 : decode cX3_serveCustomers 74 = .ok (.putfield 33, 3) := by decide +kernel
theorem dX3_serveCustomers_77 : decode cX3_serveCustomers 77 = .ok (.return_, 1) := by decide +kernel
end
section
theorem dX4_init_0 : decode cX4_init 0 = .ok (.aload_n 0, 1) := by decide +kernel
theorem dX4_init_1 : decode cX4_init 1 = .ok (.invokespecial 1, 3) := by decide +kernel
theorem dX4_init_4 : decode cX4_init 4 = .ok (.aload_n 0, 1) := by decide +kernel
theorem dX4_init_5 : decode cX4_init 5 = .ok (.bipush 6, 2) := by decide +kernel
theorem dX4_init_7 : decode cX4_init 7 = .ok (.newarray .int, 2) := by decide +kernel
theorem dX4_init_9 : decode cX4_init 9 = .ok (.putfield 7, 3) := by decide +kernel
theorem dX4_init_12 : decode cX4_init 12 = .ok (.aload_n 0, 1) := by decide +kernel
theorem dX4_init_13 : decode cX4_init 13 = .ok (.bipush 6, 2) := by decide +kernel
theorem dX4_init_15 : decode cX4_init 15 = .ok (.newarray .int, 2) := by decide +kernel
theorem dX4_init_17 : decode cX4_init 17 = .ok (.putfield 13, 3) := by decide +kernel
theorem dX4_init_20 : decode cX4_init 20 = .ok (.aload_n 0, 1) := by decide +kernel
theorem dX4_init_21 : decode cX4_init 21 = .ok (.bipush 6, 2) := by decide +kernel
theorem dX4_init_23 : decode cX4_init 23 = .ok (.newarray .int, 2) := by decide +kernel
theorem dX4_init_25 : decode cX4_init 25 = .ok (.putfield 16, 3) := by decide +kernel
theorem dX4_init_28 : decode cX4_init 28 = .ok (.aload_n 0, 1) := by decide +kernel
theorem dX4_init_29 : decode cX4_init 29 = .ok (.bipush 6, 2) := by decide +kernel
theorem dX4_init_31 : decode cX4_init 31 = .ok (.newarray .int, 2) := by decide +kernel
theorem dX4_init_33 : decode cX4_init 33 = .ok (.putfield 19, 3) := by decide +kernel
theorem dX4_init_36 : decode cX4_init 36 = .ok (.aload_n 0, 1) := by decide +kernel
theorem dX4_init_37 : decode cX4_init 37 = .ok (.bipush 6, 2) := by decide +kernel
theorem dX4_init_39 : decode cX4_init 39 = .ok (.newarray .boolean, 2) := by decide +kernel
theorem dX4_init_41 : decode cX4_init 41 = .ok (.putfield 22, 3) := by decide +kernel
theorem dX4_init_44 : decode cX4_init 44 = .ok (.aload_n 0, 1) := by decide +kernel
theorem dX4_init_45 : decode cX4_init 45 = .ok (.bipush 6, 2) := by decide +kernel
theorem dX4_init_47 : decode cX4_init 47 = .ok (.newarray .int, 2) := by decide +kernel
theorem dX4_init_49 : decode cX4_init 49 = .ok (.putfield 26, 3) := by decide +kernel
theorem dX4_init_52 : decode cX4_init 52 = .ok (.aload_n 0, 1) := by decide +kernel
theorem dX4_init_53 : decode cX4_init 53 = .ok (.bipush 6, 2) := by decide +kernel
theorem dX4_init_55 : decode cX4_init 55 = .ok (.newarray .int, 2) := by decide +kernel
theorem dX4_init_57 : decode cX4_init 57 = .ok (.putfield 29, 3) := by decide +kernel
theorem dX4_init_60 : decode cX4_init 60 = .ok (.aload_n 0, 1) := by decide +kernel
theorem dX4_init_61 : decode cX4_init 61 = .ok (.bipush 6, 2) := by decide +kernel
theorem dX4_init_63 : decode cX4_init 63 = .ok (.newarray .int, 2) := by decide +kernel
theorem dX4_init_65 : decode cX4_init 65 = .ok (.putfield 32, 3) := by decide +kernel
theorem dX4_init_68 : decode cX4_init 68 = .ok (.aload_n 0, 1) := by decide +kernel
theorem dX4_init_69 : decode cX4_init 69 = .ok (.bipush 6, 2) := by decide +kernel
theorem dX4_init_71 : decode cX4_init 71 = .ok (.newarray .int, 2) := by decide +kernel
theorem dX4_init_73 : decode cX4_init 73 = .ok (.putfield 35, 3) := by decide +kernel
theorem dX4_init_76 : decode cX4_init 76 = .ok (.aload_n 0, 1) := by decide +kernel
theorem dX4_init_77 : decode cX4_init 77 = .ok (.bipush 6, 2) := by decide +kernel
theorem dX4_init_79 : decode cX4_init 79 = .ok (.newarray .int, 2) := by decide +kernel
theorem dX4_init_81 : decode cX4_init 81 = .ok (.putfield 38, 3) := by decide +kernel
theorem dX4_init_84 : decode cX4_init 84 = .ok (.aload_n 0, 1) := by decide +kernel
theorem dX4_init_85 : decode cX4_init 85 = .ok (.bipush 6, 2) := by decide +kernel
theorem dX4_init_87 : decode cX4_init 87 = .ok (.newarray .int, 2) := by decide +kernel
theorem dX4_init_89 : decode cX4_init 89 = .ok (.putfield 41, 3) := by decide +kernel
theorem dX4_init_92 : decode cX4_init 92 = .ok (.aload_n 0, 1) := by decide +kernel
theorem dX4_init_93 : decode cX4_init 93 = .ok (.bipush 6, 2) := by decide +kernel
theorem dX4_init_95 : decode cX4_init 95 = .ok (.newarray .int, 2) := by decide +kernel
theorem dX4_init_97 : decode cX4_init 97 = .ok (.putfield 44, 3) := by decide +kernel
theorem dX4_init_100 : decode cX4_init 100 = .ok (.aload_n 0, 1) := by decide +kernel
theorem dX4_init_101 : decode cX4_init 101 = .ok (.bipush 96, 2) := by decide +kernel
theorem dX4_init_103 : decode cX4_init 103 = .ok (.newarray .int, 2) := by decide +kernel
theorem dX4_init_105 : decode cX4_init 105 = .ok (.putfield 47, 3) := by decide +kernel
theorem dX4_init_108 : decode cX4_init 108 = .ok (.aload_n 0, 1) := by decide +kernel
theorem dX4_init_109 : decode cX4_init 109 = .ok (.bipush 96, 2) := by decide +kernel
theorem dX4_init_111 : decode cX4_init 111 = .ok (.newarray .int, 2) := by decide +kernel
theorem dX4_init_113 : decode cX4_init 113 = .ok (.putfield 50, 3) := by decide +kernel
theorem dX4_init_116 : decode cX4_init 116 = .ok (.aload_n 0, 1) := by decide +kernel
theorem dX4_init_117 : decode cX4_init 117 = .ok (.bipush 6, 2) := by decide +kernel
theorem dX4_init_119 : decode cX4_init 119 = .ok (.newarray .int, 2) := by decide +kernel
theorem dX4_init_121 : decode cX4_init 121 = .ok (.putfield 53, 3) := by decide +kernel
theorem dX4_init_124 : decode cX4_init 124 = .ok (.aload_n 0, 1) := by decide +kernel
theorem dX4_init_125 : decode cX4_init 125 = .ok (.bipush 96, 2) := by decide +kernel
theorem dX4_init_127 : decode cX4_init 127 = .ok (.newarray .int, 2) := by decide +kernel
theorem dX4_init_129 : decode cX4_init 129 = .ok (.putfield 56, 3) := by decide +kernel
theorem dX4_init_132 : decode cX4_init 132 = .ok (.aload_n 0, 1) := by decide +kernel
theorem dX4_init_133 : decode cX4_init 133 = .ok (.bipush 96, 2) := by decide +kernel
theorem dX4_init_135 : decode cX4_init 135 = .ok (.newarray .int, 2) := by decide +kernel
theorem dX4_init_137 : decode cX4_init 137 = .ok (.putfield 59, 3) := by decide +kernel
theorem dX4_init_140 : decode cX4_init 140 = .ok (.aload_n 0, 1) := by decide +kernel
theorem dX4_init_141 : decode cX4_init 141 = .ok (.bipush 6, 2) := by decide +kernel
theorem dX4_init_143 : decode cX4_init 143 = .ok (.newarray .int, 2) := by decide +kernel
theorem dX4_init_145 : decode cX4_init 145 = .ok (.putfield 62, 3) := by decide +kernel
theorem dX4_init_148 : decode cX4_init 148 = .ok (.aload_n 0, 1) := by decide +kernel
theorem dX4_init_149 : decode cX4_init 149 = .ok (.bipush 96, 2) := by decide +kernel
theorem dX4_init_151 : decode cX4_init 151 = .ok (.newarray .int, 2) := by decide +kernel
theorem dX4_init_153 : decode cX4_init 153 = .ok (.putfield 65, 3) := by decide +kernel
theorem dX4_init_156 : decode cX4_init 156 = .ok (.aload_n 0, 1) := by decide +kernel
theorem dX4_init_157 : decode cX4_init 157 = .ok (.bipush 96, 2) := by decide +kernel
theorem dX4_init_159 : decode cX4_init 159 = .ok (.newarray .int, 2) := by decide +kernel
theorem dX4_init_161 : decode cX4_init 161 = .ok (.putfield 68, 3) := by decide +kernel
theorem dX4_init_164 : decode cX4_init 164 = .ok (.aload_n 0, 1) := by decide +kernel
theorem dX4_init_165 : decode cX4_init 165 = .ok (.bipush 6, 2) := by decide +kernel
theorem dX4_init_167 : decode cX4_init 167 = .ok (.newarray .int, 2) := by decide +kernel
theorem dX4_init_169 : decode cX4_init 169 = .ok (.putfield 71, 3) := by decide +kernel
theorem dX4_init_172 : decode cX4_init 172 = .ok (.return_, 1) := by decide +kernel
theorem dX4_thrown_0 : decode cX4_thrown 0 = .ok (.aload_n 0, 1) := by decide +kernel
theorem dX4_thrown_1 : decode cX4_thrown 1 = .ok (.getfield 74, 3) := by decide +kernel
theorem dX4_thrown_4 : decode cX4_thrown 4 = .ok (.ireturn, 1) := by decide +kernel
theorem dX4_isIn_0 : decode cX4_isIn 0 = .ok (.iload_n 0, 1) := by decide +kernel
theorem dX4_isIn_1 : decode cX4_isIn 1 = .ok (.iload_n 1, 1) := by decide +kernel
theorem dX4_isIn_2 : decode cX4_isIn 2 = .ok (.if_icmp .lt 12, 3) := by decide +kernel
theorem dX4_isIn_5 : decode cX4_isIn 5 = .ok (.iload_n 0, 1) := by decide +kernel
theorem dX4_isIn_6 : decode cX4_isIn 6 = .ok (.iload_n 2, 1) := by decide +kernel
theorem dX4_isIn_7 : decode cX4_isIn 7 = .ok (.if_icmp .gt 7, 3) := by decide +kernel
theorem dX4_isIn_10 : decode cX4_isIn 10 = .ok (.iconst 1, 1) := by decide +kernel
theorem dX4_isIn_11 : decode cX4_isIn 11 = .ok (.goto 4, 3) := by decide +kernel
theorem dX4_isIn_14 : decode cX4_isIn 14 = .ok (.iconst 0, 1) := by decide +kernel
theorem dX4_isIn_15 : decode cX4_isIn 15 = .ok (.ireturn, 1) := by decide +kernel
theorem dX4_asks_0 : decode cX4_asks 0 = .ok (.iload_n 1, 1) := by decide +kernel
theorem dX4_asks_1 : decode cX4_asks 1 = .ok (.iload_n 2, 1) := by decide +kernel
theorem dX4_asks_2 : decode cX4_asks 2 = .ok (.if_icmp .lt 15, 3) := by decide +kernel
theorem dX4_asks_5 : decode cX4_asks 5 = .ok (.iload_n 1, 1) := by decide +kernel
theorem dX4_asks_6 : decode cX4_asks 6 = .ok (.aload_n 0, 1) := by decide +kernel
theorem dX4_asks_7 : decode cX4_asks 7 = .ok (.getfield 78, 3) := by decide +kernel
theorem dX4_asks_10 : decode cX4_asks 10 = .ok (.if_icmp .ge 7, 3) := by decide +kernel
theorem dX4_asks_13 : decode cX4_asks 13 = .ok (.iconst 1, 1) := by decide +kernel
theorem dX4_asks_14 : decode cX4_asks 14 = .ok (.goto 4, 3) := by decide +kernel
theorem dX4_asks_17 : decode cX4_asks 17 = .ok (.iconst 0, 1) := by decide +kernel
theorem dX4_asks_18 : decode cX4_asks 18 = .ok (.istore_n 3, 1) := by decide +kernel
theorem dX4_asks_19 : decode cX4_asks 19 = .ok (.aload_n 0, 1) := by decide +kernel
theorem dX4_asks_20 : decode cX4_asks 20 = .ok (.iload_n 3, 1) := by decide +kernel
theorem dX4_asks_21 : decode cX4_asks 21 = .ok (.ifCond .eq 7, 3) := by decide +kernel
theorem dX4_asks_24 : decode cX4_asks 24 = .ok (.iconst 0, 1) := by decide +kernel
theorem dX4_asks_25 : decode cX4_asks 25 = .ok (.goto 4, 3) := by decide +kernel
theorem dX4_asks_28 : decode cX4_asks 28 = .ok (.iconst 1, 1) := by decide +kernel
theorem dX4_asks_29 : decode cX4_asks 29 = .ok (.putfield 74, 3) := by decide +kernel
theorem dX4_asks_32 : decode cX4_asks 32 = .ok (.iload_n 3, 1) := by decide +kernel
theorem dX4_asks_33 : decode cX4_asks 33 = .ok (.ireturn, 1) := by decide +kernel
theorem dX4_stage_0 : decode cX4_stage 0 = .ok (.iload_n 1, 1) := by decide +kernel
theorem dX4_stage_1 : decode cX4_stage 1 = .ok (.iconst 1, 1) := by decide +kernel
theorem dX4_stage_2 : decode cX4_stage 2 = .ok (.bipush 9, 2) := by decide +kernel
theorem dX4_stage_4 : decode cX4_stage 4 = .ok (.invokestatic 81, 3) := by decide +kernel
theorem dX4_stage_7 : decode cX4_stage 7 = .ok (.ifCond .eq 38, 3) := by decide +kernel
theorem dX4_stage_10 : decode cX4_stage 10 = .ok (.iload_n 2, 1) := by decide +kernel
theorem dX4_stage_11 : decode cX4_stage 11 = .ok (.iconst 1, 1) := by decide +kernel
theorem dX4_stage_12 : decode cX4_stage 12 = .ok (.bipush 10, 2) := by decide +kernel
theorem dX4_stage_14 : decode cX4_stage 14 = .ok (.invokestatic 81, 3) := by decide +kernel
theorem dX4_stage_17 : decode cX4_stage 17 = .ok (.ifCond .eq 28, 3) := by decide +kernel
theorem dX4_stage_20 : decode cX4_stage 20 = .ok (.iload_n 3, 1) := by decide +kernel
theorem dX4_stage_21 : decode cX4_stage 21 = .ok (.iconst 1, 1) := by decide +kernel
theorem dX4_stage_22 : decode cX4_stage 22 = .ok (.bipush 9, 2) := by decide +kernel
theorem dX4_stage_24 : decode cX4_stage 24 = .ok (.invokestatic 81, 3) := by decide +kernel
theorem dX4_stage_27 : decode cX4_stage 27 = .ok (.ifCond .eq 18, 3) := by decide +kernel
theorem dX4_stage_30 : decode cX4_stage 30 = .ok (.iload 4, 2) := by decide +kernel
theorem dX4_stage_32 : decode cX4_stage 32 = .ok (.iconst 1, 1) := by decide +kernel
theorem dX4_stage_33 : decode cX4_stage 33 = .ok (.bipush 9, 2) := by decide +kernel
theorem dX4_stage_35 : decode cX4_stage 35 = .ok (.invokestatic 81, 3) := by decide +kernel
theorem dX4_stage_38 : decode cX4_stage 38 = .ok (.ifCond .eq 7, 3) := by decide +kernel
theorem dX4_stage_41 : decode cX4_stage 41 = .ok (.iconst 1, 1) := by decide +kernel
theorem dX4_stage_42 : decode cX4_stage 42 = .ok (.goto 4, 3) := by decide +kernel
theorem dX4_stage_45 : decode cX4_stage 45 = .ok (.iconst 0, 1) := by decide +kernel
theorem dX4_stage_46 : decode cX4_stage 46 = .ok (.istore 6, 2) := by decide +kernel
theorem dX4_stage_48 : decode cX4_stage 48 = .ok (.aload_n 0, 1) := by decide +kernel
theorem dX4_stage_49 : decode cX4_stage 49 = .ok (.iload 6, 2) := by decide +kernel
theorem dX4_stage_51 : decode cX4_stage 51 = .ok (.ifCond .ne 7, 3) := by decide +kernel
theorem dX4_stage_54 : decode cX4_stage 54 = .ok (.iconst 1, 1) := by decide +kernel
theorem dX4_stage_55 : decode cX4_stage 55 = .ok (.goto 17, 3) := by decide +kernel
theorem dX4_stage_58 : decode cX4_stage 58 = .ok (.aload_n 0, 1) := by decide +kernel
theorem dX4_stage_59 : decode cX4_stage 59 = .ok (.getfield 78, 3) := by decide +kernel
theorem dX4_stage_62 : decode cX4_stage 62 = .ok (.bipush 6, 2) := by decide +kernel
theorem dX4_stage_64 : decode cX4_stage 64 = .ok (.if_icmp .ne 7, 3) := by decide +kernel
theorem dX4_stage_67 : decode cX4_stage 67 = .ok (.iconst 2, 1) := by decide +kernel
theorem dX4_stage_68 : decode cX4_stage 68 = .ok (.goto 4, 3) := by decide +kernel
theorem dX4_stage_71 : decode cX4_stage 71 = .ok (.iconst 0, 1) := by decide +kernel
theorem dX4_stage_72 : decode cX4_stage 72 = .ok (.putfield 74, 3) := by decide +kernel
theorem dX4_stage_75 : decode cX4_stage 75 = .ok (.aload_n 0, 1) := by decide +kernel
theorem dX4_stage_76 : decode cX4_stage 76 = .ok (.getfield 74, 3) := by decide +kernel
theorem dX4_stage_79 : decode cX4_stage 79 = .ok (.ifCond .le 5, 3) := by decide +kernel
theorem dX4_stage_82 : decode cX4_stage 82 = .ok (.iconst 0, 1) := by decide +kernel
theorem dX4_stage_83 : decode cX4_stage 83 = .ok (.ireturn, 1) := by decide +kernel
theorem dX4_stage_84 : decode cX4_stage 84 = .ok (.aload_n 0, 1) := by decide +kernel
theorem dX4_stage_85 : decode cX4_stage 85 = .ok (.getfield 78, 3) := by decide +kernel
theorem dX4_stage_88 : decode cX4_stage 88 = .ok (.istore 7, 2) := by decide +kernel
theorem dX4_stage_90 : decode cX4_stage 90 = .ok (.aload_n 0, 1) := by decide +kernel
theorem dX4_stage_91 : decode cX4_stage 91 = .ok (.getfield 7, 3) := by decide +kernel
theorem dX4_stage_94 : decode cX4_stage 94 = .ok (.iload 7, 2) := by decide +kernel
theorem dX4_stage_96 : decode cX4_stage 96 = .ok (.iload_n 1, 1) := by decide +kernel
theorem dX4_stage_97 : decode cX4_stage 97 = .ok (.iastore, 1) := by decide +kernel
theorem dX4_stage_98 : decode cX4_stage 98 = .ok (.aload_n 0, 1) := by decide +kernel
theorem dX4_stage_99 : decode cX4_stage 99 = .ok (.getfield 13, 3) := by decide +kernel
theorem dX4_stage_102 : decode cX4_stage 102 = .ok (.iload 7, 2) := by decide +kernel
theorem dX4_stage_104 : decode cX4_stage 104 = .ok (.iload_n 2, 1) := by decide +kernel
theorem dX4_stage_105 : decode cX4_stage 105 = .ok (.iastore, 1) := by decide +kernel
theorem dX4_stage_106 : decode cX4_stage 106 = .ok (.aload_n 0, 1) := by decide +kernel
theorem dX4_stage_107 : decode cX4_stage 107 = .ok (.getfield 16, 3) := by decide +kernel
theorem dX4_stage_110 : decode cX4_stage 110 = .ok (.iload 7, 2) := by decide +kernel
theorem dX4_stage_112 : decode cX4_stage 112 = .ok (.iload_n 3, 1) := by decide +kernel
theorem dX4_stage_113 : decode cX4_stage 113 = .ok (.iastore, 1) := by decide +kernel
theorem dX4_stage_114 : decode cX4_stage 114 = .ok (.aload_n 0, 1) := by decide +kernel
theorem dX4_stage_115 : decode cX4_stage 115 = .ok (.getfield 19, 3) := by decide +kernel
theorem dX4_stage_118 : decode cX4_stage 118 = .ok (.iload 7, 2) := by decide +kernel
theorem dX4_stage_120 : decode cX4_stage 120 = .ok (.iload 4, 2) := by decide +kernel
theorem dX4_stage_122 : decode cX4_stage 122 = .ok (.iastore, 1) := by decide +kernel
theorem dX4_stage_123 : decode cX4_stage 123 = .ok (.aload_n 0, 1) := by decide +kernel
theorem dX4_stage_124 : decode cX4_stage 124 = .ok (.getfield 26, 3) := by decide +kernel
theorem dX4_stage_127 : decode cX4_stage 127 = .ok (.iload 7, 2) := by decide +kernel
theorem dX4_stage_129 : decode cX4_stage 129 = .ok (.iload 5, 2) := by decide +kernel
theorem dX4_stage_131 : decode cX4_stage 131 = .ok (.ifCond .eq 7, 3) := by decide +kernel
theorem dX4_stage_134 : decode cX4_stage 134 = .ok (.iconst 0, 1) := by decide +kernel
theorem dX4_stage_135 : decode cX4_stage 135 = .ok (.goto 4, 3) := by decide +kernel
theorem dX4_stage_138 : decode cX4_stage 138 = .ok (.iload_n 1, 1) := by decide +kernel
theorem dX4_stage_139 : decode cX4_stage 139 = .ok (.iastore, 1) := by decide +kernel
theorem dX4_stage_140 : decode cX4_stage 140 = .ok (.iconst 0, 1) := by decide +kernel
theorem dX4_stage_141 : decode cX4_stage 141 = .ok (.istore 8, 2) := by decide +kernel
theorem dX4_stage_143 : decode cX4_stage 143 = .ok (.iload 8, 2) := by decide +kernel
theorem dX4_stage_145 : decode cX4_stage 145 = .ok (.iload_n 1, 1) := by decide +kernel
theorem dX4_stage_146 : decode cX4_stage 146 = .ok (.if_icmp .ge 21, 3) := by decide +kernel
theorem dX4_stage_149 : decode cX4_stage 149 = .ok (.iload 5, 2) := by decide +kernel
theorem dX4_stage_151 : decode cX4_stage 151 = .ok (.ifCond .eq 16, 3) := by decide +kernel
theorem dX4_stage_154 : decode cX4_stage 154 = .ok (.aload_n 0, 1) := by decide +kernel
theorem dX4_stage_155 : decode cX4_stage 155 = .ok (.iload 7, 2) := by decide +kernel
theorem dX4_stage_157 : decode cX4_stage 157 = .ok (.iload_n 2, 1) := by decide +kernel
theorem dX4_stage_158 : decode cX4_stage 158 = .ok (.invokevirtual 85, 3) := by decide +kernel
theorem dX4_stage_161 : decode cX4_stage 161 = .ok (.iinc 8 1, 3) := by decide +kernel
theorem dX4_stage_164 : decode cX4_stage 164 = .ok (.goto (-21), 3) := by decide +kernel
theorem dX4_stage_167 : decode cX4_stage 167 = .ok (.aload_n 0, 1) := by decide +kernel
theorem dX4_stage_168 : decode cX4_stage 168 = .ok (.dup, 1) := by decide +kernel
theorem dX4_stage_169 : decode cX4_stage 169 = .ok (.getfield 89, 3) := by decide +kernel
theorem dX4_stage_172 : decode cX4_stage 172 = .ok (.iload 5, 2) := by decide +kernel
theorem dX4_stage_174 : decode cX4_stage 174 = .ok (.ifCond .eq 9, 3) := by decide +kernel
theorem dX4_stage_177 : decode cX4_stage 177 = .ok (.iload_n 1, 1) := by decide +kernel
theorem dX4_stage_178 : decode cX4_stage 178 = .ok (.iload_n 2, 1) := by decide +kernel
theorem dX4_stage_179 : decode cX4_stage 179 = .ok (.imul, 1) := by decide +kernel
theorem dX4_stage_180 : decode cX4_stage 180 = .ok (.goto 4, 3) := by decide +kernel
theorem dX4_stage_183 : decode cX4_stage 183 = .ok (.iconst 0, 1) := by decide +kernel
theorem dX4_stage_184 : decode cX4_stage 184 = .ok (.iadd, 1) := by decide +kernel
theorem dX4_stage_185 : decode cX4_stage 185 = .ok (.putfield 89, 3) := by decide +kernel
theorem dX4_stage_188 : decode cX4_stage 188 = .ok (.aload_n 0, 1) := by decide +kernel
theorem dX4_stage_189 : decode cX4_stage 189 = .ok (.getfield 41, 3) := by decide +kernel
theorem dX4_stage_192 : decode cX4_stage 192 = .ok (.iload 7, 2) := by decide +kernel
theorem dX4_stage_194 : decode cX4_stage 194 = .ok (.iload 7, 2) := by decide +kernel
theorem dX4_stage_196 : decode cX4_stage 196 = .ok (.ifCond .ne 7, 3) := by decide +kernel
theorem dX4_stage_199 : decode cX4_stage 199 = .ok (.iconst 0, 1) := by decide +kernel
theorem dX4_stage_200 : decode cX4_stage 200 = .ok (.goto 4, 3) := by decide +kernel
theorem dX4_stage_203 : decode cX4_stage 203 = .ok (.iconst 1, 1) := by decide +kernel
theorem dX4_stage_204 : decode cX4_stage 204 = .ok (.iastore, 1) := by decide +kernel
theorem dX4_stage_205 : decode cX4_stage 205 = .ok (.aload_n 0, 1) := by decide +kernel
theorem dX4_stage_206 : decode cX4_stage 206 = .ok (.getfield 44, 3) := by decide +kernel
theorem dX4_stage_209 : decode cX4_stage 209 = .ok (.iload 7, 2) := by decide +kernel
theorem dX4_stage_211 : decode cX4_stage 211 = .ok (.aload_n 0, 1) := by decide +kernel
theorem dX4_stage_212 : decode cX4_stage 212 = .ok (.getfield 41, 3) := by decide +kernel
theorem dX4_stage_215 : decode cX4_stage 215 = .ok (.iload 7, 2) := by decide +kernel
theorem dX4_stage_217 : decode cX4_stage 217 = .ok (.iaload, 1) := by decide +kernel
theorem dX4_stage_218 : decode cX4_stage 218 = .ok (.iastore, 1) := by decide +kernel
theorem dX4_stage_219 : decode cX4_stage 219 = .ok (.aload_n 0, 1) := by decide +kernel
theorem dX4_stage_220 : decode cX4_stage 220 = .ok (.dup, 1) := by decide +kernel
theorem dX4_stage_221 : decode cX4_stage 221 = .ok (.getfield 78, 3) := by decide +kernel
theorem dX4_stage_224 : decode cX4_stage 224 = .ok (.iconst 1, 1) := by decide +kernel
theorem dX4_stage_225 : decode cX4_stage 225 = .ok (.iadd, 1) := by decide +kernel
theorem dX4_stage_226 : decode cX4_stage 226 = .ok (.putfield 78, 3) := by decide +kernel
theorem dX4_stage_229 : decode cX4_stage 229 = .ok (.iload 7, 2) := by decide +kernel
theorem dX4_stage_231 : decode cX4_stage 231 = .ok (.ireturn, 1) := by decide +kernel
theorem dX4_comesToMarket_0 : decode cX4_comesToMarket 0 = .ok (.aload_n 0, 1) := by decide +kernel
theorem dX4_comesToMarket_1 : decode cX4_comesToMarket 1 = .ok (.getfield 47, 3) := by decide +kernel
theorem dX4_comesToMarket_4 : decode cX4_comesToMarket 4 = .ok (.bipush 16, 2) := by decide +kernel
theorem dX4_comesToMarket_6 : decode cX4_comesToMarket 6 = .ok (.iload_n 1, 1) := by decide +kernel
theorem dX4_comesToMarket_7 : decode cX4_comesToMarket 7 = .ok (.imul, 1) := by decide +kernel
theorem dX4_comesToMarket_8 : decode cX4_comesToMarket 8 = .ok (.aload_n 0, 1) := by decide +kernel
theorem dX4_comesToMarket_9 : decode cX4_comesToMarket 9 = .ok (.getfield 53, 3) := by decide +kernel
theorem dX4_comesToMarket_12 : decode cX4_comesToMarket 12 = .ok (.iload_n 1, 1) := by decide +kernel
theorem dX4_comesToMarket_13 : decode cX4_comesToMarket 13 = .ok (.iaload, 1) := by decide +kernel
theorem dX4_comesToMarket_14 : decode cX4_comesToMarket 14 = .ok (.iadd, 1) := by decide +kernel
theorem dX4_comesToMarket_15 : decode cX4_comesToMarket 15 = .ok (.iload_n 2, 1) := by decide +kernel
theorem dX4_comesToMarket_16 : decode cX4_comesToMarket 16 = .ok (.iastore, 1) := by decide +kernel
theorem dX4_comesToMarket_17 : decode cX4_comesToMarket 17 = .ok (.aload_n 0, 1) := by decide +kernel
theorem dX4_comesToMarket_18 : decode cX4_comesToMarket 18 = .ok (.getfield 50, 3) := by decide +kernel
theorem dX4_comesToMarket_21 : decode cX4_comesToMarket 21 = .ok (.bipush 16, 2) := by decide +kernel
theorem dX4_comesToMarket_23 : decode cX4_comesToMarket 23 = .ok (.iload_n 1, 1) := by decide +kernel
theorem dX4_comesToMarket_24 : decode cX4_comesToMarket 24 = .ok (.imul, 1) := by decide +kernel
theorem dX4_comesToMarket_25 : decode cX4_comesToMarket 25 = .ok (.aload_n 0, 1) := by decide +kernel
theorem dX4_comesToMarket_26 : decode cX4_comesToMarket 26 = .ok (.getfield 53, 3) := by decide +kernel
theorem dX4_comesToMarket_29 : decode cX4_comesToMarket 29 = .ok (.iload_n 1, 1) := by decide +kernel
theorem dX4_comesToMarket_30 : decode cX4_comesToMarket 30 = .ok (.iaload, 1) := by decide +kernel
theorem dX4_comesToMarket_31 : decode cX4_comesToMarket 31 = .ok (.iadd, 1) := by decide +kernel
theorem dX4_comesToMarket_32 : decode cX4_comesToMarket 32 = .ok (.iconst 1, 1) := by decide +kernel
theorem dX4_comesToMarket_33 : decode cX4_comesToMarket 33 = .ok (.iastore, 1) := by decide +kernel
theorem dX4_comesToMarket_34 : decode cX4_comesToMarket 34 = .ok (.aload_n 0, 1) := by decide +kernel
theorem dX4_comesToMarket_35 : decode cX4_comesToMarket 35 = .ok (.getfield 53, 3) := by decide +kernel
theorem dX4_comesToMarket_38 : decode cX4_comesToMarket 38 = .ok (.iload_n 1, 1) := by decide +kernel
theorem dX4_comesToMarket_39 : decode cX4_comesToMarket 39 = .ok (.dup2, 1) := by decide +kernel
theorem dX4_comesToMarket_40 : decode cX4_comesToMarket 40 = .ok (.iaload, 1) := by decide +kernel
theorem dX4_comesToMarket_41 : decode cX4_comesToMarket 41 = .ok (.iconst 1, 1) := by decide +kernel
theorem dX4_comesToMarket_42 : decode cX4_comesToMarket 42 = .ok (.iadd, 1) := by decide +kernel
theorem dX4_comesToMarket_43 : decode cX4_comesToMarket 43 = .ok (.iastore, 1) := by decide +kernel
theorem dX4_comesToMarket_44 : decode cX4_comesToMarket 44 = .ok (.return_, 1) := by decide +kernel
theorem dX4_comesToInbox_0 : decode cX4_comesToInbox 0 = .ok (.aload_n 0, 1) := by decide +kernel
theorem dX4_comesToInbox_1 : decode cX4_comesToInbox 1 = .ok (.getfield 56, 3) := by decide +kernel
theorem dX4_comesToInbox_4 : decode cX4_comesToInbox 4 = .ok (.bipush 16, 2) := by decide +kernel
theorem dX4_comesToInbox_6 : decode cX4_comesToInbox 6 = .ok (.iload_n 1, 1) := by decide +kernel
theorem dX4_comesToInbox_7 : decode cX4_comesToInbox 7 = .ok (.imul, 1) := by decide +kernel
theorem dX4_comesToInbox_8 : decode cX4_comesToInbox 8 = .ok (.aload_n 0, 1) := by decide +kernel
theorem dX4_comesToInbox_9 : decode cX4_comesToInbox 9 = .ok (.getfield 62, 3) := by decide +kernel
theorem dX4_comesToInbox_12 : decode cX4_comesToInbox 12 = .ok (.iload_n 1, 1) := by decide +kernel
theorem dX4_comesToInbox_13 : decode cX4_comesToInbox 13 = .ok (.iaload, 1) := by decide +kernel
theorem dX4_comesToInbox_14 : decode cX4_comesToInbox 14 = .ok (.iadd, 1) := by decide +kernel
theorem dX4_comesToInbox_15 : decode cX4_comesToInbox 15 = .ok (.iload_n 2, 1) := by decide +kernel
theorem dX4_comesToInbox_16 : decode cX4_comesToInbox 16 = .ok (.iastore, 1) := by decide +kernel
theorem dX4_comesToInbox_17 : decode cX4_comesToInbox 17 = .ok (.aload_n 0, 1) := by decide +kernel
theorem dX4_comesToInbox_18 : decode cX4_comesToInbox 18 = .ok (.getfield 59, 3) := by decide +kernel
theorem dX4_comesToInbox_21 : decode cX4_comesToInbox 21 = .ok (.bipush 16, 2) := by decide +kernel
theorem dX4_comesToInbox_23 : decode cX4_comesToInbox 23 = .ok (.iload_n 1, 1) := by decide +kernel
theorem dX4_comesToInbox_24 : decode cX4_comesToInbox 24 = .ok (.imul, 1) := by decide +kernel
theorem dX4_comesToInbox_25 : decode cX4_comesToInbox 25 = .ok (.aload_n 0, 1) := by decide +kernel
theorem dX4_comesToInbox_26 : decode cX4_comesToInbox 26 = .ok (.getfield 62, 3) := by decide +kernel
theorem dX4_comesToInbox_29 : decode cX4_comesToInbox 29 = .ok (.iload_n 1, 1) := by decide +kernel
theorem dX4_comesToInbox_30 : decode cX4_comesToInbox 30 = .ok (.iaload, 1) := by decide +kernel
theorem dX4_comesToInbox_31 : decode cX4_comesToInbox 31 = .ok (.iadd, 1) := by decide +kernel
theorem dX4_comesToInbox_32 : decode cX4_comesToInbox 32 = .ok (.iconst 1, 1) := by decide +kernel
theorem dX4_comesToInbox_33 : decode cX4_comesToInbox 33 = .ok (.iastore, 1) := by decide +kernel
theorem dX4_comesToInbox_34 : decode cX4_comesToInbox 34 = .ok (.aload_n 0, 1) := by decide +kernel
theorem dX4_comesToInbox_35 : decode cX4_comesToInbox 35 = .ok (.getfield 62, 3) := by decide +kernel
theorem dX4_comesToInbox_38 : decode cX4_comesToInbox 38 = .ok (.iload_n 1, 1) := by decide +kernel
theorem dX4_comesToInbox_39 : decode cX4_comesToInbox 39 = .ok (.dup2, 1) := by decide +kernel
theorem dX4_comesToInbox_40 : decode cX4_comesToInbox 40 = .ok (.iaload, 1) := by decide +kernel
theorem dX4_comesToInbox_41 : decode cX4_comesToInbox 41 = .ok (.iconst 1, 1) := by decide +kernel
theorem dX4_comesToInbox_42 : decode cX4_comesToInbox 42 = .ok (.iadd, 1) := by decide +kernel
theorem dX4_comesToInbox_43 : decode cX4_comesToInbox 43 = .ok (.iastore, 1) := by decide +kernel
theorem dX4_comesToInbox_44 : decode cX4_comesToInbox 44 = .ok (.return_, 1) := by decide +kernel
theorem dX4_way_0 : decode cX4_way 0 = .ok (.aload_n 0, 1) := by decide +kernel
theorem dX4_way_1 : decode cX4_way 1 = .ok (.aload_n 0, 1) := by decide +kernel
theorem dX4_way_2 : decode cX4_way 2 = .ok (.iload_n 1, 1) := by decide +kernel
theorem dX4_way_3 : decode cX4_way 3 = .ok (.iconst 1, 1) := by decide +kernel
theorem dX4_way_4 : decode cX4_way 4 = .ok (.invokevirtual 92, 3) := by decide +kernel
theorem dX4_way_7 : decode cX4_way 7 = .ok (.ifCond .ne 7, 3) := by decide +kernel
theorem dX4_way_10 : decode cX4_way 10 = .ok (.iconst 1, 1) := by decide +kernel
theorem dX4_way_11 : decode cX4_way 11 = .ok (.goto 17, 3) := by decide +kernel
theorem dX4_way_14 : decode cX4_way 14 = .ok (.iload_n 2, 1) := by decide +kernel
theorem dX4_way_15 : decode cX4_way 15 = .ok (.iconst 0, 1) := by decide +kernel
theorem dX4_way_16 : decode cX4_way 16 = .ok (.iconst 5, 1) := by decide +kernel
theorem dX4_way_17 : decode cX4_way 17 = .ok (.invokestatic 81, 3) := by decide +kernel
theorem dX4_way_20 : decode cX4_way 20 = .ok (.ifCond .eq 7, 3) := by decide +kernel
theorem dX4_way_23 : decode cX4_way 23 = .ok (.iconst 0, 1) := by decide +kernel
theorem dX4_way_24 : decode cX4_way 24 = .ok (.goto 4, 3) := by decide +kernel
theorem dX4_way_27 : decode cX4_way 27 = .ok (.iconst 2, 1) := by decide +kernel
theorem dX4_way_28 : decode cX4_way 28 = .ok (.putfield 74, 3) := by decide +kernel
theorem dX4_way_31 : decode cX4_way 31 = .ok (.aload_n 0, 1) := by decide +kernel
theorem dX4_way_32 : decode cX4_way 32 = .ok (.getfield 74, 3) := by decide +kernel
theorem dX4_way_35 : decode cX4_way 35 = .ok (.ifCond .le 5, 3) := by decide +kernel
theorem dX4_way_38 : decode cX4_way 38 = .ok (.iconst 0, 1) := by decide +kernel
theorem dX4_way_39 : decode cX4_way 39 = .ok (.ireturn, 1) := by decide +kernel
theorem dX4_way_40 : decode cX4_way 40 = .ok (.aload_n 0, 1) := by decide +kernel
theorem dX4_way_41 : decode cX4_way 41 = .ok (.getfield 38, 3) := by decide +kernel
theorem dX4_way_44 : decode cX4_way 44 = .ok (.iload_n 1, 1) := by decide +kernel
theorem dX4_way_45 : decode cX4_way 45 = .ok (.iaload, 1) := by decide +kernel
theorem dX4_way_46 : decode cX4_way 46 = .ok (.istore_n 3, 1) := by decide +kernel
theorem dX4_way_47 : decode cX4_way 47 = .ok (.aload_n 0, 1) := by decide +kernel
theorem dX4_way_48 : decode cX4_way 48 = .ok (.getfield 38, 3) := by decide +kernel
theorem dX4_way_51 : decode cX4_way 51 = .ok (.iload_n 1, 1) := by decide +kernel
theorem dX4_way_52 : decode cX4_way 52 = .ok (.iload_n 2, 1) := by decide +kernel
theorem dX4_way_53 : decode cX4_way 53 = .ok (.iastore, 1) := by decide +kernel
theorem dX4_way_54 : decode cX4_way 54 = .ok (.iload_n 3, 1) := by decide +kernel
theorem dX4_way_55 : decode cX4_way 55 = .ok (.ireturn, 1) := by decide +kernel
theorem dX4_mark_0 : decode cX4_mark 0 = .ok (.aload_n 0, 1) := by decide +kernel
theorem dX4_mark_1 : decode cX4_mark 1 = .ok (.aload_n 0, 1) := by decide +kernel
theorem dX4_mark_2 : decode cX4_mark 2 = .ok (.iload_n 1, 1) := by decide +kernel
theorem dX4_mark_3 : decode cX4_mark 3 = .ok (.iconst 0, 1) := by decide +kernel
theorem dX4_mark_4 : decode cX4_mark 4 = .ok (.invokevirtual 92, 3) := by decide +kernel
theorem dX4_mark_7 : decode cX4_mark 7 = .ok (.ifCond .ne 7, 3) := by decide +kernel
theorem dX4_mark_10 : decode cX4_mark 10 = .ok (.iconst 1, 1) := by decide +kernel
theorem dX4_mark_11 : decode cX4_mark 11 = .ok (.goto 18, 3) := by decide +kernel
theorem dX4_mark_14 : decode cX4_mark 14 = .ok (.iload_n 2, 1) := by decide +kernel
theorem dX4_mark_15 : decode cX4_mark 15 = .ok (.iconst 1, 1) := by decide +kernel
theorem dX4_mark_16 : decode cX4_mark 16 = .ok (.bipush 9, 2) := by decide +kernel
theorem dX4_mark_18 : decode cX4_mark 18 = .ok (.invokestatic 81, 3) := by decide +kernel
theorem dX4_mark_21 : decode cX4_mark 21 = .ok (.ifCond .eq 7, 3) := by decide +kernel
theorem dX4_mark_24 : decode cX4_mark 24 = .ok (.iconst 0, 1) := by decide +kernel
theorem dX4_mark_25 : decode cX4_mark 25 = .ok (.goto 4, 3) := by decide +kernel
theorem dX4_mark_28 : decode cX4_mark 28 = .ok (.iconst 2, 1) := by decide +kernel
theorem dX4_mark_29 : decode cX4_mark 29 = .ok (.putfield 74, 3) := by decide +kernel
theorem dX4_mark_32 : decode cX4_mark 32 = .ok (.aload_n 0, 1) := by decide +kernel
theorem dX4_mark_33 : decode cX4_mark 33 = .ok (.getfield 74, 3) := by decide +kernel
theorem dX4_mark_36 : decode cX4_mark 36 = .ok (.ifCond .le 5, 3) := by decide +kernel
theorem dX4_mark_39 : decode cX4_mark 39 = .ok (.iconst 0, 1) := by decide +kernel
theorem dX4_mark_40 : decode cX4_mark 40 = .ok (.ireturn, 1) := by decide +kernel
theorem dX4_mark_41 : decode cX4_mark 41 = .ok (.aload_n 0, 1) := by decide +kernel
theorem dX4_mark_42 : decode cX4_mark 42 = .ok (.getfield 19, 3) := by decide +kernel
theorem dX4_mark_45 : decode cX4_mark 45 = .ok (.iload_n 1, 1) := by decide +kernel
theorem dX4_mark_46 : decode cX4_mark 46 = .ok (.iaload, 1) := by decide +kernel
theorem dX4_mark_47 : decode cX4_mark 47 = .ok (.istore_n 3, 1) := by decide +kernel
theorem dX4_mark_48 : decode cX4_mark 48 = .ok (.aload_n 0, 1) := by decide +kernel
theorem dX4_mark_49 : decode cX4_mark 49 = .ok (.getfield 19, 3) := by decide +kernel
theorem dX4_mark_52 : decode cX4_mark 52 = .ok (.iload_n 1, 1) := by decide +kernel
theorem dX4_mark_53 : decode cX4_mark 53 = .ok (.iload_n 2, 1) := by decide +kernel
theorem dX4_mark_54 : decode cX4_mark 54 = .ok (.iastore, 1) := by decide +kernel
theorem dX4_mark_55 : decode cX4_mark 55 = .ok (.iload_n 3, 1) := by decide +kernel
theorem dX4_mark_56 : decode cX4_mark 56 = .ok (.ireturn, 1) := by decide +kernel
theorem dX4_rule_0 : decode cX4_rule 0 = .ok (.aload_n 0, 1) := by decide +kernel
theorem dX4_rule_1 : decode cX4_rule 1 = .ok (.iconst 0, 1) := by decide +kernel
theorem dX4_rule_2 : decode cX4_rule 2 = .ok (.putfield 74, 3) := by decide +kernel
theorem dX4_rule_5 : decode cX4_rule 5 = .ok (.aload_n 0, 1) := by decide +kernel
theorem dX4_rule_6 : decode cX4_rule 6 = .ok (.getfield 96, 3) := by decide +kernel
theorem dX4_rule_9 : decode cX4_rule 9 = .ok (.istore_n 2, 1) := by decide +kernel
theorem dX4_rule_10 : decode cX4_rule 10 = .ok (.aload_n 0, 1) := by decide +kernel
theorem dX4_rule_11 : decode cX4_rule 11 = .ok (.iload_n 1, 1) := by decide +kernel
theorem dX4_rule_12 : decode cX4_rule 12 = .ok (.putfield 96, 3) := by decide +kernel
theorem dX4_rule_15 : decode cX4_rule 15 = .ok (.iload_n 2, 1) := by decide +kernel
theorem dX4_rule_16 : decode cX4_rule 16 = .ok (.ireturn, 1) := by decide +kernel
theorem dX4_demand_0 : decode cX4_demand 0 = .ok (.aload_n 0, 1) := by decide +kernel
theorem dX4_demand_1 : decode cX4_demand 1 = .ok (.iload_n 1, 1) := by decide +kernel
theorem dX4_demand_2 : decode cX4_demand 2 = .ok (.iconst 0, 1) := by decide +kernel
theorem dX4_demand_3 : decode cX4_demand 3 = .ok (.bipush 20, 2) := by decide +kernel
theorem dX4_demand_5 : decode cX4_demand 5 = .ok (.invokestatic 81, 3) := by decide +kernel
theorem dX4_demand_8 : decode cX4_demand 8 = .ok (.ifCond .eq 7, 3) := by decide +kernel
theorem dX4_demand_11 : decode cX4_demand 11 = .ok (.iconst 0, 1) := by decide +kernel
theorem dX4_demand_12 : decode cX4_demand 12 = .ok (.goto 4, 3) := by decide +kernel
theorem dX4_demand_15 : decode cX4_demand 15 = .ok (.iconst 1, 1) := by decide +kernel
theorem dX4_demand_16 : decode cX4_demand 16 = .ok (.putfield 74, 3) := by decide +kernel
theorem dX4_demand_19 : decode cX4_demand 19 = .ok (.aload_n 0, 1) := by decide +kernel
theorem dX4_demand_20 : decode cX4_demand 20 = .ok (.getfield 100, 3) := by decide +kernel
theorem dX4_demand_23 : decode cX4_demand 23 = .ok (.istore_n 2, 1) := by decide +kernel
theorem dX4_demand_24 : decode cX4_demand 24 = .ok (.aload_n 0, 1) := by decide +kernel
theorem dX4_demand_25 : decode cX4_demand 25 = .ok (.aload_n 0, 1) := by decide +kernel
theorem dX4_demand_26 : decode cX4_demand 26 = .ok (.getfield 74, 3) := by decide +kernel
theorem dX4_demand_29 : decode cX4_demand 29 = .ok (.ifCond .le 10, 3) := by decide +kernel
theorem dX4_demand_32 : decode cX4_demand 32 = .ok (.aload_n 0, 1) := by decide +kernel
theorem dX4_demand_33 : decode cX4_demand 33 = .ok (.getfield 100, 3) := by decide +kernel
theorem dX4_demand_36 : decode cX4_demand 36 = .ok (.goto 4, 3) := by decide +kernel
theorem dX4_demand_39 : decode cX4_demand 39 = .ok (.iload_n 1, 1) := by decide +kernel
theorem dX4_demand_40 : decode cX4_demand 40 = .ok (.putfield 100, 3) := by decide +kernel
theorem dX4_demand_43 : decode cX4_demand 43 = .ok (.iload_n 2, 1) := by decide +kernel
theorem dX4_demand_44 : decode cX4_demand 44 = .ok (.ireturn, 1) := by decide +kernel
theorem dX4_stop_0 : decode cX4_stop 0 = .ok (.aload_n 0, 1) := by decide +kernel
theorem dX4_stop_1 : decode cX4_stop 1 = .ok (.iload_n 1, 1) := by decide +kernel
theorem dX4_stop_2 : decode cX4_stop 2 = .ok (.iconst 0, 1) := by decide +kernel
theorem dX4_stop_3 : decode cX4_stop 3 = .ok (.invokevirtual 92, 3) := by decide +kernel
theorem dX4_stop_6 : decode cX4_stop 6 = .ok (.ifCond .ne 5, 3) := by decide +kernel
theorem dX4_stop_9 : decode cX4_stop 9 = .ok (.iconst 0, 1) := by decide +kernel
theorem dX4_stop_10 : decode cX4_stop 10 = .ok (.ireturn, 1) := by decide +kernel
theorem dX4_stop_11 : decode cX4_stop 11 = .ok (.aload_n 0, 1) := by decide +kernel
theorem dX4_stop_12 : decode cX4_stop 12 = .ok (.getfield 22, 3) := by decide +kernel
theorem dX4_stop_15 : decode cX4_stop 15 = .ok (.iload_n 1, 1) := by decide +kernel
theorem dX4_stop_16 : decode cX4_stop 16 = .ok (.aload_n 0, 1) := by decide +kernel
theorem dX4_stop_17 : decode cX4_stop 17 = .ok (.getfield 22, 3) := by decide +kernel
theorem dX4_stop_20 : decode cX4_stop 20 = .ok (.iload_n 1, 1) := by decide +kernel
theorem dX4_stop_21 : decode cX4_stop 21 = .ok (.baload, 1) := by decide +kernel
theorem dX4_stop_22 : decode cX4_stop 22 = .ok (.ifCond .ne 7, 3) := by decide +kernel
theorem dX4_stop_25 : decode cX4_stop 25 = .ok (.iconst 1, 1) := by decide +kernel
theorem dX4_stop_26 : decode cX4_stop 26 = .ok (.goto 4, 3) := by decide +kernel
theorem dX4_stop_29 : decode cX4_stop 29 = .ok (.iconst 0, 1) := by decide +kernel
theorem dX4_stop_30 : decode cX4_stop 30 = .ok (.bastore, 1) := by decide +kernel
theorem dX4_stop_31 : decode cX4_stop 31 = .ok (.aload_n 0, 1) := by decide +kernel
theorem dX4_stop_32 : decode cX4_stop 32 = .ok (.getfield 22, 3) := by decide +kernel
theorem dX4_stop_35 : decode cX4_stop 35 = .ok (.iload_n 1, 1) := by decide +kernel
theorem dX4_stop_36 : decode cX4_stop 36 = .ok (.baload, 1) := by decide +kernel
theorem dX4_stop_37 : decode cX4_stop 37 = .ok (.ireturn, 1) := by decide +kernel
theorem dX4_issue_0 : decode cX4_issue 0 = .ok (.aload_n 0, 1) := by decide +kernel
theorem dX4_issue_1 : decode cX4_issue 1 = .ok (.aload_n 0, 1) := by decide +kernel
theorem dX4_issue_2 : decode cX4_issue 2 = .ok (.iload_n 1, 1) := by decide +kernel
theorem dX4_issue_3 : decode cX4_issue 3 = .ok (.iconst 0, 1) := by decide +kernel
theorem dX4_issue_4 : decode cX4_issue 4 = .ok (.invokevirtual 92, 3) := by decide +kernel
theorem dX4_issue_7 : decode cX4_issue 7 = .ok (.ifCond .ne 7, 3) := by decide +kernel
theorem dX4_issue_10 : decode cX4_issue 10 = .ok (.iconst 1, 1) := by decide +kernel
theorem dX4_issue_11 : decode cX4_issue 11 = .ok (.goto 19, 3) := by decide +kernel
theorem dX4_issue_14 : decode cX4_issue 14 = .ok (.aload_n 0, 1) := by decide +kernel
theorem dX4_issue_15 : decode cX4_issue 15 = .ok (.getfield 7, 3) := by decide +kernel
theorem dX4_issue_18 : decode cX4_issue 18 = .ok (.iload_n 1, 1) := by decide +kernel
theorem dX4_issue_19 : decode cX4_issue 19 = .ok (.iaload, 1) := by decide +kernel
theorem dX4_issue_20 : decode cX4_issue 20 = .ok (.bipush 9, 2) := by decide +kernel
theorem dX4_issue_22 : decode cX4_issue 22 = .ok (.if_icmp .ne 7, 3) := by decide +kernel
theorem dX4_issue_25 : decode cX4_issue 25 = .ok (.iconst 2, 1) := by decide +kernel
theorem dX4_issue_26 : decode cX4_issue 26 = .ok (.goto 4, 3) := by decide +kernel
theorem dX4_issue_29 : decode cX4_issue 29 = .ok (.iconst 0, 1) := by decide +kernel
theorem dX4_issue_30 : decode cX4_issue 30 = .ok (.putfield 74, 3) := by decide +kernel
theorem dX4_issue_33 : decode cX4_issue 33 = .ok (.aload_n 0, 1) := by decide +kernel
theorem dX4_issue_34 : decode cX4_issue 34 = .ok (.getfield 74, 3) := by decide +kernel
theorem dX4_issue_37 : decode cX4_issue 37 = .ok (.ifCond .le 5, 3) := by decide +kernel
theorem dX4_issue_40 : decode cX4_issue 40 = .ok (.iconst 0, 1) := by decide +kernel
theorem dX4_issue_41 : decode cX4_issue 41 = .ok (.ireturn, 1) := by decide +kernel
theorem dX4_issue_42 : decode cX4_issue 42 = .ok (.aload_n 0, 1) := by decide +kernel
theorem dX4_issue_43 : decode cX4_issue 43 = .ok (.getfield 7, 3) := by decide +kernel
theorem dX4_issue_46 : decode cX4_issue 46 = .ok (.iload_n 1, 1) := by decide +kernel
theorem dX4_issue_47 : decode cX4_issue 47 = .ok (.dup2, 1) := by decide +kernel
theorem dX4_issue_48 : decode cX4_issue 48 = .ok (.iaload, 1) := by decide +kernel
theorem dX4_issue_49 : decode cX4_issue 49 = .ok (.iconst 1, 1) := by decide +kernel
theorem dX4_issue_50 : decode cX4_issue 50 = .ok (.iadd, 1) := by decide +kernel
theorem dX4_issue_51 : decode cX4_issue 51 = .ok (.iastore, 1) := by decide +kernel
theorem dX4_issue_52 : decode cX4_issue 52 = .ok (.aload_n 0, 1) := by decide +kernel
theorem dX4_issue_53 : decode cX4_issue 53 = .ok (.getfield 26, 3) := by decide +kernel
theorem dX4_issue_56 : decode cX4_issue 56 = .ok (.iload_n 1, 1) := by decide +kernel
theorem dX4_issue_57 : decode cX4_issue 57 = .ok (.dup2, 1) := by decide +kernel
theorem dX4_issue_58 : decode cX4_issue 58 = .ok (.iaload, 1) := by decide +kernel
theorem dX4_issue_59 : decode cX4_issue 59 = .ok (.iconst 1, 1) := by decide +kernel
theorem dX4_issue_60 : decode cX4_issue 60 = .ok (.iadd, 1) := by decide +kernel
theorem dX4_issue_61 : decode cX4_issue 61 = .ok (.iastore, 1) := by decide +kernel
theorem dX4_issue_62 : decode cX4_issue 62 = .ok (.aload_n 0, 1) := by decide +kernel
theorem dX4_issue_63 : decode cX4_issue 63 = .ok (.getfield 7, 3) := by decide +kernel
theorem dX4_issue_66 : decode cX4_issue 66 = .ok (.iload_n 1, 1) := by decide +kernel
theorem dX4_issue_67 : decode cX4_issue 67 = .ok (.iaload, 1) := by decide +kernel
theorem dX4_issue_68 : decode cX4_issue 68 = .ok (.ireturn, 1) := by decide +kernel
theorem dX4_retire_0 : decode cX4_retire 0 = .ok (.aload_n 0, 1) := by decide +kernel
theorem dX4_retire_1 : decode cX4_retire 1 = .ok (.aload_n 0, 1) := by decide +kernel
theorem dX4_retire_2 : decode cX4_retire 2 = .ok (.iload_n 1, 1) := by decide +kernel
theorem dX4_retire_3 : decode cX4_retire 3 = .ok (.iconst 0, 1) := by decide +kernel
theorem dX4_retire_4 : decode cX4_retire 4 = .ok (.invokevirtual 92, 3) := by decide +kernel
theorem dX4_retire_7 : decode cX4_retire 7 = .ok (.ifCond .ne 7, 3) := by decide +kernel
theorem dX4_retire_10 : decode cX4_retire 10 = .ok (.iconst 1, 1) := by decide +kernel
theorem dX4_retire_11 : decode cX4_retire 11 = .ok (.goto 27, 3) := by decide +kernel
theorem dX4_retire_14 : decode cX4_retire 14 = .ok (.aload_n 0, 1) := by decide +kernel
theorem dX4_retire_15 : decode cX4_retire 15 = .ok (.getfield 26, 3) := by decide +kernel
theorem dX4_retire_18 : decode cX4_retire 18 = .ok (.iload_n 1, 1) := by decide +kernel
theorem dX4_retire_19 : decode cX4_retire 19 = .ok (.iaload, 1) := by decide +kernel
theorem dX4_retire_20 : decode cX4_retire 20 = .ok (.ifCond .eq 13, 3) := by decide +kernel
theorem dX4_retire_23 : decode cX4_retire 23 = .ok (.aload_n 0, 1) := by decide +kernel
theorem dX4_retire_24 : decode cX4_retire 24 = .ok (.getfield 7, 3) := by decide +kernel
theorem dX4_retire_27 : decode cX4_retire 27 = .ok (.iload_n 1, 1) := by decide +kernel
theorem dX4_retire_28 : decode cX4_retire 28 = .ok (.iaload, 1) := by decide +kernel
theorem dX4_retire_29 : decode cX4_retire 29 = .ok (.iconst 1, 1) := by decide +kernel
theorem dX4_retire_30 : decode cX4_retire 30 = .ok (.if_icmp .ne 7, 3) := by decide +kernel
theorem dX4_retire_33 : decode cX4_retire 33 = .ok (.iconst 2, 1) := by decide +kernel
theorem dX4_retire_34 : decode cX4_retire 34 = .ok (.goto 4, 3) := by decide +kernel
theorem dX4_retire_37 : decode cX4_retire 37 = .ok (.iconst 0, 1) := by decide +kernel
theorem dX4_retire_38 : decode cX4_retire 38 = .ok (.putfield 74, 3) := by decide +kernel
theorem dX4_retire_41 : decode cX4_retire 41 = .ok (.aload_n 0, 1) := by decide +kernel
theorem dX4_retire_42 : decode cX4_retire 42 = .ok (.getfield 74, 3) := by decide +kernel
theorem dX4_retire_45 : decode cX4_retire 45 = .ok (.ifCond .le 5, 3) := by decide +kernel
theorem dX4_retire_48 : decode cX4_retire 48 = .ok (.iconst 0, 1) := by decide +kernel
theorem dX4_retire_49 : decode cX4_retire 49 = .ok (.ireturn, 1) := by decide +kernel
theorem dX4_retire_50 : decode cX4_retire 50 = .ok (.aload_n 0, 1) := by decide +kernel
theorem dX4_retire_51 : decode cX4_retire 51 = .ok (.getfield 7, 3) := by decide +kernel
theorem dX4_retire_54 : decode cX4_retire 54 = .ok (.iload_n 1, 1) := by decide +kernel
theorem dX4_retire_55 : decode cX4_retire 55 = .ok (.dup2, 1) := by decide +kernel
theorem dX4_retire_56 : decode cX4_retire 56 = .ok (.iaload, 1) := by decide +kernel
theorem dX4_retire_57 : decode cX4_retire 57 = .ok (.iconst 1, 1) := by decide +kernel
theorem dX4_retire_58 : decode cX4_retire 58 = .ok (.isub, 1) := by decide +kernel
theorem dX4_retire_59 : decode cX4_retire 59 = .ok (.iastore, 1) := by decide +kernel
theorem dX4_retire_60 : decode cX4_retire 60 = .ok (.aload_n 0, 1) := by decide +kernel
theorem dX4_retire_61 : decode cX4_retire 61 = .ok (.getfield 26, 3) := by decide +kernel
theorem dX4_retire_64 : decode cX4_retire 64 = .ok (.iload_n 1, 1) := by decide +kernel
theorem dX4_retire_65 : decode cX4_retire 65 = .ok (.dup2, 1) := by decide +kernel
theorem dX4_retire_66 : decode cX4_retire 66 = .ok (.iaload, 1) := by decide +kernel
theorem dX4_retire_67 : decode cX4_retire 67 = .ok (.iconst 1, 1) := by decide +kernel
theorem dX4_retire_68 : decode cX4_retire 68 = .ok (.isub, 1) := by decide +kernel
theorem dX4_retire_69 : decode cX4_retire 69 = .ok (.iastore, 1) := by decide +kernel
theorem dX4_retire_70 : decode cX4_retire 70 = .ok (.aload_n 0, 1) := by decide +kernel
theorem dX4_retire_71 : decode cX4_retire 71 = .ok (.getfield 32, 3) := by decide +kernel
theorem dX4_retire_74 : decode cX4_retire 74 = .ok (.iload_n 1, 1) := by decide +kernel
theorem dX4_retire_75 : decode cX4_retire 75 = .ok (.aload_n 0, 1) := by decide +kernel
theorem dX4_retire_76 : decode cX4_retire 76 = .ok (.getfield 32, 3) := by decide +kernel
theorem dX4_retire_79 : decode cX4_retire 79 = .ok (.iload_n 1, 1) := by decide +kernel
theorem dX4_retire_80 : decode cX4_retire 80 = .ok (.iaload, 1) := by decide +kernel
theorem dX4_retire_81 : decode cX4_retire 81 = .ok (.aload_n 0, 1) := by decide +kernel
theorem dX4_retire_82 : decode cX4_retire 82 = .ok (.getfield 26, 3) := by decide +kernel
theorem dX4_retire_85 : decode cX4_retire 85 = .ok (.iload_n 1, 1) := by decide +kernel
theorem dX4_retire_86 : decode cX4_retire 86 = .ok (.iaload, 1) := by decide +kernel
theorem dX4_retire_87 : decode cX4_retire 87 = .ok (.if_icmp .ge 12, 3) := by decide +kernel
theorem dX4_retire_90 : decode cX4_retire 90 = .ok (.aload_n 0, 1) := by decide +kernel
theorem dX4_retire_91 : decode cX4_retire 91 = .ok (.getfield 32, 3) := by decide +kernel
theorem dX4_retire_94 : decode cX4_retire 94 = .ok (.iload_n 1, 1) := by decide +kernel
theorem dX4_retire_95 : decode cX4_retire 95 = .ok (.iaload, 1) := by decide +kernel
theorem dX4_retire_96 : decode cX4_retire 96 = .ok (.goto 9, 3) := by decide +kernel
theorem dX4_retire_99 : decode cX4_retire 99 = .ok (.aload_n 0, 1) := by decide +kernel
theorem dX4_retire_100 : decode cX4_retire 100 = .ok (.getfield 26, 3) := by decide +kernel
theorem dX4_retire_103 : decode cX4_retire 103 = .ok (.iload_n 1, 1) := by decide +kernel
theorem dX4_retire_104 : decode cX4_retire 104 = .ok (.iaload, 1) := by decide +kernel
theorem dX4_retire_105 : decode cX4_retire 105 = .ok (.iastore, 1) := by decide +kernel
theorem dX4_retire_106 : decode cX4_retire 106 = .ok (.aload_n 0, 1) := by decide +kernel
theorem dX4_retire_107 : decode cX4_retire 107 = .ok (.getfield 7, 3) := by decide +kernel
theorem dX4_retire_110 : decode cX4_retire 110 = .ok (.iload_n 1, 1) := by decide +kernel
theorem dX4_retire_111 : decode cX4_retire 111 = .ok (.iaload, 1) := by decide +kernel
theorem dX4_retire_112 : decode cX4_retire 112 = .ok (.ireturn, 1) := by decide +kernel
theorem dX4_issueConveyance_0 : decode cX4_issueConveyance 0 = .ok (.aload_n 0, 1) := by decide +kernel
theorem dX4_issueConveyance_1 : decode cX4_issueConveyance 1 = .ok (.aload_n 0, 1) := by decide +kernel
theorem dX4_issueConveyance_2 : decode cX4_issueConveyance 2 = .ok (.iload_n 1, 1) := by decide +kernel
theorem dX4_issueConveyance_3 : decode cX4_issueConveyance 3 = .ok (.iconst 1, 1) := by decide +kernel
theorem dX4_issueConveyance_4 : decode cX4_issueConveyance 4 = .ok (.invokevirtual 92, 3) := by decide +kernel
theorem dX4_issueConveyance_7 : decode cX4_issueConveyance 7 = .ok (.ifCond .ne 7, 3) := by decide +kernel
theorem dX4_issueConveyance_10 : decode cX4_issueConveyance 10 = .ok (.iconst 1, 1) := by decide +kernel
theorem dX4_issueConveyance_11 : decode cX4_issueConveyance 11 = .ok (.goto 18, 3) := by decide +kernel
theorem dX4_issueConveyance_14 : decode cX4_issueConveyance 14 = .ok (.aload_n 0, 1) := by decide +kernel
theorem dX4_issueConveyance_15 : decode cX4_issueConveyance 15 = .ok (.getfield 41, 3) := by decide +kernel
theorem dX4_issueConveyance_18 : decode cX4_issueConveyance 18 = .ok (.iload_n 1, 1) := by decide +kernel
theorem dX4_issueConveyance_19 : decode cX4_issueConveyance 19 = .ok (.iaload, 1) := by decide +kernel
theorem dX4_issueConveyance_20 : decode cX4_issueConveyance 20 = .ok (.iconst 5, 1) := by decide +kernel
theorem dX4_issueConveyance_21 : decode cX4_issueConveyance 21 = .ok (.if_icmp .ne 7, 3) := by decide +kernel
theorem dX4_issueConveyance_24 : decode cX4_issueConveyance 24 = .ok (.iconst 2, 1) := by decide +kernel
theorem dX4_issueConveyance_25 : decode cX4_issueConveyance 25 = .ok (.goto 4, 3) := by decide +kernel
theorem dX4_issueConveyance_28 : decode cX4_issueConveyance 28 = .ok (.iconst 0, 1) := by decide +kernel
theorem dX4_issueConveyance_29 : decode cX4_issueConveyance 29 = .ok (.putfield 74, 3) := by decide +kernel
theorem dX4_issueConveyance_32 : decode cX4_issueConveyance 32 = .ok (.aload_n 0, 1) := by decide +kernel
theorem dX4_issueConveyance_33 : decode cX4_issueConveyance 33 = .ok (.getfield 74, 3) := by decide +kernel
theorem dX4_issueConveyance_36 : decode cX4_issueConveyance 36 = .ok (.ifCond .le 5, 3) := by decide +kernel
theorem dX4_issueConveyance_39 : decode cX4_issueConveyance 39 = .ok (.iconst 0, 1) := by decide +kernel
theorem dX4_issueConveyance_40 : decode cX4_issueConveyance 40 = .ok (.ireturn, 1) := by decide +kernel
theorem dX4_issueConveyance_41 : decode cX4_issueConveyance 41 = .ok (.aload_n 0, 1) := by decide +kernel
theorem dX4_issueConveyance_42 : decode cX4_issueConveyance 42 = .ok (.getfield 41, 3) := by decide +kernel
theorem dX4_issueConveyance_45 : decode cX4_issueConveyance 45 = .ok (.iload_n 1, 1) := by decide +kernel
theorem dX4_issueConveyance_46 : decode cX4_issueConveyance 46 = .ok (.dup2, 1) := by decide +kernel
theorem dX4_issueConveyance_47 : decode cX4_issueConveyance 47 = .ok (.iaload, 1) := by decide +kernel
theorem dX4_issueConveyance_48 : decode cX4_issueConveyance 48 = .ok (.iconst 1, 1) := by decide +kernel
theorem dX4_issueConveyance_49 : decode cX4_issueConveyance 49 = .ok (.iadd, 1) := by decide +kernel
theorem dX4_issueConveyance_50 : decode cX4_issueConveyance 50 = .ok (.iastore, 1) := by decide +kernel
theorem dX4_issueConveyance_51 : decode cX4_issueConveyance 51 = .ok (.aload_n 0, 1) := by decide +kernel
theorem dX4_issueConveyance_52 : decode cX4_issueConveyance 52 = .ok (.getfield 44, 3) := by decide +kernel
theorem dX4_issueConveyance_55 : decode cX4_issueConveyance 55 = .ok (.iload_n 1, 1) := by decide +kernel
theorem dX4_issueConveyance_56 : decode cX4_issueConveyance 56 = .ok (.dup2, 1) := by decide +kernel
theorem dX4_issueConveyance_57 : decode cX4_issueConveyance 57 = .ok (.iaload, 1) := by decide +kernel
theorem dX4_issueConveyance_58 : decode cX4_issueConveyance 58 = .ok (.iconst 1, 1) := by decide +kernel
theorem dX4_issueConveyance_59 : decode cX4_issueConveyance 59 = .ok (.iadd, 1) := by decide +kernel
theorem dX4_issueConveyance_60 : decode cX4_issueConveyance 60 = .ok (.iastore, 1) := by decide +kernel
theorem dX4_issueConveyance_61 : decode cX4_issueConveyance 61 = .ok (.aload_n 0, 1) := by decide +kernel
theorem dX4_issueConveyance_62 : decode cX4_issueConveyance 62 = .ok (.getfield 41, 3) := by decide +kernel
theorem dX4_issueConveyance_65 : decode cX4_issueConveyance 65 = .ok (.iload_n 1, 1) := by decide +kernel
theorem dX4_issueConveyance_66 : decode cX4_issueConveyance 66 = .ok (.iaload, 1) := by decide +kernel
theorem dX4_issueConveyance_67 : decode cX4_issueConveyance 67 = .ok (.ireturn, 1) := by decide +kernel
theorem dX4_retireConveyance_0 : decode cX4_retireConveyance 0 = .ok (.aload_n 0, 1) := by decide +kernel
theorem dX4_retireConveyance_1 : decode cX4_retireConveyance 1 = .ok (.aload_n 0, 1) := by decide +kernel
theorem dX4_retireConveyance_2 : decode cX4_retireConveyance 2 = .ok (.iload_n 1, 1) := by decide +kernel
theorem dX4_retireConveyance_3 : decode cX4_retireConveyance 3 = .ok (.iconst 1, 1) := by decide +kernel
theorem dX4_retireConveyance_4 : decode cX4_retireConveyance 4 = .ok (.invokevirtual 92, 3) := by decide +kernel
theorem dX4_retireConveyance_7 : decode cX4_retireConveyance 7 = .ok (.ifCond .ne 7, 3) := by decide +kernel
theorem dX4_retireConveyance_10 : decode cX4_retireConveyance 10 = .ok (.iconst 1, 1) := by decide +kernel
theorem dX4_retireConveyance_11 : decode cX4_retireConveyance 11 = .ok (.goto 27, 3) := by decide +kernel
theorem dX4_retireConveyance_14 : decode cX4_retireConveyance 14 = .ok (.aload_n 0, 1) := by decide +kernel
theorem dX4_retireConveyance_15 : decode cX4_retireConveyance 15 = .ok (.getfield 44, 3) := by decide +kernel
theorem dX4_retireConveyance_18 : decode cX4_retireConveyance 18 = .ok (.iload_n 1, 1) := by decide +kernel
theorem dX4_retireConveyance_19 : decode cX4_retireConveyance 19 = .ok (.iaload, 1) := by decide +kernel
theorem dX4_retireConveyance_20 : decode cX4_retireConveyance 20 = .ok (.ifCond .eq 13, 3) := by decide +kernel
theorem dX4_retireConveyance_23 : decode cX4_retireConveyance 23 = .ok (.aload_n 0, 1) := by decide +kernel
theorem dX4_retireConveyance_24 : decode cX4_retireConveyance 24 = .ok (.getfield 41, 3) := by decide +kernel
theorem dX4_retireConveyance_27 : decode cX4_retireConveyance 27 = .ok (.iload_n 1, 1) := by decide +kernel
theorem dX4_retireConveyance_28 : decode cX4_retireConveyance 28 = .ok (.iaload, 1) := by decide +kernel
theorem dX4_retireConveyance_29 : decode cX4_retireConveyance 29 = .ok (.iconst 1, 1) := by decide +kernel
theorem dX4_retireConveyance_30 : decode cX4_retireConveyance 30 = .ok (.if_icmp .ne 7, 3) := by decide +kernel
theorem dX4_retireConveyance_33 : decode cX4_retireConveyance 33 = .ok (.iconst 2, 1) := by decide +kernel
theorem dX4_retireConveyance_34 : decode cX4_retireConveyance 34 = .ok (.goto 4, 3) := by decide +kernel
theorem dX4_retireConveyance_37 : decode cX4_retireConveyance 37 = .ok (.iconst 0, 1) := by decide +kernel
theorem dX4_retireConveyance_38 : decode cX4_retireConveyance 38 = .ok (.putfield 74, 3) := by decide +kernel
theorem dX4_retireConveyance_41 : decode cX4_retireConveyance 41 = .ok (.aload_n 0, 1) := by decide +kernel
theorem dX4_retireConveyance_42 : decode cX4_retireConveyance 42 = .ok (.getfield 74, 3) := by decide +kernel
theorem dX4_retireConveyance_45 : decode cX4_retireConveyance 45 = .ok (.ifCond .le 5, 3) := by decide +kernel
theorem dX4_retireConveyance_48 : decode cX4_retireConveyance 48 = .ok (.iconst 0, 1) := by decide +kernel
theorem dX4_retireConveyance_49 : decode cX4_retireConveyance 49 = .ok (.ireturn, 1) := by decide +kernel
theorem dX4_retireConveyance_50 : decode cX4_retireConveyance 50 = .ok (.aload_n 0, 1) := by decide +kernel
theorem dX4_retireConveyance_51 : decode cX4_retireConveyance 51 = .ok (.getfield 41, 3) := by decide +kernel
theorem dX4_retireConveyance_54 : decode cX4_retireConveyance 54 = .ok (.iload_n 1, 1) := by decide +kernel
theorem dX4_retireConveyance_55 : decode cX4_retireConveyance 55 = .ok (.dup2, 1) := by decide +kernel
theorem dX4_retireConveyance_56 : decode cX4_retireConveyance 56 = .ok (.iaload, 1) := by decide +kernel
theorem dX4_retireConveyance_57 : decode cX4_retireConveyance 57 = .ok (.iconst 1, 1) := by decide +kernel
theorem dX4_retireConveyance_58 : decode cX4_retireConveyance 58 = .ok (.isub, 1) := by decide +kernel
theorem dX4_retireConveyance_59 : decode cX4_retireConveyance 59 = .ok (.iastore, 1) := by decide +kernel
theorem dX4_retireConveyance_60 : decode cX4_retireConveyance 60 = .ok (.aload_n 0, 1) := by decide +kernel
theorem dX4_retireConveyance_61 : decode cX4_retireConveyance 61 = .ok (.getfield 44, 3) := by decide +kernel
theorem dX4_retireConveyance_64 : decode cX4_retireConveyance 64 = .ok (.iload_n 1, 1) := by decide +kernel
theorem dX4_retireConveyance_65 : decode cX4_retireConveyance 65 = .ok (.dup2, 1) := by decide +kernel
theorem dX4_retireConveyance_66 : decode cX4_retireConveyance 66 = .ok (.iaload, 1) := by decide +kernel
theorem dX4_retireConveyance_67 : decode cX4_retireConveyance 67 = .ok (.iconst 1, 1) := by decide +kernel
theorem dX4_retireConveyance_68 : decode cX4_retireConveyance 68 = .ok (.isub, 1) := by decide +kernel
theorem dX4_retireConveyance_69 : decode cX4_retireConveyance 69 = .ok (.iastore, 1) := by decide +kernel
theorem dX4_retireConveyance_70 : decode cX4_retireConveyance 70 = .ok (.aload_n 0, 1) := by decide +kernel
theorem dX4_retireConveyance_71 : decode cX4_retireConveyance 71 = .ok (.getfield 41, 3) := by decide +kernel
theorem dX4_retireConveyance_74 : decode cX4_retireConveyance 74 = .ok (.iload_n 1, 1) := by decide +kernel
theorem dX4_retireConveyance_75 : decode cX4_retireConveyance 75 = .ok (.iaload, 1) := by decide +kernel
theorem dX4_retireConveyance_76 : decode cX4_retireConveyance 76 = .ok (.ireturn, 1) := by decide +kernel
theorem dX4_needed_0 : decode cX4_needed 0 = .ok (.aload_n 0, 1) := by decide +kernel
theorem dX4_needed_1 : decode cX4_needed 1 = .ok (.aload_n 0, 1) := by decide +kernel
theorem dX4_needed_2 : decode cX4_needed 2 = .ok (.iload_n 1, 1) := by decide +kernel
theorem dX4_needed_3 : decode cX4_needed 3 = .ok (.iconst 0, 1) := by decide +kernel
theorem dX4_needed_4 : decode cX4_needed 4 = .ok (.invokevirtual 92, 3) := by decide +kernel
theorem dX4_needed_7 : decode cX4_needed 7 = .ok (.ifCond .ne 7, 3) := by decide +kernel
theorem dX4_needed_10 : decode cX4_needed 10 = .ok (.iconst 1, 1) := by decide +kernel
theorem dX4_needed_11 : decode cX4_needed 11 = .ok (.goto 18, 3) := by decide +kernel
theorem dX4_needed_14 : decode cX4_needed 14 = .ok (.iload_n 2, 1) := by decide +kernel
theorem dX4_needed_15 : decode cX4_needed 15 = .ok (.iconst 0, 1) := by decide +kernel
theorem dX4_needed_16 : decode cX4_needed 16 = .ok (.bipush 100, 2) := by decide +kernel
theorem dX4_needed_18 : decode cX4_needed 18 = .ok (.invokestatic 81, 3) := by decide +kernel
theorem dX4_needed_21 : decode cX4_needed 21 = .ok (.ifCond .eq 7, 3) := by decide +kernel
theorem dX4_needed_24 : decode cX4_needed 24 = .ok (.iconst 0, 1) := by decide +kernel
theorem dX4_needed_25 : decode cX4_needed 25 = .ok (.goto 4, 3) := by decide +kernel
theorem dX4_needed_28 : decode cX4_needed 28 = .ok (.iconst 2, 1) := by decide +kernel
theorem dX4_needed_29 : decode cX4_needed 29 = .ok (.putfield 74, 3) := by decide +kernel
theorem dX4_needed_32 : decode cX4_needed 32 = .ok (.aload_n 0, 1) := by decide +kernel
theorem dX4_needed_33 : decode cX4_needed 33 = .ok (.getfield 74, 3) := by decide +kernel
theorem dX4_needed_36 : decode cX4_needed 36 = .ok (.ifCond .le 5, 3) := by decide +kernel
theorem dX4_needed_39 : decode cX4_needed 39 = .ok (.iconst 0, 1) := by decide +kernel
theorem dX4_needed_40 : decode cX4_needed 40 = .ok (.ireturn, 1) := by decide +kernel
theorem dX4_needed_41 : decode cX4_needed 41 = .ok (.aload_n 0, 1) := by decide +kernel
theorem dX4_needed_42 : decode cX4_needed 42 = .ok (.getfield 19, 3) := by decide +kernel
theorem dX4_needed_45 : decode cX4_needed 45 = .ok (.iload_n 1, 1) := by decide +kernel
theorem dX4_needed_46 : decode cX4_needed 46 = .ok (.iaload, 1) := by decide +kernel
theorem dX4_needed_47 : decode cX4_needed 47 = .ok (.aload_n 0, 1) := by decide +kernel
theorem dX4_needed_48 : decode cX4_needed 48 = .ok (.getfield 16, 3) := by decide +kernel
theorem dX4_needed_51 : decode cX4_needed 51 = .ok (.iload_n 1, 1) := by decide +kernel
theorem dX4_needed_52 : decode cX4_needed 52 = .ok (.iaload, 1) := by decide +kernel
theorem dX4_needed_53 : decode cX4_needed 53 = .ok (.imul, 1) := by decide +kernel
theorem dX4_needed_54 : decode cX4_needed 54 = .ok (.iload_n 1, 1) := by decide +kernel
theorem dX4_needed_55 : decode cX4_needed 55 = .ok (.iconst 1, 1) := by decide +kernel
theorem dX4_needed_56 : decode cX4_needed 56 = .ok (.iadd, 1) := by decide +kernel
theorem dX4_needed_57 : decode cX4_needed 57 = .ok (.aload_n 0, 1) := by decide +kernel
theorem dX4_needed_58 : decode cX4_needed 58 = .ok (.getfield 78, 3) := by decide +kernel
theorem dX4_needed_61 : decode cX4_needed 61 = .ok (.if_icmp .ge 14, 3) := by decide +kernel
theorem dX4_needed_64 : decode cX4_needed 64 = .ok (.aload_n 0, 1) := by decide +kernel
theorem dX4_needed_65 : decode cX4_needed 65 = .ok (.getfield 38, 3) := by decide +kernel
theorem dX4_needed_68 : decode cX4_needed 68 = .ok (.iload_n 1, 1) := by decide +kernel
theorem dX4_needed_69 : decode cX4_needed 69 = .ok (.iconst 1, 1) := by decide +kernel
theorem dX4_needed_70 : decode cX4_needed 70 = .ok (.iadd, 1) := by decide +kernel
theorem dX4_needed_71 : decode cX4_needed 71 = .ok (.iaload, 1) := by decide +kernel
theorem dX4_needed_72 : decode cX4_needed 72 = .ok (.goto 4, 3) := by decide +kernel
theorem dX4_needed_75 : decode cX4_needed 75 = .ok (.iconst 0, 1) := by decide +kernel
theorem dX4_needed_76 : decode cX4_needed 76 = .ok (.iadd, 1) := by decide +kernel
theorem dX4_needed_77 : decode cX4_needed 77 = .ok (.istore_n 3, 1) := by decide +kernel
theorem dX4_needed_78 : decode cX4_needed 78 = .ok (.bipush 100, 2) := by decide +kernel
theorem dX4_needed_80 : decode cX4_needed 80 = .ok (.aload_n 0, 1) := by decide +kernel
theorem dX4_needed_81 : decode cX4_needed 81 = .ok (.getfield 13, 3) := by decide +kernel
theorem dX4_needed_84 : decode cX4_needed 84 = .ok (.iload_n 1, 1) := by decide +kernel
theorem dX4_needed_85 : decode cX4_needed 85 = .ok (.iaload, 1) := by decide +kernel
theorem dX4_needed_86 : decode cX4_needed 86 = .ok (.imul, 1) := by decide +kernel
theorem dX4_needed_87 : decode cX4_needed 87 = .ok (.istore 4, 2) := by decide +kernel
theorem dX4_needed_89 : decode cX4_needed 89 = .ok (.aload_n 0, 1) := by decide +kernel
theorem dX4_needed_90 : decode cX4_needed 90 = .ok (.getfield 100, 3) := by decide +kernel
theorem dX4_needed_93 : decode cX4_needed 93 = .ok (.iload_n 3, 1) := by decide +kernel
theorem dX4_needed_94 : decode cX4_needed 94 = .ok (.imul, 1) := by decide +kernel
theorem dX4_needed_95 : decode cX4_needed 95 = .ok (.bipush 100, 2) := by decide +kernel
theorem dX4_needed_97 : decode cX4_needed 97 = .ok (.iload_n 2, 1) := by decide +kernel
theorem dX4_needed_98 : decode cX4_needed 98 = .ok (.iadd, 1) := by decide +kernel
theorem dX4_needed_99 : decode cX4_needed 99 = .ok (.imul, 1) := by decide +kernel
theorem dX4_needed_100 : decode cX4_needed 100 = .ok (.iload 4, 2) := by decide +kernel
theorem dX4_needed_102 : decode cX4_needed 102 = .ok (.iadd, 1) := by decide +kernel
theorem dX4_needed_103 : decode cX4_needed 103 = .ok (.iconst 1, 1) := by decide +kernel
theorem dX4_needed_104 : decode cX4_needed 104 = .ok (.isub, 1) := by decide +kernel
theorem dX4_needed_105 : decode cX4_needed 105 = .ok (.iload 4, 2) := by decide +kernel
theorem dX4_needed_107 : decode cX4_needed 107 = .ok (.idiv, 1) := by decide +kernel
theorem dX4_needed_108 : decode cX4_needed 108 = .ok (.istore 5, 2) := by decide +kernel
theorem dX4_needed_110 : decode cX4_needed 110 = .ok (.iload 5, 2) := by decide +kernel
theorem dX4_needed_112 : decode cX4_needed 112 = .ok (.iconst 1, 1) := by decide +kernel
theorem dX4_needed_113 : decode cX4_needed 113 = .ok (.if_icmp .le 8, 3) := by decide +kernel
theorem dX4_needed_116 : decode cX4_needed 116 = .ok (.iload 5, 2) := by decide +kernel
theorem dX4_needed_118 : decode cX4_needed 118 = .ok (.goto 4, 3) := by decide +kernel
theorem dX4_needed_121 : decode cX4_needed 121 = .ok (.iconst 1, 1) := by decide +kernel
theorem dX4_needed_122 : decode cX4_needed 122 = .ok (.ireturn, 1) := by decide +kernel
theorem dX4_sells_0 : decode cX4_sells 0 = .ok (.aload_n 0, 1) := by decide +kernel
theorem dX4_sells_1 : decode cX4_sells 1 = .ok (.getfield 78, 3) := by decide +kernel
theorem dX4_sells_4 : decode cX4_sells 4 = .ok (.iconst 1, 1) := by decide +kernel
theorem dX4_sells_5 : decode cX4_sells 5 = .ok (.isub, 1) := by decide +kernel
theorem dX4_sells_6 : decode cX4_sells 6 = .ok (.istore_n 2, 1) := by decide +kernel
theorem dX4_sells_7 : decode cX4_sells 7 = .ok (.iload_n 1, 1) := by decide +kernel
theorem dX4_sells_8 : decode cX4_sells 8 = .ok (.istore_n 3, 1) := by decide +kernel
theorem dX4_sells_9 : decode cX4_sells 9 = .ok (.iload_n 3, 1) := by decide +kernel
theorem dX4_sells_10 : decode cX4_sells 10 = .ok (.ifCond .le 114, 3) := by decide +kernel
theorem dX4_sells_13 : decode cX4_sells 13 = .ok (.bipush 16, 2) := by decide +kernel
theorem dX4_sells_15 : decode cX4_sells 15 = .ok (.iload_n 2, 1) := by decide +kernel
theorem dX4_sells_16 : decode cX4_sells 16 = .ok (.imul, 1) := by decide +kernel
theorem dX4_sells_17 : decode cX4_sells 17 = .ok (.istore 4, 2) := by decide +kernel
theorem dX4_sells_19 : decode cX4_sells 19 = .ok (.aload_n 0, 1) := by decide +kernel
theorem dX4_sells_20 : decode cX4_sells 20 = .ok (.getfield 47, 3) := by decide +kernel
theorem dX4_sells_23 : decode cX4_sells 23 = .ok (.iload 4, 2) := by decide +kernel
theorem dX4_sells_25 : decode cX4_sells 25 = .ok (.iaload, 1) := by decide +kernel
theorem dX4_sells_26 : decode cX4_sells 26 = .ok (.iload_n 3, 1) := by decide +kernel
theorem dX4_sells_27 : decode cX4_sells 27 = .ok (.if_icmp .ge 13, 3) := by decide +kernel
theorem dX4_sells_30 : decode cX4_sells 30 = .ok (.aload_n 0, 1) := by decide +kernel
theorem dX4_sells_31 : decode cX4_sells 31 = .ok (.getfield 47, 3) := by decide +kernel
theorem dX4_sells_34 : decode cX4_sells 34 = .ok (.iload 4, 2) := by decide +kernel
theorem dX4_sells_36 : decode cX4_sells 36 = .ok (.iaload, 1) := by decide +kernel
theorem dX4_sells_37 : decode cX4_sells 37 = .ok (.goto 4, 3) := by decide +kernel
theorem dX4_sells_40 : decode cX4_sells 40 = .ok (.iload_n 3, 1) := by decide +kernel
theorem dX4_sells_41 : decode cX4_sells 41 = .ok (.istore 5, 2) := by decide +kernel
theorem dX4_sells_43 : decode cX4_sells 43 = .ok (.aload_n 0, 1) := by decide +kernel
theorem dX4_sells_44 : decode cX4_sells 44 = .ok (.getfield 47, 3) := by decide +kernel
theorem dX4_sells_47 : decode cX4_sells 47 = .ok (.iload 4, 2) := by decide +kernel
theorem dX4_sells_49 : decode cX4_sells 49 = .ok (.dup2, 1) := by decide +kernel
theorem dX4_sells_50 : decode cX4_sells 50 = .ok (.iaload, 1) := by decide +kernel
theorem dX4_sells_51 : decode cX4_sells 51 = .ok (.iload 5, 2) := by decide +kernel
theorem dX4_sells_53 : decode cX4_sells 53 = .ok (.isub, 1) := by decide +kernel
theorem dX4_sells_54 : decode cX4_sells 54 = .ok (.iastore, 1) := by decide +kernel
theorem dX4_sells_55 : decode cX4_sells 55 = .ok (.iload_n 3, 1) := by decide +kernel
theorem dX4_sells_56 : decode cX4_sells 56 = .ok (.iload 5, 2) := by decide +kernel
theorem dX4_sells_58 : decode cX4_sells 58 = .ok (.isub, 1) := by decide +kernel
theorem dX4_sells_59 : decode cX4_sells 59 = .ok (.istore_n 3, 1) := by decide +kernel
theorem dX4_sells_60 : decode cX4_sells 60 = .ok (.aload_n 0, 1) := by decide +kernel
theorem dX4_sells_61 : decode cX4_sells 61 = .ok (.getfield 50, 3) := by decide +kernel
theorem dX4_sells_64 : decode cX4_sells 64 = .ok (.iload 4, 2) := by decide +kernel
theorem dX4_sells_66 : decode cX4_sells 66 = .ok (.iaload, 1) := by decide +kernel
theorem dX4_sells_67 : decode cX4_sells 67 = .ok (.iconst 1, 1) := by decide +kernel
theorem dX4_sells_68 : decode cX4_sells 68 = .ok (.if_icmp .ne 38, 3) := by decide +kernel
theorem dX4_sells_71 : decode cX4_sells 71 = .ok (.aload_n 0, 1) := by decide +kernel
theorem dX4_sells_72 : decode cX4_sells 72 = .ok (.getfield 96, 3) := by decide +kernel
theorem dX4_sells_75 : decode cX4_sells 75 = .ok (.ifCond .ne 13, 3) := by decide +kernel
theorem dX4_sells_78 : decode cX4_sells 78 = .ok (.aload_n 0, 1) := by decide +kernel
theorem dX4_sells_79 : decode cX4_sells 79 = .ok (.getfield 47, 3) := by decide +kernel
theorem dX4_sells_82 : decode cX4_sells 82 = .ok (.iload 4, 2) := by decide +kernel
theorem dX4_sells_84 : decode cX4_sells 84 = .ok (.iaload, 1) := by decide +kernel
theorem dX4_sells_85 : decode cX4_sells 85 = .ok (.ifCond .ne 21, 3) := by decide +kernel
theorem dX4_sells_88 : decode cX4_sells 88 = .ok (.aload_n 0, 1) := by decide +kernel
theorem dX4_sells_89 : decode cX4_sells 89 = .ok (.getfield 50, 3) := by decide +kernel
theorem dX4_sells_92 : decode cX4_sells 92 = .ok (.iload 4, 2) := by decide +kernel
theorem dX4_sells_94 : decode cX4_sells 94 = .ok (.iconst 0, 1) := by decide +kernel
theorem dX4_sells_95 : decode cX4_sells 95 = .ok (.iastore, 1) := by decide +kernel
theorem dX4_sells_96 : decode cX4_sells 96 = .ok (.aload_n 0, 1) := by decide +kernel
theorem dX4_sells_97 : decode cX4_sells 97 = .ok (.getfield 26, 3) := by decide +kernel
theorem dX4_sells_100 : decode cX4_sells 100 = .ok (.iload_n 2, 1) := by decide +kernel
theorem dX4_sells_101 : decode cX4_sells 101 = .ok (.dup2, 1) := by decide +kernel
theorem dX4_sells_102 : decode cX4_sells 102 = .ok (.iaload, 1) := by decide +kernel
theorem dX4_sells_103 : decode cX4_sells 103 = .ok (.iconst 1, 1) := by decide +kernel
theorem dX4_sells_104 : decode cX4_sells 104 = .ok (.iadd, 1) := by decide +kernel
theorem dX4_sells_105 : decode cX4_sells 105 = .ok (.iastore, 1) := by decide +kernel
theorem dX4_sells_106 : decode cX4_sells 106 = .ok (.aload_n 0, 1) := by decide +kernel
theorem dX4_sells_107 : decode cX4_sells 107 = .ok (.getfield 47, 3) := by decide +kernel
theorem dX4_sells_110 : decode cX4_sells 110 = .ok (.iload 4, 2) := by decide +kernel
theorem dX4_sells_112 : decode cX4_sells 112 = .ok (.iaload, 1) := by decide +kernel
theorem dX4_sells_113 : decode cX4_sells 113 = .ok (.ifCond .ne 8, 3) := by decide +kernel
theorem dX4_sells_116 : decode cX4_sells 116 = .ok (.aload_n 0, 1) := by decide +kernel
theorem dX4_sells_117 : decode cX4_sells 117 = .ok (.iload_n 2, 1) := by decide +kernel
theorem dX4_sells_118 : decode cX4_sells 118 = .ok (.invokevirtual 103, 3) := by decide +kernel
theorem dX4_sells_121 : decode cX4_sells 121 = .ok (.goto (-112), 3) := by decide +kernel
theorem dX4_sells_124 : decode cX4_sells 124 = .ok (.return_, 1) := by decide +kernel
theorem dX4_leavesMarket_0 : decode cX4_leavesMarket 0 = .ok (.aload_n 0, 1) := by decide +kernel
theorem dX4_leavesMarket_1 : decode cX4_leavesMarket 1 = .ok (.getfield 53, 3) := by decide +kernel
theorem dX4_leavesMarket_4 : decode cX4_leavesMarket 4 = .ok (.iload_n 1, 1) := by decide +kernel
theorem dX4_leavesMarket_5 : decode cX4_leavesMarket 5 = .ok (.dup2, 1) := by decide +kernel
theorem dX4_leavesMarket_6 : decode cX4_leavesMarket 6 = .ok (.iaload, 1) := by decide +kernel
theorem dX4_leavesMarket_7 : decode cX4_leavesMarket 7 = .ok (.iconst 1, 1) := by decide +kernel
theorem dX4_leavesMarket_8 : decode cX4_leavesMarket 8 = .ok (.isub, 1) := by decide +kernel
theorem dX4_leavesMarket_9 : decode cX4_leavesMarket 9 = .ok (.iastore, 1) := by decide +kernel
theorem dX4_leavesMarket_10 : decode cX4_leavesMarket 10 = .ok (.bipush 16, 2) := by decide +kernel
theorem dX4_leavesMarket_12 : decode cX4_leavesMarket 12 = .ok (.iload_n 1, 1) := by decide +kernel
theorem dX4_leavesMarket_13 : decode cX4_leavesMarket 13 = .ok (.imul, 1) := by decide +kernel
theorem dX4_leavesMarket_14 : decode cX4_leavesMarket 14 = .ok (.istore_n 2, 1) := by decide +kernel
theorem dX4_leavesMarket_15 : decode cX4_leavesMarket 15 = .ok (.iload_n 2, 1) := by decide +kernel
theorem dX4_leavesMarket_16 : decode cX4_leavesMarket 16 = .ok (.bipush 16, 2) := by decide +kernel
theorem dX4_leavesMarket_18 : decode cX4_leavesMarket 18 = .ok (.iload_n 1, 1) := by decide +kernel
theorem dX4_leavesMarket_19 : decode cX4_leavesMarket 19 = .ok (.imul, 1) := by decide +kernel
theorem dX4_leavesMarket_20 : decode cX4_leavesMarket 20 = .ok (.aload_n 0, 1) := by decide +kernel
theorem dX4_leavesMarket_21 : decode cX4_leavesMarket 21 = .ok (.getfield 53, 3) := by decide +kernel
theorem dX4_leavesMarket_24 : decode cX4_leavesMarket 24 = .ok (.iload_n 1, 1) := by decide +kernel
theorem dX4_leavesMarket_25 : decode cX4_leavesMarket 25 = .ok (.iaload, 1) := by decide +kernel
theorem dX4_leavesMarket_26 : decode cX4_leavesMarket 26 = .ok (.iadd, 1) := by decide +kernel
theorem dX4_leavesMarket_27 : decode cX4_leavesMarket 27 = .ok (.if_icmp .ge 37, 3) := by decide +kernel
theorem dX4_leavesMarket_30 : decode cX4_leavesMarket 30 = .ok (.aload_n 0, 1) := by decide +kernel
theorem dX4_leavesMarket_31 : decode cX4_leavesMarket 31 = .ok (.getfield 47, 3) := by decide +kernel
theorem dX4_leavesMarket_34 : decode cX4_leavesMarket 34 = .ok (.iload_n 2, 1) := by decide +kernel
theorem dX4_leavesMarket_35 : decode cX4_leavesMarket 35 = .ok (.aload_n 0, 1) := by decide +kernel
theorem dX4_leavesMarket_36 : decode cX4_leavesMarket 36 = .ok (.getfield 47, 3) := by decide +kernel
theorem dX4_leavesMarket_39 : decode cX4_leavesMarket 39 = .ok (.iload_n 2, 1) := by decide +kernel
theorem dX4_leavesMarket_40 : decode cX4_leavesMarket 40 = .ok (.iconst 1, 1) := by decide +kernel
theorem dX4_leavesMarket_41 : decode cX4_leavesMarket 41 = .ok (.iadd, 1) := by decide +kernel
theorem dX4_leavesMarket_42 : decode cX4_leavesMarket 42 = .ok (.iaload, 1) := by decide +kernel
theorem dX4_leavesMarket_43 : decode cX4_leavesMarket 43 = .ok (.iastore, 1) := by decide +kernel
theorem dX4_leavesMarket_44 : decode cX4_leavesMarket 44 = .ok (.aload_n 0, 1) := by decide +kernel
theorem dX4_leavesMarket_45 : decode cX4_leavesMarket 45 = .ok (.getfield 50, 3) := by decide +kernel
theorem dX4_leavesMarket_48 : decode cX4_leavesMarket 48 = .ok (.iload_n 2, 1) := by decide +kernel
theorem dX4_leavesMarket_49 : decode cX4_leavesMarket 49 = .ok (.aload_n 0, 1) := by decide +kernel
theorem dX4_leavesMarket_50 : decode cX4_leavesMarket 50 = .ok (.getfield 50, 3) := by decide +kernel
theorem dX4_leavesMarket_53 : decode cX4_leavesMarket 53 = .ok (.iload_n 2, 1) := by decide +kernel
theorem dX4_leavesMarket_54 : decode cX4_leavesMarket 54 = .ok (.iconst 1, 1) := by decide +kernel
theorem dX4_leavesMarket_55 : decode cX4_leavesMarket 55 = .ok (.iadd, 1) := by decide +kernel
theorem dX4_leavesMarket_56 : decode cX4_leavesMarket 56 = .ok (.iaload, 1) := by decide +kernel
theorem dX4_leavesMarket_57 : decode cX4_leavesMarket 57 = .ok (.iastore, 1) := by decide +kernel
theorem dX4_leavesMarket_58 : decode cX4_leavesMarket 58 = .ok (.iinc 2 1, 3) := by decide +kernel
theorem dX4_leavesMarket_61 : decode cX4_leavesMarket 61 = .ok (.goto (-46), 3) := by decide +kernel
theorem dX4_leavesMarket_64 : decode cX4_leavesMarket 64 = .ok (.return_, 1) := by decide +kernel
theorem dX4_uses_0 : decode cX4_uses 0 = .ok (.iload_n 2, 1) := by decide +kernel
theorem dX4_uses_1 : decode cX4_uses 1 = .ok (.istore_n 3, 1) := by decide +kernel
theorem dX4_uses_2 : decode cX4_uses 2 = .ok (.iload_n 3, 1) := by decide +kernel
theorem dX4_uses_3 : decode cX4_uses 3 = .ok (.ifCond .le 175, 3) := by decide +kernel
theorem dX4_uses_6 : decode cX4_uses 6 = .ok (.bipush 16, 2) := by decide +kernel
theorem dX4_uses_8 : decode cX4_uses 8 = .ok (.iload_n 1, 1) := by decide +kernel
theorem dX4_uses_9 : decode cX4_uses 9 = .ok (.imul, 1) := by decide +kernel
theorem dX4_uses_10 : decode cX4_uses 10 = .ok (.istore 4, 2) := by decide +kernel
theorem dX4_uses_12 : decode cX4_uses 12 = .ok (.aload_n 0, 1) := by decide +kernel
theorem dX4_uses_13 : decode cX4_uses 13 = .ok (.getfield 56, 3) := by decide +kernel
theorem dX4_uses_16 : decode cX4_uses 16 = .ok (.iload 4, 2) := by decide +kernel
theorem dX4_uses_18 : decode cX4_uses 18 = .ok (.iaload, 1) := by decide +kernel
theorem dX4_uses_19 : decode cX4_uses 19 = .ok (.iload_n 3, 1) := by decide +kernel
theorem dX4_uses_20 : decode cX4_uses 20 = .ok (.if_icmp .ge 13, 3) := by decide +kernel
theorem dX4_uses_23 : decode cX4_uses 23 = .ok (.aload_n 0, 1) := by decide +kernel
theorem dX4_uses_24 : decode cX4_uses 24 = .ok (.getfield 56, 3) := by decide +kernel
theorem dX4_uses_27 : decode cX4_uses 27 = .ok (.iload 4, 2) := by decide +kernel
theorem dX4_uses_29 : decode cX4_uses 29 = .ok (.iaload, 1) := by decide +kernel
theorem dX4_uses_30 : decode cX4_uses 30 = .ok (.goto 4, 3) := by decide +kernel
theorem dX4_uses_33 : decode cX4_uses 33 = .ok (.iload_n 3, 1) := by decide +kernel
theorem dX4_uses_34 : decode cX4_uses 34 = .ok (.istore 5, 2) := by decide +kernel
theorem dX4_uses_36 : decode cX4_uses 36 = .ok (.aload_n 0, 1) := by decide +kernel
theorem dX4_uses_37 : decode cX4_uses 37 = .ok (.getfield 56, 3) := by decide +kernel
theorem dX4_uses_40 : decode cX4_uses 40 = .ok (.iload 4, 2) := by decide +kernel
theorem dX4_uses_42 : decode cX4_uses 42 = .ok (.dup2, 1) := by decide +kernel
theorem dX4_uses_43 : decode cX4_uses 43 = .ok (.iaload, 1) := by decide +kernel
theorem dX4_uses_44 : decode cX4_uses 44 = .ok (.iload 5, 2) := by decide +kernel
theorem dX4_uses_46 : decode cX4_uses 46 = .ok (.isub, 1) := by decide +kernel
theorem dX4_uses_47 : decode cX4_uses 47 = .ok (.iastore, 1) := by decide +kernel
theorem dX4_uses_48 : decode cX4_uses 48 = .ok (.iload_n 3, 1) := by decide +kernel
theorem dX4_uses_49 : decode cX4_uses 49 = .ok (.iload 5, 2) := by decide +kernel
theorem dX4_uses_51 : decode cX4_uses 51 = .ok (.isub, 1) := by decide +kernel
theorem dX4_uses_52 : decode cX4_uses 52 = .ok (.istore_n 3, 1) := by decide +kernel
theorem dX4_uses_53 : decode cX4_uses 53 = .ok (.aload_n 0, 1) := by decide +kernel
theorem dX4_uses_54 : decode cX4_uses 54 = .ok (.getfield 59, 3) := by decide +kernel
theorem dX4_uses_57 : decode cX4_uses 57 = .ok (.iload 4, 2) := by decide +kernel
theorem dX4_uses_59 : decode cX4_uses 59 = .ok (.iaload, 1) := by decide +kernel
theorem dX4_uses_60 : decode cX4_uses 60 = .ok (.iconst 1, 1) := by decide +kernel
theorem dX4_uses_61 : decode cX4_uses 61 = .ok (.if_icmp .ne 38, 3) := by decide +kernel
theorem dX4_uses_64 : decode cX4_uses 64 = .ok (.aload_n 0, 1) := by decide +kernel
theorem dX4_uses_65 : decode cX4_uses 65 = .ok (.getfield 96, 3) := by decide +kernel
theorem dX4_uses_68 : decode cX4_uses 68 = .ok (.ifCond .ne 13, 3) := by decide +kernel
theorem dX4_uses_71 : decode cX4_uses 71 = .ok (.aload_n 0, 1) := by decide +kernel
theorem dX4_uses_72 : decode cX4_uses 72 = .ok (.getfield 56, 3) := by decide +kernel
theorem dX4_uses_75 : decode cX4_uses 75 = .ok (.iload 4, 2) := by decide +kernel
theorem dX4_uses_77 : decode cX4_uses 77 = .ok (.iaload, 1) := by decide +kernel
theorem dX4_uses_78 : decode cX4_uses 78 = .ok (.ifCond .ne 21, 3) := by decide +kernel
theorem dX4_uses_81 : decode cX4_uses 81 = .ok (.aload_n 0, 1) := by decide +kernel
theorem dX4_uses_82 : decode cX4_uses 82 = .ok (.getfield 59, 3) := by decide +kernel
theorem dX4_uses_85 : decode cX4_uses 85 = .ok (.iload 4, 2) := by decide +kernel
theorem dX4_uses_87 : decode cX4_uses 87 = .ok (.iconst 0, 1) := by decide +kernel
theorem dX4_uses_88 : decode cX4_uses 88 = .ok (.iastore, 1) := by decide +kernel
theorem dX4_uses_89 : decode cX4_uses 89 = .ok (.aload_n 0, 1) := by decide +kernel
theorem dX4_uses_90 : decode cX4_uses 90 = .ok (.getfield 44, 3) := by decide +kernel
theorem dX4_uses_93 : decode cX4_uses 93 = .ok (.iload_n 1, 1) := by decide +kernel
theorem dX4_uses_94 : decode cX4_uses 94 = .ok (.dup2, 1) := by decide +kernel
theorem dX4_uses_95 : decode cX4_uses 95 = .ok (.iaload, 1) := by decide +kernel
theorem dX4_uses_96 : decode cX4_uses 96 = .ok (.iconst 1, 1) := by decide +kernel
theorem dX4_uses_97 : decode cX4_uses 97 = .ok (.iadd, 1) := by decide +kernel
theorem dX4_uses_98 : decode cX4_uses 98 = .ok (.iastore, 1) := by decide +kernel
theorem dX4_uses_99 : decode cX4_uses 99 = .ok (.aload_n 0, 1) := by decide +kernel
theorem dX4_uses_100 : decode cX4_uses 100 = .ok (.getfield 56, 3) := by decide +kernel
theorem dX4_uses_103 : decode cX4_uses 103 = .ok (.iload 4, 2) := by decide +kernel
theorem dX4_uses_105 : decode cX4_uses 105 = .ok (.iaload, 1) := by decide +kernel
theorem dX4_uses_106 : decode cX4_uses 106 = .ok (.ifCond .ne 69, 3) := by decide +kernel
theorem dX4_uses_109 : decode cX4_uses 109 = .ok (.aload_n 0, 1) := by decide +kernel
theorem dX4_uses_110 : decode cX4_uses 110 = .ok (.getfield 62, 3) := by decide +kernel
theorem dX4_uses_113 : decode cX4_uses 113 = .ok (.iload_n 1, 1) := by decide +kernel
theorem dX4_uses_114 : decode cX4_uses 114 = .ok (.dup2, 1) := by decide +kernel
theorem dX4_uses_115 : decode cX4_uses 115 = .ok (.iaload, 1) := by decide +kernel
theorem dX4_uses_116 : decode cX4_uses 116 = .ok (.iconst 1, 1) := by decide +kernel
theorem dX4_uses_117 : decode cX4_uses 117 = .ok (.isub, 1) := by decide +kernel
theorem dX4_uses_118 : decode cX4_uses 118 = .ok (.iastore, 1) := by decide +kernel
theorem dX4_uses_119 : decode cX4_uses 119 = .ok (.iload 4, 2) := by decide +kernel
theorem dX4_uses_121 : decode cX4_uses 121 = .ok (.istore 6, 2) := by decide +kernel
theorem dX4_uses_123 : decode cX4_uses 123 = .ok (.iload 6, 2) := by decide +kernel
theorem dX4_uses_125 : decode cX4_uses 125 = .ok (.iload 4, 2) := by decide +kernel
theorem dX4_uses_127 : decode cX4_uses 127 = .ok (.aload_n 0, 1) := by decide +kernel
theorem dX4_uses_128 : decode cX4_uses 128 = .ok (.getfield 62, 3) := by decide +kernel
theorem dX4_uses_131 : decode cX4_uses 131 = .ok (.iload_n 1, 1) := by decide +kernel
theorem dX4_uses_132 : decode cX4_uses 132 = .ok (.iaload, 1) := by decide +kernel
theorem dX4_uses_133 : decode cX4_uses 133 = .ok (.iadd, 1) := by decide +kernel
theorem dX4_uses_134 : decode cX4_uses 134 = .ok (.if_icmp .ge 41, 3) := by decide +kernel
theorem dX4_uses_137 : decode cX4_uses 137 = .ok (.aload_n 0, 1) := by decide +kernel
theorem dX4_uses_138 : decode cX4_uses 138 = .ok (.getfield 56, 3) := by decide +kernel
theorem dX4_uses_141 : decode cX4_uses 141 = .ok (.iload 6, 2) := by decide +kernel
theorem dX4_uses_143 : decode cX4_uses 143 = .ok (.aload_n 0, 1) := by decide +kernel
theorem dX4_uses_144 : decode cX4_uses 144 = .ok (.getfield 56, 3) := by decide +kernel
theorem dX4_uses_147 : decode cX4_uses 147 = .ok (.iload 6, 2) := by decide +kernel
theorem dX4_uses_149 : decode cX4_uses 149 = .ok (.iconst 1, 1) := by decide +kernel
theorem dX4_uses_150 : decode cX4_uses 150 = .ok (.iadd, 1) := by decide +kernel
theorem dX4_uses_151 : decode cX4_uses 151 = .ok (.iaload, 1) := by decide +kernel
theorem dX4_uses_152 : decode cX4_uses 152 = .ok (.iastore, 1) := by decide +kernel
theorem dX4_uses_153 : decode cX4_uses 153 = .ok (.aload_n 0, 1) := by decide +kernel
theorem dX4_uses_154 : decode cX4_uses 154 = .ok (.getfield 59, 3) := by decide +kernel
theorem dX4_uses_157 : decode cX4_uses 157 = .ok (.iload 6, 2) := by decide +kernel
theorem dX4_uses_159 : decode cX4_uses 159 = .ok (.aload_n 0, 1) := by decide +kernel
theorem dX4_uses_160 : decode cX4_uses 160 = .ok (.getfield 59, 3) := by decide +kernel
theorem dX4_uses_163 : decode cX4_uses 163 = .ok (.iload 6, 2) := by decide +kernel
theorem dX4_uses_165 : decode cX4_uses 165 = .ok (.iconst 1, 1) := by decide +kernel
theorem dX4_uses_166 : decode cX4_uses 166 = .ok (.iadd, 1) := by decide +kernel
theorem dX4_uses_167 : decode cX4_uses 167 = .ok (.iaload, 1) := by decide +kernel
theorem dX4_uses_168 : decode cX4_uses 168 = .ok (.iastore, 1) := by decide +kernel
theorem dX4_uses_169 : decode cX4_uses 169 = .ok (.iinc 6 1, 3) := by decide +kernel
theorem dX4_uses_172 : decode cX4_uses 172 = .ok (.goto (-49), 3) := by decide +kernel
theorem dX4_uses_175 : decode cX4_uses 175 = .ok (.goto (-173), 3) := by decide +kernel
theorem dX4_uses_178 : decode cX4_uses 178 = .ok (.return_, 1) := by decide +kernel
theorem dX4_marketOf_0 : decode cX4_marketOf 0 = .ok (.iconst 0, 1) := by decide +kernel
theorem dX4_marketOf_1 : decode cX4_marketOf 1 = .ok (.istore_n 2, 1) := by decide +kernel
theorem dX4_marketOf_2 : decode cX4_marketOf 2 = .ok (.iconst 0, 1) := by decide +kernel
theorem dX4_marketOf_3 : decode cX4_marketOf 3 = .ok (.istore_n 3, 1) := by decide +kernel
theorem dX4_marketOf_4 : decode cX4_marketOf 4 = .ok (.iload_n 3, 1) := by decide +kernel
theorem dX4_marketOf_5 : decode cX4_marketOf 5 = .ok (.aload_n 0, 1) := by decide +kernel
theorem dX4_marketOf_6 : decode cX4_marketOf 6 = .ok (.getfield 53, 3) := by decide +kernel
theorem dX4_marketOf_9 : decode cX4_marketOf 9 = .ok (.iload_n 1, 1) := by decide +kernel
theorem dX4_marketOf_10 : decode cX4_marketOf 10 = .ok (.iaload, 1) := by decide +kernel
theorem dX4_marketOf_11 : decode cX4_marketOf 11 = .ok (.if_icmp .ge 23, 3) := by decide +kernel
theorem dX4_marketOf_14 : decode cX4_marketOf 14 = .ok (.iload_n 2, 1) := by decide +kernel
theorem dX4_marketOf_15 : decode cX4_marketOf 15 = .ok (.aload_n 0, 1) := by decide +kernel
theorem dX4_marketOf_16 : decode cX4_marketOf 16 = .ok (.getfield 47, 3) := by decide +kernel
theorem dX4_marketOf_19 : decode cX4_marketOf 19 = .ok (.bipush 16, 2) := by decide +kernel
theorem dX4_marketOf_21 : decode cX4_marketOf 21 = .ok (.iload_n 1, 1) := by decide +kernel
theorem dX4_marketOf_22 : decode cX4_marketOf 22 = .ok (.imul, 1) := by decide +kernel
theorem dX4_marketOf_23 : decode cX4_marketOf 23 = .ok (.iload_n 3, 1) := by decide +kernel
theorem dX4_marketOf_24 : decode cX4_marketOf 24 = .ok (.iadd, 1) := by decide +kernel
theorem dX4_marketOf_25 : decode cX4_marketOf 25 = .ok (.iaload, 1) := by decide +kernel
theorem dX4_marketOf_26 : decode cX4_marketOf 26 = .ok (.iadd, 1) := by decide +kernel
theorem dX4_marketOf_27 : decode cX4_marketOf 27 = .ok (.istore_n 2, 1) := by decide +kernel
theorem dX4_marketOf_28 : decode cX4_marketOf 28 = .ok (.iinc 3 1, 3) := by decide +kernel
theorem dX4_marketOf_31 : decode cX4_marketOf 31 = .ok (.goto (-27), 3) := by decide +kernel
theorem dX4_marketOf_34 : decode cX4_marketOf 34 = .ok (.iload_n 2, 1) := by decide +kernel
theorem dX4_marketOf_35 : decode cX4_marketOf 35 = .ok (.ireturn, 1) := by decide +kernel
theorem dX4_inboxOf_0 : decode cX4_inboxOf 0 = .ok (.iconst 0, 1) := by decide +kernel
theorem dX4_inboxOf_1 : decode cX4_inboxOf 1 = .ok (.istore_n 2, 1) := by decide +kernel
theorem dX4_inboxOf_2 : decode cX4_inboxOf 2 = .ok (.iconst 0, 1) := by decide +kernel
theorem dX4_inboxOf_3 : decode cX4_inboxOf 3 = .ok (.istore_n 3, 1) := by decide +kernel
theorem dX4_inboxOf_4 : decode cX4_inboxOf 4 = .ok (.iload_n 3, 1) := by decide +kernel
theorem dX4_inboxOf_5 : decode cX4_inboxOf 5 = .ok (.aload_n 0, 1) := by decide +kernel
theorem dX4_inboxOf_6 : decode cX4_inboxOf 6 = .ok (.getfield 62, 3) := by decide +kernel
theorem dX4_inboxOf_9 : decode cX4_inboxOf 9 = .ok (.iload_n 1, 1) := by decide +kernel
theorem dX4_inboxOf_10 : decode cX4_inboxOf 10 = .ok (.iaload, 1) := by decide +kernel
theorem dX4_inboxOf_11 : decode cX4_inboxOf 11 = .ok (.if_icmp .ge 23, 3) := by decide +kernel
theorem dX4_inboxOf_14 : decode cX4_inboxOf 14 = .ok (.iload_n 2, 1) := by decide +kernel
theorem dX4_inboxOf_15 : decode cX4_inboxOf 15 = .ok (.aload_n 0, 1) := by decide +kernel
theorem dX4_inboxOf_16 : decode cX4_inboxOf 16 = .ok (.getfield 56, 3) := by decide +kernel
theorem dX4_inboxOf_19 : decode cX4_inboxOf 19 = .ok (.bipush 16, 2) := by decide +kernel
theorem dX4_inboxOf_21 : decode cX4_inboxOf 21 = .ok (.iload_n 1, 1) := by decide +kernel
theorem dX4_inboxOf_22 : decode cX4_inboxOf 22 = .ok (.imul, 1) := by decide +kernel
theorem dX4_inboxOf_23 : decode cX4_inboxOf 23 = .ok (.iload_n 3, 1) := by decide +kernel
theorem dX4_inboxOf_24 : decode cX4_inboxOf 24 = .ok (.iadd, 1) := by decide +kernel
theorem dX4_inboxOf_25 : decode cX4_inboxOf 25 = .ok (.iaload, 1) := by decide +kernel
theorem dX4_inboxOf_26 : decode cX4_inboxOf 26 = .ok (.iadd, 1) := by decide +kernel
theorem dX4_inboxOf_27 : decode cX4_inboxOf 27 = .ok (.istore_n 2, 1) := by decide +kernel
theorem dX4_inboxOf_28 : decode cX4_inboxOf 28 = .ok (.iinc 3 1, 3) := by decide +kernel
theorem dX4_inboxOf_31 : decode cX4_inboxOf 31 = .ok (.goto (-27), 3) := by decide +kernel
theorem dX4_inboxOf_34 : decode cX4_inboxOf 34 = .ok (.iload_n 2, 1) := by decide +kernel
theorem dX4_inboxOf_35 : decode cX4_inboxOf 35 = .ok (.ireturn, 1) := by decide +kernel
theorem dX4_works_0 : decode cX4_works 0 = .ok (.aload_n 0, 1) := by decide +kernel
theorem dX4_works_1 : decode cX4_works 1 = .ok (.getfield 29, 3) := by decide +kernel
theorem dX4_works_4 : decode cX4_works 4 = .ok (.iload_n 1, 1) := by decide +kernel
theorem dX4_works_5 : decode cX4_works 5 = .ok (.iaload, 1) := by decide +kernel
theorem dX4_works_6 : decode cX4_works 6 = .ok (.ifCond .le 33, 3) := by decide +kernel
theorem dX4_works_9 : decode cX4_works 9 = .ok (.aload_n 0, 1) := by decide +kernel
theorem dX4_works_10 : decode cX4_works 10 = .ok (.getfield 29, 3) := by decide +kernel
theorem dX4_works_13 : decode cX4_works 13 = .ok (.iload_n 1, 1) := by decide +kernel
theorem dX4_works_14 : decode cX4_works 14 = .ok (.dup2, 1) := by decide +kernel
theorem dX4_works_15 : decode cX4_works 15 = .ok (.iaload, 1) := by decide +kernel
theorem dX4_works_16 : decode cX4_works 16 = .ok (.iconst 1, 1) := by decide +kernel
theorem dX4_works_17 : decode cX4_works 17 = .ok (.isub, 1) := by decide +kernel
theorem dX4_works_18 : decode cX4_works 18 = .ok (.iastore, 1) := by decide +kernel
theorem dX4_works_19 : decode cX4_works 19 = .ok (.aload_n 0, 1) := by decide +kernel
theorem dX4_works_20 : decode cX4_works 20 = .ok (.getfield 29, 3) := by decide +kernel
theorem dX4_works_23 : decode cX4_works 23 = .ok (.iload_n 1, 1) := by decide +kernel
theorem dX4_works_24 : decode cX4_works 24 = .ok (.iaload, 1) := by decide +kernel
theorem dX4_works_25 : decode cX4_works 25 = .ok (.ifCond .ne 14, 3) := by decide +kernel
theorem dX4_works_28 : decode cX4_works 28 = .ok (.aload_n 0, 1) := by decide +kernel
theorem dX4_works_29 : decode cX4_works 29 = .ok (.iload_n 1, 1) := by decide +kernel
theorem dX4_works_30 : decode cX4_works 30 = .ok (.aload_n 0, 1) := by decide +kernel
theorem dX4_works_31 : decode cX4_works 31 = .ok (.getfield 13, 3) := by decide +kernel
theorem dX4_works_34 : decode cX4_works 34 = .ok (.iload_n 1, 1) := by decide +kernel
theorem dX4_works_35 : decode cX4_works 35 = .ok (.iaload, 1) := by decide +kernel
theorem dX4_works_36 : decode cX4_works 36 = .ok (.invokevirtual 85, 3) := by decide +kernel
theorem dX4_works_39 : decode cX4_works 39 = .ok (.aload_n 0, 1) := by decide +kernel
theorem dX4_works_40 : decode cX4_works 40 = .ok (.getfield 29, 3) := by decide +kernel
theorem dX4_works_43 : decode cX4_works 43 = .ok (.iload_n 1, 1) := by decide +kernel
theorem dX4_works_44 : decode cX4_works 44 = .ok (.iaload, 1) := by decide +kernel
theorem dX4_works_45 : decode cX4_works 45 = .ok (.ifCond .le 4, 3) := by decide +kernel
theorem dX4_works_48 : decode cX4_works 48 = .ok (.return_, 1) := by decide +kernel
theorem dX4_works_49 : decode cX4_works 49 = .ok (.aload_n 0, 1) := by decide +kernel
theorem dX4_works_50 : decode cX4_works 50 = .ok (.getfield 32, 3) := by decide +kernel
theorem dX4_works_53 : decode cX4_works 53 = .ok (.iload_n 1, 1) := by decide +kernel
theorem dX4_works_54 : decode cX4_works 54 = .ok (.iaload, 1) := by decide +kernel
theorem dX4_works_55 : decode cX4_works 55 = .ok (.ifCond .ne 30, 3) := by decide +kernel
theorem dX4_works_58 : decode cX4_works 58 = .ok (.aload_n 0, 1) := by decide +kernel
theorem dX4_works_59 : decode cX4_works 59 = .ok (.getfield 26, 3) := by decide +kernel
theorem dX4_works_62 : decode cX4_works 62 = .ok (.iload_n 1, 1) := by decide +kernel
theorem dX4_works_63 : decode cX4_works 63 = .ok (.iaload, 1) := by decide +kernel
theorem dX4_works_64 : decode cX4_works 64 = .ok (.aload_n 0, 1) := by decide +kernel
theorem dX4_works_65 : decode cX4_works 65 = .ok (.getfield 19, 3) := by decide +kernel
theorem dX4_works_68 : decode cX4_works 68 = .ok (.iload_n 1, 1) := by decide +kernel
theorem dX4_works_69 : decode cX4_works 69 = .ok (.iaload, 1) := by decide +kernel
theorem dX4_works_70 : decode cX4_works 70 = .ok (.if_icmp .lt 15, 3) := by decide +kernel
theorem dX4_works_73 : decode cX4_works 73 = .ok (.aload_n 0, 1) := by decide +kernel
theorem dX4_works_74 : decode cX4_works 74 = .ok (.getfield 32, 3) := by decide +kernel
theorem dX4_works_77 : decode cX4_works 77 = .ok (.iload_n 1, 1) := by decide +kernel
theorem dX4_works_78 : decode cX4_works 78 = .ok (.aload_n 0, 1) := by decide +kernel
theorem dX4_works_79 : decode cX4_works 79 = .ok (.getfield 26, 3) := by decide +kernel
theorem dX4_works_82 : decode cX4_works 82 = .ok (.iload_n 1, 1) := by decide +kernel
theorem dX4_works_83 : decode cX4_works 83 = .ok (.iaload, 1) := by decide +kernel
theorem dX4_works_84 : decode cX4_works 84 = .ok (.iastore, 1) := by decide +kernel
theorem dX4_works_85 : decode cX4_works 85 = .ok (.aload_n 0, 1) := by decide +kernel
theorem dX4_works_86 : decode cX4_works 86 = .ok (.getfield 32, 3) := by decide +kernel
theorem dX4_works_89 : decode cX4_works 89 = .ok (.iload_n 1, 1) := by decide +kernel
theorem dX4_works_90 : decode cX4_works 90 = .ok (.iaload, 1) := by decide +kernel
theorem dX4_works_91 : decode cX4_works 91 = .ok (.ifCond .ne 4, 3) := by decide +kernel
theorem dX4_works_94 : decode cX4_works 94 = .ok (.return_, 1) := by decide +kernel
theorem dX4_works_95 : decode cX4_works 95 = .ok (.iload_n 1, 1) := by decide +kernel
theorem dX4_works_96 : decode cX4_works 96 = .ok (.ifCond .le 28, 3) := by decide +kernel
theorem dX4_works_99 : decode cX4_works 99 = .ok (.aload_n 0, 1) := by decide +kernel
theorem dX4_works_100 : decode cX4_works 100 = .ok (.iload_n 1, 1) := by decide +kernel
theorem dX4_works_101 : decode cX4_works 101 = .ok (.invokevirtual 107, 3) := by decide +kernel
theorem dX4_works_104 : decode cX4_works 104 = .ok (.aload_n 0, 1) := by decide +kernel
theorem dX4_works_105 : decode cX4_works 105 = .ok (.getfield 13, 3) := by decide +kernel
theorem dX4_works_108 : decode cX4_works 108 = .ok (.iload_n 1, 1) := by decide +kernel
theorem dX4_works_109 : decode cX4_works 109 = .ok (.iaload, 1) := by decide +kernel
theorem dX4_works_110 : decode cX4_works 110 = .ok (.if_icmp .ge 14, 3) := by decide +kernel
theorem dX4_works_113 : decode cX4_works 113 = .ok (.aload_n 0, 1) := by decide +kernel
theorem dX4_works_114 : decode cX4_works 114 = .ok (.getfield 35, 3) := by decide +kernel
theorem dX4_works_117 : decode cX4_works 117 = .ok (.iload_n 1, 1) := by decide +kernel
theorem dX4_works_118 : decode cX4_works 118 = .ok (.dup2, 1) := by decide +kernel
theorem dX4_works_119 : decode cX4_works 119 = .ok (.iaload, 1) := by decide +kernel
theorem dX4_works_120 : decode cX4_works 120 = .ok (.iconst 1, 1) := by decide +kernel
theorem dX4_works_121 : decode cX4_works 121 = .ok (.iadd, 1) := by decide +kernel
theorem dX4_works_122 : decode cX4_works 122 = .ok (.iastore, 1) := by decide +kernel
theorem dX4_works_123 : decode cX4_works 123 = .ok (.return_, 1) := by decide +kernel
theorem dX4_works_124 : decode cX4_works 124 = .ok (.iload_n 1, 1) := by decide +kernel
theorem dX4_works_125 : decode cX4_works 125 = .ok (.ifCond .le 17, 3) := by decide +kernel
theorem dX4_works_128 : decode cX4_works 128 = .ok (.aload_n 0, 1) := by decide +kernel
theorem dX4_works_129 : decode cX4_works 129 = .ok (.iload_n 1, 1) := by decide +kernel
theorem dX4_works_130 : decode cX4_works 130 = .ok (.aload_n 0, 1) := by decide +kernel
theorem dX4_works_131 : decode cX4_works 131 = .ok (.getfield 13, 3) := by decide +kernel
theorem dX4_works_134 : decode cX4_works 134 = .ok (.iload_n 1, 1) := by decide +kernel
theorem dX4_works_135 : decode cX4_works 135 = .ok (.iaload, 1) := by decide +kernel
theorem dX4_works_136 : decode cX4_works 136 = .ok (.invokevirtual 111, 3) := by decide +kernel
theorem dX4_works_139 : decode cX4_works 139 = .ok (.goto 18, 3) := by decide +kernel
theorem dX4_works_142 : decode cX4_works 142 = .ok (.aload_n 0, 1) := by decide +kernel
theorem dX4_works_143 : decode cX4_works 143 = .ok (.dup, 1) := by decide +kernel
theorem dX4_works_144 : decode cX4_works 144 = .ok (.getfield 89, 3) := by decide +kernel
theorem dX4_works_147 : decode cX4_works 147 = .ok (.aload_n 0, 1) := by decide +kernel
theorem dX4_works_148 : decode cX4_works 148 = .ok (.getfield 13, 3) := by decide +kernel
theorem dX4_works_151 : decode cX4_works 151 = .ok (.iload_n 1, 1) := by decide +kernel
theorem dX4_works_152 : decode cX4_works 152 = .ok (.iaload, 1) := by decide +kernel
theorem dX4_works_153 : decode cX4_works 153 = .ok (.iadd, 1) := by decide +kernel
theorem dX4_works_154 : decode cX4_works 154 = .ok (.putfield 89, 3) := by decide +kernel
theorem dX4_works_157 : decode cX4_works 157 = .ok (.aload_n 0, 1) := by decide +kernel
theorem dX4_works_158 : decode cX4_works 158 = .ok (.getfield 26, 3) := by decide +kernel
theorem dX4_works_161 : decode cX4_works 161 = .ok (.iload_n 1, 1) := by decide +kernel
theorem dX4_works_162 : decode cX4_works 162 = .ok (.dup2, 1) := by decide +kernel
theorem dX4_works_163 : decode cX4_works 163 = .ok (.iaload, 1) := by decide +kernel
theorem dX4_works_164 : decode cX4_works 164 = .ok (.iconst 1, 1) := by decide +kernel
theorem dX4_works_165 : decode cX4_works 165 = .ok (.isub, 1) := by decide +kernel
theorem dX4_works_166 : decode cX4_works 166 = .ok (.iastore, 1) := by decide +kernel
theorem dX4_works_167 : decode cX4_works 167 = .ok (.aload_n 0, 1) := by decide +kernel
theorem dX4_works_168 : decode cX4_works 168 = .ok (.getfield 32, 3) := by decide +kernel
theorem dX4_works_171 : decode cX4_works 171 = .ok (.iload_n 1, 1) := by decide +kernel
theorem dX4_works_172 : decode cX4_works 172 = .ok (.dup2, 1) := by decide +kernel
theorem dX4_works_173 : decode cX4_works 173 = .ok (.iaload, 1) := by decide +kernel
theorem dX4_works_174 : decode cX4_works 174 = .ok (.iconst 1, 1) := by decide +kernel
theorem dX4_works_175 : decode cX4_works 175 = .ok (.isub, 1) := by decide +kernel
theorem dX4_works_176 : decode cX4_works 176 = .ok (.iastore, 1) := by decide +kernel
theorem dX4_works_177 : decode cX4_works 177 = .ok (.aload_n 0, 1) := by decide +kernel
theorem dX4_works_178 : decode cX4_works 178 = .ok (.getfield 29, 3) := by decide +kernel
theorem dX4_works_181 : decode cX4_works 181 = .ok (.iload_n 1, 1) := by decide +kernel
theorem dX4_works_182 : decode cX4_works 182 = .ok (.aload_n 0, 1) := by decide +kernel
theorem dX4_works_183 : decode cX4_works 183 = .ok (.getfield 16, 3) := by decide +kernel
theorem dX4_works_186 : decode cX4_works 186 = .ok (.iload_n 1, 1) := by decide +kernel
theorem dX4_works_187 : decode cX4_works 187 = .ok (.iaload, 1) := by decide +kernel
theorem dX4_works_188 : decode cX4_works 188 = .ok (.iastore, 1) := by decide +kernel
theorem dX4_works_189 : decode cX4_works 189 = .ok (.return_, 1) := by decide +kernel
theorem dX4_conveys_0 : decode cX4_conveys 0 = .ok (.iconst 0, 1) := by decide +kernel
theorem dX4_conveys_1 : decode cX4_conveys 1 = .ok (.istore_n 2, 1) := by decide +kernel
theorem dX4_conveys_2 : decode cX4_conveys 2 = .ok (.iconst 0, 1) := by decide +kernel
theorem dX4_conveys_3 : decode cX4_conveys 3 = .ok (.istore_n 3, 1) := by decide +kernel
theorem dX4_conveys_4 : decode cX4_conveys 4 = .ok (.iload_n 3, 1) := by decide +kernel
theorem dX4_conveys_5 : decode cX4_conveys 5 = .ok (.aload_n 0, 1) := by decide +kernel
theorem dX4_conveys_6 : decode cX4_conveys 6 = .ok (.getfield 71, 3) := by decide +kernel
theorem dX4_conveys_9 : decode cX4_conveys 9 = .ok (.iload_n 1, 1) := by decide +kernel
theorem dX4_conveys_10 : decode cX4_conveys 10 = .ok (.iaload, 1) := by decide +kernel
theorem dX4_conveys_11 : decode cX4_conveys 11 = .ok (.if_icmp .ge 81, 3) := by decide +kernel
theorem dX4_conveys_14 : decode cX4_conveys 14 = .ok (.aload_n 0, 1) := by decide +kernel
theorem dX4_conveys_15 : decode cX4_conveys 15 = .ok (.getfield 65, 3) := by decide +kernel
theorem dX4_conveys_18 : decode cX4_conveys 18 = .ok (.bipush 16, 2) := by decide +kernel
theorem dX4_conveys_20 : decode cX4_conveys 20 = .ok (.iload_n 1, 1) := by decide +kernel
theorem dX4_conveys_21 : decode cX4_conveys 21 = .ok (.imul, 1) := by decide +kernel
theorem dX4_conveys_22 : decode cX4_conveys 22 = .ok (.iload_n 3, 1) := by decide +kernel
theorem dX4_conveys_23 : decode cX4_conveys 23 = .ok (.iadd, 1) := by decide +kernel
theorem dX4_conveys_24 : decode cX4_conveys 24 = .ok (.iaload, 1) := by decide +kernel
theorem dX4_conveys_25 : decode cX4_conveys 25 = .ok (.istore 4, 2) := by decide +kernel
theorem dX4_conveys_27 : decode cX4_conveys 27 = .ok (.aload_n 0, 1) := by decide +kernel
theorem dX4_conveys_28 : decode cX4_conveys 28 = .ok (.getfield 68, 3) := by decide +kernel
theorem dX4_conveys_31 : decode cX4_conveys 31 = .ok (.bipush 16, 2) := by decide +kernel
theorem dX4_conveys_33 : decode cX4_conveys 33 = .ok (.iload_n 1, 1) := by decide +kernel
theorem dX4_conveys_34 : decode cX4_conveys 34 = .ok (.imul, 1) := by decide +kernel
theorem dX4_conveys_35 : decode cX4_conveys 35 = .ok (.iload_n 3, 1) := by decide +kernel
theorem dX4_conveys_36 : decode cX4_conveys 36 = .ok (.iadd, 1) := by decide +kernel
theorem dX4_conveys_37 : decode cX4_conveys 37 = .ok (.iaload, 1) := by decide +kernel
theorem dX4_conveys_38 : decode cX4_conveys 38 = .ok (.iconst 1, 1) := by decide +kernel
theorem dX4_conveys_39 : decode cX4_conveys 39 = .ok (.isub, 1) := by decide +kernel
theorem dX4_conveys_40 : decode cX4_conveys 40 = .ok (.istore 5, 2) := by decide +kernel
theorem dX4_conveys_42 : decode cX4_conveys 42 = .ok (.iload 5, 2) := by decide +kernel
theorem dX4_conveys_44 : decode cX4_conveys 44 = .ok (.ifCond .ne 13, 3) := by decide +kernel
theorem dX4_conveys_47 : decode cX4_conveys 47 = .ok (.aload_n 0, 1) := by decide +kernel
theorem dX4_conveys_48 : decode cX4_conveys 48 = .ok (.iload_n 1, 1) := by decide +kernel
theorem dX4_conveys_49 : decode cX4_conveys 49 = .ok (.iload 4, 2) := by decide +kernel
theorem dX4_conveys_51 : decode cX4_conveys 51 = .ok (.invokevirtual 114, 3) := by decide +kernel
theorem dX4_conveys_54 : decode cX4_conveys 54 = .ok (.goto 32, 3) := by decide +kernel
theorem dX4_conveys_57 : decode cX4_conveys 57 = .ok (.aload_n 0, 1) := by decide +kernel
theorem dX4_conveys_58 : decode cX4_conveys 58 = .ok (.getfield 65, 3) := by decide +kernel
theorem dX4_conveys_61 : decode cX4_conveys 61 = .ok (.bipush 16, 2) := by decide +kernel
theorem dX4_conveys_63 : decode cX4_conveys 63 = .ok (.iload_n 1, 1) := by decide +kernel
theorem dX4_conveys_64 : decode cX4_conveys 64 = .ok (.imul, 1) := by decide +kernel
theorem dX4_conveys_65 : decode cX4_conveys 65 = .ok (.iload_n 2, 1) := by decide +kernel
theorem dX4_conveys_66 : decode cX4_conveys 66 = .ok (.iadd, 1) := by decide +kernel
theorem dX4_conveys_67 : decode cX4_conveys 67 = .ok (.iload 4, 2) := by decide +kernel
theorem dX4_conveys_69 : decode cX4_conveys 69 = .ok (.iastore, 1) := by decide +kernel
theorem dX4_conveys_70 : decode cX4_conveys 70 = .ok (.aload_n 0, 1) := by decide +kernel
theorem dX4_conveys_71 : decode cX4_conveys 71 = .ok (.getfield 68, 3) := by decide +kernel
theorem dX4_conveys_74 : decode cX4_conveys 74 = .ok (.bipush 16, 2) := by decide +kernel
theorem dX4_conveys_76 : decode cX4_conveys 76 = .ok (.iload_n 1, 1) := by decide +kernel
theorem dX4_conveys_77 : decode cX4_conveys 77 = .ok (.imul, 1) := by decide +kernel
theorem dX4_conveys_78 : decode cX4_conveys 78 = .ok (.iload_n 2, 1) := by decide +kernel
theorem dX4_conveys_79 : decode cX4_conveys 79 = .ok (.iadd, 1) := by decide +kernel
theorem dX4_conveys_80 : decode cX4_conveys 80 = .ok (.iload 5, 2) := by decide +kernel
theorem dX4_conveys_82 : decode cX4_conveys 82 = .ok (.iastore, 1) := by decide +kernel
theorem dX4_conveys_83 : decode cX4_conveys 83 = .ok (.iinc 2 1, 3) := by decide +kernel
theorem dX4_conveys_86 : decode cX4_conveys 86 = .ok (.iinc 3 1, 3) := by decide +kernel
theorem dX4_conveys_89 : decode cX4_conveys 89 = .ok (.goto (-85), 3) := by decide +kernel
theorem dX4_conveys_92 : decode cX4_conveys 92 = .ok (.aload_n 0, 1) := by decide +kernel
theorem dX4_conveys_93 : decode cX4_conveys 93 = .ok (.getfield 71, 3) := by decide +kernel
theorem dX4_conveys_96 : decode cX4_conveys 96 = .ok (.iload_n 1, 1) := by decide +kernel
theorem dX4_conveys_97 : decode cX4_conveys 97 = .ok (.iload_n 2, 1) := by decide +kernel
theorem dX4_conveys_98 : decode cX4_conveys 98 = .ok (.iastore, 1) := by decide +kernel
theorem dX4_conveys_99 : decode cX4_conveys 99 = .ok (.iload_n 1, 1) := by decide +kernel
theorem dX4_conveys_100 : decode cX4_conveys 100 = .ok (.iconst 1, 1) := by decide +kernel
theorem dX4_conveys_101 : decode cX4_conveys 101 = .ok (.isub, 1) := by decide +kernel
theorem dX4_conveys_102 : decode cX4_conveys 102 = .ok (.istore_n 3, 1) := by decide +kernel
theorem dX4_conveys_103 : decode cX4_conveys 103 = .ok (.aload_n 0, 1) := by decide +kernel
theorem dX4_conveys_104 : decode cX4_conveys 104 = .ok (.getfield 44, 3) := by decide +kernel
theorem dX4_conveys_107 : decode cX4_conveys 107 = .ok (.iload_n 1, 1) := by decide +kernel
theorem dX4_conveys_108 : decode cX4_conveys 108 = .ok (.iaload, 1) := by decide +kernel
theorem dX4_conveys_109 : decode cX4_conveys 109 = .ok (.ifCond .le 128, 3) := by decide +kernel
theorem dX4_conveys_112 : decode cX4_conveys 112 = .ok (.aload_n 0, 1) := by decide +kernel
theorem dX4_conveys_113 : decode cX4_conveys 113 = .ok (.getfield 53, 3) := by decide +kernel
theorem dX4_conveys_116 : decode cX4_conveys 116 = .ok (.iload_n 3, 1) := by decide +kernel
theorem dX4_conveys_117 : decode cX4_conveys 117 = .ok (.iaload, 1) := by decide +kernel
theorem dX4_conveys_118 : decode cX4_conveys 118 = .ok (.ifCond .le 119, 3) := by decide +kernel
theorem dX4_conveys_121 : decode cX4_conveys 121 = .ok (.aload_n 0, 1) := by decide +kernel
theorem dX4_conveys_122 : decode cX4_conveys 122 = .ok (.getfield 47, 3) := by decide +kernel
theorem dX4_conveys_125 : decode cX4_conveys 125 = .ok (.bipush 16, 2) := by decide +kernel
theorem dX4_conveys_127 : decode cX4_conveys 127 = .ok (.iload_n 3, 1) := by decide +kernel
theorem dX4_conveys_128 : decode cX4_conveys 128 = .ok (.imul, 1) := by decide +kernel
theorem dX4_conveys_129 : decode cX4_conveys 129 = .ok (.iaload, 1) := by decide +kernel
theorem dX4_conveys_130 : decode cX4_conveys 130 = .ok (.istore 4, 2) := by decide +kernel
theorem dX4_conveys_132 : decode cX4_conveys 132 = .ok (.aload_n 0, 1) := by decide +kernel
theorem dX4_conveys_133 : decode cX4_conveys 133 = .ok (.getfield 26, 3) := by decide +kernel
theorem dX4_conveys_136 : decode cX4_conveys 136 = .ok (.iload_n 3, 1) := by decide +kernel
theorem dX4_conveys_137 : decode cX4_conveys 137 = .ok (.dup2, 1) := by decide +kernel
theorem dX4_conveys_138 : decode cX4_conveys 138 = .ok (.iaload, 1) := by decide +kernel
theorem dX4_conveys_139 : decode cX4_conveys 139 = .ok (.aload_n 0, 1) := by decide +kernel
theorem dX4_conveys_140 : decode cX4_conveys 140 = .ok (.getfield 50, 3) := by decide +kernel
theorem dX4_conveys_143 : decode cX4_conveys 143 = .ok (.bipush 16, 2) := by decide +kernel
theorem dX4_conveys_145 : decode cX4_conveys 145 = .ok (.iload_n 3, 1) := by decide +kernel
theorem dX4_conveys_146 : decode cX4_conveys 146 = .ok (.imul, 1) := by decide +kernel
theorem dX4_conveys_147 : decode cX4_conveys 147 = .ok (.iaload, 1) := by decide +kernel
theorem dX4_conveys_148 : decode cX4_conveys 148 = .ok (.iadd, 1) := by decide +kernel
theorem dX4_conveys_149 : decode cX4_conveys 149 = .ok (.iastore, 1) := by decide +kernel
theorem dX4_conveys_150 : decode cX4_conveys 150 = .ok (.aload_n 0, 1) := by decide +kernel
theorem dX4_conveys_151 : decode cX4_conveys 151 = .ok (.iload_n 3, 1) := by decide +kernel
theorem dX4_conveys_152 : decode cX4_conveys 152 = .ok (.invokevirtual 103, 3) := by decide +kernel
theorem dX4_conveys_155 : decode cX4_conveys 155 = .ok (.aload_n 0, 1) := by decide +kernel
theorem dX4_conveys_156 : decode cX4_conveys 156 = .ok (.getfield 44, 3) := by decide +kernel
theorem dX4_conveys_159 : decode cX4_conveys 159 = .ok (.iload_n 1, 1) := by decide +kernel
theorem dX4_conveys_160 : decode cX4_conveys 160 = .ok (.dup2, 1) := by decide +kernel
theorem dX4_conveys_161 : decode cX4_conveys 161 = .ok (.iaload, 1) := by decide +kernel
theorem dX4_conveys_162 : decode cX4_conveys 162 = .ok (.iconst 1, 1) := by decide +kernel
theorem dX4_conveys_163 : decode cX4_conveys 163 = .ok (.isub, 1) := by decide +kernel
theorem dX4_conveys_164 : decode cX4_conveys 164 = .ok (.iastore, 1) := by decide +kernel
theorem dX4_conveys_165 : decode cX4_conveys 165 = .ok (.aload_n 0, 1) := by decide +kernel
theorem dX4_conveys_166 : decode cX4_conveys 166 = .ok (.getfield 38, 3) := by decide +kernel
theorem dX4_conveys_169 : decode cX4_conveys 169 = .ok (.iload_n 1, 1) := by decide +kernel
theorem dX4_conveys_170 : decode cX4_conveys 170 = .ok (.iaload, 1) := by decide +kernel
theorem dX4_conveys_171 : decode cX4_conveys 171 = .ok (.ifCond .ne 13, 3) := by decide +kernel
theorem dX4_conveys_174 : decode cX4_conveys 174 = .ok (.aload_n 0, 1) := by decide +kernel
theorem dX4_conveys_175 : decode cX4_conveys 175 = .ok (.iload_n 1, 1) := by decide +kernel
theorem dX4_conveys_176 : decode cX4_conveys 176 = .ok (.iload 4, 2) := by decide +kernel
theorem dX4_conveys_178 : decode cX4_conveys 178 = .ok (.invokevirtual 114, 3) := by decide +kernel
theorem dX4_conveys_181 : decode cX4_conveys 181 = .ok (.goto 53, 3) := by decide +kernel
theorem dX4_conveys_184 : decode cX4_conveys 184 = .ok (.aload_n 0, 1) := by decide +kernel
theorem dX4_conveys_185 : decode cX4_conveys 185 = .ok (.getfield 65, 3) := by decide +kernel
theorem dX4_conveys_188 : decode cX4_conveys 188 = .ok (.bipush 16, 2) := by decide +kernel
theorem dX4_conveys_190 : decode cX4_conveys 190 = .ok (.iload_n 1, 1) := by decide +kernel
theorem dX4_conveys_191 : decode cX4_conveys 191 = .ok (.imul, 1) := by decide +kernel
theorem dX4_conveys_192 : decode cX4_conveys 192 = .ok (.aload_n 0, 1) := by decide +kernel
theorem dX4_conveys_193 : decode cX4_conveys 193 = .ok (.getfield 71, 3) := by decide +kernel
theorem dX4_conveys_196 : decode cX4_conveys 196 = .ok (.iload_n 1, 1) := by decide +kernel
theorem dX4_conveys_197 : decode cX4_conveys 197 = .ok (.iaload, 1) := by decide +kernel
theorem dX4_conveys_198 : decode cX4_conveys 198 = .ok (.iadd, 1) := by decide +kernel
theorem dX4_conveys_199 : decode cX4_conveys 199 = .ok (.iload 4, 2) := by decide +kernel
theorem dX4_conveys_201 : decode cX4_conveys 201 = .ok (.iastore, 1) := by decide +kernel
theorem dX4_conveys_202 : decode cX4_conveys 202 = .ok (.aload_n 0, 1) := by decide +kernel
theorem dX4_conveys_203 : decode cX4_conveys 203 = .ok (.getfield 68, 3) := by decide +kernel
theorem dX4_conveys_206 : decode cX4_conveys 206 = .ok (.bipush 16, 2) := by decide +kernel
theorem dX4_conveys_208 : decode cX4_conveys 208 = .ok (.iload_n 1, 1) := by decide +kernel
theorem dX4_conveys_209 : decode cX4_conveys 209 = .ok (.imul, 1) := by decide +kernel
theorem dX4_conveys_210 : decode cX4_conveys 210 = .ok (.aload_n 0, 1) := by decide +kernel
theorem dX4_conveys_211 : decode cX4_conveys 211 = .ok (.getfield 71, 3) := by decide +kernel
theorem dX4_conveys_214 : decode cX4_conveys 214 = .ok (.iload_n 1, 1) := by decide +kernel
theorem dX4_conveys_215 : decode cX4_conveys 215 = .ok (.iaload, 1) := by decide +kernel
theorem dX4_conveys_216 : decode cX4_conveys 216 = .ok (.iadd, 1) := by decide +kernel
theorem dX4_conveys_217 : decode cX4_conveys 217 = .ok (.aload_n 0, 1) := by decide +kernel
theorem dX4_conveys_218 : decode cX4_conveys 218 = .ok (.getfield 38, 3) := by decide +kernel
theorem dX4_conveys_221 : decode cX4_conveys 221 = .ok (.iload_n 1, 1) := by decide +kernel
theorem dX4_conveys_222 : decode cX4_conveys 222 = .ok (.iaload, 1) := by decide +kernel
theorem dX4_conveys_223 : decode cX4_conveys 223 = .ok (.iastore, 1) := by decide +kernel
theorem dX4_conveys_224 : decode cX4_conveys 224 = .ok (.aload_n 0, 1) := by decide +kernel
theorem dX4_conveys_225 : decode cX4_conveys 225 = .ok (.getfield 71, 3) := by decide +kernel
theorem dX4_conveys_228 : decode cX4_conveys 228 = .ok (.iload_n 1, 1) := by decide +kernel
theorem dX4_conveys_229 : decode cX4_conveys 229 = .ok (.dup2, 1) := by decide +kernel
theorem dX4_conveys_230 : decode cX4_conveys 230 = .ok (.iaload, 1) := by decide +kernel
theorem dX4_conveys_231 : decode cX4_conveys 231 = .ok (.iconst 1, 1) := by decide +kernel
theorem dX4_conveys_232 : decode cX4_conveys 232 = .ok (.iadd, 1) := by decide +kernel
theorem dX4_conveys_233 : decode cX4_conveys 233 = .ok (.iastore, 1) := by decide +kernel
theorem dX4_conveys_234 : decode cX4_conveys 234 = .ok (.goto (-131), 3) := by decide +kernel
theorem dX4_conveys_237 : decode cX4_conveys 237 = .ok (.return_, 1) := by decide +kernel
theorem dX4_step_0 : decode cX4_step 0 = .ok (.aload_n 0, 1) := by decide +kernel
theorem dX4_step_1 : decode cX4_step 1 = .ok (.iload_n 1, 1) := by decide +kernel
theorem dX4_step_2 : decode cX4_step 2 = .ok (.iconst 1, 1) := by decide +kernel
theorem dX4_step_3 : decode cX4_step 3 = .ok (.bipush 50, 2) := by decide +kernel
theorem dX4_step_5 : decode cX4_step 5 = .ok (.invokestatic 81, 3) := by decide +kernel
theorem dX4_step_8 : decode cX4_step 8 = .ok (.ifCond .ne 7, 3) := by decide +kernel
theorem dX4_step_11 : decode cX4_step 11 = .ok (.iconst 1, 1) := by decide +kernel
theorem dX4_step_12 : decode cX4_step 12 = .ok (.goto 15, 3) := by decide +kernel
theorem dX4_step_15 : decode cX4_step 15 = .ok (.aload_n 0, 1) := by decide +kernel
theorem dX4_step_16 : decode cX4_step 16 = .ok (.getfield 78, 3) := by decide +kernel
theorem dX4_step_19 : decode cX4_step 19 = .ok (.ifCond .ne 7, 3) := by decide +kernel
theorem dX4_step_22 : decode cX4_step 22 = .ok (.iconst 2, 1) := by decide +kernel
theorem dX4_step_23 : decode cX4_step 23 = .ok (.goto 4, 3) := by decide +kernel
theorem dX4_step_26 : decode cX4_step 26 = .ok (.iconst 0, 1) := by decide +kernel
theorem dX4_step_27 : decode cX4_step 27 = .ok (.putfield 74, 3) := by decide +kernel
theorem dX4_step_30 : decode cX4_step 30 = .ok (.aload_n 0, 1) := by decide +kernel
theorem dX4_step_31 : decode cX4_step 31 = .ok (.getfield 117, 3) := by decide +kernel
theorem dX4_step_34 : decode cX4_step 34 = .ok (.istore_n 2, 1) := by decide +kernel
theorem dX4_step_35 : decode cX4_step 35 = .ok (.iconst 0, 1) := by decide +kernel
theorem dX4_step_36 : decode cX4_step 36 = .ok (.istore_n 3, 1) := by decide +kernel
theorem dX4_step_37 : decode cX4_step 37 = .ok (.iload_n 3, 1) := by decide +kernel
theorem dX4_step_38 : decode cX4_step 38 = .ok (.iload_n 1, 1) := by decide +kernel
theorem dX4_step_39 : decode cX4_step 39 = .ok (.if_icmp .ge 172, 3) := by decide +kernel
theorem dX4_step_42 : decode cX4_step 42 = .ok (.aload_n 0, 1) := by decide +kernel
theorem dX4_step_43 : decode cX4_step 43 = .ok (.getfield 74, 3) := by decide +kernel
theorem dX4_step_46 : decode cX4_step 46 = .ok (.ifCond .ne 165, 3) := by decide +kernel
theorem dX4_step_49 : decode cX4_step 49 = .ok (.aload_n 0, 1) := by decide +kernel
theorem dX4_step_50 : decode cX4_step 50 = .ok (.dup, 1) := by decide +kernel
theorem dX4_step_51 : decode cX4_step 51 = .ok (.getfield 120, 3) := by decide +kernel
theorem dX4_step_54 : decode cX4_step 54 = .ok (.iconst 1, 1) := by decide +kernel
theorem dX4_step_55 : decode cX4_step 55 = .ok (.iadd, 1) := by decide +kernel
theorem dX4_step_56 : decode cX4_step 56 = .ok (.putfield 120, 3) := by decide +kernel
theorem dX4_step_59 : decode cX4_step 59 = .ok (.aload_n 0, 1) := by decide +kernel
theorem dX4_step_60 : decode cX4_step 60 = .ok (.getfield 100, 3) := by decide +kernel
theorem dX4_step_63 : decode cX4_step 63 = .ok (.aload_n 0, 1) := by decide +kernel
theorem dX4_step_64 : decode cX4_step 64 = .ok (.getfield 123, 3) := by decide +kernel
theorem dX4_step_67 : decode cX4_step 67 = .ok (.iadd, 1) := by decide +kernel
theorem dX4_step_68 : decode cX4_step 68 = .ok (.istore 4, 2) := by decide +kernel
theorem dX4_step_70 : decode cX4_step 70 = .ok (.aload_n 0, 1) := by decide +kernel
theorem dX4_step_71 : decode cX4_step 71 = .ok (.aload_n 0, 1) := by decide +kernel
theorem dX4_step_72 : decode cX4_step 72 = .ok (.getfield 78, 3) := by decide +kernel
theorem dX4_step_75 : decode cX4_step 75 = .ok (.iconst 1, 1) := by decide +kernel
theorem dX4_step_76 : decode cX4_step 76 = .ok (.isub, 1) := by decide +kernel
theorem dX4_step_77 : decode cX4_step 77 = .ok (.invokevirtual 126, 3) := by decide +kernel
theorem dX4_step_80 : decode cX4_step 80 = .ok (.istore 5, 2) := by decide +kernel
theorem dX4_step_82 : decode cX4_step 82 = .ok (.iload 4, 2) := by decide +kernel
theorem dX4_step_84 : decode cX4_step 84 = .ok (.iload 5, 2) := by decide +kernel
theorem dX4_step_86 : decode cX4_step 86 = .ok (.if_icmp .ge 8, 3) := by decide +kernel
theorem dX4_step_89 : decode cX4_step 89 = .ok (.iload 4, 2) := by decide +kernel
theorem dX4_step_91 : decode cX4_step 91 = .ok (.goto 5, 3) := by decide +kernel
theorem dX4_step_94 : decode cX4_step 94 = .ok (.iload 5, 2) := by decide +kernel
theorem dX4_step_96 : decode cX4_step 96 = .ok (.istore 6, 2) := by decide +kernel
theorem dX4_step_98 : decode cX4_step 98 = .ok (.aload_n 0, 1) := by decide +kernel
theorem dX4_step_99 : decode cX4_step 99 = .ok (.iload 6, 2) := by decide +kernel
theorem dX4_step_101 : decode cX4_step 101 = .ok (.invokevirtual 129, 3) := by decide +kernel
theorem dX4_step_104 : decode cX4_step 104 = .ok (.aload_n 0, 1) := by decide +kernel
theorem dX4_step_105 : decode cX4_step 105 = .ok (.dup, 1) := by decide +kernel
theorem dX4_step_106 : decode cX4_step 106 = .ok (.getfield 117, 3) := by decide +kernel
theorem dX4_step_109 : decode cX4_step 109 = .ok (.iload 6, 2) := by decide +kernel
theorem dX4_step_111 : decode cX4_step 111 = .ok (.iadd, 1) := by decide +kernel
theorem dX4_step_112 : decode cX4_step 112 = .ok (.putfield 117, 3) := by decide +kernel
theorem dX4_step_115 : decode cX4_step 115 = .ok (.aload_n 0, 1) := by decide +kernel
theorem dX4_step_116 : decode cX4_step 116 = .ok (.iload 4, 2) := by decide +kernel
theorem dX4_step_118 : decode cX4_step 118 = .ok (.iload 6, 2) := by decide +kernel
theorem dX4_step_120 : decode cX4_step 120 = .ok (.isub, 1) := by decide +kernel
theorem dX4_step_121 : decode cX4_step 121 = .ok (.putfield 123, 3) := by decide +kernel
theorem dX4_step_124 : decode cX4_step 124 = .ok (.aload_n 0, 1) := by decide +kernel
theorem dX4_step_125 : decode cX4_step 125 = .ok (.dup, 1) := by decide +kernel
theorem dX4_step_126 : decode cX4_step 126 = .ok (.getfield 132, 3) := by decide +kernel
theorem dX4_step_129 : decode cX4_step 129 = .ok (.aload_n 0, 1) := by decide +kernel
theorem dX4_step_130 : decode cX4_step 130 = .ok (.getfield 123, 3) := by decide +kernel
theorem dX4_step_133 : decode cX4_step 133 = .ok (.ifCond .le 7, 3) := by decide +kernel
theorem dX4_step_136 : decode cX4_step 136 = .ok (.iconst 1, 1) := by decide +kernel
theorem dX4_step_137 : decode cX4_step 137 = .ok (.goto 4, 3) := by decide +kernel
theorem dX4_step_140 : decode cX4_step 140 = .ok (.iconst 0, 1) := by decide +kernel
theorem dX4_step_141 : decode cX4_step 141 = .ok (.iadd, 1) := by decide +kernel
theorem dX4_step_142 : decode cX4_step 142 = .ok (.putfield 132, 3) := by decide +kernel
theorem dX4_step_145 : decode cX4_step 145 = .ok (.aload_n 0, 1) := by decide +kernel
theorem dX4_step_146 : decode cX4_step 146 = .ok (.getfield 78, 3) := by decide +kernel
theorem dX4_step_149 : decode cX4_step 149 = .ok (.iconst 1, 1) := by decide +kernel
theorem dX4_step_150 : decode cX4_step 150 = .ok (.isub, 1) := by decide +kernel
theorem dX4_step_151 : decode cX4_step 151 = .ok (.istore 7, 2) := by decide +kernel
theorem dX4_step_153 : decode cX4_step 153 = .ok (.iload 7, 2) := by decide +kernel
theorem dX4_step_155 : decode cX4_step 155 = .ok (.ifCond .lt 25, 3) := by decide +kernel
theorem dX4_step_158 : decode cX4_step 158 = .ok (.aload_n 0, 1) := by decide +kernel
theorem dX4_step_159 : decode cX4_step 159 = .ok (.getfield 22, 3) := by decide +kernel
theorem dX4_step_162 : decode cX4_step 162 = .ok (.iload 7, 2) := by decide +kernel
theorem dX4_step_164 : decode cX4_step 164 = .ok (.baload, 1) := by decide +kernel
theorem dX4_step_165 : decode cX4_step 165 = .ok (.ifCond .ne 9, 3) := by decide +kernel
theorem dX4_step_168 : decode cX4_step 168 = .ok (.aload_n 0, 1) := by decide +kernel
theorem dX4_step_169 : decode cX4_step 169 = .ok (.iload 7, 2) := by decide +kernel
theorem dX4_step_171 : decode cX4_step 171 = .ok (.invokevirtual 135, 3) := by decide +kernel
theorem dX4_step_174 : decode cX4_step 174 = .ok (.iinc 7 (-1), 3) := by decide +kernel
theorem dX4_step_177 : decode cX4_step 177 = .ok (.goto (-24), 3) := by decide +kernel
theorem dX4_step_180 : decode cX4_step 180 = .ok (.aload_n 0, 1) := by decide +kernel
theorem dX4_step_181 : decode cX4_step 181 = .ok (.getfield 78, 3) := by decide +kernel
theorem dX4_step_184 : decode cX4_step 184 = .ok (.iconst 1, 1) := by decide +kernel
theorem dX4_step_185 : decode cX4_step 185 = .ok (.isub, 1) := by decide +kernel
theorem dX4_step_186 : decode cX4_step 186 = .ok (.istore 7, 2) := by decide +kernel
theorem dX4_step_188 : decode cX4_step 188 = .ok (.iload 7, 2) := by decide +kernel
theorem dX4_step_190 : decode cX4_step 190 = .ok (.ifCond .le 15, 3) := by decide +kernel
theorem dX4_step_193 : decode cX4_step 193 = .ok (.aload_n 0, 1) := by decide +kernel
theorem dX4_step_194 : decode cX4_step 194 = .ok (.iload 7, 2) := by decide +kernel
theorem dX4_step_196 : decode cX4_step 196 = .ok (.invokevirtual 138, 3) := by decide +kernel
theorem dX4_step_199 : decode cX4_step 199 = .ok (.iinc 7 (-1), 3) := by decide +kernel
theorem dX4_step_202 : decode cX4_step 202 = .ok (.goto (-14), 3) := by decide +kernel
theorem dX4_step_205 : decode cX4_step 205 = .ok (.iinc 3 1, 3) := by decide +kernel
theorem dX4_step_208 : decode cX4_step 208 = .ok (.goto (-171), 3) := by decide +kernel
theorem dX4_step_211 : decode cX4_step 211 = .ok (.aload_n 0, 1) := by decide +kernel
theorem dX4_step_212 : decode cX4_step 212 = .ok (.getfield 117, 3) := by decide +kernel
theorem dX4_step_215 : decode cX4_step 215 = .ok (.iload_n 2, 1) := by decide +kernel
theorem dX4_step_216 : decode cX4_step 216 = .ok (.isub, 1) := by decide +kernel
theorem dX4_step_217 : decode cX4_step 217 = .ok (.ireturn, 1) := by decide +kernel
theorem dX4_time_0 : decode cX4_time 0 = .ok (.aload_n 0, 1) := by decide +kernel
theorem dX4_time_1 : decode cX4_time 1 = .ok (.iconst 0, 1) := by decide +kernel
theorem dX4_time_2 : decode cX4_time 2 = .ok (.putfield 74, 3) := by decide +kernel
theorem dX4_time_5 : decode cX4_time 5 = .ok (.aload_n 0, 1) := by decide +kernel
theorem dX4_time_6 : decode cX4_time 6 = .ok (.getfield 120, 3) := by decide +kernel
theorem dX4_time_9 : decode cX4_time 9 = .ok (.ireturn, 1) := by decide +kernel
theorem dX4_stages_0 : decode cX4_stages 0 = .ok (.aload_n 0, 1) := by decide +kernel
theorem dX4_stages_1 : decode cX4_stages 1 = .ok (.iconst 0, 1) := by decide +kernel
theorem dX4_stages_2 : decode cX4_stages 2 = .ok (.putfield 74, 3) := by decide +kernel
theorem dX4_stages_5 : decode cX4_stages 5 = .ok (.aload_n 0, 1) := by decide +kernel
theorem dX4_stages_6 : decode cX4_stages 6 = .ok (.getfield 78, 3) := by decide +kernel
theorem dX4_stages_9 : decode cX4_stages 9 = .ok (.ireturn, 1) := by decide +kernel
theorem dX4_board_0 : decode cX4_board 0 = .ok (.aload_n 0, 1) := by decide +kernel
theorem dX4_board_1 : decode cX4_board 1 = .ok (.iload_n 1, 1) := by decide +kernel
theorem dX4_board_2 : decode cX4_board 2 = .ok (.iconst 0, 1) := by decide +kernel
theorem dX4_board_3 : decode cX4_board 3 = .ok (.invokevirtual 92, 3) := by decide +kernel
theorem dX4_board_6 : decode cX4_board 6 = .ok (.ifCond .eq 12, 3) := by decide +kernel
theorem dX4_board_9 : decode cX4_board 9 = .ok (.aload_n 0, 1) := by decide +kernel
theorem dX4_board_10 : decode cX4_board 10 = .ok (.getfield 26, 3) := by decide +kernel
theorem dX4_board_13 : decode cX4_board 13 = .ok (.iload_n 1, 1) := by decide +kernel
theorem dX4_board_14 : decode cX4_board 14 = .ok (.iaload, 1) := by decide +kernel
theorem dX4_board_15 : decode cX4_board 15 = .ok (.goto 4, 3) := by decide +kernel
theorem dX4_board_18 : decode cX4_board 18 = .ok (.iconst 0, 1) := by decide +kernel
theorem dX4_board_19 : decode cX4_board 19 = .ok (.ireturn, 1) := by decide +kernel
theorem dX4_attached_0 : decode cX4_attached 0 = .ok (.iconst 0, 1) := by decide +kernel
theorem dX4_attached_1 : decode cX4_attached 1 = .ok (.istore_n 2, 1) := by decide +kernel
theorem dX4_attached_2 : decode cX4_attached 2 = .ok (.iconst 0, 1) := by decide +kernel
theorem dX4_attached_3 : decode cX4_attached 3 = .ok (.istore_n 3, 1) := by decide +kernel
theorem dX4_attached_4 : decode cX4_attached 4 = .ok (.aload_n 0, 1) := by decide +kernel
theorem dX4_attached_5 : decode cX4_attached 5 = .ok (.iload_n 1, 1) := by decide +kernel
theorem dX4_attached_6 : decode cX4_attached 6 = .ok (.iconst 0, 1) := by decide +kernel
theorem dX4_attached_7 : decode cX4_attached 7 = .ok (.invokevirtual 92, 3) := by decide +kernel
theorem dX4_attached_10 : decode cX4_attached 10 = .ok (.ifCond .eq 33, 3) := by decide +kernel
theorem dX4_attached_13 : decode cX4_attached 13 = .ok (.iload_n 3, 1) := by decide +kernel
theorem dX4_attached_14 : decode cX4_attached 14 = .ok (.aload_n 0, 1) := by decide +kernel
theorem dX4_attached_15 : decode cX4_attached 15 = .ok (.getfield 53, 3) := by decide +kernel
theorem dX4_attached_18 : decode cX4_attached 18 = .ok (.iload_n 1, 1) := by decide +kernel
theorem dX4_attached_19 : decode cX4_attached 19 = .ok (.iaload, 1) := by decide +kernel
theorem dX4_attached_20 : decode cX4_attached 20 = .ok (.if_icmp .ge 23, 3) := by decide +kernel
theorem dX4_attached_23 : decode cX4_attached 23 = .ok (.iload_n 2, 1) := by decide +kernel
theorem dX4_attached_24 : decode cX4_attached 24 = .ok (.aload_n 0, 1) := by decide +kernel
theorem dX4_attached_25 : decode cX4_attached 25 = .ok (.getfield 50, 3) := by decide +kernel
theorem dX4_attached_28 : decode cX4_attached 28 = .ok (.bipush 16, 2) := by decide +kernel
theorem dX4_attached_30 : decode cX4_attached 30 = .ok (.iload_n 1, 1) := by decide +kernel
theorem dX4_attached_31 : decode cX4_attached 31 = .ok (.imul, 1) := by decide +kernel
theorem dX4_attached_32 : decode cX4_attached 32 = .ok (.iload_n 3, 1) := by decide +kernel
theorem dX4_attached_33 : decode cX4_attached 33 = .ok (.iadd, 1) := by decide +kernel
theorem dX4_attached_34 : decode cX4_attached 34 = .ok (.iaload, 1) := by decide +kernel
theorem dX4_attached_35 : decode cX4_attached 35 = .ok (.iadd, 1) := by decide +kernel
theorem dX4_attached_36 : decode cX4_attached 36 = .ok (.istore_n 2, 1) := by decide +kernel
theorem dX4_attached_37 : decode cX4_attached 37 = .ok (.iinc 3 1, 3) := by decide +kernel
theorem dX4_attached_40 : decode cX4_attached 40 = .ok (.goto (-36), 3) := by decide +kernel
theorem dX4_attached_43 : decode cX4_attached 43 = .ok (.iload_n 2, 1) := by decide +kernel
theorem dX4_attached_44 : decode cX4_attached 44 = .ok (.ireturn, 1) := by decide +kernel
theorem dX4_left_0 : decode cX4_left 0 = .ok (.aload_n 0, 1) := by decide +kernel
theorem dX4_left_1 : decode cX4_left 1 = .ok (.iload_n 1, 1) := by decide +kernel
theorem dX4_left_2 : decode cX4_left 2 = .ok (.iconst 0, 1) := by decide +kernel
theorem dX4_left_3 : decode cX4_left 3 = .ok (.invokevirtual 92, 3) := by decide +kernel
theorem dX4_left_6 : decode cX4_left 6 = .ok (.ifCond .eq 12, 3) := by decide +kernel
theorem dX4_left_9 : decode cX4_left 9 = .ok (.aload_n 0, 1) := by decide +kernel
theorem dX4_left_10 : decode cX4_left 10 = .ok (.getfield 29, 3) := by decide +kernel
theorem dX4_left_13 : decode cX4_left 13 = .ok (.iload_n 1, 1) := by decide +kernel
theorem dX4_left_14 : decode cX4_left 14 = .ok (.iaload, 1) := by decide +kernel
theorem dX4_left_15 : decode cX4_left 15 = .ok (.goto 4, 3) := by decide +kernel
theorem dX4_left_18 : decode cX4_left 18 = .ok (.iconst 0, 1) := by decide +kernel
theorem dX4_left_19 : decode cX4_left 19 = .ok (.ireturn, 1) := by decide +kernel
theorem dX4_run_0 : decode cX4_run 0 = .ok (.aload_n 0, 1) := by decide +kernel
theorem dX4_run_1 : decode cX4_run 1 = .ok (.iload_n 1, 1) := by decide +kernel
theorem dX4_run_2 : decode cX4_run 2 = .ok (.iconst 0, 1) := by decide +kernel
theorem dX4_run_3 : decode cX4_run 3 = .ok (.invokevirtual 92, 3) := by decide +kernel
theorem dX4_run_6 : decode cX4_run 6 = .ok (.ifCond .eq 12, 3) := by decide +kernel
theorem dX4_run_9 : decode cX4_run 9 = .ok (.aload_n 0, 1) := by decide +kernel
theorem dX4_run_10 : decode cX4_run 10 = .ok (.getfield 32, 3) := by decide +kernel
theorem dX4_run_13 : decode cX4_run 13 = .ok (.iload_n 1, 1) := by decide +kernel
theorem dX4_run_14 : decode cX4_run 14 = .ok (.iaload, 1) := by decide +kernel
theorem dX4_run_15 : decode cX4_run 15 = .ok (.goto 4, 3) := by decide +kernel
theorem dX4_run_18 : decode cX4_run 18 = .ok (.iconst 0, 1) := by decide +kernel
theorem dX4_run_19 : decode cX4_run 19 = .ok (.ireturn, 1) := by decide +kernel
theorem dX4_market_0 : decode cX4_market 0 = .ok (.aload_n 0, 1) := by decide +kernel
theorem dX4_market_1 : decode cX4_market 1 = .ok (.iload_n 1, 1) := by decide +kernel
theorem dX4_market_2 : decode cX4_market 2 = .ok (.iconst 0, 1) := by decide +kernel
theorem dX4_market_3 : decode cX4_market 3 = .ok (.invokevirtual 92, 3) := by decide +kernel
theorem dX4_market_6 : decode cX4_market 6 = .ok (.ifCond .eq 11, 3) := by decide +kernel
theorem dX4_market_9 : decode cX4_market 9 = .ok (.aload_n 0, 1) := by decide +kernel
theorem dX4_market_10 : decode cX4_market 10 = .ok (.iload_n 1, 1) := by decide +kernel
theorem dX4_market_11 : decode cX4_market 11 = .ok (.invokevirtual 126, 3) := by decide +kernel
theorem dX4_market_14 : decode cX4_market 14 = .ok (.goto 4, 3) := by decide +kernel
theorem dX4_market_17 : decode cX4_market 17 = .ok (.iconst 0, 1) := by decide +kernel
theorem dX4_market_18 : decode cX4_market 18 = .ok (.ireturn, 1) := by decide +kernel
theorem dX4_inbox_0 : decode cX4_inbox 0 = .ok (.aload_n 0, 1) := by decide +kernel
theorem dX4_inbox_1 : decode cX4_inbox 1 = .ok (.iload_n 1, 1) := by decide +kernel
theorem dX4_inbox_2 : decode cX4_inbox 2 = .ok (.iconst 0, 1) := by decide +kernel
theorem dX4_inbox_3 : decode cX4_inbox 3 = .ok (.invokevirtual 92, 3) := by decide +kernel
theorem dX4_inbox_6 : decode cX4_inbox 6 = .ok (.ifCond .eq 11, 3) := by decide +kernel
theorem dX4_inbox_9 : decode cX4_inbox 9 = .ok (.aload_n 0, 1) := by decide +kernel
theorem dX4_inbox_10 : decode cX4_inbox 10 = .ok (.iload_n 1, 1) := by decide +kernel
theorem dX4_inbox_11 : decode cX4_inbox 11 = .ok (.invokevirtual 107, 3) := by decide +kernel
theorem dX4_inbox_14 : decode cX4_inbox 14 = .ok (.goto 4, 3) := by decide +kernel
theorem dX4_inbox_17 : decode cX4_inbox 17 = .ok (.iconst 0, 1) := by decide +kernel
theorem dX4_inbox_18 : decode cX4_inbox 18 = .ok (.ireturn, 1) := by decide +kernel
theorem dX4_waiting_0 : decode cX4_waiting 0 = .ok (.aload_n 0, 1) := by decide +kernel
theorem dX4_waiting_1 : decode cX4_waiting 1 = .ok (.iload_n 1, 1) := by decide +kernel
theorem dX4_waiting_2 : decode cX4_waiting 2 = .ok (.iconst 0, 1) := by decide +kernel
theorem dX4_waiting_3 : decode cX4_waiting 3 = .ok (.invokevirtual 92, 3) := by decide +kernel
theorem dX4_waiting_6 : decode cX4_waiting 6 = .ok (.ifCond .eq 12, 3) := by decide +kernel
theorem dX4_waiting_9 : decode cX4_waiting 9 = .ok (.aload_n 0, 1) := by decide +kernel
theorem dX4_waiting_10 : decode cX4_waiting 10 = .ok (.getfield 44, 3) := by decide +kernel
theorem dX4_waiting_13 : decode cX4_waiting 13 = .ok (.iload_n 1, 1) := by decide +kernel
theorem dX4_waiting_14 : decode cX4_waiting 14 = .ok (.iaload, 1) := by decide +kernel
theorem dX4_waiting_15 : decode cX4_waiting 15 = .ok (.goto 4, 3) := by decide +kernel
theorem dX4_waiting_18 : decode cX4_waiting 18 = .ok (.iconst 0, 1) := by decide +kernel
theorem dX4_waiting_19 : decode cX4_waiting 19 = .ok (.ireturn, 1) := by decide +kernel
theorem dX4_travelling_0 : decode cX4_travelling 0 = .ok (.aload_n 0, 1) := by decide +kernel
theorem dX4_travelling_1 : decode cX4_travelling 1 = .ok (.iload_n 1, 1) := by decide +kernel
theorem dX4_travelling_2 : decode cX4_travelling 2 = .ok (.iconst 0, 1) := by decide +kernel
theorem dX4_travelling_3 : decode cX4_travelling 3 = .ok (.invokevirtual 92, 3) := by decide +kernel
theorem dX4_travelling_6 : decode cX4_travelling 6 = .ok (.ifCond .eq 12, 3) := by decide +kernel
theorem dX4_travelling_9 : decode cX4_travelling 9 = .ok (.aload_n 0, 1) := by decide +kernel
theorem dX4_travelling_10 : decode cX4_travelling 10 = .ok (.getfield 71, 3) := by decide +kernel
theorem dX4_travelling_13 : decode cX4_travelling 13 = .ok (.iload_n 1, 1) := by decide +kernel
theorem dX4_travelling_14 : decode cX4_travelling 14 = .ok (.iaload, 1) := by decide +kernel
theorem dX4_travelling_15 : decode cX4_travelling 15 = .ok (.goto 4, 3) := by decide +kernel
theorem dX4_travelling_18 : decode cX4_travelling 18 = .ok (.iconst 0, 1) := by decide +kernel
theorem dX4_travelling_19 : decode cX4_travelling 19 = .ok (.ireturn, 1) := by decide +kernel
theorem dX4_firstUnits_0 : decode cX4_firstUnits 0 = .ok (.aload_n 0, 1) := by decide +kernel
theorem dX4_firstUnits_1 : decode cX4_firstUnits 1 = .ok (.iload_n 1, 1) := by decide +kernel
theorem dX4_firstUnits_2 : decode cX4_firstUnits 2 = .ok (.iconst 0, 1) := by decide +kernel
theorem dX4_firstUnits_3 : decode cX4_firstUnits 3 = .ok (.invokevirtual 92, 3) := by decide +kernel
theorem dX4_firstUnits_6 : decode cX4_firstUnits 6 = .ok (.ifCond .eq 24, 3) := by decide +kernel
theorem dX4_firstUnits_9 : decode cX4_firstUnits 9 = .ok (.aload_n 0, 1) := by decide +kernel
theorem dX4_firstUnits_10 : decode cX4_firstUnits 10 = .ok (.getfield 53, 3) := by decide +kernel
theorem dX4_firstUnits_13 : decode cX4_firstUnits 13 = .ok (.iload_n 1, 1) := by decide +kernel
theorem dX4_firstUnits_14 : decode cX4_firstUnits 14 = .ok (.iaload, 1) := by decide +kernel
theorem dX4_firstUnits_15 : decode cX4_firstUnits 15 = .ok (.ifCond .le 15, 3) := by decide +kernel
theorem dX4_firstUnits_18 : decode cX4_firstUnits 18 = .ok (.aload_n 0, 1) := by decide +kernel
theorem dX4_firstUnits_19 : decode cX4_firstUnits 19 = .ok (.getfield 47, 3) := by decide +kernel
theorem dX4_firstUnits_22 : decode cX4_firstUnits 22 = .ok (.bipush 16, 2) := by decide +kernel
theorem dX4_firstUnits_24 : decode cX4_firstUnits 24 = .ok (.iload_n 1, 1) := by decide +kernel
theorem dX4_firstUnits_25 : decode cX4_firstUnits 25 = .ok (.imul, 1) := by decide +kernel
theorem dX4_firstUnits_26 : decode cX4_firstUnits 26 = .ok (.iaload, 1) := by decide +kernel
theorem dX4_firstUnits_27 : decode cX4_firstUnits 27 = .ok (.goto 4, 3) := by decide +kernel
theorem dX4_firstUnits_30 : decode cX4_firstUnits 30 = .ok (.iconst 0, 1) := by decide +kernel
theorem dX4_firstUnits_31 : decode cX4_firstUnits 31 = .ok (.ireturn, 1) := by decide +kernel
theorem dX4_taken_0 : decode cX4_taken 0 = .ok (.aload_n 0, 1) := by decide +kernel
theorem dX4_taken_1 : decode cX4_taken 1 = .ok (.iconst 0, 1) := by decide +kernel
theorem dX4_taken_2 : decode cX4_taken 2 = .ok (.putfield 74, 3) := by decide +kernel
theorem dX4_taken_5 : decode cX4_taken 5 = .ok (.aload_n 0, 1) := by decide +kernel
theorem dX4_taken_6 : decode cX4_taken 6 = .ok (.getfield 117, 3) := by decide +kernel
theorem dX4_taken_9 : decode cX4_taken 9 = .ok (.ireturn, 1) := by decide +kernel
theorem dX4_backlog_0 : decode cX4_backlog 0 = .ok (.aload_n 0, 1) := by decide +kernel
theorem dX4_backlog_1 : decode cX4_backlog 1 = .ok (.iconst 0, 1) := by decide +kernel
theorem dX4_backlog_2 : decode cX4_backlog 2 = .ok (.putfield 74, 3) := by decide +kernel
theorem dX4_backlog_5 : decode cX4_backlog 5 = .ok (.aload_n 0, 1) := by decide +kernel
theorem dX4_backlog_6 : decode cX4_backlog 6 = .ok (.getfield 123, 3) := by decide +kernel
theorem dX4_backlog_9 : decode cX4_backlog 9 = .ok (.ireturn, 1) := by decide +kernel
theorem dX4_shortSteps_0 : decode cX4_shortSteps 0 = .ok (.aload_n 0, 1) := by decide +kernel
theorem dX4_shortSteps_1 : decode cX4_shortSteps 1 = .ok (.iconst 0, 1) := by decide +kernel
theorem dX4_shortSteps_2 : decode cX4_shortSteps 2 = .ok (.putfield 74, 3) := by decide +kernel
theorem dX4_shortSteps_5 : decode cX4_shortSteps 5 = .ok (.aload_n 0, 1) := by decide +kernel
theorem dX4_shortSteps_6 : decode cX4_shortSteps 6 = .ok (.getfield 132, 3) := by decide +kernel
theorem dX4_shortSteps_9 : decode cX4_shortSteps 9 = .ok (.ireturn, 1) := by decide +kernel
theorem dX4_starved_0 : decode cX4_starved 0 = .ok (.aload_n 0, 1) := by decide +kernel
theorem dX4_starved_1 : decode cX4_starved 1 = .ok (.iload_n 1, 1) := by decide +kernel
theorem dX4_starved_2 : decode cX4_starved 2 = .ok (.iconst 0, 1) := by decide +kernel
theorem dX4_starved_3 : decode cX4_starved 3 = .ok (.invokevirtual 92, 3) := by decide +kernel
theorem dX4_starved_6 : decode cX4_starved 6 = .ok (.ifCond .eq 12, 3) := by decide +kernel
theorem dX4_starved_9 : decode cX4_starved 9 = .ok (.aload_n 0, 1) := by decide +kernel
theorem dX4_starved_10 : decode cX4_starved 10 = .ok (.getfield 35, 3) := by decide +kernel
theorem dX4_starved_13 : decode cX4_starved 13 = .ok (.iload_n 1, 1) := by decide +kernel
theorem dX4_starved_14 : decode cX4_starved 14 = .ok (.iaload, 1) := by decide +kernel
theorem dX4_starved_15 : decode cX4_starved 15 = .ok (.goto 4, 3) := by decide +kernel
theorem dX4_starved_18 : decode cX4_starved 18 = .ok (.iconst 0, 1) := by decide +kernel
theorem dX4_starved_19 : decode cX4_starved 19 = .ok (.ireturn, 1) := by decide +kernel
theorem dX4_stock_0 : decode cX4_stock 0 = .ok (.aload_n 0, 1) := by decide +kernel
theorem dX4_stock_1 : decode cX4_stock 1 = .ok (.iconst 0, 1) := by decide +kernel
theorem dX4_stock_2 : decode cX4_stock 2 = .ok (.putfield 74, 3) := by decide +kernel
theorem dX4_stock_5 : decode cX4_stock 5 = .ok (.iconst 0, 1) := by decide +kernel
theorem dX4_stock_6 : decode cX4_stock 6 = .ok (.istore_n 1, 1) := by decide +kernel
theorem dX4_stock_7 : decode cX4_stock 7 = .ok (.iconst 0, 1) := by decide +kernel
theorem dX4_stock_8 : decode cX4_stock 8 = .ok (.istore_n 2, 1) := by decide +kernel
theorem dX4_stock_9 : decode cX4_stock 9 = .ok (.iload_n 2, 1) := by decide +kernel
theorem dX4_stock_10 : decode cX4_stock 10 = .ok (.aload_n 0, 1) := by decide +kernel
theorem dX4_stock_11 : decode cX4_stock 11 = .ok (.getfield 78, 3) := by decide +kernel
theorem dX4_stock_14 : decode cX4_stock 14 = .ok (.if_icmp .ge 75, 3) := by decide +kernel
theorem dX4_stock_17 : decode cX4_stock 17 = .ok (.iload_n 1, 1) := by decide +kernel
theorem dX4_stock_18 : decode cX4_stock 18 = .ok (.aload_n 0, 1) := by decide +kernel
theorem dX4_stock_19 : decode cX4_stock 19 = .ok (.iload_n 2, 1) := by decide +kernel
theorem dX4_stock_20 : decode cX4_stock 20 = .ok (.invokevirtual 126, 3) := by decide +kernel
theorem dX4_stock_23 : decode cX4_stock 23 = .ok (.aload_n 0, 1) := by decide +kernel
theorem dX4_stock_24 : decode cX4_stock 24 = .ok (.iload_n 2, 1) := by decide +kernel
theorem dX4_stock_25 : decode cX4_stock 25 = .ok (.invokevirtual 107, 3) := by decide +kernel
theorem dX4_stock_28 : decode cX4_stock 28 = .ok (.iadd, 1) := by decide +kernel
theorem dX4_stock_29 : decode cX4_stock 29 = .ok (.aload_n 0, 1) := by decide +kernel
theorem dX4_stock_30 : decode cX4_stock 30 = .ok (.getfield 29, 3) := by decide +kernel
theorem dX4_stock_33 : decode cX4_stock 33 = .ok (.iload_n 2, 1) := by decide +kernel
theorem dX4_stock_34 : decode cX4_stock 34 = .ok (.iaload, 1) := by decide +kernel
theorem dX4_stock_35 : decode cX4_stock 35 = .ok (.ifCond .le 12, 3) := by decide +kernel
theorem dX4_stock_38 : decode cX4_stock 38 = .ok (.aload_n 0, 1) := by decide +kernel
theorem dX4_stock_39 : decode cX4_stock 39 = .ok (.getfield 13, 3) := by decide +kernel
theorem dX4_stock_42 : decode cX4_stock 42 = .ok (.iload_n 2, 1) := by decide +kernel
theorem dX4_stock_43 : decode cX4_stock 43 = .ok (.iaload, 1) := by decide +kernel
theorem dX4_stock_44 : decode cX4_stock 44 = .ok (.goto 4, 3) := by decide +kernel
theorem dX4_stock_47 : decode cX4_stock 47 = .ok (.iconst 0, 1) := by decide +kernel
theorem dX4_stock_48 : decode cX4_stock 48 = .ok (.iadd, 1) := by decide +kernel
theorem dX4_stock_49 : decode cX4_stock 49 = .ok (.iadd, 1) := by decide +kernel
theorem dX4_stock_50 : decode cX4_stock 50 = .ok (.istore_n 1, 1) := by decide +kernel
theorem dX4_stock_51 : decode cX4_stock 51 = .ok (.iconst 0, 1) := by decide +kernel
theorem dX4_stock_52 : decode cX4_stock 52 = .ok (.istore_n 3, 1) := by decide +kernel
theorem dX4_stock_53 : decode cX4_stock 53 = .ok (.iload_n 3, 1) := by decide +kernel
theorem dX4_stock_54 : decode cX4_stock 54 = .ok (.aload_n 0, 1) := by decide +kernel
theorem dX4_stock_55 : decode cX4_stock 55 = .ok (.getfield 71, 3) := by decide +kernel
theorem dX4_stock_58 : decode cX4_stock 58 = .ok (.iload_n 2, 1) := by decide +kernel
theorem dX4_stock_59 : decode cX4_stock 59 = .ok (.iaload, 1) := by decide +kernel
theorem dX4_stock_60 : decode cX4_stock 60 = .ok (.if_icmp .ge 23, 3) := by decide +kernel
theorem dX4_stock_63 : decode cX4_stock 63 = .ok (.iload_n 1, 1) := by decide +kernel
theorem dX4_stock_64 : decode cX4_stock 64 = .ok (.aload_n 0, 1) := by decide +kernel
theorem dX4_stock_65 : decode cX4_stock 65 = .ok (.getfield 65, 3) := by decide +kernel
theorem dX4_stock_68 : decode cX4_stock 68 = .ok (.bipush 16, 2) := by decide +kernel
theorem dX4_stock_70 : decode cX4_stock 70 = .ok (.iload_n 2, 1) := by decide +kernel
theorem dX4_stock_71 : decode cX4_stock 71 = .ok (.imul, 1) := by decide +kernel
theorem dX4_stock_72 : decode cX4_stock 72 = .ok (.iload_n 3, 1) := by decide +kernel
theorem dX4_stock_73 : decode cX4_stock 73 = .ok (.iadd, 1) := by decide +kernel
theorem dX4_stock_74 : decode cX4_stock 74 = .ok (.iaload, 1) := by decide +kernel
theorem dX4_stock_75 : decode cX4_stock 75 = .ok (.iadd, 1) := by decide +kernel
theorem dX4_stock_76 : decode cX4_stock 76 = .ok (.istore_n 1, 1) := by decide +kernel
theorem dX4_stock_77 : decode cX4_stock 77 = .ok (.iinc 3 1, 3) := by decide +kernel
theorem dX4_stock_80 : decode cX4_stock 80 = .ok (.goto (-27), 3) := by decide +kernel
theorem dX4_stock_83 : decode cX4_stock 83 = .ok (.iinc 2 1, 3) := by decide +kernel
theorem dX4_stock_86 : decode cX4_stock 86 = .ok (.goto (-77), 3) := by decide +kernel
theorem dX4_stock_89 : decode cX4_stock 89 = .ok (.iload_n 1, 1) := by decide +kernel
theorem dX4_stock_90 : decode cX4_stock 90 = .ok (.ireturn, 1) := by decide +kernel
theorem dX4_stockByFlow_0 : decode cX4_stockByFlow 0 = .ok (.aload_n 0, 1) := by decide +kernel
theorem dX4_stockByFlow_1 : decode cX4_stockByFlow 1 = .ok (.iconst 0, 1) := by decide +kernel
theorem dX4_stockByFlow_2 : decode cX4_stockByFlow 2 = .ok (.putfield 74, 3) := by decide +kernel
theorem dX4_stockByFlow_5 : decode cX4_stockByFlow 5 = .ok (.aload_n 0, 1) := by decide +kernel
theorem dX4_stockByFlow_6 : decode cX4_stockByFlow 6 = .ok (.getfield 89, 3) := by decide +kernel
theorem dX4_stockByFlow_9 : decode cX4_stockByFlow 9 = .ok (.aload_n 0, 1) := by decide +kernel
theorem dX4_stockByFlow_10 : decode cX4_stockByFlow 10 = .ok (.getfield 117, 3) := by decide +kernel
theorem dX4_stockByFlow_13 : decode cX4_stockByFlow 13 = .ok (.isub, 1) := by decide +kernel
theorem dX4_stockByFlow_14 : decode cX4_stockByFlow 14 = .ok (.ireturn, 1) := by decide +kernel
end
section
/-! the line as numbers and lists: what the class and the reference both hold -/
def mU : List (Nat × Nat) → Nat
  | [] => 0
  | x :: t => x.1 + mU t
def mCs : List (Nat × Nat) → Nat
  | [] => 0
  | x :: t => x.2 + mCs t
def mg (L : List (Nat × Nat)) (i : Nat) : Nat × Nat := L.getD i (0, 0)
/-- the places of a row hold the list -/
def mR (L : List (Nat × Nat)) (u c : Nat → Int32) : Prop := ∀ i : Nat, i < L.length → u i = nI (mg L i).1 ∧ c i = nI (mg L i).2
def mOk : List (Nat × Nat) → Prop
  | [] => True
  | x :: t => 1 ≤ x.1 ∧ x.1 ≤ 10 ∧ x.2 ≤ 1 ∧ ∀ y ∈ t, 1 ≤ y.1 ∧ y.1 ≤ 10 ∧ y.2 = 1
theorem mg_cons0 (x : Nat × Nat) (t : List (Nat × Nat)) : mg (x :: t) 0 = x := rfl
theorem mg_succ (x : Nat × Nat) (t : List (Nat × Nat)) (i : Nat) : mg (x :: t) (i + 1) = mg t i := rfl
theorem mg_mem {L : List (Nat × Nat)} {i : Nat} (h : i < L.length) : mg L i ∈ L := by
  unfold mg
  rw [List.getD_eq_getElem?_getD, List.getElem?_eq_getElem h]
  exact List.getElem_mem h
theorem mU_take {L : List (Nat × Nat)} {i : Nat} (h : i < L.length) : mU (L.take (i + 1)) = mU (L.take i) + (mg L i).1 := by
  induction L generalizing i with
  | nil => cases h
  | cons x t ih =>
    cases i with
    | zero => simp [mU, mg]
    | succ i =>
      have := ih (Nat.lt_of_succ_lt_succ h)
      simp only [List.take_succ_cons, mU, mg_succ, this]
      omega
theorem mCs_take {L : List (Nat × Nat)} {i : Nat} (h : i < L.length) : mCs (L.take (i + 1)) = mCs (L.take i) + (mg L i).2 := by
  induction L generalizing i with
  | nil => cases h
  | cons x t ih =>
    cases i with
    | zero => simp [mCs, mg]
    | succ i =>
      have := ih (Nat.lt_of_succ_lt_succ h)
      simp only [List.take_succ_cons, mCs, mg_succ, this]
      omega
theorem mU_app (a b : List (Nat × Nat)) : mU (a ++ b) = mU a + mU b := by
  induction a with
  | nil => simp [mU]
  | cons x t ih => simp only [List.cons_append, mU, ih]; omega
theorem mCs_app (a b : List (Nat × Nat)) : mCs (a ++ b) = mCs a + mCs b := by
  induction a with
  | nil => simp [mCs]
  | cons x t ih => simp only [List.cons_append, mCs, ih]; omega
theorem mOk_1 {L : List (Nat × Nat)} (h : mOk L) {x : Nat × Nat} (hx : x ∈ L) : 1 ≤ x.1 ∧ x.1 ≤ 10 ∧ x.2 ≤ 1 := by
  cases L with
  | nil => cases hx
  | cons y t =>
    obtain ⟨h1, h2, h3, h4⟩ := h
    rcases List.mem_cons.mp hx with e | e
    · rw [e]; exact ⟨h1, h2, h3⟩
    · have := h4 x e
      omega
theorem mOk_tail {x : Nat × Nat} {t : List (Nat × Nat)} (h : mOk (x :: t)) : mOk t := by
  cases t with
  | nil => trivial
  | cons y t =>
    obtain ⟨-, -, -, h4⟩ := h
    have h5 := h4 y List.mem_cons_self
    exact ⟨h5.1, h5.2.1, Nat.le_of_eq h5.2.2, fun z hz => h4 z (List.mem_cons_of_mem _ hz)⟩
theorem mCs_all {L : List (Nat × Nat)} (h : ∀ y ∈ L, 1 ≤ y.1 ∧ y.1 ≤ 10 ∧ y.2 = 1) : mCs L = L.length := by
  induction L with
  | nil => rfl
  | cons x t ih =>
    have h1 := h x List.mem_cons_self
    have h2 := ih (fun y hy => h y (List.mem_cons_of_mem _ hy))
    simp only [mCs, List.length_cons, h2, h1.2.2]
    omega
theorem mOk_len {L : List (Nat × Nat)} (h : mOk L) : L.length ≤ mCs L + 1 := by
  cases L with
  | nil => simp [mCs]
  | cons x t =>
    have := mCs_all h.2.2.2
    simp only [mCs, List.length_cons]
    omega
theorem mOk_snoc {L : List (Nat × Nat)} {u : Nat} (h : mOk L) (h1 : 1 ≤ u) (h2 : u ≤ 10) : mOk (L ++ [(u, 1)]) := by
  cases L with
  | nil => exact ⟨h1, h2, Nat.le_refl 1, fun y hy => by cases hy⟩
  | cons x t =>
    obtain ⟨a, b, c, d⟩ := h
    refine ⟨a, b, c, fun y hy => ?_⟩
    rcases List.mem_append.mp hy with e | e
    · exact d y e
    · rw [List.mem_singleton.mp e]
      exact ⟨h1, h2, rfl⟩
theorem mR_snoc {L : List (Nat × Nat)} {u c : Nat → Int32} {x y : Nat} (h : mR L u c) : mR (L ++ [(x, y)]) (upd u L.length (nI x)) (upd c L.length (nI y)) := by
  intro i hi
  rw [List.length_append, List.length_singleton] at hi
  unfold mg upd
  by_cases e : i = L.length
  · subst e
    simp
  · have hl : i < L.length := by omega
    have := h i hl
    simp only [e, if_false]
    rw [List.getD_eq_getElem?_getD, List.getElem?_append_left hl, ← List.getD_eq_getElem?_getD]
    exact this
theorem mR_nil {u c : Nat → Int32} : mR [] u c := fun i h => by cases h
/-- w units taken out, the rule FIRST where r: what is left, and how many cards come off -/
def mTake : List (Nat × Nat) → Nat → Bool → List (Nat × Nat) × Nat
  | [], _, _ => ([], 0)
  | x :: t, w, r => if w = 0 then (x :: t, 0) else if x.1 ≤ w then ((mTake t (w - x.1) r).1, (mTake t (w - x.1) r).2 + x.2) else if r = true then ((x.1 - w, 0) :: t, x.2) else ((x.1 - w, x.2) :: t, 0)
theorem mTake_0 (L : List (Nat × Nat)) (r : Bool) : mTake L 0 r = (L, 0) := by
  cases L <;> simp [mTake]
theorem mTake_U (L : List (Nat × Nat)) (w : Nat) (r : Bool) (h : w ≤ mU L) : mU (mTake L w r).1 + w = mU L := by
  induction L generalizing w with
  | nil => simp [mTake, mU] at *; omega
  | cons x t ih =>
    simp only [mU] at h
    unfold mTake
    split
    · subst w; simp [mU]
    · split
      · have := ih (w - x.1) (by omega)
        simp only [mU]; omega
      · split <;> (simp only [mU]; omega)
theorem mTake_Cs (L : List (Nat × Nat)) (w : Nat) (r : Bool) : mCs (mTake L w r).1 + (mTake L w r).2 = mCs L := by
  induction L generalizing w with
  | nil => simp [mTake, mCs]
  | cons x t ih =>
    unfold mTake
    split
    · simp
    · split
      · have := ih (w - x.1)
        simp only [mCs]; omega
      · split <;> (simp only [mCs]; omega)
theorem mTake_ok {L : List (Nat × Nat)} (h : mOk L) (w : Nat) (r : Bool) : mOk (mTake L w r).1 := by
  induction L generalizing w with
  | nil => simp [mTake, mOk]
  | cons x t ih =>
    unfold mTake
    split
    · exact h
    · split
      · exact ih (mOk_tail h) _
      · obtain ⟨a, b, c, d⟩ := h
        split
        · exact ⟨by show 1 ≤ x.1 - w; omega, by show x.1 - w ≤ 10; omega, Nat.zero_le 1, d⟩
        · exact ⟨by show 1 ≤ x.1 - w; omega, by show x.1 - w ≤ 10; omega, c, d⟩
theorem mTake_len (L : List (Nat × Nat)) (w : Nat) (r : Bool) : (mTake L w r).1.length ≤ L.length := by
  induction L generalizing w with
  | nil => simp [mTake]
  | cons x t ih =>
    unfold mTake
    split
    · simp
    · split
      · have := ih (w - x.1)
        simp only [List.length_cons]; omega
      · split <;> simp
end
section
/-! Store: its worlds and contracts -/
abbrev wSt (K : kE) (a0 a1 a2 : Nat) (u c : Nat → Int32) (z : Nat) : va_W := [kO a0 2 [.ref a1, .ref a2, .int (nI z)], kI K a1 10 u, kZ K a2 10 c]
theorem kmin_le {a b : Nat} (ha : a < 2 ^ 31) (hb : b < 2 ^ 31) (h : a ≤ b) : (if nI a < nI b then nI a else nI b) = nI a := by
  by_cases e : a = b
  · subst e; simp
  · rw [if_pos ((nI_ltI ha hb).mpr (by omega))]
theorem kmin_gt {a b : Nat} (ha : a < 2 ^ 31) (hb : b < 2 ^ 31) (h : b ≤ a) : (if nI a < nI b then nI a else nI b) = nI b := by
  rw [if_neg (fun q => by have := (nI_ltI ha hb).mp q; omega)]
theorem kB_ne {r : Bool} : ¬ kB r = 0 ↔ r = true := by cases r <;> decide
theorem kB_eq {r : Bool} : kB r = 0 ↔ r = false := by cases r <;> decide
def mSh (L : List (Nat × Nat)) (k : Nat) (u c : Nat → Int32) : Prop := ∀ j : Nat, j < L.length → (j < k → u j = nI (mg L (j + 1)).1 ∧ c j = nI (mg L (j + 1)).2) ∧ (k ≤ j → u j = nI (mg L j).1 ∧ c j = nI (mg L j).2)
theorem mSh_0 {L : List (Nat × Nat)} {u c : Nat → Int32} (h : mR L u c) : mSh L 0 u c := fun j hj => ⟨fun q => absurd q (Nat.not_lt_zero j), fun _ => h j hj⟩
theorem mSh_step {L : List (Nat × Nat)} {k : Nat} {u c : Nat → Int32} (h : mSh L k u c) (hk : k + 1 < L.length) : mSh L (k + 1) (upd u k (u (k + 1))) (upd c k (c (k + 1))) := by
  intro j hj
  have hj2 := h j hj
  unfold upd
  by_cases e : j = k
  · subst e
    have := (h (j + 1) hk).2 (by omega)
    simp only [if_true]
    exact ⟨fun _ => this, fun q => by omega⟩
  · simp only [e, if_false]
    exact ⟨fun q => hj2.1 (by omega), fun q => hj2.2 (by omega)⟩
theorem mSh_end {x : Nat × Nat} {t : List (Nat × Nat)} {u c : Nat → Int32} (h : mSh (x :: t) t.length u c) : mR t u c := by
  intro i hi
  have := (h i (by rw [List.length_cons]; omega)).1 hi
  rw [mg_succ] at this
  exact this
theorem mR_set0 {x : Nat × Nat} {t : List (Nat × Nat)} {u c : Nat → Int32} (h : mR (x :: t) u c) (a : Nat) : mR ((a, x.2) :: t) (upd u 0 (nI a)) c := by
  intro i hi
  have h1 := h i hi
  cases i with
  | zero => exact ⟨by simp [upd, mg], h1.2⟩
  | succ i => rw [mg_succ] at *; exact ⟨by simp [upd]; exact h1.1, h1.2⟩
theorem mR_set1 {x : Nat × Nat} {t : List (Nat × Nat)} {u c : Nat → Int32} (h : mR (x :: t) u c) (b : Nat) : mR ((x.1, b) :: t) u (upd c 0 (nI b)) := by
  intro i hi
  have h1 := h i hi
  cases i with
  | zero => exact ⟨h1.1, by simp [upd, mg]⟩
  | succ i => rw [mg_succ] at *; exact ⟨h1.1, by simp [upd]; exact h1.2⟩
theorem kz_n1 {b : Nat} (h : b ≤ 1) : vp_nar .boolean (nI b) = nI b := by
  have : b = 0 ∨ b = 1 := by omega
  rcases this with rfl | rfl <;> rfl
abbrev rmX2_allUnits : Room := { frames := 0, cells := 0, slots := 0, locals := 0 }
set_option maxRecDepth 100000 in
set_option maxHeartbeats 4000000 in
theorem cX2_allUnits_k (l : Launch) (K : kE) (a0 a1 a2 : Nat) (u c : Nat → Int32) (L : List (Nat × Nat)) (hL : L.length ≤ 10) (hR : mR L u c) : kM l yX2_allUnits (kws yX2_allUnits cX2_allUnits 3 (some .int)) rmX2_allUnits K [.ref a0] (wSt K a0 a1 a2 u c L.length) (fun v w => v = some (.int (nI (mU L))) ∧ w = wSt K a0 a1 a2 u c L.length) := by
  refine kM_of (pl := []) (X := (wSt K a0 a1 a2 u c L.length)) rfl (by decide) (Nat.le_of_ble_eq_true rfl) ?_
  intro p e s m args below meth cd A Q hC hnm hE
  refine k_eX (show _ = [kO a0 2 [.ref a1, .ref a2, .int (nI L.length)], kI K a1 10 u, kZ K a2 10 c] from rfl) ?_
  refine k_iconst hC (nI 0) dX2_allUnits_0 rfl ?_
  refine k_istore_n hC 1 dX2_allUnits_1 rfl (by decide) rfl [(0, .ref a0), (1, .int (nI 0))] rfl ?_
  refine k_iconst hC (nI 0) dX2_allUnits_2 rfl ?_
  refine k_istore_n hC 2 dX2_allUnits_3 rfl (by decide) rfl [(0, .ref a0), (1, .int (nI 0)), (2, .int (nI 0))] rfl ?_
  have loop : ∀ (n i sm : Nat), n + i = L.length + 1 → i ≤ L.length → sm = mU (L.take i) → kW p l e rmX2_allUnits s m args below meth cd K A 3 Q 0 0 ([]) [kO a0 2 [.ref a1, .ref a2, .int (nI L.length)], kI K a1 10 u, kZ K a2 10 c] [(0, .ref a0), (1, .int (nI sm)), (2, .int (nI i))] 4 [] := by
    intro n
    induction n with
    | zero => intro i sm h1 h2; exact absurd h1 (by omega)
    | succ n ih =>
      intro i sm h1 h2 hs
      refine k_iload_n hC 2 dX2_allUnits_4 rfl rfl ?_
      refine k_aload_n hC 0 dX2_allUnits_5 rfl rfl ?_
      refine k_get hC inlX2 0 2 rfl rfl (by decide) lkF_X2_25 rfl dX2_allUnits_6 ?_
      refine k_icmp_geN hC 33 dX2_allUnits_9 (by decide) (by omega) (by omega) (fun c1 => ?_) (fun c1 => ?_)
      · refine k_iload_n hC 1 dX2_allUnits_33 rfl rfl ?_
        exact k_iret hC hE (Nat.le_of_ble_eq_true rfl) (Nat.le_of_ble_eq_true rfl) dX2_allUnits_34 ⟨by rw [hs, show i = L.length by omega, List.take_length], rfl⟩
      · refine k_iload_n hC 2 dX2_allUnits_12 rfl rfl ?_
        refine k_bipush hC (nI 10) dX2_allUnits_13 rfl ?_
        refine k_icmp_geN hC 33 dX2_allUnits_15 (by decide) (by omega) (by omega) (fun c2 => ?_) (fun c2 => ?_)
        · exact absurd c2 (by omega)
        · have hi : i < L.length := by omega
          refine k_iload_n hC 1 dX2_allUnits_18 rfl rfl ?_
          refine k_aload_n hC 0 dX2_allUnits_19 rfl rfl ?_
          refine k_get hC inlX2 0 0 rfl rfl (by decide) lkF_X2_11 rfl dX2_allUnits_20 ?_
          refine k_iload_n hC 2 dX2_allUnits_23 rfl rfl ?_
          refine k_ald hC 1 rfl (by omega) (by decide) dX2_allUnits_24 ?_
          refine k_topE (nI ((mg L i).1)) (hR i hi).1 ?_
          refine k_iaddN hC dX2_allUnits_25 ?_
          refine k_istore_n hC 1 dX2_allUnits_26 rfl (by decide) rfl [(0, .ref a0), (1, .int (nI (sm + ((mg L i).1)))), (2, .int (nI i))] rfl ?_
          refine k_iinc hC dX2_allUnits_27 (by decide) rfl rfl (nI (i + 1)) (kinc i 1 rfl) [(0, .ref a0), (1, .int (nI (sm + ((mg L i).1)))), (2, .int (nI (i + 1)))] rfl ?_
          refine k_goto hC 4 dX2_allUnits_30 (by decide) ?_
          exact ih (i + 1) _ (by omega) (by omega) (by rw [mU_take hi, hs])
  exact loop (L.length + 1) 0 0 (by omega) (by omega) rfl
abbrev rmX2_cardsOn : Room := { frames := 0, cells := 0, slots := 0, locals := 0 }
set_option maxRecDepth 100000 in
set_option maxHeartbeats 4000000 in
theorem cX2_cardsOn_k (l : Launch) (K : kE) (a0 a1 a2 : Nat) (u c : Nat → Int32) (L : List (Nat × Nat)) (hL : L.length ≤ 10) (hR : mR L u c) (h1c : ∀ i, i < L.length → (mg L i).2 ≤ 1) : kM l yX2_cardsOn (kws yX2_cardsOn cX2_cardsOn 3 (some .int)) rmX2_cardsOn K [.ref a0] (wSt K a0 a1 a2 u c L.length) (fun v w => v = some (.int (nI (mCs L))) ∧ w = wSt K a0 a1 a2 u c L.length) := by
  refine kM_of (pl := []) (X := (wSt K a0 a1 a2 u c L.length)) rfl (by decide) (Nat.le_of_ble_eq_true rfl) ?_
  intro p e s m args below meth cd A Q hC hnm hE
  refine k_eX (show _ = [kO a0 2 [.ref a1, .ref a2, .int (nI L.length)], kI K a1 10 u, kZ K a2 10 c] from rfl) ?_
  refine k_iconst hC (nI 0) dX2_cardsOn_0 rfl ?_
  refine k_istore_n hC 1 dX2_cardsOn_1 rfl (by decide) rfl [(0, .ref a0), (1, .int (nI 0))] rfl ?_
  refine k_iconst hC (nI 0) dX2_cardsOn_2 rfl ?_
  refine k_istore_n hC 2 dX2_cardsOn_3 rfl (by decide) rfl [(0, .ref a0), (1, .int (nI 0)), (2, .int (nI 0))] rfl ?_
  have loop : ∀ (n i sm : Nat), n + i = L.length + 1 → i ≤ L.length → sm = mCs (L.take i) → kW p l e rmX2_cardsOn s m args below meth cd K A 3 Q 0 0 ([]) [kO a0 2 [.ref a1, .ref a2, .int (nI L.length)], kI K a1 10 u, kZ K a2 10 c] [(0, .ref a0), (1, .int (nI sm)), (2, .int (nI i))] 4 [] := by
    intro n
    induction n with
    | zero => intro i sm h1 h2; exact absurd h1 (by omega)
    | succ n ih =>
      intro i sm h1 h2 hs
      refine k_iload_n hC 2 dX2_cardsOn_4 rfl rfl ?_
      refine k_aload_n hC 0 dX2_cardsOn_5 rfl rfl ?_
      refine k_get hC inlX2 0 2 rfl rfl (by decide) lkF_X2_25 rfl dX2_cardsOn_6 ?_
      refine k_icmp_geN hC 36 dX2_cardsOn_9 (by decide) (by omega) (by omega) (fun c1 => ?_) (fun c1 => ?_)
      · refine k_iload_n hC 1 dX2_cardsOn_36 rfl rfl ?_
        exact k_iret hC hE (Nat.le_of_ble_eq_true rfl) (Nat.le_of_ble_eq_true rfl) dX2_cardsOn_37 ⟨by rw [hs, show i = L.length by omega, List.take_length], rfl⟩
      · refine k_iload_n hC 2 dX2_cardsOn_12 rfl rfl ?_
        refine k_bipush hC (nI 10) dX2_cardsOn_13 rfl ?_
        refine k_icmp_geN hC 36 dX2_cardsOn_15 (by decide) (by omega) (by omega) (fun c2 => ?_) (fun c2 => ?_)
        · exact absurd c2 (by omega)
        · have hi : i < L.length := by omega
          refine k_aload_n hC 0 dX2_cardsOn_18 rfl rfl ?_
          refine k_get hC inlX2 0 1 rfl rfl (by decide) lkF_X2_15 rfl dX2_cardsOn_19 ?_
          refine k_iload_n hC 2 dX2_cardsOn_22 rfl rfl ?_
          refine k_zald hC 2 rfl (by omega) (by decide) dX2_cardsOn_23 ?_
          have h3 := h1c i hi
          refine k_topE (nI ((mg L i).2)) (hR i hi).2 ?_
          refine k_if_eqN hC 30 dX2_cardsOn_24 (by decide) (by omega) (fun c3 => ?_) (fun c3 => ?_)
          · refine k_iinc hC dX2_cardsOn_30 (by decide) rfl rfl (nI (i + 1)) (kinc i 1 rfl) [(0, .ref a0), (1, .int (nI sm)), (2, .int (nI (i + 1)))] rfl ?_
            refine k_goto hC 4 dX2_cardsOn_33 (by decide) ?_
            exact ih (i + 1) _ (by omega) (by omega) (by rw [mCs_take hi, hs]; omega)
          · refine k_iinc hC dX2_cardsOn_27 (by decide) rfl rfl (nI (sm + 1)) (kinc sm 1 rfl) [(0, .ref a0), (1, .int (nI (sm + 1))), (2, .int (nI i))] rfl ?_
            refine k_iinc hC dX2_cardsOn_30 (by decide) rfl rfl (nI (i + 1)) (kinc i 1 rfl) [(0, .ref a0), (1, .int (nI (sm + 1))), (2, .int (nI (i + 1)))] rfl ?_
            refine k_goto hC 4 dX2_cardsOn_33 (by decide) ?_
            exact ih (i + 1) _ (by omega) (by omega) (by rw [mCs_take hi, hs]; omega)
  exact loop (L.length + 1) 0 0 (by omega) (by omega) rfl
abbrev rmX2_headUnits : Room := { frames := 0, cells := 0, slots := 0, locals := 0 }
set_option maxRecDepth 100000 in
set_option maxHeartbeats 4000000 in
theorem cX2_headUnits_k (l : Launch) (K : kE) (a0 a1 a2 : Nat) (u c : Nat → Int32) (L : List (Nat × Nat)) (hL : L.length ≤ 10) (hR : mR L u c) : kM l yX2_headUnits (kws yX2_headUnits cX2_headUnits 1 (some .int)) rmX2_headUnits K [.ref a0] (wSt K a0 a1 a2 u c L.length) (fun v w => v = some (.int (nI (mg L 0).1)) ∧ w = wSt K a0 a1 a2 u c L.length) := by
  refine kM_of (pl := []) (X := (wSt K a0 a1 a2 u c L.length)) rfl (by decide) (Nat.le_of_ble_eq_true rfl) ?_
  intro p e s m args below meth cd A Q hC hnm hE
  refine k_eX (show _ = [kO a0 2 [.ref a1, .ref a2, .int (nI L.length)], kI K a1 10 u, kZ K a2 10 c] from rfl) ?_
  refine k_aload_n hC 0 dX2_headUnits_0 rfl rfl ?_
  refine k_get hC inlX2 0 2 rfl rfl (by decide) lkF_X2_25 rfl dX2_headUnits_1 ?_
  refine k_if_leN hC 16 dX2_headUnits_4 (by decide) (by omega) (fun c1 => ?_) (fun c1 => ?_)
  · refine k_iconst hC (nI 0) dX2_headUnits_16 rfl ?_
    exact k_iret hC hE (Nat.le_of_ble_eq_true rfl) (Nat.le_of_ble_eq_true rfl) dX2_headUnits_17 ⟨by rw [List.length_eq_zero_iff.mp (by omega : L.length = 0)]; rfl, rfl⟩
  · refine k_aload_n hC 0 dX2_headUnits_7 rfl rfl ?_
    refine k_get hC inlX2 0 0 rfl rfl (by decide) lkF_X2_11 rfl dX2_headUnits_8 ?_
    refine k_iconst hC (nI 0) dX2_headUnits_11 rfl ?_
    refine k_ald hC 1 rfl (by omega) (by decide) dX2_headUnits_12 ?_
    refine k_topE (nI ((mg L 0).1)) (hR 0 (by omega)).1 ?_
    refine k_goto hC 17 dX2_headUnits_13 (by decide) ?_
    exact k_iret hC hE (Nat.le_of_ble_eq_true rfl) (Nat.le_of_ble_eq_true rfl) dX2_headUnits_17 ⟨rfl, rfl⟩
abbrev rmX2_headIsCarded : Room := { frames := 0, cells := 0, slots := 0, locals := 0 }
set_option maxRecDepth 100000 in
set_option maxHeartbeats 4000000 in
theorem cX2_headIsCarded_k (l : Launch) (K : kE) (a0 a1 a2 : Nat) (u c : Nat → Int32) (L : List (Nat × Nat)) (hL : L.length ≤ 10) (hR : mR L u c) (h1c : ∀ i, i < L.length → (mg L i).2 ≤ 1) : kM l yX2_headIsCarded (kws yX2_headIsCarded cX2_headIsCarded 1 (some .boolean)) rmX2_headIsCarded K [.ref a0] (wSt K a0 a1 a2 u c L.length) (fun v w => v = some (.int (nI (mg L 0).2)) ∧ w = wSt K a0 a1 a2 u c L.length) := by
  refine kM_of (pl := []) (X := (wSt K a0 a1 a2 u c L.length)) rfl (by decide) (Nat.le_of_ble_eq_true rfl) ?_
  intro p e s m args below meth cd A Q hC hnm hE
  refine k_eX (show _ = [kO a0 2 [.ref a1, .ref a2, .int (nI L.length)], kI K a1 10 u, kZ K a2 10 c] from rfl) ?_
  refine k_aload_n hC 0 dX2_headIsCarded_0 rfl rfl ?_
  refine k_get hC inlX2 0 2 rfl rfl (by decide) lkF_X2_25 rfl dX2_headIsCarded_1 ?_
  refine k_if_leN hC 20 dX2_headIsCarded_4 (by decide) (by omega) (fun c1 => ?_) (fun c1 => ?_)
  · refine k_iconst hC (nI 0) dX2_headIsCarded_20 rfl ?_
    exact k_zret hC hE (Nat.le_of_ble_eq_true rfl) (Nat.le_of_ble_eq_true rfl) rfl dX2_headIsCarded_21 ⟨by rw [List.length_eq_zero_iff.mp (by omega : L.length = 0)]; rfl, rfl⟩
  · refine k_aload_n hC 0 dX2_headIsCarded_7 rfl rfl ?_
    refine k_get hC inlX2 0 1 rfl rfl (by decide) lkF_X2_15 rfl dX2_headIsCarded_8 ?_
    refine k_iconst hC (nI 0) dX2_headIsCarded_11 rfl ?_
    refine k_zald hC 2 rfl (by omega) (by decide) dX2_headIsCarded_12 ?_
    have h3 := h1c 0 (by omega)
    refine k_topE (nI ((mg L 0).2)) (hR 0 (by omega)).2 ?_
    refine k_if_eqN hC 20 dX2_headIsCarded_13 (by decide) (by omega) (fun c2 => ?_) (fun c2 => ?_)
    · refine k_iconst hC (nI 0) dX2_headIsCarded_20 rfl ?_
      exact k_zret hC hE (Nat.le_of_ble_eq_true rfl) (Nat.le_of_ble_eq_true rfl) rfl dX2_headIsCarded_21 ⟨by rw [show (mg L 0).2 = 0 by omega], rfl⟩
    · refine k_iconst hC (nI 1) dX2_headIsCarded_16 rfl ?_
      refine k_goto hC 21 dX2_headIsCarded_17 (by decide) ?_
      exact k_zret hC hE (Nat.le_of_ble_eq_true rfl) (Nat.le_of_ble_eq_true rfl) rfl dX2_headIsCarded_21 ⟨by rw [show (mg L 0).2 = 1 by omega], rfl⟩
abbrev rmX2_add : Room := { frames := 0, cells := 0, slots := 0, locals := 0 }
set_option maxRecDepth 100000 in
set_option maxHeartbeats 4000000 in
theorem cX2_add_k (l : Launch) (K : kE) (a0 a1 a2 : Nat) (u c : Nat → Int32) (L : List (Nat × Nat)) (x : Nat) (hL : L.length < 10) (hR : mR L u c) : kM l yX2_add (kws yX2_add cX2_add 2 none) rmX2_add K [.ref a0, .int (nI x)] (wSt K a0 a1 a2 u c L.length) (fun v w => v = none ∧ ∃ u2 c2 : Nat → Int32, w = wSt K a0 a1 a2 u2 c2 (L ++ [(x, 1)]).length ∧ mR (L ++ [(x, 1)]) u2 c2) := by
  refine kM_of (pl := []) (X := (wSt K a0 a1 a2 u c L.length)) rfl (by decide) (Nat.le_of_ble_eq_true rfl) ?_
  intro p e s m args below meth cd A Q hC hnm hE
  refine k_eX (show _ = [kO a0 2 [.ref a1, .ref a2, .int (nI L.length)], kI K a1 10 u, kZ K a2 10 c] from rfl) ?_
  refine k_aload_n hC 0 dX2_add_0 rfl rfl ?_
  refine k_get hC inlX2 0 2 rfl rfl (by decide) lkF_X2_25 rfl dX2_add_1 ?_
  refine k_if_lt hC 46 dX2_add_4 (by decide) (fun c1 => ?_) (fun c1 => ?_)
  · exact absurd c1 (fun q => by have := nI_pos (n := L.length) (by omega); exact this q)
  · refine k_aload_n hC 0 dX2_add_7 rfl rfl ?_
    refine k_get hC inlX2 0 2 rfl rfl (by decide) lkF_X2_25 rfl dX2_add_8 ?_
    refine k_bipush hC (nI 10) dX2_add_11 rfl ?_
    refine k_icmp_geN hC 46 dX2_add_13 (by decide) (by omega) (by omega) (fun c2 => ?_) (fun c2 => ?_)
    · exact absurd c2 (by omega)
    · refine k_aload_n hC 0 dX2_add_16 rfl rfl ?_
      refine k_get hC inlX2 0 0 rfl rfl (by decide) lkF_X2_11 rfl dX2_add_17 ?_
      refine k_aload_n hC 0 dX2_add_20 rfl rfl ?_
      refine k_get hC inlX2 0 2 rfl rfl (by decide) lkF_X2_25 rfl dX2_add_21 ?_
      refine k_iload_n hC 1 dX2_add_24 rfl rfl ?_
      refine k_ast hC 1 rfl (by omega) (by decide) dX2_add_25 [kO a0 2 [.ref a1, .ref a2, .int (nI L.length)], kI K a1 10 (upd u L.length (nI x)), kZ K a2 10 c] rfl ?_
      refine k_aload_n hC 0 dX2_add_26 rfl rfl ?_
      refine k_get hC inlX2 0 1 rfl rfl (by decide) lkF_X2_15 rfl dX2_add_27 ?_
      refine k_aload_n hC 0 dX2_add_30 rfl rfl ?_
      refine k_get hC inlX2 0 2 rfl rfl (by decide) lkF_X2_25 rfl dX2_add_31 ?_
      refine k_iconst hC (nI 1) dX2_add_34 rfl ?_
      refine k_zast hC 2 rfl (by omega) (by decide) rfl dX2_add_35 [kO a0 2 [.ref a1, .ref a2, .int (nI L.length)], kI K a1 10 (upd u L.length (nI x)), kZ K a2 10 (upd c L.length (nI 1))] rfl ?_
      refine k_aload_n hC 0 dX2_add_36 rfl rfl ?_
      refine k_dup hC dX2_add_37 rfl ?_
      refine k_get hC inlX2 0 2 rfl rfl (by decide) lkF_X2_25 rfl dX2_add_38 ?_
      refine k_iconst hC (nI 1) dX2_add_41 rfl ?_
      refine k_iaddN hC dX2_add_42 ?_
      refine k_put hC inlX2 tyX2_ok nmX2 0 2 rfl rfl (by decide) lkF_X2_25 rfl rfl rfl (Nat.le_of_ble_eq_true rfl) dX2_add_43 [kO a0 2 [.ref a1, .ref a2, .int (nI (L.length + 1))], kI K a1 10 (upd u L.length (nI x)), kZ K a2 10 (upd c L.length (nI 1))] rfl ?_
      exact k_vret hC hE (Nat.le_of_ble_eq_true rfl) (Nat.le_of_ble_eq_true rfl) dX2_add_46 ⟨rfl, _, _, by rw [List.length_append, List.length_singleton]; rfl, mR_snoc hR⟩
abbrev rmX2_removeHead : Room := { frames := 0, cells := 0, slots := 0, locals := 0 }
set_option maxRecDepth 100000 in
set_option maxHeartbeats 4000000 in
theorem cX2_removeHead_k (l : Launch) (K : kE) (a0 a1 a2 : Nat) (u c : Nat → Int32) (x : Nat × Nat) (t : List (Nat × Nat)) (hL : (x :: t).length ≤ 10) (hR : mR (x :: t) u c) (h1c : ∀ i, i < (x :: t).length → (mg (x :: t) i).2 ≤ 1) : kM l yX2_removeHead (kws yX2_removeHead cX2_removeHead 2 none) rmX2_removeHead K [.ref a0] (wSt K a0 a1 a2 u c (x :: t).length) (fun v w => v = none ∧ ∃ u2 c2 : Nat → Int32, w = wSt K a0 a1 a2 u2 c2 t.length ∧ mR t u2 c2) := by
  refine kM_of (pl := []) (X := (wSt K a0 a1 a2 u c (x :: t).length)) rfl (by decide) (Nat.le_of_ble_eq_true rfl) ?_
  intro p e s m args below meth cd A Q hC hnm hE
  refine k_eX (show _ = [kO a0 2 [.ref a1, .ref a2, .int (nI ((x :: t).length))], kI K a1 10 u, kZ K a2 10 c] from rfl) ?_
  rw [List.length_cons] at hL
  have e0 : (x :: t).length = t.length + 1 := rfl
  refine k_aload_n hC 0 dX2_removeHead_0 rfl rfl ?_
  refine k_get hC inlX2 0 2 rfl rfl (by decide) lkF_X2_25 rfl dX2_removeHead_1 ?_
  refine k_iconst hC (nI 1) dX2_removeHead_4 rfl ?_
  refine k_icmp_geN hC 9 dX2_removeHead_5 (by decide) (by omega) (by omega) (fun c1 => ?_) (fun c1 => ?_)
  · refine k_iconst hC (nI 1) dX2_removeHead_9 rfl ?_
    refine k_istore_n hC 1 dX2_removeHead_10 rfl (by decide) rfl [(0, .ref a0), (1, .int (nI 1))] rfl ?_
    have loop : ∀ (n k : Nat) (u9 c9 : Nat → Int32), n + k = t.length + 1 → k ≤ t.length → mSh (x :: t) k u9 c9 → kW p l e rmX2_removeHead s m args below meth cd K A 2 Q 0 0 ([]) [kO a0 2 [.ref a1, .ref a2, .int (nI ((x :: t).length))], kI K a1 10 u9, kZ K a2 10 c9] [(0, .ref a0), (1, .int (nI (k + 1)))] 11 [] := by
      intro n
      induction n with
      | zero => intro k u9 c9 h1 h2; exact absurd h1 (by omega)
      | succ n ih =>
        intro k u9 c9 h1 h2 hs
        refine k_iload_n hC 1 dX2_removeHead_11 rfl rfl ?_
        refine k_aload_n hC 0 dX2_removeHead_12 rfl rfl ?_
        refine k_get hC inlX2 0 2 rfl rfl (by decide) lkF_X2_25 rfl dX2_removeHead_13 ?_
        refine k_icmp_geN hC 59 dX2_removeHead_16 (by decide) (by omega) (by omega) (fun c2 => ?_) (fun c2 => ?_)
        · obtain rfl : k = t.length := by omega
          refine k_aload_n hC 0 dX2_removeHead_59 rfl rfl ?_
          refine k_dup hC dX2_removeHead_60 rfl ?_
          refine k_get hC inlX2 0 2 rfl rfl (by decide) lkF_X2_25 rfl dX2_removeHead_61 ?_
          refine k_iconst hC (nI 1) dX2_removeHead_64 rfl ?_
          refine k_isubN hC dX2_removeHead_65 (by omega) ?_
          refine k_put hC inlX2 tyX2_ok nmX2 0 2 rfl rfl (by decide) lkF_X2_25 rfl rfl rfl (Nat.le_of_ble_eq_true rfl) dX2_removeHead_66 [kO a0 2 [.ref a1, .ref a2, .int (nI (((x :: t).length) - 1))], kI K a1 10 u9, kZ K a2 10 c9] rfl ?_
          exact k_vret hC hE (Nat.le_of_ble_eq_true rfl) (Nat.le_of_ble_eq_true rfl) dX2_removeHead_69 ⟨rfl, u9, c9, rfl, mSh_end hs⟩
        · refine k_iload_n hC 1 dX2_removeHead_19 rfl rfl ?_
          refine k_bipush hC (nI 10) dX2_removeHead_20 rfl ?_
          refine k_icmp_geN hC 59 dX2_removeHead_22 (by decide) (by omega) (by omega) (fun c3 => ?_) (fun c3 => ?_)
          · exact absurd c3 (by omega)
          · refine k_aload_n hC 0 dX2_removeHead_25 rfl rfl ?_
            refine k_get hC inlX2 0 0 rfl rfl (by decide) lkF_X2_11 rfl dX2_removeHead_26 ?_
            refine k_iload_n hC 1 dX2_removeHead_29 rfl rfl ?_
            refine k_iconst hC (nI 1) dX2_removeHead_30 rfl ?_
            refine k_isubN hC dX2_removeHead_31 (by omega) ?_
            refine k_topE (nI k) rfl ?_
            refine k_aload_n hC 0 dX2_removeHead_32 rfl rfl ?_
            refine k_get hC inlX2 0 0 rfl rfl (by decide) lkF_X2_11 rfl dX2_removeHead_33 ?_
            refine k_iload_n hC 1 dX2_removeHead_36 rfl rfl ?_
            refine k_ald hC 1 rfl (by omega) (by decide) dX2_removeHead_37 ?_
            refine k_ast hC 1 rfl (by omega) (by decide) dX2_removeHead_38 [kO a0 2 [.ref a1, .ref a2, .int (nI ((x :: t).length))], kI K a1 10 (upd u9 k (u9 (k + 1))), kZ K a2 10 c9] rfl ?_
            have h3 := h1c (k + 1) (by omega)
            have h4 : vp_nar .boolean (c9 (k + 1)) = c9 (k + 1) := by rw [((hs (k + 1) (by omega)).2 (by omega)).2]; exact kz_n1 h3
            refine k_aload_n hC 0 dX2_removeHead_39 rfl rfl ?_
            refine k_get hC inlX2 0 1 rfl rfl (by decide) lkF_X2_15 rfl dX2_removeHead_40 ?_
            refine k_iload_n hC 1 dX2_removeHead_43 rfl rfl ?_
            refine k_iconst hC (nI 1) dX2_removeHead_44 rfl ?_
            refine k_isubN hC dX2_removeHead_45 (by omega) ?_
            refine k_topE (nI k) rfl ?_
            refine k_aload_n hC 0 dX2_removeHead_46 rfl rfl ?_
            refine k_get hC inlX2 0 1 rfl rfl (by decide) lkF_X2_15 rfl dX2_removeHead_47 ?_
            refine k_iload_n hC 1 dX2_removeHead_50 rfl rfl ?_
            refine k_zald hC 2 rfl (by omega) (by decide) dX2_removeHead_51 ?_
            refine k_zast hC 2 rfl (by omega) (by decide) (by assumption) dX2_removeHead_52 [kO a0 2 [.ref a1, .ref a2, .int (nI ((x :: t).length))], kI K a1 10 (upd u9 k (u9 (k + 1))), kZ K a2 10 (upd c9 k (c9 (k + 1)))] rfl ?_
            refine k_iinc hC dX2_removeHead_53 (by decide) rfl rfl (nI (k + 1 + 1)) (kinc (k + 1) 1 rfl) [(0, .ref a0), (1, .int (nI (k + 1 + 1)))] rfl ?_
            refine k_goto hC 11 dX2_removeHead_56 (by decide) ?_
            exact ih (k + 1) _ _ (by omega) (by omega) (mSh_step hs (by omega))
    exact loop (t.length + 1) 0 u c (by omega) (by omega) (mSh_0 hR)
  · exact absurd c1 (by omega)
end
section
/-! Store.takeOut, Store() -/
theorem mOk_le1 {L : List (Nat × Nat)} (h : mOk L) : ∀ i : Nat, i < L.length → (mg L i).2 ≤ 1 := fun i hi => (mOk_1 h (mg_mem hi)).2.2
theorem kle1 {x y : Nat × Nat} {t : List (Nat × Nat)} (hk : mOk (x :: t)) (hb : y.2 ≤ 1) : ∀ i : Nat, i < (y :: t).length → (mg (y :: t) i).2 ≤ 1 := by
  intro i hi
  cases i with
  | zero => exact hb
  | succ i => rw [mg_succ]; exact mOk_le1 (mOk_tail hk) i (Nat.lt_of_succ_lt_succ hi)
abbrev rmX2_takeOut : Room := { frames := 1, cells := 0, slots := 0, locals := 30 }
set_option maxRecDepth 100000 in
set_option maxHeartbeats 4000000 in
theorem cX2_takeOut_k (l : Launch) (K : kE) (a0 a1 a2 : Nat) (u c : Nat → Int32) (L : List (Nat × Nat)) (wd : Int32) (g : Nat) (r : Bool) (hL : L.length ≤ 10) (hR : mR L u c) (hk : mOk L) (hg : (wd = nI g ∧ g < 2 ^ 31) ∨ (wd < 0 ∧ g = 0)) : kM l yX2_takeOut (kws yX2_takeOut cX2_takeOut 8 (some .int)) rmX2_takeOut K [.ref a0, .int wd, .int (kB r)] (wSt K a0 a1 a2 u c L.length) (fun v w => v = some (.int (nI (mTake L g r).2)) ∧ ∃ u2 c2 : Nat → Int32, w = wSt K a0 a1 a2 u2 c2 (mTake L g r).1.length ∧ mR (mTake L g r).1 u2 c2) := by
  refine kM_of (pl := []) (X := (wSt K a0 a1 a2 u c L.length)) rfl (by decide) (Nat.le_of_ble_eq_true rfl) ?_
  intro p e s m args below meth cd A Q hC hnm hE
  refine k_eX (show _ = [kO a0 2 [.ref a1, .ref a2, .int (nI L.length)], kI K a1 10 u, kZ K a2 10 c] from rfl) ?_
  have ex : ∀ (L9 : List (Nat × Nat)) (o a : Nat) (x : Int32) (u9 c9 : Nat → Int32), x ≤ 0 → a < 2 ^ 31 → mTake L g r = (L9, o) → mR L9 u9 c9 → kW p l e rmX2_takeOut s m args below meth cd K A 8 Q 0 0 ([]) [kO a0 2 [.ref a1, .ref a2, .int (nI L9.length)], kI K a1 10 u9, kZ K a2 10 c9] [(0, .ref a0), (1, .int wd), (2, .int (kB r)), (3, .int x), (4, .int (nI o)), (5, .int (nI a))] 11 [] := by
    intro L9 o a x u9 c9 hx ha he hR9
    refine k_iload hC dX2_takeOut_11 rfl ?_
    refine k_if_leN hC 107 dX2_takeOut_13 (by decide) (by omega) (fun c1 => ?_) (fun c1 => ?_)
    · refine k_iload hC dX2_takeOut_107 rfl ?_
      exact k_iret hC hE (Nat.le_of_ble_eq_true rfl) (Nat.le_of_ble_eq_true rfl) dX2_takeOut_109 ⟨by rw [he], u9, c9, by rw [he]; rfl, by rw [he]; exact hR9⟩
    · refine k_iload_n hC 3 dX2_takeOut_16 rfl rfl ?_
      refine k_if_le hC 107 dX2_takeOut_17 (by decide) (fun c2 => ?_) (fun c2 => ?_)
      · refine k_iload hC dX2_takeOut_107 rfl ?_
        exact k_iret hC hE (Nat.le_of_ble_eq_true rfl) (Nat.le_of_ble_eq_true rfl) dX2_takeOut_109 ⟨by rw [he], u9, c9, by rw [he]; rfl, by rw [he]; exact hR9⟩
      · exact absurd hx c2
  have loop : ∀ (n : Nat) (L9 : List (Nat × Nat)) (w9 o : Nat) (u9 c9 : Nat → Int32), L9.length < n → L9.length ≤ 10 → w9 < 2 ^ 31 → mTake L g r = ((mTake L9 w9 r).1, o + (mTake L9 w9 r).2) → mR L9 u9 c9 → mOk L9 → kW p l e rmX2_takeOut s m args below meth cd K A 8 Q 0 0 ([]) [kO a0 2 [.ref a1, .ref a2, .int (nI L9.length)], kI K a1 10 u9, kZ K a2 10 c9] [(0, .ref a0), (1, .int wd), (2, .int (kB r)), (3, .int (nI w9)), (4, .int (nI o)), (5, .int (nI L9.length))] 11 [] := by
    intro n
    induction n with
    | zero => intro L9 w9 o u9 c9 h1; exact absurd h1 (Nat.not_lt_zero _)
    | succ n ih =>
      intro L9 w9 o u9 c9 h1 h2 h3 he hR9 hk9
      rcases L9 with _ | ⟨y, t⟩
      · have he2 : mTake L g r = ([], o) := he
        refine k_iload hC dX2_takeOut_11 rfl ?_
        refine k_if_leN hC 107 dX2_takeOut_13 (by decide) (by omega) (fun c1 => ?_) (fun c1 => ?_)
        · refine k_iload hC dX2_takeOut_107 rfl ?_
          exact k_iret hC hE (Nat.le_of_ble_eq_true rfl) (Nat.le_of_ble_eq_true rfl) dX2_takeOut_109 ⟨by rw [he2], u9, c9, by rw [he2]; rfl, by rw [he2]; exact hR9⟩
        · exact absurd c1 (fun q => q rfl)
      · have hl : (y :: t).length = t.length + 1 := rfl
        have ho := mOk_1 hk9 (List.mem_cons_self)
        refine k_iload hC dX2_takeOut_11 rfl ?_
        refine k_if_leN hC 107 dX2_takeOut_13 (by decide) (by omega) (fun c1 => ?_) (fun c1 => ?_)
        · exact absurd c1 (by omega)
        · refine k_iload_n hC 3 dX2_takeOut_16 rfl rfl ?_
          refine k_if_leN hC 107 dX2_takeOut_17 (by decide) (by omega) (fun c2 => ?_) (fun c2 => ?_)
          · subst c2
            rw [mTake_0] at he
            refine k_iload hC dX2_takeOut_107 rfl ?_
            exact k_iret hC hE (Nat.le_of_ble_eq_true rfl) (Nat.le_of_ble_eq_true rfl) dX2_takeOut_109 ⟨by rw [he]; rfl, u9, c9, by rw [he]; rfl, by rw [he]; exact hR9⟩
          · refine k_iload_n hC 3 dX2_takeOut_20 rfl rfl ?_
            refine k_aload_n hC 0 dX2_takeOut_21 rfl rfl ?_
            refine k_get hC inlX2 0 0 rfl rfl (by decide) lkF_X2_11 rfl dX2_takeOut_22 ?_
            refine k_iconst hC (nI 0) dX2_takeOut_25 rfl ?_
            refine k_ald hC 1 rfl (by omega) (by decide) dX2_takeOut_26 ?_
            refine k_topE (nI y.1) (hR9 0 (by omega)).1 ?_
            refine k_min hC lkM_X2_19 lkT_Math_min_name lkN_J9 lkC_Math_min_name (Nat.le_of_ble_eq_true rfl) (Nat.le_of_ble_eq_true rfl) (Nat.le_of_ble_eq_true rfl) (Nat.le_of_ble_eq_true rfl) dX2_takeOut_27 ?_
            rcases Nat.lt_or_ge w9 y.1 with h5 | h5
            · refine k_topE (nI w9) (kmin_gt (by omega) (by omega) (by omega)) ?_
              refine k_istore hC dX2_takeOut_30 (by decide) rfl [(0, .ref a0), (1, .int wd), (2, .int (kB r)), (3, .int (nI w9)), (4, .int (nI o)), (5, .int (nI ((y :: t).length))), (6, .int (nI w9))] rfl ?_
              refine k_iload_n hC 3 dX2_takeOut_32 rfl rfl ?_
              refine k_iload hC dX2_takeOut_33 rfl ?_
              refine k_isubN hC dX2_takeOut_35 (by omega) ?_
              refine k_topE (nI 0) (by congr 1; try omega) ?_
              refine k_istore_n hC 3 dX2_takeOut_36 rfl (by decide) rfl [(0, .ref a0), (1, .int wd), (2, .int (kB r)), (3, .int (nI 0)), (4, .int (nI o)), (5, .int (nI ((y :: t).length))), (6, .int (nI w9))] rfl ?_
              refine k_aload_n hC 0 dX2_takeOut_37 rfl rfl ?_
              refine k_get hC inlX2 0 0 rfl rfl (by decide) lkF_X2_11 rfl dX2_takeOut_38 ?_
              refine k_iconst hC (nI 0) dX2_takeOut_41 rfl ?_
              refine k_dup2 hC dX2_takeOut_42 rfl rfl ?_
              refine k_ald hC 1 rfl (by omega) (by decide) dX2_takeOut_43 ?_
              refine k_topE (nI y.1) (hR9 0 (by omega)).1 ?_
              refine k_iload hC dX2_takeOut_44 rfl ?_
              refine k_isubN hC dX2_takeOut_46 (by omega) ?_
              refine k_topE (nI (y.1 - w9)) rfl ?_
              refine k_ast hC 1 rfl (by omega) (by decide) dX2_takeOut_47 [kO a0 2 [.ref a1, .ref a2, .int (nI ((y :: t).length))], kI K a1 10 (upd u9 0 (nI (y.1 - w9))), kZ K a2 10 c9] rfl ?_
              refine k_aload_n hC 0 dX2_takeOut_48 rfl rfl ?_
              refine k_get hC inlX2 0 0 rfl rfl (by decide) lkF_X2_11 rfl dX2_takeOut_49 ?_
              refine k_iconst hC (nI 0) dX2_takeOut_52 rfl ?_
              refine k_ald hC 1 rfl (by omega) (by decide) dX2_takeOut_53 ?_
              refine k_topE (nI (y.1 - w9)) (by simp [upd]) ?_
              refine k_if_neN hC 61 dX2_takeOut_54 (by decide) (by omega) (fun c7 => ?_) (fun c7 => ?_)
              · refine k_iconst hC (nI 0) dX2_takeOut_61 rfl ?_
                refine k_istore hC dX2_takeOut_62 (by decide) rfl [(0, .ref a0), (1, .int wd), (2, .int (kB r)), (3, .int (nI 0)), (4, .int (nI o)), (5, .int (nI ((y :: t).length))), (6, .int (nI w9)), (7, .int (nI 0))] rfl ?_
                refine k_aload_n hC 0 dX2_takeOut_64 rfl rfl ?_
                refine k_get hC inlX2 0 1 rfl rfl (by decide) lkF_X2_15 rfl dX2_takeOut_65 ?_
                refine k_iconst hC (nI 0) dX2_takeOut_68 rfl ?_
                refine k_zald hC 2 rfl (by omega) (by decide) dX2_takeOut_69 ?_
                refine k_topE (nI y.2) (hR9 0 (by omega)).2 ?_
                refine k_if_eqN hC 92 dX2_takeOut_70 (by decide) (by omega) (fun c3 => ?_) (fun c3 => ?_)
                · refine k_iload hC dX2_takeOut_92 rfl ?_
                  refine k_if_eqN hC 101 dX2_takeOut_94 (by decide) (by omega) (fun c6 => ?_) (fun c6 => ?_)
                  · refine k_iinc hC dX2_takeOut_101 (by decide) rfl rfl (nI ((y :: t).length - 1)) (kdec ((y :: t).length) 1 (by omega) rfl) [(0, .ref a0), (1, .int wd), (2, .int (kB r)), (3, .int (nI 0)), (4, .int (nI o)), (5, .int (nI ((y :: t).length - 1))), (6, .int (nI w9)), (7, .int (nI 0))] rfl ?_
                    refine k_goto hC 11 dX2_takeOut_104 (by decide) ?_
                    refine k_lsub [0, 1, 2, 3, 4, 5] [(0, .ref a0), (1, .int wd), (2, .int (kB r)), (3, .int (nI 0)), (4, .int (nI o)), (5, .int (nI ((y :: t).length - 1)))] rfl ?_
                    rw [mTake] at he
                    rw [if_neg c2, if_neg (by omega)] at he
                    have hr2 : (if r = true then ((y.1 - w9, 0) :: t, y.2) else ((y.1 - w9, y.2) :: t, 0)) = ((y.1 - w9, y.2) :: t, 0) := by
                      rw [c3]; split <;> rfl
                    rw [hr2] at he
                    exact ex ((y.1 - w9, y.2) :: t) o ((y :: t).length - 1) (nI 0) _ _ (by decide) (by omega) (by rw [he]; rfl) (mR_set0 hR9 (y.1 - w9))
                  · exact absurd c6 (by decide)
                · refine k_iload_n hC 2 dX2_takeOut_73 rfl rfl ?_
                  refine k_if_ne hC 82 dX2_takeOut_74 (by decide) (fun c4 => ?_) (fun c4 => ?_)
                  · refine k_aload_n hC 0 dX2_takeOut_82 rfl rfl ?_
                    refine k_get hC inlX2 0 1 rfl rfl (by decide) lkF_X2_15 rfl dX2_takeOut_83 ?_
                    refine k_iconst hC (nI 0) dX2_takeOut_86 rfl ?_
                    refine k_iconst hC (nI 0) dX2_takeOut_87 rfl ?_
                    refine k_zast hC 2 rfl (by omega) (by decide) rfl dX2_takeOut_88 [kO a0 2 [.ref a1, .ref a2, .int (nI ((y :: t).length))], kI K a1 10 (upd u9 0 (nI (y.1 - w9))), kZ K a2 10 (upd c9 0 (nI 0))] rfl ?_
                    refine k_iinc hC dX2_takeOut_89 (by decide) rfl rfl (nI (o + 1)) (kinc o 1 rfl) [(0, .ref a0), (1, .int wd), (2, .int (kB r)), (3, .int (nI 0)), (4, .int (nI (o + 1))), (5, .int (nI ((y :: t).length))), (6, .int (nI w9)), (7, .int (nI 0))] rfl ?_
                    refine k_iload hC dX2_takeOut_92 rfl ?_
                    refine k_if_eqN hC 101 dX2_takeOut_94 (by decide) (by omega) (fun c6 => ?_) (fun c6 => ?_)
                    · refine k_iinc hC dX2_takeOut_101 (by decide) rfl rfl (nI ((y :: t).length - 1)) (kdec ((y :: t).length) 1 (by omega) rfl) [(0, .ref a0), (1, .int wd), (2, .int (kB r)), (3, .int (nI 0)), (4, .int (nI (o + 1))), (5, .int (nI ((y :: t).length - 1))), (6, .int (nI w9)), (7, .int (nI 0))] rfl ?_
                      refine k_goto hC 11 dX2_takeOut_104 (by decide) ?_
                      refine k_lsub [0, 1, 2, 3, 4, 5] [(0, .ref a0), (1, .int wd), (2, .int (kB r)), (3, .int (nI 0)), (4, .int (nI (o + 1))), (5, .int (nI ((y :: t).length - 1)))] rfl ?_
                      rw [mTake] at he
                      rw [if_neg c2, if_neg (by omega)] at he
                      rw [if_pos (kB_ne.mp c4)] at he
                      exact ex ((y.1 - w9, 0) :: t) (o + 1) ((y :: t).length - 1) (nI 0) _ _ (by decide) (by omega) (by rw [he, show y.2 = 1 by omega]) (mR_set1 (mR_set0 hR9 (y.1 - w9)) 0)
                    · exact absurd c6 (by decide)
                  · refine k_iload hC dX2_takeOut_77 rfl ?_
                    refine k_if_eqN hC 92 dX2_takeOut_79 (by decide) (by omega) (fun c5 => ?_) (fun c5 => ?_)
                    · refine k_iload hC dX2_takeOut_92 rfl ?_
                      refine k_if_eqN hC 101 dX2_takeOut_94 (by decide) (by omega) (fun c6 => ?_) (fun c6 => ?_)
                      · refine k_iinc hC dX2_takeOut_101 (by decide) rfl rfl (nI ((y :: t).length - 1)) (kdec ((y :: t).length) 1 (by omega) rfl) [(0, .ref a0), (1, .int wd), (2, .int (kB r)), (3, .int (nI 0)), (4, .int (nI o)), (5, .int (nI ((y :: t).length - 1))), (6, .int (nI w9)), (7, .int (nI 0))] rfl ?_
                        refine k_goto hC 11 dX2_takeOut_104 (by decide) ?_
                        refine k_lsub [0, 1, 2, 3, 4, 5] [(0, .ref a0), (1, .int wd), (2, .int (kB r)), (3, .int (nI 0)), (4, .int (nI o)), (5, .int (nI ((y :: t).length - 1)))] rfl ?_
                        rw [mTake] at he
                        rw [if_neg c2, if_neg (by omega)] at he
                        have hr2 : (if r = true then ((y.1 - w9, 0) :: t, y.2) else ((y.1 - w9, y.2) :: t, 0)) = ((y.1 - w9, y.2) :: t, 0) := by
                          rw [if_neg (by rw [kB_eq.mp c4]; decide)]
                        rw [hr2] at he
                        exact ex ((y.1 - w9, y.2) :: t) o ((y :: t).length - 1) (nI 0) _ _ (by decide) (by omega) (by rw [he]; rfl) (mR_set0 hR9 (y.1 - w9))
                      · exact absurd c6 (by decide)
                    · exact absurd c5 (by decide)
              · exact absurd c7 (by omega)
            · refine k_topE (nI y.1) (kmin_le (by omega) (by omega) h5) ?_
              refine k_istore hC dX2_takeOut_30 (by decide) rfl [(0, .ref a0), (1, .int wd), (2, .int (kB r)), (3, .int (nI w9)), (4, .int (nI o)), (5, .int (nI ((y :: t).length))), (6, .int (nI y.1))] rfl ?_
              refine k_iload_n hC 3 dX2_takeOut_32 rfl rfl ?_
              refine k_iload hC dX2_takeOut_33 rfl ?_
              refine k_isubN hC dX2_takeOut_35 (by omega) ?_
              refine k_topE (nI (w9 - y.1)) rfl ?_
              refine k_istore_n hC 3 dX2_takeOut_36 rfl (by decide) rfl [(0, .ref a0), (1, .int wd), (2, .int (kB r)), (3, .int (nI (w9 - y.1))), (4, .int (nI o)), (5, .int (nI ((y :: t).length))), (6, .int (nI y.1))] rfl ?_
              refine k_aload_n hC 0 dX2_takeOut_37 rfl rfl ?_
              refine k_get hC inlX2 0 0 rfl rfl (by decide) lkF_X2_11 rfl dX2_takeOut_38 ?_
              refine k_iconst hC (nI 0) dX2_takeOut_41 rfl ?_
              refine k_dup2 hC dX2_takeOut_42 rfl rfl ?_
              refine k_ald hC 1 rfl (by omega) (by decide) dX2_takeOut_43 ?_
              refine k_topE (nI y.1) (hR9 0 (by omega)).1 ?_
              refine k_iload hC dX2_takeOut_44 rfl ?_
              refine k_isubN hC dX2_takeOut_46 (by omega) ?_
              refine k_topE (nI 0) (by congr 1; omega) ?_
              refine k_ast hC 1 rfl (by omega) (by decide) dX2_takeOut_47 [kO a0 2 [.ref a1, .ref a2, .int (nI ((y :: t).length))], kI K a1 10 (upd u9 0 (nI 0)), kZ K a2 10 c9] rfl ?_
              refine k_aload_n hC 0 dX2_takeOut_48 rfl rfl ?_
              refine k_get hC inlX2 0 0 rfl rfl (by decide) lkF_X2_11 rfl dX2_takeOut_49 ?_
              refine k_iconst hC (nI 0) dX2_takeOut_52 rfl ?_
              refine k_ald hC 1 rfl (by omega) (by decide) dX2_takeOut_53 ?_
              refine k_topE (nI 0) (by simp [upd]) ?_
              refine k_if_neN hC 61 dX2_takeOut_54 (by decide) (by omega) (fun c7 => ?_) (fun c7 => ?_)
              · exact absurd rfl c7
              · refine k_iconst hC (nI 1) dX2_takeOut_57 rfl ?_
                refine k_goto hC 62 dX2_takeOut_58 (by decide) ?_
                refine k_istore hC dX2_takeOut_62 (by decide) rfl [(0, .ref a0), (1, .int wd), (2, .int (kB r)), (3, .int (nI (w9 - y.1))), (4, .int (nI o)), (5, .int (nI ((y :: t).length))), (6, .int (nI y.1)), (7, .int (nI 1))] rfl ?_
                refine k_aload_n hC 0 dX2_takeOut_64 rfl rfl ?_
                refine k_get hC inlX2 0 1 rfl rfl (by decide) lkF_X2_15 rfl dX2_takeOut_65 ?_
                refine k_iconst hC (nI 0) dX2_takeOut_68 rfl ?_
                refine k_zald hC 2 rfl (by omega) (by decide) dX2_takeOut_69 ?_
                refine k_topE (nI y.2) (hR9 0 (by omega)).2 ?_
                refine k_if_eqN hC 92 dX2_takeOut_70 (by decide) (by omega) (fun c3 => ?_) (fun c3 => ?_)
                · refine k_iload hC dX2_takeOut_92 rfl ?_
                  refine k_if_eqN hC 101 dX2_takeOut_94 (by decide) (by omega) (fun c6 => ?_) (fun c6 => ?_)
                  · exact absurd c6 (by decide)
                  · refine k_aload_n hC 0 dX2_takeOut_97 rfl rfl ?_
                    refine k_callV hC (As := []) (cX2_removeHead_k l K a0 a1 a2 _ _ (0, y.2) t (by omega) (mR_set0 hR9 0) (kle1 (x := y) (y := (0, y.2)) hk9 (by show _ ≤ 1; omega))) [] rfl 0 rfl rfl (kAll5 lkM_X2_29 lkI_yX2_removeHead lkS_yX2_removeHead lkN_X2 lkC_yX2_removeHead) 0 (by decide) ⟨(Nat.le_of_ble_eq_true rfl), (Nat.le_of_ble_eq_true rfl)⟩ rfl rfl (Nat.le_of_ble_eq_true rfl) ⟨(Nat.le_of_ble_eq_true rfl), (Nat.le_of_ble_eq_true rfl)⟩ dX2_takeOut_98 (fun v w h => ?_)
                    obtain ⟨rfl, u3, c3v, rfl, hR3⟩ := h
                    refine k_re 0 0 [kO a0 2 [.ref a1, .ref a2, .int (nI t.length)], kI K a1 10 u3, kZ K a2 10 c3v] [] rfl rfl rfl rfl ?_
                    refine k_iinc hC dX2_takeOut_101 (by decide) rfl rfl (nI ((y :: t).length - 1)) (kdec ((y :: t).length) 1 (by omega) rfl) [(0, .ref a0), (1, .int wd), (2, .int (kB r)), (3, .int (nI (w9 - y.1))), (4, .int (nI o)), (5, .int (nI ((y :: t).length - 1))), (6, .int (nI y.1)), (7, .int (nI 1))] rfl ?_
                    refine k_goto hC 11 dX2_takeOut_104 (by decide) ?_
                    refine k_lsub [0, 1, 2, 3, 4, 5] [(0, .ref a0), (1, .int wd), (2, .int (kB r)), (3, .int (nI (w9 - y.1))), (4, .int (nI o)), (5, .int (nI ((y :: t).length - 1)))] rfl ?_
                    rw [mTake] at he
                    rw [if_neg c2, if_pos h5] at he
                    exact ih t (w9 - y.1) (o) u3 c3v (by omega) (by omega) (by omega) (by rw [he]; congr 1; omega) hR3 (mOk_tail hk9)
                · refine k_iload_n hC 2 dX2_takeOut_73 rfl rfl ?_
                  refine k_if_ne hC 82 dX2_takeOut_74 (by decide) (fun c4 => ?_) (fun c4 => ?_)
                  · refine k_aload_n hC 0 dX2_takeOut_82 rfl rfl ?_
                    refine k_get hC inlX2 0 1 rfl rfl (by decide) lkF_X2_15 rfl dX2_takeOut_83 ?_
                    refine k_iconst hC (nI 0) dX2_takeOut_86 rfl ?_
                    refine k_iconst hC (nI 0) dX2_takeOut_87 rfl ?_
                    refine k_zast hC 2 rfl (by omega) (by decide) rfl dX2_takeOut_88 [kO a0 2 [.ref a1, .ref a2, .int (nI ((y :: t).length))], kI K a1 10 (upd u9 0 (nI 0)), kZ K a2 10 (upd c9 0 (nI 0))] rfl ?_
                    refine k_iinc hC dX2_takeOut_89 (by decide) rfl rfl (nI (o + 1)) (kinc o 1 rfl) [(0, .ref a0), (1, .int wd), (2, .int (kB r)), (3, .int (nI (w9 - y.1))), (4, .int (nI (o + 1))), (5, .int (nI ((y :: t).length))), (6, .int (nI y.1)), (7, .int (nI 1))] rfl ?_
                    refine k_iload hC dX2_takeOut_92 rfl ?_
                    refine k_if_eqN hC 101 dX2_takeOut_94 (by decide) (by omega) (fun c6 => ?_) (fun c6 => ?_)
                    · exact absurd c6 (by decide)
                    · refine k_aload_n hC 0 dX2_takeOut_97 rfl rfl ?_
                      refine k_callV hC (As := []) (cX2_removeHead_k l K a0 a1 a2 _ _ (0, 0) t (by omega) (mR_set1 (mR_set0 hR9 0) 0) (kle1 (x := y) (y := (0, 0)) hk9 (by show _ ≤ 1; omega))) [] rfl 0 rfl rfl (kAll5 lkM_X2_29 lkI_yX2_removeHead lkS_yX2_removeHead lkN_X2 lkC_yX2_removeHead) 0 (by decide) ⟨(Nat.le_of_ble_eq_true rfl), (Nat.le_of_ble_eq_true rfl)⟩ rfl rfl (Nat.le_of_ble_eq_true rfl) ⟨(Nat.le_of_ble_eq_true rfl), (Nat.le_of_ble_eq_true rfl)⟩ dX2_takeOut_98 (fun v w h => ?_)
                      obtain ⟨rfl, u3, c3v, rfl, hR3⟩ := h
                      refine k_re 0 0 [kO a0 2 [.ref a1, .ref a2, .int (nI t.length)], kI K a1 10 u3, kZ K a2 10 c3v] [] rfl rfl rfl rfl ?_
                      refine k_iinc hC dX2_takeOut_101 (by decide) rfl rfl (nI ((y :: t).length - 1)) (kdec ((y :: t).length) 1 (by omega) rfl) [(0, .ref a0), (1, .int wd), (2, .int (kB r)), (3, .int (nI (w9 - y.1))), (4, .int (nI (o + 1))), (5, .int (nI ((y :: t).length - 1))), (6, .int (nI y.1)), (7, .int (nI 1))] rfl ?_
                      refine k_goto hC 11 dX2_takeOut_104 (by decide) ?_
                      refine k_lsub [0, 1, 2, 3, 4, 5] [(0, .ref a0), (1, .int wd), (2, .int (kB r)), (3, .int (nI (w9 - y.1))), (4, .int (nI (o + 1))), (5, .int (nI ((y :: t).length - 1)))] rfl ?_
                      rw [mTake] at he
                      rw [if_neg c2, if_pos h5] at he
                      exact ih t (w9 - y.1) (o + 1) u3 c3v (by omega) (by omega) (by omega) (by rw [he]; congr 1; omega) hR3 (mOk_tail hk9)
                  · refine k_iload hC dX2_takeOut_77 rfl ?_
                    refine k_if_eqN hC 92 dX2_takeOut_79 (by decide) (by omega) (fun c5 => ?_) (fun c5 => ?_)
                    · exact absurd c5 (by decide)
                    · refine k_aload_n hC 0 dX2_takeOut_82 rfl rfl ?_
                      refine k_get hC inlX2 0 1 rfl rfl (by decide) lkF_X2_15 rfl dX2_takeOut_83 ?_
                      refine k_iconst hC (nI 0) dX2_takeOut_86 rfl ?_
                      refine k_iconst hC (nI 0) dX2_takeOut_87 rfl ?_
                      refine k_zast hC 2 rfl (by omega) (by decide) rfl dX2_takeOut_88 [kO a0 2 [.ref a1, .ref a2, .int (nI ((y :: t).length))], kI K a1 10 (upd u9 0 (nI 0)), kZ K a2 10 (upd c9 0 (nI 0))] rfl ?_
                      refine k_iinc hC dX2_takeOut_89 (by decide) rfl rfl (nI (o + 1)) (kinc o 1 rfl) [(0, .ref a0), (1, .int wd), (2, .int (kB r)), (3, .int (nI (w9 - y.1))), (4, .int (nI (o + 1))), (5, .int (nI ((y :: t).length))), (6, .int (nI y.1)), (7, .int (nI 1))] rfl ?_
                      refine k_iload hC dX2_takeOut_92 rfl ?_
                      refine k_if_eqN hC 101 dX2_takeOut_94 (by decide) (by omega) (fun c6 => ?_) (fun c6 => ?_)
                      · exact absurd c6 (by decide)
                      · refine k_aload_n hC 0 dX2_takeOut_97 rfl rfl ?_
                        refine k_callV hC (As := []) (cX2_removeHead_k l K a0 a1 a2 _ _ (0, 0) t (by omega) (mR_set1 (mR_set0 hR9 0) 0) (kle1 (x := y) (y := (0, 0)) hk9 (by show _ ≤ 1; omega))) [] rfl 0 rfl rfl (kAll5 lkM_X2_29 lkI_yX2_removeHead lkS_yX2_removeHead lkN_X2 lkC_yX2_removeHead) 0 (by decide) ⟨(Nat.le_of_ble_eq_true rfl), (Nat.le_of_ble_eq_true rfl)⟩ rfl rfl (Nat.le_of_ble_eq_true rfl) ⟨(Nat.le_of_ble_eq_true rfl), (Nat.le_of_ble_eq_true rfl)⟩ dX2_takeOut_98 (fun v w h => ?_)
                        obtain ⟨rfl, u3, c3v, rfl, hR3⟩ := h
                        refine k_re 0 0 [kO a0 2 [.ref a1, .ref a2, .int (nI t.length)], kI K a1 10 u3, kZ K a2 10 c3v] [] rfl rfl rfl rfl ?_
                        refine k_iinc hC dX2_takeOut_101 (by decide) rfl rfl (nI ((y :: t).length - 1)) (kdec ((y :: t).length) 1 (by omega) rfl) [(0, .ref a0), (1, .int wd), (2, .int (kB r)), (3, .int (nI (w9 - y.1))), (4, .int (nI (o + 1))), (5, .int (nI ((y :: t).length - 1))), (6, .int (nI y.1)), (7, .int (nI 1))] rfl ?_
                        refine k_goto hC 11 dX2_takeOut_104 (by decide) ?_
                        refine k_lsub [0, 1, 2, 3, 4, 5] [(0, .ref a0), (1, .int wd), (2, .int (kB r)), (3, .int (nI (w9 - y.1))), (4, .int (nI (o + 1))), (5, .int (nI ((y :: t).length - 1)))] rfl ?_
                        rw [mTake] at he
                        rw [if_neg c2, if_pos h5] at he
                        exact ih t (w9 - y.1) (o + 1) u3 c3v (by omega) (by omega) (by omega) (by rw [he]; congr 1; omega) hR3 (mOk_tail hk9)
  refine k_iload_n hC 1 dX2_takeOut_0 rfl rfl ?_
  refine k_istore_n hC 3 dX2_takeOut_1 rfl (by decide) rfl [(0, .ref a0), (1, .int wd), (2, .int (kB r)), (3, .int wd)] rfl ?_
  refine k_iconst hC (nI 0) dX2_takeOut_2 rfl ?_
  refine k_istore hC dX2_takeOut_3 (by decide) rfl [(0, .ref a0), (1, .int wd), (2, .int (kB r)), (3, .int wd), (4, .int (nI 0))] rfl ?_
  refine k_aload_n hC 0 dX2_takeOut_5 rfl rfl ?_
  refine k_get hC inlX2 0 2 rfl rfl (by decide) lkF_X2_25 rfl dX2_takeOut_6 ?_
  refine k_istore hC dX2_takeOut_9 (by decide) rfl [(0, .ref a0), (1, .int wd), (2, .int (kB r)), (3, .int wd), (4, .int (nI 0)), (5, .int (nI L.length))] rfl ?_
  rcases hg with hg | hg
  · obtain ⟨rfl, hg1⟩ := hg
    exact loop (L.length + 1) L g 0 u c (Nat.lt_succ_self _) hL hg1 (by rw [Nat.zero_add]) hR hk
  · obtain ⟨hw, rfl⟩ := hg
    exact ex L 0 L.length wd u c (Int32.le_of_lt hw) (by omega) (mTake_0 L r) hR
abbrev rmX2_init : Room := { frames := 1, cells := 2, slots := 20, locals := 30 }
set_option maxRecDepth 100000 in
set_option maxHeartbeats 4000000 in
theorem cX2_init_k (l : Launch) (K : kE) (a0 z sz : Nat) (hz : z ≤ 9) : kM l yX2_init (kws yX2_init cX2_init 4 none) rmX2_init K [.ref a0, .int (nI z), .int (nI sz)] [kO a0 2 [.null, .null, .int (nI 0)]] (fun v w => v = none ∧ ∃ (a1 a2 : Nat) (u2 c2 : Nat → Int32), w = wSt K a0 a1 a2 u2 c2 (List.replicate z (sz, 1)).length ∧ mR (List.replicate z (sz, 1)) u2 c2) := by
  refine kM_of (pl := []) (X := [kO a0 2 [.null, .null, .int (nI 0)]]) rfl (by decide) (Nat.le_of_ble_eq_true rfl) ?_
  intro p e s m args below meth cd A Q hC hnm hE
  refine k_eX (show _ = [kO a0 2 [.null, .null, .int (nI 0)]] from rfl) ?_
  refine k_aload_n hC 0 dX2_init_0 rfl rfl ?_
  refine k_objInit hC lkM_X2_3 lkI_objectInit lkC_objectInit dX2_init_1 (Nat.le_of_ble_eq_true rfl) (Nat.le_of_ble_eq_true rfl) ?_
  refine k_aload_n hC 0 dX2_init_4 rfl rfl ?_
  refine k_bipush hC (nI 10) dX2_init_5 rfl ?_
  refine k_newI hC 10 rfl (by decide) (Nat.le_of_ble_eq_true rfl) (Nat.le_of_ble_eq_true rfl) lkA_int dX2_init_7 (fun q1 => ?_)
  refine k_eX (show _ = [kO a0 2 [.null, .null, .int (nI 0)], kI K q1 10 ((fun _ => 0))] from rfl) ?_
  refine k_putF hC hnm inlX2 tyX2_ok nmX2 0 0 rfl rfl (by decide) lkF_X2_11 rfl rfl rfl rfl (Nat.le_of_ble_eq_true rfl) dX2_init_9 [kO a0 2 [.ref q1, .null, .int (nI 0)], kI K q1 10 ((fun _ => 0))] rfl ?_
  refine k_aload_n hC 0 dX2_init_12 rfl rfl ?_
  refine k_bipush hC (nI 10) dX2_init_13 rfl ?_
  refine k_newZ hC 10 rfl (by decide) (Nat.le_of_ble_eq_true rfl) (Nat.le_of_ble_eq_true rfl) lkA_boolean dX2_init_15 (fun q2 => ?_)
  refine k_eX (show _ = [kO a0 2 [.ref q1, .null, .int (nI 0)], kI K q1 10 ((fun _ => 0)), kZ K q2 10 ((fun _ => 0))] from rfl) ?_
  refine k_putF hC hnm inlX2 tyX2_ok nmX2 0 1 rfl rfl (by decide) lkF_X2_15 rfl rfl rfl rfl (Nat.le_of_ble_eq_true rfl) dX2_init_17 [kO a0 2 [.ref q1, .ref q2, .int (nI 0)], kI K q1 10 ((fun _ => 0)), kZ K q2 10 ((fun _ => 0))] rfl ?_
  refine k_aload_n hC 0 dX2_init_20 rfl rfl ?_
  refine k_iload_n hC 1 dX2_init_21 rfl rfl ?_
  refine k_bipush hC (nI 10) dX2_init_22 rfl ?_
  refine k_min hC lkM_X2_19 lkT_Math_min_name lkN_J9 lkC_Math_min_name (Nat.le_of_ble_eq_true rfl) (Nat.le_of_ble_eq_true rfl) (Nat.le_of_ble_eq_true rfl) (Nat.le_of_ble_eq_true rfl) dX2_init_24 ?_
  refine k_topE (nI z) (by rw [if_neg (fun q => by have := (nI_ltI (by omega) (by omega)).mp q; omega)]) ?_
  refine k_put hC inlX2 tyX2_ok nmX2 0 2 rfl rfl (by decide) lkF_X2_25 rfl rfl rfl (Nat.le_of_ble_eq_true rfl) dX2_init_27 [kO a0 2 [.ref q1, .ref q2, .int (nI z)], kI K q1 10 ((fun _ => 0)), kZ K q2 10 ((fun _ => 0))] rfl ?_
  refine k_iconst hC (nI 0) dX2_init_30 rfl ?_
  refine k_istore_n hC 3 dX2_init_31 rfl (by decide) rfl [(0, .ref a0), (1, .int (nI z)), (2, .int (nI sz)), (3, .int (nI 0))] rfl ?_
  have loop : ∀ (n i : Nat) (u9 c9 : Nat → Int32), n + i = z + 1 → i ≤ z → mR (List.replicate i (sz, 1)) u9 c9 → kW p l e rmX2_init s m args below meth cd K A 4 Q 2 20 ([]) [kO a0 2 [.ref q1, .ref q2, .int (nI z)], kI K q1 10 u9, kZ K q2 10 c9] [(0, .ref a0), (1, .int (nI z)), (2, .int (nI sz)), (3, .int (nI i))] 32 [] := by
    intro n
    induction n with
    | zero => intro i u9 c9 h1 h2; exact absurd h1 (by omega)
    | succ n ih =>
      intro i u9 c9 h1 h2 hs
      refine k_iload_n hC 3 dX2_init_32 rfl rfl ?_
      refine k_aload_n hC 0 dX2_init_33 rfl rfl ?_
      refine k_get hC inlX2 0 2 rfl rfl (by decide) lkF_X2_25 rfl dX2_init_34 ?_
      refine k_icmp_geN hC 60 dX2_init_37 (by decide) (by omega) (by omega) (fun c1 => ?_) (fun c1 => ?_)
      · obtain rfl : i = z := by omega
        exact k_vret hC hE (Nat.le_of_ble_eq_true rfl) (Nat.le_of_ble_eq_true rfl) dX2_init_60 ⟨rfl, q1, q2, u9, c9, by rw [List.length_replicate]; rfl, hs⟩
      · refine k_aload_n hC 0 dX2_init_40 rfl rfl ?_
        refine k_get hC inlX2 0 0 rfl rfl (by decide) lkF_X2_11 rfl dX2_init_41 ?_
        refine k_iload_n hC 3 dX2_init_44 rfl rfl ?_
        refine k_iload_n hC 2 dX2_init_45 rfl rfl ?_
        refine k_ast hC 1 rfl (by omega) (by decide) dX2_init_46 [kO a0 2 [.ref q1, .ref q2, .int (nI z)], kI K q1 10 (upd u9 i (nI sz)), kZ K q2 10 c9] rfl ?_
        refine k_aload_n hC 0 dX2_init_47 rfl rfl ?_
        refine k_get hC inlX2 0 1 rfl rfl (by decide) lkF_X2_15 rfl dX2_init_48 ?_
        refine k_iload_n hC 3 dX2_init_51 rfl rfl ?_
        refine k_iconst hC (nI 1) dX2_init_52 rfl ?_
        refine k_zast hC 2 rfl (by omega) (by decide) rfl dX2_init_53 [kO a0 2 [.ref q1, .ref q2, .int (nI z)], kI K q1 10 (upd u9 i (nI sz)), kZ K q2 10 (upd c9 i (nI 1))] rfl ?_
        refine k_iinc hC dX2_init_54 (by decide) rfl rfl (nI (i + 1)) (kinc i 1 rfl) [(0, .ref a0), (1, .int (nI z)), (2, .int (nI sz)), (3, .int (nI (i + 1)))] rfl ?_
        refine k_goto hC 32 dX2_init_57 (by decide) ?_
        refine ih (i + 1) _ _ (by omega) (by omega) ?_
        rw [List.replicate_succ']
        have h9 := mR_snoc (x := sz) (y := 1) hs
        rw [List.length_replicate] at h9
        exact h9
  exact loop (z + 1) 0 _ _ (by omega) (by omega) mR_nil
end
section
/-! Road: its worlds and contracts -/
abbrev wRd (K : kE) (a0 a1 a2 : Nat) (u s : Nat → Int32) (z : Nat) : va_W := [kO a0 0 [.ref a1, .ref a2, .int (nI z)], kI K a1 5 u, kI K a2 5 s]
def mStay : List (Nat × Nat) → List (Nat × Nat)
  | [] => []
  | x :: t => if 1 < x.2 then (x.1, x.2 - 1) :: mStay t else mStay t
def mArr : List (Nat × Nat) → List (Nat × Nat)
  | [] => []
  | x :: t => if 1 < x.2 then mArr t else (x.1, 1) :: mArr t
theorem mStay_len (R : List (Nat × Nat)) : (mStay R).length + (mArr R).length = R.length := by
  induction R with
  | nil => rfl
  | cons x t ih =>
    unfold mStay mArr
    split <;> (simp only [List.length_cons]; omega)
theorem mStay_app (a b : List (Nat × Nat)) : mStay (a ++ b) = mStay a ++ mStay b := by
  induction a with
  | nil => rfl
  | cons x t ih =>
    simp only [List.cons_append, mStay, ih]
    split <;> rfl
theorem mArr_app (a b : List (Nat × Nat)) : mArr (a ++ b) = mArr a ++ mArr b := by
  induction a with
  | nil => rfl
  | cons x t ih =>
    simp only [List.cons_append, mArr, ih]
    split <;> rfl
theorem mtake_succ {R : List (Nat × Nat)} {i : Nat} (h : i < R.length) : R.take (i + 1) = R.take i ++ [mg R i] := by
  unfold mg
  rw [List.getD_eq_getElem?_getD, List.getElem?_eq_getElem h, List.take_succ_eq_append_getElem h]
  rfl
theorem mStay_t {R : List (Nat × Nat)} {i : Nat} (h : i < R.length) (h2 : 1 < (mg R i).2) : mStay (R.take (i + 1)) = mStay (R.take i) ++ [((mg R i).1, (mg R i).2 - 1)] ∧ mArr (R.take (i + 1)) = mArr (R.take i) := by
  rw [mtake_succ h, mStay_app, mArr_app]
  simp [mStay, mArr, h2]
theorem mStay_f {R : List (Nat × Nat)} {i : Nat} (h : i < R.length) (h2 : ¬ 1 < (mg R i).2) : mStay (R.take (i + 1)) = mStay (R.take i) ∧ mArr (R.take (i + 1)) = mArr (R.take i) ++ [((mg R i).1, 1)] := by
  rw [mtake_succ h, mStay_app, mArr_app]
  simp [mStay, mArr, h2]
theorem mStay_le {R : List (Nat × Nat)} {i : Nat} (h : i ≤ R.length) : (mStay (R.take i)).length + (mArr (R.take i)).length = i := by
  rw [mStay_len, List.length_take]; omega
/-- the row while its containers are looked at: ahead those that stay, from i on those of before -/
def mBr (R : List (Nat × Nat)) (i : Nat) (u s : Nat → Int32) : Prop := mR (mStay (R.take i)) u s ∧ ∀ j : Nat, i ≤ j → j < R.length → u j = nI (mg R j).1 ∧ s j = nI (mg R j).2
theorem mBr_0 {R : List (Nat × Nat)} {u s : Nat → Int32} (h : mR R u s) : mBr R 0 u s := ⟨mR_nil, fun j _ hj => h j hj⟩
theorem mBr_end {R : List (Nat × Nat)} {u s : Nat → Int32} (h : mBr R R.length u s) : mR (mStay R) u s := by
  have := h.1
  rw [List.take_length] at this
  exact this
theorem mBr_t {R : List (Nat × Nat)} {i : Nat} {u s : Nat → Int32} (h : mBr R i u s) (hi : i < R.length) (h2 : 1 < (mg R i).2) : mBr R (i + 1) (upd u (mStay (R.take i)).length (nI (mg R i).1)) (upd s (mStay (R.take i)).length (nI ((mg R i).2 - 1))) := by
  refine ⟨?_, fun j h3 h4 => ?_⟩
  · rw [(mStay_t hi h2).1]
    exact mR_snoc h.1
  · have h5 := mStay_le (Nat.le_of_lt hi)
    have h6 := h.2 j (by omega) h4
    unfold upd
    rw [if_neg (by omega), if_neg (by omega)]
    exact h6
theorem mBr_f {R : List (Nat × Nat)} {i : Nat} {u s : Nat → Int32} (h : mBr R i u s) (hi : i < R.length) (h2 : ¬ 1 < (mg R i).2) : mBr R (i + 1) u s := by
  refine ⟨?_, fun j h3 h4 => h.2 j (by omega) h4⟩
  rw [(mStay_f hi h2).1]
  exact h.1
abbrev rmX0_init : Room := { frames := 1, cells := 2, slots := 10, locals := 30 }
set_option maxRecDepth 100000 in
set_option maxHeartbeats 4000000 in
theorem cX0_init_k (l : Launch) (K : kE) (a0 : Nat) : kM l yX0_init (kws yX0_init cX0_init 1 none) rmX0_init K [.ref a0] [kO a0 0 [.null, .null, .int (nI 0)]] (fun v w => v = none ∧ ∃ (a1 a2 : Nat) (u2 s2 : Nat → Int32), w = wRd K a0 a1 a2 u2 s2 0) := by
  refine kM_of (pl := []) (X := [kO a0 0 [.null, .null, .int (nI 0)]]) rfl (by decide) (Nat.le_of_ble_eq_true rfl) ?_
  intro p e s m args below meth cd A Q hC hnm hE
  refine k_eX (show _ = [kO a0 0 [.null, .null, .int (nI 0)]] from rfl) ?_
  refine k_aload_n hC 0 dX0_init_0 rfl rfl ?_
  refine k_objInit hC lkM_X0_3 lkI_objectInit lkC_objectInit dX0_init_1 (Nat.le_of_ble_eq_true rfl) (Nat.le_of_ble_eq_true rfl) ?_
  refine k_aload_n hC 0 dX0_init_4 rfl rfl ?_
  refine k_iconst hC (nI 5) dX0_init_5 rfl ?_
  refine k_newI hC 5 rfl (by decide) (Nat.le_of_ble_eq_true rfl) (Nat.le_of_ble_eq_true rfl) lkA_int dX0_init_6 (fun q1 => ?_)
  refine k_eX (show _ = [kO a0 0 [.null, .null, .int (nI 0)], kI K q1 5 ((fun _ => 0))] from rfl) ?_
  refine k_putF hC hnm inlX0 tyX0_ok nmX0 0 0 rfl rfl (by decide) lkF_X0_9 rfl rfl rfl rfl (Nat.le_of_ble_eq_true rfl) dX0_init_8 [kO a0 0 [.ref q1, .null, .int (nI 0)], kI K q1 5 ((fun _ => 0))] rfl ?_
  refine k_aload_n hC 0 dX0_init_11 rfl rfl ?_
  refine k_iconst hC (nI 5) dX0_init_12 rfl ?_
  refine k_newI hC 5 rfl (by decide) (Nat.le_of_ble_eq_true rfl) (Nat.le_of_ble_eq_true rfl) lkA_int dX0_init_13 (fun q2 => ?_)
  refine k_eX (show _ = [kO a0 0 [.ref q1, .null, .int (nI 0)], kI K q1 5 ((fun _ => 0)), kI K q2 5 ((fun _ => 0))] from rfl) ?_
  refine k_putF hC hnm inlX0 tyX0_ok nmX0 0 1 rfl rfl (by decide) lkF_X0_15 rfl rfl rfl rfl (Nat.le_of_ble_eq_true rfl) dX0_init_15 [kO a0 0 [.ref q1, .ref q2, .int (nI 0)], kI K q1 5 ((fun _ => 0)), kI K q2 5 ((fun _ => 0))] rfl ?_
  refine k_aload_n hC 0 dX0_init_18 rfl rfl ?_
  refine k_iconst hC (nI 0) dX0_init_19 rfl ?_
  refine k_put hC inlX0 tyX0_ok nmX0 0 2 rfl rfl (by decide) lkF_X0_18 rfl rfl rfl (Nat.le_of_ble_eq_true rfl) dX0_init_20 [kO a0 0 [.ref q1, .ref q2, .int (nI 0)], kI K q1 5 ((fun _ => 0)), kI K q2 5 ((fun _ => 0))] rfl ?_
  exact k_vret hC hE (Nat.le_of_ble_eq_true rfl) (Nat.le_of_ble_eq_true rfl) dX0_init_23 ⟨rfl, q1, q2, _, _, rfl⟩
abbrev rmX0_allUnits : Room := { frames := 0, cells := 0, slots := 0, locals := 0 }
set_option maxRecDepth 100000 in
set_option maxHeartbeats 4000000 in
theorem cX0_allUnits_k (l : Launch) (K : kE) (a0 a1 a2 : Nat) (u sp : Nat → Int32) (R : List (Nat × Nat)) (hL : R.length ≤ 5) (hR : mR R u sp) : kM l yX0_allUnits (kws yX0_allUnits cX0_allUnits 3 (some .int)) rmX0_allUnits K [.ref a0] (wRd K a0 a1 a2 u sp R.length) (fun v w => v = some (.int (nI (mU R))) ∧ w = wRd K a0 a1 a2 u sp R.length) := by
  refine kM_of (pl := []) (X := (wRd K a0 a1 a2 u sp R.length)) rfl (by decide) (Nat.le_of_ble_eq_true rfl) ?_
  intro p e s m args below meth cd A Q hC hnm hE
  refine k_eX (show _ = [kO a0 0 [.ref a1, .ref a2, .int (nI R.length)], kI K a1 5 u, kI K a2 5 sp] from rfl) ?_
  refine k_iconst hC (nI 0) dX0_allUnits_0 rfl ?_
  refine k_istore_n hC 1 dX0_allUnits_1 rfl (by decide) rfl [(0, .ref a0), (1, .int (nI 0))] rfl ?_
  refine k_iconst hC (nI 0) dX0_allUnits_2 rfl ?_
  refine k_istore_n hC 2 dX0_allUnits_3 rfl (by decide) rfl [(0, .ref a0), (1, .int (nI 0)), (2, .int (nI 0))] rfl ?_
  have loop : ∀ (n i sm : Nat), n + i = R.length + 1 → i ≤ R.length → sm = mU (R.take i) → kW p l e rmX0_allUnits s m args below meth cd K A 3 Q 0 0 ([]) [kO a0 0 [.ref a1, .ref a2, .int (nI R.length)], kI K a1 5 u, kI K a2 5 sp] [(0, .ref a0), (1, .int (nI sm)), (2, .int (nI i))] 4 [] := by
    intro n
    induction n with
    | zero => intro i sm h1 h2; exact absurd h1 (by omega)
    | succ n ih =>
      intro i sm h1 h2 hs
      refine k_iload_n hC 2 dX0_allUnits_4 rfl rfl ?_
      refine k_aload_n hC 0 dX0_allUnits_5 rfl rfl ?_
      refine k_get hC inlX0 0 2 rfl rfl (by decide) lkF_X0_18 rfl dX0_allUnits_6 ?_
      refine k_icmp_geN hC 32 dX0_allUnits_9 (by decide) (by omega) (by omega) (fun c1 => ?_) (fun c1 => ?_)
      · refine k_iload_n hC 1 dX0_allUnits_32 rfl rfl ?_
        exact k_iret hC hE (Nat.le_of_ble_eq_true rfl) (Nat.le_of_ble_eq_true rfl) dX0_allUnits_33 ⟨by rw [hs, show i = R.length by omega, List.take_length], rfl⟩
      · refine k_iload_n hC 2 dX0_allUnits_12 rfl rfl ?_
        refine k_iconst hC (nI 5) dX0_allUnits_13 rfl ?_
        refine k_icmp_geN hC 32 dX0_allUnits_14 (by decide) (by omega) (by omega) (fun c2 => ?_) (fun c2 => ?_)
        · exact absurd c2 (by omega)
        · have hi : i < R.length := by omega
          refine k_iload_n hC 1 dX0_allUnits_17 rfl rfl ?_
          refine k_aload_n hC 0 dX0_allUnits_18 rfl rfl ?_
          refine k_get hC inlX0 0 0 rfl rfl (by decide) lkF_X0_9 rfl dX0_allUnits_19 ?_
          refine k_iload_n hC 2 dX0_allUnits_22 rfl rfl ?_
          refine k_ald hC 1 rfl (by omega) (by decide) dX0_allUnits_23 ?_
          refine k_topE (nI ((mg R i).1)) (hR i hi).1 ?_
          refine k_iaddN hC dX0_allUnits_24 ?_
          refine k_istore_n hC 1 dX0_allUnits_25 rfl (by decide) rfl [(0, .ref a0), (1, .int (nI (sm + ((mg R i).1)))), (2, .int (nI i))] rfl ?_
          refine k_iinc hC dX0_allUnits_26 (by decide) rfl rfl (nI (i + 1)) (kinc i 1 rfl) [(0, .ref a0), (1, .int (nI (sm + ((mg R i).1)))), (2, .int (nI (i + 1)))] rfl ?_
          refine k_goto hC 4 dX0_allUnits_29 (by decide) ?_
          exact ih (i + 1) _ (by omega) (by omega) (by rw [mU_take hi, hs])
  exact loop (R.length + 1) 0 0 (by omega) (by omega) rfl
abbrev rmX0_add : Room := { frames := 0, cells := 0, slots := 0, locals := 0 }
set_option maxRecDepth 100000 in
set_option maxHeartbeats 4000000 in
theorem cX0_add_k (l : Launch) (K : kE) (a0 a1 a2 : Nat) (u sp : Nat → Int32) (R : List (Nat × Nat)) (x y : Nat) (hL : R.length < 5) (hR : mR R u sp) : kM l yX0_add (kws yX0_add cX0_add 3 none) rmX0_add K [.ref a0, .int (nI x), .int (nI y)] (wRd K a0 a1 a2 u sp R.length) (fun v w => v = none ∧ ∃ u2 s2 : Nat → Int32, w = wRd K a0 a1 a2 u2 s2 (R ++ [(x, y)]).length ∧ mR (R ++ [(x, y)]) u2 s2) := by
  refine kM_of (pl := []) (X := (wRd K a0 a1 a2 u sp R.length)) rfl (by decide) (Nat.le_of_ble_eq_true rfl) ?_
  intro p e s m args below meth cd A Q hC hnm hE
  refine k_eX (show _ = [kO a0 0 [.ref a1, .ref a2, .int (nI R.length)], kI K a1 5 u, kI K a2 5 sp] from rfl) ?_
  refine k_aload_n hC 0 dX0_add_0 rfl rfl ?_
  refine k_get hC inlX0 0 2 rfl rfl (by decide) lkF_X0_18 rfl dX0_add_1 ?_
  refine k_if_lt hC 45 dX0_add_4 (by decide) (fun c1 => ?_) (fun c1 => ?_)
  · exact absurd c1 (fun q => by have := nI_pos (n := R.length) (by omega); exact this q)
  · refine k_aload_n hC 0 dX0_add_7 rfl rfl ?_
    refine k_get hC inlX0 0 2 rfl rfl (by decide) lkF_X0_18 rfl dX0_add_8 ?_
    refine k_iconst hC (nI 5) dX0_add_11 rfl ?_
    refine k_icmp_geN hC 45 dX0_add_12 (by decide) (by omega) (by omega) (fun c2 => ?_) (fun c2 => ?_)
    · exact absurd c2 (by omega)
    · refine k_aload_n hC 0 dX0_add_15 rfl rfl ?_
      refine k_get hC inlX0 0 0 rfl rfl (by decide) lkF_X0_9 rfl dX0_add_16 ?_
      refine k_aload_n hC 0 dX0_add_19 rfl rfl ?_
      refine k_get hC inlX0 0 2 rfl rfl (by decide) lkF_X0_18 rfl dX0_add_20 ?_
      refine k_iload_n hC 1 dX0_add_23 rfl rfl ?_
      refine k_ast hC 1 rfl (by omega) (by decide) dX0_add_24 [kO a0 0 [.ref a1, .ref a2, .int (nI R.length)], kI K a1 5 (upd u R.length (nI x)), kI K a2 5 sp] rfl ?_
      refine k_aload_n hC 0 dX0_add_25 rfl rfl ?_
      refine k_get hC inlX0 0 1 rfl rfl (by decide) lkF_X0_15 rfl dX0_add_26 ?_
      refine k_aload_n hC 0 dX0_add_29 rfl rfl ?_
      refine k_get hC inlX0 0 2 rfl rfl (by decide) lkF_X0_18 rfl dX0_add_30 ?_
      refine k_iload_n hC 2 dX0_add_33 rfl rfl ?_
      refine k_ast hC 2 rfl (by omega) (by decide) dX0_add_34 [kO a0 0 [.ref a1, .ref a2, .int (nI R.length)], kI K a1 5 (upd u R.length (nI x)), kI K a2 5 (upd sp R.length (nI y))] rfl ?_
      refine k_aload_n hC 0 dX0_add_35 rfl rfl ?_
      refine k_dup hC dX0_add_36 rfl ?_
      refine k_get hC inlX0 0 2 rfl rfl (by decide) lkF_X0_18 rfl dX0_add_37 ?_
      refine k_iconst hC (nI 1) dX0_add_40 rfl ?_
      refine k_iaddN hC dX0_add_41 ?_
      refine k_put hC inlX0 tyX0_ok nmX0 0 2 rfl rfl (by decide) lkF_X0_18 rfl rfl rfl (Nat.le_of_ble_eq_true rfl) dX0_add_42 [kO a0 0 [.ref a1, .ref a2, .int (nI (R.length + 1))], kI K a1 5 (upd u R.length (nI x)), kI K a2 5 (upd sp R.length (nI y))] rfl ?_
      exact k_vret hC hE (Nat.le_of_ble_eq_true rfl) (Nat.le_of_ble_eq_true rfl) dX0_add_45 ⟨rfl, _, _, by rw [List.length_append, List.length_singleton]; rfl, mR_snoc hR⟩
abbrev rmX0_bringTo : Room := { frames := 1, cells := 0, slots := 0, locals := 21 }
set_option maxRecDepth 100000 in
set_option maxHeartbeats 4000000 in
theorem cX0_bringTo_k (l : Launch) (K : kE) (a0 a1 a2 b0 b1 b2 : Nat) (u sp v c : Nat → Int32) (R B : List (Nat × Nat)) (hL : R.length ≤ 5) (hB : B.length + R.length ≤ 10) (hR : mR R u sp) (hRB : mR B v c) (hst : ∀ i, i < R.length → 1 ≤ (mg R i).2 ∧ (mg R i).2 ≤ 5) : kM l yX0_bringTo (kws yX0_bringTo cX0_bringTo 5 none) rmX0_bringTo K [.ref a0, .ref b0] (wRd K a0 a1 a2 u sp R.length ++ wSt K b0 b1 b2 v c B.length) (fun v w => v = none ∧ ∃ u2 s2 v2 c2 : Nat → Int32, w = wRd K a0 a1 a2 u2 s2 (mStay R).length ++ wSt K b0 b1 b2 v2 c2 (B ++ mArr R).length ∧ mR (mStay R) u2 s2 ∧ mR (B ++ mArr R) v2 c2) := by
  refine kM_of (pl := []) (X := (wRd K a0 a1 a2 u sp R.length ++ wSt K b0 b1 b2 v c B.length)) rfl (by decide) (Nat.le_of_ble_eq_true rfl) ?_
  intro p e s m args below meth cd A Q hC hnm hE
  refine k_eX (show _ = [kO a0 0 [.ref a1, .ref a2, .int (nI R.length)], kI K a1 5 u, kI K a2 5 sp, kO b0 2 [.ref b1, .ref b2, .int (nI B.length)], kI K b1 10 v, kZ K b2 10 c] from rfl) ?_
  refine k_iconst hC (nI 0) dX0_bringTo_0 rfl ?_
  refine k_istore_n hC 2 dX0_bringTo_1 rfl (by decide) rfl [(0, .ref a0), (1, .ref b0), (2, .int (nI 0))] rfl ?_
  refine k_iconst hC (nI 0) dX0_bringTo_2 rfl ?_
  refine k_istore_n hC 3 dX0_bringTo_3 rfl (by decide) rfl [(0, .ref a0), (1, .ref b0), (2, .int (nI 0)), (3, .int (nI 0))] rfl ?_
  have loop : ∀ (n i : Nat) (u9 s9 v9 c9 : Nat → Int32), n + i = R.length + 1 → i ≤ R.length → mBr R i u9 s9 → mR (B ++ mArr (R.take i)) v9 c9 → kW p l e rmX0_bringTo s m args below meth cd K A 5 Q 0 0 ([]) [kO a0 0 [.ref a1, .ref a2, .int (nI R.length)], kI K a1 5 u9, kI K a2 5 s9, kO b0 2 [.ref b1, .ref b2, .int (nI ((B ++ mArr (R.take i)).length))], kI K b1 10 v9, kZ K b2 10 c9] [(0, .ref a0), (1, .ref b0), (2, .int (nI ((mStay (R.take i)).length))), (3, .int (nI i))] 4 [] := by
    intro n
    induction n with
    | zero => intro i u9 s9 v9 c9 h1 h2; exact absurd h1 (by omega)
    | succ n ih =>
      intro i u9 s9 v9 c9 h1 h2 h3 h4
      refine k_iload_n hC 3 dX0_bringTo_4 rfl rfl ?_
      refine k_aload_n hC 0 dX0_bringTo_5 rfl rfl ?_
      refine k_get hC inlX0 0 2 rfl rfl (by decide) lkF_X0_18 rfl dX0_bringTo_6 ?_
      refine k_icmp_geN hC 74 dX0_bringTo_9 (by decide) (by omega) (by omega) (fun c1 => ?_) (fun c1 => ?_)
      · have e9 : i = R.length := by omega
        refine k_aload_n hC 0 dX0_bringTo_74 rfl rfl ?_
        refine k_iload_n hC 2 dX0_bringTo_75 rfl rfl ?_
        refine k_put hC inlX0 tyX0_ok nmX0 0 2 rfl rfl (by decide) lkF_X0_18 rfl rfl rfl (Nat.le_of_ble_eq_true rfl) dX0_bringTo_76 [kO a0 0 [.ref a1, .ref a2, .int (nI ((mStay (R.take i)).length))], kI K a1 5 u9, kI K a2 5 s9, kO b0 2 [.ref b1, .ref b2, .int (nI ((B ++ mArr (R.take i)).length))], kI K b1 10 v9, kZ K b2 10 c9] rfl ?_
        exact k_vret hC hE (Nat.le_of_ble_eq_true rfl) (Nat.le_of_ble_eq_true rfl) dX0_bringTo_79 ⟨rfl, u9, s9, v9, c9, by rw [e9, List.take_length]; rfl, mBr_end (e9 ▸ h3), by rw [e9, List.take_length] at h4; exact h4⟩
      · refine k_iload_n hC 3 dX0_bringTo_12 rfl rfl ?_
        refine k_iconst hC (nI 5) dX0_bringTo_13 rfl ?_
        refine k_icmp_geN hC 74 dX0_bringTo_14 (by decide) (by omega) (by omega) (fun c2 => ?_) (fun c2 => ?_)
        · exact absurd c2 (by omega)
        · have hi : i < R.length := by omega
          have hs1 := hst i hi
          have hlen := mStay_le (Nat.le_of_lt hi)
          refine k_aload_n hC 0 dX0_bringTo_17 rfl rfl ?_
          refine k_get hC inlX0 0 1 rfl rfl (by decide) lkF_X0_15 rfl dX0_bringTo_18 ?_
          refine k_iload_n hC 3 dX0_bringTo_21 rfl rfl ?_
          refine k_ald hC 2 rfl (by omega) (by decide) dX0_bringTo_22 ?_
          refine k_topE (nI ((mg R i).2)) (h3.2 i (Nat.le_refl i) hi).2 ?_
          refine k_iconst hC (nI 1) dX0_bringTo_23 rfl ?_
          refine k_isubN hC dX0_bringTo_24 (by omega) ?_
          refine k_istore hC dX0_bringTo_25 (by decide) rfl [(0, .ref a0), (1, .ref b0), (2, .int (nI ((mStay (R.take i)).length))), (3, .int (nI i)), (4, .int (nI (((mg R i).2) - 1)))] rfl ?_
          refine k_iload hC dX0_bringTo_27 rfl ?_
          refine k_if_leN hC 58 dX0_bringTo_29 (by decide) (by omega) (fun c3 => ?_) (fun c3 => ?_)
          · have h2n : ¬ 1 < (mg R i).2 := by omega
            refine k_aload_n hC 1 dX0_bringTo_58 rfl rfl ?_
            refine k_aload_n hC 0 dX0_bringTo_59 rfl rfl ?_
            refine k_get hC inlX0 0 0 rfl rfl (by decide) lkF_X0_9 rfl dX0_bringTo_60 ?_
            refine k_iload_n hC 3 dX0_bringTo_63 rfl rfl ?_
            refine k_ald hC 1 rfl (by omega) (by decide) dX0_bringTo_64 ?_
            refine k_topE (nI ((mg R i).1)) (h3.2 i (Nat.le_refl i) hi).1 ?_
            refine k_perm [3, 4, 5, 0, 1, 2] [kO b0 2 [.ref b1, .ref b2, .int (nI ((B ++ mArr (R.take i)).length))], kI K b1 10 v9, kZ K b2 10 c9, kO a0 0 [.ref a1, .ref a2, .int (nI R.length)], kI K a1 5 u9, kI K a2 5 s9] rfl rfl ?_
            refine k_callVN hC (As := [.int (nI ((mg R i).1))]) (cX2_add_k l K b0 b1 b2 v9 c9 (B ++ mArr (R.take i)) (mg R i).1 (by rw [List.length_append]; omega) h4) [kO a0 0 [.ref a1, .ref a2, .int (nI R.length)], kI K a1 5 u9, kI K a2 5 s9] rfl 0 rfl rfl (kAll4 lkI_yX2_add lkS_yX2_add lkN_X2 lkC_yX2_add) (List.mem_of_getElem? (i := 13) rfl) 1 (by decide) ⟨(Nat.le_of_ble_eq_true rfl), (Nat.le_of_ble_eq_true rfl)⟩ rfl rfl (Nat.le_of_ble_eq_true rfl) ⟨(Nat.le_of_ble_eq_true rfl), (Nat.le_of_ble_eq_true rfl)⟩ dX0_bringTo_65 (fun v w h => ?_)
            obtain ⟨rfl, v8, c8, rfl, h8⟩ := h
            refine k_re 0 0 [kO b0 2 [.ref b1, .ref b2, .int (nI ((B ++ mArr (R.take i) ++ [((mg R i).1, 1)]).length))], kI K b1 10 v8, kZ K b2 10 c8, kO a0 0 [.ref a1, .ref a2, .int (nI R.length)], kI K a1 5 u9, kI K a2 5 s9] [] rfl rfl rfl rfl ?_
            refine k_perm [3, 4, 5, 0, 1, 2] [kO a0 0 [.ref a1, .ref a2, .int (nI R.length)], kI K a1 5 u9, kI K a2 5 s9, kO b0 2 [.ref b1, .ref b2, .int (nI ((B ++ mArr (R.take i) ++ [((mg R i).1, 1)]).length))], kI K b1 10 v8, kZ K b2 10 c8] rfl rfl ?_
            refine k_iinc hC dX0_bringTo_68 (by decide) rfl rfl (nI (i + 1)) (kinc i 1 rfl) [(0, .ref a0), (1, .ref b0), (2, .int (nI ((mStay (R.take i)).length))), (3, .int (nI (i + 1))), (4, .int (nI (((mg R i).2) - 1)))] rfl ?_
            refine k_goto hC 4 dX0_bringTo_71 (by decide) ?_
            refine k_lsub [0, 1, 2, 3] [(0, .ref a0), (1, .ref b0), (2, .int (nI ((mStay (R.take i)).length))), (3, .int (nI (i + 1)))] rfl ?_
            have h7 := mStay_f hi h2n
            have h6 := ih (i + 1) u9 s9 v8 c8 (by omega) (by omega) (mBr_f h3 hi h2n) (by rw [h7.2, ← List.append_assoc]; exact h8)
            rw [h7.1, h7.2, ← List.append_assoc] at h6
            exact h6
          · have h2t : 1 < (mg R i).2 := by omega
            refine k_aload_n hC 0 dX0_bringTo_32 rfl rfl ?_
            refine k_get hC inlX0 0 0 rfl rfl (by decide) lkF_X0_9 rfl dX0_bringTo_33 ?_
            refine k_iload_n hC 2 dX0_bringTo_36 rfl rfl ?_
            refine k_aload_n hC 0 dX0_bringTo_37 rfl rfl ?_
            refine k_get hC inlX0 0 0 rfl rfl (by decide) lkF_X0_9 rfl dX0_bringTo_38 ?_
            refine k_iload_n hC 3 dX0_bringTo_41 rfl rfl ?_
            refine k_ald hC 1 rfl (by omega) (by decide) dX0_bringTo_42 ?_
            refine k_topE (nI ((mg R i).1)) (h3.2 i (Nat.le_refl i) hi).1 ?_
            refine k_ast hC 1 rfl (by omega) (by decide) dX0_bringTo_43 [kO a0 0 [.ref a1, .ref a2, .int (nI R.length)], kI K a1 5 (upd u9 ((mStay (R.take i)).length) (nI ((mg R i).1))), kI K a2 5 s9, kO b0 2 [.ref b1, .ref b2, .int (nI ((B ++ mArr (R.take i)).length))], kI K b1 10 v9, kZ K b2 10 c9] rfl ?_
            refine k_aload_n hC 0 dX0_bringTo_44 rfl rfl ?_
            refine k_get hC inlX0 0 1 rfl rfl (by decide) lkF_X0_15 rfl dX0_bringTo_45 ?_
            refine k_iload_n hC 2 dX0_bringTo_48 rfl rfl ?_
            refine k_iload hC dX0_bringTo_49 rfl ?_
            refine k_ast hC 2 rfl (by omega) (by decide) dX0_bringTo_51 [kO a0 0 [.ref a1, .ref a2, .int (nI R.length)], kI K a1 5 (upd u9 ((mStay (R.take i)).length) (nI ((mg R i).1))), kI K a2 5 (upd s9 ((mStay (R.take i)).length) (nI (((mg R i).2) - 1))), kO b0 2 [.ref b1, .ref b2, .int (nI ((B ++ mArr (R.take i)).length))], kI K b1 10 v9, kZ K b2 10 c9] rfl ?_
            refine k_iinc hC dX0_bringTo_52 (by decide) rfl rfl (nI ((mStay (R.take i)).length + 1)) (kinc ((mStay (R.take i)).length) 1 rfl) [(0, .ref a0), (1, .ref b0), (2, .int (nI ((mStay (R.take i)).length + 1))), (3, .int (nI i)), (4, .int (nI (((mg R i).2) - 1)))] rfl ?_
            refine k_goto hC 68 dX0_bringTo_55 (by decide) ?_
            refine k_iinc hC dX0_bringTo_68 (by decide) rfl rfl (nI (i + 1)) (kinc i 1 rfl) [(0, .ref a0), (1, .ref b0), (2, .int (nI ((mStay (R.take i)).length + 1))), (3, .int (nI (i + 1))), (4, .int (nI (((mg R i).2) - 1)))] rfl ?_
            refine k_goto hC 4 dX0_bringTo_71 (by decide) ?_
            refine k_lsub [0, 1, 2, 3] [(0, .ref a0), (1, .ref b0), (2, .int (nI ((mStay (R.take i)).length + 1))), (3, .int (nI (i + 1)))] rfl ?_
            have h7 := mStay_t hi h2t
            have h6 := ih (i + 1) _ _ v9 c9 (by omega) (by omega) (mBr_t h3 hi h2t) (by rw [h7.2]; exact h4)
            rw [show (mStay (R.take (i + 1))).length = (mStay (R.take i)).length + 1 by rw [h7.1, List.length_append, List.length_singleton], h7.2] at h6
            exact h6
  have h5 := loop (R.length + 1) 0 u sp v c (by omega) (by omega) (mBr_0 hR) (by show mR (B ++ []) v c; rw [List.append_nil]; exact hRB)
  rw [show B ++ mArr (R.take 0) = B from List.append_nil B] at h5
  exact h5
end
section
/-! a stage as numbers and lists; what its methods do to it; what always holds of it -/
abbrev mT : Type := (Nat → Nat) × (Nat → Int32) × (Nat → List (Nat × Nat))
def mGoOn (τ : mT) : mT := if τ.1 10 = 0 then τ else (va_up τ.1 10 (τ.1 10 - 1), τ.2.1, if τ.1 10 = 1 then va_up τ.2.2 0 (τ.2.2 0 ++ [(τ.1 2, 1)]) else τ.2.2)
def mBegin (r first : Bool) (τ : mT) : mT :=
  if first = true then (va_up (va_up (va_up τ.1 9 (τ.1 9 - 1)) 11 (τ.1 11 - 1)) 10 (τ.1 3), va_up τ.2.1 1 (τ.2.1 1 + nI (τ.1 2)), τ.2.2)
  else (va_up (va_up (va_up (va_up τ.1 14 (τ.1 14 + (mTake (τ.2.2 1) (τ.1 2) r).2)) 9 (τ.1 9 - 1)) 11 (τ.1 11 - 1)) 10 (τ.1 3), τ.2.1, va_up τ.2.2 1 (mTake (τ.2.2 1) (τ.1 2) r).1)
/-- the run that is on or begins -/
def mRun (τ : mT) : Nat := if τ.1 11 = 0 ∧ τ.1 7 ≤ τ.1 9 then τ.1 9 else τ.1 11
def mStart (r first : Bool) (τ : mT) : mT :=
  if mRun τ = 0 then τ
  else if first = false ∧ mU (τ.2.2 1) < τ.1 2 then (va_up τ.1 11 (mRun τ), va_up τ.2.1 0 (τ.2.1 0 + 1), τ.2.2)
  else mBegin r first (va_up τ.1 11 (mRun τ), τ.2.1, τ.2.2)
def mWork (r first : Bool) (τ : mT) : mT := if τ.1 12 ≠ 0 then τ else if (mGoOn τ).1 10 ≠ 0 then mGoOn τ else mStart r first (mGoOn τ)
def mBring (τ : mT) : mT := (τ.1, τ.2.1, va_up (va_up τ.2.2 1 (τ.2.2 1 ++ mArr (τ.2.2 2))) 2 (mStay (τ.2.2 2)))
/-- one container, x, fetched -/
def mGet (τ : mT) (x : Nat × Nat) : mT := (va_up τ.1 14 (τ.1 14 - 1), τ.2.1, if τ.1 15 = 0 then va_up τ.2.2 1 (τ.2.2 1 ++ [(x.1, 1)]) else va_up τ.2.2 2 (τ.2.2 2 ++ [(x.1, τ.1 15)]))
def mGive (α : mT) (x : Nat × Nat) (t : List (Nat × Nat)) : mT := (va_up α.1 9 (α.1 9 + x.2), α.2.1, va_up α.2.2 0 t)
def mFetch : Nat → mT → mT → mT × mT
  | 0, τ, α => (τ, α)
  | n + 1, τ, α => match α.2.2 0 with
    | [] => (τ, α)
    | x :: t => mFetch n (mGet τ x) (mGive α x t)
def mConvey (τ α : mT) : mT × mT := mFetch (min (τ.1 14) (α.2.2 0).length) (mBring τ) α
def mHeld (τ : mT) : Nat := mU (τ.2.2 0) + mU (τ.2.2 1) + mU (τ.2.2 2) + (if τ.1 10 = 0 then 0 else τ.1 2)
def mInv (first : Bool) (τ : mT) : Prop :=
  (1 ≤ τ.1 2 ∧ τ.1 2 ≤ 10 ∧ 1 ≤ τ.1 3 ∧ τ.1 3 ≤ 9 ∧ 1 ≤ τ.1 7 ∧ τ.1 7 ≤ 9 ∧ 1 ≤ τ.1 8 ∧ τ.1 8 ≤ 9 ∧ τ.1 12 ≤ 1 ∧ τ.1 11 ≤ τ.1 9 ∧ τ.1 10 ≤ 9 ∧ τ.1 13 ≤ 5 ∧ τ.1 15 ≤ 5) ∧
  τ.1 9 + (if τ.1 10 = 0 then 0 else 1) + mCs (τ.2.2 0) = τ.1 8 ∧ τ.1 14 + (τ.2.2 2).length + mCs (τ.2.2 1) = τ.1 13 ∧
  mOk (τ.2.2 0) ∧ mOk (τ.2.2 1) ∧ (∀ x ∈ τ.2.2 2, 1 ≤ x.1 ∧ x.1 ≤ 10 ∧ 1 ≤ x.2 ∧ x.2 ≤ 5) ∧ (if first = true then τ.1 13 = 0 ∧ τ.2.2 1 = [] ∧ τ.1 15 = 0 else 1 ≤ τ.1 13)
theorem mInv_L0 {b : Bool} {τ : mT} (h : mInv b τ) : (τ.2.2 0).length + τ.1 9 + (if τ.1 10 = 0 then 0 else 1) ≤ 10 := by
  obtain ⟨h1, h2, h3, h4, h5, h6, h7⟩ := h
  have := mOk_len h4
  omega
theorem mInv_L1 {b : Bool} {τ : mT} (h : mInv b τ) : (τ.2.2 1).length + τ.1 14 + (τ.2.2 2).length ≤ 6 := by
  obtain ⟨h1, h2, h3, h4, h5, h6, h7⟩ := h
  have := mOk_len h5
  omega
theorem mInv_L2 {b : Bool} {τ : mT} (h : mInv b τ) : τ.1 14 + (τ.2.2 2).length ≤ 5 := by
  obtain ⟨h1, h2, h3, h4, h5, h6, h7⟩ := h
  omega
theorem mGoOn_inv {b : Bool} {τ : mT} (h : mInv b τ) : mInv b (mGoOn τ) := by
  obtain ⟨h1, h2, h3, h4, h5, h6, h7⟩ := h
  unfold mGoOn
  split
  · exact ⟨h1, h2, h3, h4, h5, h6, h7⟩
  · next hn =>
    rw [if_neg hn] at h2
    split
    · next h10 =>
      refine ⟨by simp [va_up]; omega, ?_, ?_, ?_, ?_, ?_, ?_⟩
      · simp [va_up, h10, mCs_app, mCs]; omega
      · simpa [va_up] using h3
      · show mOk (τ.2.2 0 ++ [(τ.1 2, 1)])
        exact mOk_snoc h4 h1.1 h1.2.1
      · simpa [va_up] using h5
      · simpa [va_up] using h6
      · simpa [va_up] using h7
    · next h10 =>
      refine ⟨by simp [va_up]; omega, ?_, ?_, h4, h5, h6, ?_⟩
      · have : ¬ (τ.1 10 - 1 = 0) := by omega
        simp [va_up, this]; omega
      · simpa [va_up] using h3
      · simpa [va_up] using h7
theorem mRun_le {b : Bool} {τ : mT} (h : mInv b τ) : mRun τ ≤ τ.1 9 := by
  unfold mRun
  have := h.1
  split <;> omega
theorem mRun_inv {b : Bool} {τ : mT} (h : mInv b τ) : mInv b (va_up τ.1 11 (mRun τ), τ.2.1, τ.2.2) := by
  have hr := mRun_le h
  obtain ⟨h1, h2, h3, h4, h5, h6, h7⟩ := h
  refine ⟨by simp [va_up]; omega, ?_, ?_, h4, h5, h6, ?_⟩
  · simpa [va_up] using h2
  · simpa [va_up] using h3
  · simpa [va_up] using h7
theorem mBegin_inv {b r : Bool} {τ : mT} (h : mInv b τ) (h10 : τ.1 10 = 0) (h11 : τ.1 11 ≠ 0) : mInv b (mBegin r b τ) := by
  obtain ⟨h1, h2, h3, h4, h5, h6, h7⟩ := h
  rw [if_pos h10] at h2
  have h33 : τ.1 3 ≠ 0 := by omega
  unfold mBegin
  split
  · next hb =>
    refine ⟨by simp [va_up]; omega, ?_, ?_, h4, h5, h6, ?_⟩
    · simp [va_up, h33]; omega
    · simpa [va_up] using h3
    · simpa [va_up] using h7
  · next hb =>
    have hc := mTake_Cs (τ.2.2 1) (τ.1 2) r
    refine ⟨by simp [va_up]; omega, ?_, ?_, ?_, ?_, ?_, ?_⟩
    · simp [va_up, h33]; omega
    · simp [va_up]; omega
    · simpa [va_up] using h4
    · exact mTake_ok h5 _ _
    · simpa [va_up] using h6
    · rw [if_neg hb] at h7 ⊢
      simpa [va_up] using h7
theorem mStart_inv {b r : Bool} {τ : mT} (h : mInv b τ) (h10 : τ.1 10 = 0) : mInv b (mStart r b τ) := by
  unfold mStart
  split
  · exact h
  · next hr =>
    have h2 := mRun_inv h
    split
    · exact ⟨h2.1, h2.2.1, h2.2.2.1, h2.2.2.2.1, h2.2.2.2.2.1, h2.2.2.2.2.2.1, h2.2.2.2.2.2.2⟩
    · exact mBegin_inv h2 (by simpa [va_up] using h10) (by simpa [va_up] using hr)
theorem mWork_inv {b r : Bool} {τ : mT} (h : mInv b τ) : mInv b (mWork r b τ) := by
  unfold mWork
  split
  · exact h
  · split
    · exact mGoOn_inv h
    · next h10 => exact mStart_inv (mGoOn_inv h) (by simpa using h10)
theorem mArr_len (R : List (Nat × Nat)) (n : Nat) : mCs (mArr R) = (mArr R).length := by
  induction R with
  | nil => rfl
  | cons x t ih =>
    unfold mArr
    split
    · exact ih
    · simp only [mCs, List.length_cons, ih]; omega
theorem mArr_ok {R L : List (Nat × Nat)} (h : mOk L) (hR : ∀ x ∈ R, 1 ≤ x.1 ∧ x.1 ≤ 10 ∧ 1 ≤ x.2 ∧ x.2 ≤ 5) : mOk (L ++ mArr R) := by
  induction R generalizing L with
  | nil => simpa [mArr] using h
  | cons x t ih =>
    have hx := hR x List.mem_cons_self
    have ht := fun y hy => hR y (List.mem_cons_of_mem x hy)
    unfold mArr
    split
    · exact ih h ht
    · have := ih (mOk_snoc h hx.1 hx.2.1) ht
      rw [List.append_assoc] at this
      exact this
theorem mStay_ok {R : List (Nat × Nat)} (hR : ∀ x ∈ R, 1 ≤ x.1 ∧ x.1 ≤ 10 ∧ 1 ≤ x.2 ∧ x.2 ≤ 5) : ∀ x ∈ mStay R, 1 ≤ x.1 ∧ x.1 ≤ 10 ∧ 1 ≤ x.2 ∧ x.2 ≤ 5 := by
  induction R with
  | nil => intro x hx; cases hx
  | cons x t ih =>
    have hx := hR x List.mem_cons_self
    have ht := ih (fun y hy => hR y (List.mem_cons_of_mem x hy))
    unfold mStay
    split
    · intro y hy
      rcases List.mem_cons.mp hy with e | e
      · rw [e]; exact ⟨hx.1, hx.2.1, by show 1 ≤ x.2 - 1; omega, by show x.2 - 1 ≤ 5; omega⟩
      · exact ht y e
    · exact ht
theorem mBring_inv {τ : mT} (h : mInv false τ) : mInv false (mBring τ) := by
  obtain ⟨h1, h2, h3, h4, h5, h6, h7⟩ := h
  have hl := mStay_len (τ.2.2 2)
  have hc := mArr_len (τ.2.2 2) 0
  refine ⟨h1, h2, ?_, h4, ?_, ?_, h7⟩
  · show τ.1 14 + (mStay (τ.2.2 2)).length + mCs (τ.2.2 1 ++ mArr (τ.2.2 2)) = τ.1 13
    rw [mCs_app]; omega
  · show mOk (τ.2.2 1 ++ mArr (τ.2.2 2))
    exact mArr_ok h5 h6
  · show ∀ x ∈ mStay (τ.2.2 2), _
    exact mStay_ok h6
theorem mGet_inv {τ : mT} {x : Nat × Nat} (h : mInv false τ) (hw : 1 ≤ τ.1 14) (h1x : 1 ≤ x.1) (h2x : x.1 ≤ 10) : mInv false (mGet τ x) := by
  obtain ⟨h1, h2, h3, h4, h5, h6, h7⟩ := h
  unfold mGet
  split
  · refine ⟨by simp [va_up]; omega, ?_, ?_, ?_, ?_, ?_, ?_⟩
    · simpa [va_up] using h2
    · simp [va_up, mCs_app, mCs]; omega
    · simpa [va_up] using h4
    · show mOk (τ.2.2 1 ++ [(x.1, 1)])
      exact mOk_snoc h5 h1x h2x
    · simpa [va_up] using h6
    · simpa [va_up] using h7
  · next h15 =>
    refine ⟨by simp [va_up]; omega, ?_, ?_, ?_, ?_, ?_, ?_⟩
    · simpa [va_up] using h2
    · simp [va_up]; omega
    · simpa [va_up] using h4
    · simpa [va_up] using h5
    · show ∀ y ∈ τ.2.2 2 ++ [(x.1, τ.1 15)], _
      intro y hy
      rcases List.mem_append.mp hy with e | e
      · exact h6 y e
      · rw [List.mem_singleton.mp e]
        exact ⟨h1x, h2x, by show 1 ≤ τ.1 15; omega, by show τ.1 15 ≤ 5; omega⟩
    · simpa [va_up] using h7
theorem mGive_inv {b : Bool} {α : mT} {x : Nat × Nat} {t : List (Nat × Nat)} (h : mInv b α) (hx : α.2.2 0 = x :: t) : mInv b (mGive α x t) := by
  obtain ⟨h1, h2, h3, h4, h5, h6, h7⟩ := h
  rw [hx] at h2 h4
  refine ⟨by simp [mGive, va_up]; omega, ?_, ?_, ?_, ?_, ?_, ?_⟩
  · simp [mGive, va_up, mCs] at h2 ⊢; omega
  · simpa [mGive, va_up] using h3
  · exact mOk_tail h4
  · simpa [mGive, va_up] using h5
  · simpa [mGive, va_up] using h6
  · simpa [mGive, va_up] using h7
theorem mFetch_inv {b : Bool} (n : Nat) {τ α : mT} (h : mInv false τ) (h2 : mInv b α) (hn : n ≤ τ.1 14) : mInv false (mFetch n τ α).1 ∧ mInv b (mFetch n τ α).2 := by
  induction n generalizing τ α with
  | zero => exact ⟨h, h2⟩
  | succ n ih =>
    unfold mFetch
    split
    · exact ⟨h, h2⟩
    · next x t e =>
      have hx : mOk (x :: t) := by rw [← e]; exact h2.2.2.2.1
      exact ih (mGet_inv h (by omega) hx.1 hx.2.1) (mGive_inv h2 e) (by simp [mGet, va_up]; omega)
theorem mConvey_inv {b : Bool} {τ α : mT} (h : mInv false τ) (h2 : mInv b α) : mInv false (mConvey τ α).1 ∧ mInv b (mConvey τ α).2 :=
  mFetch_inv _ (mBring_inv h) h2 (Nat.min_le_left _ _)
end
section
/-! Stage: its worlds and contracts -/
abbrev wT (K : kE) (ah : Value) (a : Nat → Nat) (τ : mT) (u : Nat → Nat → Int32) : va_W := [kO (a 0) 1 [ah, .int (nI (τ.1 1)), .int (nI (τ.1 2)), .int (nI (τ.1 3)), .ref (a 1), .ref (a 4), .ref (a 7), .int (nI (τ.1 7)), .int (nI (τ.1 8)), .int (nI (τ.1 9)), .int (nI (τ.1 10)), .int (nI (τ.1 11)), .int (nI (τ.1 12)), .int (nI (τ.1 13)), .int (nI (τ.1 14)), .int (nI (τ.1 15)), .int (τ.2.1 0), .int (τ.2.1 1)], kO (a 1) 2 [.ref (a 2), .ref (a 3), .int (nI (τ.2.2 0).length)], kI K (a 2) 10 (u 0), kZ K (a 3) 10 (u 1), kO (a 4) 2 [.ref (a 5), .ref (a 6), .int (nI (τ.2.2 1).length)], kI K (a 5) 10 (u 2), kZ K (a 6) 10 (u 3), kO (a 7) 0 [.ref (a 8), .ref (a 9), .int (nI (τ.2.2 2).length)], kI K (a 8) 5 (u 4), kI K (a 9) 5 (u 5)]
def mRT (τ : mT) (u : Nat → Nat → Int32) : Prop := mR (τ.2.2 0) (u 0) (u 1) ∧ mR (τ.2.2 1) (u 2) (u 3) ∧ mR (τ.2.2 2) (u 4) (u 5)
theorem kminN {a b : Nat} (ha : a < 2 ^ 31) (hb : b < 2 ^ 31) : (if nI a < nI b then nI a else nI b) = nI (min b a) := by
  rcases Nat.le_total a b with h | h
  · rw [kmin_le ha hb h, Nat.min_eq_right h]
  · rw [kmin_gt ha hb h, Nat.min_eq_left h]
abbrev rmX1_goOn : Room := { frames := 1, cells := 0, slots := 0, locals := 21 }
set_option maxRecDepth 100000 in
set_option maxHeartbeats 4000000 in
theorem cX1_goOn_k (l : Launch) (K : kE) (a : Nat → Nat) (ah : Value) (τ : mT) (u : Nat → Nat → Int32) (b : Bool) (hI : mInv b τ) (hT : mRT τ u) : kM l yX1_goOn (kws yX1_goOn cX1_goOn 1 none) rmX1_goOn K [.ref (a 0)] (wT K ah a τ u) (fun v w => v = none ∧ ∃ u2 : Nat → Nat → Int32, w = wT K ah a (mGoOn τ) u2 ∧ mRT (mGoOn τ) u2) := by
  refine kM_of (pl := []) (X := (wT K ah a τ u)) rfl (by decide) (Nat.le_of_ble_eq_true rfl) ?_
  intro p e s m args below meth cd A Q hC hnm hE
  refine k_eX (show _ = [kO (a 0) 1 [ah, .int (nI (τ.1 1)), .int (nI (τ.1 2)), .int (nI (τ.1 3)), .ref (a 1), .ref (a 4), .ref (a 7), .int (nI (τ.1 7)), .int (nI (τ.1 8)), .int (nI (τ.1 9)), .int (nI (τ.1 10)), .int (nI (τ.1 11)), .int (nI (τ.1 12)), .int (nI (τ.1 13)), .int (nI (τ.1 14)), .int (nI (τ.1 15)), .int (τ.2.1 0), .int (τ.2.1 1)], kO (a 1) 2 [.ref (a 2), .ref (a 3), .int (nI ((τ.2.2 0).length))], kI K (a 2) 10 (u 0), kZ K (a 3) 10 (u 1), kO (a 4) 2 [.ref (a 5), .ref (a 6), .int (nI ((τ.2.2 1).length))], kI K (a 5) 10 (u 2), kZ K (a 6) 10 (u 3), kO (a 7) 0 [.ref (a 8), .ref (a 9), .int (nI ((τ.2.2 2).length))], kI K (a 8) 5 (u 4), kI K (a 9) 5 (u 5)] from rfl) ?_
  have hn := hI.1
  have hl0 := mInv_L0 hI
  have hl1 := mInv_L1 hI
  have hl2 := mInv_L2 hI
  have h89 : τ.1 9 ≤ 9 := by have := hI.2.1; omega
  refine k_aload_n hC 0 dX1_goOn_0 rfl rfl ?_
  refine k_get hC inlX1 0 10 rfl rfl (by decide) lkF_X1_60 rfl dX1_goOn_1 ?_
  refine k_if_leN hC 35 dX1_goOn_4 (by decide) (by omega) (fun c1 => ?_) (fun c1 => ?_)
  · exact k_vret hC hE (Nat.le_of_ble_eq_true rfl) (Nat.le_of_ble_eq_true rfl) dX1_goOn_35 (by rw [show mGoOn τ = τ by unfold mGoOn; rw [if_pos c1]]; exact ⟨rfl, u, rfl, hT⟩)
  · refine k_aload_n hC 0 dX1_goOn_7 rfl rfl ?_
    refine k_dup hC dX1_goOn_8 rfl ?_
    refine k_get hC inlX1 0 10 rfl rfl (by decide) lkF_X1_60 rfl dX1_goOn_9 ?_
    refine k_iconst hC (nI 1) dX1_goOn_12 rfl ?_
    refine k_isubN hC dX1_goOn_13 (by omega) ?_
    refine k_put hC inlX1 tyX1_ok nmX1 0 10 rfl rfl (by decide) lkF_X1_60 rfl rfl rfl (Nat.le_of_ble_eq_true rfl) dX1_goOn_14 [kO (a 0) 1 [ah, .int (nI (τ.1 1)), .int (nI (τ.1 2)), .int (nI (τ.1 3)), .ref (a 1), .ref (a 4), .ref (a 7), .int (nI (τ.1 7)), .int (nI (τ.1 8)), .int (nI (τ.1 9)), .int (nI ((τ.1 10) - 1)), .int (nI (τ.1 11)), .int (nI (τ.1 12)), .int (nI (τ.1 13)), .int (nI (τ.1 14)), .int (nI (τ.1 15)), .int (τ.2.1 0), .int (τ.2.1 1)], kO (a 1) 2 [.ref (a 2), .ref (a 3), .int (nI ((τ.2.2 0).length))], kI K (a 2) 10 (u 0), kZ K (a 3) 10 (u 1), kO (a 4) 2 [.ref (a 5), .ref (a 6), .int (nI ((τ.2.2 1).length))], kI K (a 5) 10 (u 2), kZ K (a 6) 10 (u 3), kO (a 7) 0 [.ref (a 8), .ref (a 9), .int (nI ((τ.2.2 2).length))], kI K (a 8) 5 (u 4), kI K (a 9) 5 (u 5)] rfl ?_
    refine k_aload_n hC 0 dX1_goOn_17 rfl rfl ?_
    refine k_get hC inlX1 0 10 rfl rfl (by decide) lkF_X1_60 rfl dX1_goOn_18 ?_
    refine k_if_neN hC 35 dX1_goOn_21 (by decide) (by omega) (fun c2 => ?_) (fun c2 => ?_)
    · exact k_vret hC hE (Nat.le_of_ble_eq_true rfl) (Nat.le_of_ble_eq_true rfl) dX1_goOn_35 (by rw [show mGoOn τ = (va_up τ.1 10 (τ.1 10 - 1), τ.2.1, τ.2.2) by unfold mGoOn; rw [if_neg c1, if_neg (by omega)]]; exact ⟨rfl, u, rfl, hT⟩)
    · have h10 : τ.1 10 = 1 := by omega
      refine k_aload_n hC 0 dX1_goOn_24 rfl rfl ?_
      refine k_get hC inlX1 0 4 rfl rfl (by decide) lkF_X1_37 rfl dX1_goOn_25 ?_
      refine k_aload_n hC 0 dX1_goOn_28 rfl rfl ?_
      refine k_get hC inlX1 0 2 rfl rfl (by decide) lkF_X1_17 rfl dX1_goOn_29 ?_
      refine k_perm [1, 2, 3, 0, 4, 5, 6, 7, 8, 9] [kO (a 1) 2 [.ref (a 2), .ref (a 3), .int (nI ((τ.2.2 0).length))], kI K (a 2) 10 (u 0), kZ K (a 3) 10 (u 1), kO (a 0) 1 [ah, .int (nI (τ.1 1)), .int (nI (τ.1 2)), .int (nI (τ.1 3)), .ref (a 1), .ref (a 4), .ref (a 7), .int (nI (τ.1 7)), .int (nI (τ.1 8)), .int (nI (τ.1 9)), .int (nI ((τ.1 10) - 1)), .int (nI (τ.1 11)), .int (nI (τ.1 12)), .int (nI (τ.1 13)), .int (nI (τ.1 14)), .int (nI (τ.1 15)), .int (τ.2.1 0), .int (τ.2.1 1)], kO (a 4) 2 [.ref (a 5), .ref (a 6), .int (nI ((τ.2.2 1).length))], kI K (a 5) 10 (u 2), kZ K (a 6) 10 (u 3), kO (a 7) 0 [.ref (a 8), .ref (a 9), .int (nI ((τ.2.2 2).length))], kI K (a 8) 5 (u 4), kI K (a 9) 5 (u 5)] rfl rfl ?_
      refine k_callVN hC (As := [.int (nI (τ.1 2))]) (cX2_add_k l K (a 1) (a 2) (a 3) (u 0) (u 1) (τ.2.2 0) (τ.1 2) (by rw [if_neg c1] at hl0; omega) hT.1) [kO (a 0) 1 [ah, .int (nI (τ.1 1)), .int (nI (τ.1 2)), .int (nI (τ.1 3)), .ref (a 1), .ref (a 4), .ref (a 7), .int (nI (τ.1 7)), .int (nI (τ.1 8)), .int (nI (τ.1 9)), .int (nI ((τ.1 10) - 1)), .int (nI (τ.1 11)), .int (nI (τ.1 12)), .int (nI (τ.1 13)), .int (nI (τ.1 14)), .int (nI (τ.1 15)), .int (τ.2.1 0), .int (τ.2.1 1)], kO (a 4) 2 [.ref (a 5), .ref (a 6), .int (nI ((τ.2.2 1).length))], kI K (a 5) 10 (u 2), kZ K (a 6) 10 (u 3), kO (a 7) 0 [.ref (a 8), .ref (a 9), .int (nI ((τ.2.2 2).length))], kI K (a 8) 5 (u 4), kI K (a 9) 5 (u 5)] rfl 0 rfl rfl (kAll4 lkI_yX2_add lkS_yX2_add lkN_X2 lkC_yX2_add) (List.mem_of_getElem? (i := 9) rfl) 1 (by decide) ⟨(Nat.le_of_ble_eq_true rfl), (Nat.le_of_ble_eq_true rfl)⟩ rfl rfl (Nat.le_of_ble_eq_true rfl) ⟨(Nat.le_of_ble_eq_true rfl), (Nat.le_of_ble_eq_true rfl)⟩ dX1_goOn_32 (fun v w h => ?_)
      obtain ⟨rfl, u3, c3, rfl, hR3⟩ := h
      refine k_re 0 0 [kO (a 1) 2 [.ref (a 2), .ref (a 3), .int (nI ((τ.2.2 0 ++ [(τ.1 2, 1)]).length))], kI K (a 2) 10 u3, kZ K (a 3) 10 c3, kO (a 0) 1 [ah, .int (nI (τ.1 1)), .int (nI (τ.1 2)), .int (nI (τ.1 3)), .ref (a 1), .ref (a 4), .ref (a 7), .int (nI (τ.1 7)), .int (nI (τ.1 8)), .int (nI (τ.1 9)), .int (nI ((τ.1 10) - 1)), .int (nI (τ.1 11)), .int (nI (τ.1 12)), .int (nI (τ.1 13)), .int (nI (τ.1 14)), .int (nI (τ.1 15)), .int (τ.2.1 0), .int (τ.2.1 1)], kO (a 4) 2 [.ref (a 5), .ref (a 6), .int (nI ((τ.2.2 1).length))], kI K (a 5) 10 (u 2), kZ K (a 6) 10 (u 3), kO (a 7) 0 [.ref (a 8), .ref (a 9), .int (nI ((τ.2.2 2).length))], kI K (a 8) 5 (u 4), kI K (a 9) 5 (u 5)] [] rfl rfl rfl rfl ?_
      refine k_perm [3, 0, 1, 2, 4, 5, 6, 7, 8, 9] [kO (a 0) 1 [ah, .int (nI (τ.1 1)), .int (nI (τ.1 2)), .int (nI (τ.1 3)), .ref (a 1), .ref (a 4), .ref (a 7), .int (nI (τ.1 7)), .int (nI (τ.1 8)), .int (nI (τ.1 9)), .int (nI ((τ.1 10) - 1)), .int (nI (τ.1 11)), .int (nI (τ.1 12)), .int (nI (τ.1 13)), .int (nI (τ.1 14)), .int (nI (τ.1 15)), .int (τ.2.1 0), .int (τ.2.1 1)], kO (a 1) 2 [.ref (a 2), .ref (a 3), .int (nI ((τ.2.2 0 ++ [(τ.1 2, 1)]).length))], kI K (a 2) 10 u3, kZ K (a 3) 10 c3, kO (a 4) 2 [.ref (a 5), .ref (a 6), .int (nI ((τ.2.2 1).length))], kI K (a 5) 10 (u 2), kZ K (a 6) 10 (u 3), kO (a 7) 0 [.ref (a 8), .ref (a 9), .int (nI ((τ.2.2 2).length))], kI K (a 8) 5 (u 4), kI K (a 9) 5 (u 5)] rfl rfl ?_
      exact k_vret hC hE (Nat.le_of_ble_eq_true rfl) (Nat.le_of_ble_eq_true rfl) dX1_goOn_35 (by rw [show mGoOn τ = (va_up τ.1 10 (τ.1 10 - 1), τ.2.1, va_up τ.2.2 0 (τ.2.2 0 ++ [(τ.1 2, 1)])) by unfold mGoOn; rw [if_neg c1, if_pos h10]]; exact ⟨rfl, va_up (va_up u 0 u3) 1 c3, rfl, hR3, hT.2.1, hT.2.2⟩)
abbrev rmX1_begin : Room := { frames := 2, cells := 0, slots := 0, locals := 57 }
set_option maxRecDepth 100000 in
set_option maxHeartbeats 4000000 in
theorem cX1_begin_k0 (l : Launch) (K : kE) (a : Nat → Nat) (τ : mT) (u : Nat → Nat → Int32) (r : Bool) (hI : mInv true τ) (hT : mRT τ u) (h11 : τ.1 11 ≠ 0) : kM l yX1_begin (kws yX1_begin cX1_begin 2 none) rmX1_begin K [.ref (a 0), .int (kB r)] (wT K .null a τ u) (fun v w => v = none ∧ ∃ u2 : Nat → Nat → Int32, w = wT K .null a (mBegin r true τ) u2 ∧ mRT (mBegin r true τ) u2) := by
  refine kM_of (pl := []) (X := (wT K .null a τ u)) rfl (by decide) (Nat.le_of_ble_eq_true rfl) ?_
  intro p e s m args below meth cd A Q hC hnm hE
  refine k_eX (show _ = [kO (a 0) 1 [.null, .int (nI (τ.1 1)), .int (nI (τ.1 2)), .int (nI (τ.1 3)), .ref (a 1), .ref (a 4), .ref (a 7), .int (nI (τ.1 7)), .int (nI (τ.1 8)), .int (nI (τ.1 9)), .int (nI (τ.1 10)), .int (nI (τ.1 11)), .int (nI (τ.1 12)), .int (nI (τ.1 13)), .int (nI (τ.1 14)), .int (nI (τ.1 15)), .int (τ.2.1 0), .int (τ.2.1 1)], kO (a 1) 2 [.ref (a 2), .ref (a 3), .int (nI ((τ.2.2 0).length))], kI K (a 2) 10 (u 0), kZ K (a 3) 10 (u 1), kO (a 4) 2 [.ref (a 5), .ref (a 6), .int (nI ((τ.2.2 1).length))], kI K (a 5) 10 (u 2), kZ K (a 6) 10 (u 3), kO (a 7) 0 [.ref (a 8), .ref (a 9), .int (nI ((τ.2.2 2).length))], kI K (a 8) 5 (u 4), kI K (a 9) 5 (u 5)] from rfl) ?_
  have hn := hI.1
  have hl0 := mInv_L0 hI
  have hl1 := mInv_L1 hI
  have hl2 := mInv_L2 hI
  have h89 : τ.1 9 ≤ 9 := by have := hI.2.1; omega
  refine k_aload_n hC 0 dX1_begin_0 rfl rfl ?_
  refine k_get hC inlX1 0 0 rfl rfl (by decide) lkF_X1_7 rfl dX1_begin_1 ?_
  refine k_ifnonnullN hC dX1_begin_4 ?_
  refine k_aload_n hC 0 dX1_begin_7 rfl rfl ?_
  refine k_dup hC dX1_begin_8 rfl ?_
  refine k_get hC inlX1 0 17 rfl rfl (by decide) lkF_X1_57 rfl dX1_begin_9 ?_
  refine k_aload_n hC 0 dX1_begin_12 rfl rfl ?_
  refine k_get hC inlX1 0 2 rfl rfl (by decide) lkF_X1_17 rfl dX1_begin_13 ?_
  refine k_iadd hC dX1_begin_16 ?_
  refine k_put hC inlX1 tyX1_ok nmX1 0 17 rfl rfl (by decide) lkF_X1_57 rfl rfl rfl (Nat.le_of_ble_eq_true rfl) dX1_begin_17 [kO (a 0) 1 [.null, .int (nI (τ.1 1)), .int (nI (τ.1 2)), .int (nI (τ.1 3)), .ref (a 1), .ref (a 4), .ref (a 7), .int (nI (τ.1 7)), .int (nI (τ.1 8)), .int (nI (τ.1 9)), .int (nI (τ.1 10)), .int (nI (τ.1 11)), .int (nI (τ.1 12)), .int (nI (τ.1 13)), .int (nI (τ.1 14)), .int (nI (τ.1 15)), .int (τ.2.1 0), .int ((τ.2.1 1) + nI (τ.1 2))], kO (a 1) 2 [.ref (a 2), .ref (a 3), .int (nI ((τ.2.2 0).length))], kI K (a 2) 10 (u 0), kZ K (a 3) 10 (u 1), kO (a 4) 2 [.ref (a 5), .ref (a 6), .int (nI ((τ.2.2 1).length))], kI K (a 5) 10 (u 2), kZ K (a 6) 10 (u 3), kO (a 7) 0 [.ref (a 8), .ref (a 9), .int (nI ((τ.2.2 2).length))], kI K (a 8) 5 (u 4), kI K (a 9) 5 (u 5)] rfl ?_
  refine k_goto hC 44 dX1_begin_20 (by decide) ?_
  refine k_aload_n hC 0 dX1_begin_44 rfl rfl ?_
  refine k_dup hC dX1_begin_45 rfl ?_
  refine k_get hC inlX1 0 9 rfl rfl (by decide) lkF_X1_29 rfl dX1_begin_46 ?_
  refine k_iconst hC (nI 1) dX1_begin_49 rfl ?_
  refine k_isubN hC dX1_begin_50 (by omega) ?_
  refine k_put hC inlX1 tyX1_ok nmX1 0 9 rfl rfl (by decide) lkF_X1_29 rfl rfl rfl (Nat.le_of_ble_eq_true rfl) dX1_begin_51 [kO (a 0) 1 [.null, .int (nI (τ.1 1)), .int (nI (τ.1 2)), .int (nI (τ.1 3)), .ref (a 1), .ref (a 4), .ref (a 7), .int (nI (τ.1 7)), .int (nI (τ.1 8)), .int (nI ((τ.1 9) - 1)), .int (nI (τ.1 10)), .int (nI (τ.1 11)), .int (nI (τ.1 12)), .int (nI (τ.1 13)), .int (nI (τ.1 14)), .int (nI (τ.1 15)), .int (τ.2.1 0), .int ((τ.2.1 1) + nI (τ.1 2))], kO (a 1) 2 [.ref (a 2), .ref (a 3), .int (nI ((τ.2.2 0).length))], kI K (a 2) 10 (u 0), kZ K (a 3) 10 (u 1), kO (a 4) 2 [.ref (a 5), .ref (a 6), .int (nI ((τ.2.2 1).length))], kI K (a 5) 10 (u 2), kZ K (a 6) 10 (u 3), kO (a 7) 0 [.ref (a 8), .ref (a 9), .int (nI ((τ.2.2 2).length))], kI K (a 8) 5 (u 4), kI K (a 9) 5 (u 5)] rfl ?_
  refine k_aload_n hC 0 dX1_begin_54 rfl rfl ?_
  refine k_dup hC dX1_begin_55 rfl ?_
  refine k_get hC inlX1 0 11 rfl rfl (by decide) lkF_X1_75 rfl dX1_begin_56 ?_
  refine k_iconst hC (nI 1) dX1_begin_59 rfl ?_
  refine k_isubN hC dX1_begin_60 (by omega) ?_
  refine k_put hC inlX1 tyX1_ok nmX1 0 11 rfl rfl (by decide) lkF_X1_75 rfl rfl rfl (Nat.le_of_ble_eq_true rfl) dX1_begin_61 [kO (a 0) 1 [.null, .int (nI (τ.1 1)), .int (nI (τ.1 2)), .int (nI (τ.1 3)), .ref (a 1), .ref (a 4), .ref (a 7), .int (nI (τ.1 7)), .int (nI (τ.1 8)), .int (nI ((τ.1 9) - 1)), .int (nI (τ.1 10)), .int (nI ((τ.1 11) - 1)), .int (nI (τ.1 12)), .int (nI (τ.1 13)), .int (nI (τ.1 14)), .int (nI (τ.1 15)), .int (τ.2.1 0), .int ((τ.2.1 1) + nI (τ.1 2))], kO (a 1) 2 [.ref (a 2), .ref (a 3), .int (nI ((τ.2.2 0).length))], kI K (a 2) 10 (u 0), kZ K (a 3) 10 (u 1), kO (a 4) 2 [.ref (a 5), .ref (a 6), .int (nI ((τ.2.2 1).length))], kI K (a 5) 10 (u 2), kZ K (a 6) 10 (u 3), kO (a 7) 0 [.ref (a 8), .ref (a 9), .int (nI ((τ.2.2 2).length))], kI K (a 8) 5 (u 4), kI K (a 9) 5 (u 5)] rfl ?_
  refine k_aload_n hC 0 dX1_begin_64 rfl rfl ?_
  refine k_aload_n hC 0 dX1_begin_65 rfl rfl ?_
  refine k_get hC inlX1 0 3 rfl rfl (by decide) lkF_X1_20 rfl dX1_begin_66 ?_
  refine k_put hC inlX1 tyX1_ok nmX1 0 10 rfl rfl (by decide) lkF_X1_60 rfl rfl rfl (Nat.le_of_ble_eq_true rfl) dX1_begin_69 [kO (a 0) 1 [.null, .int (nI (τ.1 1)), .int (nI (τ.1 2)), .int (nI (τ.1 3)), .ref (a 1), .ref (a 4), .ref (a 7), .int (nI (τ.1 7)), .int (nI (τ.1 8)), .int (nI ((τ.1 9) - 1)), .int (nI (τ.1 3)), .int (nI ((τ.1 11) - 1)), .int (nI (τ.1 12)), .int (nI (τ.1 13)), .int (nI (τ.1 14)), .int (nI (τ.1 15)), .int (τ.2.1 0), .int ((τ.2.1 1) + nI (τ.1 2))], kO (a 1) 2 [.ref (a 2), .ref (a 3), .int (nI ((τ.2.2 0).length))], kI K (a 2) 10 (u 0), kZ K (a 3) 10 (u 1), kO (a 4) 2 [.ref (a 5), .ref (a 6), .int (nI ((τ.2.2 1).length))], kI K (a 5) 10 (u 2), kZ K (a 6) 10 (u 3), kO (a 7) 0 [.ref (a 8), .ref (a 9), .int (nI ((τ.2.2 2).length))], kI K (a 8) 5 (u 4), kI K (a 9) 5 (u 5)] rfl ?_
  exact k_vret hC hE (Nat.le_of_ble_eq_true rfl) (Nat.le_of_ble_eq_true rfl) dX1_begin_72 ⟨rfl, u, rfl, hT⟩
set_option maxRecDepth 100000 in
set_option maxHeartbeats 4000000 in
theorem cX1_begin_k1 (l : Launch) (K : kE) (p0 : Nat) (a : Nat → Nat) (τ : mT) (u : Nat → Nat → Int32) (r : Bool) (hI : mInv false τ) (hT : mRT τ u) (h11 : τ.1 11 ≠ 0) : kM l yX1_begin (kws yX1_begin cX1_begin 2 none) rmX1_begin K [.ref (a 0), .int (kB r)] (wT K (.ref p0) a τ u) (fun v w => v = none ∧ ∃ u2 : Nat → Nat → Int32, w = wT K (.ref p0) a (mBegin r false τ) u2 ∧ mRT (mBegin r false τ) u2) := by
  refine kM_of (pl := []) (X := (wT K (.ref p0) a τ u)) rfl (by decide) (Nat.le_of_ble_eq_true rfl) ?_
  intro p e s m args below meth cd A Q hC hnm hE
  refine k_eX (show _ = [kO (a 0) 1 [.ref p0, .int (nI (τ.1 1)), .int (nI (τ.1 2)), .int (nI (τ.1 3)), .ref (a 1), .ref (a 4), .ref (a 7), .int (nI (τ.1 7)), .int (nI (τ.1 8)), .int (nI (τ.1 9)), .int (nI (τ.1 10)), .int (nI (τ.1 11)), .int (nI (τ.1 12)), .int (nI (τ.1 13)), .int (nI (τ.1 14)), .int (nI (τ.1 15)), .int (τ.2.1 0), .int (τ.2.1 1)], kO (a 1) 2 [.ref (a 2), .ref (a 3), .int (nI ((τ.2.2 0).length))], kI K (a 2) 10 (u 0), kZ K (a 3) 10 (u 1), kO (a 4) 2 [.ref (a 5), .ref (a 6), .int (nI ((τ.2.2 1).length))], kI K (a 5) 10 (u 2), kZ K (a 6) 10 (u 3), kO (a 7) 0 [.ref (a 8), .ref (a 9), .int (nI ((τ.2.2 2).length))], kI K (a 8) 5 (u 4), kI K (a 9) 5 (u 5)] from rfl) ?_
  have hn := hI.1
  have hl0 := mInv_L0 hI
  have hl1 := mInv_L1 hI
  have hl2 := mInv_L2 hI
  have h89 : τ.1 9 ≤ 9 := by have := hI.2.1; omega
  refine k_aload_n hC 0 dX1_begin_0 rfl rfl ?_
  refine k_get hC inlX1 0 0 rfl rfl (by decide) lkF_X1_7 rfl dX1_begin_1 ?_
  refine k_ifnonnull hC 23 dX1_begin_4 (by decide) ?_
  refine k_aload_n hC 0 dX1_begin_23 rfl rfl ?_
  refine k_dup hC dX1_begin_24 rfl ?_
  refine k_get hC inlX1 0 14 rfl rfl (by decide) lkF_X1_54 rfl dX1_begin_25 ?_
  refine k_aload_n hC 0 dX1_begin_28 rfl rfl ?_
  refine k_get hC inlX1 0 5 rfl rfl (by decide) lkF_X1_41 rfl dX1_begin_29 ?_
  refine k_aload_n hC 0 dX1_begin_32 rfl rfl ?_
  refine k_get hC inlX1 0 2 rfl rfl (by decide) lkF_X1_17 rfl dX1_begin_33 ?_
  refine k_iload_n hC 1 dX1_begin_36 rfl rfl ?_
  refine k_perm [4, 5, 6, 0, 1, 2, 3, 7, 8, 9] [kO (a 4) 2 [.ref (a 5), .ref (a 6), .int (nI ((τ.2.2 1).length))], kI K (a 5) 10 (u 2), kZ K (a 6) 10 (u 3), kO (a 0) 1 [.ref p0, .int (nI (τ.1 1)), .int (nI (τ.1 2)), .int (nI (τ.1 3)), .ref (a 1), .ref (a 4), .ref (a 7), .int (nI (τ.1 7)), .int (nI (τ.1 8)), .int (nI (τ.1 9)), .int (nI (τ.1 10)), .int (nI (τ.1 11)), .int (nI (τ.1 12)), .int (nI (τ.1 13)), .int (nI (τ.1 14)), .int (nI (τ.1 15)), .int (τ.2.1 0), .int (τ.2.1 1)], kO (a 1) 2 [.ref (a 2), .ref (a 3), .int (nI ((τ.2.2 0).length))], kI K (a 2) 10 (u 0), kZ K (a 3) 10 (u 1), kO (a 7) 0 [.ref (a 8), .ref (a 9), .int (nI ((τ.2.2 2).length))], kI K (a 8) 5 (u 4), kI K (a 9) 5 (u 5)] rfl rfl ?_
  refine k_callVN hC (As := [.int (nI (τ.1 2)), .int (kB r)]) (cX2_takeOut_k l K (a 4) (a 5) (a 6) (u 2) (u 3) (τ.2.2 1) (nI (τ.1 2)) (τ.1 2) r (by omega) hT.2.1 hI.2.2.2.2.1 (Or.inl ⟨rfl, by omega⟩)) [kO (a 0) 1 [.ref p0, .int (nI (τ.1 1)), .int (nI (τ.1 2)), .int (nI (τ.1 3)), .ref (a 1), .ref (a 4), .ref (a 7), .int (nI (τ.1 7)), .int (nI (τ.1 8)), .int (nI (τ.1 9)), .int (nI (τ.1 10)), .int (nI (τ.1 11)), .int (nI (τ.1 12)), .int (nI (τ.1 13)), .int (nI (τ.1 14)), .int (nI (τ.1 15)), .int (τ.2.1 0), .int (τ.2.1 1)], kO (a 1) 2 [.ref (a 2), .ref (a 3), .int (nI ((τ.2.2 0).length))], kI K (a 2) 10 (u 0), kZ K (a 3) 10 (u 1), kO (a 7) 0 [.ref (a 8), .ref (a 9), .int (nI ((τ.2.2 2).length))], kI K (a 8) 5 (u 4), kI K (a 9) 5 (u 5)] rfl 0 rfl rfl (kAll4 lkI_yX2_takeOut lkS_yX2_takeOut lkN_X2 lkC_yX2_takeOut) (List.mem_of_getElem? (i := 10) rfl) 2 (by decide) ⟨(Nat.le_of_ble_eq_true rfl), (Nat.le_of_ble_eq_true rfl)⟩ rfl rfl (Nat.le_of_ble_eq_true rfl) ⟨(Nat.le_of_ble_eq_true rfl), (Nat.le_of_ble_eq_true rfl)⟩ dX1_begin_37 (fun v w h => ?_)
  obtain ⟨rfl, u3, c3, rfl, hR3⟩ := h
  refine k_re 0 0 [kO (a 4) 2 [.ref (a 5), .ref (a 6), .int (nI ((mTake (τ.2.2 1) (τ.1 2) r).1.length))], kI K (a 5) 10 u3, kZ K (a 6) 10 c3, kO (a 0) 1 [.ref p0, .int (nI (τ.1 1)), .int (nI (τ.1 2)), .int (nI (τ.1 3)), .ref (a 1), .ref (a 4), .ref (a 7), .int (nI (τ.1 7)), .int (nI (τ.1 8)), .int (nI (τ.1 9)), .int (nI (τ.1 10)), .int (nI (τ.1 11)), .int (nI (τ.1 12)), .int (nI (τ.1 13)), .int (nI (τ.1 14)), .int (nI (τ.1 15)), .int (τ.2.1 0), .int (τ.2.1 1)], kO (a 1) 2 [.ref (a 2), .ref (a 3), .int (nI ((τ.2.2 0).length))], kI K (a 2) 10 (u 0), kZ K (a 3) 10 (u 1), kO (a 7) 0 [.ref (a 8), .ref (a 9), .int (nI ((τ.2.2 2).length))], kI K (a 8) 5 (u 4), kI K (a 9) 5 (u 5)] [.int (nI ((mTake (τ.2.2 1) (τ.1 2) r).2)), .int (nI (τ.1 14)), .ref (a 0)] rfl rfl rfl rfl ?_
  refine k_perm [3, 4, 5, 6, 0, 1, 2, 7, 8, 9] [kO (a 0) 1 [.ref p0, .int (nI (τ.1 1)), .int (nI (τ.1 2)), .int (nI (τ.1 3)), .ref (a 1), .ref (a 4), .ref (a 7), .int (nI (τ.1 7)), .int (nI (τ.1 8)), .int (nI (τ.1 9)), .int (nI (τ.1 10)), .int (nI (τ.1 11)), .int (nI (τ.1 12)), .int (nI (τ.1 13)), .int (nI (τ.1 14)), .int (nI (τ.1 15)), .int (τ.2.1 0), .int (τ.2.1 1)], kO (a 1) 2 [.ref (a 2), .ref (a 3), .int (nI ((τ.2.2 0).length))], kI K (a 2) 10 (u 0), kZ K (a 3) 10 (u 1), kO (a 4) 2 [.ref (a 5), .ref (a 6), .int (nI ((mTake (τ.2.2 1) (τ.1 2) r).1.length))], kI K (a 5) 10 u3, kZ K (a 6) 10 c3, kO (a 7) 0 [.ref (a 8), .ref (a 9), .int (nI ((τ.2.2 2).length))], kI K (a 8) 5 (u 4), kI K (a 9) 5 (u 5)] rfl rfl ?_
  refine k_iaddN hC dX1_begin_40 ?_
  refine k_put hC inlX1 tyX1_ok nmX1 0 14 rfl rfl (by decide) lkF_X1_54 rfl rfl rfl (Nat.le_of_ble_eq_true rfl) dX1_begin_41 [kO (a 0) 1 [.ref p0, .int (nI (τ.1 1)), .int (nI (τ.1 2)), .int (nI (τ.1 3)), .ref (a 1), .ref (a 4), .ref (a 7), .int (nI (τ.1 7)), .int (nI (τ.1 8)), .int (nI (τ.1 9)), .int (nI (τ.1 10)), .int (nI (τ.1 11)), .int (nI (τ.1 12)), .int (nI (τ.1 13)), .int (nI ((τ.1 14) + ((mTake (τ.2.2 1) (τ.1 2) r).2))), .int (nI (τ.1 15)), .int (τ.2.1 0), .int (τ.2.1 1)], kO (a 1) 2 [.ref (a 2), .ref (a 3), .int (nI ((τ.2.2 0).length))], kI K (a 2) 10 (u 0), kZ K (a 3) 10 (u 1), kO (a 4) 2 [.ref (a 5), .ref (a 6), .int (nI ((mTake (τ.2.2 1) (τ.1 2) r).1.length))], kI K (a 5) 10 u3, kZ K (a 6) 10 c3, kO (a 7) 0 [.ref (a 8), .ref (a 9), .int (nI ((τ.2.2 2).length))], kI K (a 8) 5 (u 4), kI K (a 9) 5 (u 5)] rfl ?_
  refine k_aload_n hC 0 dX1_begin_44 rfl rfl ?_
  refine k_dup hC dX1_begin_45 rfl ?_
  refine k_get hC inlX1 0 9 rfl rfl (by decide) lkF_X1_29 rfl dX1_begin_46 ?_
  refine k_iconst hC (nI 1) dX1_begin_49 rfl ?_
  refine k_isubN hC dX1_begin_50 (by omega) ?_
  refine k_put hC inlX1 tyX1_ok nmX1 0 9 rfl rfl (by decide) lkF_X1_29 rfl rfl rfl (Nat.le_of_ble_eq_true rfl) dX1_begin_51 [kO (a 0) 1 [.ref p0, .int (nI (τ.1 1)), .int (nI (τ.1 2)), .int (nI (τ.1 3)), .ref (a 1), .ref (a 4), .ref (a 7), .int (nI (τ.1 7)), .int (nI (τ.1 8)), .int (nI ((τ.1 9) - 1)), .int (nI (τ.1 10)), .int (nI (τ.1 11)), .int (nI (τ.1 12)), .int (nI (τ.1 13)), .int (nI ((τ.1 14) + ((mTake (τ.2.2 1) (τ.1 2) r).2))), .int (nI (τ.1 15)), .int (τ.2.1 0), .int (τ.2.1 1)], kO (a 1) 2 [.ref (a 2), .ref (a 3), .int (nI ((τ.2.2 0).length))], kI K (a 2) 10 (u 0), kZ K (a 3) 10 (u 1), kO (a 4) 2 [.ref (a 5), .ref (a 6), .int (nI ((mTake (τ.2.2 1) (τ.1 2) r).1.length))], kI K (a 5) 10 u3, kZ K (a 6) 10 c3, kO (a 7) 0 [.ref (a 8), .ref (a 9), .int (nI ((τ.2.2 2).length))], kI K (a 8) 5 (u 4), kI K (a 9) 5 (u 5)] rfl ?_
  refine k_aload_n hC 0 dX1_begin_54 rfl rfl ?_
  refine k_dup hC dX1_begin_55 rfl ?_
  refine k_get hC inlX1 0 11 rfl rfl (by decide) lkF_X1_75 rfl dX1_begin_56 ?_
  refine k_iconst hC (nI 1) dX1_begin_59 rfl ?_
  refine k_isubN hC dX1_begin_60 (by omega) ?_
  refine k_put hC inlX1 tyX1_ok nmX1 0 11 rfl rfl (by decide) lkF_X1_75 rfl rfl rfl (Nat.le_of_ble_eq_true rfl) dX1_begin_61 [kO (a 0) 1 [.ref p0, .int (nI (τ.1 1)), .int (nI (τ.1 2)), .int (nI (τ.1 3)), .ref (a 1), .ref (a 4), .ref (a 7), .int (nI (τ.1 7)), .int (nI (τ.1 8)), .int (nI ((τ.1 9) - 1)), .int (nI (τ.1 10)), .int (nI ((τ.1 11) - 1)), .int (nI (τ.1 12)), .int (nI (τ.1 13)), .int (nI ((τ.1 14) + ((mTake (τ.2.2 1) (τ.1 2) r).2))), .int (nI (τ.1 15)), .int (τ.2.1 0), .int (τ.2.1 1)], kO (a 1) 2 [.ref (a 2), .ref (a 3), .int (nI ((τ.2.2 0).length))], kI K (a 2) 10 (u 0), kZ K (a 3) 10 (u 1), kO (a 4) 2 [.ref (a 5), .ref (a 6), .int (nI ((mTake (τ.2.2 1) (τ.1 2) r).1.length))], kI K (a 5) 10 u3, kZ K (a 6) 10 c3, kO (a 7) 0 [.ref (a 8), .ref (a 9), .int (nI ((τ.2.2 2).length))], kI K (a 8) 5 (u 4), kI K (a 9) 5 (u 5)] rfl ?_
  refine k_aload_n hC 0 dX1_begin_64 rfl rfl ?_
  refine k_aload_n hC 0 dX1_begin_65 rfl rfl ?_
  refine k_get hC inlX1 0 3 rfl rfl (by decide) lkF_X1_20 rfl dX1_begin_66 ?_
  refine k_put hC inlX1 tyX1_ok nmX1 0 10 rfl rfl (by decide) lkF_X1_60 rfl rfl rfl (Nat.le_of_ble_eq_true rfl) dX1_begin_69 [kO (a 0) 1 [.ref p0, .int (nI (τ.1 1)), .int (nI (τ.1 2)), .int (nI (τ.1 3)), .ref (a 1), .ref (a 4), .ref (a 7), .int (nI (τ.1 7)), .int (nI (τ.1 8)), .int (nI ((τ.1 9) - 1)), .int (nI (τ.1 3)), .int (nI ((τ.1 11) - 1)), .int (nI (τ.1 12)), .int (nI (τ.1 13)), .int (nI ((τ.1 14) + ((mTake (τ.2.2 1) (τ.1 2) r).2))), .int (nI (τ.1 15)), .int (τ.2.1 0), .int (τ.2.1 1)], kO (a 1) 2 [.ref (a 2), .ref (a 3), .int (nI ((τ.2.2 0).length))], kI K (a 2) 10 (u 0), kZ K (a 3) 10 (u 1), kO (a 4) 2 [.ref (a 5), .ref (a 6), .int (nI ((mTake (τ.2.2 1) (τ.1 2) r).1.length))], kI K (a 5) 10 u3, kZ K (a 6) 10 c3, kO (a 7) 0 [.ref (a 8), .ref (a 9), .int (nI ((τ.2.2 2).length))], kI K (a 8) 5 (u 4), kI K (a 9) 5 (u 5)] rfl ?_
  exact k_vret hC hE (Nat.le_of_ble_eq_true rfl) (Nat.le_of_ble_eq_true rfl) dX1_begin_72 ⟨rfl, va_up (va_up u 2 u3) 3 c3, rfl, hT.1, hR3, hT.2.2⟩
abbrev rmX1_work : Room := { frames := 3, cells := 0, slots := 0, locals := 78 }
theorem mU_le {L : List (Nat × Nat)} (h : mOk L) : mU L ≤ 10 * L.length := by
  induction L with
  | nil => exact Nat.le_refl 0
  | cons x t ih =>
    have := ih (mOk_tail h)
    have := h.2.1
    simp only [mU, List.length_cons]; omega
set_option maxRecDepth 100000 in
set_option maxHeartbeats 4000000 in
theorem cX1_work_k0 (l : Launch) (K : kE) (a : Nat → Nat) (τ : mT) (u : Nat → Nat → Int32) (r : Bool) (hI : mInv true τ) (hT : mRT τ u) : kM l yX1_work (kws yX1_work cX1_work 2 none) rmX1_work K [.ref (a 0), .int (kB r)] (wT K .null a τ u) (fun v w => v = none ∧ ∃ u2 : Nat → Nat → Int32, w = wT K .null a (mWork r true τ) u2 ∧ mRT (mWork r true τ) u2) := by
  refine kM_of (pl := []) (X := (wT K .null a τ u)) rfl (by decide) (Nat.le_of_ble_eq_true rfl) ?_
  intro p e s m args below meth cd A Q hC hnm hE
  refine k_eX (show _ = [kO (a 0) 1 [.null, .int (nI (τ.1 1)), .int (nI (τ.1 2)), .int (nI (τ.1 3)), .ref (a 1), .ref (a 4), .ref (a 7), .int (nI (τ.1 7)), .int (nI (τ.1 8)), .int (nI (τ.1 9)), .int (nI (τ.1 10)), .int (nI (τ.1 11)), .int (nI (τ.1 12)), .int (nI (τ.1 13)), .int (nI (τ.1 14)), .int (nI (τ.1 15)), .int (τ.2.1 0), .int (τ.2.1 1)], kO (a 1) 2 [.ref (a 2), .ref (a 3), .int (nI ((τ.2.2 0).length))], kI K (a 2) 10 (u 0), kZ K (a 3) 10 (u 1), kO (a 4) 2 [.ref (a 5), .ref (a 6), .int (nI ((τ.2.2 1).length))], kI K (a 5) 10 (u 2), kZ K (a 6) 10 (u 3), kO (a 7) 0 [.ref (a 8), .ref (a 9), .int (nI ((τ.2.2 2).length))], kI K (a 8) 5 (u 4), kI K (a 9) 5 (u 5)] from rfl) ?_
  have hn := hI.1
  have hl0 := mInv_L0 hI
  have hl1 := mInv_L1 hI
  have hl2 := mInv_L2 hI
  have h89 : τ.1 9 ≤ 9 := by have := hI.2.1; omega
  refine k_aload_n hC 0 dX1_work_0 rfl rfl ?_
  refine k_get hC inlX1 0 12 rfl rfl (by decide) lkF_X1_68 rfl dX1_work_1 ?_
  refine k_if_eqN hC 8 dX1_work_4 (by decide) (by omega) (fun c1 => ?_) (fun c1 => ?_)
  · refine k_aload_n hC 0 dX1_work_8 rfl rfl ?_
    refine k_callV hC (As := []) (cX1_goOn_k l K a .null τ u true hI hT) [] rfl 0 rfl rfl (kAll5 lkM_X1_72 lkI_yX1_goOn lkS_yX1_goOn lkN_X1 lkC_yX1_goOn) 0 (by decide) ⟨(Nat.le_of_ble_eq_true rfl), (Nat.le_of_ble_eq_true rfl)⟩ rfl rfl (Nat.le_of_ble_eq_true rfl) ⟨(Nat.le_of_ble_eq_true rfl), (Nat.le_of_ble_eq_true rfl)⟩ dX1_work_9 (fun v w h => ?_)
    obtain ⟨rfl, u3, rfl, hT3⟩ := h
    have hw1 : mWork r true τ = if (mGoOn τ).1 10 ≠ 0 then mGoOn τ else mStart r true (mGoOn τ) := by unfold mWork; rw [if_neg (fun q => q c1)]
    have hI1 := mGoOn_inv hI
    obtain ⟨g, hg⟩ : ∃ g, g = mGoOn τ := ⟨_, rfl⟩
    rw [← hg] at hT3 hw1 hI1
    have hn1 := hI1.1
    have gl0 := mInv_L0 hI1
    have gl1 := mInv_L1 hI1
    have gl2 := mInv_L2 hI1
    refine k_re 0 0 [kO (a 0) 1 [.null, .int (nI (((mGoOn τ)).1 1)), .int (nI (((mGoOn τ)).1 2)), .int (nI (((mGoOn τ)).1 3)), .ref (a 1), .ref (a 4), .ref (a 7), .int (nI (((mGoOn τ)).1 7)), .int (nI (((mGoOn τ)).1 8)), .int (nI (((mGoOn τ)).1 9)), .int (nI (((mGoOn τ)).1 10)), .int (nI (((mGoOn τ)).1 11)), .int (nI (((mGoOn τ)).1 12)), .int (nI (((mGoOn τ)).1 13)), .int (nI (((mGoOn τ)).1 14)), .int (nI (((mGoOn τ)).1 15)), .int (((mGoOn τ)).2.1 0), .int (((mGoOn τ)).2.1 1)], kO (a 1) 2 [.ref (a 2), .ref (a 3), .int (nI ((((mGoOn τ)).2.2 0).length))], kI K (a 2) 10 (u3 0), kZ K (a 3) 10 (u3 1), kO (a 4) 2 [.ref (a 5), .ref (a 6), .int (nI ((((mGoOn τ)).2.2 1).length))], kI K (a 5) 10 (u3 2), kZ K (a 6) 10 (u3 3), kO (a 7) 0 [.ref (a 8), .ref (a 9), .int (nI ((((mGoOn τ)).2.2 2).length))], kI K (a 8) 5 (u3 4), kI K (a 9) 5 (u3 5)] [] rfl rfl rfl rfl ?_
    rw [← hg]
    refine k_aload_n hC 0 dX1_work_12 rfl rfl ?_
    refine k_get hC inlX1 0 10 rfl rfl (by decide) lkF_X1_60 rfl dX1_work_13 ?_
    refine k_if_leN hC 20 dX1_work_16 (by decide) (by omega) (fun c2 => ?_) (fun c2 => ?_)
    · have hw2 : mWork r true τ = mStart r true g := by rw [hw1, if_neg (fun q => q c2)]
      have hrl := mRun_le hI1
      have j46 : kW p l e rmX1_work s m args below meth cd K A 2 Q 0 0 ([]) [kO (a 0) 1 [.null, .int (nI (g.1 1)), .int (nI (g.1 2)), .int (nI (g.1 3)), .ref (a 1), .ref (a 4), .ref (a 7), .int (nI (g.1 7)), .int (nI (g.1 8)), .int (nI (g.1 9)), .int (nI (g.1 10)), .int (nI (mRun g)), .int (nI (g.1 12)), .int (nI (g.1 13)), .int (nI (g.1 14)), .int (nI (g.1 15)), .int (g.2.1 0), .int (g.2.1 1)], kO (a 1) 2 [.ref (a 2), .ref (a 3), .int (nI ((g.2.2 0).length))], kI K (a 2) 10 (u3 0), kZ K (a 3) 10 (u3 1), kO (a 4) 2 [.ref (a 5), .ref (a 6), .int (nI ((g.2.2 1).length))], kI K (a 5) 10 (u3 2), kZ K (a 6) 10 (u3 3), kO (a 7) 0 [.ref (a 8), .ref (a 9), .int (nI ((g.2.2 2).length))], kI K (a 8) 5 (u3 4), kI K (a 9) 5 (u3 5)] [(0, .ref (a 0)), (1, .int (kB r))] 46 [] := by
        refine k_aload_n hC 0 dX1_work_46 rfl rfl ?_
        refine k_get hC inlX1 0 11 rfl rfl (by decide) lkF_X1_75 rfl dX1_work_47 ?_
        refine k_if_neN hC 54 dX1_work_50 (by decide) (by omega) (fun c3 => ?_) (fun c3 => ?_)
        · refine k_aload_n hC 0 dX1_work_54 rfl rfl ?_
          refine k_get hC inlX1 0 0 rfl rfl (by decide) lkF_X1_7 rfl dX1_work_55 ?_
          refine k_ifnullN hC 86 dX1_work_58 (by decide) ?_
          refine k_aload_n hC 0 dX1_work_86 rfl rfl ?_
          refine k_iload_n hC 1 dX1_work_87 rfl rfl ?_
          refine k_callV hC (As := [.int (kB r)]) (cX1_begin_k0 l K a (va_up g.1 11 (mRun g), g.2.1, g.2.2) u3 r (mRun_inv hI1) hT3 c3) [] rfl 0 rfl rfl (kAll5 lkM_X1_81 lkI_yX1_begin lkS_yX1_begin lkN_X1 lkC_yX1_begin) 1 (by decide) ⟨(Nat.le_of_ble_eq_true rfl), (Nat.le_of_ble_eq_true rfl)⟩ rfl rfl (Nat.le_of_ble_eq_true rfl) ⟨(Nat.le_of_ble_eq_true rfl), (Nat.le_of_ble_eq_true rfl)⟩ dX1_work_88 (fun v w h => ?_)
          obtain ⟨rfl, u4, rfl, hT4⟩ := h
          refine k_re 0 0 [kO (a 0) 1 [.null, .int (nI (((mBegin r true (va_up g.1 11 (mRun g), g.2.1, g.2.2))).1 1)), .int (nI (((mBegin r true (va_up g.1 11 (mRun g), g.2.1, g.2.2))).1 2)), .int (nI (((mBegin r true (va_up g.1 11 (mRun g), g.2.1, g.2.2))).1 3)), .ref (a 1), .ref (a 4), .ref (a 7), .int (nI (((mBegin r true (va_up g.1 11 (mRun g), g.2.1, g.2.2))).1 7)), .int (nI (((mBegin r true (va_up g.1 11 (mRun g), g.2.1, g.2.2))).1 8)), .int (nI (((mBegin r true (va_up g.1 11 (mRun g), g.2.1, g.2.2))).1 9)), .int (nI (((mBegin r true (va_up g.1 11 (mRun g), g.2.1, g.2.2))).1 10)), .int (nI (((mBegin r true (va_up g.1 11 (mRun g), g.2.1, g.2.2))).1 11)), .int (nI (((mBegin r true (va_up g.1 11 (mRun g), g.2.1, g.2.2))).1 12)), .int (nI (((mBegin r true (va_up g.1 11 (mRun g), g.2.1, g.2.2))).1 13)), .int (nI (((mBegin r true (va_up g.1 11 (mRun g), g.2.1, g.2.2))).1 14)), .int (nI (((mBegin r true (va_up g.1 11 (mRun g), g.2.1, g.2.2))).1 15)), .int (((mBegin r true (va_up g.1 11 (mRun g), g.2.1, g.2.2))).2.1 0), .int (((mBegin r true (va_up g.1 11 (mRun g), g.2.1, g.2.2))).2.1 1)], kO (a 1) 2 [.ref (a 2), .ref (a 3), .int (nI ((((mBegin r true (va_up g.1 11 (mRun g), g.2.1, g.2.2))).2.2 0).length))], kI K (a 2) 10 (u4 0), kZ K (a 3) 10 (u4 1), kO (a 4) 2 [.ref (a 5), .ref (a 6), .int (nI ((((mBegin r true (va_up g.1 11 (mRun g), g.2.1, g.2.2))).2.2 1).length))], kI K (a 5) 10 (u4 2), kZ K (a 6) 10 (u4 3), kO (a 7) 0 [.ref (a 8), .ref (a 9), .int (nI ((((mBegin r true (va_up g.1 11 (mRun g), g.2.1, g.2.2))).2.2 2).length))], kI K (a 8) 5 (u4 4), kI K (a 9) 5 (u4 5)] [] rfl rfl rfl rfl ?_
          exact k_vret hC hE (Nat.le_of_ble_eq_true rfl) (Nat.le_of_ble_eq_true rfl) dX1_work_91 (by rw [hw2, show mStart r true g = mBegin r true (va_up g.1 11 (mRun g), g.2.1, g.2.2) by unfold mStart; rw [if_neg c3, if_neg (by simp)]]; exact ⟨rfl, u4, rfl, hT4⟩)
        · have e9 : mRun g = g.1 11 := by
            by_cases hh : g.1 11 = 0 ∧ g.1 7 ≤ g.1 9
            · exfalso; unfold mRun at c3; rw [if_pos hh] at c3; omega
            · unfold mRun; rw [if_neg hh]
          rw [e9]
          exact k_vret hC hE (Nat.le_of_ble_eq_true rfl) (Nat.le_of_ble_eq_true rfl) dX1_work_53 (by rw [hw2, show mStart r true g = g by unfold mStart; rw [if_pos c3]]; exact ⟨rfl, u3, rfl, hT3⟩)
      refine k_aload_n hC 0 dX1_work_20 rfl rfl ?_
      refine k_get hC inlX1 0 11 rfl rfl (by decide) lkF_X1_75 rfl dX1_work_21 ?_
      refine k_if_neN hC 46 dX1_work_24 (by decide) (by omega) (fun c5 => ?_) (fun c5 => ?_)
      · rw [show mRun g = g.1 11 by unfold mRun; rw [if_neg (fun q => c5 q.1)]] at j46
        exact j46
      · refine k_aload_n hC 0 dX1_work_27 rfl rfl ?_
        refine k_get hC inlX1 0 9 rfl rfl (by decide) lkF_X1_29 rfl dX1_work_28 ?_
        refine k_aload_n hC 0 dX1_work_31 rfl rfl ?_
        refine k_get hC inlX1 0 7 rfl rfl (by decide) lkF_X1_23 rfl dX1_work_32 ?_
        refine k_icmp_ltN hC 46 dX1_work_35 (by decide) (by omega) (by omega) (fun c6 => ?_) (fun c6 => ?_)
        · rw [show mRun g = g.1 11 by unfold mRun; rw [if_neg (fun q => by omega)]] at j46
          exact j46
        · refine k_aload_n hC 0 dX1_work_38 rfl rfl ?_
          refine k_aload_n hC 0 dX1_work_39 rfl rfl ?_
          refine k_get hC inlX1 0 9 rfl rfl (by decide) lkF_X1_29 rfl dX1_work_40 ?_
          refine k_put hC inlX1 tyX1_ok nmX1 0 11 rfl rfl (by decide) lkF_X1_75 rfl rfl rfl (Nat.le_of_ble_eq_true rfl) dX1_work_43 [kO (a 0) 1 [.null, .int (nI (g.1 1)), .int (nI (g.1 2)), .int (nI (g.1 3)), .ref (a 1), .ref (a 4), .ref (a 7), .int (nI (g.1 7)), .int (nI (g.1 8)), .int (nI (g.1 9)), .int (nI (g.1 10)), .int (nI (g.1 9)), .int (nI (g.1 12)), .int (nI (g.1 13)), .int (nI (g.1 14)), .int (nI (g.1 15)), .int (g.2.1 0), .int (g.2.1 1)], kO (a 1) 2 [.ref (a 2), .ref (a 3), .int (nI ((g.2.2 0).length))], kI K (a 2) 10 (u3 0), kZ K (a 3) 10 (u3 1), kO (a 4) 2 [.ref (a 5), .ref (a 6), .int (nI ((g.2.2 1).length))], kI K (a 5) 10 (u3 2), kZ K (a 6) 10 (u3 3), kO (a 7) 0 [.ref (a 8), .ref (a 9), .int (nI ((g.2.2 2).length))], kI K (a 8) 5 (u3 4), kI K (a 9) 5 (u3 5)] rfl ?_
          rw [show mRun g = g.1 9 by unfold mRun; rw [if_pos ⟨by omega, by omega⟩]] at j46
          exact j46
    · exact k_vret hC hE (Nat.le_of_ble_eq_true rfl) (Nat.le_of_ble_eq_true rfl) dX1_work_19 (by rw [hw1, if_pos c2]; exact ⟨rfl, u3, rfl, hT3⟩)
  · exact k_vret hC hE (Nat.le_of_ble_eq_true rfl) (Nat.le_of_ble_eq_true rfl) dX1_work_7 (by rw [show mWork r true τ = τ by unfold mWork; rw [if_pos c1]]; exact ⟨rfl, u, rfl, hT⟩)
set_option maxRecDepth 100000 in
set_option maxHeartbeats 4000000 in
theorem cX1_work_k1 (l : Launch) (K : kE) (p0 : Nat) (a : Nat → Nat) (τ : mT) (u : Nat → Nat → Int32) (r : Bool) (hI : mInv false τ) (hT : mRT τ u) : kM l yX1_work (kws yX1_work cX1_work 2 none) rmX1_work K [.ref (a 0), .int (kB r)] (wT K (.ref p0) a τ u) (fun v w => v = none ∧ ∃ u2 : Nat → Nat → Int32, w = wT K (.ref p0) a (mWork r false τ) u2 ∧ mRT (mWork r false τ) u2) := by
  refine kM_of (pl := []) (X := (wT K (.ref p0) a τ u)) rfl (by decide) (Nat.le_of_ble_eq_true rfl) ?_
  intro p e s m args below meth cd A Q hC hnm hE
  refine k_eX (show _ = [kO (a 0) 1 [.ref p0, .int (nI (τ.1 1)), .int (nI (τ.1 2)), .int (nI (τ.1 3)), .ref (a 1), .ref (a 4), .ref (a 7), .int (nI (τ.1 7)), .int (nI (τ.1 8)), .int (nI (τ.1 9)), .int (nI (τ.1 10)), .int (nI (τ.1 11)), .int (nI (τ.1 12)), .int (nI (τ.1 13)), .int (nI (τ.1 14)), .int (nI (τ.1 15)), .int (τ.2.1 0), .int (τ.2.1 1)], kO (a 1) 2 [.ref (a 2), .ref (a 3), .int (nI ((τ.2.2 0).length))], kI K (a 2) 10 (u 0), kZ K (a 3) 10 (u 1), kO (a 4) 2 [.ref (a 5), .ref (a 6), .int (nI ((τ.2.2 1).length))], kI K (a 5) 10 (u 2), kZ K (a 6) 10 (u 3), kO (a 7) 0 [.ref (a 8), .ref (a 9), .int (nI ((τ.2.2 2).length))], kI K (a 8) 5 (u 4), kI K (a 9) 5 (u 5)] from rfl) ?_
  have hn := hI.1
  have hl0 := mInv_L0 hI
  have hl1 := mInv_L1 hI
  have hl2 := mInv_L2 hI
  have h89 : τ.1 9 ≤ 9 := by have := hI.2.1; omega
  refine k_aload_n hC 0 dX1_work_0 rfl rfl ?_
  refine k_get hC inlX1 0 12 rfl rfl (by decide) lkF_X1_68 rfl dX1_work_1 ?_
  refine k_if_eqN hC 8 dX1_work_4 (by decide) (by omega) (fun c1 => ?_) (fun c1 => ?_)
  · refine k_aload_n hC 0 dX1_work_8 rfl rfl ?_
    refine k_callV hC (As := []) (cX1_goOn_k l K a (.ref p0) τ u false hI hT) [] rfl 0 rfl rfl (kAll5 lkM_X1_72 lkI_yX1_goOn lkS_yX1_goOn lkN_X1 lkC_yX1_goOn) 0 (by decide) ⟨(Nat.le_of_ble_eq_true rfl), (Nat.le_of_ble_eq_true rfl)⟩ rfl rfl (Nat.le_of_ble_eq_true rfl) ⟨(Nat.le_of_ble_eq_true rfl), (Nat.le_of_ble_eq_true rfl)⟩ dX1_work_9 (fun v w h => ?_)
    obtain ⟨rfl, u3, rfl, hT3⟩ := h
    have hw1 : mWork r false τ = if (mGoOn τ).1 10 ≠ 0 then mGoOn τ else mStart r false (mGoOn τ) := by unfold mWork; rw [if_neg (fun q => q c1)]
    have hI1 := mGoOn_inv hI
    obtain ⟨g, hg⟩ : ∃ g, g = mGoOn τ := ⟨_, rfl⟩
    rw [← hg] at hT3 hw1 hI1
    have hn1 := hI1.1
    have gl0 := mInv_L0 hI1
    have gl1 := mInv_L1 hI1
    have gl2 := mInv_L2 hI1
    refine k_re 0 0 [kO (a 0) 1 [.ref p0, .int (nI (((mGoOn τ)).1 1)), .int (nI (((mGoOn τ)).1 2)), .int (nI (((mGoOn τ)).1 3)), .ref (a 1), .ref (a 4), .ref (a 7), .int (nI (((mGoOn τ)).1 7)), .int (nI (((mGoOn τ)).1 8)), .int (nI (((mGoOn τ)).1 9)), .int (nI (((mGoOn τ)).1 10)), .int (nI (((mGoOn τ)).1 11)), .int (nI (((mGoOn τ)).1 12)), .int (nI (((mGoOn τ)).1 13)), .int (nI (((mGoOn τ)).1 14)), .int (nI (((mGoOn τ)).1 15)), .int (((mGoOn τ)).2.1 0), .int (((mGoOn τ)).2.1 1)], kO (a 1) 2 [.ref (a 2), .ref (a 3), .int (nI ((((mGoOn τ)).2.2 0).length))], kI K (a 2) 10 (u3 0), kZ K (a 3) 10 (u3 1), kO (a 4) 2 [.ref (a 5), .ref (a 6), .int (nI ((((mGoOn τ)).2.2 1).length))], kI K (a 5) 10 (u3 2), kZ K (a 6) 10 (u3 3), kO (a 7) 0 [.ref (a 8), .ref (a 9), .int (nI ((((mGoOn τ)).2.2 2).length))], kI K (a 8) 5 (u3 4), kI K (a 9) 5 (u3 5)] [] rfl rfl rfl rfl ?_
    rw [← hg]
    refine k_aload_n hC 0 dX1_work_12 rfl rfl ?_
    refine k_get hC inlX1 0 10 rfl rfl (by decide) lkF_X1_60 rfl dX1_work_13 ?_
    refine k_if_leN hC 20 dX1_work_16 (by decide) (by omega) (fun c2 => ?_) (fun c2 => ?_)
    · have hw2 : mWork r false τ = mStart r false g := by rw [hw1, if_neg (fun q => q c2)]
      have hrl := mRun_le hI1
      have j46 : kW p l e rmX1_work s m args below meth cd K A 2 Q 0 0 ([]) [kO (a 0) 1 [.ref p0, .int (nI (g.1 1)), .int (nI (g.1 2)), .int (nI (g.1 3)), .ref (a 1), .ref (a 4), .ref (a 7), .int (nI (g.1 7)), .int (nI (g.1 8)), .int (nI (g.1 9)), .int (nI (g.1 10)), .int (nI (mRun g)), .int (nI (g.1 12)), .int (nI (g.1 13)), .int (nI (g.1 14)), .int (nI (g.1 15)), .int (g.2.1 0), .int (g.2.1 1)], kO (a 1) 2 [.ref (a 2), .ref (a 3), .int (nI ((g.2.2 0).length))], kI K (a 2) 10 (u3 0), kZ K (a 3) 10 (u3 1), kO (a 4) 2 [.ref (a 5), .ref (a 6), .int (nI ((g.2.2 1).length))], kI K (a 5) 10 (u3 2), kZ K (a 6) 10 (u3 3), kO (a 7) 0 [.ref (a 8), .ref (a 9), .int (nI ((g.2.2 2).length))], kI K (a 8) 5 (u3 4), kI K (a 9) 5 (u3 5)] [(0, .ref (a 0)), (1, .int (kB r))] 46 [] := by
        refine k_aload_n hC 0 dX1_work_46 rfl rfl ?_
        refine k_get hC inlX1 0 11 rfl rfl (by decide) lkF_X1_75 rfl dX1_work_47 ?_
        refine k_if_neN hC 54 dX1_work_50 (by decide) (by omega) (fun c3 => ?_) (fun c3 => ?_)
        · refine k_aload_n hC 0 dX1_work_54 rfl rfl ?_
          refine k_get hC inlX1 0 0 rfl rfl (by decide) lkF_X1_7 rfl dX1_work_55 ?_
          refine k_ifnull hC dX1_work_58 ?_
          refine k_aload_n hC 0 dX1_work_61 rfl rfl ?_
          refine k_get hC inlX1 0 5 rfl rfl (by decide) lkF_X1_41 rfl dX1_work_62 ?_
          refine k_perm [4, 5, 6, 0, 1, 2, 3, 7, 8, 9] [kO (a 4) 2 [.ref (a 5), .ref (a 6), .int (nI ((g.2.2 1).length))], kI K (a 5) 10 (u3 2), kZ K (a 6) 10 (u3 3), kO (a 0) 1 [.ref p0, .int (nI (g.1 1)), .int (nI (g.1 2)), .int (nI (g.1 3)), .ref (a 1), .ref (a 4), .ref (a 7), .int (nI (g.1 7)), .int (nI (g.1 8)), .int (nI (g.1 9)), .int (nI (g.1 10)), .int (nI (mRun g)), .int (nI (g.1 12)), .int (nI (g.1 13)), .int (nI (g.1 14)), .int (nI (g.1 15)), .int (g.2.1 0), .int (g.2.1 1)], kO (a 1) 2 [.ref (a 2), .ref (a 3), .int (nI ((g.2.2 0).length))], kI K (a 2) 10 (u3 0), kZ K (a 3) 10 (u3 1), kO (a 7) 0 [.ref (a 8), .ref (a 9), .int (nI ((g.2.2 2).length))], kI K (a 8) 5 (u3 4), kI K (a 9) 5 (u3 5)] rfl rfl ?_
          refine k_callVN hC (As := []) (cX2_allUnits_k l K (a 4) (a 5) (a 6) (u3 2) (u3 3) (g.2.2 1) (by omega) hT3.2.1) [kO (a 0) 1 [.ref p0, .int (nI (g.1 1)), .int (nI (g.1 2)), .int (nI (g.1 3)), .ref (a 1), .ref (a 4), .ref (a 7), .int (nI (g.1 7)), .int (nI (g.1 8)), .int (nI (g.1 9)), .int (nI (g.1 10)), .int (nI (mRun g)), .int (nI (g.1 12)), .int (nI (g.1 13)), .int (nI (g.1 14)), .int (nI (g.1 15)), .int (g.2.1 0), .int (g.2.1 1)], kO (a 1) 2 [.ref (a 2), .ref (a 3), .int (nI ((g.2.2 0).length))], kI K (a 2) 10 (u3 0), kZ K (a 3) 10 (u3 1), kO (a 7) 0 [.ref (a 8), .ref (a 9), .int (nI ((g.2.2 2).length))], kI K (a 8) 5 (u3 4), kI K (a 9) 5 (u3 5)] rfl 0 rfl rfl (kAll4 lkI_yX2_allUnits lkS_yX2_allUnits lkN_X2 lkC_yX2_allUnits) (List.mem_of_getElem? (i := 1) rfl) 0 (by decide) ⟨(Nat.le_of_ble_eq_true rfl), (Nat.le_of_ble_eq_true rfl)⟩ rfl rfl (Nat.le_of_ble_eq_true rfl) ⟨(Nat.le_of_ble_eq_true rfl), (Nat.le_of_ble_eq_true rfl)⟩ dX1_work_65 (fun v w h => ?_)
          obtain ⟨rfl, rfl⟩ := h
          refine k_re 0 0 [kO (a 4) 2 [.ref (a 5), .ref (a 6), .int (nI ((g.2.2 1).length))], kI K (a 5) 10 (u3 2), kZ K (a 6) 10 (u3 3), kO (a 0) 1 [.ref p0, .int (nI (g.1 1)), .int (nI (g.1 2)), .int (nI (g.1 3)), .ref (a 1), .ref (a 4), .ref (a 7), .int (nI (g.1 7)), .int (nI (g.1 8)), .int (nI (g.1 9)), .int (nI (g.1 10)), .int (nI (mRun g)), .int (nI (g.1 12)), .int (nI (g.1 13)), .int (nI (g.1 14)), .int (nI (g.1 15)), .int (g.2.1 0), .int (g.2.1 1)], kO (a 1) 2 [.ref (a 2), .ref (a 3), .int (nI ((g.2.2 0).length))], kI K (a 2) 10 (u3 0), kZ K (a 3) 10 (u3 1), kO (a 7) 0 [.ref (a 8), .ref (a 9), .int (nI ((g.2.2 2).length))], kI K (a 8) 5 (u3 4), kI K (a 9) 5 (u3 5)] [.int (nI (mU (g.2.2 1)))] rfl rfl rfl rfl ?_
          refine k_perm [3, 4, 5, 6, 0, 1, 2, 7, 8, 9] [kO (a 0) 1 [.ref p0, .int (nI (g.1 1)), .int (nI (g.1 2)), .int (nI (g.1 3)), .ref (a 1), .ref (a 4), .ref (a 7), .int (nI (g.1 7)), .int (nI (g.1 8)), .int (nI (g.1 9)), .int (nI (g.1 10)), .int (nI (mRun g)), .int (nI (g.1 12)), .int (nI (g.1 13)), .int (nI (g.1 14)), .int (nI (g.1 15)), .int (g.2.1 0), .int (g.2.1 1)], kO (a 1) 2 [.ref (a 2), .ref (a 3), .int (nI ((g.2.2 0).length))], kI K (a 2) 10 (u3 0), kZ K (a 3) 10 (u3 1), kO (a 4) 2 [.ref (a 5), .ref (a 6), .int (nI ((g.2.2 1).length))], kI K (a 5) 10 (u3 2), kZ K (a 6) 10 (u3 3), kO (a 7) 0 [.ref (a 8), .ref (a 9), .int (nI ((g.2.2 2).length))], kI K (a 8) 5 (u3 4), kI K (a 9) 5 (u3 5)] rfl rfl ?_
          have hmu := mU_le hI1.2.2.2.2.1
          refine k_aload_n hC 0 dX1_work_68 rfl rfl ?_
          refine k_get hC inlX1 0 2 rfl rfl (by decide) lkF_X1_17 rfl dX1_work_69 ?_
          refine k_icmp_geN hC 86 dX1_work_72 (by decide) (by omega) (by omega) (fun c4 => ?_) (fun c4 => ?_)
          · refine k_aload_n hC 0 dX1_work_86 rfl rfl ?_
            refine k_iload_n hC 1 dX1_work_87 rfl rfl ?_
            refine k_callV hC (As := [.int (kB r)]) (cX1_begin_k1 l K p0 a (va_up g.1 11 (mRun g), g.2.1, g.2.2) u3 r (mRun_inv hI1) hT3 c3) [] rfl 0 rfl rfl (kAll5 lkM_X1_81 lkI_yX1_begin lkS_yX1_begin lkN_X1 lkC_yX1_begin) 1 (by decide) ⟨(Nat.le_of_ble_eq_true rfl), (Nat.le_of_ble_eq_true rfl)⟩ rfl rfl (Nat.le_of_ble_eq_true rfl) ⟨(Nat.le_of_ble_eq_true rfl), (Nat.le_of_ble_eq_true rfl)⟩ dX1_work_88 (fun v w h => ?_)
            obtain ⟨rfl, u4, rfl, hT4⟩ := h
            refine k_re 0 0 [kO (a 0) 1 [.ref p0, .int (nI (((mBegin r false (va_up g.1 11 (mRun g), g.2.1, g.2.2))).1 1)), .int (nI (((mBegin r false (va_up g.1 11 (mRun g), g.2.1, g.2.2))).1 2)), .int (nI (((mBegin r false (va_up g.1 11 (mRun g), g.2.1, g.2.2))).1 3)), .ref (a 1), .ref (a 4), .ref (a 7), .int (nI (((mBegin r false (va_up g.1 11 (mRun g), g.2.1, g.2.2))).1 7)), .int (nI (((mBegin r false (va_up g.1 11 (mRun g), g.2.1, g.2.2))).1 8)), .int (nI (((mBegin r false (va_up g.1 11 (mRun g), g.2.1, g.2.2))).1 9)), .int (nI (((mBegin r false (va_up g.1 11 (mRun g), g.2.1, g.2.2))).1 10)), .int (nI (((mBegin r false (va_up g.1 11 (mRun g), g.2.1, g.2.2))).1 11)), .int (nI (((mBegin r false (va_up g.1 11 (mRun g), g.2.1, g.2.2))).1 12)), .int (nI (((mBegin r false (va_up g.1 11 (mRun g), g.2.1, g.2.2))).1 13)), .int (nI (((mBegin r false (va_up g.1 11 (mRun g), g.2.1, g.2.2))).1 14)), .int (nI (((mBegin r false (va_up g.1 11 (mRun g), g.2.1, g.2.2))).1 15)), .int (((mBegin r false (va_up g.1 11 (mRun g), g.2.1, g.2.2))).2.1 0), .int (((mBegin r false (va_up g.1 11 (mRun g), g.2.1, g.2.2))).2.1 1)], kO (a 1) 2 [.ref (a 2), .ref (a 3), .int (nI ((((mBegin r false (va_up g.1 11 (mRun g), g.2.1, g.2.2))).2.2 0).length))], kI K (a 2) 10 (u4 0), kZ K (a 3) 10 (u4 1), kO (a 4) 2 [.ref (a 5), .ref (a 6), .int (nI ((((mBegin r false (va_up g.1 11 (mRun g), g.2.1, g.2.2))).2.2 1).length))], kI K (a 5) 10 (u4 2), kZ K (a 6) 10 (u4 3), kO (a 7) 0 [.ref (a 8), .ref (a 9), .int (nI ((((mBegin r false (va_up g.1 11 (mRun g), g.2.1, g.2.2))).2.2 2).length))], kI K (a 8) 5 (u4 4), kI K (a 9) 5 (u4 5)] [] rfl rfl rfl rfl ?_
            exact k_vret hC hE (Nat.le_of_ble_eq_true rfl) (Nat.le_of_ble_eq_true rfl) dX1_work_91 (by rw [hw2, show mStart r false g = mBegin r false (va_up g.1 11 (mRun g), g.2.1, g.2.2) by unfold mStart; rw [if_neg c3, if_neg (by omega)]]; exact ⟨rfl, u4, rfl, hT4⟩)
          · refine k_aload_n hC 0 dX1_work_75 rfl rfl ?_
            refine k_dup hC dX1_work_76 rfl ?_
            refine k_get hC inlX1 0 16 rfl rfl (by decide) lkF_X1_78 rfl dX1_work_77 ?_
            refine k_iconst hC (nI 1) dX1_work_80 rfl ?_
            refine k_iadd hC dX1_work_81 ?_
            refine k_put hC inlX1 tyX1_ok nmX1 0 16 rfl rfl (by decide) lkF_X1_78 rfl rfl rfl (Nat.le_of_ble_eq_true rfl) dX1_work_82 [kO (a 0) 1 [.ref p0, .int (nI (g.1 1)), .int (nI (g.1 2)), .int (nI (g.1 3)), .ref (a 1), .ref (a 4), .ref (a 7), .int (nI (g.1 7)), .int (nI (g.1 8)), .int (nI (g.1 9)), .int (nI (g.1 10)), .int (nI (mRun g)), .int (nI (g.1 12)), .int (nI (g.1 13)), .int (nI (g.1 14)), .int (nI (g.1 15)), .int ((g.2.1 0) + nI 1), .int (g.2.1 1)], kO (a 1) 2 [.ref (a 2), .ref (a 3), .int (nI ((g.2.2 0).length))], kI K (a 2) 10 (u3 0), kZ K (a 3) 10 (u3 1), kO (a 4) 2 [.ref (a 5), .ref (a 6), .int (nI ((g.2.2 1).length))], kI K (a 5) 10 (u3 2), kZ K (a 6) 10 (u3 3), kO (a 7) 0 [.ref (a 8), .ref (a 9), .int (nI ((g.2.2 2).length))], kI K (a 8) 5 (u3 4), kI K (a 9) 5 (u3 5)] rfl ?_
            exact k_vret hC hE (Nat.le_of_ble_eq_true rfl) (Nat.le_of_ble_eq_true rfl) dX1_work_85 (by rw [hw2, show mStart r false g = (va_up g.1 11 (mRun g), va_up g.2.1 0 (g.2.1 0 + 1), g.2.2) by unfold mStart; rw [if_neg c3, if_pos ⟨rfl, by omega⟩]]; exact ⟨rfl, u3, rfl, hT3⟩)
        · have e9 : mRun g = g.1 11 := by
            by_cases hh : g.1 11 = 0 ∧ g.1 7 ≤ g.1 9
            · exfalso; unfold mRun at c3; rw [if_pos hh] at c3; omega
            · unfold mRun; rw [if_neg hh]
          rw [e9]
          exact k_vret hC hE (Nat.le_of_ble_eq_true rfl) (Nat.le_of_ble_eq_true rfl) dX1_work_53 (by rw [hw2, show mStart r false g = g by unfold mStart; rw [if_pos c3]]; exact ⟨rfl, u3, rfl, hT3⟩)
      refine k_aload_n hC 0 dX1_work_20 rfl rfl ?_
      refine k_get hC inlX1 0 11 rfl rfl (by decide) lkF_X1_75 rfl dX1_work_21 ?_
      refine k_if_neN hC 46 dX1_work_24 (by decide) (by omega) (fun c5 => ?_) (fun c5 => ?_)
      · rw [show mRun g = g.1 11 by unfold mRun; rw [if_neg (fun q => c5 q.1)]] at j46
        exact j46
      · refine k_aload_n hC 0 dX1_work_27 rfl rfl ?_
        refine k_get hC inlX1 0 9 rfl rfl (by decide) lkF_X1_29 rfl dX1_work_28 ?_
        refine k_aload_n hC 0 dX1_work_31 rfl rfl ?_
        refine k_get hC inlX1 0 7 rfl rfl (by decide) lkF_X1_23 rfl dX1_work_32 ?_
        refine k_icmp_ltN hC 46 dX1_work_35 (by decide) (by omega) (by omega) (fun c6 => ?_) (fun c6 => ?_)
        · rw [show mRun g = g.1 11 by unfold mRun; rw [if_neg (fun q => by omega)]] at j46
          exact j46
        · refine k_aload_n hC 0 dX1_work_38 rfl rfl ?_
          refine k_aload_n hC 0 dX1_work_39 rfl rfl ?_
          refine k_get hC inlX1 0 9 rfl rfl (by decide) lkF_X1_29 rfl dX1_work_40 ?_
          refine k_put hC inlX1 tyX1_ok nmX1 0 11 rfl rfl (by decide) lkF_X1_75 rfl rfl rfl (Nat.le_of_ble_eq_true rfl) dX1_work_43 [kO (a 0) 1 [.ref p0, .int (nI (g.1 1)), .int (nI (g.1 2)), .int (nI (g.1 3)), .ref (a 1), .ref (a 4), .ref (a 7), .int (nI (g.1 7)), .int (nI (g.1 8)), .int (nI (g.1 9)), .int (nI (g.1 10)), .int (nI (g.1 9)), .int (nI (g.1 12)), .int (nI (g.1 13)), .int (nI (g.1 14)), .int (nI (g.1 15)), .int (g.2.1 0), .int (g.2.1 1)], kO (a 1) 2 [.ref (a 2), .ref (a 3), .int (nI ((g.2.2 0).length))], kI K (a 2) 10 (u3 0), kZ K (a 3) 10 (u3 1), kO (a 4) 2 [.ref (a 5), .ref (a 6), .int (nI ((g.2.2 1).length))], kI K (a 5) 10 (u3 2), kZ K (a 6) 10 (u3 3), kO (a 7) 0 [.ref (a 8), .ref (a 9), .int (nI ((g.2.2 2).length))], kI K (a 8) 5 (u3 4), kI K (a 9) 5 (u3 5)] rfl ?_
          rw [show mRun g = g.1 9 by unfold mRun; rw [if_pos ⟨by omega, by omega⟩]] at j46
          exact j46
    · exact k_vret hC hE (Nat.le_of_ble_eq_true rfl) (Nat.le_of_ble_eq_true rfl) dX1_work_19 (by rw [hw1, if_pos c2]; exact ⟨rfl, u3, rfl, hT3⟩)
  · exact k_vret hC hE (Nat.le_of_ble_eq_true rfl) (Nat.le_of_ble_eq_true rfl) dX1_work_7 (by rw [show mWork r false τ = τ by unfold mWork; rw [if_pos c1]]; exact ⟨rfl, u, rfl, hT⟩)
abbrev rmX1_unitsHeld : Room := { frames := 1, cells := 0, slots := 0, locals := 22 }
set_option maxRecDepth 100000 in
set_option maxHeartbeats 4000000 in
theorem cX1_unitsHeld_k (l : Launch) (K : kE) (a : Nat → Nat) (ah : Value) (τ : mT) (u : Nat → Nat → Int32) (b : Bool) (hI : mInv b τ) (hT : mRT τ u) : kM l yX1_unitsHeld (kws yX1_unitsHeld cX1_unitsHeld 2 (some .int)) rmX1_unitsHeld K [.ref (a 0)] (wT K ah a τ u) (fun v w => v = some (.int (nI (mHeld τ))) ∧ w = wT K ah a τ u) := by
  refine kM_of (pl := []) (X := (wT K ah a τ u)) rfl (by decide) (Nat.le_of_ble_eq_true rfl) ?_
  intro p e s m args below meth cd A Q hC hnm hE
  refine k_eX (show _ = [kO (a 0) 1 [ah, .int (nI (τ.1 1)), .int (nI (τ.1 2)), .int (nI (τ.1 3)), .ref (a 1), .ref (a 4), .ref (a 7), .int (nI (τ.1 7)), .int (nI (τ.1 8)), .int (nI (τ.1 9)), .int (nI (τ.1 10)), .int (nI (τ.1 11)), .int (nI (τ.1 12)), .int (nI (τ.1 13)), .int (nI (τ.1 14)), .int (nI (τ.1 15)), .int (τ.2.1 0), .int (τ.2.1 1)], kO (a 1) 2 [.ref (a 2), .ref (a 3), .int (nI ((τ.2.2 0).length))], kI K (a 2) 10 (u 0), kZ K (a 3) 10 (u 1), kO (a 4) 2 [.ref (a 5), .ref (a 6), .int (nI ((τ.2.2 1).length))], kI K (a 5) 10 (u 2), kZ K (a 6) 10 (u 3), kO (a 7) 0 [.ref (a 8), .ref (a 9), .int (nI ((τ.2.2 2).length))], kI K (a 8) 5 (u 4), kI K (a 9) 5 (u 5)] from rfl) ?_
  have hn := hI.1
  have hl0 := mInv_L0 hI
  have hl1 := mInv_L1 hI
  have hl2 := mInv_L2 hI
  have h89 : τ.1 9 ≤ 9 := by have := hI.2.1; omega
  refine k_aload_n hC 0 dX1_unitsHeld_0 rfl rfl ?_
  refine k_get hC inlX1 0 10 rfl rfl (by decide) lkF_X1_60 rfl dX1_unitsHeld_1 ?_
  refine k_if_leN hC 14 dX1_unitsHeld_4 (by decide) (by omega) (fun c1 => ?_) (fun c1 => ?_)
  · refine k_iconst hC (nI 0) dX1_unitsHeld_14 rfl ?_
    refine k_istore_n hC 1 dX1_unitsHeld_15 rfl (by decide) rfl [(0, .ref (a 0)), (1, .int (nI 0))] rfl ?_
    refine k_aload_n hC 0 dX1_unitsHeld_16 rfl rfl ?_
    refine k_get hC inlX1 0 4 rfl rfl (by decide) lkF_X1_37 rfl dX1_unitsHeld_17 ?_
    refine k_perm [1, 2, 3, 0, 4, 5, 6, 7, 8, 9] [kO (a 1) 2 [.ref (a 2), .ref (a 3), .int (nI ((τ.2.2 0).length))], kI K (a 2) 10 (u 0), kZ K (a 3) 10 (u 1), kO (a 0) 1 [ah, .int (nI (τ.1 1)), .int (nI (τ.1 2)), .int (nI (τ.1 3)), .ref (a 1), .ref (a 4), .ref (a 7), .int (nI (τ.1 7)), .int (nI (τ.1 8)), .int (nI (τ.1 9)), .int (nI (τ.1 10)), .int (nI (τ.1 11)), .int (nI (τ.1 12)), .int (nI (τ.1 13)), .int (nI (τ.1 14)), .int (nI (τ.1 15)), .int (τ.2.1 0), .int (τ.2.1 1)], kO (a 4) 2 [.ref (a 5), .ref (a 6), .int (nI ((τ.2.2 1).length))], kI K (a 5) 10 (u 2), kZ K (a 6) 10 (u 3), kO (a 7) 0 [.ref (a 8), .ref (a 9), .int (nI ((τ.2.2 2).length))], kI K (a 8) 5 (u 4), kI K (a 9) 5 (u 5)] rfl rfl ?_
    refine k_callVN hC (As := []) (cX2_allUnits_k l K (a 1) (a 2) (a 3) (u 0) (u 1) (τ.2.2 0) (by omega) hT.1) [kO (a 0) 1 [ah, .int (nI (τ.1 1)), .int (nI (τ.1 2)), .int (nI (τ.1 3)), .ref (a 1), .ref (a 4), .ref (a 7), .int (nI (τ.1 7)), .int (nI (τ.1 8)), .int (nI (τ.1 9)), .int (nI (τ.1 10)), .int (nI (τ.1 11)), .int (nI (τ.1 12)), .int (nI (τ.1 13)), .int (nI (τ.1 14)), .int (nI (τ.1 15)), .int (τ.2.1 0), .int (τ.2.1 1)], kO (a 4) 2 [.ref (a 5), .ref (a 6), .int (nI ((τ.2.2 1).length))], kI K (a 5) 10 (u 2), kZ K (a 6) 10 (u 3), kO (a 7) 0 [.ref (a 8), .ref (a 9), .int (nI ((τ.2.2 2).length))], kI K (a 8) 5 (u 4), kI K (a 9) 5 (u 5)] rfl 0 rfl rfl (kAll4 lkI_yX2_allUnits lkS_yX2_allUnits lkN_X2 lkC_yX2_allUnits) (List.mem_of_getElem? (i := 1) rfl) 0 (by decide) ⟨(Nat.le_of_ble_eq_true rfl), (Nat.le_of_ble_eq_true rfl)⟩ rfl rfl (Nat.le_of_ble_eq_true rfl) ⟨(Nat.le_of_ble_eq_true rfl), (Nat.le_of_ble_eq_true rfl)⟩ dX1_unitsHeld_20 (fun v w h => ?_)
    obtain ⟨rfl, rfl⟩ := h
    refine k_re 0 0 [kO (a 1) 2 [.ref (a 2), .ref (a 3), .int (nI ((τ.2.2 0).length))], kI K (a 2) 10 (u 0), kZ K (a 3) 10 (u 1), kO (a 0) 1 [ah, .int (nI (τ.1 1)), .int (nI (τ.1 2)), .int (nI (τ.1 3)), .ref (a 1), .ref (a 4), .ref (a 7), .int (nI (τ.1 7)), .int (nI (τ.1 8)), .int (nI (τ.1 9)), .int (nI (τ.1 10)), .int (nI (τ.1 11)), .int (nI (τ.1 12)), .int (nI (τ.1 13)), .int (nI (τ.1 14)), .int (nI (τ.1 15)), .int (τ.2.1 0), .int (τ.2.1 1)], kO (a 4) 2 [.ref (a 5), .ref (a 6), .int (nI ((τ.2.2 1).length))], kI K (a 5) 10 (u 2), kZ K (a 6) 10 (u 3), kO (a 7) 0 [.ref (a 8), .ref (a 9), .int (nI ((τ.2.2 2).length))], kI K (a 8) 5 (u 4), kI K (a 9) 5 (u 5)] [.int (nI (mU (τ.2.2 0)))] rfl rfl rfl rfl ?_
    refine k_perm [3, 0, 1, 2, 4, 5, 6, 7, 8, 9] [kO (a 0) 1 [ah, .int (nI (τ.1 1)), .int (nI (τ.1 2)), .int (nI (τ.1 3)), .ref (a 1), .ref (a 4), .ref (a 7), .int (nI (τ.1 7)), .int (nI (τ.1 8)), .int (nI (τ.1 9)), .int (nI (τ.1 10)), .int (nI (τ.1 11)), .int (nI (τ.1 12)), .int (nI (τ.1 13)), .int (nI (τ.1 14)), .int (nI (τ.1 15)), .int (τ.2.1 0), .int (τ.2.1 1)], kO (a 1) 2 [.ref (a 2), .ref (a 3), .int (nI ((τ.2.2 0).length))], kI K (a 2) 10 (u 0), kZ K (a 3) 10 (u 1), kO (a 4) 2 [.ref (a 5), .ref (a 6), .int (nI ((τ.2.2 1).length))], kI K (a 5) 10 (u 2), kZ K (a 6) 10 (u 3), kO (a 7) 0 [.ref (a 8), .ref (a 9), .int (nI ((τ.2.2 2).length))], kI K (a 8) 5 (u 4), kI K (a 9) 5 (u 5)] rfl rfl ?_
    refine k_aload_n hC 0 dX1_unitsHeld_23 rfl rfl ?_
    refine k_get hC inlX1 0 5 rfl rfl (by decide) lkF_X1_41 rfl dX1_unitsHeld_24 ?_
    refine k_perm [4, 5, 6, 0, 1, 2, 3, 7, 8, 9] [kO (a 4) 2 [.ref (a 5), .ref (a 6), .int (nI ((τ.2.2 1).length))], kI K (a 5) 10 (u 2), kZ K (a 6) 10 (u 3), kO (a 0) 1 [ah, .int (nI (τ.1 1)), .int (nI (τ.1 2)), .int (nI (τ.1 3)), .ref (a 1), .ref (a 4), .ref (a 7), .int (nI (τ.1 7)), .int (nI (τ.1 8)), .int (nI (τ.1 9)), .int (nI (τ.1 10)), .int (nI (τ.1 11)), .int (nI (τ.1 12)), .int (nI (τ.1 13)), .int (nI (τ.1 14)), .int (nI (τ.1 15)), .int (τ.2.1 0), .int (τ.2.1 1)], kO (a 1) 2 [.ref (a 2), .ref (a 3), .int (nI ((τ.2.2 0).length))], kI K (a 2) 10 (u 0), kZ K (a 3) 10 (u 1), kO (a 7) 0 [.ref (a 8), .ref (a 9), .int (nI ((τ.2.2 2).length))], kI K (a 8) 5 (u 4), kI K (a 9) 5 (u 5)] rfl rfl ?_
    refine k_callVN hC (As := []) (cX2_allUnits_k l K (a 4) (a 5) (a 6) (u 2) (u 3) (τ.2.2 1) (by omega) hT.2.1) [kO (a 0) 1 [ah, .int (nI (τ.1 1)), .int (nI (τ.1 2)), .int (nI (τ.1 3)), .ref (a 1), .ref (a 4), .ref (a 7), .int (nI (τ.1 7)), .int (nI (τ.1 8)), .int (nI (τ.1 9)), .int (nI (τ.1 10)), .int (nI (τ.1 11)), .int (nI (τ.1 12)), .int (nI (τ.1 13)), .int (nI (τ.1 14)), .int (nI (τ.1 15)), .int (τ.2.1 0), .int (τ.2.1 1)], kO (a 1) 2 [.ref (a 2), .ref (a 3), .int (nI ((τ.2.2 0).length))], kI K (a 2) 10 (u 0), kZ K (a 3) 10 (u 1), kO (a 7) 0 [.ref (a 8), .ref (a 9), .int (nI ((τ.2.2 2).length))], kI K (a 8) 5 (u 4), kI K (a 9) 5 (u 5)] rfl 0 rfl rfl (kAll4 lkI_yX2_allUnits lkS_yX2_allUnits lkN_X2 lkC_yX2_allUnits) (List.mem_of_getElem? (i := 1) rfl) 0 (by decide) ⟨(Nat.le_of_ble_eq_true rfl), (Nat.le_of_ble_eq_true rfl)⟩ rfl rfl (Nat.le_of_ble_eq_true rfl) ⟨(Nat.le_of_ble_eq_true rfl), (Nat.le_of_ble_eq_true rfl)⟩ dX1_unitsHeld_27 (fun v w h => ?_)
    obtain ⟨rfl, rfl⟩ := h
    refine k_re 0 0 [kO (a 4) 2 [.ref (a 5), .ref (a 6), .int (nI ((τ.2.2 1).length))], kI K (a 5) 10 (u 2), kZ K (a 6) 10 (u 3), kO (a 0) 1 [ah, .int (nI (τ.1 1)), .int (nI (τ.1 2)), .int (nI (τ.1 3)), .ref (a 1), .ref (a 4), .ref (a 7), .int (nI (τ.1 7)), .int (nI (τ.1 8)), .int (nI (τ.1 9)), .int (nI (τ.1 10)), .int (nI (τ.1 11)), .int (nI (τ.1 12)), .int (nI (τ.1 13)), .int (nI (τ.1 14)), .int (nI (τ.1 15)), .int (τ.2.1 0), .int (τ.2.1 1)], kO (a 1) 2 [.ref (a 2), .ref (a 3), .int (nI ((τ.2.2 0).length))], kI K (a 2) 10 (u 0), kZ K (a 3) 10 (u 1), kO (a 7) 0 [.ref (a 8), .ref (a 9), .int (nI ((τ.2.2 2).length))], kI K (a 8) 5 (u 4), kI K (a 9) 5 (u 5)] [.int (nI (mU (τ.2.2 1))), .int (nI (mU (τ.2.2 0)))] rfl rfl rfl rfl ?_
    refine k_perm [3, 4, 5, 6, 0, 1, 2, 7, 8, 9] [kO (a 0) 1 [ah, .int (nI (τ.1 1)), .int (nI (τ.1 2)), .int (nI (τ.1 3)), .ref (a 1), .ref (a 4), .ref (a 7), .int (nI (τ.1 7)), .int (nI (τ.1 8)), .int (nI (τ.1 9)), .int (nI (τ.1 10)), .int (nI (τ.1 11)), .int (nI (τ.1 12)), .int (nI (τ.1 13)), .int (nI (τ.1 14)), .int (nI (τ.1 15)), .int (τ.2.1 0), .int (τ.2.1 1)], kO (a 1) 2 [.ref (a 2), .ref (a 3), .int (nI ((τ.2.2 0).length))], kI K (a 2) 10 (u 0), kZ K (a 3) 10 (u 1), kO (a 4) 2 [.ref (a 5), .ref (a 6), .int (nI ((τ.2.2 1).length))], kI K (a 5) 10 (u 2), kZ K (a 6) 10 (u 3), kO (a 7) 0 [.ref (a 8), .ref (a 9), .int (nI ((τ.2.2 2).length))], kI K (a 8) 5 (u 4), kI K (a 9) 5 (u 5)] rfl rfl ?_
    refine k_iaddN hC dX1_unitsHeld_30 ?_
    refine k_aload_n hC 0 dX1_unitsHeld_31 rfl rfl ?_
    refine k_get hC inlX1 0 6 rfl rfl (by decide) lkF_X1_47 rfl dX1_unitsHeld_32 ?_
    refine k_perm [7, 8, 9, 0, 1, 2, 3, 4, 5, 6] [kO (a 7) 0 [.ref (a 8), .ref (a 9), .int (nI ((τ.2.2 2).length))], kI K (a 8) 5 (u 4), kI K (a 9) 5 (u 5), kO (a 0) 1 [ah, .int (nI (τ.1 1)), .int (nI (τ.1 2)), .int (nI (τ.1 3)), .ref (a 1), .ref (a 4), .ref (a 7), .int (nI (τ.1 7)), .int (nI (τ.1 8)), .int (nI (τ.1 9)), .int (nI (τ.1 10)), .int (nI (τ.1 11)), .int (nI (τ.1 12)), .int (nI (τ.1 13)), .int (nI (τ.1 14)), .int (nI (τ.1 15)), .int (τ.2.1 0), .int (τ.2.1 1)], kO (a 1) 2 [.ref (a 2), .ref (a 3), .int (nI ((τ.2.2 0).length))], kI K (a 2) 10 (u 0), kZ K (a 3) 10 (u 1), kO (a 4) 2 [.ref (a 5), .ref (a 6), .int (nI ((τ.2.2 1).length))], kI K (a 5) 10 (u 2), kZ K (a 6) 10 (u 3)] rfl rfl ?_
    refine k_callVN hC (As := []) (cX0_allUnits_k l K (a 7) (a 8) (a 9) (u 4) (u 5) (τ.2.2 2) (by omega) hT.2.2) [kO (a 0) 1 [ah, .int (nI (τ.1 1)), .int (nI (τ.1 2)), .int (nI (τ.1 3)), .ref (a 1), .ref (a 4), .ref (a 7), .int (nI (τ.1 7)), .int (nI (τ.1 8)), .int (nI (τ.1 9)), .int (nI (τ.1 10)), .int (nI (τ.1 11)), .int (nI (τ.1 12)), .int (nI (τ.1 13)), .int (nI (τ.1 14)), .int (nI (τ.1 15)), .int (τ.2.1 0), .int (τ.2.1 1)], kO (a 1) 2 [.ref (a 2), .ref (a 3), .int (nI ((τ.2.2 0).length))], kI K (a 2) 10 (u 0), kZ K (a 3) 10 (u 1), kO (a 4) 2 [.ref (a 5), .ref (a 6), .int (nI ((τ.2.2 1).length))], kI K (a 5) 10 (u 2), kZ K (a 6) 10 (u 3)] rfl 0 rfl rfl (kAll4 lkI_yX0_allUnits lkS_yX0_allUnits lkN_X0 lkC_yX0_allUnits) (List.mem_of_getElem? (i := 2) rfl) 0 (by decide) ⟨(Nat.le_of_ble_eq_true rfl), (Nat.le_of_ble_eq_true rfl)⟩ rfl rfl (Nat.le_of_ble_eq_true rfl) ⟨(Nat.le_of_ble_eq_true rfl), (Nat.le_of_ble_eq_true rfl)⟩ dX1_unitsHeld_35 (fun v w h => ?_)
    obtain ⟨rfl, rfl⟩ := h
    refine k_re 0 0 [kO (a 7) 0 [.ref (a 8), .ref (a 9), .int (nI ((τ.2.2 2).length))], kI K (a 8) 5 (u 4), kI K (a 9) 5 (u 5), kO (a 0) 1 [ah, .int (nI (τ.1 1)), .int (nI (τ.1 2)), .int (nI (τ.1 3)), .ref (a 1), .ref (a 4), .ref (a 7), .int (nI (τ.1 7)), .int (nI (τ.1 8)), .int (nI (τ.1 9)), .int (nI (τ.1 10)), .int (nI (τ.1 11)), .int (nI (τ.1 12)), .int (nI (τ.1 13)), .int (nI (τ.1 14)), .int (nI (τ.1 15)), .int (τ.2.1 0), .int (τ.2.1 1)], kO (a 1) 2 [.ref (a 2), .ref (a 3), .int (nI ((τ.2.2 0).length))], kI K (a 2) 10 (u 0), kZ K (a 3) 10 (u 1), kO (a 4) 2 [.ref (a 5), .ref (a 6), .int (nI ((τ.2.2 1).length))], kI K (a 5) 10 (u 2), kZ K (a 6) 10 (u 3)] [.int (nI (mU (τ.2.2 2))), .int (nI ((mU (τ.2.2 0)) + (mU (τ.2.2 1))))] rfl rfl rfl rfl ?_
    refine k_perm [3, 4, 5, 6, 7, 8, 9, 0, 1, 2] [kO (a 0) 1 [ah, .int (nI (τ.1 1)), .int (nI (τ.1 2)), .int (nI (τ.1 3)), .ref (a 1), .ref (a 4), .ref (a 7), .int (nI (τ.1 7)), .int (nI (τ.1 8)), .int (nI (τ.1 9)), .int (nI (τ.1 10)), .int (nI (τ.1 11)), .int (nI (τ.1 12)), .int (nI (τ.1 13)), .int (nI (τ.1 14)), .int (nI (τ.1 15)), .int (τ.2.1 0), .int (τ.2.1 1)], kO (a 1) 2 [.ref (a 2), .ref (a 3), .int (nI ((τ.2.2 0).length))], kI K (a 2) 10 (u 0), kZ K (a 3) 10 (u 1), kO (a 4) 2 [.ref (a 5), .ref (a 6), .int (nI ((τ.2.2 1).length))], kI K (a 5) 10 (u 2), kZ K (a 6) 10 (u 3), kO (a 7) 0 [.ref (a 8), .ref (a 9), .int (nI ((τ.2.2 2).length))], kI K (a 8) 5 (u 4), kI K (a 9) 5 (u 5)] rfl rfl ?_
    refine k_iaddN hC dX1_unitsHeld_38 ?_
    refine k_iload_n hC 1 dX1_unitsHeld_39 rfl rfl ?_
    refine k_iaddN hC dX1_unitsHeld_40 ?_
    exact k_iret hC hE (Nat.le_of_ble_eq_true rfl) (Nat.le_of_ble_eq_true rfl) dX1_unitsHeld_41 ⟨by unfold mHeld; rw [if_pos c1], rfl⟩
  · refine k_aload_n hC 0 dX1_unitsHeld_7 rfl rfl ?_
    refine k_get hC inlX1 0 2 rfl rfl (by decide) lkF_X1_17 rfl dX1_unitsHeld_8 ?_
    refine k_goto hC 15 dX1_unitsHeld_11 (by decide) ?_
    refine k_istore_n hC 1 dX1_unitsHeld_15 rfl (by decide) rfl [(0, .ref (a 0)), (1, .int (nI (τ.1 2)))] rfl ?_
    refine k_aload_n hC 0 dX1_unitsHeld_16 rfl rfl ?_
    refine k_get hC inlX1 0 4 rfl rfl (by decide) lkF_X1_37 rfl dX1_unitsHeld_17 ?_
    refine k_perm [1, 2, 3, 0, 4, 5, 6, 7, 8, 9] [kO (a 1) 2 [.ref (a 2), .ref (a 3), .int (nI ((τ.2.2 0).length))], kI K (a 2) 10 (u 0), kZ K (a 3) 10 (u 1), kO (a 0) 1 [ah, .int (nI (τ.1 1)), .int (nI (τ.1 2)), .int (nI (τ.1 3)), .ref (a 1), .ref (a 4), .ref (a 7), .int (nI (τ.1 7)), .int (nI (τ.1 8)), .int (nI (τ.1 9)), .int (nI (τ.1 10)), .int (nI (τ.1 11)), .int (nI (τ.1 12)), .int (nI (τ.1 13)), .int (nI (τ.1 14)), .int (nI (τ.1 15)), .int (τ.2.1 0), .int (τ.2.1 1)], kO (a 4) 2 [.ref (a 5), .ref (a 6), .int (nI ((τ.2.2 1).length))], kI K (a 5) 10 (u 2), kZ K (a 6) 10 (u 3), kO (a 7) 0 [.ref (a 8), .ref (a 9), .int (nI ((τ.2.2 2).length))], kI K (a 8) 5 (u 4), kI K (a 9) 5 (u 5)] rfl rfl ?_
    refine k_callVN hC (As := []) (cX2_allUnits_k l K (a 1) (a 2) (a 3) (u 0) (u 1) (τ.2.2 0) (by omega) hT.1) [kO (a 0) 1 [ah, .int (nI (τ.1 1)), .int (nI (τ.1 2)), .int (nI (τ.1 3)), .ref (a 1), .ref (a 4), .ref (a 7), .int (nI (τ.1 7)), .int (nI (τ.1 8)), .int (nI (τ.1 9)), .int (nI (τ.1 10)), .int (nI (τ.1 11)), .int (nI (τ.1 12)), .int (nI (τ.1 13)), .int (nI (τ.1 14)), .int (nI (τ.1 15)), .int (τ.2.1 0), .int (τ.2.1 1)], kO (a 4) 2 [.ref (a 5), .ref (a 6), .int (nI ((τ.2.2 1).length))], kI K (a 5) 10 (u 2), kZ K (a 6) 10 (u 3), kO (a 7) 0 [.ref (a 8), .ref (a 9), .int (nI ((τ.2.2 2).length))], kI K (a 8) 5 (u 4), kI K (a 9) 5 (u 5)] rfl 0 rfl rfl (kAll4 lkI_yX2_allUnits lkS_yX2_allUnits lkN_X2 lkC_yX2_allUnits) (List.mem_of_getElem? (i := 1) rfl) 0 (by decide) ⟨(Nat.le_of_ble_eq_true rfl), (Nat.le_of_ble_eq_true rfl)⟩ rfl rfl (Nat.le_of_ble_eq_true rfl) ⟨(Nat.le_of_ble_eq_true rfl), (Nat.le_of_ble_eq_true rfl)⟩ dX1_unitsHeld_20 (fun v w h => ?_)
    obtain ⟨rfl, rfl⟩ := h
    refine k_re 0 0 [kO (a 1) 2 [.ref (a 2), .ref (a 3), .int (nI ((τ.2.2 0).length))], kI K (a 2) 10 (u 0), kZ K (a 3) 10 (u 1), kO (a 0) 1 [ah, .int (nI (τ.1 1)), .int (nI (τ.1 2)), .int (nI (τ.1 3)), .ref (a 1), .ref (a 4), .ref (a 7), .int (nI (τ.1 7)), .int (nI (τ.1 8)), .int (nI (τ.1 9)), .int (nI (τ.1 10)), .int (nI (τ.1 11)), .int (nI (τ.1 12)), .int (nI (τ.1 13)), .int (nI (τ.1 14)), .int (nI (τ.1 15)), .int (τ.2.1 0), .int (τ.2.1 1)], kO (a 4) 2 [.ref (a 5), .ref (a 6), .int (nI ((τ.2.2 1).length))], kI K (a 5) 10 (u 2), kZ K (a 6) 10 (u 3), kO (a 7) 0 [.ref (a 8), .ref (a 9), .int (nI ((τ.2.2 2).length))], kI K (a 8) 5 (u 4), kI K (a 9) 5 (u 5)] [.int (nI (mU (τ.2.2 0)))] rfl rfl rfl rfl ?_
    refine k_perm [3, 0, 1, 2, 4, 5, 6, 7, 8, 9] [kO (a 0) 1 [ah, .int (nI (τ.1 1)), .int (nI (τ.1 2)), .int (nI (τ.1 3)), .ref (a 1), .ref (a 4), .ref (a 7), .int (nI (τ.1 7)), .int (nI (τ.1 8)), .int (nI (τ.1 9)), .int (nI (τ.1 10)), .int (nI (τ.1 11)), .int (nI (τ.1 12)), .int (nI (τ.1 13)), .int (nI (τ.1 14)), .int (nI (τ.1 15)), .int (τ.2.1 0), .int (τ.2.1 1)], kO (a 1) 2 [.ref (a 2), .ref (a 3), .int (nI ((τ.2.2 0).length))], kI K (a 2) 10 (u 0), kZ K (a 3) 10 (u 1), kO (a 4) 2 [.ref (a 5), .ref (a 6), .int (nI ((τ.2.2 1).length))], kI K (a 5) 10 (u 2), kZ K (a 6) 10 (u 3), kO (a 7) 0 [.ref (a 8), .ref (a 9), .int (nI ((τ.2.2 2).length))], kI K (a 8) 5 (u 4), kI K (a 9) 5 (u 5)] rfl rfl ?_
    refine k_aload_n hC 0 dX1_unitsHeld_23 rfl rfl ?_
    refine k_get hC inlX1 0 5 rfl rfl (by decide) lkF_X1_41 rfl dX1_unitsHeld_24 ?_
    refine k_perm [4, 5, 6, 0, 1, 2, 3, 7, 8, 9] [kO (a 4) 2 [.ref (a 5), .ref (a 6), .int (nI ((τ.2.2 1).length))], kI K (a 5) 10 (u 2), kZ K (a 6) 10 (u 3), kO (a 0) 1 [ah, .int (nI (τ.1 1)), .int (nI (τ.1 2)), .int (nI (τ.1 3)), .ref (a 1), .ref (a 4), .ref (a 7), .int (nI (τ.1 7)), .int (nI (τ.1 8)), .int (nI (τ.1 9)), .int (nI (τ.1 10)), .int (nI (τ.1 11)), .int (nI (τ.1 12)), .int (nI (τ.1 13)), .int (nI (τ.1 14)), .int (nI (τ.1 15)), .int (τ.2.1 0), .int (τ.2.1 1)], kO (a 1) 2 [.ref (a 2), .ref (a 3), .int (nI ((τ.2.2 0).length))], kI K (a 2) 10 (u 0), kZ K (a 3) 10 (u 1), kO (a 7) 0 [.ref (a 8), .ref (a 9), .int (nI ((τ.2.2 2).length))], kI K (a 8) 5 (u 4), kI K (a 9) 5 (u 5)] rfl rfl ?_
    refine k_callVN hC (As := []) (cX2_allUnits_k l K (a 4) (a 5) (a 6) (u 2) (u 3) (τ.2.2 1) (by omega) hT.2.1) [kO (a 0) 1 [ah, .int (nI (τ.1 1)), .int (nI (τ.1 2)), .int (nI (τ.1 3)), .ref (a 1), .ref (a 4), .ref (a 7), .int (nI (τ.1 7)), .int (nI (τ.1 8)), .int (nI (τ.1 9)), .int (nI (τ.1 10)), .int (nI (τ.1 11)), .int (nI (τ.1 12)), .int (nI (τ.1 13)), .int (nI (τ.1 14)), .int (nI (τ.1 15)), .int (τ.2.1 0), .int (τ.2.1 1)], kO (a 1) 2 [.ref (a 2), .ref (a 3), .int (nI ((τ.2.2 0).length))], kI K (a 2) 10 (u 0), kZ K (a 3) 10 (u 1), kO (a 7) 0 [.ref (a 8), .ref (a 9), .int (nI ((τ.2.2 2).length))], kI K (a 8) 5 (u 4), kI K (a 9) 5 (u 5)] rfl 0 rfl rfl (kAll4 lkI_yX2_allUnits lkS_yX2_allUnits lkN_X2 lkC_yX2_allUnits) (List.mem_of_getElem? (i := 1) rfl) 0 (by decide) ⟨(Nat.le_of_ble_eq_true rfl), (Nat.le_of_ble_eq_true rfl)⟩ rfl rfl (Nat.le_of_ble_eq_true rfl) ⟨(Nat.le_of_ble_eq_true rfl), (Nat.le_of_ble_eq_true rfl)⟩ dX1_unitsHeld_27 (fun v w h => ?_)
    obtain ⟨rfl, rfl⟩ := h
    refine k_re 0 0 [kO (a 4) 2 [.ref (a 5), .ref (a 6), .int (nI ((τ.2.2 1).length))], kI K (a 5) 10 (u 2), kZ K (a 6) 10 (u 3), kO (a 0) 1 [ah, .int (nI (τ.1 1)), .int (nI (τ.1 2)), .int (nI (τ.1 3)), .ref (a 1), .ref (a 4), .ref (a 7), .int (nI (τ.1 7)), .int (nI (τ.1 8)), .int (nI (τ.1 9)), .int (nI (τ.1 10)), .int (nI (τ.1 11)), .int (nI (τ.1 12)), .int (nI (τ.1 13)), .int (nI (τ.1 14)), .int (nI (τ.1 15)), .int (τ.2.1 0), .int (τ.2.1 1)], kO (a 1) 2 [.ref (a 2), .ref (a 3), .int (nI ((τ.2.2 0).length))], kI K (a 2) 10 (u 0), kZ K (a 3) 10 (u 1), kO (a 7) 0 [.ref (a 8), .ref (a 9), .int (nI ((τ.2.2 2).length))], kI K (a 8) 5 (u 4), kI K (a 9) 5 (u 5)] [.int (nI (mU (τ.2.2 1))), .int (nI (mU (τ.2.2 0)))] rfl rfl rfl rfl ?_
    refine k_perm [3, 4, 5, 6, 0, 1, 2, 7, 8, 9] [kO (a 0) 1 [ah, .int (nI (τ.1 1)), .int (nI (τ.1 2)), .int (nI (τ.1 3)), .ref (a 1), .ref (a 4), .ref (a 7), .int (nI (τ.1 7)), .int (nI (τ.1 8)), .int (nI (τ.1 9)), .int (nI (τ.1 10)), .int (nI (τ.1 11)), .int (nI (τ.1 12)), .int (nI (τ.1 13)), .int (nI (τ.1 14)), .int (nI (τ.1 15)), .int (τ.2.1 0), .int (τ.2.1 1)], kO (a 1) 2 [.ref (a 2), .ref (a 3), .int (nI ((τ.2.2 0).length))], kI K (a 2) 10 (u 0), kZ K (a 3) 10 (u 1), kO (a 4) 2 [.ref (a 5), .ref (a 6), .int (nI ((τ.2.2 1).length))], kI K (a 5) 10 (u 2), kZ K (a 6) 10 (u 3), kO (a 7) 0 [.ref (a 8), .ref (a 9), .int (nI ((τ.2.2 2).length))], kI K (a 8) 5 (u 4), kI K (a 9) 5 (u 5)] rfl rfl ?_
    refine k_iaddN hC dX1_unitsHeld_30 ?_
    refine k_aload_n hC 0 dX1_unitsHeld_31 rfl rfl ?_
    refine k_get hC inlX1 0 6 rfl rfl (by decide) lkF_X1_47 rfl dX1_unitsHeld_32 ?_
    refine k_perm [7, 8, 9, 0, 1, 2, 3, 4, 5, 6] [kO (a 7) 0 [.ref (a 8), .ref (a 9), .int (nI ((τ.2.2 2).length))], kI K (a 8) 5 (u 4), kI K (a 9) 5 (u 5), kO (a 0) 1 [ah, .int (nI (τ.1 1)), .int (nI (τ.1 2)), .int (nI (τ.1 3)), .ref (a 1), .ref (a 4), .ref (a 7), .int (nI (τ.1 7)), .int (nI (τ.1 8)), .int (nI (τ.1 9)), .int (nI (τ.1 10)), .int (nI (τ.1 11)), .int (nI (τ.1 12)), .int (nI (τ.1 13)), .int (nI (τ.1 14)), .int (nI (τ.1 15)), .int (τ.2.1 0), .int (τ.2.1 1)], kO (a 1) 2 [.ref (a 2), .ref (a 3), .int (nI ((τ.2.2 0).length))], kI K (a 2) 10 (u 0), kZ K (a 3) 10 (u 1), kO (a 4) 2 [.ref (a 5), .ref (a 6), .int (nI ((τ.2.2 1).length))], kI K (a 5) 10 (u 2), kZ K (a 6) 10 (u 3)] rfl rfl ?_
    refine k_callVN hC (As := []) (cX0_allUnits_k l K (a 7) (a 8) (a 9) (u 4) (u 5) (τ.2.2 2) (by omega) hT.2.2) [kO (a 0) 1 [ah, .int (nI (τ.1 1)), .int (nI (τ.1 2)), .int (nI (τ.1 3)), .ref (a 1), .ref (a 4), .ref (a 7), .int (nI (τ.1 7)), .int (nI (τ.1 8)), .int (nI (τ.1 9)), .int (nI (τ.1 10)), .int (nI (τ.1 11)), .int (nI (τ.1 12)), .int (nI (τ.1 13)), .int (nI (τ.1 14)), .int (nI (τ.1 15)), .int (τ.2.1 0), .int (τ.2.1 1)], kO (a 1) 2 [.ref (a 2), .ref (a 3), .int (nI ((τ.2.2 0).length))], kI K (a 2) 10 (u 0), kZ K (a 3) 10 (u 1), kO (a 4) 2 [.ref (a 5), .ref (a 6), .int (nI ((τ.2.2 1).length))], kI K (a 5) 10 (u 2), kZ K (a 6) 10 (u 3)] rfl 0 rfl rfl (kAll4 lkI_yX0_allUnits lkS_yX0_allUnits lkN_X0 lkC_yX0_allUnits) (List.mem_of_getElem? (i := 2) rfl) 0 (by decide) ⟨(Nat.le_of_ble_eq_true rfl), (Nat.le_of_ble_eq_true rfl)⟩ rfl rfl (Nat.le_of_ble_eq_true rfl) ⟨(Nat.le_of_ble_eq_true rfl), (Nat.le_of_ble_eq_true rfl)⟩ dX1_unitsHeld_35 (fun v w h => ?_)
    obtain ⟨rfl, rfl⟩ := h
    refine k_re 0 0 [kO (a 7) 0 [.ref (a 8), .ref (a 9), .int (nI ((τ.2.2 2).length))], kI K (a 8) 5 (u 4), kI K (a 9) 5 (u 5), kO (a 0) 1 [ah, .int (nI (τ.1 1)), .int (nI (τ.1 2)), .int (nI (τ.1 3)), .ref (a 1), .ref (a 4), .ref (a 7), .int (nI (τ.1 7)), .int (nI (τ.1 8)), .int (nI (τ.1 9)), .int (nI (τ.1 10)), .int (nI (τ.1 11)), .int (nI (τ.1 12)), .int (nI (τ.1 13)), .int (nI (τ.1 14)), .int (nI (τ.1 15)), .int (τ.2.1 0), .int (τ.2.1 1)], kO (a 1) 2 [.ref (a 2), .ref (a 3), .int (nI ((τ.2.2 0).length))], kI K (a 2) 10 (u 0), kZ K (a 3) 10 (u 1), kO (a 4) 2 [.ref (a 5), .ref (a 6), .int (nI ((τ.2.2 1).length))], kI K (a 5) 10 (u 2), kZ K (a 6) 10 (u 3)] [.int (nI (mU (τ.2.2 2))), .int (nI ((mU (τ.2.2 0)) + (mU (τ.2.2 1))))] rfl rfl rfl rfl ?_
    refine k_perm [3, 4, 5, 6, 7, 8, 9, 0, 1, 2] [kO (a 0) 1 [ah, .int (nI (τ.1 1)), .int (nI (τ.1 2)), .int (nI (τ.1 3)), .ref (a 1), .ref (a 4), .ref (a 7), .int (nI (τ.1 7)), .int (nI (τ.1 8)), .int (nI (τ.1 9)), .int (nI (τ.1 10)), .int (nI (τ.1 11)), .int (nI (τ.1 12)), .int (nI (τ.1 13)), .int (nI (τ.1 14)), .int (nI (τ.1 15)), .int (τ.2.1 0), .int (τ.2.1 1)], kO (a 1) 2 [.ref (a 2), .ref (a 3), .int (nI ((τ.2.2 0).length))], kI K (a 2) 10 (u 0), kZ K (a 3) 10 (u 1), kO (a 4) 2 [.ref (a 5), .ref (a 6), .int (nI ((τ.2.2 1).length))], kI K (a 5) 10 (u 2), kZ K (a 6) 10 (u 3), kO (a 7) 0 [.ref (a 8), .ref (a 9), .int (nI ((τ.2.2 2).length))], kI K (a 8) 5 (u 4), kI K (a 9) 5 (u 5)] rfl rfl ?_
    refine k_iaddN hC dX1_unitsHeld_38 ?_
    refine k_iload_n hC 1 dX1_unitsHeld_39 rfl rfl ?_
    refine k_iaddN hC dX1_unitsHeld_40 ?_
    exact k_iret hC hE (Nat.le_of_ble_eq_true rfl) (Nat.le_of_ble_eq_true rfl) dX1_unitsHeld_41 ⟨by unfold mHeld; rw [if_neg c1], rfl⟩
end
section
/-! Stage.fetchFrom, convey, Stage() -/
abbrev rmX1_fetchFrom : Room := { frames := 1, cells := 0, slots := 0, locals := 22 }
set_option maxRecDepth 100000 in
set_option maxHeartbeats 4000000 in
theorem cX1_fetchFrom_k (l : Launch) (K : kE) (a b : Nat → Nat) (ah bh : Value) (τ α : mT) (u v : Nat → Nat → Int32) (bb : Bool) (hI : mInv false τ) (hI2 : mInv bb α) (hT : mRT τ u) (hT2 : mRT α v) (x : Nat × Nat) (t : List (Nat × Nat)) (hx : α.2.2 0 = x :: t) (hw : 1 ≤ τ.1 14) : kM l yX1_fetchFrom (kws yX1_fetchFrom cX1_fetchFrom 3 none) rmX1_fetchFrom K [.ref (a 0), .ref (b 0)] (wT K ah a τ u ++ wT K bh b α v) (fun v w => v = none ∧ ∃ u2 v2 : Nat → Nat → Int32, w = wT K ah a (mGet τ x) u2 ++ wT K bh b (mGive α x t) v2 ∧ mRT (mGet τ x) u2 ∧ mRT (mGive α x t) v2) := by
  refine kM_of (pl := []) (X := (wT K ah a τ u ++ wT K bh b α v)) rfl (by decide) (Nat.le_of_ble_eq_true rfl) ?_
  intro p e s m args below meth cd A Q hC hnm hE
  refine k_eX (show _ = [kO (a 0) 1 [ah, .int (nI (τ.1 1)), .int (nI (τ.1 2)), .int (nI (τ.1 3)), .ref (a 1), .ref (a 4), .ref (a 7), .int (nI (τ.1 7)), .int (nI (τ.1 8)), .int (nI (τ.1 9)), .int (nI (τ.1 10)), .int (nI (τ.1 11)), .int (nI (τ.1 12)), .int (nI (τ.1 13)), .int (nI (τ.1 14)), .int (nI (τ.1 15)), .int (τ.2.1 0), .int (τ.2.1 1)], kO (a 1) 2 [.ref (a 2), .ref (a 3), .int (nI ((τ.2.2 0).length))], kI K (a 2) 10 (u 0), kZ K (a 3) 10 (u 1), kO (a 4) 2 [.ref (a 5), .ref (a 6), .int (nI ((τ.2.2 1).length))], kI K (a 5) 10 (u 2), kZ K (a 6) 10 (u 3), kO (a 7) 0 [.ref (a 8), .ref (a 9), .int (nI ((τ.2.2 2).length))], kI K (a 8) 5 (u 4), kI K (a 9) 5 (u 5), kO (b 0) 1 [bh, .int (nI (α.1 1)), .int (nI (α.1 2)), .int (nI (α.1 3)), .ref (b 1), .ref (b 4), .ref (b 7), .int (nI (α.1 7)), .int (nI (α.1 8)), .int (nI (α.1 9)), .int (nI (α.1 10)), .int (nI (α.1 11)), .int (nI (α.1 12)), .int (nI (α.1 13)), .int (nI (α.1 14)), .int (nI (α.1 15)), .int (α.2.1 0), .int (α.2.1 1)], kO (b 1) 2 [.ref (b 2), .ref (b 3), .int (nI ((α.2.2 0).length))], kI K (b 2) 10 (v 0), kZ K (b 3) 10 (v 1), kO (b 4) 2 [.ref (b 5), .ref (b 6), .int (nI ((α.2.2 1).length))], kI K (b 5) 10 (v 2), kZ K (b 6) 10 (v 3), kO (b 7) 0 [.ref (b 8), .ref (b 9), .int (nI ((α.2.2 2).length))], kI K (b 8) 5 (v 4), kI K (b 9) 5 (v 5)] from rfl) ?_
  have pn := hI.1
  have pl0 := mInv_L0 hI
  have pl1 := mInv_L1 hI
  have pl2 := mInv_L2 hI
  have p9 : τ.1 9 ≤ 9 := by have := hI.2.1; omega
  have qn := hI2.1
  have ql0 := mInv_L0 hI2
  have ql1 := mInv_L1 hI2
  have ql2 := mInv_L2 hI2
  have q9 : α.1 9 ≤ 9 := by have := hI2.2.1; omega
  have hT20 := hT2.1
  have hk0 := hI2.2.2.2.1
  rw [hx] at hT20 hk0 ql0
  have ho := mOk_1 hk0 (List.mem_cons_self)
  refine k_eX (show _ = [kO (a 0) 1 [ah, .int (nI (τ.1 1)), .int (nI (τ.1 2)), .int (nI (τ.1 3)), .ref (a 1), .ref (a 4), .ref (a 7), .int (nI (τ.1 7)), .int (nI (τ.1 8)), .int (nI (τ.1 9)), .int (nI (τ.1 10)), .int (nI (τ.1 11)), .int (nI (τ.1 12)), .int (nI (τ.1 13)), .int (nI (τ.1 14)), .int (nI (τ.1 15)), .int (τ.2.1 0), .int (τ.2.1 1)], kO (a 1) 2 [.ref (a 2), .ref (a 3), .int (nI ((τ.2.2 0).length))], kI K (a 2) 10 (u 0), kZ K (a 3) 10 (u 1), kO (a 4) 2 [.ref (a 5), .ref (a 6), .int (nI ((τ.2.2 1).length))], kI K (a 5) 10 (u 2), kZ K (a 6) 10 (u 3), kO (a 7) 0 [.ref (a 8), .ref (a 9), .int (nI ((τ.2.2 2).length))], kI K (a 8) 5 (u 4), kI K (a 9) 5 (u 5), kO (b 0) 1 [bh, .int (nI (α.1 1)), .int (nI (α.1 2)), .int (nI (α.1 3)), .ref (b 1), .ref (b 4), .ref (b 7), .int (nI (α.1 7)), .int (nI (α.1 8)), .int (nI (α.1 9)), .int (nI (α.1 10)), .int (nI (α.1 11)), .int (nI (α.1 12)), .int (nI (α.1 13)), .int (nI (α.1 14)), .int (nI (α.1 15)), .int (α.2.1 0), .int (α.2.1 1)], kO (b 1) 2 [.ref (b 2), .ref (b 3), .int (nI ((x :: t).length))], kI K (b 2) 10 (v 0), kZ K (b 3) 10 (v 1), kO (b 4) 2 [.ref (b 5), .ref (b 6), .int (nI ((α.2.2 1).length))], kI K (b 5) 10 (v 2), kZ K (b 6) 10 (v 3), kO (b 7) 0 [.ref (b 8), .ref (b 9), .int (nI ((α.2.2 2).length))], kI K (b 8) 5 (v 4), kI K (b 9) 5 (v 5)] by rw [hx]) ?_
  refine k_aload_n hC 1 dX1_fetchFrom_0 rfl rfl ?_
  refine k_get hC inlX1 10 4 rfl rfl (by decide) lkF_X1_37 rfl dX1_fetchFrom_1 ?_
  refine k_perm [11, 12, 13, 0, 1, 2, 3, 4, 5, 6, 7, 8, 9, 10, 14, 15, 16, 17, 18, 19] [kO (b 1) 2 [.ref (b 2), .ref (b 3), .int (nI ((x :: t).length))], kI K (b 2) 10 (v 0), kZ K (b 3) 10 (v 1), kO (a 0) 1 [ah, .int (nI (τ.1 1)), .int (nI (τ.1 2)), .int (nI (τ.1 3)), .ref (a 1), .ref (a 4), .ref (a 7), .int (nI (τ.1 7)), .int (nI (τ.1 8)), .int (nI (τ.1 9)), .int (nI (τ.1 10)), .int (nI (τ.1 11)), .int (nI (τ.1 12)), .int (nI (τ.1 13)), .int (nI (τ.1 14)), .int (nI (τ.1 15)), .int (τ.2.1 0), .int (τ.2.1 1)], kO (a 1) 2 [.ref (a 2), .ref (a 3), .int (nI ((τ.2.2 0).length))], kI K (a 2) 10 (u 0), kZ K (a 3) 10 (u 1), kO (a 4) 2 [.ref (a 5), .ref (a 6), .int (nI ((τ.2.2 1).length))], kI K (a 5) 10 (u 2), kZ K (a 6) 10 (u 3), kO (a 7) 0 [.ref (a 8), .ref (a 9), .int (nI ((τ.2.2 2).length))], kI K (a 8) 5 (u 4), kI K (a 9) 5 (u 5), kO (b 0) 1 [bh, .int (nI (α.1 1)), .int (nI (α.1 2)), .int (nI (α.1 3)), .ref (b 1), .ref (b 4), .ref (b 7), .int (nI (α.1 7)), .int (nI (α.1 8)), .int (nI (α.1 9)), .int (nI (α.1 10)), .int (nI (α.1 11)), .int (nI (α.1 12)), .int (nI (α.1 13)), .int (nI (α.1 14)), .int (nI (α.1 15)), .int (α.2.1 0), .int (α.2.1 1)], kO (b 4) 2 [.ref (b 5), .ref (b 6), .int (nI ((α.2.2 1).length))], kI K (b 5) 10 (v 2), kZ K (b 6) 10 (v 3), kO (b 7) 0 [.ref (b 8), .ref (b 9), .int (nI ((α.2.2 2).length))], kI K (b 8) 5 (v 4), kI K (b 9) 5 (v 5)] rfl rfl ?_
  refine k_callVN hC (As := []) (cX2_headUnits_k l K (b 1) (b 2) (b 3) (v 0) (v 1) (x :: t) (by omega) hT20) [kO (a 0) 1 [ah, .int (nI (τ.1 1)), .int (nI (τ.1 2)), .int (nI (τ.1 3)), .ref (a 1), .ref (a 4), .ref (a 7), .int (nI (τ.1 7)), .int (nI (τ.1 8)), .int (nI (τ.1 9)), .int (nI (τ.1 10)), .int (nI (τ.1 11)), .int (nI (τ.1 12)), .int (nI (τ.1 13)), .int (nI (τ.1 14)), .int (nI (τ.1 15)), .int (τ.2.1 0), .int (τ.2.1 1)], kO (a 1) 2 [.ref (a 2), .ref (a 3), .int (nI ((τ.2.2 0).length))], kI K (a 2) 10 (u 0), kZ K (a 3) 10 (u 1), kO (a 4) 2 [.ref (a 5), .ref (a 6), .int (nI ((τ.2.2 1).length))], kI K (a 5) 10 (u 2), kZ K (a 6) 10 (u 3), kO (a 7) 0 [.ref (a 8), .ref (a 9), .int (nI ((τ.2.2 2).length))], kI K (a 8) 5 (u 4), kI K (a 9) 5 (u 5), kO (b 0) 1 [bh, .int (nI (α.1 1)), .int (nI (α.1 2)), .int (nI (α.1 3)), .ref (b 1), .ref (b 4), .ref (b 7), .int (nI (α.1 7)), .int (nI (α.1 8)), .int (nI (α.1 9)), .int (nI (α.1 10)), .int (nI (α.1 11)), .int (nI (α.1 12)), .int (nI (α.1 13)), .int (nI (α.1 14)), .int (nI (α.1 15)), .int (α.2.1 0), .int (α.2.1 1)], kO (b 4) 2 [.ref (b 5), .ref (b 6), .int (nI ((α.2.2 1).length))], kI K (b 5) 10 (v 2), kZ K (b 6) 10 (v 3), kO (b 7) 0 [.ref (b 8), .ref (b 9), .int (nI ((α.2.2 2).length))], kI K (b 8) 5 (v 4), kI K (b 9) 5 (v 5)] rfl 0 rfl rfl (kAll4 lkI_yX2_headUnits lkS_yX2_headUnits lkN_X2 lkC_yX2_headUnits) (List.mem_of_getElem? (i := 14) rfl) 0 (by decide) ⟨(Nat.le_of_ble_eq_true rfl), (Nat.le_of_ble_eq_true rfl)⟩ rfl rfl (Nat.le_of_ble_eq_true rfl) ⟨(Nat.le_of_ble_eq_true rfl), (Nat.le_of_ble_eq_true rfl)⟩ dX1_fetchFrom_4 (fun v w h => ?_)
  obtain ⟨rfl, rfl⟩ := h
  refine k_re 0 0 [kO (b 1) 2 [.ref (b 2), .ref (b 3), .int (nI ((x :: t).length))], kI K (b 2) 10 (v 0), kZ K (b 3) 10 (v 1), kO (a 0) 1 [ah, .int (nI (τ.1 1)), .int (nI (τ.1 2)), .int (nI (τ.1 3)), .ref (a 1), .ref (a 4), .ref (a 7), .int (nI (τ.1 7)), .int (nI (τ.1 8)), .int (nI (τ.1 9)), .int (nI (τ.1 10)), .int (nI (τ.1 11)), .int (nI (τ.1 12)), .int (nI (τ.1 13)), .int (nI (τ.1 14)), .int (nI (τ.1 15)), .int (τ.2.1 0), .int (τ.2.1 1)], kO (a 1) 2 [.ref (a 2), .ref (a 3), .int (nI ((τ.2.2 0).length))], kI K (a 2) 10 (u 0), kZ K (a 3) 10 (u 1), kO (a 4) 2 [.ref (a 5), .ref (a 6), .int (nI ((τ.2.2 1).length))], kI K (a 5) 10 (u 2), kZ K (a 6) 10 (u 3), kO (a 7) 0 [.ref (a 8), .ref (a 9), .int (nI ((τ.2.2 2).length))], kI K (a 8) 5 (u 4), kI K (a 9) 5 (u 5), kO (b 0) 1 [bh, .int (nI (α.1 1)), .int (nI (α.1 2)), .int (nI (α.1 3)), .ref (b 1), .ref (b 4), .ref (b 7), .int (nI (α.1 7)), .int (nI (α.1 8)), .int (nI (α.1 9)), .int (nI (α.1 10)), .int (nI (α.1 11)), .int (nI (α.1 12)), .int (nI (α.1 13)), .int (nI (α.1 14)), .int (nI (α.1 15)), .int (α.2.1 0), .int (α.2.1 1)], kO (b 4) 2 [.ref (b 5), .ref (b 6), .int (nI ((α.2.2 1).length))], kI K (b 5) 10 (v 2), kZ K (b 6) 10 (v 3), kO (b 7) 0 [.ref (b 8), .ref (b 9), .int (nI ((α.2.2 2).length))], kI K (b 8) 5 (v 4), kI K (b 9) 5 (v 5)] [.int (nI x.1)] rfl rfl rfl rfl ?_
  refine k_perm [3, 4, 5, 6, 7, 8, 9, 10, 11, 12, 13, 0, 1, 2, 14, 15, 16, 17, 18, 19] [kO (a 0) 1 [ah, .int (nI (τ.1 1)), .int (nI (τ.1 2)), .int (nI (τ.1 3)), .ref (a 1), .ref (a 4), .ref (a 7), .int (nI (τ.1 7)), .int (nI (τ.1 8)), .int (nI (τ.1 9)), .int (nI (τ.1 10)), .int (nI (τ.1 11)), .int (nI (τ.1 12)), .int (nI (τ.1 13)), .int (nI (τ.1 14)), .int (nI (τ.1 15)), .int (τ.2.1 0), .int (τ.2.1 1)], kO (a 1) 2 [.ref (a 2), .ref (a 3), .int (nI ((τ.2.2 0).length))], kI K (a 2) 10 (u 0), kZ K (a 3) 10 (u 1), kO (a 4) 2 [.ref (a 5), .ref (a 6), .int (nI ((τ.2.2 1).length))], kI K (a 5) 10 (u 2), kZ K (a 6) 10 (u 3), kO (a 7) 0 [.ref (a 8), .ref (a 9), .int (nI ((τ.2.2 2).length))], kI K (a 8) 5 (u 4), kI K (a 9) 5 (u 5), kO (b 0) 1 [bh, .int (nI (α.1 1)), .int (nI (α.1 2)), .int (nI (α.1 3)), .ref (b 1), .ref (b 4), .ref (b 7), .int (nI (α.1 7)), .int (nI (α.1 8)), .int (nI (α.1 9)), .int (nI (α.1 10)), .int (nI (α.1 11)), .int (nI (α.1 12)), .int (nI (α.1 13)), .int (nI (α.1 14)), .int (nI (α.1 15)), .int (α.2.1 0), .int (α.2.1 1)], kO (b 1) 2 [.ref (b 2), .ref (b 3), .int (nI ((x :: t).length))], kI K (b 2) 10 (v 0), kZ K (b 3) 10 (v 1), kO (b 4) 2 [.ref (b 5), .ref (b 6), .int (nI ((α.2.2 1).length))], kI K (b 5) 10 (v 2), kZ K (b 6) 10 (v 3), kO (b 7) 0 [.ref (b 8), .ref (b 9), .int (nI ((α.2.2 2).length))], kI K (b 8) 5 (v 4), kI K (b 9) 5 (v 5)] rfl rfl ?_
  refine k_istore_n hC 2 dX1_fetchFrom_7 rfl (by decide) rfl [(0, .ref (a 0)), (1, .ref (b 0)), (2, .int (nI x.1))] rfl ?_
  refine k_aload_n hC 1 dX1_fetchFrom_8 rfl rfl ?_
  refine k_get hC inlX1 10 4 rfl rfl (by decide) lkF_X1_37 rfl dX1_fetchFrom_9 ?_
  refine k_perm [11, 12, 13, 0, 1, 2, 3, 4, 5, 6, 7, 8, 9, 10, 14, 15, 16, 17, 18, 19] [kO (b 1) 2 [.ref (b 2), .ref (b 3), .int (nI ((x :: t).length))], kI K (b 2) 10 (v 0), kZ K (b 3) 10 (v 1), kO (a 0) 1 [ah, .int (nI (τ.1 1)), .int (nI (τ.1 2)), .int (nI (τ.1 3)), .ref (a 1), .ref (a 4), .ref (a 7), .int (nI (τ.1 7)), .int (nI (τ.1 8)), .int (nI (τ.1 9)), .int (nI (τ.1 10)), .int (nI (τ.1 11)), .int (nI (τ.1 12)), .int (nI (τ.1 13)), .int (nI (τ.1 14)), .int (nI (τ.1 15)), .int (τ.2.1 0), .int (τ.2.1 1)], kO (a 1) 2 [.ref (a 2), .ref (a 3), .int (nI ((τ.2.2 0).length))], kI K (a 2) 10 (u 0), kZ K (a 3) 10 (u 1), kO (a 4) 2 [.ref (a 5), .ref (a 6), .int (nI ((τ.2.2 1).length))], kI K (a 5) 10 (u 2), kZ K (a 6) 10 (u 3), kO (a 7) 0 [.ref (a 8), .ref (a 9), .int (nI ((τ.2.2 2).length))], kI K (a 8) 5 (u 4), kI K (a 9) 5 (u 5), kO (b 0) 1 [bh, .int (nI (α.1 1)), .int (nI (α.1 2)), .int (nI (α.1 3)), .ref (b 1), .ref (b 4), .ref (b 7), .int (nI (α.1 7)), .int (nI (α.1 8)), .int (nI (α.1 9)), .int (nI (α.1 10)), .int (nI (α.1 11)), .int (nI (α.1 12)), .int (nI (α.1 13)), .int (nI (α.1 14)), .int (nI (α.1 15)), .int (α.2.1 0), .int (α.2.1 1)], kO (b 4) 2 [.ref (b 5), .ref (b 6), .int (nI ((α.2.2 1).length))], kI K (b 5) 10 (v 2), kZ K (b 6) 10 (v 3), kO (b 7) 0 [.ref (b 8), .ref (b 9), .int (nI ((α.2.2 2).length))], kI K (b 8) 5 (v 4), kI K (b 9) 5 (v 5)] rfl rfl ?_
  refine k_callVN hC (As := []) (cX2_headIsCarded_k l K (b 1) (b 2) (b 3) (v 0) (v 1) (x :: t) (by omega) hT20 (mOk_le1 hk0)) [kO (a 0) 1 [ah, .int (nI (τ.1 1)), .int (nI (τ.1 2)), .int (nI (τ.1 3)), .ref (a 1), .ref (a 4), .ref (a 7), .int (nI (τ.1 7)), .int (nI (τ.1 8)), .int (nI (τ.1 9)), .int (nI (τ.1 10)), .int (nI (τ.1 11)), .int (nI (τ.1 12)), .int (nI (τ.1 13)), .int (nI (τ.1 14)), .int (nI (τ.1 15)), .int (τ.2.1 0), .int (τ.2.1 1)], kO (a 1) 2 [.ref (a 2), .ref (a 3), .int (nI ((τ.2.2 0).length))], kI K (a 2) 10 (u 0), kZ K (a 3) 10 (u 1), kO (a 4) 2 [.ref (a 5), .ref (a 6), .int (nI ((τ.2.2 1).length))], kI K (a 5) 10 (u 2), kZ K (a 6) 10 (u 3), kO (a 7) 0 [.ref (a 8), .ref (a 9), .int (nI ((τ.2.2 2).length))], kI K (a 8) 5 (u 4), kI K (a 9) 5 (u 5), kO (b 0) 1 [bh, .int (nI (α.1 1)), .int (nI (α.1 2)), .int (nI (α.1 3)), .ref (b 1), .ref (b 4), .ref (b 7), .int (nI (α.1 7)), .int (nI (α.1 8)), .int (nI (α.1 9)), .int (nI (α.1 10)), .int (nI (α.1 11)), .int (nI (α.1 12)), .int (nI (α.1 13)), .int (nI (α.1 14)), .int (nI (α.1 15)), .int (α.2.1 0), .int (α.2.1 1)], kO (b 4) 2 [.ref (b 5), .ref (b 6), .int (nI ((α.2.2 1).length))], kI K (b 5) 10 (v 2), kZ K (b 6) 10 (v 3), kO (b 7) 0 [.ref (b 8), .ref (b 9), .int (nI ((α.2.2 2).length))], kI K (b 8) 5 (v 4), kI K (b 9) 5 (v 5)] rfl 0 rfl rfl (kAll4 lkI_yX2_headIsCarded lkS_yX2_headIsCarded lkN_X2 lkC_yX2_headIsCarded) (List.mem_of_getElem? (i := 15) rfl) 0 (by decide) ⟨(Nat.le_of_ble_eq_true rfl), (Nat.le_of_ble_eq_true rfl)⟩ rfl rfl (Nat.le_of_ble_eq_true rfl) ⟨(Nat.le_of_ble_eq_true rfl), (Nat.le_of_ble_eq_true rfl)⟩ dX1_fetchFrom_12 (fun v w h => ?_)
  obtain ⟨rfl, rfl⟩ := h
  refine k_re 0 0 [kO (b 1) 2 [.ref (b 2), .ref (b 3), .int (nI ((x :: t).length))], kI K (b 2) 10 (v 0), kZ K (b 3) 10 (v 1), kO (a 0) 1 [ah, .int (nI (τ.1 1)), .int (nI (τ.1 2)), .int (nI (τ.1 3)), .ref (a 1), .ref (a 4), .ref (a 7), .int (nI (τ.1 7)), .int (nI (τ.1 8)), .int (nI (τ.1 9)), .int (nI (τ.1 10)), .int (nI (τ.1 11)), .int (nI (τ.1 12)), .int (nI (τ.1 13)), .int (nI (τ.1 14)), .int (nI (τ.1 15)), .int (τ.2.1 0), .int (τ.2.1 1)], kO (a 1) 2 [.ref (a 2), .ref (a 3), .int (nI ((τ.2.2 0).length))], kI K (a 2) 10 (u 0), kZ K (a 3) 10 (u 1), kO (a 4) 2 [.ref (a 5), .ref (a 6), .int (nI ((τ.2.2 1).length))], kI K (a 5) 10 (u 2), kZ K (a 6) 10 (u 3), kO (a 7) 0 [.ref (a 8), .ref (a 9), .int (nI ((τ.2.2 2).length))], kI K (a 8) 5 (u 4), kI K (a 9) 5 (u 5), kO (b 0) 1 [bh, .int (nI (α.1 1)), .int (nI (α.1 2)), .int (nI (α.1 3)), .ref (b 1), .ref (b 4), .ref (b 7), .int (nI (α.1 7)), .int (nI (α.1 8)), .int (nI (α.1 9)), .int (nI (α.1 10)), .int (nI (α.1 11)), .int (nI (α.1 12)), .int (nI (α.1 13)), .int (nI (α.1 14)), .int (nI (α.1 15)), .int (α.2.1 0), .int (α.2.1 1)], kO (b 4) 2 [.ref (b 5), .ref (b 6), .int (nI ((α.2.2 1).length))], kI K (b 5) 10 (v 2), kZ K (b 6) 10 (v 3), kO (b 7) 0 [.ref (b 8), .ref (b 9), .int (nI ((α.2.2 2).length))], kI K (b 8) 5 (v 4), kI K (b 9) 5 (v 5)] [.int (nI x.2)] rfl rfl rfl rfl ?_
  refine k_perm [3, 4, 5, 6, 7, 8, 9, 10, 11, 12, 13, 0, 1, 2, 14, 15, 16, 17, 18, 19] [kO (a 0) 1 [ah, .int (nI (τ.1 1)), .int (nI (τ.1 2)), .int (nI (τ.1 3)), .ref (a 1), .ref (a 4), .ref (a 7), .int (nI (τ.1 7)), .int (nI (τ.1 8)), .int (nI (τ.1 9)), .int (nI (τ.1 10)), .int (nI (τ.1 11)), .int (nI (τ.1 12)), .int (nI (τ.1 13)), .int (nI (τ.1 14)), .int (nI (τ.1 15)), .int (τ.2.1 0), .int (τ.2.1 1)], kO (a 1) 2 [.ref (a 2), .ref (a 3), .int (nI ((τ.2.2 0).length))], kI K (a 2) 10 (u 0), kZ K (a 3) 10 (u 1), kO (a 4) 2 [.ref (a 5), .ref (a 6), .int (nI ((τ.2.2 1).length))], kI K (a 5) 10 (u 2), kZ K (a 6) 10 (u 3), kO (a 7) 0 [.ref (a 8), .ref (a 9), .int (nI ((τ.2.2 2).length))], kI K (a 8) 5 (u 4), kI K (a 9) 5 (u 5), kO (b 0) 1 [bh, .int (nI (α.1 1)), .int (nI (α.1 2)), .int (nI (α.1 3)), .ref (b 1), .ref (b 4), .ref (b 7), .int (nI (α.1 7)), .int (nI (α.1 8)), .int (nI (α.1 9)), .int (nI (α.1 10)), .int (nI (α.1 11)), .int (nI (α.1 12)), .int (nI (α.1 13)), .int (nI (α.1 14)), .int (nI (α.1 15)), .int (α.2.1 0), .int (α.2.1 1)], kO (b 1) 2 [.ref (b 2), .ref (b 3), .int (nI ((x :: t).length))], kI K (b 2) 10 (v 0), kZ K (b 3) 10 (v 1), kO (b 4) 2 [.ref (b 5), .ref (b 6), .int (nI ((α.2.2 1).length))], kI K (b 5) 10 (v 2), kZ K (b 6) 10 (v 3), kO (b 7) 0 [.ref (b 8), .ref (b 9), .int (nI ((α.2.2 2).length))], kI K (b 8) 5 (v 4), kI K (b 9) 5 (v 5)] rfl rfl ?_
  have j28 : kW p l e rmX1_fetchFrom s m args below meth cd K A 3 Q 0 0 ([]) [kO (a 0) 1 [ah, .int (nI (τ.1 1)), .int (nI (τ.1 2)), .int (nI (τ.1 3)), .ref (a 1), .ref (a 4), .ref (a 7), .int (nI (τ.1 7)), .int (nI (τ.1 8)), .int (nI (τ.1 9)), .int (nI (τ.1 10)), .int (nI (τ.1 11)), .int (nI (τ.1 12)), .int (nI (τ.1 13)), .int (nI (τ.1 14)), .int (nI (τ.1 15)), .int (τ.2.1 0), .int (τ.2.1 1)], kO (a 1) 2 [.ref (a 2), .ref (a 3), .int (nI ((τ.2.2 0).length))], kI K (a 2) 10 (u 0), kZ K (a 3) 10 (u 1), kO (a 4) 2 [.ref (a 5), .ref (a 6), .int (nI ((τ.2.2 1).length))], kI K (a 5) 10 (u 2), kZ K (a 6) 10 (u 3), kO (a 7) 0 [.ref (a 8), .ref (a 9), .int (nI ((τ.2.2 2).length))], kI K (a 8) 5 (u 4), kI K (a 9) 5 (u 5), kO (b 0) 1 [bh, .int (nI (α.1 1)), .int (nI (α.1 2)), .int (nI (α.1 3)), .ref (b 1), .ref (b 4), .ref (b 7), .int (nI (α.1 7)), .int (nI (α.1 8)), .int (nI (α.1 9 + x.2)), .int (nI (α.1 10)), .int (nI (α.1 11)), .int (nI (α.1 12)), .int (nI (α.1 13)), .int (nI (α.1 14)), .int (nI (α.1 15)), .int (α.2.1 0), .int (α.2.1 1)], kO (b 1) 2 [.ref (b 2), .ref (b 3), .int (nI ((x :: t).length))], kI K (b 2) 10 (v 0), kZ K (b 3) 10 (v 1), kO (b 4) 2 [.ref (b 5), .ref (b 6), .int (nI ((α.2.2 1).length))], kI K (b 5) 10 (v 2), kZ K (b 6) 10 (v 3), kO (b 7) 0 [.ref (b 8), .ref (b 9), .int (nI ((α.2.2 2).length))], kI K (b 8) 5 (v 4), kI K (b 9) 5 (v 5)] [(0, .ref (a 0)), (1, .ref (b 0)), (2, .int (nI x.1))] 28 [] := by
    refine k_aload_n hC 1 dX1_fetchFrom_28 rfl rfl ?_
    refine k_get hC inlX1 10 4 rfl rfl (by decide) lkF_X1_37 rfl dX1_fetchFrom_29 ?_
    refine k_perm [11, 12, 13, 0, 1, 2, 3, 4, 5, 6, 7, 8, 9, 10, 14, 15, 16, 17, 18, 19] [kO (b 1) 2 [.ref (b 2), .ref (b 3), .int (nI ((x :: t).length))], kI K (b 2) 10 (v 0), kZ K (b 3) 10 (v 1), kO (a 0) 1 [ah, .int (nI (τ.1 1)), .int (nI (τ.1 2)), .int (nI (τ.1 3)), .ref (a 1), .ref (a 4), .ref (a 7), .int (nI (τ.1 7)), .int (nI (τ.1 8)), .int (nI (τ.1 9)), .int (nI (τ.1 10)), .int (nI (τ.1 11)), .int (nI (τ.1 12)), .int (nI (τ.1 13)), .int (nI (τ.1 14)), .int (nI (τ.1 15)), .int (τ.2.1 0), .int (τ.2.1 1)], kO (a 1) 2 [.ref (a 2), .ref (a 3), .int (nI ((τ.2.2 0).length))], kI K (a 2) 10 (u 0), kZ K (a 3) 10 (u 1), kO (a 4) 2 [.ref (a 5), .ref (a 6), .int (nI ((τ.2.2 1).length))], kI K (a 5) 10 (u 2), kZ K (a 6) 10 (u 3), kO (a 7) 0 [.ref (a 8), .ref (a 9), .int (nI ((τ.2.2 2).length))], kI K (a 8) 5 (u 4), kI K (a 9) 5 (u 5), kO (b 0) 1 [bh, .int (nI (α.1 1)), .int (nI (α.1 2)), .int (nI (α.1 3)), .ref (b 1), .ref (b 4), .ref (b 7), .int (nI (α.1 7)), .int (nI (α.1 8)), .int (nI (α.1 9 + x.2)), .int (nI (α.1 10)), .int (nI (α.1 11)), .int (nI (α.1 12)), .int (nI (α.1 13)), .int (nI (α.1 14)), .int (nI (α.1 15)), .int (α.2.1 0), .int (α.2.1 1)], kO (b 4) 2 [.ref (b 5), .ref (b 6), .int (nI ((α.2.2 1).length))], kI K (b 5) 10 (v 2), kZ K (b 6) 10 (v 3), kO (b 7) 0 [.ref (b 8), .ref (b 9), .int (nI ((α.2.2 2).length))], kI K (b 8) 5 (v 4), kI K (b 9) 5 (v 5)] rfl rfl ?_
    refine k_callVN hC (As := []) (cX2_removeHead_k l K (b 1) (b 2) (b 3) (v 0) (v 1) x t (by omega) hT20 (mOk_le1 hk0)) [kO (a 0) 1 [ah, .int (nI (τ.1 1)), .int (nI (τ.1 2)), .int (nI (τ.1 3)), .ref (a 1), .ref (a 4), .ref (a 7), .int (nI (τ.1 7)), .int (nI (τ.1 8)), .int (nI (τ.1 9)), .int (nI (τ.1 10)), .int (nI (τ.1 11)), .int (nI (τ.1 12)), .int (nI (τ.1 13)), .int (nI (τ.1 14)), .int (nI (τ.1 15)), .int (τ.2.1 0), .int (τ.2.1 1)], kO (a 1) 2 [.ref (a 2), .ref (a 3), .int (nI ((τ.2.2 0).length))], kI K (a 2) 10 (u 0), kZ K (a 3) 10 (u 1), kO (a 4) 2 [.ref (a 5), .ref (a 6), .int (nI ((τ.2.2 1).length))], kI K (a 5) 10 (u 2), kZ K (a 6) 10 (u 3), kO (a 7) 0 [.ref (a 8), .ref (a 9), .int (nI ((τ.2.2 2).length))], kI K (a 8) 5 (u 4), kI K (a 9) 5 (u 5), kO (b 0) 1 [bh, .int (nI (α.1 1)), .int (nI (α.1 2)), .int (nI (α.1 3)), .ref (b 1), .ref (b 4), .ref (b 7), .int (nI (α.1 7)), .int (nI (α.1 8)), .int (nI (α.1 9 + x.2)), .int (nI (α.1 10)), .int (nI (α.1 11)), .int (nI (α.1 12)), .int (nI (α.1 13)), .int (nI (α.1 14)), .int (nI (α.1 15)), .int (α.2.1 0), .int (α.2.1 1)], kO (b 4) 2 [.ref (b 5), .ref (b 6), .int (nI ((α.2.2 1).length))], kI K (b 5) 10 (v 2), kZ K (b 6) 10 (v 3), kO (b 7) 0 [.ref (b 8), .ref (b 9), .int (nI ((α.2.2 2).length))], kI K (b 8) 5 (v 4), kI K (b 9) 5 (v 5)] rfl 0 rfl rfl (kAll4 lkI_yX2_removeHead lkS_yX2_removeHead lkN_X2 lkC_yX2_removeHead) (List.mem_of_getElem? (i := 16) rfl) 0 (by decide) ⟨(Nat.le_of_ble_eq_true rfl), (Nat.le_of_ble_eq_true rfl)⟩ rfl rfl (Nat.le_of_ble_eq_true rfl) ⟨(Nat.le_of_ble_eq_true rfl), (Nat.le_of_ble_eq_true rfl)⟩ dX1_fetchFrom_32 (fun v w h => ?_)
    obtain ⟨rfl, v3, c3, rfl, hR3⟩ := h
    refine k_re 0 0 [kO (b 1) 2 [.ref (b 2), .ref (b 3), .int (nI t.length)], kI K (b 2) 10 v3, kZ K (b 3) 10 c3, kO (a 0) 1 [ah, .int (nI (τ.1 1)), .int (nI (τ.1 2)), .int (nI (τ.1 3)), .ref (a 1), .ref (a 4), .ref (a 7), .int (nI (τ.1 7)), .int (nI (τ.1 8)), .int (nI (τ.1 9)), .int (nI (τ.1 10)), .int (nI (τ.1 11)), .int (nI (τ.1 12)), .int (nI (τ.1 13)), .int (nI (τ.1 14)), .int (nI (τ.1 15)), .int (τ.2.1 0), .int (τ.2.1 1)], kO (a 1) 2 [.ref (a 2), .ref (a 3), .int (nI ((τ.2.2 0).length))], kI K (a 2) 10 (u 0), kZ K (a 3) 10 (u 1), kO (a 4) 2 [.ref (a 5), .ref (a 6), .int (nI ((τ.2.2 1).length))], kI K (a 5) 10 (u 2), kZ K (a 6) 10 (u 3), kO (a 7) 0 [.ref (a 8), .ref (a 9), .int (nI ((τ.2.2 2).length))], kI K (a 8) 5 (u 4), kI K (a 9) 5 (u 5), kO (b 0) 1 [bh, .int (nI (α.1 1)), .int (nI (α.1 2)), .int (nI (α.1 3)), .ref (b 1), .ref (b 4), .ref (b 7), .int (nI (α.1 7)), .int (nI (α.1 8)), .int (nI (α.1 9 + x.2)), .int (nI (α.1 10)), .int (nI (α.1 11)), .int (nI (α.1 12)), .int (nI (α.1 13)), .int (nI (α.1 14)), .int (nI (α.1 15)), .int (α.2.1 0), .int (α.2.1 1)], kO (b 4) 2 [.ref (b 5), .ref (b 6), .int (nI ((α.2.2 1).length))], kI K (b 5) 10 (v 2), kZ K (b 6) 10 (v 3), kO (b 7) 0 [.ref (b 8), .ref (b 9), .int (nI ((α.2.2 2).length))], kI K (b 8) 5 (v 4), kI K (b 9) 5 (v 5)] [] rfl rfl rfl rfl ?_
    refine k_perm [3, 4, 5, 6, 7, 8, 9, 10, 11, 12, 13, 0, 1, 2, 14, 15, 16, 17, 18, 19] [kO (a 0) 1 [ah, .int (nI (τ.1 1)), .int (nI (τ.1 2)), .int (nI (τ.1 3)), .ref (a 1), .ref (a 4), .ref (a 7), .int (nI (τ.1 7)), .int (nI (τ.1 8)), .int (nI (τ.1 9)), .int (nI (τ.1 10)), .int (nI (τ.1 11)), .int (nI (τ.1 12)), .int (nI (τ.1 13)), .int (nI (τ.1 14)), .int (nI (τ.1 15)), .int (τ.2.1 0), .int (τ.2.1 1)], kO (a 1) 2 [.ref (a 2), .ref (a 3), .int (nI ((τ.2.2 0).length))], kI K (a 2) 10 (u 0), kZ K (a 3) 10 (u 1), kO (a 4) 2 [.ref (a 5), .ref (a 6), .int (nI ((τ.2.2 1).length))], kI K (a 5) 10 (u 2), kZ K (a 6) 10 (u 3), kO (a 7) 0 [.ref (a 8), .ref (a 9), .int (nI ((τ.2.2 2).length))], kI K (a 8) 5 (u 4), kI K (a 9) 5 (u 5), kO (b 0) 1 [bh, .int (nI (α.1 1)), .int (nI (α.1 2)), .int (nI (α.1 3)), .ref (b 1), .ref (b 4), .ref (b 7), .int (nI (α.1 7)), .int (nI (α.1 8)), .int (nI (α.1 9 + x.2)), .int (nI (α.1 10)), .int (nI (α.1 11)), .int (nI (α.1 12)), .int (nI (α.1 13)), .int (nI (α.1 14)), .int (nI (α.1 15)), .int (α.2.1 0), .int (α.2.1 1)], kO (b 1) 2 [.ref (b 2), .ref (b 3), .int (nI t.length)], kI K (b 2) 10 v3, kZ K (b 3) 10 c3, kO (b 4) 2 [.ref (b 5), .ref (b 6), .int (nI ((α.2.2 1).length))], kI K (b 5) 10 (v 2), kZ K (b 6) 10 (v 3), kO (b 7) 0 [.ref (b 8), .ref (b 9), .int (nI ((α.2.2 2).length))], kI K (b 8) 5 (v 4), kI K (b 9) 5 (v 5)] rfl rfl ?_
    refine k_aload_n hC 0 dX1_fetchFrom_35 rfl rfl ?_
    refine k_dup hC dX1_fetchFrom_36 rfl ?_
    refine k_get hC inlX1 0 14 rfl rfl (by decide) lkF_X1_54 rfl dX1_fetchFrom_37 ?_
    refine k_iconst hC (nI 1) dX1_fetchFrom_40 rfl ?_
    refine k_isubN hC dX1_fetchFrom_41 (by omega) ?_
    refine k_put hC inlX1 tyX1_ok nmX1 0 14 rfl rfl (by decide) lkF_X1_54 rfl rfl rfl (Nat.le_of_ble_eq_true rfl) dX1_fetchFrom_42 [kO (a 0) 1 [ah, .int (nI (τ.1 1)), .int (nI (τ.1 2)), .int (nI (τ.1 3)), .ref (a 1), .ref (a 4), .ref (a 7), .int (nI (τ.1 7)), .int (nI (τ.1 8)), .int (nI (τ.1 9)), .int (nI (τ.1 10)), .int (nI (τ.1 11)), .int (nI (τ.1 12)), .int (nI (τ.1 13)), .int (nI ((τ.1 14) - 1)), .int (nI (τ.1 15)), .int (τ.2.1 0), .int (τ.2.1 1)], kO (a 1) 2 [.ref (a 2), .ref (a 3), .int (nI ((τ.2.2 0).length))], kI K (a 2) 10 (u 0), kZ K (a 3) 10 (u 1), kO (a 4) 2 [.ref (a 5), .ref (a 6), .int (nI ((τ.2.2 1).length))], kI K (a 5) 10 (u 2), kZ K (a 6) 10 (u 3), kO (a 7) 0 [.ref (a 8), .ref (a 9), .int (nI ((τ.2.2 2).length))], kI K (a 8) 5 (u 4), kI K (a 9) 5 (u 5), kO (b 0) 1 [bh, .int (nI (α.1 1)), .int (nI (α.1 2)), .int (nI (α.1 3)), .ref (b 1), .ref (b 4), .ref (b 7), .int (nI (α.1 7)), .int (nI (α.1 8)), .int (nI (α.1 9 + x.2)), .int (nI (α.1 10)), .int (nI (α.1 11)), .int (nI (α.1 12)), .int (nI (α.1 13)), .int (nI (α.1 14)), .int (nI (α.1 15)), .int (α.2.1 0), .int (α.2.1 1)], kO (b 1) 2 [.ref (b 2), .ref (b 3), .int (nI t.length)], kI K (b 2) 10 v3, kZ K (b 3) 10 c3, kO (b 4) 2 [.ref (b 5), .ref (b 6), .int (nI ((α.2.2 1).length))], kI K (b 5) 10 (v 2), kZ K (b 6) 10 (v 3), kO (b 7) 0 [.ref (b 8), .ref (b 9), .int (nI ((α.2.2 2).length))], kI K (b 8) 5 (v 4), kI K (b 9) 5 (v 5)] rfl ?_
    refine k_aload_n hC 0 dX1_fetchFrom_45 rfl rfl ?_
    refine k_get hC inlX1 0 15 rfl rfl (by decide) lkF_X1_120 rfl dX1_fetchFrom_46 ?_
    refine k_if_neN hC 63 dX1_fetchFrom_49 (by decide) (by omega) (fun c1 => ?_) (fun c1 => ?_)
    · refine k_aload_n hC 0 dX1_fetchFrom_63 rfl rfl ?_
      refine k_get hC inlX1 0 6 rfl rfl (by decide) lkF_X1_47 rfl dX1_fetchFrom_64 ?_
      refine k_iload_n hC 2 dX1_fetchFrom_67 rfl rfl ?_
      refine k_aload_n hC 0 dX1_fetchFrom_68 rfl rfl ?_
      refine k_get hC inlX1 0 15 rfl rfl (by decide) lkF_X1_120 rfl dX1_fetchFrom_69 ?_
      refine k_perm [7, 8, 9, 0, 1, 2, 3, 4, 5, 6, 10, 11, 12, 13, 14, 15, 16, 17, 18, 19] [kO (a 7) 0 [.ref (a 8), .ref (a 9), .int (nI ((τ.2.2 2).length))], kI K (a 8) 5 (u 4), kI K (a 9) 5 (u 5), kO (a 0) 1 [ah, .int (nI (τ.1 1)), .int (nI (τ.1 2)), .int (nI (τ.1 3)), .ref (a 1), .ref (a 4), .ref (a 7), .int (nI (τ.1 7)), .int (nI (τ.1 8)), .int (nI (τ.1 9)), .int (nI (τ.1 10)), .int (nI (τ.1 11)), .int (nI (τ.1 12)), .int (nI (τ.1 13)), .int (nI ((τ.1 14) - 1)), .int (nI (τ.1 15)), .int (τ.2.1 0), .int (τ.2.1 1)], kO (a 1) 2 [.ref (a 2), .ref (a 3), .int (nI ((τ.2.2 0).length))], kI K (a 2) 10 (u 0), kZ K (a 3) 10 (u 1), kO (a 4) 2 [.ref (a 5), .ref (a 6), .int (nI ((τ.2.2 1).length))], kI K (a 5) 10 (u 2), kZ K (a 6) 10 (u 3), kO (b 0) 1 [bh, .int (nI (α.1 1)), .int (nI (α.1 2)), .int (nI (α.1 3)), .ref (b 1), .ref (b 4), .ref (b 7), .int (nI (α.1 7)), .int (nI (α.1 8)), .int (nI (α.1 9 + x.2)), .int (nI (α.1 10)), .int (nI (α.1 11)), .int (nI (α.1 12)), .int (nI (α.1 13)), .int (nI (α.1 14)), .int (nI (α.1 15)), .int (α.2.1 0), .int (α.2.1 1)], kO (b 1) 2 [.ref (b 2), .ref (b 3), .int (nI t.length)], kI K (b 2) 10 v3, kZ K (b 3) 10 c3, kO (b 4) 2 [.ref (b 5), .ref (b 6), .int (nI ((α.2.2 1).length))], kI K (b 5) 10 (v 2), kZ K (b 6) 10 (v 3), kO (b 7) 0 [.ref (b 8), .ref (b 9), .int (nI ((α.2.2 2).length))], kI K (b 8) 5 (v 4), kI K (b 9) 5 (v 5)] rfl rfl ?_
      refine k_callVN hC (As := [.int (nI x.1), .int (nI (τ.1 15))]) (cX0_add_k l K (a 7) (a 8) (a 9) (u 4) (u 5) (τ.2.2 2) x.1 (τ.1 15) (by omega) hT.2.2) [kO (a 0) 1 [ah, .int (nI (τ.1 1)), .int (nI (τ.1 2)), .int (nI (τ.1 3)), .ref (a 1), .ref (a 4), .ref (a 7), .int (nI (τ.1 7)), .int (nI (τ.1 8)), .int (nI (τ.1 9)), .int (nI (τ.1 10)), .int (nI (τ.1 11)), .int (nI (τ.1 12)), .int (nI (τ.1 13)), .int (nI ((τ.1 14) - 1)), .int (nI (τ.1 15)), .int (τ.2.1 0), .int (τ.2.1 1)], kO (a 1) 2 [.ref (a 2), .ref (a 3), .int (nI ((τ.2.2 0).length))], kI K (a 2) 10 (u 0), kZ K (a 3) 10 (u 1), kO (a 4) 2 [.ref (a 5), .ref (a 6), .int (nI ((τ.2.2 1).length))], kI K (a 5) 10 (u 2), kZ K (a 6) 10 (u 3), kO (b 0) 1 [bh, .int (nI (α.1 1)), .int (nI (α.1 2)), .int (nI (α.1 3)), .ref (b 1), .ref (b 4), .ref (b 7), .int (nI (α.1 7)), .int (nI (α.1 8)), .int (nI (α.1 9 + x.2)), .int (nI (α.1 10)), .int (nI (α.1 11)), .int (nI (α.1 12)), .int (nI (α.1 13)), .int (nI (α.1 14)), .int (nI (α.1 15)), .int (α.2.1 0), .int (α.2.1 1)], kO (b 1) 2 [.ref (b 2), .ref (b 3), .int (nI t.length)], kI K (b 2) 10 v3, kZ K (b 3) 10 c3, kO (b 4) 2 [.ref (b 5), .ref (b 6), .int (nI ((α.2.2 1).length))], kI K (b 5) 10 (v 2), kZ K (b 6) 10 (v 3), kO (b 7) 0 [.ref (b 8), .ref (b 9), .int (nI ((α.2.2 2).length))], kI K (b 8) 5 (v 4), kI K (b 9) 5 (v 5)] rfl 0 rfl rfl (kAll4 lkI_yX0_add lkS_yX0_add lkN_X0 lkC_yX0_add) (List.mem_of_getElem? (i := 17) rfl) 2 (by decide) ⟨(Nat.le_of_ble_eq_true rfl), (Nat.le_of_ble_eq_true rfl)⟩ rfl rfl (Nat.le_of_ble_eq_true rfl) ⟨(Nat.le_of_ble_eq_true rfl), (Nat.le_of_ble_eq_true rfl)⟩ dX1_fetchFrom_72 (fun v w h => ?_)
      obtain ⟨rfl, u4, c4, rfl, hR4⟩ := h
      refine k_re 0 0 [kO (a 7) 0 [.ref (a 8), .ref (a 9), .int (nI ((τ.2.2 2 ++ [(x.1, τ.1 15)]).length))], kI K (a 8) 5 u4, kI K (a 9) 5 c4, kO (a 0) 1 [ah, .int (nI (τ.1 1)), .int (nI (τ.1 2)), .int (nI (τ.1 3)), .ref (a 1), .ref (a 4), .ref (a 7), .int (nI (τ.1 7)), .int (nI (τ.1 8)), .int (nI (τ.1 9)), .int (nI (τ.1 10)), .int (nI (τ.1 11)), .int (nI (τ.1 12)), .int (nI (τ.1 13)), .int (nI ((τ.1 14) - 1)), .int (nI (τ.1 15)), .int (τ.2.1 0), .int (τ.2.1 1)], kO (a 1) 2 [.ref (a 2), .ref (a 3), .int (nI ((τ.2.2 0).length))], kI K (a 2) 10 (u 0), kZ K (a 3) 10 (u 1), kO (a 4) 2 [.ref (a 5), .ref (a 6), .int (nI ((τ.2.2 1).length))], kI K (a 5) 10 (u 2), kZ K (a 6) 10 (u 3), kO (b 0) 1 [bh, .int (nI (α.1 1)), .int (nI (α.1 2)), .int (nI (α.1 3)), .ref (b 1), .ref (b 4), .ref (b 7), .int (nI (α.1 7)), .int (nI (α.1 8)), .int (nI (α.1 9 + x.2)), .int (nI (α.1 10)), .int (nI (α.1 11)), .int (nI (α.1 12)), .int (nI (α.1 13)), .int (nI (α.1 14)), .int (nI (α.1 15)), .int (α.2.1 0), .int (α.2.1 1)], kO (b 1) 2 [.ref (b 2), .ref (b 3), .int (nI t.length)], kI K (b 2) 10 v3, kZ K (b 3) 10 c3, kO (b 4) 2 [.ref (b 5), .ref (b 6), .int (nI ((α.2.2 1).length))], kI K (b 5) 10 (v 2), kZ K (b 6) 10 (v 3), kO (b 7) 0 [.ref (b 8), .ref (b 9), .int (nI ((α.2.2 2).length))], kI K (b 8) 5 (v 4), kI K (b 9) 5 (v 5)] [] rfl rfl rfl rfl ?_
      refine k_perm [3, 4, 5, 6, 7, 8, 9, 0, 1, 2, 10, 11, 12, 13, 14, 15, 16, 17, 18, 19] [kO (a 0) 1 [ah, .int (nI (τ.1 1)), .int (nI (τ.1 2)), .int (nI (τ.1 3)), .ref (a 1), .ref (a 4), .ref (a 7), .int (nI (τ.1 7)), .int (nI (τ.1 8)), .int (nI (τ.1 9)), .int (nI (τ.1 10)), .int (nI (τ.1 11)), .int (nI (τ.1 12)), .int (nI (τ.1 13)), .int (nI ((τ.1 14) - 1)), .int (nI (τ.1 15)), .int (τ.2.1 0), .int (τ.2.1 1)], kO (a 1) 2 [.ref (a 2), .ref (a 3), .int (nI ((τ.2.2 0).length))], kI K (a 2) 10 (u 0), kZ K (a 3) 10 (u 1), kO (a 4) 2 [.ref (a 5), .ref (a 6), .int (nI ((τ.2.2 1).length))], kI K (a 5) 10 (u 2), kZ K (a 6) 10 (u 3), kO (a 7) 0 [.ref (a 8), .ref (a 9), .int (nI ((τ.2.2 2 ++ [(x.1, τ.1 15)]).length))], kI K (a 8) 5 u4, kI K (a 9) 5 c4, kO (b 0) 1 [bh, .int (nI (α.1 1)), .int (nI (α.1 2)), .int (nI (α.1 3)), .ref (b 1), .ref (b 4), .ref (b 7), .int (nI (α.1 7)), .int (nI (α.1 8)), .int (nI (α.1 9 + x.2)), .int (nI (α.1 10)), .int (nI (α.1 11)), .int (nI (α.1 12)), .int (nI (α.1 13)), .int (nI (α.1 14)), .int (nI (α.1 15)), .int (α.2.1 0), .int (α.2.1 1)], kO (b 1) 2 [.ref (b 2), .ref (b 3), .int (nI t.length)], kI K (b 2) 10 v3, kZ K (b 3) 10 c3, kO (b 4) 2 [.ref (b 5), .ref (b 6), .int (nI ((α.2.2 1).length))], kI K (b 5) 10 (v 2), kZ K (b 6) 10 (v 3), kO (b 7) 0 [.ref (b 8), .ref (b 9), .int (nI ((α.2.2 2).length))], kI K (b 8) 5 (v 4), kI K (b 9) 5 (v 5)] rfl rfl ?_
      exact k_vret hC hE (Nat.le_of_ble_eq_true rfl) (Nat.le_of_ble_eq_true rfl) dX1_fetchFrom_75 (by rw [show mGet τ x = (va_up τ.1 14 (τ.1 14 - 1), τ.2.1, va_up τ.2.2 2 (τ.2.2 2 ++ [(x.1, τ.1 15)])) by unfold mGet; rw [if_neg c1]]; exact ⟨rfl, va_up (va_up u 4 u4) 5 c4, va_up (va_up v 0 v3) 1 c3, rfl, ⟨hT.1, hT.2.1, hR4⟩, ⟨hR3, hT2.2.1, hT2.2.2⟩⟩)
    · refine k_aload_n hC 0 dX1_fetchFrom_52 rfl rfl ?_
      refine k_get hC inlX1 0 5 rfl rfl (by decide) lkF_X1_41 rfl dX1_fetchFrom_53 ?_
      refine k_iload_n hC 2 dX1_fetchFrom_56 rfl rfl ?_
      refine k_perm [4, 5, 6, 0, 1, 2, 3, 7, 8, 9, 10, 11, 12, 13, 14, 15, 16, 17, 18, 19] [kO (a 4) 2 [.ref (a 5), .ref (a 6), .int (nI ((τ.2.2 1).length))], kI K (a 5) 10 (u 2), kZ K (a 6) 10 (u 3), kO (a 0) 1 [ah, .int (nI (τ.1 1)), .int (nI (τ.1 2)), .int (nI (τ.1 3)), .ref (a 1), .ref (a 4), .ref (a 7), .int (nI (τ.1 7)), .int (nI (τ.1 8)), .int (nI (τ.1 9)), .int (nI (τ.1 10)), .int (nI (τ.1 11)), .int (nI (τ.1 12)), .int (nI (τ.1 13)), .int (nI ((τ.1 14) - 1)), .int (nI (τ.1 15)), .int (τ.2.1 0), .int (τ.2.1 1)], kO (a 1) 2 [.ref (a 2), .ref (a 3), .int (nI ((τ.2.2 0).length))], kI K (a 2) 10 (u 0), kZ K (a 3) 10 (u 1), kO (a 7) 0 [.ref (a 8), .ref (a 9), .int (nI ((τ.2.2 2).length))], kI K (a 8) 5 (u 4), kI K (a 9) 5 (u 5), kO (b 0) 1 [bh, .int (nI (α.1 1)), .int (nI (α.1 2)), .int (nI (α.1 3)), .ref (b 1), .ref (b 4), .ref (b 7), .int (nI (α.1 7)), .int (nI (α.1 8)), .int (nI (α.1 9 + x.2)), .int (nI (α.1 10)), .int (nI (α.1 11)), .int (nI (α.1 12)), .int (nI (α.1 13)), .int (nI (α.1 14)), .int (nI (α.1 15)), .int (α.2.1 0), .int (α.2.1 1)], kO (b 1) 2 [.ref (b 2), .ref (b 3), .int (nI t.length)], kI K (b 2) 10 v3, kZ K (b 3) 10 c3, kO (b 4) 2 [.ref (b 5), .ref (b 6), .int (nI ((α.2.2 1).length))], kI K (b 5) 10 (v 2), kZ K (b 6) 10 (v 3), kO (b 7) 0 [.ref (b 8), .ref (b 9), .int (nI ((α.2.2 2).length))], kI K (b 8) 5 (v 4), kI K (b 9) 5 (v 5)] rfl rfl ?_
      refine k_callVN hC (As := [.int (nI x.1)]) (cX2_add_k l K (a 4) (a 5) (a 6) (u 2) (u 3) (τ.2.2 1) x.1 (by omega) hT.2.1) [kO (a 0) 1 [ah, .int (nI (τ.1 1)), .int (nI (τ.1 2)), .int (nI (τ.1 3)), .ref (a 1), .ref (a 4), .ref (a 7), .int (nI (τ.1 7)), .int (nI (τ.1 8)), .int (nI (τ.1 9)), .int (nI (τ.1 10)), .int (nI (τ.1 11)), .int (nI (τ.1 12)), .int (nI (τ.1 13)), .int (nI ((τ.1 14) - 1)), .int (nI (τ.1 15)), .int (τ.2.1 0), .int (τ.2.1 1)], kO (a 1) 2 [.ref (a 2), .ref (a 3), .int (nI ((τ.2.2 0).length))], kI K (a 2) 10 (u 0), kZ K (a 3) 10 (u 1), kO (a 7) 0 [.ref (a 8), .ref (a 9), .int (nI ((τ.2.2 2).length))], kI K (a 8) 5 (u 4), kI K (a 9) 5 (u 5), kO (b 0) 1 [bh, .int (nI (α.1 1)), .int (nI (α.1 2)), .int (nI (α.1 3)), .ref (b 1), .ref (b 4), .ref (b 7), .int (nI (α.1 7)), .int (nI (α.1 8)), .int (nI (α.1 9 + x.2)), .int (nI (α.1 10)), .int (nI (α.1 11)), .int (nI (α.1 12)), .int (nI (α.1 13)), .int (nI (α.1 14)), .int (nI (α.1 15)), .int (α.2.1 0), .int (α.2.1 1)], kO (b 1) 2 [.ref (b 2), .ref (b 3), .int (nI t.length)], kI K (b 2) 10 v3, kZ K (b 3) 10 c3, kO (b 4) 2 [.ref (b 5), .ref (b 6), .int (nI ((α.2.2 1).length))], kI K (b 5) 10 (v 2), kZ K (b 6) 10 (v 3), kO (b 7) 0 [.ref (b 8), .ref (b 9), .int (nI ((α.2.2 2).length))], kI K (b 8) 5 (v 4), kI K (b 9) 5 (v 5)] rfl 0 rfl rfl (kAll4 lkI_yX2_add lkS_yX2_add lkN_X2 lkC_yX2_add) (List.mem_of_getElem? (i := 9) rfl) 1 (by decide) ⟨(Nat.le_of_ble_eq_true rfl), (Nat.le_of_ble_eq_true rfl)⟩ rfl rfl (Nat.le_of_ble_eq_true rfl) ⟨(Nat.le_of_ble_eq_true rfl), (Nat.le_of_ble_eq_true rfl)⟩ dX1_fetchFrom_57 (fun v w h => ?_)
      obtain ⟨rfl, u4, c4, rfl, hR4⟩ := h
      refine k_re 0 0 [kO (a 4) 2 [.ref (a 5), .ref (a 6), .int (nI ((τ.2.2 1 ++ [(x.1, 1)]).length))], kI K (a 5) 10 u4, kZ K (a 6) 10 c4, kO (a 0) 1 [ah, .int (nI (τ.1 1)), .int (nI (τ.1 2)), .int (nI (τ.1 3)), .ref (a 1), .ref (a 4), .ref (a 7), .int (nI (τ.1 7)), .int (nI (τ.1 8)), .int (nI (τ.1 9)), .int (nI (τ.1 10)), .int (nI (τ.1 11)), .int (nI (τ.1 12)), .int (nI (τ.1 13)), .int (nI ((τ.1 14) - 1)), .int (nI (τ.1 15)), .int (τ.2.1 0), .int (τ.2.1 1)], kO (a 1) 2 [.ref (a 2), .ref (a 3), .int (nI ((τ.2.2 0).length))], kI K (a 2) 10 (u 0), kZ K (a 3) 10 (u 1), kO (a 7) 0 [.ref (a 8), .ref (a 9), .int (nI ((τ.2.2 2).length))], kI K (a 8) 5 (u 4), kI K (a 9) 5 (u 5), kO (b 0) 1 [bh, .int (nI (α.1 1)), .int (nI (α.1 2)), .int (nI (α.1 3)), .ref (b 1), .ref (b 4), .ref (b 7), .int (nI (α.1 7)), .int (nI (α.1 8)), .int (nI (α.1 9 + x.2)), .int (nI (α.1 10)), .int (nI (α.1 11)), .int (nI (α.1 12)), .int (nI (α.1 13)), .int (nI (α.1 14)), .int (nI (α.1 15)), .int (α.2.1 0), .int (α.2.1 1)], kO (b 1) 2 [.ref (b 2), .ref (b 3), .int (nI t.length)], kI K (b 2) 10 v3, kZ K (b 3) 10 c3, kO (b 4) 2 [.ref (b 5), .ref (b 6), .int (nI ((α.2.2 1).length))], kI K (b 5) 10 (v 2), kZ K (b 6) 10 (v 3), kO (b 7) 0 [.ref (b 8), .ref (b 9), .int (nI ((α.2.2 2).length))], kI K (b 8) 5 (v 4), kI K (b 9) 5 (v 5)] [] rfl rfl rfl rfl ?_
      refine k_perm [3, 4, 5, 6, 0, 1, 2, 7, 8, 9, 10, 11, 12, 13, 14, 15, 16, 17, 18, 19] [kO (a 0) 1 [ah, .int (nI (τ.1 1)), .int (nI (τ.1 2)), .int (nI (τ.1 3)), .ref (a 1), .ref (a 4), .ref (a 7), .int (nI (τ.1 7)), .int (nI (τ.1 8)), .int (nI (τ.1 9)), .int (nI (τ.1 10)), .int (nI (τ.1 11)), .int (nI (τ.1 12)), .int (nI (τ.1 13)), .int (nI ((τ.1 14) - 1)), .int (nI (τ.1 15)), .int (τ.2.1 0), .int (τ.2.1 1)], kO (a 1) 2 [.ref (a 2), .ref (a 3), .int (nI ((τ.2.2 0).length))], kI K (a 2) 10 (u 0), kZ K (a 3) 10 (u 1), kO (a 4) 2 [.ref (a 5), .ref (a 6), .int (nI ((τ.2.2 1 ++ [(x.1, 1)]).length))], kI K (a 5) 10 u4, kZ K (a 6) 10 c4, kO (a 7) 0 [.ref (a 8), .ref (a 9), .int (nI ((τ.2.2 2).length))], kI K (a 8) 5 (u 4), kI K (a 9) 5 (u 5), kO (b 0) 1 [bh, .int (nI (α.1 1)), .int (nI (α.1 2)), .int (nI (α.1 3)), .ref (b 1), .ref (b 4), .ref (b 7), .int (nI (α.1 7)), .int (nI (α.1 8)), .int (nI (α.1 9 + x.2)), .int (nI (α.1 10)), .int (nI (α.1 11)), .int (nI (α.1 12)), .int (nI (α.1 13)), .int (nI (α.1 14)), .int (nI (α.1 15)), .int (α.2.1 0), .int (α.2.1 1)], kO (b 1) 2 [.ref (b 2), .ref (b 3), .int (nI t.length)], kI K (b 2) 10 v3, kZ K (b 3) 10 c3, kO (b 4) 2 [.ref (b 5), .ref (b 6), .int (nI ((α.2.2 1).length))], kI K (b 5) 10 (v 2), kZ K (b 6) 10 (v 3), kO (b 7) 0 [.ref (b 8), .ref (b 9), .int (nI ((α.2.2 2).length))], kI K (b 8) 5 (v 4), kI K (b 9) 5 (v 5)] rfl rfl ?_
      refine k_goto hC 75 dX1_fetchFrom_60 (by decide) ?_
      exact k_vret hC hE (Nat.le_of_ble_eq_true rfl) (Nat.le_of_ble_eq_true rfl) dX1_fetchFrom_75 (by rw [show mGet τ x = (va_up τ.1 14 (τ.1 14 - 1), τ.2.1, va_up τ.2.2 1 (τ.2.2 1 ++ [(x.1, 1)])) by unfold mGet; rw [if_pos c1]]; exact ⟨rfl, va_up (va_up u 2 u4) 3 c4, va_up (va_up v 0 v3) 1 c3, rfl, ⟨hT.1, hR4, hT.2.2⟩, ⟨hR3, hT2.2.1, hT2.2.2⟩⟩)
  refine k_if_eqN hC 28 dX1_fetchFrom_15 (by decide) (by omega) (fun c2 => ?_) (fun c2 => ?_)
  · rw [c2, Nat.add_zero] at j28
    exact j28
  · have e2 : x.2 = 1 := by omega
    refine k_aload_n hC 1 dX1_fetchFrom_18 rfl rfl ?_
    refine k_dup hC dX1_fetchFrom_19 rfl ?_
    refine k_get hC inlX1 10 9 rfl rfl (by decide) lkF_X1_29 rfl dX1_fetchFrom_20 ?_
    refine k_iconst hC (nI 1) dX1_fetchFrom_23 rfl ?_
    refine k_iaddN hC dX1_fetchFrom_24 ?_
    refine k_put hC inlX1 tyX1_ok nmX1 10 9 rfl rfl (by decide) lkF_X1_29 rfl rfl rfl (Nat.le_of_ble_eq_true rfl) dX1_fetchFrom_25 [kO (a 0) 1 [ah, .int (nI (τ.1 1)), .int (nI (τ.1 2)), .int (nI (τ.1 3)), .ref (a 1), .ref (a 4), .ref (a 7), .int (nI (τ.1 7)), .int (nI (τ.1 8)), .int (nI (τ.1 9)), .int (nI (τ.1 10)), .int (nI (τ.1 11)), .int (nI (τ.1 12)), .int (nI (τ.1 13)), .int (nI (τ.1 14)), .int (nI (τ.1 15)), .int (τ.2.1 0), .int (τ.2.1 1)], kO (a 1) 2 [.ref (a 2), .ref (a 3), .int (nI ((τ.2.2 0).length))], kI K (a 2) 10 (u 0), kZ K (a 3) 10 (u 1), kO (a 4) 2 [.ref (a 5), .ref (a 6), .int (nI ((τ.2.2 1).length))], kI K (a 5) 10 (u 2), kZ K (a 6) 10 (u 3), kO (a 7) 0 [.ref (a 8), .ref (a 9), .int (nI ((τ.2.2 2).length))], kI K (a 8) 5 (u 4), kI K (a 9) 5 (u 5), kO (b 0) 1 [bh, .int (nI (α.1 1)), .int (nI (α.1 2)), .int (nI (α.1 3)), .ref (b 1), .ref (b 4), .ref (b 7), .int (nI (α.1 7)), .int (nI (α.1 8)), .int (nI ((α.1 9) + 1)), .int (nI (α.1 10)), .int (nI (α.1 11)), .int (nI (α.1 12)), .int (nI (α.1 13)), .int (nI (α.1 14)), .int (nI (α.1 15)), .int (α.2.1 0), .int (α.2.1 1)], kO (b 1) 2 [.ref (b 2), .ref (b 3), .int (nI ((x :: t).length))], kI K (b 2) 10 (v 0), kZ K (b 3) 10 (v 1), kO (b 4) 2 [.ref (b 5), .ref (b 6), .int (nI ((α.2.2 1).length))], kI K (b 5) 10 (v 2), kZ K (b 6) 10 (v 3), kO (b 7) 0 [.ref (b 8), .ref (b 9), .int (nI ((α.2.2 2).length))], kI K (b 8) 5 (v 4), kI K (b 9) 5 (v 5)] rfl ?_
    rw [e2] at j28
    exact j28
abbrev rmX1_convey : Room := { frames := 2, cells := 0, slots := 0, locals := 45 }
set_option maxRecDepth 100000 in
set_option maxHeartbeats 4000000 in
theorem cX1_convey_k0 (l : Launch) (K : kE) (a : Nat → Nat) (τ : mT) (u : Nat → Nat → Int32) : kM l yX1_convey (kws yX1_convey cX1_convey 2 none) rmX1_convey K [.ref (a 0)] (wT K .null a τ u) (fun v w => v = none ∧ w = wT K .null a τ u) := by
  refine kM_of (pl := []) (X := (wT K .null a τ u)) rfl (by decide) (Nat.le_of_ble_eq_true rfl) ?_
  intro p e s m args below meth cd A Q hC hnm hE
  refine k_eX (show _ = [kO (a 0) 1 [.null, .int (nI (τ.1 1)), .int (nI (τ.1 2)), .int (nI (τ.1 3)), .ref (a 1), .ref (a 4), .ref (a 7), .int (nI (τ.1 7)), .int (nI (τ.1 8)), .int (nI (τ.1 9)), .int (nI (τ.1 10)), .int (nI (τ.1 11)), .int (nI (τ.1 12)), .int (nI (τ.1 13)), .int (nI (τ.1 14)), .int (nI (τ.1 15)), .int (τ.2.1 0), .int (τ.2.1 1)], kO (a 1) 2 [.ref (a 2), .ref (a 3), .int (nI ((τ.2.2 0).length))], kI K (a 2) 10 (u 0), kZ K (a 3) 10 (u 1), kO (a 4) 2 [.ref (a 5), .ref (a 6), .int (nI ((τ.2.2 1).length))], kI K (a 5) 10 (u 2), kZ K (a 6) 10 (u 3), kO (a 7) 0 [.ref (a 8), .ref (a 9), .int (nI ((τ.2.2 2).length))], kI K (a 8) 5 (u 4), kI K (a 9) 5 (u 5)] from rfl) ?_
  refine k_aload_n hC 0 dX1_convey_0 rfl rfl ?_
  refine k_get hC inlX1 0 0 rfl rfl (by decide) lkF_X1_7 rfl dX1_convey_1 ?_
  refine k_ifnonnullN hC dX1_convey_4 ?_
  exact k_vret hC hE (Nat.le_of_ble_eq_true rfl) (Nat.le_of_ble_eq_true rfl) dX1_convey_7 ⟨rfl, rfl⟩
set_option maxRecDepth 100000 in
set_option maxHeartbeats 4000000 in
theorem cX1_convey_k1 (l : Launch) (K : kE) (a b : Nat → Nat) (bh : Value) (τ α : mT) (u v : Nat → Nat → Int32) (bb : Bool) (hI : mInv false τ) (hI2 : mInv bb α) (hT : mRT τ u) (hT2 : mRT α v) : kM l yX1_convey (kws yX1_convey cX1_convey 2 none) rmX1_convey K [.ref (a 0)] (wT K (.ref (b 0)) a τ u ++ wT K bh b α v) (fun v w => v = none ∧ ∃ u2 v2 : Nat → Nat → Int32, w = wT K (.ref (b 0)) a (mConvey τ α).1 u2 ++ wT K bh b (mConvey τ α).2 v2 ∧ mRT (mConvey τ α).1 u2 ∧ mRT (mConvey τ α).2 v2) := by
  refine kM_of (pl := []) (X := (wT K (.ref (b 0)) a τ u ++ wT K bh b α v)) rfl (by decide) (Nat.le_of_ble_eq_true rfl) ?_
  intro p e s m args below meth cd A Q hC hnm hE
  refine k_eX (show _ = [kO (a 0) 1 [.ref (b 0), .int (nI (τ.1 1)), .int (nI (τ.1 2)), .int (nI (τ.1 3)), .ref (a 1), .ref (a 4), .ref (a 7), .int (nI (τ.1 7)), .int (nI (τ.1 8)), .int (nI (τ.1 9)), .int (nI (τ.1 10)), .int (nI (τ.1 11)), .int (nI (τ.1 12)), .int (nI (τ.1 13)), .int (nI (τ.1 14)), .int (nI (τ.1 15)), .int (τ.2.1 0), .int (τ.2.1 1)], kO (a 1) 2 [.ref (a 2), .ref (a 3), .int (nI ((τ.2.2 0).length))], kI K (a 2) 10 (u 0), kZ K (a 3) 10 (u 1), kO (a 4) 2 [.ref (a 5), .ref (a 6), .int (nI ((τ.2.2 1).length))], kI K (a 5) 10 (u 2), kZ K (a 6) 10 (u 3), kO (a 7) 0 [.ref (a 8), .ref (a 9), .int (nI ((τ.2.2 2).length))], kI K (a 8) 5 (u 4), kI K (a 9) 5 (u 5), kO (b 0) 1 [bh, .int (nI (α.1 1)), .int (nI (α.1 2)), .int (nI (α.1 3)), .ref (b 1), .ref (b 4), .ref (b 7), .int (nI (α.1 7)), .int (nI (α.1 8)), .int (nI (α.1 9)), .int (nI (α.1 10)), .int (nI (α.1 11)), .int (nI (α.1 12)), .int (nI (α.1 13)), .int (nI (α.1 14)), .int (nI (α.1 15)), .int (α.2.1 0), .int (α.2.1 1)], kO (b 1) 2 [.ref (b 2), .ref (b 3), .int (nI ((α.2.2 0).length))], kI K (b 2) 10 (v 0), kZ K (b 3) 10 (v 1), kO (b 4) 2 [.ref (b 5), .ref (b 6), .int (nI ((α.2.2 1).length))], kI K (b 5) 10 (v 2), kZ K (b 6) 10 (v 3), kO (b 7) 0 [.ref (b 8), .ref (b 9), .int (nI ((α.2.2 2).length))], kI K (b 8) 5 (v 4), kI K (b 9) 5 (v 5)] from rfl) ?_
  have pn := hI.1
  have pl0 := mInv_L0 hI
  have pl1 := mInv_L1 hI
  have pl2 := mInv_L2 hI
  have p9 : τ.1 9 ≤ 9 := by have := hI.2.1; omega
  have qn := hI2.1
  have ql0 := mInv_L0 hI2
  have ql1 := mInv_L1 hI2
  have ql2 := mInv_L2 hI2
  have q9 : α.1 9 ≤ 9 := by have := hI2.2.1; omega
  refine k_aload_n hC 0 dX1_convey_0 rfl rfl ?_
  refine k_get hC inlX1 0 0 rfl rfl (by decide) lkF_X1_7 rfl dX1_convey_1 ?_
  refine k_ifnonnull hC 8 dX1_convey_4 (by decide) ?_
  refine k_aload_n hC 0 dX1_convey_8 rfl rfl ?_
  refine k_get hC inlX1 0 6 rfl rfl (by decide) lkF_X1_47 rfl dX1_convey_9 ?_
  refine k_aload_n hC 0 dX1_convey_12 rfl rfl ?_
  refine k_get hC inlX1 0 5 rfl rfl (by decide) lkF_X1_41 rfl dX1_convey_13 ?_
  refine k_perm [7, 8, 9, 4, 5, 6, 0, 1, 2, 3, 10, 11, 12, 13, 14, 15, 16, 17, 18, 19] [kO (a 7) 0 [.ref (a 8), .ref (a 9), .int (nI ((τ.2.2 2).length))], kI K (a 8) 5 (u 4), kI K (a 9) 5 (u 5), kO (a 4) 2 [.ref (a 5), .ref (a 6), .int (nI ((τ.2.2 1).length))], kI K (a 5) 10 (u 2), kZ K (a 6) 10 (u 3), kO (a 0) 1 [.ref (b 0), .int (nI (τ.1 1)), .int (nI (τ.1 2)), .int (nI (τ.1 3)), .ref (a 1), .ref (a 4), .ref (a 7), .int (nI (τ.1 7)), .int (nI (τ.1 8)), .int (nI (τ.1 9)), .int (nI (τ.1 10)), .int (nI (τ.1 11)), .int (nI (τ.1 12)), .int (nI (τ.1 13)), .int (nI (τ.1 14)), .int (nI (τ.1 15)), .int (τ.2.1 0), .int (τ.2.1 1)], kO (a 1) 2 [.ref (a 2), .ref (a 3), .int (nI ((τ.2.2 0).length))], kI K (a 2) 10 (u 0), kZ K (a 3) 10 (u 1), kO (b 0) 1 [bh, .int (nI (α.1 1)), .int (nI (α.1 2)), .int (nI (α.1 3)), .ref (b 1), .ref (b 4), .ref (b 7), .int (nI (α.1 7)), .int (nI (α.1 8)), .int (nI (α.1 9)), .int (nI (α.1 10)), .int (nI (α.1 11)), .int (nI (α.1 12)), .int (nI (α.1 13)), .int (nI (α.1 14)), .int (nI (α.1 15)), .int (α.2.1 0), .int (α.2.1 1)], kO (b 1) 2 [.ref (b 2), .ref (b 3), .int (nI ((α.2.2 0).length))], kI K (b 2) 10 (v 0), kZ K (b 3) 10 (v 1), kO (b 4) 2 [.ref (b 5), .ref (b 6), .int (nI ((α.2.2 1).length))], kI K (b 5) 10 (v 2), kZ K (b 6) 10 (v 3), kO (b 7) 0 [.ref (b 8), .ref (b 9), .int (nI ((α.2.2 2).length))], kI K (b 8) 5 (v 4), kI K (b 9) 5 (v 5)] rfl rfl ?_
  refine k_callVN hC (As := [.ref (a 4)]) (cX0_bringTo_k l K (a 7) (a 8) (a 9) (a 4) (a 5) (a 6) (u 4) (u 5) (u 2) (u 3) (τ.2.2 2) (τ.2.2 1) (by omega) (by omega) hT.2.2 hT.2.1 (fun i hi => (hI.2.2.2.2.2.1 _ (mg_mem hi)).2.2)) [kO (a 0) 1 [.ref (b 0), .int (nI (τ.1 1)), .int (nI (τ.1 2)), .int (nI (τ.1 3)), .ref (a 1), .ref (a 4), .ref (a 7), .int (nI (τ.1 7)), .int (nI (τ.1 8)), .int (nI (τ.1 9)), .int (nI (τ.1 10)), .int (nI (τ.1 11)), .int (nI (τ.1 12)), .int (nI (τ.1 13)), .int (nI (τ.1 14)), .int (nI (τ.1 15)), .int (τ.2.1 0), .int (τ.2.1 1)], kO (a 1) 2 [.ref (a 2), .ref (a 3), .int (nI ((τ.2.2 0).length))], kI K (a 2) 10 (u 0), kZ K (a 3) 10 (u 1), kO (b 0) 1 [bh, .int (nI (α.1 1)), .int (nI (α.1 2)), .int (nI (α.1 3)), .ref (b 1), .ref (b 4), .ref (b 7), .int (nI (α.1 7)), .int (nI (α.1 8)), .int (nI (α.1 9)), .int (nI (α.1 10)), .int (nI (α.1 11)), .int (nI (α.1 12)), .int (nI (α.1 13)), .int (nI (α.1 14)), .int (nI (α.1 15)), .int (α.2.1 0), .int (α.2.1 1)], kO (b 1) 2 [.ref (b 2), .ref (b 3), .int (nI ((α.2.2 0).length))], kI K (b 2) 10 (v 0), kZ K (b 3) 10 (v 1), kO (b 4) 2 [.ref (b 5), .ref (b 6), .int (nI ((α.2.2 1).length))], kI K (b 5) 10 (v 2), kZ K (b 6) 10 (v 3), kO (b 7) 0 [.ref (b 8), .ref (b 9), .int (nI ((α.2.2 2).length))], kI K (b 8) 5 (v 4), kI K (b 9) 5 (v 5)] rfl 0 rfl rfl (kAll4 lkI_yX0_bringTo lkS_yX0_bringTo lkN_X0 lkC_yX0_bringTo) (List.mem_of_getElem? (i := 12) rfl) 1 (by decide) ⟨(Nat.le_of_ble_eq_true rfl), (Nat.le_of_ble_eq_true rfl)⟩ rfl rfl (Nat.le_of_ble_eq_true rfl) ⟨(Nat.le_of_ble_eq_true rfl), (Nat.le_of_ble_eq_true rfl)⟩ dX1_convey_16 (fun v w h => ?_)
  obtain ⟨rfl, u4, s4, u3, c3, rfl, hR4, hR3⟩ := h
  refine k_re 0 0 [kO (a 7) 0 [.ref (a 8), .ref (a 9), .int (nI ((mStay (τ.2.2 2)).length))], kI K (a 8) 5 u4, kI K (a 9) 5 s4, kO (a 4) 2 [.ref (a 5), .ref (a 6), .int (nI ((τ.2.2 1 ++ mArr (τ.2.2 2)).length))], kI K (a 5) 10 u3, kZ K (a 6) 10 c3, kO (a 0) 1 [.ref (b 0), .int (nI (τ.1 1)), .int (nI (τ.1 2)), .int (nI (τ.1 3)), .ref (a 1), .ref (a 4), .ref (a 7), .int (nI (τ.1 7)), .int (nI (τ.1 8)), .int (nI (τ.1 9)), .int (nI (τ.1 10)), .int (nI (τ.1 11)), .int (nI (τ.1 12)), .int (nI (τ.1 13)), .int (nI (τ.1 14)), .int (nI (τ.1 15)), .int (τ.2.1 0), .int (τ.2.1 1)], kO (a 1) 2 [.ref (a 2), .ref (a 3), .int (nI ((τ.2.2 0).length))], kI K (a 2) 10 (u 0), kZ K (a 3) 10 (u 1), kO (b 0) 1 [bh, .int (nI (α.1 1)), .int (nI (α.1 2)), .int (nI (α.1 3)), .ref (b 1), .ref (b 4), .ref (b 7), .int (nI (α.1 7)), .int (nI (α.1 8)), .int (nI (α.1 9)), .int (nI (α.1 10)), .int (nI (α.1 11)), .int (nI (α.1 12)), .int (nI (α.1 13)), .int (nI (α.1 14)), .int (nI (α.1 15)), .int (α.2.1 0), .int (α.2.1 1)], kO (b 1) 2 [.ref (b 2), .ref (b 3), .int (nI ((α.2.2 0).length))], kI K (b 2) 10 (v 0), kZ K (b 3) 10 (v 1), kO (b 4) 2 [.ref (b 5), .ref (b 6), .int (nI ((α.2.2 1).length))], kI K (b 5) 10 (v 2), kZ K (b 6) 10 (v 3), kO (b 7) 0 [.ref (b 8), .ref (b 9), .int (nI ((α.2.2 2).length))], kI K (b 8) 5 (v 4), kI K (b 9) 5 (v 5)] [] rfl rfl rfl rfl ?_
  refine k_perm [6, 7, 8, 9, 3, 4, 5, 0, 1, 2, 10, 11, 12, 13, 14, 15, 16, 17, 18, 19] [kO (a 0) 1 [.ref (b 0), .int (nI (τ.1 1)), .int (nI (τ.1 2)), .int (nI (τ.1 3)), .ref (a 1), .ref (a 4), .ref (a 7), .int (nI (τ.1 7)), .int (nI (τ.1 8)), .int (nI (τ.1 9)), .int (nI (τ.1 10)), .int (nI (τ.1 11)), .int (nI (τ.1 12)), .int (nI (τ.1 13)), .int (nI (τ.1 14)), .int (nI (τ.1 15)), .int (τ.2.1 0), .int (τ.2.1 1)], kO (a 1) 2 [.ref (a 2), .ref (a 3), .int (nI ((τ.2.2 0).length))], kI K (a 2) 10 (u 0), kZ K (a 3) 10 (u 1), kO (a 4) 2 [.ref (a 5), .ref (a 6), .int (nI ((τ.2.2 1 ++ mArr (τ.2.2 2)).length))], kI K (a 5) 10 u3, kZ K (a 6) 10 c3, kO (a 7) 0 [.ref (a 8), .ref (a 9), .int (nI ((mStay (τ.2.2 2)).length))], kI K (a 8) 5 u4, kI K (a 9) 5 s4, kO (b 0) 1 [bh, .int (nI (α.1 1)), .int (nI (α.1 2)), .int (nI (α.1 3)), .ref (b 1), .ref (b 4), .ref (b 7), .int (nI (α.1 7)), .int (nI (α.1 8)), .int (nI (α.1 9)), .int (nI (α.1 10)), .int (nI (α.1 11)), .int (nI (α.1 12)), .int (nI (α.1 13)), .int (nI (α.1 14)), .int (nI (α.1 15)), .int (α.2.1 0), .int (α.2.1 1)], kO (b 1) 2 [.ref (b 2), .ref (b 3), .int (nI ((α.2.2 0).length))], kI K (b 2) 10 (v 0), kZ K (b 3) 10 (v 1), kO (b 4) 2 [.ref (b 5), .ref (b 6), .int (nI ((α.2.2 1).length))], kI K (b 5) 10 (v 2), kZ K (b 6) 10 (v 3), kO (b 7) 0 [.ref (b 8), .ref (b 9), .int (nI ((α.2.2 2).length))], kI K (b 8) 5 (v 4), kI K (b 9) 5 (v 5)] rfl rfl ?_
  have hIb := mBring_inv hI
  refine k_aload_n hC 0 dX1_convey_19 rfl rfl ?_
  refine k_get hC inlX1 0 14 rfl rfl (by decide) lkF_X1_54 rfl dX1_convey_20 ?_
  refine k_aload_n hC 0 dX1_convey_23 rfl rfl ?_
  refine k_get hC inlX1 0 0 rfl rfl (by decide) lkF_X1_7 rfl dX1_convey_24 ?_
  refine k_get hC inlX1 10 4 rfl rfl (by decide) lkF_X1_37 rfl dX1_convey_27 ?_
  refine k_getN hC inlX2 11 2 rfl rfl (by decide) (List.mem_of_getElem? (i := 0) rfl) rfl dX1_convey_30 ?_
  refine k_min hC lkM_X1_100 lkT_Math_min_name lkN_J9 lkC_Math_min_name (Nat.le_of_ble_eq_true rfl) (Nat.le_of_ble_eq_true rfl) (Nat.le_of_ble_eq_true rfl) (Nat.le_of_ble_eq_true rfl) dX1_convey_33 ?_
  refine k_topE (nI (min (τ.1 14) (α.2.2 0).length)) (kminN (by omega) (by omega)) ?_
  refine k_istore_n hC 1 dX1_convey_36 rfl (by decide) rfl [(0, .ref (a 0)), (1, .int (nI (min (τ.1 14) (α.2.2 0).length)))] rfl ?_
  have loop : ∀ (n : Nat) (τ9 α9 : mT) (u9 v9 : Nat → Nat → Int32), n ≤ τ9.1 14 → n ≤ (α9.2.2 0).length → mConvey τ α = mFetch n τ9 α9 → mInv false τ9 → mInv bb α9 → mRT τ9 u9 → mRT α9 v9 → kW p l e rmX1_convey s m args below meth cd K A 2 Q 0 0 ([]) [kO (a 0) 1 [.ref (b 0), .int (nI (τ9.1 1)), .int (nI (τ9.1 2)), .int (nI (τ9.1 3)), .ref (a 1), .ref (a 4), .ref (a 7), .int (nI (τ9.1 7)), .int (nI (τ9.1 8)), .int (nI (τ9.1 9)), .int (nI (τ9.1 10)), .int (nI (τ9.1 11)), .int (nI (τ9.1 12)), .int (nI (τ9.1 13)), .int (nI (τ9.1 14)), .int (nI (τ9.1 15)), .int (τ9.2.1 0), .int (τ9.2.1 1)], kO (a 1) 2 [.ref (a 2), .ref (a 3), .int (nI ((τ9.2.2 0).length))], kI K (a 2) 10 (u9 0), kZ K (a 3) 10 (u9 1), kO (a 4) 2 [.ref (a 5), .ref (a 6), .int (nI ((τ9.2.2 1).length))], kI K (a 5) 10 (u9 2), kZ K (a 6) 10 (u9 3), kO (a 7) 0 [.ref (a 8), .ref (a 9), .int (nI ((τ9.2.2 2).length))], kI K (a 8) 5 (u9 4), kI K (a 9) 5 (u9 5), kO (b 0) 1 [bh, .int (nI (α9.1 1)), .int (nI (α9.1 2)), .int (nI (α9.1 3)), .ref (b 1), .ref (b 4), .ref (b 7), .int (nI (α9.1 7)), .int (nI (α9.1 8)), .int (nI (α9.1 9)), .int (nI (α9.1 10)), .int (nI (α9.1 11)), .int (nI (α9.1 12)), .int (nI (α9.1 13)), .int (nI (α9.1 14)), .int (nI (α9.1 15)), .int (α9.2.1 0), .int (α9.2.1 1)], kO (b 1) 2 [.ref (b 2), .ref (b 3), .int (nI ((α9.2.2 0).length))], kI K (b 2) 10 (v9 0), kZ K (b 3) 10 (v9 1), kO (b 4) 2 [.ref (b 5), .ref (b 6), .int (nI ((α9.2.2 1).length))], kI K (b 5) 10 (v9 2), kZ K (b 6) 10 (v9 3), kO (b 7) 0 [.ref (b 8), .ref (b 9), .int (nI ((α9.2.2 2).length))], kI K (b 8) 5 (v9 4), kI K (b 9) 5 (v9 5)] [(0, .ref (a 0)), (1, .int (nI n))] 37 [] := by
    intro n
    induction n with
    | zero =>
      intro τ9 α9 u9 v9 h1 h2 he hJ hJ2 hU hU2
      refine k_iload_n hC 1 dX1_convey_37 rfl rfl ?_
      refine k_if_leN hC 55 dX1_convey_38 (by decide) (by omega) (fun c1 => ?_) (fun c1 => ?_)
      · exact k_vret hC hE (Nat.le_of_ble_eq_true rfl) (Nat.le_of_ble_eq_true rfl) dX1_convey_55 (by rw [he]; exact ⟨rfl, u9, v9, rfl, hU, hU2⟩)
      · exact absurd rfl c1
    | succ n ih =>
      intro τ9 α9 u9 v9 h1 h2 he hJ hJ2 hU hU2
      have hj2 := mInv_L2 hJ
      obtain ⟨x, t, hx⟩ : ∃ x t, α9.2.2 0 = x :: t := by
        cases hc : α9.2.2 0 with
        | nil => rw [hc] at h2; exact absurd h2 (Nat.not_succ_le_zero n)
        | cons x t => exact ⟨x, t, rfl⟩
      have hk0 := hJ2.2.2.2.1
      rw [hx] at hk0
      have ho := mOk_1 hk0 (List.mem_cons_self)
      refine k_iload_n hC 1 dX1_convey_37 rfl rfl ?_
      refine k_if_leN hC 55 dX1_convey_38 (by decide) (by omega) (fun c1 => ?_) (fun c1 => ?_)
      · exact absurd c1 (by omega)
      · refine k_aload_n hC 0 dX1_convey_41 rfl rfl ?_
        refine k_aload_n hC 0 dX1_convey_42 rfl rfl ?_
        refine k_get hC inlX1 0 0 rfl rfl (by decide) lkF_X1_7 rfl dX1_convey_43 ?_
        refine k_callV hC (As := [.ref (b 0)]) (cX1_fetchFrom_k l K a b (.ref (b 0)) bh τ9 α9 u9 v9 bb hJ hJ2 hU hU2 x t hx (by omega)) [] rfl 0 rfl rfl (kAll5 lkM_X1_106 lkI_yX1_fetchFrom lkS_yX1_fetchFrom lkN_X1 lkC_yX1_fetchFrom) 1 (by decide) ⟨(Nat.le_of_ble_eq_true rfl), (Nat.le_of_ble_eq_true rfl)⟩ rfl rfl (Nat.le_of_ble_eq_true rfl) ⟨(Nat.le_of_ble_eq_true rfl), (Nat.le_of_ble_eq_true rfl)⟩ dX1_convey_46 (fun v w h => ?_)
        obtain ⟨rfl, u5, v5, rfl, hT5, hT6⟩ := h
        refine k_re 0 0 [kO (a 0) 1 [.ref (b 0), .int (nI (((mGet τ9 x)).1 1)), .int (nI (((mGet τ9 x)).1 2)), .int (nI (((mGet τ9 x)).1 3)), .ref (a 1), .ref (a 4), .ref (a 7), .int (nI (((mGet τ9 x)).1 7)), .int (nI (((mGet τ9 x)).1 8)), .int (nI (((mGet τ9 x)).1 9)), .int (nI (((mGet τ9 x)).1 10)), .int (nI (((mGet τ9 x)).1 11)), .int (nI (((mGet τ9 x)).1 12)), .int (nI (((mGet τ9 x)).1 13)), .int (nI (((mGet τ9 x)).1 14)), .int (nI (((mGet τ9 x)).1 15)), .int (((mGet τ9 x)).2.1 0), .int (((mGet τ9 x)).2.1 1)], kO (a 1) 2 [.ref (a 2), .ref (a 3), .int (nI ((((mGet τ9 x)).2.2 0).length))], kI K (a 2) 10 (u5 0), kZ K (a 3) 10 (u5 1), kO (a 4) 2 [.ref (a 5), .ref (a 6), .int (nI ((((mGet τ9 x)).2.2 1).length))], kI K (a 5) 10 (u5 2), kZ K (a 6) 10 (u5 3), kO (a 7) 0 [.ref (a 8), .ref (a 9), .int (nI ((((mGet τ9 x)).2.2 2).length))], kI K (a 8) 5 (u5 4), kI K (a 9) 5 (u5 5), kO (b 0) 1 [bh, .int (nI (((mGive α9 x t)).1 1)), .int (nI (((mGive α9 x t)).1 2)), .int (nI (((mGive α9 x t)).1 3)), .ref (b 1), .ref (b 4), .ref (b 7), .int (nI (((mGive α9 x t)).1 7)), .int (nI (((mGive α9 x t)).1 8)), .int (nI (((mGive α9 x t)).1 9)), .int (nI (((mGive α9 x t)).1 10)), .int (nI (((mGive α9 x t)).1 11)), .int (nI (((mGive α9 x t)).1 12)), .int (nI (((mGive α9 x t)).1 13)), .int (nI (((mGive α9 x t)).1 14)), .int (nI (((mGive α9 x t)).1 15)), .int (((mGive α9 x t)).2.1 0), .int (((mGive α9 x t)).2.1 1)], kO (b 1) 2 [.ref (b 2), .ref (b 3), .int (nI ((((mGive α9 x t)).2.2 0).length))], kI K (b 2) 10 (v5 0), kZ K (b 3) 10 (v5 1), kO (b 4) 2 [.ref (b 5), .ref (b 6), .int (nI ((((mGive α9 x t)).2.2 1).length))], kI K (b 5) 10 (v5 2), kZ K (b 6) 10 (v5 3), kO (b 7) 0 [.ref (b 8), .ref (b 9), .int (nI ((((mGive α9 x t)).2.2 2).length))], kI K (b 8) 5 (v5 4), kI K (b 9) 5 (v5 5)] [] rfl rfl rfl rfl ?_
        refine k_iinc hC dX1_convey_49 (by decide) rfl rfl (nI (n + 1 - 1)) (kdec (n + 1) 1 (by omega) rfl) [(0, .ref (a 0)), (1, .int (nI (n + 1 - 1)))] rfl ?_
        refine k_goto hC 37 dX1_convey_52 (by decide) ?_
        exact ih (mGet τ9 x) (mGive α9 x t) u5 v5 (by show n ≤ τ9.1 14 - 1; omega) (by show n ≤ t.length; rw [hx] at h2; exact Nat.le_of_succ_le_succ h2) (by rw [he]; simp only [mFetch, hx]) (mGet_inv hJ (by omega) ho.1 ho.2.1) (mGive_inv hJ2 hx) hT5 hT6
  exact loop (min (τ.1 14) (α.2.2 0).length) (mBring τ) α (va_up (va_up (va_up (va_up u 2 u3) 3 c3) 4 u4) 5 s4) v (Nat.min_le_left _ _) (Nat.min_le_right _ _) rfl hIb hI2 ⟨hT.1, hR3, hR4⟩ hT2
/-- a new stage -/
def mNew (num : Nat) (first full : Bool) (cards size time mark : Nat) : mT :=
  (fun j => match j with
    | 1 => num
    | 2 => size
    | 3 => time
    | 7 => mark
    | 8 => cards
    | 9 => if full = true then 0 else cards
    | 13 => if first = true then 0 else 1
    | 14 => if first = true then 0 else 1
    | _ => 0, fun j => match j with
    | 1 => if full = true then nI (cards * size) else nI 0
    | _ => nI 0, fun j => match j with
    | 0 => if full = true then List.replicate cards (size, 1) else []
    | _ => [])
def mA10 (q0 q1 q2 q3 q4 q5 q6 q7 q8 q9 : Nat) : Nat → Nat := fun j => match j with
  | 0 => q0
  | 1 => q1
  | 2 => q2
  | 3 => q3
  | 4 => q4
  | 5 => q5
  | 6 => q6
  | 7 => q7
  | 8 => q8
  | _ => q9
def mU6 (u0 u1 u2 u3 u4 u5 : Nat → Int32) : Nat → Nat → Int32 := fun j => match j with
  | 0 => u0
  | 1 => u1
  | 2 => u2
  | 3 => u3
  | 4 => u4
  | _ => u5
theorem mOk_rep (n s : Nat) (h1 : 1 ≤ s) (h2 : s ≤ 10) : mOk (List.replicate n (s, 1)) := by
  cases n with
  | zero => trivial
  | succ n =>
    refine ⟨h1, h2, Nat.le_refl 1, fun y hy => ?_⟩
    rw [(List.mem_replicate.mp hy).2]
    exact ⟨h1, h2, rfl⟩
theorem mCs_rep (n s : Nat) : mCs (List.replicate n (s, 1)) = n := by
  induction n with
  | zero => rfl
  | succ n ih => simp only [List.replicate_succ, mCs, ih]; omega
theorem mNew_inv {num : Nat} {first full : Bool} {cards size time mark : Nat} (h1 : 1 ≤ cards) (h2 : cards ≤ 9) (h3 : 1 ≤ size) (h4 : size ≤ 10) (h5 : 1 ≤ time) (h6 : time ≤ 9) (h7 : 1 ≤ mark) (h8 : mark ≤ 9) : mInv first (mNew num first full cards size time mark) := by
  cases first <;> cases full <;> refine ⟨by simp [mNew]; omega, by simp [mNew, mCs, mCs_rep], by simp [mNew, mCs], ?_, trivial, fun x hx => absurd hx List.not_mem_nil, by simp [mNew]⟩ <;> first | exact trivial | exact mOk_rep _ _ h3 h4
abbrev rmX1_init : Room := { frames := 2, cells := 9, slots := 59, locals := 53 }
set_option maxRecDepth 100000 in
set_option maxHeartbeats 4000000 in
theorem cX1_init_k01 (l : Launch) (K : kE) (p0 : Nat) (cards size time mark : Nat) (hc : cards ≤ 9) : kM l yX1_init (kws yX1_init cX1_init 7 none) rmX1_init K [.ref p0, .null, .int (nI cards), .int (nI size), .int (nI time), .int (nI mark), .int (kB true)] [kO p0 1 [.null, .int (nI 0), .int (nI 0), .int (nI 0), .null, .null, .null, .int (nI 0), .int (nI 0), .int (nI 0), .int (nI 0), .int (nI 0), .int (nI 0), .int (nI 0), .int (nI 0), .int (nI 0), .int (nI 0), .int (nI 0)]] (fun v w => v = none ∧ ∃ (a : Nat → Nat) (u : Nat → Nat → Int32), a 0 = p0 ∧ w = wT K .null a (mNew 0 true true cards size time mark) u ∧ mRT (mNew 0 true true cards size time mark) u) := by
  refine kM_of (pl := []) (X := [kO p0 1 [.null, .int (nI 0), .int (nI 0), .int (nI 0), .null, .null, .null, .int (nI 0), .int (nI 0), .int (nI 0), .int (nI 0), .int (nI 0), .int (nI 0), .int (nI 0), .int (nI 0), .int (nI 0), .int (nI 0), .int (nI 0)]]) rfl (by decide) (Nat.le_of_ble_eq_true rfl) ?_
  intro p e s m args below meth cd A Q hC hnm hE
  refine k_eX (show _ = [kO p0 1 [.null, .int (nI 0), .int (nI 0), .int (nI 0), .null, .null, .null, .int (nI 0), .int (nI 0), .int (nI 0), .int (nI 0), .int (nI 0), .int (nI 0), .int (nI 0), .int (nI 0), .int (nI 0), .int (nI 0), .int (nI 0)]] from rfl) ?_
  refine k_aload_n hC 0 dX1_init_0 rfl rfl ?_
  refine k_objInit hC lkM_X1_1 lkI_objectInit lkC_objectInit dX1_init_1 (Nat.le_of_ble_eq_true rfl) (Nat.le_of_ble_eq_true rfl) ?_
  refine k_aload_n hC 0 dX1_init_4 rfl rfl ?_
  refine k_aload_nN hC 1 dX1_init_5 rfl rfl ?_
  refine k_putF hC hnm inlX1 tyX1_ok nmX1 0 0 rfl rfl (by decide) lkF_X1_7 rfl rfl rfl rfl (Nat.le_of_ble_eq_true rfl) dX1_init_6 [kO p0 1 [.null, .int (nI 0), .int (nI 0), .int (nI 0), .null, .null, .null, .int (nI 0), .int (nI 0), .int (nI 0), .int (nI 0), .int (nI 0), .int (nI 0), .int (nI 0), .int (nI 0), .int (nI 0), .int (nI 0), .int (nI 0)]] rfl ?_
  refine k_aload_n hC 0 dX1_init_9 rfl rfl ?_
  refine k_aload_nN hC 1 dX1_init_10 rfl rfl ?_
  refine k_ifnonnullN hC dX1_init_11 ?_
  refine k_iconst hC (nI 0) dX1_init_14 rfl ?_
  refine k_goto hC 24 dX1_init_15 (by decide) ?_
  refine k_putF hC hnm inlX1 tyX1_ok nmX1 0 1 rfl rfl (by decide) lkF_X1_13 rfl rfl rfl rfl (Nat.le_of_ble_eq_true rfl) dX1_init_24 [kO p0 1 [.null, .int (nI 0), .int (nI 0), .int (nI 0), .null, .null, .null, .int (nI 0), .int (nI 0), .int (nI 0), .int (nI 0), .int (nI 0), .int (nI 0), .int (nI 0), .int (nI 0), .int (nI 0), .int (nI 0), .int (nI 0)]] rfl ?_
  refine k_aload_n hC 0 dX1_init_27 rfl rfl ?_
  refine k_iload_n hC 3 dX1_init_28 rfl rfl ?_
  refine k_putF hC hnm inlX1 tyX1_ok nmX1 0 2 rfl rfl (by decide) lkF_X1_17 rfl rfl rfl rfl (Nat.le_of_ble_eq_true rfl) dX1_init_29 [kO p0 1 [.null, .int (nI 0), .int (nI size), .int (nI 0), .null, .null, .null, .int (nI 0), .int (nI 0), .int (nI 0), .int (nI 0), .int (nI 0), .int (nI 0), .int (nI 0), .int (nI 0), .int (nI 0), .int (nI 0), .int (nI 0)]] rfl ?_
  refine k_aload_n hC 0 dX1_init_32 rfl rfl ?_
  refine k_iload hC dX1_init_33 rfl ?_
  refine k_putF hC hnm inlX1 tyX1_ok nmX1 0 3 rfl rfl (by decide) lkF_X1_20 rfl rfl rfl rfl (Nat.le_of_ble_eq_true rfl) dX1_init_35 [kO p0 1 [.null, .int (nI 0), .int (nI size), .int (nI time), .null, .null, .null, .int (nI 0), .int (nI 0), .int (nI 0), .int (nI 0), .int (nI 0), .int (nI 0), .int (nI 0), .int (nI 0), .int (nI 0), .int (nI 0), .int (nI 0)]] rfl ?_
  refine k_aload_n hC 0 dX1_init_38 rfl rfl ?_
  refine k_iload hC dX1_init_39 rfl ?_
  refine k_put hC inlX1 tyX1_ok nmX1 0 7 rfl rfl (by decide) lkF_X1_23 rfl rfl rfl (Nat.le_of_ble_eq_true rfl) dX1_init_41 [kO p0 1 [.null, .int (nI 0), .int (nI size), .int (nI time), .null, .null, .null, .int (nI mark), .int (nI 0), .int (nI 0), .int (nI 0), .int (nI 0), .int (nI 0), .int (nI 0), .int (nI 0), .int (nI 0), .int (nI 0), .int (nI 0)]] rfl ?_
  refine k_aload_n hC 0 dX1_init_44 rfl rfl ?_
  refine k_iload_n hC 2 dX1_init_45 rfl rfl ?_
  refine k_put hC inlX1 tyX1_ok nmX1 0 8 rfl rfl (by decide) lkF_X1_26 rfl rfl rfl (Nat.le_of_ble_eq_true rfl) dX1_init_46 [kO p0 1 [.null, .int (nI 0), .int (nI size), .int (nI time), .null, .null, .null, .int (nI mark), .int (nI cards), .int (nI 0), .int (nI 0), .int (nI 0), .int (nI 0), .int (nI 0), .int (nI 0), .int (nI 0), .int (nI 0), .int (nI 0)]] rfl ?_
  refine k_aload_n hC 0 dX1_init_49 rfl rfl ?_
  refine k_iload hC dX1_init_50 rfl ?_
  refine k_if_eq hC 59 dX1_init_52 (by decide) (fun c1 => ?_) (fun c1 => ?_)
  · exact absurd c1 (by decide)
  refine k_iconst hC (nI 0) dX1_init_55 rfl ?_
  refine k_goto hC 60 dX1_init_56 (by decide) ?_
  refine k_put hC inlX1 tyX1_ok nmX1 0 9 rfl rfl (by decide) lkF_X1_29 rfl rfl rfl (Nat.le_of_ble_eq_true rfl) dX1_init_60 [kO p0 1 [.null, .int (nI 0), .int (nI size), .int (nI time), .null, .null, .null, .int (nI mark), .int (nI cards), .int (nI 0), .int (nI 0), .int (nI 0), .int (nI 0), .int (nI 0), .int (nI 0), .int (nI 0), .int (nI 0), .int (nI 0)]] rfl ?_
  refine k_aload_n hC 0 dX1_init_63 rfl rfl ?_
  refine k_new hC (ci := 2) inlX2 tyX2_ok rfl lkL_X1_32 lkB_X2 lkN_X2 [.null, .null, .int (nI 0)] (by decide) (Nat.le_of_ble_eq_true rfl) (Nat.le_of_ble_eq_true rfl) dX1_init_64 (fun s1 => ?_)
  refine k_eX (show _ = [kO p0 1 [.null, .int (nI 0), .int (nI size), .int (nI time), .null, .null, .null, .int (nI mark), .int (nI cards), .int (nI 0), .int (nI 0), .int (nI 0), .int (nI 0), .int (nI 0), .int (nI 0), .int (nI 0), .int (nI 0), .int (nI 0)], kO s1 2 [.null, .null, .int (nI 0)]] from rfl) ?_
  refine k_dup hC dX1_init_67 rfl ?_
  refine k_iload hC dX1_init_68 rfl ?_
  refine k_if_eq hC 77 dX1_init_70 (by decide) (fun c2 => ?_) (fun c2 => ?_)
  · exact absurd c2 (by decide)
  refine k_iload_n hC 2 dX1_init_73 rfl rfl ?_
  refine k_goto hC 78 dX1_init_74 (by decide) ?_
  refine k_iload_n hC 3 dX1_init_78 rfl rfl ?_
  refine k_perm [1, 0] [kO s1 2 [.null, .null, .int (nI 0)], kO p0 1 [.null, .int (nI 0), .int (nI size), .int (nI time), .null, .null, .null, .int (nI mark), .int (nI cards), .int (nI 0), .int (nI 0), .int (nI 0), .int (nI 0), .int (nI 0), .int (nI 0), .int (nI 0), .int (nI 0), .int (nI 0)]] rfl rfl ?_
  refine k_callIN hC (As := [.int (nI cards), .int (nI size)]) (cX2_init_k l K s1 cards size (by omega)) [kO p0 1 [.null, .int (nI 0), .int (nI size), .int (nI time), .null, .null, .null, .int (nI mark), .int (nI cards), .int (nI 0), .int (nI 0), .int (nI 0), .int (nI 0), .int (nI 0), .int (nI 0), .int (nI 0), .int (nI 0), .int (nI 0)]] rfl (kAll3 lkI_yX2_init lkN_X2 lkC_yX2_init) (List.mem_of_getElem? (i := 4) rfl) rfl 2 (by decide) ⟨(Nat.le_of_ble_eq_true rfl), (Nat.le_of_ble_eq_true rfl)⟩ rfl rfl (Nat.le_of_ble_eq_true rfl) ⟨(Nat.le_of_ble_eq_true rfl), (Nat.le_of_ble_eq_true rfl)⟩ dX1_init_79 (fun v w h => ?_)
  obtain ⟨rfl, b1, b2, v1, w1, rfl, hR1⟩ := h
  refine k_re 3 23 [kO s1 2 [.ref b1, .ref b2, .int (nI ((List.replicate cards (size, 1)).length))], kI K b1 10 v1, kZ K b2 10 w1, kO p0 1 [.null, .int (nI 0), .int (nI size), .int (nI time), .null, .null, .null, .int (nI mark), .int (nI cards), .int (nI 0), .int (nI 0), .int (nI 0), .int (nI 0), .int (nI 0), .int (nI 0), .int (nI 0), .int (nI 0), .int (nI 0)]] [.ref s1, .ref p0] rfl rfl rfl rfl ?_
  refine k_perm [3, 0, 1, 2] [kO p0 1 [.null, .int (nI 0), .int (nI size), .int (nI time), .null, .null, .null, .int (nI mark), .int (nI cards), .int (nI 0), .int (nI 0), .int (nI 0), .int (nI 0), .int (nI 0), .int (nI 0), .int (nI 0), .int (nI 0), .int (nI 0)], kO s1 2 [.ref b1, .ref b2, .int (nI ((List.replicate cards (size, 1)).length))], kI K b1 10 v1, kZ K b2 10 w1] rfl rfl ?_
  refine k_putF hC hnm inlX1 tyX1_ok nmX1 0 4 rfl rfl (by decide) lkF_X1_37 rfl rfl rfl rfl (Nat.le_of_ble_eq_true rfl) dX1_init_82 [kO p0 1 [.null, .int (nI 0), .int (nI size), .int (nI time), .ref s1, .null, .null, .int (nI mark), .int (nI cards), .int (nI 0), .int (nI 0), .int (nI 0), .int (nI 0), .int (nI 0), .int (nI 0), .int (nI 0), .int (nI 0), .int (nI 0)], kO s1 2 [.ref b1, .ref b2, .int (nI ((List.replicate cards (size, 1)).length))], kI K b1 10 v1, kZ K b2 10 w1] rfl ?_
  refine k_aload_n hC 0 dX1_init_85 rfl rfl ?_
  refine k_new hC (ci := 2) inlX2 tyX2_ok rfl lkL_X1_32 lkB_X2 lkN_X2 [.null, .null, .int (nI 0)] (by decide) (Nat.le_of_ble_eq_true rfl) (Nat.le_of_ble_eq_true rfl) dX1_init_86 (fun s2 => ?_)
  refine k_eX (show _ = [kO p0 1 [.null, .int (nI 0), .int (nI size), .int (nI time), .ref s1, .null, .null, .int (nI mark), .int (nI cards), .int (nI 0), .int (nI 0), .int (nI 0), .int (nI 0), .int (nI 0), .int (nI 0), .int (nI 0), .int (nI 0), .int (nI 0)], kO s1 2 [.ref b1, .ref b2, .int (nI ((List.replicate cards (size, 1)).length))], kI K b1 10 v1, kZ K b2 10 w1, kO s2 2 [.null, .null, .int (nI 0)]] from rfl) ?_
  refine k_dup hC dX1_init_89 rfl ?_
  refine k_iconst hC (nI 0) dX1_init_90 rfl ?_
  refine k_iconst hC (nI 0) dX1_init_91 rfl ?_
  refine k_perm [4, 0, 1, 2, 3] [kO s2 2 [.null, .null, .int (nI 0)], kO p0 1 [.null, .int (nI 0), .int (nI size), .int (nI time), .ref s1, .null, .null, .int (nI mark), .int (nI cards), .int (nI 0), .int (nI 0), .int (nI 0), .int (nI 0), .int (nI 0), .int (nI 0), .int (nI 0), .int (nI 0), .int (nI 0)], kO s1 2 [.ref b1, .ref b2, .int (nI ((List.replicate cards (size, 1)).length))], kI K b1 10 v1, kZ K b2 10 w1] rfl rfl ?_
  refine k_callIN hC (As := [.int (nI 0), .int (nI 0)]) (cX2_init_k l K s2 0 0 (by omega)) [kO p0 1 [.null, .int (nI 0), .int (nI size), .int (nI time), .ref s1, .null, .null, .int (nI mark), .int (nI cards), .int (nI 0), .int (nI 0), .int (nI 0), .int (nI 0), .int (nI 0), .int (nI 0), .int (nI 0), .int (nI 0), .int (nI 0)], kO s1 2 [.ref b1, .ref b2, .int (nI ((List.replicate cards (size, 1)).length))], kI K b1 10 v1, kZ K b2 10 w1] rfl (kAll3 lkI_yX2_init lkN_X2 lkC_yX2_init) (List.mem_of_getElem? (i := 4) rfl) rfl 2 (by decide) ⟨(Nat.le_of_ble_eq_true rfl), (Nat.le_of_ble_eq_true rfl)⟩ rfl rfl (Nat.le_of_ble_eq_true rfl) ⟨(Nat.le_of_ble_eq_true rfl), (Nat.le_of_ble_eq_true rfl)⟩ dX1_init_92 (fun v w h => ?_)
  obtain ⟨rfl, b3, b4, v2, w2, rfl, hR2⟩ := h
  refine k_re 6 46 [kO s2 2 [.ref b3, .ref b4, .int (nI ((List.replicate 0 (0, 1)).length))], kI K b3 10 v2, kZ K b4 10 w2, kO p0 1 [.null, .int (nI 0), .int (nI size), .int (nI time), .ref s1, .null, .null, .int (nI mark), .int (nI cards), .int (nI 0), .int (nI 0), .int (nI 0), .int (nI 0), .int (nI 0), .int (nI 0), .int (nI 0), .int (nI 0), .int (nI 0)], kO s1 2 [.ref b1, .ref b2, .int (nI ((List.replicate cards (size, 1)).length))], kI K b1 10 v1, kZ K b2 10 w1] [.ref s2, .ref p0] rfl rfl rfl rfl ?_
  refine k_perm [3, 0, 1, 2, 4, 5, 6] [kO p0 1 [.null, .int (nI 0), .int (nI size), .int (nI time), .ref s1, .null, .null, .int (nI mark), .int (nI cards), .int (nI 0), .int (nI 0), .int (nI 0), .int (nI 0), .int (nI 0), .int (nI 0), .int (nI 0), .int (nI 0), .int (nI 0)], kO s2 2 [.ref b3, .ref b4, .int (nI ((List.replicate 0 (0, 1)).length))], kI K b3 10 v2, kZ K b4 10 w2, kO s1 2 [.ref b1, .ref b2, .int (nI ((List.replicate cards (size, 1)).length))], kI K b1 10 v1, kZ K b2 10 w1] rfl rfl ?_
  refine k_putF hC hnm inlX1 tyX1_ok nmX1 0 5 rfl rfl (by decide) lkF_X1_41 rfl rfl rfl rfl (Nat.le_of_ble_eq_true rfl) dX1_init_95 [kO p0 1 [.null, .int (nI 0), .int (nI size), .int (nI time), .ref s1, .ref s2, .null, .int (nI mark), .int (nI cards), .int (nI 0), .int (nI 0), .int (nI 0), .int (nI 0), .int (nI 0), .int (nI 0), .int (nI 0), .int (nI 0), .int (nI 0)], kO s2 2 [.ref b3, .ref b4, .int (nI ((List.replicate 0 (0, 1)).length))], kI K b3 10 v2, kZ K b4 10 w2, kO s1 2 [.ref b1, .ref b2, .int (nI ((List.replicate cards (size, 1)).length))], kI K b1 10 v1, kZ K b2 10 w1] rfl ?_
  refine k_aload_n hC 0 dX1_init_98 rfl rfl ?_
  refine k_new hC (ci := 0) inlX0 tyX0_ok rfl lkL_X1_44 lkB_X0 lkN_X0 [.null, .null, .int (nI 0)] (by decide) (Nat.le_of_ble_eq_true rfl) (Nat.le_of_ble_eq_true rfl) dX1_init_99 (fun s3 => ?_)
  refine k_eX (show _ = [kO p0 1 [.null, .int (nI 0), .int (nI size), .int (nI time), .ref s1, .ref s2, .null, .int (nI mark), .int (nI cards), .int (nI 0), .int (nI 0), .int (nI 0), .int (nI 0), .int (nI 0), .int (nI 0), .int (nI 0), .int (nI 0), .int (nI 0)], kO s2 2 [.ref b3, .ref b4, .int (nI ((List.replicate 0 (0, 1)).length))], kI K b3 10 v2, kZ K b4 10 w2, kO s1 2 [.ref b1, .ref b2, .int (nI ((List.replicate cards (size, 1)).length))], kI K b1 10 v1, kZ K b2 10 w1, kO s3 0 [.null, .null, .int (nI 0)]] from rfl) ?_
  refine k_dup hC dX1_init_102 rfl ?_
  refine k_perm [7, 0, 1, 2, 3, 4, 5, 6] [kO s3 0 [.null, .null, .int (nI 0)], kO p0 1 [.null, .int (nI 0), .int (nI size), .int (nI time), .ref s1, .ref s2, .null, .int (nI mark), .int (nI cards), .int (nI 0), .int (nI 0), .int (nI 0), .int (nI 0), .int (nI 0), .int (nI 0), .int (nI 0), .int (nI 0), .int (nI 0)], kO s2 2 [.ref b3, .ref b4, .int (nI ((List.replicate 0 (0, 1)).length))], kI K b3 10 v2, kZ K b4 10 w2, kO s1 2 [.ref b1, .ref b2, .int (nI ((List.replicate cards (size, 1)).length))], kI K b1 10 v1, kZ K b2 10 w1] rfl rfl ?_
  refine k_callIN hC (As := []) (cX0_init_k l K s3) [kO p0 1 [.null, .int (nI 0), .int (nI size), .int (nI time), .ref s1, .ref s2, .null, .int (nI mark), .int (nI cards), .int (nI 0), .int (nI 0), .int (nI 0), .int (nI 0), .int (nI 0), .int (nI 0), .int (nI 0), .int (nI 0), .int (nI 0)], kO s2 2 [.ref b3, .ref b4, .int (nI ((List.replicate 0 (0, 1)).length))], kI K b3 10 v2, kZ K b4 10 w2, kO s1 2 [.ref b1, .ref b2, .int (nI ((List.replicate cards (size, 1)).length))], kI K b1 10 v1, kZ K b2 10 w1] rfl (kAll3 lkI_yX0_init lkN_X0 lkC_yX0_init) (List.mem_of_getElem? (i := 5) rfl) rfl 0 (by decide) ⟨(Nat.le_of_ble_eq_true rfl), (Nat.le_of_ble_eq_true rfl)⟩ rfl rfl (Nat.le_of_ble_eq_true rfl) ⟨(Nat.le_of_ble_eq_true rfl), (Nat.le_of_ble_eq_true rfl)⟩ dX1_init_103 (fun v w h => ?_)
  obtain ⟨rfl, b5, b6, v3, w3, rfl⟩ := h
  refine k_re 9 59 [kO s3 0 [.ref b5, .ref b6, .int (nI 0)], kI K b5 5 v3, kI K b6 5 w3, kO p0 1 [.null, .int (nI 0), .int (nI size), .int (nI time), .ref s1, .ref s2, .null, .int (nI mark), .int (nI cards), .int (nI 0), .int (nI 0), .int (nI 0), .int (nI 0), .int (nI 0), .int (nI 0), .int (nI 0), .int (nI 0), .int (nI 0)], kO s2 2 [.ref b3, .ref b4, .int (nI ((List.replicate 0 (0, 1)).length))], kI K b3 10 v2, kZ K b4 10 w2, kO s1 2 [.ref b1, .ref b2, .int (nI ((List.replicate cards (size, 1)).length))], kI K b1 10 v1, kZ K b2 10 w1] [.ref s3, .ref p0] rfl rfl rfl rfl ?_
  refine k_perm [3, 0, 1, 2, 4, 5, 6, 7, 8, 9] [kO p0 1 [.null, .int (nI 0), .int (nI size), .int (nI time), .ref s1, .ref s2, .null, .int (nI mark), .int (nI cards), .int (nI 0), .int (nI 0), .int (nI 0), .int (nI 0), .int (nI 0), .int (nI 0), .int (nI 0), .int (nI 0), .int (nI 0)], kO s3 0 [.ref b5, .ref b6, .int (nI 0)], kI K b5 5 v3, kI K b6 5 w3, kO s2 2 [.ref b3, .ref b4, .int (nI ((List.replicate 0 (0, 1)).length))], kI K b3 10 v2, kZ K b4 10 w2, kO s1 2 [.ref b1, .ref b2, .int (nI ((List.replicate cards (size, 1)).length))], kI K b1 10 v1, kZ K b2 10 w1] rfl rfl ?_
  refine k_putF hC hnm inlX1 tyX1_ok nmX1 0 6 rfl rfl (by decide) lkF_X1_47 rfl rfl rfl rfl (Nat.le_of_ble_eq_true rfl) dX1_init_106 [kO p0 1 [.null, .int (nI 0), .int (nI size), .int (nI time), .ref s1, .ref s2, .ref s3, .int (nI mark), .int (nI cards), .int (nI 0), .int (nI 0), .int (nI 0), .int (nI 0), .int (nI 0), .int (nI 0), .int (nI 0), .int (nI 0), .int (nI 0)], kO s3 0 [.ref b5, .ref b6, .int (nI 0)], kI K b5 5 v3, kI K b6 5 w3, kO s2 2 [.ref b3, .ref b4, .int (nI ((List.replicate 0 (0, 1)).length))], kI K b3 10 v2, kZ K b4 10 w2, kO s1 2 [.ref b1, .ref b2, .int (nI ((List.replicate cards (size, 1)).length))], kI K b1 10 v1, kZ K b2 10 w1] rfl ?_
  refine k_aload_n hC 0 dX1_init_109 rfl rfl ?_
  refine k_aload_nN hC 1 dX1_init_110 rfl rfl ?_
  refine k_ifnonnullN hC dX1_init_111 ?_
  refine k_iconst hC (nI 0) dX1_init_114 rfl ?_
  refine k_goto hC 119 dX1_init_115 (by decide) ?_
  refine k_put hC inlX1 tyX1_ok nmX1 0 13 rfl rfl (by decide) lkF_X1_51 rfl rfl rfl (Nat.le_of_ble_eq_true rfl) dX1_init_119 [kO p0 1 [.null, .int (nI 0), .int (nI size), .int (nI time), .ref s1, .ref s2, .ref s3, .int (nI mark), .int (nI cards), .int (nI 0), .int (nI 0), .int (nI 0), .int (nI 0), .int (nI 0), .int (nI 0), .int (nI 0), .int (nI 0), .int (nI 0)], kO s3 0 [.ref b5, .ref b6, .int (nI 0)], kI K b5 5 v3, kI K b6 5 w3, kO s2 2 [.ref b3, .ref b4, .int (nI ((List.replicate 0 (0, 1)).length))], kI K b3 10 v2, kZ K b4 10 w2, kO s1 2 [.ref b1, .ref b2, .int (nI ((List.replicate cards (size, 1)).length))], kI K b1 10 v1, kZ K b2 10 w1] rfl ?_
  refine k_aload_n hC 0 dX1_init_122 rfl rfl ?_
  refine k_aload_n hC 0 dX1_init_123 rfl rfl ?_
  refine k_get hC inlX1 0 13 rfl rfl (by decide) lkF_X1_51 rfl dX1_init_124 ?_
  refine k_put hC inlX1 tyX1_ok nmX1 0 14 rfl rfl (by decide) lkF_X1_54 rfl rfl rfl (Nat.le_of_ble_eq_true rfl) dX1_init_127 [kO p0 1 [.null, .int (nI 0), .int (nI size), .int (nI time), .ref s1, .ref s2, .ref s3, .int (nI mark), .int (nI cards), .int (nI 0), .int (nI 0), .int (nI 0), .int (nI 0), .int (nI 0), .int (nI 0), .int (nI 0), .int (nI 0), .int (nI 0)], kO s3 0 [.ref b5, .ref b6, .int (nI 0)], kI K b5 5 v3, kI K b6 5 w3, kO s2 2 [.ref b3, .ref b4, .int (nI ((List.replicate 0 (0, 1)).length))], kI K b3 10 v2, kZ K b4 10 w2, kO s1 2 [.ref b1, .ref b2, .int (nI ((List.replicate cards (size, 1)).length))], kI K b1 10 v1, kZ K b2 10 w1] rfl ?_
  refine k_aload_n hC 0 dX1_init_130 rfl rfl ?_
  refine k_iload hC dX1_init_131 rfl ?_
  refine k_if_eq hC 142 dX1_init_133 (by decide) (fun c3 => ?_) (fun c3 => ?_)
  · exact absurd c3 (by decide)
  refine k_iload_n hC 2 dX1_init_136 rfl rfl ?_
  refine k_iload_n hC 3 dX1_init_137 rfl rfl ?_
  refine k_imulN hC dX1_init_138 ?_
  refine k_goto hC 143 dX1_init_139 (by decide) ?_
  refine k_put hC inlX1 tyX1_ok nmX1 0 17 rfl rfl (by decide) lkF_X1_57 rfl rfl rfl (Nat.le_of_ble_eq_true rfl) dX1_init_143 [kO p0 1 [.null, .int (nI 0), .int (nI size), .int (nI time), .ref s1, .ref s2, .ref s3, .int (nI mark), .int (nI cards), .int (nI 0), .int (nI 0), .int (nI 0), .int (nI 0), .int (nI 0), .int (nI 0), .int (nI 0), .int (nI 0), .int (nI (cards * size))], kO s3 0 [.ref b5, .ref b6, .int (nI 0)], kI K b5 5 v3, kI K b6 5 w3, kO s2 2 [.ref b3, .ref b4, .int (nI ((List.replicate 0 (0, 1)).length))], kI K b3 10 v2, kZ K b4 10 w2, kO s1 2 [.ref b1, .ref b2, .int (nI ((List.replicate cards (size, 1)).length))], kI K b1 10 v1, kZ K b2 10 w1] rfl ?_
  refine k_perm [0, 7, 8, 9, 4, 5, 6, 1, 2, 3] [kO p0 1 [.null, .int (nI 0), .int (nI size), .int (nI time), .ref s1, .ref s2, .ref s3, .int (nI mark), .int (nI cards), .int (nI 0), .int (nI 0), .int (nI 0), .int (nI 0), .int (nI 0), .int (nI 0), .int (nI 0), .int (nI 0), .int (nI (cards * size))], kO s1 2 [.ref b1, .ref b2, .int (nI ((List.replicate cards (size, 1)).length))], kI K b1 10 v1, kZ K b2 10 w1, kO s2 2 [.ref b3, .ref b4, .int (nI ((List.replicate 0 (0, 1)).length))], kI K b3 10 v2, kZ K b4 10 w2, kO s3 0 [.ref b5, .ref b6, .int (nI 0)], kI K b5 5 v3, kI K b6 5 w3] rfl rfl ?_
  exact k_vret hC hE (Nat.le_of_ble_eq_true rfl) (Nat.le_of_ble_eq_true rfl) dX1_init_146 ⟨rfl, mA10 p0 s1 b1 b2 s2 b3 b4 s3 b5 b6, mU6 v1 w1 v2 w2 v3 w3, rfl, rfl, hR1, hR2, mR_nil⟩
set_option maxRecDepth 100000 in
set_option maxHeartbeats 4000000 in
theorem cX1_init_k00 (l : Launch) (K : kE) (p0 : Nat) (cards size time mark : Nat) (hc : cards ≤ 9) : kM l yX1_init (kws yX1_init cX1_init 7 none) rmX1_init K [.ref p0, .null, .int (nI cards), .int (nI size), .int (nI time), .int (nI mark), .int (kB false)] [kO p0 1 [.null, .int (nI 0), .int (nI 0), .int (nI 0), .null, .null, .null, .int (nI 0), .int (nI 0), .int (nI 0), .int (nI 0), .int (nI 0), .int (nI 0), .int (nI 0), .int (nI 0), .int (nI 0), .int (nI 0), .int (nI 0)]] (fun v w => v = none ∧ ∃ (a : Nat → Nat) (u : Nat → Nat → Int32), a 0 = p0 ∧ w = wT K .null a (mNew 0 true false cards size time mark) u ∧ mRT (mNew 0 true false cards size time mark) u) := by
  refine kM_of (pl := []) (X := [kO p0 1 [.null, .int (nI 0), .int (nI 0), .int (nI 0), .null, .null, .null, .int (nI 0), .int (nI 0), .int (nI 0), .int (nI 0), .int (nI 0), .int (nI 0), .int (nI 0), .int (nI 0), .int (nI 0), .int (nI 0), .int (nI 0)]]) rfl (by decide) (Nat.le_of_ble_eq_true rfl) ?_
  intro p e s m args below meth cd A Q hC hnm hE
  refine k_eX (show _ = [kO p0 1 [.null, .int (nI 0), .int (nI 0), .int (nI 0), .null, .null, .null, .int (nI 0), .int (nI 0), .int (nI 0), .int (nI 0), .int (nI 0), .int (nI 0), .int (nI 0), .int (nI 0), .int (nI 0), .int (nI 0), .int (nI 0)]] from rfl) ?_
  refine k_aload_n hC 0 dX1_init_0 rfl rfl ?_
  refine k_objInit hC lkM_X1_1 lkI_objectInit lkC_objectInit dX1_init_1 (Nat.le_of_ble_eq_true rfl) (Nat.le_of_ble_eq_true rfl) ?_
  refine k_aload_n hC 0 dX1_init_4 rfl rfl ?_
  refine k_aload_nN hC 1 dX1_init_5 rfl rfl ?_
  refine k_putF hC hnm inlX1 tyX1_ok nmX1 0 0 rfl rfl (by decide) lkF_X1_7 rfl rfl rfl rfl (Nat.le_of_ble_eq_true rfl) dX1_init_6 [kO p0 1 [.null, .int (nI 0), .int (nI 0), .int (nI 0), .null, .null, .null, .int (nI 0), .int (nI 0), .int (nI 0), .int (nI 0), .int (nI 0), .int (nI 0), .int (nI 0), .int (nI 0), .int (nI 0), .int (nI 0), .int (nI 0)]] rfl ?_
  refine k_aload_n hC 0 dX1_init_9 rfl rfl ?_
  refine k_aload_nN hC 1 dX1_init_10 rfl rfl ?_
  refine k_ifnonnullN hC dX1_init_11 ?_
  refine k_iconst hC (nI 0) dX1_init_14 rfl ?_
  refine k_goto hC 24 dX1_init_15 (by decide) ?_
  refine k_putF hC hnm inlX1 tyX1_ok nmX1 0 1 rfl rfl (by decide) lkF_X1_13 rfl rfl rfl rfl (Nat.le_of_ble_eq_true rfl) dX1_init_24 [kO p0 1 [.null, .int (nI 0), .int (nI 0), .int (nI 0), .null, .null, .null, .int (nI 0), .int (nI 0), .int (nI 0), .int (nI 0), .int (nI 0), .int (nI 0), .int (nI 0), .int (nI 0), .int (nI 0), .int (nI 0), .int (nI 0)]] rfl ?_
  refine k_aload_n hC 0 dX1_init_27 rfl rfl ?_
  refine k_iload_n hC 3 dX1_init_28 rfl rfl ?_
  refine k_putF hC hnm inlX1 tyX1_ok nmX1 0 2 rfl rfl (by decide) lkF_X1_17 rfl rfl rfl rfl (Nat.le_of_ble_eq_true rfl) dX1_init_29 [kO p0 1 [.null, .int (nI 0), .int (nI size), .int (nI 0), .null, .null, .null, .int (nI 0), .int (nI 0), .int (nI 0), .int (nI 0), .int (nI 0), .int (nI 0), .int (nI 0), .int (nI 0), .int (nI 0), .int (nI 0), .int (nI 0)]] rfl ?_
  refine k_aload_n hC 0 dX1_init_32 rfl rfl ?_
  refine k_iload hC dX1_init_33 rfl ?_
  refine k_putF hC hnm inlX1 tyX1_ok nmX1 0 3 rfl rfl (by decide) lkF_X1_20 rfl rfl rfl rfl (Nat.le_of_ble_eq_true rfl) dX1_init_35 [kO p0 1 [.null, .int (nI 0), .int (nI size), .int (nI time), .null, .null, .null, .int (nI 0), .int (nI 0), .int (nI 0), .int (nI 0), .int (nI 0), .int (nI 0), .int (nI 0), .int (nI 0), .int (nI 0), .int (nI 0), .int (nI 0)]] rfl ?_
  refine k_aload_n hC 0 dX1_init_38 rfl rfl ?_
  refine k_iload hC dX1_init_39 rfl ?_
  refine k_put hC inlX1 tyX1_ok nmX1 0 7 rfl rfl (by decide) lkF_X1_23 rfl rfl rfl (Nat.le_of_ble_eq_true rfl) dX1_init_41 [kO p0 1 [.null, .int (nI 0), .int (nI size), .int (nI time), .null, .null, .null, .int (nI mark), .int (nI 0), .int (nI 0), .int (nI 0), .int (nI 0), .int (nI 0), .int (nI 0), .int (nI 0), .int (nI 0), .int (nI 0), .int (nI 0)]] rfl ?_
  refine k_aload_n hC 0 dX1_init_44 rfl rfl ?_
  refine k_iload_n hC 2 dX1_init_45 rfl rfl ?_
  refine k_put hC inlX1 tyX1_ok nmX1 0 8 rfl rfl (by decide) lkF_X1_26 rfl rfl rfl (Nat.le_of_ble_eq_true rfl) dX1_init_46 [kO p0 1 [.null, .int (nI 0), .int (nI size), .int (nI time), .null, .null, .null, .int (nI mark), .int (nI cards), .int (nI 0), .int (nI 0), .int (nI 0), .int (nI 0), .int (nI 0), .int (nI 0), .int (nI 0), .int (nI 0), .int (nI 0)]] rfl ?_
  refine k_aload_n hC 0 dX1_init_49 rfl rfl ?_
  refine k_iload hC dX1_init_50 rfl ?_
  refine k_if_eq hC 59 dX1_init_52 (by decide) (fun c1 => ?_) (fun c1 => ?_)
  rotate_left
  · exact absurd rfl c1
  refine k_iload_n hC 2 dX1_init_59 rfl rfl ?_
  refine k_put hC inlX1 tyX1_ok nmX1 0 9 rfl rfl (by decide) lkF_X1_29 rfl rfl rfl (Nat.le_of_ble_eq_true rfl) dX1_init_60 [kO p0 1 [.null, .int (nI 0), .int (nI size), .int (nI time), .null, .null, .null, .int (nI mark), .int (nI cards), .int (nI cards), .int (nI 0), .int (nI 0), .int (nI 0), .int (nI 0), .int (nI 0), .int (nI 0), .int (nI 0), .int (nI 0)]] rfl ?_
  refine k_aload_n hC 0 dX1_init_63 rfl rfl ?_
  refine k_new hC (ci := 2) inlX2 tyX2_ok rfl lkL_X1_32 lkB_X2 lkN_X2 [.null, .null, .int (nI 0)] (by decide) (Nat.le_of_ble_eq_true rfl) (Nat.le_of_ble_eq_true rfl) dX1_init_64 (fun s1 => ?_)
  refine k_eX (show _ = [kO p0 1 [.null, .int (nI 0), .int (nI size), .int (nI time), .null, .null, .null, .int (nI mark), .int (nI cards), .int (nI cards), .int (nI 0), .int (nI 0), .int (nI 0), .int (nI 0), .int (nI 0), .int (nI 0), .int (nI 0), .int (nI 0)], kO s1 2 [.null, .null, .int (nI 0)]] from rfl) ?_
  refine k_dup hC dX1_init_67 rfl ?_
  refine k_iload hC dX1_init_68 rfl ?_
  refine k_if_eq hC 77 dX1_init_70 (by decide) (fun c2 => ?_) (fun c2 => ?_)
  rotate_left
  · exact absurd rfl c2
  refine k_iconst hC (nI 0) dX1_init_77 rfl ?_
  refine k_iload_n hC 3 dX1_init_78 rfl rfl ?_
  refine k_perm [1, 0] [kO s1 2 [.null, .null, .int (nI 0)], kO p0 1 [.null, .int (nI 0), .int (nI size), .int (nI time), .null, .null, .null, .int (nI mark), .int (nI cards), .int (nI cards), .int (nI 0), .int (nI 0), .int (nI 0), .int (nI 0), .int (nI 0), .int (nI 0), .int (nI 0), .int (nI 0)]] rfl rfl ?_
  refine k_callIN hC (As := [.int (nI 0), .int (nI size)]) (cX2_init_k l K s1 0 size (by omega)) [kO p0 1 [.null, .int (nI 0), .int (nI size), .int (nI time), .null, .null, .null, .int (nI mark), .int (nI cards), .int (nI cards), .int (nI 0), .int (nI 0), .int (nI 0), .int (nI 0), .int (nI 0), .int (nI 0), .int (nI 0), .int (nI 0)]] rfl (kAll3 lkI_yX2_init lkN_X2 lkC_yX2_init) (List.mem_of_getElem? (i := 4) rfl) rfl 2 (by decide) ⟨(Nat.le_of_ble_eq_true rfl), (Nat.le_of_ble_eq_true rfl)⟩ rfl rfl (Nat.le_of_ble_eq_true rfl) ⟨(Nat.le_of_ble_eq_true rfl), (Nat.le_of_ble_eq_true rfl)⟩ dX1_init_79 (fun v w h => ?_)
  obtain ⟨rfl, b1, b2, v1, w1, rfl, hR1⟩ := h
  refine k_re 3 23 [kO s1 2 [.ref b1, .ref b2, .int (nI ((List.replicate 0 (size, 1)).length))], kI K b1 10 v1, kZ K b2 10 w1, kO p0 1 [.null, .int (nI 0), .int (nI size), .int (nI time), .null, .null, .null, .int (nI mark), .int (nI cards), .int (nI cards), .int (nI 0), .int (nI 0), .int (nI 0), .int (nI 0), .int (nI 0), .int (nI 0), .int (nI 0), .int (nI 0)]] [.ref s1, .ref p0] rfl rfl rfl rfl ?_
  refine k_perm [3, 0, 1, 2] [kO p0 1 [.null, .int (nI 0), .int (nI size), .int (nI time), .null, .null, .null, .int (nI mark), .int (nI cards), .int (nI cards), .int (nI 0), .int (nI 0), .int (nI 0), .int (nI 0), .int (nI 0), .int (nI 0), .int (nI 0), .int (nI 0)], kO s1 2 [.ref b1, .ref b2, .int (nI ((List.replicate 0 (size, 1)).length))], kI K b1 10 v1, kZ K b2 10 w1] rfl rfl ?_
  refine k_putF hC hnm inlX1 tyX1_ok nmX1 0 4 rfl rfl (by decide) lkF_X1_37 rfl rfl rfl rfl (Nat.le_of_ble_eq_true rfl) dX1_init_82 [kO p0 1 [.null, .int (nI 0), .int (nI size), .int (nI time), .ref s1, .null, .null, .int (nI mark), .int (nI cards), .int (nI cards), .int (nI 0), .int (nI 0), .int (nI 0), .int (nI 0), .int (nI 0), .int (nI 0), .int (nI 0), .int (nI 0)], kO s1 2 [.ref b1, .ref b2, .int (nI ((List.replicate 0 (size, 1)).length))], kI K b1 10 v1, kZ K b2 10 w1] rfl ?_
  refine k_aload_n hC 0 dX1_init_85 rfl rfl ?_
  refine k_new hC (ci := 2) inlX2 tyX2_ok rfl lkL_X1_32 lkB_X2 lkN_X2 [.null, .null, .int (nI 0)] (by decide) (Nat.le_of_ble_eq_true rfl) (Nat.le_of_ble_eq_true rfl) dX1_init_86 (fun s2 => ?_)
  refine k_eX (show _ = [kO p0 1 [.null, .int (nI 0), .int (nI size), .int (nI time), .ref s1, .null, .null, .int (nI mark), .int (nI cards), .int (nI cards), .int (nI 0), .int (nI 0), .int (nI 0), .int (nI 0), .int (nI 0), .int (nI 0), .int (nI 0), .int (nI 0)], kO s1 2 [.ref b1, .ref b2, .int (nI ((List.replicate 0 (size, 1)).length))], kI K b1 10 v1, kZ K b2 10 w1, kO s2 2 [.null, .null, .int (nI 0)]] from rfl) ?_
  refine k_dup hC dX1_init_89 rfl ?_
  refine k_iconst hC (nI 0) dX1_init_90 rfl ?_
  refine k_iconst hC (nI 0) dX1_init_91 rfl ?_
  refine k_perm [4, 0, 1, 2, 3] [kO s2 2 [.null, .null, .int (nI 0)], kO p0 1 [.null, .int (nI 0), .int (nI size), .int (nI time), .ref s1, .null, .null, .int (nI mark), .int (nI cards), .int (nI cards), .int (nI 0), .int (nI 0), .int (nI 0), .int (nI 0), .int (nI 0), .int (nI 0), .int (nI 0), .int (nI 0)], kO s1 2 [.ref b1, .ref b2, .int (nI ((List.replicate 0 (size, 1)).length))], kI K b1 10 v1, kZ K b2 10 w1] rfl rfl ?_
  refine k_callIN hC (As := [.int (nI 0), .int (nI 0)]) (cX2_init_k l K s2 0 0 (by omega)) [kO p0 1 [.null, .int (nI 0), .int (nI size), .int (nI time), .ref s1, .null, .null, .int (nI mark), .int (nI cards), .int (nI cards), .int (nI 0), .int (nI 0), .int (nI 0), .int (nI 0), .int (nI 0), .int (nI 0), .int (nI 0), .int (nI 0)], kO s1 2 [.ref b1, .ref b2, .int (nI ((List.replicate 0 (size, 1)).length))], kI K b1 10 v1, kZ K b2 10 w1] rfl (kAll3 lkI_yX2_init lkN_X2 lkC_yX2_init) (List.mem_of_getElem? (i := 4) rfl) rfl 2 (by decide) ⟨(Nat.le_of_ble_eq_true rfl), (Nat.le_of_ble_eq_true rfl)⟩ rfl rfl (Nat.le_of_ble_eq_true rfl) ⟨(Nat.le_of_ble_eq_true rfl), (Nat.le_of_ble_eq_true rfl)⟩ dX1_init_92 (fun v w h => ?_)
  obtain ⟨rfl, b3, b4, v2, w2, rfl, hR2⟩ := h
  refine k_re 6 46 [kO s2 2 [.ref b3, .ref b4, .int (nI ((List.replicate 0 (0, 1)).length))], kI K b3 10 v2, kZ K b4 10 w2, kO p0 1 [.null, .int (nI 0), .int (nI size), .int (nI time), .ref s1, .null, .null, .int (nI mark), .int (nI cards), .int (nI cards), .int (nI 0), .int (nI 0), .int (nI 0), .int (nI 0), .int (nI 0), .int (nI 0), .int (nI 0), .int (nI 0)], kO s1 2 [.ref b1, .ref b2, .int (nI ((List.replicate 0 (size, 1)).length))], kI K b1 10 v1, kZ K b2 10 w1] [.ref s2, .ref p0] rfl rfl rfl rfl ?_
  refine k_perm [3, 0, 1, 2, 4, 5, 6] [kO p0 1 [.null, .int (nI 0), .int (nI size), .int (nI time), .ref s1, .null, .null, .int (nI mark), .int (nI cards), .int (nI cards), .int (nI 0), .int (nI 0), .int (nI 0), .int (nI 0), .int (nI 0), .int (nI 0), .int (nI 0), .int (nI 0)], kO s2 2 [.ref b3, .ref b4, .int (nI ((List.replicate 0 (0, 1)).length))], kI K b3 10 v2, kZ K b4 10 w2, kO s1 2 [.ref b1, .ref b2, .int (nI ((List.replicate 0 (size, 1)).length))], kI K b1 10 v1, kZ K b2 10 w1] rfl rfl ?_
  refine k_putF hC hnm inlX1 tyX1_ok nmX1 0 5 rfl rfl (by decide) lkF_X1_41 rfl rfl rfl rfl (Nat.le_of_ble_eq_true rfl) dX1_init_95 [kO p0 1 [.null, .int (nI 0), .int (nI size), .int (nI time), .ref s1, .ref s2, .null, .int (nI mark), .int (nI cards), .int (nI cards), .int (nI 0), .int (nI 0), .int (nI 0), .int (nI 0), .int (nI 0), .int (nI 0), .int (nI 0), .int (nI 0)], kO s2 2 [.ref b3, .ref b4, .int (nI ((List.replicate 0 (0, 1)).length))], kI K b3 10 v2, kZ K b4 10 w2, kO s1 2 [.ref b1, .ref b2, .int (nI ((List.replicate 0 (size, 1)).length))], kI K b1 10 v1, kZ K b2 10 w1] rfl ?_
  refine k_aload_n hC 0 dX1_init_98 rfl rfl ?_
  refine k_new hC (ci := 0) inlX0 tyX0_ok rfl lkL_X1_44 lkB_X0 lkN_X0 [.null, .null, .int (nI 0)] (by decide) (Nat.le_of_ble_eq_true rfl) (Nat.le_of_ble_eq_true rfl) dX1_init_99 (fun s3 => ?_)
  refine k_eX (show _ = [kO p0 1 [.null, .int (nI 0), .int (nI size), .int (nI time), .ref s1, .ref s2, .null, .int (nI mark), .int (nI cards), .int (nI cards), .int (nI 0), .int (nI 0), .int (nI 0), .int (nI 0), .int (nI 0), .int (nI 0), .int (nI 0), .int (nI 0)], kO s2 2 [.ref b3, .ref b4, .int (nI ((List.replicate 0 (0, 1)).length))], kI K b3 10 v2, kZ K b4 10 w2, kO s1 2 [.ref b1, .ref b2, .int (nI ((List.replicate 0 (size, 1)).length))], kI K b1 10 v1, kZ K b2 10 w1, kO s3 0 [.null, .null, .int (nI 0)]] from rfl) ?_
  refine k_dup hC dX1_init_102 rfl ?_
  refine k_perm [7, 0, 1, 2, 3, 4, 5, 6] [kO s3 0 [.null, .null, .int (nI 0)], kO p0 1 [.null, .int (nI 0), .int (nI size), .int (nI time), .ref s1, .ref s2, .null, .int (nI mark), .int (nI cards), .int (nI cards), .int (nI 0), .int (nI 0), .int (nI 0), .int (nI 0), .int (nI 0), .int (nI 0), .int (nI 0), .int (nI 0)], kO s2 2 [.ref b3, .ref b4, .int (nI ((List.replicate 0 (0, 1)).length))], kI K b3 10 v2, kZ K b4 10 w2, kO s1 2 [.ref b1, .ref b2, .int (nI ((List.replicate 0 (size, 1)).length))], kI K b1 10 v1, kZ K b2 10 w1] rfl rfl ?_
  refine k_callIN hC (As := []) (cX0_init_k l K s3) [kO p0 1 [.null, .int (nI 0), .int (nI size), .int (nI time), .ref s1, .ref s2, .null, .int (nI mark), .int (nI cards), .int (nI cards), .int (nI 0), .int (nI 0), .int (nI 0), .int (nI 0), .int (nI 0), .int (nI 0), .int (nI 0), .int (nI 0)], kO s2 2 [.ref b3, .ref b4, .int (nI ((List.replicate 0 (0, 1)).length))], kI K b3 10 v2, kZ K b4 10 w2, kO s1 2 [.ref b1, .ref b2, .int (nI ((List.replicate 0 (size, 1)).length))], kI K b1 10 v1, kZ K b2 10 w1] rfl (kAll3 lkI_yX0_init lkN_X0 lkC_yX0_init) (List.mem_of_getElem? (i := 5) rfl) rfl 0 (by decide) ⟨(Nat.le_of_ble_eq_true rfl), (Nat.le_of_ble_eq_true rfl)⟩ rfl rfl (Nat.le_of_ble_eq_true rfl) ⟨(Nat.le_of_ble_eq_true rfl), (Nat.le_of_ble_eq_true rfl)⟩ dX1_init_103 (fun v w h => ?_)
  obtain ⟨rfl, b5, b6, v3, w3, rfl⟩ := h
  refine k_re 9 59 [kO s3 0 [.ref b5, .ref b6, .int (nI 0)], kI K b5 5 v3, kI K b6 5 w3, kO p0 1 [.null, .int (nI 0), .int (nI size), .int (nI time), .ref s1, .ref s2, .null, .int (nI mark), .int (nI cards), .int (nI cards), .int (nI 0), .int (nI 0), .int (nI 0), .int (nI 0), .int (nI 0), .int (nI 0), .int (nI 0), .int (nI 0)], kO s2 2 [.ref b3, .ref b4, .int (nI ((List.replicate 0 (0, 1)).length))], kI K b3 10 v2, kZ K b4 10 w2, kO s1 2 [.ref b1, .ref b2, .int (nI ((List.replicate 0 (size, 1)).length))], kI K b1 10 v1, kZ K b2 10 w1] [.ref s3, .ref p0] rfl rfl rfl rfl ?_
  refine k_perm [3, 0, 1, 2, 4, 5, 6, 7, 8, 9] [kO p0 1 [.null, .int (nI 0), .int (nI size), .int (nI time), .ref s1, .ref s2, .null, .int (nI mark), .int (nI cards), .int (nI cards), .int (nI 0), .int (nI 0), .int (nI 0), .int (nI 0), .int (nI 0), .int (nI 0), .int (nI 0), .int (nI 0)], kO s3 0 [.ref b5, .ref b6, .int (nI 0)], kI K b5 5 v3, kI K b6 5 w3, kO s2 2 [.ref b3, .ref b4, .int (nI ((List.replicate 0 (0, 1)).length))], kI K b3 10 v2, kZ K b4 10 w2, kO s1 2 [.ref b1, .ref b2, .int (nI ((List.replicate 0 (size, 1)).length))], kI K b1 10 v1, kZ K b2 10 w1] rfl rfl ?_
  refine k_putF hC hnm inlX1 tyX1_ok nmX1 0 6 rfl rfl (by decide) lkF_X1_47 rfl rfl rfl rfl (Nat.le_of_ble_eq_true rfl) dX1_init_106 [kO p0 1 [.null, .int (nI 0), .int (nI size), .int (nI time), .ref s1, .ref s2, .ref s3, .int (nI mark), .int (nI cards), .int (nI cards), .int (nI 0), .int (nI 0), .int (nI 0), .int (nI 0), .int (nI 0), .int (nI 0), .int (nI 0), .int (nI 0)], kO s3 0 [.ref b5, .ref b6, .int (nI 0)], kI K b5 5 v3, kI K b6 5 w3, kO s2 2 [.ref b3, .ref b4, .int (nI ((List.replicate 0 (0, 1)).length))], kI K b3 10 v2, kZ K b4 10 w2, kO s1 2 [.ref b1, .ref b2, .int (nI ((List.replicate 0 (size, 1)).length))], kI K b1 10 v1, kZ K b2 10 w1] rfl ?_
  refine k_aload_n hC 0 dX1_init_109 rfl rfl ?_
  refine k_aload_nN hC 1 dX1_init_110 rfl rfl ?_
  refine k_ifnonnullN hC dX1_init_111 ?_
  refine k_iconst hC (nI 0) dX1_init_114 rfl ?_
  refine k_goto hC 119 dX1_init_115 (by decide) ?_
  refine k_put hC inlX1 tyX1_ok nmX1 0 13 rfl rfl (by decide) lkF_X1_51 rfl rfl rfl (Nat.le_of_ble_eq_true rfl) dX1_init_119 [kO p0 1 [.null, .int (nI 0), .int (nI size), .int (nI time), .ref s1, .ref s2, .ref s3, .int (nI mark), .int (nI cards), .int (nI cards), .int (nI 0), .int (nI 0), .int (nI 0), .int (nI 0), .int (nI 0), .int (nI 0), .int (nI 0), .int (nI 0)], kO s3 0 [.ref b5, .ref b6, .int (nI 0)], kI K b5 5 v3, kI K b6 5 w3, kO s2 2 [.ref b3, .ref b4, .int (nI ((List.replicate 0 (0, 1)).length))], kI K b3 10 v2, kZ K b4 10 w2, kO s1 2 [.ref b1, .ref b2, .int (nI ((List.replicate 0 (size, 1)).length))], kI K b1 10 v1, kZ K b2 10 w1] rfl ?_
  refine k_aload_n hC 0 dX1_init_122 rfl rfl ?_
  refine k_aload_n hC 0 dX1_init_123 rfl rfl ?_
  refine k_get hC inlX1 0 13 rfl rfl (by decide) lkF_X1_51 rfl dX1_init_124 ?_
  refine k_put hC inlX1 tyX1_ok nmX1 0 14 rfl rfl (by decide) lkF_X1_54 rfl rfl rfl (Nat.le_of_ble_eq_true rfl) dX1_init_127 [kO p0 1 [.null, .int (nI 0), .int (nI size), .int (nI time), .ref s1, .ref s2, .ref s3, .int (nI mark), .int (nI cards), .int (nI cards), .int (nI 0), .int (nI 0), .int (nI 0), .int (nI 0), .int (nI 0), .int (nI 0), .int (nI 0), .int (nI 0)], kO s3 0 [.ref b5, .ref b6, .int (nI 0)], kI K b5 5 v3, kI K b6 5 w3, kO s2 2 [.ref b3, .ref b4, .int (nI ((List.replicate 0 (0, 1)).length))], kI K b3 10 v2, kZ K b4 10 w2, kO s1 2 [.ref b1, .ref b2, .int (nI ((List.replicate 0 (size, 1)).length))], kI K b1 10 v1, kZ K b2 10 w1] rfl ?_
  refine k_aload_n hC 0 dX1_init_130 rfl rfl ?_
  refine k_iload hC dX1_init_131 rfl ?_
  refine k_if_eq hC 142 dX1_init_133 (by decide) (fun c3 => ?_) (fun c3 => ?_)
  rotate_left
  · exact absurd rfl c3
  refine k_iconst hC (nI 0) dX1_init_142 rfl ?_
  refine k_put hC inlX1 tyX1_ok nmX1 0 17 rfl rfl (by decide) lkF_X1_57 rfl rfl rfl (Nat.le_of_ble_eq_true rfl) dX1_init_143 [kO p0 1 [.null, .int (nI 0), .int (nI size), .int (nI time), .ref s1, .ref s2, .ref s3, .int (nI mark), .int (nI cards), .int (nI cards), .int (nI 0), .int (nI 0), .int (nI 0), .int (nI 0), .int (nI 0), .int (nI 0), .int (nI 0), .int (nI 0)], kO s3 0 [.ref b5, .ref b6, .int (nI 0)], kI K b5 5 v3, kI K b6 5 w3, kO s2 2 [.ref b3, .ref b4, .int (nI ((List.replicate 0 (0, 1)).length))], kI K b3 10 v2, kZ K b4 10 w2, kO s1 2 [.ref b1, .ref b2, .int (nI ((List.replicate 0 (size, 1)).length))], kI K b1 10 v1, kZ K b2 10 w1] rfl ?_
  refine k_perm [0, 7, 8, 9, 4, 5, 6, 1, 2, 3] [kO p0 1 [.null, .int (nI 0), .int (nI size), .int (nI time), .ref s1, .ref s2, .ref s3, .int (nI mark), .int (nI cards), .int (nI cards), .int (nI 0), .int (nI 0), .int (nI 0), .int (nI 0), .int (nI 0), .int (nI 0), .int (nI 0), .int (nI 0)], kO s1 2 [.ref b1, .ref b2, .int (nI ((List.replicate 0 (size, 1)).length))], kI K b1 10 v1, kZ K b2 10 w1, kO s2 2 [.ref b3, .ref b4, .int (nI ((List.replicate 0 (0, 1)).length))], kI K b3 10 v2, kZ K b4 10 w2, kO s3 0 [.ref b5, .ref b6, .int (nI 0)], kI K b5 5 v3, kI K b6 5 w3] rfl rfl ?_
  exact k_vret hC hE (Nat.le_of_ble_eq_true rfl) (Nat.le_of_ble_eq_true rfl) dX1_init_146 ⟨rfl, mA10 p0 s1 b1 b2 s2 b3 b4 s3 b5 b6, mU6 v1 w1 v2 w2 v3 w3, rfl, rfl, hR1, hR2, mR_nil⟩
set_option maxRecDepth 100000 in
set_option maxHeartbeats 4000000 in
theorem cX1_init_k11 (l : Launch) (K : kE) (p0 p1 : Nat) (fs : List Value) (nm : Nat) (hfs : fs[1]? = some (.int (nI nm))) (cards size time mark : Nat) (hc : cards ≤ 9) : kM l yX1_init (kws yX1_init cX1_init 7 none) rmX1_init K [.ref p0, .ref p1, .int (nI cards), .int (nI size), .int (nI time), .int (nI mark), .int (kB true)] [kO p0 1 [.null, .int (nI 0), .int (nI 0), .int (nI 0), .null, .null, .null, .int (nI 0), .int (nI 0), .int (nI 0), .int (nI 0), .int (nI 0), .int (nI 0), .int (nI 0), .int (nI 0), .int (nI 0), .int (nI 0), .int (nI 0)], kO p1 1 fs] (fun v w => v = none ∧ ∃ (a : Nat → Nat) (u : Nat → Nat → Int32), a 0 = p0 ∧ w = wT K (.ref p1) a (mNew (nm + 1) false true cards size time mark) u ++ [kO p1 1 fs] ∧ mRT (mNew (nm + 1) false true cards size time mark) u) := by
  refine kM_of (pl := []) (X := [kO p0 1 [.null, .int (nI 0), .int (nI 0), .int (nI 0), .null, .null, .null, .int (nI 0), .int (nI 0), .int (nI 0), .int (nI 0), .int (nI 0), .int (nI 0), .int (nI 0), .int (nI 0), .int (nI 0), .int (nI 0), .int (nI 0)], kO p1 1 fs]) rfl (by decide) (Nat.le_of_ble_eq_true rfl) ?_
  intro p e s m args below meth cd A Q hC hnm hE
  refine k_aload_n hC 0 dX1_init_0 rfl rfl ?_
  refine k_objInit hC lkM_X1_1 lkI_objectInit lkC_objectInit dX1_init_1 (Nat.le_of_ble_eq_true rfl) (Nat.le_of_ble_eq_true rfl) ?_
  refine k_aload_n hC 0 dX1_init_4 rfl rfl ?_
  refine k_aload_n hC 1 dX1_init_5 rfl rfl ?_
  refine k_putF hC hnm inlX1 tyX1_ok nmX1 0 0 rfl rfl (by decide) lkF_X1_7 rfl rfl rfl rfl (Nat.le_of_ble_eq_true rfl) dX1_init_6 [kO p0 1 [.ref p1, .int (nI 0), .int (nI 0), .int (nI 0), .null, .null, .null, .int (nI 0), .int (nI 0), .int (nI 0), .int (nI 0), .int (nI 0), .int (nI 0), .int (nI 0), .int (nI 0), .int (nI 0), .int (nI 0), .int (nI 0)], kO p1 1 fs] rfl ?_
  refine k_aload_n hC 0 dX1_init_9 rfl rfl ?_
  refine k_aload_n hC 1 dX1_init_10 rfl rfl ?_
  refine k_ifnonnull hC 18 dX1_init_11 (by decide) ?_
  refine k_aload_n hC 1 dX1_init_18 rfl rfl ?_
  refine k_get hC inlX1 1 1 rfl rfl (by decide) lkF_X1_13 hfs dX1_init_19 ?_
  refine k_iconst hC (nI 1) dX1_init_22 rfl ?_
  refine k_iaddN hC dX1_init_23 ?_
  refine k_putF hC hnm inlX1 tyX1_ok nmX1 0 1 rfl rfl (by decide) lkF_X1_13 rfl rfl rfl rfl (Nat.le_of_ble_eq_true rfl) dX1_init_24 [kO p0 1 [.ref p1, .int (nI (nm + 1)), .int (nI 0), .int (nI 0), .null, .null, .null, .int (nI 0), .int (nI 0), .int (nI 0), .int (nI 0), .int (nI 0), .int (nI 0), .int (nI 0), .int (nI 0), .int (nI 0), .int (nI 0), .int (nI 0)], kO p1 1 fs] rfl ?_
  refine k_aload_n hC 0 dX1_init_27 rfl rfl ?_
  refine k_iload_n hC 3 dX1_init_28 rfl rfl ?_
  refine k_putF hC hnm inlX1 tyX1_ok nmX1 0 2 rfl rfl (by decide) lkF_X1_17 rfl rfl rfl rfl (Nat.le_of_ble_eq_true rfl) dX1_init_29 [kO p0 1 [.ref p1, .int (nI (nm + 1)), .int (nI size), .int (nI 0), .null, .null, .null, .int (nI 0), .int (nI 0), .int (nI 0), .int (nI 0), .int (nI 0), .int (nI 0), .int (nI 0), .int (nI 0), .int (nI 0), .int (nI 0), .int (nI 0)], kO p1 1 fs] rfl ?_
  refine k_aload_n hC 0 dX1_init_32 rfl rfl ?_
  refine k_iload hC dX1_init_33 rfl ?_
  refine k_putF hC hnm inlX1 tyX1_ok nmX1 0 3 rfl rfl (by decide) lkF_X1_20 rfl rfl rfl rfl (Nat.le_of_ble_eq_true rfl) dX1_init_35 [kO p0 1 [.ref p1, .int (nI (nm + 1)), .int (nI size), .int (nI time), .null, .null, .null, .int (nI 0), .int (nI 0), .int (nI 0), .int (nI 0), .int (nI 0), .int (nI 0), .int (nI 0), .int (nI 0), .int (nI 0), .int (nI 0), .int (nI 0)], kO p1 1 fs] rfl ?_
  refine k_aload_n hC 0 dX1_init_38 rfl rfl ?_
  refine k_iload hC dX1_init_39 rfl ?_
  refine k_put hC inlX1 tyX1_ok nmX1 0 7 rfl rfl (by decide) lkF_X1_23 rfl rfl rfl (Nat.le_of_ble_eq_true rfl) dX1_init_41 [kO p0 1 [.ref p1, .int (nI (nm + 1)), .int (nI size), .int (nI time), .null, .null, .null, .int (nI mark), .int (nI 0), .int (nI 0), .int (nI 0), .int (nI 0), .int (nI 0), .int (nI 0), .int (nI 0), .int (nI 0), .int (nI 0), .int (nI 0)], kO p1 1 fs] rfl ?_
  refine k_aload_n hC 0 dX1_init_44 rfl rfl ?_
  refine k_iload_n hC 2 dX1_init_45 rfl rfl ?_
  refine k_put hC inlX1 tyX1_ok nmX1 0 8 rfl rfl (by decide) lkF_X1_26 rfl rfl rfl (Nat.le_of_ble_eq_true rfl) dX1_init_46 [kO p0 1 [.ref p1, .int (nI (nm + 1)), .int (nI size), .int (nI time), .null, .null, .null, .int (nI mark), .int (nI cards), .int (nI 0), .int (nI 0), .int (nI 0), .int (nI 0), .int (nI 0), .int (nI 0), .int (nI 0), .int (nI 0), .int (nI 0)], kO p1 1 fs] rfl ?_
  refine k_aload_n hC 0 dX1_init_49 rfl rfl ?_
  refine k_iload hC dX1_init_50 rfl ?_
  refine k_if_eq hC 59 dX1_init_52 (by decide) (fun c1 => ?_) (fun c1 => ?_)
  · exact absurd c1 (by decide)
  refine k_iconst hC (nI 0) dX1_init_55 rfl ?_
  refine k_goto hC 60 dX1_init_56 (by decide) ?_
  refine k_put hC inlX1 tyX1_ok nmX1 0 9 rfl rfl (by decide) lkF_X1_29 rfl rfl rfl (Nat.le_of_ble_eq_true rfl) dX1_init_60 [kO p0 1 [.ref p1, .int (nI (nm + 1)), .int (nI size), .int (nI time), .null, .null, .null, .int (nI mark), .int (nI cards), .int (nI 0), .int (nI 0), .int (nI 0), .int (nI 0), .int (nI 0), .int (nI 0), .int (nI 0), .int (nI 0), .int (nI 0)], kO p1 1 fs] rfl ?_
  refine k_aload_n hC 0 dX1_init_63 rfl rfl ?_
  refine k_new hC (ci := 2) inlX2 tyX2_ok rfl lkL_X1_32 lkB_X2 lkN_X2 [.null, .null, .int (nI 0)] (by decide) (Nat.le_of_ble_eq_true rfl) (Nat.le_of_ble_eq_true rfl) dX1_init_64 (fun s1 => ?_)
  refine k_eX (show _ = [kO p0 1 [.ref p1, .int (nI (nm + 1)), .int (nI size), .int (nI time), .null, .null, .null, .int (nI mark), .int (nI cards), .int (nI 0), .int (nI 0), .int (nI 0), .int (nI 0), .int (nI 0), .int (nI 0), .int (nI 0), .int (nI 0), .int (nI 0)], kO p1 1 fs, kO s1 2 [.null, .null, .int (nI 0)]] from rfl) ?_
  refine k_dup hC dX1_init_67 rfl ?_
  refine k_iload hC dX1_init_68 rfl ?_
  refine k_if_eq hC 77 dX1_init_70 (by decide) (fun c2 => ?_) (fun c2 => ?_)
  · exact absurd c2 (by decide)
  refine k_iload_n hC 2 dX1_init_73 rfl rfl ?_
  refine k_goto hC 78 dX1_init_74 (by decide) ?_
  refine k_iload_n hC 3 dX1_init_78 rfl rfl ?_
  refine k_perm [2, 0, 1] [kO s1 2 [.null, .null, .int (nI 0)], kO p0 1 [.ref p1, .int (nI (nm + 1)), .int (nI size), .int (nI time), .null, .null, .null, .int (nI mark), .int (nI cards), .int (nI 0), .int (nI 0), .int (nI 0), .int (nI 0), .int (nI 0), .int (nI 0), .int (nI 0), .int (nI 0), .int (nI 0)], kO p1 1 fs] rfl rfl ?_
  refine k_callIN hC (As := [.int (nI cards), .int (nI size)]) (cX2_init_k l K s1 cards size (by omega)) [kO p0 1 [.ref p1, .int (nI (nm + 1)), .int (nI size), .int (nI time), .null, .null, .null, .int (nI mark), .int (nI cards), .int (nI 0), .int (nI 0), .int (nI 0), .int (nI 0), .int (nI 0), .int (nI 0), .int (nI 0), .int (nI 0), .int (nI 0)], kO p1 1 fs] rfl (kAll3 lkI_yX2_init lkN_X2 lkC_yX2_init) (List.mem_of_getElem? (i := 4) rfl) rfl 2 (by decide) ⟨(Nat.le_of_ble_eq_true rfl), (Nat.le_of_ble_eq_true rfl)⟩ rfl rfl (Nat.le_of_ble_eq_true rfl) ⟨(Nat.le_of_ble_eq_true rfl), (Nat.le_of_ble_eq_true rfl)⟩ dX1_init_79 (fun v w h => ?_)
  obtain ⟨rfl, b1, b2, v1, w1, rfl, hR1⟩ := h
  refine k_re 3 23 [kO s1 2 [.ref b1, .ref b2, .int (nI ((List.replicate cards (size, 1)).length))], kI K b1 10 v1, kZ K b2 10 w1, kO p0 1 [.ref p1, .int (nI (nm + 1)), .int (nI size), .int (nI time), .null, .null, .null, .int (nI mark), .int (nI cards), .int (nI 0), .int (nI 0), .int (nI 0), .int (nI 0), .int (nI 0), .int (nI 0), .int (nI 0), .int (nI 0), .int (nI 0)], kO p1 1 fs] [.ref s1, .ref p0] rfl rfl rfl rfl ?_
  refine k_perm [3, 0, 1, 2, 4] [kO p0 1 [.ref p1, .int (nI (nm + 1)), .int (nI size), .int (nI time), .null, .null, .null, .int (nI mark), .int (nI cards), .int (nI 0), .int (nI 0), .int (nI 0), .int (nI 0), .int (nI 0), .int (nI 0), .int (nI 0), .int (nI 0), .int (nI 0)], kO s1 2 [.ref b1, .ref b2, .int (nI ((List.replicate cards (size, 1)).length))], kI K b1 10 v1, kZ K b2 10 w1, kO p1 1 fs] rfl rfl ?_
  refine k_putF hC hnm inlX1 tyX1_ok nmX1 0 4 rfl rfl (by decide) lkF_X1_37 rfl rfl rfl rfl (Nat.le_of_ble_eq_true rfl) dX1_init_82 [kO p0 1 [.ref p1, .int (nI (nm + 1)), .int (nI size), .int (nI time), .ref s1, .null, .null, .int (nI mark), .int (nI cards), .int (nI 0), .int (nI 0), .int (nI 0), .int (nI 0), .int (nI 0), .int (nI 0), .int (nI 0), .int (nI 0), .int (nI 0)], kO s1 2 [.ref b1, .ref b2, .int (nI ((List.replicate cards (size, 1)).length))], kI K b1 10 v1, kZ K b2 10 w1, kO p1 1 fs] rfl ?_
  refine k_aload_n hC 0 dX1_init_85 rfl rfl ?_
  refine k_new hC (ci := 2) inlX2 tyX2_ok rfl lkL_X1_32 lkB_X2 lkN_X2 [.null, .null, .int (nI 0)] (by decide) (Nat.le_of_ble_eq_true rfl) (Nat.le_of_ble_eq_true rfl) dX1_init_86 (fun s2 => ?_)
  refine k_eX (show _ = [kO p0 1 [.ref p1, .int (nI (nm + 1)), .int (nI size), .int (nI time), .ref s1, .null, .null, .int (nI mark), .int (nI cards), .int (nI 0), .int (nI 0), .int (nI 0), .int (nI 0), .int (nI 0), .int (nI 0), .int (nI 0), .int (nI 0), .int (nI 0)], kO s1 2 [.ref b1, .ref b2, .int (nI ((List.replicate cards (size, 1)).length))], kI K b1 10 v1, kZ K b2 10 w1, kO p1 1 fs, kO s2 2 [.null, .null, .int (nI 0)]] from rfl) ?_
  refine k_dup hC dX1_init_89 rfl ?_
  refine k_iconst hC (nI 0) dX1_init_90 rfl ?_
  refine k_iconst hC (nI 0) dX1_init_91 rfl ?_
  refine k_perm [5, 0, 1, 2, 3, 4] [kO s2 2 [.null, .null, .int (nI 0)], kO p0 1 [.ref p1, .int (nI (nm + 1)), .int (nI size), .int (nI time), .ref s1, .null, .null, .int (nI mark), .int (nI cards), .int (nI 0), .int (nI 0), .int (nI 0), .int (nI 0), .int (nI 0), .int (nI 0), .int (nI 0), .int (nI 0), .int (nI 0)], kO s1 2 [.ref b1, .ref b2, .int (nI ((List.replicate cards (size, 1)).length))], kI K b1 10 v1, kZ K b2 10 w1, kO p1 1 fs] rfl rfl ?_
  refine k_callIN hC (As := [.int (nI 0), .int (nI 0)]) (cX2_init_k l K s2 0 0 (by omega)) [kO p0 1 [.ref p1, .int (nI (nm + 1)), .int (nI size), .int (nI time), .ref s1, .null, .null, .int (nI mark), .int (nI cards), .int (nI 0), .int (nI 0), .int (nI 0), .int (nI 0), .int (nI 0), .int (nI 0), .int (nI 0), .int (nI 0), .int (nI 0)], kO s1 2 [.ref b1, .ref b2, .int (nI ((List.replicate cards (size, 1)).length))], kI K b1 10 v1, kZ K b2 10 w1, kO p1 1 fs] rfl (kAll3 lkI_yX2_init lkN_X2 lkC_yX2_init) (List.mem_of_getElem? (i := 4) rfl) rfl 2 (by decide) ⟨(Nat.le_of_ble_eq_true rfl), (Nat.le_of_ble_eq_true rfl)⟩ rfl rfl (Nat.le_of_ble_eq_true rfl) ⟨(Nat.le_of_ble_eq_true rfl), (Nat.le_of_ble_eq_true rfl)⟩ dX1_init_92 (fun v w h => ?_)
  obtain ⟨rfl, b3, b4, v2, w2, rfl, hR2⟩ := h
  refine k_re 6 46 [kO s2 2 [.ref b3, .ref b4, .int (nI ((List.replicate 0 (0, 1)).length))], kI K b3 10 v2, kZ K b4 10 w2, kO p0 1 [.ref p1, .int (nI (nm + 1)), .int (nI size), .int (nI time), .ref s1, .null, .null, .int (nI mark), .int (nI cards), .int (nI 0), .int (nI 0), .int (nI 0), .int (nI 0), .int (nI 0), .int (nI 0), .int (nI 0), .int (nI 0), .int (nI 0)], kO s1 2 [.ref b1, .ref b2, .int (nI ((List.replicate cards (size, 1)).length))], kI K b1 10 v1, kZ K b2 10 w1, kO p1 1 fs] [.ref s2, .ref p0] rfl rfl rfl rfl ?_
  refine k_perm [3, 0, 1, 2, 4, 5, 6, 7] [kO p0 1 [.ref p1, .int (nI (nm + 1)), .int (nI size), .int (nI time), .ref s1, .null, .null, .int (nI mark), .int (nI cards), .int (nI 0), .int (nI 0), .int (nI 0), .int (nI 0), .int (nI 0), .int (nI 0), .int (nI 0), .int (nI 0), .int (nI 0)], kO s2 2 [.ref b3, .ref b4, .int (nI ((List.replicate 0 (0, 1)).length))], kI K b3 10 v2, kZ K b4 10 w2, kO s1 2 [.ref b1, .ref b2, .int (nI ((List.replicate cards (size, 1)).length))], kI K b1 10 v1, kZ K b2 10 w1, kO p1 1 fs] rfl rfl ?_
  refine k_putF hC hnm inlX1 tyX1_ok nmX1 0 5 rfl rfl (by decide) lkF_X1_41 rfl rfl rfl rfl (Nat.le_of_ble_eq_true rfl) dX1_init_95 [kO p0 1 [.ref p1, .int (nI (nm + 1)), .int (nI size), .int (nI time), .ref s1, .ref s2, .null, .int (nI mark), .int (nI cards), .int (nI 0), .int (nI 0), .int (nI 0), .int (nI 0), .int (nI 0), .int (nI 0), .int (nI 0), .int (nI 0), .int (nI 0)], kO s2 2 [.ref b3, .ref b4, .int (nI ((List.replicate 0 (0, 1)).length))], kI K b3 10 v2, kZ K b4 10 w2, kO s1 2 [.ref b1, .ref b2, .int (nI ((List.replicate cards (size, 1)).length))], kI K b1 10 v1, kZ K b2 10 w1, kO p1 1 fs] rfl ?_
  refine k_aload_n hC 0 dX1_init_98 rfl rfl ?_
  refine k_new hC (ci := 0) inlX0 tyX0_ok rfl lkL_X1_44 lkB_X0 lkN_X0 [.null, .null, .int (nI 0)] (by decide) (Nat.le_of_ble_eq_true rfl) (Nat.le_of_ble_eq_true rfl) dX1_init_99 (fun s3 => ?_)
  refine k_eX (show _ = [kO p0 1 [.ref p1, .int (nI (nm + 1)), .int (nI size), .int (nI time), .ref s1, .ref s2, .null, .int (nI mark), .int (nI cards), .int (nI 0), .int (nI 0), .int (nI 0), .int (nI 0), .int (nI 0), .int (nI 0), .int (nI 0), .int (nI 0), .int (nI 0)], kO s2 2 [.ref b3, .ref b4, .int (nI ((List.replicate 0 (0, 1)).length))], kI K b3 10 v2, kZ K b4 10 w2, kO s1 2 [.ref b1, .ref b2, .int (nI ((List.replicate cards (size, 1)).length))], kI K b1 10 v1, kZ K b2 10 w1, kO p1 1 fs, kO s3 0 [.null, .null, .int (nI 0)]] from rfl) ?_
  refine k_dup hC dX1_init_102 rfl ?_
  refine k_perm [8, 0, 1, 2, 3, 4, 5, 6, 7] [kO s3 0 [.null, .null, .int (nI 0)], kO p0 1 [.ref p1, .int (nI (nm + 1)), .int (nI size), .int (nI time), .ref s1, .ref s2, .null, .int (nI mark), .int (nI cards), .int (nI 0), .int (nI 0), .int (nI 0), .int (nI 0), .int (nI 0), .int (nI 0), .int (nI 0), .int (nI 0), .int (nI 0)], kO s2 2 [.ref b3, .ref b4, .int (nI ((List.replicate 0 (0, 1)).length))], kI K b3 10 v2, kZ K b4 10 w2, kO s1 2 [.ref b1, .ref b2, .int (nI ((List.replicate cards (size, 1)).length))], kI K b1 10 v1, kZ K b2 10 w1, kO p1 1 fs] rfl rfl ?_
  refine k_callIN hC (As := []) (cX0_init_k l K s3) [kO p0 1 [.ref p1, .int (nI (nm + 1)), .int (nI size), .int (nI time), .ref s1, .ref s2, .null, .int (nI mark), .int (nI cards), .int (nI 0), .int (nI 0), .int (nI 0), .int (nI 0), .int (nI 0), .int (nI 0), .int (nI 0), .int (nI 0), .int (nI 0)], kO s2 2 [.ref b3, .ref b4, .int (nI ((List.replicate 0 (0, 1)).length))], kI K b3 10 v2, kZ K b4 10 w2, kO s1 2 [.ref b1, .ref b2, .int (nI ((List.replicate cards (size, 1)).length))], kI K b1 10 v1, kZ K b2 10 w1, kO p1 1 fs] rfl (kAll3 lkI_yX0_init lkN_X0 lkC_yX0_init) (List.mem_of_getElem? (i := 5) rfl) rfl 0 (by decide) ⟨(Nat.le_of_ble_eq_true rfl), (Nat.le_of_ble_eq_true rfl)⟩ rfl rfl (Nat.le_of_ble_eq_true rfl) ⟨(Nat.le_of_ble_eq_true rfl), (Nat.le_of_ble_eq_true rfl)⟩ dX1_init_103 (fun v w h => ?_)
  obtain ⟨rfl, b5, b6, v3, w3, rfl⟩ := h
  refine k_re 9 59 [kO s3 0 [.ref b5, .ref b6, .int (nI 0)], kI K b5 5 v3, kI K b6 5 w3, kO p0 1 [.ref p1, .int (nI (nm + 1)), .int (nI size), .int (nI time), .ref s1, .ref s2, .null, .int (nI mark), .int (nI cards), .int (nI 0), .int (nI 0), .int (nI 0), .int (nI 0), .int (nI 0), .int (nI 0), .int (nI 0), .int (nI 0), .int (nI 0)], kO s2 2 [.ref b3, .ref b4, .int (nI ((List.replicate 0 (0, 1)).length))], kI K b3 10 v2, kZ K b4 10 w2, kO s1 2 [.ref b1, .ref b2, .int (nI ((List.replicate cards (size, 1)).length))], kI K b1 10 v1, kZ K b2 10 w1, kO p1 1 fs] [.ref s3, .ref p0] rfl rfl rfl rfl ?_
  refine k_perm [3, 0, 1, 2, 4, 5, 6, 7, 8, 9, 10] [kO p0 1 [.ref p1, .int (nI (nm + 1)), .int (nI size), .int (nI time), .ref s1, .ref s2, .null, .int (nI mark), .int (nI cards), .int (nI 0), .int (nI 0), .int (nI 0), .int (nI 0), .int (nI 0), .int (nI 0), .int (nI 0), .int (nI 0), .int (nI 0)], kO s3 0 [.ref b5, .ref b6, .int (nI 0)], kI K b5 5 v3, kI K b6 5 w3, kO s2 2 [.ref b3, .ref b4, .int (nI ((List.replicate 0 (0, 1)).length))], kI K b3 10 v2, kZ K b4 10 w2, kO s1 2 [.ref b1, .ref b2, .int (nI ((List.replicate cards (size, 1)).length))], kI K b1 10 v1, kZ K b2 10 w1, kO p1 1 fs] rfl rfl ?_
  refine k_putF hC hnm inlX1 tyX1_ok nmX1 0 6 rfl rfl (by decide) lkF_X1_47 rfl rfl rfl rfl (Nat.le_of_ble_eq_true rfl) dX1_init_106 [kO p0 1 [.ref p1, .int (nI (nm + 1)), .int (nI size), .int (nI time), .ref s1, .ref s2, .ref s3, .int (nI mark), .int (nI cards), .int (nI 0), .int (nI 0), .int (nI 0), .int (nI 0), .int (nI 0), .int (nI 0), .int (nI 0), .int (nI 0), .int (nI 0)], kO s3 0 [.ref b5, .ref b6, .int (nI 0)], kI K b5 5 v3, kI K b6 5 w3, kO s2 2 [.ref b3, .ref b4, .int (nI ((List.replicate 0 (0, 1)).length))], kI K b3 10 v2, kZ K b4 10 w2, kO s1 2 [.ref b1, .ref b2, .int (nI ((List.replicate cards (size, 1)).length))], kI K b1 10 v1, kZ K b2 10 w1, kO p1 1 fs] rfl ?_
  refine k_aload_n hC 0 dX1_init_109 rfl rfl ?_
  refine k_aload_n hC 1 dX1_init_110 rfl rfl ?_
  refine k_ifnonnull hC 118 dX1_init_111 (by decide) ?_
  refine k_iconst hC (nI 1) dX1_init_118 rfl ?_
  refine k_put hC inlX1 tyX1_ok nmX1 0 13 rfl rfl (by decide) lkF_X1_51 rfl rfl rfl (Nat.le_of_ble_eq_true rfl) dX1_init_119 [kO p0 1 [.ref p1, .int (nI (nm + 1)), .int (nI size), .int (nI time), .ref s1, .ref s2, .ref s3, .int (nI mark), .int (nI cards), .int (nI 0), .int (nI 0), .int (nI 0), .int (nI 0), .int (nI 1), .int (nI 0), .int (nI 0), .int (nI 0), .int (nI 0)], kO s3 0 [.ref b5, .ref b6, .int (nI 0)], kI K b5 5 v3, kI K b6 5 w3, kO s2 2 [.ref b3, .ref b4, .int (nI ((List.replicate 0 (0, 1)).length))], kI K b3 10 v2, kZ K b4 10 w2, kO s1 2 [.ref b1, .ref b2, .int (nI ((List.replicate cards (size, 1)).length))], kI K b1 10 v1, kZ K b2 10 w1, kO p1 1 fs] rfl ?_
  refine k_aload_n hC 0 dX1_init_122 rfl rfl ?_
  refine k_aload_n hC 0 dX1_init_123 rfl rfl ?_
  refine k_get hC inlX1 0 13 rfl rfl (by decide) lkF_X1_51 rfl dX1_init_124 ?_
  refine k_put hC inlX1 tyX1_ok nmX1 0 14 rfl rfl (by decide) lkF_X1_54 rfl rfl rfl (Nat.le_of_ble_eq_true rfl) dX1_init_127 [kO p0 1 [.ref p1, .int (nI (nm + 1)), .int (nI size), .int (nI time), .ref s1, .ref s2, .ref s3, .int (nI mark), .int (nI cards), .int (nI 0), .int (nI 0), .int (nI 0), .int (nI 0), .int (nI 1), .int (nI 1), .int (nI 0), .int (nI 0), .int (nI 0)], kO s3 0 [.ref b5, .ref b6, .int (nI 0)], kI K b5 5 v3, kI K b6 5 w3, kO s2 2 [.ref b3, .ref b4, .int (nI ((List.replicate 0 (0, 1)).length))], kI K b3 10 v2, kZ K b4 10 w2, kO s1 2 [.ref b1, .ref b2, .int (nI ((List.replicate cards (size, 1)).length))], kI K b1 10 v1, kZ K b2 10 w1, kO p1 1 fs] rfl ?_
  refine k_aload_n hC 0 dX1_init_130 rfl rfl ?_
  refine k_iload hC dX1_init_131 rfl ?_
  refine k_if_eq hC 142 dX1_init_133 (by decide) (fun c3 => ?_) (fun c3 => ?_)
  · exact absurd c3 (by decide)
  refine k_iload_n hC 2 dX1_init_136 rfl rfl ?_
  refine k_iload_n hC 3 dX1_init_137 rfl rfl ?_
  refine k_imulN hC dX1_init_138 ?_
  refine k_goto hC 143 dX1_init_139 (by decide) ?_
  refine k_put hC inlX1 tyX1_ok nmX1 0 17 rfl rfl (by decide) lkF_X1_57 rfl rfl rfl (Nat.le_of_ble_eq_true rfl) dX1_init_143 [kO p0 1 [.ref p1, .int (nI (nm + 1)), .int (nI size), .int (nI time), .ref s1, .ref s2, .ref s3, .int (nI mark), .int (nI cards), .int (nI 0), .int (nI 0), .int (nI 0), .int (nI 0), .int (nI 1), .int (nI 1), .int (nI 0), .int (nI 0), .int (nI (cards * size))], kO s3 0 [.ref b5, .ref b6, .int (nI 0)], kI K b5 5 v3, kI K b6 5 w3, kO s2 2 [.ref b3, .ref b4, .int (nI ((List.replicate 0 (0, 1)).length))], kI K b3 10 v2, kZ K b4 10 w2, kO s1 2 [.ref b1, .ref b2, .int (nI ((List.replicate cards (size, 1)).length))], kI K b1 10 v1, kZ K b2 10 w1, kO p1 1 fs] rfl ?_
  refine k_perm [0, 7, 8, 9, 4, 5, 6, 1, 2, 3, 10] [kO p0 1 [.ref p1, .int (nI (nm + 1)), .int (nI size), .int (nI time), .ref s1, .ref s2, .ref s3, .int (nI mark), .int (nI cards), .int (nI 0), .int (nI 0), .int (nI 0), .int (nI 0), .int (nI 1), .int (nI 1), .int (nI 0), .int (nI 0), .int (nI (cards * size))], kO s1 2 [.ref b1, .ref b2, .int (nI ((List.replicate cards (size, 1)).length))], kI K b1 10 v1, kZ K b2 10 w1, kO s2 2 [.ref b3, .ref b4, .int (nI ((List.replicate 0 (0, 1)).length))], kI K b3 10 v2, kZ K b4 10 w2, kO s3 0 [.ref b5, .ref b6, .int (nI 0)], kI K b5 5 v3, kI K b6 5 w3, kO p1 1 fs] rfl rfl ?_
  exact k_vret hC hE (Nat.le_of_ble_eq_true rfl) (Nat.le_of_ble_eq_true rfl) dX1_init_146 ⟨rfl, mA10 p0 s1 b1 b2 s2 b3 b4 s3 b5 b6, mU6 v1 w1 v2 w2 v3 w3, rfl, rfl, hR1, hR2, mR_nil⟩
set_option maxRecDepth 100000 in
set_option maxHeartbeats 4000000 in
theorem cX1_init_k10 (l : Launch) (K : kE) (p0 p1 : Nat) (fs : List Value) (nm : Nat) (hfs : fs[1]? = some (.int (nI nm))) (cards size time mark : Nat) (hc : cards ≤ 9) : kM l yX1_init (kws yX1_init cX1_init 7 none) rmX1_init K [.ref p0, .ref p1, .int (nI cards), .int (nI size), .int (nI time), .int (nI mark), .int (kB false)] [kO p0 1 [.null, .int (nI 0), .int (nI 0), .int (nI 0), .null, .null, .null, .int (nI 0), .int (nI 0), .int (nI 0), .int (nI 0), .int (nI 0), .int (nI 0), .int (nI 0), .int (nI 0), .int (nI 0), .int (nI 0), .int (nI 0)], kO p1 1 fs] (fun v w => v = none ∧ ∃ (a : Nat → Nat) (u : Nat → Nat → Int32), a 0 = p0 ∧ w = wT K (.ref p1) a (mNew (nm + 1) false false cards size time mark) u ++ [kO p1 1 fs] ∧ mRT (mNew (nm + 1) false false cards size time mark) u) := by
  refine kM_of (pl := []) (X := [kO p0 1 [.null, .int (nI 0), .int (nI 0), .int (nI 0), .null, .null, .null, .int (nI 0), .int (nI 0), .int (nI 0), .int (nI 0), .int (nI 0), .int (nI 0), .int (nI 0), .int (nI 0), .int (nI 0), .int (nI 0), .int (nI 0)], kO p1 1 fs]) rfl (by decide) (Nat.le_of_ble_eq_true rfl) ?_
  intro p e s m args below meth cd A Q hC hnm hE
  refine k_aload_n hC 0 dX1_init_0 rfl rfl ?_
  refine k_objInit hC lkM_X1_1 lkI_objectInit lkC_objectInit dX1_init_1 (Nat.le_of_ble_eq_true rfl) (Nat.le_of_ble_eq_true rfl) ?_
  refine k_aload_n hC 0 dX1_init_4 rfl rfl ?_
  refine k_aload_n hC 1 dX1_init_5 rfl rfl ?_
  refine k_putF hC hnm inlX1 tyX1_ok nmX1 0 0 rfl rfl (by decide) lkF_X1_7 rfl rfl rfl rfl (Nat.le_of_ble_eq_true rfl) dX1_init_6 [kO p0 1 [.ref p1, .int (nI 0), .int (nI 0), .int (nI 0), .null, .null, .null, .int (nI 0), .int (nI 0), .int (nI 0), .int (nI 0), .int (nI 0), .int (nI 0), .int (nI 0), .int (nI 0), .int (nI 0), .int (nI 0), .int (nI 0)], kO p1 1 fs] rfl ?_
  refine k_aload_n hC 0 dX1_init_9 rfl rfl ?_
  refine k_aload_n hC 1 dX1_init_10 rfl rfl ?_
  refine k_ifnonnull hC 18 dX1_init_11 (by decide) ?_
  refine k_aload_n hC 1 dX1_init_18 rfl rfl ?_
  refine k_get hC inlX1 1 1 rfl rfl (by decide) lkF_X1_13 hfs dX1_init_19 ?_
  refine k_iconst hC (nI 1) dX1_init_22 rfl ?_
  refine k_iaddN hC dX1_init_23 ?_
  refine k_putF hC hnm inlX1 tyX1_ok nmX1 0 1 rfl rfl (by decide) lkF_X1_13 rfl rfl rfl rfl (Nat.le_of_ble_eq_true rfl) dX1_init_24 [kO p0 1 [.ref p1, .int (nI (nm + 1)), .int (nI 0), .int (nI 0), .null, .null, .null, .int (nI 0), .int (nI 0), .int (nI 0), .int (nI 0), .int (nI 0), .int (nI 0), .int (nI 0), .int (nI 0), .int (nI 0), .int (nI 0), .int (nI 0)], kO p1 1 fs] rfl ?_
  refine k_aload_n hC 0 dX1_init_27 rfl rfl ?_
  refine k_iload_n hC 3 dX1_init_28 rfl rfl ?_
  refine k_putF hC hnm inlX1 tyX1_ok nmX1 0 2 rfl rfl (by decide) lkF_X1_17 rfl rfl rfl rfl (Nat.le_of_ble_eq_true rfl) dX1_init_29 [kO p0 1 [.ref p1, .int (nI (nm + 1)), .int (nI size), .int (nI 0), .null, .null, .null, .int (nI 0), .int (nI 0), .int (nI 0), .int (nI 0), .int (nI 0), .int (nI 0), .int (nI 0), .int (nI 0), .int (nI 0), .int (nI 0), .int (nI 0)], kO p1 1 fs] rfl ?_
  refine k_aload_n hC 0 dX1_init_32 rfl rfl ?_
  refine k_iload hC dX1_init_33 rfl ?_
  refine k_putF hC hnm inlX1 tyX1_ok nmX1 0 3 rfl rfl (by decide) lkF_X1_20 rfl rfl rfl rfl (Nat.le_of_ble_eq_true rfl) dX1_init_35 [kO p0 1 [.ref p1, .int (nI (nm + 1)), .int (nI size), .int (nI time), .null, .null, .null, .int (nI 0), .int (nI 0), .int (nI 0), .int (nI 0), .int (nI 0), .int (nI 0), .int (nI 0), .int (nI 0), .int (nI 0), .int (nI 0), .int (nI 0)], kO p1 1 fs] rfl ?_
  refine k_aload_n hC 0 dX1_init_38 rfl rfl ?_
  refine k_iload hC dX1_init_39 rfl ?_
  refine k_put hC inlX1 tyX1_ok nmX1 0 7 rfl rfl (by decide) lkF_X1_23 rfl rfl rfl (Nat.le_of_ble_eq_true rfl) dX1_init_41 [kO p0 1 [.ref p1, .int (nI (nm + 1)), .int (nI size), .int (nI time), .null, .null, .null, .int (nI mark), .int (nI 0), .int (nI 0), .int (nI 0), .int (nI 0), .int (nI 0), .int (nI 0), .int (nI 0), .int (nI 0), .int (nI 0), .int (nI 0)], kO p1 1 fs] rfl ?_
  refine k_aload_n hC 0 dX1_init_44 rfl rfl ?_
  refine k_iload_n hC 2 dX1_init_45 rfl rfl ?_
  refine k_put hC inlX1 tyX1_ok nmX1 0 8 rfl rfl (by decide) lkF_X1_26 rfl rfl rfl (Nat.le_of_ble_eq_true rfl) dX1_init_46 [kO p0 1 [.ref p1, .int (nI (nm + 1)), .int (nI size), .int (nI time), .null, .null, .null, .int (nI mark), .int (nI cards), .int (nI 0), .int (nI 0), .int (nI 0), .int (nI 0), .int (nI 0), .int (nI 0), .int (nI 0), .int (nI 0), .int (nI 0)], kO p1 1 fs] rfl ?_
  refine k_aload_n hC 0 dX1_init_49 rfl rfl ?_
  refine k_iload hC dX1_init_50 rfl ?_
  refine k_if_eq hC 59 dX1_init_52 (by decide) (fun c1 => ?_) (fun c1 => ?_)
  rotate_left
  · exact absurd rfl c1
  refine k_iload_n hC 2 dX1_init_59 rfl rfl ?_
  refine k_put hC inlX1 tyX1_ok nmX1 0 9 rfl rfl (by decide) lkF_X1_29 rfl rfl rfl (Nat.le_of_ble_eq_true rfl) dX1_init_60 [kO p0 1 [.ref p1, .int (nI (nm + 1)), .int (nI size), .int (nI time), .null, .null, .null, .int (nI mark), .int (nI cards), .int (nI cards), .int (nI 0), .int (nI 0), .int (nI 0), .int (nI 0), .int (nI 0), .int (nI 0), .int (nI 0), .int (nI 0)], kO p1 1 fs] rfl ?_
  refine k_aload_n hC 0 dX1_init_63 rfl rfl ?_
  refine k_new hC (ci := 2) inlX2 tyX2_ok rfl lkL_X1_32 lkB_X2 lkN_X2 [.null, .null, .int (nI 0)] (by decide) (Nat.le_of_ble_eq_true rfl) (Nat.le_of_ble_eq_true rfl) dX1_init_64 (fun s1 => ?_)
  refine k_eX (show _ = [kO p0 1 [.ref p1, .int (nI (nm + 1)), .int (nI size), .int (nI time), .null, .null, .null, .int (nI mark), .int (nI cards), .int (nI cards), .int (nI 0), .int (nI 0), .int (nI 0), .int (nI 0), .int (nI 0), .int (nI 0), .int (nI 0), .int (nI 0)], kO p1 1 fs, kO s1 2 [.null, .null, .int (nI 0)]] from rfl) ?_
  refine k_dup hC dX1_init_67 rfl ?_
  refine k_iload hC dX1_init_68 rfl ?_
  refine k_if_eq hC 77 dX1_init_70 (by decide) (fun c2 => ?_) (fun c2 => ?_)
  rotate_left
  · exact absurd rfl c2
  refine k_iconst hC (nI 0) dX1_init_77 rfl ?_
  refine k_iload_n hC 3 dX1_init_78 rfl rfl ?_
  refine k_perm [2, 0, 1] [kO s1 2 [.null, .null, .int (nI 0)], kO p0 1 [.ref p1, .int (nI (nm + 1)), .int (nI size), .int (nI time), .null, .null, .null, .int (nI mark), .int (nI cards), .int (nI cards), .int (nI 0), .int (nI 0), .int (nI 0), .int (nI 0), .int (nI 0), .int (nI 0), .int (nI 0), .int (nI 0)], kO p1 1 fs] rfl rfl ?_
  refine k_callIN hC (As := [.int (nI 0), .int (nI size)]) (cX2_init_k l K s1 0 size (by omega)) [kO p0 1 [.ref p1, .int (nI (nm + 1)), .int (nI size), .int (nI time), .null, .null, .null, .int (nI mark), .int (nI cards), .int (nI cards), .int (nI 0), .int (nI 0), .int (nI 0), .int (nI 0), .int (nI 0), .int (nI 0), .int (nI 0), .int (nI 0)], kO p1 1 fs] rfl (kAll3 lkI_yX2_init lkN_X2 lkC_yX2_init) (List.mem_of_getElem? (i := 4) rfl) rfl 2 (by decide) ⟨(Nat.le_of_ble_eq_true rfl), (Nat.le_of_ble_eq_true rfl)⟩ rfl rfl (Nat.le_of_ble_eq_true rfl) ⟨(Nat.le_of_ble_eq_true rfl), (Nat.le_of_ble_eq_true rfl)⟩ dX1_init_79 (fun v w h => ?_)
  obtain ⟨rfl, b1, b2, v1, w1, rfl, hR1⟩ := h
  refine k_re 3 23 [kO s1 2 [.ref b1, .ref b2, .int (nI ((List.replicate 0 (size, 1)).length))], kI K b1 10 v1, kZ K b2 10 w1, kO p0 1 [.ref p1, .int (nI (nm + 1)), .int (nI size), .int (nI time), .null, .null, .null, .int (nI mark), .int (nI cards), .int (nI cards), .int (nI 0), .int (nI 0), .int (nI 0), .int (nI 0), .int (nI 0), .int (nI 0), .int (nI 0), .int (nI 0)], kO p1 1 fs] [.ref s1, .ref p0] rfl rfl rfl rfl ?_
  refine k_perm [3, 0, 1, 2, 4] [kO p0 1 [.ref p1, .int (nI (nm + 1)), .int (nI size), .int (nI time), .null, .null, .null, .int (nI mark), .int (nI cards), .int (nI cards), .int (nI 0), .int (nI 0), .int (nI 0), .int (nI 0), .int (nI 0), .int (nI 0), .int (nI 0), .int (nI 0)], kO s1 2 [.ref b1, .ref b2, .int (nI ((List.replicate 0 (size, 1)).length))], kI K b1 10 v1, kZ K b2 10 w1, kO p1 1 fs] rfl rfl ?_
  refine k_putF hC hnm inlX1 tyX1_ok nmX1 0 4 rfl rfl (by decide) lkF_X1_37 rfl rfl rfl rfl (Nat.le_of_ble_eq_true rfl) dX1_init_82 [kO p0 1 [.ref p1, .int (nI (nm + 1)), .int (nI size), .int (nI time), .ref s1, .null, .null, .int (nI mark), .int (nI cards), .int (nI cards), .int (nI 0), .int (nI 0), .int (nI 0), .int (nI 0), .int (nI 0), .int (nI 0), .int (nI 0), .int (nI 0)], kO s1 2 [.ref b1, .ref b2, .int (nI ((List.replicate 0 (size, 1)).length))], kI K b1 10 v1, kZ K b2 10 w1, kO p1 1 fs] rfl ?_
  refine k_aload_n hC 0 dX1_init_85 rfl rfl ?_
  refine k_new hC (ci := 2) inlX2 tyX2_ok rfl lkL_X1_32 lkB_X2 lkN_X2 [.null, .null, .int (nI 0)] (by decide) (Nat.le_of_ble_eq_true rfl) (Nat.le_of_ble_eq_true rfl) dX1_init_86 (fun s2 => ?_)
  refine k_eX (show _ = [kO p0 1 [.ref p1, .int (nI (nm + 1)), .int (nI size), .int (nI time), .ref s1, .null, .null, .int (nI mark), .int (nI cards), .int (nI cards), .int (nI 0), .int (nI 0), .int (nI 0), .int (nI 0), .int (nI 0), .int (nI 0), .int (nI 0), .int (nI 0)], kO s1 2 [.ref b1, .ref b2, .int (nI ((List.replicate 0 (size, 1)).length))], kI K b1 10 v1, kZ K b2 10 w1, kO p1 1 fs, kO s2 2 [.null, .null, .int (nI 0)]] from rfl) ?_
  refine k_dup hC dX1_init_89 rfl ?_
  refine k_iconst hC (nI 0) dX1_init_90 rfl ?_
  refine k_iconst hC (nI 0) dX1_init_91 rfl ?_
  refine k_perm [5, 0, 1, 2, 3, 4] [kO s2 2 [.null, .null, .int (nI 0)], kO p0 1 [.ref p1, .int (nI (nm + 1)), .int (nI size), .int (nI time), .ref s1, .null, .null, .int (nI mark), .int (nI cards), .int (nI cards), .int (nI 0), .int (nI 0), .int (nI 0), .int (nI 0), .int (nI 0), .int (nI 0), .int (nI 0), .int (nI 0)], kO s1 2 [.ref b1, .ref b2, .int (nI ((List.replicate 0 (size, 1)).length))], kI K b1 10 v1, kZ K b2 10 w1, kO p1 1 fs] rfl rfl ?_
  refine k_callIN hC (As := [.int (nI 0), .int (nI 0)]) (cX2_init_k l K s2 0 0 (by omega)) [kO p0 1 [.ref p1, .int (nI (nm + 1)), .int (nI size), .int (nI time), .ref s1, .null, .null, .int (nI mark), .int (nI cards), .int (nI cards), .int (nI 0), .int (nI 0), .int (nI 0), .int (nI 0), .int (nI 0), .int (nI 0), .int (nI 0), .int (nI 0)], kO s1 2 [.ref b1, .ref b2, .int (nI ((List.replicate 0 (size, 1)).length))], kI K b1 10 v1, kZ K b2 10 w1, kO p1 1 fs] rfl (kAll3 lkI_yX2_init lkN_X2 lkC_yX2_init) (List.mem_of_getElem? (i := 4) rfl) rfl 2 (by decide) ⟨(Nat.le_of_ble_eq_true rfl), (Nat.le_of_ble_eq_true rfl)⟩ rfl rfl (Nat.le_of_ble_eq_true rfl) ⟨(Nat.le_of_ble_eq_true rfl), (Nat.le_of_ble_eq_true rfl)⟩ dX1_init_92 (fun v w h => ?_)
  obtain ⟨rfl, b3, b4, v2, w2, rfl, hR2⟩ := h
  refine k_re 6 46 [kO s2 2 [.ref b3, .ref b4, .int (nI ((List.replicate 0 (0, 1)).length))], kI K b3 10 v2, kZ K b4 10 w2, kO p0 1 [.ref p1, .int (nI (nm + 1)), .int (nI size), .int (nI time), .ref s1, .null, .null, .int (nI mark), .int (nI cards), .int (nI cards), .int (nI 0), .int (nI 0), .int (nI 0), .int (nI 0), .int (nI 0), .int (nI 0), .int (nI 0), .int (nI 0)], kO s1 2 [.ref b1, .ref b2, .int (nI ((List.replicate 0 (size, 1)).length))], kI K b1 10 v1, kZ K b2 10 w1, kO p1 1 fs] [.ref s2, .ref p0] rfl rfl rfl rfl ?_
  refine k_perm [3, 0, 1, 2, 4, 5, 6, 7] [kO p0 1 [.ref p1, .int (nI (nm + 1)), .int (nI size), .int (nI time), .ref s1, .null, .null, .int (nI mark), .int (nI cards), .int (nI cards), .int (nI 0), .int (nI 0), .int (nI 0), .int (nI 0), .int (nI 0), .int (nI 0), .int (nI 0), .int (nI 0)], kO s2 2 [.ref b3, .ref b4, .int (nI ((List.replicate 0 (0, 1)).length))], kI K b3 10 v2, kZ K b4 10 w2, kO s1 2 [.ref b1, .ref b2, .int (nI ((List.replicate 0 (size, 1)).length))], kI K b1 10 v1, kZ K b2 10 w1, kO p1 1 fs] rfl rfl ?_
  refine k_putF hC hnm inlX1 tyX1_ok nmX1 0 5 rfl rfl (by decide) lkF_X1_41 rfl rfl rfl rfl (Nat.le_of_ble_eq_true rfl) dX1_init_95 [kO p0 1 [.ref p1, .int (nI (nm + 1)), .int (nI size), .int (nI time), .ref s1, .ref s2, .null, .int (nI mark), .int (nI cards), .int (nI cards), .int (nI 0), .int (nI 0), .int (nI 0), .int (nI 0), .int (nI 0), .int (nI 0), .int (nI 0), .int (nI 0)], kO s2 2 [.ref b3, .ref b4, .int (nI ((List.replicate 0 (0, 1)).length))], kI K b3 10 v2, kZ K b4 10 w2, kO s1 2 [.ref b1, .ref b2, .int (nI ((List.replicate 0 (size, 1)).length))], kI K b1 10 v1, kZ K b2 10 w1, kO p1 1 fs] rfl ?_
  refine k_aload_n hC 0 dX1_init_98 rfl rfl ?_
  refine k_new hC (ci := 0) inlX0 tyX0_ok rfl lkL_X1_44 lkB_X0 lkN_X0 [.null, .null, .int (nI 0)] (by decide) (Nat.le_of_ble_eq_true rfl) (Nat.le_of_ble_eq_true rfl) dX1_init_99 (fun s3 => ?_)
  refine k_eX (show _ = [kO p0 1 [.ref p1, .int (nI (nm + 1)), .int (nI size), .int (nI time), .ref s1, .ref s2, .null, .int (nI mark), .int (nI cards), .int (nI cards), .int (nI 0), .int (nI 0), .int (nI 0), .int (nI 0), .int (nI 0), .int (nI 0), .int (nI 0), .int (nI 0)], kO s2 2 [.ref b3, .ref b4, .int (nI ((List.replicate 0 (0, 1)).length))], kI K b3 10 v2, kZ K b4 10 w2, kO s1 2 [.ref b1, .ref b2, .int (nI ((List.replicate 0 (size, 1)).length))], kI K b1 10 v1, kZ K b2 10 w1, kO p1 1 fs, kO s3 0 [.null, .null, .int (nI 0)]] from rfl) ?_
  refine k_dup hC dX1_init_102 rfl ?_
  refine k_perm [8, 0, 1, 2, 3, 4, 5, 6, 7] [kO s3 0 [.null, .null, .int (nI 0)], kO p0 1 [.ref p1, .int (nI (nm + 1)), .int (nI size), .int (nI time), .ref s1, .ref s2, .null, .int (nI mark), .int (nI cards), .int (nI cards), .int (nI 0), .int (nI 0), .int (nI 0), .int (nI 0), .int (nI 0), .int (nI 0), .int (nI 0), .int (nI 0)], kO s2 2 [.ref b3, .ref b4, .int (nI ((List.replicate 0 (0, 1)).length))], kI K b3 10 v2, kZ K b4 10 w2, kO s1 2 [.ref b1, .ref b2, .int (nI ((List.replicate 0 (size, 1)).length))], kI K b1 10 v1, kZ K b2 10 w1, kO p1 1 fs] rfl rfl ?_
  refine k_callIN hC (As := []) (cX0_init_k l K s3) [kO p0 1 [.ref p1, .int (nI (nm + 1)), .int (nI size), .int (nI time), .ref s1, .ref s2, .null, .int (nI mark), .int (nI cards), .int (nI cards), .int (nI 0), .int (nI 0), .int (nI 0), .int (nI 0), .int (nI 0), .int (nI 0), .int (nI 0), .int (nI 0)], kO s2 2 [.ref b3, .ref b4, .int (nI ((List.replicate 0 (0, 1)).length))], kI K b3 10 v2, kZ K b4 10 w2, kO s1 2 [.ref b1, .ref b2, .int (nI ((List.replicate 0 (size, 1)).length))], kI K b1 10 v1, kZ K b2 10 w1, kO p1 1 fs] rfl (kAll3 lkI_yX0_init lkN_X0 lkC_yX0_init) (List.mem_of_getElem? (i := 5) rfl) rfl 0 (by decide) ⟨(Nat.le_of_ble_eq_true rfl), (Nat.le_of_ble_eq_true rfl)⟩ rfl rfl (Nat.le_of_ble_eq_true rfl) ⟨(Nat.le_of_ble_eq_true rfl), (Nat.le_of_ble_eq_true rfl)⟩ dX1_init_103 (fun v w h => ?_)
  obtain ⟨rfl, b5, b6, v3, w3, rfl⟩ := h
  refine k_re 9 59 [kO s3 0 [.ref b5, .ref b6, .int (nI 0)], kI K b5 5 v3, kI K b6 5 w3, kO p0 1 [.ref p1, .int (nI (nm + 1)), .int (nI size), .int (nI time), .ref s1, .ref s2, .null, .int (nI mark), .int (nI cards), .int (nI cards), .int (nI 0), .int (nI 0), .int (nI 0), .int (nI 0), .int (nI 0), .int (nI 0), .int (nI 0), .int (nI 0)], kO s2 2 [.ref b3, .ref b4, .int (nI ((List.replicate 0 (0, 1)).length))], kI K b3 10 v2, kZ K b4 10 w2, kO s1 2 [.ref b1, .ref b2, .int (nI ((List.replicate 0 (size, 1)).length))], kI K b1 10 v1, kZ K b2 10 w1, kO p1 1 fs] [.ref s3, .ref p0] rfl rfl rfl rfl ?_
  refine k_perm [3, 0, 1, 2, 4, 5, 6, 7, 8, 9, 10] [kO p0 1 [.ref p1, .int (nI (nm + 1)), .int (nI size), .int (nI time), .ref s1, .ref s2, .null, .int (nI mark), .int (nI cards), .int (nI cards), .int (nI 0), .int (nI 0), .int (nI 0), .int (nI 0), .int (nI 0), .int (nI 0), .int (nI 0), .int (nI 0)], kO s3 0 [.ref b5, .ref b6, .int (nI 0)], kI K b5 5 v3, kI K b6 5 w3, kO s2 2 [.ref b3, .ref b4, .int (nI ((List.replicate 0 (0, 1)).length))], kI K b3 10 v2, kZ K b4 10 w2, kO s1 2 [.ref b1, .ref b2, .int (nI ((List.replicate 0 (size, 1)).length))], kI K b1 10 v1, kZ K b2 10 w1, kO p1 1 fs] rfl rfl ?_
  refine k_putF hC hnm inlX1 tyX1_ok nmX1 0 6 rfl rfl (by decide) lkF_X1_47 rfl rfl rfl rfl (Nat.le_of_ble_eq_true rfl) dX1_init_106 [kO p0 1 [.ref p1, .int (nI (nm + 1)), .int (nI size), .int (nI time), .ref s1, .ref s2, .ref s3, .int (nI mark), .int (nI cards), .int (nI cards), .int (nI 0), .int (nI 0), .int (nI 0), .int (nI 0), .int (nI 0), .int (nI 0), .int (nI 0), .int (nI 0)], kO s3 0 [.ref b5, .ref b6, .int (nI 0)], kI K b5 5 v3, kI K b6 5 w3, kO s2 2 [.ref b3, .ref b4, .int (nI ((List.replicate 0 (0, 1)).length))], kI K b3 10 v2, kZ K b4 10 w2, kO s1 2 [.ref b1, .ref b2, .int (nI ((List.replicate 0 (size, 1)).length))], kI K b1 10 v1, kZ K b2 10 w1, kO p1 1 fs] rfl ?_
  refine k_aload_n hC 0 dX1_init_109 rfl rfl ?_
  refine k_aload_n hC 1 dX1_init_110 rfl rfl ?_
  refine k_ifnonnull hC 118 dX1_init_111 (by decide) ?_
  refine k_iconst hC (nI 1) dX1_init_118 rfl ?_
  refine k_put hC inlX1 tyX1_ok nmX1 0 13 rfl rfl (by decide) lkF_X1_51 rfl rfl rfl (Nat.le_of_ble_eq_true rfl) dX1_init_119 [kO p0 1 [.ref p1, .int (nI (nm + 1)), .int (nI size), .int (nI time), .ref s1, .ref s2, .ref s3, .int (nI mark), .int (nI cards), .int (nI cards), .int (nI 0), .int (nI 0), .int (nI 0), .int (nI 1), .int (nI 0), .int (nI 0), .int (nI 0), .int (nI 0)], kO s3 0 [.ref b5, .ref b6, .int (nI 0)], kI K b5 5 v3, kI K b6 5 w3, kO s2 2 [.ref b3, .ref b4, .int (nI ((List.replicate 0 (0, 1)).length))], kI K b3 10 v2, kZ K b4 10 w2, kO s1 2 [.ref b1, .ref b2, .int (nI ((List.replicate 0 (size, 1)).length))], kI K b1 10 v1, kZ K b2 10 w1, kO p1 1 fs] rfl ?_
  refine k_aload_n hC 0 dX1_init_122 rfl rfl ?_
  refine k_aload_n hC 0 dX1_init_123 rfl rfl ?_
  refine k_get hC inlX1 0 13 rfl rfl (by decide) lkF_X1_51 rfl dX1_init_124 ?_
  refine k_put hC inlX1 tyX1_ok nmX1 0 14 rfl rfl (by decide) lkF_X1_54 rfl rfl rfl (Nat.le_of_ble_eq_true rfl) dX1_init_127 [kO p0 1 [.ref p1, .int (nI (nm + 1)), .int (nI size), .int (nI time), .ref s1, .ref s2, .ref s3, .int (nI mark), .int (nI cards), .int (nI cards), .int (nI 0), .int (nI 0), .int (nI 0), .int (nI 1), .int (nI 1), .int (nI 0), .int (nI 0), .int (nI 0)], kO s3 0 [.ref b5, .ref b6, .int (nI 0)], kI K b5 5 v3, kI K b6 5 w3, kO s2 2 [.ref b3, .ref b4, .int (nI ((List.replicate 0 (0, 1)).length))], kI K b3 10 v2, kZ K b4 10 w2, kO s1 2 [.ref b1, .ref b2, .int (nI ((List.replicate 0 (size, 1)).length))], kI K b1 10 v1, kZ K b2 10 w1, kO p1 1 fs] rfl ?_
  refine k_aload_n hC 0 dX1_init_130 rfl rfl ?_
  refine k_iload hC dX1_init_131 rfl ?_
  refine k_if_eq hC 142 dX1_init_133 (by decide) (fun c3 => ?_) (fun c3 => ?_)
  rotate_left
  · exact absurd rfl c3
  refine k_iconst hC (nI 0) dX1_init_142 rfl ?_
  refine k_put hC inlX1 tyX1_ok nmX1 0 17 rfl rfl (by decide) lkF_X1_57 rfl rfl rfl (Nat.le_of_ble_eq_true rfl) dX1_init_143 [kO p0 1 [.ref p1, .int (nI (nm + 1)), .int (nI size), .int (nI time), .ref s1, .ref s2, .ref s3, .int (nI mark), .int (nI cards), .int (nI cards), .int (nI 0), .int (nI 0), .int (nI 0), .int (nI 1), .int (nI 1), .int (nI 0), .int (nI 0), .int (nI 0)], kO s3 0 [.ref b5, .ref b6, .int (nI 0)], kI K b5 5 v3, kI K b6 5 w3, kO s2 2 [.ref b3, .ref b4, .int (nI ((List.replicate 0 (0, 1)).length))], kI K b3 10 v2, kZ K b4 10 w2, kO s1 2 [.ref b1, .ref b2, .int (nI ((List.replicate 0 (size, 1)).length))], kI K b1 10 v1, kZ K b2 10 w1, kO p1 1 fs] rfl ?_
  refine k_perm [0, 7, 8, 9, 4, 5, 6, 1, 2, 3, 10] [kO p0 1 [.ref p1, .int (nI (nm + 1)), .int (nI size), .int (nI time), .ref s1, .ref s2, .ref s3, .int (nI mark), .int (nI cards), .int (nI cards), .int (nI 0), .int (nI 0), .int (nI 0), .int (nI 1), .int (nI 1), .int (nI 0), .int (nI 0), .int (nI 0)], kO s1 2 [.ref b1, .ref b2, .int (nI ((List.replicate 0 (size, 1)).length))], kI K b1 10 v1, kZ K b2 10 w1, kO s2 2 [.ref b3, .ref b4, .int (nI ((List.replicate 0 (0, 1)).length))], kI K b3 10 v2, kZ K b4 10 w2, kO s3 0 [.ref b5, .ref b6, .int (nI 0)], kI K b5 5 v3, kI K b6 5 w3, kO p1 1 fs] rfl rfl ?_
  exact k_vret hC hE (Nat.le_of_ble_eq_true rfl) (Nat.le_of_ble_eq_true rfl) dX1_init_146 ⟨rfl, mA10 p0 s1 b1 b2 s2 b3 b4 s3 b5 b6, mU6 v1 w1 v2 w2 v3 w3, rfl, rfl, hR1, hR2, mR_nil⟩
end
section
/-! methods that throw: how a body throws, passes on, or catches -/
def kEx (l : Launch) (s : State) (args : Array Value) (below : List Frame) (c : Code) (K : kE) (A : Nat → Prop) (Q : State → Prop) (w0 : va_W) (Px : String → Prop) (mc ms : Nat) : Prop :=
  l.stackTraces = false ∧ (∀ x ∈ c.exceptionTable.toList, False) ∧ ∃ (Qc : Array Value → State → Outcome → State → Prop) (XC : String → State → State → Prop), Q = vx_MQ below Qc XC args s mc ms A ∧
    ∀ (E : String) (H : Heap) (locs : List Loc) (t : State), Px E → va_P K.1 vwCl w0 H → va_S A s.heap H locs → s.vm.Alike t.vm → H.size ≤ t.heap.size → (∀ q : Nat, q < H.size → t.heap[q]? = H[q]?) → XC E s t
def kTB (cls : String) : List Cond := .castable cls cls :: kn_D.map Cond.declares
/-- what a thrown class needs of the tables -/
def kTh (cls : String) (ik ic : Nat) : Prop := Bundle.fit cls = true ∧ Cond.classLink RX3 ik cls ∈ kALL ∧ Cond.initialized cls ∈ kALL ∧ (∀ w ∈ (vx_atS RX3 ic cls ["java/lang/RuntimeException", "java/lang/Exception"]).filter goodWord, w ∈ kALL) ∧ (∀ w ∈ (vx_atS RX3 ic cls ["java/lang/RuntimeException", "java/lang/Exception"]).filter (fun w => !goodWord w), w ∈ kTB cls) ∧ (∀ w ∈ Cond.classLink RX3 ik cls :: Cond.initialized cls :: vx_atS RX3 ic cls ["java/lang/RuntimeException", "java/lang/Exception"], vx_ot w = true) ∧ cls ∈ kn_C
theorem kTh_IS : kTh "java/lang/IllegalStateException" 40 44 := ⟨by decide +kernel, by decide +kernel, by decide +kernel, by decide +kernel, by decide +kernel, by decide +kernel, by decide +kernel⟩
theorem kTh_IA : kTh "java/lang/IllegalArgumentException" 162 166 := ⟨by decide +kernel, by decide +kernel, by decide +kernel, by decide +kernel, by decide +kernel, by decide +kernel, by decide +kernel⟩
theorem kTh_IB : kTh "java/lang/IndexOutOfBoundsException" 167 171 := ⟨by decide +kernel, by decide +kernel, by decide +kernel, by decide +kernel, by decide +kernel, by decide +kernel, by decide +kernel⟩
theorem kP_mem {D : va_G} {cl : List vw_C} {w0 w1 : va_W} {H : Heap} (h : ∀ q ∈ w0, q ∈ w1) (hP : va_P D cl w1 H) : va_P D cl w0 H := by
  intro j q hq
  obtain ⟨i, hi⟩ := List.getElem?_of_mem (h q (List.mem_of_getElem? hq))
  exact hP i q hi
section KEXC
variable {p : Program} {l : Launch} {e : Env} {R : Room} {s : State} {m : MethodId} {args : Array Value} {below : List Frame} {meth : Method} {c : Code} {K : kE} {A : Nat → Prop} {nL : Nat} {Q : State → Prop} {k n : Nat} {pl X : va_W} {lv : List (Nat × Value)} {pc : Nat} {st : List Value} {cc : ByteArray} {own : String}
theorem k_throw {cls text : String} {ik is ic mc ms : Nat} {w0 : va_W} {Px : String → Prop} (hC : kC p s m args meth c K A nL cc RX3) (hE : kEx l s args below c K A Q w0 Px mc ms) (hT : kTh cls ik ic) (hs : (is, text) ∈ kn_S) (hw0 : ∀ q ∈ w0, q ∈ X ++ pl) (hPx : Px cls)
    (hf : 5 < R.frames) (hl9 : (st.map fun v => v.category).sum + 82 ≤ R.locals) (hk : k + 1 ≤ mc ∧ n + 6 ≤ ms) (hR : mc ≤ R.cells ∧ ms ≤ R.slots)
    (d0 : decode cc pc = .ok (.new ik, 3)) (d3 : decode cc (pc + 3) = .ok (.dup, 1)) (d4 : decode cc (pc + 4) = .ok (.ldc is, 2)) (d6 : decode cc (pc + 6) = .ok (.invokespecial ic, 3)) (d9 : decode cc (pc + 9) = .ok (.athrow, 1)) : kW p l e R s m args below meth c K A nL Q k n pl X lv pc st := by
  obtain ⟨h1, hb, h3, h4, h5, h6, h7, h8⟩ := hC
  obtain ⟨hst, hno, Qc, XC, rfl, hXC⟩ := hE
  obtain ⟨t1, t2, t3, t4, t5, t6, t7⟩ := hT
  obtain ⟨g1, g2, g3, g4, g5, g6, g7, g8, g9⟩ := h6
  intro H locs ls hP hD hS hl
  refine vx_throwS (names := ["java/lang/RuntimeException", "java/lang/Exception"]) (A := A) h1 hb hst h4 t1 (by decide +kernel) (h5 _ t2) (h5 _ t3) (g4 _ hs) ?_ t6 g5 g6 hS (by rw [h3]; exact hl.1) d0 d3 d4 d6 d9 (fun x hx => (hno x hx).elim) hf hl9 (Nat.le_trans hk.1 hR.1) (Nat.le_trans hk.2 hR.2) h8 (fun t ht h2 h3 => hXC cls H locs t hPx (kP_mem hw0 hP) hS ht h2 h3) hS.2.2 hk.1 hk.2
  refine vx_hat (B := kTB cls) (fun w hw => h5 w (t4 w hw)) t5 (fun w hw => ?_)
  unfold kTB at hw
  rcases List.mem_cons.mp hw with e1 | e1
  · rw [e1]; exact va_Nw.use rfl (g8 _ t7)
  · obtain ⟨y, hy, rfl⟩ := List.mem_map.mp e1
    exact va_Nw.use rfl (g7 _ hy)
theorem kxF {wc wr : va_W} {H : Heap} {locs : List Loc} (hA : ∀ q : Nat, s.heap.size ≤ q → A q) (hD : va_D A ((wc ++ wr) ++ pl)) (hS : va_S A s.heap H locs) : ∀ q, va_A wc H.size q → A q := by
  intro q h
  rw [List.append_assoc] at hD
  rcases h with ⟨k2, e2, h⟩ | h
  · exact hD.2 k2 (q, e2) (kx_l h)
  · exact hA q (Nat.le_trans hS.1 h)
/-- a callee's run that may throw: what it throws goes on to kx -/
theorem k_ofRunX {wc wr : va_W} {mc ms : Nat} {stk : List Value} {a9 : Array Value} {Po : Option Value → va_W → Prop} {Px : String → Prop} (hX : X = wc ++ wr)
    (hr : ∀ (H : Heap) (locs : List Loc) (ls : Array Slot), va_P K.1 vwCl (X ++ pl) H → va_D A (X ++ pl) → va_S A s.heap H locs → lv_has ls nL lv → vx_Run p l e R s m args below meth c H locs k n mc ms (F0 m pc ls stk) st (kQc K wc H.size Po a9) (kXc K wc H.size Px) (va_A wc H.size))
    (hA : ∀ q : Nat, s.heap.size ≤ q → A q)
    (kx : ∀ (E : String) (H : Heap) (locs : List Loc) (ls : Array Slot) (ce : Cell) (q9 : Nat), Px E → va_P K.1 vwCl (X ++ pl) H → va_D A (X ++ pl) → va_S A s.heap H locs → lv_has ls nL lv → H[q9]? = some ce → ce.vm = .none → s.vm.findClass E = some ce.cls → vx_W p l e R s m args below meth c H locs (k + mc) (n + ms) Q (F0 m pc ls st) q9)
    (kk : ∀ (v : Option Value) (w' : va_W), Po v w' → kW p l e R s m args below meth c K A nL Q (k + mc) (n + ms) pl (w' ++ wr) lv (pc + 3) (v.toList ++ st)) : kW p l e R s m args below meth c K A nL Q k n pl X lv pc stk := by
  intro H locs ls hP hD hS hl T hT X9
  subst hX
  have hF := kxF hA hD hS
  have hP' := hP
  have hD' := hD
  rw [List.append_assoc] at hP' hD'
  rcases hr H locs ls hP hD hS hl T hT X9 with ⟨v, st₀, t, T', L, h0, X', hL, e1, e2, ⟨⟨v', w', hv, hp, hPw, hDw⟩, hz, hk⟩, hst⟩ | ⟨q, st₀, t, T', L, E, ce, h0, X', hL, e1, e2, ⟨hp, hPw, hz, hk⟩, hce, hcv, hcl, hst⟩
  · cases hv
    rw [h0] at hz hk
    obtain ⟨j1, j2⟩ := kj_join hP' hD' hk hF hPw hDw
    rw [← List.append_assoc] at j1 j2
    obtain ⟨t2, a1, b1⟩ := kk v w' hp T'.heap (locs ++ L) ls (by rw [e1]; exact j1) j2
      ⟨Nat.le_trans hS.1 (by rw [e1]; exact hz), fun q h1 h2 => by rw [e1, hk q (Nat.lt_of_lt_of_le h1 hS.1) (fun z => h2 (hF q z))]; exact hS.2.1 q h1 h2, fun q hq => by
        rcases List.mem_append.mp hq with h | h
        · exact hS.2.2 q h
        · exact hF _ (hL q h)⟩ hl T' rfl X'
    exact ⟨t2, hst t2 a1, b1⟩
  · rw [h0] at hz hk
    have hDw : va_D (va_A wc H.size) wc := ⟨fun i j x y hi hj hxy => hD'.1 i j x y (kx_l hi) (kx_l hj) hxy, fun _ _ hk => va_A.in hk⟩
    obtain ⟨j1, j2⟩ := kj_join hP' hD' hk hF hPw hDw
    rw [← List.append_assoc] at j1 j2
    obtain ⟨t2, a1, b1⟩ := kx E T'.heap (locs ++ L) ls ce q hp (by rw [e1]; exact j1) j2
      ⟨Nat.le_trans hS.1 (by rw [e1]; exact hz), fun q h1 h2 => by rw [e1, hk q (Nat.lt_of_lt_of_le h1 hS.1) (fun z => h2 (hF q z))]; exact hS.2.1 q h1 h2, fun q hq => by
        rcases List.mem_append.mp hq with h | h
        · exact hS.2.2 q h
        · exact hF _ (hL q h)⟩ hl (by rw [e1]; exact hce) hcv hcl T' rfl X'
    exact ⟨t2, hst.trans a1, b1⟩
theorem k_out {w0 : va_W} {Px : String → Prop} {mc ms : Nat} (hC : kC p s m args meth c K A nL cc own) (hE : kEx l s args below c K A Q w0 Px mc ms) (hw0 : ∀ q ∈ w0, q ∈ X ++ pl) (hk : k ≤ mc ∧ n ≤ ms) : ∀ (E : String) (H : Heap) (locs : List Loc) (ls : Array Slot) (ce : Cell) (q9 : Nat), Px E → va_P K.1 vwCl (X ++ pl) H → va_D A (X ++ pl) → va_S A s.heap H locs → lv_has ls nL lv → H[q9]? = some ce → ce.vm = .none → s.vm.findClass E = some ce.cls → vx_W p l e R s m args below meth c H locs k n Q (F0 m pc ls st) q9 := by
  obtain ⟨h1, hb, h3, h4, h5, h6, h7, h8⟩ := hC
  obtain ⟨hst, hno, Qc, XC, rfl, hXC⟩ := hE
  intro E H locs ls ce q9 hPx hP hD hS hl hce hcv hcl
  exact vx_out (fun x hx => (hno x hx).elim) h8 hce hcv hcl (fun t ht hal => hXC E H locs t hPx (kP_mem hw0 hP) hS hal (by rw [ht]; exact Nat.le_refl _) (fun q _ => by rw [ht])) hS.2.2 hk.1 hk.2
/-- a call of a method of the own class that may throw; what it throws leaves this method too -/
theorem k_callXV {wc : va_W} {y : MethodName} {bytes : ByteArray} {maxL idx b ci N mc ms : Nat} {C : String} {T : u_T} {ret : Option FieldType} {rm : Room} {As : List Value} {fs : List Value} {Po : Option Value → va_W → Prop} {Px1 Px : String → Prop} {stk : List Value} {w0 : va_W} (hC : kC p s m args meth c K A nL cc own) (hE : kEx l s args below c K A Q w0 Px mc ms) (hM : kX l y (kws y bytes maxL ret) rm K (.ref b :: As) wc Po Px1) (wr : va_W) (hX : X = wc ++ wr) (hw0 : ∀ q ∈ w0, q ∈ X ++ pl) (hPx : ∀ E, Px1 E → Px E) (i : Nat) (he : wc[i]? = some (b, .inr (ci, fs))) (hcl : vwCl[ci]? = some (C, T, N))
    (hT : ∀ w ∈ ([.methodLink own idx y, .instanceMethod y, .selects C y y, .initialized C, .code y bytes maxL ret] : List Cond), w ∈ kALL) (nn : Nat) (hdd : y.cls = C ∧ y.cls ≠ "java/lang/invoke/MethodHandle" ∧ y.cls ≠ "java/lang/invoke/VarHandle" ∧ (parseMethodDescriptor y.desc).map (fun d => d.parameters.length) = some nn) (hR : rm.frames + 1 ≤ R.frames ∧ 8 + (maxL + 11) + rm.locals ≤ R.locals)
    (hn : As.length = nn) (hst : stk = As.reverse ++ .ref b :: st) (h8 : (st.map fun v => v.category).sum ≤ 8) (hf : k + rm.cells ≤ R.cells ∧ n + rm.slots ≤ R.slots) (hkm : k + rm.cells ≤ mc ∧ n + rm.slots ≤ ms) (hd : decode cc pc = .ok (.invokevirtual idx, 3))
    (kk : ∀ (v : Option Value) (w' : va_W), Po v w' → kW p l e R s m args below meth c K A nL Q (k + rm.cells) (n + rm.slots) pl (w' ++ wr) lv (pc + 3) (v.toList ++ st)) : kW p l e R s m args below meth c K A nL Q k n pl X lv pc stk := by
  have hG : GoodIn kALL (wsV own idx C y (kws y bytes maxL ret)) := by
    intro w hw
    unfold wsV at hw
    rcases List.mem_append.mp hw with h | h
    · exact kgood w (hT w (by simp only [List.mem_cons] at h ⊢; grind))
    · exact kgood1 (hT _ (by simp)) kgood w h
  refine k_ofRunX (a9 := (Value.ref b :: As).toArray) hX (fun H locs ls hP hD hS hl => ?_) hC.2.2.2.2.2.2.1 (fun E H locs ls ce q9 h1 => k_out hC hE hw0 hkm E H locs ls ce q9 (hPx E h1)) kk
  subst hst
  exact vx_runV (As := As) (rest := st) (ws := kws y bytes maxL ret) ⟨hC.1, hC.2.1, hC.2.2.1, hC.2.2.2.1, hC.2.2.2.2.1⟩ (hM H.size) (cwV nn hC.2.2.2.2.1 hG rfl rfl rfl hdd hR) ⟨kPc_blind, k_recv hC hX hP hcl he, k_pre hC hX hP hD hS⟩ rfl hn hl.1 rfl (lv_room h8) hd hf
theorem k_callXS {wc : va_W} {y : MethodName} {bytes : ByteArray} {maxL idx mc ms : Nat} {ret : Option FieldType} {rm : Room} {As : List Value} {Po : Option Value → va_W → Prop} {Px1 Px : String → Prop} {stk : List Value} {w0 : va_W} (hC : kC p s m args meth c K A nL cc own) (hE : kEx l s args below c K A Q w0 Px mc ms) (hM : kX l y (kws y bytes maxL ret) rm K As wc Po Px1) (wr : va_W) (hX : X = wc ++ wr) (hw0 : ∀ q ∈ w0, q ∈ X ++ pl) (hPx : ∀ E, Px1 E → Px E)
    (hT : ∀ w ∈ ([.methodLink own idx y, .static y, .initialized own, .code y bytes maxL ret] : List Cond), w ∈ kALL) (nn : Nat) (hdd : y.cls = own ∧ y.cls ≠ "java/lang/invoke/MethodHandle" ∧ y.cls ≠ "java/lang/invoke/VarHandle" ∧ (parseMethodDescriptor y.desc).map (fun d => d.parameters.length) = some nn) (hR : rm.frames + 1 ≤ R.frames ∧ 8 + (maxL + 11) + rm.locals ≤ R.locals)
    (hn : As.length = nn) (hst : stk = As.reverse ++ st) (h8 : (st.map fun v => v.category).sum ≤ 8) (hf : k + rm.cells ≤ R.cells ∧ n + rm.slots ≤ R.slots) (hkm : k + rm.cells ≤ mc ∧ n + rm.slots ≤ ms) (hd : decode cc pc = .ok (.invokestatic idx, 3))
    (kk : ∀ (v : Option Value) (w' : va_W), Po v w' → kW p l e R s m args below meth c K A nL Q (k + rm.cells) (n + rm.slots) pl (w' ++ wr) lv (pc + 3) (v.toList ++ st)) : kW p l e R s m args below meth c K A nL Q k n pl X lv pc stk := by
  have hG : GoodIn kALL (wsS own idx y (kws y bytes maxL ret)) := by
    intro w hw
    unfold wsS at hw
    rcases List.mem_append.mp hw with h | h
    · exact kgood w (hT w (by simp only [List.mem_cons] at h ⊢; grind))
    · exact kgood1 (hT _ (by simp)) kgood w h
  refine k_ofRunX (a9 := As.toArray) hX (fun H locs ls hP hD hS hl9 => ?_) hC.2.2.2.2.2.2.1 (fun E H locs ls ce q9 h1 => k_out hC hE hw0 hkm E H locs ls ce q9 (hPx E h1)) kk
  subst hst
  have h5 := hC.2.2.2.2.1
  exact vx_runS (As := As) (rest := st) (ws := kws y bytes maxL ret) ⟨hC.1, hC.2.1, hC.2.2.1, hC.2.2.2.1, h5⟩ (hM H.size) (cwS nn h5 hG rfl rfl rfl hdd hR) ⟨kPc_blind, k_pre hC hX hP hD hS⟩ rfl hn hl9.1 rfl (lv_room h8) hd hf
/-- a call under a handler: for each class that may come, the row of the table that takes it -/
theorem k_callXC {wc : va_W} {y : MethodName} {bytes : ByteArray} {maxL idx b ci N : Nat} {C : String} {T : u_T} {ret : Option FieldType} {rm : Room} {As : List Value} {fs : List Value} {Po : Option Value → va_W → Prop} {Px1 : String → Prop} {stk : List Value} (hC : kC p s m args meth c K A nL cc own) (hM : kX l y (kws y bytes maxL ret) rm K (.ref b :: As) wc Po Px1) (wr : va_W) (hX : X = wc ++ wr) (i : Nat) (he : wc[i]? = some (b, .inr (ci, fs))) (hcl : vwCl[ci]? = some (C, T, N))
    (hT : ∀ w ∈ ([.methodLink own idx y, .instanceMethod y, .selects C y y, .initialized C, .code y bytes maxL ret] : List Cond), w ∈ kALL) (nn : Nat) (hdd : y.cls = C ∧ y.cls ≠ "java/lang/invoke/MethodHandle" ∧ y.cls ≠ "java/lang/invoke/VarHandle" ∧ (parseMethodDescriptor y.desc).map (fun d => d.parameters.length) = some nn) (hR : rm.frames + 1 ≤ R.frames ∧ 8 + (maxL + 11) + rm.locals ≤ R.locals)
    (hn : As.length = nn) (hst : stk = As.reverse ++ .ref b :: st) (h8 : (st.map fun v => v.category).sum ≤ 8) (hf : k + rm.cells ≤ R.cells ∧ n + rm.slots ≤ R.slots) (hd : decode cc pc = .ok (.invokevirtual idx, 3))
    (kx : ∀ E : String, Px1 E → E ∈ kn_C ∧ ∃ (pre : List ExceptionTableEntry) (x : ExceptionTableEntry) (suf : List ExceptionTableEntry), c.exceptionTable.toList = pre ++ x :: suf ∧ (∀ z ∈ pre, covers z pc = false ∨ (z.catchType ≠ 0 ∧ ∃ nm : String, Cond.classLink own z.catchType nm ∈ kALL ∧ (E, nm) ∈ kn_X)) ∧ covers x pc = true ∧ x.catchType ≠ 0 ∧ Cond.classLink own x.catchType E ∈ kALL ∧ ∀ q9 : Nat, kW p l e R s m args below meth c K A nL Q (k + rm.cells) (n + rm.slots) pl X lv x.handlerPc [.ref q9])
    (kk : ∀ (v : Option Value) (w' : va_W), Po v w' → kW p l e R s m args below meth c K A nL Q (k + rm.cells) (n + rm.slots) pl (w' ++ wr) lv (pc + 3) (v.toList ++ st)) : kW p l e R s m args below meth c K A nL Q k n pl X lv pc stk := by
  have hG : GoodIn kALL (wsV own idx C y (kws y bytes maxL ret)) := by
    intro w hw
    unfold wsV at hw
    rcases List.mem_append.mp hw with h | h
    · exact kgood w (hT w (by simp only [List.mem_cons] at h ⊢; grind))
    · exact kgood1 (hT _ (by simp)) kgood w h
  refine k_ofRunX (a9 := (Value.ref b :: As).toArray) (Px := Px1) hX (fun H locs ls hP hD hS hl => ?_) hC.2.2.2.2.2.2.1 (fun E H locs ls ce q9 h1 hP hD hS hl hce hcv hcl => ?_) kk
  · subst hst
    exact vx_runV (As := As) (rest := st) (ws := kws y bytes maxL ret) ⟨hC.1, hC.2.1, hC.2.2.1, hC.2.2.2.1, hC.2.2.2.2.1⟩ (hM H.size) (cwV nn hC.2.2.2.2.1 hG rfl rfl rfl hdd hR) ⟨kPc_blind, k_recv hC hX hP hcl he, k_pre hC hX hP hD hS⟩ rfl hn hl.1 rfl (lv_room h8) hd hf
  · obtain ⟨hEC, pre, x, suf, hsp, hpass, hx, h0, hlk, hw⟩ := kx E h1
    have h5 := hC.2.2.2.2.1
    have hG9 := hC.2.2.2.2.2.1
    exact vx_catch hC.2.2.2.1 pre x suf hsp (fun z hz => (hpass z hz).imp id (fun q => ⟨q.1, q.2.choose, h5 _ q.2.choose_spec.1, hG9.2.2.2.2.2.2.2.2 _ q.2.choose_spec.2⟩)) hx h0 (h5 _ hlk) (va_Nw.use rfl (hG9.2.2.2.2.2.2.2.1 _ hEC)) hce hcv hcl (hw q9 H locs ls hP hD hS hl)
/-- a call of a static method with a table of its own, that never throws -/
theorem k_callXH {wc : va_W} {y : MethodName} {bytes : ByteArray} {maxL idx : Nat} {ret : Option FieldType} {hh : List (Nat × Nat × Nat × Nat)} {rm : Room} {As : List Value} {Po : Option Value → va_W → Prop} {stk : List Value} (hC : kC p s m args meth c K A nL cc own) (hM : kX l y (kwh y bytes maxL ret hh) rm K As wc Po (fun _ => False)) (wr : va_W) (hX : X = wc ++ wr)
    (hT : ∀ w ∈ ([.methodLink own idx y, .static y, .initialized y.cls, .codeWith y bytes maxL ret hh] : List Cond), w ∈ kALL) (nn : Nat) (hdd : y.cls ≠ "java/lang/invoke/MethodHandle" ∧ y.cls ≠ "java/lang/invoke/VarHandle" ∧ (parseMethodDescriptor y.desc).map (fun d => d.parameters.length) = some nn) (hR : rm.frames + 1 ≤ R.frames ∧ 8 + (maxL + 11) + rm.locals ≤ R.locals)
    (hn : As.length = nn) (hst : stk = As.reverse ++ st) (h8 : (st.map fun v => v.category).sum ≤ 8) (hf : k + rm.cells ≤ R.cells ∧ n + rm.slots ≤ R.slots) (hd : decode cc pc = .ok (.invokestatic idx, 3))
    (kk : ∀ (v : Option Value) (w' : va_W), Po v w' → kW p l e R s m args below meth c K A nL Q (k + rm.cells) (n + rm.slots) pl (w' ++ wr) lv (pc + 3) (v.toList ++ st)) : kW p l e R s m args below meth c K A nL Q k n pl X lv pc stk := by
  have hG : GoodIn kALL (va_wsS own idx y (kwh y bytes maxL ret hh)) := by
    intro w hw
    unfold va_wsS at hw
    rcases List.mem_append.mp hw with h | h
    · exact kgood w (hT w (by simp only [List.mem_cons] at h ⊢; grind))
    · exact kgood1 (hT _ (by simp)) kgood w h
  refine k_ofRunX (a9 := As.toArray) (Px := fun _ => False) hX (fun H locs ls hP hD hS hl9 => ?_) hC.2.2.2.2.2.2.1 (fun E H locs ls ce q9 h1 => h1.elim) kk
  subst hst
  have h5 := hC.2.2.2.2.1
  exact vx_runSX (As := As) (rest := st) (ws := kwh y bytes maxL ret hh) ⟨hC.1, hC.2.1, hC.2.2.1, hC.2.2.2.1, h5⟩ (hM H.size) (vx_cwSW nn h5 hG rfl rfl rfl hdd hR) ⟨kPc_blind, k_pre hC hX hP hD hS⟩ rfl hn hl9.1 rfl (lv_room h8) hd hf
end KEXC
theorem kX_of {l : Launch} (hst : l.stackTraces = false) {y : MethodName} {cc : ByteArray} {maxL : Nat} {ret : Option FieldType} {rm : Room} {K : kE} {av : List Value} {pl X w : va_W} {Po : Option Value → va_W → Prop} {Px : String → Prop} (hw : w = X ++ pl) (hy : plainName y.cls = true) (hav : (lg_sl av).length ≤ maxL)
    (body : ∀ (p : Program) (e : Env) (s : State) (m : MethodId) (args : Array Value) (below : List Frame) (meth : Method) (c : Code) (A : Nat → Prop) (Q : State → Prop), kC p s m args meth c K A maxL cc y.cls → kEx l s args below c K A Q w Px rm.cells rm.slots → kEn p l e rm s m args below meth c K A Q Po ret rm.cells rm.slots → kW p l e rm s m args below meth c K A maxL Q 0 0 pl X (lv_args 0 av) 0 []) : kX l y (kws y cc maxL ret) rm K av w Po Px := by
  intro sz
  refine vx_ofW (cc := cc) (maxL := maxL) (ret := ret) hy rfl ?_
  intro p e s m args below meth c s₁ B hml hno hv
  obtain ⟨rfl, hsz, hP, hD0, hG⟩ := hv
  have hts := atoms_spec (ws := kws y cc maxL ret) B.pre
  have hown : s.vm.findClass y.cls = some m.cls := findClass_of_methodNamed B.named
  subst hsz
  have hA : ∀ q : Nat, s.heap.size ≤ q → va_A w s.heap.size q := fun q h => Or.inr h
  have hl := lv_entry av (n := maxL) hav
  rw [lg_entry_eq]
  generalize (lg_sl av ++ List.replicate (maxL - (lg_sl av).length) Slot.unset).toArray = ls at hl ⊢
  refine body p e s m av.toArray below meth c (va_A w s.heap.size) _ ⟨B.exec, B.bytes, hml, hown, fun w hw => hts w (List.mem_cons_of_mem _ hw), hG, hA, B.notSynchronized⟩ ⟨hst, hno, kQc K w s.heap.size Po, kXc K w s.heap.size Px, rfl, fun E H locs t hPx hPw hS hal hsz2 hsame => ⟨hPx, hPw.kept (fun j q hq => hsame q.1 (hPw j q hq).lt), Nat.le_trans hS.1 hsz2, fun q h1 h2 => by rw [hsame q (Nat.lt_of_lt_of_le h1 hS.1)]; exact hS.2.1 q h1 h2⟩⟩ ⟨B.returns, kQc K w s.heap.size Po, fun k n H locs g h1 h2 h3 => W.widen h1 h2 (vx_ret h3), fun v w' H locs t hp hP hD hS ht => ⟨⟨v, w', rfl, hp, by rw [ht]; exact hP, hD⟩, hS.F ht⟩⟩ s.heap [] ls (hw ▸ hP) (hw ▸ hD0.self) va_S.rf hl
/-- a method with a table of its own -/
theorem kXH_of {l : Launch} {y : MethodName} {cc : ByteArray} {maxL : Nat} {ret : Option FieldType} {hh : List (Nat × Nat × Nat × Nat)} {rm : Room} {K : kE} {av : List Value} {pl X w : va_W} {Po : Option Value → va_W → Prop} (hmem : Cond.codeWith y cc maxL ret hh ∈ kALL) (hw : w = X ++ pl) (hy : plainName y.cls = true) (hav : (lg_sl av).length ≤ maxL)
    (body : ∀ (p : Program) (e : Env) (s : State) (m : MethodId) (args : Array Value) (below : List Frame) (meth : Method) (c : Code) (A : Nat → Prop) (Q : State → Prop), kC p s m args meth c K A maxL cc y.cls → c.exceptionTable.toList = tableOf hh → kEn p l e rm s m args below meth c K A Q Po ret rm.cells rm.slots → kW p l e rm s m args below meth c K A maxL Q 0 0 pl X (lv_args 0 av) 0 []) : kX l y (kwh y cc maxL ret hh) rm K av w Po (fun _ => False) := by
  intro sz
  refine vx_ofWH (cc := cc) (maxL := maxL) (ret := ret) hy rfl ?_
  intro p e s m args below meth c s₁ B hml hv
  obtain ⟨rfl, hsz, hP, hD0, hG⟩ := hv
  have hts := atoms_spec (ws := kwh y cc maxL ret hh) B.pre
  have hown : s.vm.findClass y.cls = some m.cls := findClass_of_methodNamed B.named
  subst hsz
  have hA : ∀ q : Nat, s.heap.size ≤ q → va_A w s.heap.size q := fun q h => Or.inr h
  have hl := lv_entry av (n := maxL) hav
  rw [lg_entry_eq]
  generalize (lg_sl av ++ List.replicate (maxL - (lg_sl av).length) Slot.unset).toArray = ls at hl ⊢
  refine body p e s m av.toArray below meth c (va_A w s.heap.size) _ ⟨B.exec, B.bytes, hml, hown, fun w hw => hts w (List.mem_cons_of_mem _ hw), hG, hA, B.notSynchronized⟩ (vx_table (x := y) B (hts _ List.mem_cons_self)) ⟨B.returns, kQc K w s.heap.size Po, fun k n H locs g h1 h2 h3 => W.widen h1 h2 (vx_ret h3), fun v w' H locs t hp hP hD hS ht => ⟨⟨v, w', rfl, hp, by rw [ht]; exact hP, hD⟩, hS.F ht⟩⟩ s.heap [] ls (hw ▸ hP) (hw ▸ hD0.self) va_S.rf hl
end
section
/-! the chain of stages as a world, and the whole line as a value -/
abbrev mS : Type := Nat × Bool × (Nat → Int32) × (Nat → mT)
def mAh (ad : Nat → Nat → Nat) : Nat → Value
  | 0 => .null
  | k + 1 => .ref (ad k 0)
def wCh (K : kE) (ad : Nat → Nat → Nat) (τs : Nat → mT) (us : Nat → Nat → Nat → Int32) (P : Nat → Bool) : Nat → va_W
  | 0 => []
  | k + 1 => if P k = true then wT K (mAh ad k) (ad k) (τs k) (us k) ++ wCh K ad τs us P k else wCh K ad τs us P k
abbrev wX (K : kE) (x : Nat) (ad : Nat → Nat → Nat) (σ : mS) (us : Nat → Nat → Nat → Int32) : va_W := kO x 3 [mAh ad σ.1, .int (nI σ.1), .int (kB σ.2.1), .int (σ.2.2.1 3), .int (σ.2.2.1 4), .int (σ.2.2.1 5), .int (σ.2.2.1 6), .int (σ.2.2.1 7)] :: wCh K ad σ.2.2.2 us (fun _ => true) σ.1
def mSok (σ : mS) : Prop := σ.1 ≤ 6 ∧ ∀ k : Nat, k < σ.1 → mInv (decide (k = 0)) (σ.2.2.2 k) ∧ (σ.2.2.2 k).1 1 = k
def mURT (σ : mS) (us : Nat → Nat → Nat → Int32) : Prop := ∀ k : Nat, k < σ.1 → mRT (σ.2.2.2 k) (us k)
theorem wCh_congr {K : kE} {ad : Nat → Nat → Nat} {τs τs' : Nat → mT} {us us' : Nat → Nat → Nat → Int32} {P : Nat → Bool} {n : Nat} (h : ∀ j : Nat, j < n → P j = true → τs j = τs' j ∧ us j = us' j) : wCh K ad τs us P n = wCh K ad τs' us' P n := by
  induction n with
  | zero => rfl
  | succ n ih =>
    have ih := ih (fun j hj hp => h j (Nat.lt_succ_of_lt hj) hp)
    unfold wCh
    by_cases hp : P n = true
    · rw [if_pos hp, if_pos hp, ih, (h n (Nat.lt_succ_self n) hp).1, (h n (Nat.lt_succ_self n) hp).2]
    · rw [if_neg hp, if_neg hp, ih]
theorem wCh_ad {K : kE} {ad ad' : Nat → Nat → Nat} {τs : Nat → mT} {us us' : Nat → Nat → Nat → Int32} {P : Nat → Bool} {n : Nat} (h : ∀ j : Nat, j < n → ad j = ad' j ∧ us j = us' j) : wCh K ad τs us P n = wCh K ad' τs us' P n := by
  induction n with
  | zero => rfl
  | succ n ih =>
    have ih := ih (fun j hj => h j (Nat.lt_succ_of_lt hj))
    have e : mAh ad n = mAh ad' n := by
      cases n with
      | zero => rfl
      | succ n => show Value.ref (ad n 0) = Value.ref (ad' n 0); rw [(h n (by omega)).1]
    unfold wCh
    rw [ih, e, (h n (Nat.lt_succ_self n)).1, (h n (Nat.lt_succ_self n)).2]
theorem wCh_P {K : kE} {ad : Nat → Nat → Nat} {τs : Nat → mT} {us : Nat → Nat → Nat → Int32} {P P' : Nat → Bool} {n : Nat} (h : ∀ j : Nat, j < n → P j = P' j) : wCh K ad τs us P n = wCh K ad τs us P' n := by
  induction n with
  | zero => rfl
  | succ n ih =>
    have ih := ih (fun j hj => h j (Nat.lt_succ_of_lt hj))
    unfold wCh
    rw [ih, h n (Nat.lt_succ_self n)]
theorem wCh_open {K : kE} {ad : Nat → Nat → Nat} {τs : Nat → mT} {us : Nat → Nat → Nat → Int32} {P : Nat → Bool} {n k : Nat} (hk : k < n) (hP : P k = true) : (wCh K ad τs us P n).Perm (wT K (mAh ad k) (ad k) (τs k) (us k) ++ wCh K ad τs us (fun j => P j && !(j == k)) n) := by
  induction n with
  | zero => exact absurd hk (Nat.not_lt_zero k)
  | succ n ih =>
    unfold wCh
    by_cases e : k = n
    · subst e
      have h1 : ¬ ((P k && !(k == k)) = true) := by simp
      have h3 : ∀ j : Nat, j < k → P j = (P j && !(j == k)) := fun j hj => by
        have h4 : (j == k) = false := by
          rw [beq_eq_false_iff_ne]; omega
        rw [h4]; simp
      rw [if_pos hP, if_neg h1, wCh_P h3]
    · have ih := ih (by omega)
      have h2 : (P n && !(n == k)) = P n := by
        have h4 : (n == k) = false := by
          rw [beq_eq_false_iff_ne]; omega
        rw [h4]; simp
      rw [h2]
      by_cases hp : P n = true
      · rw [if_pos hp, if_pos hp]
        refine (List.Perm.append_left _ ih).trans ?_
        rw [← List.append_assoc, ← List.append_assoc]
        exact List.Perm.append_right _ List.perm_append_comm
      · rw [if_neg hp, if_neg hp]
        exact ih
theorem wCh_close {K : kE} {ad : Nat → Nat → Nat} {τs : Nat → mT} {us : Nat → Nat → Nat → Int32} {P : Nat → Bool} {n k : Nat} (hk : k < n) (hP : P k = true) (τ : mT) (u : Nat → Nat → Int32) : (wT K (mAh ad k) (ad k) τ u ++ wCh K ad τs us (fun j => P j && !(j == k)) n).Perm (wCh K ad (va_up τs k τ) (va_up us k u) P n) := by
  have h := wCh_open (K := K) (ad := ad) (τs := va_up τs k τ) (us := va_up us k u) hk hP
  rw [va_up_self, va_up_self, wCh_congr (τs := va_up τs k τ) (us := va_up us k u) (τs' := τs) (us' := us) (P := fun j => P j && !(j == k)) (fun j _ hp => by
    have hne : j ≠ k := by intro q; subst q; simp at hp
    exact ⟨va_up_ne _ _ hne, va_up_ne _ _ hne⟩)] at h
  exact h.symm
theorem va_D_nd {A : Nat → Prop} {ws : va_W} : va_D A ws ↔ (ws.map Prod.fst).Nodup ∧ ∀ q ∈ ws, A q.1 := by
  constructor
  · intro h
    refine ⟨?_, fun q hq => ?_⟩
    · rw [List.nodup_iff_pairwise_ne, List.pairwise_iff_getElem]
      intro i j hi hj hij e
      simp only [List.length_map] at hi hj
      simp only [List.getElem_map] at e
      have := h.1 i j ws[i] ws[j] (List.getElem?_eq_getElem hi) (List.getElem?_eq_getElem hj) e
      omega
    · obtain ⟨i, hi⟩ := List.getElem?_of_mem hq
      exact h.2 i q hi
  · intro h
    refine ⟨fun i j x y hi hj hxy => ?_, fun j q hq => h.2 q (List.mem_of_getElem? hq)⟩
    have hi' : (ws.map Prod.fst)[i]? = some x.1 := by rw [List.getElem?_map, hi]; rfl
    have hj' : (ws.map Prod.fst)[j]? = some y.1 := by rw [List.getElem?_map, hj]; rfl
    exact (List.getElem?_inj (List.getElem?_eq_some_iff.mp hi').1 h.1).mp (by rw [hi', hj', hxy])
theorem va_D_perm {A : Nat → Prop} {w1 w2 : va_W} (hp : w1.Perm w2) (h : va_D A w1) : va_D A w2 := by
  rw [va_D_nd] at h ⊢
  exact ⟨(hp.map _).nodup_iff.mp h.1, fun q hq => h.2 q (hp.mem_iff.mpr hq)⟩
section KPERM
variable {p : Program} {l : Launch} {e : Env} {R : Room} {s : State} {m : MethodId} {args : Array Value} {below : List Frame} {meth : Method} {c : Code} {K : kE} {A : Nat → Prop} {nL : Nat} {Q : State → Prop} {k n : Nat} {pl X : va_W} {lv : List (Nat × Value)} {pc : Nat} {st : List Value}
theorem k_perm2 (pl2 X2 : va_W) (hp : (X ++ pl).Perm (X2 ++ pl2)) (kk : kW p l e R s m args below meth c K A nL Q k n pl2 X2 lv pc st) : kW p l e R s m args below meth c K A nL Q k n pl X lv pc st :=
  k_world pl2 X2 (fun q hq => hp.mem_iff.mpr hq) (Or.inr fun _ h => va_D_perm hp h) kk
end KPERM
/-- the arrays' own names: which stage is asked -/
abbrev mHas (σ : mS) (lo : Nat) (p : Int32) : Prop := nI lo ≤ p ∧ p < nI σ.1
abbrev mIn (v : Int32) (lo hi : Nat) : Prop := nI lo ≤ v ∧ v ≤ nI hi
def mIx (p : Int32) : Nat := p.toNatClampNeg
theorem mIx_nI {k : Nat} (h : k < 2 ^ 31) : mIx (nI k) = k := nI_clamp h
theorem mHas_k {σ : mS} {lo k : Nat} (h6 : σ.1 ≤ 6) (h1 : lo ≤ k) (h2 : k < σ.1) : mHas σ lo (nI k) := ⟨nI_le h1 (by omega), nI_lt h2 (by omega)⟩
theorem kI_cases (p : Int32) : p < 0 ∨ ∃ j : Nat, j < 2 ^ 31 ∧ p = nI j := by
  by_cases h : p < 0
  · exact Or.inl h
  · exact Or.inr (nI_of h)
theorem kneg_lt {p : Int32} {a : Nat} (h : p < 0) (ha : a < 2 ^ 31) : p < nI a := Int32.lt_of_lt_of_le h (nI_pos' ha)
theorem mHas_ex {σ : mS} {lo : Nat} {p : Int32} (h6 : σ.1 ≤ 6) (hlo : lo ≤ 6) (h : mHas σ lo p) : ∃ k : Nat, lo ≤ k ∧ k < σ.1 ∧ p = nI k := by
  obtain ⟨h1, h2⟩ := h
  rcases kI_cases p with hn | ⟨j, hj, rfl⟩
  · exact absurd (Int32.lt_of_lt_of_le (kneg_lt hn (show lo < 2 ^ 31 by omega)) h1) Int32.lt_irrefl
  · exact ⟨j, (nI_leI (by omega) hj).mp h1, (nI_ltI hj (by omega)).mp h2, rfl⟩
theorem mIn_ex {v : Int32} {lo hi : Nat} (hlo : lo < 1000) (hhi : hi < 1000) (h : mIn v lo hi) : ∃ k : Nat, lo ≤ k ∧ k ≤ hi ∧ v = nI k := by
  obtain ⟨h1, h2⟩ := h
  rcases kI_cases v with hn | ⟨j, hj, rfl⟩
  · exact absurd (Int32.lt_of_lt_of_le (kneg_lt hn (show lo < 2 ^ 31 by omega)) h1) Int32.lt_irrefl
  · exact ⟨j, (nI_leI (by omega) hj).mp h1, (nI_leI hj (by omega)).mp h2, rfl⟩
/-- stage k has become τ -/
def mPut (σ : mS) (k : Nat) (τ : mT) : mS := (σ.1, σ.2.1, σ.2.2.1, va_up σ.2.2.2 k τ)
theorem mPut_ok {σ : mS} {k : Nat} {τ : mT} (h : mSok σ) (hk : k < σ.1) (h1 : mInv (decide (k = 0)) τ) (h2 : τ.1 1 = k) : mSok (mPut σ k τ) := by
  refine ⟨h.1, fun j hj => ?_⟩
  show mInv _ (va_up σ.2.2.2 k τ j) ∧ (va_up σ.2.2.2 k τ j).1 1 = j
  by_cases e : j = k
  · subst e; rw [va_up_self]; exact ⟨h1, h2⟩
  · rw [va_up_ne _ _ e]; exact h.2 j hj
theorem mURT_put {σ : mS} {us : Nat → Nat → Nat → Int32} {k : Nat} {τ : mT} {u : Nat → Nat → Int32} (h : mURT σ us) (h1 : mRT τ u) : mURT (mPut σ k τ) (va_up us k u) := by
  intro j hj
  show mRT (va_up σ.2.2.2 k τ j) (va_up us k u j)
  by_cases e : j = k
  · subst e; rw [va_up_self, va_up_self]; exact h1
  · rw [va_up_ne _ _ e, va_up_ne _ _ e]; exact h j hj
end
section
/-! KanbanLoop: find and its like -/
theorem mAh_or (ad : Nat → Nat → Nat) (k : Nat) : mAh ad k = .null ∨ ∃ a, mAh ad k = .ref a := by
  cases k with
  | zero => exact Or.inl rfl
  | succ k => exact Or.inr ⟨_, rfl⟩
section KV
variable {p : Program} {l : Launch} {e : Env} {R : Room} {s : State} {m : MethodId} {args : Array Value} {below : List Frame} {meth : Method} {c : Code} {K : kE} {A : Nat → Prop} {nL : Nat} {Q : State → Prop} {k n : Nat} {pl X : va_W} {lv : List (Nat × Value)} {pc : Nat} {st : List Value} {cc : ByteArray} {own : String}
theorem k_astore_nV (hC : kC p s m args meth c K A nL cc own) {j : Fin 4} (i : Nat) {v : Value} (hd : decode cc pc = .ok (.astore_n j, 1)) (hi9 : (j : Nat) = i) (hv : v = .null ∨ ∃ a, v = .ref a) (hi : i < nL) (h1 : kl_1 lv = true) (lv2 : List (Nat × Value)) (h2 : kl_set lv i v = lv2) (kk : kW p l e R s m args below meth c K A nL Q k n pl X lv2 (pc + 1) st) : kW p l e R s m args below meth c K A nL Q k n pl X lv pc (v :: st) := by
  rcases hv with rfl | ⟨a, rfl⟩
  · exact k_astore_nN hC i hd hi9 hi h1 lv2 h2 kk
  · exact k_astore_n hC i hd hi9 hi h1 lv2 h2 kk
end KV
theorem kl_1V {lv : List (Nat × Value)} {i : Nat} {v : Value} (hv : v = .null ∨ ∃ a, v = .ref a) (h : kl_1 lv = true) : kl_1 ((i, v) :: lv) = true := by
  rcases hv with rfl | ⟨a, rfl⟩ <;> simpa [kl_1, kl_v1] using h
theorem wX_at {K : kE} {x : Nat} {ad : Nat → Nat → Nat} {σ : mS} {us : Nat → Nat → Nat → Int32} {k : Nat} (hk : k < σ.1) : ∃ i : Nat, (wX K x ad σ us)[i]? = some (ad k 0, .inr (1, [mAh ad k, .int (nI (((σ.2.2.2 k)).1 1)), .int (nI (((σ.2.2.2 k)).1 2)), .int (nI (((σ.2.2.2 k)).1 3)), .ref (ad k 1), .ref (ad k 4), .ref (ad k 7), .int (nI (((σ.2.2.2 k)).1 7)), .int (nI (((σ.2.2.2 k)).1 8)), .int (nI (((σ.2.2.2 k)).1 9)), .int (nI (((σ.2.2.2 k)).1 10)), .int (nI (((σ.2.2.2 k)).1 11)), .int (nI (((σ.2.2.2 k)).1 12)), .int (nI (((σ.2.2.2 k)).1 13)), .int (nI (((σ.2.2.2 k)).1 14)), .int (nI (((σ.2.2.2 k)).1 15)), .int (((σ.2.2.2 k)).2.1 0), .int (((σ.2.2.2 k)).2.1 1)])) :=
  List.getElem?_of_mem (List.mem_cons_of_mem _ ((wCh_open hk rfl).mem_iff.mpr (List.mem_append_left _ List.mem_cons_self)))
abbrev rmX3_checkRange : Room := { frames := 6, cells := 1, slots := 6, locals := 100 }
set_option maxRecDepth 100000 in
set_option maxHeartbeats 4000000 in
theorem cX3_checkRange_k {l : Launch} (hst : l.stackTraces = false) (K : kE) (v lo hi : Int32) : kX l yX3_checkRange (kws yX3_checkRange cX3_checkRange 3 none) rmX3_checkRange K [.int v, .int lo, .int hi] [] (fun r w => r = none ∧ w = [] ∧ lo ≤ v ∧ v ≤ hi) (fun E => E = "java/lang/IllegalArgumentException" ∧ ¬ (lo ≤ v ∧ v ≤ hi)) := by
  refine kX_of hst (pl := []) (X := []) rfl (by decide) (Nat.le_of_ble_eq_true rfl) ?_
  intro p e s m args below meth cd A Q hC hX hE
  refine k_eX (show _ = [] from rfl) ?_
  refine k_iload_n hC 0 dX3_checkRange_0 rfl rfl ?_
  refine k_iload_n hC 1 dX3_checkRange_1 rfl rfl ?_
  refine k_icmp_lt hC 10 dX3_checkRange_2 (by decide) (fun c1 => ?_) (fun c1 => ?_)
  · exact k_throw (text := "an argument is out of its range") hC hX kTh_IA (List.mem_of_getElem? (i := 0) rfl) (fun _ h => h) ⟨rfl, fun q => absurd (Int32.lt_of_lt_of_le c1 q.1) Int32.lt_irrefl⟩ (Nat.le_of_ble_eq_true rfl) (Nat.le_of_ble_eq_true rfl) ⟨(Nat.le_of_ble_eq_true rfl), (Nat.le_of_ble_eq_true rfl)⟩ ⟨(Nat.le_of_ble_eq_true rfl), (Nat.le_of_ble_eq_true rfl)⟩ dX3_checkRange_10 dX3_checkRange_13 dX3_checkRange_14 dX3_checkRange_16 dX3_checkRange_19
  · refine k_iload_n hC 0 dX3_checkRange_5 rfl rfl ?_
    refine k_iload_n hC 2 dX3_checkRange_6 rfl rfl ?_
    refine k_icmp_le hC 20 dX3_checkRange_7 (by decide) (fun c2 => ?_) (fun c2 => ?_)
    · exact k_vret hC hE (Nat.le_of_ble_eq_true rfl) (Nat.le_of_ble_eq_true rfl) dX3_checkRange_20 ⟨rfl, rfl, Int32.not_lt.mp c1, c2⟩
    · exact k_throw (text := "an argument is out of its range") hC hX kTh_IA (List.mem_of_getElem? (i := 0) rfl) (fun _ h => h) ⟨rfl, fun q => c2 q.2⟩ (Nat.le_of_ble_eq_true rfl) (Nat.le_of_ble_eq_true rfl) ⟨(Nat.le_of_ble_eq_true rfl), (Nat.le_of_ble_eq_true rfl)⟩ ⟨(Nat.le_of_ble_eq_true rfl), (Nat.le_of_ble_eq_true rfl)⟩ dX3_checkRange_10 dX3_checkRange_13 dX3_checkRange_14 dX3_checkRange_16 dX3_checkRange_19
abbrev rmX3_find : Room := { frames := 6, cells := 1, slots := 6, locals := 100 }
set_option maxRecDepth 100000 in
set_option maxHeartbeats 4000000 in
theorem cX3_find_k {l : Launch} (hst : l.stackTraces = false) (K : kE) (x : Nat) (ad : Nat → Nat → Nat) (σ : mS) (us : Nat → Nat → Nat → Int32) (hσ : mSok σ) (hU : mURT σ us) (p9 : Int32) : kX l yX3_find (kws yX3_find cX3_find 3 (some (.object "KanbanLoop$Stage"))) rmX3_find K [.ref x, .int p9] (wX K x ad σ us) (fun v w => ∃ k : Nat, k < σ.1 ∧ p9 = nI k ∧ v = some (.ref (ad k 0)) ∧ w = wX K x ad σ us) (fun E => E = "java/lang/IndexOutOfBoundsException" ∧ ¬ mHas σ 0 p9) := by
  refine kX_of hst (pl := []) (X := (wX K x ad σ us)) (List.append_nil _).symm (by decide) (Nat.le_of_ble_eq_true rfl) ?_
  intro p e s m args below meth cd A Q hC hX hE
  refine k_aload_n hC 0 dX3_find_0 rfl rfl ?_
  refine k_get hC inlX3 0 0 rfl rfl (by decide) lkF_X3_7 rfl dX3_find_1 ?_
  refine k_astore_nV hC 2 dX3_find_4 rfl (mAh_or _ _) (by decide) rfl [(0, .ref x), (1, .int p9), (2, mAh ad σ.1)] rfl ?_
  have loop : ∀ j : Nat, j ≤ σ.1 → (∀ i : Nat, j ≤ i → i < σ.1 → p9 ≠ nI i) → kW p l e rmX3_find s m args below meth cd K A 3 Q 0 0 ([]) (wX K x ad σ us) [(0, .ref x), (1, .int p9), (2, mAh ad j)] 5 [] := by
    intro j
    induction j with
    | zero =>
      intro h1 h2
      have g : kW p l e rmX3_find s m args below meth cd K A 3 Q 0 0 ([]) (wX K x ad σ us) [(0, .ref x), (1, .int p9), (2, .null)] 5 [] := by
        refine k_aload_nN hC 2 dX3_find_5 rfl rfl ?_
        refine k_ifnullN hC 25 dX3_find_6 (by decide) ?_
        refine k_aload_nN hC 2 dX3_find_25 rfl rfl ?_
        refine k_ifnonnullN hC dX3_find_26 ?_
        exact k_throw (text := "there is no such stage") hC hX kTh_IB (List.mem_of_getElem? (i := 2) rfl) (fun _ h => List.mem_append_left _ h) ⟨rfl, fun q => by obtain ⟨k, -, hk, he⟩ := mHas_ex hσ.1 (Nat.zero_le 6) q; exact h2 k (Nat.zero_le k) hk he⟩ (Nat.le_of_ble_eq_true rfl) (Nat.le_of_ble_eq_true rfl) ⟨(Nat.le_of_ble_eq_true rfl), (Nat.le_of_ble_eq_true rfl)⟩ ⟨(Nat.le_of_ble_eq_true rfl), (Nat.le_of_ble_eq_true rfl)⟩ dX3_find_29 dX3_find_32 dX3_find_33 dX3_find_35 dX3_find_38
      exact g
    | succ j ih =>
      intro h1 h2
      obtain ⟨i9, hi9⟩ := wX_at (K := K) (x := x) (ad := ad) (us := us) (show j < σ.1 from h1)
      have hnum := (hσ.2 j h1).2
      have g : kW p l e rmX3_find s m args below meth cd K A 3 Q 0 0 ([]) (wX K x ad σ us) [(0, .ref x), (1, .int p9), (2, .ref (ad j 0))] 5 [] := by
        refine k_aload_n hC 2 dX3_find_5 rfl rfl ?_
        refine k_ifnull hC dX3_find_6 ?_
        refine k_aload_n hC 2 dX3_find_9 rfl rfl ?_
        refine k_getN hC inlX1 i9 1 hi9 rfl (by decide) (List.mem_of_getElem? (i := 3) rfl) rfl dX3_find_10 ?_
        refine k_iload_n hC 1 dX3_find_13 rfl rfl ?_
        refine k_icmp_eq hC 25 dX3_find_14 (by decide) (fun c1 => ?_) (fun c1 => ?_)
        · refine k_aload_n hC 2 dX3_find_25 rfl rfl ?_
          refine k_ifnonnull hC 39 dX3_find_26 (by decide) ?_
          refine k_aload_n hC 2 dX3_find_39 rfl rfl ?_
          exact k_aret hC hE (Nat.le_of_ble_eq_true rfl) (Nat.le_of_ble_eq_true rfl) dX3_find_40 ⟨j, h1, by rw [← c1, hnum], rfl, List.append_nil _⟩
        · refine k_aload_n hC 2 dX3_find_17 rfl rfl ?_
          refine k_getN hC inlX1 i9 0 hi9 rfl (by decide) (List.mem_of_getElem? (i := 2) rfl) rfl dX3_find_18 ?_
          refine k_astore_nV hC 2 dX3_find_21 rfl (mAh_or _ _) (by decide) rfl [(0, .ref x), (1, .int p9), (2, mAh ad j)] rfl ?_
          refine k_goto hC 5 dX3_find_22 (by decide) ?_
          refine ih (Nat.le_of_lt h1) (fun i hi1 hi2 => ?_)
          rcases Nat.lt_or_ge j i with h | h
          · exact h2 i h hi2
          · obtain rfl : i = j := by omega
            exact fun q => c1 (by rw [q, hnum])
      exact g
  exact loop σ.1 (Nat.le_refl _) (fun i h1 h2 => absurd h1 (by omega))
abbrev rmX3_findFed : Room := { frames := 7, cells := 2, slots := 12, locals := 122 }
set_option maxRecDepth 100000 in
set_option maxHeartbeats 4000000 in
theorem cX3_findFed_k {l : Launch} (hst : l.stackTraces = false) (K : kE) (x : Nat) (ad : Nat → Nat → Nat) (σ : mS) (us : Nat → Nat → Nat → Int32) (hσ : mSok σ) (hU : mURT σ us) (p9 : Int32) : kX l yX3_findFed (kws yX3_findFed cX3_findFed 3 (some (.object "KanbanLoop$Stage"))) rmX3_findFed K [.ref x, .int p9] (wX K x ad σ us) (fun v w => ∃ k : Nat, 1 ≤ k ∧ k < σ.1 ∧ p9 = nI k ∧ v = some (.ref (ad k 0)) ∧ w = wX K x ad σ us) (fun E => E = "java/lang/IndexOutOfBoundsException" ∧ ¬ mHas σ 1 p9) := by
  refine kX_of hst (pl := []) (X := (wX K x ad σ us)) (List.append_nil _).symm (by decide) (Nat.le_of_ble_eq_true rfl) ?_
  intro p e s m args below meth cd A Q hC hX hE
  have hn6 := hσ.1
  refine k_aload_n hC 0 dX3_findFed_0 rfl rfl ?_
  refine k_iload_n hC 1 dX3_findFed_1 rfl rfl ?_
  refine k_callXV hC hX (As := [.int p9]) (cX3_find_k hst K x ad σ us hσ hU p9) [] (List.append_nil _).symm (fun _ h => List.mem_append_left _ h) (fun E q => ⟨q.1, fun z => q.2 ⟨Int32.le_trans (by decide) z.1, z.2⟩⟩) 0 rfl rfl (kAll5 lkM_X3_62 lkI_yX3_find lkS_yX3_find lkN_X3 lkC_yX3_find) 1 (by decide) ⟨(Nat.le_of_ble_eq_true rfl), (Nat.le_of_ble_eq_true rfl)⟩ rfl rfl (Nat.le_of_ble_eq_true rfl) ⟨(Nat.le_of_ble_eq_true rfl), (Nat.le_of_ble_eq_true rfl)⟩ ⟨(Nat.le_of_ble_eq_true rfl), (Nat.le_of_ble_eq_true rfl)⟩ dX3_findFed_2 (fun v w h => ?_)
  obtain ⟨k, hk, rfl, rfl, rfl⟩ := h
  refine k_re 1 6 (wX K x ad σ us) [.ref (ad k 0)] rfl rfl (List.append_nil _) rfl ?_
  obtain ⟨i9, hi9⟩ := wX_at (K := K) (x := x) (ad := ad) (us := us) hk
  rcases k with _ | k
  · refine k_astore_n hC 2 dX3_findFed_5 rfl (by decide) rfl [(0, .ref x), (1, .int (nI 0)), (2, .ref (ad 0 0))] rfl ?_
    refine k_aload_n hC 2 dX3_findFed_6 rfl rfl ?_
    refine k_getN hC inlX1 i9 0 hi9 rfl (by decide) (List.mem_of_getElem? (i := 2) rfl) rfl dX3_findFed_7 ?_
    refine k_ifnonnullN hC dX3_findFed_10 ?_
    exact k_throw (text := "the first stage has no inbox") hC hX kTh_IB (List.mem_of_getElem? (i := 3) rfl) (fun _ h => List.mem_append_left _ h) ⟨rfl, fun z => by have := (nI_leI (a := 1) (b := 0) (by decide) (by decide)).mp z.1; omega⟩ (Nat.le_of_ble_eq_true rfl) (Nat.le_of_ble_eq_true rfl) ⟨(Nat.le_of_ble_eq_true rfl), (Nat.le_of_ble_eq_true rfl)⟩ ⟨(Nat.le_of_ble_eq_true rfl), (Nat.le_of_ble_eq_true rfl)⟩ dX3_findFed_13 dX3_findFed_16 dX3_findFed_17 dX3_findFed_19 dX3_findFed_22
  · refine k_astore_n hC 2 dX3_findFed_5 rfl (by decide) rfl [(0, .ref x), (1, .int (nI (k + 1))), (2, .ref (ad (k + 1) 0))] rfl ?_
    refine k_aload_n hC 2 dX3_findFed_6 rfl rfl ?_
    refine k_getN hC inlX1 i9 0 hi9 rfl (by decide) (List.mem_of_getElem? (i := 2) rfl) rfl dX3_findFed_7 ?_
    refine k_ifnonnull hC 23 dX3_findFed_10 (by decide) ?_
    refine k_aload_n hC 2 dX3_findFed_23 rfl rfl ?_
    exact k_aret hC hE (Nat.le_of_ble_eq_true rfl) (Nat.le_of_ble_eq_true rfl) dX3_findFed_24 ⟨k + 1, by omega, hk, rfl, rfl, List.append_nil _⟩
end
section
/-! the calls of the line as functions: a code (0, or which exception), an answer, the line then -/
abbrev oT (σ : mS) (p : Int32) : mT := σ.2.2.2 (mIx p)
abbrev mO : Type := Nat × Int32 × mS
def oWay (σ : mS) (p v : Int32) : mO := if mHas σ 1 p then (if mIn v 0 5 then (0, nI ((oT σ p).1 15), mPut σ (mIx p) (va_up (oT σ p).1 15 (mIx v), (oT σ p).2)) else (2, nI 0, σ)) else (1, nI 0, σ)
def oMark (σ : mS) (p v : Int32) : mO := if mHas σ 0 p then (if mIn v 1 9 then (0, nI ((oT σ p).1 7), mPut σ (mIx p) (va_up (oT σ p).1 7 (mIx v), (oT σ p).2)) else (2, nI 0, σ)) else (1, nI 0, σ)
def oRule (σ : mS) (b : Bool) : mO := (0, kB σ.2.1, (σ.1, b, σ.2.2))
def oDemand (σ : mS) (v : Int32) : mO := if mIn v 0 20 then (0, σ.2.2.1 3, (σ.1, σ.2.1, va_up σ.2.2.1 3 v, σ.2.2.2)) else (1, nI 0, σ)
def oStop (σ : mS) (p : Int32) : mO := if mHas σ 0 p then (0, nI (1 - (oT σ p).1 12), mPut σ (mIx p) (va_up (oT σ p).1 12 (1 - (oT σ p).1 12), (oT σ p).2)) else (1, nI 0, σ)
def oIssue (σ : mS) (p : Int32) : mO := if mHas σ 0 p then (if (oT σ p).1 8 = 9 then (2, nI 0, σ) else (0, nI ((oT σ p).1 8 + 1), mPut σ (mIx p) (va_up (va_up (oT σ p).1 8 ((oT σ p).1 8 + 1)) 9 ((oT σ p).1 9 + 1), (oT σ p).2))) else (1, nI 0, σ)
def oRetire (σ : mS) (p : Int32) : mO := if mHas σ 0 p then (if (oT σ p).1 9 = 0 ∨ (oT σ p).1 8 = 1 then (2, nI 0, σ) else (0, nI ((oT σ p).1 8 - 1), mPut σ (mIx p) (va_up (va_up (va_up (oT σ p).1 8 ((oT σ p).1 8 - 1)) 9 ((oT σ p).1 9 - 1)) 11 (min ((oT σ p).1 11) ((oT σ p).1 9 - 1)), (oT σ p).2))) else (1, nI 0, σ)
def oIssueC (σ : mS) (p : Int32) : mO := if mHas σ 1 p then (if (oT σ p).1 13 = 5 then (2, nI 0, σ) else (0, nI ((oT σ p).1 13 + 1), mPut σ (mIx p) (va_up (va_up (oT σ p).1 13 ((oT σ p).1 13 + 1)) 14 ((oT σ p).1 14 + 1), (oT σ p).2))) else (1, nI 0, σ)
def oRetireC (σ : mS) (p : Int32) : mO := if mHas σ 1 p then (if (oT σ p).1 14 = 0 ∨ (oT σ p).1 13 = 1 then (2, nI 0, σ) else (0, nI ((oT σ p).1 13 - 1), mPut σ (mIx p) (va_up (va_up (oT σ p).1 13 ((oT σ p).1 13 - 1)) 14 ((oT σ p).1 14 - 1), (oT σ p).2))) else (1, nI 0, σ)
def mBehind (σ : mS) (k : Nat) : Nat := if k + 1 < σ.1 then (σ.2.2.2 (k + 1)).1 15 else 0
def mQuot (σ : mS) (k : Nat) (v : Int32) : Int32 := (σ.2.2.1 3 * nI ((σ.2.2.2 k).1 7 * (σ.2.2.2 k).1 3 + mBehind σ k) * (nI 100 + v) + nI (100 * (σ.2.2.2 k).1 2) - nI 1) / nI (100 * (σ.2.2.2 k).1 2)
def oNeeded (σ : mS) (p v : Int32) : mO := if mHas σ 0 p then (if mIn v 0 100 then (0, if nI 1 < mQuot σ (mIx p) v then mQuot σ (mIx p) v else nI 1, σ) else (2, nI 0, σ)) else (1, nI 0, σ)
def oGet (σ : mS) (p : Int32) (F : mT → Int32) : mO := if mHas σ 0 p then (0, F (oT σ p), σ) else (1, nI 0, σ)
def oStage (σ : mS) (c z t k : Int32) (full : Bool) : mO := if mIn c 1 9 ∧ mIn z 1 10 ∧ mIn t 1 9 ∧ mIn k 1 9 then (if σ.1 = 6 then (2, nI 0, σ) else (0, nI σ.1, (σ.1 + 1, σ.2.1, σ.2.2.1, va_up σ.2.2.2 σ.1 (mNew σ.1 (decide (σ.1 = 0)) full (mIx c) (mIx z) (mIx t) (mIx k))))) else (1, nI 0, σ)
def mGot (σ : mS) : Int32 := if nI (mU ((σ.2.2.2 (σ.1 - 1)).2.2 0)) < σ.2.2.1 3 + σ.2.2.1 6 then nI (mU ((σ.2.2.2 (σ.1 - 1)).2.2 0)) else σ.2.2.1 3 + σ.2.2.1 6
def mOwe (σ : mS) : Int32 := σ.2.2.1 3 + σ.2.2.1 6 - mGot σ
def mSold (σ : mS) (τ : mT) : mT := (va_up τ.1 9 (τ.1 9 + (mTake (τ.2.2 0) (mIx (mGot σ)) σ.2.1).2), τ.2.1, va_up τ.2.2 0 (mTake (τ.2.2 0) (mIx (mGot σ)) σ.2.1).1)
def mServe (σ : mS) : mS := (σ.1, σ.2.1, va_up (va_up (va_up σ.2.2.1 5 (σ.2.2.1 5 + mGot σ)) 6 (mOwe σ)) 7 (if 0 < mOwe σ then σ.2.2.1 7 + 1 else σ.2.2.1 7), va_up σ.2.2.2 (σ.1 - 1) (mSold σ (σ.2.2.2 (σ.1 - 1))))
def mTick (σ : mS) : mS := (σ.1, σ.2.1, va_up σ.2.2.1 4 (σ.2.2.1 4 + 1), σ.2.2.2)
def mWorks (r : Bool) : Nat → (Nat → mT) → (Nat → mT)
  | 0, τs => τs
  | k + 1, τs => mWorks r k (va_up τs k (mWork r (decide (k = 0)) (τs k)))
def mConveys : Nat → (Nat → mT) → (Nat → mT)
  | 0, τs => τs
  | 1, τs => τs
  | k + 2, τs => mConveys (k + 1) (va_up (va_up τs (k + 1) (mConvey (τs (k + 1)) (τs k)).1) k (mConvey (τs (k + 1)) (τs k)).2)
def mMove (σ : mS) : mS := (σ.1, σ.2.1, σ.2.2.1, mConveys σ.1 (mWorks σ.2.1 σ.1 σ.2.2.2))
def mPass (σ : mS) : mS := mMove (mServe (mTick σ))
def mSteps : Nat → mS → mS
  | 0, σ => σ
  | i + 1, σ => mSteps i (mPass σ)
def oStep (σ : mS) (s : Int32) : mO := if mIn s 1 50 then (if σ.1 = 0 then (2, nI 0, σ) else (0, (mSteps (mIx s) σ).2.2.1 5 - σ.2.2.1 5, mSteps (mIx s) σ)) else (1, nI 0, σ)
def mSum (F : Nat → Nat) : Nat → Nat
  | 0 => 0
  | n + 1 => mSum F n + F n
def mSumZ (F : Nat → Int32) : Nat → Int32
  | 0 => 0
  | n + 1 => mSumZ F n + F n
def oStock (σ : mS) : Int32 := nI (mSum (fun k => mHeld (σ.2.2.2 k)) σ.1)
def oFlow (σ : mS) : Int32 := -σ.2.2.1 5 + mSumZ (fun k => (σ.2.2.2 k).2.1 1) σ.1
theorem mIx_or (w : Int32) : (w = nI (mIx w) ∧ mIx w < 2 ^ 31) ∨ (w < 0 ∧ mIx w = 0) := by
  rcases kI_cases w with h | ⟨j, hj, rfl⟩
  · refine Or.inr ⟨h, ?_⟩
    have h2 : w.toInt < 0 := by have := Int32.lt_iff_toInt_lt.mp h; simpa using this
    unfold mIx Int32.toNatClampNeg
    omega
  · exact Or.inl ⟨by rw [mIx_nI hj], by rw [mIx_nI hj]; exact hj⟩
-- what always holds is kept
theorem mGoOn_1 (τ : mT) : (mGoOn τ).1 1 = τ.1 1 := by unfold mGoOn; split <;> rfl
theorem mBegin_1 (r b : Bool) (τ : mT) : (mBegin r b τ).1 1 = τ.1 1 := by unfold mBegin; split <;> rfl
theorem mStart_1 (r b : Bool) (τ : mT) : (mStart r b τ).1 1 = τ.1 1 := by
  unfold mStart
  split
  · rfl
  · split
    · rfl
    · rw [mBegin_1]; rfl
theorem mWork_1 (r b : Bool) (τ : mT) : (mWork r b τ).1 1 = τ.1 1 := by
  unfold mWork
  split
  · rfl
  · split
    · exact mGoOn_1 τ
    · rw [mStart_1]; exact mGoOn_1 τ
theorem mFetch_1 (n : Nat) (τ α : mT) : (mFetch n τ α).1.1 1 = τ.1 1 ∧ (mFetch n τ α).2.1 1 = α.1 1 := by
  induction n generalizing τ α with
  | zero => exact ⟨rfl, rfl⟩
  | succ n ih =>
    unfold mFetch
    split
    · exact ⟨rfl, rfl⟩
    · next x t e => exact ih (mGet τ x) (mGive α x t)
theorem mConvey_1 (τ α : mT) : (mConvey τ α).1.1 1 = τ.1 1 ∧ (mConvey τ α).2.1 1 = α.1 1 := mFetch_1 _ (mBring τ) α
/-- all stages below n hold -/
def mAll (n : Nat) (τs : Nat → mT) : Prop := ∀ k : Nat, k < n → mInv (decide (k = 0)) (τs k) ∧ (τs k).1 1 = k
theorem mAll_put {n : Nat} {τs : Nat → mT} (h : mAll n τs) {k : Nat} {τ : mT} (h1 : mInv (decide (k = 0)) τ) (h2 : τ.1 1 = k) : mAll n (va_up τs k τ) := by
  intro j hj
  by_cases e : j = k
  · subst e; rw [va_up_self]; exact ⟨h1, h2⟩
  · rw [va_up_ne _ _ e]; exact h j hj
theorem mWorks_all (r : Bool) {n : Nat} (m : Nat) {τs : Nat → mT} (h : mAll n τs) (hm : m ≤ n) : mAll n (mWorks r m τs) := by
  induction m generalizing τs with
  | zero => exact h
  | succ m ih =>
    have h1 := h m (by omega)
    exact ih (mAll_put h (mWork_inv h1.1) (by rw [mWork_1]; exact h1.2)) (by omega)
theorem mConvey_all {n : Nat} {k : Nat} {τs : Nat → mT} (h : mAll n τs) (hk : k + 1 < n) : mAll n (va_up (va_up τs (k + 1) (mConvey (τs (k + 1)) (τs k)).1) k (mConvey (τs (k + 1)) (τs k)).2) := by
  have h1 := h (k + 1) hk
  have h2 := h k (by omega)
  have e : decide (k + 1 = 0) = false := by simp
  rw [e] at h1
  have h3 := mConvey_inv h1.1 h2.1
  have h4 := mConvey_1 (τs (k + 1)) (τs k)
  exact mAll_put (mAll_put h (by rw [e]; exact h3.1) (by rw [h4.1]; exact h1.2)) h3.2 (by rw [h4.2]; exact h2.2)
theorem mConveys_all {n : Nat} (m : Nat) {τs : Nat → mT} (h : mAll n τs) (hm : m ≤ n) : mAll n (mConveys m τs) := by
  induction m generalizing τs with
  | zero => exact h
  | succ m ih =>
    cases m with
    | zero => exact h
    | succ k => exact ih (mConvey_all h hm) (by omega)
theorem mSold_inv {b : Bool} {σ : mS} {τ : mT} (h : mInv b τ) : mInv b (mSold σ τ) := by
  obtain ⟨h1, h2, h3, h4, h5, h6, h7⟩ := h
  have hc := mTake_Cs (τ.2.2 0) (mIx (mGot σ)) σ.2.1
  refine ⟨by simp [mSold, va_up]; omega, ?_, ?_, ?_, ?_, ?_, ?_⟩
  · simp [mSold, va_up]; omega
  · simpa [mSold, va_up] using h3
  · exact mTake_ok h4 _ _
  · simpa [mSold, va_up] using h5
  · simpa [mSold, va_up] using h6
  · simpa [mSold, va_up] using h7
theorem mServe_ok {σ : mS} (h : mSok σ) (h0 : σ.1 ≠ 0) : mSok (mServe σ) := by
  refine ⟨h.1, ?_⟩
  have h1 := h.2 (σ.1 - 1) (by omega)
  exact mAll_put (n := σ.1) h.2 (mSold_inv h1.1) h1.2
theorem mMove_ok {σ : mS} (h : mSok σ) : mSok (mMove σ) := ⟨h.1, mConveys_all σ.1 (mWorks_all σ.2.1 σ.1 h.2 (Nat.le_refl _)) (Nat.le_refl _)⟩
theorem mPass_ok {σ : mS} (h : mSok σ) (h0 : σ.1 ≠ 0) : mSok (mPass σ) := mMove_ok (mServe_ok (σ := mTick σ) h h0)
theorem mSteps_ok (i : Nat) {σ : mS} (h : mSok σ) (h0 : σ.1 ≠ 0) : mSok (mSteps i σ) := by
  induction i generalizing σ with
  | zero => exact h
  | succ i ih => exact ih (mPass_ok h h0) h0
theorem oStep_ok {σ : mS} (h : mSok σ) (s : Int32) : mSok (oStep σ s).2.2 := by
  unfold oStep
  split
  · split
    · exact h
    · next h0 => exact mSteps_ok _ h h0
  · exact h
theorem mHas_put {σ : mS} {p : Int32} {lo : Nat} (h : mSok σ) (hlo : lo ≤ 6) (hp : mHas σ lo p) : lo ≤ mIx p ∧ mIx p < σ.1 := by
  obtain ⟨k, h1, h2, rfl⟩ := mHas_ex h.1 hlo hp
  have := h.1
  rw [mIx_nI (by omega)]
  exact ⟨h1, h2⟩
theorem mIn_ix {v : Int32} {lo hi : Nat} (hlo : lo < 1000) (hhi : hi < 1000) (h : mIn v lo hi) : lo ≤ mIx v ∧ mIx v ≤ hi := by
  obtain ⟨k, h1, h2, rfl⟩ := mIn_ex hlo hhi h
  rw [mIx_nI (by omega)]
  exact ⟨h1, h2⟩
theorem fWay {τ : mT} {v : Nat} (h : mInv false τ) (hv : v ≤ 5) : mInv false (va_up τ.1 15 v, τ.2) := by
  obtain ⟨h1, h2, h3, h4, h5, h6, h7⟩ := h
  exact ⟨by simp [va_up]; omega, h2, h3, h4, h5, h6, h7⟩
theorem fMark {b : Bool} {τ : mT} {v : Nat} (h : mInv b τ) (hv : 1 ≤ v) (hv2 : v ≤ 9) : mInv b (va_up τ.1 7 v, τ.2) := by
  obtain ⟨h1, h2, h3, h4, h5, h6, h7⟩ := h
  exact ⟨by simp [va_up]; omega, h2, h3, h4, h5, h6, h7⟩
theorem fStop {b : Bool} {τ : mT} (h : mInv b τ) : mInv b (va_up τ.1 12 (1 - τ.1 12), τ.2) := by
  obtain ⟨h1, h2, h3, h4, h5, h6, h7⟩ := h
  exact ⟨by simp [va_up]; omega, h2, h3, h4, h5, h6, h7⟩
theorem fIssue {b : Bool} {τ : mT} (h : mInv b τ) (h8 : ¬ τ.1 8 = 9) : mInv b (va_up (va_up τ.1 8 (τ.1 8 + 1)) 9 (τ.1 9 + 1), τ.2) := by
  obtain ⟨h1, h2, h3, h4, h5, h6, h7⟩ := h
  exact ⟨by simp [va_up]; omega, by simp [va_up]; omega, h3, h4, h5, h6, h7⟩
theorem fRetire {b : Bool} {τ : mT} (h : mInv b τ) (hn : ¬ (τ.1 9 = 0 ∨ τ.1 8 = 1)) : mInv b (va_up (va_up (va_up τ.1 8 (τ.1 8 - 1)) 9 (τ.1 9 - 1)) 11 (min (τ.1 11) (τ.1 9 - 1)), τ.2) := by
  obtain ⟨h1, h2, h3, h4, h5, h6, h7⟩ := h
  exact ⟨by simp [va_up]; omega, by simp [va_up]; omega, h3, h4, h5, h6, h7⟩
theorem fIssueC {τ : mT} (h : mInv false τ) (hn : ¬ τ.1 13 = 5) : mInv false (va_up (va_up τ.1 13 (τ.1 13 + 1)) 14 (τ.1 14 + 1), τ.2) := by
  obtain ⟨h1, h2, h3, h4, h5, h6, h7⟩ := h
  exact ⟨by simp [va_up]; omega, h2, by simp [va_up]; omega, h4, h5, h6, by simp [va_up]⟩
theorem fRetireC {τ : mT} (h : mInv false τ) (hn : ¬ (τ.1 14 = 0 ∨ τ.1 13 = 1)) : mInv false (va_up (va_up τ.1 13 (τ.1 13 - 1)) 14 (τ.1 14 - 1), τ.2) := by
  obtain ⟨h1, h2, h3, h4, h5, h6, h7⟩ := h
  simp at h7
  exact ⟨by simp [va_up]; omega, h2, by simp [va_up]; omega, h4, h5, h6, by simp [va_up]; omega⟩
theorem oWay_ok {σ : mS} (h : mSok σ) (p v : Int32) : mSok (oWay σ p v).2.2 := by
  unfold oWay
  split
  · next hp =>
    split
    · next hv =>
      have hp := mHas_put h (by decide) hp
      have hv := mIn_ix (by decide) (by decide) hv
      have hi := h.2 _ hp.2
      refine mPut_ok h hp.2 ?_ hi.2
      have e : decide (mIx p = 0) = false := by simp; omega
      rw [e] at hi ⊢
      exact fWay hi.1 hv.2
    · exact h
  · exact h
theorem oMark_ok {σ : mS} (h : mSok σ) (p v : Int32) : mSok (oMark σ p v).2.2 := by
  unfold oMark
  split
  · next hp =>
    split
    · next hv =>
      have hp := mHas_put h (by decide) hp
      have hv := mIn_ix (by decide) (by decide) hv
      have hi := h.2 _ hp.2
      refine mPut_ok h hp.2 ?_ hi.2
      exact fMark hi.1 hv.1 hv.2
    · exact h
  · exact h
theorem oDemand_ok {σ : mS} (h : mSok σ) (v : Int32) : mSok (oDemand σ v).2.2 := by
  unfold oDemand
  split <;> exact h
theorem oStop_ok {σ : mS} (h : mSok σ) (p : Int32) : mSok (oStop σ p).2.2 := by
  unfold oStop
  split
  · next hp =>
    have hp := mHas_put h (by decide) hp
    have hi := h.2 _ hp.2
    refine mPut_ok h hp.2 ?_ hi.2
    exact fStop hi.1
  · exact h
theorem oIssue_ok {σ : mS} (h : mSok σ) (p : Int32) : mSok (oIssue σ p).2.2 := by
  unfold oIssue
  split
  · next hp =>
    split
    · exact h
    · have hp := mHas_put h (by decide) hp
      have hi := h.2 _ hp.2
      refine mPut_ok h hp.2 ?_ hi.2
      exact fIssue hi.1 (by assumption)
  · exact h
theorem oRetire_ok {σ : mS} (h : mSok σ) (p : Int32) : mSok (oRetire σ p).2.2 := by
  unfold oRetire
  split
  · next hp =>
    split
    · exact h
    · next hn =>
      have hp := mHas_put h (by decide) hp
      have hi := h.2 _ hp.2
      refine mPut_ok h hp.2 ?_ hi.2
      exact fRetire hi.1 hn
  · exact h
theorem oIssueC_ok {σ : mS} (h : mSok σ) (p : Int32) : mSok (oIssueC σ p).2.2 := by
  unfold oIssueC
  split
  · next hp =>
    split
    · exact h
    · have hp := mHas_put h (by decide) hp
      have hi := h.2 _ hp.2
      refine mPut_ok h hp.2 ?_ hi.2
      have e : decide (mIx p = 0) = false := by simp; omega
      rw [e] at hi ⊢
      exact fIssueC hi.1 (by assumption)
  · exact h
theorem oRetireC_ok {σ : mS} (h : mSok σ) (p : Int32) : mSok (oRetireC σ p).2.2 := by
  unfold oRetireC
  split
  · next hp =>
    split
    · exact h
    · next hn =>
      have hp := mHas_put h (by decide) hp
      have hi := h.2 _ hp.2
      refine mPut_ok h hp.2 ?_ hi.2
      have e : decide (mIx p = 0) = false := by simp; omega
      rw [e] at hi ⊢
      exact fRetireC hi.1 hn
  · exact h
theorem oNeeded_ok {σ : mS} (h : mSok σ) (p v : Int32) : mSok (oNeeded σ p v).2.2 := by
  unfold oNeeded
  split
  · split <;> exact h
  · exact h
theorem oGet_ok {σ : mS} (h : mSok σ) (p : Int32) (F : mT → Int32) : mSok (oGet σ p F).2.2 := by
  unfold oGet
  split <;> exact h
theorem oStage_ok {σ : mS} (h : mSok σ) (c z t k : Int32) (full : Bool) : mSok (oStage σ c z t k full).2.2 := by
  unfold oStage
  split
  · next hv =>
    split
    · exact h
    · next h6 =>
      obtain ⟨v1, v2, v3, v4⟩ := hv
      have v1 := mIn_ix (by decide) (by decide) v1
      have v2 := mIn_ix (by decide) (by decide) v2
      have v3 := mIn_ix (by decide) (by decide) v3
      have v4 := mIn_ix (by decide) (by decide) v4
      have h0 := h.1
      refine ⟨by show σ.1 + 1 ≤ 6; omega, fun j hj => ?_⟩
      show mInv _ (va_up σ.2.2.2 σ.1 _ j) ∧ (va_up σ.2.2.2 σ.1 _ j).1 1 = j
      by_cases e : j = σ.1
      · subst e
        rw [va_up_self]
        exact ⟨mNew_inv v1.1 v1.2 v2.1 v2.2 v3.1 v3.2 v4.1 v4.2, rfl⟩
      · rw [va_up_ne _ _ e]
        exact h.2 j (by have : j < σ.1 + 1 := hj; omega)
  · exact h
end
