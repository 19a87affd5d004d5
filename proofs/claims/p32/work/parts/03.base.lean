/-! base: the judgement kW (a world X ++ pl), contracts kM and kX, one row an instruction -/
def kn_F : List (String × Nat × String × String × String) := [("KanbanLoop$Stage", 97, "KanbanLoop$Store", "count", "I"), ("KanbanLoop", 142, "KanbanLoop$Road", "count", "I"), ("KanbanLoop", 156, "KanbanLoop$Stage", "ahead", "LKanbanLoop$Stage;"), ("KanbanLoop", 52, "KanbanLoop$Stage", "number", "I"), ("KanbanLoop", 107, "KanbanLoop$Stage", "size", "I"), ("KanbanLoop", 100, "KanbanLoop$Stage", "time", "I"), ("KanbanLoop", 119, "KanbanLoop$Stage", "market", "LKanbanLoop$Store;"), ("KanbanLoop", 135, "KanbanLoop$Stage", "inbox", "LKanbanLoop$Store;"), ("KanbanLoop", 138, "KanbanLoop$Stage", "road", "LKanbanLoop$Road;"), ("KanbanLoop", 65, "KanbanLoop$Stage", "mark", "I"), ("KanbanLoop", 71, "KanbanLoop$Stage", "cards", "I"), ("KanbanLoop", 76, "KanbanLoop$Stage", "board", "I"), ("KanbanLoop", 129, "KanbanLoop$Stage", "left", "I"), ("KanbanLoop", 81, "KanbanLoop$Stage", "run", "I"), ("KanbanLoop", 68, "KanbanLoop$Stage", "stopped", "Z"), ("KanbanLoop", 90, "KanbanLoop$Stage", "conveyance", "I"), ("KanbanLoop", 95, "KanbanLoop$Stage", "waiting", "I"), ("KanbanLoop", 59, "KanbanLoop$Stage", "waySteps", "I"), ("KanbanLoop", 150, "KanbanLoop$Stage", "starvedSteps", "I"), ("KanbanLoop", 159, "KanbanLoop$Stage", "unitsEntered", "I")]
def kn_M : List (String × Nat × MethodName) := [("KanbanLoop", 49, ⟨"KanbanLoop$Stage", "<init>", "(LKanbanLoop$Stage;IIIIZ)V"⟩), ("KanbanLoop$Stage", 34, ⟨"KanbanLoop$Store", "<init>", "(II)V"⟩), ("KanbanLoop$Stage", 46, ⟨"KanbanLoop$Road", "<init>", "()V"⟩), ("KanbanLoop", 132, ⟨"KanbanLoop$Store", "allUnits", "()I"⟩), ("KanbanLoop", 184, ⟨"KanbanLoop$Store", "takeOut", "(IZ)I"⟩), ("KanbanLoop", 177, ⟨"KanbanLoop$Stage", "work", "(Z)V"⟩), ("KanbanLoop$Stage", 85, ⟨"KanbanLoop$Store", "add", "(I)V"⟩), ("KanbanLoop$Stage", 63, ⟨"KanbanLoop$Store", "allUnits", "()I"⟩), ("KanbanLoop$Stage", 89, ⟨"KanbanLoop$Store", "takeOut", "(IZ)I"⟩), ("KanbanLoop", 181, ⟨"KanbanLoop$Stage", "convey", "()V"⟩), ("KanbanLoop$Stage", 93, ⟨"KanbanLoop$Road", "bringTo", "(LKanbanLoop$Store;)V"⟩), ("KanbanLoop$Road", 22, ⟨"KanbanLoop$Store", "add", "(I)V"⟩), ("KanbanLoop$Stage", 110, ⟨"KanbanLoop$Store", "headUnits", "()I"⟩), ("KanbanLoop$Stage", 113, ⟨"KanbanLoop$Store", "headIsCarded", "()Z"⟩), ("KanbanLoop$Stage", 117, ⟨"KanbanLoop$Store", "removeHead", "()V"⟩), ("KanbanLoop$Stage", 123, ⟨"KanbanLoop$Road", "add", "(II)V"⟩), ("KanbanLoop", 123, ⟨"KanbanLoop$Store", "cardsOn", "()I"⟩), ("KanbanLoop", 147, ⟨"KanbanLoop$Store", "headUnits", "()I"⟩), ("KanbanLoop", 153, ⟨"KanbanLoop$Stage", "unitsHeld", "()I"⟩), ("KanbanLoop$Stage", 67, ⟨"KanbanLoop$Road", "allUnits", "()I"⟩)]
def kn_S : List (Nat × String) := [(164, "an argument is out of its range"), (42, "the line has all its stages"), (169, "there is no such stage"), (172, "the first stage has no inbox"), (74, "the stage has all its production cards"), (79, "no production card can be retired"), (93, "the stage has all its conveyance cards"), (98, "no conveyance card can be retired"), (113, "the line has no stages")]
theorem kn_F_in : ∀ q ∈ kn_F, Cond.fieldLinkNest q.1 q.2.1 q.2.2.1 q.2.2.2.1 q.2.2.2.2 "KanbanLoop" ∈ tables_1 := by decide +kernel
theorem kn_M_in : ∀ q ∈ kn_M, Cond.methodLinkNest q.1 q.2.1 q.2.2 "KanbanLoop" ∈ tables_1 := by decide +kernel
theorem kn_S_in : ∀ q ∈ kn_S, Cond.stringRef "KanbanLoop" q.1 q.2 ∈ tables_1 := by decide +kernel
abbrev kE : Type := va_G × (Nat → ClassId) × (Nat → Nat)
abbrev kTy (K : kE) : List (ClassId × FieldType) := [(K.2.1 0, .int), (K.2.1 1, .boolean)]
abbrev kO (a ci : Nat) (fs : List Value) : Nat × va_E := (a, .inr (ci, fs))
abbrev kI (K : kE) (a n : Nat) (f : Nat → Int32) : Nat × va_E := (a, .inl (K.2.1 0, n, .inl f))
abbrev kZ (K : kE) (a n : Nat) (f : Nat → Int32) : Nat × va_E := (a, .inl (K.2.1 1, n, .inl f))
def kn_D : List MethodName := [Bundle.initS "java/lang/RuntimeException", Bundle.initS "java/lang/Exception", Bundle.initS Bundle.tN]
def kn_C : List String := ["java/lang/IllegalArgumentException", "java/lang/IllegalStateException", "java/lang/IndexOutOfBoundsException"]
def kn_X : List (String × String) := [("java/lang/IllegalStateException", "java/lang/IllegalArgumentException"), ("java/lang/IllegalArgumentException", "java/lang/IndexOutOfBoundsException"), ("java/lang/IllegalStateException", "java/lang/IndexOutOfBoundsException"), ("java/lang/IllegalArgumentException", "java/lang/IllegalStateException")]
/-- what the tables and the statics say, at U: nothing of it is in A -/
def kG (K : kE) (A : Nat → Prop) (U : State) : Prop := va_K K.1 vwCl (kTy K) U ∧ (∀ q ∈ kn_F, va_Nw (.fieldLinkNest q.1 q.2.1 q.2.2.1 q.2.2.2.1 q.2.2.2.2 "KanbanLoop") U) ∧ (∀ q ∈ kn_M, va_Nw (.methodLinkNest q.1 q.2.1 q.2.2 "KanbanLoop") U) ∧ (∀ q ∈ kn_S, vk_R RX3 q.1 q.2 (K.2.2 q.1) U) ∧ vx_Zq Bundle.tN "UNASSIGNED_STACK" Bundle.steD A U U.heap ∧ vx_Zq Bundle.tN "SUPPRESSED_SENTINEL" Bundle.listD A U U.heap ∧ (∀ y ∈ kn_D, va_Nw (.declares y) U) ∧ (∀ q ∈ kn_C, va_Nw (.castable q q) U) ∧ ∀ q ∈ kn_X, va_Nc q.1 q.2 U
theorem kG_same {K : kE} {A : Nat → Prop} {u U : State} (hv : u.vm = U.vm) (hh : u.heap = U.heap) (h : kG K A u) : kG K A U := by
  have ha : u.vm.Alike U.vm := by rw [hv]; exact Vm.Alike.refl _
  obtain ⟨h1, h2, h3, h4, h5, h6, h7, h8, h9⟩ := h
  refine ⟨va_K.moved ha h1, fun q hq => va_Nw.same rfl hv (h2 q hq), fun q hq => va_Nw.same rfl hv (h3 q hq), fun q hq => vk_R.same hv.symm (h4 q hq), ?_, ?_, fun q hq => va_Nw.same rfl hv (h7 q hq), fun q hq => va_Nw.same rfl hv (h8 q hq), fun q hq => va_Nc.moved ha (h9 q hq)⟩
  · rw [← hh]; exact vx_Zq.moved ha h5
  · rw [← hh]; exact vx_Zq.moved ha h6
theorem kNw_warmD {y : MethodName} {s U : State} (hW : s.WarmedH U.vm) (hZ : va_Nw (.declares y) s) : va_Nw (.declares y) U := va_tabs rfl (rfl : (s.setVm U.vm).vm = U.vm) (by rw [Cond.declares_setVm hW.alike]; exact hZ)
theorem kG_call {K : kE} {A B : Nat → Prop} {s U : State} {H : Heap} {locs : List Loc} (h : kG K A s) (hS : va_S A s.heap H locs) (hU : U.heap = H) (hW : s.WarmedH U.vm) (hB : ∀ q, B q → A q) : kG K B U := by
  obtain ⟨h1, h2, h3, h4, h5, h6, h7, h8, h9⟩ := h
  refine ⟨va_K.moved hW.alike h1, fun q hq => va_Nw.warmF hW (h2 q hq), fun q hq => va_Nw.warmM hW (h3 q hq), fun q hq => vk_R.warm hW (h4 q hq), ?_, ?_, fun q hq => kNw_warmD hW (h7 q hq), fun q hq => va_Nw.warmC hW (h8 q hq), fun q hq => va_Nc.moved hW.alike (h9 q hq)⟩
  · rw [hU]; exact vx_Zq.moved hW.alike ((vx_Zq.kept h5 hS.2.1).narrow hB)
  · rw [hU]; exact vx_Zq.moved hW.alike ((vx_Zq.kept h6 hS.2.1).narrow hB)
def kC (p : Program) (s : State) (m : MethodId) (args : Array Value) (meth : Method) (c : Code) (K : kE) (A : Nat → Prop) (nL : Nat) (cc : ByteArray) (own : String) : Prop :=
  p.tables.exec = Jvm.exec ∧ c.code = cc ∧ c.maxLocals = nL ∧ s.vm.findClass own = some m.cls ∧ (∀ w ∈ kALL, w.before args s = true) ∧ kG K A s ∧ (∀ q : Nat, s.heap.size ≤ q → A q) ∧ meth.locks = false
def kl_get : List (Nat × Value) → Nat → Option Value
  | [], _ => none
  | (j, v) :: t, i => match Nat.beq j i with
    | true => some v
    | false => kl_get t i
def kl_del : List (Nat × Value) → Nat → List (Nat × Value)
  | [], _ => []
  | (j, v) :: t, i => match Nat.beq j i with
    | true => kl_del t i
    | false => (j, v) :: kl_del t i
def kl_set : List (Nat × Value) → Nat → Value → List (Nat × Value)
  | [], i, v => [(i, v)]
  | (j, u) :: t, i, v => match Nat.beq j i with
    | true => (i, v) :: kl_del t i
    | false => (j, u) :: kl_set t i v
def kl_v1 (v : Value) : Bool := match v with
  | .int _ => true
  | .ref _ => true
  | .null => true
  | _ => false
def kl_1 : List (Nat × Value) → Bool
  | [] => true
  | q :: t => kl_v1 q.2 && kl_1 t
theorem kl_mem {lv : List (Nat × Value)} {i : Nat} {v : Value} (h : kl_get lv i = some v) : (i, v) ∈ lv := by
  induction lv with
  | nil => cases h
  | cons q t ih =>
    obtain ⟨j, u⟩ := q
    unfold kl_get at h
    split at h
    next hb =>
      cases h
      rw [Nat.eq_of_beq_eq_true hb]
      exact List.mem_cons_self
    next => exact List.mem_cons_of_mem _ (ih h)
theorem kl_at {ls : Array Slot} {nL : Nat} {lv : List (Nat × Value)} {i : Nat} {v : Value} (hl : lv_has ls nL lv) (h : kl_get lv i = some v) : ls[i]? = some (.val v) := hl.2.2 (i, v) (kl_mem h)
theorem kl_ix {lv : List (Nat × Value)} {i : Nat} {v : Value} (h : kl_get lv i = some v) : ∃ j : Nat, lv[j]? = some (i, v) := List.getElem?_of_mem (kl_mem h)
theorem kl_del_mem {lv : List (Nat × Value)} {i : Nat} {q : Nat × Value} (h : q ∈ kl_del lv i) : q ∈ lv ∧ q.1 ≠ i := by
  induction lv with
  | nil => cases h
  | cons x t ih =>
    obtain ⟨j, u⟩ := x
    unfold kl_del at h
    split at h
    next => exact ⟨List.mem_cons_of_mem _ (ih h).1, (ih h).2⟩
    next hb =>
      rcases List.mem_cons.mp h with e | e
      · subst e
        exact ⟨List.mem_cons_self, fun z => by have z' : j = i := z; subst z'; rw [Nat.beq_refl] at hb; cases hb⟩
      · exact ⟨List.mem_cons_of_mem _ (ih e).1, (ih e).2⟩
theorem kl_set_mem {lv : List (Nat × Value)} {i : Nat} {v : Value} {q : Nat × Value} (h : q ∈ kl_set lv i v) : q = (i, v) ∨ (q ∈ lv ∧ q.1 ≠ i) := by
  induction lv with
  | nil =>
    unfold kl_set at h
    exact Or.inl (List.mem_singleton.mp h)
  | cons x t ih =>
    obtain ⟨j, u⟩ := x
    unfold kl_set at h
    split at h
    next =>
      rcases List.mem_cons.mp h with e | e
      · exact Or.inl e
      · exact Or.inr ⟨List.mem_cons_of_mem _ (kl_del_mem e).1, (kl_del_mem e).2⟩
    next hb =>
      rcases List.mem_cons.mp h with e | e
      · subst e
        exact Or.inr ⟨List.mem_cons_self, fun z => by have z' : j = i := z; subst z'; rw [Nat.beq_refl] at hb; cases hb⟩
      · rcases ih e with e | e
        · exact Or.inl e
        · exact Or.inr ⟨List.mem_cons_of_mem _ e.1, e.2⟩
theorem kl_1_mem {lv : List (Nat × Value)} (h : kl_1 lv = true) {q : Nat × Value} (hq : q ∈ lv) : kl_v1 q.2 = true := by
  induction lv with
  | nil => cases hq
  | cons x t ih =>
    unfold kl_1 at h
    rw [Bool.and_eq_true] at h
    rcases List.mem_cons.mp hq with e | e
    · rw [e]; exact h.1
    · exact ih h.2 e
theorem kl_put {ls : Array Slot} {nL : Nat} {lv : List (Nat × Value)} {i : Nat} {v : Value} (h1 : kl_1 lv = true) (h : lv_has ls nL ((i, v) :: lv.filter (fun q => !(q.1 == i) && !(q.1 + 1 == i && q.2.category == 2)))) : lv_has ls nL (kl_set lv i v) := by
  refine ⟨h.1, h.2.1, fun q hq => h.2.2 q ?_⟩
  rcases kl_set_mem hq with e | ⟨e, hne⟩
  · rw [e]; exact List.mem_cons_self
  · refine List.mem_cons_of_mem _ (List.mem_filter.mpr ⟨e, ?_⟩)
    have h2 := kl_1_mem h1 e
    obtain ⟨j, u⟩ := q
    have hc : u.category = 1 := by
      cases u <;> first | rfl | (exact absurd h2 (by simp [kl_v1]))
    simp [hc, hne]
def kW (p : Program) (l : Launch) (e : Env) (R : Room) (s : State) (m : MethodId) (args : Array Value) (below : List Frame) (meth : Method) (c : Code) (K : kE) (A : Nat → Prop) (nL : Nat) (Q : State → Prop) (k n : Nat) (pl X : va_W) (lv : List (Nat × Value)) (pc : Nat) (st : List Value) : Prop :=
  ∀ (H : Heap) (locs : List Loc) (ls : Array Slot), va_P K.1 vwCl (X ++ pl) H → va_D A (X ++ pl) → va_S A s.heap H locs → lv_has ls nL lv → W p l e R s m args below meth c H locs k n Q (F0 m pc ls st)
theorem kz_eq {x : Nat} (hx : x < 2 ^ 31) : nI x = 0 ↔ x = 0 := by
  have h := nI_eq hx (show 0 < 2 ^ 31 by decide)
  rw [nI_0] at h
  exact h
theorem kz_gt {x : Nat} (hx : x < 2 ^ 31) : 0 < nI x ↔ 0 < x := by
  have h := nI_ltI (show 0 < 2 ^ 31 by decide) hx
  rw [nI_0] at h
  exact h
theorem kz_le {x : Nat} (hx : x < 2 ^ 31) : nI x ≤ 0 ↔ x = 0 := by
  have h := nI_leI hx (show 0 < 2 ^ 31 by decide)
  rw [nI_0] at h
  exact h.trans Nat.le_zero
theorem kinc (x d : Nat) {z : Int32} (h : z = nI d) : nI x + z = nI (x + d) := by rw [h, nI_add]
theorem kdec (x d : Nat) (hle : d ≤ x) {z : Int32} (h : z = -(nI d)) : nI x + z = nI (x - d) := by rw [h, ← pk_sub hle, Int32.sub_eq_add_neg]
theorem kAll3 {a b c : Cond} (h1 : a ∈ kALL) (h2 : b ∈ kALL) (h3 : c ∈ kALL) : ∀ w ∈ [a, b, c], w ∈ kALL := by
  intro w hw
  simp only [List.mem_cons, List.not_mem_nil, or_false] at hw
  rcases hw with rfl | rfl | rfl <;> assumption
theorem kAll4 {a b c d : Cond} (h1 : a ∈ kALL) (h2 : b ∈ kALL) (h3 : c ∈ kALL) (h4 : d ∈ kALL) : ∀ w ∈ [a, b, c, d], w ∈ kALL := by
  intro w hw
  simp only [List.mem_cons, List.not_mem_nil, or_false] at hw
  rcases hw with rfl | rfl | rfl | rfl <;> assumption
theorem kAll5 {a b c d e : Cond} (h1 : a ∈ kALL) (h2 : b ∈ kALL) (h3 : c ∈ kALL) (h4 : d ∈ kALL) (h5 : e ∈ kALL) : ∀ w ∈ [a, b, c, d, e], w ∈ kALL := by
  intro w hw
  simp only [List.mem_cons, List.not_mem_nil, or_false] at hw
  rcases hw with rfl | rfl | rfl | rfl | rfl <;> assumption
def kB (r : Bool) : Int32 := if r then 1 else 0
section KROWS
variable {p : Program} {l : Launch} {e : Env} {R : Room} {s : State} {m : MethodId} {args : Array Value} {below : List Frame} {meth : Method} {c : Code} {K : kE} {A : Nat → Prop} {nL : Nat} {Q : State → Prop} {k n : Nat} {pl X : va_W} {lv : List (Nat × Value)} {pc : Nat} {st : List Value} {cc : ByteArray} {own : String}

theorem k_iconst (hC : kC p s m args meth c K A nL cc own) {a : Int} (v : Int32) (hd : decode cc pc = .ok (.iconst a, 1)) (hv : Int32.ofInt a = v) (kk : kW p l e R s m args below meth c K A nL Q k n pl X lv (pc + 1) (.int v :: st)) : kW p l e R s m args below meth c K A nL Q k n pl X lv (pc) (st) :=
  fun H locs ls hP hD hS hl => lv_iconst hC.1 hC.2.1 hd hv (kk H locs ls hP hD hS hl)
theorem k_bipush (hC : kC p s m args meth c K A nL cc own) {a : Int} (v : Int32) (hd : decode cc pc = .ok (.bipush a, 2)) (hv : (Int8.ofInt a).toInt32 = v) (kk : kW p l e R s m args below meth c K A nL Q k n pl X lv (pc + 2) (.int v :: st)) : kW p l e R s m args below meth c K A nL Q k n pl X lv (pc) (st) :=
  fun H locs ls hP hD hS hl => lv_bipush hC.1 hC.2.1 hd hv (kk H locs ls hP hD hS hl)
theorem k_null (hC : kC p s m args meth c K A nL cc own)  (hd : decode cc pc = .ok (.aconst_null, 1))  (kk : kW p l e R s m args below meth c K A nL Q k n pl X lv (pc + 1) (.null :: st)) : kW p l e R s m args below meth c K A nL Q k n pl X lv (pc) (st) :=
  fun H locs ls hP hD hS hl => lv_null hC.1 hC.2.1 hd (kk H locs ls hP hD hS hl)
theorem k_iload_n (hC : kC p s m args meth c K A nL cc own) {j : Fin 4} (i : Nat) {x : Int32} (hd : decode cc pc = .ok (.iload_n j, 1)) (hi : (j : Nat) = i) (hv : kl_get lv i = some (.int x)) (kk : kW p l e R s m args below meth c K A nL Q k n pl X lv (pc + 1) (.int x :: st)) : kW p l e R s m args below meth c K A nL Q k n pl X lv (pc) (st) :=
  fun H locs ls hP hD hS hl => lv_iload_n hC.1 hC.2.1 hd hi (kl_at hl hv) (kk H locs ls hP hD hS hl)
theorem k_iload (hC : kC p s m args meth c K A nL cc own) {i : Nat} {x : Int32} (hd : decode cc pc = .ok (.iload i, 2)) (hv : kl_get lv i = some (.int x)) (kk : kW p l e R s m args below meth c K A nL Q k n pl X lv (pc + 2) (.int x :: st)) : kW p l e R s m args below meth c K A nL Q k n pl X lv (pc) (st) :=
  fun H locs ls hP hD hS hl => lv_iload hC.1 hC.2.1 hd (kl_at hl hv) (kk H locs ls hP hD hS hl)
theorem k_aload_n (hC : kC p s m args meth c K A nL cc own) {j : Fin 4} (i : Nat) {x : Nat} (hd : decode cc pc = .ok (.aload_n j, 1)) (hi : (j : Nat) = i) (hv : kl_get lv i = some (.ref x)) (kk : kW p l e R s m args below meth c K A nL Q k n pl X lv (pc + 1) (.ref x :: st)) : kW p l e R s m args below meth c K A nL Q k n pl X lv (pc) (st) :=
  fun H locs ls hP hD hS hl => lv_aload_n hC.1 hC.2.1 hd hi (kl_at hl hv) (kk H locs ls hP hD hS hl)
theorem k_aload (hC : kC p s m args meth c K A nL cc own) {i : Nat} {x : Nat} (hd : decode cc pc = .ok (.aload i, 2)) (hv : kl_get lv i = some (.ref x)) (kk : kW p l e R s m args below meth c K A nL Q k n pl X lv (pc + 2) (.ref x :: st)) : kW p l e R s m args below meth c K A nL Q k n pl X lv (pc) (st) :=
  fun H locs ls hP hD hS hl => lv_aload hC.1 hC.2.1 hd (kl_at hl hv) (kk H locs ls hP hD hS hl)
theorem k_aload_nN (hC : kC p s m args meth c K A nL cc own) {j : Fin 4} (i : Nat) (hd : decode cc pc = .ok (.aload_n j, 1)) (hi : (j : Nat) = i) (hv : kl_get lv i = some .null) (kk : kW p l e R s m args below meth c K A nL Q k n pl X lv (pc + 1) (.null :: st)) : kW p l e R s m args below meth c K A nL Q k n pl X lv (pc) (st) :=
  fun H locs ls hP hD hS hl => lv_aload_nN hC.1 hC.2.1 hd hi (kl_at hl hv) (kk H locs ls hP hD hS hl)
theorem k_aloadN (hC : kC p s m args meth c K A nL cc own) {i : Nat} (hd : decode cc pc = .ok (.aload i, 2)) (hv : kl_get lv i = some .null) (kk : kW p l e R s m args below meth c K A nL Q k n pl X lv (pc + 2) (.null :: st)) : kW p l e R s m args below meth c K A nL Q k n pl X lv (pc) (st) :=
  fun H locs ls hP hD hS hl => lv_aloadN hC.1 hC.2.1 hd (kl_at hl hv) (kk H locs ls hP hD hS hl)
theorem k_istore_n (hC : kC p s m args meth c K A nL cc own) {j : Fin 4} (i : Nat) {x : Int32} (hd : decode cc pc = .ok (.istore_n j, 1)) (hi9 : (j : Nat) = i) (hi : i < nL) (h1 : kl_1 lv = true) (lv2 : List (Nat × Value)) (h2 : kl_set lv i (.int x) = lv2) (kk : kW p l e R s m args below meth c K A nL Q k n pl X lv2 (pc + 1) (st)) : kW p l e R s m args below meth c K A nL Q k n pl X lv (pc) (.int x :: st) :=
  fun H locs ls hP hD hS hl => lv_istore_n hC.1 hC.2.1 hd hi9 hl hi rfl (fun ls2 hl2 => kk H locs ls2 hP hD hS (h2 ▸ kl_put h1 hl2))
theorem k_istore (hC : kC p s m args meth c K A nL cc own) {i : Nat} {x : Int32} (hd : decode cc pc = .ok (.istore i, 2)) (hi : i < nL) (h1 : kl_1 lv = true) (lv2 : List (Nat × Value)) (h2 : kl_set lv i (.int x) = lv2) (kk : kW p l e R s m args below meth c K A nL Q k n pl X lv2 (pc + 2) (st)) : kW p l e R s m args below meth c K A nL Q k n pl X lv (pc) (.int x :: st) :=
  fun H locs ls hP hD hS hl => lv_istore hC.1 hC.2.1 hd hl hi rfl (fun ls2 hl2 => kk H locs ls2 hP hD hS (h2 ▸ kl_put h1 hl2))
theorem k_astore_n (hC : kC p s m args meth c K A nL cc own) {j : Fin 4} (i : Nat) {x : Nat} (hd : decode cc pc = .ok (.astore_n j, 1)) (hi9 : (j : Nat) = i) (hi : i < nL) (h1 : kl_1 lv = true) (lv2 : List (Nat × Value)) (h2 : kl_set lv i (.ref x) = lv2) (kk : kW p l e R s m args below meth c K A nL Q k n pl X lv2 (pc + 1) (st)) : kW p l e R s m args below meth c K A nL Q k n pl X lv (pc) (.ref x :: st) :=
  fun H locs ls hP hD hS hl => lv_astore_n hC.1 hC.2.1 hd hi9 hl hi rfl (fun ls2 hl2 => kk H locs ls2 hP hD hS (h2 ▸ kl_put h1 hl2))
theorem k_astore (hC : kC p s m args meth c K A nL cc own) {i : Nat} {x : Nat} (hd : decode cc pc = .ok (.astore i, 2)) (hi : i < nL) (h1 : kl_1 lv = true) (lv2 : List (Nat × Value)) (h2 : kl_set lv i (.ref x) = lv2) (kk : kW p l e R s m args below meth c K A nL Q k n pl X lv2 (pc + 2) (st)) : kW p l e R s m args below meth c K A nL Q k n pl X lv (pc) (.ref x :: st) :=
  fun H locs ls hP hD hS hl => lv_astore hC.1 hC.2.1 hd hl hi rfl (fun ls2 hl2 => kk H locs ls2 hP hD hS (h2 ▸ kl_put h1 hl2))
theorem k_astore_nN (hC : kC p s m args meth c K A nL cc own) {j : Fin 4} (i : Nat) (hd : decode cc pc = .ok (.astore_n j, 1)) (hi9 : (j : Nat) = i) (hi : i < nL) (h1 : kl_1 lv = true) (lv2 : List (Nat × Value)) (h2 : kl_set lv i .null = lv2) (kk : kW p l e R s m args below meth c K A nL Q k n pl X lv2 (pc + 1) (st)) : kW p l e R s m args below meth c K A nL Q k n pl X lv (pc) (.null :: st) :=
  fun H locs ls hP hD hS hl => lv_astore_nN hC.1 hC.2.1 hd hi9 hl hi rfl (fun ls2 hl2 => kk H locs ls2 hP hD hS (h2 ▸ kl_put h1 hl2))
theorem k_astoreN (hC : kC p s m args meth c K A nL cc own) {i : Nat} (hd : decode cc pc = .ok (.astore i, 2)) (hi : i < nL) (h1 : kl_1 lv = true) (lv2 : List (Nat × Value)) (h2 : kl_set lv i .null = lv2) (kk : kW p l e R s m args below meth c K A nL Q k n pl X lv2 (pc + 2) (st)) : kW p l e R s m args below meth c K A nL Q k n pl X lv (pc) (.null :: st) :=
  fun H locs ls hP hD hS hl => lv_astoreN hC.1 hC.2.1 hd hl hi rfl (fun ls2 hl2 => kk H locs ls2 hP hD hS (h2 ▸ kl_put h1 hl2))
theorem k_iinc (hC : kC p s m args meth c K A nL cc own) {i : Nat} {a : Int} {x : Int32} (hd : decode cc pc = .ok (.iinc i a, 3)) (hi : i < nL) (h1 : kl_1 lv = true) (hv : kl_get lv i = some (.int x)) (v : Int32) (hx : x + Int32.ofInt a = v) (lv2 : List (Nat × Value)) (h2 : kl_set lv i (.int v) = lv2) (kk : kW p l e R s m args below meth c K A nL Q k n pl X lv2 (pc + 3) (st)) : kW p l e R s m args below meth c K A nL Q k n pl X lv (pc) (st) := by
  intro H locs ls hP hD hS hl
  obtain ⟨j, hj⟩ := kl_ix hv
  exact lv_iinc hC.1 hC.2.1 hd hl hj hx hi rfl (fun ls2 hl2 => kk H locs ls2 hP hD hS (h2 ▸ kl_put h1 hl2))
theorem k_iadd (hC : kC p s m args meth c K A nL cc own) {x y : Int32} (hd : decode cc pc = .ok (.iadd, 1))  (kk : kW p l e R s m args below meth c K A nL Q k n pl X lv (pc + 1) (.int (x + y) :: st)) : kW p l e R s m args below meth c K A nL Q k n pl X lv (pc) (.int y :: .int x :: st) :=
  fun H locs ls hP hD hS hl => lv_iadd hC.1 hC.2.1 hd (kk H locs ls hP hD hS hl)
theorem k_isub (hC : kC p s m args meth c K A nL cc own) {x y : Int32} (hd : decode cc pc = .ok (.isub, 1))  (kk : kW p l e R s m args below meth c K A nL Q k n pl X lv (pc + 1) (.int (x - y) :: st)) : kW p l e R s m args below meth c K A nL Q k n pl X lv (pc) (.int y :: .int x :: st) :=
  fun H locs ls hP hD hS hl => lv_isub hC.1 hC.2.1 hd (kk H locs ls hP hD hS hl)
theorem k_imul (hC : kC p s m args meth c K A nL cc own) {x y : Int32} (hd : decode cc pc = .ok (.imul, 1))  (kk : kW p l e R s m args below meth c K A nL Q k n pl X lv (pc + 1) (.int (x * y) :: st)) : kW p l e R s m args below meth c K A nL Q k n pl X lv (pc) (.int y :: .int x :: st) :=
  fun H locs ls hP hD hS hl => lv_imul hC.1 hC.2.1 hd (kk H locs ls hP hD hS hl)
theorem k_iand (hC : kC p s m args meth c K A nL cc own) {x y : Int32} (hd : decode cc pc = .ok (.iand, 1))  (kk : kW p l e R s m args below meth c K A nL Q k n pl X lv (pc + 1) (.int (x &&& y) :: st)) : kW p l e R s m args below meth c K A nL Q k n pl X lv (pc) (.int y :: .int x :: st) :=
  fun H locs ls hP hD hS hl => lv_iand hC.1 hC.2.1 hd (kk H locs ls hP hD hS hl)
theorem k_iaddN (hC : kC p s m args meth c K A nL cc own) {x y : Nat} (hd : decode cc pc = .ok (.iadd, 1))  (kk : kW p l e R s m args below meth c K A nL Q k n pl X lv (pc + 1) (.int (nI (x + y)) :: st)) : kW p l e R s m args below meth c K A nL Q k n pl X lv (pc) (.int (nI y) :: .int (nI x) :: st) :=
  fun H locs ls hP hD hS hl => lv_iadd hC.1 hC.2.1 hd (by rw [nI_add]; exact (kk H locs ls hP hD hS hl))
theorem k_isubN (hC : kC p s m args meth c K A nL cc own) {x y : Nat} (hd : decode cc pc = .ok (.isub, 1)) (hle : y ≤ x) (kk : kW p l e R s m args below meth c K A nL Q k n pl X lv (pc + 1) (.int (nI (x - y)) :: st)) : kW p l e R s m args below meth c K A nL Q k n pl X lv (pc) (.int (nI y) :: .int (nI x) :: st) :=
  fun H locs ls hP hD hS hl => lv_isub hC.1 hC.2.1 hd (by rw [pk_sub hle]; exact (kk H locs ls hP hD hS hl))
theorem k_imulN (hC : kC p s m args meth c K A nL cc own) {x y : Nat} (hd : decode cc pc = .ok (.imul, 1))  (kk : kW p l e R s m args below meth c K A nL Q k n pl X lv (pc + 1) (.int (nI (x * y)) :: st)) : kW p l e R s m args below meth c K A nL Q k n pl X lv (pc) (.int (nI y) :: .int (nI x) :: st) :=
  fun H locs ls hP hD hS hl => lv_imul hC.1 hC.2.1 hd (by rw [pk_mul]; exact (kk H locs ls hP hD hS hl))
theorem k_idiv (hC : kC p s m args meth c K A nL cc own) {x y : Int32} (hd : decode cc pc = .ok (.idiv, 1)) (hne : ¬ y = 0) (kk : kW p l e R s m args below meth c K A nL Q k n pl X lv (pc + 1) (.int (x / y) :: st)) : kW p l e R s m args below meth c K A nL Q k n pl X lv (pc) (.int y :: .int x :: st) :=
  fun H locs ls hP hD hS hl => lv_idiv hC.1 hC.2.1 hd hne (kk H locs ls hP hD hS hl)
theorem k_ineg (hC : kC p s m args meth c K A nL cc own) {x : Int32} (hd : decode cc pc = .ok (.ineg, 1))  (kk : kW p l e R s m args below meth c K A nL Q k n pl X lv (pc + 1) (.int (-x) :: st)) : kW p l e R s m args below meth c K A nL Q k n pl X lv (pc) (.int x :: st) :=
  fun H locs ls hP hD hS hl => lv_ineg hC.1 hC.2.1 hd (kk H locs ls hP hD hS hl)
theorem k_dup (hC : kC p s m args meth c K A nL cc own) {va : Value} (hd : decode cc pc = .ok (.dup, 1)) (hva : va.category = 1) (kk : kW p l e R s m args below meth c K A nL Q k n pl X lv (pc + 1) (va :: va :: st)) : kW p l e R s m args below meth c K A nL Q k n pl X lv (pc) (va :: st) :=
  fun H locs ls hP hD hS hl => lv_dup hC.1 hC.2.1 hd hva (kk H locs ls hP hD hS hl)
theorem k_dup2 (hC : kC p s m args meth c K A nL cc own) {va vb : Value} (hd : decode cc pc = .ok (.dup2, 1)) (hva : va.category = 1) (hvb : vb.category = 1) (kk : kW p l e R s m args below meth c K A nL Q k n pl X lv (pc + 1) (vb :: va :: vb :: va :: st)) : kW p l e R s m args below meth c K A nL Q k n pl X lv (pc) (vb :: va :: st) :=
  fun H locs ls hP hD hS hl => lv_dup2_11 hC.1 hC.2.1 hd hvb hva (kk H locs ls hP hD hS hl)
theorem k_dup_x1 (hC : kC p s m args meth c K A nL cc own) {va vb : Value} (hd : decode cc pc = .ok (.dup_x1, 1)) (hva : va.category = 1) (hvb : vb.category = 1) (kk : kW p l e R s m args below meth c K A nL Q k n pl X lv (pc + 1) (va :: vb :: va :: st)) : kW p l e R s m args below meth c K A nL Q k n pl X lv (pc) (va :: vb :: st) :=
  fun H locs ls hP hD hS hl => lv_dup_x1 hC.1 hC.2.1 hd hva hvb (kk H locs ls hP hD hS hl)
theorem k_dup_x2 (hC : kC p s m args meth c K A nL cc own) {va vb vd : Value} (hd : decode cc pc = .ok (.dup_x2, 1)) (hva : va.category = 1) (hvb : vb.category = 1) (hvd : vd.category = 1) (kk : kW p l e R s m args below meth c K A nL Q k n pl X lv (pc + 1) (va :: vb :: vd :: va :: st)) : kW p l e R s m args below meth c K A nL Q k n pl X lv (pc) (va :: vb :: vd :: st) :=
  fun H locs ls hP hD hS hl => lv_dup_x2 hC.1 hC.2.1 hd hva hvb hvd (kk H locs ls hP hD hS hl)
theorem k_pop (hC : kC p s m args meth c K A nL cc own) {va : Value} (hd : decode cc pc = .ok (.pop, 1)) (hva : va.category = 1) (kk : kW p l e R s m args below meth c K A nL Q k n pl X lv (pc + 1) (st)) : kW p l e R s m args below meth c K A nL Q k n pl X lv (pc) (va :: st) :=
  fun H locs ls hP hD hS hl => lv_pop hC.1 hC.2.1 hd hva (kk H locs ls hP hD hS hl)
theorem k_goto (hC : kC p s m args meth c K A nL cc own) {off : Int} (tgt : Nat) (hd : decode cc pc = .ok (.goto off, 3)) (ht : (pc : Int) + off = (tgt : Int)) (kk : kW p l e R s m args below meth c K A nL Q k n pl X lv (tgt) (st)) : kW p l e R s m args below meth c K A nL Q k n pl X lv (pc) (st) :=
  fun H locs ls hP hD hS hl => lv_goto hC.1 hC.2.1 hd ht (kk H locs ls hP hD hS hl)
theorem k_if_eq (hC : kC p s m args meth c K A nL cc own) {x : Int32} {off : Int} (tgt : Nat) (hd : decode cc pc = .ok (.ifCond .eq off, 3)) (ht : (pc : Int) + off = (tgt : Int)) (kt : x = 0 → kW p l e R s m args below meth c K A nL Q k n pl X lv (tgt) (st)) (kf : ¬ x = 0 → kW p l e R s m args below meth c K A nL Q k n pl X lv (pc + 3) (st)) : kW p l e R s m args below meth c K A nL Q k n pl X lv (pc) (.int x :: st) :=
  fun H locs ls hP hD hS hl => lv_if_eq hC.1 hC.2.1 hd ht (fun h => kt h H locs ls hP hD hS hl) (fun h => kf h H locs ls hP hD hS hl)
theorem k_icmp_eq (hC : kC p s m args meth c K A nL cc own) {x y : Int32} {off : Int} (tgt : Nat) (hd : decode cc pc = .ok (.if_icmp .eq off, 3)) (ht : (pc : Int) + off = (tgt : Int)) (kt : x = y → kW p l e R s m args below meth c K A nL Q k n pl X lv (tgt) (st)) (kf : ¬ x = y → kW p l e R s m args below meth c K A nL Q k n pl X lv (pc + 3) (st)) : kW p l e R s m args below meth c K A nL Q k n pl X lv (pc) (.int y :: .int x :: st) :=
  fun H locs ls hP hD hS hl => lv_icmp_eq hC.1 hC.2.1 hd ht (fun h => kt h H locs ls hP hD hS hl) (fun h => kf h H locs ls hP hD hS hl)
theorem k_icmp_eqN (hC : kC p s m args meth c K A nL cc own) {x y : Nat} {off : Int} (tgt : Nat) (hd : decode cc pc = .ok (.if_icmp .eq off, 3)) (ht : (pc : Int) + off = (tgt : Int)) (hx : x < 2 ^ 31) (hy : y < 2 ^ 31) (kt : x = y → kW p l e R s m args below meth c K A nL Q k n pl X lv (tgt) (st)) (kf : ¬ x = y → kW p l e R s m args below meth c K A nL Q k n pl X lv (pc + 3) (st)) : kW p l e R s m args below meth c K A nL Q k n pl X lv (pc) (.int (nI y) :: .int (nI x) :: st) :=
  k_icmp_eq hC tgt hd ht (fun h => kt (by simpa only [nI_eq hx hy, nI_leI hx hy, nI_ltI hx hy, nI_leI hy hx, nI_ltI hy hx] using h)) (fun h => kf (by simpa only [nI_eq hx hy, nI_leI hx hy, nI_ltI hx hy, nI_leI hy hx, nI_ltI hy hx] using h))
theorem k_if_eqN (hC : kC p s m args meth c K A nL cc own) {x : Nat} {off : Int} (tgt : Nat) (hd : decode cc pc = .ok (.ifCond .eq off, 3)) (ht : (pc : Int) + off = (tgt : Int)) (hx : x < 2 ^ 31) (kt : x = 0 → kW p l e R s m args below meth c K A nL Q k n pl X lv (tgt) (st)) (kf : ¬ x = 0 → kW p l e R s m args below meth c K A nL Q k n pl X lv (pc + 3) (st)) : kW p l e R s m args below meth c K A nL Q k n pl X lv (pc) (.int (nI x) :: st) :=
  k_if_eq hC tgt hd ht (fun h => kt (by simpa only [kz_eq hx, kz_gt hx, kz_le hx] using h)) (fun h => kf (by simpa only [kz_eq hx, kz_gt hx, kz_le hx] using h))
theorem k_if_ne (hC : kC p s m args meth c K A nL cc own) {x : Int32} {off : Int} (tgt : Nat) (hd : decode cc pc = .ok (.ifCond .ne off, 3)) (ht : (pc : Int) + off = (tgt : Int)) (kt : ¬ x = 0 → kW p l e R s m args below meth c K A nL Q k n pl X lv (tgt) (st)) (kf : x = 0 → kW p l e R s m args below meth c K A nL Q k n pl X lv (pc + 3) (st)) : kW p l e R s m args below meth c K A nL Q k n pl X lv (pc) (.int x :: st) :=
  fun H locs ls hP hD hS hl => lv_if_ne hC.1 hC.2.1 hd ht (fun h => kt h H locs ls hP hD hS hl) (fun h => kf h H locs ls hP hD hS hl)
theorem k_icmp_ne (hC : kC p s m args meth c K A nL cc own) {x y : Int32} {off : Int} (tgt : Nat) (hd : decode cc pc = .ok (.if_icmp .ne off, 3)) (ht : (pc : Int) + off = (tgt : Int)) (kt : ¬ x = y → kW p l e R s m args below meth c K A nL Q k n pl X lv (tgt) (st)) (kf : x = y → kW p l e R s m args below meth c K A nL Q k n pl X lv (pc + 3) (st)) : kW p l e R s m args below meth c K A nL Q k n pl X lv (pc) (.int y :: .int x :: st) :=
  fun H locs ls hP hD hS hl => lv_icmp_ne hC.1 hC.2.1 hd ht (fun h => kt h H locs ls hP hD hS hl) (fun h => kf h H locs ls hP hD hS hl)
theorem k_icmp_neN (hC : kC p s m args meth c K A nL cc own) {x y : Nat} {off : Int} (tgt : Nat) (hd : decode cc pc = .ok (.if_icmp .ne off, 3)) (ht : (pc : Int) + off = (tgt : Int)) (hx : x < 2 ^ 31) (hy : y < 2 ^ 31) (kt : ¬ x = y → kW p l e R s m args below meth c K A nL Q k n pl X lv (tgt) (st)) (kf : x = y → kW p l e R s m args below meth c K A nL Q k n pl X lv (pc + 3) (st)) : kW p l e R s m args below meth c K A nL Q k n pl X lv (pc) (.int (nI y) :: .int (nI x) :: st) :=
  k_icmp_ne hC tgt hd ht (fun h => kt (by simpa only [nI_eq hx hy, nI_leI hx hy, nI_ltI hx hy, nI_leI hy hx, nI_ltI hy hx] using h)) (fun h => kf (by simpa only [nI_eq hx hy, nI_leI hx hy, nI_ltI hx hy, nI_leI hy hx, nI_ltI hy hx] using h))
theorem k_if_neN (hC : kC p s m args meth c K A nL cc own) {x : Nat} {off : Int} (tgt : Nat) (hd : decode cc pc = .ok (.ifCond .ne off, 3)) (ht : (pc : Int) + off = (tgt : Int)) (hx : x < 2 ^ 31) (kt : ¬ x = 0 → kW p l e R s m args below meth c K A nL Q k n pl X lv (tgt) (st)) (kf : x = 0 → kW p l e R s m args below meth c K A nL Q k n pl X lv (pc + 3) (st)) : kW p l e R s m args below meth c K A nL Q k n pl X lv (pc) (.int (nI x) :: st) :=
  k_if_ne hC tgt hd ht (fun h => kt (by simpa only [kz_eq hx, kz_gt hx, kz_le hx] using h)) (fun h => kf (by simpa only [kz_eq hx, kz_gt hx, kz_le hx] using h))
theorem k_if_lt (hC : kC p s m args meth c K A nL cc own) {x : Int32} {off : Int} (tgt : Nat) (hd : decode cc pc = .ok (.ifCond .lt off, 3)) (ht : (pc : Int) + off = (tgt : Int)) (kt : x < 0 → kW p l e R s m args below meth c K A nL Q k n pl X lv (tgt) (st)) (kf : ¬ x < 0 → kW p l e R s m args below meth c K A nL Q k n pl X lv (pc + 3) (st)) : kW p l e R s m args below meth c K A nL Q k n pl X lv (pc) (.int x :: st) :=
  fun H locs ls hP hD hS hl => lv_if_lt hC.1 hC.2.1 hd ht (fun h => kt h H locs ls hP hD hS hl) (fun h => kf h H locs ls hP hD hS hl)
theorem k_icmp_lt (hC : kC p s m args meth c K A nL cc own) {x y : Int32} {off : Int} (tgt : Nat) (hd : decode cc pc = .ok (.if_icmp .lt off, 3)) (ht : (pc : Int) + off = (tgt : Int)) (kt : x < y → kW p l e R s m args below meth c K A nL Q k n pl X lv (tgt) (st)) (kf : ¬ x < y → kW p l e R s m args below meth c K A nL Q k n pl X lv (pc + 3) (st)) : kW p l e R s m args below meth c K A nL Q k n pl X lv (pc) (.int y :: .int x :: st) :=
  fun H locs ls hP hD hS hl => lv_icmp_lt hC.1 hC.2.1 hd ht (fun h => kt h H locs ls hP hD hS hl) (fun h => kf h H locs ls hP hD hS hl)
theorem k_icmp_ltN (hC : kC p s m args meth c K A nL cc own) {x y : Nat} {off : Int} (tgt : Nat) (hd : decode cc pc = .ok (.if_icmp .lt off, 3)) (ht : (pc : Int) + off = (tgt : Int)) (hx : x < 2 ^ 31) (hy : y < 2 ^ 31) (kt : x < y → kW p l e R s m args below meth c K A nL Q k n pl X lv (tgt) (st)) (kf : ¬ x < y → kW p l e R s m args below meth c K A nL Q k n pl X lv (pc + 3) (st)) : kW p l e R s m args below meth c K A nL Q k n pl X lv (pc) (.int (nI y) :: .int (nI x) :: st) :=
  k_icmp_lt hC tgt hd ht (fun h => kt (by simpa only [nI_eq hx hy, nI_leI hx hy, nI_ltI hx hy, nI_leI hy hx, nI_ltI hy hx] using h)) (fun h => kf (by simpa only [nI_eq hx hy, nI_leI hx hy, nI_ltI hx hy, nI_leI hy hx, nI_ltI hy hx] using h))
theorem k_if_ge (hC : kC p s m args meth c K A nL cc own) {x : Int32} {off : Int} (tgt : Nat) (hd : decode cc pc = .ok (.ifCond .ge off, 3)) (ht : (pc : Int) + off = (tgt : Int)) (kt : 0 ≤ x → kW p l e R s m args below meth c K A nL Q k n pl X lv (tgt) (st)) (kf : ¬ 0 ≤ x → kW p l e R s m args below meth c K A nL Q k n pl X lv (pc + 3) (st)) : kW p l e R s m args below meth c K A nL Q k n pl X lv (pc) (.int x :: st) :=
  fun H locs ls hP hD hS hl => lv_if_ge hC.1 hC.2.1 hd ht (fun h => kt h H locs ls hP hD hS hl) (fun h => kf h H locs ls hP hD hS hl)
theorem k_icmp_ge (hC : kC p s m args meth c K A nL cc own) {x y : Int32} {off : Int} (tgt : Nat) (hd : decode cc pc = .ok (.if_icmp .ge off, 3)) (ht : (pc : Int) + off = (tgt : Int)) (kt : y ≤ x → kW p l e R s m args below meth c K A nL Q k n pl X lv (tgt) (st)) (kf : ¬ y ≤ x → kW p l e R s m args below meth c K A nL Q k n pl X lv (pc + 3) (st)) : kW p l e R s m args below meth c K A nL Q k n pl X lv (pc) (.int y :: .int x :: st) :=
  fun H locs ls hP hD hS hl => lv_icmp_ge hC.1 hC.2.1 hd ht (fun h => kt h H locs ls hP hD hS hl) (fun h => kf h H locs ls hP hD hS hl)
theorem k_icmp_geN (hC : kC p s m args meth c K A nL cc own) {x y : Nat} {off : Int} (tgt : Nat) (hd : decode cc pc = .ok (.if_icmp .ge off, 3)) (ht : (pc : Int) + off = (tgt : Int)) (hx : x < 2 ^ 31) (hy : y < 2 ^ 31) (kt : y ≤ x → kW p l e R s m args below meth c K A nL Q k n pl X lv (tgt) (st)) (kf : ¬ y ≤ x → kW p l e R s m args below meth c K A nL Q k n pl X lv (pc + 3) (st)) : kW p l e R s m args below meth c K A nL Q k n pl X lv (pc) (.int (nI y) :: .int (nI x) :: st) :=
  k_icmp_ge hC tgt hd ht (fun h => kt (by simpa only [nI_eq hx hy, nI_leI hx hy, nI_ltI hx hy, nI_leI hy hx, nI_ltI hy hx] using h)) (fun h => kf (by simpa only [nI_eq hx hy, nI_leI hx hy, nI_ltI hx hy, nI_leI hy hx, nI_ltI hy hx] using h))
theorem k_if_gt (hC : kC p s m args meth c K A nL cc own) {x : Int32} {off : Int} (tgt : Nat) (hd : decode cc pc = .ok (.ifCond .gt off, 3)) (ht : (pc : Int) + off = (tgt : Int)) (kt : 0 < x → kW p l e R s m args below meth c K A nL Q k n pl X lv (tgt) (st)) (kf : ¬ 0 < x → kW p l e R s m args below meth c K A nL Q k n pl X lv (pc + 3) (st)) : kW p l e R s m args below meth c K A nL Q k n pl X lv (pc) (.int x :: st) :=
  fun H locs ls hP hD hS hl => lv_if_gt hC.1 hC.2.1 hd ht (fun h => kt h H locs ls hP hD hS hl) (fun h => kf h H locs ls hP hD hS hl)
theorem k_icmp_gt (hC : kC p s m args meth c K A nL cc own) {x y : Int32} {off : Int} (tgt : Nat) (hd : decode cc pc = .ok (.if_icmp .gt off, 3)) (ht : (pc : Int) + off = (tgt : Int)) (kt : y < x → kW p l e R s m args below meth c K A nL Q k n pl X lv (tgt) (st)) (kf : ¬ y < x → kW p l e R s m args below meth c K A nL Q k n pl X lv (pc + 3) (st)) : kW p l e R s m args below meth c K A nL Q k n pl X lv (pc) (.int y :: .int x :: st) :=
  fun H locs ls hP hD hS hl => lv_icmp_gt hC.1 hC.2.1 hd ht (fun h => kt h H locs ls hP hD hS hl) (fun h => kf h H locs ls hP hD hS hl)
theorem k_icmp_gtN (hC : kC p s m args meth c K A nL cc own) {x y : Nat} {off : Int} (tgt : Nat) (hd : decode cc pc = .ok (.if_icmp .gt off, 3)) (ht : (pc : Int) + off = (tgt : Int)) (hx : x < 2 ^ 31) (hy : y < 2 ^ 31) (kt : y < x → kW p l e R s m args below meth c K A nL Q k n pl X lv (tgt) (st)) (kf : ¬ y < x → kW p l e R s m args below meth c K A nL Q k n pl X lv (pc + 3) (st)) : kW p l e R s m args below meth c K A nL Q k n pl X lv (pc) (.int (nI y) :: .int (nI x) :: st) :=
  k_icmp_gt hC tgt hd ht (fun h => kt (by simpa only [nI_eq hx hy, nI_leI hx hy, nI_ltI hx hy, nI_leI hy hx, nI_ltI hy hx] using h)) (fun h => kf (by simpa only [nI_eq hx hy, nI_leI hx hy, nI_ltI hx hy, nI_leI hy hx, nI_ltI hy hx] using h))
theorem k_if_gtN (hC : kC p s m args meth c K A nL cc own) {x : Nat} {off : Int} (tgt : Nat) (hd : decode cc pc = .ok (.ifCond .gt off, 3)) (ht : (pc : Int) + off = (tgt : Int)) (hx : x < 2 ^ 31) (kt : 0 < x → kW p l e R s m args below meth c K A nL Q k n pl X lv (tgt) (st)) (kf : ¬ 0 < x → kW p l e R s m args below meth c K A nL Q k n pl X lv (pc + 3) (st)) : kW p l e R s m args below meth c K A nL Q k n pl X lv (pc) (.int (nI x) :: st) :=
  k_if_gt hC tgt hd ht (fun h => kt (by simpa only [kz_eq hx, kz_gt hx, kz_le hx] using h)) (fun h => kf (by simpa only [kz_eq hx, kz_gt hx, kz_le hx] using h))
theorem k_if_le (hC : kC p s m args meth c K A nL cc own) {x : Int32} {off : Int} (tgt : Nat) (hd : decode cc pc = .ok (.ifCond .le off, 3)) (ht : (pc : Int) + off = (tgt : Int)) (kt : x ≤ 0 → kW p l e R s m args below meth c K A nL Q k n pl X lv (tgt) (st)) (kf : ¬ x ≤ 0 → kW p l e R s m args below meth c K A nL Q k n pl X lv (pc + 3) (st)) : kW p l e R s m args below meth c K A nL Q k n pl X lv (pc) (.int x :: st) :=
  fun H locs ls hP hD hS hl => lv_if_le hC.1 hC.2.1 hd ht (fun h => kt h H locs ls hP hD hS hl) (fun h => kf h H locs ls hP hD hS hl)
theorem k_icmp_le (hC : kC p s m args meth c K A nL cc own) {x y : Int32} {off : Int} (tgt : Nat) (hd : decode cc pc = .ok (.if_icmp .le off, 3)) (ht : (pc : Int) + off = (tgt : Int)) (kt : x ≤ y → kW p l e R s m args below meth c K A nL Q k n pl X lv (tgt) (st)) (kf : ¬ x ≤ y → kW p l e R s m args below meth c K A nL Q k n pl X lv (pc + 3) (st)) : kW p l e R s m args below meth c K A nL Q k n pl X lv (pc) (.int y :: .int x :: st) :=
  fun H locs ls hP hD hS hl => lv_icmp_le hC.1 hC.2.1 hd ht (fun h => kt h H locs ls hP hD hS hl) (fun h => kf h H locs ls hP hD hS hl)
theorem k_icmp_leN (hC : kC p s m args meth c K A nL cc own) {x y : Nat} {off : Int} (tgt : Nat) (hd : decode cc pc = .ok (.if_icmp .le off, 3)) (ht : (pc : Int) + off = (tgt : Int)) (hx : x < 2 ^ 31) (hy : y < 2 ^ 31) (kt : x ≤ y → kW p l e R s m args below meth c K A nL Q k n pl X lv (tgt) (st)) (kf : ¬ x ≤ y → kW p l e R s m args below meth c K A nL Q k n pl X lv (pc + 3) (st)) : kW p l e R s m args below meth c K A nL Q k n pl X lv (pc) (.int (nI y) :: .int (nI x) :: st) :=
  k_icmp_le hC tgt hd ht (fun h => kt (by simpa only [nI_eq hx hy, nI_leI hx hy, nI_ltI hx hy, nI_leI hy hx, nI_ltI hy hx] using h)) (fun h => kf (by simpa only [nI_eq hx hy, nI_leI hx hy, nI_ltI hx hy, nI_leI hy hx, nI_ltI hy hx] using h))
theorem k_if_leN (hC : kC p s m args meth c K A nL cc own) {x : Nat} {off : Int} (tgt : Nat) (hd : decode cc pc = .ok (.ifCond .le off, 3)) (ht : (pc : Int) + off = (tgt : Int)) (hx : x < 2 ^ 31) (kt : x = 0 → kW p l e R s m args below meth c K A nL Q k n pl X lv (tgt) (st)) (kf : ¬ x = 0 → kW p l e R s m args below meth c K A nL Q k n pl X lv (pc + 3) (st)) : kW p l e R s m args below meth c K A nL Q k n pl X lv (pc) (.int (nI x) :: st) :=
  k_if_le hC tgt hd ht (fun h => kt (by simpa only [kz_eq hx, kz_gt hx, kz_le hx] using h)) (fun h => kf (by simpa only [kz_eq hx, kz_gt hx, kz_le hx] using h))
theorem kx_l {α : Type} {X pl : List α} {i : Nat} {q : α} (h : X[i]? = some q) : (X ++ pl)[i]? = some q := by
  rw [List.getElem?_append_left (List.getElem?_eq_some_iff.mp h).1]; exact h
theorem kx_set {α : Type} {X pl : List α} {i : Nat} {q x : α} (h : X[i]? = some q) : (X ++ pl).set i x = X.set i x ++ pl := by
  rw [List.set_append_left _ _ (List.getElem?_eq_some_iff.mp h).1]
theorem k_get (hC : kC p s m args meth c K A nL cc own) {C : String} {T : u_T} {N ci idx : Nat} (hin : ∀ w ∈ u_ws C T N, w ∈ kALL) (i j : Nat) {fs : List Value} {a : Nat} {v : Value} (he : X[i]? = some (a, .inr (ci, fs))) (hc : vwCl[ci]? = some (C, T, N)) (hj : j < N) (hlk : Cond.fieldLink own idx (T j).1 (T j).2.1 (T j).2.2.1 ∈ kALL) (hv : fs[j]? = some v) (hd : decode cc pc = .ok (.getfield idx, 3))
    (kk : kW p l e R s m args below meth c K A nL Q k n pl X lv (pc + 3) (v :: st)) : kW p l e R s m args below meth c K A nL Q k n pl X lv pc (.ref a :: st) := by
  obtain ⟨h1, h2, h3, h4, h5, h6, h7, h8⟩ := hC
  exact fun H locs ls hP hD hS hl => va_get h1 h2 h5 hin h4 h6.1 hP i (kx_l he) hc j hj (h5 _ hlk) (fun _ h => h) hv hd (kk H locs ls hP hD hS hl)
theorem k_getN (hC : kC p s m args meth c K A nL cc own) {C : String} {T : u_T} {N ci idx : Nat} (hin : ∀ w ∈ u_ws C T N, w ∈ kALL) (i j : Nat) {fs : List Value} {a : Nat} {v : Value} (he : X[i]? = some (a, .inr (ci, fs))) (hc : vwCl[ci]? = some (C, T, N)) (hj : j < N) (hlk : (own, idx, (T j).1, (T j).2.1, (T j).2.2.1) ∈ kn_F) (hv : fs[j]? = some v) (hd : decode cc pc = .ok (.getfield idx, 3))
    (kk : kW p l e R s m args below meth c K A nL Q k n pl X lv (pc + 3) (v :: st)) : kW p l e R s m args below meth c K A nL Q k n pl X lv pc (.ref a :: st) := by
  obtain ⟨h1, h2, h3, h4, h5, h6, h7, h8⟩ := hC
  exact fun H locs ls hP hD hS hl => va_getN h1 h2 h5 hin h4 h6.1 hP i (kx_l he) hc j hj (va_Nw.use rfl (h6.2.1 _ hlk)) (fun _ h => h) hv hd (kk H locs ls hP hD hS hl)
theorem k_put (hC : kC p s m args meth c K A nL cc own) {C : String} {T : u_T} {N ci idx : Nat} (hin : ∀ w ∈ u_ws C T N, w ∈ kALL) {ty0 : Nat → FieldType} (hty : ∀ k, k < N → parseFieldDescriptor (T k).2.2.1 = some (ty0 k)) (hnm : ∀ a, a < N → ∀ b, b < N → a ≠ b → (T a).2.1 ≠ (T b).2.1) (i j : Nat) {fs : List Value} {a : Nat} {v : Value} (he : X[i]? = some (a, .inr (ci, fs))) (hc : vwCl[ci]? = some (C, T, N)) (hj : j < N) (hlk : Cond.fieldLink own idx (T j).1 (T j).2.1 (T j).2.2.1 ∈ kALL) (hfin : (T j).2.2.2 = false) (hn : narrow (ty0 j) v = v) (hfit : fits (ty0 j) v = true) (hl9 : j < fs.length) (hd : decode cc pc = .ok (.putfield idx, 3)) (X2 : va_W) (h2 : X.set i (a, .inr (ci, fs.set j v)) = X2)
    (kk : kW p l e R s m args below meth c K A nL Q k n pl X2 lv (pc + 3) st) : kW p l e R s m args below meth c K A nL Q k n pl X lv pc (v :: .ref a :: st) := by
  obtain ⟨h1, hb, h3, h4, h5, h6, h7, h8⟩ := hC
  exact fun H locs ls hP hD hS hl => va_put h1 hb h5 hin ty0 hty hnm h4 h6.1 hP hD hS i (kx_l he) hc j hj (h5 _ hlk) (fun _ h => h) hfin (hty j hj) hn hfit hl9 hd (fun H1 locs1 hP1 hD1 hS1 => kk H1 locs1 ls (by rw [← h2, ← kx_set he]; exact hP1) (by rw [← h2, ← kx_set he]; exact hD1) hS1 hl)
theorem k_putN (hC : kC p s m args meth c K A nL cc own) {C : String} {T : u_T} {N ci idx : Nat} (hin : ∀ w ∈ u_ws C T N, w ∈ kALL) {ty0 : Nat → FieldType} (hty : ∀ k, k < N → parseFieldDescriptor (T k).2.2.1 = some (ty0 k)) (hnm : ∀ a, a < N → ∀ b, b < N → a ≠ b → (T a).2.1 ≠ (T b).2.1) (i j : Nat) {fs : List Value} {a : Nat} {v : Value} (he : X[i]? = some (a, .inr (ci, fs))) (hc : vwCl[ci]? = some (C, T, N)) (hj : j < N) (hlk : (own, idx, (T j).1, (T j).2.1, (T j).2.2.1) ∈ kn_F) (hfin : (T j).2.2.2 = false) (hn : narrow (ty0 j) v = v) (hfit : fits (ty0 j) v = true) (hl9 : j < fs.length) (hd : decode cc pc = .ok (.putfield idx, 3)) (X2 : va_W) (h2 : X.set i (a, .inr (ci, fs.set j v)) = X2)
    (kk : kW p l e R s m args below meth c K A nL Q k n pl X2 lv (pc + 3) st) : kW p l e R s m args below meth c K A nL Q k n pl X lv pc (v :: .ref a :: st) := by
  obtain ⟨h1, hb, h3, h4, h5, h6, h7, h8⟩ := hC
  exact fun H locs ls hP hD hS hl => va_putN h1 hb h5 hin ty0 hty hnm h4 h6.1 hP hD hS i (kx_l he) hc j hj (va_Nw.use rfl (h6.2.1 _ hlk)) (fun _ h => h) hfin (hty j hj) hn hfit hl9 hd (fun H1 locs1 hP1 hD1 hS1 => kk H1 locs1 ls (by rw [← h2, ← kx_set he]; exact hP1) (by rw [← h2, ← kx_set he]; exact hD1) hS1 hl)
theorem k_putF (hC : kC p s m args meth c K A nL cc own) (hin2 : meth.name = "<init>") {C : String} {T : u_T} {N ci idx : Nat} (hin : ∀ w ∈ u_ws C T N, w ∈ kALL) {ty0 : Nat → FieldType} (hty : ∀ k, k < N → parseFieldDescriptor (T k).2.2.1 = some (ty0 k)) (hnm : ∀ a, a < N → ∀ b, b < N → a ≠ b → (T a).2.1 ≠ (T b).2.1) (i j : Nat) {fs : List Value} {a : Nat} {v : Value} (he : X[i]? = some (a, .inr (ci, fs))) (hc : vwCl[ci]? = some (C, T, N)) (hj : j < N) (hlk : Cond.fieldLink own idx (T j).1 (T j).2.1 (T j).2.2.1 ∈ kALL) (hfin : (T j).2.2.2 = true) (hdecl : (T j).1 = own) (hn : narrow (ty0 j) v = v) (hfit : fits (ty0 j) v = true) (hl9 : j < fs.length) (hd : decode cc pc = .ok (.putfield idx, 3)) (X2 : va_W) (h2 : X.set i (a, .inr (ci, fs.set j v)) = X2)
    (kk : kW p l e R s m args below meth c K A nL Q k n pl X2 lv (pc + 3) st) : kW p l e R s m args below meth c K A nL Q k n pl X lv pc (v :: .ref a :: st) := by
  obtain ⟨h1, hb, h3, h4, h5, h6, h7, h8⟩ := hC
  exact fun H locs ls hP hD hS hl => va_putF h1 hb h5 hin ty0 hty hnm h4 h6.1 hP hD hS i (kx_l he) hc j hj (h5 _ hlk) (fun _ h => h) hfin hin2 hdecl (hty j hj) hn hfit hl9 hd (fun H1 locs1 hP1 hD1 hS1 => kk H1 locs1 ls (by rw [← h2, ← kx_set he]; exact hP1) (by rw [← h2, ← kx_set he]; exact hD1) hS1 hl)
theorem k_ald (hC : kC p s m args meth c K A nL cc own) (i : Nat) {a z x : Nat} {f : Nat → Int32} (he : X[i]? = some (a, .inl (K.2.1 0, z, .inl f))) (hx : x < z) (hz : z < 2 ^ 31) (hd : decode cc pc = .ok (.iaload, 1))
    (kk : kW p l e R s m args below meth c K A nL Q k n pl X lv (pc + 1) (.int (f x) :: st)) : kW p l e R s m args below meth c K A nL Q k n pl X lv pc (.int (nI x) :: .ref a :: st) := by
  obtain ⟨h1, hb, h3, h4, h5, h6, h7, h8⟩ := hC
  exact fun H locs ls hP hD hS hl => va_iald h1 hb h6.1 hP i 0 (kx_l he) rfl (vp_in_nI hx hz) hd (by rw [nI_clamp (Nat.lt_trans hx hz)]; exact kk H locs ls hP hD hS hl)
theorem k_zald (hC : kC p s m args meth c K A nL cc own) (i : Nat) {a z x : Nat} {f : Nat → Int32} (he : X[i]? = some (a, .inl (K.2.1 1, z, .inl f))) (hx : x < z) (hz : z < 2 ^ 31) (hd : decode cc pc = .ok (.baload, 1))
    (kk : kW p l e R s m args below meth c K A nL Q k n pl X lv (pc + 1) (.int (f x) :: st)) : kW p l e R s m args below meth c K A nL Q k n pl X lv pc (.int (nI x) :: .ref a :: st) := by
  obtain ⟨h1, hb, h3, h4, h5, h6, h7, h8⟩ := hC
  exact fun H locs ls hP hD hS hl => va_zald h1 hb h6.1 hP i 1 (kx_l he) rfl (vp_in_nI hx hz) hd (by rw [nI_clamp (Nat.lt_trans hx hz)]; exact kk H locs ls hP hD hS hl)
theorem k_ast (hC : kC p s m args meth c K A nL cc own) (i : Nat) {a z x : Nat} {f : Nat → Int32} {v : Int32} (he : X[i]? = some (a, .inl (K.2.1 0, z, .inl f))) (hx : x < z) (hz : z < 2 ^ 31) (hd : decode cc pc = .ok (.iastore, 1)) (X2 : va_W) (h2 : X.set i (a, .inl (K.2.1 0, z, .inl (upd f x v))) = X2)
    (kk : kW p l e R s m args below meth c K A nL Q k n pl X2 lv (pc + 1) st) : kW p l e R s m args below meth c K A nL Q k n pl X lv pc (.int v :: .int (nI x) :: .ref a :: st) := by
  obtain ⟨h1, hb, h3, h4, h5, h6, h7, h8⟩ := hC
  intro H locs ls hP hD hS hl
  have e0 := nI_clamp (Nat.lt_trans hx hz)
  exact va_iast h1 hb h6.1 hP hD hS i 0 (kx_l he) rfl (vp_in_nI hx hz) hd (fun H1 locs1 hP1 hD1 hS1 => kk H1 locs1 ls (by rw [e0] at hP1; rw [← h2, ← kx_set he]; exact hP1) (by rw [e0] at hD1; rw [← h2, ← kx_set he]; exact hD1) hS1 hl)
theorem k_zast (hC : kC p s m args meth c K A nL cc own) (i : Nat) {a z x : Nat} {f : Nat → Int32} {v : Int32} (he : X[i]? = some (a, .inl (K.2.1 1, z, .inl f))) (hx : x < z) (hz : z < 2 ^ 31) (hv : vp_nar .boolean v = v) (hd : decode cc pc = .ok (.bastore, 1)) (X2 : va_W) (h2 : X.set i (a, .inl (K.2.1 1, z, .inl (upd f x v))) = X2)
    (kk : kW p l e R s m args below meth c K A nL Q k n pl X2 lv (pc + 1) st) : kW p l e R s m args below meth c K A nL Q k n pl X lv pc (.int v :: .int (nI x) :: .ref a :: st) := by
  obtain ⟨h1, hb, h3, h4, h5, h6, h7, h8⟩ := hC
  intro H locs ls hP hD hS hl
  have e0 := nI_clamp (Nat.lt_trans hx hz)
  exact va_zast h1 hb h6.1 hP hD hS i 1 (kx_l he) rfl (vp_in_nI hx hz) hd (fun H1 locs1 hP1 hD1 hS1 => kk H1 locs1 ls (by rw [e0, hv] at hP1; rw [← h2, ← kx_set he]; exact hP1) (by rw [e0, hv] at hD1; rw [← h2, ← kx_set he]; exact hD1) hS1 hl)
theorem k_perm (is : List Nat) (X2 : va_W) (hs : is.map (fun i => X[i]?) = X2.map some) (hn : va_nd is = true) (kk : kW p l e R s m args below meth c K A nL Q k n pl X2 lv pc st) : kW p l e R s m args below meth c K A nL Q k n pl X lv pc st :=
  fun H locs ls hP hD hS hl => kk H locs ls (fun j q hq => hP _ q (va_part is hs j q hq)) (hD.part is hn hs) hS hl
theorem k_lsub (ks : List Nat) (lv2 : List (Nat × Value)) (h : lv_pick lv ks = lv2) (kk : kW p l e R s m args below meth c K A nL Q k n pl X lv2 pc st) : kW p l e R s m args below meth c K A nL Q k n pl X lv pc st :=
  fun H locs ls hP hD hS hl => kk H locs ls hP hD hS (lv_sub hl ks h)
theorem k_topE {x : Int32} (y : Int32) (h : x = y) (kk : kW p l e R s m args below meth c K A nL Q k n pl X lv pc (.int y :: st)) : kW p l e R s m args below meth c K A nL Q k n pl X lv pc (.int x :: st) := h ▸ kk
theorem k_topi {x : Int32} (kk : ∀ y : Int32, y = x → kW p l e R s m args below meth c K A nL Q k n pl X lv pc (.int y :: st)) : kW p l e R s m args below meth c K A nL Q k n pl X lv pc (.int x :: st) := kk x rfl
theorem k_world (pl2 X2 : va_W) (h1 : ∀ q ∈ X2 ++ pl2, q ∈ X ++ pl) (h2 : ((X2 ++ pl2).map Prod.fst).Nodup ∨ ∀ A : Nat → Prop, va_D A (X ++ pl) → va_D A (X2 ++ pl2)) (kk : kW p l e R s m args below meth c K A nL Q k n pl2 X2 lv pc st) : kW p l e R s m args below meth c K A nL Q k n pl X lv pc st := by
  intro H locs ls hP hD hS hl
  refine kk H locs ls (fun j q hq => ?_) ?_ hS hl
  · obtain ⟨i, hi⟩ := List.getElem?_of_mem (h1 q (List.mem_of_getElem? hq))
    exact hP i q hi
  · rcases h2 with h2 | h2
    · refine ⟨fun i j x y hi hj hxy => ?_, fun j q hq => ?_⟩
      · have hi' : ((X2 ++ pl2).map Prod.fst)[i]? = some x.1 := by rw [List.getElem?_map, hi]; rfl
        have hj' : ((X2 ++ pl2).map Prod.fst)[j]? = some y.1 := by rw [List.getElem?_map, hj]; rfl
        exact (List.getElem?_inj (List.getElem?_eq_some_iff.mp hi').1 h2).mp (by rw [hi', hj', hxy])
      · obtain ⟨i, hi⟩ := List.getElem?_of_mem (h1 q (List.mem_of_getElem? hq))
        exact hD.2 i q hi
    · exact h2 A hD
theorem k_as {pl2 X2 : va_W} (h : X ++ pl = X2 ++ pl2) (kk : kW p l e R s m args below meth c K A nL Q k n pl2 X2 lv pc st) : kW p l e R s m args below meth c K A nL Q k n pl X lv pc st :=
  fun H locs ls hP hD hS hl => kk H locs ls (h ▸ hP) (h ▸ hD) hS hl
theorem k_eX {X2 : va_W} (h : X = X2) (kk : kW p l e R s m args below meth c K A nL Q k n pl X2 lv pc st) : kW p l e R s m args below meth c K A nL Q k n pl X lv pc st := h ▸ kk
theorem k_re (k2 n2 : Nat) (X2 : va_W) (st2 : List Value) (h1 : k = k2) (h2 : n = n2) (hX : X = X2) (hs : st = st2) (kk : kW p l e R s m args below meth c K A nL Q k2 n2 pl X2 lv pc st2) : kW p l e R s m args below meth c K A nL Q k n pl X lv pc st := by subst h1; subst h2; subst hX; subst hs; exact kk
theorem k_widen {k2 n2 : Nat} (h1 : k ≤ k2) (h2 : n ≤ n2) (kk : kW p l e R s m args below meth c K A nL Q k2 n2 pl X lv pc st) : kW p l e R s m args below meth c K A nL Q k n pl X lv pc st :=
  fun H locs ls hP hD hS hl => W.widen h1 h2 (kk H locs ls hP hD hS hl)
theorem k_new (hC : kC p s m args meth c K A nL cc own) {C : String} {T : u_T} {N ci idx : Nat} (hin : ∀ w ∈ u_ws C T N, w ∈ kALL) {ty0 : Nat → FieldType} (hty : ∀ k, k < N → parseFieldDescriptor (T k).2.2.1 = some (ty0 k)) (hc : vwCl[ci]? = some (C, T, N)) (h1w : Cond.classLink own idx C ∈ kALL) (h2w : Cond.instantiable C N ∈ kALL) (h3w : Cond.initialized C ∈ kALL) (fs : List Value) (hfs : ∀ j, j < N → defaultValue (ty0 j) = vp_V fs j) (hk : k + 1 ≤ R.cells) (hn : n + N ≤ R.slots) (hd : decode cc pc = .ok (.new idx, 3))
    (kk : ∀ q : Nat, kW p l e R s m args below meth c K A nL Q (k + 1) (n + N) pl (X ++ [(q, .inr (ci, fs))]) lv (pc + 3) (.ref q :: st)) : kW p l e R s m args below meth c K A nL Q k n pl X lv pc st := by
  obtain ⟨h1, hb, h3, h4, h5, h6, h7, h8⟩ := hC
  intro H locs ls hP hD hS hl
  refine va_new h1 hb h5 hin ty0 hty h4 (h5 _ h1w) (h5 _ h2w) (h5 _ h3w) h6.1 hP hD hS h7 hc hfs hk hn hd (fun q H1 hP1 hD1 hS1 => ?_)
  exact kk q H1 locs ls hP1.swap hD1.swap hS1 hl
theorem kt_uni {K : kE} {U : State} {cA : ClassId} {t : Nat} {ty : FieldType} (h : va_K K.1 vwCl (kTy K ++ [(cA, ty)]) U) (ht : (kTy K)[t]? = some (K.2.1 t, ty)) (hp : ty = .int ∨ ty = .boolean) : cA = K.2.1 t := by
  have hl : t < (kTy K).length := (List.getElem?_eq_some_iff.mp ht).1
  have h1 := (h.2 t (K.2.1 t, ty) (by rw [List.getElem?_append_left hl]; exact ht)).2
  have h2 := (h.2 2 (cA, ty) rfl).2
  rcases hp with rfl | rfl <;> exact Option.some.inj (h2.symm.trans h1)
theorem k_newI (hC : kC p s m args meth c K A nL cc own) (z : Nat) {x : Int32} (hx : x = nI z) (hz : z < 1000) (hk : k + 1 ≤ R.cells) (hn : n + z ≤ R.slots) (hw : Cond.arrayClass .int ∈ kALL) (hd : decode cc pc = .ok (.newarray .int, 2))
    (kk : ∀ q : Nat, kW p l e R s m args below meth c K A nL Q (k + 1) (n + z) pl (X ++ [(q, .inl (K.2.1 0, z, .inl (fun _ => 0)))]) lv (pc + 2) (.ref q :: st)) : kW p l e R s m args below meth c K A nL Q k n pl X lv pc (.int x :: st) := by
  obtain ⟨h1, hb, h3, h4, h5, h6, h7, h8⟩ := hC
  intro H locs ls hP hD hS hl
  subst hx
  refine va_newa (atype := .int) (a0 := (z, .inl (fun _ => 0))) h1 hb (h5 _ hw) rfl h6.1 hP hD hS h7 (fun _ => rfl) (nI_pos (by omega)) (nI_clamp (by omega)) (by show z * 4 ≤ _; omega) hk hn hd (fun q cA H1 hK1 hP1 hD1 hS1 => ?_)
  rw [kt_uni (t := 0) hK1 rfl (Or.inl rfl)] at hP1 hD1
  exact kk q H1 locs ls hP1.swap hD1.swap hS1 hl
theorem k_newZ (hC : kC p s m args meth c K A nL cc own) (z : Nat) {x : Int32} (hx : x = nI z) (hz : z < 1000) (hk : k + 1 ≤ R.cells) (hn : n + z ≤ R.slots) (hw : Cond.arrayClass .boolean ∈ kALL) (hd : decode cc pc = .ok (.newarray .boolean, 2))
    (kk : ∀ q : Nat, kW p l e R s m args below meth c K A nL Q (k + 1) (n + z) pl (X ++ [(q, .inl (K.2.1 1, z, .inl (fun _ => 0)))]) lv (pc + 2) (.ref q :: st)) : kW p l e R s m args below meth c K A nL Q k n pl X lv pc (.int x :: st) := by
  obtain ⟨h1, hb, h3, h4, h5, h6, h7, h8⟩ := hC
  intro H locs ls hP hD hS hl
  subst hx
  refine va_newa (atype := .boolean) (a0 := (z, .inl (fun _ => 0))) h1 hb (h5 _ hw) rfl h6.1 hP hD hS h7 (fun _ => rfl) (nI_pos (by omega)) (nI_clamp (by omega)) (by show z * 1 ≤ _; omega) hk hn hd (fun q cA H1 hK1 hP1 hD1 hS1 => ?_)
  rw [kt_uni (t := 1) hK1 rfl (Or.inr rfl)] at hP1 hD1
  exact kk q H1 locs ls hP1.swap hD1.swap hS1 hl
theorem k_objInit (hC : kC p s m args meth c K A nL cc own) {idx a : Nat} (hw : Cond.methodLink own idx Lib.objectInit ∈ kALL) (hw2 : Cond.instanceMethod Lib.objectInit ∈ kALL) (hw3 : Cond.code Lib.objectInit ⟨#[0xb1]⟩ 1 none ∈ kALL) (hd : decode cc pc = .ok (.invokespecial idx, 3)) (hf : 1 ≤ R.frames) (hR : (st.map fun v => v.category).sum + 12 ≤ R.locals)
    (kk : kW p l e R s m args below meth c K A nL Q k n pl X lv (pc + 3) st) : kW p l e R s m args below meth c K A nL Q k n pl X lv pc (.ref a :: st) := by
  obtain ⟨h1, hb, h3, h4, h5, h6, h7, h8⟩ := hC
  intro H locs ls hP hD hS hl
  refine W.objInit h1 hb h4 (h5 _ hw) (h5 _ hw2) (h5 _ hw3) rfl (by rw [h3]; exact hl.1) rfl hd hf (by show 2 * 0 + _ + 12 ≤ _; omega) ?_
  exact kk H locs ls hP hD hS hl
theorem k_min (hC : kC p s m args meth c K A nL cc own) {idx : Nat} {x y : Int32} (hw : Cond.methodLink own idx Lib.Math.min.name ∈ kALL) (hw2 : Cond.static Lib.Math.min.name ∈ kALL) (hw3 : Cond.initialized "java/lang/Math" ∈ kALL) (hw4 : Cond.code Lib.Math.min.name Lib.Math.min.code 2 (some .int) ∈ kALL) (hf : 1 ≤ R.frames) (hR : (st.map fun v => v.category).sum + 13 ≤ R.locals) (hk : k ≤ R.cells) (hn : n ≤ R.slots) (hd : decode cc pc = .ok (.invokestatic idx, 3))
    (kk : kW p l e R s m args below meth c K A nL Q k n pl X lv (pc + 3) (.int (if y < x then y else x) :: st)) : kW p l e R s m args below meth c K A nL Q k n pl X lv pc (.int y :: .int x :: st) := by
  obtain ⟨h1, hb, h3, h4, h5, h6, h7, h8⟩ := hC
  exact fun H locs ls hP hD hS hl => va_mmin h1 hb (by rw [h3]; exact hl.1.symm) h4 (h5 _ hw) (h5 _ hw2) (h5 _ hw3) (h5 _ hw4) hf hR hk hn hd (kk H locs ls hP hD hS hl)
theorem k_max (hC : kC p s m args meth c K A nL cc own) {idx : Nat} {x y : Int32} (hw : Cond.methodLink own idx Lib.Math.max.name ∈ kALL) (hw2 : Cond.static Lib.Math.max.name ∈ kALL) (hw3 : Cond.initialized "java/lang/Math" ∈ kALL) (hw4 : Cond.code Lib.Math.max.name Lib.Math.max.code 2 (some .int) ∈ kALL) (hf : 1 ≤ R.frames) (hR : (st.map fun v => v.category).sum + 13 ≤ R.locals) (hk : k ≤ R.cells) (hn : n ≤ R.slots) (hd : decode cc pc = .ok (.invokestatic idx, 3))
    (kk : kW p l e R s m args below meth c K A nL Q k n pl X lv (pc + 3) (.int (if x < y then y else x) :: st)) : kW p l e R s m args below meth c K A nL Q k n pl X lv pc (.int y :: .int x :: st) := by
  obtain ⟨h1, hb, h3, h4, h5, h6, h7, h8⟩ := hC
  exact fun H locs ls hP hD hS hl => va_mmax h1 hb (by rw [h3]; exact hl.1.symm) h4 (h5 _ hw) (h5 _ hw2) (h5 _ hw3) (h5 _ hw4) hf hR hk hn hd (kk H locs ls hP hD hS hl)
theorem k_ifnull (hC : kC p s m args meth c K A nL cc own) {x : Nat} {off : Int} (hd : decode cc pc = .ok (.ifnull off, 3)) (kk : kW p l e R s m args below meth c K A nL Q k n pl X lv (pc + 3) st) : kW p l e R s m args below meth c K A nL Q k n pl X lv pc (.ref x :: st) :=
  fun H locs ls hP hD hS hl => lv_ifnull hC.1 hC.2.1 hd (kk H locs ls hP hD hS hl)
theorem k_ifnullN (hC : kC p s m args meth c K A nL cc own) {off : Int} (tgt : Nat) (hd : decode cc pc = .ok (.ifnull off, 3)) (ht : (pc : Int) + off = (tgt : Int)) (kk : kW p l e R s m args below meth c K A nL Q k n pl X lv tgt st) : kW p l e R s m args below meth c K A nL Q k n pl X lv pc (.null :: st) :=
  fun H locs ls hP hD hS hl => lv_ifnullN hC.1 hC.2.1 hd ht (kk H locs ls hP hD hS hl)
theorem k_ifnonnull (hC : kC p s m args meth c K A nL cc own) {x : Nat} {off : Int} (tgt : Nat) (hd : decode cc pc = .ok (.ifnonnull off, 3)) (ht : (pc : Int) + off = (tgt : Int)) (kk : kW p l e R s m args below meth c K A nL Q k n pl X lv tgt st) : kW p l e R s m args below meth c K A nL Q k n pl X lv pc (.ref x :: st) :=
  fun H locs ls hP hD hS hl => lv_ifnonnull hC.1 hC.2.1 hd ht (kk H locs ls hP hD hS hl)
theorem k_ifnonnullN (hC : kC p s m args meth c K A nL cc own) {off : Int} (hd : decode cc pc = .ok (.ifnonnull off, 3)) (kk : kW p l e R s m args below meth c K A nL Q k n pl X lv (pc + 3) st) : kW p l e R s m args below meth c K A nL Q k n pl X lv pc (.null :: st) :=
  fun H locs ls hP hD hS hl => lv_ifnonnullN hC.1 hC.2.1 hd (kk H locs ls hP hD hS hl)
theorem k_acmp_ne (hC : kC p s m args meth c K A nL cc own) {rx ry : Option Nat} {vx vy : Value} (hx : vx = va_rf rx) (hy : vy = va_rf ry) {off : Int} (tgt : Nat) (hd : decode cc pc = .ok (.if_acmp .ne off, 3)) (ht : (pc : Int) + off = (tgt : Int)) (kt : ¬ rx = ry → kW p l e R s m args below meth c K A nL Q k n pl X lv tgt st) (kf : rx = ry → kW p l e R s m args below meth c K A nL Q k n pl X lv (pc + 3) st) : kW p l e R s m args below meth c K A nL Q k n pl X lv pc (vy :: vx :: st) := by
  subst hx
  subst hy
  exact fun H locs ls hP hD hS hl => lv_acmp_ne hC.1 hC.2.1 hd ht (fun h => kt h H locs ls hP hD hS hl) (fun h => kf h H locs ls hP hD hS hl)
/-- an object's class and that it is there -/
theorem kj_join {A0 : Nat → Prop} {D : va_G} {cl : List vw_C} {wc wr w1 : va_W} {H H1 : Heap} (hP : va_P D cl (wc ++ wr) H) (hD : va_D A0 (wc ++ wr)) (hk : ∀ q : Nat, q < H.size → ¬ va_A wc H.size q → H1[q]? = H[q]?) (hF : ∀ q, va_A wc H.size q → A0 q) (hP1 : va_P D cl w1 H1) (hD1 : va_D (va_A wc H.size) w1) : va_P D cl (w1 ++ wr) H1 ∧ va_D A0 (w1 ++ wr) := by
  have gt : ∀ (j : Nat) (q : Nat × va_E), wr[j]? = some q → (wc ++ wr)[wc.length + j]? = some q := fun j q hq => by
    rw [List.getElem?_append_right (Nat.le_add_right _ _), Nat.add_sub_cancel_left]; exact hq
  have apart : ∀ (j : Nat) (q : Nat × va_E), wr[j]? = some q → q.1 < H.size ∧ ¬ va_A wc H.size q.1 := by
    intro j q hq
    have hl := (hP _ q (gt j q hq)).lt
    refine ⟨hl, fun h => ?_⟩
    rcases h with ⟨k2, e, h⟩ | h
    · have h3 : k2 < wc.length := (List.getElem?_eq_some_iff.mp h).1
      have := hD.1 _ _ q (q.1, e) (gt j q hq) (kx_l h) rfl
      omega
    · omega
  have hDr : va_D A0 wr := ⟨fun i j x y hi hj hxy => by have := hD.1 _ _ x y (gt i x hi) (gt j y hj) hxy; omega, fun j q hq => hD.2 _ q (gt j q hq)⟩
  refine ⟨va_P.app hP1 (fun j q hq => ?_), va_D.app (hD1.weaken (fun _ q _ h => hF q.1 h)) hDr (fun i j x y hx hy hxy => ?_)⟩
  · obtain ⟨g1, g2⟩ := apart j q hq
    exact (hP _ q (gt j q hq)).kept (hk q.1 g1 g2)
  · exact (apart j y hy).2 (by rw [← hxy]; exact hD1.2 i x hx)
end KROWS
/-- a contract: from a world w (and anything beside it) to an answer and a world -/
def kPc (K : kE) (av : List Value) (w : va_W) (sz : Nat) : Array Value → State → Prop := va_Pc av (fun U => U.heap.size = sz ∧ va_P K.1 vwCl w U.heap ∧ va_D (fun _ => True) w ∧ kG K (va_A w sz) U)
def kQc (K : kE) (w : va_W) (sz : Nat) (Po : Option Value → va_W → Prop) : Array Value → State → Outcome → State → Prop := fun _ st oc t => (∃ (v : Option Value) (w' : va_W), oc = .returned v ∧ Po v w' ∧ va_P K.1 vwCl w' t.heap ∧ va_D (va_A w sz) w') ∧ va_F (va_A w sz) st t
def kXc (K : kE) (w : va_W) (sz : Nat) (Px : String → Prop) : String → State → State → Prop := fun E st t => Px E ∧ va_P K.1 vwCl w t.heap ∧ va_F (va_A w sz) st t
abbrev kws (y : MethodName) (cc : ByteArray) (maxL : Nat) (ret : Option FieldType) : List Cond := .code y cc maxL ret :: kALL
abbrev kwh (y : MethodName) (cc : ByteArray) (maxL : Nat) (ret : Option FieldType) (hh : List (Nat × Nat × Nat × Nat)) : List Cond := .codeWith y cc maxL ret hh :: kALL
def kM (l : Launch) (y : MethodName) (ws : List Cond) (rm : Room) (K : kE) (av : List Value) (w : va_W) (Po : Option Value → va_W → Prop) : Prop := ∀ sz : Nat, Met l y ws rm (kPc K av w sz) (kQc K w sz Po) rm.cells rm.slots (va_A w sz)
def kX (l : Launch) (y : MethodName) (ws : List Cond) (rm : Room) (K : kE) (av : List Value) (w : va_W) (Po : Option Value → va_W → Prop) (Px : String → Prop) : Prop := ∀ sz : Nat, vx_Met l y ws rm (kPc K av w sz) (kQc K w sz Po) (kXc K w sz Px) rm.cells rm.slots (va_A w sz)
theorem kPc_blind {K : kE} {av : List Value} {w : va_W} {sz : Nat} : FrameBlind (kPc K av w sz) := by
  intro a U g mk q
  obtain ⟨q0, q1, q2, q3, q4⟩ := q
  exact ⟨q0, q1, q2, q3, kG_same rfl rfl q4⟩
theorem kws_all : kALL.all goodWord = true := List.all_eq_true.mpr kALL_good
theorem kgood : GoodIn kALL kALL := fun w h => ⟨h, good_of_word (List.all_eq_true.mp kws_all w h)⟩
theorem kgood1 {w : Cond} {ws : List Cond} (h : w ∈ kALL) (hg : GoodIn kALL ws) : GoodIn kALL (w :: ws) := fun x hx => (List.mem_cons.mp hx).elim (fun e => by rw [e]; exact kgood w h) (hg x)
/-- the end of a body: how it returns, and what must hold then -/
def kEn (p : Program) (l : Launch) (e : Env) (R : Room) (s : State) (m : MethodId) (args : Array Value) (below : List Frame) (meth : Method) (c : Code) (K : kE) (A : Nat → Prop) (Q : State → Prop) (Po : Option Value → va_W → Prop) (ret : Option FieldType) (mc ms : Nat) : Prop :=
  meth.sig.returnType = ret ∧ ∃ Qc : Array Value → State → Outcome → State → Prop, (∀ (k n : Nat) (H : Heap) (locs : List Loc) (g : JFrame), k ≤ mc → n ≤ ms → W p l e R s m args below meth c H locs mc ms (MQ below Qc args s mc ms A) g → W p l e R s m args below meth c H locs k n Q g) ∧
    ∀ (v : Option Value) (w' : va_W) (H : Heap) (locs : List Loc) (t : State), Po v w' → va_P K.1 vwCl w' H → va_D A w' → va_S A s.heap H locs → t.heap = H → Qc args s (.returned v) t
section KENDS
variable {p : Program} {l : Launch} {e : Env} {R : Room} {s : State} {m : MethodId} {args : Array Value} {below : List Frame} {meth : Method} {c : Code} {K : kE} {A : Nat → Prop} {nL : Nat} {Q : State → Prop} {k n : Nat} {pl X : va_W} {lv : List (Nat × Value)} {pc : Nat} {st : List Value} {cc : ByteArray} {own : String}
theorem k_vret {Po : Option Value → va_W → Prop} {mc ms : Nat} (hC : kC p s m args meth c K A nL cc own) (hE : kEn p l e R s m args below meth c K A Q Po none mc ms) (hk : k ≤ mc) (hn : n ≤ ms) (hd : decode cc pc = .ok (.return_, 1)) (hp : Po none (X ++ pl)) : kW p l e R s m args below meth c K A nL Q k n pl X lv pc [] := by
  obtain ⟨h1, hb, h3, h4, h5, h6, h7, h8⟩ := hC
  obtain ⟨hr, Qc, hQ, hp2⟩ := hE
  exact fun H locs ls hP hD hS hl => hQ k n H locs _ hk hn (W.vret h1 hb hr (fun t ht _ => hp2 none (X ++ pl) H locs t hp hP hD hS ht) hS.2.2 hd h8)
theorem k_iret {Po : Option Value → va_W → Prop} {mc ms : Nat} {v : Int32} (hC : kC p s m args meth c K A nL cc own) (hE : kEn p l e R s m args below meth c K A Q Po (some .int) mc ms) (hk : k ≤ mc) (hn : n ≤ ms) (hd : decode cc pc = .ok (.ireturn, 1)) (hp : Po (some (.int v)) (X ++ pl)) : kW p l e R s m args below meth c K A nL Q k n pl X lv pc [.int v] := by
  obtain ⟨h1, hb, h3, h4, h5, h6, h7, h8⟩ := hC
  obtain ⟨hr, Qc, hQ, hp2⟩ := hE
  exact fun H locs ls hP hD hS hl => hQ k n H locs _ hk hn (W.iret h1 hb hr (fun t ht _ => hp2 _ (X ++ pl) H locs t hp hP hD hS ht) hS.2.2 hd h8)
theorem k_zret {Po : Option Value → va_W → Prop} {mc ms : Nat} {v : Int32} (hC : kC p s m args meth c K A nL cc own) (hE : kEn p l e R s m args below meth c K A Q Po (some .boolean) mc ms) (hk : k ≤ mc) (hn : n ≤ ms) (hv : narrow .boolean (.int v) = .int v) (hd : decode cc pc = .ok (.ireturn, 1)) (hp : Po (some (.int v)) (X ++ pl)) : kW p l e R s m args below meth c K A nL Q k n pl X lv pc [.int v] := by
  obtain ⟨h1, hb, h3, h4, h5, h6, h7, h8⟩ := hC
  obtain ⟨hr, Qc, hQ, hp2⟩ := hE
  exact fun H locs ls hP hD hS hl => hQ k n H locs _ hk hn (W.zret h1 hb hr hv (fun t ht _ => hp2 _ (X ++ pl) H locs t hp hP hD hS ht) hS.2.2 hd h8)
theorem k_aret {Po : Option Value → va_W → Prop} {mc ms : Nat} {a : Nat} {C : String} (hC : kC p s m args meth c K A nL cc own) (hE : kEn p l e R s m args below meth c K A Q Po (some (.object C)) mc ms) (hk : k ≤ mc) (hn : n ≤ ms) (hd : decode cc pc = .ok (.areturn, 1)) (hp : Po (some (.ref a)) (X ++ pl)) : kW p l e R s m args below meth c K A nL Q k n pl X lv pc [.ref a] := by
  obtain ⟨h1, hb, h3, h4, h5, h6, h7, h8⟩ := hC
  obtain ⟨hr, Qc, hQ, hp2⟩ := hE
  exact fun H locs ls hP hD hS hl => hQ k n H locs _ hk hn (W.aret h1 hb hr (Or.inl ⟨C, rfl⟩) (Or.inr ⟨a, rfl⟩) (fun t ht _ => hp2 _ (X ++ pl) H locs t hp hP hD hS ht) hS.2.2 hd h8)
/-- a callee's run, put back into the caller's world -/
theorem k_ofRun {wc wr : va_W} {mc ms : Nat} {stk : List Value} {a9 : Array Value} {Po : Option Value → va_W → Prop} (hX : X = wc ++ wr)
    (hr : ∀ (H : Heap) (locs : List Loc) (ls : Array Slot), va_P K.1 vwCl (X ++ pl) H → va_D A (X ++ pl) → va_S A s.heap H locs → lv_has ls nL lv → va_Run p l e R s m args below meth c H locs k n mc ms (F0 m pc ls stk) st (kQc K wc H.size Po a9) (va_A wc H.size))
    (hA : ∀ q : Nat, s.heap.size ≤ q → A q)
    (kk : ∀ (v : Option Value) (w' : va_W), Po v w' → kW p l e R s m args below meth c K A nL Q (k + mc) (n + ms) pl (w' ++ wr) lv (pc + 3) (v.toList ++ st)) : kW p l e R s m args below meth c K A nL Q k n pl X lv pc stk := by
  intro H locs ls hP hD hS hl T hT X9
  obtain ⟨v, st₀, t, T', L, h0, X', hL, e1, e2, ⟨⟨v', w', hv, hp, hPw, hDw⟩, hz, hk⟩, hst⟩ := hr H locs ls hP hD hS hl T hT X9
  cases hv
  subst hX
  rw [List.append_assoc] at hP hD
  have hF : ∀ q, va_A wc H.size q → A q := by
    intro q h
    rcases h with ⟨k2, e2, h⟩ | h
    · exact hD.2 k2 (q, e2) (kx_l h)
    · exact hA q (Nat.le_trans hS.1 h)
  rw [h0] at hz hk
  obtain ⟨j1, j2⟩ := kj_join hP hD hk hF hPw hDw
  rw [← List.append_assoc] at j1 j2
  obtain ⟨t2, a1, b1⟩ := kk v w' hp T'.heap (locs ++ L) ls (by rw [e1]; exact j1) j2
    ⟨Nat.le_trans hS.1 (by rw [e1]; exact hz), fun q h1 h2 => by rw [e1, hk q (Nat.lt_of_lt_of_le h1 hS.1) (fun z => h2 (hF q z))]; exact hS.2.1 q h1 h2, fun q hq => by
      rcases List.mem_append.mp hq with h | h
      · exact hS.2.2 q h
      · exact hF _ (hL q h)⟩ hl T' rfl X'
  exact ⟨t2, hst t2 a1, b1⟩
theorem k_pre {wc wr : va_W} {av : List Value} {H : Heap} {locs : List Loc} (hC : kC p s m args meth c K A nL cc own) (hX : X = wc ++ wr) (hP : va_P K.1 vwCl (X ++ pl) H) (hD : va_D A (X ++ pl)) (hS : va_S A s.heap H locs) : ∀ U : State, U.heap = H → s.WarmedH U.vm → kPc K av wc H.size av.toArray U := by
  intro U hU hW
  subst hX
  rw [List.append_assoc] at hP hD
  have hF : ∀ q, va_A wc H.size q → A q := by
    intro q h
    rcases h with ⟨k2, e2, h⟩ | h
    · exact hD.2 k2 (q, e2) (kx_l h)
    · exact hC.2.2.2.2.2.2.1 q (Nat.le_trans hS.1 h)
  refine ⟨rfl, by rw [hU], by rw [hU]; exact fun j q hq => hP j q (kx_l hq), ⟨fun i j x y hi hj hxy => hD.1 i j x y (kx_l hi) (kx_l hj) hxy, fun _ _ _ => trivial⟩, kG_call hC.2.2.2.2.2.1 hS hU hW hF⟩
theorem k_recv {wc wr : va_W} {H : Heap} {b i ci : Nat} {q : vw_C} {fs : List Value} (hC : kC p s m args meth c K A nL cc own) (hX : X = wc ++ wr) (hP : va_P K.1 vwCl (X ++ pl) H) (hc : vwCl[ci]? = some q) (he : wc[i]? = some (b, .inr (ci, fs))) : ∃ cellB : Cell, H[b]? = some cellB ∧ cellB.vm.isStatics = false ∧ s.vm.findClass q.1 = some cellB.cls := by
  subst hX
  exact va_recv hC.2.2.2.2.2.1.1 hP hc (kx_l (kx_l he))
/-- a call of a method of the own class, or of a public one -/
theorem k_callV {wc : va_W} {y : MethodName} {bytes : ByteArray} {maxL idx b ci N : Nat} {C : String} {T : u_T} {ret : Option FieldType} {rm : Room} {As : List Value} {fs : List Value} {Po : Option Value → va_W → Prop} {stk : List Value} (hC : kC p s m args meth c K A nL cc own) (hM : kM l y (kws y bytes maxL ret) rm K (.ref b :: As) wc Po) (wr : va_W) (hX : X = wc ++ wr) (i : Nat) (he : wc[i]? = some (b, .inr (ci, fs))) (hcl : vwCl[ci]? = some (C, T, N))
    (hT : ∀ w ∈ ([.methodLink own idx y, .instanceMethod y, .selects C y y, .initialized C, .code y bytes maxL ret] : List Cond), w ∈ kALL) (nn : Nat) (hdd : y.cls = C ∧ y.cls ≠ "java/lang/invoke/MethodHandle" ∧ y.cls ≠ "java/lang/invoke/VarHandle" ∧ (parseMethodDescriptor y.desc).map (fun d => d.parameters.length) = some nn) (hR : rm.frames + 1 ≤ R.frames ∧ 8 + (maxL + 11) + rm.locals ≤ R.locals)
    (hn : As.length = nn) (hst : stk = As.reverse ++ .ref b :: st) (h8 : (st.map fun v => v.category).sum ≤ 8) (hf : k + rm.cells ≤ R.cells ∧ n + rm.slots ≤ R.slots) (hd : decode cc pc = .ok (.invokevirtual idx, 3))
    (kk : ∀ (v : Option Value) (w' : va_W), Po v w' → kW p l e R s m args below meth c K A nL Q (k + rm.cells) (n + rm.slots) pl (w' ++ wr) lv (pc + 3) (v.toList ++ st)) : kW p l e R s m args below meth c K A nL Q k n pl X lv pc stk := by
  have hG : GoodIn kALL (wsV own idx C y (kws y bytes maxL ret)) := by
    intro w hw
    unfold wsV at hw
    rcases List.mem_append.mp hw with h | h
    · exact kgood w (hT w (by simp only [List.mem_cons] at h ⊢; grind))
    · exact kgood1 (hT _ (by simp)) kgood w h
  refine k_ofRun (a9 := (Value.ref b :: As).toArray) hX (fun H locs ls hP hD hS hl => ?_) hC.2.2.2.2.2.2.1 kk
  subst hst
  exact va_runV (As := As) (rest := st) (ws := kws y bytes maxL ret) ⟨hC.1, hC.2.1, hC.2.2.1, hC.2.2.2.1, hC.2.2.2.2.1⟩ (hM H.size) (cwV nn hC.2.2.2.2.1 hG rfl rfl rfl hdd hR) ⟨kPc_blind, k_recv hC hX hP hcl he, k_pre hC hX hP hD hS⟩ rfl hn hl.1 rfl (lv_room h8) hd hf
theorem k_callVN {wc : va_W} {y : MethodName} {bytes : ByteArray} {maxL idx b ci N : Nat} {C : String} {T : u_T} {ret : Option FieldType} {rm : Room} {As : List Value} {fs : List Value} {Po : Option Value → va_W → Prop} {stk : List Value} (hC : kC p s m args meth c K A nL cc own) (hM : kM l y (kws y bytes maxL ret) rm K (.ref b :: As) wc Po) (wr : va_W) (hX : X = wc ++ wr) (i : Nat) (he : wc[i]? = some (b, .inr (ci, fs))) (hcl : vwCl[ci]? = some (C, T, N))
    (hT : ∀ w ∈ ([.instanceMethod y, .selects C y y, .initialized y.cls, .code y bytes maxL ret] : List Cond), w ∈ kALL) (hl : (own, idx, y) ∈ kn_M) (nn : Nat) (hdd : y.cls ≠ "java/lang/invoke/MethodHandle" ∧ y.cls ≠ "java/lang/invoke/VarHandle" ∧ (parseMethodDescriptor y.desc).map (fun d => d.parameters.length) = some nn) (hR : rm.frames + 1 ≤ R.frames ∧ 8 + (maxL + 11) + rm.locals ≤ R.locals)
    (hn : As.length = nn) (hst : stk = As.reverse ++ .ref b :: st) (h8 : (st.map fun v => v.category).sum ≤ 8) (hf : k + rm.cells ≤ R.cells ∧ n + rm.slots ≤ R.slots) (hd : decode cc pc = .ok (.invokevirtual idx, 3))
    (kk : ∀ (v : Option Value) (w' : va_W), Po v w' → kW p l e R s m args below meth c K A nL Q (k + rm.cells) (n + rm.slots) pl (w' ++ wr) lv (pc + 3) (v.toList ++ st)) : kW p l e R s m args below meth c K A nL Q k n pl X lv pc stk := by
  refine k_ofRun (a9 := (Value.ref b :: As).toArray) hX (fun H locs ls hP hD hS hl9 => ?_) hC.2.2.2.2.2.2.1 kk
  subst hst
  have h5 := hC.2.2.2.2.1
  exact va_runVN (As := As) (rest := st) (ws := kws y bytes maxL ret) ⟨hC.1, hC.2.1, hC.2.2.1, hC.2.2.2.1, h5⟩ (hM H.size) ⟨va_cnB nn h5 (kgood1 (hT _ (by simp)) kgood) rfl rfl rfl (hC.2.2.2.2.2.1.2.2.1 _ hl) (h5 _ (hT _ (by simp))) hdd hR, h5 _ (hT _ (by simp)), h5 _ (hT _ (by simp))⟩ ⟨kPc_blind, k_recv hC hX hP hcl he, k_pre hC hX hP hD hS⟩ rfl hn hl9.1 rfl (lv_room h8) hd hf
theorem k_callIN {wc : va_W} {y : MethodName} {bytes : ByteArray} {maxL idx b : Nat} {rm : Room} {As : List Value} {Po : Option Value → va_W → Prop} {stk : List Value} (hC : kC p s m args meth c K A nL cc own) (hM : kM l y (kws y bytes maxL none) rm K (.ref b :: As) wc Po) (wr : va_W) (hX : X = wc ++ wr)
    (hT : ∀ w ∈ ([.instanceMethod y, .initialized y.cls, .code y bytes maxL none] : List Cond), w ∈ kALL) (hl : (own, idx, y) ∈ kn_M) (hy1 : y.name = "<init>") (nn : Nat) (hdd : y.cls ≠ "java/lang/invoke/MethodHandle" ∧ y.cls ≠ "java/lang/invoke/VarHandle" ∧ (parseMethodDescriptor y.desc).map (fun d => d.parameters.length) = some nn) (hR : rm.frames + 1 ≤ R.frames ∧ 8 + (maxL + 11) + rm.locals ≤ R.locals)
    (hn : As.length = nn) (hst : stk = As.reverse ++ .ref b :: st) (h8 : (st.map fun v => v.category).sum ≤ 8) (hf : k + rm.cells ≤ R.cells ∧ n + rm.slots ≤ R.slots) (hd : decode cc pc = .ok (.invokespecial idx, 3))
    (kk : ∀ (v : Option Value) (w' : va_W), Po v w' → kW p l e R s m args below meth c K A nL Q (k + rm.cells) (n + rm.slots) pl (w' ++ wr) lv (pc + 3) (v.toList ++ st)) : kW p l e R s m args below meth c K A nL Q k n pl X lv pc stk := by
  refine k_ofRun (a9 := (Value.ref b :: As).toArray) hX (fun H locs ls hP hD hS hl9 => ?_) hC.2.2.2.2.2.2.1 kk
  subst hst
  have h5 := hC.2.2.2.2.1
  exact va_runIN (As := As) (rest := st) (ws := kws y bytes maxL none) ⟨hC.1, hC.2.1, hC.2.2.1, hC.2.2.2.1, h5⟩ (hM H.size) ⟨va_cnB nn h5 (kgood1 (hT _ (by simp)) kgood) rfl rfl rfl (hC.2.2.2.2.2.1.2.2.1 _ hl) (h5 _ (hT _ (by simp))) hdd hR, hy1, h5 _ (hT _ (by simp))⟩ ⟨kPc_blind, k_pre hC hX hP hD hS⟩ rfl hn hl9.1 rfl (lv_room h8) hd hf
theorem k_callI {wc : va_W} {y : MethodName} {bytes : ByteArray} {maxL idx b : Nat} {rm : Room} {As : List Value} {Po : Option Value → va_W → Prop} {stk : List Value} (hC : kC p s m args meth c K A nL cc own) (hM : kM l y (kws y bytes maxL none) rm K (.ref b :: As) wc Po) (wr : va_W) (hX : X = wc ++ wr)
    (hT : ∀ w ∈ ([.methodLink own idx y, .instanceMethod y, .initialized y.cls, .code y bytes maxL none] : List Cond), w ∈ kALL) (hy1 : y.name = "<init>") (nn : Nat) (hdd : y.cls ≠ "java/lang/invoke/MethodHandle" ∧ y.cls ≠ "java/lang/invoke/VarHandle" ∧ (parseMethodDescriptor y.desc).map (fun d => d.parameters.length) = some nn) (hR : rm.frames + 1 ≤ R.frames ∧ 8 + (maxL + 11) + rm.locals ≤ R.locals)
    (hn : As.length = nn) (hst : stk = As.reverse ++ .ref b :: st) (h8 : (st.map fun v => v.category).sum ≤ 8) (hf : k + rm.cells ≤ R.cells ∧ n + rm.slots ≤ R.slots) (hd : decode cc pc = .ok (.invokespecial idx, 3))
    (kk : ∀ (v : Option Value) (w' : va_W), Po v w' → kW p l e R s m args below meth c K A nL Q (k + rm.cells) (n + rm.slots) pl (w' ++ wr) lv (pc + 3) (v.toList ++ st)) : kW p l e R s m args below meth c K A nL Q k n pl X lv pc stk := by
  refine k_ofRun (a9 := (Value.ref b :: As).toArray) hX (fun H locs ls hP hD hS hl9 => ?_) hC.2.2.2.2.2.2.1 kk
  subst hst
  have h5 := hC.2.2.2.2.1
  exact va_runI (As := As) (rest := st) (ws := kws y bytes maxL none) ⟨hC.1, hC.2.1, hC.2.2.1, hC.2.2.2.1, h5⟩ (hM H.size) (cwI nn h5 (kgood1 (hT _ (by simp)) kgood) rfl rfl rfl (h5 _ (hT _ (by simp))) (h5 _ (hT _ (by simp))) (h5 _ (hT _ (by simp))) hy1 hdd hR) ⟨kPc_blind, k_pre hC hX hP hD hS⟩ rfl hn hl9.1 rfl (lv_room h8) hd hf
theorem k_callS {wc : va_W} {y : MethodName} {bytes : ByteArray} {maxL idx : Nat} {ret : Option FieldType} {rm : Room} {As : List Value} {Po : Option Value → va_W → Prop} {stk : List Value} (hC : kC p s m args meth c K A nL cc own) (hM : kM l y (kws y bytes maxL ret) rm K As wc Po) (wr : va_W) (hX : X = wc ++ wr)
    (hT : ∀ w ∈ ([.methodLink own idx y, .static y, .initialized own, .code y bytes maxL ret] : List Cond), w ∈ kALL) (nn : Nat) (hdd : y.cls = own ∧ y.cls ≠ "java/lang/invoke/MethodHandle" ∧ y.cls ≠ "java/lang/invoke/VarHandle" ∧ (parseMethodDescriptor y.desc).map (fun d => d.parameters.length) = some nn) (hR : rm.frames + 1 ≤ R.frames ∧ 8 + (maxL + 11) + rm.locals ≤ R.locals)
    (hn : As.length = nn) (hst : stk = As.reverse ++ st) (h8 : (st.map fun v => v.category).sum ≤ 8) (hf : k + rm.cells ≤ R.cells ∧ n + rm.slots ≤ R.slots) (hd : decode cc pc = .ok (.invokestatic idx, 3))
    (kk : ∀ (v : Option Value) (w' : va_W), Po v w' → kW p l e R s m args below meth c K A nL Q (k + rm.cells) (n + rm.slots) pl (w' ++ wr) lv (pc + 3) (v.toList ++ st)) : kW p l e R s m args below meth c K A nL Q k n pl X lv pc stk := by
  have hG : GoodIn kALL (wsS own idx y (kws y bytes maxL ret)) := by
    intro w hw
    unfold wsS at hw
    rcases List.mem_append.mp hw with h | h
    · exact kgood w (hT w (by simp only [List.mem_cons] at h ⊢; grind))
    · exact kgood1 (hT _ (by simp)) kgood w h
  refine k_ofRun (a9 := As.toArray) hX (fun H locs ls hP hD hS hl9 => ?_) hC.2.2.2.2.2.2.1 kk
  subst hst
  have h5 := hC.2.2.2.2.1
  exact va_runS (As := As) (rest := st) (ws := kws y bytes maxL ret) ⟨hC.1, hC.2.1, hC.2.2.1, hC.2.2.2.1, h5⟩ (hM H.size) (cwS nn h5 hG rfl rfl rfl hdd hR) ⟨kPc_blind, k_pre hC hX hP hD hS⟩ rfl hn hl9.1 rfl (lv_room h8) hd hf
end KENDS
/-- a contract out of its body -/
theorem kM_of {l : Launch} {y : MethodName} {cc : ByteArray} {maxL : Nat} {ret : Option FieldType} {rm : Room} {K : kE} {av : List Value} {pl X w : va_W} {Po : Option Value → va_W → Prop} (hw : w = X ++ pl) (hy : plainName y.cls = true) (hav : (lg_sl av).length ≤ maxL)
    (body : ∀ (p : Program) (e : Env) (s : State) (m : MethodId) (args : Array Value) (below : List Frame) (meth : Method) (c : Code) (A : Nat → Prop) (Q : State → Prop), kC p s m args meth c K A maxL cc y.cls → meth.name = y.name → kEn p l e rm s m args below meth c K A Q Po ret rm.cells rm.slots → kW p l e rm s m args below meth c K A maxL Q 0 0 pl X (lv_args 0 av) 0 []) : kM l y (kws y cc maxL ret) rm K av w Po := by
  intro sz
  refine Met.ofW (cc := cc) (maxL := maxL) (ret := ret) hy rfl ?_
  intro p e s m args below meth c s₁ B hml hv
  obtain ⟨rfl, hsz, hP, hD0, hG⟩ := hv
  have hts := atoms_spec (ws := kws y cc maxL ret) B.pre
  have hown : s.vm.findClass y.cls = some m.cls := findClass_of_methodNamed B.named
  subst hsz
  have hA : ∀ q : Nat, s.heap.size ≤ q → va_A w s.heap.size q := fun q h => Or.inr h
  have hl := lv_entry av (n := maxL) hav
  rw [lg_entry_eq]
  generalize (lg_sl av ++ List.replicate (maxL - (lg_sl av).length) Slot.unset).toArray = ls at hl ⊢
  refine body p e s m av.toArray below meth c (va_A w s.heap.size) _ ⟨B.exec, B.bytes, hml, hown, fun w hw => hts w (List.mem_cons_of_mem _ hw), hG, hA, B.notSynchronized⟩ (name_of_methodNamed B.named B.method).1 ⟨B.returns, kQc K w s.heap.size Po, fun k n H locs g h1 h2 h3 => W.widen h1 h2 h3, fun v w' H locs t hp hP hD hS ht => ⟨⟨v, w', rfl, hp, by rw [ht]; exact hP, hD⟩, hS.F ht⟩⟩ s.heap [] ls (hw ▸ hP) (hw ▸ hD0.self) va_S.rf hl

