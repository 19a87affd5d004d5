/-! methods that throw: how a body throws, passes on, or catches -/
def kEx (l : Launch) (s : State) (args : Array Value) (below : List Frame) (c : Code) (K : kE) (A : Nat → Prop) (Q : State → Prop) (w0 : va_W) (Px : String → Prop) (mc ms : Nat) : Prop :=
  l.stackTraces = false ∧ (∀ x ∈ c.exceptionTable.toList, False) ∧ ∃ (Qc : Array Value → State → Outcome → State → Prop) (XC : String → State → State → Prop), Q = vx_MQ below Qc XC args s mc ms A ∧
    ∀ (E : String) (H : Heap) (locs : List Loc) (t : State), Px E → va_P K.1 vwCl w0 H → va_S A s.heap H locs → s.vm.Alike t.vm → H.size ≤ t.heap.size → (∀ q : Nat, q < H.size → t.heap[q]? = H[q]?) → XC E s t
def kTB (cls : String) : List Cond := .castable cls cls :: kn_D.map Cond.declares
/-- what a thrown class needs of the tables -/
def kTh (cls : String) (ik ic : Nat) : Prop := Bundle.fit cls = true ∧ Cond.classLink RX3 ik cls ∈ kALL ∧ Cond.initialized cls ∈ kALL ∧ (∀ w ∈ (vx_atS RX3 ic cls ["java/lang/RuntimeException", "java/lang/Exception"]).filter goodWord, w ∈ kALL) ∧ (∀ w ∈ (vx_atS RX3 ic cls ["java/lang/RuntimeException", "java/lang/Exception"]).filter (fun w => !goodWord w), w ∈ kTB cls) ∧ (∀ w ∈ Cond.classLink RX3 ik cls :: Cond.initialized cls :: vx_atS RX3 ic cls ["java/lang/RuntimeException", "java/lang/Exception"], vx_ot w = true) ∧ cls ∈ kn_C
theorem kTh_IS : kTh "java/lang/IllegalStateException" 40 44 := ⟨by decide +kernel, by decide +kernel, by decide +kernel, by decide +kernel, by decide +kernel, by decide +kernel, by decide +kernel⟩
theorem kTh_IA : kTh "java/lang/IllegalArgumentException" 162 166 := ⟨by decide +kernel, by decide +kernel, by decide +kernel, by decide +kernel, by decide +kernel, by decide +kernel, by decide +kernel⟩
theorem kTh_IB : kTh "java/lang/IndexOutOfBoundsException" 167 171 := ⟨by decide +kernel, by decide +kernel, by decide +kernel, by decide +kernel, by decide +kernel, by decide +kernel, by decide +kernel⟩
theorem kP_mem {D : va_G} {cl : List vw_C} {w0 w1 : va_W} {H : Heap} (h : ∀ q ∈ w0, q ∈ w1) (hP : va_P D cl w1 H) : va_P D cl w0 H := by
  intro j q hq
  obtain ⟨i, hi⟩ := List.getElem?_of_mem (h q (List.mem_of_getElem? hq))
  exact hP i q hi
section KEXC
variable {p : Program} {l : Launch} {e : Env} {R : Room} {s : State} {m : MethodId} {args : Array Value} {below : List Frame} {meth : Method} {c : Code} {K : kE} {A : Nat → Prop} {nL : Nat} {Q : State → Prop} {k n : Nat} {pl X : va_W} {lv : List (Nat × Value)} {pc : Nat} {st : List Value} {cc : ByteArray} {own : String}
theorem k_throw {cls text : String} {ik is ic mc ms : Nat} {w0 : va_W} {Px : String → Prop} (hC : kC p s m args meth c K A nL cc RX3) (hE : kEx l s args below c K A Q w0 Px mc ms) (hT : kTh cls ik ic) (hs : (is, text) ∈ kn_S) (hw0 : ∀ q ∈ w0, q ∈ X ++ pl) (hPx : Px cls)
    (hf : 5 < R.frames) (hl9 : (st.map fun v => v.category).sum + 82 ≤ R.locals) (hk : k + 1 ≤ mc ∧ n + 6 ≤ ms) (hR : mc ≤ R.cells ∧ ms ≤ R.slots)
    (d0 : decode cc pc = .ok (.new ik, 3)) (d3 : decode cc (pc + 3) = .ok (.dup, 1)) (d4 : decode cc (pc + 4) = .ok (.ldc is, 2)) (d6 : decode cc (pc + 6) = .ok (.invokespecial ic, 3)) (d9 : decode cc (pc + 9) = .ok (.athrow, 1)) : kW p l e R s m args below meth c K A nL Q k n pl X lv pc st := by
  obtain ⟨h1, hb, h3, h4, h5, h6, h7, h8⟩ := hC
  obtain ⟨hst, hno, Qc, XC, rfl, hXC⟩ := hE
  obtain ⟨t1, t2, t3, t4, t5, t6, t7⟩ := hT
  obtain ⟨g1, g2, g3, g4, g5, g6, g7, g8, g9⟩ := h6
  intro H locs ls hP hD hS hl
  refine vx_throwS (names := ["java/lang/RuntimeException", "java/lang/Exception"]) (A := A) h1 hb hst h4 t1 (by decide +kernel) (h5 _ t2) (h5 _ t3) (g4 _ hs) ?_ t6 g5 g6 hS (by rw [h3]; exact hl.1) d0 d3 d4 d6 d9 (fun x hx => (hno x hx).elim) hf hl9 (Nat.le_trans hk.1 hR.1) (Nat.le_trans hk.2 hR.2) h8 (fun t ht h2 h3 => hXC cls H locs t hPx (kP_mem hw0 hP) hS ht h2 h3) hS.2.2 hk.1 hk.2
  refine vx_hat (B := kTB cls) (fun w hw => h5 w (t4 w hw)) t5 (fun w hw => ?_)
  unfold kTB at hw
  rcases List.mem_cons.mp hw with e1 | e1
  · rw [e1]; exact va_Nw.use rfl (g8 _ t7)
  · obtain ⟨y, hy, rfl⟩ := List.mem_map.mp e1
    exact va_Nw.use rfl (g7 _ hy)
theorem kxF {wc wr : va_W} {H : Heap} {locs : List Loc} (hA : ∀ q : Nat, s.heap.size ≤ q → A q) (hD : va_D A ((wc ++ wr) ++ pl)) (hS : va_S A s.heap H locs) : ∀ q, va_A wc H.size q → A q := by
  intro q h
  rw [List.append_assoc] at hD
  rcases h with ⟨k2, e2, h⟩ | h
  · exact hD.2 k2 (q, e2) (kx_l h)
  · exact hA q (Nat.le_trans hS.1 h)
/-- a callee's run that may throw: what it throws goes on to kx -/
theorem k_ofRunX {wc wr : va_W} {mc ms : Nat} {stk : List Value} {a9 : Array Value} {Po : Option Value → va_W → Prop} {Px : String → Prop} (hX : X = wc ++ wr)
    (hr : ∀ (H : Heap) (locs : List Loc) (ls : Array Slot), va_P K.1 vwCl (X ++ pl) H → va_D A (X ++ pl) → va_S A s.heap H locs → lv_has ls nL lv → vx_Run p l e R s m args below meth c H locs k n mc ms (F0 m pc ls stk) st (kQc K wc H.size Po a9) (kXc K wc H.size Px) (va_A wc H.size))
    (hA : ∀ q : Nat, s.heap.size ≤ q → A q)
    (kx : ∀ (E : String) (H : Heap) (locs : List Loc) (ls : Array Slot) (ce : Cell) (q9 : Nat), Px E → va_P K.1 vwCl (X ++ pl) H → va_D A (X ++ pl) → va_S A s.heap H locs → lv_has ls nL lv → H[q9]? = some ce → ce.vm = .none → s.vm.findClass E = some ce.cls → vx_W p l e R s m args below meth c H locs (k + mc) (n + ms) Q (F0 m pc ls st) q9)
    (kk : ∀ (v : Option Value) (w' : va_W), Po v w' → kW p l e R s m args below meth c K A nL Q (k + mc) (n + ms) pl (w' ++ wr) lv (pc + 3) (v.toList ++ st)) : kW p l e R s m args below meth c K A nL Q k n pl X lv pc stk := by
  intro H locs ls hP hD hS hl T hT X9
  subst hX
  have hF := kxF hA hD hS
  have hP' := hP
  have hD' := hD
  rw [List.append_assoc] at hP' hD'
  rcases hr H locs ls hP hD hS hl T hT X9 with ⟨v, st₀, t, T', L, h0, X', hL, e1, e2, ⟨⟨v', w', hv, hp, hPw, hDw⟩, hz, hk⟩, hst⟩ | ⟨q, st₀, t, T', L, E, ce, h0, X', hL, e1, e2, ⟨hp, hPw, hz, hk⟩, hce, hcv, hcl, hst⟩
  · cases hv
    rw [h0] at hz hk
    obtain ⟨j1, j2⟩ := kj_join hP' hD' hk hF hPw hDw
    rw [← List.append_assoc] at j1 j2
    obtain ⟨t2, a1, b1⟩ := kk v w' hp T'.heap (locs ++ L) ls (by rw [e1]; exact j1) j2
      ⟨Nat.le_trans hS.1 (by rw [e1]; exact hz), fun q h1 h2 => by rw [e1, hk q (Nat.lt_of_lt_of_le h1 hS.1) (fun z => h2 (hF q z))]; exact hS.2.1 q h1 h2, fun q hq => by
        rcases List.mem_append.mp hq with h | h
        · exact hS.2.2 q h
        · exact hF _ (hL q h)⟩ hl T' rfl X'
    exact ⟨t2, hst t2 a1, b1⟩
  · rw [h0] at hz hk
    have hDw : va_D (va_A wc H.size) wc := ⟨fun i j x y hi hj hxy => hD'.1 i j x y (kx_l hi) (kx_l hj) hxy, fun _ _ hk => va_A.in hk⟩
    obtain ⟨j1, j2⟩ := kj_join hP' hD' hk hF hPw hDw
    rw [← List.append_assoc] at j1 j2
    obtain ⟨t2, a1, b1⟩ := kx E T'.heap (locs ++ L) ls ce q hp (by rw [e1]; exact j1) j2
      ⟨Nat.le_trans hS.1 (by rw [e1]; exact hz), fun q h1 h2 => by rw [e1, hk q (Nat.lt_of_lt_of_le h1 hS.1) (fun z => h2 (hF q z))]; exact hS.2.1 q h1 h2, fun q hq => by
        rcases List.mem_append.mp hq with h | h
        · exact hS.2.2 q h
        · exact hF _ (hL q h)⟩ hl (by rw [e1]; exact hce) hcv hcl T' rfl X'
    exact ⟨t2, hst.trans a1, b1⟩
theorem k_out {w0 : va_W} {Px : String → Prop} {mc ms : Nat} (hC : kC p s m args meth c K A nL cc own) (hE : kEx l s args below c K A Q w0 Px mc ms) (hw0 : ∀ q ∈ w0, q ∈ X ++ pl) (hk : k ≤ mc ∧ n ≤ ms) : ∀ (E : String) (H : Heap) (locs : List Loc) (ls : Array Slot) (ce : Cell) (q9 : Nat), Px E → va_P K.1 vwCl (X ++ pl) H → va_D A (X ++ pl) → va_S A s.heap H locs → lv_has ls nL lv → H[q9]? = some ce → ce.vm = .none → s.vm.findClass E = some ce.cls → vx_W p l e R s m args below meth c H locs k n Q (F0 m pc ls st) q9 := by
  obtain ⟨h1, hb, h3, h4, h5, h6, h7, h8⟩ := hC
  obtain ⟨hst, hno, Qc, XC, rfl, hXC⟩ := hE
  intro E H locs ls ce q9 hPx hP hD hS hl hce hcv hcl
  exact vx_out (fun x hx => (hno x hx).elim) h8 hce hcv hcl (fun t ht hal => hXC E H locs t hPx (kP_mem hw0 hP) hS hal (by rw [ht]; exact Nat.le_refl _) (fun q _ => by rw [ht])) hS.2.2 hk.1 hk.2
/-- a call of a method of the own class that may throw; what it throws leaves this method too -/
theorem k_callXV {wc : va_W} {y : MethodName} {bytes : ByteArray} {maxL idx b ci N mc ms : Nat} {C : String} {T : u_T} {ret : Option FieldType} {rm : Room} {As : List Value} {fs : List Value} {Po : Option Value → va_W → Prop} {Px1 Px : String → Prop} {stk : List Value} {w0 : va_W} (hC : kC p s m args meth c K A nL cc own) (hE : kEx l s args below c K A Q w0 Px mc ms) (hM : kX l y (kws y bytes maxL ret) rm K (.ref b :: As) wc Po Px1) (wr : va_W) (hX : X = wc ++ wr) (hw0 : ∀ q ∈ w0, q ∈ X ++ pl) (hPx : ∀ E, Px1 E → Px E) (i : Nat) (he : wc[i]? = some (b, .inr (ci, fs))) (hcl : vwCl[ci]? = some (C, T, N))
    (hT : ∀ w ∈ ([.methodLink own idx y, .instanceMethod y, .selects C y y, .initialized C, .code y bytes maxL ret] : List Cond), w ∈ kALL) (nn : Nat) (hdd : y.cls = C ∧ y.cls ≠ "java/lang/invoke/MethodHandle" ∧ y.cls ≠ "java/lang/invoke/VarHandle" ∧ (parseMethodDescriptor y.desc).map (fun d => d.parameters.length) = some nn) (hR : rm.frames + 1 ≤ R.frames ∧ 8 + (maxL + 11) + rm.locals ≤ R.locals)
    (hn : As.length = nn) (hst : stk = As.reverse ++ .ref b :: st) (h8 : (st.map fun v => v.category).sum ≤ 8) (hf : k + rm.cells ≤ R.cells ∧ n + rm.slots ≤ R.slots) (hkm : k + rm.cells ≤ mc ∧ n + rm.slots ≤ ms) (hd : decode cc pc = .ok (.invokevirtual idx, 3))
    (kk : ∀ (v : Option Value) (w' : va_W), Po v w' → kW p l e R s m args below meth c K A nL Q (k + rm.cells) (n + rm.slots) pl (w' ++ wr) lv (pc + 3) (v.toList ++ st)) : kW p l e R s m args below meth c K A nL Q k n pl X lv pc stk := by
  have hG : GoodIn kALL (wsV own idx C y (kws y bytes maxL ret)) := by
    intro w hw
    unfold wsV at hw
    rcases List.mem_append.mp hw with h | h
    · exact kgood w (hT w (by simp only [List.mem_cons] at h ⊢; grind))
    · exact kgood1 (hT _ (by simp)) kgood w h
  refine k_ofRunX (a9 := (Value.ref b :: As).toArray) hX (fun H locs ls hP hD hS hl => ?_) hC.2.2.2.2.2.2.1 (fun E H locs ls ce q9 h1 => k_out hC hE hw0 hkm E H locs ls ce q9 (hPx E h1)) kk
  subst hst
  exact vx_runV (As := As) (rest := st) (ws := kws y bytes maxL ret) ⟨hC.1, hC.2.1, hC.2.2.1, hC.2.2.2.1, hC.2.2.2.2.1⟩ (hM H.size) (cwV nn hC.2.2.2.2.1 hG rfl rfl rfl hdd hR) ⟨kPc_blind, k_recv hC hX hP hcl he, k_pre hC hX hP hD hS⟩ rfl hn hl.1 rfl (lv_room h8) hd hf
theorem k_callXS {wc : va_W} {y : MethodName} {bytes : ByteArray} {maxL idx mc ms : Nat} {ret : Option FieldType} {rm : Room} {As : List Value} {Po : Option Value → va_W → Prop} {Px1 Px : String → Prop} {stk : List Value} {w0 : va_W} (hC : kC p s m args meth c K A nL cc own) (hE : kEx l s args below c K A Q w0 Px mc ms) (hM : kX l y (kws y bytes maxL ret) rm K As wc Po Px1) (wr : va_W) (hX : X = wc ++ wr) (hw0 : ∀ q ∈ w0, q ∈ X ++ pl) (hPx : ∀ E, Px1 E → Px E)
    (hT : ∀ w ∈ ([.methodLink own idx y, .static y, .initialized own, .code y bytes maxL ret] : List Cond), w ∈ kALL) (nn : Nat) (hdd : y.cls = own ∧ y.cls ≠ "java/lang/invoke/MethodHandle" ∧ y.cls ≠ "java/lang/invoke/VarHandle" ∧ (parseMethodDescriptor y.desc).map (fun d => d.parameters.length) = some nn) (hR : rm.frames + 1 ≤ R.frames ∧ 8 + (maxL + 11) + rm.locals ≤ R.locals)
    (hn : As.length = nn) (hst : stk = As.reverse ++ st) (h8 : (st.map fun v => v.category).sum ≤ 8) (hf : k + rm.cells ≤ R.cells ∧ n + rm.slots ≤ R.slots) (hkm : k + rm.cells ≤ mc ∧ n + rm.slots ≤ ms) (hd : decode cc pc = .ok (.invokestatic idx, 3))
    (kk : ∀ (v : Option Value) (w' : va_W), Po v w' → kW p l e R s m args below meth c K A nL Q (k + rm.cells) (n + rm.slots) pl (w' ++ wr) lv (pc + 3) (v.toList ++ st)) : kW p l e R s m args below meth c K A nL Q k n pl X lv pc stk := by
  have hG : GoodIn kALL (wsS own idx y (kws y bytes maxL ret)) := by
    intro w hw
    unfold wsS at hw
    rcases List.mem_append.mp hw with h | h
    · exact kgood w (hT w (by simp only [List.mem_cons] at h ⊢; grind))
    · exact kgood1 (hT _ (by simp)) kgood w h
  refine k_ofRunX (a9 := As.toArray) hX (fun H locs ls hP hD hS hl9 => ?_) hC.2.2.2.2.2.2.1 (fun E H locs ls ce q9 h1 => k_out hC hE hw0 hkm E H locs ls ce q9 (hPx E h1)) kk
  subst hst
  have h5 := hC.2.2.2.2.1
  exact vx_runS (As := As) (rest := st) (ws := kws y bytes maxL ret) ⟨hC.1, hC.2.1, hC.2.2.1, hC.2.2.2.1, h5⟩ (hM H.size) (cwS nn h5 hG rfl rfl rfl hdd hR) ⟨kPc_blind, k_pre hC hX hP hD hS⟩ rfl hn hl9.1 rfl (lv_room h8) hd hf
/-- a call under a handler: for each class that may come, the row of the table that takes it -/
theorem k_callXC {wc : va_W} {y : MethodName} {bytes : ByteArray} {maxL idx b ci N : Nat} {C : String} {T : u_T} {ret : Option FieldType} {rm : Room} {As : List Value} {fs : List Value} {Po : Option Value → va_W → Prop} {Px1 : String → Prop} {stk : List Value} (hC : kC p s m args meth c K A nL cc own) (hM : kX l y (kws y bytes maxL ret) rm K (.ref b :: As) wc Po Px1) (wr : va_W) (hX : X = wc ++ wr) (i : Nat) (he : wc[i]? = some (b, .inr (ci, fs))) (hcl : vwCl[ci]? = some (C, T, N))
    (hT : ∀ w ∈ ([.methodLink own idx y, .instanceMethod y, .selects C y y, .initialized C, .code y bytes maxL ret] : List Cond), w ∈ kALL) (nn : Nat) (hdd : y.cls = C ∧ y.cls ≠ "java/lang/invoke/MethodHandle" ∧ y.cls ≠ "java/lang/invoke/VarHandle" ∧ (parseMethodDescriptor y.desc).map (fun d => d.parameters.length) = some nn) (hR : rm.frames + 1 ≤ R.frames ∧ 8 + (maxL + 11) + rm.locals ≤ R.locals)
    (hn : As.length = nn) (hst : stk = As.reverse ++ .ref b :: st) (h8 : (st.map fun v => v.category).sum ≤ 8) (hf : k + rm.cells ≤ R.cells ∧ n + rm.slots ≤ R.slots) (hd : decode cc pc = .ok (.invokevirtual idx, 3))
    (kx : ∀ E : String, Px1 E → E ∈ kn_C ∧ ∃ (pre : List ExceptionTableEntry) (x : ExceptionTableEntry) (suf : List ExceptionTableEntry), c.exceptionTable.toList = pre ++ x :: suf ∧ (∀ z ∈ pre, covers z pc = false ∨ (z.catchType ≠ 0 ∧ ∃ nm : String, Cond.classLink own z.catchType nm ∈ kALL ∧ (E, nm) ∈ kn_X)) ∧ covers x pc = true ∧ x.catchType ≠ 0 ∧ Cond.classLink own x.catchType E ∈ kALL ∧ ∀ q9 : Nat, kW p l e R s m args below meth c K A nL Q (k + rm.cells) (n + rm.slots) pl X lv x.handlerPc [.ref q9])
    (kk : ∀ (v : Option Value) (w' : va_W), Po v w' → kW p l e R s m args below meth c K A nL Q (k + rm.cells) (n + rm.slots) pl (w' ++ wr) lv (pc + 3) (v.toList ++ st)) : kW p l e R s m args below meth c K A nL Q k n pl X lv pc stk := by
  have hG : GoodIn kALL (wsV own idx C y (kws y bytes maxL ret)) := by
    intro w hw
    unfold wsV at hw
    rcases List.mem_append.mp hw with h | h
    · exact kgood w (hT w (by simp only [List.mem_cons] at h ⊢; grind))
    · exact kgood1 (hT _ (by simp)) kgood w h
  refine k_ofRunX (a9 := (Value.ref b :: As).toArray) (Px := Px1) hX (fun H locs ls hP hD hS hl => ?_) hC.2.2.2.2.2.2.1 (fun E H locs ls ce q9 h1 hP hD hS hl hce hcv hcl => ?_) kk
  · subst hst
    exact vx_runV (As := As) (rest := st) (ws := kws y bytes maxL ret) ⟨hC.1, hC.2.1, hC.2.2.1, hC.2.2.2.1, hC.2.2.2.2.1⟩ (hM H.size) (cwV nn hC.2.2.2.2.1 hG rfl rfl rfl hdd hR) ⟨kPc_blind, k_recv hC hX hP hcl he, k_pre hC hX hP hD hS⟩ rfl hn hl.1 rfl (lv_room h8) hd hf
  · obtain ⟨hEC, pre, x, suf, hsp, hpass, hx, h0, hlk, hw⟩ := kx E h1
    have h5 := hC.2.2.2.2.1
    have hG9 := hC.2.2.2.2.2.1
    exact vx_catch hC.2.2.2.1 pre x suf hsp (fun z hz => (hpass z hz).imp id (fun q => ⟨q.1, q.2.choose, h5 _ q.2.choose_spec.1, hG9.2.2.2.2.2.2.2.2 _ q.2.choose_spec.2⟩)) hx h0 (h5 _ hlk) (va_Nw.use rfl (hG9.2.2.2.2.2.2.2.1 _ hEC)) hce hcv hcl (hw q9 H locs ls hP hD hS hl)
/-- a call of a static method with a table of its own, that never throws -/
theorem k_callXH {wc : va_W} {y : MethodName} {bytes : ByteArray} {maxL idx : Nat} {ret : Option FieldType} {hh : List (Nat × Nat × Nat × Nat)} {rm : Room} {As : List Value} {Po : Option Value → va_W → Prop} {stk : List Value} (hC : kC p s m args meth c K A nL cc own) (hM : kX l y (kwh y bytes maxL ret hh) rm K As wc Po (fun _ => False)) (wr : va_W) (hX : X = wc ++ wr)
    (hT : ∀ w ∈ ([.methodLink own idx y, .static y, .initialized y.cls, .codeWith y bytes maxL ret hh] : List Cond), w ∈ kALL) (nn : Nat) (hdd : y.cls ≠ "java/lang/invoke/MethodHandle" ∧ y.cls ≠ "java/lang/invoke/VarHandle" ∧ (parseMethodDescriptor y.desc).map (fun d => d.parameters.length) = some nn) (hR : rm.frames + 1 ≤ R.frames ∧ 8 + (maxL + 11) + rm.locals ≤ R.locals)
    (hn : As.length = nn) (hst : stk = As.reverse ++ st) (h8 : (st.map fun v => v.category).sum ≤ 8) (hf : k + rm.cells ≤ R.cells ∧ n + rm.slots ≤ R.slots) (hd : decode cc pc = .ok (.invokestatic idx, 3))
    (kk : ∀ (v : Option Value) (w' : va_W), Po v w' → kW p l e R s m args below meth c K A nL Q (k + rm.cells) (n + rm.slots) pl (w' ++ wr) lv (pc + 3) (v.toList ++ st)) : kW p l e R s m args below meth c K A nL Q k n pl X lv pc stk := by
  have hG : GoodIn kALL (va_wsS own idx y (kwh y bytes maxL ret hh)) := by
    intro w hw
    unfold va_wsS at hw
    rcases List.mem_append.mp hw with h | h
    · exact kgood w (hT w (by simp only [List.mem_cons] at h ⊢; grind))
    · exact kgood1 (hT _ (by simp)) kgood w h
  refine k_ofRunX (a9 := As.toArray) (Px := fun _ => False) hX (fun H locs ls hP hD hS hl9 => ?_) hC.2.2.2.2.2.2.1 (fun E H locs ls ce q9 h1 => h1.elim) kk
  subst hst
  have h5 := hC.2.2.2.2.1
  exact vx_runSX (As := As) (rest := st) (ws := kwh y bytes maxL ret hh) ⟨hC.1, hC.2.1, hC.2.2.1, hC.2.2.2.1, h5⟩ (hM H.size) (vx_cwSW nn h5 hG rfl rfl rfl hdd hR) ⟨kPc_blind, k_pre hC hX hP hD hS⟩ rfl hn hl9.1 rfl (lv_room h8) hd hf
end KEXC
theorem kX_of {l : Launch} (hst : l.stackTraces = false) {y : MethodName} {cc : ByteArray} {maxL : Nat} {ret : Option FieldType} {rm : Room} {K : kE} {av : List Value} {pl X w : va_W} {Po : Option Value → va_W → Prop} {Px : String → Prop} (hw : w = X ++ pl) (hy : plainName y.cls = true) (hav : (lg_sl av).length ≤ maxL)
    (body : ∀ (p : Program) (e : Env) (s : State) (m : MethodId) (args : Array Value) (below : List Frame) (meth : Method) (c : Code) (A : Nat → Prop) (Q : State → Prop), kC p s m args meth c K A maxL cc y.cls → kEx l s args below c K A Q w Px rm.cells rm.slots → kEn p l e rm s m args below meth c K A Q Po ret rm.cells rm.slots → kW p l e rm s m args below meth c K A maxL Q 0 0 pl X (lv_args 0 av) 0 []) : kX l y (kws y cc maxL ret) rm K av w Po Px := by
  intro sz
  refine vx_ofW (cc := cc) (maxL := maxL) (ret := ret) hy rfl ?_
  intro p e s m args below meth c s₁ B hml hno hv
  obtain ⟨rfl, hsz, hP, hD0, hG⟩ := hv
  have hts := atoms_spec (ws := kws y cc maxL ret) B.pre
  have hown : s.vm.findClass y.cls = some m.cls := findClass_of_methodNamed B.named
  subst hsz
  have hA : ∀ q : Nat, s.heap.size ≤ q → va_A w s.heap.size q := fun q h => Or.inr h
  have hl := lv_entry av (n := maxL) hav
  rw [lg_entry_eq]
  generalize (lg_sl av ++ List.replicate (maxL - (lg_sl av).length) Slot.unset).toArray = ls at hl ⊢
  refine body p e s m av.toArray below meth c (va_A w s.heap.size) _ ⟨B.exec, B.bytes, hml, hown, fun w hw => hts w (List.mem_cons_of_mem _ hw), hG, hA, B.notSynchronized⟩ ⟨hst, hno, kQc K w s.heap.size Po, kXc K w s.heap.size Px, rfl, fun E H locs t hPx hPw hS hal hsz2 hsame => ⟨hPx, hPw.kept (fun j q hq => hsame q.1 (hPw j q hq).lt), Nat.le_trans hS.1 hsz2, fun q h1 h2 => by rw [hsame q (Nat.lt_of_lt_of_le h1 hS.1)]; exact hS.2.1 q h1 h2⟩⟩ ⟨B.returns, kQc K w s.heap.size Po, fun k n H locs g h1 h2 h3 => W.widen h1 h2 (vx_ret h3), fun v w' H locs t hp hP hD hS ht => ⟨⟨v, w', rfl, hp, by rw [ht]; exact hP, hD⟩, hS.F ht⟩⟩ s.heap [] ls (hw ▸ hP) (hw ▸ hD0.self) va_S.rf hl
/-- a method with a table of its own -/
theorem kXH_of {l : Launch} {y : MethodName} {cc : ByteArray} {maxL : Nat} {ret : Option FieldType} {hh : List (Nat × Nat × Nat × Nat)} {rm : Room} {K : kE} {av : List Value} {pl X w : va_W} {Po : Option Value → va_W → Prop} (hmem : Cond.codeWith y cc maxL ret hh ∈ kALL) (hw : w = X ++ pl) (hy : plainName y.cls = true) (hav : (lg_sl av).length ≤ maxL)
    (body : ∀ (p : Program) (e : Env) (s : State) (m : MethodId) (args : Array Value) (below : List Frame) (meth : Method) (c : Code) (A : Nat → Prop) (Q : State → Prop), kC p s m args meth c K A maxL cc y.cls → c.exceptionTable.toList = tableOf hh → kEn p l e rm s m args below meth c K A Q Po ret rm.cells rm.slots → kW p l e rm s m args below meth c K A maxL Q 0 0 pl X (lv_args 0 av) 0 []) : kX l y (kwh y cc maxL ret hh) rm K av w Po (fun _ => False) := by
  intro sz
  refine vx_ofWH (cc := cc) (maxL := maxL) (ret := ret) hy rfl ?_
  intro p e s m args below meth c s₁ B hml hv
  obtain ⟨rfl, hsz, hP, hD0, hG⟩ := hv
  have hts := atoms_spec (ws := kwh y cc maxL ret hh) B.pre
  have hown : s.vm.findClass y.cls = some m.cls := findClass_of_methodNamed B.named
  subst hsz
  have hA : ∀ q : Nat, s.heap.size ≤ q → va_A w s.heap.size q := fun q h => Or.inr h
  have hl := lv_entry av (n := maxL) hav
  rw [lg_entry_eq]
  generalize (lg_sl av ++ List.replicate (maxL - (lg_sl av).length) Slot.unset).toArray = ls at hl ⊢
  refine body p e s m av.toArray below meth c (va_A w s.heap.size) _ ⟨B.exec, B.bytes, hml, hown, fun w hw => hts w (List.mem_cons_of_mem _ hw), hG, hA, B.notSynchronized⟩ (vx_table (x := y) B (hts _ List.mem_cons_self)) ⟨B.returns, kQc K w s.heap.size Po, fun k n H locs g h1 h2 h3 => W.widen h1 h2 (vx_ret h3), fun v w' H locs t hp hP hD hS ht => ⟨⟨v, w', rfl, hp, by rw [ht]; exact hP, hD⟩, hS.F ht⟩⟩ s.heap [] ls (hw ▸ hP) (hw ▸ hD0.self) va_S.rf hl
