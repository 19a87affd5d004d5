/-! the law: its entry and its end (out of the skeleton), its script, its world -/
/-! THE CLAIM OUT OF ONE WALK OF THE LAW'S BODY. Your part is whole_start (and what it stands on); all else here is the same for every law, but numbers. -/
def R_law : String := "KanbanLoopLaw"
def lw_P (b : Addr) (xs : List Int32) (args : Array Value) (s : State) : Prop := args = #[.ref b] ∧ s.IntsAt b xs ∧ xs.length ≤ 3072 ∧ (Jvm.Cond.and given_1 narrow_1).before args s = true
def lw_Q (_ : Array Value) (s : State) (o : Outcome) (t : State) : Prop := o = .returned (some (.int 1)) ∧ Framed s o t [] 646352 7157049
def lw_Z (below : List Frame) (a : Array Value) (s : State) : State → Prop := fun t => ∃ o, t.status = .running ∧ Ended t below o ∧ lw_Q a s o t
/-- the law's own end, with 1 on the stack, nothing written that was there before, its room as the claim has it -/
theorem lw_ret {p : Program} {l : Launch} {e : Env} {s : State} {m : MethodId} {below : List Frame} {meth : Method} {c : Code} {b : Nat} (hx : p.tables.exec = Jvm.exec) (hb : c.code = code) (hr : meth.sig.returnType = ret) (hlocks : meth.locks = false) {pc : Nat} {H : Heap} {ls : Array Slot} (hdg : decode code pc = .ok (.ireturn, 1)) : W p l e room_1 s m #[Value.ref b] below meth c H [] 646352 7157049 (lw_Z below #[Value.ref b] s) (F0 m pc ls [.int 1]) := by
  intro T hT X
  obtain ⟨fs, hret, hrun, hended, hW, hframe⟩ := X.leave (v := some (.int 1)) (hlocks := hlocks) (fun h => by rw [hr] at h; cases h)
  have hmeth' : T.vm.method? m = some meth := X.method'
  refine ⟨T.setFrames fs, ?_, .returned (some (.int 1)), hrun, hended, rfl, ⟨_, rfl⟩, hW, hframe⟩
  jvm_step X.here [X.here.top, hx, hb, hdg, hmeth', hr, ret, narrow_b1]
  (try refine ⟨rfl, ?_⟩); (try refine ⟨rfl, ?_⟩)
  first | (intro acts; rw [hret _ acts rfl rfl rfl]) | rw [hret _ _ rfl rfl rfl]
  exact Steps.refl _
/-- what holds at the law's entry: the machine, the code, the tables' words (any of lw_tbl by 'hts w (by decide +kernel)'), the script of L ints xs at the cell b, what the Statement gives of the start (any of its parts by flat_of_before) -/
def lw_At (p : Program) (s : State) (m : MethodId) (meth : Method) (c : Code) (b L : Nat) (xs : Nat → Int32) : Prop :=
  p.tables.exec = Jvm.exec ∧ c.code = code ∧ meth.sig.returnType = ret ∧ c.maxLocals = 7 ∧ s.vm.findClass R_law = some m.cls ∧ (∀ w ∈ lw_tbl, w.before #[Value.ref b] s = true) ∧ va_X b L xs s s.heap ∧ b < s.heap.size ∧ meth.locks = false ∧ (Jvm.Cond.and given_1 narrow_1).before #[Value.ref b] s = true
/-- the machine at the law's entry, as the judgement kW wants it -/
theorem kG_entry {p : Program} {s : State} {m : MethodId} {meth : Method} {c : Code} {b L : Nat} {xs : Nat → Int32} (C0 : lw_At p s m meth c b L xs) : ∃ K : kE, kC p s m #[Value.ref b] meth c K (fun q : Nat => s.heap.size ≤ q) 7 cL_law RL := by
  obtain ⟨hx, hb, hr, hml, hown, hts, hX, hbl, hlocks, hgv⟩ := id C0
  have hgv2 := flat_of_before _ hgv
  have hkt : ∀ w ∈ kALL, w.before #[Value.ref b] s = true := fun w hw => hts w (kALL_tbl w hw)
  have hto : ∀ w ∈ tables_1, w.before #[Value.ref b] s = true := fun w hw => hts w (List.mem_append_right _ hw)
  obtain ⟨c0, i0, k0⟩ := u_known (C := RX0) (T := TX0) (N := 3) (n := 3) hkt inlX0 (hkt _ lkB_X0)
  obtain ⟨c1, i1, k1⟩ := u_known (C := RX1) (T := TX1) (N := 18) (n := 18) hkt inlX1 (hkt _ lkB_X1)
  obtain ⟨c2, i2, k2⟩ := u_known (C := RX2) (T := TX2) (N := 3) (n := 3) hkt inlX2 (hkt _ lkB_X2)
  obtain ⟨c3, i3, k3⟩ := u_known (C := RX3) (T := TX3) (N := 8) (n := 8) hkt inlX3 (hkt _ lkB_X3)
  obtain ⟨c4, i4, k4⟩ := u_known (C := RX4) (T := TX4) (N := 30) (n := 30) hkt inlX4 (hkt _ lkB_X4)
  obtain ⟨dC, dI, hKc⟩ : ∃ (dC : Nat → ClassId) (dI : Nat → Nat → Nat), ∀ (k : Nat) (q : vw_C), vwCl[k]? = some q → u_Kn s q.1 q.2.1 q.2.2 (dC k) (dI k) := by
    refine ⟨fun k => match k with | 0 => c0 | 1 => c1 | 2 => c2 | 3 => c3 | _ => c4, fun k => match k with | 0 => i0 | 1 => i1 | 2 => i2 | 3 => i3 | _ => i4, ?_⟩
    intro k q hq
    match k, hq with
    | 0, hq => cases hq; exact k0
    | 1, hq => cases hq; exact k1
    | 2, hq => cases hq; exact k2
    | 3, hq => cases hq; exact k3
    | 4, hq => cases hq; exact k4
    | k + 5, hq => simp [vwCl] at hq
  obtain ⟨a0, ka0, cp0, f0, g0, e0⟩ := Cond.arrayClass_spec (show (Cond.arrayClass .int).holds #[Value.ref b] s none s [] = true from hkt _ lkA_int)
  obtain ⟨a1, ka1, cp1, f1, g1, e1⟩ := Cond.arrayClass_spec (show (Cond.arrayClass .boolean).holds #[Value.ref b] s none s [] = true from hkt _ lkA_boolean)
  obtain ⟨a2, ka2, cp2, f2, g2, e2⟩ := Cond.arrayClass_spec (show (Cond.arrayClass .long).holds #[Value.ref b] s none s [] = true from hkt _ lkA_long)
  have hA : ∀ q : Nat, s.heap.size ≤ q → (fun q : Nat => s.heap.size ≤ q) q := fun _ h => h
  have hNA : ∀ a : Nat, a < s.heap.size → ¬ (fun q : Nat => s.heap.size ≤ q) a := fun a h => Nat.not_le.mpr h
  have hstr : ∀ q ∈ kn_S, ∃ a : Nat, (Term.string RX3 q.1).eval #[Value.ref b] s none [] s = some (.ref a) := by
    intro q hq
    have h1 : Cond.exactly (.string RX3 q.1) "java/lang/String" ∈ flatC (Jvm.Cond.and given_1 narrow_1) := (show ∀ q ∈ kn_S, Cond.exactly (.string RX3 q.1) "java/lang/String" ∈ flatC (Jvm.Cond.and given_1 narrow_1) by decide +kernel) q hq
    obtain ⟨a, -, -, -, ha, -⟩ := Cond.exactly_spec (hgv2 _ h1)
    exact ⟨a, ha⟩
  refine ⟨((dC, dI), (fun t => match t with | 0 => a0 | 1 => a1 | _ => a2), fun k => Classical.epsilon (fun a : Nat => (Term.string RX3 k).eval #[Value.ref b] s none [] s = some (.ref a))), hx, hb, hml, hown, hkt, ⟨⟨hKc, fun k q hq => ?_⟩, ?_, ?_, ?_, ?_, ?_, ?_, ?_, ?_⟩, hA, hlocks⟩
  · match k, hq with
    | 0, hq => cases hq; exact ⟨fun n z => ⟨(fun k h => by cases h), ka0, g0, cp0, e0⟩, f0⟩
    | 1, hq => cases hq; exact ⟨fun n z => ⟨(fun k h => by cases h), ka1, g1, cp1, e1⟩, f1⟩
    | 2, hq => cases hq; exact ⟨fun n z => ⟨(fun k h => by cases h), ka2, g2, cp2, e2⟩, f2⟩
    | k + 3, hq => simp [kTy] at hq
  · exact fun q hq => va_Nw.of rfl (hto _ (kn_F_in q hq))
  · exact fun q hq => va_Nw.of rfl (hto _ (kn_M_in q hq))
  · exact fun q hq => vk_R.of (hto _ (kn_S_in q hq)) (Classical.epsilon_spec (hstr q hq))
  · exact vx_Zqof (hts _ (by decide +kernel)) (hts _ (by decide +kernel)) (hgv2 _ (by decide +kernel)) hNA
  · exact vx_Zqof (hts _ (by decide +kernel)) (hts _ (by decide +kernel)) (hgv2 _ (by decide +kernel)) hNA
  · exact fun y hy => va_Nw.of rfl (hts _ ((show ∀ y ∈ kn_D, Cond.declares y ∈ lw_tbl by decide +kernel) y hy))
  · exact fun q hq => va_Nw.of rfl (hts _ ((show ∀ q ∈ kn_C, Cond.castable q q ∈ lw_tbl by decide +kernel) q hq))
  · exact fun q hq => va_Nc.of (hgv2 _ ((show ∀ q ∈ kn_X, Cond.not (Cond.castable q.1 q.2) ∈ flatC (Jvm.Cond.and given_1 narrow_1) by decide +kernel) q hq))
theorem oWay_le (σ : mS) (p v : Int32) : (oWay σ p v).1 < 2 ^ 31 := by
  have h : (oWay σ p v).1 ≤ 2 := by
    unfold oWay
    repeat' split
    all_goals simp
  exact Nat.lt_of_le_of_lt h (by decide)
theorem oMark_le (σ : mS) (p v : Int32) : (oMark σ p v).1 < 2 ^ 31 := by
  have h : (oMark σ p v).1 ≤ 2 := by
    unfold oMark
    repeat' split
    all_goals simp
  exact Nat.lt_of_le_of_lt h (by decide)
theorem oDemand_le (σ : mS) (v : Int32) : (oDemand σ v).1 < 2 ^ 31 := by
  have h : (oDemand σ v).1 ≤ 2 := by
    unfold oDemand
    repeat' split
    all_goals simp
  exact Nat.lt_of_le_of_lt h (by decide)
theorem oStop_le (σ : mS) (p : Int32) : (oStop σ p).1 < 2 ^ 31 := by
  have h : (oStop σ p).1 ≤ 2 := by
    unfold oStop
    repeat' split
    all_goals simp
  exact Nat.lt_of_le_of_lt h (by decide)
theorem oIssue_le (σ : mS) (p : Int32) : (oIssue σ p).1 < 2 ^ 31 := by
  have h : (oIssue σ p).1 ≤ 2 := by
    unfold oIssue
    repeat' split
    all_goals simp
  exact Nat.lt_of_le_of_lt h (by decide)
theorem oRetire_le (σ : mS) (p : Int32) : (oRetire σ p).1 < 2 ^ 31 := by
  have h : (oRetire σ p).1 ≤ 2 := by
    unfold oRetire
    repeat' split
    all_goals simp
  exact Nat.lt_of_le_of_lt h (by decide)
theorem oIssueC_le (σ : mS) (p : Int32) : (oIssueC σ p).1 < 2 ^ 31 := by
  have h : (oIssueC σ p).1 ≤ 2 := by
    unfold oIssueC
    repeat' split
    all_goals simp
  exact Nat.lt_of_le_of_lt h (by decide)
theorem oRetireC_le (σ : mS) (p : Int32) : (oRetireC σ p).1 < 2 ^ 31 := by
  have h : (oRetireC σ p).1 ≤ 2 := by
    unfold oRetireC
    repeat' split
    all_goals simp
  exact Nat.lt_of_le_of_lt h (by decide)
theorem oNeeded_le (σ : mS) (p v : Int32) : (oNeeded σ p v).1 < 2 ^ 31 := by
  have h : (oNeeded σ p v).1 ≤ 2 := by
    unfold oNeeded
    repeat' split
    all_goals simp
  exact Nat.lt_of_le_of_lt h (by decide)
theorem oStep_le (σ : mS) (s : Int32) : (oStep σ s).1 < 2 ^ 31 := by
  have h : (oStep σ s).1 ≤ 2 := by
    unfold oStep
    repeat' split
    all_goals simp
  exact Nat.lt_of_le_of_lt h (by decide)
theorem oGet_le (σ : mS) (p : Int32) (F : mT → Int32) : (oGet σ p F).1 < 2 ^ 31 := by
  have h : (oGet σ p F).1 ≤ 2 := by
    unfold oGet
    repeat' split
    all_goals simp
  exact Nat.lt_of_le_of_lt h (by decide)
theorem oStage_le (σ : mS) (c z t k : Int32) (full : Bool) : (oStage σ c z t k full).1 < 2 ^ 31 := by
  have h : (oStage σ c z t k full).1 ≤ 2 := by
    unfold oStage
    repeat' split
    all_goals simp
  exact Nat.lt_of_le_of_lt h (by decide)
theorem and31 (x : Int32) : ∃ j : Nat, j < 32 ∧ x &&& nI 31 = nI j := by
  refine ⟨(x &&& nI 31).toBitVec.toNat, ?_, ?_⟩
  · rw [Int32.toBitVec_and, BitVec.toNat_and, show (nI 31).toBitVec.toNat = 31 by decide]
    exact Nat.lt_succ_of_le Nat.and_le_right
  · apply Int32.toBitVec_inj.mp
    unfold nI
    rw [Int32.toBitVec_ofNat']
    simp
theorem lg_cmp_self (x : Int64) : lg_cmp x x = 0 := by unfold lg_cmp; simp
theorem kSc {L i : Nat} (hL : L ≤ 3072) (hi : i ≤ 4000) : nI L - nI 6 < nI i ↔ L < i + 6 := by
  rw [Int32.lt_iff_toInt_lt, Int32.toInt_sub, nI_toInt (by omega), nI_toInt (by omega), nI_toInt (by omega)]
  rw [Int.bmod_eq_of_le (by omega) (by omega)]
  omega
abbrev wL (K : kE) (x : Nat) (ad : Nat → Nat → Nat) (σ : mS) (us : Nat → Nat → Nat → Int32) (o : Nat) (f : Nat → Int64) (y : Nat) (b : Nat → Nat) (S : Nat → Int32) (G : Nat → Nat → Int32) : va_W := (wX K x ad σ us ++ [kJ K o 1 f]) ++ wM K y b S G
theorem kPermL {α : Type} {a b c : List α} : (((a ++ b) ++ c) ++ []).Perm ((c ++ (b ++ a)) ++ []) := by
  rw [List.append_nil, List.append_nil]
  exact List.perm_append_comm.trans (List.Perm.append_left _ List.perm_append_comm)
theorem kPermM {α : Type} {a b c : List α} : ((c ++ (b ++ a)) ++ []).Perm (((a ++ b) ++ c) ++ []) := kPermL.symm
theorem kPermN {α : Type} {a b c : List α} : ((a ++ (b ++ c)) ++ []).Perm ((c ++ (b ++ a)) ++ []) := by
  rw [← List.append_assoc]; exact kPermL
section KSCR
variable {p : Program} {l : Launch} {e : Env} {R : Room} {s : State} {m : MethodId} {args : Array Value} {below : List Frame} {meth : Method} {c : Code} {K : kE} {A : Nat → Prop} {nL : Nat} {Q : State → Prop} {k n : Nat} {pl X : va_W} {lv : List (Nat × Value)} {pc : Nat} {st : List Value} {cc : ByteArray} {own : String}
theorem k_sld {b0 L i : Nat} {xs : Nat → Int32} (hC : kC p s m args meth c K A nL cc own) (hX0 : va_X b0 L xs s s.heap) (hbl : b0 < s.heap.size) (hbA : ¬ A b0) (hi : i < L) (hL : L ≤ 3072) (hd : decode cc pc = .ok (.iaload, 1)) (kk : kW p l e R s m args below meth c K A nL Q k n pl X lv (pc + 1) (.int (xs i) :: st)) : kW p l e R s m args below meth c K A nL Q k n pl X lv pc (.int (nI i) :: .ref b0 :: st) :=
  fun H locs ls hP hD hS hl => va_sld hC.1 hC.2.1 hX0 hbl hbA hS (vp_in_nI hi (by omega)) hd (by rw [nI_clamp (by omega)]; exact kk H locs ls hP hD hS hl)
theorem k_slen {b0 L : Nat} {xs : Nat → Int32} (hC : kC p s m args meth c K A nL cc own) (hX0 : va_X b0 L xs s s.heap) (hbl : b0 < s.heap.size) (hbA : ¬ A b0) (hd : decode cc pc = .ok (.arraylength, 1)) (kk : kW p l e R s m args below meth c K A nL Q k n pl X lv (pc + 1) (.int (nI L) :: st)) : kW p l e R s m args below meth c K A nL Q k n pl X lv pc (.ref b0 :: st) :=
  fun H locs ls hP hD hS hl => va_slen hC.1 hC.2.1 hX0 hbl hbA hS hd (kk H locs ls hP hD hS hl)
theorem k_tabIn (hC : kC p s m args meth c K A nL cc own) {dflt lo hi : Int} {offs : Array Int} {len : Nat} {x : Int32} {off : Int} (tgt : Nat) (hd : decode cc pc = .ok (.tableswitch dflt lo hi offs, len)) (h1 : ¬ x.toInt < lo) (h2 : ¬ hi < x.toInt) (ho : offs[(x.toInt - lo).toNat]? = some off) (ht : (pc : Int) + off = (tgt : Int)) (kk : kW p l e R s m args below meth c K A nL Q k n pl X lv tgt st) : kW p l e R s m args below meth c K A nL Q k n pl X lv pc (.int x :: st) :=
  fun H locs ls hP hD hS hl => lv_tableIn hC.1 hC.2.1 hd h1 h2 ho ht (kk H locs ls hP hD hS hl)
theorem k_tabOut (hC : kC p s m args meth c K A nL cc own) {dflt lo hi : Int} {offs : Array Int} {len : Nat} {x : Int32} (tgt : Nat) (hd : decode cc pc = .ok (.tableswitch dflt lo hi offs, len)) (h : x.toInt < lo ∨ hi < x.toInt) (ht : (pc : Int) + dflt = (tgt : Int)) (kk : kW p l e R s m args below meth c K A nL Q k n pl X lv tgt st) : kW p l e R s m args below meth c K A nL Q k n pl X lv pc (.int x :: st) :=
  fun H locs ls hP hD hS hl => lv_tableOut hC.1 hC.2.1 hd h ht (kk H locs ls hP hD hS hl)
end KSCR
theorem k_lawret {p : Program} {l : Launch} {e : Env} {s : State} {m : MethodId} {below : List Frame} {meth : Method} {c : Code} {b0 : Nat} {K : kE} {k n : Nat} {pl X : va_W} {lv : List (Nat × Value)} {pc : Nat} (hC : kC p s m #[Value.ref b0] meth c K (fun q : Nat => s.heap.size ≤ q) 7 cL_law RL) (hr : meth.sig.returnType = ret) (hk : k ≤ 646352) (hn : n ≤ 7157049) (hd : decode cL_law pc = .ok (.ireturn, 1)) : kW p l e room_1 s m #[Value.ref b0] below meth c K (fun q : Nat => s.heap.size ≤ q) 7 (lw_Z below #[Value.ref b0] s) k n pl X lv pc [.int 1] :=
  fun H locs ls hP hD hS hl => va_forget (fun q hq => hS.2.2 q hq) (W.widen hk hn (lw_ret hC.1 hC.2.1 hr hC.2.2.2.2.2.2.2 hd))
/-- what goes on behind a case of the law's switch -/
def kCont (p : Program) (l : Launch) (e : Env) (s : State) (m : MethodId) (args : Array Value) (below : List Frame) (meth : Method) (c : Code) (K : kE) (A : Nat → Prop) (Q : State → Prop) (b0 x y o : Nat) (b : Nat → Nat) (i k9 n9 : Nat) : Prop :=
  ∀ (ad : Nat → Nat → Nat) (σ : mS) (us : Nat → Nat → Nat → Int32) (f : Nat → Int64) (S : Nat → Int32) (G : Nat → Nat → Int32) (k n : Nat), mSok σ → mURT σ us → mRep σ S G → k ≤ k9 + 20 → n ≤ n9 + 110 → kW p l e room_1 s m args below meth c K A 7 Q k n [] (wL K x ad σ us o f y b S G) [(0, .ref b0), (1, .ref x), (2, .ref y), (3, .ref o), (4, .int (nI i))] 1587 []
/-- what stands at the head of a case -/
def kHead (p : Program) (l : Launch) (s : State) (m : MethodId) (args : Array Value) (meth : Method) (c : Code) (K : kE) (A : Nat → Prop) (b0 L : Nat) (xs : Nat → Int32) (i k9 n9 : Nat) : Prop :=
  l.stackTraces = false ∧ kC p s m args meth c K A 7 cL_law RL ∧ va_X b0 L xs s s.heap ∧ b0 < s.heap.size ∧ ¬ A b0 ∧ L ≤ 3072 ∧ i + 6 ≤ L ∧ k9 + 100 ≤ 646352 ∧ n9 + 1000 ≤ 7157049
