/-! the law: its entry and its end (out of the skeleton), its script, what holds at the head of its loop -/
/-! THE CLAIM OUT OF ONE WALK OF THE LAW'S BODY. Your part is whole_start (and what it stands on); all else here is the same for every law, but numbers. -/
def R_law : String := "KanbanLoopLaw"
def lw_P (b : Addr) (xs : List Int32) (args : Array Value) (s : State) : Prop := args = #[.ref b] ∧ s.IntsAt b xs ∧ xs.length ≤ 260 ∧ (Jvm.Cond.and given_1 narrow_1).before args s = true
def lw_Q (_ : Array Value) (s : State) (o : Outcome) (t : State) : Prop := o = .returned (some (.int 1)) ∧ Framed s o t [] 637431 7189406
def lw_Z (below : List Frame) (a : Array Value) (s : State) : State → Prop := fun t => ∃ o, t.status = .running ∧ Ended t below o ∧ lw_Q a s o t
/-- the law's own end, with 1 on the stack, nothing written that was there before, its room as the claim has it -/
theorem lw_ret {p : Program} {l : Launch} {e : Env} {s : State} {m : MethodId} {below : List Frame} {meth : Method} {c : Code} {b : Nat} (hx : p.tables.exec = Jvm.exec) (hb : c.code = code) (hr : meth.sig.returnType = ret) (hlocks : meth.locks = false) {pc : Nat} {H : Heap} {ls : Array Slot} (hdg : decode code pc = .ok (.ireturn, 1)) : W p l e room_1 s m #[Value.ref b] below meth c H [] 637431 7189406 (lw_Z below #[Value.ref b] s) (F0 m pc ls [.int 1]) := by
  intro T hT X
  obtain ⟨fs, hret, hrun, hended, hW, hframe⟩ := X.leave (v := some (.int 1)) (hlocks := hlocks) (fun h => by rw [hr] at h; cases h)
  have hmeth' : T.vm.method? m = some meth := X.method'
  refine ⟨T.setFrames fs, ?_, .returned (some (.int 1)), hrun, hended, rfl, ⟨_, rfl⟩, hW, hframe⟩
  jvm_step X.here [X.here.top, hx, hb, hdg, hmeth', hr, ret, narrow_b1]
  (try refine ⟨rfl, ?_⟩); (try refine ⟨rfl, ?_⟩)
  first | (intro acts; rw [hret _ acts rfl rfl rfl]) | rw [hret _ _ rfl rfl rfl]
  exact Steps.refl _
/-- what holds at the law's entry: the machine, the code, the tables' words (any of lw_tbl by 'hts w (by decide +kernel)'), the script of L ints xs at the cell b, what the Statement gives of the start (any of its parts by flat_of_before) -/
def lw_At (p : Program) (s : State) (m : MethodId) (meth : Method) (c : Code) (b L : Nat) (xs : Nat → Int32) : Prop :=
  p.tables.exec = Jvm.exec ∧ c.code = code ∧ meth.sig.returnType = ret ∧ c.maxLocals = 16 ∧ s.vm.findClass R_law = some m.cls ∧ (∀ w ∈ lw_tbl, w.before #[Value.ref b] s = true) ∧ va_X b L xs s s.heap ∧ b < s.heap.size ∧ meth.locks = false ∧ (Jvm.Cond.and given_1 narrow_1).before #[Value.ref b] s = true
/-- the machine at the law's entry, as the judgement kW wants it -/
theorem kG_entry {p : Program} {s : State} {m : MethodId} {meth : Method} {c : Code} {b L : Nat} {xs : Nat → Int32} (C0 : lw_At p s m meth c b L xs) : ∃ K : kE, kC p s m #[Value.ref b] meth c K (fun q : Nat => s.heap.size ≤ q) 16 cL_law RL := by
  obtain ⟨hx, hb, hr, hml, hown, hts, hX, hbl, hlocks, hgv⟩ := id C0
  have hgv2 := flat_of_before _ hgv
  have hkt : ∀ w ∈ kALL, w.before #[Value.ref b] s = true := fun w hw => hts w (kALL_tbl w hw)
  have hto : ∀ w ∈ tables_1, w.before #[Value.ref b] s = true := fun w hw => hts w (List.mem_append_right _ hw)
  obtain ⟨c0, i0, k0⟩ := u_known (C := RX0) (T := TX0) (N := 3) (n := 3) hkt inlX0 (hkt _ lkB_X0)
  obtain ⟨c1, i1, k1⟩ := u_known (C := RX1) (T := TX1) (N := 18) (n := 18) hkt inlX1 (hkt _ lkB_X1)
  obtain ⟨c2, i2, k2⟩ := u_known (C := RX2) (T := TX2) (N := 3) (n := 3) hkt inlX2 (hkt _ lkB_X2)
  obtain ⟨c3, i3, k3⟩ := u_known (C := RX3) (T := TX3) (N := 8) (n := 8) hkt inlX3 (hkt _ lkB_X3)
  obtain ⟨dC, dI, hKc⟩ : ∃ (dC : Nat → ClassId) (dI : Nat → Nat → Nat), ∀ (k : Nat) (q : vw_C), vwCl[k]? = some q → u_Kn s q.1 q.2.1 q.2.2 (dC k) (dI k) := by
    refine ⟨fun k => match k with | 0 => c0 | 1 => c1 | 2 => c2 | _ => c3, fun k => match k with | 0 => i0 | 1 => i1 | 2 => i2 | _ => i3, ?_⟩
    intro k q hq
    match k, hq with
    | 0, hq => cases hq; exact k0
    | 1, hq => cases hq; exact k1
    | 2, hq => cases hq; exact k2
    | 3, hq => cases hq; exact k3
    | k + 4, hq => simp [vwCl] at hq
  obtain ⟨a0, ka0, cp0, f0, g0, e0⟩ := Cond.arrayClass_spec (show (Cond.arrayClass .int).holds #[Value.ref b] s none s [] = true from hkt _ lkA_int)
  obtain ⟨a1, ka1, cp1, f1, g1, e1⟩ := Cond.arrayClass_spec (show (Cond.arrayClass .boolean).holds #[Value.ref b] s none s [] = true from hkt _ lkA_boolean)
  have hA : ∀ q : Nat, s.heap.size ≤ q → (fun q : Nat => s.heap.size ≤ q) q := fun _ h => h
  have hNA : ∀ a : Nat, a < s.heap.size → ¬ (fun q : Nat => s.heap.size ≤ q) a := fun a h => Nat.not_le.mpr h
  have hstr : ∀ q ∈ kn_S, ∃ a : Nat, (Term.string RX3 q.1).eval #[Value.ref b] s none [] s = some (.ref a) := by
    intro q hq
    have h1 : Cond.exactly (.string RX3 q.1) "java/lang/String" ∈ flatC (Jvm.Cond.and given_1 narrow_1) := (show ∀ q ∈ kn_S, Cond.exactly (.string RX3 q.1) "java/lang/String" ∈ flatC (Jvm.Cond.and given_1 narrow_1) by decide +kernel) q hq
    obtain ⟨a, -, -, -, ha, -⟩ := Cond.exactly_spec (hgv2 _ h1)
    exact ⟨a, ha⟩
  refine ⟨((dC, dI), (fun t => match t with | 0 => a0 | _ => a1), fun k => Classical.epsilon (fun a : Nat => (Term.string RX3 k).eval #[Value.ref b] s none [] s = some (.ref a))), hx, hb, hml, hown, hkt, ⟨⟨hKc, fun k q hq => ?_⟩, ?_, ?_, ?_, ?_, ?_, ?_, ?_, ?_⟩, hA, hlocks⟩
  · match k, hq with
    | 0, hq => cases hq; exact ⟨fun n z => ⟨(fun k h => by cases h), ka0, g0, cp0, e0⟩, f0⟩
    | 1, hq => cases hq; exact ⟨fun n z => ⟨(fun k h => by cases h), ka1, g1, cp1, e1⟩, f1⟩
    | k + 2, hq => simp [kTy] at hq
  · exact fun q hq => va_Nw.of rfl (hto _ (kn_F_in q hq))
  · exact fun q hq => va_Nw.of rfl (hto _ (kn_M_in q hq))
  · exact fun q hq => vk_R.of (hto _ (kn_S_in q hq)) (Classical.epsilon_spec (hstr q hq))
  · exact vx_Zqof (hts _ (by decide +kernel)) (hts _ (by decide +kernel)) (hgv2 _ (by decide +kernel)) hNA
  · exact vx_Zqof (hts _ (by decide +kernel)) (hts _ (by decide +kernel)) (hgv2 _ (by decide +kernel)) hNA
  · exact fun y hy => va_Nw.of rfl (hts _ ((show ∀ y ∈ kn_D, Cond.declares y ∈ lw_tbl by decide +kernel) y hy))
  · exact fun q hq => va_Nw.of rfl (hts _ ((show ∀ q ∈ kn_C, Cond.castable q q ∈ lw_tbl by decide +kernel) q hq))
  · exact fun q hq => va_Nc.of (hgv2 _ ((show ∀ q ∈ kn_X, Cond.not (Cond.castable q.1 q.2) ∈ flatC (Jvm.Cond.and given_1 narrow_1) by decide +kernel) q hq))
section QCELL
variable {p : Program} {l : Launch} {e : Env} {R : Room} {s : State} {m : MethodId} {args : Array Value} {below : List Frame} {meth : Method} {c : Code} {K : kE} {A : Nat → Prop} {nL : Nat} {Q : State → Prop} {k n : Nat} {pl X : va_W} {lv : List (Nat × Value)} {pc : Nat} {st : List Value} {cc : ByteArray} {own : String}
theorem k_callCell {b0 L i9 : Nat} {xs : Nat → Int32} (hC : kC p s m args meth c K A nL cc RL) (hX0 : va_X b0 L xs s s.heap) (hbl : b0 < s.heap.size) (hbA : ¬ A b0) (hL : L ≤ 260) (hi9 : i9 < 1000) (hR : rmL_cell.frames + 1 ≤ R.frames ∧ 8 + (2 + 11) + rmL_cell.locals ≤ R.locals) (h8 : (st.map fun v => v.category).sum ≤ 8) (hf : k ≤ R.cells ∧ n ≤ R.slots) (hd : decode cc pc = .ok (.invokestatic 123, 3))
    (kk : ∀ z : Int32, kW p l e R s m args below meth c K A nL Q k n pl X lv (pc + 3) (.int z :: st)) : kW p l e R s m args below meth c K A nL Q k n pl X lv pc (.int (nI i9) :: .ref b0 :: st) := by
  have hG : GoodIn kALL (wsS RL 123 yL_cell (kws yL_cell cL_cell 2 (some .int))) := by
    intro w hw
    unfold wsS at hw
    rcases List.mem_append.mp hw with h | h
    · exact kgood w ((kAll4 lkM_L_123 lkT_yL_cell lkN_L lkC_yL_cell) w (by simp only [List.mem_cons] at h ⊢; grind))
    · exact kgood1 lkC_yL_cell kgood w h
  refine k_ofRun (wc := []) (wr := X) (mc := 0) (ms := 0) (st := st) (a9 := ([.ref b0, .int (nI i9)] : List Value).toArray) (Po := fun v w => (∃ z : Int32, v = some (.int z)) ∧ w = []) rfl (fun H locs ls hP hD hS hl9 => ?_) hC.2.2.2.2.2.2.1 (fun v w' h => ?_)
  · have h5 := hC.2.2.2.2.1
    have hF : ∀ q, va_A [] H.size q → A q := by
      intro q h
      rcases h with ⟨k2, e2, h⟩ | h
      · simp at h
      · exact hC.2.2.2.2.2.2.1 q (Nat.le_trans hS.1 h)
    exact va_runS (As := [.ref b0, .int (nI i9)]) (rest := st) (ws := kws yL_cell cL_cell 2 (some .int)) ⟨hC.1, hC.2.1, hC.2.2.1, hC.2.2.2.1, h5⟩ (cL_cell_k l K b0 L xs hL i9 hi9 H.size) (cwS 2 h5 hG rfl rfl rfl (by decide) hR) ⟨kPcS_blind, fun U hU hW => ⟨rfl, by rw [hU], kG_call hC.2.2.2.2.2.1 hS hU hW hF, by rw [hU]; exact (hX0.kept (hS.2.1 b0 hbl hbA)).moved hW.alike, by rw [hU]; exact Nat.lt_of_lt_of_le hbl hS.1⟩⟩ rfl rfl hl9.1 rfl (lv_room h8) hd hf
  · obtain ⟨⟨z, rfl⟩, rfl⟩ := h
    exact kk z
end QCELL
theorem k_lawret {p : Program} {l : Launch} {e : Env} {s : State} {m : MethodId} {below : List Frame} {meth : Method} {c : Code} {b0 : Nat} {K : kE} {k n : Nat} {pl X : va_W} {lv : List (Nat × Value)} {pc : Nat} (hC : kC p s m #[Value.ref b0] meth c K (fun q : Nat => s.heap.size ≤ q) 16 cL_law RL) (hr : meth.sig.returnType = ret) (hk : k ≤ 637431) (hn : n ≤ 7189406) (hd : decode cL_law pc = .ok (.ireturn, 1)) : kW p l e room_1 s m #[Value.ref b0] below meth c K (fun q : Nat => s.heap.size ≤ q) 16 (lw_Z below #[Value.ref b0] s) k n pl X lv pc [.int 1] :=
  fun H locs ls hP hD hS hl => va_forget (fun q hq => hS.2.2 q hq) (W.widen hk hn (lw_ret hC.1 hC.2.1 hr hC.2.2.2.2.2.2.2 hd))
/-- what holds between two acts: the arrays and the class hold one line -/
def qInv (σ : mS) (us : Nat → Nat → Nat → Int32) (fT fM fI fW fG : Nat → Int32) : Prop := mSok σ ∧ mURT σ us ∧ qRep σ fT fM fI fW fG ∧ σ.1 ≤ 3 ∧ ∃ d9 : Nat, σ.2.2.1 3 = nI d9 ∧ d9 ≤ 20
/-- what goes on behind an act -/
def kCont (p : Program) (l : Launch) (e : Env) (s : State) (m : MethodId) (args : Array Value) (below : List Frame) (meth : Method) (c : Code) (K : kE) (A : Nat → Prop) (Q : State → Prop) (b0 x aT aM aI aW aG turn k9 n9 : Nat) : Prop :=
  ∀ (ad : Nat → Nat → Nat) (σ : mS) (us : Nat → Nat → Nat → Int32) (fT fM fI fW fG : Nat → Int32) (k n : Nat), qInv σ us fT fM fI fW fG → σ.1 ≠ 0 → k ≤ k9 + 400 → n ≤ n9 + 2000 → kW p l e room_1 s m args below meth c K A 16 Q k n (wX K x ad σ us) [kI K aT 45 fT, kI K aM 60 fM, kI K aI 60 fI, kI K aW 60 fW, kI K aG 8 fG] [(0, .ref b0), (1, .ref x), (2, .ref aT), (3, .ref aM), (4, .ref aI), (5, .ref aW), (6, .ref aG), (7, .int (nI turn))] 1169 []
/-- what stands at the head of an act -/
def kHead (p : Program) (l : Launch) (s : State) (m : MethodId) (args : Array Value) (meth : Method) (c : Code) (K : kE) (A : Nat → Prop) (turn k9 n9 : Nat) : Prop :=
  l.stackTraces = false ∧ kC p s m args meth c K A 16 cL_law RL ∧ turn < 60 ∧ k9 + 1000 ≤ 637431 ∧ n9 + 5000 ≤ 7189406
theorem qRep_put {σ : mS} {fT fM fI fW fG gT gM gI gW : Nat → Int32} {a : Nat} {τ : mT} (h : qRep σ fT fM fI fW fG) (hσ : mSok σ) (ha : a < σ.1) (h1 : qS a τ gT gM gI gW) (ho : ∀ j : Nat, j ≠ a → qA4 j fT fM fI fW gT gM gI gW) (hz : τ.2.1 1 = (σ.2.2.2 a).2.1 1) : qRep (mPut σ a τ) gT gM gI gW fG := by
  obtain ⟨g0, g1, g2, g3, g4, g5, g6, g7, hsr, hsz⟩ := h
  refine ⟨g0, g1, g2, g3, g4, g5, g6, ?_, fun k hk => ?_, qZ_ag hsz (fun j hj => (ho j (by have : σ.1 ≤ j := hj; omega)).1)⟩
  · rw [g7]; symm
    refine mSumZ_eq (fun j => ?_)
    show (va_up σ.2.2.2 a τ j).2.1 1 = (σ.2.2.2 j).2.1 1
    by_cases e : j = a
    · subst e; rw [va_up_self]; exact hz
    · rw [va_up_ne _ _ e]
  · show qS k (va_up σ.2.2.2 a τ k) gT gM gI gW
    by_cases e : k = a
    · subst e; rw [va_up_self]; exact h1
    · rw [va_up_ne _ _ e]; exact qS_a4 (hsr k hk) (qLen_of (hσ.2 k hk).1) (ho k e)
theorem mSok_0 : mSok mS0 := ⟨Nat.zero_le 6, fun k hk => absurd hk (Nat.not_lt_zero k)⟩
theorem mURT_0 : mURT mS0 (fun _ _ _ => 0) := fun k hk => absurd hk (Nat.not_lt_zero k)
theorem qRep_0 : qRep mS0 (fun _ => 0) (fun _ => 0) (fun _ => 0) (fun _ => 0) (fun _ => 0) :=
  ⟨rfl, rfl, rfl, rfl, rfl, rfl, rfl, rfl, fun k hk => absurd hk (Nat.not_lt_zero k), fun _ _ _ _ _ => rfl⟩
set_option maxRecDepth 100000 in
set_option maxHeartbeats 4000000 in
theorem law_1152 {p : Program} {l : Launch} {e : Env} {s : State} {m : MethodId} {args : Array Value} {below : List Frame} {meth : Method} {cd : Code} {K : kE} {A : Nat → Prop} {Q : State → Prop} {b0 x aT aM aI aW aG turn k9 n9 : Nat} (H0 : kHead p l s m args meth cd K A turn k9 n9) (kk : kCont p l e s m args below meth cd K A Q b0 x aT aM aI aW aG turn k9 n9) (ad : Nat → Nat → Nat) (σ : mS) (us : Nat → Nat → Nat → Int32) (fT fM fI fW fG : Nat → Int32) (hq : qInv σ us fT fM fI fW fG) (h0 : σ.1 ≠ 0) (k n : Nat) (hk : k ≤ k9 + 150) (hn : n ≤ n9 + 900) : kW p l e room_1 s m args below meth cd K A 16 Q k n (wX K x ad σ us) [kI K aT 45 fT, kI K aM 60 fM, kI K aI 60 fI, kI K aW 60 fW, kI K aG 8 fG] [(0, .ref b0), (1, .ref x), (2, .ref aT), (3, .ref aM), (4, .ref aI), (5, .ref aW), (6, .ref aG), (7, .int (nI turn))] 1152 [] := by
  obtain ⟨hst, hC, ht60, hk9, hn9⟩ := H0
  obtain ⟨hσ, hU, hR, h3, d9, hd, hd20⟩ := id hq
  refine k_aload_n hC 1 dL_law_1152 rfl rfl ?_
  refine k_aload_n hC 2 dL_law_1153 rfl rfl ?_
  refine k_aload_n hC 3 dL_law_1154 rfl rfl ?_
  refine k_aload hC dL_law_1155 rfl ?_
  refine k_aload hC dL_law_1157 rfl ?_
  refine k_aload hC dL_law_1159 rfl ?_
  refine k_as (pl2 := []) (X2 := [kI K aT 45 fT, kI K aM 60 fM, kI K aI 60 fI, kI K aW 60 fW, kI K aG 8 fG] ++ wX K x ad σ us) (by rw [List.append_nil]) ?_
  refine k_callS hC (As := [.ref x, .ref aT, .ref aM, .ref aI, .ref aW, .ref aG]) (cL_same_k l K hst x ad σ us hσ hU aT aM aI aW aG fT fM fI fW fG h3 d9 hd hd20 hR) [] (List.append_nil _).symm (kAll4 lkM_L_150 lkT_yL_same lkN_L lkC_yL_same) 6 (by decide) ⟨(Nat.le_of_ble_eq_true rfl), (Nat.le_of_ble_eq_true rfl)⟩ rfl rfl (Nat.le_of_ble_eq_true rfl) ⟨by show k + 200 ≤ 637431; omega, by show n + 1000 ≤ 7189406; omega⟩ dL_law_1161 (fun v w h => ?_)
  obtain ⟨rfl, ad1, us1, rfl, hU1⟩ := h
  refine k_re (k + 200) (n + 1000) (([kI K aT 45 fT, kI K aM 60 fM, kI K aI 60 fI, kI K aW 60 fW, kI K aG 8 fG] ++ wX K x ad1 σ us1)) [.int (nI 1)] rfl rfl (List.append_nil _) rfl ?_
  refine k_as (pl2 := wX K x ad1 σ us1) (X2 := [kI K aT 45 fT, kI K aM 60 fM, kI K aI 60 fI, kI K aW 60 fW, kI K aG 8 fG]) (by rw [List.append_nil]) ?_
  refine k_if_neN hC 1169 dL_law_1164 (by decide) (by decide) (fun _ => ?_) (fun c9 => absurd c9 (by decide))
  exact kk ad1 σ us1 fT fM fI fW fG (k + 200) (n + 1000) ⟨hσ, hU1, hR, h3, d9, hd, hd20⟩ h0 (by omega) (by omega)
