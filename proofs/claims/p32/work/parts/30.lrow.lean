/-! the law's own line: rows that it needs, lists in a row of ints, its small helpers -/
section QROWS
variable {p : Program} {l : Launch} {e : Env} {R : Room} {s : State} {m : MethodId} {args : Array Value} {below : List Frame} {meth : Method} {c : Code} {K : kE} {A : Nat → Prop} {nL : Nat} {Q : State → Prop} {k n : Nat} {pl X : va_W} {lv : List (Nat × Value)} {pc : Nat} {st : List Value} {cc : ByteArray} {own : String}
theorem k_idivN (hC : kC p s m args meth c K A nL cc own) {x y : Nat} (hd : decode cc pc = .ok (.idiv, 1)) (hx : x < 2 ^ 31) (h0 : 0 < y) (hy : y < 2 ^ 31) (kk : kW p l e R s m args below meth c K A nL Q k n pl X lv (pc + 1) (.int (nI (x / y)) :: st)) : kW p l e R s m args below meth c K A nL Q k n pl X lv (pc) (.int (nI y) :: .int (nI x) :: st) :=
  fun H locs ls hP hD hS hl => lv_idiv hC.1 hC.2.1 hd (nI_ne0 h0 hy) (by rw [pk_div hx h0 hy]; exact kk H locs ls hP hD hS hl)
theorem k_iremN (hC : kC p s m args meth c K A nL cc own) {x y : Nat} (hd : decode cc pc = .ok (.irem, 1)) (hx : x < 2 ^ 31) (h0 : 0 < y) (hy : y < 2 ^ 31) (kk : kW p l e R s m args below meth c K A nL Q k n pl X lv (pc + 1) (.int (nI (x % y)) :: st)) : kW p l e R s m args below meth c K A nL Q k n pl X lv (pc) (.int (nI y) :: .int (nI x) :: st) :=
  fun H locs ls hP hD hS hl => lv_irem hC.1 hC.2.1 hd (nI_ne0 h0 hy) (by rw [pk_rem hx h0 hy]; exact kk H locs ls hP hD hS hl)
theorem k_ishr (hC : kC p s m args meth c K A nL cc own) {x y : Int32} (hd : decode cc pc = .ok (.ishr, 1)) (kk : ∀ z : Int32, kW p l e R s m args below meth c K A nL Q k n pl X lv (pc + 1) (.int z :: st)) : kW p l e R s m args below meth c K A nL Q k n pl X lv (pc) (.int y :: .int x :: st) :=
  fun H locs ls hP hD hS hl => lv_ishr hC.1 hC.2.1 hd (kk _ H locs ls hP hD hS hl)
theorem k_ldc (hC : kC p s m args meth c K A nL cc own) {ix : Nat} {v : Int32} (hw : Cond.constant own ix v ∈ kALL) (hd : decode cc pc = .ok (.ldc ix, 2)) (kk : kW p l e R s m args below meth c K A nL Q k n pl X lv (pc + 2) (.int v :: st)) : kW p l e R s m args below meth c K A nL Q k n pl X lv (pc) (st) :=
  fun H locs ls hP hD hS hl => lv_ldc hC.1 hC.2.1 hC.2.2.2.1 (hC.2.2.2.2.1 _ hw) hd (kk H locs ls hP hD hS hl)
theorem k_sld {b0 L i : Nat} {xs : Nat → Int32} (hC : kC p s m args meth c K A nL cc own) (hX0 : va_X b0 L xs s s.heap) (hbl : b0 < s.heap.size) (hbA : ¬ A b0) (hi : i < L) (hL : L ≤ 260) (hd : decode cc pc = .ok (.iaload, 1)) (kk : kW p l e R s m args below meth c K A nL Q k n pl X lv (pc + 1) (.int (xs i) :: st)) : kW p l e R s m args below meth c K A nL Q k n pl X lv (pc) (.int (nI i) :: .ref b0 :: st) :=
  fun H locs ls hP hD hS hl => va_sld hC.1 hC.2.1 hX0 hbl hbA hS (vp_in_nI hi (by omega)) hd (by rw [nI_clamp (by omega)]; exact kk H locs ls hP hD hS hl)
theorem k_slen {b0 L : Nat} {xs : Nat → Int32} (hC : kC p s m args meth c K A nL cc own) (hX0 : va_X b0 L xs s s.heap) (hbl : b0 < s.heap.size) (hbA : ¬ A b0) (hd : decode cc pc = .ok (.arraylength, 1)) (kk : kW p l e R s m args below meth c K A nL Q k n pl X lv (pc + 1) (.int (nI L) :: st)) : kW p l e R s m args below meth c K A nL Q k n pl X lv (pc) (.ref b0 :: st) :=
  fun H locs ls hP hD hS hl => va_slen hC.1 hC.2.1 hX0 hbl hbA hS hd (kk H locs ls hP hD hS hl)
end QROWS
/-- one place of a row: its units, and a hundred times its card, or its steps to go -/
def qv (x : Nat × Nat) : Nat := 100 * x.2 + x.1
def mK (L : List (Nat × Nat)) (u : Nat → Int32) : Prop := ∀ i : Nat, i < L.length → u i = nI (qv (mg L i))
def mKok (L : List (Nat × Nat)) : Prop := ∀ x ∈ L, x.1 ≤ 10 ∧ x.2 ≤ 5
/-- a row's places of other stages stay -/
def qF (s9 : Nat) (f g : Nat → Int32) : Prop := ∀ q : Nat, (q < 20 * s9 ∨ 20 * s9 + 20 ≤ q) → g q = f q
theorem qF_rf {s9 : Nat} {f : Nat → Int32} : qF s9 f f := fun _ _ => rfl
theorem qF_tr {s9 : Nat} {f g h : Nat → Int32} (h1 : qF s9 f g) (h2 : qF s9 g h) : qF s9 f h := fun q hq => (h2 q hq).trans (h1 q hq)
theorem qF_up {s9 i : Nat} {f : Nat → Int32} {v : Int32} (hi : i < 20) : qF s9 f (upd f (20 * s9 + i) v) := fun q hq => pk_un (by omega)
theorem qF_up0 {s9 : Nat} {f : Nat → Int32} {v : Int32} : qF s9 f (upd f (20 * s9) v) := fun q hq => pk_un (by omega)
theorem qsh (u : Nat → Int32) (k i : Nat) (v : Int32) : (fun j => upd u (20 * k + i) v (20 * k + j)) = upd (fun j => u (20 * k + j)) i v := by
  funext j
  unfold upd
  by_cases h : j = i
  · subst h; simp
  · rw [if_neg (by omega), if_neg h]
theorem qsh0 (u : Nat → Int32) (k : Nat) (v : Int32) : (fun j => upd u (20 * k) v (20 * k + j)) = upd (fun j => u (20 * k + j)) 0 v := qsh u k 0 v
theorem qupid {u : Nat → Int32} {i : Nat} {v : Int32} (h : u i = v) : upd u i v = u := by
  funext j
  unfold upd
  split
  · next e => rw [e, h]
  · rfl
theorem qup2 {u : Nat → Int32} {i : Nat} {a b : Int32} : upd (upd u i a) i b = upd u i b := by
  funext j
  unfold upd
  split <;> rfl
theorem mK_snoc {L : List (Nat × Nat)} {u : Nat → Int32} (x : Nat × Nat) (h : mK L u) : mK (L ++ [x]) (upd u L.length (nI (qv x))) := by
  intro i hi
  rw [List.length_append, List.length_singleton] at hi
  unfold mg upd
  by_cases e : i = L.length
  · subst e; simp
  · have hl : i < L.length := by omega
    have := h i hl
    rw [if_neg e, List.getD_eq_getElem?_getD, List.getElem?_append_left hl, ← List.getD_eq_getElem?_getD]
    exact this
theorem mK_snocS {L : List (Nat × Nat)} {u : Nat → Int32} {k : Nat} (x : Nat × Nat) (h : mK L (fun j => u (20 * k + j))) : mK (L ++ [x]) (fun j => upd u (20 * k + L.length) (nI (qv x)) (20 * k + j)) := by
  rw [qsh]; exact mK_snoc x h
theorem mK_head {x : Nat × Nat} {t : List (Nat × Nat)} {u : Nat → Int32} (y : Nat × Nat) (h : mK (x :: t) u) : mK (y :: t) (upd u 0 (nI (qv y))) := by
  intro i hi
  cases i with
  | zero => exact pk_us
  | succ i => exact (pk_un (Nat.succ_ne_zero i)).trans (h (i + 1) hi)
theorem mK_headS {x : Nat × Nat} {t : List (Nat × Nat)} {u : Nat → Int32} {k : Nat} (y : Nat × Nat) (h : mK (x :: t) (fun j => u (20 * k + j))) : mK (y :: t) (fun j => upd u (20 * k) (nI (qv y)) (20 * k + j)) := by
  rw [qsh0]; exact mK_head y h
theorem mK_nil {u : Nat → Int32} : mK [] u := fun i h => by cases h
theorem mK_ag {L : List (Nat × Nat)} {u v : Nat → Int32} (hl : L.length ≤ 20) (h : mK L u) (ha : ∀ i : Nat, i < 20 → v i = u i) : mK L v := fun i hi => (ha i (by omega)).trans (h i hi)
theorem mK_fr {L : List (Nat × Nat)} {f g : Nat → Int32} {j s9 : Nat} (hj : j ≠ s9) (hl : L.length ≤ 20) (h : mK L (fun i => f (20 * j + i))) (hF : qF s9 f g) : mK L (fun i => g (20 * j + i)) := mK_ag hl h (fun i hi => hF _ (by omega))
theorem mKok_ok {L : List (Nat × Nat)} (h : mOk L) : mKok L := fun x hx => by have := mOk_1 h hx; omega
/-- while a row is moved up: the first i places have what comes behind them -/
def qSh (L : List (Nat × Nat)) (i : Nat) (u : Nat → Int32) : Prop := ∀ j : Nat, j < L.length → u j = nI (qv (if j < i then mg L (j + 1) else mg L j))
theorem qSh_0 {L : List (Nat × Nat)} {u : Nat → Int32} (h : mK L u) : qSh L 0 u := fun j hj => by rw [if_neg (Nat.not_lt_zero j)]; exact h j hj
theorem qSh_step {L : List (Nat × Nat)} {i : Nat} {u : Nat → Int32} (h : qSh L i u) (hi : i + 1 < L.length) : qSh L (i + 1) (upd u i (u (i + 1))) := by
  intro j hj
  by_cases e : j = i
  · subst e
    rw [pk_us, h (j + 1) hi, if_neg (by omega), if_pos (by omega)]
  · rw [pk_un e, h j hj]
    by_cases hlt : j < i
    · rw [if_pos hlt, if_pos (by omega)]
    · rw [if_neg hlt, if_neg (by omega)]
theorem qSh_end {x : Nat × Nat} {t : List (Nat × Nat)} {u : Nat → Int32} (h : qSh (x :: t) t.length u) : mK t u := fun i hi => by
  have := h i (by show i < t.length + 1; omega)
  rw [if_pos hi] at this
  exact this
/-- one unit taken -/
theorem mTake_one {x : Nat × Nat} {t : List (Nat × Nat)} {n : Nat} {r : Bool} (h : x.1 = 1) : mTake (x :: t) (n + 1) r = ((mTake t n r).1, (mTake t n r).2 + x.2) := by
  rw [mTake, if_neg (by omega), if_pos (by omega), show n + 1 - x.1 = n by omega]
theorem mTake_more {x : Nat × Nat} {t : List (Nat × Nat)} {n : Nat} {r : Bool} (h : 2 ≤ x.1) : mTake (x :: t) (n + 1) r = ((mTake ((x.1 - 1, if r = true then 0 else x.2) :: t) n r).1, (mTake ((x.1 - 1, if r = true then 0 else x.2) :: t) n r).2 + (if r = true then x.2 else 0)) := by
  by_cases h0 : n = 0
  · subst h0
    rw [mTake, if_neg (by omega), if_neg (by omega), mTake_0]
    cases r <;> simp
  · by_cases h1 : x.1 ≤ n + 1
    · rw [mTake, if_neg (by omega), if_pos h1, mTake, if_neg h0, if_pos (by show x.1 - 1 ≤ n; omega)]
      rw [show n - (x.1 - 1) = n + 1 - x.1 by omega]
      cases r <;> simp
    · have e1 : ∀ y : Nat, mTake ((x.1 - 1, y) :: t) n r = if r = true then ((x.1 - 1 - n, 0) :: t, y) else ((x.1 - 1 - n, y) :: t, 0) := fun y => by rw [mTake, if_neg h0, if_neg (by show ¬ x.1 - 1 ≤ n; omega)]
      rw [mTake, if_neg (by omega), if_neg h1, e1, show x.1 - 1 - n = x.1 - (n + 1) by omega]
      cases r <;> simp
theorem kB_1 {r : Bool} : kB r = nI 1 ↔ r = true := by cases r <;> decide
theorem q31 (x : Int32) : ∃ j : Nat, j < 2 ^ 31 ∧ x &&& 2147483647 = nI j := by
  refine ⟨(x &&& 2147483647).toBitVec.toNat, ?_, ?_⟩
  · rw [Int32.toBitVec_and, BitVec.toNat_and, show (2147483647 : Int32).toBitVec.toNat = 2147483647 by decide]
    exact Nat.lt_succ_of_le Nat.and_le_right
  · apply Int32.toBitVec_inj.mp
    unfold nI
    rw [Int32.toBitVec_ofNat']
    simp
/-- the script is there, outside of what may be written -/
def kPcS (K : kE) (b0 L : Nat) (xs : Nat → Int32) (av : List Value) (sz : Nat) : Array Value → State → Prop := va_Pc av (fun U => U.heap.size = sz ∧ kG K (va_A [] sz) U ∧ va_X b0 L xs U U.heap ∧ b0 < U.heap.size)
theorem kPcS_blind {K : kE} {b0 L : Nat} {xs : Nat → Int32} {av : List Value} {sz : Nat} : FrameBlind (kPcS K b0 L xs av sz) := by
  intro a U g mk q
  obtain ⟨q0, q1, q2, q3, q4⟩ := q
  exact ⟨q0, q1, kG_same rfl rfl q2, va_X.moved (Vm.Alike.refl _) q3, q4⟩
abbrev rmL_cell : Room := { frames := 0, cells := 0, slots := 0, locals := 0 }
set_option maxRecDepth 100000 in
set_option maxHeartbeats 4000000 in
theorem cL_cell_k (l : Launch) (K : kE) (b0 L : Nat) (xs : Nat → Int32) (hL : L ≤ 260) (i9 : Nat) (hi9 : i9 < 1000) : ∀ sz : Nat, Met l yL_cell (kws yL_cell cL_cell 2 (some .int)) rmL_cell (kPcS K b0 L xs [.ref b0, .int (nI i9)] sz) (kQc K [] sz (fun v w => (∃ z : Int32, v = some (.int z)) ∧ w = [])) 0 0 (va_A [] sz) := by
  intro sz
  refine Met.ofW (cc := cL_cell) (maxL := 2) (ret := (some .int)) (by decide) rfl ?_
  intro p e s m args below meth cd s₁ B hml hv
  obtain ⟨rfl, hsz, hG, hX0, hbl⟩ := hv
  have hts := atoms_spec (ws := kws yL_cell cL_cell 2 (some .int)) B.pre
  have hown : s.vm.findClass yL_cell.cls = some m.cls := findClass_of_methodNamed B.named
  subst hsz
  have hA : ∀ q : Nat, s.heap.size ≤ q → va_A [] s.heap.size q := fun q h => Or.inr h
  have hbA : ¬ va_A [] s.heap.size b0 := by
    intro q
    rcases q with ⟨k2, e2, h⟩ | h
    · simp at h
    · omega
  have hl := lv_entry ([.ref b0, .int (nI i9)]) (n := 2) (Nat.le_of_ble_eq_true rfl)
  rw [lg_entry_eq]
  generalize (lg_sl ([.ref b0, .int (nI i9)]) ++ List.replicate (2 - (lg_sl ([.ref b0, .int (nI i9)])).length) Slot.unset).toArray = ls at hl ⊢
  have hC : kC p s m #[Value.ref b0, .int (nI i9)] meth cd K (va_A [] s.heap.size) 2 cL_cell RL := ⟨B.exec, B.bytes, hml, hown, fun w hw => hts w (List.mem_cons_of_mem _ hw), hG, hA, B.notSynchronized⟩
  have hE : kEn p l e rmL_cell s m #[Value.ref b0, .int (nI i9)] below meth cd K (va_A [] s.heap.size) (MQ below (kQc K [] s.heap.size (fun v w => (∃ z : Int32, v = some (.int z)) ∧ w = [])) #[Value.ref b0, .int (nI i9)] s 0 0 (va_A [] s.heap.size)) (fun v w => (∃ z : Int32, v = some (.int z)) ∧ w = []) (some .int) 0 0 := ⟨B.returns, kQc K [] s.heap.size (fun v w => (∃ z : Int32, v = some (.int z)) ∧ w = []), fun k n H locs g h1 h2 h3 => W.widen h1 h2 h3, fun v w' H locs t hp hP hD hS ht => ⟨⟨v, w', rfl, hp, by rw [ht]; exact hP, hD⟩, hS.F ht⟩⟩
  revert hC hE
  generalize MQ below (kQc K [] s.heap.size (fun v w => (∃ z : Int32, v = some (.int z)) ∧ w = [])) #[Value.ref b0, .int (nI i9)] s 0 0 (va_A [] s.heap.size) = Q
  generalize (#[Value.ref b0, .int (nI i9)] : Array Value) = args
  generalize va_A [] s.heap.size = A at hbA
  intro hC hE
  refine (show kW p l e rmL_cell s m args below meth cd K A 2 Q 0 0 ([]) [] [(0, .ref b0), (1, .int (nI i9))] 0 [] from ?_) s.heap [] ls (fun k q h => by simp at h) ⟨fun i j p q h => by simp at h, fun k q h => by simp at h⟩ va_S.rf hl
  refine k_iload_n hC 1 dL_cell_0 rfl rfl ?_
  refine k_aload_n hC 0 dL_cell_1 rfl rfl ?_
  refine k_slen hC hX0 hbl hbA dL_cell_2 ?_
  refine k_icmp_geN hC 12 dL_cell_3 (by decide) (by omega) (by omega) (fun c1 => ?_) (fun c1 => ?_)
  · refine k_ldc hC lkK_L_7 dL_cell_12 ?_
    refine k_iload_n hC 1 dL_cell_14 rfl rfl ?_
    refine k_iconst hC (nI 1) dL_cell_15 rfl ?_
    refine k_iaddN hC dL_cell_16 ?_
    refine k_imul hC dL_cell_17 ?_
    refine k_ldc hC lkK_L_8 dL_cell_18 ?_
    refine k_iadd hC dL_cell_20 ?_
    exact k_iret hC hE (Nat.le_of_ble_eq_true rfl) (Nat.le_of_ble_eq_true rfl) dL_cell_21 ⟨⟨_, rfl⟩, rfl⟩
  · refine k_aload_n hC 0 dL_cell_6 rfl rfl ?_
    refine k_iload_n hC 1 dL_cell_7 rfl rfl ?_
    refine k_sld hC hX0 hbl hbA (by omega) hL dL_cell_8 ?_
    refine k_goto hC 21 dL_cell_9 (by decide) ?_
    exact k_iret hC hE (Nat.le_of_ble_eq_true rfl) (Nat.le_of_ble_eq_true rfl) dL_cell_21 ⟨⟨_, rfl⟩, rfl⟩
abbrev rmL_low : Room := { frames := 0, cells := 0, slots := 0, locals := 0 }
set_option maxRecDepth 100000 in
set_option maxHeartbeats 4000000 in
theorem cL_low_k (l : Launch) (K : kE) (v9 : Int32) (n9 : Nat) (h0 : 0 < n9) (hn : n9 < 1000) : kM l yL_low (kws yL_low cL_low 2 (some .int)) rmL_low K [.int v9, .int (nI n9)] [] (fun v w => (∃ j : Nat, j < n9 ∧ v = some (.int (nI j))) ∧ w = []) := by
  refine kM_of (pl := []) (X := []) rfl (by decide) (Nat.le_of_ble_eq_true rfl) ?_
  intro p e s m args below meth cd A Q hC hnm hE
  refine k_eX (show _ = [] from rfl) ?_
  obtain ⟨x9, hx, ex⟩ := q31 v9
  refine k_iload_n hC 0 dL_low_0 rfl rfl ?_
  refine k_ldc hC lkK_L_9 dL_low_1 ?_
  refine k_iand hC dL_low_3 ?_
  refine k_topE (nI x9) ex ?_
  refine k_iload_n hC 1 dL_low_4 rfl rfl ?_
  refine k_iremN hC dL_low_5 (by omega) (by omega) (by omega) ?_
  exact k_iret hC hE (Nat.le_of_ble_eq_true rfl) (Nat.le_of_ble_eq_true rfl) dL_low_6 ⟨⟨_, Nat.mod_lt _ h0, rfl⟩, rfl⟩
abbrev rmL_units : Room := { frames := 0, cells := 0, slots := 0, locals := 0 }
set_option maxRecDepth 100000 in
set_option maxHeartbeats 4000000 in
theorem cL_units_k (l : Launch) (K : kE) (aR : Nat) (fR : Nat → Int32) (s9 : Nat) (L : List (Nat × Nat)) (hs : s9 < 3) (hL : L.length ≤ 20) (hK : mK L (fun i => fR (20 * s9 + i))) (hU : mKok L) : kM l yL_units (kws yL_units cL_units 5 (some .int)) rmL_units K [.ref aR, .int (nI s9), .int (nI L.length)] [kI K aR 60 fR] (fun v w => v = some (.int (nI (mU L))) ∧ w = [kI K aR 60 fR]) := by
  refine kM_of (pl := []) (X := [kI K aR 60 fR]) rfl (by decide) (Nat.le_of_ble_eq_true rfl) ?_
  intro p e s m args below meth cd A Q hC hnm hE
  refine k_eX (show _ = [kI K aR 60 fR] from rfl) ?_
  refine k_iconst hC (nI 0) dL_units_0 rfl ?_
  refine k_istore_n hC 3 dL_units_1 rfl (by decide) rfl [(0, .ref aR), (1, .int (nI s9)), (2, .int (nI L.length)), (3, .int (nI 0))] rfl ?_
  refine k_iconst hC (nI 0) dL_units_2 rfl ?_
  refine k_istore hC dL_units_3 (by decide) rfl [(0, .ref aR), (1, .int (nI s9)), (2, .int (nI L.length)), (3, .int (nI 0)), (4, .int (nI 0))] rfl ?_
  have loop : ∀ (n i sm : Nat), n + i = L.length + 1 → i ≤ L.length → sm = mU (L.take i) → kW p l e rmL_units s m args below meth cd K A 5 Q 0 0 ([]) [kI K aR 60 fR] [(0, .ref aR), (1, .int (nI s9)), (2, .int (nI L.length)), (3, .int (nI sm)), (4, .int (nI i))] 5 [] := by
    intro n
    induction n with
    | zero => intro i sm h1 h2; exact absurd h1 (by omega)
    | succ n ih =>
      intro i sm h1 h2 hs9
      refine k_iload hC dL_units_5 rfl ?_
      refine k_iload_n hC 2 dL_units_7 rfl rfl ?_
      refine k_icmp_geN hC 32 dL_units_8 (by decide) (by omega) (by omega) (fun c1 => ?_) (fun c1 => ?_)
      · refine k_iload_n hC 3 dL_units_32 rfl rfl ?_
        exact k_iret hC hE (Nat.le_of_ble_eq_true rfl) (Nat.le_of_ble_eq_true rfl) dL_units_33 ⟨by rw [hs9, show i = L.length by omega, List.take_length], rfl⟩
      · have hi : i < L.length := by omega
        have hu := hU _ (mg_mem hi)
        have e1 := hK i hi
        unfold qv at e1
        refine k_iload_n hC 3 dL_units_11 rfl rfl ?_
        refine k_aload_n hC 0 dL_units_12 rfl rfl ?_
        refine k_bipush hC (nI 20) dL_units_13 rfl ?_
        refine k_iload_n hC 1 dL_units_15 rfl rfl ?_
        refine k_imulN hC dL_units_16 ?_
        refine k_iload hC dL_units_17 rfl ?_
        refine k_iaddN hC dL_units_19 ?_
        refine k_ald hC 0 rfl (by omega) (by decide) dL_units_20 ?_
        refine k_topE (nI (100 * (mg L i).2 + (mg L i).1)) e1 ?_
        refine k_bipush hC (nI 100) dL_units_21 rfl ?_
        refine k_iremN hC dL_units_23 (by omega) (by omega) (by omega) ?_
        refine k_topE (nI ((mg L i).1)) (by congr 1; omega) ?_
        refine k_iaddN hC dL_units_24 ?_
        refine k_istore_n hC 3 dL_units_25 rfl (by decide) rfl [(0, .ref aR), (1, .int (nI s9)), (2, .int (nI L.length)), (3, .int (nI (sm + (mg L i).1))), (4, .int (nI i))] rfl ?_
        refine k_iinc hC dL_units_26 (by decide) rfl rfl (nI (i + 1)) (kinc i 1 rfl) [(0, .ref aR), (1, .int (nI s9)), (2, .int (nI L.length)), (3, .int (nI (sm + (mg L i).1))), (4, .int (nI (i + 1)))] rfl ?_
        refine k_goto hC 5 dL_units_29 (by decide) ?_
        exact ih (i + 1) _ (by omega) (by omega) (by rw [mU_take hi, hs9])
  exact loop (L.length + 1) 0 0 (by omega) (by omega) rfl
abbrev rmL_add : Room := { frames := 0, cells := 0, slots := 0, locals := 0 }
set_option maxRecDepth 100000 in
set_option maxHeartbeats 4000000 in
theorem cL_add_k (l : Launch) (K : kE) (aR aT : Nat) (fR fT : Nat → Int32) (s9 j9 z9 : Nat) (v9 : Int32) (hs : s9 < 3) (hj : j9 < 15) (hz : fT (15 * s9 + j9) = nI z9) (hz20 : z9 < 20) : kM l yL_add (kws yL_add cL_add 5 none) rmL_add K [.ref aR, .int (nI s9), .ref aT, .int (nI j9), .int v9] [kI K aR 60 fR, kI K aT 45 fT] (fun v w => v = none ∧ w = [kI K aR 60 (upd fR (20 * s9 + z9) v9), kI K aT 45 (upd fT (15 * s9 + j9) (nI (z9 + 1)))]) := by
  refine kM_of (pl := []) (X := [kI K aR 60 fR, kI K aT 45 fT]) rfl (by decide) (Nat.le_of_ble_eq_true rfl) ?_
  intro p e s m args below meth cd A Q hC hnm hE
  refine k_eX (show _ = [kI K aR 60 fR, kI K aT 45 fT] from rfl) ?_
  refine k_aload_n hC 0 dL_add_0 rfl rfl ?_
  refine k_bipush hC (nI 20) dL_add_1 rfl ?_
  refine k_iload_n hC 1 dL_add_3 rfl rfl ?_
  refine k_imulN hC dL_add_4 ?_
  refine k_aload_n hC 2 dL_add_5 rfl rfl ?_
  refine k_bipush hC (nI 15) dL_add_6 rfl ?_
  refine k_iload_n hC 1 dL_add_8 rfl rfl ?_
  refine k_imulN hC dL_add_9 ?_
  refine k_iload_n hC 3 dL_add_10 rfl rfl ?_
  refine k_iaddN hC dL_add_11 ?_
  refine k_ald hC 1 rfl (by omega) (by decide) dL_add_12 ?_
  refine k_topE (nI z9) hz ?_
  refine k_iaddN hC dL_add_13 ?_
  refine k_iload hC dL_add_14 rfl ?_
  refine k_ast hC 0 rfl (by omega) (by decide) dL_add_16 [kI K aR 60 (upd fR (20 * s9 + z9) v9), kI K aT 45 fT] rfl ?_
  refine k_aload_n hC 2 dL_add_17 rfl rfl ?_
  refine k_bipush hC (nI 15) dL_add_18 rfl ?_
  refine k_iload_n hC 1 dL_add_20 rfl rfl ?_
  refine k_imulN hC dL_add_21 ?_
  refine k_iload_n hC 3 dL_add_22 rfl rfl ?_
  refine k_iaddN hC dL_add_23 ?_
  refine k_dup2 hC dL_add_24 rfl rfl ?_
  refine k_ald hC 1 rfl (by omega) (by decide) dL_add_25 ?_
  refine k_topE (nI z9) hz ?_
  refine k_iconst hC (nI 1) dL_add_26 rfl ?_
  refine k_iaddN hC dL_add_27 ?_
  refine k_ast hC 1 rfl (by omega) (by decide) dL_add_28 [kI K aR 60 (upd fR (20 * s9 + z9) v9), kI K aT 45 (upd fT (15 * s9 + j9) (nI (z9 + 1)))] rfl ?_
  exact k_vret hC hE (Nat.le_of_ble_eq_true rfl) (Nat.le_of_ble_eq_true rfl) dL_add_29 ⟨rfl, rfl⟩
abbrev rmL_first : Room := { frames := 0, cells := 0, slots := 0, locals := 0 }
set_option maxRecDepth 100000 in
set_option maxHeartbeats 4000000 in
theorem cL_first_k (l : Launch) (K : kE) (aR aT : Nat) (fR fT : Nat → Int32) (s9 j9 : Nat) (x : Nat × Nat) (t : List (Nat × Nat)) (hs : s9 < 3) (hj : j9 < 15) (hz : fT (15 * s9 + j9) = nI (x :: t).length) (hl : (x :: t).length ≤ 20) (hK : mK (x :: t) (fun i => fR (20 * s9 + i))) : kM l yL_first (kws yL_first cL_first 6 (some .int)) rmL_first K [.ref aR, .int (nI s9), .ref aT, .int (nI j9)] [kI K aR 60 fR, kI K aT 45 fT] (fun v w => v = some (.int (nI (qv x))) ∧ ∃ f1 : Nat → Int32, w = [kI K aR 60 f1, kI K aT 45 (upd fT (15 * s9 + j9) (nI t.length))] ∧ mK t (fun i => f1 (20 * s9 + i)) ∧ qF s9 fR f1) := by
  refine kM_of (pl := []) (X := [kI K aR 60 fR, kI K aT 45 fT]) rfl (by decide) (Nat.le_of_ble_eq_true rfl) ?_
  intro p e s m args below meth cd A Q hC hnm hE
  refine k_eX (show _ = [kI K aR 60 fR, kI K aT 45 fT] from rfl) ?_
  have hl1 : (x :: t).length = t.length + 1 := rfl
  have e0 : fR (20 * s9) = nI (qv x) := hK 0 (by omega)
  refine k_aload_n hC 0 dL_first_0 rfl rfl ?_
  refine k_bipush hC (nI 20) dL_first_1 rfl ?_
  refine k_iload_n hC 1 dL_first_3 rfl rfl ?_
  refine k_imulN hC dL_first_4 ?_
  refine k_ald hC 0 rfl (by omega) (by decide) dL_first_5 ?_
  refine k_topE (nI (qv x)) e0 ?_
  refine k_istore hC dL_first_6 (by decide) rfl [(0, .ref aR), (1, .int (nI s9)), (2, .ref aT), (3, .int (nI j9)), (4, .int (nI (qv x)))] rfl ?_
  refine k_aload_n hC 2 dL_first_8 rfl rfl ?_
  refine k_bipush hC (nI 15) dL_first_9 rfl ?_
  refine k_iload_n hC 1 dL_first_11 rfl rfl ?_
  refine k_imulN hC dL_first_12 ?_
  refine k_iload_n hC 3 dL_first_13 rfl rfl ?_
  refine k_iaddN hC dL_first_14 ?_
  refine k_dup2 hC dL_first_15 rfl rfl ?_
  refine k_ald hC 1 rfl (by omega) (by decide) dL_first_16 ?_
  refine k_topE (nI ((x :: t).length)) hz ?_
  refine k_iconst hC (nI 1) dL_first_17 rfl ?_
  refine k_isubN hC dL_first_18 (by omega) ?_
  refine k_topE (nI t.length) rfl ?_
  refine k_ast hC 1 rfl (by omega) (by decide) dL_first_19 [kI K aR 60 fR, kI K aT 45 (upd fT (15 * s9 + j9) (nI t.length))] rfl ?_
  refine k_iconst hC (nI 0) dL_first_20 rfl ?_
  refine k_istore hC dL_first_21 (by decide) rfl [(0, .ref aR), (1, .int (nI s9)), (2, .ref aT), (3, .int (nI j9)), (4, .int (nI (qv x))), (5, .int (nI 0))] rfl ?_
  have loop : ∀ (n i : Nat) (f9 : Nat → Int32), n + i = t.length + 1 → i ≤ t.length → qSh (x :: t) i (fun j => f9 (20 * s9 + j)) → qF s9 fR f9 → kW p l e rmL_first s m args below meth cd K A 6 Q 0 0 ([]) [kI K aR 60 f9, kI K aT 45 (upd fT (15 * s9 + j9) (nI t.length))] [(0, .ref aR), (1, .int (nI s9)), (2, .ref aT), (3, .int (nI j9)), (4, .int (nI (qv x))), (5, .int (nI i))] 23 [] := by
    intro n
    induction n with
    | zero => intro i f9 h1 h2; exact absurd h1 (by omega)
    | succ n ih =>
      intro i f9 h1 h2 hsh ho
      refine k_iload hC dL_first_23 rfl ?_
      refine k_aload_n hC 2 dL_first_25 rfl rfl ?_
      refine k_bipush hC (nI 15) dL_first_26 rfl ?_
      refine k_iload_n hC 1 dL_first_28 rfl rfl ?_
      refine k_imulN hC dL_first_29 ?_
      refine k_iload_n hC 3 dL_first_30 rfl rfl ?_
      refine k_iaddN hC dL_first_31 ?_
      refine k_ald hC 1 rfl (by omega) (by decide) dL_first_32 ?_
      refine k_topE (nI t.length) pk_us ?_
      refine k_icmp_geN hC 62 dL_first_33 (by decide) (by omega) (by omega) (fun c1 => ?_) (fun c1 => ?_)
      · have e9 : i = t.length := by omega
        refine k_iload hC dL_first_62 rfl ?_
        exact k_iret hC hE (Nat.le_of_ble_eq_true rfl) (Nat.le_of_ble_eq_true rfl) dL_first_64 ⟨rfl, f9, rfl, qSh_end (e9 ▸ hsh), ho⟩
      · refine k_aload_n hC 0 dL_first_36 rfl rfl ?_
        refine k_bipush hC (nI 20) dL_first_37 rfl ?_
        refine k_iload_n hC 1 dL_first_39 rfl rfl ?_
        refine k_imulN hC dL_first_40 ?_
        refine k_iload hC dL_first_41 rfl ?_
        refine k_iaddN hC dL_first_43 ?_
        refine k_aload_n hC 0 dL_first_44 rfl rfl ?_
        refine k_bipush hC (nI 20) dL_first_45 rfl ?_
        refine k_iload_n hC 1 dL_first_47 rfl rfl ?_
        refine k_imulN hC dL_first_48 ?_
        refine k_iload hC dL_first_49 rfl ?_
        refine k_iaddN hC dL_first_51 ?_
        refine k_iconst hC (nI 1) dL_first_52 rfl ?_
        refine k_iaddN hC dL_first_53 ?_
        refine k_ald hC 0 rfl (by omega) (by decide) dL_first_54 ?_
        refine k_ast hC 0 rfl (by omega) (by decide) dL_first_55 [kI K aR 60 (upd f9 (20 * s9 + i) (f9 (20 * s9 + i + 1))), kI K aT 45 (upd fT (15 * s9 + j9) (nI t.length))] rfl ?_
        refine k_iinc hC dL_first_56 (by decide) rfl rfl (nI (i + 1)) (kinc i 1 rfl) [(0, .ref aR), (1, .int (nI s9)), (2, .ref aT), (3, .int (nI j9)), (4, .int (nI (qv x))), (5, .int (nI (i + 1)))] rfl ?_
        refine k_goto hC 23 dL_first_59 (by decide) ?_
        have hs2 := qSh_step hsh (by omega : i + 1 < (x :: t).length)
        rw [← qsh] at hs2
        exact ih (i + 1) _ (by omega) (by omega) hs2 (qF_tr ho (qF_up (by omega)))
  exact loop (t.length + 1) 0 fR (by omega) (by omega) (qSh_0 hK) qF_rf
abbrev rmL_take : Room := { frames := 1, cells := 0, slots := 0, locals := 25 }
set_option maxRecDepth 100000 in
set_option maxHeartbeats 4000000 in
theorem cL_take_k (l : Launch) (K : kE) (aR aT : Nat) (fR fT : Nat → Int32) (s9 j9 : Nat) (L : List (Nat × Nat)) (r : Bool) (wd : Int32) (g : Nat) (hs : s9 < 3) (hj : j9 < 15) (hz : fT (15 * s9 + j9) = nI L.length) (hl : L.length ≤ 20) (hK : mK L (fun i => fR (20 * s9 + i))) (hok : mOk L) (hw : (wd = nI g ∧ g < 2 ^ 31) ∨ (wd < 0 ∧ g = 0)) (hgU : g ≤ mU L) : kM l yL_take (kws yL_take cL_take 9 (some .int)) rmL_take K [.ref aR, .int (nI s9), .ref aT, .int (nI j9), .int wd, .int (kB r)] [kI K aR 60 fR, kI K aT 45 fT] (fun v w => v = some (.int (nI (mTake L g r).2)) ∧ ∃ f1 : Nat → Int32, w = [kI K aR 60 f1, kI K aT 45 (upd fT (15 * s9 + j9) (nI (mTake L g r).1.length))] ∧ mK (mTake L g r).1 (fun i => f1 (20 * s9 + i)) ∧ qF s9 fR f1) := by
  refine kM_of (pl := []) (X := [kI K aR 60 fR, kI K aT 45 fT]) rfl (by decide) (Nat.le_of_ble_eq_true rfl) ?_
  intro p e s m args below meth cd A Q hC hnm hE
  refine k_eX (show _ = [kI K aR 60 fR, kI K aT 45 fT] from rfl) ?_
  rcases hw with hw | hw
  · obtain ⟨rfl, hg31⟩ := hw
    refine k_iconst hC (nI 0) dL_take_0 rfl ?_
    refine k_istore hC dL_take_1 (by decide) rfl [(0, .ref aR), (1, .int (nI s9)), (2, .ref aT), (3, .int (nI j9)), (4, .int (nI g)), (5, .int (kB r)), (6, .int (nI 0))] rfl ?_
    refine k_iconst hC (nI 0) dL_take_3 rfl ?_
    refine k_istore hC dL_take_4 (by decide) rfl [(0, .ref aR), (1, .int (nI s9)), (2, .ref aT), (3, .int (nI j9)), (4, .int (nI g)), (5, .int (kB r)), (6, .int (nI 0)), (7, .int (nI 0))] rfl ?_
    have loop : ∀ (n k9 o : Nat) (L9 : List (Nat × Nat)) (f9 : Nat → Int32), k9 + n = g → n ≤ mU L9 → o ≤ k9 → L9.length ≤ 20 → mTake L g r = ((mTake L9 n r).1, o + (mTake L9 n r).2) → mK L9 (fun i => f9 (20 * s9 + i)) → mOk L9 → qF s9 fR f9 → kW p l e rmL_take s m args below meth cd K A 9 Q 0 0 ([]) [kI K aR 60 f9, kI K aT 45 (upd fT (15 * s9 + j9) (nI L9.length))] [(0, .ref aR), (1, .int (nI s9)), (2, .ref aT), (3, .int (nI j9)), (4, .int (nI g)), (5, .int (kB r)), (6, .int (nI o)), (7, .int (nI k9))] 6 [] := by
      intro n
      induction n with
      | zero =>
        intro k9 o L9 f9 h1 h2 h3 h4 h5 h6 h7 h8
        refine k_iload hC dL_take_6 rfl ?_
        refine k_iload hC dL_take_8 rfl ?_
        refine k_icmp_geN hC 76 dL_take_10 (by decide) (by omega) (by omega) (fun c1 => ?_) (fun c1 => ?_)
        · have h9 : mTake L g r = (L9, o) := by rw [h5, mTake_0]; rfl
          refine k_iload hC dL_take_76 rfl ?_
          exact k_iret hC hE (Nat.le_of_ble_eq_true rfl) (Nat.le_of_ble_eq_true rfl) dL_take_78 ⟨by rw [h9], f9, by rw [h9]; rfl, by rw [h9]; exact h6, h8⟩
        · exact absurd c1 (by omega)
      | succ n ih =>
        intro k9 o L9 f9 h1 h2 h3 h4 h5 h6 h7 h8
        rcases L9 with _ | ⟨x, t⟩
        · exact absurd h2 (by show ¬ n + 1 ≤ 0; omega)
        · obtain ⟨u, c⟩ := x
          have hlx : ((u, c) :: t).length = t.length + 1 := rfl
          have hx := mOk_1 h7 List.mem_cons_self
          have hU : mU ((u, c) :: t) = u + mU t := rfl
          have e0 : f9 (20 * s9) = nI (100 * c + u) := h6 0 (by omega)
          have hx1 : 1 ≤ u ∧ u ≤ 10 ∧ c ≤ 1 := hx
          refine k_iload hC dL_take_6 rfl ?_
          refine k_iload hC dL_take_8 rfl ?_
          refine k_icmp_geN hC 76 dL_take_10 (by decide) (by omega) (by omega) (fun c1 => ?_) (fun c1 => ?_)
          · exact absurd c1 (by omega)
          · refine k_aload_n hC 0 dL_take_13 rfl rfl ?_
            refine k_bipush hC (nI 20) dL_take_14 rfl ?_
            refine k_iload_n hC 1 dL_take_16 rfl rfl ?_
            refine k_imulN hC dL_take_17 ?_
            refine k_ald hC 0 rfl (by omega) (by decide) dL_take_18 ?_
            refine k_topE (nI (100 * c + u)) e0 ?_
            refine k_iconst hC (nI 1) dL_take_19 rfl ?_
            refine k_isubN hC dL_take_20 (by omega) ?_
            refine k_istore hC dL_take_21 (by decide) rfl [(0, .ref aR), (1, .int (nI s9)), (2, .ref aT), (3, .int (nI j9)), (4, .int (nI g)), (5, .int (kB r)), (6, .int (nI o)), (7, .int (nI k9)), (8, .int (nI ((100 * c + u) - 1)))] rfl ?_
            refine k_iload hC dL_take_23 rfl ?_
            refine k_bipush hC (nI 100) dL_take_25 rfl ?_
            refine k_icmp_ltN hC 49 dL_take_27 (by decide) (by omega) (by omega) (fun c2 => ?_) (fun c2 => ?_)
            · have hc0 : c = 0 := by omega
              refine k_aload_n hC 0 dL_take_49 rfl rfl ?_
              refine k_bipush hC (nI 20) dL_take_50 rfl ?_
              refine k_iload_n hC 1 dL_take_52 rfl rfl ?_
              refine k_imulN hC dL_take_53 ?_
              refine k_iload hC dL_take_54 rfl ?_
              refine k_topE (nI (qv (u - 1, 0))) (by unfold qv; congr 1; omega) ?_
              refine k_ast hC 0 rfl (by omega) (by decide) dL_take_56 [kI K aR 60 (upd f9 (20 * s9) (nI (qv (u - 1, 0)))), kI K aT 45 (upd fT (15 * s9 + j9) (nI (((u, c) :: t).length)))] rfl ?_
              refine k_iload hC dL_take_57 rfl ?_
              refine k_if_neN hC 70 dL_take_59 (by decide) (by omega) (fun c5 => ?_) (fun c5 => ?_)
              · have hu2 : 2 ≤ u := by omega
                refine k_iinc hC dL_take_70 (by decide) rfl rfl (nI (k9 + 1)) (kinc k9 1 rfl) [(0, .ref aR), (1, .int (nI s9)), (2, .ref aT), (3, .int (nI j9)), (4, .int (nI g)), (5, .int (kB r)), (6, .int (nI o)), (7, .int (nI (k9 + 1))), (8, .int (nI ((100 * c + u) - 1)))] rfl ?_
                refine k_goto hC 6 dL_take_73 (by decide) ?_
                refine k_lsub [0, 1, 2, 3, 4, 5, 6, 7] [(0, .ref aR), (1, .int (nI s9)), (2, .ref aT), (3, .int (nI j9)), (4, .int (nI g)), (5, .int (kB r)), (6, .int (nI o)), (7, .int (nI (k9 + 1)))] rfl ?_
                have ec : (if r = true then 0 else c) = 0 := (by cases r <;> simp [hc0])
                have eo : (if r = true then c else 0) = 0 := (by cases r <;> simp [hc0])
                have hm := mTake_more (x := (u, c)) (t := t) (n := n) (r := r) hu2
                rw [show ((u, c) : Nat × Nat).1 - 1 = u - 1 from rfl, show ((u, c) : Nat × Nat).2 = c from rfl, ec, eo] at hm
                exact ih (k9 + 1) o ((u - 1, 0) :: t) _ (by omega) (by show n ≤ u - 1 + mU t; omega) (by omega) (by show t.length + 1 ≤ 20; omega) (by have h10 := h5; rw [hm] at h10; exact h10.trans (Prod.ext rfl (by show _ + (_ + _) = _ + _; omega))) (mK_headS (u - 1, 0) h6) ⟨by show 1 ≤ u - 1; omega, by show u - 1 ≤ 10; omega, Nat.zero_le 1, h7.2.2.2⟩ (qF_tr h8 qF_up0)
              · have hu1 : u = 1 := by omega
                refine k_aload_n hC 0 dL_take_62 rfl rfl ?_
                refine k_iload_n hC 1 dL_take_63 rfl rfl ?_
                refine k_aload_n hC 2 dL_take_64 rfl rfl ?_
                refine k_iload_n hC 3 dL_take_65 rfl rfl ?_
                refine k_callS hC (As := [.ref aR, .int (nI s9), .ref aT, .int (nI j9)]) (cL_first_k l K aR aT (upd f9 (20 * s9) (nI (qv (u - 1, 0)))) (upd fT (15 * s9 + j9) (nI (((u, c) :: t).length))) s9 j9 (u - 1, 0) t hs hj pk_us (by omega) (mK_headS (u - 1, 0) h6)) [] rfl (kAll4 lkM_L_10 lkT_yL_first lkN_L lkC_yL_first) 4 (by decide) ⟨(Nat.le_of_ble_eq_true rfl), (Nat.le_of_ble_eq_true rfl)⟩ rfl rfl (Nat.le_of_ble_eq_true rfl) ⟨(Nat.le_of_ble_eq_true rfl), (Nat.le_of_ble_eq_true rfl)⟩ dL_take_66 (fun v w h => ?_)
                obtain ⟨rfl, f2, rfl, hK2, hF2⟩ := h
                refine k_re 0 0 [kI K aR 60 f2, kI K aT 45 (upd (upd fT (15 * s9 + j9) (nI (((u, c) :: t).length))) (15 * s9 + j9) (nI t.length))] [.int (nI (qv (u - 1, 0)))] rfl rfl rfl rfl ?_
                refine k_pop hC dL_take_69 rfl ?_
                refine k_eX (show _ = [kI K aR 60 f2, kI K aT 45 (upd fT (15 * s9 + j9) (nI t.length))] by rw [qup2]) ?_
                refine k_iinc hC dL_take_70 (by decide) rfl rfl (nI (k9 + 1)) (kinc k9 1 rfl) [(0, .ref aR), (1, .int (nI s9)), (2, .ref aT), (3, .int (nI j9)), (4, .int (nI g)), (5, .int (kB r)), (6, .int (nI o)), (7, .int (nI (k9 + 1))), (8, .int (nI ((100 * c + u) - 1)))] rfl ?_
                refine k_goto hC 6 dL_take_73 (by decide) ?_
                refine k_lsub [0, 1, 2, 3, 4, 5, 6, 7] [(0, .ref aR), (1, .int (nI s9)), (2, .ref aT), (3, .int (nI j9)), (4, .int (nI g)), (5, .int (kB r)), (6, .int (nI o)), (7, .int (nI (k9 + 1)))] rfl ?_
                have hm := mTake_one (x := (u, c)) (t := t) (n := n) (r := r) hu1
                exact ih (k9 + 1) o t f2 (by omega) (by omega) (by omega) (by omega) (by have h10 := h5; rw [hm] at h10; exact h10.trans (Prod.ext rfl (by show _ + (_ + c) = _ + _; omega))) hK2 (mOk_tail h7) (qF_tr h8 (qF_tr qF_up0 hF2))
            · have hc1 : c = 1 := by omega
              refine k_iload hC dL_take_30 rfl ?_
              refine k_topE (kB r) rfl ?_
              refine k_iconst hC (nI 1) dL_take_32 rfl ?_
              refine k_icmp_eq hC 43 dL_take_33 (by decide) (fun c3 => ?_) (fun c3 => ?_)
              · have hr : r = true := kB_1.mp c3
                refine k_iinc hC dL_take_43 (by decide) rfl rfl (nI (u - 1)) (by rw [show Int32.ofInt (-100) = -(nI 100) from rfl, ← Int32.sub_eq_add_neg, pk_sub (by omega)]; congr 1; omega) [(0, .ref aR), (1, .int (nI s9)), (2, .ref aT), (3, .int (nI j9)), (4, .int (nI g)), (5, .int (kB r)), (6, .int (nI o)), (7, .int (nI k9)), (8, .int (nI (u - 1)))] rfl ?_
                refine k_iinc hC dL_take_46 (by decide) rfl rfl (nI (o + 1)) (kinc o 1 rfl) [(0, .ref aR), (1, .int (nI s9)), (2, .ref aT), (3, .int (nI j9)), (4, .int (nI g)), (5, .int (kB r)), (6, .int (nI (o + 1))), (7, .int (nI k9)), (8, .int (nI (u - 1)))] rfl ?_
                refine k_aload_n hC 0 dL_take_49 rfl rfl ?_
                refine k_bipush hC (nI 20) dL_take_50 rfl ?_
                refine k_iload_n hC 1 dL_take_52 rfl rfl ?_
                refine k_imulN hC dL_take_53 ?_
                refine k_iload hC dL_take_54 rfl ?_
                refine k_topE (nI (qv (u - 1, 0))) (by unfold qv; congr 1; omega) ?_
                refine k_ast hC 0 rfl (by omega) (by decide) dL_take_56 [kI K aR 60 (upd f9 (20 * s9) (nI (qv (u - 1, 0)))), kI K aT 45 (upd fT (15 * s9 + j9) (nI (((u, c) :: t).length)))] rfl ?_
                refine k_iload hC dL_take_57 rfl ?_
                refine k_if_neN hC 70 dL_take_59 (by decide) (by omega) (fun c5 => ?_) (fun c5 => ?_)
                · have hu2 : 2 ≤ u := by omega
                  refine k_iinc hC dL_take_70 (by decide) rfl rfl (nI (k9 + 1)) (kinc k9 1 rfl) [(0, .ref aR), (1, .int (nI s9)), (2, .ref aT), (3, .int (nI j9)), (4, .int (nI g)), (5, .int (kB r)), (6, .int (nI (o + 1))), (7, .int (nI (k9 + 1))), (8, .int (nI (u - 1)))] rfl ?_
                  refine k_goto hC 6 dL_take_73 (by decide) ?_
                  refine k_lsub [0, 1, 2, 3, 4, 5, 6, 7] [(0, .ref aR), (1, .int (nI s9)), (2, .ref aT), (3, .int (nI j9)), (4, .int (nI g)), (5, .int (kB r)), (6, .int (nI (o + 1))), (7, .int (nI (k9 + 1)))] rfl ?_
                  have ec : (if r = true then 0 else c) = 0 := (by simp [hr])
                  have eo : (if r = true then c else 0) = 1 := (by simp [hr, hc1])
                  have hm := mTake_more (x := (u, c)) (t := t) (n := n) (r := r) hu2
                  rw [show ((u, c) : Nat × Nat).1 - 1 = u - 1 from rfl, show ((u, c) : Nat × Nat).2 = c from rfl, ec, eo] at hm
                  exact ih (k9 + 1) (o + 1) ((u - 1, 0) :: t) _ (by omega) (by show n ≤ u - 1 + mU t; omega) (by omega) (by show t.length + 1 ≤ 20; omega) (by have h10 := h5; rw [hm] at h10; exact h10.trans (Prod.ext rfl (by show _ + (_ + _) = _ + _; omega))) (mK_headS (u - 1, 0) h6) ⟨by show 1 ≤ u - 1; omega, by show u - 1 ≤ 10; omega, Nat.zero_le 1, h7.2.2.2⟩ (qF_tr h8 qF_up0)
                · have hu1 : u = 1 := by omega
                  refine k_aload_n hC 0 dL_take_62 rfl rfl ?_
                  refine k_iload_n hC 1 dL_take_63 rfl rfl ?_
                  refine k_aload_n hC 2 dL_take_64 rfl rfl ?_
                  refine k_iload_n hC 3 dL_take_65 rfl rfl ?_
                  refine k_callS hC (As := [.ref aR, .int (nI s9), .ref aT, .int (nI j9)]) (cL_first_k l K aR aT (upd f9 (20 * s9) (nI (qv (u - 1, 0)))) (upd fT (15 * s9 + j9) (nI (((u, c) :: t).length))) s9 j9 (u - 1, 0) t hs hj pk_us (by omega) (mK_headS (u - 1, 0) h6)) [] rfl (kAll4 lkM_L_10 lkT_yL_first lkN_L lkC_yL_first) 4 (by decide) ⟨(Nat.le_of_ble_eq_true rfl), (Nat.le_of_ble_eq_true rfl)⟩ rfl rfl (Nat.le_of_ble_eq_true rfl) ⟨(Nat.le_of_ble_eq_true rfl), (Nat.le_of_ble_eq_true rfl)⟩ dL_take_66 (fun v w h => ?_)
                  obtain ⟨rfl, f2, rfl, hK2, hF2⟩ := h
                  refine k_re 0 0 [kI K aR 60 f2, kI K aT 45 (upd (upd fT (15 * s9 + j9) (nI (((u, c) :: t).length))) (15 * s9 + j9) (nI t.length))] [.int (nI (qv (u - 1, 0)))] rfl rfl rfl rfl ?_
                  refine k_pop hC dL_take_69 rfl ?_
                  refine k_eX (show _ = [kI K aR 60 f2, kI K aT 45 (upd fT (15 * s9 + j9) (nI t.length))] by rw [qup2]) ?_
                  refine k_iinc hC dL_take_70 (by decide) rfl rfl (nI (k9 + 1)) (kinc k9 1 rfl) [(0, .ref aR), (1, .int (nI s9)), (2, .ref aT), (3, .int (nI j9)), (4, .int (nI g)), (5, .int (kB r)), (6, .int (nI (o + 1))), (7, .int (nI (k9 + 1))), (8, .int (nI (u - 1)))] rfl ?_
                  refine k_goto hC 6 dL_take_73 (by decide) ?_
                  refine k_lsub [0, 1, 2, 3, 4, 5, 6, 7] [(0, .ref aR), (1, .int (nI s9)), (2, .ref aT), (3, .int (nI j9)), (4, .int (nI g)), (5, .int (kB r)), (6, .int (nI (o + 1))), (7, .int (nI (k9 + 1)))] rfl ?_
                  have hm := mTake_one (x := (u, c)) (t := t) (n := n) (r := r) hu1
                  exact ih (k9 + 1) (o + 1) t f2 (by omega) (by omega) (by omega) (by omega) (by have h10 := h5; rw [hm] at h10; exact h10.trans (Prod.ext rfl (by show _ + (_ + c) = _ + _; omega))) hK2 (mOk_tail h7) (qF_tr h8 (qF_tr qF_up0 hF2))
              · have hr : r = false := by
                  cases r with
                  | false => rfl
                  | true => exact absurd rfl c3
                refine k_iload hC dL_take_36 rfl ?_
                refine k_bipush hC (nI 100) dL_take_38 rfl ?_
                refine k_icmp_neN hC 49 dL_take_40 (by decide) (by omega) (by omega) (fun c4 => ?_) (fun c4 => ?_)
                · have hu2 : 2 ≤ u := by omega
                  refine k_aload_n hC 0 dL_take_49 rfl rfl ?_
                  refine k_bipush hC (nI 20) dL_take_50 rfl ?_
                  refine k_iload_n hC 1 dL_take_52 rfl rfl ?_
                  refine k_imulN hC dL_take_53 ?_
                  refine k_iload hC dL_take_54 rfl ?_
                  refine k_topE (nI (qv (u - 1, 1))) (by unfold qv; congr 1; omega) ?_
                  refine k_ast hC 0 rfl (by omega) (by decide) dL_take_56 [kI K aR 60 (upd f9 (20 * s9) (nI (qv (u - 1, 1)))), kI K aT 45 (upd fT (15 * s9 + j9) (nI (((u, c) :: t).length)))] rfl ?_
                  refine k_iload hC dL_take_57 rfl ?_
                  refine k_if_neN hC 70 dL_take_59 (by decide) (by omega) (fun c5 => ?_) (fun c5 => ?_)
                  · have hu2 : 2 ≤ u := by omega
                    refine k_iinc hC dL_take_70 (by decide) rfl rfl (nI (k9 + 1)) (kinc k9 1 rfl) [(0, .ref aR), (1, .int (nI s9)), (2, .ref aT), (3, .int (nI j9)), (4, .int (nI g)), (5, .int (kB r)), (6, .int (nI o)), (7, .int (nI (k9 + 1))), (8, .int (nI ((100 * c + u) - 1)))] rfl ?_
                    refine k_goto hC 6 dL_take_73 (by decide) ?_
                    refine k_lsub [0, 1, 2, 3, 4, 5, 6, 7] [(0, .ref aR), (1, .int (nI s9)), (2, .ref aT), (3, .int (nI j9)), (4, .int (nI g)), (5, .int (kB r)), (6, .int (nI o)), (7, .int (nI (k9 + 1)))] rfl ?_
                    have ec : (if r = true then 0 else c) = 1 := (by simp [hr, hc1])
                    have eo : (if r = true then c else 0) = 0 := (by simp [hr])
                    have hm := mTake_more (x := (u, c)) (t := t) (n := n) (r := r) hu2
                    rw [show ((u, c) : Nat × Nat).1 - 1 = u - 1 from rfl, show ((u, c) : Nat × Nat).2 = c from rfl, ec, eo] at hm
                    exact ih (k9 + 1) o ((u - 1, 1) :: t) _ (by omega) (by show n ≤ u - 1 + mU t; omega) (by omega) (by show t.length + 1 ≤ 20; omega) (by have h10 := h5; rw [hm] at h10; exact h10.trans (Prod.ext rfl (by show _ + (_ + _) = _ + _; omega))) (mK_headS (u - 1, 1) h6) ⟨by show 1 ≤ u - 1; omega, by show u - 1 ≤ 10; omega, Nat.le_refl 1, h7.2.2.2⟩ (qF_tr h8 qF_up0)
                  · exact absurd c5 (by omega)
                · have hu1 : u = 1 := by omega
                  refine k_iinc hC dL_take_43 (by decide) rfl rfl (nI (u - 1)) (by rw [show Int32.ofInt (-100) = -(nI 100) from rfl, ← Int32.sub_eq_add_neg, pk_sub (by omega)]; congr 1; omega) [(0, .ref aR), (1, .int (nI s9)), (2, .ref aT), (3, .int (nI j9)), (4, .int (nI g)), (5, .int (kB r)), (6, .int (nI o)), (7, .int (nI k9)), (8, .int (nI (u - 1)))] rfl ?_
                  refine k_iinc hC dL_take_46 (by decide) rfl rfl (nI (o + 1)) (kinc o 1 rfl) [(0, .ref aR), (1, .int (nI s9)), (2, .ref aT), (3, .int (nI j9)), (4, .int (nI g)), (5, .int (kB r)), (6, .int (nI (o + 1))), (7, .int (nI k9)), (8, .int (nI (u - 1)))] rfl ?_
                  refine k_aload_n hC 0 dL_take_49 rfl rfl ?_
                  refine k_bipush hC (nI 20) dL_take_50 rfl ?_
                  refine k_iload_n hC 1 dL_take_52 rfl rfl ?_
                  refine k_imulN hC dL_take_53 ?_
                  refine k_iload hC dL_take_54 rfl ?_
                  refine k_topE (nI (qv (u - 1, 0))) (by unfold qv; congr 1; omega) ?_
                  refine k_ast hC 0 rfl (by omega) (by decide) dL_take_56 [kI K aR 60 (upd f9 (20 * s9) (nI (qv (u - 1, 0)))), kI K aT 45 (upd fT (15 * s9 + j9) (nI (((u, c) :: t).length)))] rfl ?_
                  refine k_iload hC dL_take_57 rfl ?_
                  refine k_if_neN hC 70 dL_take_59 (by decide) (by omega) (fun c5 => ?_) (fun c5 => ?_)
                  · have hu2 : 2 ≤ u := by omega
                    exact absurd hu1 (by omega)
                  · skip
                    refine k_aload_n hC 0 dL_take_62 rfl rfl ?_
                    refine k_iload_n hC 1 dL_take_63 rfl rfl ?_
                    refine k_aload_n hC 2 dL_take_64 rfl rfl ?_
                    refine k_iload_n hC 3 dL_take_65 rfl rfl ?_
                    refine k_callS hC (As := [.ref aR, .int (nI s9), .ref aT, .int (nI j9)]) (cL_first_k l K aR aT (upd f9 (20 * s9) (nI (qv (u - 1, 0)))) (upd fT (15 * s9 + j9) (nI (((u, c) :: t).length))) s9 j9 (u - 1, 0) t hs hj pk_us (by omega) (mK_headS (u - 1, 0) h6)) [] rfl (kAll4 lkM_L_10 lkT_yL_first lkN_L lkC_yL_first) 4 (by decide) ⟨(Nat.le_of_ble_eq_true rfl), (Nat.le_of_ble_eq_true rfl)⟩ rfl rfl (Nat.le_of_ble_eq_true rfl) ⟨(Nat.le_of_ble_eq_true rfl), (Nat.le_of_ble_eq_true rfl)⟩ dL_take_66 (fun v w h => ?_)
                    obtain ⟨rfl, f2, rfl, hK2, hF2⟩ := h
                    refine k_re 0 0 [kI K aR 60 f2, kI K aT 45 (upd (upd fT (15 * s9 + j9) (nI (((u, c) :: t).length))) (15 * s9 + j9) (nI t.length))] [.int (nI (qv (u - 1, 0)))] rfl rfl rfl rfl ?_
                    refine k_pop hC dL_take_69 rfl ?_
                    refine k_eX (show _ = [kI K aR 60 f2, kI K aT 45 (upd fT (15 * s9 + j9) (nI t.length))] by rw [qup2]) ?_
                    refine k_iinc hC dL_take_70 (by decide) rfl rfl (nI (k9 + 1)) (kinc k9 1 rfl) [(0, .ref aR), (1, .int (nI s9)), (2, .ref aT), (3, .int (nI j9)), (4, .int (nI g)), (5, .int (kB r)), (6, .int (nI (o + 1))), (7, .int (nI (k9 + 1))), (8, .int (nI (u - 1)))] rfl ?_
                    refine k_goto hC 6 dL_take_73 (by decide) ?_
                    refine k_lsub [0, 1, 2, 3, 4, 5, 6, 7] [(0, .ref aR), (1, .int (nI s9)), (2, .ref aT), (3, .int (nI j9)), (4, .int (nI g)), (5, .int (kB r)), (6, .int (nI (o + 1))), (7, .int (nI (k9 + 1)))] rfl ?_
                    have hm := mTake_one (x := (u, c)) (t := t) (n := n) (r := r) hu1
                    exact ih (k9 + 1) (o + 1) t f2 (by omega) (by omega) (by omega) (by omega) (by have h10 := h5; rw [hm] at h10; exact h10.trans (Prod.ext rfl (by show _ + (_ + c) = _ + _; omega))) hK2 (mOk_tail h7) (qF_tr h8 (qF_tr qF_up0 hF2))
    refine k_eX (show _ = [kI K aR 60 fR, kI K aT 45 (upd fT (15 * s9 + j9) (nI L.length))] by rw [qupid hz]) ?_
    exact loop g 0 0 L fR (by omega) hgU (by omega) hl (by rw [Nat.zero_add]) hK hok qF_rf
  · obtain ⟨hw1, rfl⟩ := hw
    refine k_iconst hC (nI 0) dL_take_0 rfl ?_
    refine k_istore hC dL_take_1 (by decide) rfl [(0, .ref aR), (1, .int (nI s9)), (2, .ref aT), (3, .int (nI j9)), (4, .int wd), (5, .int (kB r)), (6, .int (nI 0))] rfl ?_
    refine k_iconst hC (nI 0) dL_take_3 rfl ?_
    refine k_istore hC dL_take_4 (by decide) rfl [(0, .ref aR), (1, .int (nI s9)), (2, .ref aT), (3, .int (nI j9)), (4, .int wd), (5, .int (kB r)), (6, .int (nI 0)), (7, .int (nI 0))] rfl ?_
    refine k_iload hC dL_take_6 rfl ?_
    refine k_iload hC dL_take_8 rfl ?_
    refine k_icmp_ge hC 76 dL_take_10 (by decide) (fun c1 => ?_) (fun c1 => ?_)
    · refine k_iload hC dL_take_76 rfl ?_
      exact k_iret hC hE (Nat.le_of_ble_eq_true rfl) (Nat.le_of_ble_eq_true rfl) dL_take_78 ⟨by rw [mTake_0], fR, by rw [mTake_0, qupid hz]; rfl, by rw [mTake_0]; exact hK, qF_rf⟩
    · exact absurd (Int32.le_of_lt hw1) c1
