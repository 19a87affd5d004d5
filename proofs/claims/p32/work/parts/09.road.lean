/-! Road: its worlds and contracts -/
abbrev wRd (K : kE) (a0 a1 a2 : Nat) (u s : Nat → Int32) (z : Nat) : va_W := [kO a0 0 [.ref a1, .ref a2, .int (nI z)], kI K a1 5 u, kI K a2 5 s]
def mStay : List (Nat × Nat) → List (Nat × Nat)
  | [] => []
  | x :: t => if 1 < x.2 then (x.1, x.2 - 1) :: mStay t else mStay t
def mArr : List (Nat × Nat) → List (Nat × Nat)
  | [] => []
  | x :: t => if 1 < x.2 then mArr t else (x.1, 1) :: mArr t
theorem mStay_len (R : List (Nat × Nat)) : (mStay R).length + (mArr R).length = R.length := by
  induction R with
  | nil => rfl
  | cons x t ih =>
    unfold mStay mArr
    split <;> (simp only [List.length_cons]; omega)
theorem mStay_app (a b : List (Nat × Nat)) : mStay (a ++ b) = mStay a ++ mStay b := by
  induction a with
  | nil => rfl
  | cons x t ih =>
    simp only [List.cons_append, mStay, ih]
    split <;> rfl
theorem mArr_app (a b : List (Nat × Nat)) : mArr (a ++ b) = mArr a ++ mArr b := by
  induction a with
  | nil => rfl
  | cons x t ih =>
    simp only [List.cons_append, mArr, ih]
    split <;> rfl
theorem mtake_succ {R : List (Nat × Nat)} {i : Nat} (h : i < R.length) : R.take (i + 1) = R.take i ++ [mg R i] := by
  unfold mg
  rw [List.getD_eq_getElem?_getD, List.getElem?_eq_getElem h, List.take_succ_eq_append_getElem h]
  rfl
theorem mStay_t {R : List (Nat × Nat)} {i : Nat} (h : i < R.length) (h2 : 1 < (mg R i).2) : mStay (R.take (i + 1)) = mStay (R.take i) ++ [((mg R i).1, (mg R i).2 - 1)] ∧ mArr (R.take (i + 1)) = mArr (R.take i) := by
  rw [mtake_succ h, mStay_app, mArr_app]
  simp [mStay, mArr, h2]
theorem mStay_f {R : List (Nat × Nat)} {i : Nat} (h : i < R.length) (h2 : ¬ 1 < (mg R i).2) : mStay (R.take (i + 1)) = mStay (R.take i) ∧ mArr (R.take (i + 1)) = mArr (R.take i) ++ [((mg R i).1, 1)] := by
  rw [mtake_succ h, mStay_app, mArr_app]
  simp [mStay, mArr, h2]
theorem mStay_le {R : List (Nat × Nat)} {i : Nat} (h : i ≤ R.length) : (mStay (R.take i)).length + (mArr (R.take i)).length = i := by
  rw [mStay_len, List.length_take]; omega
/-- the row while its containers are looked at: ahead those that stay, from i on those of before -/
def mBr (R : List (Nat × Nat)) (i : Nat) (u s : Nat → Int32) : Prop := mR (mStay (R.take i)) u s ∧ ∀ j : Nat, i ≤ j → j < R.length → u j = nI (mg R j).1 ∧ s j = nI (mg R j).2
theorem mBr_0 {R : List (Nat × Nat)} {u s : Nat → Int32} (h : mR R u s) : mBr R 0 u s := ⟨mR_nil, fun j _ hj => h j hj⟩
theorem mBr_end {R : List (Nat × Nat)} {u s : Nat → Int32} (h : mBr R R.length u s) : mR (mStay R) u s := by
  have := h.1
  rw [List.take_length] at this
  exact this
theorem mBr_t {R : List (Nat × Nat)} {i : Nat} {u s : Nat → Int32} (h : mBr R i u s) (hi : i < R.length) (h2 : 1 < (mg R i).2) : mBr R (i + 1) (upd u (mStay (R.take i)).length (nI (mg R i).1)) (upd s (mStay (R.take i)).length (nI ((mg R i).2 - 1))) := by
  refine ⟨?_, fun j h3 h4 => ?_⟩
  · rw [(mStay_t hi h2).1]
    exact mR_snoc h.1
  · have h5 := mStay_le (Nat.le_of_lt hi)
    have h6 := h.2 j (by omega) h4
    unfold upd
    rw [if_neg (by omega), if_neg (by omega)]
    exact h6
theorem mBr_f {R : List (Nat × Nat)} {i : Nat} {u s : Nat → Int32} (h : mBr R i u s) (hi : i < R.length) (h2 : ¬ 1 < (mg R i).2) : mBr R (i + 1) u s := by
  refine ⟨?_, fun j h3 h4 => h.2 j (by omega) h4⟩
  rw [(mStay_f hi h2).1]
  exact h.1
abbrev rmX0_init : Room := { frames := 1, cells := 2, slots := 10, locals := 30 }
set_option maxRecDepth 100000 in
set_option maxHeartbeats 4000000 in
theorem cX0_init_k (l : Launch) (K : kE) (a0 : Nat) : kM l yX0_init (kws yX0_init cX0_init 1 none) rmX0_init K [.ref a0] [kO a0 0 [.null, .null, .int (nI 0)]] (fun v w => v = none ∧ ∃ (a1 a2 : Nat) (u2 s2 : Nat → Int32), w = wRd K a0 a1 a2 u2 s2 0) := by
  refine kM_of (pl := []) (X := [kO a0 0 [.null, .null, .int (nI 0)]]) rfl (by decide) (Nat.le_of_ble_eq_true rfl) ?_
  intro p e s m args below meth cd A Q hC hnm hE
  refine k_eX (show _ = [kO a0 0 [.null, .null, .int (nI 0)]] from rfl) ?_
  refine k_aload_n hC 0 dX0_init_0 rfl rfl ?_
  refine k_objInit hC lkM_X0_3 lkI_objectInit lkC_objectInit dX0_init_1 (Nat.le_of_ble_eq_true rfl) (Nat.le_of_ble_eq_true rfl) ?_
  refine k_aload_n hC 0 dX0_init_4 rfl rfl ?_
  refine k_iconst hC (nI 5) dX0_init_5 rfl ?_
  refine k_newI hC 5 rfl (by decide) (Nat.le_of_ble_eq_true rfl) (Nat.le_of_ble_eq_true rfl) lkA_int dX0_init_6 (fun q1 => ?_)
  refine k_eX (show _ = [kO a0 0 [.null, .null, .int (nI 0)], kI K q1 5 ((fun _ => 0))] from rfl) ?_
  refine k_putF hC hnm inlX0 tyX0_ok nmX0 0 0 rfl rfl (by decide) lkF_X0_9 rfl rfl rfl rfl (Nat.le_of_ble_eq_true rfl) dX0_init_8 [kO a0 0 [.ref q1, .null, .int (nI 0)], kI K q1 5 ((fun _ => 0))] rfl ?_
  refine k_aload_n hC 0 dX0_init_11 rfl rfl ?_
  refine k_iconst hC (nI 5) dX0_init_12 rfl ?_
  refine k_newI hC 5 rfl (by decide) (Nat.le_of_ble_eq_true rfl) (Nat.le_of_ble_eq_true rfl) lkA_int dX0_init_13 (fun q2 => ?_)
  refine k_eX (show _ = [kO a0 0 [.ref q1, .null, .int (nI 0)], kI K q1 5 ((fun _ => 0)), kI K q2 5 ((fun _ => 0))] from rfl) ?_
  refine k_putF hC hnm inlX0 tyX0_ok nmX0 0 1 rfl rfl (by decide) lkF_X0_15 rfl rfl rfl rfl (Nat.le_of_ble_eq_true rfl) dX0_init_15 [kO a0 0 [.ref q1, .ref q2, .int (nI 0)], kI K q1 5 ((fun _ => 0)), kI K q2 5 ((fun _ => 0))] rfl ?_
  refine k_aload_n hC 0 dX0_init_18 rfl rfl ?_
  refine k_iconst hC (nI 0) dX0_init_19 rfl ?_
  refine k_put hC inlX0 tyX0_ok nmX0 0 2 rfl rfl (by decide) lkF_X0_18 rfl rfl rfl (Nat.le_of_ble_eq_true rfl) dX0_init_20 [kO a0 0 [.ref q1, .ref q2, .int (nI 0)], kI K q1 5 ((fun _ => 0)), kI K q2 5 ((fun _ => 0))] rfl ?_
  exact k_vret hC hE (Nat.le_of_ble_eq_true rfl) (Nat.le_of_ble_eq_true rfl) dX0_init_23 ⟨rfl, q1, q2, _, _, rfl⟩
abbrev rmX0_allUnits : Room := { frames := 0, cells := 0, slots := 0, locals := 0 }
set_option maxRecDepth 100000 in
set_option maxHeartbeats 4000000 in
theorem cX0_allUnits_k (l : Launch) (K : kE) (a0 a1 a2 : Nat) (u sp : Nat → Int32) (R : List (Nat × Nat)) (hL : R.length ≤ 5) (hR : mR R u sp) : kM l yX0_allUnits (kws yX0_allUnits cX0_allUnits 3 (some .int)) rmX0_allUnits K [.ref a0] (wRd K a0 a1 a2 u sp R.length) (fun v w => v = some (.int (nI (mU R))) ∧ w = wRd K a0 a1 a2 u sp R.length) := by
  refine kM_of (pl := []) (X := (wRd K a0 a1 a2 u sp R.length)) rfl (by decide) (Nat.le_of_ble_eq_true rfl) ?_
  intro p e s m args below meth cd A Q hC hnm hE
  refine k_eX (show _ = [kO a0 0 [.ref a1, .ref a2, .int (nI R.length)], kI K a1 5 u, kI K a2 5 sp] from rfl) ?_
  refine k_iconst hC (nI 0) dX0_allUnits_0 rfl ?_
  refine k_istore_n hC 1 dX0_allUnits_1 rfl (by decide) rfl [(0, .ref a0), (1, .int (nI 0))] rfl ?_
  refine k_iconst hC (nI 0) dX0_allUnits_2 rfl ?_
  refine k_istore_n hC 2 dX0_allUnits_3 rfl (by decide) rfl [(0, .ref a0), (1, .int (nI 0)), (2, .int (nI 0))] rfl ?_
  have loop : ∀ (n i sm : Nat), n + i = R.length + 1 → i ≤ R.length → sm = mU (R.take i) → kW p l e rmX0_allUnits s m args below meth cd K A 3 Q 0 0 ([]) [kO a0 0 [.ref a1, .ref a2, .int (nI R.length)], kI K a1 5 u, kI K a2 5 sp] [(0, .ref a0), (1, .int (nI sm)), (2, .int (nI i))] 4 [] := by
    intro n
    induction n with
    | zero => intro i sm h1 h2; exact absurd h1 (by omega)
    | succ n ih =>
      intro i sm h1 h2 hs
      refine k_iload_n hC 2 dX0_allUnits_4 rfl rfl ?_
      refine k_aload_n hC 0 dX0_allUnits_5 rfl rfl ?_
      refine k_get hC inlX0 0 2 rfl rfl (by decide) lkF_X0_18 rfl dX0_allUnits_6 ?_
      refine k_icmp_geN hC 32 dX0_allUnits_9 (by decide) (by omega) (by omega) (fun c1 => ?_) (fun c1 => ?_)
      · refine k_iload_n hC 1 dX0_allUnits_32 rfl rfl ?_
        exact k_iret hC hE (Nat.le_of_ble_eq_true rfl) (Nat.le_of_ble_eq_true rfl) dX0_allUnits_33 ⟨by rw [hs, show i = R.length by omega, List.take_length], rfl⟩
      · refine k_iload_n hC 2 dX0_allUnits_12 rfl rfl ?_
        refine k_iconst hC (nI 5) dX0_allUnits_13 rfl ?_
        refine k_icmp_geN hC 32 dX0_allUnits_14 (by decide) (by omega) (by omega) (fun c2 => ?_) (fun c2 => ?_)
        · exact absurd c2 (by omega)
        · have hi : i < R.length := by omega
          refine k_iload_n hC 1 dX0_allUnits_17 rfl rfl ?_
          refine k_aload_n hC 0 dX0_allUnits_18 rfl rfl ?_
          refine k_get hC inlX0 0 0 rfl rfl (by decide) lkF_X0_9 rfl dX0_allUnits_19 ?_
          refine k_iload_n hC 2 dX0_allUnits_22 rfl rfl ?_
          refine k_ald hC 1 rfl (by omega) (by decide) dX0_allUnits_23 ?_
          refine k_topE (nI ((mg R i).1)) (hR i hi).1 ?_
          refine k_iaddN hC dX0_allUnits_24 ?_
          refine k_istore_n hC 1 dX0_allUnits_25 rfl (by decide) rfl [(0, .ref a0), (1, .int (nI (sm + ((mg R i).1)))), (2, .int (nI i))] rfl ?_
          refine k_iinc hC dX0_allUnits_26 (by decide) rfl rfl (nI (i + 1)) (kinc i 1 rfl) [(0, .ref a0), (1, .int (nI (sm + ((mg R i).1)))), (2, .int (nI (i + 1)))] rfl ?_
          refine k_goto hC 4 dX0_allUnits_29 (by decide) ?_
          exact ih (i + 1) _ (by omega) (by omega) (by rw [mU_take hi, hs])
  exact loop (R.length + 1) 0 0 (by omega) (by omega) rfl
abbrev rmX0_add : Room := { frames := 0, cells := 0, slots := 0, locals := 0 }
set_option maxRecDepth 100000 in
set_option maxHeartbeats 4000000 in
theorem cX0_add_k (l : Launch) (K : kE) (a0 a1 a2 : Nat) (u sp : Nat → Int32) (R : List (Nat × Nat)) (x y : Nat) (hL : R.length < 5) (hR : mR R u sp) : kM l yX0_add (kws yX0_add cX0_add 3 none) rmX0_add K [.ref a0, .int (nI x), .int (nI y)] (wRd K a0 a1 a2 u sp R.length) (fun v w => v = none ∧ ∃ u2 s2 : Nat → Int32, w = wRd K a0 a1 a2 u2 s2 (R ++ [(x, y)]).length ∧ mR (R ++ [(x, y)]) u2 s2) := by
  refine kM_of (pl := []) (X := (wRd K a0 a1 a2 u sp R.length)) rfl (by decide) (Nat.le_of_ble_eq_true rfl) ?_
  intro p e s m args below meth cd A Q hC hnm hE
  refine k_eX (show _ = [kO a0 0 [.ref a1, .ref a2, .int (nI R.length)], kI K a1 5 u, kI K a2 5 sp] from rfl) ?_
  refine k_aload_n hC 0 dX0_add_0 rfl rfl ?_
  refine k_get hC inlX0 0 2 rfl rfl (by decide) lkF_X0_18 rfl dX0_add_1 ?_
  refine k_if_lt hC 45 dX0_add_4 (by decide) (fun c1 => ?_) (fun c1 => ?_)
  · exact absurd c1 (fun q => by have := nI_pos (n := R.length) (by omega); exact this q)
  · refine k_aload_n hC 0 dX0_add_7 rfl rfl ?_
    refine k_get hC inlX0 0 2 rfl rfl (by decide) lkF_X0_18 rfl dX0_add_8 ?_
    refine k_iconst hC (nI 5) dX0_add_11 rfl ?_
    refine k_icmp_geN hC 45 dX0_add_12 (by decide) (by omega) (by omega) (fun c2 => ?_) (fun c2 => ?_)
    · exact absurd c2 (by omega)
    · refine k_aload_n hC 0 dX0_add_15 rfl rfl ?_
      refine k_get hC inlX0 0 0 rfl rfl (by decide) lkF_X0_9 rfl dX0_add_16 ?_
      refine k_aload_n hC 0 dX0_add_19 rfl rfl ?_
      refine k_get hC inlX0 0 2 rfl rfl (by decide) lkF_X0_18 rfl dX0_add_20 ?_
      refine k_iload_n hC 1 dX0_add_23 rfl rfl ?_
      refine k_ast hC 1 rfl (by omega) (by decide) dX0_add_24 [kO a0 0 [.ref a1, .ref a2, .int (nI R.length)], kI K a1 5 (upd u R.length (nI x)), kI K a2 5 sp] rfl ?_
      refine k_aload_n hC 0 dX0_add_25 rfl rfl ?_
      refine k_get hC inlX0 0 1 rfl rfl (by decide) lkF_X0_15 rfl dX0_add_26 ?_
      refine k_aload_n hC 0 dX0_add_29 rfl rfl ?_
      refine k_get hC inlX0 0 2 rfl rfl (by decide) lkF_X0_18 rfl dX0_add_30 ?_
      refine k_iload_n hC 2 dX0_add_33 rfl rfl ?_
      refine k_ast hC 2 rfl (by omega) (by decide) dX0_add_34 [kO a0 0 [.ref a1, .ref a2, .int (nI R.length)], kI K a1 5 (upd u R.length (nI x)), kI K a2 5 (upd sp R.length (nI y))] rfl ?_
      refine k_aload_n hC 0 dX0_add_35 rfl rfl ?_
      refine k_dup hC dX0_add_36 rfl ?_
      refine k_get hC inlX0 0 2 rfl rfl (by decide) lkF_X0_18 rfl dX0_add_37 ?_
      refine k_iconst hC (nI 1) dX0_add_40 rfl ?_
      refine k_iaddN hC dX0_add_41 ?_
      refine k_put hC inlX0 tyX0_ok nmX0 0 2 rfl rfl (by decide) lkF_X0_18 rfl rfl rfl (Nat.le_of_ble_eq_true rfl) dX0_add_42 [kO a0 0 [.ref a1, .ref a2, .int (nI (R.length + 1))], kI K a1 5 (upd u R.length (nI x)), kI K a2 5 (upd sp R.length (nI y))] rfl ?_
      exact k_vret hC hE (Nat.le_of_ble_eq_true rfl) (Nat.le_of_ble_eq_true rfl) dX0_add_45 ⟨rfl, _, _, by rw [List.length_append, List.length_singleton]; rfl, mR_snoc hR⟩
abbrev rmX0_bringTo : Room := { frames := 1, cells := 0, slots := 0, locals := 21 }
set_option maxRecDepth 100000 in
set_option maxHeartbeats 4000000 in
theorem cX0_bringTo_k (l : Launch) (K : kE) (a0 a1 a2 b0 b1 b2 : Nat) (u sp v c : Nat → Int32) (R B : List (Nat × Nat)) (hL : R.length ≤ 5) (hB : B.length + R.length ≤ 10) (hR : mR R u sp) (hRB : mR B v c) (hst : ∀ i, i < R.length → 1 ≤ (mg R i).2 ∧ (mg R i).2 ≤ 5) : kM l yX0_bringTo (kws yX0_bringTo cX0_bringTo 5 none) rmX0_bringTo K [.ref a0, .ref b0] (wRd K a0 a1 a2 u sp R.length ++ wSt K b0 b1 b2 v c B.length) (fun v w => v = none ∧ ∃ u2 s2 v2 c2 : Nat → Int32, w = wRd K a0 a1 a2 u2 s2 (mStay R).length ++ wSt K b0 b1 b2 v2 c2 (B ++ mArr R).length ∧ mR (mStay R) u2 s2 ∧ mR (B ++ mArr R) v2 c2) := by
  refine kM_of (pl := []) (X := (wRd K a0 a1 a2 u sp R.length ++ wSt K b0 b1 b2 v c B.length)) rfl (by decide) (Nat.le_of_ble_eq_true rfl) ?_
  intro p e s m args below meth cd A Q hC hnm hE
  refine k_eX (show _ = [kO a0 0 [.ref a1, .ref a2, .int (nI R.length)], kI K a1 5 u, kI K a2 5 sp, kO b0 2 [.ref b1, .ref b2, .int (nI B.length)], kI K b1 10 v, kZ K b2 10 c] from rfl) ?_
  refine k_iconst hC (nI 0) dX0_bringTo_0 rfl ?_
  refine k_istore_n hC 2 dX0_bringTo_1 rfl (by decide) rfl [(0, .ref a0), (1, .ref b0), (2, .int (nI 0))] rfl ?_
  refine k_iconst hC (nI 0) dX0_bringTo_2 rfl ?_
  refine k_istore_n hC 3 dX0_bringTo_3 rfl (by decide) rfl [(0, .ref a0), (1, .ref b0), (2, .int (nI 0)), (3, .int (nI 0))] rfl ?_
  have loop : ∀ (n i : Nat) (u9 s9 v9 c9 : Nat → Int32), n + i = R.length + 1 → i ≤ R.length → mBr R i u9 s9 → mR (B ++ mArr (R.take i)) v9 c9 → kW p l e rmX0_bringTo s m args below meth cd K A 5 Q 0 0 ([]) [kO a0 0 [.ref a1, .ref a2, .int (nI R.length)], kI K a1 5 u9, kI K a2 5 s9, kO b0 2 [.ref b1, .ref b2, .int (nI ((B ++ mArr (R.take i)).length))], kI K b1 10 v9, kZ K b2 10 c9] [(0, .ref a0), (1, .ref b0), (2, .int (nI ((mStay (R.take i)).length))), (3, .int (nI i))] 4 [] := by
    intro n
    induction n with
    | zero => intro i u9 s9 v9 c9 h1 h2; exact absurd h1 (by omega)
    | succ n ih =>
      intro i u9 s9 v9 c9 h1 h2 h3 h4
      refine k_iload_n hC 3 dX0_bringTo_4 rfl rfl ?_
      refine k_aload_n hC 0 dX0_bringTo_5 rfl rfl ?_
      refine k_get hC inlX0 0 2 rfl rfl (by decide) lkF_X0_18 rfl dX0_bringTo_6 ?_
      refine k_icmp_geN hC 74 dX0_bringTo_9 (by decide) (by omega) (by omega) (fun c1 => ?_) (fun c1 => ?_)
      · have e9 : i = R.length := by omega
        refine k_aload_n hC 0 dX0_bringTo_74 rfl rfl ?_
        refine k_iload_n hC 2 dX0_bringTo_75 rfl rfl ?_
        refine k_put hC inlX0 tyX0_ok nmX0 0 2 rfl rfl (by decide) lkF_X0_18 rfl rfl rfl (Nat.le_of_ble_eq_true rfl) dX0_bringTo_76 [kO a0 0 [.ref a1, .ref a2, .int (nI ((mStay (R.take i)).length))], kI K a1 5 u9, kI K a2 5 s9, kO b0 2 [.ref b1, .ref b2, .int (nI ((B ++ mArr (R.take i)).length))], kI K b1 10 v9, kZ K b2 10 c9] rfl ?_
        exact k_vret hC hE (Nat.le_of_ble_eq_true rfl) (Nat.le_of_ble_eq_true rfl) dX0_bringTo_79 ⟨rfl, u9, s9, v9, c9, by rw [e9, List.take_length]; rfl, mBr_end (e9 ▸ h3), by rw [e9, List.take_length] at h4; exact h4⟩
      · refine k_iload_n hC 3 dX0_bringTo_12 rfl rfl ?_
        refine k_iconst hC (nI 5) dX0_bringTo_13 rfl ?_
        refine k_icmp_geN hC 74 dX0_bringTo_14 (by decide) (by omega) (by omega) (fun c2 => ?_) (fun c2 => ?_)
        · exact absurd c2 (by omega)
        · have hi : i < R.length := by omega
          have hs1 := hst i hi
          have hlen := mStay_le (Nat.le_of_lt hi)
          refine k_aload_n hC 0 dX0_bringTo_17 rfl rfl ?_
          refine k_get hC inlX0 0 1 rfl rfl (by decide) lkF_X0_15 rfl dX0_bringTo_18 ?_
          refine k_iload_n hC 3 dX0_bringTo_21 rfl rfl ?_
          refine k_ald hC 2 rfl (by omega) (by decide) dX0_bringTo_22 ?_
          refine k_topE (nI ((mg R i).2)) (h3.2 i (Nat.le_refl i) hi).2 ?_
          refine k_iconst hC (nI 1) dX0_bringTo_23 rfl ?_
          refine k_isubN hC dX0_bringTo_24 (by omega) ?_
          refine k_istore hC dX0_bringTo_25 (by decide) rfl [(0, .ref a0), (1, .ref b0), (2, .int (nI ((mStay (R.take i)).length))), (3, .int (nI i)), (4, .int (nI (((mg R i).2) - 1)))] rfl ?_
          refine k_iload hC dX0_bringTo_27 rfl ?_
          refine k_if_leN hC 58 dX0_bringTo_29 (by decide) (by omega) (fun c3 => ?_) (fun c3 => ?_)
          · have h2n : ¬ 1 < (mg R i).2 := by omega
            refine k_aload_n hC 1 dX0_bringTo_58 rfl rfl ?_
            refine k_aload_n hC 0 dX0_bringTo_59 rfl rfl ?_
            refine k_get hC inlX0 0 0 rfl rfl (by decide) lkF_X0_9 rfl dX0_bringTo_60 ?_
            refine k_iload_n hC 3 dX0_bringTo_63 rfl rfl ?_
            refine k_ald hC 1 rfl (by omega) (by decide) dX0_bringTo_64 ?_
            refine k_topE (nI ((mg R i).1)) (h3.2 i (Nat.le_refl i) hi).1 ?_
            refine k_perm [3, 4, 5, 0, 1, 2] [kO b0 2 [.ref b1, .ref b2, .int (nI ((B ++ mArr (R.take i)).length))], kI K b1 10 v9, kZ K b2 10 c9, kO a0 0 [.ref a1, .ref a2, .int (nI R.length)], kI K a1 5 u9, kI K a2 5 s9] rfl rfl ?_
            refine k_callVN hC (As := [.int (nI ((mg R i).1))]) (cX2_add_k l K b0 b1 b2 v9 c9 (B ++ mArr (R.take i)) (mg R i).1 (by rw [List.length_append]; omega) h4) [kO a0 0 [.ref a1, .ref a2, .int (nI R.length)], kI K a1 5 u9, kI K a2 5 s9] rfl 0 rfl rfl (kAll4 lkI_yX2_add lkS_yX2_add lkN_X2 lkC_yX2_add) (List.mem_of_getElem? (i := 11) rfl) 1 (by decide) ⟨(Nat.le_of_ble_eq_true rfl), (Nat.le_of_ble_eq_true rfl)⟩ rfl rfl (Nat.le_of_ble_eq_true rfl) ⟨(Nat.le_of_ble_eq_true rfl), (Nat.le_of_ble_eq_true rfl)⟩ dX0_bringTo_65 (fun v w h => ?_)
            obtain ⟨rfl, v8, c8, rfl, h8⟩ := h
            refine k_re 0 0 [kO b0 2 [.ref b1, .ref b2, .int (nI ((B ++ mArr (R.take i) ++ [((mg R i).1, 1)]).length))], kI K b1 10 v8, kZ K b2 10 c8, kO a0 0 [.ref a1, .ref a2, .int (nI R.length)], kI K a1 5 u9, kI K a2 5 s9] [] rfl rfl rfl rfl ?_
            refine k_perm [3, 4, 5, 0, 1, 2] [kO a0 0 [.ref a1, .ref a2, .int (nI R.length)], kI K a1 5 u9, kI K a2 5 s9, kO b0 2 [.ref b1, .ref b2, .int (nI ((B ++ mArr (R.take i) ++ [((mg R i).1, 1)]).length))], kI K b1 10 v8, kZ K b2 10 c8] rfl rfl ?_
            refine k_iinc hC dX0_bringTo_68 (by decide) rfl rfl (nI (i + 1)) (kinc i 1 rfl) [(0, .ref a0), (1, .ref b0), (2, .int (nI ((mStay (R.take i)).length))), (3, .int (nI (i + 1))), (4, .int (nI (((mg R i).2) - 1)))] rfl ?_
            refine k_goto hC 4 dX0_bringTo_71 (by decide) ?_
            refine k_lsub [0, 1, 2, 3] [(0, .ref a0), (1, .ref b0), (2, .int (nI ((mStay (R.take i)).length))), (3, .int (nI (i + 1)))] rfl ?_
            have h7 := mStay_f hi h2n
            have h6 := ih (i + 1) u9 s9 v8 c8 (by omega) (by omega) (mBr_f h3 hi h2n) (by rw [h7.2, ← List.append_assoc]; exact h8)
            rw [h7.1, h7.2, ← List.append_assoc] at h6
            exact h6
          · have h2t : 1 < (mg R i).2 := by omega
            refine k_aload_n hC 0 dX0_bringTo_32 rfl rfl ?_
            refine k_get hC inlX0 0 0 rfl rfl (by decide) lkF_X0_9 rfl dX0_bringTo_33 ?_
            refine k_iload_n hC 2 dX0_bringTo_36 rfl rfl ?_
            refine k_aload_n hC 0 dX0_bringTo_37 rfl rfl ?_
            refine k_get hC inlX0 0 0 rfl rfl (by decide) lkF_X0_9 rfl dX0_bringTo_38 ?_
            refine k_iload_n hC 3 dX0_bringTo_41 rfl rfl ?_
            refine k_ald hC 1 rfl (by omega) (by decide) dX0_bringTo_42 ?_
            refine k_topE (nI ((mg R i).1)) (h3.2 i (Nat.le_refl i) hi).1 ?_
            refine k_ast hC 1 rfl (by omega) (by decide) dX0_bringTo_43 [kO a0 0 [.ref a1, .ref a2, .int (nI R.length)], kI K a1 5 (upd u9 ((mStay (R.take i)).length) (nI ((mg R i).1))), kI K a2 5 s9, kO b0 2 [.ref b1, .ref b2, .int (nI ((B ++ mArr (R.take i)).length))], kI K b1 10 v9, kZ K b2 10 c9] rfl ?_
            refine k_aload_n hC 0 dX0_bringTo_44 rfl rfl ?_
            refine k_get hC inlX0 0 1 rfl rfl (by decide) lkF_X0_15 rfl dX0_bringTo_45 ?_
            refine k_iload_n hC 2 dX0_bringTo_48 rfl rfl ?_
            refine k_iload hC dX0_bringTo_49 rfl ?_
            refine k_ast hC 2 rfl (by omega) (by decide) dX0_bringTo_51 [kO a0 0 [.ref a1, .ref a2, .int (nI R.length)], kI K a1 5 (upd u9 ((mStay (R.take i)).length) (nI ((mg R i).1))), kI K a2 5 (upd s9 ((mStay (R.take i)).length) (nI (((mg R i).2) - 1))), kO b0 2 [.ref b1, .ref b2, .int (nI ((B ++ mArr (R.take i)).length))], kI K b1 10 v9, kZ K b2 10 c9] rfl ?_
            refine k_iinc hC dX0_bringTo_52 (by decide) rfl rfl (nI ((mStay (R.take i)).length + 1)) (kinc ((mStay (R.take i)).length) 1 rfl) [(0, .ref a0), (1, .ref b0), (2, .int (nI ((mStay (R.take i)).length + 1))), (3, .int (nI i)), (4, .int (nI (((mg R i).2) - 1)))] rfl ?_
            refine k_goto hC 68 dX0_bringTo_55 (by decide) ?_
            refine k_iinc hC dX0_bringTo_68 (by decide) rfl rfl (nI (i + 1)) (kinc i 1 rfl) [(0, .ref a0), (1, .ref b0), (2, .int (nI ((mStay (R.take i)).length + 1))), (3, .int (nI (i + 1))), (4, .int (nI (((mg R i).2) - 1)))] rfl ?_
            refine k_goto hC 4 dX0_bringTo_71 (by decide) ?_
            refine k_lsub [0, 1, 2, 3] [(0, .ref a0), (1, .ref b0), (2, .int (nI ((mStay (R.take i)).length + 1))), (3, .int (nI (i + 1)))] rfl ?_
            have h7 := mStay_t hi h2t
            have h6 := ih (i + 1) _ _ v9 c9 (by omega) (by omega) (mBr_t h3 hi h2t) (by rw [h7.2]; exact h4)
            rw [show (mStay (R.take (i + 1))).length = (mStay (R.take i)).length + 1 by rw [h7.1, List.length_append, List.length_singleton], h7.2] at h6
            exact h6
  have h5 := loop (R.length + 1) 0 u sp v c (by omega) (by omega) (mBr_0 hR) (by show mR (B ++ []) v c; rw [List.append_nil]; exact hRB)
  rw [show B ++ mArr (R.take 0) = B from List.append_nil B] at h5
  exact h5
