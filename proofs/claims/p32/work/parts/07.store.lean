/-! Store: its worlds and contracts -/
abbrev wSt (K : kE) (a0 a1 a2 : Nat) (u c : Nat → Int32) (z : Nat) : va_W := [kO a0 2 [.ref a1, .ref a2, .int (nI z)], kI K a1 10 u, kZ K a2 10 c]
theorem kmin_le {a b : Nat} (ha : a < 2 ^ 31) (hb : b < 2 ^ 31) (h : a ≤ b) : (if nI a < nI b then nI a else nI b) = nI a := by
  by_cases e : a = b
  · subst e; simp
  · rw [if_pos ((nI_ltI ha hb).mpr (by omega))]
theorem kmin_gt {a b : Nat} (ha : a < 2 ^ 31) (hb : b < 2 ^ 31) (h : b ≤ a) : (if nI a < nI b then nI a else nI b) = nI b := by
  rw [if_neg (fun q => by have := (nI_ltI ha hb).mp q; omega)]
theorem kB_ne {r : Bool} : ¬ kB r = 0 ↔ r = true := by cases r <;> decide
theorem kB_eq {r : Bool} : kB r = 0 ↔ r = false := by cases r <;> decide
def mSh (L : List (Nat × Nat)) (k : Nat) (u c : Nat → Int32) : Prop := ∀ j : Nat, j < L.length → (j < k → u j = nI (mg L (j + 1)).1 ∧ c j = nI (mg L (j + 1)).2) ∧ (k ≤ j → u j = nI (mg L j).1 ∧ c j = nI (mg L j).2)
theorem mSh_0 {L : List (Nat × Nat)} {u c : Nat → Int32} (h : mR L u c) : mSh L 0 u c := fun j hj => ⟨fun q => absurd q (Nat.not_lt_zero j), fun _ => h j hj⟩
theorem mSh_step {L : List (Nat × Nat)} {k : Nat} {u c : Nat → Int32} (h : mSh L k u c) (hk : k + 1 < L.length) : mSh L (k + 1) (upd u k (u (k + 1))) (upd c k (c (k + 1))) := by
  intro j hj
  have hj2 := h j hj
  unfold upd
  by_cases e : j = k
  · subst e
    have := (h (j + 1) hk).2 (by omega)
    simp only [if_true]
    exact ⟨fun _ => this, fun q => by omega⟩
  · simp only [e, if_false]
    exact ⟨fun q => hj2.1 (by omega), fun q => hj2.2 (by omega)⟩
theorem mSh_end {x : Nat × Nat} {t : List (Nat × Nat)} {u c : Nat → Int32} (h : mSh (x :: t) t.length u c) : mR t u c := by
  intro i hi
  have := (h i (by rw [List.length_cons]; omega)).1 hi
  rw [mg_succ] at this
  exact this
theorem mR_set0 {x : Nat × Nat} {t : List (Nat × Nat)} {u c : Nat → Int32} (h : mR (x :: t) u c) (a : Nat) : mR ((a, x.2) :: t) (upd u 0 (nI a)) c := by
  intro i hi
  have h1 := h i hi
  cases i with
  | zero => exact ⟨by simp [upd, mg], h1.2⟩
  | succ i => rw [mg_succ] at *; exact ⟨by simp [upd]; exact h1.1, h1.2⟩
theorem mR_set1 {x : Nat × Nat} {t : List (Nat × Nat)} {u c : Nat → Int32} (h : mR (x :: t) u c) (b : Nat) : mR ((x.1, b) :: t) u (upd c 0 (nI b)) := by
  intro i hi
  have h1 := h i hi
  cases i with
  | zero => exact ⟨h1.1, by simp [upd, mg]⟩
  | succ i => rw [mg_succ] at *; exact ⟨h1.1, by simp [upd]; exact h1.2⟩
theorem kz_n1 {b : Nat} (h : b ≤ 1) : vp_nar .boolean (nI b) = nI b := by
  have : b = 0 ∨ b = 1 := by omega
  rcases this with rfl | rfl <;> rfl
abbrev rmX2_allUnits : Room := { frames := 0, cells := 0, slots := 0, locals := 0 }
set_option maxRecDepth 100000 in
set_option maxHeartbeats 4000000 in
theorem cX2_allUnits_k (l : Launch) (K : kE) (a0 a1 a2 : Nat) (u c : Nat → Int32) (L : List (Nat × Nat)) (hL : L.length ≤ 10) (hR : mR L u c) : kM l yX2_allUnits (kws yX2_allUnits cX2_allUnits 3 (some .int)) rmX2_allUnits K [.ref a0] (wSt K a0 a1 a2 u c L.length) (fun v w => v = some (.int (nI (mU L))) ∧ w = wSt K a0 a1 a2 u c L.length) := by
  refine kM_of (pl := []) (X := (wSt K a0 a1 a2 u c L.length)) rfl (by decide) (Nat.le_of_ble_eq_true rfl) ?_
  intro p e s m args below meth cd A Q hC hnm hE
  refine k_eX (show _ = [kO a0 2 [.ref a1, .ref a2, .int (nI L.length)], kI K a1 10 u, kZ K a2 10 c] from rfl) ?_
  refine k_iconst hC (nI 0) dX2_allUnits_0 rfl ?_
  refine k_istore_n hC 1 dX2_allUnits_1 rfl (by decide) rfl [(0, .ref a0), (1, .int (nI 0))] rfl ?_
  refine k_iconst hC (nI 0) dX2_allUnits_2 rfl ?_
  refine k_istore_n hC 2 dX2_allUnits_3 rfl (by decide) rfl [(0, .ref a0), (1, .int (nI 0)), (2, .int (nI 0))] rfl ?_
  have loop : ∀ (n i sm : Nat), n + i = L.length + 1 → i ≤ L.length → sm = mU (L.take i) → kW p l e rmX2_allUnits s m args below meth cd K A 3 Q 0 0 ([]) [kO a0 2 [.ref a1, .ref a2, .int (nI L.length)], kI K a1 10 u, kZ K a2 10 c] [(0, .ref a0), (1, .int (nI sm)), (2, .int (nI i))] 4 [] := by
    intro n
    induction n with
    | zero => intro i sm h1 h2; exact absurd h1 (by omega)
    | succ n ih =>
      intro i sm h1 h2 hs
      refine k_iload_n hC 2 dX2_allUnits_4 rfl rfl ?_
      refine k_aload_n hC 0 dX2_allUnits_5 rfl rfl ?_
      refine k_get hC inlX2 0 2 rfl rfl (by decide) lkF_X2_25 rfl dX2_allUnits_6 ?_
      refine k_icmp_geN hC 33 dX2_allUnits_9 (by decide) (by omega) (by omega) (fun c1 => ?_) (fun c1 => ?_)
      · refine k_iload_n hC 1 dX2_allUnits_33 rfl rfl ?_
        exact k_iret hC hE (Nat.le_of_ble_eq_true rfl) (Nat.le_of_ble_eq_true rfl) dX2_allUnits_34 ⟨by rw [hs, show i = L.length by omega, List.take_length], rfl⟩
      · refine k_iload_n hC 2 dX2_allUnits_12 rfl rfl ?_
        refine k_bipush hC (nI 10) dX2_allUnits_13 rfl ?_
        refine k_icmp_geN hC 33 dX2_allUnits_15 (by decide) (by omega) (by omega) (fun c2 => ?_) (fun c2 => ?_)
        · exact absurd c2 (by omega)
        · have hi : i < L.length := by omega
          refine k_iload_n hC 1 dX2_allUnits_18 rfl rfl ?_
          refine k_aload_n hC 0 dX2_allUnits_19 rfl rfl ?_
          refine k_get hC inlX2 0 0 rfl rfl (by decide) lkF_X2_11 rfl dX2_allUnits_20 ?_
          refine k_iload_n hC 2 dX2_allUnits_23 rfl rfl ?_
          refine k_ald hC 1 rfl (by omega) (by decide) dX2_allUnits_24 ?_
          refine k_topE (nI ((mg L i).1)) (hR i hi).1 ?_
          refine k_iaddN hC dX2_allUnits_25 ?_
          refine k_istore_n hC 1 dX2_allUnits_26 rfl (by decide) rfl [(0, .ref a0), (1, .int (nI (sm + ((mg L i).1)))), (2, .int (nI i))] rfl ?_
          refine k_iinc hC dX2_allUnits_27 (by decide) rfl rfl (nI (i + 1)) (kinc i 1 rfl) [(0, .ref a0), (1, .int (nI (sm + ((mg L i).1)))), (2, .int (nI (i + 1)))] rfl ?_
          refine k_goto hC 4 dX2_allUnits_30 (by decide) ?_
          exact ih (i + 1) _ (by omega) (by omega) (by rw [mU_take hi, hs])
  exact loop (L.length + 1) 0 0 (by omega) (by omega) rfl
abbrev rmX2_cardsOn : Room := { frames := 0, cells := 0, slots := 0, locals := 0 }
set_option maxRecDepth 100000 in
set_option maxHeartbeats 4000000 in
theorem cX2_cardsOn_k (l : Launch) (K : kE) (a0 a1 a2 : Nat) (u c : Nat → Int32) (L : List (Nat × Nat)) (hL : L.length ≤ 10) (hR : mR L u c) (h1c : ∀ i, i < L.length → (mg L i).2 ≤ 1) : kM l yX2_cardsOn (kws yX2_cardsOn cX2_cardsOn 3 (some .int)) rmX2_cardsOn K [.ref a0] (wSt K a0 a1 a2 u c L.length) (fun v w => v = some (.int (nI (mCs L))) ∧ w = wSt K a0 a1 a2 u c L.length) := by
  refine kM_of (pl := []) (X := (wSt K a0 a1 a2 u c L.length)) rfl (by decide) (Nat.le_of_ble_eq_true rfl) ?_
  intro p e s m args below meth cd A Q hC hnm hE
  refine k_eX (show _ = [kO a0 2 [.ref a1, .ref a2, .int (nI L.length)], kI K a1 10 u, kZ K a2 10 c] from rfl) ?_
  refine k_iconst hC (nI 0) dX2_cardsOn_0 rfl ?_
  refine k_istore_n hC 1 dX2_cardsOn_1 rfl (by decide) rfl [(0, .ref a0), (1, .int (nI 0))] rfl ?_
  refine k_iconst hC (nI 0) dX2_cardsOn_2 rfl ?_
  refine k_istore_n hC 2 dX2_cardsOn_3 rfl (by decide) rfl [(0, .ref a0), (1, .int (nI 0)), (2, .int (nI 0))] rfl ?_
  have loop : ∀ (n i sm : Nat), n + i = L.length + 1 → i ≤ L.length → sm = mCs (L.take i) → kW p l e rmX2_cardsOn s m args below meth cd K A 3 Q 0 0 ([]) [kO a0 2 [.ref a1, .ref a2, .int (nI L.length)], kI K a1 10 u, kZ K a2 10 c] [(0, .ref a0), (1, .int (nI sm)), (2, .int (nI i))] 4 [] := by
    intro n
    induction n with
    | zero => intro i sm h1 h2; exact absurd h1 (by omega)
    | succ n ih =>
      intro i sm h1 h2 hs
      refine k_iload_n hC 2 dX2_cardsOn_4 rfl rfl ?_
      refine k_aload_n hC 0 dX2_cardsOn_5 rfl rfl ?_
      refine k_get hC inlX2 0 2 rfl rfl (by decide) lkF_X2_25 rfl dX2_cardsOn_6 ?_
      refine k_icmp_geN hC 36 dX2_cardsOn_9 (by decide) (by omega) (by omega) (fun c1 => ?_) (fun c1 => ?_)
      · refine k_iload_n hC 1 dX2_cardsOn_36 rfl rfl ?_
        exact k_iret hC hE (Nat.le_of_ble_eq_true rfl) (Nat.le_of_ble_eq_true rfl) dX2_cardsOn_37 ⟨by rw [hs, show i = L.length by omega, List.take_length], rfl⟩
      · refine k_iload_n hC 2 dX2_cardsOn_12 rfl rfl ?_
        refine k_bipush hC (nI 10) dX2_cardsOn_13 rfl ?_
        refine k_icmp_geN hC 36 dX2_cardsOn_15 (by decide) (by omega) (by omega) (fun c2 => ?_) (fun c2 => ?_)
        · exact absurd c2 (by omega)
        · have hi : i < L.length := by omega
          refine k_aload_n hC 0 dX2_cardsOn_18 rfl rfl ?_
          refine k_get hC inlX2 0 1 rfl rfl (by decide) lkF_X2_15 rfl dX2_cardsOn_19 ?_
          refine k_iload_n hC 2 dX2_cardsOn_22 rfl rfl ?_
          refine k_zald hC 2 rfl (by omega) (by decide) dX2_cardsOn_23 ?_
          have h3 := h1c i hi
          refine k_topE (nI ((mg L i).2)) (hR i hi).2 ?_
          refine k_if_eqN hC 30 dX2_cardsOn_24 (by decide) (by omega) (fun c3 => ?_) (fun c3 => ?_)
          · refine k_iinc hC dX2_cardsOn_30 (by decide) rfl rfl (nI (i + 1)) (kinc i 1 rfl) [(0, .ref a0), (1, .int (nI sm)), (2, .int (nI (i + 1)))] rfl ?_
            refine k_goto hC 4 dX2_cardsOn_33 (by decide) ?_
            exact ih (i + 1) _ (by omega) (by omega) (by rw [mCs_take hi, hs]; omega)
          · refine k_iinc hC dX2_cardsOn_27 (by decide) rfl rfl (nI (sm + 1)) (kinc sm 1 rfl) [(0, .ref a0), (1, .int (nI (sm + 1))), (2, .int (nI i))] rfl ?_
            refine k_iinc hC dX2_cardsOn_30 (by decide) rfl rfl (nI (i + 1)) (kinc i 1 rfl) [(0, .ref a0), (1, .int (nI (sm + 1))), (2, .int (nI (i + 1)))] rfl ?_
            refine k_goto hC 4 dX2_cardsOn_33 (by decide) ?_
            exact ih (i + 1) _ (by omega) (by omega) (by rw [mCs_take hi, hs]; omega)
  exact loop (L.length + 1) 0 0 (by omega) (by omega) rfl
abbrev rmX2_headUnits : Room := { frames := 0, cells := 0, slots := 0, locals := 0 }
set_option maxRecDepth 100000 in
set_option maxHeartbeats 4000000 in
theorem cX2_headUnits_k (l : Launch) (K : kE) (a0 a1 a2 : Nat) (u c : Nat → Int32) (L : List (Nat × Nat)) (hL : L.length ≤ 10) (hR : mR L u c) : kM l yX2_headUnits (kws yX2_headUnits cX2_headUnits 1 (some .int)) rmX2_headUnits K [.ref a0] (wSt K a0 a1 a2 u c L.length) (fun v w => v = some (.int (nI (mg L 0).1)) ∧ w = wSt K a0 a1 a2 u c L.length) := by
  refine kM_of (pl := []) (X := (wSt K a0 a1 a2 u c L.length)) rfl (by decide) (Nat.le_of_ble_eq_true rfl) ?_
  intro p e s m args below meth cd A Q hC hnm hE
  refine k_eX (show _ = [kO a0 2 [.ref a1, .ref a2, .int (nI L.length)], kI K a1 10 u, kZ K a2 10 c] from rfl) ?_
  refine k_aload_n hC 0 dX2_headUnits_0 rfl rfl ?_
  refine k_get hC inlX2 0 2 rfl rfl (by decide) lkF_X2_25 rfl dX2_headUnits_1 ?_
  refine k_if_leN hC 16 dX2_headUnits_4 (by decide) (by omega) (fun c1 => ?_) (fun c1 => ?_)
  · refine k_iconst hC (nI 0) dX2_headUnits_16 rfl ?_
    exact k_iret hC hE (Nat.le_of_ble_eq_true rfl) (Nat.le_of_ble_eq_true rfl) dX2_headUnits_17 ⟨by rw [List.length_eq_zero_iff.mp (by omega : L.length = 0)]; rfl, rfl⟩
  · refine k_aload_n hC 0 dX2_headUnits_7 rfl rfl ?_
    refine k_get hC inlX2 0 0 rfl rfl (by decide) lkF_X2_11 rfl dX2_headUnits_8 ?_
    refine k_iconst hC (nI 0) dX2_headUnits_11 rfl ?_
    refine k_ald hC 1 rfl (by omega) (by decide) dX2_headUnits_12 ?_
    refine k_topE (nI ((mg L 0).1)) (hR 0 (by omega)).1 ?_
    refine k_goto hC 17 dX2_headUnits_13 (by decide) ?_
    exact k_iret hC hE (Nat.le_of_ble_eq_true rfl) (Nat.le_of_ble_eq_true rfl) dX2_headUnits_17 ⟨rfl, rfl⟩
abbrev rmX2_headIsCarded : Room := { frames := 0, cells := 0, slots := 0, locals := 0 }
set_option maxRecDepth 100000 in
set_option maxHeartbeats 4000000 in
theorem cX2_headIsCarded_k (l : Launch) (K : kE) (a0 a1 a2 : Nat) (u c : Nat → Int32) (L : List (Nat × Nat)) (hL : L.length ≤ 10) (hR : mR L u c) (h1c : ∀ i, i < L.length → (mg L i).2 ≤ 1) : kM l yX2_headIsCarded (kws yX2_headIsCarded cX2_headIsCarded 1 (some .boolean)) rmX2_headIsCarded K [.ref a0] (wSt K a0 a1 a2 u c L.length) (fun v w => v = some (.int (nI (mg L 0).2)) ∧ w = wSt K a0 a1 a2 u c L.length) := by
  refine kM_of (pl := []) (X := (wSt K a0 a1 a2 u c L.length)) rfl (by decide) (Nat.le_of_ble_eq_true rfl) ?_
  intro p e s m args below meth cd A Q hC hnm hE
  refine k_eX (show _ = [kO a0 2 [.ref a1, .ref a2, .int (nI L.length)], kI K a1 10 u, kZ K a2 10 c] from rfl) ?_
  refine k_aload_n hC 0 dX2_headIsCarded_0 rfl rfl ?_
  refine k_get hC inlX2 0 2 rfl rfl (by decide) lkF_X2_25 rfl dX2_headIsCarded_1 ?_
  refine k_if_leN hC 20 dX2_headIsCarded_4 (by decide) (by omega) (fun c1 => ?_) (fun c1 => ?_)
  · refine k_iconst hC (nI 0) dX2_headIsCarded_20 rfl ?_
    exact k_zret hC hE (Nat.le_of_ble_eq_true rfl) (Nat.le_of_ble_eq_true rfl) rfl dX2_headIsCarded_21 ⟨by rw [List.length_eq_zero_iff.mp (by omega : L.length = 0)]; rfl, rfl⟩
  · refine k_aload_n hC 0 dX2_headIsCarded_7 rfl rfl ?_
    refine k_get hC inlX2 0 1 rfl rfl (by decide) lkF_X2_15 rfl dX2_headIsCarded_8 ?_
    refine k_iconst hC (nI 0) dX2_headIsCarded_11 rfl ?_
    refine k_zald hC 2 rfl (by omega) (by decide) dX2_headIsCarded_12 ?_
    have h3 := h1c 0 (by omega)
    refine k_topE (nI ((mg L 0).2)) (hR 0 (by omega)).2 ?_
    refine k_if_eqN hC 20 dX2_headIsCarded_13 (by decide) (by omega) (fun c2 => ?_) (fun c2 => ?_)
    · refine k_iconst hC (nI 0) dX2_headIsCarded_20 rfl ?_
      exact k_zret hC hE (Nat.le_of_ble_eq_true rfl) (Nat.le_of_ble_eq_true rfl) rfl dX2_headIsCarded_21 ⟨by rw [show (mg L 0).2 = 0 by omega], rfl⟩
    · refine k_iconst hC (nI 1) dX2_headIsCarded_16 rfl ?_
      refine k_goto hC 21 dX2_headIsCarded_17 (by decide) ?_
      exact k_zret hC hE (Nat.le_of_ble_eq_true rfl) (Nat.le_of_ble_eq_true rfl) rfl dX2_headIsCarded_21 ⟨by rw [show (mg L 0).2 = 1 by omega], rfl⟩
abbrev rmX2_add : Room := { frames := 0, cells := 0, slots := 0, locals := 0 }
set_option maxRecDepth 100000 in
set_option maxHeartbeats 4000000 in
theorem cX2_add_k (l : Launch) (K : kE) (a0 a1 a2 : Nat) (u c : Nat → Int32) (L : List (Nat × Nat)) (x : Nat) (hL : L.length < 10) (hR : mR L u c) : kM l yX2_add (kws yX2_add cX2_add 2 none) rmX2_add K [.ref a0, .int (nI x)] (wSt K a0 a1 a2 u c L.length) (fun v w => v = none ∧ ∃ u2 c2 : Nat → Int32, w = wSt K a0 a1 a2 u2 c2 (L ++ [(x, 1)]).length ∧ mR (L ++ [(x, 1)]) u2 c2) := by
  refine kM_of (pl := []) (X := (wSt K a0 a1 a2 u c L.length)) rfl (by decide) (Nat.le_of_ble_eq_true rfl) ?_
  intro p e s m args below meth cd A Q hC hnm hE
  refine k_eX (show _ = [kO a0 2 [.ref a1, .ref a2, .int (nI L.length)], kI K a1 10 u, kZ K a2 10 c] from rfl) ?_
  refine k_aload_n hC 0 dX2_add_0 rfl rfl ?_
  refine k_get hC inlX2 0 2 rfl rfl (by decide) lkF_X2_25 rfl dX2_add_1 ?_
  refine k_if_lt hC 46 dX2_add_4 (by decide) (fun c1 => ?_) (fun c1 => ?_)
  · exact absurd c1 (fun q => by have := nI_pos (n := L.length) (by omega); exact this q)
  · refine k_aload_n hC 0 dX2_add_7 rfl rfl ?_
    refine k_get hC inlX2 0 2 rfl rfl (by decide) lkF_X2_25 rfl dX2_add_8 ?_
    refine k_bipush hC (nI 10) dX2_add_11 rfl ?_
    refine k_icmp_geN hC 46 dX2_add_13 (by decide) (by omega) (by omega) (fun c2 => ?_) (fun c2 => ?_)
    · exact absurd c2 (by omega)
    · refine k_aload_n hC 0 dX2_add_16 rfl rfl ?_
      refine k_get hC inlX2 0 0 rfl rfl (by decide) lkF_X2_11 rfl dX2_add_17 ?_
      refine k_aload_n hC 0 dX2_add_20 rfl rfl ?_
      refine k_get hC inlX2 0 2 rfl rfl (by decide) lkF_X2_25 rfl dX2_add_21 ?_
      refine k_iload_n hC 1 dX2_add_24 rfl rfl ?_
      refine k_ast hC 1 rfl (by omega) (by decide) dX2_add_25 [kO a0 2 [.ref a1, .ref a2, .int (nI L.length)], kI K a1 10 (upd u L.length (nI x)), kZ K a2 10 c] rfl ?_
      refine k_aload_n hC 0 dX2_add_26 rfl rfl ?_
      refine k_get hC inlX2 0 1 rfl rfl (by decide) lkF_X2_15 rfl dX2_add_27 ?_
      refine k_aload_n hC 0 dX2_add_30 rfl rfl ?_
      refine k_get hC inlX2 0 2 rfl rfl (by decide) lkF_X2_25 rfl dX2_add_31 ?_
      refine k_iconst hC (nI 1) dX2_add_34 rfl ?_
      refine k_zast hC 2 rfl (by omega) (by decide) rfl dX2_add_35 [kO a0 2 [.ref a1, .ref a2, .int (nI L.length)], kI K a1 10 (upd u L.length (nI x)), kZ K a2 10 (upd c L.length (nI 1))] rfl ?_
      refine k_aload_n hC 0 dX2_add_36 rfl rfl ?_
      refine k_dup hC dX2_add_37 rfl ?_
      refine k_get hC inlX2 0 2 rfl rfl (by decide) lkF_X2_25 rfl dX2_add_38 ?_
      refine k_iconst hC (nI 1) dX2_add_41 rfl ?_
      refine k_iaddN hC dX2_add_42 ?_
      refine k_put hC inlX2 tyX2_ok nmX2 0 2 rfl rfl (by decide) lkF_X2_25 rfl rfl rfl (Nat.le_of_ble_eq_true rfl) dX2_add_43 [kO a0 2 [.ref a1, .ref a2, .int (nI (L.length + 1))], kI K a1 10 (upd u L.length (nI x)), kZ K a2 10 (upd c L.length (nI 1))] rfl ?_
      exact k_vret hC hE (Nat.le_of_ble_eq_true rfl) (Nat.le_of_ble_eq_true rfl) dX2_add_46 ⟨rfl, _, _, by rw [List.length_append, List.length_singleton]; rfl, mR_snoc hR⟩
abbrev rmX2_removeHead : Room := { frames := 0, cells := 0, slots := 0, locals := 0 }
set_option maxRecDepth 100000 in
set_option maxHeartbeats 4000000 in
theorem cX2_removeHead_k (l : Launch) (K : kE) (a0 a1 a2 : Nat) (u c : Nat → Int32) (x : Nat × Nat) (t : List (Nat × Nat)) (hL : (x :: t).length ≤ 10) (hR : mR (x :: t) u c) (h1c : ∀ i, i < (x :: t).length → (mg (x :: t) i).2 ≤ 1) : kM l yX2_removeHead (kws yX2_removeHead cX2_removeHead 2 none) rmX2_removeHead K [.ref a0] (wSt K a0 a1 a2 u c (x :: t).length) (fun v w => v = none ∧ ∃ u2 c2 : Nat → Int32, w = wSt K a0 a1 a2 u2 c2 t.length ∧ mR t u2 c2) := by
  refine kM_of (pl := []) (X := (wSt K a0 a1 a2 u c (x :: t).length)) rfl (by decide) (Nat.le_of_ble_eq_true rfl) ?_
  intro p e s m args below meth cd A Q hC hnm hE
  refine k_eX (show _ = [kO a0 2 [.ref a1, .ref a2, .int (nI ((x :: t).length))], kI K a1 10 u, kZ K a2 10 c] from rfl) ?_
  rw [List.length_cons] at hL
  have e0 : (x :: t).length = t.length + 1 := rfl
  refine k_aload_n hC 0 dX2_removeHead_0 rfl rfl ?_
  refine k_get hC inlX2 0 2 rfl rfl (by decide) lkF_X2_25 rfl dX2_removeHead_1 ?_
  refine k_iconst hC (nI 1) dX2_removeHead_4 rfl ?_
  refine k_icmp_geN hC 9 dX2_removeHead_5 (by decide) (by omega) (by omega) (fun c1 => ?_) (fun c1 => ?_)
  · refine k_iconst hC (nI 1) dX2_removeHead_9 rfl ?_
    refine k_istore_n hC 1 dX2_removeHead_10 rfl (by decide) rfl [(0, .ref a0), (1, .int (nI 1))] rfl ?_
    have loop : ∀ (n k : Nat) (u9 c9 : Nat → Int32), n + k = t.length + 1 → k ≤ t.length → mSh (x :: t) k u9 c9 → kW p l e rmX2_removeHead s m args below meth cd K A 2 Q 0 0 ([]) [kO a0 2 [.ref a1, .ref a2, .int (nI ((x :: t).length))], kI K a1 10 u9, kZ K a2 10 c9] [(0, .ref a0), (1, .int (nI (k + 1)))] 11 [] := by
      intro n
      induction n with
      | zero => intro k u9 c9 h1 h2; exact absurd h1 (by omega)
      | succ n ih =>
        intro k u9 c9 h1 h2 hs
        refine k_iload_n hC 1 dX2_removeHead_11 rfl rfl ?_
        refine k_aload_n hC 0 dX2_removeHead_12 rfl rfl ?_
        refine k_get hC inlX2 0 2 rfl rfl (by decide) lkF_X2_25 rfl dX2_removeHead_13 ?_
        refine k_icmp_geN hC 59 dX2_removeHead_16 (by decide) (by omega) (by omega) (fun c2 => ?_) (fun c2 => ?_)
        · obtain rfl : k = t.length := by omega
          refine k_aload_n hC 0 dX2_removeHead_59 rfl rfl ?_
          refine k_dup hC dX2_removeHead_60 rfl ?_
          refine k_get hC inlX2 0 2 rfl rfl (by decide) lkF_X2_25 rfl dX2_removeHead_61 ?_
          refine k_iconst hC (nI 1) dX2_removeHead_64 rfl ?_
          refine k_isubN hC dX2_removeHead_65 (by omega) ?_
          refine k_put hC inlX2 tyX2_ok nmX2 0 2 rfl rfl (by decide) lkF_X2_25 rfl rfl rfl (Nat.le_of_ble_eq_true rfl) dX2_removeHead_66 [kO a0 2 [.ref a1, .ref a2, .int (nI (((x :: t).length) - 1))], kI K a1 10 u9, kZ K a2 10 c9] rfl ?_
          exact k_vret hC hE (Nat.le_of_ble_eq_true rfl) (Nat.le_of_ble_eq_true rfl) dX2_removeHead_69 ⟨rfl, u9, c9, rfl, mSh_end hs⟩
        · refine k_iload_n hC 1 dX2_removeHead_19 rfl rfl ?_
          refine k_bipush hC (nI 10) dX2_removeHead_20 rfl ?_
          refine k_icmp_geN hC 59 dX2_removeHead_22 (by decide) (by omega) (by omega) (fun c3 => ?_) (fun c3 => ?_)
          · exact absurd c3 (by omega)
          · refine k_aload_n hC 0 dX2_removeHead_25 rfl rfl ?_
            refine k_get hC inlX2 0 0 rfl rfl (by decide) lkF_X2_11 rfl dX2_removeHead_26 ?_
            refine k_iload_n hC 1 dX2_removeHead_29 rfl rfl ?_
            refine k_iconst hC (nI 1) dX2_removeHead_30 rfl ?_
            refine k_isubN hC dX2_removeHead_31 (by omega) ?_
            refine k_topE (nI k) rfl ?_
            refine k_aload_n hC 0 dX2_removeHead_32 rfl rfl ?_
            refine k_get hC inlX2 0 0 rfl rfl (by decide) lkF_X2_11 rfl dX2_removeHead_33 ?_
            refine k_iload_n hC 1 dX2_removeHead_36 rfl rfl ?_
            refine k_ald hC 1 rfl (by omega) (by decide) dX2_removeHead_37 ?_
            refine k_ast hC 1 rfl (by omega) (by decide) dX2_removeHead_38 [kO a0 2 [.ref a1, .ref a2, .int (nI ((x :: t).length))], kI K a1 10 (upd u9 k (u9 (k + 1))), kZ K a2 10 c9] rfl ?_
            have h3 := h1c (k + 1) (by omega)
            have h4 : vp_nar .boolean (c9 (k + 1)) = c9 (k + 1) := by rw [((hs (k + 1) (by omega)).2 (by omega)).2]; exact kz_n1 h3
            refine k_aload_n hC 0 dX2_removeHead_39 rfl rfl ?_
            refine k_get hC inlX2 0 1 rfl rfl (by decide) lkF_X2_15 rfl dX2_removeHead_40 ?_
            refine k_iload_n hC 1 dX2_removeHead_43 rfl rfl ?_
            refine k_iconst hC (nI 1) dX2_removeHead_44 rfl ?_
            refine k_isubN hC dX2_removeHead_45 (by omega) ?_
            refine k_topE (nI k) rfl ?_
            refine k_aload_n hC 0 dX2_removeHead_46 rfl rfl ?_
            refine k_get hC inlX2 0 1 rfl rfl (by decide) lkF_X2_15 rfl dX2_removeHead_47 ?_
            refine k_iload_n hC 1 dX2_removeHead_50 rfl rfl ?_
            refine k_zald hC 2 rfl (by omega) (by decide) dX2_removeHead_51 ?_
            refine k_zast hC 2 rfl (by omega) (by decide) (by assumption) dX2_removeHead_52 [kO a0 2 [.ref a1, .ref a2, .int (nI ((x :: t).length))], kI K a1 10 (upd u9 k (u9 (k + 1))), kZ K a2 10 (upd c9 k (c9 (k + 1)))] rfl ?_
            refine k_iinc hC dX2_removeHead_53 (by decide) rfl rfl (nI (k + 1 + 1)) (kinc (k + 1) 1 rfl) [(0, .ref a0), (1, .int (nI (k + 1 + 1)))] rfl ?_
            refine k_goto hC 11 dX2_removeHead_56 (by decide) ?_
            exact ih (k + 1) _ _ (by omega) (by omega) (mSh_step hs (by omega))
    exact loop (t.length + 1) 0 u c (by omega) (by omega) (mSh_0 hR)
  · exact absurd c1 (by omega)
