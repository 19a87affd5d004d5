/-! Stage: its worlds and contracts -/
abbrev wT (K : kE) (ah : Value) (a : Nat → Nat) (τ : mT) (u : Nat → Nat → Int32) : va_W := [kO (a 0) 1 [ah, .int (nI (τ.1 1)), .int (nI (τ.1 2)), .int (nI (τ.1 3)), .ref (a 1), .ref (a 4), .ref (a 7), .int (nI (τ.1 7)), .int (nI (τ.1 8)), .int (nI (τ.1 9)), .int (nI (τ.1 10)), .int (nI (τ.1 11)), .int (nI (τ.1 12)), .int (nI (τ.1 13)), .int (nI (τ.1 14)), .int (nI (τ.1 15)), .int (τ.2.1 0), .int (τ.2.1 1)], kO (a 1) 2 [.ref (a 2), .ref (a 3), .int (nI (τ.2.2 0).length)], kI K (a 2) 10 (u 0), kZ K (a 3) 10 (u 1), kO (a 4) 2 [.ref (a 5), .ref (a 6), .int (nI (τ.2.2 1).length)], kI K (a 5) 10 (u 2), kZ K (a 6) 10 (u 3), kO (a 7) 0 [.ref (a 8), .ref (a 9), .int (nI (τ.2.2 2).length)], kI K (a 8) 5 (u 4), kI K (a 9) 5 (u 5)]
def mRT (τ : mT) (u : Nat → Nat → Int32) : Prop := mR (τ.2.2 0) (u 0) (u 1) ∧ mR (τ.2.2 1) (u 2) (u 3) ∧ mR (τ.2.2 2) (u 4) (u 5)
theorem kminN {a b : Nat} (ha : a < 2 ^ 31) (hb : b < 2 ^ 31) : (if nI a < nI b then nI a else nI b) = nI (min b a) := by
  rcases Nat.le_total a b with h | h
  · rw [kmin_le ha hb h, Nat.min_eq_right h]
  · rw [kmin_gt ha hb h, Nat.min_eq_left h]
abbrev rmX1_goOn : Room := { frames := 1, cells := 0, slots := 0, locals := 21 }
set_option maxRecDepth 100000 in
set_option maxHeartbeats 4000000 in
theorem cX1_goOn_k (l : Launch) (K : kE) (a : Nat → Nat) (ah : Value) (τ : mT) (u : Nat → Nat → Int32) (b : Bool) (hI : mInv b τ) (hT : mRT τ u) : kM l yX1_goOn (kws yX1_goOn cX1_goOn 1 none) rmX1_goOn K [.ref (a 0)] (wT K ah a τ u) (fun v w => v = none ∧ ∃ u2 : Nat → Nat → Int32, w = wT K ah a (mGoOn τ) u2 ∧ mRT (mGoOn τ) u2) := by
  refine kM_of (pl := []) (X := (wT K ah a τ u)) rfl (by decide) (Nat.le_of_ble_eq_true rfl) ?_
  intro p e s m args below meth cd A Q hC hnm hE
  refine k_eX (show _ = [kO (a 0) 1 [ah, .int (nI (τ.1 1)), .int (nI (τ.1 2)), .int (nI (τ.1 3)), .ref (a 1), .ref (a 4), .ref (a 7), .int (nI (τ.1 7)), .int (nI (τ.1 8)), .int (nI (τ.1 9)), .int (nI (τ.1 10)), .int (nI (τ.1 11)), .int (nI (τ.1 12)), .int (nI (τ.1 13)), .int (nI (τ.1 14)), .int (nI (τ.1 15)), .int (τ.2.1 0), .int (τ.2.1 1)], kO (a 1) 2 [.ref (a 2), .ref (a 3), .int (nI ((τ.2.2 0).length))], kI K (a 2) 10 (u 0), kZ K (a 3) 10 (u 1), kO (a 4) 2 [.ref (a 5), .ref (a 6), .int (nI ((τ.2.2 1).length))], kI K (a 5) 10 (u 2), kZ K (a 6) 10 (u 3), kO (a 7) 0 [.ref (a 8), .ref (a 9), .int (nI ((τ.2.2 2).length))], kI K (a 8) 5 (u 4), kI K (a 9) 5 (u 5)] from rfl) ?_
  have hn := hI.1
  have hl0 := mInv_L0 hI
  have hl1 := mInv_L1 hI
  have hl2 := mInv_L2 hI
  have h89 : τ.1 9 ≤ 9 := by have := hI.2.1; omega
  refine k_aload_n hC 0 dX1_goOn_0 rfl rfl ?_
  refine k_get hC inlX1 0 10 rfl rfl (by decide) lkF_X1_60 rfl dX1_goOn_1 ?_
  refine k_if_leN hC 35 dX1_goOn_4 (by decide) (by omega) (fun c1 => ?_) (fun c1 => ?_)
  · exact k_vret hC hE (Nat.le_of_ble_eq_true rfl) (Nat.le_of_ble_eq_true rfl) dX1_goOn_35 (by rw [show mGoOn τ = τ by unfold mGoOn; rw [if_pos c1]]; exact ⟨rfl, u, rfl, hT⟩)
  · refine k_aload_n hC 0 dX1_goOn_7 rfl rfl ?_
    refine k_dup hC dX1_goOn_8 rfl ?_
    refine k_get hC inlX1 0 10 rfl rfl (by decide) lkF_X1_60 rfl dX1_goOn_9 ?_
    refine k_iconst hC (nI 1) dX1_goOn_12 rfl ?_
    refine k_isubN hC dX1_goOn_13 (by omega) ?_
    refine k_put hC inlX1 tyX1_ok nmX1 0 10 rfl rfl (by decide) lkF_X1_60 rfl rfl rfl (Nat.le_of_ble_eq_true rfl) dX1_goOn_14 [kO (a 0) 1 [ah, .int (nI (τ.1 1)), .int (nI (τ.1 2)), .int (nI (τ.1 3)), .ref (a 1), .ref (a 4), .ref (a 7), .int (nI (τ.1 7)), .int (nI (τ.1 8)), .int (nI (τ.1 9)), .int (nI ((τ.1 10) - 1)), .int (nI (τ.1 11)), .int (nI (τ.1 12)), .int (nI (τ.1 13)), .int (nI (τ.1 14)), .int (nI (τ.1 15)), .int (τ.2.1 0), .int (τ.2.1 1)], kO (a 1) 2 [.ref (a 2), .ref (a 3), .int (nI ((τ.2.2 0).length))], kI K (a 2) 10 (u 0), kZ K (a 3) 10 (u 1), kO (a 4) 2 [.ref (a 5), .ref (a 6), .int (nI ((τ.2.2 1).length))], kI K (a 5) 10 (u 2), kZ K (a 6) 10 (u 3), kO (a 7) 0 [.ref (a 8), .ref (a 9), .int (nI ((τ.2.2 2).length))], kI K (a 8) 5 (u 4), kI K (a 9) 5 (u 5)] rfl ?_
    refine k_aload_n hC 0 dX1_goOn_17 rfl rfl ?_
    refine k_get hC inlX1 0 10 rfl rfl (by decide) lkF_X1_60 rfl dX1_goOn_18 ?_
    refine k_if_neN hC 35 dX1_goOn_21 (by decide) (by omega) (fun c2 => ?_) (fun c2 => ?_)
    · exact k_vret hC hE (Nat.le_of_ble_eq_true rfl) (Nat.le_of_ble_eq_true rfl) dX1_goOn_35 (by rw [show mGoOn τ = (va_up τ.1 10 (τ.1 10 - 1), τ.2.1, τ.2.2) by unfold mGoOn; rw [if_neg c1, if_neg (by omega)]]; exact ⟨rfl, u, rfl, hT⟩)
    · have h10 : τ.1 10 = 1 := by omega
      refine k_aload_n hC 0 dX1_goOn_24 rfl rfl ?_
      refine k_get hC inlX1 0 4 rfl rfl (by decide) lkF_X1_37 rfl dX1_goOn_25 ?_
      refine k_aload_n hC 0 dX1_goOn_28 rfl rfl ?_
      refine k_get hC inlX1 0 2 rfl rfl (by decide) lkF_X1_17 rfl dX1_goOn_29 ?_
      refine k_perm [1, 2, 3, 0, 4, 5, 6, 7, 8, 9] [kO (a 1) 2 [.ref (a 2), .ref (a 3), .int (nI ((τ.2.2 0).length))], kI K (a 2) 10 (u 0), kZ K (a 3) 10 (u 1), kO (a 0) 1 [ah, .int (nI (τ.1 1)), .int (nI (τ.1 2)), .int (nI (τ.1 3)), .ref (a 1), .ref (a 4), .ref (a 7), .int (nI (τ.1 7)), .int (nI (τ.1 8)), .int (nI (τ.1 9)), .int (nI ((τ.1 10) - 1)), .int (nI (τ.1 11)), .int (nI (τ.1 12)), .int (nI (τ.1 13)), .int (nI (τ.1 14)), .int (nI (τ.1 15)), .int (τ.2.1 0), .int (τ.2.1 1)], kO (a 4) 2 [.ref (a 5), .ref (a 6), .int (nI ((τ.2.2 1).length))], kI K (a 5) 10 (u 2), kZ K (a 6) 10 (u 3), kO (a 7) 0 [.ref (a 8), .ref (a 9), .int (nI ((τ.2.2 2).length))], kI K (a 8) 5 (u 4), kI K (a 9) 5 (u 5)] rfl rfl ?_
      refine k_callVN hC (As := [.int (nI (τ.1 2))]) (cX2_add_k l K (a 1) (a 2) (a 3) (u 0) (u 1) (τ.2.2 0) (τ.1 2) (by rw [if_neg c1] at hl0; omega) hT.1) [kO (a 0) 1 [ah, .int (nI (τ.1 1)), .int (nI (τ.1 2)), .int (nI (τ.1 3)), .ref (a 1), .ref (a 4), .ref (a 7), .int (nI (τ.1 7)), .int (nI (τ.1 8)), .int (nI (τ.1 9)), .int (nI ((τ.1 10) - 1)), .int (nI (τ.1 11)), .int (nI (τ.1 12)), .int (nI (τ.1 13)), .int (nI (τ.1 14)), .int (nI (τ.1 15)), .int (τ.2.1 0), .int (τ.2.1 1)], kO (a 4) 2 [.ref (a 5), .ref (a 6), .int (nI ((τ.2.2 1).length))], kI K (a 5) 10 (u 2), kZ K (a 6) 10 (u 3), kO (a 7) 0 [.ref (a 8), .ref (a 9), .int (nI ((τ.2.2 2).length))], kI K (a 8) 5 (u 4), kI K (a 9) 5 (u 5)] rfl 0 rfl rfl (kAll4 lkI_yX2_add lkS_yX2_add lkN_X2 lkC_yX2_add) (List.mem_of_getElem? (i := 6) rfl) 1 (by decide) ⟨(Nat.le_of_ble_eq_true rfl), (Nat.le_of_ble_eq_true rfl)⟩ rfl rfl (Nat.le_of_ble_eq_true rfl) ⟨(Nat.le_of_ble_eq_true rfl), (Nat.le_of_ble_eq_true rfl)⟩ dX1_goOn_32 (fun v w h => ?_)
      obtain ⟨rfl, u3, c3, rfl, hR3⟩ := h
      refine k_re 0 0 [kO (a 1) 2 [.ref (a 2), .ref (a 3), .int (nI ((τ.2.2 0 ++ [(τ.1 2, 1)]).length))], kI K (a 2) 10 u3, kZ K (a 3) 10 c3, kO (a 0) 1 [ah, .int (nI (τ.1 1)), .int (nI (τ.1 2)), .int (nI (τ.1 3)), .ref (a 1), .ref (a 4), .ref (a 7), .int (nI (τ.1 7)), .int (nI (τ.1 8)), .int (nI (τ.1 9)), .int (nI ((τ.1 10) - 1)), .int (nI (τ.1 11)), .int (nI (τ.1 12)), .int (nI (τ.1 13)), .int (nI (τ.1 14)), .int (nI (τ.1 15)), .int (τ.2.1 0), .int (τ.2.1 1)], kO (a 4) 2 [.ref (a 5), .ref (a 6), .int (nI ((τ.2.2 1).length))], kI K (a 5) 10 (u 2), kZ K (a 6) 10 (u 3), kO (a 7) 0 [.ref (a 8), .ref (a 9), .int (nI ((τ.2.2 2).length))], kI K (a 8) 5 (u 4), kI K (a 9) 5 (u 5)] [] rfl rfl rfl rfl ?_
      refine k_perm [3, 0, 1, 2, 4, 5, 6, 7, 8, 9] [kO (a 0) 1 [ah, .int (nI (τ.1 1)), .int (nI (τ.1 2)), .int (nI (τ.1 3)), .ref (a 1), .ref (a 4), .ref (a 7), .int (nI (τ.1 7)), .int (nI (τ.1 8)), .int (nI (τ.1 9)), .int (nI ((τ.1 10) - 1)), .int (nI (τ.1 11)), .int (nI (τ.1 12)), .int (nI (τ.1 13)), .int (nI (τ.1 14)), .int (nI (τ.1 15)), .int (τ.2.1 0), .int (τ.2.1 1)], kO (a 1) 2 [.ref (a 2), .ref (a 3), .int (nI ((τ.2.2 0 ++ [(τ.1 2, 1)]).length))], kI K (a 2) 10 u3, kZ K (a 3) 10 c3, kO (a 4) 2 [.ref (a 5), .ref (a 6), .int (nI ((τ.2.2 1).length))], kI K (a 5) 10 (u 2), kZ K (a 6) 10 (u 3), kO (a 7) 0 [.ref (a 8), .ref (a 9), .int (nI ((τ.2.2 2).length))], kI K (a 8) 5 (u 4), kI K (a 9) 5 (u 5)] rfl rfl ?_
      exact k_vret hC hE (Nat.le_of_ble_eq_true rfl) (Nat.le_of_ble_eq_true rfl) dX1_goOn_35 (by rw [show mGoOn τ = (va_up τ.1 10 (τ.1 10 - 1), τ.2.1, va_up τ.2.2 0 (τ.2.2 0 ++ [(τ.1 2, 1)])) by unfold mGoOn; rw [if_neg c1, if_pos h10]]; exact ⟨rfl, va_up (va_up u 0 u3) 1 c3, rfl, hR3, hT.2.1, hT.2.2⟩)
abbrev rmX1_begin : Room := { frames := 2, cells := 0, slots := 0, locals := 57 }
set_option maxRecDepth 100000 in
set_option maxHeartbeats 4000000 in
theorem cX1_begin_k0 (l : Launch) (K : kE) (a : Nat → Nat) (τ : mT) (u : Nat → Nat → Int32) (r : Bool) (hI : mInv true τ) (hT : mRT τ u) (h11 : τ.1 11 ≠ 0) : kM l yX1_begin (kws yX1_begin cX1_begin 2 none) rmX1_begin K [.ref (a 0), .int (kB r)] (wT K .null a τ u) (fun v w => v = none ∧ ∃ u2 : Nat → Nat → Int32, w = wT K .null a (mBegin r true τ) u2 ∧ mRT (mBegin r true τ) u2) := by
  refine kM_of (pl := []) (X := (wT K .null a τ u)) rfl (by decide) (Nat.le_of_ble_eq_true rfl) ?_
  intro p e s m args below meth cd A Q hC hnm hE
  refine k_eX (show _ = [kO (a 0) 1 [.null, .int (nI (τ.1 1)), .int (nI (τ.1 2)), .int (nI (τ.1 3)), .ref (a 1), .ref (a 4), .ref (a 7), .int (nI (τ.1 7)), .int (nI (τ.1 8)), .int (nI (τ.1 9)), .int (nI (τ.1 10)), .int (nI (τ.1 11)), .int (nI (τ.1 12)), .int (nI (τ.1 13)), .int (nI (τ.1 14)), .int (nI (τ.1 15)), .int (τ.2.1 0), .int (τ.2.1 1)], kO (a 1) 2 [.ref (a 2), .ref (a 3), .int (nI ((τ.2.2 0).length))], kI K (a 2) 10 (u 0), kZ K (a 3) 10 (u 1), kO (a 4) 2 [.ref (a 5), .ref (a 6), .int (nI ((τ.2.2 1).length))], kI K (a 5) 10 (u 2), kZ K (a 6) 10 (u 3), kO (a 7) 0 [.ref (a 8), .ref (a 9), .int (nI ((τ.2.2 2).length))], kI K (a 8) 5 (u 4), kI K (a 9) 5 (u 5)] from rfl) ?_
  have hn := hI.1
  have hl0 := mInv_L0 hI
  have hl1 := mInv_L1 hI
  have hl2 := mInv_L2 hI
  have h89 : τ.1 9 ≤ 9 := by have := hI.2.1; omega
  refine k_aload_n hC 0 dX1_begin_0 rfl rfl ?_
  refine k_get hC inlX1 0 0 rfl rfl (by decide) lkF_X1_7 rfl dX1_begin_1 ?_
  refine k_ifnonnullN hC dX1_begin_4 ?_
  refine k_aload_n hC 0 dX1_begin_7 rfl rfl ?_
  refine k_dup hC dX1_begin_8 rfl ?_
  refine k_get hC inlX1 0 17 rfl rfl (by decide) lkF_X1_57 rfl dX1_begin_9 ?_
  refine k_aload_n hC 0 dX1_begin_12 rfl rfl ?_
  refine k_get hC inlX1 0 2 rfl rfl (by decide) lkF_X1_17 rfl dX1_begin_13 ?_
  refine k_iadd hC dX1_begin_16 ?_
  refine k_put hC inlX1 tyX1_ok nmX1 0 17 rfl rfl (by decide) lkF_X1_57 rfl rfl rfl (Nat.le_of_ble_eq_true rfl) dX1_begin_17 [kO (a 0) 1 [.null, .int (nI (τ.1 1)), .int (nI (τ.1 2)), .int (nI (τ.1 3)), .ref (a 1), .ref (a 4), .ref (a 7), .int (nI (τ.1 7)), .int (nI (τ.1 8)), .int (nI (τ.1 9)), .int (nI (τ.1 10)), .int (nI (τ.1 11)), .int (nI (τ.1 12)), .int (nI (τ.1 13)), .int (nI (τ.1 14)), .int (nI (τ.1 15)), .int (τ.2.1 0), .int ((τ.2.1 1) + nI (τ.1 2))], kO (a 1) 2 [.ref (a 2), .ref (a 3), .int (nI ((τ.2.2 0).length))], kI K (a 2) 10 (u 0), kZ K (a 3) 10 (u 1), kO (a 4) 2 [.ref (a 5), .ref (a 6), .int (nI ((τ.2.2 1).length))], kI K (a 5) 10 (u 2), kZ K (a 6) 10 (u 3), kO (a 7) 0 [.ref (a 8), .ref (a 9), .int (nI ((τ.2.2 2).length))], kI K (a 8) 5 (u 4), kI K (a 9) 5 (u 5)] rfl ?_
  refine k_goto hC 44 dX1_begin_20 (by decide) ?_
  refine k_aload_n hC 0 dX1_begin_44 rfl rfl ?_
  refine k_dup hC dX1_begin_45 rfl ?_
  refine k_get hC inlX1 0 9 rfl rfl (by decide) lkF_X1_29 rfl dX1_begin_46 ?_
  refine k_iconst hC (nI 1) dX1_begin_49 rfl ?_
  refine k_isubN hC dX1_begin_50 (by omega) ?_
  refine k_put hC inlX1 tyX1_ok nmX1 0 9 rfl rfl (by decide) lkF_X1_29 rfl rfl rfl (Nat.le_of_ble_eq_true rfl) dX1_begin_51 [kO (a 0) 1 [.null, .int (nI (τ.1 1)), .int (nI (τ.1 2)), .int (nI (τ.1 3)), .ref (a 1), .ref (a 4), .ref (a 7), .int (nI (τ.1 7)), .int (nI (τ.1 8)), .int (nI ((τ.1 9) - 1)), .int (nI (τ.1 10)), .int (nI (τ.1 11)), .int (nI (τ.1 12)), .int (nI (τ.1 13)), .int (nI (τ.1 14)), .int (nI (τ.1 15)), .int (τ.2.1 0), .int ((τ.2.1 1) + nI (τ.1 2))], kO (a 1) 2 [.ref (a 2), .ref (a 3), .int (nI ((τ.2.2 0).length))], kI K (a 2) 10 (u 0), kZ K (a 3) 10 (u 1), kO (a 4) 2 [.ref (a 5), .ref (a 6), .int (nI ((τ.2.2 1).length))], kI K (a 5) 10 (u 2), kZ K (a 6) 10 (u 3), kO (a 7) 0 [.ref (a 8), .ref (a 9), .int (nI ((τ.2.2 2).length))], kI K (a 8) 5 (u 4), kI K (a 9) 5 (u 5)] rfl ?_
  refine k_aload_n hC 0 dX1_begin_54 rfl rfl ?_
  refine k_dup hC dX1_begin_55 rfl ?_
  refine k_get hC inlX1 0 11 rfl rfl (by decide) lkF_X1_75 rfl dX1_begin_56 ?_
  refine k_iconst hC (nI 1) dX1_begin_59 rfl ?_
  refine k_isubN hC dX1_begin_60 (by omega) ?_
  refine k_put hC inlX1 tyX1_ok nmX1 0 11 rfl rfl (by decide) lkF_X1_75 rfl rfl rfl (Nat.le_of_ble_eq_true rfl) dX1_begin_61 [kO (a 0) 1 [.null, .int (nI (τ.1 1)), .int (nI (τ.1 2)), .int (nI (τ.1 3)), .ref (a 1), .ref (a 4), .ref (a 7), .int (nI (τ.1 7)), .int (nI (τ.1 8)), .int (nI ((τ.1 9) - 1)), .int (nI (τ.1 10)), .int (nI ((τ.1 11) - 1)), .int (nI (τ.1 12)), .int (nI (τ.1 13)), .int (nI (τ.1 14)), .int (nI (τ.1 15)), .int (τ.2.1 0), .int ((τ.2.1 1) + nI (τ.1 2))], kO (a 1) 2 [.ref (a 2), .ref (a 3), .int (nI ((τ.2.2 0).length))], kI K (a 2) 10 (u 0), kZ K (a 3) 10 (u 1), kO (a 4) 2 [.ref (a 5), .ref (a 6), .int (nI ((τ.2.2 1).length))], kI K (a 5) 10 (u 2), kZ K (a 6) 10 (u 3), kO (a 7) 0 [.ref (a 8), .ref (a 9), .int (nI ((τ.2.2 2).length))], kI K (a 8) 5 (u 4), kI K (a 9) 5 (u 5)] rfl ?_
  refine k_aload_n hC 0 dX1_begin_64 rfl rfl ?_
  refine k_aload_n hC 0 dX1_begin_65 rfl rfl ?_
  refine k_get hC inlX1 0 3 rfl rfl (by decide) lkF_X1_20 rfl dX1_begin_66 ?_
  refine k_put hC inlX1 tyX1_ok nmX1 0 10 rfl rfl (by decide) lkF_X1_60 rfl rfl rfl (Nat.le_of_ble_eq_true rfl) dX1_begin_69 [kO (a 0) 1 [.null, .int (nI (τ.1 1)), .int (nI (τ.1 2)), .int (nI (τ.1 3)), .ref (a 1), .ref (a 4), .ref (a 7), .int (nI (τ.1 7)), .int (nI (τ.1 8)), .int (nI ((τ.1 9) - 1)), .int (nI (τ.1 3)), .int (nI ((τ.1 11) - 1)), .int (nI (τ.1 12)), .int (nI (τ.1 13)), .int (nI (τ.1 14)), .int (nI (τ.1 15)), .int (τ.2.1 0), .int ((τ.2.1 1) + nI (τ.1 2))], kO (a 1) 2 [.ref (a 2), .ref (a 3), .int (nI ((τ.2.2 0).length))], kI K (a 2) 10 (u 0), kZ K (a 3) 10 (u 1), kO (a 4) 2 [.ref (a 5), .ref (a 6), .int (nI ((τ.2.2 1).length))], kI K (a 5) 10 (u 2), kZ K (a 6) 10 (u 3), kO (a 7) 0 [.ref (a 8), .ref (a 9), .int (nI ((τ.2.2 2).length))], kI K (a 8) 5 (u 4), kI K (a 9) 5 (u 5)] rfl ?_
  exact k_vret hC hE (Nat.le_of_ble_eq_true rfl) (Nat.le_of_ble_eq_true rfl) dX1_begin_72 ⟨rfl, u, rfl, hT⟩
set_option maxRecDepth 100000 in
set_option maxHeartbeats 4000000 in
theorem cX1_begin_k1 (l : Launch) (K : kE) (p0 : Nat) (a : Nat → Nat) (τ : mT) (u : Nat → Nat → Int32) (r : Bool) (hI : mInv false τ) (hT : mRT τ u) (h11 : τ.1 11 ≠ 0) : kM l yX1_begin (kws yX1_begin cX1_begin 2 none) rmX1_begin K [.ref (a 0), .int (kB r)] (wT K (.ref p0) a τ u) (fun v w => v = none ∧ ∃ u2 : Nat → Nat → Int32, w = wT K (.ref p0) a (mBegin r false τ) u2 ∧ mRT (mBegin r false τ) u2) := by
  refine kM_of (pl := []) (X := (wT K (.ref p0) a τ u)) rfl (by decide) (Nat.le_of_ble_eq_true rfl) ?_
  intro p e s m args below meth cd A Q hC hnm hE
  refine k_eX (show _ = [kO (a 0) 1 [.ref p0, .int (nI (τ.1 1)), .int (nI (τ.1 2)), .int (nI (τ.1 3)), .ref (a 1), .ref (a 4), .ref (a 7), .int (nI (τ.1 7)), .int (nI (τ.1 8)), .int (nI (τ.1 9)), .int (nI (τ.1 10)), .int (nI (τ.1 11)), .int (nI (τ.1 12)), .int (nI (τ.1 13)), .int (nI (τ.1 14)), .int (nI (τ.1 15)), .int (τ.2.1 0), .int (τ.2.1 1)], kO (a 1) 2 [.ref (a 2), .ref (a 3), .int (nI ((τ.2.2 0).length))], kI K (a 2) 10 (u 0), kZ K (a 3) 10 (u 1), kO (a 4) 2 [.ref (a 5), .ref (a 6), .int (nI ((τ.2.2 1).length))], kI K (a 5) 10 (u 2), kZ K (a 6) 10 (u 3), kO (a 7) 0 [.ref (a 8), .ref (a 9), .int (nI ((τ.2.2 2).length))], kI K (a 8) 5 (u 4), kI K (a 9) 5 (u 5)] from rfl) ?_
  have hn := hI.1
  have hl0 := mInv_L0 hI
  have hl1 := mInv_L1 hI
  have hl2 := mInv_L2 hI
  have h89 : τ.1 9 ≤ 9 := by have := hI.2.1; omega
  refine k_aload_n hC 0 dX1_begin_0 rfl rfl ?_
  refine k_get hC inlX1 0 0 rfl rfl (by decide) lkF_X1_7 rfl dX1_begin_1 ?_
  refine k_ifnonnull hC 23 dX1_begin_4 (by decide) ?_
  refine k_aload_n hC 0 dX1_begin_23 rfl rfl ?_
  refine k_dup hC dX1_begin_24 rfl ?_
  refine k_get hC inlX1 0 14 rfl rfl (by decide) lkF_X1_54 rfl dX1_begin_25 ?_
  refine k_aload_n hC 0 dX1_begin_28 rfl rfl ?_
  refine k_get hC inlX1 0 5 rfl rfl (by decide) lkF_X1_41 rfl dX1_begin_29 ?_
  refine k_aload_n hC 0 dX1_begin_32 rfl rfl ?_
  refine k_get hC inlX1 0 2 rfl rfl (by decide) lkF_X1_17 rfl dX1_begin_33 ?_
  refine k_iload_n hC 1 dX1_begin_36 rfl rfl ?_
  refine k_perm [4, 5, 6, 0, 1, 2, 3, 7, 8, 9] [kO (a 4) 2 [.ref (a 5), .ref (a 6), .int (nI ((τ.2.2 1).length))], kI K (a 5) 10 (u 2), kZ K (a 6) 10 (u 3), kO (a 0) 1 [.ref p0, .int (nI (τ.1 1)), .int (nI (τ.1 2)), .int (nI (τ.1 3)), .ref (a 1), .ref (a 4), .ref (a 7), .int (nI (τ.1 7)), .int (nI (τ.1 8)), .int (nI (τ.1 9)), .int (nI (τ.1 10)), .int (nI (τ.1 11)), .int (nI (τ.1 12)), .int (nI (τ.1 13)), .int (nI (τ.1 14)), .int (nI (τ.1 15)), .int (τ.2.1 0), .int (τ.2.1 1)], kO (a 1) 2 [.ref (a 2), .ref (a 3), .int (nI ((τ.2.2 0).length))], kI K (a 2) 10 (u 0), kZ K (a 3) 10 (u 1), kO (a 7) 0 [.ref (a 8), .ref (a 9), .int (nI ((τ.2.2 2).length))], kI K (a 8) 5 (u 4), kI K (a 9) 5 (u 5)] rfl rfl ?_
  refine k_callVN hC (As := [.int (nI (τ.1 2)), .int (kB r)]) (cX2_takeOut_k l K (a 4) (a 5) (a 6) (u 2) (u 3) (τ.2.2 1) (nI (τ.1 2)) (τ.1 2) r (by omega) hT.2.1 hI.2.2.2.2.1 (Or.inl ⟨rfl, by omega⟩)) [kO (a 0) 1 [.ref p0, .int (nI (τ.1 1)), .int (nI (τ.1 2)), .int (nI (τ.1 3)), .ref (a 1), .ref (a 4), .ref (a 7), .int (nI (τ.1 7)), .int (nI (τ.1 8)), .int (nI (τ.1 9)), .int (nI (τ.1 10)), .int (nI (τ.1 11)), .int (nI (τ.1 12)), .int (nI (τ.1 13)), .int (nI (τ.1 14)), .int (nI (τ.1 15)), .int (τ.2.1 0), .int (τ.2.1 1)], kO (a 1) 2 [.ref (a 2), .ref (a 3), .int (nI ((τ.2.2 0).length))], kI K (a 2) 10 (u 0), kZ K (a 3) 10 (u 1), kO (a 7) 0 [.ref (a 8), .ref (a 9), .int (nI ((τ.2.2 2).length))], kI K (a 8) 5 (u 4), kI K (a 9) 5 (u 5)] rfl 0 rfl rfl (kAll4 lkI_yX2_takeOut lkS_yX2_takeOut lkN_X2 lkC_yX2_takeOut) (List.mem_of_getElem? (i := 8) rfl) 2 (by decide) ⟨(Nat.le_of_ble_eq_true rfl), (Nat.le_of_ble_eq_true rfl)⟩ rfl rfl (Nat.le_of_ble_eq_true rfl) ⟨(Nat.le_of_ble_eq_true rfl), (Nat.le_of_ble_eq_true rfl)⟩ dX1_begin_37 (fun v w h => ?_)
  obtain ⟨rfl, u3, c3, rfl, hR3⟩ := h
  refine k_re 0 0 [kO (a 4) 2 [.ref (a 5), .ref (a 6), .int (nI ((mTake (τ.2.2 1) (τ.1 2) r).1.length))], kI K (a 5) 10 u3, kZ K (a 6) 10 c3, kO (a 0) 1 [.ref p0, .int (nI (τ.1 1)), .int (nI (τ.1 2)), .int (nI (τ.1 3)), .ref (a 1), .ref (a 4), .ref (a 7), .int (nI (τ.1 7)), .int (nI (τ.1 8)), .int (nI (τ.1 9)), .int (nI (τ.1 10)), .int (nI (τ.1 11)), .int (nI (τ.1 12)), .int (nI (τ.1 13)), .int (nI (τ.1 14)), .int (nI (τ.1 15)), .int (τ.2.1 0), .int (τ.2.1 1)], kO (a 1) 2 [.ref (a 2), .ref (a 3), .int (nI ((τ.2.2 0).length))], kI K (a 2) 10 (u 0), kZ K (a 3) 10 (u 1), kO (a 7) 0 [.ref (a 8), .ref (a 9), .int (nI ((τ.2.2 2).length))], kI K (a 8) 5 (u 4), kI K (a 9) 5 (u 5)] [.int (nI ((mTake (τ.2.2 1) (τ.1 2) r).2)), .int (nI (τ.1 14)), .ref (a 0)] rfl rfl rfl rfl ?_
  refine k_perm [3, 4, 5, 6, 0, 1, 2, 7, 8, 9] [kO (a 0) 1 [.ref p0, .int (nI (τ.1 1)), .int (nI (τ.1 2)), .int (nI (τ.1 3)), .ref (a 1), .ref (a 4), .ref (a 7), .int (nI (τ.1 7)), .int (nI (τ.1 8)), .int (nI (τ.1 9)), .int (nI (τ.1 10)), .int (nI (τ.1 11)), .int (nI (τ.1 12)), .int (nI (τ.1 13)), .int (nI (τ.1 14)), .int (nI (τ.1 15)), .int (τ.2.1 0), .int (τ.2.1 1)], kO (a 1) 2 [.ref (a 2), .ref (a 3), .int (nI ((τ.2.2 0).length))], kI K (a 2) 10 (u 0), kZ K (a 3) 10 (u 1), kO (a 4) 2 [.ref (a 5), .ref (a 6), .int (nI ((mTake (τ.2.2 1) (τ.1 2) r).1.length))], kI K (a 5) 10 u3, kZ K (a 6) 10 c3, kO (a 7) 0 [.ref (a 8), .ref (a 9), .int (nI ((τ.2.2 2).length))], kI K (a 8) 5 (u 4), kI K (a 9) 5 (u 5)] rfl rfl ?_
  refine k_iaddN hC dX1_begin_40 ?_
  refine k_put hC inlX1 tyX1_ok nmX1 0 14 rfl rfl (by decide) lkF_X1_54 rfl rfl rfl (Nat.le_of_ble_eq_true rfl) dX1_begin_41 [kO (a 0) 1 [.ref p0, .int (nI (τ.1 1)), .int (nI (τ.1 2)), .int (nI (τ.1 3)), .ref (a 1), .ref (a 4), .ref (a 7), .int (nI (τ.1 7)), .int (nI (τ.1 8)), .int (nI (τ.1 9)), .int (nI (τ.1 10)), .int (nI (τ.1 11)), .int (nI (τ.1 12)), .int (nI (τ.1 13)), .int (nI ((τ.1 14) + ((mTake (τ.2.2 1) (τ.1 2) r).2))), .int (nI (τ.1 15)), .int (τ.2.1 0), .int (τ.2.1 1)], kO (a 1) 2 [.ref (a 2), .ref (a 3), .int (nI ((τ.2.2 0).length))], kI K (a 2) 10 (u 0), kZ K (a 3) 10 (u 1), kO (a 4) 2 [.ref (a 5), .ref (a 6), .int (nI ((mTake (τ.2.2 1) (τ.1 2) r).1.length))], kI K (a 5) 10 u3, kZ K (a 6) 10 c3, kO (a 7) 0 [.ref (a 8), .ref (a 9), .int (nI ((τ.2.2 2).length))], kI K (a 8) 5 (u 4), kI K (a 9) 5 (u 5)] rfl ?_
  refine k_aload_n hC 0 dX1_begin_44 rfl rfl ?_
  refine k_dup hC dX1_begin_45 rfl ?_
  refine k_get hC inlX1 0 9 rfl rfl (by decide) lkF_X1_29 rfl dX1_begin_46 ?_
  refine k_iconst hC (nI 1) dX1_begin_49 rfl ?_
  refine k_isubN hC dX1_begin_50 (by omega) ?_
  refine k_put hC inlX1 tyX1_ok nmX1 0 9 rfl rfl (by decide) lkF_X1_29 rfl rfl rfl (Nat.le_of_ble_eq_true rfl) dX1_begin_51 [kO (a 0) 1 [.ref p0, .int (nI (τ.1 1)), .int (nI (τ.1 2)), .int (nI (τ.1 3)), .ref (a 1), .ref (a 4), .ref (a 7), .int (nI (τ.1 7)), .int (nI (τ.1 8)), .int (nI ((τ.1 9) - 1)), .int (nI (τ.1 10)), .int (nI (τ.1 11)), .int (nI (τ.1 12)), .int (nI (τ.1 13)), .int (nI ((τ.1 14) + ((mTake (τ.2.2 1) (τ.1 2) r).2))), .int (nI (τ.1 15)), .int (τ.2.1 0), .int (τ.2.1 1)], kO (a 1) 2 [.ref (a 2), .ref (a 3), .int (nI ((τ.2.2 0).length))], kI K (a 2) 10 (u 0), kZ K (a 3) 10 (u 1), kO (a 4) 2 [.ref (a 5), .ref (a 6), .int (nI ((mTake (τ.2.2 1) (τ.1 2) r).1.length))], kI K (a 5) 10 u3, kZ K (a 6) 10 c3, kO (a 7) 0 [.ref (a 8), .ref (a 9), .int (nI ((τ.2.2 2).length))], kI K (a 8) 5 (u 4), kI K (a 9) 5 (u 5)] rfl ?_
  refine k_aload_n hC 0 dX1_begin_54 rfl rfl ?_
  refine k_dup hC dX1_begin_55 rfl ?_
  refine k_get hC inlX1 0 11 rfl rfl (by decide) lkF_X1_75 rfl dX1_begin_56 ?_
  refine k_iconst hC (nI 1) dX1_begin_59 rfl ?_
  refine k_isubN hC dX1_begin_60 (by omega) ?_
  refine k_put hC inlX1 tyX1_ok nmX1 0 11 rfl rfl (by decide) lkF_X1_75 rfl rfl rfl (Nat.le_of_ble_eq_true rfl) dX1_begin_61 [kO (a 0) 1 [.ref p0, .int (nI (τ.1 1)), .int (nI (τ.1 2)), .int (nI (τ.1 3)), .ref (a 1), .ref (a 4), .ref (a 7), .int (nI (τ.1 7)), .int (nI (τ.1 8)), .int (nI ((τ.1 9) - 1)), .int (nI (τ.1 10)), .int (nI ((τ.1 11) - 1)), .int (nI (τ.1 12)), .int (nI (τ.1 13)), .int (nI ((τ.1 14) + ((mTake (τ.2.2 1) (τ.1 2) r).2))), .int (nI (τ.1 15)), .int (τ.2.1 0), .int (τ.2.1 1)], kO (a 1) 2 [.ref (a 2), .ref (a 3), .int (nI ((τ.2.2 0).length))], kI K (a 2) 10 (u 0), kZ K (a 3) 10 (u 1), kO (a 4) 2 [.ref (a 5), .ref (a 6), .int (nI ((mTake (τ.2.2 1) (τ.1 2) r).1.length))], kI K (a 5) 10 u3, kZ K (a 6) 10 c3, kO (a 7) 0 [.ref (a 8), .ref (a 9), .int (nI ((τ.2.2 2).length))], kI K (a 8) 5 (u 4), kI K (a 9) 5 (u 5)] rfl ?_
  refine k_aload_n hC 0 dX1_begin_64 rfl rfl ?_
  refine k_aload_n hC 0 dX1_begin_65 rfl rfl ?_
  refine k_get hC inlX1 0 3 rfl rfl (by decide) lkF_X1_20 rfl dX1_begin_66 ?_
  refine k_put hC inlX1 tyX1_ok nmX1 0 10 rfl rfl (by decide) lkF_X1_60 rfl rfl rfl (Nat.le_of_ble_eq_true rfl) dX1_begin_69 [kO (a 0) 1 [.ref p0, .int (nI (τ.1 1)), .int (nI (τ.1 2)), .int (nI (τ.1 3)), .ref (a 1), .ref (a 4), .ref (a 7), .int (nI (τ.1 7)), .int (nI (τ.1 8)), .int (nI ((τ.1 9) - 1)), .int (nI (τ.1 3)), .int (nI ((τ.1 11) - 1)), .int (nI (τ.1 12)), .int (nI (τ.1 13)), .int (nI ((τ.1 14) + ((mTake (τ.2.2 1) (τ.1 2) r).2))), .int (nI (τ.1 15)), .int (τ.2.1 0), .int (τ.2.1 1)], kO (a 1) 2 [.ref (a 2), .ref (a 3), .int (nI ((τ.2.2 0).length))], kI K (a 2) 10 (u 0), kZ K (a 3) 10 (u 1), kO (a 4) 2 [.ref (a 5), .ref (a 6), .int (nI ((mTake (τ.2.2 1) (τ.1 2) r).1.length))], kI K (a 5) 10 u3, kZ K (a 6) 10 c3, kO (a 7) 0 [.ref (a 8), .ref (a 9), .int (nI ((τ.2.2 2).length))], kI K (a 8) 5 (u 4), kI K (a 9) 5 (u 5)] rfl ?_
  exact k_vret hC hE (Nat.le_of_ble_eq_true rfl) (Nat.le_of_ble_eq_true rfl) dX1_begin_72 ⟨rfl, va_up (va_up u 2 u3) 3 c3, rfl, hT.1, hR3, hT.2.2⟩
abbrev rmX1_work : Room := { frames := 3, cells := 0, slots := 0, locals := 78 }
theorem mU_le {L : List (Nat × Nat)} (h : mOk L) : mU L ≤ 10 * L.length := by
  induction L with
  | nil => exact Nat.le_refl 0
  | cons x t ih =>
    have := ih (mOk_tail h)
    have := h.2.1
    simp only [mU, List.length_cons]; omega
set_option maxRecDepth 100000 in
set_option maxHeartbeats 4000000 in
theorem cX1_work_k0 (l : Launch) (K : kE) (a : Nat → Nat) (τ : mT) (u : Nat → Nat → Int32) (r : Bool) (hI : mInv true τ) (hT : mRT τ u) : kM l yX1_work (kws yX1_work cX1_work 2 none) rmX1_work K [.ref (a 0), .int (kB r)] (wT K .null a τ u) (fun v w => v = none ∧ ∃ u2 : Nat → Nat → Int32, w = wT K .null a (mWork r true τ) u2 ∧ mRT (mWork r true τ) u2) := by
  refine kM_of (pl := []) (X := (wT K .null a τ u)) rfl (by decide) (Nat.le_of_ble_eq_true rfl) ?_
  intro p e s m args below meth cd A Q hC hnm hE
  refine k_eX (show _ = [kO (a 0) 1 [.null, .int (nI (τ.1 1)), .int (nI (τ.1 2)), .int (nI (τ.1 3)), .ref (a 1), .ref (a 4), .ref (a 7), .int (nI (τ.1 7)), .int (nI (τ.1 8)), .int (nI (τ.1 9)), .int (nI (τ.1 10)), .int (nI (τ.1 11)), .int (nI (τ.1 12)), .int (nI (τ.1 13)), .int (nI (τ.1 14)), .int (nI (τ.1 15)), .int (τ.2.1 0), .int (τ.2.1 1)], kO (a 1) 2 [.ref (a 2), .ref (a 3), .int (nI ((τ.2.2 0).length))], kI K (a 2) 10 (u 0), kZ K (a 3) 10 (u 1), kO (a 4) 2 [.ref (a 5), .ref (a 6), .int (nI ((τ.2.2 1).length))], kI K (a 5) 10 (u 2), kZ K (a 6) 10 (u 3), kO (a 7) 0 [.ref (a 8), .ref (a 9), .int (nI ((τ.2.2 2).length))], kI K (a 8) 5 (u 4), kI K (a 9) 5 (u 5)] from rfl) ?_
  have hn := hI.1
  have hl0 := mInv_L0 hI
  have hl1 := mInv_L1 hI
  have hl2 := mInv_L2 hI
  have h89 : τ.1 9 ≤ 9 := by have := hI.2.1; omega
  refine k_aload_n hC 0 dX1_work_0 rfl rfl ?_
  refine k_get hC inlX1 0 12 rfl rfl (by decide) lkF_X1_68 rfl dX1_work_1 ?_
  refine k_if_eqN hC 8 dX1_work_4 (by decide) (by omega) (fun c1 => ?_) (fun c1 => ?_)
  · refine k_aload_n hC 0 dX1_work_8 rfl rfl ?_
    refine k_callV hC (As := []) (cX1_goOn_k l K a .null τ u true hI hT) [] rfl 0 rfl rfl (kAll5 lkM_X1_72 lkI_yX1_goOn lkS_yX1_goOn lkN_X1 lkC_yX1_goOn) 0 (by decide) ⟨(Nat.le_of_ble_eq_true rfl), (Nat.le_of_ble_eq_true rfl)⟩ rfl rfl (Nat.le_of_ble_eq_true rfl) ⟨(Nat.le_of_ble_eq_true rfl), (Nat.le_of_ble_eq_true rfl)⟩ dX1_work_9 (fun v w h => ?_)
    obtain ⟨rfl, u3, rfl, hT3⟩ := h
    have hw1 : mWork r true τ = if (mGoOn τ).1 10 ≠ 0 then mGoOn τ else mStart r true (mGoOn τ) := by unfold mWork; rw [if_neg (fun q => q c1)]
    have hI1 := mGoOn_inv hI
    obtain ⟨g, hg⟩ : ∃ g, g = mGoOn τ := ⟨_, rfl⟩
    rw [← hg] at hT3 hw1 hI1
    have hn1 := hI1.1
    have gl0 := mInv_L0 hI1
    have gl1 := mInv_L1 hI1
    have gl2 := mInv_L2 hI1
    refine k_re 0 0 [kO (a 0) 1 [.null, .int (nI (((mGoOn τ)).1 1)), .int (nI (((mGoOn τ)).1 2)), .int (nI (((mGoOn τ)).1 3)), .ref (a 1), .ref (a 4), .ref (a 7), .int (nI (((mGoOn τ)).1 7)), .int (nI (((mGoOn τ)).1 8)), .int (nI (((mGoOn τ)).1 9)), .int (nI (((mGoOn τ)).1 10)), .int (nI (((mGoOn τ)).1 11)), .int (nI (((mGoOn τ)).1 12)), .int (nI (((mGoOn τ)).1 13)), .int (nI (((mGoOn τ)).1 14)), .int (nI (((mGoOn τ)).1 15)), .int (((mGoOn τ)).2.1 0), .int (((mGoOn τ)).2.1 1)], kO (a 1) 2 [.ref (a 2), .ref (a 3), .int (nI ((((mGoOn τ)).2.2 0).length))], kI K (a 2) 10 (u3 0), kZ K (a 3) 10 (u3 1), kO (a 4) 2 [.ref (a 5), .ref (a 6), .int (nI ((((mGoOn τ)).2.2 1).length))], kI K (a 5) 10 (u3 2), kZ K (a 6) 10 (u3 3), kO (a 7) 0 [.ref (a 8), .ref (a 9), .int (nI ((((mGoOn τ)).2.2 2).length))], kI K (a 8) 5 (u3 4), kI K (a 9) 5 (u3 5)] [] rfl rfl rfl rfl ?_
    rw [← hg]
    refine k_aload_n hC 0 dX1_work_12 rfl rfl ?_
    refine k_get hC inlX1 0 10 rfl rfl (by decide) lkF_X1_60 rfl dX1_work_13 ?_
    refine k_if_leN hC 20 dX1_work_16 (by decide) (by omega) (fun c2 => ?_) (fun c2 => ?_)
    · have hw2 : mWork r true τ = mStart r true g := by rw [hw1, if_neg (fun q => q c2)]
      have hrl := mRun_le hI1
      have j46 : kW p l e rmX1_work s m args below meth cd K A 2 Q 0 0 ([]) [kO (a 0) 1 [.null, .int (nI (g.1 1)), .int (nI (g.1 2)), .int (nI (g.1 3)), .ref (a 1), .ref (a 4), .ref (a 7), .int (nI (g.1 7)), .int (nI (g.1 8)), .int (nI (g.1 9)), .int (nI (g.1 10)), .int (nI (mRun g)), .int (nI (g.1 12)), .int (nI (g.1 13)), .int (nI (g.1 14)), .int (nI (g.1 15)), .int (g.2.1 0), .int (g.2.1 1)], kO (a 1) 2 [.ref (a 2), .ref (a 3), .int (nI ((g.2.2 0).length))], kI K (a 2) 10 (u3 0), kZ K (a 3) 10 (u3 1), kO (a 4) 2 [.ref (a 5), .ref (a 6), .int (nI ((g.2.2 1).length))], kI K (a 5) 10 (u3 2), kZ K (a 6) 10 (u3 3), kO (a 7) 0 [.ref (a 8), .ref (a 9), .int (nI ((g.2.2 2).length))], kI K (a 8) 5 (u3 4), kI K (a 9) 5 (u3 5)] [(0, .ref (a 0)), (1, .int (kB r))] 46 [] := by
        refine k_aload_n hC 0 dX1_work_46 rfl rfl ?_
        refine k_get hC inlX1 0 11 rfl rfl (by decide) lkF_X1_75 rfl dX1_work_47 ?_
        refine k_if_neN hC 54 dX1_work_50 (by decide) (by omega) (fun c3 => ?_) (fun c3 => ?_)
        · refine k_aload_n hC 0 dX1_work_54 rfl rfl ?_
          refine k_get hC inlX1 0 0 rfl rfl (by decide) lkF_X1_7 rfl dX1_work_55 ?_
          refine k_ifnullN hC 86 dX1_work_58 (by decide) ?_
          refine k_aload_n hC 0 dX1_work_86 rfl rfl ?_
          refine k_iload_n hC 1 dX1_work_87 rfl rfl ?_
          refine k_callV hC (As := [.int (kB r)]) (cX1_begin_k0 l K a (va_up g.1 11 (mRun g), g.2.1, g.2.2) u3 r (mRun_inv hI1) hT3 c3) [] rfl 0 rfl rfl (kAll5 lkM_X1_81 lkI_yX1_begin lkS_yX1_begin lkN_X1 lkC_yX1_begin) 1 (by decide) ⟨(Nat.le_of_ble_eq_true rfl), (Nat.le_of_ble_eq_true rfl)⟩ rfl rfl (Nat.le_of_ble_eq_true rfl) ⟨(Nat.le_of_ble_eq_true rfl), (Nat.le_of_ble_eq_true rfl)⟩ dX1_work_88 (fun v w h => ?_)
          obtain ⟨rfl, u4, rfl, hT4⟩ := h
          refine k_re 0 0 [kO (a 0) 1 [.null, .int (nI (((mBegin r true (va_up g.1 11 (mRun g), g.2.1, g.2.2))).1 1)), .int (nI (((mBegin r true (va_up g.1 11 (mRun g), g.2.1, g.2.2))).1 2)), .int (nI (((mBegin r true (va_up g.1 11 (mRun g), g.2.1, g.2.2))).1 3)), .ref (a 1), .ref (a 4), .ref (a 7), .int (nI (((mBegin r true (va_up g.1 11 (mRun g), g.2.1, g.2.2))).1 7)), .int (nI (((mBegin r true (va_up g.1 11 (mRun g), g.2.1, g.2.2))).1 8)), .int (nI (((mBegin r true (va_up g.1 11 (mRun g), g.2.1, g.2.2))).1 9)), .int (nI (((mBegin r true (va_up g.1 11 (mRun g), g.2.1, g.2.2))).1 10)), .int (nI (((mBegin r true (va_up g.1 11 (mRun g), g.2.1, g.2.2))).1 11)), .int (nI (((mBegin r true (va_up g.1 11 (mRun g), g.2.1, g.2.2))).1 12)), .int (nI (((mBegin r true (va_up g.1 11 (mRun g), g.2.1, g.2.2))).1 13)), .int (nI (((mBegin r true (va_up g.1 11 (mRun g), g.2.1, g.2.2))).1 14)), .int (nI (((mBegin r true (va_up g.1 11 (mRun g), g.2.1, g.2.2))).1 15)), .int (((mBegin r true (va_up g.1 11 (mRun g), g.2.1, g.2.2))).2.1 0), .int (((mBegin r true (va_up g.1 11 (mRun g), g.2.1, g.2.2))).2.1 1)], kO (a 1) 2 [.ref (a 2), .ref (a 3), .int (nI ((((mBegin r true (va_up g.1 11 (mRun g), g.2.1, g.2.2))).2.2 0).length))], kI K (a 2) 10 (u4 0), kZ K (a 3) 10 (u4 1), kO (a 4) 2 [.ref (a 5), .ref (a 6), .int (nI ((((mBegin r true (va_up g.1 11 (mRun g), g.2.1, g.2.2))).2.2 1).length))], kI K (a 5) 10 (u4 2), kZ K (a 6) 10 (u4 3), kO (a 7) 0 [.ref (a 8), .ref (a 9), .int (nI ((((mBegin r true (va_up g.1 11 (mRun g), g.2.1, g.2.2))).2.2 2).length))], kI K (a 8) 5 (u4 4), kI K (a 9) 5 (u4 5)] [] rfl rfl rfl rfl ?_
          exact k_vret hC hE (Nat.le_of_ble_eq_true rfl) (Nat.le_of_ble_eq_true rfl) dX1_work_91 (by rw [hw2, show mStart r true g = mBegin r true (va_up g.1 11 (mRun g), g.2.1, g.2.2) by unfold mStart; rw [if_neg c3, if_neg (by simp)]]; exact ⟨rfl, u4, rfl, hT4⟩)
        · have e9 : mRun g = g.1 11 := by
            by_cases hh : g.1 11 = 0 ∧ g.1 7 ≤ g.1 9
            · exfalso; unfold mRun at c3; rw [if_pos hh] at c3; omega
            · unfold mRun; rw [if_neg hh]
          rw [e9]
          exact k_vret hC hE (Nat.le_of_ble_eq_true rfl) (Nat.le_of_ble_eq_true rfl) dX1_work_53 (by rw [hw2, show mStart r true g = g by unfold mStart; rw [if_pos c3]]; exact ⟨rfl, u3, rfl, hT3⟩)
      refine k_aload_n hC 0 dX1_work_20 rfl rfl ?_
      refine k_get hC inlX1 0 11 rfl rfl (by decide) lkF_X1_75 rfl dX1_work_21 ?_
      refine k_if_neN hC 46 dX1_work_24 (by decide) (by omega) (fun c5 => ?_) (fun c5 => ?_)
      · rw [show mRun g = g.1 11 by unfold mRun; rw [if_neg (fun q => c5 q.1)]] at j46
        exact j46
      · refine k_aload_n hC 0 dX1_work_27 rfl rfl ?_
        refine k_get hC inlX1 0 9 rfl rfl (by decide) lkF_X1_29 rfl dX1_work_28 ?_
        refine k_aload_n hC 0 dX1_work_31 rfl rfl ?_
        refine k_get hC inlX1 0 7 rfl rfl (by decide) lkF_X1_23 rfl dX1_work_32 ?_
        refine k_icmp_ltN hC 46 dX1_work_35 (by decide) (by omega) (by omega) (fun c6 => ?_) (fun c6 => ?_)
        · rw [show mRun g = g.1 11 by unfold mRun; rw [if_neg (fun q => by omega)]] at j46
          exact j46
        · refine k_aload_n hC 0 dX1_work_38 rfl rfl ?_
          refine k_aload_n hC 0 dX1_work_39 rfl rfl ?_
          refine k_get hC inlX1 0 9 rfl rfl (by decide) lkF_X1_29 rfl dX1_work_40 ?_
          refine k_put hC inlX1 tyX1_ok nmX1 0 11 rfl rfl (by decide) lkF_X1_75 rfl rfl rfl (Nat.le_of_ble_eq_true rfl) dX1_work_43 [kO (a 0) 1 [.null, .int (nI (g.1 1)), .int (nI (g.1 2)), .int (nI (g.1 3)), .ref (a 1), .ref (a 4), .ref (a 7), .int (nI (g.1 7)), .int (nI (g.1 8)), .int (nI (g.1 9)), .int (nI (g.1 10)), .int (nI (g.1 9)), .int (nI (g.1 12)), .int (nI (g.1 13)), .int (nI (g.1 14)), .int (nI (g.1 15)), .int (g.2.1 0), .int (g.2.1 1)], kO (a 1) 2 [.ref (a 2), .ref (a 3), .int (nI ((g.2.2 0).length))], kI K (a 2) 10 (u3 0), kZ K (a 3) 10 (u3 1), kO (a 4) 2 [.ref (a 5), .ref (a 6), .int (nI ((g.2.2 1).length))], kI K (a 5) 10 (u3 2), kZ K (a 6) 10 (u3 3), kO (a 7) 0 [.ref (a 8), .ref (a 9), .int (nI ((g.2.2 2).length))], kI K (a 8) 5 (u3 4), kI K (a 9) 5 (u3 5)] rfl ?_
          rw [show mRun g = g.1 9 by unfold mRun; rw [if_pos ⟨by omega, by omega⟩]] at j46
          exact j46
    · exact k_vret hC hE (Nat.le_of_ble_eq_true rfl) (Nat.le_of_ble_eq_true rfl) dX1_work_19 (by rw [hw1, if_pos c2]; exact ⟨rfl, u3, rfl, hT3⟩)
  · exact k_vret hC hE (Nat.le_of_ble_eq_true rfl) (Nat.le_of_ble_eq_true rfl) dX1_work_7 (by rw [show mWork r true τ = τ by unfold mWork; rw [if_pos c1]]; exact ⟨rfl, u, rfl, hT⟩)
set_option maxRecDepth 100000 in
set_option maxHeartbeats 4000000 in
theorem cX1_work_k1 (l : Launch) (K : kE) (p0 : Nat) (a : Nat → Nat) (τ : mT) (u : Nat → Nat → Int32) (r : Bool) (hI : mInv false τ) (hT : mRT τ u) : kM l yX1_work (kws yX1_work cX1_work 2 none) rmX1_work K [.ref (a 0), .int (kB r)] (wT K (.ref p0) a τ u) (fun v w => v = none ∧ ∃ u2 : Nat → Nat → Int32, w = wT K (.ref p0) a (mWork r false τ) u2 ∧ mRT (mWork r false τ) u2) := by
  refine kM_of (pl := []) (X := (wT K (.ref p0) a τ u)) rfl (by decide) (Nat.le_of_ble_eq_true rfl) ?_
  intro p e s m args below meth cd A Q hC hnm hE
  refine k_eX (show _ = [kO (a 0) 1 [.ref p0, .int (nI (τ.1 1)), .int (nI (τ.1 2)), .int (nI (τ.1 3)), .ref (a 1), .ref (a 4), .ref (a 7), .int (nI (τ.1 7)), .int (nI (τ.1 8)), .int (nI (τ.1 9)), .int (nI (τ.1 10)), .int (nI (τ.1 11)), .int (nI (τ.1 12)), .int (nI (τ.1 13)), .int (nI (τ.1 14)), .int (nI (τ.1 15)), .int (τ.2.1 0), .int (τ.2.1 1)], kO (a 1) 2 [.ref (a 2), .ref (a 3), .int (nI ((τ.2.2 0).length))], kI K (a 2) 10 (u 0), kZ K (a 3) 10 (u 1), kO (a 4) 2 [.ref (a 5), .ref (a 6), .int (nI ((τ.2.2 1).length))], kI K (a 5) 10 (u 2), kZ K (a 6) 10 (u 3), kO (a 7) 0 [.ref (a 8), .ref (a 9), .int (nI ((τ.2.2 2).length))], kI K (a 8) 5 (u 4), kI K (a 9) 5 (u 5)] from rfl) ?_
  have hn := hI.1
  have hl0 := mInv_L0 hI
  have hl1 := mInv_L1 hI
  have hl2 := mInv_L2 hI
  have h89 : τ.1 9 ≤ 9 := by have := hI.2.1; omega
  refine k_aload_n hC 0 dX1_work_0 rfl rfl ?_
  refine k_get hC inlX1 0 12 rfl rfl (by decide) lkF_X1_68 rfl dX1_work_1 ?_
  refine k_if_eqN hC 8 dX1_work_4 (by decide) (by omega) (fun c1 => ?_) (fun c1 => ?_)
  · refine k_aload_n hC 0 dX1_work_8 rfl rfl ?_
    refine k_callV hC (As := []) (cX1_goOn_k l K a (.ref p0) τ u false hI hT) [] rfl 0 rfl rfl (kAll5 lkM_X1_72 lkI_yX1_goOn lkS_yX1_goOn lkN_X1 lkC_yX1_goOn) 0 (by decide) ⟨(Nat.le_of_ble_eq_true rfl), (Nat.le_of_ble_eq_true rfl)⟩ rfl rfl (Nat.le_of_ble_eq_true rfl) ⟨(Nat.le_of_ble_eq_true rfl), (Nat.le_of_ble_eq_true rfl)⟩ dX1_work_9 (fun v w h => ?_)
    obtain ⟨rfl, u3, rfl, hT3⟩ := h
    have hw1 : mWork r false τ = if (mGoOn τ).1 10 ≠ 0 then mGoOn τ else mStart r false (mGoOn τ) := by unfold mWork; rw [if_neg (fun q => q c1)]
    have hI1 := mGoOn_inv hI
    obtain ⟨g, hg⟩ : ∃ g, g = mGoOn τ := ⟨_, rfl⟩
    rw [← hg] at hT3 hw1 hI1
    have hn1 := hI1.1
    have gl0 := mInv_L0 hI1
    have gl1 := mInv_L1 hI1
    have gl2 := mInv_L2 hI1
    refine k_re 0 0 [kO (a 0) 1 [.ref p0, .int (nI (((mGoOn τ)).1 1)), .int (nI (((mGoOn τ)).1 2)), .int (nI (((mGoOn τ)).1 3)), .ref (a 1), .ref (a 4), .ref (a 7), .int (nI (((mGoOn τ)).1 7)), .int (nI (((mGoOn τ)).1 8)), .int (nI (((mGoOn τ)).1 9)), .int (nI (((mGoOn τ)).1 10)), .int (nI (((mGoOn τ)).1 11)), .int (nI (((mGoOn τ)).1 12)), .int (nI (((mGoOn τ)).1 13)), .int (nI (((mGoOn τ)).1 14)), .int (nI (((mGoOn τ)).1 15)), .int (((mGoOn τ)).2.1 0), .int (((mGoOn τ)).2.1 1)], kO (a 1) 2 [.ref (a 2), .ref (a 3), .int (nI ((((mGoOn τ)).2.2 0).length))], kI K (a 2) 10 (u3 0), kZ K (a 3) 10 (u3 1), kO (a 4) 2 [.ref (a 5), .ref (a 6), .int (nI ((((mGoOn τ)).2.2 1).length))], kI K (a 5) 10 (u3 2), kZ K (a 6) 10 (u3 3), kO (a 7) 0 [.ref (a 8), .ref (a 9), .int (nI ((((mGoOn τ)).2.2 2).length))], kI K (a 8) 5 (u3 4), kI K (a 9) 5 (u3 5)] [] rfl rfl rfl rfl ?_
    rw [← hg]
    refine k_aload_n hC 0 dX1_work_12 rfl rfl ?_
    refine k_get hC inlX1 0 10 rfl rfl (by decide) lkF_X1_60 rfl dX1_work_13 ?_
    refine k_if_leN hC 20 dX1_work_16 (by decide) (by omega) (fun c2 => ?_) (fun c2 => ?_)
    · have hw2 : mWork r false τ = mStart r false g := by rw [hw1, if_neg (fun q => q c2)]
      have hrl := mRun_le hI1
      have j46 : kW p l e rmX1_work s m args below meth cd K A 2 Q 0 0 ([]) [kO (a 0) 1 [.ref p0, .int (nI (g.1 1)), .int (nI (g.1 2)), .int (nI (g.1 3)), .ref (a 1), .ref (a 4), .ref (a 7), .int (nI (g.1 7)), .int (nI (g.1 8)), .int (nI (g.1 9)), .int (nI (g.1 10)), .int (nI (mRun g)), .int (nI (g.1 12)), .int (nI (g.1 13)), .int (nI (g.1 14)), .int (nI (g.1 15)), .int (g.2.1 0), .int (g.2.1 1)], kO (a 1) 2 [.ref (a 2), .ref (a 3), .int (nI ((g.2.2 0).length))], kI K (a 2) 10 (u3 0), kZ K (a 3) 10 (u3 1), kO (a 4) 2 [.ref (a 5), .ref (a 6), .int (nI ((g.2.2 1).length))], kI K (a 5) 10 (u3 2), kZ K (a 6) 10 (u3 3), kO (a 7) 0 [.ref (a 8), .ref (a 9), .int (nI ((g.2.2 2).length))], kI K (a 8) 5 (u3 4), kI K (a 9) 5 (u3 5)] [(0, .ref (a 0)), (1, .int (kB r))] 46 [] := by
        refine k_aload_n hC 0 dX1_work_46 rfl rfl ?_
        refine k_get hC inlX1 0 11 rfl rfl (by decide) lkF_X1_75 rfl dX1_work_47 ?_
        refine k_if_neN hC 54 dX1_work_50 (by decide) (by omega) (fun c3 => ?_) (fun c3 => ?_)
        · refine k_aload_n hC 0 dX1_work_54 rfl rfl ?_
          refine k_get hC inlX1 0 0 rfl rfl (by decide) lkF_X1_7 rfl dX1_work_55 ?_
          refine k_ifnull hC dX1_work_58 ?_
          refine k_aload_n hC 0 dX1_work_61 rfl rfl ?_
          refine k_get hC inlX1 0 5 rfl rfl (by decide) lkF_X1_41 rfl dX1_work_62 ?_
          refine k_perm [4, 5, 6, 0, 1, 2, 3, 7, 8, 9] [kO (a 4) 2 [.ref (a 5), .ref (a 6), .int (nI ((g.2.2 1).length))], kI K (a 5) 10 (u3 2), kZ K (a 6) 10 (u3 3), kO (a 0) 1 [.ref p0, .int (nI (g.1 1)), .int (nI (g.1 2)), .int (nI (g.1 3)), .ref (a 1), .ref (a 4), .ref (a 7), .int (nI (g.1 7)), .int (nI (g.1 8)), .int (nI (g.1 9)), .int (nI (g.1 10)), .int (nI (mRun g)), .int (nI (g.1 12)), .int (nI (g.1 13)), .int (nI (g.1 14)), .int (nI (g.1 15)), .int (g.2.1 0), .int (g.2.1 1)], kO (a 1) 2 [.ref (a 2), .ref (a 3), .int (nI ((g.2.2 0).length))], kI K (a 2) 10 (u3 0), kZ K (a 3) 10 (u3 1), kO (a 7) 0 [.ref (a 8), .ref (a 9), .int (nI ((g.2.2 2).length))], kI K (a 8) 5 (u3 4), kI K (a 9) 5 (u3 5)] rfl rfl ?_
          refine k_callVN hC (As := []) (cX2_allUnits_k l K (a 4) (a 5) (a 6) (u3 2) (u3 3) (g.2.2 1) (by omega) hT3.2.1) [kO (a 0) 1 [.ref p0, .int (nI (g.1 1)), .int (nI (g.1 2)), .int (nI (g.1 3)), .ref (a 1), .ref (a 4), .ref (a 7), .int (nI (g.1 7)), .int (nI (g.1 8)), .int (nI (g.1 9)), .int (nI (g.1 10)), .int (nI (mRun g)), .int (nI (g.1 12)), .int (nI (g.1 13)), .int (nI (g.1 14)), .int (nI (g.1 15)), .int (g.2.1 0), .int (g.2.1 1)], kO (a 1) 2 [.ref (a 2), .ref (a 3), .int (nI ((g.2.2 0).length))], kI K (a 2) 10 (u3 0), kZ K (a 3) 10 (u3 1), kO (a 7) 0 [.ref (a 8), .ref (a 9), .int (nI ((g.2.2 2).length))], kI K (a 8) 5 (u3 4), kI K (a 9) 5 (u3 5)] rfl 0 rfl rfl (kAll4 lkI_yX2_allUnits lkS_yX2_allUnits lkN_X2 lkC_yX2_allUnits) (List.mem_of_getElem? (i := 7) rfl) 0 (by decide) ⟨(Nat.le_of_ble_eq_true rfl), (Nat.le_of_ble_eq_true rfl)⟩ rfl rfl (Nat.le_of_ble_eq_true rfl) ⟨(Nat.le_of_ble_eq_true rfl), (Nat.le_of_ble_eq_true rfl)⟩ dX1_work_65 (fun v w h => ?_)
          obtain ⟨rfl, rfl⟩ := h
          refine k_re 0 0 [kO (a 4) 2 [.ref (a 5), .ref (a 6), .int (nI ((g.2.2 1).length))], kI K (a 5) 10 (u3 2), kZ K (a 6) 10 (u3 3), kO (a 0) 1 [.ref p0, .int (nI (g.1 1)), .int (nI (g.1 2)), .int (nI (g.1 3)), .ref (a 1), .ref (a 4), .ref (a 7), .int (nI (g.1 7)), .int (nI (g.1 8)), .int (nI (g.1 9)), .int (nI (g.1 10)), .int (nI (mRun g)), .int (nI (g.1 12)), .int (nI (g.1 13)), .int (nI (g.1 14)), .int (nI (g.1 15)), .int (g.2.1 0), .int (g.2.1 1)], kO (a 1) 2 [.ref (a 2), .ref (a 3), .int (nI ((g.2.2 0).length))], kI K (a 2) 10 (u3 0), kZ K (a 3) 10 (u3 1), kO (a 7) 0 [.ref (a 8), .ref (a 9), .int (nI ((g.2.2 2).length))], kI K (a 8) 5 (u3 4), kI K (a 9) 5 (u3 5)] [.int (nI (mU (g.2.2 1)))] rfl rfl rfl rfl ?_
          refine k_perm [3, 4, 5, 6, 0, 1, 2, 7, 8, 9] [kO (a 0) 1 [.ref p0, .int (nI (g.1 1)), .int (nI (g.1 2)), .int (nI (g.1 3)), .ref (a 1), .ref (a 4), .ref (a 7), .int (nI (g.1 7)), .int (nI (g.1 8)), .int (nI (g.1 9)), .int (nI (g.1 10)), .int (nI (mRun g)), .int (nI (g.1 12)), .int (nI (g.1 13)), .int (nI (g.1 14)), .int (nI (g.1 15)), .int (g.2.1 0), .int (g.2.1 1)], kO (a 1) 2 [.ref (a 2), .ref (a 3), .int (nI ((g.2.2 0).length))], kI K (a 2) 10 (u3 0), kZ K (a 3) 10 (u3 1), kO (a 4) 2 [.ref (a 5), .ref (a 6), .int (nI ((g.2.2 1).length))], kI K (a 5) 10 (u3 2), kZ K (a 6) 10 (u3 3), kO (a 7) 0 [.ref (a 8), .ref (a 9), .int (nI ((g.2.2 2).length))], kI K (a 8) 5 (u3 4), kI K (a 9) 5 (u3 5)] rfl rfl ?_
          have hmu := mU_le hI1.2.2.2.2.1
          refine k_aload_n hC 0 dX1_work_68 rfl rfl ?_
          refine k_get hC inlX1 0 2 rfl rfl (by decide) lkF_X1_17 rfl dX1_work_69 ?_
          refine k_icmp_geN hC 86 dX1_work_72 (by decide) (by omega) (by omega) (fun c4 => ?_) (fun c4 => ?_)
          · refine k_aload_n hC 0 dX1_work_86 rfl rfl ?_
            refine k_iload_n hC 1 dX1_work_87 rfl rfl ?_
            refine k_callV hC (As := [.int (kB r)]) (cX1_begin_k1 l K p0 a (va_up g.1 11 (mRun g), g.2.1, g.2.2) u3 r (mRun_inv hI1) hT3 c3) [] rfl 0 rfl rfl (kAll5 lkM_X1_81 lkI_yX1_begin lkS_yX1_begin lkN_X1 lkC_yX1_begin) 1 (by decide) ⟨(Nat.le_of_ble_eq_true rfl), (Nat.le_of_ble_eq_true rfl)⟩ rfl rfl (Nat.le_of_ble_eq_true rfl) ⟨(Nat.le_of_ble_eq_true rfl), (Nat.le_of_ble_eq_true rfl)⟩ dX1_work_88 (fun v w h => ?_)
            obtain ⟨rfl, u4, rfl, hT4⟩ := h
            refine k_re 0 0 [kO (a 0) 1 [.ref p0, .int (nI (((mBegin r false (va_up g.1 11 (mRun g), g.2.1, g.2.2))).1 1)), .int (nI (((mBegin r false (va_up g.1 11 (mRun g), g.2.1, g.2.2))).1 2)), .int (nI (((mBegin r false (va_up g.1 11 (mRun g), g.2.1, g.2.2))).1 3)), .ref (a 1), .ref (a 4), .ref (a 7), .int (nI (((mBegin r false (va_up g.1 11 (mRun g), g.2.1, g.2.2))).1 7)), .int (nI (((mBegin r false (va_up g.1 11 (mRun g), g.2.1, g.2.2))).1 8)), .int (nI (((mBegin r false (va_up g.1 11 (mRun g), g.2.1, g.2.2))).1 9)), .int (nI (((mBegin r false (va_up g.1 11 (mRun g), g.2.1, g.2.2))).1 10)), .int (nI (((mBegin r false (va_up g.1 11 (mRun g), g.2.1, g.2.2))).1 11)), .int (nI (((mBegin r false (va_up g.1 11 (mRun g), g.2.1, g.2.2))).1 12)), .int (nI (((mBegin r false (va_up g.1 11 (mRun g), g.2.1, g.2.2))).1 13)), .int (nI (((mBegin r false (va_up g.1 11 (mRun g), g.2.1, g.2.2))).1 14)), .int (nI (((mBegin r false (va_up g.1 11 (mRun g), g.2.1, g.2.2))).1 15)), .int (((mBegin r false (va_up g.1 11 (mRun g), g.2.1, g.2.2))).2.1 0), .int (((mBegin r false (va_up g.1 11 (mRun g), g.2.1, g.2.2))).2.1 1)], kO (a 1) 2 [.ref (a 2), .ref (a 3), .int (nI ((((mBegin r false (va_up g.1 11 (mRun g), g.2.1, g.2.2))).2.2 0).length))], kI K (a 2) 10 (u4 0), kZ K (a 3) 10 (u4 1), kO (a 4) 2 [.ref (a 5), .ref (a 6), .int (nI ((((mBegin r false (va_up g.1 11 (mRun g), g.2.1, g.2.2))).2.2 1).length))], kI K (a 5) 10 (u4 2), kZ K (a 6) 10 (u4 3), kO (a 7) 0 [.ref (a 8), .ref (a 9), .int (nI ((((mBegin r false (va_up g.1 11 (mRun g), g.2.1, g.2.2))).2.2 2).length))], kI K (a 8) 5 (u4 4), kI K (a 9) 5 (u4 5)] [] rfl rfl rfl rfl ?_
            exact k_vret hC hE (Nat.le_of_ble_eq_true rfl) (Nat.le_of_ble_eq_true rfl) dX1_work_91 (by rw [hw2, show mStart r false g = mBegin r false (va_up g.1 11 (mRun g), g.2.1, g.2.2) by unfold mStart; rw [if_neg c3, if_neg (by omega)]]; exact ⟨rfl, u4, rfl, hT4⟩)
          · refine k_aload_n hC 0 dX1_work_75 rfl rfl ?_
            refine k_dup hC dX1_work_76 rfl ?_
            refine k_get hC inlX1 0 16 rfl rfl (by decide) lkF_X1_78 rfl dX1_work_77 ?_
            refine k_iconst hC (nI 1) dX1_work_80 rfl ?_
            refine k_iadd hC dX1_work_81 ?_
            refine k_put hC inlX1 tyX1_ok nmX1 0 16 rfl rfl (by decide) lkF_X1_78 rfl rfl rfl (Nat.le_of_ble_eq_true rfl) dX1_work_82 [kO (a 0) 1 [.ref p0, .int (nI (g.1 1)), .int (nI (g.1 2)), .int (nI (g.1 3)), .ref (a 1), .ref (a 4), .ref (a 7), .int (nI (g.1 7)), .int (nI (g.1 8)), .int (nI (g.1 9)), .int (nI (g.1 10)), .int (nI (mRun g)), .int (nI (g.1 12)), .int (nI (g.1 13)), .int (nI (g.1 14)), .int (nI (g.1 15)), .int ((g.2.1 0) + nI 1), .int (g.2.1 1)], kO (a 1) 2 [.ref (a 2), .ref (a 3), .int (nI ((g.2.2 0).length))], kI K (a 2) 10 (u3 0), kZ K (a 3) 10 (u3 1), kO (a 4) 2 [.ref (a 5), .ref (a 6), .int (nI ((g.2.2 1).length))], kI K (a 5) 10 (u3 2), kZ K (a 6) 10 (u3 3), kO (a 7) 0 [.ref (a 8), .ref (a 9), .int (nI ((g.2.2 2).length))], kI K (a 8) 5 (u3 4), kI K (a 9) 5 (u3 5)] rfl ?_
            exact k_vret hC hE (Nat.le_of_ble_eq_true rfl) (Nat.le_of_ble_eq_true rfl) dX1_work_85 (by rw [hw2, show mStart r false g = (va_up g.1 11 (mRun g), va_up g.2.1 0 (g.2.1 0 + 1), g.2.2) by unfold mStart; rw [if_neg c3, if_pos ⟨rfl, by omega⟩]]; exact ⟨rfl, u3, rfl, hT3⟩)
        · have e9 : mRun g = g.1 11 := by
            by_cases hh : g.1 11 = 0 ∧ g.1 7 ≤ g.1 9
            · exfalso; unfold mRun at c3; rw [if_pos hh] at c3; omega
            · unfold mRun; rw [if_neg hh]
          rw [e9]
          exact k_vret hC hE (Nat.le_of_ble_eq_true rfl) (Nat.le_of_ble_eq_true rfl) dX1_work_53 (by rw [hw2, show mStart r false g = g by unfold mStart; rw [if_pos c3]]; exact ⟨rfl, u3, rfl, hT3⟩)
      refine k_aload_n hC 0 dX1_work_20 rfl rfl ?_
      refine k_get hC inlX1 0 11 rfl rfl (by decide) lkF_X1_75 rfl dX1_work_21 ?_
      refine k_if_neN hC 46 dX1_work_24 (by decide) (by omega) (fun c5 => ?_) (fun c5 => ?_)
      · rw [show mRun g = g.1 11 by unfold mRun; rw [if_neg (fun q => c5 q.1)]] at j46
        exact j46
      · refine k_aload_n hC 0 dX1_work_27 rfl rfl ?_
        refine k_get hC inlX1 0 9 rfl rfl (by decide) lkF_X1_29 rfl dX1_work_28 ?_
        refine k_aload_n hC 0 dX1_work_31 rfl rfl ?_
        refine k_get hC inlX1 0 7 rfl rfl (by decide) lkF_X1_23 rfl dX1_work_32 ?_
        refine k_icmp_ltN hC 46 dX1_work_35 (by decide) (by omega) (by omega) (fun c6 => ?_) (fun c6 => ?_)
        · rw [show mRun g = g.1 11 by unfold mRun; rw [if_neg (fun q => by omega)]] at j46
          exact j46
        · refine k_aload_n hC 0 dX1_work_38 rfl rfl ?_
          refine k_aload_n hC 0 dX1_work_39 rfl rfl ?_
          refine k_get hC inlX1 0 9 rfl rfl (by decide) lkF_X1_29 rfl dX1_work_40 ?_
          refine k_put hC inlX1 tyX1_ok nmX1 0 11 rfl rfl (by decide) lkF_X1_75 rfl rfl rfl (Nat.le_of_ble_eq_true rfl) dX1_work_43 [kO (a 0) 1 [.ref p0, .int (nI (g.1 1)), .int (nI (g.1 2)), .int (nI (g.1 3)), .ref (a 1), .ref (a 4), .ref (a 7), .int (nI (g.1 7)), .int (nI (g.1 8)), .int (nI (g.1 9)), .int (nI (g.1 10)), .int (nI (g.1 9)), .int (nI (g.1 12)), .int (nI (g.1 13)), .int (nI (g.1 14)), .int (nI (g.1 15)), .int (g.2.1 0), .int (g.2.1 1)], kO (a 1) 2 [.ref (a 2), .ref (a 3), .int (nI ((g.2.2 0).length))], kI K (a 2) 10 (u3 0), kZ K (a 3) 10 (u3 1), kO (a 4) 2 [.ref (a 5), .ref (a 6), .int (nI ((g.2.2 1).length))], kI K (a 5) 10 (u3 2), kZ K (a 6) 10 (u3 3), kO (a 7) 0 [.ref (a 8), .ref (a 9), .int (nI ((g.2.2 2).length))], kI K (a 8) 5 (u3 4), kI K (a 9) 5 (u3 5)] rfl ?_
          rw [show mRun g = g.1 9 by unfold mRun; rw [if_pos ⟨by omega, by omega⟩]] at j46
          exact j46
    · exact k_vret hC hE (Nat.le_of_ble_eq_true rfl) (Nat.le_of_ble_eq_true rfl) dX1_work_19 (by rw [hw1, if_pos c2]; exact ⟨rfl, u3, rfl, hT3⟩)
  · exact k_vret hC hE (Nat.le_of_ble_eq_true rfl) (Nat.le_of_ble_eq_true rfl) dX1_work_7 (by rw [show mWork r false τ = τ by unfold mWork; rw [if_pos c1]]; exact ⟨rfl, u, rfl, hT⟩)
abbrev rmX1_unitsHeld : Room := { frames := 1, cells := 0, slots := 0, locals := 22 }
set_option maxRecDepth 100000 in
set_option maxHeartbeats 4000000 in
theorem cX1_unitsHeld_k (l : Launch) (K : kE) (a : Nat → Nat) (ah : Value) (τ : mT) (u : Nat → Nat → Int32) (b : Bool) (hI : mInv b τ) (hT : mRT τ u) : kM l yX1_unitsHeld (kws yX1_unitsHeld cX1_unitsHeld 2 (some .int)) rmX1_unitsHeld K [.ref (a 0)] (wT K ah a τ u) (fun v w => v = some (.int (nI (mHeld τ))) ∧ w = wT K ah a τ u) := by
  refine kM_of (pl := []) (X := (wT K ah a τ u)) rfl (by decide) (Nat.le_of_ble_eq_true rfl) ?_
  intro p e s m args below meth cd A Q hC hnm hE
  refine k_eX (show _ = [kO (a 0) 1 [ah, .int (nI (τ.1 1)), .int (nI (τ.1 2)), .int (nI (τ.1 3)), .ref (a 1), .ref (a 4), .ref (a 7), .int (nI (τ.1 7)), .int (nI (τ.1 8)), .int (nI (τ.1 9)), .int (nI (τ.1 10)), .int (nI (τ.1 11)), .int (nI (τ.1 12)), .int (nI (τ.1 13)), .int (nI (τ.1 14)), .int (nI (τ.1 15)), .int (τ.2.1 0), .int (τ.2.1 1)], kO (a 1) 2 [.ref (a 2), .ref (a 3), .int (nI ((τ.2.2 0).length))], kI K (a 2) 10 (u 0), kZ K (a 3) 10 (u 1), kO (a 4) 2 [.ref (a 5), .ref (a 6), .int (nI ((τ.2.2 1).length))], kI K (a 5) 10 (u 2), kZ K (a 6) 10 (u 3), kO (a 7) 0 [.ref (a 8), .ref (a 9), .int (nI ((τ.2.2 2).length))], kI K (a 8) 5 (u 4), kI K (a 9) 5 (u 5)] from rfl) ?_
  have hn := hI.1
  have hl0 := mInv_L0 hI
  have hl1 := mInv_L1 hI
  have hl2 := mInv_L2 hI
  have h89 : τ.1 9 ≤ 9 := by have := hI.2.1; omega
  refine k_aload_n hC 0 dX1_unitsHeld_0 rfl rfl ?_
  refine k_get hC inlX1 0 10 rfl rfl (by decide) lkF_X1_60 rfl dX1_unitsHeld_1 ?_
  refine k_if_leN hC 14 dX1_unitsHeld_4 (by decide) (by omega) (fun c1 => ?_) (fun c1 => ?_)
  · refine k_iconst hC (nI 0) dX1_unitsHeld_14 rfl ?_
    refine k_istore_n hC 1 dX1_unitsHeld_15 rfl (by decide) rfl [(0, .ref (a 0)), (1, .int (nI 0))] rfl ?_
    refine k_aload_n hC 0 dX1_unitsHeld_16 rfl rfl ?_
    refine k_get hC inlX1 0 4 rfl rfl (by decide) lkF_X1_37 rfl dX1_unitsHeld_17 ?_
    refine k_perm [1, 2, 3, 0, 4, 5, 6, 7, 8, 9] [kO (a 1) 2 [.ref (a 2), .ref (a 3), .int (nI ((τ.2.2 0).length))], kI K (a 2) 10 (u 0), kZ K (a 3) 10 (u 1), kO (a 0) 1 [ah, .int (nI (τ.1 1)), .int (nI (τ.1 2)), .int (nI (τ.1 3)), .ref (a 1), .ref (a 4), .ref (a 7), .int (nI (τ.1 7)), .int (nI (τ.1 8)), .int (nI (τ.1 9)), .int (nI (τ.1 10)), .int (nI (τ.1 11)), .int (nI (τ.1 12)), .int (nI (τ.1 13)), .int (nI (τ.1 14)), .int (nI (τ.1 15)), .int (τ.2.1 0), .int (τ.2.1 1)], kO (a 4) 2 [.ref (a 5), .ref (a 6), .int (nI ((τ.2.2 1).length))], kI K (a 5) 10 (u 2), kZ K (a 6) 10 (u 3), kO (a 7) 0 [.ref (a 8), .ref (a 9), .int (nI ((τ.2.2 2).length))], kI K (a 8) 5 (u 4), kI K (a 9) 5 (u 5)] rfl rfl ?_
    refine k_callVN hC (As := []) (cX2_allUnits_k l K (a 1) (a 2) (a 3) (u 0) (u 1) (τ.2.2 0) (by omega) hT.1) [kO (a 0) 1 [ah, .int (nI (τ.1 1)), .int (nI (τ.1 2)), .int (nI (τ.1 3)), .ref (a 1), .ref (a 4), .ref (a 7), .int (nI (τ.1 7)), .int (nI (τ.1 8)), .int (nI (τ.1 9)), .int (nI (τ.1 10)), .int (nI (τ.1 11)), .int (nI (τ.1 12)), .int (nI (τ.1 13)), .int (nI (τ.1 14)), .int (nI (τ.1 15)), .int (τ.2.1 0), .int (τ.2.1 1)], kO (a 4) 2 [.ref (a 5), .ref (a 6), .int (nI ((τ.2.2 1).length))], kI K (a 5) 10 (u 2), kZ K (a 6) 10 (u 3), kO (a 7) 0 [.ref (a 8), .ref (a 9), .int (nI ((τ.2.2 2).length))], kI K (a 8) 5 (u 4), kI K (a 9) 5 (u 5)] rfl 0 rfl rfl (kAll4 lkI_yX2_allUnits lkS_yX2_allUnits lkN_X2 lkC_yX2_allUnits) (List.mem_of_getElem? (i := 7) rfl) 0 (by decide) ⟨(Nat.le_of_ble_eq_true rfl), (Nat.le_of_ble_eq_true rfl)⟩ rfl rfl (Nat.le_of_ble_eq_true rfl) ⟨(Nat.le_of_ble_eq_true rfl), (Nat.le_of_ble_eq_true rfl)⟩ dX1_unitsHeld_20 (fun v w h => ?_)
    obtain ⟨rfl, rfl⟩ := h
    refine k_re 0 0 [kO (a 1) 2 [.ref (a 2), .ref (a 3), .int (nI ((τ.2.2 0).length))], kI K (a 2) 10 (u 0), kZ K (a 3) 10 (u 1), kO (a 0) 1 [ah, .int (nI (τ.1 1)), .int (nI (τ.1 2)), .int (nI (τ.1 3)), .ref (a 1), .ref (a 4), .ref (a 7), .int (nI (τ.1 7)), .int (nI (τ.1 8)), .int (nI (τ.1 9)), .int (nI (τ.1 10)), .int (nI (τ.1 11)), .int (nI (τ.1 12)), .int (nI (τ.1 13)), .int (nI (τ.1 14)), .int (nI (τ.1 15)), .int (τ.2.1 0), .int (τ.2.1 1)], kO (a 4) 2 [.ref (a 5), .ref (a 6), .int (nI ((τ.2.2 1).length))], kI K (a 5) 10 (u 2), kZ K (a 6) 10 (u 3), kO (a 7) 0 [.ref (a 8), .ref (a 9), .int (nI ((τ.2.2 2).length))], kI K (a 8) 5 (u 4), kI K (a 9) 5 (u 5)] [.int (nI (mU (τ.2.2 0)))] rfl rfl rfl rfl ?_
    refine k_perm [3, 0, 1, 2, 4, 5, 6, 7, 8, 9] [kO (a 0) 1 [ah, .int (nI (τ.1 1)), .int (nI (τ.1 2)), .int (nI (τ.1 3)), .ref (a 1), .ref (a 4), .ref (a 7), .int (nI (τ.1 7)), .int (nI (τ.1 8)), .int (nI (τ.1 9)), .int (nI (τ.1 10)), .int (nI (τ.1 11)), .int (nI (τ.1 12)), .int (nI (τ.1 13)), .int (nI (τ.1 14)), .int (nI (τ.1 15)), .int (τ.2.1 0), .int (τ.2.1 1)], kO (a 1) 2 [.ref (a 2), .ref (a 3), .int (nI ((τ.2.2 0).length))], kI K (a 2) 10 (u 0), kZ K (a 3) 10 (u 1), kO (a 4) 2 [.ref (a 5), .ref (a 6), .int (nI ((τ.2.2 1).length))], kI K (a 5) 10 (u 2), kZ K (a 6) 10 (u 3), kO (a 7) 0 [.ref (a 8), .ref (a 9), .int (nI ((τ.2.2 2).length))], kI K (a 8) 5 (u 4), kI K (a 9) 5 (u 5)] rfl rfl ?_
    refine k_aload_n hC 0 dX1_unitsHeld_23 rfl rfl ?_
    refine k_get hC inlX1 0 5 rfl rfl (by decide) lkF_X1_41 rfl dX1_unitsHeld_24 ?_
    refine k_perm [4, 5, 6, 0, 1, 2, 3, 7, 8, 9] [kO (a 4) 2 [.ref (a 5), .ref (a 6), .int (nI ((τ.2.2 1).length))], kI K (a 5) 10 (u 2), kZ K (a 6) 10 (u 3), kO (a 0) 1 [ah, .int (nI (τ.1 1)), .int (nI (τ.1 2)), .int (nI (τ.1 3)), .ref (a 1), .ref (a 4), .ref (a 7), .int (nI (τ.1 7)), .int (nI (τ.1 8)), .int (nI (τ.1 9)), .int (nI (τ.1 10)), .int (nI (τ.1 11)), .int (nI (τ.1 12)), .int (nI (τ.1 13)), .int (nI (τ.1 14)), .int (nI (τ.1 15)), .int (τ.2.1 0), .int (τ.2.1 1)], kO (a 1) 2 [.ref (a 2), .ref (a 3), .int (nI ((τ.2.2 0).length))], kI K (a 2) 10 (u 0), kZ K (a 3) 10 (u 1), kO (a 7) 0 [.ref (a 8), .ref (a 9), .int (nI ((τ.2.2 2).length))], kI K (a 8) 5 (u 4), kI K (a 9) 5 (u 5)] rfl rfl ?_
    refine k_callVN hC (As := []) (cX2_allUnits_k l K (a 4) (a 5) (a 6) (u 2) (u 3) (τ.2.2 1) (by omega) hT.2.1) [kO (a 0) 1 [ah, .int (nI (τ.1 1)), .int (nI (τ.1 2)), .int (nI (τ.1 3)), .ref (a 1), .ref (a 4), .ref (a 7), .int (nI (τ.1 7)), .int (nI (τ.1 8)), .int (nI (τ.1 9)), .int (nI (τ.1 10)), .int (nI (τ.1 11)), .int (nI (τ.1 12)), .int (nI (τ.1 13)), .int (nI (τ.1 14)), .int (nI (τ.1 15)), .int (τ.2.1 0), .int (τ.2.1 1)], kO (a 1) 2 [.ref (a 2), .ref (a 3), .int (nI ((τ.2.2 0).length))], kI K (a 2) 10 (u 0), kZ K (a 3) 10 (u 1), kO (a 7) 0 [.ref (a 8), .ref (a 9), .int (nI ((τ.2.2 2).length))], kI K (a 8) 5 (u 4), kI K (a 9) 5 (u 5)] rfl 0 rfl rfl (kAll4 lkI_yX2_allUnits lkS_yX2_allUnits lkN_X2 lkC_yX2_allUnits) (List.mem_of_getElem? (i := 7) rfl) 0 (by decide) ⟨(Nat.le_of_ble_eq_true rfl), (Nat.le_of_ble_eq_true rfl)⟩ rfl rfl (Nat.le_of_ble_eq_true rfl) ⟨(Nat.le_of_ble_eq_true rfl), (Nat.le_of_ble_eq_true rfl)⟩ dX1_unitsHeld_27 (fun v w h => ?_)
    obtain ⟨rfl, rfl⟩ := h
    refine k_re 0 0 [kO (a 4) 2 [.ref (a 5), .ref (a 6), .int (nI ((τ.2.2 1).length))], kI K (a 5) 10 (u 2), kZ K (a 6) 10 (u 3), kO (a 0) 1 [ah, .int (nI (τ.1 1)), .int (nI (τ.1 2)), .int (nI (τ.1 3)), .ref (a 1), .ref (a 4), .ref (a 7), .int (nI (τ.1 7)), .int (nI (τ.1 8)), .int (nI (τ.1 9)), .int (nI (τ.1 10)), .int (nI (τ.1 11)), .int (nI (τ.1 12)), .int (nI (τ.1 13)), .int (nI (τ.1 14)), .int (nI (τ.1 15)), .int (τ.2.1 0), .int (τ.2.1 1)], kO (a 1) 2 [.ref (a 2), .ref (a 3), .int (nI ((τ.2.2 0).length))], kI K (a 2) 10 (u 0), kZ K (a 3) 10 (u 1), kO (a 7) 0 [.ref (a 8), .ref (a 9), .int (nI ((τ.2.2 2).length))], kI K (a 8) 5 (u 4), kI K (a 9) 5 (u 5)] [.int (nI (mU (τ.2.2 1))), .int (nI (mU (τ.2.2 0)))] rfl rfl rfl rfl ?_
    refine k_perm [3, 4, 5, 6, 0, 1, 2, 7, 8, 9] [kO (a 0) 1 [ah, .int (nI (τ.1 1)), .int (nI (τ.1 2)), .int (nI (τ.1 3)), .ref (a 1), .ref (a 4), .ref (a 7), .int (nI (τ.1 7)), .int (nI (τ.1 8)), .int (nI (τ.1 9)), .int (nI (τ.1 10)), .int (nI (τ.1 11)), .int (nI (τ.1 12)), .int (nI (τ.1 13)), .int (nI (τ.1 14)), .int (nI (τ.1 15)), .int (τ.2.1 0), .int (τ.2.1 1)], kO (a 1) 2 [.ref (a 2), .ref (a 3), .int (nI ((τ.2.2 0).length))], kI K (a 2) 10 (u 0), kZ K (a 3) 10 (u 1), kO (a 4) 2 [.ref (a 5), .ref (a 6), .int (nI ((τ.2.2 1).length))], kI K (a 5) 10 (u 2), kZ K (a 6) 10 (u 3), kO (a 7) 0 [.ref (a 8), .ref (a 9), .int (nI ((τ.2.2 2).length))], kI K (a 8) 5 (u 4), kI K (a 9) 5 (u 5)] rfl rfl ?_
    refine k_iaddN hC dX1_unitsHeld_30 ?_
    refine k_aload_n hC 0 dX1_unitsHeld_31 rfl rfl ?_
    refine k_get hC inlX1 0 6 rfl rfl (by decide) lkF_X1_47 rfl dX1_unitsHeld_32 ?_
    refine k_perm [7, 8, 9, 0, 1, 2, 3, 4, 5, 6] [kO (a 7) 0 [.ref (a 8), .ref (a 9), .int (nI ((τ.2.2 2).length))], kI K (a 8) 5 (u 4), kI K (a 9) 5 (u 5), kO (a 0) 1 [ah, .int (nI (τ.1 1)), .int (nI (τ.1 2)), .int (nI (τ.1 3)), .ref (a 1), .ref (a 4), .ref (a 7), .int (nI (τ.1 7)), .int (nI (τ.1 8)), .int (nI (τ.1 9)), .int (nI (τ.1 10)), .int (nI (τ.1 11)), .int (nI (τ.1 12)), .int (nI (τ.1 13)), .int (nI (τ.1 14)), .int (nI (τ.1 15)), .int (τ.2.1 0), .int (τ.2.1 1)], kO (a 1) 2 [.ref (a 2), .ref (a 3), .int (nI ((τ.2.2 0).length))], kI K (a 2) 10 (u 0), kZ K (a 3) 10 (u 1), kO (a 4) 2 [.ref (a 5), .ref (a 6), .int (nI ((τ.2.2 1).length))], kI K (a 5) 10 (u 2), kZ K (a 6) 10 (u 3)] rfl rfl ?_
    refine k_callVN hC (As := []) (cX0_allUnits_k l K (a 7) (a 8) (a 9) (u 4) (u 5) (τ.2.2 2) (by omega) hT.2.2) [kO (a 0) 1 [ah, .int (nI (τ.1 1)), .int (nI (τ.1 2)), .int (nI (τ.1 3)), .ref (a 1), .ref (a 4), .ref (a 7), .int (nI (τ.1 7)), .int (nI (τ.1 8)), .int (nI (τ.1 9)), .int (nI (τ.1 10)), .int (nI (τ.1 11)), .int (nI (τ.1 12)), .int (nI (τ.1 13)), .int (nI (τ.1 14)), .int (nI (τ.1 15)), .int (τ.2.1 0), .int (τ.2.1 1)], kO (a 1) 2 [.ref (a 2), .ref (a 3), .int (nI ((τ.2.2 0).length))], kI K (a 2) 10 (u 0), kZ K (a 3) 10 (u 1), kO (a 4) 2 [.ref (a 5), .ref (a 6), .int (nI ((τ.2.2 1).length))], kI K (a 5) 10 (u 2), kZ K (a 6) 10 (u 3)] rfl 0 rfl rfl (kAll4 lkI_yX0_allUnits lkS_yX0_allUnits lkN_X0 lkC_yX0_allUnits) (List.mem_of_getElem? (i := 19) rfl) 0 (by decide) ⟨(Nat.le_of_ble_eq_true rfl), (Nat.le_of_ble_eq_true rfl)⟩ rfl rfl (Nat.le_of_ble_eq_true rfl) ⟨(Nat.le_of_ble_eq_true rfl), (Nat.le_of_ble_eq_true rfl)⟩ dX1_unitsHeld_35 (fun v w h => ?_)
    obtain ⟨rfl, rfl⟩ := h
    refine k_re 0 0 [kO (a 7) 0 [.ref (a 8), .ref (a 9), .int (nI ((τ.2.2 2).length))], kI K (a 8) 5 (u 4), kI K (a 9) 5 (u 5), kO (a 0) 1 [ah, .int (nI (τ.1 1)), .int (nI (τ.1 2)), .int (nI (τ.1 3)), .ref (a 1), .ref (a 4), .ref (a 7), .int (nI (τ.1 7)), .int (nI (τ.1 8)), .int (nI (τ.1 9)), .int (nI (τ.1 10)), .int (nI (τ.1 11)), .int (nI (τ.1 12)), .int (nI (τ.1 13)), .int (nI (τ.1 14)), .int (nI (τ.1 15)), .int (τ.2.1 0), .int (τ.2.1 1)], kO (a 1) 2 [.ref (a 2), .ref (a 3), .int (nI ((τ.2.2 0).length))], kI K (a 2) 10 (u 0), kZ K (a 3) 10 (u 1), kO (a 4) 2 [.ref (a 5), .ref (a 6), .int (nI ((τ.2.2 1).length))], kI K (a 5) 10 (u 2), kZ K (a 6) 10 (u 3)] [.int (nI (mU (τ.2.2 2))), .int (nI ((mU (τ.2.2 0)) + (mU (τ.2.2 1))))] rfl rfl rfl rfl ?_
    refine k_perm [3, 4, 5, 6, 7, 8, 9, 0, 1, 2] [kO (a 0) 1 [ah, .int (nI (τ.1 1)), .int (nI (τ.1 2)), .int (nI (τ.1 3)), .ref (a 1), .ref (a 4), .ref (a 7), .int (nI (τ.1 7)), .int (nI (τ.1 8)), .int (nI (τ.1 9)), .int (nI (τ.1 10)), .int (nI (τ.1 11)), .int (nI (τ.1 12)), .int (nI (τ.1 13)), .int (nI (τ.1 14)), .int (nI (τ.1 15)), .int (τ.2.1 0), .int (τ.2.1 1)], kO (a 1) 2 [.ref (a 2), .ref (a 3), .int (nI ((τ.2.2 0).length))], kI K (a 2) 10 (u 0), kZ K (a 3) 10 (u 1), kO (a 4) 2 [.ref (a 5), .ref (a 6), .int (nI ((τ.2.2 1).length))], kI K (a 5) 10 (u 2), kZ K (a 6) 10 (u 3), kO (a 7) 0 [.ref (a 8), .ref (a 9), .int (nI ((τ.2.2 2).length))], kI K (a 8) 5 (u 4), kI K (a 9) 5 (u 5)] rfl rfl ?_
    refine k_iaddN hC dX1_unitsHeld_38 ?_
    refine k_iload_n hC 1 dX1_unitsHeld_39 rfl rfl ?_
    refine k_iaddN hC dX1_unitsHeld_40 ?_
    exact k_iret hC hE (Nat.le_of_ble_eq_true rfl) (Nat.le_of_ble_eq_true rfl) dX1_unitsHeld_41 ⟨by unfold mHeld; rw [if_pos c1], rfl⟩
  · refine k_aload_n hC 0 dX1_unitsHeld_7 rfl rfl ?_
    refine k_get hC inlX1 0 2 rfl rfl (by decide) lkF_X1_17 rfl dX1_unitsHeld_8 ?_
    refine k_goto hC 15 dX1_unitsHeld_11 (by decide) ?_
    refine k_istore_n hC 1 dX1_unitsHeld_15 rfl (by decide) rfl [(0, .ref (a 0)), (1, .int (nI (τ.1 2)))] rfl ?_
    refine k_aload_n hC 0 dX1_unitsHeld_16 rfl rfl ?_
    refine k_get hC inlX1 0 4 rfl rfl (by decide) lkF_X1_37 rfl dX1_unitsHeld_17 ?_
    refine k_perm [1, 2, 3, 0, 4, 5, 6, 7, 8, 9] [kO (a 1) 2 [.ref (a 2), .ref (a 3), .int (nI ((τ.2.2 0).length))], kI K (a 2) 10 (u 0), kZ K (a 3) 10 (u 1), kO (a 0) 1 [ah, .int (nI (τ.1 1)), .int (nI (τ.1 2)), .int (nI (τ.1 3)), .ref (a 1), .ref (a 4), .ref (a 7), .int (nI (τ.1 7)), .int (nI (τ.1 8)), .int (nI (τ.1 9)), .int (nI (τ.1 10)), .int (nI (τ.1 11)), .int (nI (τ.1 12)), .int (nI (τ.1 13)), .int (nI (τ.1 14)), .int (nI (τ.1 15)), .int (τ.2.1 0), .int (τ.2.1 1)], kO (a 4) 2 [.ref (a 5), .ref (a 6), .int (nI ((τ.2.2 1).length))], kI K (a 5) 10 (u 2), kZ K (a 6) 10 (u 3), kO (a 7) 0 [.ref (a 8), .ref (a 9), .int (nI ((τ.2.2 2).length))], kI K (a 8) 5 (u 4), kI K (a 9) 5 (u 5)] rfl rfl ?_
    refine k_callVN hC (As := []) (cX2_allUnits_k l K (a 1) (a 2) (a 3) (u 0) (u 1) (τ.2.2 0) (by omega) hT.1) [kO (a 0) 1 [ah, .int (nI (τ.1 1)), .int (nI (τ.1 2)), .int (nI (τ.1 3)), .ref (a 1), .ref (a 4), .ref (a 7), .int (nI (τ.1 7)), .int (nI (τ.1 8)), .int (nI (τ.1 9)), .int (nI (τ.1 10)), .int (nI (τ.1 11)), .int (nI (τ.1 12)), .int (nI (τ.1 13)), .int (nI (τ.1 14)), .int (nI (τ.1 15)), .int (τ.2.1 0), .int (τ.2.1 1)], kO (a 4) 2 [.ref (a 5), .ref (a 6), .int (nI ((τ.2.2 1).length))], kI K (a 5) 10 (u 2), kZ K (a 6) 10 (u 3), kO (a 7) 0 [.ref (a 8), .ref (a 9), .int (nI ((τ.2.2 2).length))], kI K (a 8) 5 (u 4), kI K (a 9) 5 (u 5)] rfl 0 rfl rfl (kAll4 lkI_yX2_allUnits lkS_yX2_allUnits lkN_X2 lkC_yX2_allUnits) (List.mem_of_getElem? (i := 7) rfl) 0 (by decide) ⟨(Nat.le_of_ble_eq_true rfl), (Nat.le_of_ble_eq_true rfl)⟩ rfl rfl (Nat.le_of_ble_eq_true rfl) ⟨(Nat.le_of_ble_eq_true rfl), (Nat.le_of_ble_eq_true rfl)⟩ dX1_unitsHeld_20 (fun v w h => ?_)
    obtain ⟨rfl, rfl⟩ := h
    refine k_re 0 0 [kO (a 1) 2 [.ref (a 2), .ref (a 3), .int (nI ((τ.2.2 0).length))], kI K (a 2) 10 (u 0), kZ K (a 3) 10 (u 1), kO (a 0) 1 [ah, .int (nI (τ.1 1)), .int (nI (τ.1 2)), .int (nI (τ.1 3)), .ref (a 1), .ref (a 4), .ref (a 7), .int (nI (τ.1 7)), .int (nI (τ.1 8)), .int (nI (τ.1 9)), .int (nI (τ.1 10)), .int (nI (τ.1 11)), .int (nI (τ.1 12)), .int (nI (τ.1 13)), .int (nI (τ.1 14)), .int (nI (τ.1 15)), .int (τ.2.1 0), .int (τ.2.1 1)], kO (a 4) 2 [.ref (a 5), .ref (a 6), .int (nI ((τ.2.2 1).length))], kI K (a 5) 10 (u 2), kZ K (a 6) 10 (u 3), kO (a 7) 0 [.ref (a 8), .ref (a 9), .int (nI ((τ.2.2 2).length))], kI K (a 8) 5 (u 4), kI K (a 9) 5 (u 5)] [.int (nI (mU (τ.2.2 0)))] rfl rfl rfl rfl ?_
    refine k_perm [3, 0, 1, 2, 4, 5, 6, 7, 8, 9] [kO (a 0) 1 [ah, .int (nI (τ.1 1)), .int (nI (τ.1 2)), .int (nI (τ.1 3)), .ref (a 1), .ref (a 4), .ref (a 7), .int (nI (τ.1 7)), .int (nI (τ.1 8)), .int (nI (τ.1 9)), .int (nI (τ.1 10)), .int (nI (τ.1 11)), .int (nI (τ.1 12)), .int (nI (τ.1 13)), .int (nI (τ.1 14)), .int (nI (τ.1 15)), .int (τ.2.1 0), .int (τ.2.1 1)], kO (a 1) 2 [.ref (a 2), .ref (a 3), .int (nI ((τ.2.2 0).length))], kI K (a 2) 10 (u 0), kZ K (a 3) 10 (u 1), kO (a 4) 2 [.ref (a 5), .ref (a 6), .int (nI ((τ.2.2 1).length))], kI K (a 5) 10 (u 2), kZ K (a 6) 10 (u 3), kO (a 7) 0 [.ref (a 8), .ref (a 9), .int (nI ((τ.2.2 2).length))], kI K (a 8) 5 (u 4), kI K (a 9) 5 (u 5)] rfl rfl ?_
    refine k_aload_n hC 0 dX1_unitsHeld_23 rfl rfl ?_
    refine k_get hC inlX1 0 5 rfl rfl (by decide) lkF_X1_41 rfl dX1_unitsHeld_24 ?_
    refine k_perm [4, 5, 6, 0, 1, 2, 3, 7, 8, 9] [kO (a 4) 2 [.ref (a 5), .ref (a 6), .int (nI ((τ.2.2 1).length))], kI K (a 5) 10 (u 2), kZ K (a 6) 10 (u 3), kO (a 0) 1 [ah, .int (nI (τ.1 1)), .int (nI (τ.1 2)), .int (nI (τ.1 3)), .ref (a 1), .ref (a 4), .ref (a 7), .int (nI (τ.1 7)), .int (nI (τ.1 8)), .int (nI (τ.1 9)), .int (nI (τ.1 10)), .int (nI (τ.1 11)), .int (nI (τ.1 12)), .int (nI (τ.1 13)), .int (nI (τ.1 14)), .int (nI (τ.1 15)), .int (τ.2.1 0), .int (τ.2.1 1)], kO (a 1) 2 [.ref (a 2), .ref (a 3), .int (nI ((τ.2.2 0).length))], kI K (a 2) 10 (u 0), kZ K (a 3) 10 (u 1), kO (a 7) 0 [.ref (a 8), .ref (a 9), .int (nI ((τ.2.2 2).length))], kI K (a 8) 5 (u 4), kI K (a 9) 5 (u 5)] rfl rfl ?_
    refine k_callVN hC (As := []) (cX2_allUnits_k l K (a 4) (a 5) (a 6) (u 2) (u 3) (τ.2.2 1) (by omega) hT.2.1) [kO (a 0) 1 [ah, .int (nI (τ.1 1)), .int (nI (τ.1 2)), .int (nI (τ.1 3)), .ref (a 1), .ref (a 4), .ref (a 7), .int (nI (τ.1 7)), .int (nI (τ.1 8)), .int (nI (τ.1 9)), .int (nI (τ.1 10)), .int (nI (τ.1 11)), .int (nI (τ.1 12)), .int (nI (τ.1 13)), .int (nI (τ.1 14)), .int (nI (τ.1 15)), .int (τ.2.1 0), .int (τ.2.1 1)], kO (a 1) 2 [.ref (a 2), .ref (a 3), .int (nI ((τ.2.2 0).length))], kI K (a 2) 10 (u 0), kZ K (a 3) 10 (u 1), kO (a 7) 0 [.ref (a 8), .ref (a 9), .int (nI ((τ.2.2 2).length))], kI K (a 8) 5 (u 4), kI K (a 9) 5 (u 5)] rfl 0 rfl rfl (kAll4 lkI_yX2_allUnits lkS_yX2_allUnits lkN_X2 lkC_yX2_allUnits) (List.mem_of_getElem? (i := 7) rfl) 0 (by decide) ⟨(Nat.le_of_ble_eq_true rfl), (Nat.le_of_ble_eq_true rfl)⟩ rfl rfl (Nat.le_of_ble_eq_true rfl) ⟨(Nat.le_of_ble_eq_true rfl), (Nat.le_of_ble_eq_true rfl)⟩ dX1_unitsHeld_27 (fun v w h => ?_)
    obtain ⟨rfl, rfl⟩ := h
    refine k_re 0 0 [kO (a 4) 2 [.ref (a 5), .ref (a 6), .int (nI ((τ.2.2 1).length))], kI K (a 5) 10 (u 2), kZ K (a 6) 10 (u 3), kO (a 0) 1 [ah, .int (nI (τ.1 1)), .int (nI (τ.1 2)), .int (nI (τ.1 3)), .ref (a 1), .ref (a 4), .ref (a 7), .int (nI (τ.1 7)), .int (nI (τ.1 8)), .int (nI (τ.1 9)), .int (nI (τ.1 10)), .int (nI (τ.1 11)), .int (nI (τ.1 12)), .int (nI (τ.1 13)), .int (nI (τ.1 14)), .int (nI (τ.1 15)), .int (τ.2.1 0), .int (τ.2.1 1)], kO (a 1) 2 [.ref (a 2), .ref (a 3), .int (nI ((τ.2.2 0).length))], kI K (a 2) 10 (u 0), kZ K (a 3) 10 (u 1), kO (a 7) 0 [.ref (a 8), .ref (a 9), .int (nI ((τ.2.2 2).length))], kI K (a 8) 5 (u 4), kI K (a 9) 5 (u 5)] [.int (nI (mU (τ.2.2 1))), .int (nI (mU (τ.2.2 0)))] rfl rfl rfl rfl ?_
    refine k_perm [3, 4, 5, 6, 0, 1, 2, 7, 8, 9] [kO (a 0) 1 [ah, .int (nI (τ.1 1)), .int (nI (τ.1 2)), .int (nI (τ.1 3)), .ref (a 1), .ref (a 4), .ref (a 7), .int (nI (τ.1 7)), .int (nI (τ.1 8)), .int (nI (τ.1 9)), .int (nI (τ.1 10)), .int (nI (τ.1 11)), .int (nI (τ.1 12)), .int (nI (τ.1 13)), .int (nI (τ.1 14)), .int (nI (τ.1 15)), .int (τ.2.1 0), .int (τ.2.1 1)], kO (a 1) 2 [.ref (a 2), .ref (a 3), .int (nI ((τ.2.2 0).length))], kI K (a 2) 10 (u 0), kZ K (a 3) 10 (u 1), kO (a 4) 2 [.ref (a 5), .ref (a 6), .int (nI ((τ.2.2 1).length))], kI K (a 5) 10 (u 2), kZ K (a 6) 10 (u 3), kO (a 7) 0 [.ref (a 8), .ref (a 9), .int (nI ((τ.2.2 2).length))], kI K (a 8) 5 (u 4), kI K (a 9) 5 (u 5)] rfl rfl ?_
    refine k_iaddN hC dX1_unitsHeld_30 ?_
    refine k_aload_n hC 0 dX1_unitsHeld_31 rfl rfl ?_
    refine k_get hC inlX1 0 6 rfl rfl (by decide) lkF_X1_47 rfl dX1_unitsHeld_32 ?_
    refine k_perm [7, 8, 9, 0, 1, 2, 3, 4, 5, 6] [kO (a 7) 0 [.ref (a 8), .ref (a 9), .int (nI ((τ.2.2 2).length))], kI K (a 8) 5 (u 4), kI K (a 9) 5 (u 5), kO (a 0) 1 [ah, .int (nI (τ.1 1)), .int (nI (τ.1 2)), .int (nI (τ.1 3)), .ref (a 1), .ref (a 4), .ref (a 7), .int (nI (τ.1 7)), .int (nI (τ.1 8)), .int (nI (τ.1 9)), .int (nI (τ.1 10)), .int (nI (τ.1 11)), .int (nI (τ.1 12)), .int (nI (τ.1 13)), .int (nI (τ.1 14)), .int (nI (τ.1 15)), .int (τ.2.1 0), .int (τ.2.1 1)], kO (a 1) 2 [.ref (a 2), .ref (a 3), .int (nI ((τ.2.2 0).length))], kI K (a 2) 10 (u 0), kZ K (a 3) 10 (u 1), kO (a 4) 2 [.ref (a 5), .ref (a 6), .int (nI ((τ.2.2 1).length))], kI K (a 5) 10 (u 2), kZ K (a 6) 10 (u 3)] rfl rfl ?_
    refine k_callVN hC (As := []) (cX0_allUnits_k l K (a 7) (a 8) (a 9) (u 4) (u 5) (τ.2.2 2) (by omega) hT.2.2) [kO (a 0) 1 [ah, .int (nI (τ.1 1)), .int (nI (τ.1 2)), .int (nI (τ.1 3)), .ref (a 1), .ref (a 4), .ref (a 7), .int (nI (τ.1 7)), .int (nI (τ.1 8)), .int (nI (τ.1 9)), .int (nI (τ.1 10)), .int (nI (τ.1 11)), .int (nI (τ.1 12)), .int (nI (τ.1 13)), .int (nI (τ.1 14)), .int (nI (τ.1 15)), .int (τ.2.1 0), .int (τ.2.1 1)], kO (a 1) 2 [.ref (a 2), .ref (a 3), .int (nI ((τ.2.2 0).length))], kI K (a 2) 10 (u 0), kZ K (a 3) 10 (u 1), kO (a 4) 2 [.ref (a 5), .ref (a 6), .int (nI ((τ.2.2 1).length))], kI K (a 5) 10 (u 2), kZ K (a 6) 10 (u 3)] rfl 0 rfl rfl (kAll4 lkI_yX0_allUnits lkS_yX0_allUnits lkN_X0 lkC_yX0_allUnits) (List.mem_of_getElem? (i := 19) rfl) 0 (by decide) ⟨(Nat.le_of_ble_eq_true rfl), (Nat.le_of_ble_eq_true rfl)⟩ rfl rfl (Nat.le_of_ble_eq_true rfl) ⟨(Nat.le_of_ble_eq_true rfl), (Nat.le_of_ble_eq_true rfl)⟩ dX1_unitsHeld_35 (fun v w h => ?_)
    obtain ⟨rfl, rfl⟩ := h
    refine k_re 0 0 [kO (a 7) 0 [.ref (a 8), .ref (a 9), .int (nI ((τ.2.2 2).length))], kI K (a 8) 5 (u 4), kI K (a 9) 5 (u 5), kO (a 0) 1 [ah, .int (nI (τ.1 1)), .int (nI (τ.1 2)), .int (nI (τ.1 3)), .ref (a 1), .ref (a 4), .ref (a 7), .int (nI (τ.1 7)), .int (nI (τ.1 8)), .int (nI (τ.1 9)), .int (nI (τ.1 10)), .int (nI (τ.1 11)), .int (nI (τ.1 12)), .int (nI (τ.1 13)), .int (nI (τ.1 14)), .int (nI (τ.1 15)), .int (τ.2.1 0), .int (τ.2.1 1)], kO (a 1) 2 [.ref (a 2), .ref (a 3), .int (nI ((τ.2.2 0).length))], kI K (a 2) 10 (u 0), kZ K (a 3) 10 (u 1), kO (a 4) 2 [.ref (a 5), .ref (a 6), .int (nI ((τ.2.2 1).length))], kI K (a 5) 10 (u 2), kZ K (a 6) 10 (u 3)] [.int (nI (mU (τ.2.2 2))), .int (nI ((mU (τ.2.2 0)) + (mU (τ.2.2 1))))] rfl rfl rfl rfl ?_
    refine k_perm [3, 4, 5, 6, 7, 8, 9, 0, 1, 2] [kO (a 0) 1 [ah, .int (nI (τ.1 1)), .int (nI (τ.1 2)), .int (nI (τ.1 3)), .ref (a 1), .ref (a 4), .ref (a 7), .int (nI (τ.1 7)), .int (nI (τ.1 8)), .int (nI (τ.1 9)), .int (nI (τ.1 10)), .int (nI (τ.1 11)), .int (nI (τ.1 12)), .int (nI (τ.1 13)), .int (nI (τ.1 14)), .int (nI (τ.1 15)), .int (τ.2.1 0), .int (τ.2.1 1)], kO (a 1) 2 [.ref (a 2), .ref (a 3), .int (nI ((τ.2.2 0).length))], kI K (a 2) 10 (u 0), kZ K (a 3) 10 (u 1), kO (a 4) 2 [.ref (a 5), .ref (a 6), .int (nI ((τ.2.2 1).length))], kI K (a 5) 10 (u 2), kZ K (a 6) 10 (u 3), kO (a 7) 0 [.ref (a 8), .ref (a 9), .int (nI ((τ.2.2 2).length))], kI K (a 8) 5 (u 4), kI K (a 9) 5 (u 5)] rfl rfl ?_
    refine k_iaddN hC dX1_unitsHeld_38 ?_
    refine k_iload_n hC 1 dX1_unitsHeld_39 rfl rfl ?_
    refine k_iaddN hC dX1_unitsHeld_40 ?_
    exact k_iret hC hE (Nat.le_of_ble_eq_true rfl) (Nat.le_of_ble_eq_true rfl) dX1_unitsHeld_41 ⟨by unfold mHeld; rw [if_neg c1], rfl⟩
