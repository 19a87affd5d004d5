/-! the reference: its calls -/
theorem mRep_S {σ : mS} {S S' : Nat → Int32} {G : Nat → Nat → Int32} (h : mRep σ S G) (hS : ∀ j : Nat, j ≠ 0 → S' j = S j) : mRep σ S' G := by
  obtain ⟨h1, h2, h3, h4, h5, h6⟩ := h
  exact ⟨(hS 1 (by decide)).trans h1, (hS 2 (by decide)).trans h2, fun j a c => (hS j (by omega)).trans (h3 j a c), (hS 8 (by decide)).trans h4, h5, h6⟩
theorem mRep_put {σ : mS} {S S' : Nat → Int32} {G G' : Nat → Nat → Int32} {k : Nat} {τ : mT} (hσ : mSok σ) (h : mRep σ S G) (hk : k < σ.1) (h1 : mRepS k τ G') (h2 : mOnly k G G') (h3 : τ.2.1 1 = (σ.2.2.2 k).2.1 1) (hS : ∀ j : Nat, j ≠ 0 → S' j = S j) : mRep (mPut σ k τ) S' G' := by
  obtain ⟨r1, r2, r3, r4, r5, r6⟩ := h
  refine ⟨(hS 1 (by decide)).trans r1, (hS 2 (by decide)).trans r2, fun j a c => (hS j (by omega)).trans (r3 j a c), ((hS 8 (by decide)).trans r4).trans ?_, fun j hj => ?_, mZero_ag (n := σ.1) r6 (fun j hj => h2 j (by omega))⟩
  · symm
    refine mSumZ_eq (fun j => ?_)
    show (va_up σ.2.2.2 k τ j).2.1 1 = (σ.2.2.2 j).2.1 1
    by_cases e : j = k
    · subst e; rw [va_up_self]; exact h3
    · rw [va_up_ne _ _ e]
  · show mRepS j (va_up σ.2.2.2 k τ j) G'
    by_cases e : j = k
    · subst e; rw [va_up_self]; exact h1
    · rw [va_up_ne _ _ e]; exact mRepS_ag (r5 j hj) (mInv_16 (hσ.2 j hj).1) (h2 j e)
abbrev rmX4_thrown : Room := { frames := 0, cells := 0, slots := 0, locals := 0 }
set_option maxRecDepth 100000 in
set_option maxHeartbeats 4000000 in
theorem cX4_thrown_k (l : Launch) (K : kE) (y : Nat) (b : Nat → Nat) (S : Nat → Int32) (G : Nat → Nat → Int32) : kM l yX4_thrown (kws yX4_thrown cX4_thrown 1 (some .int)) rmX4_thrown K [.ref y] (wM K y b S G) (fun v w => v = some (.int (S 0)) ∧ w = wM K y b S G) := by
  refine kM_of (pl := []) (X := (wM K y b S G)) rfl (by decide) (Nat.le_of_ble_eq_true rfl) ?_
  intro p e s m args below meth cd A Q hC hnm hE
  refine k_aload_n hC 0 dX4_thrown_0 rfl rfl ?_
  refine k_get hC inlX4 0 0 rfl rfl (by decide) lkF_X4_74 rfl dX4_thrown_1 ?_
  exact k_iret hC hE (Nat.le_of_ble_eq_true rfl) (Nat.le_of_ble_eq_true rfl) dX4_thrown_4 ⟨rfl, List.append_nil _⟩
abbrev rmX4_way : Room := { frames := 1, cells := 0, slots := 0, locals := 23 }
set_option maxRecDepth 100000 in
set_option maxHeartbeats 4000000 in
theorem cX4_way_k (l : Launch) (K : kE) (y : Nat) (b : Nat → Nat) (S : Nat → Int32) (G : Nat → Nat → Int32) (σ : mS) (hσ : mSok σ) (hR : mRep σ S G) (p9 v9 : Int32) : kM l yX4_way (kws yX4_way cX4_way 4 (some .int)) rmX4_way K [.ref y, .int p9, .int v9] (wM K y b S G) (mPo K y b (oWay σ p9 v9)) := by
  refine kM_of (pl := []) (X := (wM K y b S G)) rfl (by decide) (Nat.le_of_ble_eq_true rfl) ?_
  intro p e s m args below meth cd A Q hC hnm hE
  have hn6 := hσ.1
  refine k_aload_n hC 0 dX4_way_0 rfl rfl ?_
  refine k_aload_n hC 0 dX4_way_1 rfl rfl ?_
  refine k_iload_n hC 1 dX4_way_2 rfl rfl ?_
  refine k_iconst hC (nI 1) dX4_way_3 rfl ?_
  refine k_callV hC (As := [.int p9, .int (nI 1)]) (cX4_asks_k l K y b S G p9 (nI 1)) [] (List.append_nil _).symm 0 rfl rfl (kAll5 lkM_X4_92 lkI_yX4_asks lkS_yX4_asks lkN_X4 lkC_yX4_asks) 2 (by decide) ⟨(Nat.le_of_ble_eq_true rfl), (Nat.le_of_ble_eq_true rfl)⟩ rfl rfl (Nat.le_of_ble_eq_true rfl) ⟨(Nat.le_of_ble_eq_true rfl), (Nat.le_of_ble_eq_true rfl)⟩ dX4_way_4 (fun v w h => ?_)
  obtain ⟨rfl, rfl⟩ := h
  rw [hR.1]
  by_cases hm : mHas σ 1 p9
  · rw [if_pos hm, if_pos hm]
    refine k_re 0 0 (wM K y b (va_up S 0 (nI 0)) G) [.int (nI 1), .ref y] rfl rfl (List.append_nil _) rfl ?_
    obtain ⟨k, hk1, hk, rfl⟩ := mHas_ex hσ.1 (by decide) hm
    have hk31 : k < 2 ^ 31 := by omega
    have hk6 : k < 6 := by omega
    have hi := hσ.2 k hk
    have hn := hi.1.1
    have hl0 := mInv_L0 hi.1
    have hl1 := mInv_L1 hi.1
    have hl2 := mInv_L2 hi.1
    have h89 : (σ.2.2.2 k).1 9 ≤ 9 := by have := hi.1.2.1; omega
    obtain ⟨q9, q10, q11, q12, q13, q14, q15, q16, q17, q18, q19, q20, qr0, qr1, qr2⟩ := id (hR.2.2.2.2.1 k hk)
    refine k_if_neN hC 14 dX4_way_7 (by decide) (by omega) (fun d1 => ?_) (fun d1 => ?_)
    · refine k_iload_n hC 2 dX4_way_14 rfl rfl ?_
      refine k_iconst hC (nI 0) dX4_way_15 rfl ?_
      refine k_iconst hC (nI 5) dX4_way_16 rfl ?_
      refine k_callS hC (As := [.int v9, .int (nI 0), .int (nI 5)]) (cX4_isIn_k l K v9 (nI 0) (nI 5)) (wM K y b (va_up S 0 (nI 0)) G) rfl (kAll4 lkM_X4_81 lkT_yX4_isIn lkN_X4 lkC_yX4_isIn) 3 (by decide) ⟨(Nat.le_of_ble_eq_true rfl), (Nat.le_of_ble_eq_true rfl)⟩ rfl rfl (Nat.le_of_ble_eq_true rfl) ⟨(Nat.le_of_ble_eq_true rfl), (Nat.le_of_ble_eq_true rfl)⟩ dX4_way_17 (fun v w h => ?_)
      obtain ⟨rfl, rfl⟩ := h
      refine k_re 0 0 (wM K y b (va_up S 0 (nI 0)) G) [.int (nI (if nI 0 ≤ v9 ∧ v9 ≤ nI 5 then 1 else 0)), .ref y] rfl rfl rfl rfl ?_
      by_cases hv : mIn v9 0 5
      · rw [if_pos hv]
        obtain ⟨j9, hj1, hj2, rfl⟩ := mIn_ex (by decide) (by decide) hv
        have hj31 : j9 < 2 ^ 31 := by omega
        refine k_if_eqN hC 27 dX4_way_20 (by decide) (by omega) (fun d2 => ?_) (fun d2 => ?_)
        · exact absurd d2 (by decide)
        · refine k_iconst hC (nI 0) dX4_way_23 rfl ?_
          refine k_goto hC 28 dX4_way_24 (by decide) ?_
          refine k_put hC inlX4 tyX4_ok nmX4 0 0 rfl rfl (by decide) lkF_X4_74 rfl rfl rfl (Nat.le_of_ble_eq_true rfl) dX4_way_28 (wM K y b (va_up (va_up S 0 (nI 0)) 0 (nI 0)) G) rfl ?_
          refine k_aload_n hC 0 dX4_way_31 rfl rfl ?_
          refine k_get hC inlX4 0 0 rfl rfl (by decide) lkF_X4_74 rfl dX4_way_32 ?_
          refine k_if_leN hC 40 dX4_way_35 (by decide) (by omega) (fun d3 => ?_) (fun d3 => ?_)
          · refine k_aload_n hC 0 dX4_way_40 rfl rfl ?_
            refine k_get hC inlX4 0 18 rfl rfl (by decide) lkF_X4_38 rfl dX4_way_41 ?_
            refine k_iload_n hC 1 dX4_way_44 rfl rfl ?_
            refine k_ald hC 10 rfl (by omega) (by decide) dX4_way_45 ?_
            refine k_topE (nI ((σ.2.2.2 k).1 15)) q18 ?_
            refine k_istore_n hC 3 dX4_way_46 rfl (by decide) rfl [(0, .ref y), (1, .int (nI k)), (2, .int (nI j9)), (3, .int (nI ((σ.2.2.2 k).1 15)))] rfl ?_
            refine k_aload_n hC 0 dX4_way_47 rfl rfl ?_
            refine k_get hC inlX4 0 18 rfl rfl (by decide) lkF_X4_38 rfl dX4_way_48 ?_
            refine k_iload_n hC 1 dX4_way_51 rfl rfl ?_
            refine k_iload_n hC 2 dX4_way_52 rfl rfl ?_
            refine k_ast hC 10 rfl (by omega) (by decide) dX4_way_53 (wM K y b (va_up (va_up S 0 (nI 0)) 0 (nI 0)) (va_up G 18 (upd (G 18) k (nI j9)))) rfl ?_
            refine k_iload_n hC 3 dX4_way_54 rfl rfl ?_
            exact k_iret hC hE (Nat.le_of_ble_eq_true rfl) (Nat.le_of_ble_eq_true rfl) dX4_way_55 (by rw [show oWay σ (nI k) (nI j9) = (0, nI ((σ.2.2.2 k).1 15), mPut σ k (va_up (σ.2.2.2 k).1 15 j9, (σ.2.2.2 k).2)) by simp only [oWay, oT, mIx_nI hk31, mIx_nI hj31, if_pos hm, if_pos hv]]; exact ⟨_, _, _, rfl, List.append_nil _, rfl, fun _ => rfl, mRep_put hσ hR hk ⟨q9, q10, q11, q12, q13, q14, q15, q16, q17, kupd_eq, q19, q20, qr0, qr1, qr2⟩ (mOnly_tr mOnly_rf mOnly_18) rfl (fun j hj => by simp only [va_up_ne _ _ hj])⟩)
          · exact absurd (by decide) d3
      · rw [if_neg hv]
        refine k_if_eqN hC 27 dX4_way_20 (by decide) (by omega) (fun d2 => ?_) (fun d2 => ?_)
        · refine k_iconst hC (nI 2) dX4_way_27 rfl ?_
          refine k_put hC inlX4 tyX4_ok nmX4 0 0 rfl rfl (by decide) lkF_X4_74 rfl rfl rfl (Nat.le_of_ble_eq_true rfl) dX4_way_28 (wM K y b (va_up (va_up S 0 (nI 0)) 0 (nI 2)) G) rfl ?_
          refine k_aload_n hC 0 dX4_way_31 rfl rfl ?_
          refine k_get hC inlX4 0 0 rfl rfl (by decide) lkF_X4_74 rfl dX4_way_32 ?_
          refine k_if_leN hC 40 dX4_way_35 (by decide) (by omega) (fun d3 => ?_) (fun d3 => ?_)
          · exact absurd d3 (by decide)
          · refine k_iconst hC (nI 0) dX4_way_38 rfl ?_
            exact k_iret hC hE (Nat.le_of_ble_eq_true rfl) (Nat.le_of_ble_eq_true rfl) dX4_way_39 (by rw [show oWay σ (nI k) v9 = (2, nI 0, σ) by simp only [oWay, if_pos hm, if_neg hv]]; exact ⟨_, G, _, rfl, List.append_nil _, rfl, fun q => absurd q (Nat.succ_ne_zero _), mRep_S hR (fun j hj => by simp only [va_up_ne _ _ hj])⟩)
        · exact absurd (by decide) d2
    · exact absurd d1 (by decide)
  · rw [if_neg hm, if_neg hm]
    refine k_re 0 0 (wM K y b (va_up S 0 (nI 1)) G) [.int (nI 0), .ref y] rfl rfl (List.append_nil _) rfl ?_
    refine k_if_neN hC 14 dX4_way_7 (by decide) (by omega) (fun d1 => ?_) (fun d1 => ?_)
    · exact absurd (by decide) d1
    · refine k_iconst hC (nI 1) dX4_way_10 rfl ?_
      refine k_goto hC 28 dX4_way_11 (by decide) ?_
      refine k_put hC inlX4 tyX4_ok nmX4 0 0 rfl rfl (by decide) lkF_X4_74 rfl rfl rfl (Nat.le_of_ble_eq_true rfl) dX4_way_28 (wM K y b (va_up (va_up S 0 (nI 1)) 0 (nI 1)) G) rfl ?_
      refine k_aload_n hC 0 dX4_way_31 rfl rfl ?_
      refine k_get hC inlX4 0 0 rfl rfl (by decide) lkF_X4_74 rfl dX4_way_32 ?_
      refine k_if_leN hC 40 dX4_way_35 (by decide) (by omega) (fun d2 => ?_) (fun d2 => ?_)
      · exact absurd d2 (by decide)
      · refine k_iconst hC (nI 0) dX4_way_38 rfl ?_
        exact k_iret hC hE (Nat.le_of_ble_eq_true rfl) (Nat.le_of_ble_eq_true rfl) dX4_way_39 (by rw [show oWay σ p9 v9 = (1, nI 0, σ) by simp only [oWay, if_neg hm]]; exact ⟨_, G, _, rfl, List.append_nil _, rfl, fun q => absurd q (Nat.succ_ne_zero _), mRep_S hR (fun j hj => by simp only [va_up_ne _ _ hj])⟩)
abbrev rmX4_mark : Room := { frames := 1, cells := 0, slots := 0, locals := 23 }
set_option maxRecDepth 100000 in
set_option maxHeartbeats 4000000 in
theorem cX4_mark_k (l : Launch) (K : kE) (y : Nat) (b : Nat → Nat) (S : Nat → Int32) (G : Nat → Nat → Int32) (σ : mS) (hσ : mSok σ) (hR : mRep σ S G) (p9 v9 : Int32) : kM l yX4_mark (kws yX4_mark cX4_mark 4 (some .int)) rmX4_mark K [.ref y, .int p9, .int v9] (wM K y b S G) (mPo K y b (oMark σ p9 v9)) := by
  refine kM_of (pl := []) (X := (wM K y b S G)) rfl (by decide) (Nat.le_of_ble_eq_true rfl) ?_
  intro p e s m args below meth cd A Q hC hnm hE
  have hn6 := hσ.1
  refine k_aload_n hC 0 dX4_mark_0 rfl rfl ?_
  refine k_aload_n hC 0 dX4_mark_1 rfl rfl ?_
  refine k_iload_n hC 1 dX4_mark_2 rfl rfl ?_
  refine k_iconst hC (nI 0) dX4_mark_3 rfl ?_
  refine k_callV hC (As := [.int p9, .int (nI 0)]) (cX4_asks_k l K y b S G p9 (nI 0)) [] (List.append_nil _).symm 0 rfl rfl (kAll5 lkM_X4_92 lkI_yX4_asks lkS_yX4_asks lkN_X4 lkC_yX4_asks) 2 (by decide) ⟨(Nat.le_of_ble_eq_true rfl), (Nat.le_of_ble_eq_true rfl)⟩ rfl rfl (Nat.le_of_ble_eq_true rfl) ⟨(Nat.le_of_ble_eq_true rfl), (Nat.le_of_ble_eq_true rfl)⟩ dX4_mark_4 (fun v w h => ?_)
  obtain ⟨rfl, rfl⟩ := h
  rw [hR.1]
  by_cases hm : mHas σ 0 p9
  · rw [if_pos hm, if_pos hm]
    refine k_re 0 0 (wM K y b (va_up S 0 (nI 0)) G) [.int (nI 1), .ref y] rfl rfl (List.append_nil _) rfl ?_
    obtain ⟨k, hk1, hk, rfl⟩ := mHas_ex hσ.1 (by decide) hm
    have hk31 : k < 2 ^ 31 := by omega
    have hk6 : k < 6 := by omega
    have hi := hσ.2 k hk
    have hn := hi.1.1
    have hl0 := mInv_L0 hi.1
    have hl1 := mInv_L1 hi.1
    have hl2 := mInv_L2 hi.1
    have h89 : (σ.2.2.2 k).1 9 ≤ 9 := by have := hi.1.2.1; omega
    obtain ⟨q9, q10, q11, q12, q13, q14, q15, q16, q17, q18, q19, q20, qr0, qr1, qr2⟩ := id (hR.2.2.2.2.1 k hk)
    refine k_if_neN hC 14 dX4_mark_7 (by decide) (by omega) (fun d1 => ?_) (fun d1 => ?_)
    · refine k_iload_n hC 2 dX4_mark_14 rfl rfl ?_
      refine k_iconst hC (nI 1) dX4_mark_15 rfl ?_
      refine k_bipush hC (nI 9) dX4_mark_16 rfl ?_
      refine k_callS hC (As := [.int v9, .int (nI 1), .int (nI 9)]) (cX4_isIn_k l K v9 (nI 1) (nI 9)) (wM K y b (va_up S 0 (nI 0)) G) rfl (kAll4 lkM_X4_81 lkT_yX4_isIn lkN_X4 lkC_yX4_isIn) 3 (by decide) ⟨(Nat.le_of_ble_eq_true rfl), (Nat.le_of_ble_eq_true rfl)⟩ rfl rfl (Nat.le_of_ble_eq_true rfl) ⟨(Nat.le_of_ble_eq_true rfl), (Nat.le_of_ble_eq_true rfl)⟩ dX4_mark_18 (fun v w h => ?_)
      obtain ⟨rfl, rfl⟩ := h
      refine k_re 0 0 (wM K y b (va_up S 0 (nI 0)) G) [.int (nI (if nI 1 ≤ v9 ∧ v9 ≤ nI 9 then 1 else 0)), .ref y] rfl rfl rfl rfl ?_
      by_cases hv : mIn v9 1 9
      · rw [if_pos hv]
        obtain ⟨j9, hj1, hj2, rfl⟩ := mIn_ex (by decide) (by decide) hv
        have hj31 : j9 < 2 ^ 31 := by omega
        refine k_if_eqN hC 28 dX4_mark_21 (by decide) (by omega) (fun d2 => ?_) (fun d2 => ?_)
        · exact absurd d2 (by decide)
        · refine k_iconst hC (nI 0) dX4_mark_24 rfl ?_
          refine k_goto hC 29 dX4_mark_25 (by decide) ?_
          refine k_put hC inlX4 tyX4_ok nmX4 0 0 rfl rfl (by decide) lkF_X4_74 rfl rfl rfl (Nat.le_of_ble_eq_true rfl) dX4_mark_29 (wM K y b (va_up (va_up S 0 (nI 0)) 0 (nI 0)) G) rfl ?_
          refine k_aload_n hC 0 dX4_mark_32 rfl rfl ?_
          refine k_get hC inlX4 0 0 rfl rfl (by decide) lkF_X4_74 rfl dX4_mark_33 ?_
          refine k_if_leN hC 41 dX4_mark_36 (by decide) (by omega) (fun d3 => ?_) (fun d3 => ?_)
          · refine k_aload_n hC 0 dX4_mark_41 rfl rfl ?_
            refine k_get hC inlX4 0 12 rfl rfl (by decide) lkF_X4_19 rfl dX4_mark_42 ?_
            refine k_iload_n hC 1 dX4_mark_45 rfl rfl ?_
            refine k_ald hC 4 rfl (by omega) (by decide) dX4_mark_46 ?_
            refine k_topE (nI ((σ.2.2.2 k).1 7)) q12 ?_
            refine k_istore_n hC 3 dX4_mark_47 rfl (by decide) rfl [(0, .ref y), (1, .int (nI k)), (2, .int (nI j9)), (3, .int (nI ((σ.2.2.2 k).1 7)))] rfl ?_
            refine k_aload_n hC 0 dX4_mark_48 rfl rfl ?_
            refine k_get hC inlX4 0 12 rfl rfl (by decide) lkF_X4_19 rfl dX4_mark_49 ?_
            refine k_iload_n hC 1 dX4_mark_52 rfl rfl ?_
            refine k_iload_n hC 2 dX4_mark_53 rfl rfl ?_
            refine k_ast hC 4 rfl (by omega) (by decide) dX4_mark_54 (wM K y b (va_up (va_up S 0 (nI 0)) 0 (nI 0)) (va_up G 12 (upd (G 12) k (nI j9)))) rfl ?_
            refine k_iload_n hC 3 dX4_mark_55 rfl rfl ?_
            exact k_iret hC hE (Nat.le_of_ble_eq_true rfl) (Nat.le_of_ble_eq_true rfl) dX4_mark_56 (by rw [show oMark σ (nI k) (nI j9) = (0, nI ((σ.2.2.2 k).1 7), mPut σ k (va_up (σ.2.2.2 k).1 7 j9, (σ.2.2.2 k).2)) by simp only [oMark, oT, mIx_nI hk31, mIx_nI hj31, if_pos hm, if_pos hv]]; exact ⟨_, _, _, rfl, List.append_nil _, rfl, fun _ => rfl, mRep_put hσ hR hk ⟨q9, q10, q11, kupd_eq, q13, q14, q15, q16, q17, q18, q19, q20, qr0, qr1, qr2⟩ (mOnly_tr mOnly_rf mOnly_12) rfl (fun j hj => by simp only [va_up_ne _ _ hj])⟩)
          · exact absurd (by decide) d3
      · rw [if_neg hv]
        refine k_if_eqN hC 28 dX4_mark_21 (by decide) (by omega) (fun d2 => ?_) (fun d2 => ?_)
        · refine k_iconst hC (nI 2) dX4_mark_28 rfl ?_
          refine k_put hC inlX4 tyX4_ok nmX4 0 0 rfl rfl (by decide) lkF_X4_74 rfl rfl rfl (Nat.le_of_ble_eq_true rfl) dX4_mark_29 (wM K y b (va_up (va_up S 0 (nI 0)) 0 (nI 2)) G) rfl ?_
          refine k_aload_n hC 0 dX4_mark_32 rfl rfl ?_
          refine k_get hC inlX4 0 0 rfl rfl (by decide) lkF_X4_74 rfl dX4_mark_33 ?_
          refine k_if_leN hC 41 dX4_mark_36 (by decide) (by omega) (fun d3 => ?_) (fun d3 => ?_)
          · exact absurd d3 (by decide)
          · refine k_iconst hC (nI 0) dX4_mark_39 rfl ?_
            exact k_iret hC hE (Nat.le_of_ble_eq_true rfl) (Nat.le_of_ble_eq_true rfl) dX4_mark_40 (by rw [show oMark σ (nI k) v9 = (2, nI 0, σ) by simp only [oMark, if_pos hm, if_neg hv]]; exact ⟨_, G, _, rfl, List.append_nil _, rfl, fun q => absurd q (Nat.succ_ne_zero _), mRep_S hR (fun j hj => by simp only [va_up_ne _ _ hj])⟩)
        · exact absurd (by decide) d2
    · exact absurd d1 (by decide)
  · rw [if_neg hm, if_neg hm]
    refine k_re 0 0 (wM K y b (va_up S 0 (nI 1)) G) [.int (nI 0), .ref y] rfl rfl (List.append_nil _) rfl ?_
    refine k_if_neN hC 14 dX4_mark_7 (by decide) (by omega) (fun d1 => ?_) (fun d1 => ?_)
    · exact absurd (by decide) d1
    · refine k_iconst hC (nI 1) dX4_mark_10 rfl ?_
      refine k_goto hC 29 dX4_mark_11 (by decide) ?_
      refine k_put hC inlX4 tyX4_ok nmX4 0 0 rfl rfl (by decide) lkF_X4_74 rfl rfl rfl (Nat.le_of_ble_eq_true rfl) dX4_mark_29 (wM K y b (va_up (va_up S 0 (nI 1)) 0 (nI 1)) G) rfl ?_
      refine k_aload_n hC 0 dX4_mark_32 rfl rfl ?_
      refine k_get hC inlX4 0 0 rfl rfl (by decide) lkF_X4_74 rfl dX4_mark_33 ?_
      refine k_if_leN hC 41 dX4_mark_36 (by decide) (by omega) (fun d2 => ?_) (fun d2 => ?_)
      · exact absurd d2 (by decide)
      · refine k_iconst hC (nI 0) dX4_mark_39 rfl ?_
        exact k_iret hC hE (Nat.le_of_ble_eq_true rfl) (Nat.le_of_ble_eq_true rfl) dX4_mark_40 (by rw [show oMark σ p9 v9 = (1, nI 0, σ) by simp only [oMark, if_neg hm]]; exact ⟨_, G, _, rfl, List.append_nil _, rfl, fun q => absurd q (Nat.succ_ne_zero _), mRep_S hR (fun j hj => by simp only [va_up_ne _ _ hj])⟩)
abbrev rmX4_rule : Room := { frames := 0, cells := 0, slots := 0, locals := 0 }
set_option maxRecDepth 100000 in
set_option maxHeartbeats 4000000 in
theorem cX4_rule_k (l : Launch) (K : kE) (y : Nat) (b : Nat → Nat) (S : Nat → Int32) (G : Nat → Nat → Int32) (σ : mS) (hσ : mSok σ) (hR : mRep σ S G) (r9 : Bool) : kM l yX4_rule (kws yX4_rule cX4_rule 3 (some .boolean)) rmX4_rule K [.ref y, .int (kB r9)] (wM K y b S G) (mPo K y b (oRule σ r9)) := by
  refine kM_of (pl := []) (X := (wM K y b S G)) rfl (by decide) (Nat.le_of_ble_eq_true rfl) ?_
  intro p e s m args below meth cd A Q hC hnm hE
  have hn6 := hσ.1
  have hzb : ∀ b : Bool, narrow .boolean (.int (kB b)) = .int (kB b) := fun b => by cases b <;> rfl
  have hfb : ∀ b : Bool, fits .boolean (.int (kB b)) = true := fun b => by cases b <;> rfl
  refine k_aload_n hC 0 dX4_rule_0 rfl rfl ?_
  refine k_iconst hC (nI 0) dX4_rule_1 rfl ?_
  refine k_put hC inlX4 tyX4_ok nmX4 0 0 rfl rfl (by decide) lkF_X4_74 rfl rfl rfl (Nat.le_of_ble_eq_true rfl) dX4_rule_2 (wM K y b (va_up S 0 (nI 0)) G) rfl ?_
  refine k_aload_n hC 0 dX4_rule_5 rfl rfl ?_
  refine k_get hC inlX4 0 2 rfl rfl (by decide) lkF_X4_96 rfl dX4_rule_6 ?_
  refine k_topE (kB σ.2.1) hR.2.1 ?_
  refine k_istore_n hC 2 dX4_rule_9 rfl (by decide) rfl [(0, .ref y), (1, .int (kB r9)), (2, .int (kB σ.2.1))] rfl ?_
  refine k_aload_n hC 0 dX4_rule_10 rfl rfl ?_
  refine k_iload_n hC 1 dX4_rule_11 rfl rfl ?_
  refine k_put hC inlX4 tyX4_ok nmX4 0 2 rfl rfl (by decide) lkF_X4_96 rfl (hzb _) (hfb _) (Nat.le_of_ble_eq_true rfl) dX4_rule_12 (wM K y b (va_up (va_up S 0 (nI 0)) 2 (kB r9)) G) rfl ?_
  refine k_iload_n hC 2 dX4_rule_15 rfl rfl ?_
  exact k_zret hC hE (Nat.le_of_ble_eq_true rfl) (Nat.le_of_ble_eq_true rfl) (hzb _) dX4_rule_16 ⟨_, G, _, rfl, List.append_nil _, rfl, fun _ => rfl, hR.1, rfl, fun j a c => by rw [va_up_ne _ _ (by omega), va_up_ne _ _ (by omega)]; exact hR.2.2.1 j a c, hR.2.2.2.1, hR.2.2.2.2.1, hR.2.2.2.2.2⟩
abbrev rmX4_demand : Room := { frames := 1, cells := 0, slots := 0, locals := 22 }
set_option maxRecDepth 100000 in
set_option maxHeartbeats 4000000 in
theorem cX4_demand_k (l : Launch) (K : kE) (y : Nat) (b : Nat → Nat) (S : Nat → Int32) (G : Nat → Nat → Int32) (σ : mS) (hσ : mSok σ) (hR : mRep σ S G) (v9 : Int32) : kM l yX4_demand (kws yX4_demand cX4_demand 3 (some .int)) rmX4_demand K [.ref y, .int v9] (wM K y b S G) (mPo K y b (oDemand σ v9)) := by
  refine kM_of (pl := []) (X := (wM K y b S G)) rfl (by decide) (Nat.le_of_ble_eq_true rfl) ?_
  intro p e s m args below meth cd A Q hC hnm hE
  have hn6 := hσ.1
  refine k_aload_n hC 0 dX4_demand_0 rfl rfl ?_
  refine k_iload_n hC 1 dX4_demand_1 rfl rfl ?_
  refine k_iconst hC (nI 0) dX4_demand_2 rfl ?_
  refine k_bipush hC (nI 20) dX4_demand_3 rfl ?_
  refine k_callS hC (As := [.int v9, .int (nI 0), .int (nI 20)]) (cX4_isIn_k l K v9 (nI 0) (nI 20)) (wM K y b S G) rfl (kAll4 lkM_X4_81 lkT_yX4_isIn lkN_X4 lkC_yX4_isIn) 3 (by decide) ⟨(Nat.le_of_ble_eq_true rfl), (Nat.le_of_ble_eq_true rfl)⟩ rfl rfl (Nat.le_of_ble_eq_true rfl) ⟨(Nat.le_of_ble_eq_true rfl), (Nat.le_of_ble_eq_true rfl)⟩ dX4_demand_5 (fun v w h => ?_)
  obtain ⟨rfl, rfl⟩ := h
  refine k_re 0 0 (wM K y b S G) [.int (nI (if nI 0 ≤ v9 ∧ v9 ≤ nI 20 then 1 else 0)), .ref y] rfl rfl rfl rfl ?_
  by_cases hv : mIn v9 0 20
  · rw [if_pos hv]
    refine k_if_eqN hC 15 dX4_demand_8 (by decide) (by omega) (fun d1 => ?_) (fun d1 => ?_)
    · exact absurd d1 (by decide)
    · refine k_iconst hC (nI 0) dX4_demand_11 rfl ?_
      refine k_goto hC 16 dX4_demand_12 (by decide) ?_
      refine k_put hC inlX4 tyX4_ok nmX4 0 0 rfl rfl (by decide) lkF_X4_74 rfl rfl rfl (Nat.le_of_ble_eq_true rfl) dX4_demand_16 (wM K y b (va_up S 0 (nI 0)) G) rfl ?_
      refine k_aload_n hC 0 dX4_demand_19 rfl rfl ?_
      refine k_get hC inlX4 0 3 rfl rfl (by decide) lkF_X4_100 rfl dX4_demand_20 ?_
      refine k_istore_n hC 2 dX4_demand_23 rfl (by decide) rfl [(0, .ref y), (1, .int v9), (2, .int (S 3))] rfl ?_
      refine k_aload_n hC 0 dX4_demand_24 rfl rfl ?_
      refine k_aload_n hC 0 dX4_demand_25 rfl rfl ?_
      refine k_get hC inlX4 0 0 rfl rfl (by decide) lkF_X4_74 rfl dX4_demand_26 ?_
      refine k_if_leN hC 39 dX4_demand_29 (by decide) (by omega) (fun d2 => ?_) (fun d2 => ?_)
      · refine k_iload_n hC 1 dX4_demand_39 rfl rfl ?_
        refine k_put hC inlX4 tyX4_ok nmX4 0 3 rfl rfl (by decide) lkF_X4_100 rfl rfl rfl (Nat.le_of_ble_eq_true rfl) dX4_demand_40 (wM K y b (va_up (va_up S 0 (nI 0)) 3 v9) G) rfl ?_
        refine k_iload_n hC 2 dX4_demand_43 rfl rfl ?_
        exact k_iret hC hE (Nat.le_of_ble_eq_true rfl) (Nat.le_of_ble_eq_true rfl) dX4_demand_44 (by rw [show oDemand σ v9 = (0, σ.2.2.1 3, (σ.1, σ.2.1, va_up σ.2.2.1 3 v9, σ.2.2.2)) by simp only [oDemand, if_pos hv]]; exact ⟨_, G, _, rfl, List.append_nil _, rfl, fun _ => hR.2.2.1 3 (by decide) (by decide), hR.1, hR.2.1, fun j a c => by
          by_cases e : j = 3
          · subst e; rfl
          · show va_up _ 3 v9 j = va_up σ.2.2.1 3 v9 j
            rw [va_up_ne _ _ e, va_up_ne _ _ e, va_up_ne _ _ (by omega)]; exact hR.2.2.1 j a c, hR.2.2.2.1, hR.2.2.2.2.1, hR.2.2.2.2.2⟩)
      · exact absurd (by decide) d2
  · rw [if_neg hv]
    refine k_if_eqN hC 15 dX4_demand_8 (by decide) (by omega) (fun d1 => ?_) (fun d1 => ?_)
    · refine k_iconst hC (nI 1) dX4_demand_15 rfl ?_
      refine k_put hC inlX4 tyX4_ok nmX4 0 0 rfl rfl (by decide) lkF_X4_74 rfl rfl rfl (Nat.le_of_ble_eq_true rfl) dX4_demand_16 (wM K y b (va_up S 0 (nI 1)) G) rfl ?_
      refine k_aload_n hC 0 dX4_demand_19 rfl rfl ?_
      refine k_get hC inlX4 0 3 rfl rfl (by decide) lkF_X4_100 rfl dX4_demand_20 ?_
      refine k_istore_n hC 2 dX4_demand_23 rfl (by decide) rfl [(0, .ref y), (1, .int v9), (2, .int (S 3))] rfl ?_
      refine k_aload_n hC 0 dX4_demand_24 rfl rfl ?_
      refine k_aload_n hC 0 dX4_demand_25 rfl rfl ?_
      refine k_get hC inlX4 0 0 rfl rfl (by decide) lkF_X4_74 rfl dX4_demand_26 ?_
      refine k_if_leN hC 39 dX4_demand_29 (by decide) (by omega) (fun d2 => ?_) (fun d2 => ?_)
      · exact absurd d2 (by decide)
      · refine k_aload_n hC 0 dX4_demand_32 rfl rfl ?_
        refine k_get hC inlX4 0 3 rfl rfl (by decide) lkF_X4_100 rfl dX4_demand_33 ?_
        refine k_goto hC 40 dX4_demand_36 (by decide) ?_
        refine k_put hC inlX4 tyX4_ok nmX4 0 3 rfl rfl (by decide) lkF_X4_100 rfl rfl rfl (Nat.le_of_ble_eq_true rfl) dX4_demand_40 (wM K y b (va_up (va_up S 0 (nI 1)) 3 (S 3)) G) rfl ?_
        refine k_iload_n hC 2 dX4_demand_43 rfl rfl ?_
        exact k_iret hC hE (Nat.le_of_ble_eq_true rfl) (Nat.le_of_ble_eq_true rfl) dX4_demand_44 (by rw [show oDemand σ v9 = (1, nI 0, σ) by simp only [oDemand, if_neg hv]]; exact ⟨_, G, _, rfl, List.append_nil _, rfl, fun q => absurd q (Nat.succ_ne_zero _), mRep_S hR (fun j hj => by
          by_cases e : j = 3
          · subst e; rfl
          · rw [va_up_ne _ _ e, va_up_ne _ _ hj])⟩)
    · exact absurd (by decide) d1
abbrev rmX4_stop : Room := { frames := 1, cells := 0, slots := 0, locals := 23 }
set_option maxRecDepth 100000 in
set_option maxHeartbeats 4000000 in
theorem cX4_stop_k (l : Launch) (K : kE) (y : Nat) (b : Nat → Nat) (S : Nat → Int32) (G : Nat → Nat → Int32) (σ : mS) (hσ : mSok σ) (hR : mRep σ S G) (p9 : Int32) : kM l yX4_stop (kws yX4_stop cX4_stop 2 (some .boolean)) rmX4_stop K [.ref y, .int p9] (wM K y b S G) (mPo K y b (oStop σ p9)) := by
  refine kM_of (pl := []) (X := (wM K y b S G)) rfl (by decide) (Nat.le_of_ble_eq_true rfl) ?_
  intro p e s m args below meth cd A Q hC hnm hE
  have hn6 := hσ.1
  refine k_aload_n hC 0 dX4_stop_0 rfl rfl ?_
  refine k_iload_n hC 1 dX4_stop_1 rfl rfl ?_
  refine k_iconst hC (nI 0) dX4_stop_2 rfl ?_
  refine k_callV hC (As := [.int p9, .int (nI 0)]) (cX4_asks_k l K y b S G p9 (nI 0)) [] (List.append_nil _).symm 0 rfl rfl (kAll5 lkM_X4_92 lkI_yX4_asks lkS_yX4_asks lkN_X4 lkC_yX4_asks) 2 (by decide) ⟨(Nat.le_of_ble_eq_true rfl), (Nat.le_of_ble_eq_true rfl)⟩ rfl rfl (Nat.le_of_ble_eq_true rfl) ⟨(Nat.le_of_ble_eq_true rfl), (Nat.le_of_ble_eq_true rfl)⟩ dX4_stop_3 (fun v w h => ?_)
  obtain ⟨rfl, rfl⟩ := h
  rw [hR.1]
  by_cases hm : mHas σ 0 p9
  · rw [if_pos hm, if_pos hm]
    refine k_re 0 0 (wM K y b (va_up S 0 (nI 0)) G) [.int (nI 1)] rfl rfl (List.append_nil _) rfl ?_
    obtain ⟨k, hk1, hk, rfl⟩ := mHas_ex hσ.1 (by decide) hm
    have hk31 : k < 2 ^ 31 := by omega
    have hk6 : k < 6 := by omega
    have hi := hσ.2 k hk
    have hn := hi.1.1
    have hl0 := mInv_L0 hi.1
    have hl1 := mInv_L1 hi.1
    have hl2 := mInv_L2 hi.1
    have h89 : (σ.2.2.2 k).1 9 ≤ 9 := by have := hi.1.2.1; omega
    obtain ⟨q9, q10, q11, q12, q13, q14, q15, q16, q17, q18, q19, q20, qr0, qr1, qr2⟩ := id (hR.2.2.2.2.1 k hk)
    refine k_if_neN hC 11 dX4_stop_6 (by decide) (by omega) (fun d1 => ?_) (fun d1 => ?_)
    · refine k_aload_n hC 0 dX4_stop_11 rfl rfl ?_
      refine k_get hC inlX4 0 13 rfl rfl (by decide) lkF_X4_22 rfl dX4_stop_12 ?_
      refine k_iload_n hC 1 dX4_stop_15 rfl rfl ?_
      refine k_aload_n hC 0 dX4_stop_16 rfl rfl ?_
      refine k_get hC inlX4 0 13 rfl rfl (by decide) lkF_X4_22 rfl dX4_stop_17 ?_
      refine k_iload_n hC 1 dX4_stop_20 rfl rfl ?_
      refine k_zald hC 5 rfl (by omega) (by decide) dX4_stop_21 ?_
      refine k_topE (nI ((σ.2.2.2 k).1 12)) q13 ?_
      refine k_if_neN hC 29 dX4_stop_22 (by decide) (by omega) (fun c1 => ?_) (fun c1 => ?_)
      · have e12 : 1 - (σ.2.2.2 k).1 12 = 0 := by omega
        refine k_iconst hC (nI 0) dX4_stop_29 rfl ?_
        refine k_zast hC 5 rfl (by omega) (by decide) rfl dX4_stop_30 (wM K y b (va_up S 0 (nI 0)) (va_up G 13 (upd (G 13) k (nI 0)))) rfl ?_
        refine k_aload_n hC 0 dX4_stop_31 rfl rfl ?_
        refine k_get hC inlX4 0 13 rfl rfl (by decide) lkF_X4_22 rfl dX4_stop_32 ?_
        refine k_iload_n hC 1 dX4_stop_35 rfl rfl ?_
        refine k_zald hC 5 rfl (by omega) (by decide) dX4_stop_36 ?_
        refine k_topE (nI 0) kupd_eq ?_
        exact k_zret hC hE (Nat.le_of_ble_eq_true rfl) (Nat.le_of_ble_eq_true rfl) rfl dX4_stop_37 (by rw [show oStop σ (nI k) = (0, nI 0, mPut σ k (va_up (σ.2.2.2 k).1 12 0, (σ.2.2.2 k).2)) by simp only [oStop, oT, mIx_nI hk31, if_pos hm]; rw [e12]]; exact ⟨_, _, _, rfl, List.append_nil _, rfl, fun _ => rfl, mRep_put hσ hR hk ⟨q9, q10, q11, q12, kupd_eq, q14, q15, q16, q17, q18, q19, q20, qr0, qr1, qr2⟩ (mOnly_tr mOnly_rf mOnly_13) rfl (fun j hj => by simp only [va_up_ne _ _ hj])⟩)
      · have e12 : 1 - (σ.2.2.2 k).1 12 = 1 := by omega
        refine k_iconst hC (nI 1) dX4_stop_25 rfl ?_
        refine k_goto hC 30 dX4_stop_26 (by decide) ?_
        refine k_zast hC 5 rfl (by omega) (by decide) rfl dX4_stop_30 (wM K y b (va_up S 0 (nI 0)) (va_up G 13 (upd (G 13) k (nI 1)))) rfl ?_
        refine k_aload_n hC 0 dX4_stop_31 rfl rfl ?_
        refine k_get hC inlX4 0 13 rfl rfl (by decide) lkF_X4_22 rfl dX4_stop_32 ?_
        refine k_iload_n hC 1 dX4_stop_35 rfl rfl ?_
        refine k_zald hC 5 rfl (by omega) (by decide) dX4_stop_36 ?_
        refine k_topE (nI 1) kupd_eq ?_
        exact k_zret hC hE (Nat.le_of_ble_eq_true rfl) (Nat.le_of_ble_eq_true rfl) rfl dX4_stop_37 (by rw [show oStop σ (nI k) = (0, nI 1, mPut σ k (va_up (σ.2.2.2 k).1 12 1, (σ.2.2.2 k).2)) by simp only [oStop, oT, mIx_nI hk31, if_pos hm]; rw [e12]]; exact ⟨_, _, _, rfl, List.append_nil _, rfl, fun _ => rfl, mRep_put hσ hR hk ⟨q9, q10, q11, q12, kupd_eq, q14, q15, q16, q17, q18, q19, q20, qr0, qr1, qr2⟩ (mOnly_tr mOnly_rf mOnly_13) rfl (fun j hj => by simp only [va_up_ne _ _ hj])⟩)
    · exact absurd d1 (by decide)
  · rw [if_neg hm, if_neg hm]
    refine k_re 0 0 (wM K y b (va_up S 0 (nI 1)) G) [.int (nI 0)] rfl rfl (List.append_nil _) rfl ?_
    refine k_if_neN hC 11 dX4_stop_6 (by decide) (by omega) (fun d1 => ?_) (fun d1 => ?_)
    · exact absurd (by decide) d1
    · refine k_iconst hC (nI 0) dX4_stop_9 rfl ?_
      exact k_zret hC hE (Nat.le_of_ble_eq_true rfl) (Nat.le_of_ble_eq_true rfl) rfl dX4_stop_10 (by rw [show oStop σ p9 = (1, nI 0, σ) by simp only [oStop, if_neg hm]]; exact ⟨_, G, _, rfl, List.append_nil _, rfl, fun q => absurd q (Nat.succ_ne_zero _), mRep_S hR (fun j hj => by simp only [va_up_ne _ _ hj])⟩)
abbrev rmX4_issue : Room := { frames := 1, cells := 0, slots := 0, locals := 23 }
set_option maxRecDepth 100000 in
set_option maxHeartbeats 4000000 in
theorem cX4_issue_k (l : Launch) (K : kE) (y : Nat) (b : Nat → Nat) (S : Nat → Int32) (G : Nat → Nat → Int32) (σ : mS) (hσ : mSok σ) (hR : mRep σ S G) (p9 : Int32) : kM l yX4_issue (kws yX4_issue cX4_issue 2 (some .int)) rmX4_issue K [.ref y, .int p9] (wM K y b S G) (mPo K y b (oIssue σ p9)) := by
  refine kM_of (pl := []) (X := (wM K y b S G)) rfl (by decide) (Nat.le_of_ble_eq_true rfl) ?_
  intro p e s m args below meth cd A Q hC hnm hE
  have hn6 := hσ.1
  refine k_aload_n hC 0 dX4_issue_0 rfl rfl ?_
  refine k_aload_n hC 0 dX4_issue_1 rfl rfl ?_
  refine k_iload_n hC 1 dX4_issue_2 rfl rfl ?_
  refine k_iconst hC (nI 0) dX4_issue_3 rfl ?_
  refine k_callV hC (As := [.int p9, .int (nI 0)]) (cX4_asks_k l K y b S G p9 (nI 0)) [] (List.append_nil _).symm 0 rfl rfl (kAll5 lkM_X4_92 lkI_yX4_asks lkS_yX4_asks lkN_X4 lkC_yX4_asks) 2 (by decide) ⟨(Nat.le_of_ble_eq_true rfl), (Nat.le_of_ble_eq_true rfl)⟩ rfl rfl (Nat.le_of_ble_eq_true rfl) ⟨(Nat.le_of_ble_eq_true rfl), (Nat.le_of_ble_eq_true rfl)⟩ dX4_issue_4 (fun v w h => ?_)
  obtain ⟨rfl, rfl⟩ := h
  rw [hR.1]
  by_cases hm : mHas σ 0 p9
  · rw [if_pos hm, if_pos hm]
    refine k_re 0 0 (wM K y b (va_up S 0 (nI 0)) G) [.int (nI 1), .ref y] rfl rfl (List.append_nil _) rfl ?_
    obtain ⟨k, hk1, hk, rfl⟩ := mHas_ex hσ.1 (by decide) hm
    have hk31 : k < 2 ^ 31 := by omega
    have hk6 : k < 6 := by omega
    have hi := hσ.2 k hk
    have hn := hi.1.1
    have hl0 := mInv_L0 hi.1
    have hl1 := mInv_L1 hi.1
    have hl2 := mInv_L2 hi.1
    have h89 : (σ.2.2.2 k).1 9 ≤ 9 := by have := hi.1.2.1; omega
    obtain ⟨q9, q10, q11, q12, q13, q14, q15, q16, q17, q18, q19, q20, qr0, qr1, qr2⟩ := id (hR.2.2.2.2.1 k hk)
    refine k_if_neN hC 14 dX4_issue_7 (by decide) (by omega) (fun d1 => ?_) (fun d1 => ?_)
    · refine k_aload_n hC 0 dX4_issue_14 rfl rfl ?_
      refine k_get hC inlX4 0 9 rfl rfl (by decide) lkF_X4_7 rfl dX4_issue_15 ?_
      refine k_iload_n hC 1 dX4_issue_18 rfl rfl ?_
      refine k_ald hC 1 rfl (by omega) (by decide) dX4_issue_19 ?_
      refine k_topE (nI ((σ.2.2.2 k).1 8)) q9 ?_
      refine k_bipush hC (nI 9) dX4_issue_20 rfl ?_
      refine k_icmp_neN hC 29 dX4_issue_22 (by decide) (by omega) (by omega) (fun c1 => ?_) (fun c1 => ?_)
      · refine k_iconst hC (nI 0) dX4_issue_29 rfl ?_
        refine k_put hC inlX4 tyX4_ok nmX4 0 0 rfl rfl (by decide) lkF_X4_74 rfl rfl rfl (Nat.le_of_ble_eq_true rfl) dX4_issue_30 (wM K y b (va_up (va_up S 0 (nI 0)) 0 (nI 0)) G) rfl ?_
        refine k_aload_n hC 0 dX4_issue_33 rfl rfl ?_
        refine k_get hC inlX4 0 0 rfl rfl (by decide) lkF_X4_74 rfl dX4_issue_34 ?_
        refine k_if_leN hC 42 dX4_issue_37 (by decide) (by omega) (fun d2 => ?_) (fun d2 => ?_)
        · refine k_aload_n hC 0 dX4_issue_42 rfl rfl ?_
          refine k_get hC inlX4 0 9 rfl rfl (by decide) lkF_X4_7 rfl dX4_issue_43 ?_
          refine k_iload_n hC 1 dX4_issue_46 rfl rfl ?_
          refine k_dup2 hC dX4_issue_47 rfl rfl ?_
          refine k_ald hC 1 rfl (by omega) (by decide) dX4_issue_48 ?_
          refine k_topE (nI ((σ.2.2.2 k).1 8)) q9 ?_
          refine k_iconst hC (nI 1) dX4_issue_49 rfl ?_
          refine k_iaddN hC dX4_issue_50 ?_
          refine k_ast hC 1 rfl (by omega) (by decide) dX4_issue_51 (wM K y b (va_up (va_up S 0 (nI 0)) 0 (nI 0)) (va_up G 9 (upd (G 9) k (nI (((σ.2.2.2 k).1 8) + 1))))) rfl ?_
          refine k_aload_n hC 0 dX4_issue_52 rfl rfl ?_
          refine k_get hC inlX4 0 14 rfl rfl (by decide) lkF_X4_26 rfl dX4_issue_53 ?_
          refine k_iload_n hC 1 dX4_issue_56 rfl rfl ?_
          refine k_dup2 hC dX4_issue_57 rfl rfl ?_
          refine k_ald hC 6 rfl (by omega) (by decide) dX4_issue_58 ?_
          refine k_topE (nI ((σ.2.2.2 k).1 9)) q14 ?_
          refine k_iconst hC (nI 1) dX4_issue_59 rfl ?_
          refine k_iaddN hC dX4_issue_60 ?_
          refine k_ast hC 6 rfl (by omega) (by decide) dX4_issue_61 (wM K y b (va_up (va_up S 0 (nI 0)) 0 (nI 0)) (va_up (va_up G 9 (upd (G 9) k (nI (((σ.2.2.2 k).1 8) + 1)))) 14 (upd (G 14) k (nI (((σ.2.2.2 k).1 9) + 1))))) rfl ?_
          refine k_aload_n hC 0 dX4_issue_62 rfl rfl ?_
          refine k_get hC inlX4 0 9 rfl rfl (by decide) lkF_X4_7 rfl dX4_issue_63 ?_
          refine k_iload_n hC 1 dX4_issue_66 rfl rfl ?_
          refine k_ald hC 1 rfl (by omega) (by decide) dX4_issue_67 ?_
          refine k_topE (nI ((σ.2.2.2 k).1 8 + 1)) kupd_eq ?_
          exact k_iret hC hE (Nat.le_of_ble_eq_true rfl) (Nat.le_of_ble_eq_true rfl) dX4_issue_68 (by rw [show oIssue σ (nI k) = (0, nI ((σ.2.2.2 k).1 8 + 1), mPut σ k (va_up (va_up (σ.2.2.2 k).1 8 ((σ.2.2.2 k).1 8 + 1)) 9 ((σ.2.2.2 k).1 9 + 1), (σ.2.2.2 k).2)) by simp only [oIssue, oT, mIx_nI hk31, if_pos hm]; rw [if_neg (by omega)]]; exact ⟨_, _, _, rfl, List.append_nil _, rfl, fun _ => rfl, mRep_put hσ hR hk ⟨kupd_eq, q10, q11, q12, q13, kupd_eq, q15, q16, q17, q18, q19, q20, qr0, qr1, qr2⟩ (mOnly_tr (mOnly_tr mOnly_rf mOnly_9) mOnly_14) rfl (fun j hj => by simp only [va_up_ne _ _ hj])⟩)
        · exact absurd (by decide) d2
      · refine k_iconst hC (nI 2) dX4_issue_25 rfl ?_
        refine k_goto hC 30 dX4_issue_26 (by decide) ?_
        refine k_put hC inlX4 tyX4_ok nmX4 0 0 rfl rfl (by decide) lkF_X4_74 rfl rfl rfl (Nat.le_of_ble_eq_true rfl) dX4_issue_30 (wM K y b (va_up (va_up S 0 (nI 0)) 0 (nI 2)) G) rfl ?_
        refine k_aload_n hC 0 dX4_issue_33 rfl rfl ?_
        refine k_get hC inlX4 0 0 rfl rfl (by decide) lkF_X4_74 rfl dX4_issue_34 ?_
        refine k_if_leN hC 42 dX4_issue_37 (by decide) (by omega) (fun d2 => ?_) (fun d2 => ?_)
        · exact absurd d2 (by decide)
        · refine k_iconst hC (nI 0) dX4_issue_40 rfl ?_
          exact k_iret hC hE (Nat.le_of_ble_eq_true rfl) (Nat.le_of_ble_eq_true rfl) dX4_issue_41 (by rw [show oIssue σ (nI k) = (2, nI 0, σ) by simp only [oIssue, oT, mIx_nI hk31, if_pos hm]; rw [if_pos (by omega)]]; exact ⟨_, G, _, rfl, List.append_nil _, rfl, fun q => absurd q (Nat.succ_ne_zero _), mRep_S hR (fun j hj => by simp only [va_up_ne _ _ hj])⟩)
    · exact absurd d1 (by decide)
  · rw [if_neg hm, if_neg hm]
    refine k_re 0 0 (wM K y b (va_up S 0 (nI 1)) G) [.int (nI 0), .ref y] rfl rfl (List.append_nil _) rfl ?_
    refine k_if_neN hC 14 dX4_issue_7 (by decide) (by omega) (fun d1 => ?_) (fun d1 => ?_)
    · exact absurd (by decide) d1
    · refine k_iconst hC (nI 1) dX4_issue_10 rfl ?_
      refine k_goto hC 30 dX4_issue_11 (by decide) ?_
      refine k_put hC inlX4 tyX4_ok nmX4 0 0 rfl rfl (by decide) lkF_X4_74 rfl rfl rfl (Nat.le_of_ble_eq_true rfl) dX4_issue_30 (wM K y b (va_up (va_up S 0 (nI 1)) 0 (nI 1)) G) rfl ?_
      refine k_aload_n hC 0 dX4_issue_33 rfl rfl ?_
      refine k_get hC inlX4 0 0 rfl rfl (by decide) lkF_X4_74 rfl dX4_issue_34 ?_
      refine k_if_leN hC 42 dX4_issue_37 (by decide) (by omega) (fun d2 => ?_) (fun d2 => ?_)
      · exact absurd d2 (by decide)
      · refine k_iconst hC (nI 0) dX4_issue_40 rfl ?_
        exact k_iret hC hE (Nat.le_of_ble_eq_true rfl) (Nat.le_of_ble_eq_true rfl) dX4_issue_41 (by rw [show oIssue σ p9 = (1, nI 0, σ) by simp only [oIssue, if_neg hm]]; exact ⟨_, G, _, rfl, List.append_nil _, rfl, fun q => absurd q (Nat.succ_ne_zero _), mRep_S hR (fun j hj => by simp only [va_up_ne _ _ hj])⟩)
abbrev rmX4_issueConveyance : Room := { frames := 1, cells := 0, slots := 0, locals := 23 }
set_option maxRecDepth 100000 in
set_option maxHeartbeats 4000000 in
theorem cX4_issueConveyance_k (l : Launch) (K : kE) (y : Nat) (b : Nat → Nat) (S : Nat → Int32) (G : Nat → Nat → Int32) (σ : mS) (hσ : mSok σ) (hR : mRep σ S G) (p9 : Int32) : kM l yX4_issueConveyance (kws yX4_issueConveyance cX4_issueConveyance 2 (some .int)) rmX4_issueConveyance K [.ref y, .int p9] (wM K y b S G) (mPo K y b (oIssueC σ p9)) := by
  refine kM_of (pl := []) (X := (wM K y b S G)) rfl (by decide) (Nat.le_of_ble_eq_true rfl) ?_
  intro p e s m args below meth cd A Q hC hnm hE
  have hn6 := hσ.1
  refine k_aload_n hC 0 dX4_issueConveyance_0 rfl rfl ?_
  refine k_aload_n hC 0 dX4_issueConveyance_1 rfl rfl ?_
  refine k_iload_n hC 1 dX4_issueConveyance_2 rfl rfl ?_
  refine k_iconst hC (nI 1) dX4_issueConveyance_3 rfl ?_
  refine k_callV hC (As := [.int p9, .int (nI 1)]) (cX4_asks_k l K y b S G p9 (nI 1)) [] (List.append_nil _).symm 0 rfl rfl (kAll5 lkM_X4_92 lkI_yX4_asks lkS_yX4_asks lkN_X4 lkC_yX4_asks) 2 (by decide) ⟨(Nat.le_of_ble_eq_true rfl), (Nat.le_of_ble_eq_true rfl)⟩ rfl rfl (Nat.le_of_ble_eq_true rfl) ⟨(Nat.le_of_ble_eq_true rfl), (Nat.le_of_ble_eq_true rfl)⟩ dX4_issueConveyance_4 (fun v w h => ?_)
  obtain ⟨rfl, rfl⟩ := h
  rw [hR.1]
  by_cases hm : mHas σ 1 p9
  · rw [if_pos hm, if_pos hm]
    refine k_re 0 0 (wM K y b (va_up S 0 (nI 0)) G) [.int (nI 1), .ref y] rfl rfl (List.append_nil _) rfl ?_
    obtain ⟨k, hk1, hk, rfl⟩ := mHas_ex hσ.1 (by decide) hm
    have hk31 : k < 2 ^ 31 := by omega
    have hk6 : k < 6 := by omega
    have hi := hσ.2 k hk
    have hn := hi.1.1
    have hl0 := mInv_L0 hi.1
    have hl1 := mInv_L1 hi.1
    have hl2 := mInv_L2 hi.1
    have h89 : (σ.2.2.2 k).1 9 ≤ 9 := by have := hi.1.2.1; omega
    obtain ⟨q9, q10, q11, q12, q13, q14, q15, q16, q17, q18, q19, q20, qr0, qr1, qr2⟩ := id (hR.2.2.2.2.1 k hk)
    refine k_if_neN hC 14 dX4_issueConveyance_7 (by decide) (by omega) (fun d1 => ?_) (fun d1 => ?_)
    · refine k_aload_n hC 0 dX4_issueConveyance_14 rfl rfl ?_
      refine k_get hC inlX4 0 19 rfl rfl (by decide) lkF_X4_41 rfl dX4_issueConveyance_15 ?_
      refine k_iload_n hC 1 dX4_issueConveyance_18 rfl rfl ?_
      refine k_ald hC 11 rfl (by omega) (by decide) dX4_issueConveyance_19 ?_
      refine k_topE (nI ((σ.2.2.2 k).1 13)) q19 ?_
      refine k_iconst hC (nI 5) dX4_issueConveyance_20 rfl ?_
      refine k_icmp_neN hC 28 dX4_issueConveyance_21 (by decide) (by omega) (by omega) (fun c1 => ?_) (fun c1 => ?_)
      · refine k_iconst hC (nI 0) dX4_issueConveyance_28 rfl ?_
        refine k_put hC inlX4 tyX4_ok nmX4 0 0 rfl rfl (by decide) lkF_X4_74 rfl rfl rfl (Nat.le_of_ble_eq_true rfl) dX4_issueConveyance_29 (wM K y b (va_up (va_up S 0 (nI 0)) 0 (nI 0)) G) rfl ?_
        refine k_aload_n hC 0 dX4_issueConveyance_32 rfl rfl ?_
        refine k_get hC inlX4 0 0 rfl rfl (by decide) lkF_X4_74 rfl dX4_issueConveyance_33 ?_
        refine k_if_leN hC 41 dX4_issueConveyance_36 (by decide) (by omega) (fun d2 => ?_) (fun d2 => ?_)
        · refine k_aload_n hC 0 dX4_issueConveyance_41 rfl rfl ?_
          refine k_get hC inlX4 0 19 rfl rfl (by decide) lkF_X4_41 rfl dX4_issueConveyance_42 ?_
          refine k_iload_n hC 1 dX4_issueConveyance_45 rfl rfl ?_
          refine k_dup2 hC dX4_issueConveyance_46 rfl rfl ?_
          refine k_ald hC 11 rfl (by omega) (by decide) dX4_issueConveyance_47 ?_
          refine k_topE (nI ((σ.2.2.2 k).1 13)) q19 ?_
          refine k_iconst hC (nI 1) dX4_issueConveyance_48 rfl ?_
          refine k_iaddN hC dX4_issueConveyance_49 ?_
          refine k_ast hC 11 rfl (by omega) (by decide) dX4_issueConveyance_50 (wM K y b (va_up (va_up S 0 (nI 0)) 0 (nI 0)) (va_up G 19 (upd (G 19) k (nI (((σ.2.2.2 k).1 13) + 1))))) rfl ?_
          refine k_aload_n hC 0 dX4_issueConveyance_51 rfl rfl ?_
          refine k_get hC inlX4 0 20 rfl rfl (by decide) lkF_X4_44 rfl dX4_issueConveyance_52 ?_
          refine k_iload_n hC 1 dX4_issueConveyance_55 rfl rfl ?_
          refine k_dup2 hC dX4_issueConveyance_56 rfl rfl ?_
          refine k_ald hC 12 rfl (by omega) (by decide) dX4_issueConveyance_57 ?_
          refine k_topE (nI ((σ.2.2.2 k).1 14)) q20 ?_
          refine k_iconst hC (nI 1) dX4_issueConveyance_58 rfl ?_
          refine k_iaddN hC dX4_issueConveyance_59 ?_
          refine k_ast hC 12 rfl (by omega) (by decide) dX4_issueConveyance_60 (wM K y b (va_up (va_up S 0 (nI 0)) 0 (nI 0)) (va_up (va_up G 19 (upd (G 19) k (nI (((σ.2.2.2 k).1 13) + 1)))) 20 (upd (G 20) k (nI (((σ.2.2.2 k).1 14) + 1))))) rfl ?_
          refine k_aload_n hC 0 dX4_issueConveyance_61 rfl rfl ?_
          refine k_get hC inlX4 0 19 rfl rfl (by decide) lkF_X4_41 rfl dX4_issueConveyance_62 ?_
          refine k_iload_n hC 1 dX4_issueConveyance_65 rfl rfl ?_
          refine k_ald hC 11 rfl (by omega) (by decide) dX4_issueConveyance_66 ?_
          refine k_topE (nI ((σ.2.2.2 k).1 13 + 1)) kupd_eq ?_
          exact k_iret hC hE (Nat.le_of_ble_eq_true rfl) (Nat.le_of_ble_eq_true rfl) dX4_issueConveyance_67 (by rw [show oIssueC σ (nI k) = (0, nI ((σ.2.2.2 k).1 13 + 1), mPut σ k (va_up (va_up (σ.2.2.2 k).1 13 ((σ.2.2.2 k).1 13 + 1)) 14 ((σ.2.2.2 k).1 14 + 1), (σ.2.2.2 k).2)) by simp only [oIssueC, oT, mIx_nI hk31, if_pos hm]; rw [if_neg (by omega)]]; exact ⟨_, _, _, rfl, List.append_nil _, rfl, fun _ => rfl, mRep_put hσ hR hk ⟨q9, q10, q11, q12, q13, q14, q15, q16, q17, q18, kupd_eq, kupd_eq, qr0, qr1, qr2⟩ (mOnly_tr (mOnly_tr mOnly_rf mOnly_19) mOnly_20) rfl (fun j hj => by simp only [va_up_ne _ _ hj])⟩)
        · exact absurd (by decide) d2
      · refine k_iconst hC (nI 2) dX4_issueConveyance_24 rfl ?_
        refine k_goto hC 29 dX4_issueConveyance_25 (by decide) ?_
        refine k_put hC inlX4 tyX4_ok nmX4 0 0 rfl rfl (by decide) lkF_X4_74 rfl rfl rfl (Nat.le_of_ble_eq_true rfl) dX4_issueConveyance_29 (wM K y b (va_up (va_up S 0 (nI 0)) 0 (nI 2)) G) rfl ?_
        refine k_aload_n hC 0 dX4_issueConveyance_32 rfl rfl ?_
        refine k_get hC inlX4 0 0 rfl rfl (by decide) lkF_X4_74 rfl dX4_issueConveyance_33 ?_
        refine k_if_leN hC 41 dX4_issueConveyance_36 (by decide) (by omega) (fun d2 => ?_) (fun d2 => ?_)
        · exact absurd d2 (by decide)
        · refine k_iconst hC (nI 0) dX4_issueConveyance_39 rfl ?_
          exact k_iret hC hE (Nat.le_of_ble_eq_true rfl) (Nat.le_of_ble_eq_true rfl) dX4_issueConveyance_40 (by rw [show oIssueC σ (nI k) = (2, nI 0, σ) by simp only [oIssueC, oT, mIx_nI hk31, if_pos hm]; rw [if_pos (by omega)]]; exact ⟨_, G, _, rfl, List.append_nil _, rfl, fun q => absurd q (Nat.succ_ne_zero _), mRep_S hR (fun j hj => by simp only [va_up_ne _ _ hj])⟩)
    · exact absurd d1 (by decide)
  · rw [if_neg hm, if_neg hm]
    refine k_re 0 0 (wM K y b (va_up S 0 (nI 1)) G) [.int (nI 0), .ref y] rfl rfl (List.append_nil _) rfl ?_
    refine k_if_neN hC 14 dX4_issueConveyance_7 (by decide) (by omega) (fun d1 => ?_) (fun d1 => ?_)
    · exact absurd (by decide) d1
    · refine k_iconst hC (nI 1) dX4_issueConveyance_10 rfl ?_
      refine k_goto hC 29 dX4_issueConveyance_11 (by decide) ?_
      refine k_put hC inlX4 tyX4_ok nmX4 0 0 rfl rfl (by decide) lkF_X4_74 rfl rfl rfl (Nat.le_of_ble_eq_true rfl) dX4_issueConveyance_29 (wM K y b (va_up (va_up S 0 (nI 1)) 0 (nI 1)) G) rfl ?_
      refine k_aload_n hC 0 dX4_issueConveyance_32 rfl rfl ?_
      refine k_get hC inlX4 0 0 rfl rfl (by decide) lkF_X4_74 rfl dX4_issueConveyance_33 ?_
      refine k_if_leN hC 41 dX4_issueConveyance_36 (by decide) (by omega) (fun d2 => ?_) (fun d2 => ?_)
      · exact absurd d2 (by decide)
      · refine k_iconst hC (nI 0) dX4_issueConveyance_39 rfl ?_
        exact k_iret hC hE (Nat.le_of_ble_eq_true rfl) (Nat.le_of_ble_eq_true rfl) dX4_issueConveyance_40 (by rw [show oIssueC σ p9 = (1, nI 0, σ) by simp only [oIssueC, if_neg hm]]; exact ⟨_, G, _, rfl, List.append_nil _, rfl, fun q => absurd q (Nat.succ_ne_zero _), mRep_S hR (fun j hj => by simp only [va_up_ne _ _ hj])⟩)
abbrev rmX4_retire : Room := { frames := 1, cells := 0, slots := 0, locals := 23 }
set_option maxRecDepth 100000 in
set_option maxHeartbeats 4000000 in
theorem cX4_retire_k (l : Launch) (K : kE) (y : Nat) (b : Nat → Nat) (S : Nat → Int32) (G : Nat → Nat → Int32) (σ : mS) (hσ : mSok σ) (hR : mRep σ S G) (p9 : Int32) : kM l yX4_retire (kws yX4_retire cX4_retire 2 (some .int)) rmX4_retire K [.ref y, .int p9] (wM K y b S G) (mPo K y b (oRetire σ p9)) := by
  refine kM_of (pl := []) (X := (wM K y b S G)) rfl (by decide) (Nat.le_of_ble_eq_true rfl) ?_
  intro p e s m args below meth cd A Q hC hnm hE
  have hn6 := hσ.1
  refine k_aload_n hC 0 dX4_retire_0 rfl rfl ?_
  refine k_aload_n hC 0 dX4_retire_1 rfl rfl ?_
  refine k_iload_n hC 1 dX4_retire_2 rfl rfl ?_
  refine k_iconst hC (nI 0) dX4_retire_3 rfl ?_
  refine k_callV hC (As := [.int p9, .int (nI 0)]) (cX4_asks_k l K y b S G p9 (nI 0)) [] (List.append_nil _).symm 0 rfl rfl (kAll5 lkM_X4_92 lkI_yX4_asks lkS_yX4_asks lkN_X4 lkC_yX4_asks) 2 (by decide) ⟨(Nat.le_of_ble_eq_true rfl), (Nat.le_of_ble_eq_true rfl)⟩ rfl rfl (Nat.le_of_ble_eq_true rfl) ⟨(Nat.le_of_ble_eq_true rfl), (Nat.le_of_ble_eq_true rfl)⟩ dX4_retire_4 (fun v w h => ?_)
  obtain ⟨rfl, rfl⟩ := h
  rw [hR.1]
  by_cases hm : mHas σ 0 p9
  · rw [if_pos hm, if_pos hm]
    refine k_re 0 0 (wM K y b (va_up S 0 (nI 0)) G) [.int (nI 1), .ref y] rfl rfl (List.append_nil _) rfl ?_
    obtain ⟨k, hk1, hk, rfl⟩ := mHas_ex hσ.1 (by decide) hm
    have hk31 : k < 2 ^ 31 := by omega
    have hk6 : k < 6 := by omega
    have hi := hσ.2 k hk
    have hn := hi.1.1
    have hl0 := mInv_L0 hi.1
    have hl1 := mInv_L1 hi.1
    have hl2 := mInv_L2 hi.1
    have h89 : (σ.2.2.2 k).1 9 ≤ 9 := by have := hi.1.2.1; omega
    obtain ⟨q9, q10, q11, q12, q13, q14, q15, q16, q17, q18, q19, q20, qr0, qr1, qr2⟩ := id (hR.2.2.2.2.1 k hk)
    refine k_if_neN hC 14 dX4_retire_7 (by decide) (by omega) (fun d1 => ?_) (fun d1 => ?_)
    · refine k_aload_n hC 0 dX4_retire_14 rfl rfl ?_
      refine k_get hC inlX4 0 14 rfl rfl (by decide) lkF_X4_26 rfl dX4_retire_15 ?_
      refine k_iload_n hC 1 dX4_retire_18 rfl rfl ?_
      refine k_ald hC 6 rfl (by omega) (by decide) dX4_retire_19 ?_
      refine k_topE (nI ((σ.2.2.2 k).1 9)) q14 ?_
      refine k_if_eqN hC 33 dX4_retire_20 (by decide) (by omega) (fun c1 => ?_) (fun c1 => ?_)
      · refine k_iconst hC (nI 2) dX4_retire_33 rfl ?_
        refine k_goto hC 38 dX4_retire_34 (by decide) ?_
        refine k_put hC inlX4 tyX4_ok nmX4 0 0 rfl rfl (by decide) lkF_X4_74 rfl rfl rfl (Nat.le_of_ble_eq_true rfl) dX4_retire_38 (wM K y b (va_up (va_up S 0 (nI 0)) 0 (nI 2)) G) rfl ?_
        refine k_aload_n hC 0 dX4_retire_41 rfl rfl ?_
        refine k_get hC inlX4 0 0 rfl rfl (by decide) lkF_X4_74 rfl dX4_retire_42 ?_
        refine k_if_leN hC 50 dX4_retire_45 (by decide) (by omega) (fun d2 => ?_) (fun d2 => ?_)
        · exact absurd d2 (by decide)
        · refine k_iconst hC (nI 0) dX4_retire_48 rfl ?_
          exact k_iret hC hE (Nat.le_of_ble_eq_true rfl) (Nat.le_of_ble_eq_true rfl) dX4_retire_49 (by rw [show oRetire σ (nI k) = (2, nI 0, σ) by simp only [oRetire, oT, mIx_nI hk31, if_pos hm]; rw [if_pos (by omega)]]; exact ⟨_, G, _, rfl, List.append_nil _, rfl, fun q => absurd q (Nat.succ_ne_zero _), mRep_S hR (fun j hj => by simp only [va_up_ne _ _ hj])⟩)
      · refine k_aload_n hC 0 dX4_retire_23 rfl rfl ?_
        refine k_get hC inlX4 0 9 rfl rfl (by decide) lkF_X4_7 rfl dX4_retire_24 ?_
        refine k_iload_n hC 1 dX4_retire_27 rfl rfl ?_
        refine k_ald hC 1 rfl (by omega) (by decide) dX4_retire_28 ?_
        refine k_topE (nI ((σ.2.2.2 k).1 8)) q9 ?_
        refine k_iconst hC (nI 1) dX4_retire_29 rfl ?_
        refine k_icmp_neN hC 37 dX4_retire_30 (by decide) (by omega) (by omega) (fun c2 => ?_) (fun c2 => ?_)
        · refine k_iconst hC (nI 0) dX4_retire_37 rfl ?_
          refine k_put hC inlX4 tyX4_ok nmX4 0 0 rfl rfl (by decide) lkF_X4_74 rfl rfl rfl (Nat.le_of_ble_eq_true rfl) dX4_retire_38 (wM K y b (va_up (va_up S 0 (nI 0)) 0 (nI 0)) G) rfl ?_
          refine k_aload_n hC 0 dX4_retire_41 rfl rfl ?_
          refine k_get hC inlX4 0 0 rfl rfl (by decide) lkF_X4_74 rfl dX4_retire_42 ?_
          refine k_if_leN hC 50 dX4_retire_45 (by decide) (by omega) (fun d2 => ?_) (fun d2 => ?_)
          · refine k_aload_n hC 0 dX4_retire_50 rfl rfl ?_
            refine k_get hC inlX4 0 9 rfl rfl (by decide) lkF_X4_7 rfl dX4_retire_51 ?_
            refine k_iload_n hC 1 dX4_retire_54 rfl rfl ?_
            refine k_dup2 hC dX4_retire_55 rfl rfl ?_
            refine k_ald hC 1 rfl (by omega) (by decide) dX4_retire_56 ?_
            refine k_topE (nI ((σ.2.2.2 k).1 8)) q9 ?_
            refine k_iconst hC (nI 1) dX4_retire_57 rfl ?_
            refine k_isubN hC dX4_retire_58 (by omega) ?_
            refine k_ast hC 1 rfl (by omega) (by decide) dX4_retire_59 (wM K y b (va_up (va_up S 0 (nI 0)) 0 (nI 0)) (va_up G 9 (upd (G 9) k (nI (((σ.2.2.2 k).1 8) - 1))))) rfl ?_
            refine k_aload_n hC 0 dX4_retire_60 rfl rfl ?_
            refine k_get hC inlX4 0 14 rfl rfl (by decide) lkF_X4_26 rfl dX4_retire_61 ?_
            refine k_iload_n hC 1 dX4_retire_64 rfl rfl ?_
            refine k_dup2 hC dX4_retire_65 rfl rfl ?_
            refine k_ald hC 6 rfl (by omega) (by decide) dX4_retire_66 ?_
            refine k_topE (nI ((σ.2.2.2 k).1 9)) q14 ?_
            refine k_iconst hC (nI 1) dX4_retire_67 rfl ?_
            refine k_isubN hC dX4_retire_68 (by omega) ?_
            refine k_ast hC 6 rfl (by omega) (by decide) dX4_retire_69 (wM K y b (va_up (va_up S 0 (nI 0)) 0 (nI 0)) (va_up (va_up G 9 (upd (G 9) k (nI (((σ.2.2.2 k).1 8) - 1)))) 14 (upd (G 14) k (nI (((σ.2.2.2 k).1 9) - 1))))) rfl ?_
            refine k_aload_n hC 0 dX4_retire_70 rfl rfl ?_
            refine k_get hC inlX4 0 16 rfl rfl (by decide) lkF_X4_32 rfl dX4_retire_71 ?_
            refine k_iload_n hC 1 dX4_retire_74 rfl rfl ?_
            refine k_aload_n hC 0 dX4_retire_75 rfl rfl ?_
            refine k_get hC inlX4 0 16 rfl rfl (by decide) lkF_X4_32 rfl dX4_retire_76 ?_
            refine k_iload_n hC 1 dX4_retire_79 rfl rfl ?_
            refine k_ald hC 8 rfl (by omega) (by decide) dX4_retire_80 ?_
            refine k_topE (nI ((σ.2.2.2 k).1 11)) q16 ?_
            refine k_aload_n hC 0 dX4_retire_81 rfl rfl ?_
            refine k_get hC inlX4 0 14 rfl rfl (by decide) lkF_X4_26 rfl dX4_retire_82 ?_
            refine k_iload_n hC 1 dX4_retire_85 rfl rfl ?_
            refine k_ald hC 6 rfl (by omega) (by decide) dX4_retire_86 ?_
            refine k_topE (nI ((σ.2.2.2 k).1 9 - 1)) kupd_eq ?_
            refine k_icmp_geN hC 99 dX4_retire_87 (by decide) (by omega) (by omega) (fun c3 => ?_) (fun c3 => ?_)
            · refine k_aload_n hC 0 dX4_retire_99 rfl rfl ?_
              refine k_get hC inlX4 0 14 rfl rfl (by decide) lkF_X4_26 rfl dX4_retire_100 ?_
              refine k_iload_n hC 1 dX4_retire_103 rfl rfl ?_
              refine k_ald hC 6 rfl (by omega) (by decide) dX4_retire_104 ?_
              refine k_topE (nI (min ((σ.2.2.2 k).1 11) ((σ.2.2.2 k).1 9 - 1))) ((kupd_eq).trans (congrArg nI (by omega))) ?_
              refine k_ast hC 8 rfl (by omega) (by decide) dX4_retire_105 (wM K y b (va_up (va_up S 0 (nI 0)) 0 (nI 0)) (va_up (va_up (va_up G 9 (upd (G 9) k (nI (((σ.2.2.2 k).1 8) - 1)))) 14 (upd (G 14) k (nI (((σ.2.2.2 k).1 9) - 1)))) 16 (upd (G 16) k (nI (min ((σ.2.2.2 k).1 11) ((σ.2.2.2 k).1 9 - 1)))))) rfl ?_
              refine k_aload_n hC 0 dX4_retire_106 rfl rfl ?_
              refine k_get hC inlX4 0 9 rfl rfl (by decide) lkF_X4_7 rfl dX4_retire_107 ?_
              refine k_iload_n hC 1 dX4_retire_110 rfl rfl ?_
              refine k_ald hC 1 rfl (by omega) (by decide) dX4_retire_111 ?_
              refine k_topE (nI ((σ.2.2.2 k).1 8 - 1)) kupd_eq ?_
              exact k_iret hC hE (Nat.le_of_ble_eq_true rfl) (Nat.le_of_ble_eq_true rfl) dX4_retire_112 (by rw [show oRetire σ (nI k) = (0, nI ((σ.2.2.2 k).1 8 - 1), mPut σ k (va_up (va_up (va_up (σ.2.2.2 k).1 8 ((σ.2.2.2 k).1 8 - 1)) 9 ((σ.2.2.2 k).1 9 - 1)) 11 (min ((σ.2.2.2 k).1 11) ((σ.2.2.2 k).1 9 - 1)), (σ.2.2.2 k).2)) by simp only [oRetire, oT, mIx_nI hk31, if_pos hm]; rw [if_neg (by omega)]]; exact ⟨_, _, _, rfl, List.append_nil _, rfl, fun _ => rfl, mRep_put hσ hR hk ⟨kupd_eq, q10, q11, q12, q13, kupd_eq, q15, kupd_eq, q17, q18, q19, q20, qr0, qr1, qr2⟩ (mOnly_tr (mOnly_tr (mOnly_tr mOnly_rf mOnly_9) mOnly_14) mOnly_16) rfl (fun j hj => by simp only [va_up_ne _ _ hj])⟩)
            · refine k_aload_n hC 0 dX4_retire_90 rfl rfl ?_
              refine k_get hC inlX4 0 16 rfl rfl (by decide) lkF_X4_32 rfl dX4_retire_91 ?_
              refine k_iload_n hC 1 dX4_retire_94 rfl rfl ?_
              refine k_ald hC 8 rfl (by omega) (by decide) dX4_retire_95 ?_
              refine k_topE (nI (min ((σ.2.2.2 k).1 11) ((σ.2.2.2 k).1 9 - 1))) (q16.trans (congrArg nI (by omega))) ?_
              refine k_goto hC 105 dX4_retire_96 (by decide) ?_
              refine k_ast hC 8 rfl (by omega) (by decide) dX4_retire_105 (wM K y b (va_up (va_up S 0 (nI 0)) 0 (nI 0)) (va_up (va_up (va_up G 9 (upd (G 9) k (nI (((σ.2.2.2 k).1 8) - 1)))) 14 (upd (G 14) k (nI (((σ.2.2.2 k).1 9) - 1)))) 16 (upd (G 16) k (nI (min ((σ.2.2.2 k).1 11) ((σ.2.2.2 k).1 9 - 1)))))) rfl ?_
              refine k_aload_n hC 0 dX4_retire_106 rfl rfl ?_
              refine k_get hC inlX4 0 9 rfl rfl (by decide) lkF_X4_7 rfl dX4_retire_107 ?_
              refine k_iload_n hC 1 dX4_retire_110 rfl rfl ?_
              refine k_ald hC 1 rfl (by omega) (by decide) dX4_retire_111 ?_
              refine k_topE (nI ((σ.2.2.2 k).1 8 - 1)) kupd_eq ?_
              exact k_iret hC hE (Nat.le_of_ble_eq_true rfl) (Nat.le_of_ble_eq_true rfl) dX4_retire_112 (by rw [show oRetire σ (nI k) = (0, nI ((σ.2.2.2 k).1 8 - 1), mPut σ k (va_up (va_up (va_up (σ.2.2.2 k).1 8 ((σ.2.2.2 k).1 8 - 1)) 9 ((σ.2.2.2 k).1 9 - 1)) 11 (min ((σ.2.2.2 k).1 11) ((σ.2.2.2 k).1 9 - 1)), (σ.2.2.2 k).2)) by simp only [oRetire, oT, mIx_nI hk31, if_pos hm]; rw [if_neg (by omega)]]; exact ⟨_, _, _, rfl, List.append_nil _, rfl, fun _ => rfl, mRep_put hσ hR hk ⟨kupd_eq, q10, q11, q12, q13, kupd_eq, q15, kupd_eq, q17, q18, q19, q20, qr0, qr1, qr2⟩ (mOnly_tr (mOnly_tr (mOnly_tr mOnly_rf mOnly_9) mOnly_14) mOnly_16) rfl (fun j hj => by simp only [va_up_ne _ _ hj])⟩)
          · exact absurd (by decide) d2
        · refine k_iconst hC (nI 2) dX4_retire_33 rfl ?_
          refine k_goto hC 38 dX4_retire_34 (by decide) ?_
          refine k_put hC inlX4 tyX4_ok nmX4 0 0 rfl rfl (by decide) lkF_X4_74 rfl rfl rfl (Nat.le_of_ble_eq_true rfl) dX4_retire_38 (wM K y b (va_up (va_up S 0 (nI 0)) 0 (nI 2)) G) rfl ?_
          refine k_aload_n hC 0 dX4_retire_41 rfl rfl ?_
          refine k_get hC inlX4 0 0 rfl rfl (by decide) lkF_X4_74 rfl dX4_retire_42 ?_
          refine k_if_leN hC 50 dX4_retire_45 (by decide) (by omega) (fun d2 => ?_) (fun d2 => ?_)
          · exact absurd d2 (by decide)
          · refine k_iconst hC (nI 0) dX4_retire_48 rfl ?_
            exact k_iret hC hE (Nat.le_of_ble_eq_true rfl) (Nat.le_of_ble_eq_true rfl) dX4_retire_49 (by rw [show oRetire σ (nI k) = (2, nI 0, σ) by simp only [oRetire, oT, mIx_nI hk31, if_pos hm]; rw [if_pos (by omega)]]; exact ⟨_, G, _, rfl, List.append_nil _, rfl, fun q => absurd q (Nat.succ_ne_zero _), mRep_S hR (fun j hj => by simp only [va_up_ne _ _ hj])⟩)
    · exact absurd d1 (by decide)
  · rw [if_neg hm, if_neg hm]
    refine k_re 0 0 (wM K y b (va_up S 0 (nI 1)) G) [.int (nI 0), .ref y] rfl rfl (List.append_nil _) rfl ?_
    refine k_if_neN hC 14 dX4_retire_7 (by decide) (by omega) (fun d1 => ?_) (fun d1 => ?_)
    · exact absurd (by decide) d1
    · refine k_iconst hC (nI 1) dX4_retire_10 rfl ?_
      refine k_goto hC 38 dX4_retire_11 (by decide) ?_
      refine k_put hC inlX4 tyX4_ok nmX4 0 0 rfl rfl (by decide) lkF_X4_74 rfl rfl rfl (Nat.le_of_ble_eq_true rfl) dX4_retire_38 (wM K y b (va_up (va_up S 0 (nI 1)) 0 (nI 1)) G) rfl ?_
      refine k_aload_n hC 0 dX4_retire_41 rfl rfl ?_
      refine k_get hC inlX4 0 0 rfl rfl (by decide) lkF_X4_74 rfl dX4_retire_42 ?_
      refine k_if_leN hC 50 dX4_retire_45 (by decide) (by omega) (fun d2 => ?_) (fun d2 => ?_)
      · exact absurd d2 (by decide)
      · refine k_iconst hC (nI 0) dX4_retire_48 rfl ?_
        exact k_iret hC hE (Nat.le_of_ble_eq_true rfl) (Nat.le_of_ble_eq_true rfl) dX4_retire_49 (by rw [show oRetire σ p9 = (1, nI 0, σ) by simp only [oRetire, if_neg hm]]; exact ⟨_, G, _, rfl, List.append_nil _, rfl, fun q => absurd q (Nat.succ_ne_zero _), mRep_S hR (fun j hj => by simp only [va_up_ne _ _ hj])⟩)
abbrev rmX4_retireConveyance : Room := { frames := 1, cells := 0, slots := 0, locals := 23 }
set_option maxRecDepth 100000 in
set_option maxHeartbeats 4000000 in
theorem cX4_retireConveyance_k (l : Launch) (K : kE) (y : Nat) (b : Nat → Nat) (S : Nat → Int32) (G : Nat → Nat → Int32) (σ : mS) (hσ : mSok σ) (hR : mRep σ S G) (p9 : Int32) : kM l yX4_retireConveyance (kws yX4_retireConveyance cX4_retireConveyance 2 (some .int)) rmX4_retireConveyance K [.ref y, .int p9] (wM K y b S G) (mPo K y b (oRetireC σ p9)) := by
  refine kM_of (pl := []) (X := (wM K y b S G)) rfl (by decide) (Nat.le_of_ble_eq_true rfl) ?_
  intro p e s m args below meth cd A Q hC hnm hE
  have hn6 := hσ.1
  refine k_aload_n hC 0 dX4_retireConveyance_0 rfl rfl ?_
  refine k_aload_n hC 0 dX4_retireConveyance_1 rfl rfl ?_
  refine k_iload_n hC 1 dX4_retireConveyance_2 rfl rfl ?_
  refine k_iconst hC (nI 1) dX4_retireConveyance_3 rfl ?_
  refine k_callV hC (As := [.int p9, .int (nI 1)]) (cX4_asks_k l K y b S G p9 (nI 1)) [] (List.append_nil _).symm 0 rfl rfl (kAll5 lkM_X4_92 lkI_yX4_asks lkS_yX4_asks lkN_X4 lkC_yX4_asks) 2 (by decide) ⟨(Nat.le_of_ble_eq_true rfl), (Nat.le_of_ble_eq_true rfl)⟩ rfl rfl (Nat.le_of_ble_eq_true rfl) ⟨(Nat.le_of_ble_eq_true rfl), (Nat.le_of_ble_eq_true rfl)⟩ dX4_retireConveyance_4 (fun v w h => ?_)
  obtain ⟨rfl, rfl⟩ := h
  rw [hR.1]
  by_cases hm : mHas σ 1 p9
  · rw [if_pos hm, if_pos hm]
    refine k_re 0 0 (wM K y b (va_up S 0 (nI 0)) G) [.int (nI 1), .ref y] rfl rfl (List.append_nil _) rfl ?_
    obtain ⟨k, hk1, hk, rfl⟩ := mHas_ex hσ.1 (by decide) hm
    have hk31 : k < 2 ^ 31 := by omega
    have hk6 : k < 6 := by omega
    have hi := hσ.2 k hk
    have hn := hi.1.1
    have hl0 := mInv_L0 hi.1
    have hl1 := mInv_L1 hi.1
    have hl2 := mInv_L2 hi.1
    have h89 : (σ.2.2.2 k).1 9 ≤ 9 := by have := hi.1.2.1; omega
    obtain ⟨q9, q10, q11, q12, q13, q14, q15, q16, q17, q18, q19, q20, qr0, qr1, qr2⟩ := id (hR.2.2.2.2.1 k hk)
    have h13 := hi.1.2.2.2.2.2.2
    rw [if_neg (by simp; omega)] at h13
    refine k_if_neN hC 14 dX4_retireConveyance_7 (by decide) (by omega) (fun d1 => ?_) (fun d1 => ?_)
    · refine k_aload_n hC 0 dX4_retireConveyance_14 rfl rfl ?_
      refine k_get hC inlX4 0 20 rfl rfl (by decide) lkF_X4_44 rfl dX4_retireConveyance_15 ?_
      refine k_iload_n hC 1 dX4_retireConveyance_18 rfl rfl ?_
      refine k_ald hC 12 rfl (by omega) (by decide) dX4_retireConveyance_19 ?_
      refine k_topE (nI ((σ.2.2.2 k).1 14)) q20 ?_
      refine k_if_eqN hC 33 dX4_retireConveyance_20 (by decide) (by omega) (fun c1 => ?_) (fun c1 => ?_)
      · refine k_iconst hC (nI 2) dX4_retireConveyance_33 rfl ?_
        refine k_goto hC 38 dX4_retireConveyance_34 (by decide) ?_
        refine k_put hC inlX4 tyX4_ok nmX4 0 0 rfl rfl (by decide) lkF_X4_74 rfl rfl rfl (Nat.le_of_ble_eq_true rfl) dX4_retireConveyance_38 (wM K y b (va_up (va_up S 0 (nI 0)) 0 (nI 2)) G) rfl ?_
        refine k_aload_n hC 0 dX4_retireConveyance_41 rfl rfl ?_
        refine k_get hC inlX4 0 0 rfl rfl (by decide) lkF_X4_74 rfl dX4_retireConveyance_42 ?_
        refine k_if_leN hC 50 dX4_retireConveyance_45 (by decide) (by omega) (fun d2 => ?_) (fun d2 => ?_)
        · exact absurd d2 (by decide)
        · refine k_iconst hC (nI 0) dX4_retireConveyance_48 rfl ?_
          exact k_iret hC hE (Nat.le_of_ble_eq_true rfl) (Nat.le_of_ble_eq_true rfl) dX4_retireConveyance_49 (by rw [show oRetireC σ (nI k) = (2, nI 0, σ) by simp only [oRetireC, oT, mIx_nI hk31, if_pos hm]; rw [if_pos (by omega)]]; exact ⟨_, G, _, rfl, List.append_nil _, rfl, fun q => absurd q (Nat.succ_ne_zero _), mRep_S hR (fun j hj => by simp only [va_up_ne _ _ hj])⟩)
      · refine k_aload_n hC 0 dX4_retireConveyance_23 rfl rfl ?_
        refine k_get hC inlX4 0 19 rfl rfl (by decide) lkF_X4_41 rfl dX4_retireConveyance_24 ?_
        refine k_iload_n hC 1 dX4_retireConveyance_27 rfl rfl ?_
        refine k_ald hC 11 rfl (by omega) (by decide) dX4_retireConveyance_28 ?_
        refine k_topE (nI ((σ.2.2.2 k).1 13)) q19 ?_
        refine k_iconst hC (nI 1) dX4_retireConveyance_29 rfl ?_
        refine k_icmp_neN hC 37 dX4_retireConveyance_30 (by decide) (by omega) (by omega) (fun c2 => ?_) (fun c2 => ?_)
        · refine k_iconst hC (nI 0) dX4_retireConveyance_37 rfl ?_
          refine k_put hC inlX4 tyX4_ok nmX4 0 0 rfl rfl (by decide) lkF_X4_74 rfl rfl rfl (Nat.le_of_ble_eq_true rfl) dX4_retireConveyance_38 (wM K y b (va_up (va_up S 0 (nI 0)) 0 (nI 0)) G) rfl ?_
          refine k_aload_n hC 0 dX4_retireConveyance_41 rfl rfl ?_
          refine k_get hC inlX4 0 0 rfl rfl (by decide) lkF_X4_74 rfl dX4_retireConveyance_42 ?_
          refine k_if_leN hC 50 dX4_retireConveyance_45 (by decide) (by omega) (fun d2 => ?_) (fun d2 => ?_)
          · refine k_aload_n hC 0 dX4_retireConveyance_50 rfl rfl ?_
            refine k_get hC inlX4 0 19 rfl rfl (by decide) lkF_X4_41 rfl dX4_retireConveyance_51 ?_
            refine k_iload_n hC 1 dX4_retireConveyance_54 rfl rfl ?_
            refine k_dup2 hC dX4_retireConveyance_55 rfl rfl ?_
            refine k_ald hC 11 rfl (by omega) (by decide) dX4_retireConveyance_56 ?_
            refine k_topE (nI ((σ.2.2.2 k).1 13)) q19 ?_
            refine k_iconst hC (nI 1) dX4_retireConveyance_57 rfl ?_
            refine k_isubN hC dX4_retireConveyance_58 (by omega) ?_
            refine k_ast hC 11 rfl (by omega) (by decide) dX4_retireConveyance_59 (wM K y b (va_up (va_up S 0 (nI 0)) 0 (nI 0)) (va_up G 19 (upd (G 19) k (nI (((σ.2.2.2 k).1 13) - 1))))) rfl ?_
            refine k_aload_n hC 0 dX4_retireConveyance_60 rfl rfl ?_
            refine k_get hC inlX4 0 20 rfl rfl (by decide) lkF_X4_44 rfl dX4_retireConveyance_61 ?_
            refine k_iload_n hC 1 dX4_retireConveyance_64 rfl rfl ?_
            refine k_dup2 hC dX4_retireConveyance_65 rfl rfl ?_
            refine k_ald hC 12 rfl (by omega) (by decide) dX4_retireConveyance_66 ?_
            refine k_topE (nI ((σ.2.2.2 k).1 14)) q20 ?_
            refine k_iconst hC (nI 1) dX4_retireConveyance_67 rfl ?_
            refine k_isubN hC dX4_retireConveyance_68 (by omega) ?_
            refine k_ast hC 12 rfl (by omega) (by decide) dX4_retireConveyance_69 (wM K y b (va_up (va_up S 0 (nI 0)) 0 (nI 0)) (va_up (va_up G 19 (upd (G 19) k (nI (((σ.2.2.2 k).1 13) - 1)))) 20 (upd (G 20) k (nI (((σ.2.2.2 k).1 14) - 1))))) rfl ?_
            refine k_aload_n hC 0 dX4_retireConveyance_70 rfl rfl ?_
            refine k_get hC inlX4 0 19 rfl rfl (by decide) lkF_X4_41 rfl dX4_retireConveyance_71 ?_
            refine k_iload_n hC 1 dX4_retireConveyance_74 rfl rfl ?_
            refine k_ald hC 11 rfl (by omega) (by decide) dX4_retireConveyance_75 ?_
            refine k_topE (nI ((σ.2.2.2 k).1 13 - 1)) kupd_eq ?_
            exact k_iret hC hE (Nat.le_of_ble_eq_true rfl) (Nat.le_of_ble_eq_true rfl) dX4_retireConveyance_76 (by rw [show oRetireC σ (nI k) = (0, nI ((σ.2.2.2 k).1 13 - 1), mPut σ k (va_up (va_up (σ.2.2.2 k).1 13 ((σ.2.2.2 k).1 13 - 1)) 14 ((σ.2.2.2 k).1 14 - 1), (σ.2.2.2 k).2)) by simp only [oRetireC, oT, mIx_nI hk31, if_pos hm]; rw [if_neg (by omega)]]; exact ⟨_, _, _, rfl, List.append_nil _, rfl, fun _ => rfl, mRep_put hσ hR hk ⟨q9, q10, q11, q12, q13, q14, q15, q16, q17, q18, kupd_eq, kupd_eq, qr0, qr1, qr2⟩ (mOnly_tr (mOnly_tr mOnly_rf mOnly_19) mOnly_20) rfl (fun j hj => by simp only [va_up_ne _ _ hj])⟩)
          · exact absurd (by decide) d2
        · refine k_iconst hC (nI 2) dX4_retireConveyance_33 rfl ?_
          refine k_goto hC 38 dX4_retireConveyance_34 (by decide) ?_
          refine k_put hC inlX4 tyX4_ok nmX4 0 0 rfl rfl (by decide) lkF_X4_74 rfl rfl rfl (Nat.le_of_ble_eq_true rfl) dX4_retireConveyance_38 (wM K y b (va_up (va_up S 0 (nI 0)) 0 (nI 2)) G) rfl ?_
          refine k_aload_n hC 0 dX4_retireConveyance_41 rfl rfl ?_
          refine k_get hC inlX4 0 0 rfl rfl (by decide) lkF_X4_74 rfl dX4_retireConveyance_42 ?_
          refine k_if_leN hC 50 dX4_retireConveyance_45 (by decide) (by omega) (fun d2 => ?_) (fun d2 => ?_)
          · exact absurd d2 (by decide)
          · refine k_iconst hC (nI 0) dX4_retireConveyance_48 rfl ?_
            exact k_iret hC hE (Nat.le_of_ble_eq_true rfl) (Nat.le_of_ble_eq_true rfl) dX4_retireConveyance_49 (by rw [show oRetireC σ (nI k) = (2, nI 0, σ) by simp only [oRetireC, oT, mIx_nI hk31, if_pos hm]; rw [if_pos (by omega)]]; exact ⟨_, G, _, rfl, List.append_nil _, rfl, fun q => absurd q (Nat.succ_ne_zero _), mRep_S hR (fun j hj => by simp only [va_up_ne _ _ hj])⟩)
    · exact absurd d1 (by decide)
  · rw [if_neg hm, if_neg hm]
    refine k_re 0 0 (wM K y b (va_up S 0 (nI 1)) G) [.int (nI 0), .ref y] rfl rfl (List.append_nil _) rfl ?_
    refine k_if_neN hC 14 dX4_retireConveyance_7 (by decide) (by omega) (fun d1 => ?_) (fun d1 => ?_)
    · exact absurd (by decide) d1
    · refine k_iconst hC (nI 1) dX4_retireConveyance_10 rfl ?_
      refine k_goto hC 38 dX4_retireConveyance_11 (by decide) ?_
      refine k_put hC inlX4 tyX4_ok nmX4 0 0 rfl rfl (by decide) lkF_X4_74 rfl rfl rfl (Nat.le_of_ble_eq_true rfl) dX4_retireConveyance_38 (wM K y b (va_up (va_up S 0 (nI 1)) 0 (nI 1)) G) rfl ?_
      refine k_aload_n hC 0 dX4_retireConveyance_41 rfl rfl ?_
      refine k_get hC inlX4 0 0 rfl rfl (by decide) lkF_X4_74 rfl dX4_retireConveyance_42 ?_
      refine k_if_leN hC 50 dX4_retireConveyance_45 (by decide) (by omega) (fun d2 => ?_) (fun d2 => ?_)
      · exact absurd d2 (by decide)
      · refine k_iconst hC (nI 0) dX4_retireConveyance_48 rfl ?_
        exact k_iret hC hE (Nat.le_of_ble_eq_true rfl) (Nat.le_of_ble_eq_true rfl) dX4_retireConveyance_49 (by rw [show oRetireC σ p9 = (1, nI 0, σ) by simp only [oRetireC, if_neg hm]]; exact ⟨_, G, _, rfl, List.append_nil _, rfl, fun q => absurd q (Nat.succ_ne_zero _), mRep_S hR (fun j hj => by simp only [va_up_ne _ _ hj])⟩)
abbrev rmX4_board : Room := { frames := 1, cells := 0, slots := 0, locals := 23 }
set_option maxRecDepth 100000 in
set_option maxHeartbeats 4000000 in
theorem cX4_board_k (l : Launch) (K : kE) (y : Nat) (b : Nat → Nat) (S : Nat → Int32) (G : Nat → Nat → Int32) (σ : mS) (hσ : mSok σ) (hR : mRep σ S G) (p9 : Int32) : kM l yX4_board (kws yX4_board cX4_board 2 (some .int)) rmX4_board K [.ref y, .int p9] (wM K y b S G) (mPo K y b (oGet σ p9 (fun τ => nI (τ.1 9)))) := by
  refine kM_of (pl := []) (X := (wM K y b S G)) rfl (by decide) (Nat.le_of_ble_eq_true rfl) ?_
  intro p e s m args below meth cd A Q hC hnm hE
  have hn6 := hσ.1
  refine k_aload_n hC 0 dX4_board_0 rfl rfl ?_
  refine k_iload_n hC 1 dX4_board_1 rfl rfl ?_
  refine k_iconst hC (nI 0) dX4_board_2 rfl ?_
  refine k_callV hC (As := [.int p9, .int (nI 0)]) (cX4_asks_k l K y b S G p9 (nI 0)) [] (List.append_nil _).symm 0 rfl rfl (kAll5 lkM_X4_92 lkI_yX4_asks lkS_yX4_asks lkN_X4 lkC_yX4_asks) 2 (by decide) ⟨(Nat.le_of_ble_eq_true rfl), (Nat.le_of_ble_eq_true rfl)⟩ rfl rfl (Nat.le_of_ble_eq_true rfl) ⟨(Nat.le_of_ble_eq_true rfl), (Nat.le_of_ble_eq_true rfl)⟩ dX4_board_3 (fun v w h => ?_)
  obtain ⟨rfl, rfl⟩ := h
  rw [hR.1]
  by_cases hm : mHas σ 0 p9
  · rw [if_pos hm, if_pos hm]
    refine k_re 0 0 (wM K y b (va_up S 0 (nI 0)) G) [.int (nI 1)] rfl rfl (List.append_nil _) rfl ?_
    obtain ⟨k, hk1, hk, rfl⟩ := mHas_ex hσ.1 (by decide) hm
    have hk31 : k < 2 ^ 31 := by omega
    have hk6 : k < 6 := by omega
    have hi := hσ.2 k hk
    have hn := hi.1.1
    have hl0 := mInv_L0 hi.1
    have hl1 := mInv_L1 hi.1
    have hl2 := mInv_L2 hi.1
    have h89 : (σ.2.2.2 k).1 9 ≤ 9 := by have := hi.1.2.1; omega
    obtain ⟨q9, q10, q11, q12, q13, q14, q15, q16, q17, q18, q19, q20, qr0, qr1, qr2⟩ := id (hR.2.2.2.2.1 k hk)
    refine k_if_eqN hC 18 dX4_board_6 (by decide) (by omega) (fun d1 => ?_) (fun d1 => ?_)
    · exact absurd d1 (by decide)
    · refine k_aload_n hC 0 dX4_board_9 rfl rfl ?_
      refine k_get hC inlX4 0 14 rfl rfl (by decide) lkF_X4_26 rfl dX4_board_10 ?_
      refine k_iload_n hC 1 dX4_board_13 rfl rfl ?_
      refine k_ald hC 6 rfl (by omega) (by decide) dX4_board_14 ?_
      refine k_topE (nI ((σ.2.2.2 k).1 9)) q14 ?_
      refine k_goto hC 19 dX4_board_15 (by decide) ?_
      exact k_iret hC hE (Nat.le_of_ble_eq_true rfl) (Nat.le_of_ble_eq_true rfl) dX4_board_19 (by rw [show oGet σ (nI k) (fun τ => nI (τ.1 9)) = (0, (fun τ => nI (τ.1 9)) (σ.2.2.2 k), σ) by simp only [oGet, oT, mIx_nI hk31, if_pos hm]]; exact ⟨_, G, _, rfl, List.append_nil _, rfl, fun _ => rfl, mRep_S hR (fun j hj => by simp only [va_up_ne _ _ hj])⟩)
  · rw [if_neg hm, if_neg hm]
    refine k_re 0 0 (wM K y b (va_up S 0 (nI 1)) G) [.int (nI 0)] rfl rfl (List.append_nil _) rfl ?_
    refine k_if_eqN hC 18 dX4_board_6 (by decide) (by omega) (fun d1 => ?_) (fun d1 => ?_)
    · refine k_iconst hC (nI 0) dX4_board_18 rfl ?_
      exact k_iret hC hE (Nat.le_of_ble_eq_true rfl) (Nat.le_of_ble_eq_true rfl) dX4_board_19 (by rw [show oGet σ p9 (fun τ => nI (τ.1 9)) = (1, nI 0, σ) by simp only [oGet, if_neg hm]]; exact ⟨_, G, _, rfl, List.append_nil _, rfl, fun q => absurd q (Nat.succ_ne_zero _), mRep_S hR (fun j hj => by simp only [va_up_ne _ _ hj])⟩)
    · exact absurd (by decide) d1
abbrev rmX4_left : Room := { frames := 1, cells := 0, slots := 0, locals := 23 }
set_option maxRecDepth 100000 in
set_option maxHeartbeats 4000000 in
theorem cX4_left_k (l : Launch) (K : kE) (y : Nat) (b : Nat → Nat) (S : Nat → Int32) (G : Nat → Nat → Int32) (σ : mS) (hσ : mSok σ) (hR : mRep σ S G) (p9 : Int32) : kM l yX4_left (kws yX4_left cX4_left 2 (some .int)) rmX4_left K [.ref y, .int p9] (wM K y b S G) (mPo K y b (oGet σ p9 (fun τ => nI (τ.1 10)))) := by
  refine kM_of (pl := []) (X := (wM K y b S G)) rfl (by decide) (Nat.le_of_ble_eq_true rfl) ?_
  intro p e s m args below meth cd A Q hC hnm hE
  have hn6 := hσ.1
  refine k_aload_n hC 0 dX4_left_0 rfl rfl ?_
  refine k_iload_n hC 1 dX4_left_1 rfl rfl ?_
  refine k_iconst hC (nI 0) dX4_left_2 rfl ?_
  refine k_callV hC (As := [.int p9, .int (nI 0)]) (cX4_asks_k l K y b S G p9 (nI 0)) [] (List.append_nil _).symm 0 rfl rfl (kAll5 lkM_X4_92 lkI_yX4_asks lkS_yX4_asks lkN_X4 lkC_yX4_asks) 2 (by decide) ⟨(Nat.le_of_ble_eq_true rfl), (Nat.le_of_ble_eq_true rfl)⟩ rfl rfl (Nat.le_of_ble_eq_true rfl) ⟨(Nat.le_of_ble_eq_true rfl), (Nat.le_of_ble_eq_true rfl)⟩ dX4_left_3 (fun v w h => ?_)
  obtain ⟨rfl, rfl⟩ := h
  rw [hR.1]
  by_cases hm : mHas σ 0 p9
  · rw [if_pos hm, if_pos hm]
    refine k_re 0 0 (wM K y b (va_up S 0 (nI 0)) G) [.int (nI 1)] rfl rfl (List.append_nil _) rfl ?_
    obtain ⟨k, hk1, hk, rfl⟩ := mHas_ex hσ.1 (by decide) hm
    have hk31 : k < 2 ^ 31 := by omega
    have hk6 : k < 6 := by omega
    have hi := hσ.2 k hk
    have hn := hi.1.1
    have hl0 := mInv_L0 hi.1
    have hl1 := mInv_L1 hi.1
    have hl2 := mInv_L2 hi.1
    have h89 : (σ.2.2.2 k).1 9 ≤ 9 := by have := hi.1.2.1; omega
    obtain ⟨q9, q10, q11, q12, q13, q14, q15, q16, q17, q18, q19, q20, qr0, qr1, qr2⟩ := id (hR.2.2.2.2.1 k hk)
    refine k_if_eqN hC 18 dX4_left_6 (by decide) (by omega) (fun d1 => ?_) (fun d1 => ?_)
    · exact absurd d1 (by decide)
    · refine k_aload_n hC 0 dX4_left_9 rfl rfl ?_
      refine k_get hC inlX4 0 15 rfl rfl (by decide) lkF_X4_29 rfl dX4_left_10 ?_
      refine k_iload_n hC 1 dX4_left_13 rfl rfl ?_
      refine k_ald hC 7 rfl (by omega) (by decide) dX4_left_14 ?_
      refine k_topE (nI ((σ.2.2.2 k).1 10)) q15 ?_
      refine k_goto hC 19 dX4_left_15 (by decide) ?_
      exact k_iret hC hE (Nat.le_of_ble_eq_true rfl) (Nat.le_of_ble_eq_true rfl) dX4_left_19 (by rw [show oGet σ (nI k) (fun τ => nI (τ.1 10)) = (0, (fun τ => nI (τ.1 10)) (σ.2.2.2 k), σ) by simp only [oGet, oT, mIx_nI hk31, if_pos hm]]; exact ⟨_, G, _, rfl, List.append_nil _, rfl, fun _ => rfl, mRep_S hR (fun j hj => by simp only [va_up_ne _ _ hj])⟩)
  · rw [if_neg hm, if_neg hm]
    refine k_re 0 0 (wM K y b (va_up S 0 (nI 1)) G) [.int (nI 0)] rfl rfl (List.append_nil _) rfl ?_
    refine k_if_eqN hC 18 dX4_left_6 (by decide) (by omega) (fun d1 => ?_) (fun d1 => ?_)
    · refine k_iconst hC (nI 0) dX4_left_18 rfl ?_
      exact k_iret hC hE (Nat.le_of_ble_eq_true rfl) (Nat.le_of_ble_eq_true rfl) dX4_left_19 (by rw [show oGet σ p9 (fun τ => nI (τ.1 10)) = (1, nI 0, σ) by simp only [oGet, if_neg hm]]; exact ⟨_, G, _, rfl, List.append_nil _, rfl, fun q => absurd q (Nat.succ_ne_zero _), mRep_S hR (fun j hj => by simp only [va_up_ne _ _ hj])⟩)
    · exact absurd (by decide) d1
abbrev rmX4_run : Room := { frames := 1, cells := 0, slots := 0, locals := 23 }
set_option maxRecDepth 100000 in
set_option maxHeartbeats 4000000 in
theorem cX4_run_k (l : Launch) (K : kE) (y : Nat) (b : Nat → Nat) (S : Nat → Int32) (G : Nat → Nat → Int32) (σ : mS) (hσ : mSok σ) (hR : mRep σ S G) (p9 : Int32) : kM l yX4_run (kws yX4_run cX4_run 2 (some .int)) rmX4_run K [.ref y, .int p9] (wM K y b S G) (mPo K y b (oGet σ p9 (fun τ => nI (τ.1 11)))) := by
  refine kM_of (pl := []) (X := (wM K y b S G)) rfl (by decide) (Nat.le_of_ble_eq_true rfl) ?_
  intro p e s m args below meth cd A Q hC hnm hE
  have hn6 := hσ.1
  refine k_aload_n hC 0 dX4_run_0 rfl rfl ?_
  refine k_iload_n hC 1 dX4_run_1 rfl rfl ?_
  refine k_iconst hC (nI 0) dX4_run_2 rfl ?_
  refine k_callV hC (As := [.int p9, .int (nI 0)]) (cX4_asks_k l K y b S G p9 (nI 0)) [] (List.append_nil _).symm 0 rfl rfl (kAll5 lkM_X4_92 lkI_yX4_asks lkS_yX4_asks lkN_X4 lkC_yX4_asks) 2 (by decide) ⟨(Nat.le_of_ble_eq_true rfl), (Nat.le_of_ble_eq_true rfl)⟩ rfl rfl (Nat.le_of_ble_eq_true rfl) ⟨(Nat.le_of_ble_eq_true rfl), (Nat.le_of_ble_eq_true rfl)⟩ dX4_run_3 (fun v w h => ?_)
  obtain ⟨rfl, rfl⟩ := h
  rw [hR.1]
  by_cases hm : mHas σ 0 p9
  · rw [if_pos hm, if_pos hm]
    refine k_re 0 0 (wM K y b (va_up S 0 (nI 0)) G) [.int (nI 1)] rfl rfl (List.append_nil _) rfl ?_
    obtain ⟨k, hk1, hk, rfl⟩ := mHas_ex hσ.1 (by decide) hm
    have hk31 : k < 2 ^ 31 := by omega
    have hk6 : k < 6 := by omega
    have hi := hσ.2 k hk
    have hn := hi.1.1
    have hl0 := mInv_L0 hi.1
    have hl1 := mInv_L1 hi.1
    have hl2 := mInv_L2 hi.1
    have h89 : (σ.2.2.2 k).1 9 ≤ 9 := by have := hi.1.2.1; omega
    obtain ⟨q9, q10, q11, q12, q13, q14, q15, q16, q17, q18, q19, q20, qr0, qr1, qr2⟩ := id (hR.2.2.2.2.1 k hk)
    refine k_if_eqN hC 18 dX4_run_6 (by decide) (by omega) (fun d1 => ?_) (fun d1 => ?_)
    · exact absurd d1 (by decide)
    · refine k_aload_n hC 0 dX4_run_9 rfl rfl ?_
      refine k_get hC inlX4 0 16 rfl rfl (by decide) lkF_X4_32 rfl dX4_run_10 ?_
      refine k_iload_n hC 1 dX4_run_13 rfl rfl ?_
      refine k_ald hC 8 rfl (by omega) (by decide) dX4_run_14 ?_
      refine k_topE (nI ((σ.2.2.2 k).1 11)) q16 ?_
      refine k_goto hC 19 dX4_run_15 (by decide) ?_
      exact k_iret hC hE (Nat.le_of_ble_eq_true rfl) (Nat.le_of_ble_eq_true rfl) dX4_run_19 (by rw [show oGet σ (nI k) (fun τ => nI (τ.1 11)) = (0, (fun τ => nI (τ.1 11)) (σ.2.2.2 k), σ) by simp only [oGet, oT, mIx_nI hk31, if_pos hm]]; exact ⟨_, G, _, rfl, List.append_nil _, rfl, fun _ => rfl, mRep_S hR (fun j hj => by simp only [va_up_ne _ _ hj])⟩)
  · rw [if_neg hm, if_neg hm]
    refine k_re 0 0 (wM K y b (va_up S 0 (nI 1)) G) [.int (nI 0)] rfl rfl (List.append_nil _) rfl ?_
    refine k_if_eqN hC 18 dX4_run_6 (by decide) (by omega) (fun d1 => ?_) (fun d1 => ?_)
    · refine k_iconst hC (nI 0) dX4_run_18 rfl ?_
      exact k_iret hC hE (Nat.le_of_ble_eq_true rfl) (Nat.le_of_ble_eq_true rfl) dX4_run_19 (by rw [show oGet σ p9 (fun τ => nI (τ.1 11)) = (1, nI 0, σ) by simp only [oGet, if_neg hm]]; exact ⟨_, G, _, rfl, List.append_nil _, rfl, fun q => absurd q (Nat.succ_ne_zero _), mRep_S hR (fun j hj => by simp only [va_up_ne _ _ hj])⟩)
    · exact absurd (by decide) d1
abbrev rmX4_market : Room := { frames := 1, cells := 0, slots := 0, locals := 23 }
set_option maxRecDepth 100000 in
set_option maxHeartbeats 4000000 in
theorem cX4_market_k (l : Launch) (K : kE) (y : Nat) (b : Nat → Nat) (S : Nat → Int32) (G : Nat → Nat → Int32) (σ : mS) (hσ : mSok σ) (hR : mRep σ S G) (p9 : Int32) : kM l yX4_market (kws yX4_market cX4_market 2 (some .int)) rmX4_market K [.ref y, .int p9] (wM K y b S G) (mPo K y b (oGet σ p9 (fun τ => nI (mU (τ.2.2 0))))) := by
  refine kM_of (pl := []) (X := (wM K y b S G)) rfl (by decide) (Nat.le_of_ble_eq_true rfl) ?_
  intro p e s m args below meth cd A Q hC hnm hE
  have hn6 := hσ.1
  refine k_aload_n hC 0 dX4_market_0 rfl rfl ?_
  refine k_iload_n hC 1 dX4_market_1 rfl rfl ?_
  refine k_iconst hC (nI 0) dX4_market_2 rfl ?_
  refine k_callV hC (As := [.int p9, .int (nI 0)]) (cX4_asks_k l K y b S G p9 (nI 0)) [] (List.append_nil _).symm 0 rfl rfl (kAll5 lkM_X4_92 lkI_yX4_asks lkS_yX4_asks lkN_X4 lkC_yX4_asks) 2 (by decide) ⟨(Nat.le_of_ble_eq_true rfl), (Nat.le_of_ble_eq_true rfl)⟩ rfl rfl (Nat.le_of_ble_eq_true rfl) ⟨(Nat.le_of_ble_eq_true rfl), (Nat.le_of_ble_eq_true rfl)⟩ dX4_market_3 (fun v w h => ?_)
  obtain ⟨rfl, rfl⟩ := h
  rw [hR.1]
  by_cases hm : mHas σ 0 p9
  · rw [if_pos hm, if_pos hm]
    refine k_re 0 0 (wM K y b (va_up S 0 (nI 0)) G) [.int (nI 1)] rfl rfl (List.append_nil _) rfl ?_
    obtain ⟨k, hk1, hk, rfl⟩ := mHas_ex hσ.1 (by decide) hm
    have hk31 : k < 2 ^ 31 := by omega
    have hk6 : k < 6 := by omega
    have hi := hσ.2 k hk
    have hn := hi.1.1
    have hl0 := mInv_L0 hi.1
    have hl1 := mInv_L1 hi.1
    have hl2 := mInv_L2 hi.1
    have h89 : (σ.2.2.2 k).1 9 ≤ 9 := by have := hi.1.2.1; omega
    obtain ⟨q9, q10, q11, q12, q13, q14, q15, q16, q17, q18, q19, q20, qr0, qr1, qr2⟩ := id (hR.2.2.2.2.1 k hk)
    refine k_if_eqN hC 17 dX4_market_6 (by decide) (by omega) (fun d1 => ?_) (fun d1 => ?_)
    · exact absurd d1 (by decide)
    · refine k_aload_n hC 0 dX4_market_9 rfl rfl ?_
      refine k_iload_n hC 1 dX4_market_10 rfl rfl ?_
      refine k_callV hC (As := [.int (nI k)]) (cX4_marketOf_k l K y b (va_up S 0 (nI 0)) G k ((σ.2.2.2 k).2.2 0) hk6 qr0 (by omega)) [] (List.append_nil _).symm 0 rfl rfl (kAll5 lkM_X4_126 lkI_yX4_marketOf lkS_yX4_marketOf lkN_X4 lkC_yX4_marketOf) 1 (by decide) ⟨(Nat.le_of_ble_eq_true rfl), (Nat.le_of_ble_eq_true rfl)⟩ rfl rfl (Nat.le_of_ble_eq_true rfl) ⟨(Nat.le_of_ble_eq_true rfl), (Nat.le_of_ble_eq_true rfl)⟩ dX4_market_11 (fun v w h => ?_)
      obtain ⟨rfl, rfl⟩ := h
      refine k_re 0 0 (wM K y b (va_up S 0 (nI 0)) G) [.int (nI (mU ((σ.2.2.2 k).2.2 0)))] rfl rfl (List.append_nil _) rfl ?_
      refine k_goto hC 18 dX4_market_14 (by decide) ?_
      exact k_iret hC hE (Nat.le_of_ble_eq_true rfl) (Nat.le_of_ble_eq_true rfl) dX4_market_18 (by rw [show oGet σ (nI k) (fun τ => nI (mU (τ.2.2 0))) = (0, (fun τ => nI (mU (τ.2.2 0))) (σ.2.2.2 k), σ) by simp only [oGet, oT, mIx_nI hk31, if_pos hm]]; exact ⟨_, G, _, rfl, List.append_nil _, rfl, fun _ => rfl, mRep_S hR (fun j hj => by simp only [va_up_ne _ _ hj])⟩)
  · rw [if_neg hm, if_neg hm]
    refine k_re 0 0 (wM K y b (va_up S 0 (nI 1)) G) [.int (nI 0)] rfl rfl (List.append_nil _) rfl ?_
    refine k_if_eqN hC 17 dX4_market_6 (by decide) (by omega) (fun d1 => ?_) (fun d1 => ?_)
    · refine k_iconst hC (nI 0) dX4_market_17 rfl ?_
      exact k_iret hC hE (Nat.le_of_ble_eq_true rfl) (Nat.le_of_ble_eq_true rfl) dX4_market_18 (by rw [show oGet σ p9 (fun τ => nI (mU (τ.2.2 0))) = (1, nI 0, σ) by simp only [oGet, if_neg hm]]; exact ⟨_, G, _, rfl, List.append_nil _, rfl, fun q => absurd q (Nat.succ_ne_zero _), mRep_S hR (fun j hj => by simp only [va_up_ne _ _ hj])⟩)
    · exact absurd (by decide) d1
abbrev rmX4_inbox : Room := { frames := 1, cells := 0, slots := 0, locals := 23 }
set_option maxRecDepth 100000 in
set_option maxHeartbeats 4000000 in
theorem cX4_inbox_k (l : Launch) (K : kE) (y : Nat) (b : Nat → Nat) (S : Nat → Int32) (G : Nat → Nat → Int32) (σ : mS) (hσ : mSok σ) (hR : mRep σ S G) (p9 : Int32) : kM l yX4_inbox (kws yX4_inbox cX4_inbox 2 (some .int)) rmX4_inbox K [.ref y, .int p9] (wM K y b S G) (mPo K y b (oGet σ p9 (fun τ => nI (mU (τ.2.2 1))))) := by
  refine kM_of (pl := []) (X := (wM K y b S G)) rfl (by decide) (Nat.le_of_ble_eq_true rfl) ?_
  intro p e s m args below meth cd A Q hC hnm hE
  have hn6 := hσ.1
  refine k_aload_n hC 0 dX4_inbox_0 rfl rfl ?_
  refine k_iload_n hC 1 dX4_inbox_1 rfl rfl ?_
  refine k_iconst hC (nI 0) dX4_inbox_2 rfl ?_
  refine k_callV hC (As := [.int p9, .int (nI 0)]) (cX4_asks_k l K y b S G p9 (nI 0)) [] (List.append_nil _).symm 0 rfl rfl (kAll5 lkM_X4_92 lkI_yX4_asks lkS_yX4_asks lkN_X4 lkC_yX4_asks) 2 (by decide) ⟨(Nat.le_of_ble_eq_true rfl), (Nat.le_of_ble_eq_true rfl)⟩ rfl rfl (Nat.le_of_ble_eq_true rfl) ⟨(Nat.le_of_ble_eq_true rfl), (Nat.le_of_ble_eq_true rfl)⟩ dX4_inbox_3 (fun v w h => ?_)
  obtain ⟨rfl, rfl⟩ := h
  rw [hR.1]
  by_cases hm : mHas σ 0 p9
  · rw [if_pos hm, if_pos hm]
    refine k_re 0 0 (wM K y b (va_up S 0 (nI 0)) G) [.int (nI 1)] rfl rfl (List.append_nil _) rfl ?_
    obtain ⟨k, hk1, hk, rfl⟩ := mHas_ex hσ.1 (by decide) hm
    have hk31 : k < 2 ^ 31 := by omega
    have hk6 : k < 6 := by omega
    have hi := hσ.2 k hk
    have hn := hi.1.1
    have hl0 := mInv_L0 hi.1
    have hl1 := mInv_L1 hi.1
    have hl2 := mInv_L2 hi.1
    have h89 : (σ.2.2.2 k).1 9 ≤ 9 := by have := hi.1.2.1; omega
    obtain ⟨q9, q10, q11, q12, q13, q14, q15, q16, q17, q18, q19, q20, qr0, qr1, qr2⟩ := id (hR.2.2.2.2.1 k hk)
    refine k_if_eqN hC 17 dX4_inbox_6 (by decide) (by omega) (fun d1 => ?_) (fun d1 => ?_)
    · exact absurd d1 (by decide)
    · refine k_aload_n hC 0 dX4_inbox_9 rfl rfl ?_
      refine k_iload_n hC 1 dX4_inbox_10 rfl rfl ?_
      refine k_callV hC (As := [.int (nI k)]) (cX4_inboxOf_k l K y b (va_up S 0 (nI 0)) G k ((σ.2.2.2 k).2.2 1) hk6 qr1 (by omega)) [] (List.append_nil _).symm 0 rfl rfl (kAll5 lkM_X4_107 lkI_yX4_inboxOf lkS_yX4_inboxOf lkN_X4 lkC_yX4_inboxOf) 1 (by decide) ⟨(Nat.le_of_ble_eq_true rfl), (Nat.le_of_ble_eq_true rfl)⟩ rfl rfl (Nat.le_of_ble_eq_true rfl) ⟨(Nat.le_of_ble_eq_true rfl), (Nat.le_of_ble_eq_true rfl)⟩ dX4_inbox_11 (fun v w h => ?_)
      obtain ⟨rfl, rfl⟩ := h
      refine k_re 0 0 (wM K y b (va_up S 0 (nI 0)) G) [.int (nI (mU ((σ.2.2.2 k).2.2 1)))] rfl rfl (List.append_nil _) rfl ?_
      refine k_goto hC 18 dX4_inbox_14 (by decide) ?_
      exact k_iret hC hE (Nat.le_of_ble_eq_true rfl) (Nat.le_of_ble_eq_true rfl) dX4_inbox_18 (by rw [show oGet σ (nI k) (fun τ => nI (mU (τ.2.2 1))) = (0, (fun τ => nI (mU (τ.2.2 1))) (σ.2.2.2 k), σ) by simp only [oGet, oT, mIx_nI hk31, if_pos hm]]; exact ⟨_, G, _, rfl, List.append_nil _, rfl, fun _ => rfl, mRep_S hR (fun j hj => by simp only [va_up_ne _ _ hj])⟩)
  · rw [if_neg hm, if_neg hm]
    refine k_re 0 0 (wM K y b (va_up S 0 (nI 1)) G) [.int (nI 0)] rfl rfl (List.append_nil _) rfl ?_
    refine k_if_eqN hC 17 dX4_inbox_6 (by decide) (by omega) (fun d1 => ?_) (fun d1 => ?_)
    · refine k_iconst hC (nI 0) dX4_inbox_17 rfl ?_
      exact k_iret hC hE (Nat.le_of_ble_eq_true rfl) (Nat.le_of_ble_eq_true rfl) dX4_inbox_18 (by rw [show oGet σ p9 (fun τ => nI (mU (τ.2.2 1))) = (1, nI 0, σ) by simp only [oGet, if_neg hm]]; exact ⟨_, G, _, rfl, List.append_nil _, rfl, fun q => absurd q (Nat.succ_ne_zero _), mRep_S hR (fun j hj => by simp only [va_up_ne _ _ hj])⟩)
    · exact absurd (by decide) d1
abbrev rmX4_waiting : Room := { frames := 1, cells := 0, slots := 0, locals := 23 }
set_option maxRecDepth 100000 in
set_option maxHeartbeats 4000000 in
theorem cX4_waiting_k (l : Launch) (K : kE) (y : Nat) (b : Nat → Nat) (S : Nat → Int32) (G : Nat → Nat → Int32) (σ : mS) (hσ : mSok σ) (hR : mRep σ S G) (p9 : Int32) : kM l yX4_waiting (kws yX4_waiting cX4_waiting 2 (some .int)) rmX4_waiting K [.ref y, .int p9] (wM K y b S G) (mPo K y b (oGet σ p9 (fun τ => nI (τ.1 14)))) := by
  refine kM_of (pl := []) (X := (wM K y b S G)) rfl (by decide) (Nat.le_of_ble_eq_true rfl) ?_
  intro p e s m args below meth cd A Q hC hnm hE
  have hn6 := hσ.1
  refine k_aload_n hC 0 dX4_waiting_0 rfl rfl ?_
  refine k_iload_n hC 1 dX4_waiting_1 rfl rfl ?_
  refine k_iconst hC (nI 0) dX4_waiting_2 rfl ?_
  refine k_callV hC (As := [.int p9, .int (nI 0)]) (cX4_asks_k l K y b S G p9 (nI 0)) [] (List.append_nil _).symm 0 rfl rfl (kAll5 lkM_X4_92 lkI_yX4_asks lkS_yX4_asks lkN_X4 lkC_yX4_asks) 2 (by decide) ⟨(Nat.le_of_ble_eq_true rfl), (Nat.le_of_ble_eq_true rfl)⟩ rfl rfl (Nat.le_of_ble_eq_true rfl) ⟨(Nat.le_of_ble_eq_true rfl), (Nat.le_of_ble_eq_true rfl)⟩ dX4_waiting_3 (fun v w h => ?_)
  obtain ⟨rfl, rfl⟩ := h
  rw [hR.1]
  by_cases hm : mHas σ 0 p9
  · rw [if_pos hm, if_pos hm]
    refine k_re 0 0 (wM K y b (va_up S 0 (nI 0)) G) [.int (nI 1)] rfl rfl (List.append_nil _) rfl ?_
    obtain ⟨k, hk1, hk, rfl⟩ := mHas_ex hσ.1 (by decide) hm
    have hk31 : k < 2 ^ 31 := by omega
    have hk6 : k < 6 := by omega
    have hi := hσ.2 k hk
    have hn := hi.1.1
    have hl0 := mInv_L0 hi.1
    have hl1 := mInv_L1 hi.1
    have hl2 := mInv_L2 hi.1
    have h89 : (σ.2.2.2 k).1 9 ≤ 9 := by have := hi.1.2.1; omega
    obtain ⟨q9, q10, q11, q12, q13, q14, q15, q16, q17, q18, q19, q20, qr0, qr1, qr2⟩ := id (hR.2.2.2.2.1 k hk)
    refine k_if_eqN hC 18 dX4_waiting_6 (by decide) (by omega) (fun d1 => ?_) (fun d1 => ?_)
    · exact absurd d1 (by decide)
    · refine k_aload_n hC 0 dX4_waiting_9 rfl rfl ?_
      refine k_get hC inlX4 0 20 rfl rfl (by decide) lkF_X4_44 rfl dX4_waiting_10 ?_
      refine k_iload_n hC 1 dX4_waiting_13 rfl rfl ?_
      refine k_ald hC 12 rfl (by omega) (by decide) dX4_waiting_14 ?_
      refine k_topE (nI ((σ.2.2.2 k).1 14)) q20 ?_
      refine k_goto hC 19 dX4_waiting_15 (by decide) ?_
      exact k_iret hC hE (Nat.le_of_ble_eq_true rfl) (Nat.le_of_ble_eq_true rfl) dX4_waiting_19 (by rw [show oGet σ (nI k) (fun τ => nI (τ.1 14)) = (0, (fun τ => nI (τ.1 14)) (σ.2.2.2 k), σ) by simp only [oGet, oT, mIx_nI hk31, if_pos hm]]; exact ⟨_, G, _, rfl, List.append_nil _, rfl, fun _ => rfl, mRep_S hR (fun j hj => by simp only [va_up_ne _ _ hj])⟩)
  · rw [if_neg hm, if_neg hm]
    refine k_re 0 0 (wM K y b (va_up S 0 (nI 1)) G) [.int (nI 0)] rfl rfl (List.append_nil _) rfl ?_
    refine k_if_eqN hC 18 dX4_waiting_6 (by decide) (by omega) (fun d1 => ?_) (fun d1 => ?_)
    · refine k_iconst hC (nI 0) dX4_waiting_18 rfl ?_
      exact k_iret hC hE (Nat.le_of_ble_eq_true rfl) (Nat.le_of_ble_eq_true rfl) dX4_waiting_19 (by rw [show oGet σ p9 (fun τ => nI (τ.1 14)) = (1, nI 0, σ) by simp only [oGet, if_neg hm]]; exact ⟨_, G, _, rfl, List.append_nil _, rfl, fun q => absurd q (Nat.succ_ne_zero _), mRep_S hR (fun j hj => by simp only [va_up_ne _ _ hj])⟩)
    · exact absurd (by decide) d1
abbrev rmX4_travelling : Room := { frames := 1, cells := 0, slots := 0, locals := 23 }
set_option maxRecDepth 100000 in
set_option maxHeartbeats 4000000 in
theorem cX4_travelling_k (l : Launch) (K : kE) (y : Nat) (b : Nat → Nat) (S : Nat → Int32) (G : Nat → Nat → Int32) (σ : mS) (hσ : mSok σ) (hR : mRep σ S G) (p9 : Int32) : kM l yX4_travelling (kws yX4_travelling cX4_travelling 2 (some .int)) rmX4_travelling K [.ref y, .int p9] (wM K y b S G) (mPo K y b (oGet σ p9 (fun τ => nI (τ.2.2 2).length))) := by
  refine kM_of (pl := []) (X := (wM K y b S G)) rfl (by decide) (Nat.le_of_ble_eq_true rfl) ?_
  intro p e s m args below meth cd A Q hC hnm hE
  have hn6 := hσ.1
  refine k_aload_n hC 0 dX4_travelling_0 rfl rfl ?_
  refine k_iload_n hC 1 dX4_travelling_1 rfl rfl ?_
  refine k_iconst hC (nI 0) dX4_travelling_2 rfl ?_
  refine k_callV hC (As := [.int p9, .int (nI 0)]) (cX4_asks_k l K y b S G p9 (nI 0)) [] (List.append_nil _).symm 0 rfl rfl (kAll5 lkM_X4_92 lkI_yX4_asks lkS_yX4_asks lkN_X4 lkC_yX4_asks) 2 (by decide) ⟨(Nat.le_of_ble_eq_true rfl), (Nat.le_of_ble_eq_true rfl)⟩ rfl rfl (Nat.le_of_ble_eq_true rfl) ⟨(Nat.le_of_ble_eq_true rfl), (Nat.le_of_ble_eq_true rfl)⟩ dX4_travelling_3 (fun v w h => ?_)
  obtain ⟨rfl, rfl⟩ := h
  rw [hR.1]
  by_cases hm : mHas σ 0 p9
  · rw [if_pos hm, if_pos hm]
    refine k_re 0 0 (wM K y b (va_up S 0 (nI 0)) G) [.int (nI 1)] rfl rfl (List.append_nil _) rfl ?_
    obtain ⟨k, hk1, hk, rfl⟩ := mHas_ex hσ.1 (by decide) hm
    have hk31 : k < 2 ^ 31 := by omega
    have hk6 : k < 6 := by omega
    have hi := hσ.2 k hk
    have hn := hi.1.1
    have hl0 := mInv_L0 hi.1
    have hl1 := mInv_L1 hi.1
    have hl2 := mInv_L2 hi.1
    have h89 : (σ.2.2.2 k).1 9 ≤ 9 := by have := hi.1.2.1; omega
    obtain ⟨q9, q10, q11, q12, q13, q14, q15, q16, q17, q18, q19, q20, qr0, qr1, qr2⟩ := id (hR.2.2.2.2.1 k hk)
    refine k_if_eqN hC 18 dX4_travelling_6 (by decide) (by omega) (fun d1 => ?_) (fun d1 => ?_)
    · exact absurd d1 (by decide)
    · refine k_aload_n hC 0 dX4_travelling_9 rfl rfl ?_
      refine k_get hC inlX4 0 29 rfl rfl (by decide) lkF_X4_71 rfl dX4_travelling_10 ?_
      refine k_iload_n hC 1 dX4_travelling_13 rfl rfl ?_
      refine k_ald hC 21 rfl (by omega) (by decide) dX4_travelling_14 ?_
      refine k_topE (nI (((σ.2.2.2 k).2.2 2).length)) qr2.1 ?_
      refine k_goto hC 19 dX4_travelling_15 (by decide) ?_
      exact k_iret hC hE (Nat.le_of_ble_eq_true rfl) (Nat.le_of_ble_eq_true rfl) dX4_travelling_19 (by rw [show oGet σ (nI k) (fun τ => nI (τ.2.2 2).length) = (0, (fun τ => nI (τ.2.2 2).length) (σ.2.2.2 k), σ) by simp only [oGet, oT, mIx_nI hk31, if_pos hm]]; exact ⟨_, G, _, rfl, List.append_nil _, rfl, fun _ => rfl, mRep_S hR (fun j hj => by simp only [va_up_ne _ _ hj])⟩)
  · rw [if_neg hm, if_neg hm]
    refine k_re 0 0 (wM K y b (va_up S 0 (nI 1)) G) [.int (nI 0)] rfl rfl (List.append_nil _) rfl ?_
    refine k_if_eqN hC 18 dX4_travelling_6 (by decide) (by omega) (fun d1 => ?_) (fun d1 => ?_)
    · refine k_iconst hC (nI 0) dX4_travelling_18 rfl ?_
      exact k_iret hC hE (Nat.le_of_ble_eq_true rfl) (Nat.le_of_ble_eq_true rfl) dX4_travelling_19 (by rw [show oGet σ p9 (fun τ => nI (τ.2.2 2).length) = (1, nI 0, σ) by simp only [oGet, if_neg hm]]; exact ⟨_, G, _, rfl, List.append_nil _, rfl, fun q => absurd q (Nat.succ_ne_zero _), mRep_S hR (fun j hj => by simp only [va_up_ne _ _ hj])⟩)
    · exact absurd (by decide) d1
abbrev rmX4_firstUnits : Room := { frames := 1, cells := 0, slots := 0, locals := 23 }
set_option maxRecDepth 100000 in
set_option maxHeartbeats 4000000 in
theorem cX4_firstUnits_k (l : Launch) (K : kE) (y : Nat) (b : Nat → Nat) (S : Nat → Int32) (G : Nat → Nat → Int32) (σ : mS) (hσ : mSok σ) (hR : mRep σ S G) (p9 : Int32) : kM l yX4_firstUnits (kws yX4_firstUnits cX4_firstUnits 2 (some .int)) rmX4_firstUnits K [.ref y, .int p9] (wM K y b S G) (mPo K y b (oGet σ p9 (fun τ => nI (mg (τ.2.2 0) 0).1))) := by
  refine kM_of (pl := []) (X := (wM K y b S G)) rfl (by decide) (Nat.le_of_ble_eq_true rfl) ?_
  intro p e s m args below meth cd A Q hC hnm hE
  have hn6 := hσ.1
  refine k_aload_n hC 0 dX4_firstUnits_0 rfl rfl ?_
  refine k_iload_n hC 1 dX4_firstUnits_1 rfl rfl ?_
  refine k_iconst hC (nI 0) dX4_firstUnits_2 rfl ?_
  refine k_callV hC (As := [.int p9, .int (nI 0)]) (cX4_asks_k l K y b S G p9 (nI 0)) [] (List.append_nil _).symm 0 rfl rfl (kAll5 lkM_X4_92 lkI_yX4_asks lkS_yX4_asks lkN_X4 lkC_yX4_asks) 2 (by decide) ⟨(Nat.le_of_ble_eq_true rfl), (Nat.le_of_ble_eq_true rfl)⟩ rfl rfl (Nat.le_of_ble_eq_true rfl) ⟨(Nat.le_of_ble_eq_true rfl), (Nat.le_of_ble_eq_true rfl)⟩ dX4_firstUnits_3 (fun v w h => ?_)
  obtain ⟨rfl, rfl⟩ := h
  rw [hR.1]
  by_cases hm : mHas σ 0 p9
  · rw [if_pos hm, if_pos hm]
    refine k_re 0 0 (wM K y b (va_up S 0 (nI 0)) G) [.int (nI 1)] rfl rfl (List.append_nil _) rfl ?_
    obtain ⟨k, hk1, hk, rfl⟩ := mHas_ex hσ.1 (by decide) hm
    have hk31 : k < 2 ^ 31 := by omega
    have hk6 : k < 6 := by omega
    have hi := hσ.2 k hk
    have hn := hi.1.1
    have hl0 := mInv_L0 hi.1
    have hl1 := mInv_L1 hi.1
    have hl2 := mInv_L2 hi.1
    have h89 : (σ.2.2.2 k).1 9 ≤ 9 := by have := hi.1.2.1; omega
    obtain ⟨q9, q10, q11, q12, q13, q14, q15, q16, q17, q18, q19, q20, qr0, qr1, qr2⟩ := id (hR.2.2.2.2.1 k hk)
    refine k_if_eqN hC 30 dX4_firstUnits_6 (by decide) (by omega) (fun d1 => ?_) (fun d1 => ?_)
    · exact absurd d1 (by decide)
    · refine k_aload_n hC 0 dX4_firstUnits_9 rfl rfl ?_
      refine k_get hC inlX4 0 23 rfl rfl (by decide) lkF_X4_53 rfl dX4_firstUnits_10 ?_
      refine k_iload_n hC 1 dX4_firstUnits_13 rfl rfl ?_
      refine k_ald hC 15 rfl (by omega) (by decide) dX4_firstUnits_14 ?_
      refine k_topE (nI (((σ.2.2.2 k).2.2 0).length)) qr0.1 ?_
      refine k_if_leN hC 30 dX4_firstUnits_15 (by decide) (by omega) (fun c1 => ?_) (fun c1 => ?_)
      · refine k_iconst hC (nI 0) dX4_firstUnits_30 rfl ?_
        refine k_topE (nI (mg ((σ.2.2.2 k).2.2 0) 0).1) (by rw [List.eq_nil_of_length_eq_zero (by omega : ((σ.2.2.2 k).2.2 0).length = 0)]; rfl) ?_
        exact k_iret hC hE (Nat.le_of_ble_eq_true rfl) (Nat.le_of_ble_eq_true rfl) dX4_firstUnits_31 (by rw [show oGet σ (nI k) (fun τ => nI (mg (τ.2.2 0) 0).1) = (0, (fun τ => nI (mg (τ.2.2 0) 0).1) (σ.2.2.2 k), σ) by simp only [oGet, oT, mIx_nI hk31, if_pos hm]]; exact ⟨_, G, _, rfl, List.append_nil _, rfl, fun _ => rfl, mRep_S hR (fun j hj => by simp only [va_up_ne _ _ hj])⟩)
      · refine k_aload_n hC 0 dX4_firstUnits_18 rfl rfl ?_
        refine k_get hC inlX4 0 21 rfl rfl (by decide) lkF_X4_47 rfl dX4_firstUnits_19 ?_
        refine k_bipush hC (nI 16) dX4_firstUnits_22 rfl ?_
        refine k_iload_n hC 1 dX4_firstUnits_24 rfl rfl ?_
        refine k_imulN hC dX4_firstUnits_25 ?_
        refine k_ald hC 13 rfl (by omega) (by decide) dX4_firstUnits_26 ?_
        refine k_topE (nI ((mg ((σ.2.2.2 k).2.2 0) 0).1)) (qr0.2 0 (by omega)).1 ?_
        refine k_goto hC 31 dX4_firstUnits_27 (by decide) ?_
        exact k_iret hC hE (Nat.le_of_ble_eq_true rfl) (Nat.le_of_ble_eq_true rfl) dX4_firstUnits_31 (by rw [show oGet σ (nI k) (fun τ => nI (mg (τ.2.2 0) 0).1) = (0, (fun τ => nI (mg (τ.2.2 0) 0).1) (σ.2.2.2 k), σ) by simp only [oGet, oT, mIx_nI hk31, if_pos hm]]; exact ⟨_, G, _, rfl, List.append_nil _, rfl, fun _ => rfl, mRep_S hR (fun j hj => by simp only [va_up_ne _ _ hj])⟩)
  · rw [if_neg hm, if_neg hm]
    refine k_re 0 0 (wM K y b (va_up S 0 (nI 1)) G) [.int (nI 0)] rfl rfl (List.append_nil _) rfl ?_
    refine k_if_eqN hC 30 dX4_firstUnits_6 (by decide) (by omega) (fun d1 => ?_) (fun d1 => ?_)
    · refine k_iconst hC (nI 0) dX4_firstUnits_30 rfl ?_
      exact k_iret hC hE (Nat.le_of_ble_eq_true rfl) (Nat.le_of_ble_eq_true rfl) dX4_firstUnits_31 (by rw [show oGet σ p9 (fun τ => nI (mg (τ.2.2 0) 0).1) = (1, nI 0, σ) by simp only [oGet, if_neg hm]]; exact ⟨_, G, _, rfl, List.append_nil _, rfl, fun q => absurd q (Nat.succ_ne_zero _), mRep_S hR (fun j hj => by simp only [va_up_ne _ _ hj])⟩)
    · exact absurd (by decide) d1
abbrev rmX4_starved : Room := { frames := 1, cells := 0, slots := 0, locals := 23 }
set_option maxRecDepth 100000 in
set_option maxHeartbeats 4000000 in
theorem cX4_starved_k (l : Launch) (K : kE) (y : Nat) (b : Nat → Nat) (S : Nat → Int32) (G : Nat → Nat → Int32) (σ : mS) (hσ : mSok σ) (hR : mRep σ S G) (p9 : Int32) : kM l yX4_starved (kws yX4_starved cX4_starved 2 (some .int)) rmX4_starved K [.ref y, .int p9] (wM K y b S G) (mPo K y b (oGet σ p9 (fun τ => τ.2.1 0))) := by
  refine kM_of (pl := []) (X := (wM K y b S G)) rfl (by decide) (Nat.le_of_ble_eq_true rfl) ?_
  intro p e s m args below meth cd A Q hC hnm hE
  have hn6 := hσ.1
  refine k_aload_n hC 0 dX4_starved_0 rfl rfl ?_
  refine k_iload_n hC 1 dX4_starved_1 rfl rfl ?_
  refine k_iconst hC (nI 0) dX4_starved_2 rfl ?_
  refine k_callV hC (As := [.int p9, .int (nI 0)]) (cX4_asks_k l K y b S G p9 (nI 0)) [] (List.append_nil _).symm 0 rfl rfl (kAll5 lkM_X4_92 lkI_yX4_asks lkS_yX4_asks lkN_X4 lkC_yX4_asks) 2 (by decide) ⟨(Nat.le_of_ble_eq_true rfl), (Nat.le_of_ble_eq_true rfl)⟩ rfl rfl (Nat.le_of_ble_eq_true rfl) ⟨(Nat.le_of_ble_eq_true rfl), (Nat.le_of_ble_eq_true rfl)⟩ dX4_starved_3 (fun v w h => ?_)
  obtain ⟨rfl, rfl⟩ := h
  rw [hR.1]
  by_cases hm : mHas σ 0 p9
  · rw [if_pos hm, if_pos hm]
    refine k_re 0 0 (wM K y b (va_up S 0 (nI 0)) G) [.int (nI 1)] rfl rfl (List.append_nil _) rfl ?_
    obtain ⟨k, hk1, hk, rfl⟩ := mHas_ex hσ.1 (by decide) hm
    have hk31 : k < 2 ^ 31 := by omega
    have hk6 : k < 6 := by omega
    have hi := hσ.2 k hk
    have hn := hi.1.1
    have hl0 := mInv_L0 hi.1
    have hl1 := mInv_L1 hi.1
    have hl2 := mInv_L2 hi.1
    have h89 : (σ.2.2.2 k).1 9 ≤ 9 := by have := hi.1.2.1; omega
    obtain ⟨q9, q10, q11, q12, q13, q14, q15, q16, q17, q18, q19, q20, qr0, qr1, qr2⟩ := id (hR.2.2.2.2.1 k hk)
    refine k_if_eqN hC 18 dX4_starved_6 (by decide) (by omega) (fun d1 => ?_) (fun d1 => ?_)
    · exact absurd d1 (by decide)
    · refine k_aload_n hC 0 dX4_starved_9 rfl rfl ?_
      refine k_get hC inlX4 0 17 rfl rfl (by decide) lkF_X4_35 rfl dX4_starved_10 ?_
      refine k_iload_n hC 1 dX4_starved_13 rfl rfl ?_
      refine k_ald hC 9 rfl (by omega) (by decide) dX4_starved_14 ?_
      refine k_topE ((σ.2.2.2 k).2.1 0) q17 ?_
      refine k_goto hC 19 dX4_starved_15 (by decide) ?_
      exact k_iret hC hE (Nat.le_of_ble_eq_true rfl) (Nat.le_of_ble_eq_true rfl) dX4_starved_19 (by rw [show oGet σ (nI k) (fun τ => τ.2.1 0) = (0, (fun τ => τ.2.1 0) (σ.2.2.2 k), σ) by simp only [oGet, oT, mIx_nI hk31, if_pos hm]]; exact ⟨_, G, _, rfl, List.append_nil _, rfl, fun _ => rfl, mRep_S hR (fun j hj => by simp only [va_up_ne _ _ hj])⟩)
  · rw [if_neg hm, if_neg hm]
    refine k_re 0 0 (wM K y b (va_up S 0 (nI 1)) G) [.int (nI 0)] rfl rfl (List.append_nil _) rfl ?_
    refine k_if_eqN hC 18 dX4_starved_6 (by decide) (by omega) (fun d1 => ?_) (fun d1 => ?_)
    · refine k_iconst hC (nI 0) dX4_starved_18 rfl ?_
      exact k_iret hC hE (Nat.le_of_ble_eq_true rfl) (Nat.le_of_ble_eq_true rfl) dX4_starved_19 (by rw [show oGet σ p9 (fun τ => τ.2.1 0) = (1, nI 0, σ) by simp only [oGet, if_neg hm]]; exact ⟨_, G, _, rfl, List.append_nil _, rfl, fun q => absurd q (Nat.succ_ne_zero _), mRep_S hR (fun j hj => by simp only [va_up_ne _ _ hj])⟩)
    · exact absurd (by decide) d1
abbrev rmX4_attached : Room := { frames := 1, cells := 0, slots := 0, locals := 23 }
set_option maxRecDepth 100000 in
set_option maxHeartbeats 4000000 in
theorem cX4_attached_k (l : Launch) (K : kE) (y : Nat) (b : Nat → Nat) (S : Nat → Int32) (G : Nat → Nat → Int32) (σ : mS) (hσ : mSok σ) (hR : mRep σ S G) (p9 : Int32) : kM l yX4_attached (kws yX4_attached cX4_attached 4 (some .int)) rmX4_attached K [.ref y, .int p9] (wM K y b S G) (mPo K y b (oGet σ p9 (fun τ => nI (mCs (τ.2.2 0))))) := by
  refine kM_of (pl := []) (X := (wM K y b S G)) rfl (by decide) (Nat.le_of_ble_eq_true rfl) ?_
  intro p e s m args below meth cd A Q hC hnm hE
  have hn6 := hσ.1
  refine k_iconst hC (nI 0) dX4_attached_0 rfl ?_
  refine k_istore_n hC 2 dX4_attached_1 rfl (by decide) rfl [(0, .ref y), (1, .int p9), (2, .int (nI 0))] rfl ?_
  refine k_iconst hC (nI 0) dX4_attached_2 rfl ?_
  refine k_istore_n hC 3 dX4_attached_3 rfl (by decide) rfl [(0, .ref y), (1, .int p9), (2, .int (nI 0)), (3, .int (nI 0))] rfl ?_
  have loop : ∀ (n i sm : Nat) (S8 : Nat → Int32), n + i = ((oT σ p9).2.2 0).length + 1 → i ≤ ((oT σ p9).2.2 0).length → sm = mCs (((oT σ p9).2.2 0).take i) → (i = 0 ∨ mHas σ 0 p9) → (∀ j : Nat, j ≠ 0 → S8 j = S j) → kW p l e rmX4_attached s m args below meth cd K A 4 Q 0 0 ([]) (wM K y b S8 G) [(0, .ref y), (1, .int p9), (2, .int (nI sm)), (3, .int (nI i))] 4 [] := by
    intro n
    induction n with
    | zero => intro i sm S8 h1 h2; exact absurd h1 (by omega)
    | succ n ih =>
      intro i sm S8 h1 h2 hs hor hS8
      have hR8 : mRep σ S8 G := mRep_S hR hS8
      refine k_aload_n hC 0 dX4_attached_4 rfl rfl ?_
      refine k_iload_n hC 1 dX4_attached_5 rfl rfl ?_
      refine k_iconst hC (nI 0) dX4_attached_6 rfl ?_
      refine k_callV hC (As := [.int p9, .int (nI 0)]) (cX4_asks_k l K y b S8 G p9 (nI 0)) [] (List.append_nil _).symm 0 rfl rfl (kAll5 lkM_X4_92 lkI_yX4_asks lkS_yX4_asks lkN_X4 lkC_yX4_asks) 2 (by decide) ⟨(Nat.le_of_ble_eq_true rfl), (Nat.le_of_ble_eq_true rfl)⟩ rfl rfl (Nat.le_of_ble_eq_true rfl) ⟨(Nat.le_of_ble_eq_true rfl), (Nat.le_of_ble_eq_true rfl)⟩ dX4_attached_7 (fun v w h => ?_)
      obtain ⟨rfl, rfl⟩ := h
      rw [hR8.1]
      by_cases hm : mHas σ 0 p9
      · rw [if_pos hm, if_pos hm]
        refine k_re 0 0 (wM K y b (va_up S8 0 (nI 0)) G) [.int (nI 1)] rfl rfl (List.append_nil _) rfl ?_
        obtain ⟨k, hk1, hk, rfl⟩ := mHas_ex hσ.1 (by decide) hm
        have hk31 : k < 2 ^ 31 := by omega
        have hk6 : k < 6 := by omega
        have hi := hσ.2 k hk
        have hn := hi.1.1
        have hl0 := mInv_L0 hi.1
        have hl1 := mInv_L1 hi.1
        have hl2 := mInv_L2 hi.1
        have h89 : (σ.2.2.2 k).1 9 ≤ 9 := by have := hi.1.2.1; omega
        obtain ⟨q9, q10, q11, q12, q13, q14, q15, q16, q17, q18, q19, q20, qr0, qr1, qr2⟩ := id (hR.2.2.2.2.1 k hk)
        have eT : oT σ (nI k) = σ.2.2.2 k := by simp only [oT, mIx_nI hk31]
        simp only [eT] at h1 h2 hs ih
        refine k_if_eqN hC 43 dX4_attached_10 (by decide) (by omega) (fun d1 => ?_) (fun d1 => ?_)
        · exact absurd d1 (by decide)
        · refine k_iload_n hC 3 dX4_attached_13 rfl rfl ?_
          refine k_aload_n hC 0 dX4_attached_14 rfl rfl ?_
          refine k_get hC inlX4 0 23 rfl rfl (by decide) lkF_X4_53 rfl dX4_attached_15 ?_
          refine k_iload_n hC 1 dX4_attached_18 rfl rfl ?_
          refine k_ald hC 15 rfl (by omega) (by decide) dX4_attached_19 ?_
          refine k_topE (nI (((σ.2.2.2 k).2.2 0).length)) qr0.1 ?_
          refine k_icmp_geN hC 43 dX4_attached_20 (by decide) (by omega) (by omega) (fun c1 => ?_) (fun c1 => ?_)
          · refine k_iload_n hC 2 dX4_attached_43 rfl rfl ?_
            exact k_iret hC hE (Nat.le_of_ble_eq_true rfl) (Nat.le_of_ble_eq_true rfl) dX4_attached_44 (by rw [show oGet σ (nI k) (fun τ => nI (mCs (τ.2.2 0))) = (0, (fun τ => nI (mCs (τ.2.2 0))) (σ.2.2.2 k), σ) by simp only [oGet, oT, mIx_nI hk31, if_pos hm]]; exact ⟨_, G, _, rfl, List.append_nil _, rfl, fun _ => by rw [hs, show i = ((σ.2.2.2 k).2.2 0).length by omega, List.take_length], mRep_S hR8 (fun j hj => by simp only [va_up_ne _ _ hj])⟩)
          · refine k_iload_n hC 2 dX4_attached_23 rfl rfl ?_
            refine k_aload_n hC 0 dX4_attached_24 rfl rfl ?_
            refine k_get hC inlX4 0 22 rfl rfl (by decide) lkF_X4_50 rfl dX4_attached_25 ?_
            refine k_bipush hC (nI 16) dX4_attached_28 rfl ?_
            refine k_iload_n hC 1 dX4_attached_30 rfl rfl ?_
            refine k_imulN hC dX4_attached_31 ?_
            refine k_iload_n hC 3 dX4_attached_32 rfl rfl ?_
            refine k_iaddN hC dX4_attached_33 ?_
            refine k_ald hC 14 rfl (by omega) (by decide) dX4_attached_34 ?_
            refine k_topE (nI ((mg ((σ.2.2.2 k).2.2 0) i).2)) (qr0.2 i (by omega)).2 ?_
            refine k_iaddN hC dX4_attached_35 ?_
            refine k_istore_n hC 2 dX4_attached_36 rfl (by decide) rfl [(0, .ref y), (1, .int (nI k)), (2, .int (nI (sm + ((mg ((σ.2.2.2 k).2.2 0) i).2)))), (3, .int (nI i))] rfl ?_
            refine k_iinc hC dX4_attached_37 (by decide) rfl rfl (nI (i + 1)) (kinc i 1 rfl) [(0, .ref y), (1, .int (nI k)), (2, .int (nI (sm + ((mg ((σ.2.2.2 k).2.2 0) i).2)))), (3, .int (nI (i + 1)))] rfl ?_
            refine k_goto hC 4 dX4_attached_40 (by decide) ?_
            exact ih (i + 1) _ _ (by omega) (by omega) (by rw [mCs_take (by omega), hs]) (Or.inr hm) (fun j hj => by rw [va_up_ne _ _ hj]; exact hS8 j hj)
      · rw [if_neg hm, if_neg hm]
        refine k_re 0 0 (wM K y b (va_up S8 0 (nI 1)) G) [.int (nI 0)] rfl rfl (List.append_nil _) rfl ?_
        refine k_if_eqN hC 43 dX4_attached_10 (by decide) (by omega) (fun d1 => ?_) (fun d1 => ?_)
        · refine k_iload_n hC 2 dX4_attached_43 rfl rfl ?_
          exact k_iret hC hE (Nat.le_of_ble_eq_true rfl) (Nat.le_of_ble_eq_true rfl) dX4_attached_44 (by rw [show oGet σ p9 (fun τ => nI (mCs (τ.2.2 0))) = (1, nI 0, σ) by simp only [oGet, if_neg hm]]; exact ⟨_, G, _, rfl, List.append_nil _, rfl, fun q => absurd q (Nat.succ_ne_zero _), mRep_S hR8 (fun j hj => by simp only [va_up_ne _ _ hj])⟩)
        · exact absurd (by decide) d1
  exact loop (((oT σ p9).2.2 0).length + 1) 0 0 S (by omega) (by omega) rfl (Or.inl rfl) (fun _ _ => rfl)
abbrev rmX4_time : Room := { frames := 0, cells := 0, slots := 0, locals := 0 }
set_option maxRecDepth 100000 in
set_option maxHeartbeats 4000000 in
theorem cX4_time_k (l : Launch) (K : kE) (y : Nat) (b : Nat → Nat) (S : Nat → Int32) (G : Nat → Nat → Int32) (σ : mS) (hσ : mSok σ) (hR : mRep σ S G) : kM l yX4_time (kws yX4_time cX4_time 1 (some .int)) rmX4_time K [.ref y] (wM K y b S G) (mPo K y b ((0, σ.2.2.1 4, σ))) := by
  refine kM_of (pl := []) (X := (wM K y b S G)) rfl (by decide) (Nat.le_of_ble_eq_true rfl) ?_
  intro p e s m args below meth cd A Q hC hnm hE
  have hn6 := hσ.1
  refine k_aload_n hC 0 dX4_time_0 rfl rfl ?_
  refine k_iconst hC (nI 0) dX4_time_1 rfl ?_
  refine k_put hC inlX4 tyX4_ok nmX4 0 0 rfl rfl (by decide) lkF_X4_74 rfl rfl rfl (Nat.le_of_ble_eq_true rfl) dX4_time_2 (wM K y b (va_up S 0 (nI 0)) G) rfl ?_
  refine k_aload_n hC 0 dX4_time_5 rfl rfl ?_
  refine k_get hC inlX4 0 4 rfl rfl (by decide) lkF_X4_120 rfl dX4_time_6 ?_
  exact k_iret hC hE (Nat.le_of_ble_eq_true rfl) (Nat.le_of_ble_eq_true rfl) dX4_time_9 ⟨_, G, _, rfl, List.append_nil _, rfl, fun _ => hR.2.2.1 4 (by decide) (by decide), mRep_S hR (fun j hj => by simp only [va_up_ne _ _ hj])⟩
abbrev rmX4_taken : Room := { frames := 0, cells := 0, slots := 0, locals := 0 }
set_option maxRecDepth 100000 in
set_option maxHeartbeats 4000000 in
theorem cX4_taken_k (l : Launch) (K : kE) (y : Nat) (b : Nat → Nat) (S : Nat → Int32) (G : Nat → Nat → Int32) (σ : mS) (hσ : mSok σ) (hR : mRep σ S G) : kM l yX4_taken (kws yX4_taken cX4_taken 1 (some .int)) rmX4_taken K [.ref y] (wM K y b S G) (mPo K y b ((0, σ.2.2.1 5, σ))) := by
  refine kM_of (pl := []) (X := (wM K y b S G)) rfl (by decide) (Nat.le_of_ble_eq_true rfl) ?_
  intro p e s m args below meth cd A Q hC hnm hE
  have hn6 := hσ.1
  refine k_aload_n hC 0 dX4_taken_0 rfl rfl ?_
  refine k_iconst hC (nI 0) dX4_taken_1 rfl ?_
  refine k_put hC inlX4 tyX4_ok nmX4 0 0 rfl rfl (by decide) lkF_X4_74 rfl rfl rfl (Nat.le_of_ble_eq_true rfl) dX4_taken_2 (wM K y b (va_up S 0 (nI 0)) G) rfl ?_
  refine k_aload_n hC 0 dX4_taken_5 rfl rfl ?_
  refine k_get hC inlX4 0 5 rfl rfl (by decide) lkF_X4_117 rfl dX4_taken_6 ?_
  exact k_iret hC hE (Nat.le_of_ble_eq_true rfl) (Nat.le_of_ble_eq_true rfl) dX4_taken_9 ⟨_, G, _, rfl, List.append_nil _, rfl, fun _ => hR.2.2.1 5 (by decide) (by decide), mRep_S hR (fun j hj => by simp only [va_up_ne _ _ hj])⟩
abbrev rmX4_backlog : Room := { frames := 0, cells := 0, slots := 0, locals := 0 }
set_option maxRecDepth 100000 in
set_option maxHeartbeats 4000000 in
theorem cX4_backlog_k (l : Launch) (K : kE) (y : Nat) (b : Nat → Nat) (S : Nat → Int32) (G : Nat → Nat → Int32) (σ : mS) (hσ : mSok σ) (hR : mRep σ S G) : kM l yX4_backlog (kws yX4_backlog cX4_backlog 1 (some .int)) rmX4_backlog K [.ref y] (wM K y b S G) (mPo K y b ((0, σ.2.2.1 6, σ))) := by
  refine kM_of (pl := []) (X := (wM K y b S G)) rfl (by decide) (Nat.le_of_ble_eq_true rfl) ?_
  intro p e s m args below meth cd A Q hC hnm hE
  have hn6 := hσ.1
  refine k_aload_n hC 0 dX4_backlog_0 rfl rfl ?_
  refine k_iconst hC (nI 0) dX4_backlog_1 rfl ?_
  refine k_put hC inlX4 tyX4_ok nmX4 0 0 rfl rfl (by decide) lkF_X4_74 rfl rfl rfl (Nat.le_of_ble_eq_true rfl) dX4_backlog_2 (wM K y b (va_up S 0 (nI 0)) G) rfl ?_
  refine k_aload_n hC 0 dX4_backlog_5 rfl rfl ?_
  refine k_get hC inlX4 0 6 rfl rfl (by decide) lkF_X4_123 rfl dX4_backlog_6 ?_
  exact k_iret hC hE (Nat.le_of_ble_eq_true rfl) (Nat.le_of_ble_eq_true rfl) dX4_backlog_9 ⟨_, G, _, rfl, List.append_nil _, rfl, fun _ => hR.2.2.1 6 (by decide) (by decide), mRep_S hR (fun j hj => by simp only [va_up_ne _ _ hj])⟩
abbrev rmX4_shortSteps : Room := { frames := 0, cells := 0, slots := 0, locals := 0 }
set_option maxRecDepth 100000 in
set_option maxHeartbeats 4000000 in
theorem cX4_shortSteps_k (l : Launch) (K : kE) (y : Nat) (b : Nat → Nat) (S : Nat → Int32) (G : Nat → Nat → Int32) (σ : mS) (hσ : mSok σ) (hR : mRep σ S G) : kM l yX4_shortSteps (kws yX4_shortSteps cX4_shortSteps 1 (some .int)) rmX4_shortSteps K [.ref y] (wM K y b S G) (mPo K y b ((0, σ.2.2.1 7, σ))) := by
  refine kM_of (pl := []) (X := (wM K y b S G)) rfl (by decide) (Nat.le_of_ble_eq_true rfl) ?_
  intro p e s m args below meth cd A Q hC hnm hE
  have hn6 := hσ.1
  refine k_aload_n hC 0 dX4_shortSteps_0 rfl rfl ?_
  refine k_iconst hC (nI 0) dX4_shortSteps_1 rfl ?_
  refine k_put hC inlX4 tyX4_ok nmX4 0 0 rfl rfl (by decide) lkF_X4_74 rfl rfl rfl (Nat.le_of_ble_eq_true rfl) dX4_shortSteps_2 (wM K y b (va_up S 0 (nI 0)) G) rfl ?_
  refine k_aload_n hC 0 dX4_shortSteps_5 rfl rfl ?_
  refine k_get hC inlX4 0 7 rfl rfl (by decide) lkF_X4_132 rfl dX4_shortSteps_6 ?_
  exact k_iret hC hE (Nat.le_of_ble_eq_true rfl) (Nat.le_of_ble_eq_true rfl) dX4_shortSteps_9 ⟨_, G, _, rfl, List.append_nil _, rfl, fun _ => hR.2.2.1 7 (by decide) (by decide), mRep_S hR (fun j hj => by simp only [va_up_ne _ _ hj])⟩
abbrev rmX4_stages : Room := { frames := 0, cells := 0, slots := 0, locals := 0 }
set_option maxRecDepth 100000 in
set_option maxHeartbeats 4000000 in
theorem cX4_stages_k (l : Launch) (K : kE) (y : Nat) (b : Nat → Nat) (S : Nat → Int32) (G : Nat → Nat → Int32) (σ : mS) (hσ : mSok σ) (hR : mRep σ S G) : kM l yX4_stages (kws yX4_stages cX4_stages 1 (some .int)) rmX4_stages K [.ref y] (wM K y b S G) (mPo K y b ((0, nI σ.1, σ))) := by
  refine kM_of (pl := []) (X := (wM K y b S G)) rfl (by decide) (Nat.le_of_ble_eq_true rfl) ?_
  intro p e s m args below meth cd A Q hC hnm hE
  have hn6 := hσ.1
  refine k_aload_n hC 0 dX4_stages_0 rfl rfl ?_
  refine k_iconst hC (nI 0) dX4_stages_1 rfl ?_
  refine k_put hC inlX4 tyX4_ok nmX4 0 0 rfl rfl (by decide) lkF_X4_74 rfl rfl rfl (Nat.le_of_ble_eq_true rfl) dX4_stages_2 (wM K y b (va_up S 0 (nI 0)) G) rfl ?_
  refine k_aload_n hC 0 dX4_stages_5 rfl rfl ?_
  refine k_get hC inlX4 0 1 rfl rfl (by decide) lkF_X4_78 rfl dX4_stages_6 ?_
  exact k_iret hC hE (Nat.le_of_ble_eq_true rfl) (Nat.le_of_ble_eq_true rfl) dX4_stages_9 ⟨_, G, _, rfl, List.append_nil _, rfl, fun _ => hR.1, mRep_S hR (fun j hj => by simp only [va_up_ne _ _ hj])⟩
