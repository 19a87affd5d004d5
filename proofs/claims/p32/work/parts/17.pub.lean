/-! KanbanLoop: its calls -/
def kPo (K : kE) (x : Nat) (o : mO) : Option Value → va_W → Prop := fun v w => o.1 = 0 ∧ v = some (.int o.2.1) ∧ ∃ (ad : Nat → Nat → Nat) (us : Nat → Nat → Nat → Int32), w = wX K x ad o.2.2 us ∧ mURT o.2.2 us
def kPx (o : mO) (E1 E2 : String) : String → Prop := fun E => (o.1 = 1 ∧ E = E1) ∨ (o.1 = 2 ∧ E = E2)
abbrev rmX3_way : Room := { frames := 8, cells := 3, slots := 18, locals := 144 }
set_option maxRecDepth 100000 in
set_option maxHeartbeats 4000000 in
theorem cX3_way_k {l : Launch} (hst : l.stackTraces = false) (K : kE) (x : Nat) (ad : Nat → Nat → Nat) (σ : mS) (us : Nat → Nat → Nat → Int32) (hσ : mSok σ) (hU : mURT σ us) (p9 v9 : Int32) : kX l yX3_way (kws yX3_way cX3_way 5 (some .int)) rmX3_way K [.ref x, .int p9, .int v9] (wX K x ad σ us) (kPo K x (oWay σ p9 v9)) (kPx (oWay σ p9 v9) "java/lang/IndexOutOfBoundsException" "java/lang/IllegalArgumentException") := by
  refine kX_of hst (pl := []) (X := (wX K x ad σ us)) (List.append_nil _).symm (by decide) (Nat.le_of_ble_eq_true rfl) ?_
  intro p e s m args below meth cd A Q hC hX hE
  refine k_aload_n hC 0 dX3_way_0 rfl rfl ?_
  refine k_iload_n hC 1 dX3_way_1 rfl rfl ?_
  refine k_callXV hC hX (As := [.int p9]) (cX3_findFed_k hst K x ad σ us hσ hU p9) [] (List.append_nil _).symm (fun _ h => List.mem_append_left _ h) (fun E q => Or.inl ⟨by simp only [oWay, if_neg q.2], q.1⟩) 0 rfl rfl (kAll5 lkM_X3_55 lkI_yX3_findFed lkS_yX3_findFed lkN_X3 lkC_yX3_findFed) 1 (by decide) ⟨(Nat.le_of_ble_eq_true rfl), (Nat.le_of_ble_eq_true rfl)⟩ rfl rfl (Nat.le_of_ble_eq_true rfl) ⟨(Nat.le_of_ble_eq_true rfl), (Nat.le_of_ble_eq_true rfl)⟩ ⟨(Nat.le_of_ble_eq_true rfl), (Nat.le_of_ble_eq_true rfl)⟩ dX3_way_2 (fun v w h => ?_)
  obtain ⟨k, hk1, hk, rfl, rfl, rfl⟩ := h
  refine k_re 2 12 (wX K x ad σ us) [.ref (ad k 0)] rfl rfl (List.append_nil _) rfl ?_
  have hk31 : k < 2 ^ 31 := by have := hσ.1; omega
  have hm : mHas σ 1 (nI k) := mHas_k hσ.1 hk1 hk
  have hi := hσ.2 k hk
  have hT := hU k hk
  have hn := hi.1.1
  have h9 : (σ.2.2.2 k).1 9 ≤ 9 := by have := hi.1.2.1; omega
  have hl2 := mInv_L2 hi.1
  have hl1 := mInv_L1 hi.1
  have hl0 := mInv_L0 hi.1
  have h13 := hi.1.2.2.2.2.2.2
  rw [if_neg (by simp; omega)] at h13
  obtain ⟨i9, hi9⟩ := wX_at (K := K) (x := x) (ad := ad) (us := us) hk
  refine k_astore_n hC 3 dX3_way_5 rfl (by decide) rfl [(0, .ref x), (1, .int (nI k)), (2, .int v9), (3, .ref (ad k 0))] rfl ?_
  refine k_iload_n hC 2 dX3_way_6 rfl rfl ?_
  refine k_iconst hC (nI 0) dX3_way_7 rfl ?_
  refine k_iconst hC (nI 5) dX3_way_8 rfl ?_
  refine k_callXS hC hX (As := [.int v9, .int (nI 0), .int (nI 5)]) (cX3_checkRange_k hst K v9 (nI 0) (nI 5)) (wX K x ad σ us) rfl (fun _ h => List.mem_append_left _ h) (fun E q => Or.inr ⟨by simp only [oWay, if_pos hm, if_neg q.2], q.1⟩) (kAll4 lkM_X3_36 lkT_yX3_checkRange lkN_X3 lkC_yX3_checkRange) 3 (by decide) ⟨(Nat.le_of_ble_eq_true rfl), (Nat.le_of_ble_eq_true rfl)⟩ rfl rfl (Nat.le_of_ble_eq_true rfl) ⟨(Nat.le_of_ble_eq_true rfl), (Nat.le_of_ble_eq_true rfl)⟩ ⟨(Nat.le_of_ble_eq_true rfl), (Nat.le_of_ble_eq_true rfl)⟩ dX3_way_9 (fun v w h => ?_)
  obtain ⟨rfl, rfl, h1, h2⟩ := h
  have hv : mIn v9 0 5 := ⟨h1, h2⟩
  refine k_re 3 18 (wX K x ad σ us) [] rfl rfl rfl rfl ?_
  obtain ⟨j9, hj1, hj2, rfl⟩ := mIn_ex (by decide) (by decide) hv
  have hj31 : j9 < 2 ^ 31 := by omega
  refine k_perm2 (wCh K ad σ.2.2.2 us (fun j => true && !(j == k)) σ.1) [kO x 3 [mAh ad σ.1, .int (nI σ.1), .int (kB σ.2.1), .int (σ.2.2.1 3), .int (σ.2.2.1 4), .int (σ.2.2.1 5), .int (σ.2.2.1 6), .int (σ.2.2.1 7)], kO (ad k 0) 1 [mAh ad k, .int (nI (((σ.2.2.2 k)).1 1)), .int (nI (((σ.2.2.2 k)).1 2)), .int (nI (((σ.2.2.2 k)).1 3)), .ref (ad k 1), .ref (ad k 4), .ref (ad k 7), .int (nI (((σ.2.2.2 k)).1 7)), .int (nI (((σ.2.2.2 k)).1 8)), .int (nI (((σ.2.2.2 k)).1 9)), .int (nI (((σ.2.2.2 k)).1 10)), .int (nI (((σ.2.2.2 k)).1 11)), .int (nI (((σ.2.2.2 k)).1 12)), .int (nI (((σ.2.2.2 k)).1 13)), .int (nI (((σ.2.2.2 k)).1 14)), .int (nI (((σ.2.2.2 k)).1 15)), .int (((σ.2.2.2 k)).2.1 0), .int (((σ.2.2.2 k)).2.1 1)], kO (ad k 1) 2 [.ref (ad k 2), .ref (ad k 3), .int (nI ((((σ.2.2.2 k)).2.2 0).length))], kI K (ad k 2) 10 (us k 0), kZ K (ad k 3) 10 (us k 1), kO (ad k 4) 2 [.ref (ad k 5), .ref (ad k 6), .int (nI ((((σ.2.2.2 k)).2.2 1).length))], kI K (ad k 5) 10 (us k 2), kZ K (ad k 6) 10 (us k 3), kO (ad k 7) 0 [.ref (ad k 8), .ref (ad k 9), .int (nI ((((σ.2.2.2 k)).2.2 2).length))], kI K (ad k 8) 5 (us k 4), kI K (ad k 9) 5 (us k 5)] (by rw [List.append_nil]; exact (wCh_open hk rfl).cons _) ?_
  refine k_aload_n hC 3 dX3_way_12 rfl rfl ?_
  refine k_getN hC inlX1 1 15 rfl rfl (by decide) (List.mem_of_getElem? (i := 17) rfl) rfl dX3_way_13 ?_
  refine k_istore hC dX3_way_16 (by decide) rfl [(0, .ref x), (1, .int (nI k)), (2, .int (nI j9)), (3, .ref (ad k 0)), (4, .int (nI (((σ.2.2.2 k)).1 15)))] rfl ?_
  refine k_aload_n hC 3 dX3_way_18 rfl rfl ?_
  refine k_iload_n hC 2 dX3_way_19 rfl rfl ?_
  refine k_putN hC inlX1 tyX1_ok nmX1 1 15 rfl rfl (by decide) (List.mem_of_getElem? (i := 17) rfl) rfl rfl rfl (Nat.le_of_ble_eq_true rfl) dX3_way_20 [kO x 3 [mAh ad σ.1, .int (nI σ.1), .int (kB σ.2.1), .int (σ.2.2.1 3), .int (σ.2.2.1 4), .int (σ.2.2.1 5), .int (σ.2.2.1 6), .int (σ.2.2.1 7)], kO (ad k 0) 1 [mAh ad k, .int (nI (((σ.2.2.2 k)).1 1)), .int (nI (((σ.2.2.2 k)).1 2)), .int (nI (((σ.2.2.2 k)).1 3)), .ref (ad k 1), .ref (ad k 4), .ref (ad k 7), .int (nI (((σ.2.2.2 k)).1 7)), .int (nI (((σ.2.2.2 k)).1 8)), .int (nI (((σ.2.2.2 k)).1 9)), .int (nI (((σ.2.2.2 k)).1 10)), .int (nI (((σ.2.2.2 k)).1 11)), .int (nI (((σ.2.2.2 k)).1 12)), .int (nI (((σ.2.2.2 k)).1 13)), .int (nI (((σ.2.2.2 k)).1 14)), .int (nI j9), .int (((σ.2.2.2 k)).2.1 0), .int (((σ.2.2.2 k)).2.1 1)], kO (ad k 1) 2 [.ref (ad k 2), .ref (ad k 3), .int (nI ((((σ.2.2.2 k)).2.2 0).length))], kI K (ad k 2) 10 (us k 0), kZ K (ad k 3) 10 (us k 1), kO (ad k 4) 2 [.ref (ad k 5), .ref (ad k 6), .int (nI ((((σ.2.2.2 k)).2.2 1).length))], kI K (ad k 5) 10 (us k 2), kZ K (ad k 6) 10 (us k 3), kO (ad k 7) 0 [.ref (ad k 8), .ref (ad k 9), .int (nI ((((σ.2.2.2 k)).2.2 2).length))], kI K (ad k 8) 5 (us k 4), kI K (ad k 9) 5 (us k 5)] rfl ?_
  refine k_iload hC dX3_way_23 rfl ?_
  refine k_perm2 [] (wX K x ad (mPut σ k (va_up (σ.2.2.2 k).1 15 j9, (σ.2.2.2 k).2)) (va_up us k (us k))) (by rw [List.append_nil]; exact (wCh_close hk rfl (va_up (σ.2.2.2 k).1 15 j9, (σ.2.2.2 k).2) (us k)).cons _) ?_
  exact k_iret hC hE (Nat.le_of_ble_eq_true rfl) (Nat.le_of_ble_eq_true rfl) dX3_way_25 (by rw [show oWay σ (nI k) (nI j9) = (0, nI ((σ.2.2.2 k).1 15), mPut σ k (va_up (σ.2.2.2 k).1 15 j9, (σ.2.2.2 k).2)) by simp only [oWay, oT, mIx_nI hk31, mIx_nI hj31, if_pos hm, if_pos hv]]; exact ⟨rfl, rfl, ad, _, List.append_nil _, mURT_put hU hT⟩)
abbrev rmX3_mark : Room := { frames := 7, cells := 2, slots := 12, locals := 122 }
set_option maxRecDepth 100000 in
set_option maxHeartbeats 4000000 in
theorem cX3_mark_k {l : Launch} (hst : l.stackTraces = false) (K : kE) (x : Nat) (ad : Nat → Nat → Nat) (σ : mS) (us : Nat → Nat → Nat → Int32) (hσ : mSok σ) (hU : mURT σ us) (p9 v9 : Int32) : kX l yX3_mark (kws yX3_mark cX3_mark 5 (some .int)) rmX3_mark K [.ref x, .int p9, .int v9] (wX K x ad σ us) (kPo K x (oMark σ p9 v9)) (kPx (oMark σ p9 v9) "java/lang/IndexOutOfBoundsException" "java/lang/IllegalArgumentException") := by
  refine kX_of hst (pl := []) (X := (wX K x ad σ us)) (List.append_nil _).symm (by decide) (Nat.le_of_ble_eq_true rfl) ?_
  intro p e s m args below meth cd A Q hC hX hE
  refine k_aload_n hC 0 dX3_mark_0 rfl rfl ?_
  refine k_iload_n hC 1 dX3_mark_1 rfl rfl ?_
  refine k_callXV hC hX (As := [.int p9]) (cX3_find_k hst K x ad σ us hσ hU p9) [] (List.append_nil _).symm (fun _ h => List.mem_append_left _ h) (fun E q => Or.inl ⟨by simp only [oMark, if_neg q.2], q.1⟩) 0 rfl rfl (kAll5 lkM_X3_62 lkI_yX3_find lkS_yX3_find lkN_X3 lkC_yX3_find) 1 (by decide) ⟨(Nat.le_of_ble_eq_true rfl), (Nat.le_of_ble_eq_true rfl)⟩ rfl rfl (Nat.le_of_ble_eq_true rfl) ⟨(Nat.le_of_ble_eq_true rfl), (Nat.le_of_ble_eq_true rfl)⟩ ⟨(Nat.le_of_ble_eq_true rfl), (Nat.le_of_ble_eq_true rfl)⟩ dX3_mark_2 (fun v w h => ?_)
  obtain ⟨k, hk, rfl, rfl, rfl⟩ := h
  have hk1 := Nat.zero_le k
  refine k_re 1 6 (wX K x ad σ us) [.ref (ad k 0)] rfl rfl (List.append_nil _) rfl ?_
  have hk31 : k < 2 ^ 31 := by have := hσ.1; omega
  have hm : mHas σ 0 (nI k) := mHas_k hσ.1 hk1 hk
  have hi := hσ.2 k hk
  have hT := hU k hk
  have hn := hi.1.1
  have h9 : (σ.2.2.2 k).1 9 ≤ 9 := by have := hi.1.2.1; omega
  have hl2 := mInv_L2 hi.1
  have hl1 := mInv_L1 hi.1
  have hl0 := mInv_L0 hi.1
  obtain ⟨i9, hi9⟩ := wX_at (K := K) (x := x) (ad := ad) (us := us) hk
  refine k_astore_n hC 3 dX3_mark_5 rfl (by decide) rfl [(0, .ref x), (1, .int (nI k)), (2, .int v9), (3, .ref (ad k 0))] rfl ?_
  refine k_iload_n hC 2 dX3_mark_6 rfl rfl ?_
  refine k_iconst hC (nI 1) dX3_mark_7 rfl ?_
  refine k_bipush hC (nI 9) dX3_mark_8 rfl ?_
  refine k_callXS hC hX (As := [.int v9, .int (nI 1), .int (nI 9)]) (cX3_checkRange_k hst K v9 (nI 1) (nI 9)) (wX K x ad σ us) rfl (fun _ h => List.mem_append_left _ h) (fun E q => Or.inr ⟨by simp only [oMark, if_pos hm, if_neg q.2], q.1⟩) (kAll4 lkM_X3_36 lkT_yX3_checkRange lkN_X3 lkC_yX3_checkRange) 3 (by decide) ⟨(Nat.le_of_ble_eq_true rfl), (Nat.le_of_ble_eq_true rfl)⟩ rfl rfl (Nat.le_of_ble_eq_true rfl) ⟨(Nat.le_of_ble_eq_true rfl), (Nat.le_of_ble_eq_true rfl)⟩ ⟨(Nat.le_of_ble_eq_true rfl), (Nat.le_of_ble_eq_true rfl)⟩ dX3_mark_10 (fun v w h => ?_)
  obtain ⟨rfl, rfl, h1, h2⟩ := h
  have hv : mIn v9 1 9 := ⟨h1, h2⟩
  refine k_re 2 12 (wX K x ad σ us) [] rfl rfl rfl rfl ?_
  obtain ⟨j9, hj1, hj2, rfl⟩ := mIn_ex (by decide) (by decide) hv
  have hj31 : j9 < 2 ^ 31 := by omega
  refine k_perm2 (wCh K ad σ.2.2.2 us (fun j => true && !(j == k)) σ.1) [kO x 3 [mAh ad σ.1, .int (nI σ.1), .int (kB σ.2.1), .int (σ.2.2.1 3), .int (σ.2.2.1 4), .int (σ.2.2.1 5), .int (σ.2.2.1 6), .int (σ.2.2.1 7)], kO (ad k 0) 1 [mAh ad k, .int (nI (((σ.2.2.2 k)).1 1)), .int (nI (((σ.2.2.2 k)).1 2)), .int (nI (((σ.2.2.2 k)).1 3)), .ref (ad k 1), .ref (ad k 4), .ref (ad k 7), .int (nI (((σ.2.2.2 k)).1 7)), .int (nI (((σ.2.2.2 k)).1 8)), .int (nI (((σ.2.2.2 k)).1 9)), .int (nI (((σ.2.2.2 k)).1 10)), .int (nI (((σ.2.2.2 k)).1 11)), .int (nI (((σ.2.2.2 k)).1 12)), .int (nI (((σ.2.2.2 k)).1 13)), .int (nI (((σ.2.2.2 k)).1 14)), .int (nI (((σ.2.2.2 k)).1 15)), .int (((σ.2.2.2 k)).2.1 0), .int (((σ.2.2.2 k)).2.1 1)], kO (ad k 1) 2 [.ref (ad k 2), .ref (ad k 3), .int (nI ((((σ.2.2.2 k)).2.2 0).length))], kI K (ad k 2) 10 (us k 0), kZ K (ad k 3) 10 (us k 1), kO (ad k 4) 2 [.ref (ad k 5), .ref (ad k 6), .int (nI ((((σ.2.2.2 k)).2.2 1).length))], kI K (ad k 5) 10 (us k 2), kZ K (ad k 6) 10 (us k 3), kO (ad k 7) 0 [.ref (ad k 8), .ref (ad k 9), .int (nI ((((σ.2.2.2 k)).2.2 2).length))], kI K (ad k 8) 5 (us k 4), kI K (ad k 9) 5 (us k 5)] (by rw [List.append_nil]; exact (wCh_open hk rfl).cons _) ?_
  refine k_aload_n hC 3 dX3_mark_13 rfl rfl ?_
  refine k_getN hC inlX1 1 7 rfl rfl (by decide) (List.mem_of_getElem? (i := 9) rfl) rfl dX3_mark_14 ?_
  refine k_istore hC dX3_mark_17 (by decide) rfl [(0, .ref x), (1, .int (nI k)), (2, .int (nI j9)), (3, .ref (ad k 0)), (4, .int (nI (((σ.2.2.2 k)).1 7)))] rfl ?_
  refine k_aload_n hC 3 dX3_mark_19 rfl rfl ?_
  refine k_iload_n hC 2 dX3_mark_20 rfl rfl ?_
  refine k_putN hC inlX1 tyX1_ok nmX1 1 7 rfl rfl (by decide) (List.mem_of_getElem? (i := 9) rfl) rfl rfl rfl (Nat.le_of_ble_eq_true rfl) dX3_mark_21 [kO x 3 [mAh ad σ.1, .int (nI σ.1), .int (kB σ.2.1), .int (σ.2.2.1 3), .int (σ.2.2.1 4), .int (σ.2.2.1 5), .int (σ.2.2.1 6), .int (σ.2.2.1 7)], kO (ad k 0) 1 [mAh ad k, .int (nI (((σ.2.2.2 k)).1 1)), .int (nI (((σ.2.2.2 k)).1 2)), .int (nI (((σ.2.2.2 k)).1 3)), .ref (ad k 1), .ref (ad k 4), .ref (ad k 7), .int (nI j9), .int (nI (((σ.2.2.2 k)).1 8)), .int (nI (((σ.2.2.2 k)).1 9)), .int (nI (((σ.2.2.2 k)).1 10)), .int (nI (((σ.2.2.2 k)).1 11)), .int (nI (((σ.2.2.2 k)).1 12)), .int (nI (((σ.2.2.2 k)).1 13)), .int (nI (((σ.2.2.2 k)).1 14)), .int (nI (((σ.2.2.2 k)).1 15)), .int (((σ.2.2.2 k)).2.1 0), .int (((σ.2.2.2 k)).2.1 1)], kO (ad k 1) 2 [.ref (ad k 2), .ref (ad k 3), .int (nI ((((σ.2.2.2 k)).2.2 0).length))], kI K (ad k 2) 10 (us k 0), kZ K (ad k 3) 10 (us k 1), kO (ad k 4) 2 [.ref (ad k 5), .ref (ad k 6), .int (nI ((((σ.2.2.2 k)).2.2 1).length))], kI K (ad k 5) 10 (us k 2), kZ K (ad k 6) 10 (us k 3), kO (ad k 7) 0 [.ref (ad k 8), .ref (ad k 9), .int (nI ((((σ.2.2.2 k)).2.2 2).length))], kI K (ad k 8) 5 (us k 4), kI K (ad k 9) 5 (us k 5)] rfl ?_
  refine k_iload hC dX3_mark_24 rfl ?_
  refine k_perm2 [] (wX K x ad (mPut σ k (va_up (σ.2.2.2 k).1 7 j9, (σ.2.2.2 k).2)) (va_up us k (us k))) (by rw [List.append_nil]; exact (wCh_close hk rfl (va_up (σ.2.2.2 k).1 7 j9, (σ.2.2.2 k).2) (us k)).cons _) ?_
  exact k_iret hC hE (Nat.le_of_ble_eq_true rfl) (Nat.le_of_ble_eq_true rfl) dX3_mark_26 (by rw [show oMark σ (nI k) (nI j9) = (0, nI ((σ.2.2.2 k).1 7), mPut σ k (va_up (σ.2.2.2 k).1 7 j9, (σ.2.2.2 k).2)) by simp only [oMark, oT, mIx_nI hk31, mIx_nI hj31, if_pos hm, if_pos hv]]; exact ⟨rfl, rfl, ad, _, List.append_nil _, mURT_put hU hT⟩)
abbrev rmX3_rule : Room := { frames := 0, cells := 0, slots := 0, locals := 0 }
set_option maxRecDepth 100000 in
set_option maxHeartbeats 4000000 in
theorem cX3_rule_k (l : Launch) (K : kE) (x : Nat) (ad : Nat → Nat → Nat) (σ : mS) (us : Nat → Nat → Nat → Int32) (hσ : mSok σ) (hU : mURT σ us) (b : Bool) : kM l yX3_rule (kws yX3_rule cX3_rule 3 (some .boolean)) rmX3_rule K [.ref x, .int (kB b)] (wX K x ad σ us) (kPo K x (oRule σ b)) := by
  refine kM_of (pl := (wCh K ad σ.2.2.2 us (fun _ => true) σ.1)) (X := [kO x 3 [mAh ad σ.1, .int (nI σ.1), .int (kB σ.2.1), .int (σ.2.2.1 3), .int (σ.2.2.1 4), .int (σ.2.2.1 5), .int (σ.2.2.1 6), .int (σ.2.2.1 7)]]) rfl (by decide) (Nat.le_of_ble_eq_true rfl) ?_
  intro p e s m args below meth cd A Q hC hnm hE
  have hzb : ∀ b : Bool, narrow .boolean (.int (kB b)) = .int (kB b) := fun b => by cases b <;> rfl
  have hfb : ∀ b : Bool, fits .boolean (.int (kB b)) = true := fun b => by cases b <;> rfl
  refine k_eX (show _ = [kO x 3 [mAh ad σ.1, .int (nI σ.1), .int (kB σ.2.1), .int (σ.2.2.1 3), .int (σ.2.2.1 4), .int (σ.2.2.1 5), .int (σ.2.2.1 6), .int (σ.2.2.1 7)]] from rfl) ?_
  refine k_aload_n hC 0 dX3_rule_0 rfl rfl ?_
  refine k_get hC inlX3 0 2 rfl rfl (by decide) lkF_X3_17 rfl dX3_rule_1 ?_
  refine k_istore_n hC 2 dX3_rule_4 rfl (by decide) rfl [(0, .ref x), (1, .int (kB b)), (2, .int (kB σ.2.1))] rfl ?_
  refine k_aload_n hC 0 dX3_rule_5 rfl rfl ?_
  refine k_iload_n hC 1 dX3_rule_6 rfl rfl ?_
  refine k_put hC inlX3 tyX3_ok nmX3 0 2 rfl rfl (by decide) lkF_X3_17 rfl (hzb _) (hfb _) (Nat.le_of_ble_eq_true rfl) dX3_rule_7 [kO x 3 [mAh ad σ.1, .int (nI σ.1), .int (kB b), .int (σ.2.2.1 3), .int (σ.2.2.1 4), .int (σ.2.2.1 5), .int (σ.2.2.1 6), .int (σ.2.2.1 7)]] rfl ?_
  refine k_iload_n hC 2 dX3_rule_10 rfl rfl ?_
  exact k_zret hC hE (Nat.le_of_ble_eq_true rfl) (Nat.le_of_ble_eq_true rfl) (hzb _) dX3_rule_11 ⟨rfl, rfl, ad, us, rfl, hU⟩
abbrev rmX3_demand : Room := { frames := 7, cells := 1, slots := 6, locals := 122 }
set_option maxRecDepth 100000 in
set_option maxHeartbeats 4000000 in
theorem cX3_demand_k {l : Launch} (hst : l.stackTraces = false) (K : kE) (x : Nat) (ad : Nat → Nat → Nat) (σ : mS) (us : Nat → Nat → Nat → Int32) (hσ : mSok σ) (hU : mURT σ us) (v9 : Int32) : kX l yX3_demand (kws yX3_demand cX3_demand 3 (some .int)) rmX3_demand K [.ref x, .int v9] (wX K x ad σ us) (kPo K x (oDemand σ v9)) (kPx (oDemand σ v9) "java/lang/IllegalArgumentException" "") := by
  refine kX_of hst (pl := (wCh K ad σ.2.2.2 us (fun _ => true) σ.1)) (X := [kO x 3 [mAh ad σ.1, .int (nI σ.1), .int (kB σ.2.1), .int (σ.2.2.1 3), .int (σ.2.2.1 4), .int (σ.2.2.1 5), .int (σ.2.2.1 6), .int (σ.2.2.1 7)]]) rfl (by decide) (Nat.le_of_ble_eq_true rfl) ?_
  intro p e s m args below meth cd A Q hC hX hE
  refine k_eX (show _ = [kO x 3 [mAh ad σ.1, .int (nI σ.1), .int (kB σ.2.1), .int (σ.2.2.1 3), .int (σ.2.2.1 4), .int (σ.2.2.1 5), .int (σ.2.2.1 6), .int (σ.2.2.1 7)]] from rfl) ?_
  refine k_iload_n hC 1 dX3_demand_0 rfl rfl ?_
  refine k_iconst hC (nI 0) dX3_demand_1 rfl ?_
  refine k_bipush hC (nI 20) dX3_demand_2 rfl ?_
  refine k_callXS hC hX (As := [.int v9, .int (nI 0), .int (nI 20)]) (cX3_checkRange_k hst K v9 (nI 0) (nI 20)) [kO x 3 [mAh ad σ.1, .int (nI σ.1), .int (kB σ.2.1), .int (σ.2.2.1 3), .int (σ.2.2.1 4), .int (σ.2.2.1 5), .int (σ.2.2.1 6), .int (σ.2.2.1 7)]] rfl (fun _ h => h) (fun E q => Or.inl ⟨by simp only [oDemand, if_neg q.2], q.1⟩) (kAll4 lkM_X3_36 lkT_yX3_checkRange lkN_X3 lkC_yX3_checkRange) 3 (by decide) ⟨(Nat.le_of_ble_eq_true rfl), (Nat.le_of_ble_eq_true rfl)⟩ rfl rfl (Nat.le_of_ble_eq_true rfl) ⟨(Nat.le_of_ble_eq_true rfl), (Nat.le_of_ble_eq_true rfl)⟩ ⟨(Nat.le_of_ble_eq_true rfl), (Nat.le_of_ble_eq_true rfl)⟩ dX3_demand_4 (fun v w h => ?_)
  obtain ⟨rfl, rfl, h1, h2⟩ := h
  have hv : mIn v9 0 20 := ⟨h1, h2⟩
  refine k_re 1 6 [kO x 3 [mAh ad σ.1, .int (nI σ.1), .int (kB σ.2.1), .int (σ.2.2.1 3), .int (σ.2.2.1 4), .int (σ.2.2.1 5), .int (σ.2.2.1 6), .int (σ.2.2.1 7)]] [] rfl rfl rfl rfl ?_
  refine k_aload_n hC 0 dX3_demand_7 rfl rfl ?_
  refine k_get hC inlX3 0 3 rfl rfl (by decide) lkF_X3_21 rfl dX3_demand_8 ?_
  refine k_istore_n hC 2 dX3_demand_11 rfl (by decide) rfl [(0, .ref x), (1, .int v9), (2, .int (σ.2.2.1 3))] rfl ?_
  refine k_aload_n hC 0 dX3_demand_12 rfl rfl ?_
  refine k_iload_n hC 1 dX3_demand_13 rfl rfl ?_
  refine k_put hC inlX3 tyX3_ok nmX3 0 3 rfl rfl (by decide) lkF_X3_21 rfl rfl rfl (Nat.le_of_ble_eq_true rfl) dX3_demand_14 [kO x 3 [mAh ad σ.1, .int (nI σ.1), .int (kB σ.2.1), .int v9, .int (σ.2.2.1 4), .int (σ.2.2.1 5), .int (σ.2.2.1 6), .int (σ.2.2.1 7)]] rfl ?_
  refine k_iload_n hC 2 dX3_demand_17 rfl rfl ?_
  exact k_iret hC hE (Nat.le_of_ble_eq_true rfl) (Nat.le_of_ble_eq_true rfl) dX3_demand_18 (by rw [show oDemand σ v9 = (0, σ.2.2.1 3, (σ.1, σ.2.1, va_up σ.2.2.1 3 v9, σ.2.2.2)) by simp only [oDemand, if_pos hv]]; exact ⟨rfl, rfl, ad, us, rfl, hU⟩)
abbrev rmX3_stop : Room := { frames := 7, cells := 1, slots := 6, locals := 122 }
set_option maxRecDepth 100000 in
set_option maxHeartbeats 4000000 in
theorem cX3_stop_k {l : Launch} (hst : l.stackTraces = false) (K : kE) (x : Nat) (ad : Nat → Nat → Nat) (σ : mS) (us : Nat → Nat → Nat → Int32) (hσ : mSok σ) (hU : mURT σ us) (p9 : Int32) : kX l yX3_stop (kws yX3_stop cX3_stop 3 (some .boolean)) rmX3_stop K [.ref x, .int p9] (wX K x ad σ us) (kPo K x (oStop σ p9)) (kPx (oStop σ p9) "java/lang/IndexOutOfBoundsException" "") := by
  refine kX_of hst (pl := []) (X := (wX K x ad σ us)) (List.append_nil _).symm (by decide) (Nat.le_of_ble_eq_true rfl) ?_
  intro p e s m args below meth cd A Q hC hX hE
  refine k_aload_n hC 0 dX3_stop_0 rfl rfl ?_
  refine k_iload_n hC 1 dX3_stop_1 rfl rfl ?_
  refine k_callXV hC hX (As := [.int p9]) (cX3_find_k hst K x ad σ us hσ hU p9) [] (List.append_nil _).symm (fun _ h => List.mem_append_left _ h) (fun E q => Or.inl ⟨by simp only [oStop, if_neg q.2], q.1⟩) 0 rfl rfl (kAll5 lkM_X3_62 lkI_yX3_find lkS_yX3_find lkN_X3 lkC_yX3_find) 1 (by decide) ⟨(Nat.le_of_ble_eq_true rfl), (Nat.le_of_ble_eq_true rfl)⟩ rfl rfl (Nat.le_of_ble_eq_true rfl) ⟨(Nat.le_of_ble_eq_true rfl), (Nat.le_of_ble_eq_true rfl)⟩ ⟨(Nat.le_of_ble_eq_true rfl), (Nat.le_of_ble_eq_true rfl)⟩ dX3_stop_2 (fun v w h => ?_)
  obtain ⟨k, hk, rfl, rfl, rfl⟩ := h
  have hk1 := Nat.zero_le k
  refine k_re 1 6 (wX K x ad σ us) [.ref (ad k 0)] rfl rfl (List.append_nil _) rfl ?_
  have hk31 : k < 2 ^ 31 := by have := hσ.1; omega
  have hm : mHas σ 0 (nI k) := mHas_k hσ.1 hk1 hk
  have hi := hσ.2 k hk
  have hT := hU k hk
  have hn := hi.1.1
  have h9 : (σ.2.2.2 k).1 9 ≤ 9 := by have := hi.1.2.1; omega
  have hl2 := mInv_L2 hi.1
  have hl1 := mInv_L1 hi.1
  have hl0 := mInv_L0 hi.1
  obtain ⟨i9, hi9⟩ := wX_at (K := K) (x := x) (ad := ad) (us := us) hk
  refine k_perm2 (wCh K ad σ.2.2.2 us (fun j => true && !(j == k)) σ.1) [kO x 3 [mAh ad σ.1, .int (nI σ.1), .int (kB σ.2.1), .int (σ.2.2.1 3), .int (σ.2.2.1 4), .int (σ.2.2.1 5), .int (σ.2.2.1 6), .int (σ.2.2.1 7)], kO (ad k 0) 1 [mAh ad k, .int (nI (((σ.2.2.2 k)).1 1)), .int (nI (((σ.2.2.2 k)).1 2)), .int (nI (((σ.2.2.2 k)).1 3)), .ref (ad k 1), .ref (ad k 4), .ref (ad k 7), .int (nI (((σ.2.2.2 k)).1 7)), .int (nI (((σ.2.2.2 k)).1 8)), .int (nI (((σ.2.2.2 k)).1 9)), .int (nI (((σ.2.2.2 k)).1 10)), .int (nI (((σ.2.2.2 k)).1 11)), .int (nI (((σ.2.2.2 k)).1 12)), .int (nI (((σ.2.2.2 k)).1 13)), .int (nI (((σ.2.2.2 k)).1 14)), .int (nI (((σ.2.2.2 k)).1 15)), .int (((σ.2.2.2 k)).2.1 0), .int (((σ.2.2.2 k)).2.1 1)], kO (ad k 1) 2 [.ref (ad k 2), .ref (ad k 3), .int (nI ((((σ.2.2.2 k)).2.2 0).length))], kI K (ad k 2) 10 (us k 0), kZ K (ad k 3) 10 (us k 1), kO (ad k 4) 2 [.ref (ad k 5), .ref (ad k 6), .int (nI ((((σ.2.2.2 k)).2.2 1).length))], kI K (ad k 5) 10 (us k 2), kZ K (ad k 6) 10 (us k 3), kO (ad k 7) 0 [.ref (ad k 8), .ref (ad k 9), .int (nI ((((σ.2.2.2 k)).2.2 2).length))], kI K (ad k 8) 5 (us k 4), kI K (ad k 9) 5 (us k 5)] (by rw [List.append_nil]; exact (wCh_open hk rfl).cons _) ?_
  refine k_astore_n hC 2 dX3_stop_5 rfl (by decide) rfl [(0, .ref x), (1, .int (nI k)), (2, .ref (ad k 0))] rfl ?_
  refine k_aload_n hC 2 dX3_stop_6 rfl rfl ?_
  refine k_aload_n hC 2 dX3_stop_7 rfl rfl ?_
  refine k_getN hC inlX1 1 12 rfl rfl (by decide) (List.mem_of_getElem? (i := 14) rfl) rfl dX3_stop_8 ?_
  refine k_if_neN hC 18 dX3_stop_11 (by decide) (by omega) (fun c1 => ?_) (fun c1 => ?_)
  · refine k_iconst hC (nI 0) dX3_stop_18 rfl ?_
    refine k_putN hC inlX1 tyX1_ok nmX1 1 12 rfl rfl (by decide) (List.mem_of_getElem? (i := 14) rfl) rfl rfl rfl (Nat.le_of_ble_eq_true rfl) dX3_stop_19 [kO x 3 [mAh ad σ.1, .int (nI σ.1), .int (kB σ.2.1), .int (σ.2.2.1 3), .int (σ.2.2.1 4), .int (σ.2.2.1 5), .int (σ.2.2.1 6), .int (σ.2.2.1 7)], kO (ad k 0) 1 [mAh ad k, .int (nI (((σ.2.2.2 k)).1 1)), .int (nI (((σ.2.2.2 k)).1 2)), .int (nI (((σ.2.2.2 k)).1 3)), .ref (ad k 1), .ref (ad k 4), .ref (ad k 7), .int (nI (((σ.2.2.2 k)).1 7)), .int (nI (((σ.2.2.2 k)).1 8)), .int (nI (((σ.2.2.2 k)).1 9)), .int (nI (((σ.2.2.2 k)).1 10)), .int (nI (((σ.2.2.2 k)).1 11)), .int (nI 0), .int (nI (((σ.2.2.2 k)).1 13)), .int (nI (((σ.2.2.2 k)).1 14)), .int (nI (((σ.2.2.2 k)).1 15)), .int (((σ.2.2.2 k)).2.1 0), .int (((σ.2.2.2 k)).2.1 1)], kO (ad k 1) 2 [.ref (ad k 2), .ref (ad k 3), .int (nI ((((σ.2.2.2 k)).2.2 0).length))], kI K (ad k 2) 10 (us k 0), kZ K (ad k 3) 10 (us k 1), kO (ad k 4) 2 [.ref (ad k 5), .ref (ad k 6), .int (nI ((((σ.2.2.2 k)).2.2 1).length))], kI K (ad k 5) 10 (us k 2), kZ K (ad k 6) 10 (us k 3), kO (ad k 7) 0 [.ref (ad k 8), .ref (ad k 9), .int (nI ((((σ.2.2.2 k)).2.2 2).length))], kI K (ad k 8) 5 (us k 4), kI K (ad k 9) 5 (us k 5)] rfl ?_
    refine k_aload_n hC 2 dX3_stop_22 rfl rfl ?_
    refine k_getN hC inlX1 1 12 rfl rfl (by decide) (List.mem_of_getElem? (i := 14) rfl) rfl dX3_stop_23 ?_
    have e12 : 1 - (σ.2.2.2 k).1 12 = 0 := by omega
    refine k_perm2 [] (wX K x ad (mPut σ k (va_up (σ.2.2.2 k).1 12 0, (σ.2.2.2 k).2)) (va_up us k (us k))) (by rw [List.append_nil]; exact (wCh_close hk rfl (va_up (σ.2.2.2 k).1 12 0, (σ.2.2.2 k).2) (us k)).cons _) ?_
    exact k_zret hC hE (Nat.le_of_ble_eq_true rfl) (Nat.le_of_ble_eq_true rfl) rfl dX3_stop_26 (by rw [show oStop σ (nI k) = (0, nI 0, mPut σ k (va_up (σ.2.2.2 k).1 12 0, (σ.2.2.2 k).2)) by simp only [oStop, oT, mIx_nI hk31, if_pos hm]; rw [e12]]; exact ⟨rfl, rfl, ad, _, List.append_nil _, mURT_put hU hT⟩)
  · refine k_iconst hC (nI 1) dX3_stop_14 rfl ?_
    refine k_goto hC 19 dX3_stop_15 (by decide) ?_
    refine k_putN hC inlX1 tyX1_ok nmX1 1 12 rfl rfl (by decide) (List.mem_of_getElem? (i := 14) rfl) rfl rfl rfl (Nat.le_of_ble_eq_true rfl) dX3_stop_19 [kO x 3 [mAh ad σ.1, .int (nI σ.1), .int (kB σ.2.1), .int (σ.2.2.1 3), .int (σ.2.2.1 4), .int (σ.2.2.1 5), .int (σ.2.2.1 6), .int (σ.2.2.1 7)], kO (ad k 0) 1 [mAh ad k, .int (nI (((σ.2.2.2 k)).1 1)), .int (nI (((σ.2.2.2 k)).1 2)), .int (nI (((σ.2.2.2 k)).1 3)), .ref (ad k 1), .ref (ad k 4), .ref (ad k 7), .int (nI (((σ.2.2.2 k)).1 7)), .int (nI (((σ.2.2.2 k)).1 8)), .int (nI (((σ.2.2.2 k)).1 9)), .int (nI (((σ.2.2.2 k)).1 10)), .int (nI (((σ.2.2.2 k)).1 11)), .int (nI 1), .int (nI (((σ.2.2.2 k)).1 13)), .int (nI (((σ.2.2.2 k)).1 14)), .int (nI (((σ.2.2.2 k)).1 15)), .int (((σ.2.2.2 k)).2.1 0), .int (((σ.2.2.2 k)).2.1 1)], kO (ad k 1) 2 [.ref (ad k 2), .ref (ad k 3), .int (nI ((((σ.2.2.2 k)).2.2 0).length))], kI K (ad k 2) 10 (us k 0), kZ K (ad k 3) 10 (us k 1), kO (ad k 4) 2 [.ref (ad k 5), .ref (ad k 6), .int (nI ((((σ.2.2.2 k)).2.2 1).length))], kI K (ad k 5) 10 (us k 2), kZ K (ad k 6) 10 (us k 3), kO (ad k 7) 0 [.ref (ad k 8), .ref (ad k 9), .int (nI ((((σ.2.2.2 k)).2.2 2).length))], kI K (ad k 8) 5 (us k 4), kI K (ad k 9) 5 (us k 5)] rfl ?_
    refine k_aload_n hC 2 dX3_stop_22 rfl rfl ?_
    refine k_getN hC inlX1 1 12 rfl rfl (by decide) (List.mem_of_getElem? (i := 14) rfl) rfl dX3_stop_23 ?_
    have e12 : 1 - (σ.2.2.2 k).1 12 = 1 := by omega
    refine k_perm2 [] (wX K x ad (mPut σ k (va_up (σ.2.2.2 k).1 12 1, (σ.2.2.2 k).2)) (va_up us k (us k))) (by rw [List.append_nil]; exact (wCh_close hk rfl (va_up (σ.2.2.2 k).1 12 1, (σ.2.2.2 k).2) (us k)).cons _) ?_
    exact k_zret hC hE (Nat.le_of_ble_eq_true rfl) (Nat.le_of_ble_eq_true rfl) rfl dX3_stop_26 (by rw [show oStop σ (nI k) = (0, nI 1, mPut σ k (va_up (σ.2.2.2 k).1 12 1, (σ.2.2.2 k).2)) by simp only [oStop, oT, mIx_nI hk31, if_pos hm]; rw [e12]]; exact ⟨rfl, rfl, ad, _, List.append_nil _, mURT_put hU hT⟩)
abbrev rmX3_issue : Room := { frames := 7, cells := 2, slots := 12, locals := 122 }
set_option maxRecDepth 100000 in
set_option maxHeartbeats 4000000 in
theorem cX3_issue_k {l : Launch} (hst : l.stackTraces = false) (K : kE) (x : Nat) (ad : Nat → Nat → Nat) (σ : mS) (us : Nat → Nat → Nat → Int32) (hσ : mSok σ) (hU : mURT σ us) (p9 : Int32) : kX l yX3_issue (kws yX3_issue cX3_issue 3 (some .int)) rmX3_issue K [.ref x, .int p9] (wX K x ad σ us) (kPo K x (oIssue σ p9)) (kPx (oIssue σ p9) "java/lang/IndexOutOfBoundsException" "java/lang/IllegalStateException") := by
  refine kX_of hst (pl := []) (X := (wX K x ad σ us)) (List.append_nil _).symm (by decide) (Nat.le_of_ble_eq_true rfl) ?_
  intro p e s m args below meth cd A Q hC hX hE
  refine k_aload_n hC 0 dX3_issue_0 rfl rfl ?_
  refine k_iload_n hC 1 dX3_issue_1 rfl rfl ?_
  refine k_callXV hC hX (As := [.int p9]) (cX3_find_k hst K x ad σ us hσ hU p9) [] (List.append_nil _).symm (fun _ h => List.mem_append_left _ h) (fun E q => Or.inl ⟨by simp only [oIssue, if_neg q.2], q.1⟩) 0 rfl rfl (kAll5 lkM_X3_62 lkI_yX3_find lkS_yX3_find lkN_X3 lkC_yX3_find) 1 (by decide) ⟨(Nat.le_of_ble_eq_true rfl), (Nat.le_of_ble_eq_true rfl)⟩ rfl rfl (Nat.le_of_ble_eq_true rfl) ⟨(Nat.le_of_ble_eq_true rfl), (Nat.le_of_ble_eq_true rfl)⟩ ⟨(Nat.le_of_ble_eq_true rfl), (Nat.le_of_ble_eq_true rfl)⟩ dX3_issue_2 (fun v w h => ?_)
  obtain ⟨k, hk, rfl, rfl, rfl⟩ := h
  have hk1 := Nat.zero_le k
  refine k_re 1 6 (wX K x ad σ us) [.ref (ad k 0)] rfl rfl (List.append_nil _) rfl ?_
  have hk31 : k < 2 ^ 31 := by have := hσ.1; omega
  have hm : mHas σ 0 (nI k) := mHas_k hσ.1 hk1 hk
  have hi := hσ.2 k hk
  have hT := hU k hk
  have hn := hi.1.1
  have h9 : (σ.2.2.2 k).1 9 ≤ 9 := by have := hi.1.2.1; omega
  have hl2 := mInv_L2 hi.1
  have hl1 := mInv_L1 hi.1
  have hl0 := mInv_L0 hi.1
  obtain ⟨i9, hi9⟩ := wX_at (K := K) (x := x) (ad := ad) (us := us) hk
  refine k_astore_n hC 2 dX3_issue_5 rfl (by decide) rfl [(0, .ref x), (1, .int (nI k)), (2, .ref (ad k 0))] rfl ?_
  refine k_aload_n hC 2 dX3_issue_6 rfl rfl ?_
  refine k_getN hC inlX1 i9 8 hi9 rfl (by decide) (List.mem_of_getElem? (i := 10) rfl) rfl dX3_issue_7 ?_
  refine k_bipush hC (nI 9) dX3_issue_10 rfl ?_
  refine k_icmp_ltN hC 25 dX3_issue_12 (by decide) (by omega) (by omega) (fun c1 => ?_) (fun c1 => ?_)
  · refine k_perm2 (wCh K ad σ.2.2.2 us (fun j => true && !(j == k)) σ.1) [kO x 3 [mAh ad σ.1, .int (nI σ.1), .int (kB σ.2.1), .int (σ.2.2.1 3), .int (σ.2.2.1 4), .int (σ.2.2.1 5), .int (σ.2.2.1 6), .int (σ.2.2.1 7)], kO (ad k 0) 1 [mAh ad k, .int (nI (((σ.2.2.2 k)).1 1)), .int (nI (((σ.2.2.2 k)).1 2)), .int (nI (((σ.2.2.2 k)).1 3)), .ref (ad k 1), .ref (ad k 4), .ref (ad k 7), .int (nI (((σ.2.2.2 k)).1 7)), .int (nI (((σ.2.2.2 k)).1 8)), .int (nI (((σ.2.2.2 k)).1 9)), .int (nI (((σ.2.2.2 k)).1 10)), .int (nI (((σ.2.2.2 k)).1 11)), .int (nI (((σ.2.2.2 k)).1 12)), .int (nI (((σ.2.2.2 k)).1 13)), .int (nI (((σ.2.2.2 k)).1 14)), .int (nI (((σ.2.2.2 k)).1 15)), .int (((σ.2.2.2 k)).2.1 0), .int (((σ.2.2.2 k)).2.1 1)], kO (ad k 1) 2 [.ref (ad k 2), .ref (ad k 3), .int (nI ((((σ.2.2.2 k)).2.2 0).length))], kI K (ad k 2) 10 (us k 0), kZ K (ad k 3) 10 (us k 1), kO (ad k 4) 2 [.ref (ad k 5), .ref (ad k 6), .int (nI ((((σ.2.2.2 k)).2.2 1).length))], kI K (ad k 5) 10 (us k 2), kZ K (ad k 6) 10 (us k 3), kO (ad k 7) 0 [.ref (ad k 8), .ref (ad k 9), .int (nI ((((σ.2.2.2 k)).2.2 2).length))], kI K (ad k 8) 5 (us k 4), kI K (ad k 9) 5 (us k 5)] (by rw [List.append_nil]; exact (wCh_open hk rfl).cons _) ?_
    refine k_aload_n hC 2 dX3_issue_25 rfl rfl ?_
    refine k_dup hC dX3_issue_26 rfl ?_
    refine k_getN hC inlX1 1 8 rfl rfl (by decide) (List.mem_of_getElem? (i := 10) rfl) rfl dX3_issue_27 ?_
    refine k_iconst hC (nI 1) dX3_issue_30 rfl ?_
    refine k_iaddN hC dX3_issue_31 ?_
    refine k_putN hC inlX1 tyX1_ok nmX1 1 8 rfl rfl (by decide) (List.mem_of_getElem? (i := 10) rfl) rfl rfl rfl (Nat.le_of_ble_eq_true rfl) dX3_issue_32 [kO x 3 [mAh ad σ.1, .int (nI σ.1), .int (kB σ.2.1), .int (σ.2.2.1 3), .int (σ.2.2.1 4), .int (σ.2.2.1 5), .int (σ.2.2.1 6), .int (σ.2.2.1 7)], kO (ad k 0) 1 [mAh ad k, .int (nI (((σ.2.2.2 k)).1 1)), .int (nI (((σ.2.2.2 k)).1 2)), .int (nI (((σ.2.2.2 k)).1 3)), .ref (ad k 1), .ref (ad k 4), .ref (ad k 7), .int (nI (((σ.2.2.2 k)).1 7)), .int (nI ((((σ.2.2.2 k)).1 8) + 1)), .int (nI (((σ.2.2.2 k)).1 9)), .int (nI (((σ.2.2.2 k)).1 10)), .int (nI (((σ.2.2.2 k)).1 11)), .int (nI (((σ.2.2.2 k)).1 12)), .int (nI (((σ.2.2.2 k)).1 13)), .int (nI (((σ.2.2.2 k)).1 14)), .int (nI (((σ.2.2.2 k)).1 15)), .int (((σ.2.2.2 k)).2.1 0), .int (((σ.2.2.2 k)).2.1 1)], kO (ad k 1) 2 [.ref (ad k 2), .ref (ad k 3), .int (nI ((((σ.2.2.2 k)).2.2 0).length))], kI K (ad k 2) 10 (us k 0), kZ K (ad k 3) 10 (us k 1), kO (ad k 4) 2 [.ref (ad k 5), .ref (ad k 6), .int (nI ((((σ.2.2.2 k)).2.2 1).length))], kI K (ad k 5) 10 (us k 2), kZ K (ad k 6) 10 (us k 3), kO (ad k 7) 0 [.ref (ad k 8), .ref (ad k 9), .int (nI ((((σ.2.2.2 k)).2.2 2).length))], kI K (ad k 8) 5 (us k 4), kI K (ad k 9) 5 (us k 5)] rfl ?_
    refine k_aload_n hC 2 dX3_issue_35 rfl rfl ?_
    refine k_dup hC dX3_issue_36 rfl ?_
    refine k_getN hC inlX1 1 9 rfl rfl (by decide) (List.mem_of_getElem? (i := 11) rfl) rfl dX3_issue_37 ?_
    refine k_iconst hC (nI 1) dX3_issue_40 rfl ?_
    refine k_iaddN hC dX3_issue_41 ?_
    refine k_putN hC inlX1 tyX1_ok nmX1 1 9 rfl rfl (by decide) (List.mem_of_getElem? (i := 11) rfl) rfl rfl rfl (Nat.le_of_ble_eq_true rfl) dX3_issue_42 [kO x 3 [mAh ad σ.1, .int (nI σ.1), .int (kB σ.2.1), .int (σ.2.2.1 3), .int (σ.2.2.1 4), .int (σ.2.2.1 5), .int (σ.2.2.1 6), .int (σ.2.2.1 7)], kO (ad k 0) 1 [mAh ad k, .int (nI (((σ.2.2.2 k)).1 1)), .int (nI (((σ.2.2.2 k)).1 2)), .int (nI (((σ.2.2.2 k)).1 3)), .ref (ad k 1), .ref (ad k 4), .ref (ad k 7), .int (nI (((σ.2.2.2 k)).1 7)), .int (nI ((((σ.2.2.2 k)).1 8) + 1)), .int (nI ((((σ.2.2.2 k)).1 9) + 1)), .int (nI (((σ.2.2.2 k)).1 10)), .int (nI (((σ.2.2.2 k)).1 11)), .int (nI (((σ.2.2.2 k)).1 12)), .int (nI (((σ.2.2.2 k)).1 13)), .int (nI (((σ.2.2.2 k)).1 14)), .int (nI (((σ.2.2.2 k)).1 15)), .int (((σ.2.2.2 k)).2.1 0), .int (((σ.2.2.2 k)).2.1 1)], kO (ad k 1) 2 [.ref (ad k 2), .ref (ad k 3), .int (nI ((((σ.2.2.2 k)).2.2 0).length))], kI K (ad k 2) 10 (us k 0), kZ K (ad k 3) 10 (us k 1), kO (ad k 4) 2 [.ref (ad k 5), .ref (ad k 6), .int (nI ((((σ.2.2.2 k)).2.2 1).length))], kI K (ad k 5) 10 (us k 2), kZ K (ad k 6) 10 (us k 3), kO (ad k 7) 0 [.ref (ad k 8), .ref (ad k 9), .int (nI ((((σ.2.2.2 k)).2.2 2).length))], kI K (ad k 8) 5 (us k 4), kI K (ad k 9) 5 (us k 5)] rfl ?_
    refine k_aload_n hC 2 dX3_issue_45 rfl rfl ?_
    refine k_getN hC inlX1 1 8 rfl rfl (by decide) (List.mem_of_getElem? (i := 10) rfl) rfl dX3_issue_46 ?_
    refine k_perm2 [] (wX K x ad (mPut σ k (va_up (va_up (σ.2.2.2 k).1 8 ((σ.2.2.2 k).1 8 + 1)) 9 ((σ.2.2.2 k).1 9 + 1), (σ.2.2.2 k).2)) (va_up us k (us k))) (by rw [List.append_nil]; exact (wCh_close hk rfl (va_up (va_up (σ.2.2.2 k).1 8 ((σ.2.2.2 k).1 8 + 1)) 9 ((σ.2.2.2 k).1 9 + 1), (σ.2.2.2 k).2) (us k)).cons _) ?_
    exact k_iret hC hE (Nat.le_of_ble_eq_true rfl) (Nat.le_of_ble_eq_true rfl) dX3_issue_49 (by rw [show oIssue σ (nI k) = (0, nI ((σ.2.2.2 k).1 8 + 1), mPut σ k (va_up (va_up (σ.2.2.2 k).1 8 ((σ.2.2.2 k).1 8 + 1)) 9 ((σ.2.2.2 k).1 9 + 1), (σ.2.2.2 k).2)) by simp only [oIssue, oT, mIx_nI hk31, if_pos hm]; rw [if_neg (by omega)]]; exact ⟨rfl, rfl, ad, _, List.append_nil _, mURT_put hU hT⟩)
  · exact k_throw (text := "the stage has all its production cards") hC hX kTh_IS (List.mem_of_getElem? (i := 4) rfl) (fun _ h => List.mem_append_left _ h) (Or.inr ⟨by simp only [oIssue, oT, mIx_nI hk31, if_pos hm]; rw [if_pos (by omega)], rfl⟩) (Nat.le_of_ble_eq_true rfl) (Nat.le_of_ble_eq_true rfl) ⟨(Nat.le_of_ble_eq_true rfl), (Nat.le_of_ble_eq_true rfl)⟩ ⟨(Nat.le_of_ble_eq_true rfl), (Nat.le_of_ble_eq_true rfl)⟩ dX3_issue_15 dX3_issue_18 dX3_issue_19 dX3_issue_21 dX3_issue_24
abbrev rmX3_issueConveyance : Room := { frames := 8, cells := 3, slots := 18, locals := 144 }
set_option maxRecDepth 100000 in
set_option maxHeartbeats 4000000 in
theorem cX3_issueConveyance_k {l : Launch} (hst : l.stackTraces = false) (K : kE) (x : Nat) (ad : Nat → Nat → Nat) (σ : mS) (us : Nat → Nat → Nat → Int32) (hσ : mSok σ) (hU : mURT σ us) (p9 : Int32) : kX l yX3_issueConveyance (kws yX3_issueConveyance cX3_issueConveyance 3 (some .int)) rmX3_issueConveyance K [.ref x, .int p9] (wX K x ad σ us) (kPo K x (oIssueC σ p9)) (kPx (oIssueC σ p9) "java/lang/IndexOutOfBoundsException" "java/lang/IllegalStateException") := by
  refine kX_of hst (pl := []) (X := (wX K x ad σ us)) (List.append_nil _).symm (by decide) (Nat.le_of_ble_eq_true rfl) ?_
  intro p e s m args below meth cd A Q hC hX hE
  refine k_aload_n hC 0 dX3_issueConveyance_0 rfl rfl ?_
  refine k_iload_n hC 1 dX3_issueConveyance_1 rfl rfl ?_
  refine k_callXV hC hX (As := [.int p9]) (cX3_findFed_k hst K x ad σ us hσ hU p9) [] (List.append_nil _).symm (fun _ h => List.mem_append_left _ h) (fun E q => Or.inl ⟨by simp only [oIssueC, if_neg q.2], q.1⟩) 0 rfl rfl (kAll5 lkM_X3_55 lkI_yX3_findFed lkS_yX3_findFed lkN_X3 lkC_yX3_findFed) 1 (by decide) ⟨(Nat.le_of_ble_eq_true rfl), (Nat.le_of_ble_eq_true rfl)⟩ rfl rfl (Nat.le_of_ble_eq_true rfl) ⟨(Nat.le_of_ble_eq_true rfl), (Nat.le_of_ble_eq_true rfl)⟩ ⟨(Nat.le_of_ble_eq_true rfl), (Nat.le_of_ble_eq_true rfl)⟩ dX3_issueConveyance_2 (fun v w h => ?_)
  obtain ⟨k, hk1, hk, rfl, rfl, rfl⟩ := h
  refine k_re 2 12 (wX K x ad σ us) [.ref (ad k 0)] rfl rfl (List.append_nil _) rfl ?_
  have hk31 : k < 2 ^ 31 := by have := hσ.1; omega
  have hm : mHas σ 1 (nI k) := mHas_k hσ.1 hk1 hk
  have hi := hσ.2 k hk
  have hT := hU k hk
  have hn := hi.1.1
  have h9 : (σ.2.2.2 k).1 9 ≤ 9 := by have := hi.1.2.1; omega
  have hl2 := mInv_L2 hi.1
  have hl1 := mInv_L1 hi.1
  have hl0 := mInv_L0 hi.1
  have h13 := hi.1.2.2.2.2.2.2
  rw [if_neg (by simp; omega)] at h13
  obtain ⟨i9, hi9⟩ := wX_at (K := K) (x := x) (ad := ad) (us := us) hk
  refine k_astore_n hC 2 dX3_issueConveyance_5 rfl (by decide) rfl [(0, .ref x), (1, .int (nI k)), (2, .ref (ad k 0))] rfl ?_
  refine k_aload_n hC 2 dX3_issueConveyance_6 rfl rfl ?_
  refine k_getN hC inlX1 i9 13 hi9 rfl (by decide) (List.mem_of_getElem? (i := 15) rfl) rfl dX3_issueConveyance_7 ?_
  refine k_iconst hC (nI 5) dX3_issueConveyance_10 rfl ?_
  refine k_icmp_ltN hC 24 dX3_issueConveyance_11 (by decide) (by omega) (by omega) (fun c1 => ?_) (fun c1 => ?_)
  · refine k_perm2 (wCh K ad σ.2.2.2 us (fun j => true && !(j == k)) σ.1) [kO x 3 [mAh ad σ.1, .int (nI σ.1), .int (kB σ.2.1), .int (σ.2.2.1 3), .int (σ.2.2.1 4), .int (σ.2.2.1 5), .int (σ.2.2.1 6), .int (σ.2.2.1 7)], kO (ad k 0) 1 [mAh ad k, .int (nI (((σ.2.2.2 k)).1 1)), .int (nI (((σ.2.2.2 k)).1 2)), .int (nI (((σ.2.2.2 k)).1 3)), .ref (ad k 1), .ref (ad k 4), .ref (ad k 7), .int (nI (((σ.2.2.2 k)).1 7)), .int (nI (((σ.2.2.2 k)).1 8)), .int (nI (((σ.2.2.2 k)).1 9)), .int (nI (((σ.2.2.2 k)).1 10)), .int (nI (((σ.2.2.2 k)).1 11)), .int (nI (((σ.2.2.2 k)).1 12)), .int (nI (((σ.2.2.2 k)).1 13)), .int (nI (((σ.2.2.2 k)).1 14)), .int (nI (((σ.2.2.2 k)).1 15)), .int (((σ.2.2.2 k)).2.1 0), .int (((σ.2.2.2 k)).2.1 1)], kO (ad k 1) 2 [.ref (ad k 2), .ref (ad k 3), .int (nI ((((σ.2.2.2 k)).2.2 0).length))], kI K (ad k 2) 10 (us k 0), kZ K (ad k 3) 10 (us k 1), kO (ad k 4) 2 [.ref (ad k 5), .ref (ad k 6), .int (nI ((((σ.2.2.2 k)).2.2 1).length))], kI K (ad k 5) 10 (us k 2), kZ K (ad k 6) 10 (us k 3), kO (ad k 7) 0 [.ref (ad k 8), .ref (ad k 9), .int (nI ((((σ.2.2.2 k)).2.2 2).length))], kI K (ad k 8) 5 (us k 4), kI K (ad k 9) 5 (us k 5)] (by rw [List.append_nil]; exact (wCh_open hk rfl).cons _) ?_
    refine k_aload_n hC 2 dX3_issueConveyance_24 rfl rfl ?_
    refine k_dup hC dX3_issueConveyance_25 rfl ?_
    refine k_getN hC inlX1 1 13 rfl rfl (by decide) (List.mem_of_getElem? (i := 15) rfl) rfl dX3_issueConveyance_26 ?_
    refine k_iconst hC (nI 1) dX3_issueConveyance_29 rfl ?_
    refine k_iaddN hC dX3_issueConveyance_30 ?_
    refine k_putN hC inlX1 tyX1_ok nmX1 1 13 rfl rfl (by decide) (List.mem_of_getElem? (i := 15) rfl) rfl rfl rfl (Nat.le_of_ble_eq_true rfl) dX3_issueConveyance_31 [kO x 3 [mAh ad σ.1, .int (nI σ.1), .int (kB σ.2.1), .int (σ.2.2.1 3), .int (σ.2.2.1 4), .int (σ.2.2.1 5), .int (σ.2.2.1 6), .int (σ.2.2.1 7)], kO (ad k 0) 1 [mAh ad k, .int (nI (((σ.2.2.2 k)).1 1)), .int (nI (((σ.2.2.2 k)).1 2)), .int (nI (((σ.2.2.2 k)).1 3)), .ref (ad k 1), .ref (ad k 4), .ref (ad k 7), .int (nI (((σ.2.2.2 k)).1 7)), .int (nI (((σ.2.2.2 k)).1 8)), .int (nI (((σ.2.2.2 k)).1 9)), .int (nI (((σ.2.2.2 k)).1 10)), .int (nI (((σ.2.2.2 k)).1 11)), .int (nI (((σ.2.2.2 k)).1 12)), .int (nI ((((σ.2.2.2 k)).1 13) + 1)), .int (nI (((σ.2.2.2 k)).1 14)), .int (nI (((σ.2.2.2 k)).1 15)), .int (((σ.2.2.2 k)).2.1 0), .int (((σ.2.2.2 k)).2.1 1)], kO (ad k 1) 2 [.ref (ad k 2), .ref (ad k 3), .int (nI ((((σ.2.2.2 k)).2.2 0).length))], kI K (ad k 2) 10 (us k 0), kZ K (ad k 3) 10 (us k 1), kO (ad k 4) 2 [.ref (ad k 5), .ref (ad k 6), .int (nI ((((σ.2.2.2 k)).2.2 1).length))], kI K (ad k 5) 10 (us k 2), kZ K (ad k 6) 10 (us k 3), kO (ad k 7) 0 [.ref (ad k 8), .ref (ad k 9), .int (nI ((((σ.2.2.2 k)).2.2 2).length))], kI K (ad k 8) 5 (us k 4), kI K (ad k 9) 5 (us k 5)] rfl ?_
    refine k_aload_n hC 2 dX3_issueConveyance_34 rfl rfl ?_
    refine k_dup hC dX3_issueConveyance_35 rfl ?_
    refine k_getN hC inlX1 1 14 rfl rfl (by decide) (List.mem_of_getElem? (i := 16) rfl) rfl dX3_issueConveyance_36 ?_
    refine k_iconst hC (nI 1) dX3_issueConveyance_39 rfl ?_
    refine k_iaddN hC dX3_issueConveyance_40 ?_
    refine k_putN hC inlX1 tyX1_ok nmX1 1 14 rfl rfl (by decide) (List.mem_of_getElem? (i := 16) rfl) rfl rfl rfl (Nat.le_of_ble_eq_true rfl) dX3_issueConveyance_41 [kO x 3 [mAh ad σ.1, .int (nI σ.1), .int (kB σ.2.1), .int (σ.2.2.1 3), .int (σ.2.2.1 4), .int (σ.2.2.1 5), .int (σ.2.2.1 6), .int (σ.2.2.1 7)], kO (ad k 0) 1 [mAh ad k, .int (nI (((σ.2.2.2 k)).1 1)), .int (nI (((σ.2.2.2 k)).1 2)), .int (nI (((σ.2.2.2 k)).1 3)), .ref (ad k 1), .ref (ad k 4), .ref (ad k 7), .int (nI (((σ.2.2.2 k)).1 7)), .int (nI (((σ.2.2.2 k)).1 8)), .int (nI (((σ.2.2.2 k)).1 9)), .int (nI (((σ.2.2.2 k)).1 10)), .int (nI (((σ.2.2.2 k)).1 11)), .int (nI (((σ.2.2.2 k)).1 12)), .int (nI ((((σ.2.2.2 k)).1 13) + 1)), .int (nI ((((σ.2.2.2 k)).1 14) + 1)), .int (nI (((σ.2.2.2 k)).1 15)), .int (((σ.2.2.2 k)).2.1 0), .int (((σ.2.2.2 k)).2.1 1)], kO (ad k 1) 2 [.ref (ad k 2), .ref (ad k 3), .int (nI ((((σ.2.2.2 k)).2.2 0).length))], kI K (ad k 2) 10 (us k 0), kZ K (ad k 3) 10 (us k 1), kO (ad k 4) 2 [.ref (ad k 5), .ref (ad k 6), .int (nI ((((σ.2.2.2 k)).2.2 1).length))], kI K (ad k 5) 10 (us k 2), kZ K (ad k 6) 10 (us k 3), kO (ad k 7) 0 [.ref (ad k 8), .ref (ad k 9), .int (nI ((((σ.2.2.2 k)).2.2 2).length))], kI K (ad k 8) 5 (us k 4), kI K (ad k 9) 5 (us k 5)] rfl ?_
    refine k_aload_n hC 2 dX3_issueConveyance_44 rfl rfl ?_
    refine k_getN hC inlX1 1 13 rfl rfl (by decide) (List.mem_of_getElem? (i := 15) rfl) rfl dX3_issueConveyance_45 ?_
    refine k_perm2 [] (wX K x ad (mPut σ k (va_up (va_up (σ.2.2.2 k).1 13 ((σ.2.2.2 k).1 13 + 1)) 14 ((σ.2.2.2 k).1 14 + 1), (σ.2.2.2 k).2)) (va_up us k (us k))) (by rw [List.append_nil]; exact (wCh_close hk rfl (va_up (va_up (σ.2.2.2 k).1 13 ((σ.2.2.2 k).1 13 + 1)) 14 ((σ.2.2.2 k).1 14 + 1), (σ.2.2.2 k).2) (us k)).cons _) ?_
    exact k_iret hC hE (Nat.le_of_ble_eq_true rfl) (Nat.le_of_ble_eq_true rfl) dX3_issueConveyance_48 (by rw [show oIssueC σ (nI k) = (0, nI ((σ.2.2.2 k).1 13 + 1), mPut σ k (va_up (va_up (σ.2.2.2 k).1 13 ((σ.2.2.2 k).1 13 + 1)) 14 ((σ.2.2.2 k).1 14 + 1), (σ.2.2.2 k).2)) by simp only [oIssueC, oT, mIx_nI hk31, if_pos hm]; rw [if_neg (by omega)]]; exact ⟨rfl, rfl, ad, _, List.append_nil _, mURT_put hU hT⟩)
  · exact k_throw (text := "the stage has all its conveyance cards") hC hX kTh_IS (List.mem_of_getElem? (i := 6) rfl) (fun _ h => List.mem_append_left _ h) (Or.inr ⟨by simp only [oIssueC, oT, mIx_nI hk31, if_pos hm]; rw [if_pos (by omega)], rfl⟩) (Nat.le_of_ble_eq_true rfl) (Nat.le_of_ble_eq_true rfl) ⟨(Nat.le_of_ble_eq_true rfl), (Nat.le_of_ble_eq_true rfl)⟩ ⟨(Nat.le_of_ble_eq_true rfl), (Nat.le_of_ble_eq_true rfl)⟩ dX3_issueConveyance_14 dX3_issueConveyance_17 dX3_issueConveyance_18 dX3_issueConveyance_20 dX3_issueConveyance_23
theorem kx0 : True := trivial
abbrev rmX3_retire : Room := { frames := 7, cells := 2, slots := 12, locals := 122 }
set_option maxRecDepth 100000 in
set_option maxHeartbeats 4000000 in
theorem cX3_retire_k {l : Launch} (hst : l.stackTraces = false) (K : kE) (x : Nat) (ad : Nat → Nat → Nat) (σ : mS) (us : Nat → Nat → Nat → Int32) (hσ : mSok σ) (hU : mURT σ us) (p9 : Int32) : kX l yX3_retire (kws yX3_retire cX3_retire 3 (some .int)) rmX3_retire K [.ref x, .int p9] (wX K x ad σ us) (kPo K x (oRetire σ p9)) (kPx (oRetire σ p9) "java/lang/IndexOutOfBoundsException" "java/lang/IllegalStateException") := by
  refine kX_of hst (pl := []) (X := (wX K x ad σ us)) (List.append_nil _).symm (by decide) (Nat.le_of_ble_eq_true rfl) ?_
  intro p e s m args below meth cd A Q hC hX hE
  refine k_aload_n hC 0 dX3_retire_0 rfl rfl ?_
  refine k_iload_n hC 1 dX3_retire_1 rfl rfl ?_
  refine k_callXV hC hX (As := [.int p9]) (cX3_find_k hst K x ad σ us hσ hU p9) [] (List.append_nil _).symm (fun _ h => List.mem_append_left _ h) (fun E q => Or.inl ⟨by simp only [oRetire, if_neg q.2], q.1⟩) 0 rfl rfl (kAll5 lkM_X3_62 lkI_yX3_find lkS_yX3_find lkN_X3 lkC_yX3_find) 1 (by decide) ⟨(Nat.le_of_ble_eq_true rfl), (Nat.le_of_ble_eq_true rfl)⟩ rfl rfl (Nat.le_of_ble_eq_true rfl) ⟨(Nat.le_of_ble_eq_true rfl), (Nat.le_of_ble_eq_true rfl)⟩ ⟨(Nat.le_of_ble_eq_true rfl), (Nat.le_of_ble_eq_true rfl)⟩ dX3_retire_2 (fun v w h => ?_)
  obtain ⟨k, hk, rfl, rfl, rfl⟩ := h
  have hk1 := Nat.zero_le k
  refine k_re 1 6 (wX K x ad σ us) [.ref (ad k 0)] rfl rfl (List.append_nil _) rfl ?_
  have hk31 : k < 2 ^ 31 := by have := hσ.1; omega
  have hm : mHas σ 0 (nI k) := mHas_k hσ.1 hk1 hk
  have hi := hσ.2 k hk
  have hT := hU k hk
  have hn := hi.1.1
  have h9 : (σ.2.2.2 k).1 9 ≤ 9 := by have := hi.1.2.1; omega
  have hl2 := mInv_L2 hi.1
  have hl1 := mInv_L1 hi.1
  have hl0 := mInv_L0 hi.1
  obtain ⟨i9, hi9⟩ := wX_at (K := K) (x := x) (ad := ad) (us := us) hk
  refine k_astore_n hC 2 dX3_retire_5 rfl (by decide) rfl [(0, .ref x), (1, .int (nI k)), (2, .ref (ad k 0))] rfl ?_
  refine k_aload_n hC 2 dX3_retire_6 rfl rfl ?_
  refine k_getN hC inlX1 i9 9 hi9 rfl (by decide) (List.mem_of_getElem? (i := 11) rfl) rfl dX3_retire_7 ?_
  refine k_iconst hC (nI 1) dX3_retire_10 rfl ?_
  refine k_icmp_ltN hC 22 dX3_retire_11 (by decide) (by omega) (by omega) (fun c1 => ?_) (fun c1 => ?_)
  · exact k_throw (text := "no production card can be retired") hC hX kTh_IS (List.mem_of_getElem? (i := 5) rfl) (fun _ h => List.mem_append_left _ h) (Or.inr ⟨by simp only [oRetire, oT, mIx_nI hk31, if_pos hm]; rw [if_pos (by omega)], rfl⟩) (Nat.le_of_ble_eq_true rfl) (Nat.le_of_ble_eq_true rfl) ⟨(Nat.le_of_ble_eq_true rfl), (Nat.le_of_ble_eq_true rfl)⟩ ⟨(Nat.le_of_ble_eq_true rfl), (Nat.le_of_ble_eq_true rfl)⟩ dX3_retire_22 dX3_retire_25 dX3_retire_26 dX3_retire_28 dX3_retire_31
  · refine k_aload_n hC 2 dX3_retire_14 rfl rfl ?_
    refine k_getN hC inlX1 i9 8 hi9 rfl (by decide) (List.mem_of_getElem? (i := 10) rfl) rfl dX3_retire_15 ?_
    refine k_iconst hC (nI 1) dX3_retire_18 rfl ?_
    refine k_icmp_gtN hC 32 dX3_retire_19 (by decide) (by omega) (by omega) (fun c2 => ?_) (fun c2 => ?_)
    · refine k_perm2 (wCh K ad σ.2.2.2 us (fun j => true && !(j == k)) σ.1) [kO x 3 [mAh ad σ.1, .int (nI σ.1), .int (kB σ.2.1), .int (σ.2.2.1 3), .int (σ.2.2.1 4), .int (σ.2.2.1 5), .int (σ.2.2.1 6), .int (σ.2.2.1 7)], kO (ad k 0) 1 [mAh ad k, .int (nI (((σ.2.2.2 k)).1 1)), .int (nI (((σ.2.2.2 k)).1 2)), .int (nI (((σ.2.2.2 k)).1 3)), .ref (ad k 1), .ref (ad k 4), .ref (ad k 7), .int (nI (((σ.2.2.2 k)).1 7)), .int (nI (((σ.2.2.2 k)).1 8)), .int (nI (((σ.2.2.2 k)).1 9)), .int (nI (((σ.2.2.2 k)).1 10)), .int (nI (((σ.2.2.2 k)).1 11)), .int (nI (((σ.2.2.2 k)).1 12)), .int (nI (((σ.2.2.2 k)).1 13)), .int (nI (((σ.2.2.2 k)).1 14)), .int (nI (((σ.2.2.2 k)).1 15)), .int (((σ.2.2.2 k)).2.1 0), .int (((σ.2.2.2 k)).2.1 1)], kO (ad k 1) 2 [.ref (ad k 2), .ref (ad k 3), .int (nI ((((σ.2.2.2 k)).2.2 0).length))], kI K (ad k 2) 10 (us k 0), kZ K (ad k 3) 10 (us k 1), kO (ad k 4) 2 [.ref (ad k 5), .ref (ad k 6), .int (nI ((((σ.2.2.2 k)).2.2 1).length))], kI K (ad k 5) 10 (us k 2), kZ K (ad k 6) 10 (us k 3), kO (ad k 7) 0 [.ref (ad k 8), .ref (ad k 9), .int (nI ((((σ.2.2.2 k)).2.2 2).length))], kI K (ad k 8) 5 (us k 4), kI K (ad k 9) 5 (us k 5)] (by rw [List.append_nil]; exact (wCh_open hk rfl).cons _) ?_
      refine k_aload_n hC 2 dX3_retire_32 rfl rfl ?_
      refine k_dup hC dX3_retire_33 rfl ?_
      refine k_getN hC inlX1 1 8 rfl rfl (by decide) (List.mem_of_getElem? (i := 10) rfl) rfl dX3_retire_34 ?_
      refine k_iconst hC (nI 1) dX3_retire_37 rfl ?_
      refine k_isubN hC dX3_retire_38 (by omega) ?_
      refine k_putN hC inlX1 tyX1_ok nmX1 1 8 rfl rfl (by decide) (List.mem_of_getElem? (i := 10) rfl) rfl rfl rfl (Nat.le_of_ble_eq_true rfl) dX3_retire_39 [kO x 3 [mAh ad σ.1, .int (nI σ.1), .int (kB σ.2.1), .int (σ.2.2.1 3), .int (σ.2.2.1 4), .int (σ.2.2.1 5), .int (σ.2.2.1 6), .int (σ.2.2.1 7)], kO (ad k 0) 1 [mAh ad k, .int (nI (((σ.2.2.2 k)).1 1)), .int (nI (((σ.2.2.2 k)).1 2)), .int (nI (((σ.2.2.2 k)).1 3)), .ref (ad k 1), .ref (ad k 4), .ref (ad k 7), .int (nI (((σ.2.2.2 k)).1 7)), .int (nI ((((σ.2.2.2 k)).1 8) - 1)), .int (nI (((σ.2.2.2 k)).1 9)), .int (nI (((σ.2.2.2 k)).1 10)), .int (nI (((σ.2.2.2 k)).1 11)), .int (nI (((σ.2.2.2 k)).1 12)), .int (nI (((σ.2.2.2 k)).1 13)), .int (nI (((σ.2.2.2 k)).1 14)), .int (nI (((σ.2.2.2 k)).1 15)), .int (((σ.2.2.2 k)).2.1 0), .int (((σ.2.2.2 k)).2.1 1)], kO (ad k 1) 2 [.ref (ad k 2), .ref (ad k 3), .int (nI ((((σ.2.2.2 k)).2.2 0).length))], kI K (ad k 2) 10 (us k 0), kZ K (ad k 3) 10 (us k 1), kO (ad k 4) 2 [.ref (ad k 5), .ref (ad k 6), .int (nI ((((σ.2.2.2 k)).2.2 1).length))], kI K (ad k 5) 10 (us k 2), kZ K (ad k 6) 10 (us k 3), kO (ad k 7) 0 [.ref (ad k 8), .ref (ad k 9), .int (nI ((((σ.2.2.2 k)).2.2 2).length))], kI K (ad k 8) 5 (us k 4), kI K (ad k 9) 5 (us k 5)] rfl ?_
      refine k_aload_n hC 2 dX3_retire_42 rfl rfl ?_
      refine k_dup hC dX3_retire_43 rfl ?_
      refine k_getN hC inlX1 1 9 rfl rfl (by decide) (List.mem_of_getElem? (i := 11) rfl) rfl dX3_retire_44 ?_
      refine k_iconst hC (nI 1) dX3_retire_47 rfl ?_
      refine k_isubN hC dX3_retire_48 (by omega) ?_
      refine k_putN hC inlX1 tyX1_ok nmX1 1 9 rfl rfl (by decide) (List.mem_of_getElem? (i := 11) rfl) rfl rfl rfl (Nat.le_of_ble_eq_true rfl) dX3_retire_49 [kO x 3 [mAh ad σ.1, .int (nI σ.1), .int (kB σ.2.1), .int (σ.2.2.1 3), .int (σ.2.2.1 4), .int (σ.2.2.1 5), .int (σ.2.2.1 6), .int (σ.2.2.1 7)], kO (ad k 0) 1 [mAh ad k, .int (nI (((σ.2.2.2 k)).1 1)), .int (nI (((σ.2.2.2 k)).1 2)), .int (nI (((σ.2.2.2 k)).1 3)), .ref (ad k 1), .ref (ad k 4), .ref (ad k 7), .int (nI (((σ.2.2.2 k)).1 7)), .int (nI ((((σ.2.2.2 k)).1 8) - 1)), .int (nI ((((σ.2.2.2 k)).1 9) - 1)), .int (nI (((σ.2.2.2 k)).1 10)), .int (nI (((σ.2.2.2 k)).1 11)), .int (nI (((σ.2.2.2 k)).1 12)), .int (nI (((σ.2.2.2 k)).1 13)), .int (nI (((σ.2.2.2 k)).1 14)), .int (nI (((σ.2.2.2 k)).1 15)), .int (((σ.2.2.2 k)).2.1 0), .int (((σ.2.2.2 k)).2.1 1)], kO (ad k 1) 2 [.ref (ad k 2), .ref (ad k 3), .int (nI ((((σ.2.2.2 k)).2.2 0).length))], kI K (ad k 2) 10 (us k 0), kZ K (ad k 3) 10 (us k 1), kO (ad k 4) 2 [.ref (ad k 5), .ref (ad k 6), .int (nI ((((σ.2.2.2 k)).2.2 1).length))], kI K (ad k 5) 10 (us k 2), kZ K (ad k 6) 10 (us k 3), kO (ad k 7) 0 [.ref (ad k 8), .ref (ad k 9), .int (nI ((((σ.2.2.2 k)).2.2 2).length))], kI K (ad k 8) 5 (us k 4), kI K (ad k 9) 5 (us k 5)] rfl ?_
      refine k_aload_n hC 2 dX3_retire_52 rfl rfl ?_
      refine k_aload_n hC 2 dX3_retire_53 rfl rfl ?_
      refine k_getN hC inlX1 1 11 rfl rfl (by decide) (List.mem_of_getElem? (i := 13) rfl) rfl dX3_retire_54 ?_
      refine k_aload_n hC 2 dX3_retire_57 rfl rfl ?_
      refine k_getN hC inlX1 1 9 rfl rfl (by decide) (List.mem_of_getElem? (i := 11) rfl) rfl dX3_retire_58 ?_
      refine k_min hC lkM_X3_84 lkT_Math_min_name lkN_J9 lkC_Math_min_name (Nat.le_of_ble_eq_true rfl) (Nat.le_of_ble_eq_true rfl) (Nat.le_of_ble_eq_true rfl) (Nat.le_of_ble_eq_true rfl) dX3_retire_61 ?_
      refine k_topE (nI (min ((σ.2.2.2 k).1 11) ((σ.2.2.2 k).1 9 - 1))) (kminN (by omega) (by omega)) ?_
      refine k_putN hC inlX1 tyX1_ok nmX1 1 11 rfl rfl (by decide) (List.mem_of_getElem? (i := 13) rfl) rfl rfl rfl (Nat.le_of_ble_eq_true rfl) dX3_retire_64 [kO x 3 [mAh ad σ.1, .int (nI σ.1), .int (kB σ.2.1), .int (σ.2.2.1 3), .int (σ.2.2.1 4), .int (σ.2.2.1 5), .int (σ.2.2.1 6), .int (σ.2.2.1 7)], kO (ad k 0) 1 [mAh ad k, .int (nI (((σ.2.2.2 k)).1 1)), .int (nI (((σ.2.2.2 k)).1 2)), .int (nI (((σ.2.2.2 k)).1 3)), .ref (ad k 1), .ref (ad k 4), .ref (ad k 7), .int (nI (((σ.2.2.2 k)).1 7)), .int (nI ((((σ.2.2.2 k)).1 8) - 1)), .int (nI ((((σ.2.2.2 k)).1 9) - 1)), .int (nI (((σ.2.2.2 k)).1 10)), .int (nI (min ((σ.2.2.2 k).1 11) ((σ.2.2.2 k).1 9 - 1))), .int (nI (((σ.2.2.2 k)).1 12)), .int (nI (((σ.2.2.2 k)).1 13)), .int (nI (((σ.2.2.2 k)).1 14)), .int (nI (((σ.2.2.2 k)).1 15)), .int (((σ.2.2.2 k)).2.1 0), .int (((σ.2.2.2 k)).2.1 1)], kO (ad k 1) 2 [.ref (ad k 2), .ref (ad k 3), .int (nI ((((σ.2.2.2 k)).2.2 0).length))], kI K (ad k 2) 10 (us k 0), kZ K (ad k 3) 10 (us k 1), kO (ad k 4) 2 [.ref (ad k 5), .ref (ad k 6), .int (nI ((((σ.2.2.2 k)).2.2 1).length))], kI K (ad k 5) 10 (us k 2), kZ K (ad k 6) 10 (us k 3), kO (ad k 7) 0 [.ref (ad k 8), .ref (ad k 9), .int (nI ((((σ.2.2.2 k)).2.2 2).length))], kI K (ad k 8) 5 (us k 4), kI K (ad k 9) 5 (us k 5)] rfl ?_
      refine k_aload_n hC 2 dX3_retire_67 rfl rfl ?_
      refine k_getN hC inlX1 1 8 rfl rfl (by decide) (List.mem_of_getElem? (i := 10) rfl) rfl dX3_retire_68 ?_
      refine k_perm2 [] (wX K x ad (mPut σ k (va_up (va_up (va_up (σ.2.2.2 k).1 8 ((σ.2.2.2 k).1 8 - 1)) 9 ((σ.2.2.2 k).1 9 - 1)) 11 (min ((σ.2.2.2 k).1 11) ((σ.2.2.2 k).1 9 - 1)), (σ.2.2.2 k).2)) (va_up us k (us k))) (by rw [List.append_nil]; exact (wCh_close hk rfl (va_up (va_up (va_up (σ.2.2.2 k).1 8 ((σ.2.2.2 k).1 8 - 1)) 9 ((σ.2.2.2 k).1 9 - 1)) 11 (min ((σ.2.2.2 k).1 11) ((σ.2.2.2 k).1 9 - 1)), (σ.2.2.2 k).2) (us k)).cons _) ?_
      exact k_iret hC hE (Nat.le_of_ble_eq_true rfl) (Nat.le_of_ble_eq_true rfl) dX3_retire_71 (by rw [show oRetire σ (nI k) = (0, nI ((σ.2.2.2 k).1 8 - 1), mPut σ k (va_up (va_up (va_up (σ.2.2.2 k).1 8 ((σ.2.2.2 k).1 8 - 1)) 9 ((σ.2.2.2 k).1 9 - 1)) 11 (min ((σ.2.2.2 k).1 11) ((σ.2.2.2 k).1 9 - 1)), (σ.2.2.2 k).2)) by simp only [oRetire, oT, mIx_nI hk31, if_pos hm]; rw [if_neg (by omega)]]; exact ⟨rfl, rfl, ad, _, List.append_nil _, mURT_put hU hT⟩)
    · exact k_throw (text := "no production card can be retired") hC hX kTh_IS (List.mem_of_getElem? (i := 5) rfl) (fun _ h => List.mem_append_left _ h) (Or.inr ⟨by simp only [oRetire, oT, mIx_nI hk31, if_pos hm]; rw [if_pos (by omega)], rfl⟩) (Nat.le_of_ble_eq_true rfl) (Nat.le_of_ble_eq_true rfl) ⟨(Nat.le_of_ble_eq_true rfl), (Nat.le_of_ble_eq_true rfl)⟩ ⟨(Nat.le_of_ble_eq_true rfl), (Nat.le_of_ble_eq_true rfl)⟩ dX3_retire_22 dX3_retire_25 dX3_retire_26 dX3_retire_28 dX3_retire_31
abbrev rmX3_retireConveyance : Room := { frames := 8, cells := 3, slots := 18, locals := 144 }
set_option maxRecDepth 100000 in
set_option maxHeartbeats 4000000 in
theorem cX3_retireConveyance_k {l : Launch} (hst : l.stackTraces = false) (K : kE) (x : Nat) (ad : Nat → Nat → Nat) (σ : mS) (us : Nat → Nat → Nat → Int32) (hσ : mSok σ) (hU : mURT σ us) (p9 : Int32) : kX l yX3_retireConveyance (kws yX3_retireConveyance cX3_retireConveyance 3 (some .int)) rmX3_retireConveyance K [.ref x, .int p9] (wX K x ad σ us) (kPo K x (oRetireC σ p9)) (kPx (oRetireC σ p9) "java/lang/IndexOutOfBoundsException" "java/lang/IllegalStateException") := by
  refine kX_of hst (pl := []) (X := (wX K x ad σ us)) (List.append_nil _).symm (by decide) (Nat.le_of_ble_eq_true rfl) ?_
  intro p e s m args below meth cd A Q hC hX hE
  refine k_aload_n hC 0 dX3_retireConveyance_0 rfl rfl ?_
  refine k_iload_n hC 1 dX3_retireConveyance_1 rfl rfl ?_
  refine k_callXV hC hX (As := [.int p9]) (cX3_findFed_k hst K x ad σ us hσ hU p9) [] (List.append_nil _).symm (fun _ h => List.mem_append_left _ h) (fun E q => Or.inl ⟨by simp only [oRetireC, if_neg q.2], q.1⟩) 0 rfl rfl (kAll5 lkM_X3_55 lkI_yX3_findFed lkS_yX3_findFed lkN_X3 lkC_yX3_findFed) 1 (by decide) ⟨(Nat.le_of_ble_eq_true rfl), (Nat.le_of_ble_eq_true rfl)⟩ rfl rfl (Nat.le_of_ble_eq_true rfl) ⟨(Nat.le_of_ble_eq_true rfl), (Nat.le_of_ble_eq_true rfl)⟩ ⟨(Nat.le_of_ble_eq_true rfl), (Nat.le_of_ble_eq_true rfl)⟩ dX3_retireConveyance_2 (fun v w h => ?_)
  obtain ⟨k, hk1, hk, rfl, rfl, rfl⟩ := h
  refine k_re 2 12 (wX K x ad σ us) [.ref (ad k 0)] rfl rfl (List.append_nil _) rfl ?_
  have hk31 : k < 2 ^ 31 := by have := hσ.1; omega
  have hm : mHas σ 1 (nI k) := mHas_k hσ.1 hk1 hk
  have hi := hσ.2 k hk
  have hT := hU k hk
  have hn := hi.1.1
  have h9 : (σ.2.2.2 k).1 9 ≤ 9 := by have := hi.1.2.1; omega
  have hl2 := mInv_L2 hi.1
  have hl1 := mInv_L1 hi.1
  have hl0 := mInv_L0 hi.1
  have h13 := hi.1.2.2.2.2.2.2
  rw [if_neg (by simp; omega)] at h13
  obtain ⟨i9, hi9⟩ := wX_at (K := K) (x := x) (ad := ad) (us := us) hk
  refine k_astore_n hC 2 dX3_retireConveyance_5 rfl (by decide) rfl [(0, .ref x), (1, .int (nI k)), (2, .ref (ad k 0))] rfl ?_
  refine k_aload_n hC 2 dX3_retireConveyance_6 rfl rfl ?_
  refine k_getN hC inlX1 i9 14 hi9 rfl (by decide) (List.mem_of_getElem? (i := 16) rfl) rfl dX3_retireConveyance_7 ?_
  refine k_iconst hC (nI 1) dX3_retireConveyance_10 rfl ?_
  refine k_icmp_ltN hC 22 dX3_retireConveyance_11 (by decide) (by omega) (by omega) (fun c1 => ?_) (fun c1 => ?_)
  · exact k_throw (text := "no conveyance card can be retired") hC hX kTh_IS (List.mem_of_getElem? (i := 7) rfl) (fun _ h => List.mem_append_left _ h) (Or.inr ⟨by simp only [oRetireC, oT, mIx_nI hk31, if_pos hm]; rw [if_pos (by omega)], rfl⟩) (Nat.le_of_ble_eq_true rfl) (Nat.le_of_ble_eq_true rfl) ⟨(Nat.le_of_ble_eq_true rfl), (Nat.le_of_ble_eq_true rfl)⟩ ⟨(Nat.le_of_ble_eq_true rfl), (Nat.le_of_ble_eq_true rfl)⟩ dX3_retireConveyance_22 dX3_retireConveyance_25 dX3_retireConveyance_26 dX3_retireConveyance_28 dX3_retireConveyance_31
  · refine k_aload_n hC 2 dX3_retireConveyance_14 rfl rfl ?_
    refine k_getN hC inlX1 i9 13 hi9 rfl (by decide) (List.mem_of_getElem? (i := 15) rfl) rfl dX3_retireConveyance_15 ?_
    refine k_iconst hC (nI 1) dX3_retireConveyance_18 rfl ?_
    refine k_icmp_gtN hC 32 dX3_retireConveyance_19 (by decide) (by omega) (by omega) (fun c2 => ?_) (fun c2 => ?_)
    · refine k_perm2 (wCh K ad σ.2.2.2 us (fun j => true && !(j == k)) σ.1) [kO x 3 [mAh ad σ.1, .int (nI σ.1), .int (kB σ.2.1), .int (σ.2.2.1 3), .int (σ.2.2.1 4), .int (σ.2.2.1 5), .int (σ.2.2.1 6), .int (σ.2.2.1 7)], kO (ad k 0) 1 [mAh ad k, .int (nI (((σ.2.2.2 k)).1 1)), .int (nI (((σ.2.2.2 k)).1 2)), .int (nI (((σ.2.2.2 k)).1 3)), .ref (ad k 1), .ref (ad k 4), .ref (ad k 7), .int (nI (((σ.2.2.2 k)).1 7)), .int (nI (((σ.2.2.2 k)).1 8)), .int (nI (((σ.2.2.2 k)).1 9)), .int (nI (((σ.2.2.2 k)).1 10)), .int (nI (((σ.2.2.2 k)).1 11)), .int (nI (((σ.2.2.2 k)).1 12)), .int (nI (((σ.2.2.2 k)).1 13)), .int (nI (((σ.2.2.2 k)).1 14)), .int (nI (((σ.2.2.2 k)).1 15)), .int (((σ.2.2.2 k)).2.1 0), .int (((σ.2.2.2 k)).2.1 1)], kO (ad k 1) 2 [.ref (ad k 2), .ref (ad k 3), .int (nI ((((σ.2.2.2 k)).2.2 0).length))], kI K (ad k 2) 10 (us k 0), kZ K (ad k 3) 10 (us k 1), kO (ad k 4) 2 [.ref (ad k 5), .ref (ad k 6), .int (nI ((((σ.2.2.2 k)).2.2 1).length))], kI K (ad k 5) 10 (us k 2), kZ K (ad k 6) 10 (us k 3), kO (ad k 7) 0 [.ref (ad k 8), .ref (ad k 9), .int (nI ((((σ.2.2.2 k)).2.2 2).length))], kI K (ad k 8) 5 (us k 4), kI K (ad k 9) 5 (us k 5)] (by rw [List.append_nil]; exact (wCh_open hk rfl).cons _) ?_
      refine k_aload_n hC 2 dX3_retireConveyance_32 rfl rfl ?_
      refine k_dup hC dX3_retireConveyance_33 rfl ?_
      refine k_getN hC inlX1 1 13 rfl rfl (by decide) (List.mem_of_getElem? (i := 15) rfl) rfl dX3_retireConveyance_34 ?_
      refine k_iconst hC (nI 1) dX3_retireConveyance_37 rfl ?_
      refine k_isubN hC dX3_retireConveyance_38 (by omega) ?_
      refine k_putN hC inlX1 tyX1_ok nmX1 1 13 rfl rfl (by decide) (List.mem_of_getElem? (i := 15) rfl) rfl rfl rfl (Nat.le_of_ble_eq_true rfl) dX3_retireConveyance_39 [kO x 3 [mAh ad σ.1, .int (nI σ.1), .int (kB σ.2.1), .int (σ.2.2.1 3), .int (σ.2.2.1 4), .int (σ.2.2.1 5), .int (σ.2.2.1 6), .int (σ.2.2.1 7)], kO (ad k 0) 1 [mAh ad k, .int (nI (((σ.2.2.2 k)).1 1)), .int (nI (((σ.2.2.2 k)).1 2)), .int (nI (((σ.2.2.2 k)).1 3)), .ref (ad k 1), .ref (ad k 4), .ref (ad k 7), .int (nI (((σ.2.2.2 k)).1 7)), .int (nI (((σ.2.2.2 k)).1 8)), .int (nI (((σ.2.2.2 k)).1 9)), .int (nI (((σ.2.2.2 k)).1 10)), .int (nI (((σ.2.2.2 k)).1 11)), .int (nI (((σ.2.2.2 k)).1 12)), .int (nI ((((σ.2.2.2 k)).1 13) - 1)), .int (nI (((σ.2.2.2 k)).1 14)), .int (nI (((σ.2.2.2 k)).1 15)), .int (((σ.2.2.2 k)).2.1 0), .int (((σ.2.2.2 k)).2.1 1)], kO (ad k 1) 2 [.ref (ad k 2), .ref (ad k 3), .int (nI ((((σ.2.2.2 k)).2.2 0).length))], kI K (ad k 2) 10 (us k 0), kZ K (ad k 3) 10 (us k 1), kO (ad k 4) 2 [.ref (ad k 5), .ref (ad k 6), .int (nI ((((σ.2.2.2 k)).2.2 1).length))], kI K (ad k 5) 10 (us k 2), kZ K (ad k 6) 10 (us k 3), kO (ad k 7) 0 [.ref (ad k 8), .ref (ad k 9), .int (nI ((((σ.2.2.2 k)).2.2 2).length))], kI K (ad k 8) 5 (us k 4), kI K (ad k 9) 5 (us k 5)] rfl ?_
      refine k_aload_n hC 2 dX3_retireConveyance_42 rfl rfl ?_
      refine k_dup hC dX3_retireConveyance_43 rfl ?_
      refine k_getN hC inlX1 1 14 rfl rfl (by decide) (List.mem_of_getElem? (i := 16) rfl) rfl dX3_retireConveyance_44 ?_
      refine k_iconst hC (nI 1) dX3_retireConveyance_47 rfl ?_
      refine k_isubN hC dX3_retireConveyance_48 (by omega) ?_
      refine k_putN hC inlX1 tyX1_ok nmX1 1 14 rfl rfl (by decide) (List.mem_of_getElem? (i := 16) rfl) rfl rfl rfl (Nat.le_of_ble_eq_true rfl) dX3_retireConveyance_49 [kO x 3 [mAh ad σ.1, .int (nI σ.1), .int (kB σ.2.1), .int (σ.2.2.1 3), .int (σ.2.2.1 4), .int (σ.2.2.1 5), .int (σ.2.2.1 6), .int (σ.2.2.1 7)], kO (ad k 0) 1 [mAh ad k, .int (nI (((σ.2.2.2 k)).1 1)), .int (nI (((σ.2.2.2 k)).1 2)), .int (nI (((σ.2.2.2 k)).1 3)), .ref (ad k 1), .ref (ad k 4), .ref (ad k 7), .int (nI (((σ.2.2.2 k)).1 7)), .int (nI (((σ.2.2.2 k)).1 8)), .int (nI (((σ.2.2.2 k)).1 9)), .int (nI (((σ.2.2.2 k)).1 10)), .int (nI (((σ.2.2.2 k)).1 11)), .int (nI (((σ.2.2.2 k)).1 12)), .int (nI ((((σ.2.2.2 k)).1 13) - 1)), .int (nI ((((σ.2.2.2 k)).1 14) - 1)), .int (nI (((σ.2.2.2 k)).1 15)), .int (((σ.2.2.2 k)).2.1 0), .int (((σ.2.2.2 k)).2.1 1)], kO (ad k 1) 2 [.ref (ad k 2), .ref (ad k 3), .int (nI ((((σ.2.2.2 k)).2.2 0).length))], kI K (ad k 2) 10 (us k 0), kZ K (ad k 3) 10 (us k 1), kO (ad k 4) 2 [.ref (ad k 5), .ref (ad k 6), .int (nI ((((σ.2.2.2 k)).2.2 1).length))], kI K (ad k 5) 10 (us k 2), kZ K (ad k 6) 10 (us k 3), kO (ad k 7) 0 [.ref (ad k 8), .ref (ad k 9), .int (nI ((((σ.2.2.2 k)).2.2 2).length))], kI K (ad k 8) 5 (us k 4), kI K (ad k 9) 5 (us k 5)] rfl ?_
      refine k_aload_n hC 2 dX3_retireConveyance_52 rfl rfl ?_
      refine k_getN hC inlX1 1 13 rfl rfl (by decide) (List.mem_of_getElem? (i := 15) rfl) rfl dX3_retireConveyance_53 ?_
      refine k_perm2 [] (wX K x ad (mPut σ k (va_up (va_up (σ.2.2.2 k).1 13 ((σ.2.2.2 k).1 13 - 1)) 14 ((σ.2.2.2 k).1 14 - 1), (σ.2.2.2 k).2)) (va_up us k (us k))) (by rw [List.append_nil]; exact (wCh_close hk rfl (va_up (va_up (σ.2.2.2 k).1 13 ((σ.2.2.2 k).1 13 - 1)) 14 ((σ.2.2.2 k).1 14 - 1), (σ.2.2.2 k).2) (us k)).cons _) ?_
      exact k_iret hC hE (Nat.le_of_ble_eq_true rfl) (Nat.le_of_ble_eq_true rfl) dX3_retireConveyance_56 (by rw [show oRetireC σ (nI k) = (0, nI ((σ.2.2.2 k).1 13 - 1), mPut σ k (va_up (va_up (σ.2.2.2 k).1 13 ((σ.2.2.2 k).1 13 - 1)) 14 ((σ.2.2.2 k).1 14 - 1), (σ.2.2.2 k).2)) by simp only [oRetireC, oT, mIx_nI hk31, if_pos hm]; rw [if_neg (by omega)]]; exact ⟨rfl, rfl, ad, _, List.append_nil _, mURT_put hU hT⟩)
    · exact k_throw (text := "no conveyance card can be retired") hC hX kTh_IS (List.mem_of_getElem? (i := 7) rfl) (fun _ h => List.mem_append_left _ h) (Or.inr ⟨by simp only [oRetireC, oT, mIx_nI hk31, if_pos hm]; rw [if_pos (by omega)], rfl⟩) (Nat.le_of_ble_eq_true rfl) (Nat.le_of_ble_eq_true rfl) ⟨(Nat.le_of_ble_eq_true rfl), (Nat.le_of_ble_eq_true rfl)⟩ ⟨(Nat.le_of_ble_eq_true rfl), (Nat.le_of_ble_eq_true rfl)⟩ dX3_retireConveyance_22 dX3_retireConveyance_25 dX3_retireConveyance_26 dX3_retireConveyance_28 dX3_retireConveyance_31
abbrev rmX3_board : Room := { frames := 7, cells := 1, slots := 6, locals := 122 }
set_option maxRecDepth 100000 in
set_option maxHeartbeats 4000000 in
theorem cX3_board_k {l : Launch} (hst : l.stackTraces = false) (K : kE) (x : Nat) (ad : Nat → Nat → Nat) (σ : mS) (us : Nat → Nat → Nat → Int32) (hσ : mSok σ) (hU : mURT σ us) (p9 : Int32) : kX l yX3_board (kws yX3_board cX3_board 2 (some .int)) rmX3_board K [.ref x, .int p9] (wX K x ad σ us) (kPo K x (oGet σ p9 (fun τ => nI (τ.1 9)))) (kPx (oGet σ p9 (fun τ => nI (τ.1 9))) "java/lang/IndexOutOfBoundsException" "") := by
  refine kX_of hst (pl := []) (X := (wX K x ad σ us)) (List.append_nil _).symm (by decide) (Nat.le_of_ble_eq_true rfl) ?_
  intro p e s m args below meth cd A Q hC hX hE
  refine k_aload_n hC 0 dX3_board_0 rfl rfl ?_
  refine k_iload_n hC 1 dX3_board_1 rfl rfl ?_
  refine k_callXV hC hX (As := [.int p9]) (cX3_find_k hst K x ad σ us hσ hU p9) [] (List.append_nil _).symm (fun _ h => List.mem_append_left _ h) (fun E q => Or.inl ⟨by simp only [oGet, if_neg q.2], q.1⟩) 0 rfl rfl (kAll5 lkM_X3_62 lkI_yX3_find lkS_yX3_find lkN_X3 lkC_yX3_find) 1 (by decide) ⟨(Nat.le_of_ble_eq_true rfl), (Nat.le_of_ble_eq_true rfl)⟩ rfl rfl (Nat.le_of_ble_eq_true rfl) ⟨(Nat.le_of_ble_eq_true rfl), (Nat.le_of_ble_eq_true rfl)⟩ ⟨(Nat.le_of_ble_eq_true rfl), (Nat.le_of_ble_eq_true rfl)⟩ dX3_board_2 (fun v w h => ?_)
  obtain ⟨k, hk, rfl, rfl, rfl⟩ := h
  have hk1 := Nat.zero_le k
  refine k_re 1 6 (wX K x ad σ us) [.ref (ad k 0)] rfl rfl (List.append_nil _) rfl ?_
  have hk31 : k < 2 ^ 31 := by have := hσ.1; omega
  have hm : mHas σ 0 (nI k) := mHas_k hσ.1 hk1 hk
  have hi := hσ.2 k hk
  have hT := hU k hk
  have hn := hi.1.1
  have h9 : (σ.2.2.2 k).1 9 ≤ 9 := by have := hi.1.2.1; omega
  have hl2 := mInv_L2 hi.1
  have hl1 := mInv_L1 hi.1
  have hl0 := mInv_L0 hi.1
  obtain ⟨i9, hi9⟩ := wX_at (K := K) (x := x) (ad := ad) (us := us) hk
  refine k_perm2 (wCh K ad σ.2.2.2 us (fun j => true && !(j == k)) σ.1) [kO x 3 [mAh ad σ.1, .int (nI σ.1), .int (kB σ.2.1), .int (σ.2.2.1 3), .int (σ.2.2.1 4), .int (σ.2.2.1 5), .int (σ.2.2.1 6), .int (σ.2.2.1 7)], kO (ad k 0) 1 [mAh ad k, .int (nI (((σ.2.2.2 k)).1 1)), .int (nI (((σ.2.2.2 k)).1 2)), .int (nI (((σ.2.2.2 k)).1 3)), .ref (ad k 1), .ref (ad k 4), .ref (ad k 7), .int (nI (((σ.2.2.2 k)).1 7)), .int (nI (((σ.2.2.2 k)).1 8)), .int (nI (((σ.2.2.2 k)).1 9)), .int (nI (((σ.2.2.2 k)).1 10)), .int (nI (((σ.2.2.2 k)).1 11)), .int (nI (((σ.2.2.2 k)).1 12)), .int (nI (((σ.2.2.2 k)).1 13)), .int (nI (((σ.2.2.2 k)).1 14)), .int (nI (((σ.2.2.2 k)).1 15)), .int (((σ.2.2.2 k)).2.1 0), .int (((σ.2.2.2 k)).2.1 1)], kO (ad k 1) 2 [.ref (ad k 2), .ref (ad k 3), .int (nI ((((σ.2.2.2 k)).2.2 0).length))], kI K (ad k 2) 10 (us k 0), kZ K (ad k 3) 10 (us k 1), kO (ad k 4) 2 [.ref (ad k 5), .ref (ad k 6), .int (nI ((((σ.2.2.2 k)).2.2 1).length))], kI K (ad k 5) 10 (us k 2), kZ K (ad k 6) 10 (us k 3), kO (ad k 7) 0 [.ref (ad k 8), .ref (ad k 9), .int (nI ((((σ.2.2.2 k)).2.2 2).length))], kI K (ad k 8) 5 (us k 4), kI K (ad k 9) 5 (us k 5)] (by rw [List.append_nil]; exact (wCh_open hk rfl).cons _) ?_
  refine k_getN hC inlX1 1 9 rfl rfl (by decide) (List.mem_of_getElem? (i := 11) rfl) rfl dX3_board_5 ?_
  refine k_perm2 [] (wX K x ad σ us) (by rw [List.append_nil]; exact ((wCh_open hk rfl).symm).cons _) ?_
  exact k_iret hC hE (Nat.le_of_ble_eq_true rfl) (Nat.le_of_ble_eq_true rfl) dX3_board_8 (by rw [show oGet σ (nI k) (fun τ => nI (τ.1 9)) = (0, (fun τ => nI (τ.1 9)) (σ.2.2.2 k), σ) by simp only [oGet, oT, mIx_nI hk31, if_pos hm]]; exact ⟨rfl, rfl, ad, us, List.append_nil _, hU⟩)
abbrev rmX3_attached : Room := { frames := 7, cells := 1, slots := 6, locals := 122 }
set_option maxRecDepth 100000 in
set_option maxHeartbeats 4000000 in
theorem cX3_attached_k {l : Launch} (hst : l.stackTraces = false) (K : kE) (x : Nat) (ad : Nat → Nat → Nat) (σ : mS) (us : Nat → Nat → Nat → Int32) (hσ : mSok σ) (hU : mURT σ us) (p9 : Int32) : kX l yX3_attached (kws yX3_attached cX3_attached 2 (some .int)) rmX3_attached K [.ref x, .int p9] (wX K x ad σ us) (kPo K x (oGet σ p9 (fun τ => nI (mCs (τ.2.2 0))))) (kPx (oGet σ p9 (fun τ => nI (mCs (τ.2.2 0)))) "java/lang/IndexOutOfBoundsException" "") := by
  refine kX_of hst (pl := []) (X := (wX K x ad σ us)) (List.append_nil _).symm (by decide) (Nat.le_of_ble_eq_true rfl) ?_
  intro p e s m args below meth cd A Q hC hX hE
  refine k_aload_n hC 0 dX3_attached_0 rfl rfl ?_
  refine k_iload_n hC 1 dX3_attached_1 rfl rfl ?_
  refine k_callXV hC hX (As := [.int p9]) (cX3_find_k hst K x ad σ us hσ hU p9) [] (List.append_nil _).symm (fun _ h => List.mem_append_left _ h) (fun E q => Or.inl ⟨by simp only [oGet, if_neg q.2], q.1⟩) 0 rfl rfl (kAll5 lkM_X3_62 lkI_yX3_find lkS_yX3_find lkN_X3 lkC_yX3_find) 1 (by decide) ⟨(Nat.le_of_ble_eq_true rfl), (Nat.le_of_ble_eq_true rfl)⟩ rfl rfl (Nat.le_of_ble_eq_true rfl) ⟨(Nat.le_of_ble_eq_true rfl), (Nat.le_of_ble_eq_true rfl)⟩ ⟨(Nat.le_of_ble_eq_true rfl), (Nat.le_of_ble_eq_true rfl)⟩ dX3_attached_2 (fun v w h => ?_)
  obtain ⟨k, hk, rfl, rfl, rfl⟩ := h
  have hk1 := Nat.zero_le k
  refine k_re 1 6 (wX K x ad σ us) [.ref (ad k 0)] rfl rfl (List.append_nil _) rfl ?_
  have hk31 : k < 2 ^ 31 := by have := hσ.1; omega
  have hm : mHas σ 0 (nI k) := mHas_k hσ.1 hk1 hk
  have hi := hσ.2 k hk
  have hT := hU k hk
  have hn := hi.1.1
  have h9 : (σ.2.2.2 k).1 9 ≤ 9 := by have := hi.1.2.1; omega
  have hl2 := mInv_L2 hi.1
  have hl1 := mInv_L1 hi.1
  have hl0 := mInv_L0 hi.1
  obtain ⟨i9, hi9⟩ := wX_at (K := K) (x := x) (ad := ad) (us := us) hk
  refine k_perm2 (wCh K ad σ.2.2.2 us (fun j => true && !(j == k)) σ.1) [kO x 3 [mAh ad σ.1, .int (nI σ.1), .int (kB σ.2.1), .int (σ.2.2.1 3), .int (σ.2.2.1 4), .int (σ.2.2.1 5), .int (σ.2.2.1 6), .int (σ.2.2.1 7)], kO (ad k 0) 1 [mAh ad k, .int (nI (((σ.2.2.2 k)).1 1)), .int (nI (((σ.2.2.2 k)).1 2)), .int (nI (((σ.2.2.2 k)).1 3)), .ref (ad k 1), .ref (ad k 4), .ref (ad k 7), .int (nI (((σ.2.2.2 k)).1 7)), .int (nI (((σ.2.2.2 k)).1 8)), .int (nI (((σ.2.2.2 k)).1 9)), .int (nI (((σ.2.2.2 k)).1 10)), .int (nI (((σ.2.2.2 k)).1 11)), .int (nI (((σ.2.2.2 k)).1 12)), .int (nI (((σ.2.2.2 k)).1 13)), .int (nI (((σ.2.2.2 k)).1 14)), .int (nI (((σ.2.2.2 k)).1 15)), .int (((σ.2.2.2 k)).2.1 0), .int (((σ.2.2.2 k)).2.1 1)], kO (ad k 1) 2 [.ref (ad k 2), .ref (ad k 3), .int (nI ((((σ.2.2.2 k)).2.2 0).length))], kI K (ad k 2) 10 (us k 0), kZ K (ad k 3) 10 (us k 1), kO (ad k 4) 2 [.ref (ad k 5), .ref (ad k 6), .int (nI ((((σ.2.2.2 k)).2.2 1).length))], kI K (ad k 5) 10 (us k 2), kZ K (ad k 6) 10 (us k 3), kO (ad k 7) 0 [.ref (ad k 8), .ref (ad k 9), .int (nI ((((σ.2.2.2 k)).2.2 2).length))], kI K (ad k 8) 5 (us k 4), kI K (ad k 9) 5 (us k 5)] (by rw [List.append_nil]; exact (wCh_open hk rfl).cons _) ?_
  refine k_getN hC inlX1 1 4 rfl rfl (by decide) (List.mem_of_getElem? (i := 6) rfl) rfl dX3_attached_5 ?_
  refine k_perm [2, 3, 4, 0, 1, 5, 6, 7, 8, 9, 10] [kO (ad k 1) 2 [.ref (ad k 2), .ref (ad k 3), .int (nI ((((σ.2.2.2 k)).2.2 0).length))], kI K (ad k 2) 10 (us k 0), kZ K (ad k 3) 10 (us k 1), kO x 3 [mAh ad σ.1, .int (nI σ.1), .int (kB σ.2.1), .int (σ.2.2.1 3), .int (σ.2.2.1 4), .int (σ.2.2.1 5), .int (σ.2.2.1 6), .int (σ.2.2.1 7)], kO (ad k 0) 1 [mAh ad k, .int (nI (((σ.2.2.2 k)).1 1)), .int (nI (((σ.2.2.2 k)).1 2)), .int (nI (((σ.2.2.2 k)).1 3)), .ref (ad k 1), .ref (ad k 4), .ref (ad k 7), .int (nI (((σ.2.2.2 k)).1 7)), .int (nI (((σ.2.2.2 k)).1 8)), .int (nI (((σ.2.2.2 k)).1 9)), .int (nI (((σ.2.2.2 k)).1 10)), .int (nI (((σ.2.2.2 k)).1 11)), .int (nI (((σ.2.2.2 k)).1 12)), .int (nI (((σ.2.2.2 k)).1 13)), .int (nI (((σ.2.2.2 k)).1 14)), .int (nI (((σ.2.2.2 k)).1 15)), .int (((σ.2.2.2 k)).2.1 0), .int (((σ.2.2.2 k)).2.1 1)], kO (ad k 4) 2 [.ref (ad k 5), .ref (ad k 6), .int (nI ((((σ.2.2.2 k)).2.2 1).length))], kI K (ad k 5) 10 (us k 2), kZ K (ad k 6) 10 (us k 3), kO (ad k 7) 0 [.ref (ad k 8), .ref (ad k 9), .int (nI ((((σ.2.2.2 k)).2.2 2).length))], kI K (ad k 8) 5 (us k 4), kI K (ad k 9) 5 (us k 5)] rfl rfl ?_
  refine k_callVN hC (As := []) (cX2_cardsOn_k l K (ad k 1) (ad k 2) (ad k 3) (us k 0) (us k 1) ((σ.2.2.2 k).2.2 0) (by omega) hT.1 (mOk_le1 hi.1.2.2.2.1)) [kO x 3 [mAh ad σ.1, .int (nI σ.1), .int (kB σ.2.1), .int (σ.2.2.1 3), .int (σ.2.2.1 4), .int (σ.2.2.1 5), .int (σ.2.2.1 6), .int (σ.2.2.1 7)], kO (ad k 0) 1 [mAh ad k, .int (nI (((σ.2.2.2 k)).1 1)), .int (nI (((σ.2.2.2 k)).1 2)), .int (nI (((σ.2.2.2 k)).1 3)), .ref (ad k 1), .ref (ad k 4), .ref (ad k 7), .int (nI (((σ.2.2.2 k)).1 7)), .int (nI (((σ.2.2.2 k)).1 8)), .int (nI (((σ.2.2.2 k)).1 9)), .int (nI (((σ.2.2.2 k)).1 10)), .int (nI (((σ.2.2.2 k)).1 11)), .int (nI (((σ.2.2.2 k)).1 12)), .int (nI (((σ.2.2.2 k)).1 13)), .int (nI (((σ.2.2.2 k)).1 14)), .int (nI (((σ.2.2.2 k)).1 15)), .int (((σ.2.2.2 k)).2.1 0), .int (((σ.2.2.2 k)).2.1 1)], kO (ad k 4) 2 [.ref (ad k 5), .ref (ad k 6), .int (nI ((((σ.2.2.2 k)).2.2 1).length))], kI K (ad k 5) 10 (us k 2), kZ K (ad k 6) 10 (us k 3), kO (ad k 7) 0 [.ref (ad k 8), .ref (ad k 9), .int (nI ((((σ.2.2.2 k)).2.2 2).length))], kI K (ad k 8) 5 (us k 4), kI K (ad k 9) 5 (us k 5)] rfl 0 rfl rfl (kAll4 lkI_yX2_cardsOn lkS_yX2_cardsOn lkN_X2 lkC_yX2_cardsOn) (List.mem_of_getElem? (i := 16) rfl) 0 (by decide) ⟨(Nat.le_of_ble_eq_true rfl), (Nat.le_of_ble_eq_true rfl)⟩ rfl rfl (Nat.le_of_ble_eq_true rfl) ⟨(Nat.le_of_ble_eq_true rfl), (Nat.le_of_ble_eq_true rfl)⟩ dX3_attached_8 (fun v w h => ?_)
  obtain ⟨rfl, rfl⟩ := h
  refine k_re 1 6 [kO (ad k 1) 2 [.ref (ad k 2), .ref (ad k 3), .int (nI ((((σ.2.2.2 k)).2.2 0).length))], kI K (ad k 2) 10 (us k 0), kZ K (ad k 3) 10 (us k 1), kO x 3 [mAh ad σ.1, .int (nI σ.1), .int (kB σ.2.1), .int (σ.2.2.1 3), .int (σ.2.2.1 4), .int (σ.2.2.1 5), .int (σ.2.2.1 6), .int (σ.2.2.1 7)], kO (ad k 0) 1 [mAh ad k, .int (nI (((σ.2.2.2 k)).1 1)), .int (nI (((σ.2.2.2 k)).1 2)), .int (nI (((σ.2.2.2 k)).1 3)), .ref (ad k 1), .ref (ad k 4), .ref (ad k 7), .int (nI (((σ.2.2.2 k)).1 7)), .int (nI (((σ.2.2.2 k)).1 8)), .int (nI (((σ.2.2.2 k)).1 9)), .int (nI (((σ.2.2.2 k)).1 10)), .int (nI (((σ.2.2.2 k)).1 11)), .int (nI (((σ.2.2.2 k)).1 12)), .int (nI (((σ.2.2.2 k)).1 13)), .int (nI (((σ.2.2.2 k)).1 14)), .int (nI (((σ.2.2.2 k)).1 15)), .int (((σ.2.2.2 k)).2.1 0), .int (((σ.2.2.2 k)).2.1 1)], kO (ad k 4) 2 [.ref (ad k 5), .ref (ad k 6), .int (nI ((((σ.2.2.2 k)).2.2 1).length))], kI K (ad k 5) 10 (us k 2), kZ K (ad k 6) 10 (us k 3), kO (ad k 7) 0 [.ref (ad k 8), .ref (ad k 9), .int (nI ((((σ.2.2.2 k)).2.2 2).length))], kI K (ad k 8) 5 (us k 4), kI K (ad k 9) 5 (us k 5)] [.int (nI (mCs ((σ.2.2.2 k).2.2 0)))] rfl rfl rfl rfl ?_
  refine k_perm [3, 4, 0, 1, 2, 5, 6, 7, 8, 9, 10] [kO x 3 [mAh ad σ.1, .int (nI σ.1), .int (kB σ.2.1), .int (σ.2.2.1 3), .int (σ.2.2.1 4), .int (σ.2.2.1 5), .int (σ.2.2.1 6), .int (σ.2.2.1 7)], kO (ad k 0) 1 [mAh ad k, .int (nI (((σ.2.2.2 k)).1 1)), .int (nI (((σ.2.2.2 k)).1 2)), .int (nI (((σ.2.2.2 k)).1 3)), .ref (ad k 1), .ref (ad k 4), .ref (ad k 7), .int (nI (((σ.2.2.2 k)).1 7)), .int (nI (((σ.2.2.2 k)).1 8)), .int (nI (((σ.2.2.2 k)).1 9)), .int (nI (((σ.2.2.2 k)).1 10)), .int (nI (((σ.2.2.2 k)).1 11)), .int (nI (((σ.2.2.2 k)).1 12)), .int (nI (((σ.2.2.2 k)).1 13)), .int (nI (((σ.2.2.2 k)).1 14)), .int (nI (((σ.2.2.2 k)).1 15)), .int (((σ.2.2.2 k)).2.1 0), .int (((σ.2.2.2 k)).2.1 1)], kO (ad k 1) 2 [.ref (ad k 2), .ref (ad k 3), .int (nI ((((σ.2.2.2 k)).2.2 0).length))], kI K (ad k 2) 10 (us k 0), kZ K (ad k 3) 10 (us k 1), kO (ad k 4) 2 [.ref (ad k 5), .ref (ad k 6), .int (nI ((((σ.2.2.2 k)).2.2 1).length))], kI K (ad k 5) 10 (us k 2), kZ K (ad k 6) 10 (us k 3), kO (ad k 7) 0 [.ref (ad k 8), .ref (ad k 9), .int (nI ((((σ.2.2.2 k)).2.2 2).length))], kI K (ad k 8) 5 (us k 4), kI K (ad k 9) 5 (us k 5)] rfl rfl ?_
  refine k_perm2 [] (wX K x ad σ us) (by rw [List.append_nil]; exact ((wCh_open hk rfl).symm).cons _) ?_
  exact k_iret hC hE (Nat.le_of_ble_eq_true rfl) (Nat.le_of_ble_eq_true rfl) dX3_attached_11 (by rw [show oGet σ (nI k) (fun τ => nI (mCs (τ.2.2 0))) = (0, (fun τ => nI (mCs (τ.2.2 0))) (σ.2.2.2 k), σ) by simp only [oGet, oT, mIx_nI hk31, if_pos hm]]; exact ⟨rfl, rfl, ad, us, List.append_nil _, hU⟩)
abbrev rmX3_left : Room := { frames := 7, cells := 1, slots := 6, locals := 122 }
set_option maxRecDepth 100000 in
set_option maxHeartbeats 4000000 in
theorem cX3_left_k {l : Launch} (hst : l.stackTraces = false) (K : kE) (x : Nat) (ad : Nat → Nat → Nat) (σ : mS) (us : Nat → Nat → Nat → Int32) (hσ : mSok σ) (hU : mURT σ us) (p9 : Int32) : kX l yX3_left (kws yX3_left cX3_left 2 (some .int)) rmX3_left K [.ref x, .int p9] (wX K x ad σ us) (kPo K x (oGet σ p9 (fun τ => nI (τ.1 10)))) (kPx (oGet σ p9 (fun τ => nI (τ.1 10))) "java/lang/IndexOutOfBoundsException" "") := by
  refine kX_of hst (pl := []) (X := (wX K x ad σ us)) (List.append_nil _).symm (by decide) (Nat.le_of_ble_eq_true rfl) ?_
  intro p e s m args below meth cd A Q hC hX hE
  refine k_aload_n hC 0 dX3_left_0 rfl rfl ?_
  refine k_iload_n hC 1 dX3_left_1 rfl rfl ?_
  refine k_callXV hC hX (As := [.int p9]) (cX3_find_k hst K x ad σ us hσ hU p9) [] (List.append_nil _).symm (fun _ h => List.mem_append_left _ h) (fun E q => Or.inl ⟨by simp only [oGet, if_neg q.2], q.1⟩) 0 rfl rfl (kAll5 lkM_X3_62 lkI_yX3_find lkS_yX3_find lkN_X3 lkC_yX3_find) 1 (by decide) ⟨(Nat.le_of_ble_eq_true rfl), (Nat.le_of_ble_eq_true rfl)⟩ rfl rfl (Nat.le_of_ble_eq_true rfl) ⟨(Nat.le_of_ble_eq_true rfl), (Nat.le_of_ble_eq_true rfl)⟩ ⟨(Nat.le_of_ble_eq_true rfl), (Nat.le_of_ble_eq_true rfl)⟩ dX3_left_2 (fun v w h => ?_)
  obtain ⟨k, hk, rfl, rfl, rfl⟩ := h
  have hk1 := Nat.zero_le k
  refine k_re 1 6 (wX K x ad σ us) [.ref (ad k 0)] rfl rfl (List.append_nil _) rfl ?_
  have hk31 : k < 2 ^ 31 := by have := hσ.1; omega
  have hm : mHas σ 0 (nI k) := mHas_k hσ.1 hk1 hk
  have hi := hσ.2 k hk
  have hT := hU k hk
  have hn := hi.1.1
  have h9 : (σ.2.2.2 k).1 9 ≤ 9 := by have := hi.1.2.1; omega
  have hl2 := mInv_L2 hi.1
  have hl1 := mInv_L1 hi.1
  have hl0 := mInv_L0 hi.1
  obtain ⟨i9, hi9⟩ := wX_at (K := K) (x := x) (ad := ad) (us := us) hk
  refine k_perm2 (wCh K ad σ.2.2.2 us (fun j => true && !(j == k)) σ.1) [kO x 3 [mAh ad σ.1, .int (nI σ.1), .int (kB σ.2.1), .int (σ.2.2.1 3), .int (σ.2.2.1 4), .int (σ.2.2.1 5), .int (σ.2.2.1 6), .int (σ.2.2.1 7)], kO (ad k 0) 1 [mAh ad k, .int (nI (((σ.2.2.2 k)).1 1)), .int (nI (((σ.2.2.2 k)).1 2)), .int (nI (((σ.2.2.2 k)).1 3)), .ref (ad k 1), .ref (ad k 4), .ref (ad k 7), .int (nI (((σ.2.2.2 k)).1 7)), .int (nI (((σ.2.2.2 k)).1 8)), .int (nI (((σ.2.2.2 k)).1 9)), .int (nI (((σ.2.2.2 k)).1 10)), .int (nI (((σ.2.2.2 k)).1 11)), .int (nI (((σ.2.2.2 k)).1 12)), .int (nI (((σ.2.2.2 k)).1 13)), .int (nI (((σ.2.2.2 k)).1 14)), .int (nI (((σ.2.2.2 k)).1 15)), .int (((σ.2.2.2 k)).2.1 0), .int (((σ.2.2.2 k)).2.1 1)], kO (ad k 1) 2 [.ref (ad k 2), .ref (ad k 3), .int (nI ((((σ.2.2.2 k)).2.2 0).length))], kI K (ad k 2) 10 (us k 0), kZ K (ad k 3) 10 (us k 1), kO (ad k 4) 2 [.ref (ad k 5), .ref (ad k 6), .int (nI ((((σ.2.2.2 k)).2.2 1).length))], kI K (ad k 5) 10 (us k 2), kZ K (ad k 6) 10 (us k 3), kO (ad k 7) 0 [.ref (ad k 8), .ref (ad k 9), .int (nI ((((σ.2.2.2 k)).2.2 2).length))], kI K (ad k 8) 5 (us k 4), kI K (ad k 9) 5 (us k 5)] (by rw [List.append_nil]; exact (wCh_open hk rfl).cons _) ?_
  refine k_getN hC inlX1 1 10 rfl rfl (by decide) (List.mem_of_getElem? (i := 12) rfl) rfl dX3_left_5 ?_
  refine k_perm2 [] (wX K x ad σ us) (by rw [List.append_nil]; exact ((wCh_open hk rfl).symm).cons _) ?_
  exact k_iret hC hE (Nat.le_of_ble_eq_true rfl) (Nat.le_of_ble_eq_true rfl) dX3_left_8 (by rw [show oGet σ (nI k) (fun τ => nI (τ.1 10)) = (0, (fun τ => nI (τ.1 10)) (σ.2.2.2 k), σ) by simp only [oGet, oT, mIx_nI hk31, if_pos hm]]; exact ⟨rfl, rfl, ad, us, List.append_nil _, hU⟩)
abbrev rmX3_run : Room := { frames := 7, cells := 1, slots := 6, locals := 122 }
set_option maxRecDepth 100000 in
set_option maxHeartbeats 4000000 in
theorem cX3_run_k {l : Launch} (hst : l.stackTraces = false) (K : kE) (x : Nat) (ad : Nat → Nat → Nat) (σ : mS) (us : Nat → Nat → Nat → Int32) (hσ : mSok σ) (hU : mURT σ us) (p9 : Int32) : kX l yX3_run (kws yX3_run cX3_run 2 (some .int)) rmX3_run K [.ref x, .int p9] (wX K x ad σ us) (kPo K x (oGet σ p9 (fun τ => nI (τ.1 11)))) (kPx (oGet σ p9 (fun τ => nI (τ.1 11))) "java/lang/IndexOutOfBoundsException" "") := by
  refine kX_of hst (pl := []) (X := (wX K x ad σ us)) (List.append_nil _).symm (by decide) (Nat.le_of_ble_eq_true rfl) ?_
  intro p e s m args below meth cd A Q hC hX hE
  refine k_aload_n hC 0 dX3_run_0 rfl rfl ?_
  refine k_iload_n hC 1 dX3_run_1 rfl rfl ?_
  refine k_callXV hC hX (As := [.int p9]) (cX3_find_k hst K x ad σ us hσ hU p9) [] (List.append_nil _).symm (fun _ h => List.mem_append_left _ h) (fun E q => Or.inl ⟨by simp only [oGet, if_neg q.2], q.1⟩) 0 rfl rfl (kAll5 lkM_X3_62 lkI_yX3_find lkS_yX3_find lkN_X3 lkC_yX3_find) 1 (by decide) ⟨(Nat.le_of_ble_eq_true rfl), (Nat.le_of_ble_eq_true rfl)⟩ rfl rfl (Nat.le_of_ble_eq_true rfl) ⟨(Nat.le_of_ble_eq_true rfl), (Nat.le_of_ble_eq_true rfl)⟩ ⟨(Nat.le_of_ble_eq_true rfl), (Nat.le_of_ble_eq_true rfl)⟩ dX3_run_2 (fun v w h => ?_)
  obtain ⟨k, hk, rfl, rfl, rfl⟩ := h
  have hk1 := Nat.zero_le k
  refine k_re 1 6 (wX K x ad σ us) [.ref (ad k 0)] rfl rfl (List.append_nil _) rfl ?_
  have hk31 : k < 2 ^ 31 := by have := hσ.1; omega
  have hm : mHas σ 0 (nI k) := mHas_k hσ.1 hk1 hk
  have hi := hσ.2 k hk
  have hT := hU k hk
  have hn := hi.1.1
  have h9 : (σ.2.2.2 k).1 9 ≤ 9 := by have := hi.1.2.1; omega
  have hl2 := mInv_L2 hi.1
  have hl1 := mInv_L1 hi.1
  have hl0 := mInv_L0 hi.1
  obtain ⟨i9, hi9⟩ := wX_at (K := K) (x := x) (ad := ad) (us := us) hk
  refine k_perm2 (wCh K ad σ.2.2.2 us (fun j => true && !(j == k)) σ.1) [kO x 3 [mAh ad σ.1, .int (nI σ.1), .int (kB σ.2.1), .int (σ.2.2.1 3), .int (σ.2.2.1 4), .int (σ.2.2.1 5), .int (σ.2.2.1 6), .int (σ.2.2.1 7)], kO (ad k 0) 1 [mAh ad k, .int (nI (((σ.2.2.2 k)).1 1)), .int (nI (((σ.2.2.2 k)).1 2)), .int (nI (((σ.2.2.2 k)).1 3)), .ref (ad k 1), .ref (ad k 4), .ref (ad k 7), .int (nI (((σ.2.2.2 k)).1 7)), .int (nI (((σ.2.2.2 k)).1 8)), .int (nI (((σ.2.2.2 k)).1 9)), .int (nI (((σ.2.2.2 k)).1 10)), .int (nI (((σ.2.2.2 k)).1 11)), .int (nI (((σ.2.2.2 k)).1 12)), .int (nI (((σ.2.2.2 k)).1 13)), .int (nI (((σ.2.2.2 k)).1 14)), .int (nI (((σ.2.2.2 k)).1 15)), .int (((σ.2.2.2 k)).2.1 0), .int (((σ.2.2.2 k)).2.1 1)], kO (ad k 1) 2 [.ref (ad k 2), .ref (ad k 3), .int (nI ((((σ.2.2.2 k)).2.2 0).length))], kI K (ad k 2) 10 (us k 0), kZ K (ad k 3) 10 (us k 1), kO (ad k 4) 2 [.ref (ad k 5), .ref (ad k 6), .int (nI ((((σ.2.2.2 k)).2.2 1).length))], kI K (ad k 5) 10 (us k 2), kZ K (ad k 6) 10 (us k 3), kO (ad k 7) 0 [.ref (ad k 8), .ref (ad k 9), .int (nI ((((σ.2.2.2 k)).2.2 2).length))], kI K (ad k 8) 5 (us k 4), kI K (ad k 9) 5 (us k 5)] (by rw [List.append_nil]; exact (wCh_open hk rfl).cons _) ?_
  refine k_getN hC inlX1 1 11 rfl rfl (by decide) (List.mem_of_getElem? (i := 13) rfl) rfl dX3_run_5 ?_
  refine k_perm2 [] (wX K x ad σ us) (by rw [List.append_nil]; exact ((wCh_open hk rfl).symm).cons _) ?_
  exact k_iret hC hE (Nat.le_of_ble_eq_true rfl) (Nat.le_of_ble_eq_true rfl) dX3_run_8 (by rw [show oGet σ (nI k) (fun τ => nI (τ.1 11)) = (0, (fun τ => nI (τ.1 11)) (σ.2.2.2 k), σ) by simp only [oGet, oT, mIx_nI hk31, if_pos hm]]; exact ⟨rfl, rfl, ad, us, List.append_nil _, hU⟩)
abbrev rmX3_market : Room := { frames := 7, cells := 1, slots := 6, locals := 122 }
set_option maxRecDepth 100000 in
set_option maxHeartbeats 4000000 in
theorem cX3_market_k {l : Launch} (hst : l.stackTraces = false) (K : kE) (x : Nat) (ad : Nat → Nat → Nat) (σ : mS) (us : Nat → Nat → Nat → Int32) (hσ : mSok σ) (hU : mURT σ us) (p9 : Int32) : kX l yX3_market (kws yX3_market cX3_market 2 (some .int)) rmX3_market K [.ref x, .int p9] (wX K x ad σ us) (kPo K x (oGet σ p9 (fun τ => nI (mU (τ.2.2 0))))) (kPx (oGet σ p9 (fun τ => nI (mU (τ.2.2 0)))) "java/lang/IndexOutOfBoundsException" "") := by
  refine kX_of hst (pl := []) (X := (wX K x ad σ us)) (List.append_nil _).symm (by decide) (Nat.le_of_ble_eq_true rfl) ?_
  intro p e s m args below meth cd A Q hC hX hE
  refine k_aload_n hC 0 dX3_market_0 rfl rfl ?_
  refine k_iload_n hC 1 dX3_market_1 rfl rfl ?_
  refine k_callXV hC hX (As := [.int p9]) (cX3_find_k hst K x ad σ us hσ hU p9) [] (List.append_nil _).symm (fun _ h => List.mem_append_left _ h) (fun E q => Or.inl ⟨by simp only [oGet, if_neg q.2], q.1⟩) 0 rfl rfl (kAll5 lkM_X3_62 lkI_yX3_find lkS_yX3_find lkN_X3 lkC_yX3_find) 1 (by decide) ⟨(Nat.le_of_ble_eq_true rfl), (Nat.le_of_ble_eq_true rfl)⟩ rfl rfl (Nat.le_of_ble_eq_true rfl) ⟨(Nat.le_of_ble_eq_true rfl), (Nat.le_of_ble_eq_true rfl)⟩ ⟨(Nat.le_of_ble_eq_true rfl), (Nat.le_of_ble_eq_true rfl)⟩ dX3_market_2 (fun v w h => ?_)
  obtain ⟨k, hk, rfl, rfl, rfl⟩ := h
  have hk1 := Nat.zero_le k
  refine k_re 1 6 (wX K x ad σ us) [.ref (ad k 0)] rfl rfl (List.append_nil _) rfl ?_
  have hk31 : k < 2 ^ 31 := by have := hσ.1; omega
  have hm : mHas σ 0 (nI k) := mHas_k hσ.1 hk1 hk
  have hi := hσ.2 k hk
  have hT := hU k hk
  have hn := hi.1.1
  have h9 : (σ.2.2.2 k).1 9 ≤ 9 := by have := hi.1.2.1; omega
  have hl2 := mInv_L2 hi.1
  have hl1 := mInv_L1 hi.1
  have hl0 := mInv_L0 hi.1
  obtain ⟨i9, hi9⟩ := wX_at (K := K) (x := x) (ad := ad) (us := us) hk
  refine k_perm2 (wCh K ad σ.2.2.2 us (fun j => true && !(j == k)) σ.1) [kO x 3 [mAh ad σ.1, .int (nI σ.1), .int (kB σ.2.1), .int (σ.2.2.1 3), .int (σ.2.2.1 4), .int (σ.2.2.1 5), .int (σ.2.2.1 6), .int (σ.2.2.1 7)], kO (ad k 0) 1 [mAh ad k, .int (nI (((σ.2.2.2 k)).1 1)), .int (nI (((σ.2.2.2 k)).1 2)), .int (nI (((σ.2.2.2 k)).1 3)), .ref (ad k 1), .ref (ad k 4), .ref (ad k 7), .int (nI (((σ.2.2.2 k)).1 7)), .int (nI (((σ.2.2.2 k)).1 8)), .int (nI (((σ.2.2.2 k)).1 9)), .int (nI (((σ.2.2.2 k)).1 10)), .int (nI (((σ.2.2.2 k)).1 11)), .int (nI (((σ.2.2.2 k)).1 12)), .int (nI (((σ.2.2.2 k)).1 13)), .int (nI (((σ.2.2.2 k)).1 14)), .int (nI (((σ.2.2.2 k)).1 15)), .int (((σ.2.2.2 k)).2.1 0), .int (((σ.2.2.2 k)).2.1 1)], kO (ad k 1) 2 [.ref (ad k 2), .ref (ad k 3), .int (nI ((((σ.2.2.2 k)).2.2 0).length))], kI K (ad k 2) 10 (us k 0), kZ K (ad k 3) 10 (us k 1), kO (ad k 4) 2 [.ref (ad k 5), .ref (ad k 6), .int (nI ((((σ.2.2.2 k)).2.2 1).length))], kI K (ad k 5) 10 (us k 2), kZ K (ad k 6) 10 (us k 3), kO (ad k 7) 0 [.ref (ad k 8), .ref (ad k 9), .int (nI ((((σ.2.2.2 k)).2.2 2).length))], kI K (ad k 8) 5 (us k 4), kI K (ad k 9) 5 (us k 5)] (by rw [List.append_nil]; exact (wCh_open hk rfl).cons _) ?_
  refine k_getN hC inlX1 1 4 rfl rfl (by decide) (List.mem_of_getElem? (i := 6) rfl) rfl dX3_market_5 ?_
  refine k_perm [2, 3, 4, 0, 1, 5, 6, 7, 8, 9, 10] [kO (ad k 1) 2 [.ref (ad k 2), .ref (ad k 3), .int (nI ((((σ.2.2.2 k)).2.2 0).length))], kI K (ad k 2) 10 (us k 0), kZ K (ad k 3) 10 (us k 1), kO x 3 [mAh ad σ.1, .int (nI σ.1), .int (kB σ.2.1), .int (σ.2.2.1 3), .int (σ.2.2.1 4), .int (σ.2.2.1 5), .int (σ.2.2.1 6), .int (σ.2.2.1 7)], kO (ad k 0) 1 [mAh ad k, .int (nI (((σ.2.2.2 k)).1 1)), .int (nI (((σ.2.2.2 k)).1 2)), .int (nI (((σ.2.2.2 k)).1 3)), .ref (ad k 1), .ref (ad k 4), .ref (ad k 7), .int (nI (((σ.2.2.2 k)).1 7)), .int (nI (((σ.2.2.2 k)).1 8)), .int (nI (((σ.2.2.2 k)).1 9)), .int (nI (((σ.2.2.2 k)).1 10)), .int (nI (((σ.2.2.2 k)).1 11)), .int (nI (((σ.2.2.2 k)).1 12)), .int (nI (((σ.2.2.2 k)).1 13)), .int (nI (((σ.2.2.2 k)).1 14)), .int (nI (((σ.2.2.2 k)).1 15)), .int (((σ.2.2.2 k)).2.1 0), .int (((σ.2.2.2 k)).2.1 1)], kO (ad k 4) 2 [.ref (ad k 5), .ref (ad k 6), .int (nI ((((σ.2.2.2 k)).2.2 1).length))], kI K (ad k 5) 10 (us k 2), kZ K (ad k 6) 10 (us k 3), kO (ad k 7) 0 [.ref (ad k 8), .ref (ad k 9), .int (nI ((((σ.2.2.2 k)).2.2 2).length))], kI K (ad k 8) 5 (us k 4), kI K (ad k 9) 5 (us k 5)] rfl rfl ?_
  refine k_callVN hC (As := []) (cX2_allUnits_k l K (ad k 1) (ad k 2) (ad k 3) (us k 0) (us k 1) ((σ.2.2.2 k).2.2 0) (by omega) hT.1) [kO x 3 [mAh ad σ.1, .int (nI σ.1), .int (kB σ.2.1), .int (σ.2.2.1 3), .int (σ.2.2.1 4), .int (σ.2.2.1 5), .int (σ.2.2.1 6), .int (σ.2.2.1 7)], kO (ad k 0) 1 [mAh ad k, .int (nI (((σ.2.2.2 k)).1 1)), .int (nI (((σ.2.2.2 k)).1 2)), .int (nI (((σ.2.2.2 k)).1 3)), .ref (ad k 1), .ref (ad k 4), .ref (ad k 7), .int (nI (((σ.2.2.2 k)).1 7)), .int (nI (((σ.2.2.2 k)).1 8)), .int (nI (((σ.2.2.2 k)).1 9)), .int (nI (((σ.2.2.2 k)).1 10)), .int (nI (((σ.2.2.2 k)).1 11)), .int (nI (((σ.2.2.2 k)).1 12)), .int (nI (((σ.2.2.2 k)).1 13)), .int (nI (((σ.2.2.2 k)).1 14)), .int (nI (((σ.2.2.2 k)).1 15)), .int (((σ.2.2.2 k)).2.1 0), .int (((σ.2.2.2 k)).2.1 1)], kO (ad k 4) 2 [.ref (ad k 5), .ref (ad k 6), .int (nI ((((σ.2.2.2 k)).2.2 1).length))], kI K (ad k 5) 10 (us k 2), kZ K (ad k 6) 10 (us k 3), kO (ad k 7) 0 [.ref (ad k 8), .ref (ad k 9), .int (nI ((((σ.2.2.2 k)).2.2 2).length))], kI K (ad k 8) 5 (us k 4), kI K (ad k 9) 5 (us k 5)] rfl 0 rfl rfl (kAll4 lkI_yX2_allUnits lkS_yX2_allUnits lkN_X2 lkC_yX2_allUnits) (List.mem_of_getElem? (i := 3) rfl) 0 (by decide) ⟨(Nat.le_of_ble_eq_true rfl), (Nat.le_of_ble_eq_true rfl)⟩ rfl rfl (Nat.le_of_ble_eq_true rfl) ⟨(Nat.le_of_ble_eq_true rfl), (Nat.le_of_ble_eq_true rfl)⟩ dX3_market_8 (fun v w h => ?_)
  obtain ⟨rfl, rfl⟩ := h
  refine k_re 1 6 [kO (ad k 1) 2 [.ref (ad k 2), .ref (ad k 3), .int (nI ((((σ.2.2.2 k)).2.2 0).length))], kI K (ad k 2) 10 (us k 0), kZ K (ad k 3) 10 (us k 1), kO x 3 [mAh ad σ.1, .int (nI σ.1), .int (kB σ.2.1), .int (σ.2.2.1 3), .int (σ.2.2.1 4), .int (σ.2.2.1 5), .int (σ.2.2.1 6), .int (σ.2.2.1 7)], kO (ad k 0) 1 [mAh ad k, .int (nI (((σ.2.2.2 k)).1 1)), .int (nI (((σ.2.2.2 k)).1 2)), .int (nI (((σ.2.2.2 k)).1 3)), .ref (ad k 1), .ref (ad k 4), .ref (ad k 7), .int (nI (((σ.2.2.2 k)).1 7)), .int (nI (((σ.2.2.2 k)).1 8)), .int (nI (((σ.2.2.2 k)).1 9)), .int (nI (((σ.2.2.2 k)).1 10)), .int (nI (((σ.2.2.2 k)).1 11)), .int (nI (((σ.2.2.2 k)).1 12)), .int (nI (((σ.2.2.2 k)).1 13)), .int (nI (((σ.2.2.2 k)).1 14)), .int (nI (((σ.2.2.2 k)).1 15)), .int (((σ.2.2.2 k)).2.1 0), .int (((σ.2.2.2 k)).2.1 1)], kO (ad k 4) 2 [.ref (ad k 5), .ref (ad k 6), .int (nI ((((σ.2.2.2 k)).2.2 1).length))], kI K (ad k 5) 10 (us k 2), kZ K (ad k 6) 10 (us k 3), kO (ad k 7) 0 [.ref (ad k 8), .ref (ad k 9), .int (nI ((((σ.2.2.2 k)).2.2 2).length))], kI K (ad k 8) 5 (us k 4), kI K (ad k 9) 5 (us k 5)] [.int (nI (mU ((σ.2.2.2 k).2.2 0)))] rfl rfl rfl rfl ?_
  refine k_perm [3, 4, 0, 1, 2, 5, 6, 7, 8, 9, 10] [kO x 3 [mAh ad σ.1, .int (nI σ.1), .int (kB σ.2.1), .int (σ.2.2.1 3), .int (σ.2.2.1 4), .int (σ.2.2.1 5), .int (σ.2.2.1 6), .int (σ.2.2.1 7)], kO (ad k 0) 1 [mAh ad k, .int (nI (((σ.2.2.2 k)).1 1)), .int (nI (((σ.2.2.2 k)).1 2)), .int (nI (((σ.2.2.2 k)).1 3)), .ref (ad k 1), .ref (ad k 4), .ref (ad k 7), .int (nI (((σ.2.2.2 k)).1 7)), .int (nI (((σ.2.2.2 k)).1 8)), .int (nI (((σ.2.2.2 k)).1 9)), .int (nI (((σ.2.2.2 k)).1 10)), .int (nI (((σ.2.2.2 k)).1 11)), .int (nI (((σ.2.2.2 k)).1 12)), .int (nI (((σ.2.2.2 k)).1 13)), .int (nI (((σ.2.2.2 k)).1 14)), .int (nI (((σ.2.2.2 k)).1 15)), .int (((σ.2.2.2 k)).2.1 0), .int (((σ.2.2.2 k)).2.1 1)], kO (ad k 1) 2 [.ref (ad k 2), .ref (ad k 3), .int (nI ((((σ.2.2.2 k)).2.2 0).length))], kI K (ad k 2) 10 (us k 0), kZ K (ad k 3) 10 (us k 1), kO (ad k 4) 2 [.ref (ad k 5), .ref (ad k 6), .int (nI ((((σ.2.2.2 k)).2.2 1).length))], kI K (ad k 5) 10 (us k 2), kZ K (ad k 6) 10 (us k 3), kO (ad k 7) 0 [.ref (ad k 8), .ref (ad k 9), .int (nI ((((σ.2.2.2 k)).2.2 2).length))], kI K (ad k 8) 5 (us k 4), kI K (ad k 9) 5 (us k 5)] rfl rfl ?_
  refine k_perm2 [] (wX K x ad σ us) (by rw [List.append_nil]; exact ((wCh_open hk rfl).symm).cons _) ?_
  exact k_iret hC hE (Nat.le_of_ble_eq_true rfl) (Nat.le_of_ble_eq_true rfl) dX3_market_11 (by rw [show oGet σ (nI k) (fun τ => nI (mU (τ.2.2 0))) = (0, (fun τ => nI (mU (τ.2.2 0))) (σ.2.2.2 k), σ) by simp only [oGet, oT, mIx_nI hk31, if_pos hm]]; exact ⟨rfl, rfl, ad, us, List.append_nil _, hU⟩)
abbrev rmX3_inbox : Room := { frames := 7, cells := 1, slots := 6, locals := 122 }
set_option maxRecDepth 100000 in
set_option maxHeartbeats 4000000 in
theorem cX3_inbox_k {l : Launch} (hst : l.stackTraces = false) (K : kE) (x : Nat) (ad : Nat → Nat → Nat) (σ : mS) (us : Nat → Nat → Nat → Int32) (hσ : mSok σ) (hU : mURT σ us) (p9 : Int32) : kX l yX3_inbox (kws yX3_inbox cX3_inbox 2 (some .int)) rmX3_inbox K [.ref x, .int p9] (wX K x ad σ us) (kPo K x (oGet σ p9 (fun τ => nI (mU (τ.2.2 1))))) (kPx (oGet σ p9 (fun τ => nI (mU (τ.2.2 1)))) "java/lang/IndexOutOfBoundsException" "") := by
  refine kX_of hst (pl := []) (X := (wX K x ad σ us)) (List.append_nil _).symm (by decide) (Nat.le_of_ble_eq_true rfl) ?_
  intro p e s m args below meth cd A Q hC hX hE
  refine k_aload_n hC 0 dX3_inbox_0 rfl rfl ?_
  refine k_iload_n hC 1 dX3_inbox_1 rfl rfl ?_
  refine k_callXV hC hX (As := [.int p9]) (cX3_find_k hst K x ad σ us hσ hU p9) [] (List.append_nil _).symm (fun _ h => List.mem_append_left _ h) (fun E q => Or.inl ⟨by simp only [oGet, if_neg q.2], q.1⟩) 0 rfl rfl (kAll5 lkM_X3_62 lkI_yX3_find lkS_yX3_find lkN_X3 lkC_yX3_find) 1 (by decide) ⟨(Nat.le_of_ble_eq_true rfl), (Nat.le_of_ble_eq_true rfl)⟩ rfl rfl (Nat.le_of_ble_eq_true rfl) ⟨(Nat.le_of_ble_eq_true rfl), (Nat.le_of_ble_eq_true rfl)⟩ ⟨(Nat.le_of_ble_eq_true rfl), (Nat.le_of_ble_eq_true rfl)⟩ dX3_inbox_2 (fun v w h => ?_)
  obtain ⟨k, hk, rfl, rfl, rfl⟩ := h
  have hk1 := Nat.zero_le k
  refine k_re 1 6 (wX K x ad σ us) [.ref (ad k 0)] rfl rfl (List.append_nil _) rfl ?_
  have hk31 : k < 2 ^ 31 := by have := hσ.1; omega
  have hm : mHas σ 0 (nI k) := mHas_k hσ.1 hk1 hk
  have hi := hσ.2 k hk
  have hT := hU k hk
  have hn := hi.1.1
  have h9 : (σ.2.2.2 k).1 9 ≤ 9 := by have := hi.1.2.1; omega
  have hl2 := mInv_L2 hi.1
  have hl1 := mInv_L1 hi.1
  have hl0 := mInv_L0 hi.1
  obtain ⟨i9, hi9⟩ := wX_at (K := K) (x := x) (ad := ad) (us := us) hk
  refine k_perm2 (wCh K ad σ.2.2.2 us (fun j => true && !(j == k)) σ.1) [kO x 3 [mAh ad σ.1, .int (nI σ.1), .int (kB σ.2.1), .int (σ.2.2.1 3), .int (σ.2.2.1 4), .int (σ.2.2.1 5), .int (σ.2.2.1 6), .int (σ.2.2.1 7)], kO (ad k 0) 1 [mAh ad k, .int (nI (((σ.2.2.2 k)).1 1)), .int (nI (((σ.2.2.2 k)).1 2)), .int (nI (((σ.2.2.2 k)).1 3)), .ref (ad k 1), .ref (ad k 4), .ref (ad k 7), .int (nI (((σ.2.2.2 k)).1 7)), .int (nI (((σ.2.2.2 k)).1 8)), .int (nI (((σ.2.2.2 k)).1 9)), .int (nI (((σ.2.2.2 k)).1 10)), .int (nI (((σ.2.2.2 k)).1 11)), .int (nI (((σ.2.2.2 k)).1 12)), .int (nI (((σ.2.2.2 k)).1 13)), .int (nI (((σ.2.2.2 k)).1 14)), .int (nI (((σ.2.2.2 k)).1 15)), .int (((σ.2.2.2 k)).2.1 0), .int (((σ.2.2.2 k)).2.1 1)], kO (ad k 1) 2 [.ref (ad k 2), .ref (ad k 3), .int (nI ((((σ.2.2.2 k)).2.2 0).length))], kI K (ad k 2) 10 (us k 0), kZ K (ad k 3) 10 (us k 1), kO (ad k 4) 2 [.ref (ad k 5), .ref (ad k 6), .int (nI ((((σ.2.2.2 k)).2.2 1).length))], kI K (ad k 5) 10 (us k 2), kZ K (ad k 6) 10 (us k 3), kO (ad k 7) 0 [.ref (ad k 8), .ref (ad k 9), .int (nI ((((σ.2.2.2 k)).2.2 2).length))], kI K (ad k 8) 5 (us k 4), kI K (ad k 9) 5 (us k 5)] (by rw [List.append_nil]; exact (wCh_open hk rfl).cons _) ?_
  refine k_getN hC inlX1 1 5 rfl rfl (by decide) (List.mem_of_getElem? (i := 7) rfl) rfl dX3_inbox_5 ?_
  refine k_perm [5, 6, 7, 0, 1, 2, 3, 4, 8, 9, 10] [kO (ad k 4) 2 [.ref (ad k 5), .ref (ad k 6), .int (nI ((((σ.2.2.2 k)).2.2 1).length))], kI K (ad k 5) 10 (us k 2), kZ K (ad k 6) 10 (us k 3), kO x 3 [mAh ad σ.1, .int (nI σ.1), .int (kB σ.2.1), .int (σ.2.2.1 3), .int (σ.2.2.1 4), .int (σ.2.2.1 5), .int (σ.2.2.1 6), .int (σ.2.2.1 7)], kO (ad k 0) 1 [mAh ad k, .int (nI (((σ.2.2.2 k)).1 1)), .int (nI (((σ.2.2.2 k)).1 2)), .int (nI (((σ.2.2.2 k)).1 3)), .ref (ad k 1), .ref (ad k 4), .ref (ad k 7), .int (nI (((σ.2.2.2 k)).1 7)), .int (nI (((σ.2.2.2 k)).1 8)), .int (nI (((σ.2.2.2 k)).1 9)), .int (nI (((σ.2.2.2 k)).1 10)), .int (nI (((σ.2.2.2 k)).1 11)), .int (nI (((σ.2.2.2 k)).1 12)), .int (nI (((σ.2.2.2 k)).1 13)), .int (nI (((σ.2.2.2 k)).1 14)), .int (nI (((σ.2.2.2 k)).1 15)), .int (((σ.2.2.2 k)).2.1 0), .int (((σ.2.2.2 k)).2.1 1)], kO (ad k 1) 2 [.ref (ad k 2), .ref (ad k 3), .int (nI ((((σ.2.2.2 k)).2.2 0).length))], kI K (ad k 2) 10 (us k 0), kZ K (ad k 3) 10 (us k 1), kO (ad k 7) 0 [.ref (ad k 8), .ref (ad k 9), .int (nI ((((σ.2.2.2 k)).2.2 2).length))], kI K (ad k 8) 5 (us k 4), kI K (ad k 9) 5 (us k 5)] rfl rfl ?_
  refine k_callVN hC (As := []) (cX2_allUnits_k l K (ad k 4) (ad k 5) (ad k 6) (us k 2) (us k 3) ((σ.2.2.2 k).2.2 1) (by omega) hT.2.1) [kO x 3 [mAh ad σ.1, .int (nI σ.1), .int (kB σ.2.1), .int (σ.2.2.1 3), .int (σ.2.2.1 4), .int (σ.2.2.1 5), .int (σ.2.2.1 6), .int (σ.2.2.1 7)], kO (ad k 0) 1 [mAh ad k, .int (nI (((σ.2.2.2 k)).1 1)), .int (nI (((σ.2.2.2 k)).1 2)), .int (nI (((σ.2.2.2 k)).1 3)), .ref (ad k 1), .ref (ad k 4), .ref (ad k 7), .int (nI (((σ.2.2.2 k)).1 7)), .int (nI (((σ.2.2.2 k)).1 8)), .int (nI (((σ.2.2.2 k)).1 9)), .int (nI (((σ.2.2.2 k)).1 10)), .int (nI (((σ.2.2.2 k)).1 11)), .int (nI (((σ.2.2.2 k)).1 12)), .int (nI (((σ.2.2.2 k)).1 13)), .int (nI (((σ.2.2.2 k)).1 14)), .int (nI (((σ.2.2.2 k)).1 15)), .int (((σ.2.2.2 k)).2.1 0), .int (((σ.2.2.2 k)).2.1 1)], kO (ad k 1) 2 [.ref (ad k 2), .ref (ad k 3), .int (nI ((((σ.2.2.2 k)).2.2 0).length))], kI K (ad k 2) 10 (us k 0), kZ K (ad k 3) 10 (us k 1), kO (ad k 7) 0 [.ref (ad k 8), .ref (ad k 9), .int (nI ((((σ.2.2.2 k)).2.2 2).length))], kI K (ad k 8) 5 (us k 4), kI K (ad k 9) 5 (us k 5)] rfl 0 rfl rfl (kAll4 lkI_yX2_allUnits lkS_yX2_allUnits lkN_X2 lkC_yX2_allUnits) (List.mem_of_getElem? (i := 3) rfl) 0 (by decide) ⟨(Nat.le_of_ble_eq_true rfl), (Nat.le_of_ble_eq_true rfl)⟩ rfl rfl (Nat.le_of_ble_eq_true rfl) ⟨(Nat.le_of_ble_eq_true rfl), (Nat.le_of_ble_eq_true rfl)⟩ dX3_inbox_8 (fun v w h => ?_)
  obtain ⟨rfl, rfl⟩ := h
  refine k_re 1 6 [kO (ad k 4) 2 [.ref (ad k 5), .ref (ad k 6), .int (nI ((((σ.2.2.2 k)).2.2 1).length))], kI K (ad k 5) 10 (us k 2), kZ K (ad k 6) 10 (us k 3), kO x 3 [mAh ad σ.1, .int (nI σ.1), .int (kB σ.2.1), .int (σ.2.2.1 3), .int (σ.2.2.1 4), .int (σ.2.2.1 5), .int (σ.2.2.1 6), .int (σ.2.2.1 7)], kO (ad k 0) 1 [mAh ad k, .int (nI (((σ.2.2.2 k)).1 1)), .int (nI (((σ.2.2.2 k)).1 2)), .int (nI (((σ.2.2.2 k)).1 3)), .ref (ad k 1), .ref (ad k 4), .ref (ad k 7), .int (nI (((σ.2.2.2 k)).1 7)), .int (nI (((σ.2.2.2 k)).1 8)), .int (nI (((σ.2.2.2 k)).1 9)), .int (nI (((σ.2.2.2 k)).1 10)), .int (nI (((σ.2.2.2 k)).1 11)), .int (nI (((σ.2.2.2 k)).1 12)), .int (nI (((σ.2.2.2 k)).1 13)), .int (nI (((σ.2.2.2 k)).1 14)), .int (nI (((σ.2.2.2 k)).1 15)), .int (((σ.2.2.2 k)).2.1 0), .int (((σ.2.2.2 k)).2.1 1)], kO (ad k 1) 2 [.ref (ad k 2), .ref (ad k 3), .int (nI ((((σ.2.2.2 k)).2.2 0).length))], kI K (ad k 2) 10 (us k 0), kZ K (ad k 3) 10 (us k 1), kO (ad k 7) 0 [.ref (ad k 8), .ref (ad k 9), .int (nI ((((σ.2.2.2 k)).2.2 2).length))], kI K (ad k 8) 5 (us k 4), kI K (ad k 9) 5 (us k 5)] [.int (nI (mU ((σ.2.2.2 k).2.2 1)))] rfl rfl rfl rfl ?_
  refine k_perm [3, 4, 5, 6, 7, 0, 1, 2, 8, 9, 10] [kO x 3 [mAh ad σ.1, .int (nI σ.1), .int (kB σ.2.1), .int (σ.2.2.1 3), .int (σ.2.2.1 4), .int (σ.2.2.1 5), .int (σ.2.2.1 6), .int (σ.2.2.1 7)], kO (ad k 0) 1 [mAh ad k, .int (nI (((σ.2.2.2 k)).1 1)), .int (nI (((σ.2.2.2 k)).1 2)), .int (nI (((σ.2.2.2 k)).1 3)), .ref (ad k 1), .ref (ad k 4), .ref (ad k 7), .int (nI (((σ.2.2.2 k)).1 7)), .int (nI (((σ.2.2.2 k)).1 8)), .int (nI (((σ.2.2.2 k)).1 9)), .int (nI (((σ.2.2.2 k)).1 10)), .int (nI (((σ.2.2.2 k)).1 11)), .int (nI (((σ.2.2.2 k)).1 12)), .int (nI (((σ.2.2.2 k)).1 13)), .int (nI (((σ.2.2.2 k)).1 14)), .int (nI (((σ.2.2.2 k)).1 15)), .int (((σ.2.2.2 k)).2.1 0), .int (((σ.2.2.2 k)).2.1 1)], kO (ad k 1) 2 [.ref (ad k 2), .ref (ad k 3), .int (nI ((((σ.2.2.2 k)).2.2 0).length))], kI K (ad k 2) 10 (us k 0), kZ K (ad k 3) 10 (us k 1), kO (ad k 4) 2 [.ref (ad k 5), .ref (ad k 6), .int (nI ((((σ.2.2.2 k)).2.2 1).length))], kI K (ad k 5) 10 (us k 2), kZ K (ad k 6) 10 (us k 3), kO (ad k 7) 0 [.ref (ad k 8), .ref (ad k 9), .int (nI ((((σ.2.2.2 k)).2.2 2).length))], kI K (ad k 8) 5 (us k 4), kI K (ad k 9) 5 (us k 5)] rfl rfl ?_
  refine k_perm2 [] (wX K x ad σ us) (by rw [List.append_nil]; exact ((wCh_open hk rfl).symm).cons _) ?_
  exact k_iret hC hE (Nat.le_of_ble_eq_true rfl) (Nat.le_of_ble_eq_true rfl) dX3_inbox_11 (by rw [show oGet σ (nI k) (fun τ => nI (mU (τ.2.2 1))) = (0, (fun τ => nI (mU (τ.2.2 1))) (σ.2.2.2 k), σ) by simp only [oGet, oT, mIx_nI hk31, if_pos hm]]; exact ⟨rfl, rfl, ad, us, List.append_nil _, hU⟩)
abbrev rmX3_waiting : Room := { frames := 7, cells := 1, slots := 6, locals := 122 }
set_option maxRecDepth 100000 in
set_option maxHeartbeats 4000000 in
theorem cX3_waiting_k {l : Launch} (hst : l.stackTraces = false) (K : kE) (x : Nat) (ad : Nat → Nat → Nat) (σ : mS) (us : Nat → Nat → Nat → Int32) (hσ : mSok σ) (hU : mURT σ us) (p9 : Int32) : kX l yX3_waiting (kws yX3_waiting cX3_waiting 2 (some .int)) rmX3_waiting K [.ref x, .int p9] (wX K x ad σ us) (kPo K x (oGet σ p9 (fun τ => nI (τ.1 14)))) (kPx (oGet σ p9 (fun τ => nI (τ.1 14))) "java/lang/IndexOutOfBoundsException" "") := by
  refine kX_of hst (pl := []) (X := (wX K x ad σ us)) (List.append_nil _).symm (by decide) (Nat.le_of_ble_eq_true rfl) ?_
  intro p e s m args below meth cd A Q hC hX hE
  refine k_aload_n hC 0 dX3_waiting_0 rfl rfl ?_
  refine k_iload_n hC 1 dX3_waiting_1 rfl rfl ?_
  refine k_callXV hC hX (As := [.int p9]) (cX3_find_k hst K x ad σ us hσ hU p9) [] (List.append_nil _).symm (fun _ h => List.mem_append_left _ h) (fun E q => Or.inl ⟨by simp only [oGet, if_neg q.2], q.1⟩) 0 rfl rfl (kAll5 lkM_X3_62 lkI_yX3_find lkS_yX3_find lkN_X3 lkC_yX3_find) 1 (by decide) ⟨(Nat.le_of_ble_eq_true rfl), (Nat.le_of_ble_eq_true rfl)⟩ rfl rfl (Nat.le_of_ble_eq_true rfl) ⟨(Nat.le_of_ble_eq_true rfl), (Nat.le_of_ble_eq_true rfl)⟩ ⟨(Nat.le_of_ble_eq_true rfl), (Nat.le_of_ble_eq_true rfl)⟩ dX3_waiting_2 (fun v w h => ?_)
  obtain ⟨k, hk, rfl, rfl, rfl⟩ := h
  have hk1 := Nat.zero_le k
  refine k_re 1 6 (wX K x ad σ us) [.ref (ad k 0)] rfl rfl (List.append_nil _) rfl ?_
  have hk31 : k < 2 ^ 31 := by have := hσ.1; omega
  have hm : mHas σ 0 (nI k) := mHas_k hσ.1 hk1 hk
  have hi := hσ.2 k hk
  have hT := hU k hk
  have hn := hi.1.1
  have h9 : (σ.2.2.2 k).1 9 ≤ 9 := by have := hi.1.2.1; omega
  have hl2 := mInv_L2 hi.1
  have hl1 := mInv_L1 hi.1
  have hl0 := mInv_L0 hi.1
  obtain ⟨i9, hi9⟩ := wX_at (K := K) (x := x) (ad := ad) (us := us) hk
  refine k_perm2 (wCh K ad σ.2.2.2 us (fun j => true && !(j == k)) σ.1) [kO x 3 [mAh ad σ.1, .int (nI σ.1), .int (kB σ.2.1), .int (σ.2.2.1 3), .int (σ.2.2.1 4), .int (σ.2.2.1 5), .int (σ.2.2.1 6), .int (σ.2.2.1 7)], kO (ad k 0) 1 [mAh ad k, .int (nI (((σ.2.2.2 k)).1 1)), .int (nI (((σ.2.2.2 k)).1 2)), .int (nI (((σ.2.2.2 k)).1 3)), .ref (ad k 1), .ref (ad k 4), .ref (ad k 7), .int (nI (((σ.2.2.2 k)).1 7)), .int (nI (((σ.2.2.2 k)).1 8)), .int (nI (((σ.2.2.2 k)).1 9)), .int (nI (((σ.2.2.2 k)).1 10)), .int (nI (((σ.2.2.2 k)).1 11)), .int (nI (((σ.2.2.2 k)).1 12)), .int (nI (((σ.2.2.2 k)).1 13)), .int (nI (((σ.2.2.2 k)).1 14)), .int (nI (((σ.2.2.2 k)).1 15)), .int (((σ.2.2.2 k)).2.1 0), .int (((σ.2.2.2 k)).2.1 1)], kO (ad k 1) 2 [.ref (ad k 2), .ref (ad k 3), .int (nI ((((σ.2.2.2 k)).2.2 0).length))], kI K (ad k 2) 10 (us k 0), kZ K (ad k 3) 10 (us k 1), kO (ad k 4) 2 [.ref (ad k 5), .ref (ad k 6), .int (nI ((((σ.2.2.2 k)).2.2 1).length))], kI K (ad k 5) 10 (us k 2), kZ K (ad k 6) 10 (us k 3), kO (ad k 7) 0 [.ref (ad k 8), .ref (ad k 9), .int (nI ((((σ.2.2.2 k)).2.2 2).length))], kI K (ad k 8) 5 (us k 4), kI K (ad k 9) 5 (us k 5)] (by rw [List.append_nil]; exact (wCh_open hk rfl).cons _) ?_
  refine k_getN hC inlX1 1 14 rfl rfl (by decide) (List.mem_of_getElem? (i := 16) rfl) rfl dX3_waiting_5 ?_
  refine k_perm2 [] (wX K x ad σ us) (by rw [List.append_nil]; exact ((wCh_open hk rfl).symm).cons _) ?_
  exact k_iret hC hE (Nat.le_of_ble_eq_true rfl) (Nat.le_of_ble_eq_true rfl) dX3_waiting_8 (by rw [show oGet σ (nI k) (fun τ => nI (τ.1 14)) = (0, (fun τ => nI (τ.1 14)) (σ.2.2.2 k), σ) by simp only [oGet, oT, mIx_nI hk31, if_pos hm]]; exact ⟨rfl, rfl, ad, us, List.append_nil _, hU⟩)
abbrev rmX3_travelling : Room := { frames := 7, cells := 1, slots := 6, locals := 122 }
set_option maxRecDepth 100000 in
set_option maxHeartbeats 4000000 in
theorem cX3_travelling_k {l : Launch} (hst : l.stackTraces = false) (K : kE) (x : Nat) (ad : Nat → Nat → Nat) (σ : mS) (us : Nat → Nat → Nat → Int32) (hσ : mSok σ) (hU : mURT σ us) (p9 : Int32) : kX l yX3_travelling (kws yX3_travelling cX3_travelling 2 (some .int)) rmX3_travelling K [.ref x, .int p9] (wX K x ad σ us) (kPo K x (oGet σ p9 (fun τ => nI (τ.2.2 2).length))) (kPx (oGet σ p9 (fun τ => nI (τ.2.2 2).length)) "java/lang/IndexOutOfBoundsException" "") := by
  refine kX_of hst (pl := []) (X := (wX K x ad σ us)) (List.append_nil _).symm (by decide) (Nat.le_of_ble_eq_true rfl) ?_
  intro p e s m args below meth cd A Q hC hX hE
  refine k_aload_n hC 0 dX3_travelling_0 rfl rfl ?_
  refine k_iload_n hC 1 dX3_travelling_1 rfl rfl ?_
  refine k_callXV hC hX (As := [.int p9]) (cX3_find_k hst K x ad σ us hσ hU p9) [] (List.append_nil _).symm (fun _ h => List.mem_append_left _ h) (fun E q => Or.inl ⟨by simp only [oGet, if_neg q.2], q.1⟩) 0 rfl rfl (kAll5 lkM_X3_62 lkI_yX3_find lkS_yX3_find lkN_X3 lkC_yX3_find) 1 (by decide) ⟨(Nat.le_of_ble_eq_true rfl), (Nat.le_of_ble_eq_true rfl)⟩ rfl rfl (Nat.le_of_ble_eq_true rfl) ⟨(Nat.le_of_ble_eq_true rfl), (Nat.le_of_ble_eq_true rfl)⟩ ⟨(Nat.le_of_ble_eq_true rfl), (Nat.le_of_ble_eq_true rfl)⟩ dX3_travelling_2 (fun v w h => ?_)
  obtain ⟨k, hk, rfl, rfl, rfl⟩ := h
  have hk1 := Nat.zero_le k
  refine k_re 1 6 (wX K x ad σ us) [.ref (ad k 0)] rfl rfl (List.append_nil _) rfl ?_
  have hk31 : k < 2 ^ 31 := by have := hσ.1; omega
  have hm : mHas σ 0 (nI k) := mHas_k hσ.1 hk1 hk
  have hi := hσ.2 k hk
  have hT := hU k hk
  have hn := hi.1.1
  have h9 : (σ.2.2.2 k).1 9 ≤ 9 := by have := hi.1.2.1; omega
  have hl2 := mInv_L2 hi.1
  have hl1 := mInv_L1 hi.1
  have hl0 := mInv_L0 hi.1
  obtain ⟨i9, hi9⟩ := wX_at (K := K) (x := x) (ad := ad) (us := us) hk
  refine k_perm2 (wCh K ad σ.2.2.2 us (fun j => true && !(j == k)) σ.1) [kO x 3 [mAh ad σ.1, .int (nI σ.1), .int (kB σ.2.1), .int (σ.2.2.1 3), .int (σ.2.2.1 4), .int (σ.2.2.1 5), .int (σ.2.2.1 6), .int (σ.2.2.1 7)], kO (ad k 0) 1 [mAh ad k, .int (nI (((σ.2.2.2 k)).1 1)), .int (nI (((σ.2.2.2 k)).1 2)), .int (nI (((σ.2.2.2 k)).1 3)), .ref (ad k 1), .ref (ad k 4), .ref (ad k 7), .int (nI (((σ.2.2.2 k)).1 7)), .int (nI (((σ.2.2.2 k)).1 8)), .int (nI (((σ.2.2.2 k)).1 9)), .int (nI (((σ.2.2.2 k)).1 10)), .int (nI (((σ.2.2.2 k)).1 11)), .int (nI (((σ.2.2.2 k)).1 12)), .int (nI (((σ.2.2.2 k)).1 13)), .int (nI (((σ.2.2.2 k)).1 14)), .int (nI (((σ.2.2.2 k)).1 15)), .int (((σ.2.2.2 k)).2.1 0), .int (((σ.2.2.2 k)).2.1 1)], kO (ad k 1) 2 [.ref (ad k 2), .ref (ad k 3), .int (nI ((((σ.2.2.2 k)).2.2 0).length))], kI K (ad k 2) 10 (us k 0), kZ K (ad k 3) 10 (us k 1), kO (ad k 4) 2 [.ref (ad k 5), .ref (ad k 6), .int (nI ((((σ.2.2.2 k)).2.2 1).length))], kI K (ad k 5) 10 (us k 2), kZ K (ad k 6) 10 (us k 3), kO (ad k 7) 0 [.ref (ad k 8), .ref (ad k 9), .int (nI ((((σ.2.2.2 k)).2.2 2).length))], kI K (ad k 8) 5 (us k 4), kI K (ad k 9) 5 (us k 5)] (by rw [List.append_nil]; exact (wCh_open hk rfl).cons _) ?_
  refine k_getN hC inlX1 1 6 rfl rfl (by decide) (List.mem_of_getElem? (i := 8) rfl) rfl dX3_travelling_5 ?_
  refine k_getN hC inlX0 8 2 rfl rfl (by decide) (List.mem_of_getElem? (i := 1) rfl) rfl dX3_travelling_8 ?_
  refine k_perm2 [] (wX K x ad σ us) (by rw [List.append_nil]; exact ((wCh_open hk rfl).symm).cons _) ?_
  exact k_iret hC hE (Nat.le_of_ble_eq_true rfl) (Nat.le_of_ble_eq_true rfl) dX3_travelling_11 (by rw [show oGet σ (nI k) (fun τ => nI (τ.2.2 2).length) = (0, (fun τ => nI (τ.2.2 2).length) (σ.2.2.2 k), σ) by simp only [oGet, oT, mIx_nI hk31, if_pos hm]]; exact ⟨rfl, rfl, ad, us, List.append_nil _, hU⟩)
abbrev rmX3_firstUnits : Room := { frames := 7, cells := 1, slots := 6, locals := 122 }
set_option maxRecDepth 100000 in
set_option maxHeartbeats 4000000 in
theorem cX3_firstUnits_k {l : Launch} (hst : l.stackTraces = false) (K : kE) (x : Nat) (ad : Nat → Nat → Nat) (σ : mS) (us : Nat → Nat → Nat → Int32) (hσ : mSok σ) (hU : mURT σ us) (p9 : Int32) : kX l yX3_firstUnits (kws yX3_firstUnits cX3_firstUnits 2 (some .int)) rmX3_firstUnits K [.ref x, .int p9] (wX K x ad σ us) (kPo K x (oGet σ p9 (fun τ => nI (mg (τ.2.2 0) 0).1))) (kPx (oGet σ p9 (fun τ => nI (mg (τ.2.2 0) 0).1)) "java/lang/IndexOutOfBoundsException" "") := by
  refine kX_of hst (pl := []) (X := (wX K x ad σ us)) (List.append_nil _).symm (by decide) (Nat.le_of_ble_eq_true rfl) ?_
  intro p e s m args below meth cd A Q hC hX hE
  refine k_aload_n hC 0 dX3_firstUnits_0 rfl rfl ?_
  refine k_iload_n hC 1 dX3_firstUnits_1 rfl rfl ?_
  refine k_callXV hC hX (As := [.int p9]) (cX3_find_k hst K x ad σ us hσ hU p9) [] (List.append_nil _).symm (fun _ h => List.mem_append_left _ h) (fun E q => Or.inl ⟨by simp only [oGet, if_neg q.2], q.1⟩) 0 rfl rfl (kAll5 lkM_X3_62 lkI_yX3_find lkS_yX3_find lkN_X3 lkC_yX3_find) 1 (by decide) ⟨(Nat.le_of_ble_eq_true rfl), (Nat.le_of_ble_eq_true rfl)⟩ rfl rfl (Nat.le_of_ble_eq_true rfl) ⟨(Nat.le_of_ble_eq_true rfl), (Nat.le_of_ble_eq_true rfl)⟩ ⟨(Nat.le_of_ble_eq_true rfl), (Nat.le_of_ble_eq_true rfl)⟩ dX3_firstUnits_2 (fun v w h => ?_)
  obtain ⟨k, hk, rfl, rfl, rfl⟩ := h
  have hk1 := Nat.zero_le k
  refine k_re 1 6 (wX K x ad σ us) [.ref (ad k 0)] rfl rfl (List.append_nil _) rfl ?_
  have hk31 : k < 2 ^ 31 := by have := hσ.1; omega
  have hm : mHas σ 0 (nI k) := mHas_k hσ.1 hk1 hk
  have hi := hσ.2 k hk
  have hT := hU k hk
  have hn := hi.1.1
  have h9 : (σ.2.2.2 k).1 9 ≤ 9 := by have := hi.1.2.1; omega
  have hl2 := mInv_L2 hi.1
  have hl1 := mInv_L1 hi.1
  have hl0 := mInv_L0 hi.1
  obtain ⟨i9, hi9⟩ := wX_at (K := K) (x := x) (ad := ad) (us := us) hk
  refine k_perm2 (wCh K ad σ.2.2.2 us (fun j => true && !(j == k)) σ.1) [kO x 3 [mAh ad σ.1, .int (nI σ.1), .int (kB σ.2.1), .int (σ.2.2.1 3), .int (σ.2.2.1 4), .int (σ.2.2.1 5), .int (σ.2.2.1 6), .int (σ.2.2.1 7)], kO (ad k 0) 1 [mAh ad k, .int (nI (((σ.2.2.2 k)).1 1)), .int (nI (((σ.2.2.2 k)).1 2)), .int (nI (((σ.2.2.2 k)).1 3)), .ref (ad k 1), .ref (ad k 4), .ref (ad k 7), .int (nI (((σ.2.2.2 k)).1 7)), .int (nI (((σ.2.2.2 k)).1 8)), .int (nI (((σ.2.2.2 k)).1 9)), .int (nI (((σ.2.2.2 k)).1 10)), .int (nI (((σ.2.2.2 k)).1 11)), .int (nI (((σ.2.2.2 k)).1 12)), .int (nI (((σ.2.2.2 k)).1 13)), .int (nI (((σ.2.2.2 k)).1 14)), .int (nI (((σ.2.2.2 k)).1 15)), .int (((σ.2.2.2 k)).2.1 0), .int (((σ.2.2.2 k)).2.1 1)], kO (ad k 1) 2 [.ref (ad k 2), .ref (ad k 3), .int (nI ((((σ.2.2.2 k)).2.2 0).length))], kI K (ad k 2) 10 (us k 0), kZ K (ad k 3) 10 (us k 1), kO (ad k 4) 2 [.ref (ad k 5), .ref (ad k 6), .int (nI ((((σ.2.2.2 k)).2.2 1).length))], kI K (ad k 5) 10 (us k 2), kZ K (ad k 6) 10 (us k 3), kO (ad k 7) 0 [.ref (ad k 8), .ref (ad k 9), .int (nI ((((σ.2.2.2 k)).2.2 2).length))], kI K (ad k 8) 5 (us k 4), kI K (ad k 9) 5 (us k 5)] (by rw [List.append_nil]; exact (wCh_open hk rfl).cons _) ?_
  refine k_getN hC inlX1 1 4 rfl rfl (by decide) (List.mem_of_getElem? (i := 6) rfl) rfl dX3_firstUnits_5 ?_
  refine k_perm [2, 3, 4, 0, 1, 5, 6, 7, 8, 9, 10] [kO (ad k 1) 2 [.ref (ad k 2), .ref (ad k 3), .int (nI ((((σ.2.2.2 k)).2.2 0).length))], kI K (ad k 2) 10 (us k 0), kZ K (ad k 3) 10 (us k 1), kO x 3 [mAh ad σ.1, .int (nI σ.1), .int (kB σ.2.1), .int (σ.2.2.1 3), .int (σ.2.2.1 4), .int (σ.2.2.1 5), .int (σ.2.2.1 6), .int (σ.2.2.1 7)], kO (ad k 0) 1 [mAh ad k, .int (nI (((σ.2.2.2 k)).1 1)), .int (nI (((σ.2.2.2 k)).1 2)), .int (nI (((σ.2.2.2 k)).1 3)), .ref (ad k 1), .ref (ad k 4), .ref (ad k 7), .int (nI (((σ.2.2.2 k)).1 7)), .int (nI (((σ.2.2.2 k)).1 8)), .int (nI (((σ.2.2.2 k)).1 9)), .int (nI (((σ.2.2.2 k)).1 10)), .int (nI (((σ.2.2.2 k)).1 11)), .int (nI (((σ.2.2.2 k)).1 12)), .int (nI (((σ.2.2.2 k)).1 13)), .int (nI (((σ.2.2.2 k)).1 14)), .int (nI (((σ.2.2.2 k)).1 15)), .int (((σ.2.2.2 k)).2.1 0), .int (((σ.2.2.2 k)).2.1 1)], kO (ad k 4) 2 [.ref (ad k 5), .ref (ad k 6), .int (nI ((((σ.2.2.2 k)).2.2 1).length))], kI K (ad k 5) 10 (us k 2), kZ K (ad k 6) 10 (us k 3), kO (ad k 7) 0 [.ref (ad k 8), .ref (ad k 9), .int (nI ((((σ.2.2.2 k)).2.2 2).length))], kI K (ad k 8) 5 (us k 4), kI K (ad k 9) 5 (us k 5)] rfl rfl ?_
  refine k_callVN hC (As := []) (cX2_headUnits_k l K (ad k 1) (ad k 2) (ad k 3) (us k 0) (us k 1) ((σ.2.2.2 k).2.2 0) (by omega) hT.1) [kO x 3 [mAh ad σ.1, .int (nI σ.1), .int (kB σ.2.1), .int (σ.2.2.1 3), .int (σ.2.2.1 4), .int (σ.2.2.1 5), .int (σ.2.2.1 6), .int (σ.2.2.1 7)], kO (ad k 0) 1 [mAh ad k, .int (nI (((σ.2.2.2 k)).1 1)), .int (nI (((σ.2.2.2 k)).1 2)), .int (nI (((σ.2.2.2 k)).1 3)), .ref (ad k 1), .ref (ad k 4), .ref (ad k 7), .int (nI (((σ.2.2.2 k)).1 7)), .int (nI (((σ.2.2.2 k)).1 8)), .int (nI (((σ.2.2.2 k)).1 9)), .int (nI (((σ.2.2.2 k)).1 10)), .int (nI (((σ.2.2.2 k)).1 11)), .int (nI (((σ.2.2.2 k)).1 12)), .int (nI (((σ.2.2.2 k)).1 13)), .int (nI (((σ.2.2.2 k)).1 14)), .int (nI (((σ.2.2.2 k)).1 15)), .int (((σ.2.2.2 k)).2.1 0), .int (((σ.2.2.2 k)).2.1 1)], kO (ad k 4) 2 [.ref (ad k 5), .ref (ad k 6), .int (nI ((((σ.2.2.2 k)).2.2 1).length))], kI K (ad k 5) 10 (us k 2), kZ K (ad k 6) 10 (us k 3), kO (ad k 7) 0 [.ref (ad k 8), .ref (ad k 9), .int (nI ((((σ.2.2.2 k)).2.2 2).length))], kI K (ad k 8) 5 (us k 4), kI K (ad k 9) 5 (us k 5)] rfl 0 rfl rfl (kAll4 lkI_yX2_headUnits lkS_yX2_headUnits lkN_X2 lkC_yX2_headUnits) (List.mem_of_getElem? (i := 17) rfl) 0 (by decide) ⟨(Nat.le_of_ble_eq_true rfl), (Nat.le_of_ble_eq_true rfl)⟩ rfl rfl (Nat.le_of_ble_eq_true rfl) ⟨(Nat.le_of_ble_eq_true rfl), (Nat.le_of_ble_eq_true rfl)⟩ dX3_firstUnits_8 (fun v w h => ?_)
  obtain ⟨rfl, rfl⟩ := h
  refine k_re 1 6 [kO (ad k 1) 2 [.ref (ad k 2), .ref (ad k 3), .int (nI ((((σ.2.2.2 k)).2.2 0).length))], kI K (ad k 2) 10 (us k 0), kZ K (ad k 3) 10 (us k 1), kO x 3 [mAh ad σ.1, .int (nI σ.1), .int (kB σ.2.1), .int (σ.2.2.1 3), .int (σ.2.2.1 4), .int (σ.2.2.1 5), .int (σ.2.2.1 6), .int (σ.2.2.1 7)], kO (ad k 0) 1 [mAh ad k, .int (nI (((σ.2.2.2 k)).1 1)), .int (nI (((σ.2.2.2 k)).1 2)), .int (nI (((σ.2.2.2 k)).1 3)), .ref (ad k 1), .ref (ad k 4), .ref (ad k 7), .int (nI (((σ.2.2.2 k)).1 7)), .int (nI (((σ.2.2.2 k)).1 8)), .int (nI (((σ.2.2.2 k)).1 9)), .int (nI (((σ.2.2.2 k)).1 10)), .int (nI (((σ.2.2.2 k)).1 11)), .int (nI (((σ.2.2.2 k)).1 12)), .int (nI (((σ.2.2.2 k)).1 13)), .int (nI (((σ.2.2.2 k)).1 14)), .int (nI (((σ.2.2.2 k)).1 15)), .int (((σ.2.2.2 k)).2.1 0), .int (((σ.2.2.2 k)).2.1 1)], kO (ad k 4) 2 [.ref (ad k 5), .ref (ad k 6), .int (nI ((((σ.2.2.2 k)).2.2 1).length))], kI K (ad k 5) 10 (us k 2), kZ K (ad k 6) 10 (us k 3), kO (ad k 7) 0 [.ref (ad k 8), .ref (ad k 9), .int (nI ((((σ.2.2.2 k)).2.2 2).length))], kI K (ad k 8) 5 (us k 4), kI K (ad k 9) 5 (us k 5)] [.int (nI ((mg ((σ.2.2.2 k).2.2 0) 0).1))] rfl rfl rfl rfl ?_
  refine k_perm [3, 4, 0, 1, 2, 5, 6, 7, 8, 9, 10] [kO x 3 [mAh ad σ.1, .int (nI σ.1), .int (kB σ.2.1), .int (σ.2.2.1 3), .int (σ.2.2.1 4), .int (σ.2.2.1 5), .int (σ.2.2.1 6), .int (σ.2.2.1 7)], kO (ad k 0) 1 [mAh ad k, .int (nI (((σ.2.2.2 k)).1 1)), .int (nI (((σ.2.2.2 k)).1 2)), .int (nI (((σ.2.2.2 k)).1 3)), .ref (ad k 1), .ref (ad k 4), .ref (ad k 7), .int (nI (((σ.2.2.2 k)).1 7)), .int (nI (((σ.2.2.2 k)).1 8)), .int (nI (((σ.2.2.2 k)).1 9)), .int (nI (((σ.2.2.2 k)).1 10)), .int (nI (((σ.2.2.2 k)).1 11)), .int (nI (((σ.2.2.2 k)).1 12)), .int (nI (((σ.2.2.2 k)).1 13)), .int (nI (((σ.2.2.2 k)).1 14)), .int (nI (((σ.2.2.2 k)).1 15)), .int (((σ.2.2.2 k)).2.1 0), .int (((σ.2.2.2 k)).2.1 1)], kO (ad k 1) 2 [.ref (ad k 2), .ref (ad k 3), .int (nI ((((σ.2.2.2 k)).2.2 0).length))], kI K (ad k 2) 10 (us k 0), kZ K (ad k 3) 10 (us k 1), kO (ad k 4) 2 [.ref (ad k 5), .ref (ad k 6), .int (nI ((((σ.2.2.2 k)).2.2 1).length))], kI K (ad k 5) 10 (us k 2), kZ K (ad k 6) 10 (us k 3), kO (ad k 7) 0 [.ref (ad k 8), .ref (ad k 9), .int (nI ((((σ.2.2.2 k)).2.2 2).length))], kI K (ad k 8) 5 (us k 4), kI K (ad k 9) 5 (us k 5)] rfl rfl ?_
  refine k_perm2 [] (wX K x ad σ us) (by rw [List.append_nil]; exact ((wCh_open hk rfl).symm).cons _) ?_
  exact k_iret hC hE (Nat.le_of_ble_eq_true rfl) (Nat.le_of_ble_eq_true rfl) dX3_firstUnits_11 (by rw [show oGet σ (nI k) (fun τ => nI (mg (τ.2.2 0) 0).1) = (0, (fun τ => nI (mg (τ.2.2 0) 0).1) (σ.2.2.2 k), σ) by simp only [oGet, oT, mIx_nI hk31, if_pos hm]]; exact ⟨rfl, rfl, ad, us, List.append_nil _, hU⟩)
abbrev rmX3_starved : Room := { frames := 7, cells := 1, slots := 6, locals := 122 }
set_option maxRecDepth 100000 in
set_option maxHeartbeats 4000000 in
theorem cX3_starved_k {l : Launch} (hst : l.stackTraces = false) (K : kE) (x : Nat) (ad : Nat → Nat → Nat) (σ : mS) (us : Nat → Nat → Nat → Int32) (hσ : mSok σ) (hU : mURT σ us) (p9 : Int32) : kX l yX3_starved (kws yX3_starved cX3_starved 2 (some .int)) rmX3_starved K [.ref x, .int p9] (wX K x ad σ us) (kPo K x (oGet σ p9 (fun τ => τ.2.1 0))) (kPx (oGet σ p9 (fun τ => τ.2.1 0)) "java/lang/IndexOutOfBoundsException" "") := by
  refine kX_of hst (pl := []) (X := (wX K x ad σ us)) (List.append_nil _).symm (by decide) (Nat.le_of_ble_eq_true rfl) ?_
  intro p e s m args below meth cd A Q hC hX hE
  refine k_aload_n hC 0 dX3_starved_0 rfl rfl ?_
  refine k_iload_n hC 1 dX3_starved_1 rfl rfl ?_
  refine k_callXV hC hX (As := [.int p9]) (cX3_find_k hst K x ad σ us hσ hU p9) [] (List.append_nil _).symm (fun _ h => List.mem_append_left _ h) (fun E q => Or.inl ⟨by simp only [oGet, if_neg q.2], q.1⟩) 0 rfl rfl (kAll5 lkM_X3_62 lkI_yX3_find lkS_yX3_find lkN_X3 lkC_yX3_find) 1 (by decide) ⟨(Nat.le_of_ble_eq_true rfl), (Nat.le_of_ble_eq_true rfl)⟩ rfl rfl (Nat.le_of_ble_eq_true rfl) ⟨(Nat.le_of_ble_eq_true rfl), (Nat.le_of_ble_eq_true rfl)⟩ ⟨(Nat.le_of_ble_eq_true rfl), (Nat.le_of_ble_eq_true rfl)⟩ dX3_starved_2 (fun v w h => ?_)
  obtain ⟨k, hk, rfl, rfl, rfl⟩ := h
  have hk1 := Nat.zero_le k
  refine k_re 1 6 (wX K x ad σ us) [.ref (ad k 0)] rfl rfl (List.append_nil _) rfl ?_
  have hk31 : k < 2 ^ 31 := by have := hσ.1; omega
  have hm : mHas σ 0 (nI k) := mHas_k hσ.1 hk1 hk
  have hi := hσ.2 k hk
  have hT := hU k hk
  have hn := hi.1.1
  have h9 : (σ.2.2.2 k).1 9 ≤ 9 := by have := hi.1.2.1; omega
  have hl2 := mInv_L2 hi.1
  have hl1 := mInv_L1 hi.1
  have hl0 := mInv_L0 hi.1
  obtain ⟨i9, hi9⟩ := wX_at (K := K) (x := x) (ad := ad) (us := us) hk
  refine k_perm2 (wCh K ad σ.2.2.2 us (fun j => true && !(j == k)) σ.1) [kO x 3 [mAh ad σ.1, .int (nI σ.1), .int (kB σ.2.1), .int (σ.2.2.1 3), .int (σ.2.2.1 4), .int (σ.2.2.1 5), .int (σ.2.2.1 6), .int (σ.2.2.1 7)], kO (ad k 0) 1 [mAh ad k, .int (nI (((σ.2.2.2 k)).1 1)), .int (nI (((σ.2.2.2 k)).1 2)), .int (nI (((σ.2.2.2 k)).1 3)), .ref (ad k 1), .ref (ad k 4), .ref (ad k 7), .int (nI (((σ.2.2.2 k)).1 7)), .int (nI (((σ.2.2.2 k)).1 8)), .int (nI (((σ.2.2.2 k)).1 9)), .int (nI (((σ.2.2.2 k)).1 10)), .int (nI (((σ.2.2.2 k)).1 11)), .int (nI (((σ.2.2.2 k)).1 12)), .int (nI (((σ.2.2.2 k)).1 13)), .int (nI (((σ.2.2.2 k)).1 14)), .int (nI (((σ.2.2.2 k)).1 15)), .int (((σ.2.2.2 k)).2.1 0), .int (((σ.2.2.2 k)).2.1 1)], kO (ad k 1) 2 [.ref (ad k 2), .ref (ad k 3), .int (nI ((((σ.2.2.2 k)).2.2 0).length))], kI K (ad k 2) 10 (us k 0), kZ K (ad k 3) 10 (us k 1), kO (ad k 4) 2 [.ref (ad k 5), .ref (ad k 6), .int (nI ((((σ.2.2.2 k)).2.2 1).length))], kI K (ad k 5) 10 (us k 2), kZ K (ad k 6) 10 (us k 3), kO (ad k 7) 0 [.ref (ad k 8), .ref (ad k 9), .int (nI ((((σ.2.2.2 k)).2.2 2).length))], kI K (ad k 8) 5 (us k 4), kI K (ad k 9) 5 (us k 5)] (by rw [List.append_nil]; exact (wCh_open hk rfl).cons _) ?_
  refine k_getN hC inlX1 1 16 rfl rfl (by decide) (List.mem_of_getElem? (i := 18) rfl) rfl dX3_starved_5 ?_
  refine k_perm2 [] (wX K x ad σ us) (by rw [List.append_nil]; exact ((wCh_open hk rfl).symm).cons _) ?_
  exact k_iret hC hE (Nat.le_of_ble_eq_true rfl) (Nat.le_of_ble_eq_true rfl) dX3_starved_8 (by rw [show oGet σ (nI k) (fun τ => τ.2.1 0) = (0, (fun τ => τ.2.1 0) (σ.2.2.2 k), σ) by simp only [oGet, oT, mIx_nI hk31, if_pos hm]]; exact ⟨rfl, rfl, ad, us, List.append_nil _, hU⟩)
abbrev rmX3_time : Room := { frames := 0, cells := 0, slots := 0, locals := 0 }
set_option maxRecDepth 100000 in
set_option maxHeartbeats 4000000 in
theorem cX3_time_k (l : Launch) (K : kE) (x : Nat) (ad : Nat → Nat → Nat) (σ : mS) (us : Nat → Nat → Nat → Int32) (hσ : mSok σ) (hU : mURT σ us) : kM l yX3_time (kws yX3_time cX3_time 1 (some .int)) rmX3_time K [.ref x] (wX K x ad σ us) (kPo K x (0, σ.2.2.1 4, σ)) := by
  refine kM_of (pl := (wCh K ad σ.2.2.2 us (fun _ => true) σ.1)) (X := [kO x 3 [mAh ad σ.1, .int (nI σ.1), .int (kB σ.2.1), .int (σ.2.2.1 3), .int (σ.2.2.1 4), .int (σ.2.2.1 5), .int (σ.2.2.1 6), .int (σ.2.2.1 7)]]) rfl (by decide) (Nat.le_of_ble_eq_true rfl) ?_
  intro p e s m args below meth cd A Q hC hnm hE
  refine k_eX (show _ = [kO x 3 [mAh ad σ.1, .int (nI σ.1), .int (kB σ.2.1), .int (σ.2.2.1 3), .int (σ.2.2.1 4), .int (σ.2.2.1 5), .int (σ.2.2.1 6), .int (σ.2.2.1 7)]] from rfl) ?_
  refine k_aload_n hC 0 dX3_time_0 rfl rfl ?_
  refine k_get hC inlX3 0 4 rfl rfl (by decide) lkF_X3_24 rfl dX3_time_1 ?_
  exact k_iret hC hE (Nat.le_of_ble_eq_true rfl) (Nat.le_of_ble_eq_true rfl) dX3_time_4 ⟨rfl, rfl, ad, us, rfl, hU⟩
abbrev rmX3_taken : Room := { frames := 0, cells := 0, slots := 0, locals := 0 }
set_option maxRecDepth 100000 in
set_option maxHeartbeats 4000000 in
theorem cX3_taken_k (l : Launch) (K : kE) (x : Nat) (ad : Nat → Nat → Nat) (σ : mS) (us : Nat → Nat → Nat → Int32) (hσ : mSok σ) (hU : mURT σ us) : kM l yX3_taken (kws yX3_taken cX3_taken 1 (some .int)) rmX3_taken K [.ref x] (wX K x ad σ us) (kPo K x (0, σ.2.2.1 5, σ)) := by
  refine kM_of (pl := (wCh K ad σ.2.2.2 us (fun _ => true) σ.1)) (X := [kO x 3 [mAh ad σ.1, .int (nI σ.1), .int (kB σ.2.1), .int (σ.2.2.1 3), .int (σ.2.2.1 4), .int (σ.2.2.1 5), .int (σ.2.2.1 6), .int (σ.2.2.1 7)]]) rfl (by decide) (Nat.le_of_ble_eq_true rfl) ?_
  intro p e s m args below meth cd A Q hC hnm hE
  refine k_eX (show _ = [kO x 3 [mAh ad σ.1, .int (nI σ.1), .int (kB σ.2.1), .int (σ.2.2.1 3), .int (σ.2.2.1 4), .int (σ.2.2.1 5), .int (σ.2.2.1 6), .int (σ.2.2.1 7)]] from rfl) ?_
  refine k_aload_n hC 0 dX3_taken_0 rfl rfl ?_
  refine k_get hC inlX3 0 5 rfl rfl (by decide) lkF_X3_27 rfl dX3_taken_1 ?_
  exact k_iret hC hE (Nat.le_of_ble_eq_true rfl) (Nat.le_of_ble_eq_true rfl) dX3_taken_4 ⟨rfl, rfl, ad, us, rfl, hU⟩
abbrev rmX3_backlog : Room := { frames := 0, cells := 0, slots := 0, locals := 0 }
set_option maxRecDepth 100000 in
set_option maxHeartbeats 4000000 in
theorem cX3_backlog_k (l : Launch) (K : kE) (x : Nat) (ad : Nat → Nat → Nat) (σ : mS) (us : Nat → Nat → Nat → Int32) (hσ : mSok σ) (hU : mURT σ us) : kM l yX3_backlog (kws yX3_backlog cX3_backlog 1 (some .int)) rmX3_backlog K [.ref x] (wX K x ad σ us) (kPo K x (0, σ.2.2.1 6, σ)) := by
  refine kM_of (pl := (wCh K ad σ.2.2.2 us (fun _ => true) σ.1)) (X := [kO x 3 [mAh ad σ.1, .int (nI σ.1), .int (kB σ.2.1), .int (σ.2.2.1 3), .int (σ.2.2.1 4), .int (σ.2.2.1 5), .int (σ.2.2.1 6), .int (σ.2.2.1 7)]]) rfl (by decide) (Nat.le_of_ble_eq_true rfl) ?_
  intro p e s m args below meth cd A Q hC hnm hE
  refine k_eX (show _ = [kO x 3 [mAh ad σ.1, .int (nI σ.1), .int (kB σ.2.1), .int (σ.2.2.1 3), .int (σ.2.2.1 4), .int (σ.2.2.1 5), .int (σ.2.2.1 6), .int (σ.2.2.1 7)]] from rfl) ?_
  refine k_aload_n hC 0 dX3_backlog_0 rfl rfl ?_
  refine k_get hC inlX3 0 6 rfl rfl (by decide) lkF_X3_30 rfl dX3_backlog_1 ?_
  exact k_iret hC hE (Nat.le_of_ble_eq_true rfl) (Nat.le_of_ble_eq_true rfl) dX3_backlog_4 ⟨rfl, rfl, ad, us, rfl, hU⟩
abbrev rmX3_shortSteps : Room := { frames := 0, cells := 0, slots := 0, locals := 0 }
set_option maxRecDepth 100000 in
set_option maxHeartbeats 4000000 in
theorem cX3_shortSteps_k (l : Launch) (K : kE) (x : Nat) (ad : Nat → Nat → Nat) (σ : mS) (us : Nat → Nat → Nat → Int32) (hσ : mSok σ) (hU : mURT σ us) : kM l yX3_shortSteps (kws yX3_shortSteps cX3_shortSteps 1 (some .int)) rmX3_shortSteps K [.ref x] (wX K x ad σ us) (kPo K x (0, σ.2.2.1 7, σ)) := by
  refine kM_of (pl := (wCh K ad σ.2.2.2 us (fun _ => true) σ.1)) (X := [kO x 3 [mAh ad σ.1, .int (nI σ.1), .int (kB σ.2.1), .int (σ.2.2.1 3), .int (σ.2.2.1 4), .int (σ.2.2.1 5), .int (σ.2.2.1 6), .int (σ.2.2.1 7)]]) rfl (by decide) (Nat.le_of_ble_eq_true rfl) ?_
  intro p e s m args below meth cd A Q hC hnm hE
  refine k_eX (show _ = [kO x 3 [mAh ad σ.1, .int (nI σ.1), .int (kB σ.2.1), .int (σ.2.2.1 3), .int (σ.2.2.1 4), .int (σ.2.2.1 5), .int (σ.2.2.1 6), .int (σ.2.2.1 7)]] from rfl) ?_
  refine k_aload_n hC 0 dX3_shortSteps_0 rfl rfl ?_
  refine k_get hC inlX3 0 7 rfl rfl (by decide) lkF_X3_33 rfl dX3_shortSteps_1 ?_
  exact k_iret hC hE (Nat.le_of_ble_eq_true rfl) (Nat.le_of_ble_eq_true rfl) dX3_shortSteps_4 ⟨rfl, rfl, ad, us, rfl, hU⟩
abbrev rmX3_stages : Room := { frames := 0, cells := 0, slots := 0, locals := 0 }
set_option maxRecDepth 100000 in
set_option maxHeartbeats 4000000 in
theorem cX3_stages_k (l : Launch) (K : kE) (x : Nat) (ad : Nat → Nat → Nat) (σ : mS) (us : Nat → Nat → Nat → Int32) (hσ : mSok σ) (hU : mURT σ us) : kM l yX3_stages (kws yX3_stages cX3_stages 1 (some .int)) rmX3_stages K [.ref x] (wX K x ad σ us) (kPo K x (0, nI σ.1, σ)) := by
  refine kM_of (pl := (wCh K ad σ.2.2.2 us (fun _ => true) σ.1)) (X := [kO x 3 [mAh ad σ.1, .int (nI σ.1), .int (kB σ.2.1), .int (σ.2.2.1 3), .int (σ.2.2.1 4), .int (σ.2.2.1 5), .int (σ.2.2.1 6), .int (σ.2.2.1 7)]]) rfl (by decide) (Nat.le_of_ble_eq_true rfl) ?_
  intro p e s m args below meth cd A Q hC hnm hE
  refine k_eX (show _ = [kO x 3 [mAh ad σ.1, .int (nI σ.1), .int (kB σ.2.1), .int (σ.2.2.1 3), .int (σ.2.2.1 4), .int (σ.2.2.1 5), .int (σ.2.2.1 6), .int (σ.2.2.1 7)]] from rfl) ?_
  refine k_aload_n hC 0 dX3_stages_0 rfl rfl ?_
  refine k_get hC inlX3 0 1 rfl rfl (by decide) lkF_X3_13 rfl dX3_stages_1 ?_
  exact k_iret hC hE (Nat.le_of_ble_eq_true rfl) (Nat.le_of_ble_eq_true rfl) dX3_stages_4 ⟨rfl, rfl, ad, us, rfl, hU⟩
abbrev rmX3_init : Room := { frames := 1, cells := 0, slots := 0, locals := 30 }
def mS0 : mS := (0, false, fun _ => nI 0, fun _ => (fun _ => 0, fun _ => nI 0, fun _ => []))
set_option maxRecDepth 100000 in
set_option maxHeartbeats 4000000 in
theorem cX3_init_k (l : Launch) (K : kE) (x : Nat) : kM l yX3_init (kws yX3_init cX3_init 1 none) rmX3_init K [.ref x] [kO x 3 [.null, .int (nI 0), .int (nI 0), .int (nI 0), .int (nI 0), .int (nI 0), .int (nI 0), .int (nI 0)]] (fun v w => v = none ∧ w = wX K x (fun _ _ => 0) mS0 (fun _ _ _ => 0)) := by
  refine kM_of (pl := []) (X := [kO x 3 [.null, .int (nI 0), .int (nI 0), .int (nI 0), .int (nI 0), .int (nI 0), .int (nI 0), .int (nI 0)]]) rfl (by decide) (Nat.le_of_ble_eq_true rfl) ?_
  intro p e s m args below meth cd A Q hC hnm hE
  refine k_eX (show _ = [kO x 3 [.null, .int (nI 0), .int (nI 0), .int (nI 0), .int (nI 0), .int (nI 0), .int (nI 0), .int (nI 0)]] from rfl) ?_
  refine k_aload_n hC 0 dX3_init_0 rfl rfl ?_
  refine k_objInit hC lkM_X3_1 lkI_objectInit lkC_objectInit dX3_init_1 (Nat.le_of_ble_eq_true rfl) (Nat.le_of_ble_eq_true rfl) ?_
  refine k_aload_n hC 0 dX3_init_4 rfl rfl ?_
  refine k_null hC dX3_init_5 ?_
  refine k_put hC inlX3 tyX3_ok nmX3 0 0 rfl rfl (by decide) lkF_X3_7 rfl rfl rfl (Nat.le_of_ble_eq_true rfl) dX3_init_6 [kO x 3 [.null, .int (nI 0), .int (nI 0), .int (nI 0), .int (nI 0), .int (nI 0), .int (nI 0), .int (nI 0)]] rfl ?_
  refine k_aload_n hC 0 dX3_init_9 rfl rfl ?_
  refine k_iconst hC (nI 0) dX3_init_10 rfl ?_
  refine k_put hC inlX3 tyX3_ok nmX3 0 1 rfl rfl (by decide) lkF_X3_13 rfl rfl rfl (Nat.le_of_ble_eq_true rfl) dX3_init_11 [kO x 3 [.null, .int (nI 0), .int (nI 0), .int (nI 0), .int (nI 0), .int (nI 0), .int (nI 0), .int (nI 0)]] rfl ?_
  refine k_aload_n hC 0 dX3_init_14 rfl rfl ?_
  refine k_iconst hC (nI 0) dX3_init_15 rfl ?_
  refine k_put hC inlX3 tyX3_ok nmX3 0 2 rfl rfl (by decide) lkF_X3_17 rfl rfl rfl (Nat.le_of_ble_eq_true rfl) dX3_init_16 [kO x 3 [.null, .int (nI 0), .int (nI 0), .int (nI 0), .int (nI 0), .int (nI 0), .int (nI 0), .int (nI 0)]] rfl ?_
  refine k_aload_n hC 0 dX3_init_19 rfl rfl ?_
  refine k_iconst hC (nI 0) dX3_init_20 rfl ?_
  refine k_put hC inlX3 tyX3_ok nmX3 0 3 rfl rfl (by decide) lkF_X3_21 rfl rfl rfl (Nat.le_of_ble_eq_true rfl) dX3_init_21 [kO x 3 [.null, .int (nI 0), .int (nI 0), .int (nI 0), .int (nI 0), .int (nI 0), .int (nI 0), .int (nI 0)]] rfl ?_
  refine k_aload_n hC 0 dX3_init_24 rfl rfl ?_
  refine k_iconst hC (nI 0) dX3_init_25 rfl ?_
  refine k_put hC inlX3 tyX3_ok nmX3 0 4 rfl rfl (by decide) lkF_X3_24 rfl rfl rfl (Nat.le_of_ble_eq_true rfl) dX3_init_26 [kO x 3 [.null, .int (nI 0), .int (nI 0), .int (nI 0), .int (nI 0), .int (nI 0), .int (nI 0), .int (nI 0)]] rfl ?_
  refine k_aload_n hC 0 dX3_init_29 rfl rfl ?_
  refine k_iconst hC (nI 0) dX3_init_30 rfl ?_
  refine k_put hC inlX3 tyX3_ok nmX3 0 5 rfl rfl (by decide) lkF_X3_27 rfl rfl rfl (Nat.le_of_ble_eq_true rfl) dX3_init_31 [kO x 3 [.null, .int (nI 0), .int (nI 0), .int (nI 0), .int (nI 0), .int (nI 0), .int (nI 0), .int (nI 0)]] rfl ?_
  refine k_aload_n hC 0 dX3_init_34 rfl rfl ?_
  refine k_iconst hC (nI 0) dX3_init_35 rfl ?_
  refine k_put hC inlX3 tyX3_ok nmX3 0 6 rfl rfl (by decide) lkF_X3_30 rfl rfl rfl (Nat.le_of_ble_eq_true rfl) dX3_init_36 [kO x 3 [.null, .int (nI 0), .int (nI 0), .int (nI 0), .int (nI 0), .int (nI 0), .int (nI 0), .int (nI 0)]] rfl ?_
  refine k_aload_n hC 0 dX3_init_39 rfl rfl ?_
  refine k_iconst hC (nI 0) dX3_init_40 rfl ?_
  refine k_put hC inlX3 tyX3_ok nmX3 0 7 rfl rfl (by decide) lkF_X3_33 rfl rfl rfl (Nat.le_of_ble_eq_true rfl) dX3_init_41 [kO x 3 [.null, .int (nI 0), .int (nI 0), .int (nI 0), .int (nI 0), .int (nI 0), .int (nI 0), .int (nI 0)]] rfl ?_
  exact k_vret hC hE (Nat.le_of_ble_eq_true rfl) (Nat.le_of_ble_eq_true rfl) dX3_init_44 ⟨rfl, rfl⟩
