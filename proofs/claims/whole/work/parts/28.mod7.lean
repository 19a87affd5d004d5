/-! the reference: needed, stock, a new stage, a new object -/
theorem mSumZ_lt {F F' : Nat → Int32} {n : Nat} (h : ∀ j : Nat, j < n → F' j = F j) : mSumZ F' n = mSumZ F n := by
  induction n with
  | zero => rfl
  | succ n ih => show mSumZ F' n + F' n = mSumZ F n + F n; rw [ih (fun j hj => h j (by omega)), h n (by omega)]
theorem mRep_new {σ : mS} {S S' : Nat → Int32} {G G' : Nat → Nat → Int32} {τ : mT} (hσ : mSok σ) (h : mRep σ S G) (h1 : S' 1 = nI (σ.1 + 1)) (h8 : S' 8 = S 8 + τ.2.1 1) (hS : ∀ j : Nat, j ≠ 0 → j ≠ 1 → j ≠ 8 → S' j = S j) (hq : mRepS σ.1 τ G') (ho : mOnly σ.1 G G') : mRep (σ.1 + 1, σ.2.1, σ.2.2.1, va_up σ.2.2.2 σ.1 τ) S' G' := by
  obtain ⟨r1, r2, r3, r4, r5, r6⟩ := h
  refine ⟨h1, (hS 2 (by decide) (by decide) (by decide)).trans r2, fun j a c => (hS j (by omega) (by omega) (by omega)).trans (r3 j a c), ?_, fun j hj => ?_, mZero_ag (n := σ.1 + 1) (fun k a c => r6 k (by omega) c) (fun j hj => ho j (by omega))⟩
  · rw [h8, r4]
    show _ = mSumZ (fun k => (va_up σ.2.2.2 σ.1 τ k).2.1 1) σ.1 + (va_up σ.2.2.2 σ.1 τ σ.1).2.1 1
    rw [va_up_self, mSumZ_lt (F' := fun k => (va_up σ.2.2.2 σ.1 τ k).2.1 1) (F := fun k => (σ.2.2.2 k).2.1 1) (fun j hj => by show (va_up σ.2.2.2 σ.1 τ j).2.1 1 = _; rw [va_up_ne _ _ (by omega)])]
  · show mRepS j (va_up σ.2.2.2 σ.1 τ j) G'
    have hj2 : j < σ.1 + 1 := hj
    by_cases e : j = σ.1
    · subst e; rw [va_up_self]; exact hq
    · rw [va_up_ne _ _ e]; exact mRepS_ag (r5 j (by omega)) (mInv_16 (hσ.2 j (by omega)).1) (ho j e)
abbrev rmX4_needed : Room := { frames := 1, cells := 0, slots := 0, locals := 23 }
set_option maxRecDepth 100000 in
set_option maxHeartbeats 4000000 in
theorem cX4_needed_k (l : Launch) (K : kE) (y : Nat) (b : Nat → Nat) (S : Nat → Int32) (G : Nat → Nat → Int32) (σ : mS) (hσ : mSok σ) (hR : mRep σ S G) (p9 v9 : Int32) : kM l yX4_needed (kws yX4_needed cX4_needed 6 (some .int)) rmX4_needed K [.ref y, .int p9, .int v9] (wM K y b S G) (mPo K y b (oNeeded σ p9 v9)) := by
  refine kM_of (pl := []) (X := (wM K y b S G)) rfl (by decide) (Nat.le_of_ble_eq_true rfl) ?_
  intro p e s m args below meth cd A Q hC hnm hE
  have hn6 := hσ.1
  refine k_aload_n hC 0 dX4_needed_0 rfl rfl ?_
  refine k_aload_n hC 0 dX4_needed_1 rfl rfl ?_
  refine k_iload_n hC 1 dX4_needed_2 rfl rfl ?_
  refine k_iconst hC (nI 0) dX4_needed_3 rfl ?_
  refine k_callV hC (As := [.int p9, .int (nI 0)]) (cX4_asks_k l K y b S G p9 (nI 0)) [] (List.append_nil _).symm 0 rfl rfl (kAll5 lkM_X4_92 lkI_yX4_asks lkS_yX4_asks lkN_X4 lkC_yX4_asks) 2 (by decide) ⟨(Nat.le_of_ble_eq_true rfl), (Nat.le_of_ble_eq_true rfl)⟩ rfl rfl (Nat.le_of_ble_eq_true rfl) ⟨(Nat.le_of_ble_eq_true rfl), (Nat.le_of_ble_eq_true rfl)⟩ dX4_needed_4 (fun v w h => ?_)
  obtain ⟨rfl, rfl⟩ := h
  rw [hR.1]
  by_cases hm : mHas σ 0 p9
  · rw [if_pos hm, if_pos hm]
    refine k_re 0 0 (wM K y b (va_up S 0 (nI 0)) G) [.int (nI 1), .ref y] rfl rfl (List.append_nil _) rfl ?_
    obtain ⟨k, hk1, hk, rfl⟩ := mHas_ex hσ.1 (by decide) hm
    have hk31 : k < 2 ^ 31 := by omega
    have hk6 : k < 6 := by omega
    have hi := hσ.2 k hk
    have hn := hi.1.1
    have hl0 := mInv_L0 hi.1
    have hl1 := mInv_L1 hi.1
    have hl2 := mInv_L2 hi.1
    have h89 : (σ.2.2.2 k).1 9 ≤ 9 := by have := hi.1.2.1; omega
    obtain ⟨q9, q10, q11, q12, q13, q14, q15, q16, q17, q18, q19, q20, qr0, qr1, qr2⟩ := id (hR.2.2.2.2.1 k hk)
    refine k_if_neN hC 14 dX4_needed_7 (by decide) (by omega) (fun d1 => ?_) (fun d1 => ?_)
    · refine k_iload_n hC 2 dX4_needed_14 rfl rfl ?_
      refine k_iconst hC (nI 0) dX4_needed_15 rfl ?_
      refine k_bipush hC (nI 100) dX4_needed_16 rfl ?_
      refine k_callS hC (As := [.int v9, .int (nI 0), .int (nI 100)]) (cX4_isIn_k l K v9 (nI 0) (nI 100)) (wM K y b (va_up S 0 (nI 0)) G) rfl (kAll4 lkM_X4_81 lkT_yX4_isIn lkN_X4 lkC_yX4_isIn) 3 (by decide) ⟨(Nat.le_of_ble_eq_true rfl), (Nat.le_of_ble_eq_true rfl)⟩ rfl rfl (Nat.le_of_ble_eq_true rfl) ⟨(Nat.le_of_ble_eq_true rfl), (Nat.le_of_ble_eq_true rfl)⟩ dX4_needed_18 (fun v w h => ?_)
      obtain ⟨rfl, rfl⟩ := h
      refine k_re 0 0 (wM K y b (va_up S 0 (nI 0)) G) [.int (nI (if nI 0 ≤ v9 ∧ v9 ≤ nI 100 then 1 else 0)), .ref y] rfl rfl rfl rfl ?_
      by_cases hv : mIn v9 0 100
      · rw [if_pos hv]
        refine k_if_eqN hC 28 dX4_needed_21 (by decide) (by omega) (fun d2 => ?_) (fun d2 => ?_)
        · exact absurd d2 (by decide)
        · refine k_iconst hC (nI 0) dX4_needed_24 rfl ?_
          refine k_goto hC 29 dX4_needed_25 (by decide) ?_
          refine k_put hC inlX4 tyX4_ok nmX4 0 0 rfl rfl (by decide) lkF_X4_74 rfl rfl rfl (Nat.le_of_ble_eq_true rfl) dX4_needed_29 (wM K y b (va_up (va_up S 0 (nI 0)) 0 (nI 0)) G) rfl ?_
          refine k_aload_n hC 0 dX4_needed_32 rfl rfl ?_
          refine k_get hC inlX4 0 0 rfl rfl (by decide) lkF_X4_74 rfl dX4_needed_33 ?_
          refine k_if_leN hC 41 dX4_needed_36 (by decide) (by omega) (fun d3 => ?_) (fun d3 => ?_)
          · refine k_aload_n hC 0 dX4_needed_41 rfl rfl ?_
            refine k_get hC inlX4 0 12 rfl rfl (by decide) lkF_X4_19 rfl dX4_needed_42 ?_
            refine k_iload_n hC 1 dX4_needed_45 rfl rfl ?_
            refine k_ald hC 4 rfl (by omega) (by decide) dX4_needed_46 ?_
            refine k_topE (nI ((σ.2.2.2 k).1 7)) q12 ?_
            refine k_aload_n hC 0 dX4_needed_47 rfl rfl ?_
            refine k_get hC inlX4 0 11 rfl rfl (by decide) lkF_X4_16 rfl dX4_needed_48 ?_
            refine k_iload_n hC 1 dX4_needed_51 rfl rfl ?_
            refine k_ald hC 3 rfl (by omega) (by decide) dX4_needed_52 ?_
            refine k_topE (nI ((σ.2.2.2 k).1 3)) q11 ?_
            refine k_imulN hC dX4_needed_53 ?_
            refine k_iload_n hC 1 dX4_needed_54 rfl rfl ?_
            refine k_iconst hC (nI 1) dX4_needed_55 rfl ?_
            refine k_iaddN hC dX4_needed_56 ?_
            refine k_aload_n hC 0 dX4_needed_57 rfl rfl ?_
            refine k_get hC inlX4 0 1 rfl rfl (by decide) lkF_X4_78 rfl dX4_needed_58 ?_
            refine k_topE (nI σ.1) hR.1 ?_
            refine k_icmp_geN hC 75 dX4_needed_61 (by decide) (by omega) (by omega) (fun c1 => ?_) (fun c1 => ?_)
            · refine k_iconst hC (nI 0) dX4_needed_75 rfl ?_
              refine k_topE (nI (mBehind σ k)) (by unfold mBehind; rw [if_neg (by omega)]) ?_
              refine k_iaddN hC dX4_needed_76 ?_
              refine k_istore_n hC 3 dX4_needed_77 rfl (by decide) rfl [(0, .ref y), (1, .int (nI k)), (2, .int v9), (3, .int (nI ((((σ.2.2.2 k).1 7) * ((σ.2.2.2 k).1 3)) + (mBehind σ k))))] rfl ?_
              refine k_bipush hC (nI 100) dX4_needed_78 rfl ?_
              refine k_aload_n hC 0 dX4_needed_80 rfl rfl ?_
              refine k_get hC inlX4 0 10 rfl rfl (by decide) lkF_X4_13 rfl dX4_needed_81 ?_
              refine k_iload_n hC 1 dX4_needed_84 rfl rfl ?_
              refine k_ald hC 2 rfl (by omega) (by decide) dX4_needed_85 ?_
              refine k_topE (nI ((σ.2.2.2 k).1 2)) q10 ?_
              refine k_imulN hC dX4_needed_86 ?_
              refine k_istore hC dX4_needed_87 (by decide) rfl [(0, .ref y), (1, .int (nI k)), (2, .int v9), (3, .int (nI ((((σ.2.2.2 k).1 7) * ((σ.2.2.2 k).1 3)) + (mBehind σ k)))), (4, .int (nI (100 * ((σ.2.2.2 k).1 2))))] rfl ?_
              refine k_aload_n hC 0 dX4_needed_89 rfl rfl ?_
              refine k_get hC inlX4 0 3 rfl rfl (by decide) lkF_X4_100 rfl dX4_needed_90 ?_
              refine k_topE (σ.2.2.1 3) (hR.2.2.1 3 (by decide) (by decide)) ?_
              refine k_iload_n hC 3 dX4_needed_93 rfl rfl ?_
              refine k_imul hC dX4_needed_94 ?_
              refine k_bipush hC (nI 100) dX4_needed_95 rfl ?_
              refine k_iload_n hC 2 dX4_needed_97 rfl rfl ?_
              refine k_iadd hC dX4_needed_98 ?_
              refine k_imul hC dX4_needed_99 ?_
              refine k_iload hC dX4_needed_100 rfl ?_
              refine k_iadd hC dX4_needed_102 ?_
              refine k_iconst hC (nI 1) dX4_needed_103 rfl ?_
              refine k_isub hC dX4_needed_104 ?_
              refine k_iload hC dX4_needed_105 rfl ?_
              refine k_idiv hC dX4_needed_107 (nI_ne0 (by omega) (by omega)) ?_
              refine k_topE (mQuot σ k v9) rfl ?_
              refine k_istore hC dX4_needed_108 (by decide) rfl [(0, .ref y), (1, .int (nI k)), (2, .int v9), (3, .int (nI ((((σ.2.2.2 k).1 7) * ((σ.2.2.2 k).1 3)) + (mBehind σ k)))), (4, .int (nI (100 * ((σ.2.2.2 k).1 2)))), (5, .int (mQuot σ k v9))] rfl ?_
              refine k_iload hC dX4_needed_110 rfl ?_
              refine k_iconst hC (nI 1) dX4_needed_112 rfl ?_
              refine k_icmp_le hC 121 dX4_needed_113 (by decide) (fun c2 => ?_) (fun c2 => ?_)
              · refine k_iconst hC (nI 1) dX4_needed_121 rfl ?_
                exact k_iret hC hE (Nat.le_of_ble_eq_true rfl) (Nat.le_of_ble_eq_true rfl) dX4_needed_122 (by rw [show oNeeded σ (nI k) v9 = (0, if nI 1 < mQuot σ k v9 then mQuot σ k v9 else nI 1, σ) by simp only [oNeeded, mIx_nI hk31, if_pos hm, if_pos hv]]; exact ⟨_, G, _, rfl, List.append_nil _, rfl, fun _ => (if_neg (Int32.not_lt.mpr c2)).symm, mRep_S hR (fun j hj => by simp only [va_up_ne _ _ hj])⟩)
              · refine k_iload hC dX4_needed_116 rfl ?_
                refine k_goto hC 122 dX4_needed_118 (by decide) ?_
                exact k_iret hC hE (Nat.le_of_ble_eq_true rfl) (Nat.le_of_ble_eq_true rfl) dX4_needed_122 (by rw [show oNeeded σ (nI k) v9 = (0, if nI 1 < mQuot σ k v9 then mQuot σ k v9 else nI 1, σ) by simp only [oNeeded, mIx_nI hk31, if_pos hm, if_pos hv]]; exact ⟨_, G, _, rfl, List.append_nil _, rfl, fun _ => (if_pos (Int32.not_le.mp c2)).symm, mRep_S hR (fun j hj => by simp only [va_up_ne _ _ hj])⟩)
            · have hb := (hR.2.2.2.2.1 (k + 1) (by omega)).2.2.2.2.2.2.2.2.2.1
              refine k_aload_n hC 0 dX4_needed_64 rfl rfl ?_
              refine k_get hC inlX4 0 18 rfl rfl (by decide) lkF_X4_38 rfl dX4_needed_65 ?_
              refine k_iload_n hC 1 dX4_needed_68 rfl rfl ?_
              refine k_iconst hC (nI 1) dX4_needed_69 rfl ?_
              refine k_iaddN hC dX4_needed_70 ?_
              refine k_ald hC 10 rfl (by omega) (by decide) dX4_needed_71 ?_
              refine k_topE (nI (mBehind σ k)) (hb.trans (by unfold mBehind; rw [if_pos (by omega)])) ?_
              refine k_goto hC 76 dX4_needed_72 (by decide) ?_
              refine k_iaddN hC dX4_needed_76 ?_
              refine k_istore_n hC 3 dX4_needed_77 rfl (by decide) rfl [(0, .ref y), (1, .int (nI k)), (2, .int v9), (3, .int (nI ((((σ.2.2.2 k).1 7) * ((σ.2.2.2 k).1 3)) + (mBehind σ k))))] rfl ?_
              refine k_bipush hC (nI 100) dX4_needed_78 rfl ?_
              refine k_aload_n hC 0 dX4_needed_80 rfl rfl ?_
              refine k_get hC inlX4 0 10 rfl rfl (by decide) lkF_X4_13 rfl dX4_needed_81 ?_
              refine k_iload_n hC 1 dX4_needed_84 rfl rfl ?_
              refine k_ald hC 2 rfl (by omega) (by decide) dX4_needed_85 ?_
              refine k_topE (nI ((σ.2.2.2 k).1 2)) q10 ?_
              refine k_imulN hC dX4_needed_86 ?_
              refine k_istore hC dX4_needed_87 (by decide) rfl [(0, .ref y), (1, .int (nI k)), (2, .int v9), (3, .int (nI ((((σ.2.2.2 k).1 7) * ((σ.2.2.2 k).1 3)) + (mBehind σ k)))), (4, .int (nI (100 * ((σ.2.2.2 k).1 2))))] rfl ?_
              refine k_aload_n hC 0 dX4_needed_89 rfl rfl ?_
              refine k_get hC inlX4 0 3 rfl rfl (by decide) lkF_X4_100 rfl dX4_needed_90 ?_
              refine k_topE (σ.2.2.1 3) (hR.2.2.1 3 (by decide) (by decide)) ?_
              refine k_iload_n hC 3 dX4_needed_93 rfl rfl ?_
              refine k_imul hC dX4_needed_94 ?_
              refine k_bipush hC (nI 100) dX4_needed_95 rfl ?_
              refine k_iload_n hC 2 dX4_needed_97 rfl rfl ?_
              refine k_iadd hC dX4_needed_98 ?_
              refine k_imul hC dX4_needed_99 ?_
              refine k_iload hC dX4_needed_100 rfl ?_
              refine k_iadd hC dX4_needed_102 ?_
              refine k_iconst hC (nI 1) dX4_needed_103 rfl ?_
              refine k_isub hC dX4_needed_104 ?_
              refine k_iload hC dX4_needed_105 rfl ?_
              refine k_idiv hC dX4_needed_107 (nI_ne0 (by omega) (by omega)) ?_
              refine k_topE (mQuot σ k v9) rfl ?_
              refine k_istore hC dX4_needed_108 (by decide) rfl [(0, .ref y), (1, .int (nI k)), (2, .int v9), (3, .int (nI ((((σ.2.2.2 k).1 7) * ((σ.2.2.2 k).1 3)) + (mBehind σ k)))), (4, .int (nI (100 * ((σ.2.2.2 k).1 2)))), (5, .int (mQuot σ k v9))] rfl ?_
              refine k_iload hC dX4_needed_110 rfl ?_
              refine k_iconst hC (nI 1) dX4_needed_112 rfl ?_
              refine k_icmp_le hC 121 dX4_needed_113 (by decide) (fun c2 => ?_) (fun c2 => ?_)
              · refine k_iconst hC (nI 1) dX4_needed_121 rfl ?_
                exact k_iret hC hE (Nat.le_of_ble_eq_true rfl) (Nat.le_of_ble_eq_true rfl) dX4_needed_122 (by rw [show oNeeded σ (nI k) v9 = (0, if nI 1 < mQuot σ k v9 then mQuot σ k v9 else nI 1, σ) by simp only [oNeeded, mIx_nI hk31, if_pos hm, if_pos hv]]; exact ⟨_, G, _, rfl, List.append_nil _, rfl, fun _ => (if_neg (Int32.not_lt.mpr c2)).symm, mRep_S hR (fun j hj => by simp only [va_up_ne _ _ hj])⟩)
              · refine k_iload hC dX4_needed_116 rfl ?_
                refine k_goto hC 122 dX4_needed_118 (by decide) ?_
                exact k_iret hC hE (Nat.le_of_ble_eq_true rfl) (Nat.le_of_ble_eq_true rfl) dX4_needed_122 (by rw [show oNeeded σ (nI k) v9 = (0, if nI 1 < mQuot σ k v9 then mQuot σ k v9 else nI 1, σ) by simp only [oNeeded, mIx_nI hk31, if_pos hm, if_pos hv]]; exact ⟨_, G, _, rfl, List.append_nil _, rfl, fun _ => (if_pos (Int32.not_le.mp c2)).symm, mRep_S hR (fun j hj => by simp only [va_up_ne _ _ hj])⟩)
          · exact absurd (by decide) d3
      · rw [if_neg hv]
        refine k_if_eqN hC 28 dX4_needed_21 (by decide) (by omega) (fun d2 => ?_) (fun d2 => ?_)
        · refine k_iconst hC (nI 2) dX4_needed_28 rfl ?_
          refine k_put hC inlX4 tyX4_ok nmX4 0 0 rfl rfl (by decide) lkF_X4_74 rfl rfl rfl (Nat.le_of_ble_eq_true rfl) dX4_needed_29 (wM K y b (va_up (va_up S 0 (nI 0)) 0 (nI 2)) G) rfl ?_
          refine k_aload_n hC 0 dX4_needed_32 rfl rfl ?_
          refine k_get hC inlX4 0 0 rfl rfl (by decide) lkF_X4_74 rfl dX4_needed_33 ?_
          refine k_if_leN hC 41 dX4_needed_36 (by decide) (by omega) (fun d3 => ?_) (fun d3 => ?_)
          · exact absurd d3 (by decide)
          · refine k_iconst hC (nI 0) dX4_needed_39 rfl ?_
            exact k_iret hC hE (Nat.le_of_ble_eq_true rfl) (Nat.le_of_ble_eq_true rfl) dX4_needed_40 (by rw [show oNeeded σ (nI k) v9 = (2, nI 0, σ) by simp only [oNeeded, if_pos hm, if_neg hv]]; exact ⟨_, G, _, rfl, List.append_nil _, rfl, fun q => absurd q (Nat.succ_ne_zero _), mRep_S hR (fun j hj => by simp only [va_up_ne _ _ hj])⟩)
        · exact absurd (by decide) d2
    · exact absurd d1 (by decide)
  · rw [if_neg hm, if_neg hm]
    refine k_re 0 0 (wM K y b (va_up S 0 (nI 1)) G) [.int (nI 0), .ref y] rfl rfl (List.append_nil _) rfl ?_
    refine k_if_neN hC 14 dX4_needed_7 (by decide) (by omega) (fun d1 => ?_) (fun d1 => ?_)
    · exact absurd (by decide) d1
    · refine k_iconst hC (nI 1) dX4_needed_10 rfl ?_
      refine k_goto hC 29 dX4_needed_11 (by decide) ?_
      refine k_put hC inlX4 tyX4_ok nmX4 0 0 rfl rfl (by decide) lkF_X4_74 rfl rfl rfl (Nat.le_of_ble_eq_true rfl) dX4_needed_29 (wM K y b (va_up (va_up S 0 (nI 1)) 0 (nI 1)) G) rfl ?_
      refine k_aload_n hC 0 dX4_needed_32 rfl rfl ?_
      refine k_get hC inlX4 0 0 rfl rfl (by decide) lkF_X4_74 rfl dX4_needed_33 ?_
      refine k_if_leN hC 41 dX4_needed_36 (by decide) (by omega) (fun d2 => ?_) (fun d2 => ?_)
      · exact absurd d2 (by decide)
      · refine k_iconst hC (nI 0) dX4_needed_39 rfl ?_
        exact k_iret hC hE (Nat.le_of_ble_eq_true rfl) (Nat.le_of_ble_eq_true rfl) dX4_needed_40 (by rw [show oNeeded σ p9 v9 = (1, nI 0, σ) by simp only [oNeeded, if_neg hm]]; exact ⟨_, G, _, rfl, List.append_nil _, rfl, fun q => absurd q (Nat.succ_ne_zero _), mRep_S hR (fun j hj => by simp only [va_up_ne _ _ hj])⟩)
abbrev rmX4_stockByFlow : Room := { frames := 0, cells := 0, slots := 0, locals := 0 }
set_option maxRecDepth 100000 in
set_option maxHeartbeats 4000000 in
theorem cX4_stockByFlow_k (l : Launch) (K : kE) (y : Nat) (b : Nat → Nat) (S : Nat → Int32) (G : Nat → Nat → Int32) (σ : mS) (hσ : mSok σ) (hR : mRep σ S G) : kM l yX4_stockByFlow (kws yX4_stockByFlow cX4_stockByFlow 1 (some .int)) rmX4_stockByFlow K [.ref y] (wM K y b S G) (mPo K y b ((0, oFlow σ, σ))) := by
  refine kM_of (pl := []) (X := (wM K y b S G)) rfl (by decide) (Nat.le_of_ble_eq_true rfl) ?_
  intro p e s m args below meth cd A Q hC hnm hE
  have hn6 := hσ.1
  refine k_aload_n hC 0 dX4_stockByFlow_0 rfl rfl ?_
  refine k_iconst hC (nI 0) dX4_stockByFlow_1 rfl ?_
  refine k_put hC inlX4 tyX4_ok nmX4 0 0 rfl rfl (by decide) lkF_X4_74 rfl rfl rfl (Nat.le_of_ble_eq_true rfl) dX4_stockByFlow_2 (wM K y b (va_up S 0 (nI 0)) G) rfl ?_
  refine k_aload_n hC 0 dX4_stockByFlow_5 rfl rfl ?_
  refine k_get hC inlX4 0 8 rfl rfl (by decide) lkF_X4_89 rfl dX4_stockByFlow_6 ?_
  refine k_aload_n hC 0 dX4_stockByFlow_9 rfl rfl ?_
  refine k_get hC inlX4 0 5 rfl rfl (by decide) lkF_X4_117 rfl dX4_stockByFlow_10 ?_
  refine k_isub hC dX4_stockByFlow_13 ?_
  exact k_iret hC hE (Nat.le_of_ble_eq_true rfl) (Nat.le_of_ble_eq_true rfl) dX4_stockByFlow_14 ⟨_, G, _, rfl, List.append_nil _, rfl, fun _ => by show S 8 - S 5 = oFlow σ; unfold oFlow; rw [hR.2.2.2.1, hR.2.2.1 5 (by decide) (by decide), Int32.sub_eq_add_neg, Int32.add_comm], mRep_S hR (fun j hj => by simp only [va_up_ne _ _ hj])⟩
abbrev rmX4_stock : Room := { frames := 1, cells := 0, slots := 0, locals := 23 }
set_option maxRecDepth 100000 in
set_option maxHeartbeats 4000000 in
theorem cX4_stock_k (l : Launch) (K : kE) (y : Nat) (b : Nat → Nat) (S : Nat → Int32) (G : Nat → Nat → Int32) (σ : mS) (hσ : mSok σ) (hR : mRep σ S G) : kM l yX4_stock (kws yX4_stock cX4_stock 4 (some .int)) rmX4_stock K [.ref y] (wM K y b S G) (mPo K y b ((0, oStock σ, σ))) := by
  refine kM_of (pl := []) (X := (wM K y b S G)) rfl (by decide) (Nat.le_of_ble_eq_true rfl) ?_
  intro p e s m args below meth cd A Q hC hnm hE
  have hn6 := hσ.1
  refine k_aload_n hC 0 dX4_stock_0 rfl rfl ?_
  refine k_iconst hC (nI 0) dX4_stock_1 rfl ?_
  refine k_put hC inlX4 tyX4_ok nmX4 0 0 rfl rfl (by decide) lkF_X4_74 rfl rfl rfl (Nat.le_of_ble_eq_true rfl) dX4_stock_2 (wM K y b (va_up S 0 (nI 0)) G) rfl ?_
  refine k_iconst hC (nI 0) dX4_stock_5 rfl ?_
  refine k_istore_n hC 1 dX4_stock_6 rfl (by decide) rfl [(0, .ref y), (1, .int (nI 0))] rfl ?_
  refine k_iconst hC (nI 0) dX4_stock_7 rfl ?_
  refine k_istore_n hC 2 dX4_stock_8 rfl (by decide) rfl [(0, .ref y), (1, .int (nI 0)), (2, .int (nI 0))] rfl ?_
  have loop : ∀ (n s9 sm : Nat), n + s9 = σ.1 → sm = mSum (fun k => mHeld (σ.2.2.2 k)) s9 → kW p l e rmX4_stock s m args below meth cd K A 4 Q 0 0 ([]) (wM K y b (va_up S 0 (nI 0)) G) [(0, .ref y), (1, .int (nI sm)), (2, .int (nI s9))] 9 [] := by
    intro n
    induction n with
    | zero =>
      intro s9 sm h1 h2
      have h1 : s9 = σ.1 := by omega
      subst h1
      refine k_iload_n hC 2 dX4_stock_9 rfl rfl ?_
      refine k_aload_n hC 0 dX4_stock_10 rfl rfl ?_
      refine k_get hC inlX4 0 1 rfl rfl (by decide) lkF_X4_78 rfl dX4_stock_11 ?_
      refine k_topE (nI σ.1) hR.1 ?_
      refine k_icmp_geN hC 89 dX4_stock_14 (by decide) (by omega) (by omega) (fun c1 => ?_) (fun c1 => ?_)
      · refine k_iload_n hC 1 dX4_stock_89 rfl rfl ?_
        exact k_iret hC hE (Nat.le_of_ble_eq_true rfl) (Nat.le_of_ble_eq_true rfl) dX4_stock_90 ⟨_, G, _, rfl, List.append_nil _, rfl, fun _ => by rw [h2]; rfl, mRep_S hR (fun j hj => by simp only [va_up_ne _ _ hj])⟩
      · exact absurd c1 (by omega)
    | succ n ih =>
      intro s9 sm h1 h2
      refine k_iload_n hC 2 dX4_stock_9 rfl rfl ?_
      refine k_aload_n hC 0 dX4_stock_10 rfl rfl ?_
      refine k_get hC inlX4 0 1 rfl rfl (by decide) lkF_X4_78 rfl dX4_stock_11 ?_
      refine k_topE (nI σ.1) hR.1 ?_
      refine k_icmp_geN hC 89 dX4_stock_14 (by decide) (by omega) (by omega) (fun c1 => ?_) (fun c1 => ?_)
      · exact absurd c1 (by omega)
      · have hk : s9 < σ.1 := by omega
        have hk6 : s9 < 6 := by omega
        have hi := hσ.2 s9 hk
        have hn := hi.1.1
        have hl0 := mInv_L0 hi.1
        have hl1 := mInv_L1 hi.1
        have hl2 := mInv_L2 hi.1
        obtain ⟨q9, q10, q11, q12, q13, q14, q15, q16, q17, q18, q19, q20, qr0, qr1, qr2⟩ := id (hR.2.2.2.2.1 s9 hk)
        refine k_iload_n hC 1 dX4_stock_17 rfl rfl ?_
        refine k_aload_n hC 0 dX4_stock_18 rfl rfl ?_
        refine k_iload_n hC 2 dX4_stock_19 rfl rfl ?_
        refine k_callV hC (As := [.int (nI s9)]) (cX4_marketOf_k l K y b (va_up S 0 (nI 0)) G s9 ((σ.2.2.2 s9).2.2 0) hk6 qr0 (by omega)) [] (List.append_nil _).symm 0 rfl rfl (kAll5 lkM_X4_126 lkI_yX4_marketOf lkS_yX4_marketOf lkN_X4 lkC_yX4_marketOf) 1 (by decide) ⟨(Nat.le_of_ble_eq_true rfl), (Nat.le_of_ble_eq_true rfl)⟩ rfl rfl (Nat.le_of_ble_eq_true rfl) ⟨(Nat.le_of_ble_eq_true rfl), (Nat.le_of_ble_eq_true rfl)⟩ dX4_stock_20 (fun v w h => ?_)
        obtain ⟨rfl, rfl⟩ := h
        refine k_re 0 0 (wM K y b (va_up S 0 (nI 0)) G) [.int (nI (mU ((σ.2.2.2 s9).2.2 0))), .int (nI sm)] rfl rfl (List.append_nil _) rfl ?_
        refine k_aload_n hC 0 dX4_stock_23 rfl rfl ?_
        refine k_iload_n hC 2 dX4_stock_24 rfl rfl ?_
        refine k_callV hC (As := [.int (nI s9)]) (cX4_inboxOf_k l K y b (va_up S 0 (nI 0)) G s9 ((σ.2.2.2 s9).2.2 1) hk6 qr1 (by omega)) [] (List.append_nil _).symm 0 rfl rfl (kAll5 lkM_X4_107 lkI_yX4_inboxOf lkS_yX4_inboxOf lkN_X4 lkC_yX4_inboxOf) 1 (by decide) ⟨(Nat.le_of_ble_eq_true rfl), (Nat.le_of_ble_eq_true rfl)⟩ rfl rfl (Nat.le_of_ble_eq_true rfl) ⟨(Nat.le_of_ble_eq_true rfl), (Nat.le_of_ble_eq_true rfl)⟩ dX4_stock_25 (fun v w h => ?_)
        obtain ⟨rfl, rfl⟩ := h
        refine k_re 0 0 (wM K y b (va_up S 0 (nI 0)) G) [.int (nI (mU ((σ.2.2.2 s9).2.2 1))), .int (nI (mU ((σ.2.2.2 s9).2.2 0))), .int (nI sm)] rfl rfl (List.append_nil _) rfl ?_
        refine k_iaddN hC dX4_stock_28 ?_
        refine k_aload_n hC 0 dX4_stock_29 rfl rfl ?_
        refine k_get hC inlX4 0 15 rfl rfl (by decide) lkF_X4_29 rfl dX4_stock_30 ?_
        refine k_iload_n hC 2 dX4_stock_33 rfl rfl ?_
        refine k_ald hC 7 rfl (by omega) (by decide) dX4_stock_34 ?_
        refine k_topE (nI ((σ.2.2.2 s9).1 10)) q15 ?_
        refine k_if_leN hC 47 dX4_stock_35 (by decide) (by omega) (fun c2 => ?_) (fun c2 => ?_)
        · refine k_iconst hC (nI 0) dX4_stock_47 rfl ?_
          refine k_topE (nI ((if (σ.2.2.2 s9).1 10 = 0 then 0 else (σ.2.2.2 s9).1 2))) (by rw [if_pos c2]) ?_
          refine k_iaddN hC dX4_stock_48 ?_
          refine k_iaddN hC dX4_stock_49 ?_
          refine k_istore_n hC 1 dX4_stock_50 rfl (by decide) rfl [(0, .ref y), (1, .int (nI (sm + (((mU ((σ.2.2.2 s9).2.2 0)) + (mU ((σ.2.2.2 s9).2.2 1))) + ((if (σ.2.2.2 s9).1 10 = 0 then 0 else (σ.2.2.2 s9).1 2)))))), (2, .int (nI s9))] rfl ?_
          refine k_iconst hC (nI 0) dX4_stock_51 rfl ?_
          refine k_istore_n hC 3 dX4_stock_52 rfl (by decide) rfl [(0, .ref y), (1, .int (nI (sm + (((mU ((σ.2.2.2 s9).2.2 0)) + (mU ((σ.2.2.2 s9).2.2 1))) + ((if (σ.2.2.2 s9).1 10 = 0 then 0 else (σ.2.2.2 s9).1 2)))))), (2, .int (nI s9)), (3, .int (nI 0))] rfl ?_
          have inner : ∀ (n2 j s2 : Nat), n2 + j = ((σ.2.2.2 s9).2.2 2).length + 1 → j ≤ ((σ.2.2.2 s9).2.2 2).length → s2 = sm + (((mU ((σ.2.2.2 s9).2.2 0)) + (mU ((σ.2.2.2 s9).2.2 1))) + ((if (σ.2.2.2 s9).1 10 = 0 then 0 else (σ.2.2.2 s9).1 2))) + mU (((σ.2.2.2 s9).2.2 2).take j) → kW p l e rmX4_stock s m args below meth cd K A 4 Q 0 0 ([]) (wM K y b (va_up S 0 (nI 0)) G) [(0, .ref y), (1, .int (nI s2)), (2, .int (nI s9)), (3, .int (nI j))] 53 [] := by
            intro n2
            induction n2 with
            | zero => intro j s2 g1 g2; exact absurd g1 (by omega)
            | succ n2 ih2 =>
              intro j s2 g1 g2 g3
              refine k_iload_n hC 3 dX4_stock_53 rfl rfl ?_
              refine k_aload_n hC 0 dX4_stock_54 rfl rfl ?_
              refine k_get hC inlX4 0 29 rfl rfl (by decide) lkF_X4_71 rfl dX4_stock_55 ?_
              refine k_iload_n hC 2 dX4_stock_58 rfl rfl ?_
              refine k_ald hC 21 rfl (by omega) (by decide) dX4_stock_59 ?_
              refine k_topE (nI (((σ.2.2.2 s9).2.2 2).length)) qr2.1 ?_
              refine k_icmp_geN hC 83 dX4_stock_60 (by decide) (by omega) (by omega) (fun c3 => ?_) (fun c3 => ?_)
              · refine k_iinc hC dX4_stock_83 (by decide) rfl rfl (nI (s9 + 1)) (kinc s9 1 rfl) [(0, .ref y), (1, .int (nI s2)), (2, .int (nI (s9 + 1))), (3, .int (nI j))] rfl ?_
                refine k_goto hC 9 dX4_stock_86 (by decide) ?_
                refine k_lsub [0, 1, 2] [(0, .ref y), (1, .int (nI s2)), (2, .int (nI (s9 + 1)))] rfl ?_
                exact ih (s9 + 1) _ (by omega) (by rw [g3, show j = ((σ.2.2.2 s9).2.2 2).length by omega, List.take_length, h2]; show _ = mSum (fun k => mHeld (σ.2.2.2 k)) s9 + mHeld (σ.2.2.2 s9); unfold mHeld; omega)
              · refine k_iload_n hC 1 dX4_stock_63 rfl rfl ?_
                refine k_aload_n hC 0 dX4_stock_64 rfl rfl ?_
                refine k_get hC inlX4 0 27 rfl rfl (by decide) lkF_X4_65 rfl dX4_stock_65 ?_
                refine k_bipush hC (nI 16) dX4_stock_68 rfl ?_
                refine k_iload_n hC 2 dX4_stock_70 rfl rfl ?_
                refine k_imulN hC dX4_stock_71 ?_
                refine k_iload_n hC 3 dX4_stock_72 rfl rfl ?_
                refine k_iaddN hC dX4_stock_73 ?_
                refine k_ald hC 19 rfl (by omega) (by decide) dX4_stock_74 ?_
                refine k_topE (nI ((mg ((σ.2.2.2 s9).2.2 2) j).1)) (qr2.2 j (by omega)).1 ?_
                refine k_iaddN hC dX4_stock_75 ?_
                refine k_istore_n hC 1 dX4_stock_76 rfl (by decide) rfl [(0, .ref y), (1, .int (nI (s2 + ((mg ((σ.2.2.2 s9).2.2 2) j).1)))), (2, .int (nI s9)), (3, .int (nI j))] rfl ?_
                refine k_iinc hC dX4_stock_77 (by decide) rfl rfl (nI (j + 1)) (kinc j 1 rfl) [(0, .ref y), (1, .int (nI (s2 + ((mg ((σ.2.2.2 s9).2.2 2) j).1)))), (2, .int (nI s9)), (3, .int (nI (j + 1)))] rfl ?_
                refine k_goto hC 53 dX4_stock_80 (by decide) ?_
                exact ih2 (j + 1) _ (by omega) (by omega) (by rw [mU_take (by omega), g3]; omega)
          exact inner (((σ.2.2.2 s9).2.2 2).length + 1) 0 _ (by omega) (by omega) rfl
        · refine k_aload_n hC 0 dX4_stock_38 rfl rfl ?_
          refine k_get hC inlX4 0 10 rfl rfl (by decide) lkF_X4_13 rfl dX4_stock_39 ?_
          refine k_iload_n hC 2 dX4_stock_42 rfl rfl ?_
          refine k_ald hC 2 rfl (by omega) (by decide) dX4_stock_43 ?_
          refine k_topE (nI ((if (σ.2.2.2 s9).1 10 = 0 then 0 else (σ.2.2.2 s9).1 2))) (by rw [if_neg c2]; exact q10) ?_
          refine k_goto hC 48 dX4_stock_44 (by decide) ?_
          refine k_iaddN hC dX4_stock_48 ?_
          refine k_iaddN hC dX4_stock_49 ?_
          refine k_istore_n hC 1 dX4_stock_50 rfl (by decide) rfl [(0, .ref y), (1, .int (nI (sm + (((mU ((σ.2.2.2 s9).2.2 0)) + (mU ((σ.2.2.2 s9).2.2 1))) + ((if (σ.2.2.2 s9).1 10 = 0 then 0 else (σ.2.2.2 s9).1 2)))))), (2, .int (nI s9))] rfl ?_
          refine k_iconst hC (nI 0) dX4_stock_51 rfl ?_
          refine k_istore_n hC 3 dX4_stock_52 rfl (by decide) rfl [(0, .ref y), (1, .int (nI (sm + (((mU ((σ.2.2.2 s9).2.2 0)) + (mU ((σ.2.2.2 s9).2.2 1))) + ((if (σ.2.2.2 s9).1 10 = 0 then 0 else (σ.2.2.2 s9).1 2)))))), (2, .int (nI s9)), (3, .int (nI 0))] rfl ?_
          have inner : ∀ (n2 j s2 : Nat), n2 + j = ((σ.2.2.2 s9).2.2 2).length + 1 → j ≤ ((σ.2.2.2 s9).2.2 2).length → s2 = sm + (((mU ((σ.2.2.2 s9).2.2 0)) + (mU ((σ.2.2.2 s9).2.2 1))) + ((if (σ.2.2.2 s9).1 10 = 0 then 0 else (σ.2.2.2 s9).1 2))) + mU (((σ.2.2.2 s9).2.2 2).take j) → kW p l e rmX4_stock s m args below meth cd K A 4 Q 0 0 ([]) (wM K y b (va_up S 0 (nI 0)) G) [(0, .ref y), (1, .int (nI s2)), (2, .int (nI s9)), (3, .int (nI j))] 53 [] := by
            intro n2
            induction n2 with
            | zero => intro j s2 g1 g2; exact absurd g1 (by omega)
            | succ n2 ih2 =>
              intro j s2 g1 g2 g3
              refine k_iload_n hC 3 dX4_stock_53 rfl rfl ?_
              refine k_aload_n hC 0 dX4_stock_54 rfl rfl ?_
              refine k_get hC inlX4 0 29 rfl rfl (by decide) lkF_X4_71 rfl dX4_stock_55 ?_
              refine k_iload_n hC 2 dX4_stock_58 rfl rfl ?_
              refine k_ald hC 21 rfl (by omega) (by decide) dX4_stock_59 ?_
              refine k_topE (nI (((σ.2.2.2 s9).2.2 2).length)) qr2.1 ?_
              refine k_icmp_geN hC 83 dX4_stock_60 (by decide) (by omega) (by omega) (fun c3 => ?_) (fun c3 => ?_)
              · refine k_iinc hC dX4_stock_83 (by decide) rfl rfl (nI (s9 + 1)) (kinc s9 1 rfl) [(0, .ref y), (1, .int (nI s2)), (2, .int (nI (s9 + 1))), (3, .int (nI j))] rfl ?_
                refine k_goto hC 9 dX4_stock_86 (by decide) ?_
                refine k_lsub [0, 1, 2] [(0, .ref y), (1, .int (nI s2)), (2, .int (nI (s9 + 1)))] rfl ?_
                exact ih (s9 + 1) _ (by omega) (by rw [g3, show j = ((σ.2.2.2 s9).2.2 2).length by omega, List.take_length, h2]; show _ = mSum (fun k => mHeld (σ.2.2.2 k)) s9 + mHeld (σ.2.2.2 s9); unfold mHeld; omega)
              · refine k_iload_n hC 1 dX4_stock_63 rfl rfl ?_
                refine k_aload_n hC 0 dX4_stock_64 rfl rfl ?_
                refine k_get hC inlX4 0 27 rfl rfl (by decide) lkF_X4_65 rfl dX4_stock_65 ?_
                refine k_bipush hC (nI 16) dX4_stock_68 rfl ?_
                refine k_iload_n hC 2 dX4_stock_70 rfl rfl ?_
                refine k_imulN hC dX4_stock_71 ?_
                refine k_iload_n hC 3 dX4_stock_72 rfl rfl ?_
                refine k_iaddN hC dX4_stock_73 ?_
                refine k_ald hC 19 rfl (by omega) (by decide) dX4_stock_74 ?_
                refine k_topE (nI ((mg ((σ.2.2.2 s9).2.2 2) j).1)) (qr2.2 j (by omega)).1 ?_
                refine k_iaddN hC dX4_stock_75 ?_
                refine k_istore_n hC 1 dX4_stock_76 rfl (by decide) rfl [(0, .ref y), (1, .int (nI (s2 + ((mg ((σ.2.2.2 s9).2.2 2) j).1)))), (2, .int (nI s9)), (3, .int (nI j))] rfl ?_
                refine k_iinc hC dX4_stock_77 (by decide) rfl rfl (nI (j + 1)) (kinc j 1 rfl) [(0, .ref y), (1, .int (nI (s2 + ((mg ((σ.2.2.2 s9).2.2 2) j).1)))), (2, .int (nI s9)), (3, .int (nI (j + 1)))] rfl ?_
                refine k_goto hC 53 dX4_stock_80 (by decide) ?_
                exact ih2 (j + 1) _ (by omega) (by omega) (by rw [mU_take (by omega), g3]; omega)
          exact inner (((σ.2.2.2 s9).2.2 2).length + 1) 0 _ (by omega) (by omega) rfl
  exact loop σ.1 0 0 (by omega) rfl
abbrev rmX4_stage : Room := { frames := 1, cells := 0, slots := 0, locals := 22 }
set_option maxRecDepth 100000 in
set_option maxHeartbeats 4000000 in
theorem cX4_stage_k (l : Launch) (K : kE) (y : Nat) (b : Nat → Nat) (S : Nat → Int32) (G : Nat → Nat → Int32) (σ : mS) (hσ : mSok σ) (hR : mRep σ S G) (c9 z9 t9 k9 : Int32) (full : Bool) : kM l yX4_stage (kws yX4_stage cX4_stage 9 (some .int)) rmX4_stage K [.ref y, .int c9, .int z9, .int t9, .int k9, .int (kB full)] (wM K y b S G) (mPo K y b (oStage σ c9 z9 t9 k9 full)) := by
  refine kM_of (pl := []) (X := (wM K y b S G)) rfl (by decide) (Nat.le_of_ble_eq_true rfl) ?_
  intro p e s m args below meth cd A Q hC hnm hE
  have hn6 := hσ.1
  refine k_iload_n hC 1 dX4_stage_0 rfl rfl ?_
  refine k_iconst hC (nI 1) dX4_stage_1 rfl ?_
  refine k_bipush hC (nI 9) dX4_stage_2 rfl ?_
  refine k_callS hC (As := [.int c9, .int (nI 1), .int (nI 9)]) (cX4_isIn_k l K c9 (nI 1) (nI 9)) (wM K y b S G) rfl (kAll4 lkM_X4_81 lkT_yX4_isIn lkN_X4 lkC_yX4_isIn) 3 (by decide) ⟨(Nat.le_of_ble_eq_true rfl), (Nat.le_of_ble_eq_true rfl)⟩ rfl rfl (Nat.le_of_ble_eq_true rfl) ⟨(Nat.le_of_ble_eq_true rfl), (Nat.le_of_ble_eq_true rfl)⟩ dX4_stage_4 (fun v w h => ?_)
  obtain ⟨rfl, rfl⟩ := h
  refine k_re 0 0 (wM K y b S G) [.int (nI (if nI 1 ≤ c9 ∧ c9 ≤ nI 9 then 1 else 0))] rfl rfl rfl rfl ?_
  by_cases hv0 : mIn c9 1 9
  · rw [if_pos hv0]
    refine k_if_eqN hC 45 dX4_stage_7 (by decide) (by omega) (fun d1 => ?_) (fun d1 => ?_)
    · exact absurd d1 (by decide)
    · refine k_iload_n hC 2 dX4_stage_10 rfl rfl ?_
      refine k_iconst hC (nI 1) dX4_stage_11 rfl ?_
      refine k_bipush hC (nI 10) dX4_stage_12 rfl ?_
      refine k_callS hC (As := [.int z9, .int (nI 1), .int (nI 10)]) (cX4_isIn_k l K z9 (nI 1) (nI 10)) (wM K y b S G) rfl (kAll4 lkM_X4_81 lkT_yX4_isIn lkN_X4 lkC_yX4_isIn) 3 (by decide) ⟨(Nat.le_of_ble_eq_true rfl), (Nat.le_of_ble_eq_true rfl)⟩ rfl rfl (Nat.le_of_ble_eq_true rfl) ⟨(Nat.le_of_ble_eq_true rfl), (Nat.le_of_ble_eq_true rfl)⟩ dX4_stage_14 (fun v w h => ?_)
      obtain ⟨rfl, rfl⟩ := h
      refine k_re 0 0 (wM K y b S G) [.int (nI (if nI 1 ≤ z9 ∧ z9 ≤ nI 10 then 1 else 0))] rfl rfl rfl rfl ?_
      by_cases hv1 : mIn z9 1 10
      · rw [if_pos hv1]
        refine k_if_eqN hC 45 dX4_stage_17 (by decide) (by omega) (fun d2 => ?_) (fun d2 => ?_)
        · exact absurd d2 (by decide)
        · refine k_iload_n hC 3 dX4_stage_20 rfl rfl ?_
          refine k_iconst hC (nI 1) dX4_stage_21 rfl ?_
          refine k_bipush hC (nI 9) dX4_stage_22 rfl ?_
          refine k_callS hC (As := [.int t9, .int (nI 1), .int (nI 9)]) (cX4_isIn_k l K t9 (nI 1) (nI 9)) (wM K y b S G) rfl (kAll4 lkM_X4_81 lkT_yX4_isIn lkN_X4 lkC_yX4_isIn) 3 (by decide) ⟨(Nat.le_of_ble_eq_true rfl), (Nat.le_of_ble_eq_true rfl)⟩ rfl rfl (Nat.le_of_ble_eq_true rfl) ⟨(Nat.le_of_ble_eq_true rfl), (Nat.le_of_ble_eq_true rfl)⟩ dX4_stage_24 (fun v w h => ?_)
          obtain ⟨rfl, rfl⟩ := h
          refine k_re 0 0 (wM K y b S G) [.int (nI (if nI 1 ≤ t9 ∧ t9 ≤ nI 9 then 1 else 0))] rfl rfl rfl rfl ?_
          by_cases hv2 : mIn t9 1 9
          · rw [if_pos hv2]
            refine k_if_eqN hC 45 dX4_stage_27 (by decide) (by omega) (fun d3 => ?_) (fun d3 => ?_)
            · exact absurd d3 (by decide)
            · refine k_iload hC dX4_stage_30 rfl ?_
              refine k_iconst hC (nI 1) dX4_stage_32 rfl ?_
              refine k_bipush hC (nI 9) dX4_stage_33 rfl ?_
              refine k_callS hC (As := [.int k9, .int (nI 1), .int (nI 9)]) (cX4_isIn_k l K k9 (nI 1) (nI 9)) (wM K y b S G) rfl (kAll4 lkM_X4_81 lkT_yX4_isIn lkN_X4 lkC_yX4_isIn) 3 (by decide) ⟨(Nat.le_of_ble_eq_true rfl), (Nat.le_of_ble_eq_true rfl)⟩ rfl rfl (Nat.le_of_ble_eq_true rfl) ⟨(Nat.le_of_ble_eq_true rfl), (Nat.le_of_ble_eq_true rfl)⟩ dX4_stage_35 (fun v w h => ?_)
              obtain ⟨rfl, rfl⟩ := h
              refine k_re 0 0 (wM K y b S G) [.int (nI (if nI 1 ≤ k9 ∧ k9 ≤ nI 9 then 1 else 0))] rfl rfl rfl rfl ?_
              by_cases hv3 : mIn k9 1 9
              · rw [if_pos hv3]
                refine k_if_eqN hC 45 dX4_stage_38 (by decide) (by omega) (fun d4 => ?_) (fun d4 => ?_)
                · exact absurd d4 (by decide)
                · refine k_iconst hC (nI 1) dX4_stage_41 rfl ?_
                  refine k_goto hC 46 dX4_stage_42 (by decide) ?_
                  refine k_istore hC dX4_stage_46 (by decide) rfl [(0, .ref y), (1, .int c9), (2, .int z9), (3, .int t9), (4, .int k9), (5, .int (kB full)), (6, .int (nI 1))] rfl ?_
                  refine k_aload_n hC 0 dX4_stage_48 rfl rfl ?_
                  refine k_iload hC dX4_stage_49 rfl ?_
                  refine k_if_neN hC 58 dX4_stage_51 (by decide) (by omega) (fun d5 => ?_) (fun d5 => ?_)
                  · have hv : (mIn c9 1 9 ∧ mIn z9 1 10 ∧ mIn t9 1 9 ∧ mIn k9 1 9) := ⟨hv0, hv1, hv2, hv3⟩
                    obtain ⟨c8, hc81, hc82, rfl⟩ := mIn_ex (by decide) (by decide) hv0
                    obtain ⟨z8, hz81, hz82, rfl⟩ := mIn_ex (by decide) (by decide) hv1
                    obtain ⟨t8, ht81, ht82, rfl⟩ := mIn_ex (by decide) (by decide) hv2
                    obtain ⟨k8, hk81, hk82, rfl⟩ := mIn_ex (by decide) (by decide) hv3
                    refine k_aload_n hC 0 dX4_stage_58 rfl rfl ?_
                    refine k_get hC inlX4 0 1 rfl rfl (by decide) lkF_X4_78 rfl dX4_stage_59 ?_
                    refine k_topE (nI σ.1) hR.1 ?_
                    refine k_bipush hC (nI 6) dX4_stage_62 rfl ?_
                    refine k_icmp_neN hC 71 dX4_stage_64 (by decide) (by omega) (by omega) (fun c6 => ?_) (fun c6 => ?_)
                    · refine k_iconst hC (nI 0) dX4_stage_71 rfl ?_
                      refine k_put hC inlX4 tyX4_ok nmX4 0 0 rfl rfl (by decide) lkF_X4_74 rfl rfl rfl (Nat.le_of_ble_eq_true rfl) dX4_stage_72 (wM K y b (va_up S 0 (nI 0)) G) rfl ?_
                      refine k_aload_n hC 0 dX4_stage_75 rfl rfl ?_
                      refine k_get hC inlX4 0 0 rfl rfl (by decide) lkF_X4_74 rfl dX4_stage_76 ?_
                      refine k_if_leN hC 84 dX4_stage_79 (by decide) (by omega) (fun d6 => ?_) (fun d6 => ?_)
                      · have h6 : ¬ σ.1 = 6 := by omega
                        have hs6 : σ.1 < 6 := by omega
                        have eo : ∀ b : Bool, oStage σ (nI c8) (nI z8) (nI t8) (nI k8) b = (0, nI σ.1, (σ.1 + 1, σ.2.1, σ.2.2.1, va_up σ.2.2.2 σ.1 (mNew σ.1 (decide (σ.1 = 0)) b c8 z8 t8 k8))) := fun b => by simp only [oStage]; rw [if_pos hv, if_neg h6, mIx_nI (by omega), mIx_nI (by omega), mIx_nI (by omega), mIx_nI (by omega)]
                        obtain ⟨z13, z15, z16, z17, z18, z23, z26, z29⟩ := hR.2.2.2.2.2 σ.1 (Nat.le_refl _) hs6
                        refine k_aload_n hC 0 dX4_stage_84 rfl rfl ?_
                        refine k_get hC inlX4 0 1 rfl rfl (by decide) lkF_X4_78 rfl dX4_stage_85 ?_
                        refine k_topE (nI σ.1) hR.1 ?_
                        rcases full with _ | _
                        · refine k_istore hC dX4_stage_88 (by decide) rfl [(0, .ref y), (1, .int (nI c8)), (2, .int (nI z8)), (3, .int (nI t8)), (4, .int (nI k8)), (5, .int (kB false)), (6, .int (nI 1)), (7, .int (nI σ.1))] rfl ?_
                          refine k_aload_n hC 0 dX4_stage_90 rfl rfl ?_
                          refine k_get hC inlX4 0 9 rfl rfl (by decide) lkF_X4_7 rfl dX4_stage_91 ?_
                          refine k_iload hC dX4_stage_94 rfl ?_
                          refine k_iload_n hC 1 dX4_stage_96 rfl rfl ?_
                          refine k_ast hC 1 rfl (by omega) (by decide) dX4_stage_97 (wM K y b (va_up S 0 (nI 0)) (va_up G 9 (upd (G 9) σ.1 (nI c8)))) rfl ?_
                          refine k_aload_n hC 0 dX4_stage_98 rfl rfl ?_
                          refine k_get hC inlX4 0 10 rfl rfl (by decide) lkF_X4_13 rfl dX4_stage_99 ?_
                          refine k_iload hC dX4_stage_102 rfl ?_
                          refine k_iload_n hC 2 dX4_stage_104 rfl rfl ?_
                          refine k_ast hC 2 rfl (by omega) (by decide) dX4_stage_105 (wM K y b (va_up S 0 (nI 0)) (va_up (va_up G 9 (upd (G 9) σ.1 (nI c8))) 10 (upd (G 10) σ.1 (nI z8)))) rfl ?_
                          refine k_aload_n hC 0 dX4_stage_106 rfl rfl ?_
                          refine k_get hC inlX4 0 11 rfl rfl (by decide) lkF_X4_16 rfl dX4_stage_107 ?_
                          refine k_iload hC dX4_stage_110 rfl ?_
                          refine k_iload_n hC 3 dX4_stage_112 rfl rfl ?_
                          refine k_ast hC 3 rfl (by omega) (by decide) dX4_stage_113 (wM K y b (va_up S 0 (nI 0)) (va_up (va_up (va_up G 9 (upd (G 9) σ.1 (nI c8))) 10 (upd (G 10) σ.1 (nI z8))) 11 (upd (G 11) σ.1 (nI t8)))) rfl ?_
                          refine k_aload_n hC 0 dX4_stage_114 rfl rfl ?_
                          refine k_get hC inlX4 0 12 rfl rfl (by decide) lkF_X4_19 rfl dX4_stage_115 ?_
                          refine k_iload hC dX4_stage_118 rfl ?_
                          refine k_iload hC dX4_stage_120 rfl ?_
                          refine k_ast hC 4 rfl (by omega) (by decide) dX4_stage_122 (wM K y b (va_up S 0 (nI 0)) (va_up (va_up (va_up (va_up G 9 (upd (G 9) σ.1 (nI c8))) 10 (upd (G 10) σ.1 (nI z8))) 11 (upd (G 11) σ.1 (nI t8))) 12 (upd (G 12) σ.1 (nI k8)))) rfl ?_
                          refine k_aload_n hC 0 dX4_stage_123 rfl rfl ?_
                          refine k_get hC inlX4 0 14 rfl rfl (by decide) lkF_X4_26 rfl dX4_stage_124 ?_
                          refine k_iload hC dX4_stage_127 rfl ?_
                          refine k_iload hC dX4_stage_129 rfl ?_
                          refine k_if_eq hC 138 dX4_stage_131 (by decide) (fun d0 => ?_) (fun d0 => ?_)
                          · refine k_iload_n hC 1 dX4_stage_138 rfl rfl ?_
                            refine k_ast hC 6 rfl (by omega) (by decide) dX4_stage_139 (wM K y b (va_up S 0 (nI 0)) (va_up (va_up (va_up (va_up (va_up G 9 (upd (G 9) σ.1 (nI c8))) 10 (upd (G 10) σ.1 (nI z8))) 11 (upd (G 11) σ.1 (nI t8))) 12 (upd (G 12) σ.1 (nI k8))) 14 (upd (G 14) σ.1 (nI c8)))) rfl ?_
                            refine k_iconst hC (nI 0) dX4_stage_140 rfl ?_
                            refine k_istore hC dX4_stage_141 (by decide) rfl [(0, .ref y), (1, .int (nI c8)), (2, .int (nI z8)), (3, .int (nI t8)), (4, .int (nI k8)), (5, .int (kB false)), (6, .int (nI 1)), (7, .int (nI σ.1)), (8, .int (nI 0))] rfl ?_
                            refine k_iload hC dX4_stage_143 rfl ?_
                            refine k_iload_n hC 1 dX4_stage_145 rfl rfl ?_
                            refine k_icmp_geN hC 167 dX4_stage_146 (by decide) (by omega) (by omega) (fun d1 => ?_) (fun d1 => ?_)
                            · exact absurd d1 (by omega)
                            · refine k_iload hC dX4_stage_149 rfl ?_
                              refine k_if_eq hC 167 dX4_stage_151 (by decide) (fun d2 => ?_) (fun d2 => ?_)
                              · refine k_aload_n hC 0 dX4_stage_167 rfl rfl ?_
                                refine k_dup hC dX4_stage_168 rfl ?_
                                refine k_get hC inlX4 0 8 rfl rfl (by decide) lkF_X4_89 rfl dX4_stage_169 ?_
                                refine k_iload hC dX4_stage_172 rfl ?_
                                refine k_if_eq hC 183 dX4_stage_174 (by decide) (fun d3 => ?_) (fun d3 => ?_)
                                · refine k_iconst hC (nI 0) dX4_stage_183 rfl ?_
                                  refine k_iadd hC dX4_stage_184 ?_
                                  refine k_put hC inlX4 tyX4_ok nmX4 0 8 rfl rfl (by decide) lkF_X4_89 rfl rfl rfl (Nat.le_of_ble_eq_true rfl) dX4_stage_185 (wM K y b (va_up (va_up S 0 (nI 0)) 8 ((S 8) + nI 0)) (va_up (va_up (va_up (va_up (va_up G 9 (upd (G 9) σ.1 (nI c8))) 10 (upd (G 10) σ.1 (nI z8))) 11 (upd (G 11) σ.1 (nI t8))) 12 (upd (G 12) σ.1 (nI k8))) 14 (upd (G 14) σ.1 (nI c8)))) rfl ?_
                                  refine k_aload_n hC 0 dX4_stage_188 rfl rfl ?_
                                  refine k_get hC inlX4 0 19 rfl rfl (by decide) lkF_X4_41 rfl dX4_stage_189 ?_
                                  refine k_iload hC dX4_stage_192 rfl ?_
                                  refine k_iload hC dX4_stage_194 rfl ?_
                                  refine k_if_neN hC 203 dX4_stage_196 (by decide) (by omega) (fun d4 => ?_) (fun d4 => ?_)
                                  · have ed : decide (σ.1 = 0) = false := by simp [d4]
                                    refine k_iconst hC (nI 1) dX4_stage_203 rfl ?_
                                    refine k_ast hC 11 rfl (by omega) (by decide) dX4_stage_204 (wM K y b (va_up (va_up S 0 (nI 0)) 8 ((S 8) + nI 0)) (va_up (va_up (va_up (va_up (va_up (va_up G 9 (upd (G 9) σ.1 (nI c8))) 10 (upd (G 10) σ.1 (nI z8))) 11 (upd (G 11) σ.1 (nI t8))) 12 (upd (G 12) σ.1 (nI k8))) 14 (upd (G 14) σ.1 (nI c8))) 19 (upd (G 19) σ.1 (nI 1)))) rfl ?_
                                    refine k_aload_n hC 0 dX4_stage_205 rfl rfl ?_
                                    refine k_get hC inlX4 0 20 rfl rfl (by decide) lkF_X4_44 rfl dX4_stage_206 ?_
                                    refine k_iload hC dX4_stage_209 rfl ?_
                                    refine k_aload_n hC 0 dX4_stage_211 rfl rfl ?_
                                    refine k_get hC inlX4 0 19 rfl rfl (by decide) lkF_X4_41 rfl dX4_stage_212 ?_
                                    refine k_iload hC dX4_stage_215 rfl ?_
                                    refine k_ald hC 11 rfl (by omega) (by decide) dX4_stage_217 ?_
                                    refine k_topE (nI 1) kupd_eq ?_
                                    refine k_ast hC 12 rfl (by omega) (by decide) dX4_stage_218 (wM K y b (va_up (va_up S 0 (nI 0)) 8 ((S 8) + nI 0)) (va_up (va_up (va_up (va_up (va_up (va_up (va_up G 9 (upd (G 9) σ.1 (nI c8))) 10 (upd (G 10) σ.1 (nI z8))) 11 (upd (G 11) σ.1 (nI t8))) 12 (upd (G 12) σ.1 (nI k8))) 14 (upd (G 14) σ.1 (nI c8))) 19 (upd (G 19) σ.1 (nI 1))) 20 (upd (G 20) σ.1 (nI 1)))) rfl ?_
                                    refine k_aload_n hC 0 dX4_stage_219 rfl rfl ?_
                                    refine k_dup hC dX4_stage_220 rfl ?_
                                    refine k_get hC inlX4 0 1 rfl rfl (by decide) lkF_X4_78 rfl dX4_stage_221 ?_
                                    refine k_topE (nI σ.1) hR.1 ?_
                                    refine k_iconst hC (nI 1) dX4_stage_224 rfl ?_
                                    refine k_iaddN hC dX4_stage_225 ?_
                                    refine k_put hC inlX4 tyX4_ok nmX4 0 1 rfl rfl (by decide) lkF_X4_78 rfl rfl rfl (Nat.le_of_ble_eq_true rfl) dX4_stage_226 (wM K y b (va_up (va_up (va_up S 0 (nI 0)) 8 ((S 8) + nI 0)) 1 (nI (σ.1 + 1))) (va_up (va_up (va_up (va_up (va_up (va_up (va_up G 9 (upd (G 9) σ.1 (nI c8))) 10 (upd (G 10) σ.1 (nI z8))) 11 (upd (G 11) σ.1 (nI t8))) 12 (upd (G 12) σ.1 (nI k8))) 14 (upd (G 14) σ.1 (nI c8))) 19 (upd (G 19) σ.1 (nI 1))) 20 (upd (G 20) σ.1 (nI 1)))) rfl ?_
                                    refine k_iload hC dX4_stage_229 rfl ?_
                                    exact k_iret hC hE (Nat.le_of_ble_eq_true rfl) (Nat.le_of_ble_eq_true rfl) dX4_stage_231 (by rw [eo]; exact ⟨_, _, _, rfl, List.append_nil _, rfl, fun _ => rfl, mRep_new hσ hR rfl rfl (fun j a1 a2 a3 => by simp only [va_up_ne _ _ a1, va_up_ne _ _ a2, va_up_ne _ _ a3]) ⟨kupd_eq, kupd_eq, kupd_eq, kupd_eq, z13, kupd_eq, z15, z16, z17, z18, (kupd_eq.trans (by rw [ed]; rfl)), (kupd_eq.trans (by rw [ed]; rfl)), ⟨z23, mR_nil⟩, ⟨z26, mR_nil⟩, ⟨z29, mR_nil⟩⟩ (mOnly_tr (mOnly_tr (mOnly_tr (mOnly_tr (mOnly_tr (mOnly_tr (mOnly_tr mOnly_rf mOnly_9) mOnly_10) mOnly_11) mOnly_12) mOnly_14) mOnly_19) mOnly_20)⟩)
                                  · have ed : decide (σ.1 = 0) = true := by simp [d4]
                                    refine k_iconst hC (nI 0) dX4_stage_199 rfl ?_
                                    refine k_goto hC 204 dX4_stage_200 (by decide) ?_
                                    refine k_ast hC 11 rfl (by omega) (by decide) dX4_stage_204 (wM K y b (va_up (va_up S 0 (nI 0)) 8 ((S 8) + nI 0)) (va_up (va_up (va_up (va_up (va_up (va_up G 9 (upd (G 9) σ.1 (nI c8))) 10 (upd (G 10) σ.1 (nI z8))) 11 (upd (G 11) σ.1 (nI t8))) 12 (upd (G 12) σ.1 (nI k8))) 14 (upd (G 14) σ.1 (nI c8))) 19 (upd (G 19) σ.1 (nI 0)))) rfl ?_
                                    refine k_aload_n hC 0 dX4_stage_205 rfl rfl ?_
                                    refine k_get hC inlX4 0 20 rfl rfl (by decide) lkF_X4_44 rfl dX4_stage_206 ?_
                                    refine k_iload hC dX4_stage_209 rfl ?_
                                    refine k_aload_n hC 0 dX4_stage_211 rfl rfl ?_
                                    refine k_get hC inlX4 0 19 rfl rfl (by decide) lkF_X4_41 rfl dX4_stage_212 ?_
                                    refine k_iload hC dX4_stage_215 rfl ?_
                                    refine k_ald hC 11 rfl (by omega) (by decide) dX4_stage_217 ?_
                                    refine k_topE (nI 0) kupd_eq ?_
                                    refine k_ast hC 12 rfl (by omega) (by decide) dX4_stage_218 (wM K y b (va_up (va_up S 0 (nI 0)) 8 ((S 8) + nI 0)) (va_up (va_up (va_up (va_up (va_up (va_up (va_up G 9 (upd (G 9) σ.1 (nI c8))) 10 (upd (G 10) σ.1 (nI z8))) 11 (upd (G 11) σ.1 (nI t8))) 12 (upd (G 12) σ.1 (nI k8))) 14 (upd (G 14) σ.1 (nI c8))) 19 (upd (G 19) σ.1 (nI 0))) 20 (upd (G 20) σ.1 (nI 0)))) rfl ?_
                                    refine k_aload_n hC 0 dX4_stage_219 rfl rfl ?_
                                    refine k_dup hC dX4_stage_220 rfl ?_
                                    refine k_get hC inlX4 0 1 rfl rfl (by decide) lkF_X4_78 rfl dX4_stage_221 ?_
                                    refine k_topE (nI σ.1) hR.1 ?_
                                    refine k_iconst hC (nI 1) dX4_stage_224 rfl ?_
                                    refine k_iaddN hC dX4_stage_225 ?_
                                    refine k_put hC inlX4 tyX4_ok nmX4 0 1 rfl rfl (by decide) lkF_X4_78 rfl rfl rfl (Nat.le_of_ble_eq_true rfl) dX4_stage_226 (wM K y b (va_up (va_up (va_up S 0 (nI 0)) 8 ((S 8) + nI 0)) 1 (nI (σ.1 + 1))) (va_up (va_up (va_up (va_up (va_up (va_up (va_up G 9 (upd (G 9) σ.1 (nI c8))) 10 (upd (G 10) σ.1 (nI z8))) 11 (upd (G 11) σ.1 (nI t8))) 12 (upd (G 12) σ.1 (nI k8))) 14 (upd (G 14) σ.1 (nI c8))) 19 (upd (G 19) σ.1 (nI 0))) 20 (upd (G 20) σ.1 (nI 0)))) rfl ?_
                                    refine k_iload hC dX4_stage_229 rfl ?_
                                    exact k_iret hC hE (Nat.le_of_ble_eq_true rfl) (Nat.le_of_ble_eq_true rfl) dX4_stage_231 (by rw [eo]; exact ⟨_, _, _, rfl, List.append_nil _, rfl, fun _ => rfl, mRep_new hσ hR rfl rfl (fun j a1 a2 a3 => by simp only [va_up_ne _ _ a1, va_up_ne _ _ a2, va_up_ne _ _ a3]) ⟨kupd_eq, kupd_eq, kupd_eq, kupd_eq, z13, kupd_eq, z15, z16, z17, z18, (kupd_eq.trans (by rw [ed]; rfl)), (kupd_eq.trans (by rw [ed]; rfl)), ⟨z23, mR_nil⟩, ⟨z26, mR_nil⟩, ⟨z29, mR_nil⟩⟩ (mOnly_tr (mOnly_tr (mOnly_tr (mOnly_tr (mOnly_tr (mOnly_tr (mOnly_tr mOnly_rf mOnly_9) mOnly_10) mOnly_11) mOnly_12) mOnly_14) mOnly_19) mOnly_20)⟩)
                                · exact absurd (by decide) d3
                              · exact absurd (by decide) d2
                          · exact absurd (by decide) d0
                        · refine k_istore hC dX4_stage_88 (by decide) rfl [(0, .ref y), (1, .int (nI c8)), (2, .int (nI z8)), (3, .int (nI t8)), (4, .int (nI k8)), (5, .int (kB true)), (6, .int (nI 1)), (7, .int (nI σ.1))] rfl ?_
                          refine k_aload_n hC 0 dX4_stage_90 rfl rfl ?_
                          refine k_get hC inlX4 0 9 rfl rfl (by decide) lkF_X4_7 rfl dX4_stage_91 ?_
                          refine k_iload hC dX4_stage_94 rfl ?_
                          refine k_iload_n hC 1 dX4_stage_96 rfl rfl ?_
                          refine k_ast hC 1 rfl (by omega) (by decide) dX4_stage_97 (wM K y b (va_up S 0 (nI 0)) (va_up G 9 (upd (G 9) σ.1 (nI c8)))) rfl ?_
                          refine k_aload_n hC 0 dX4_stage_98 rfl rfl ?_
                          refine k_get hC inlX4 0 10 rfl rfl (by decide) lkF_X4_13 rfl dX4_stage_99 ?_
                          refine k_iload hC dX4_stage_102 rfl ?_
                          refine k_iload_n hC 2 dX4_stage_104 rfl rfl ?_
                          refine k_ast hC 2 rfl (by omega) (by decide) dX4_stage_105 (wM K y b (va_up S 0 (nI 0)) (va_up (va_up G 9 (upd (G 9) σ.1 (nI c8))) 10 (upd (G 10) σ.1 (nI z8)))) rfl ?_
                          refine k_aload_n hC 0 dX4_stage_106 rfl rfl ?_
                          refine k_get hC inlX4 0 11 rfl rfl (by decide) lkF_X4_16 rfl dX4_stage_107 ?_
                          refine k_iload hC dX4_stage_110 rfl ?_
                          refine k_iload_n hC 3 dX4_stage_112 rfl rfl ?_
                          refine k_ast hC 3 rfl (by omega) (by decide) dX4_stage_113 (wM K y b (va_up S 0 (nI 0)) (va_up (va_up (va_up G 9 (upd (G 9) σ.1 (nI c8))) 10 (upd (G 10) σ.1 (nI z8))) 11 (upd (G 11) σ.1 (nI t8)))) rfl ?_
                          refine k_aload_n hC 0 dX4_stage_114 rfl rfl ?_
                          refine k_get hC inlX4 0 12 rfl rfl (by decide) lkF_X4_19 rfl dX4_stage_115 ?_
                          refine k_iload hC dX4_stage_118 rfl ?_
                          refine k_iload hC dX4_stage_120 rfl ?_
                          refine k_ast hC 4 rfl (by omega) (by decide) dX4_stage_122 (wM K y b (va_up S 0 (nI 0)) (va_up (va_up (va_up (va_up G 9 (upd (G 9) σ.1 (nI c8))) 10 (upd (G 10) σ.1 (nI z8))) 11 (upd (G 11) σ.1 (nI t8))) 12 (upd (G 12) σ.1 (nI k8)))) rfl ?_
                          refine k_aload_n hC 0 dX4_stage_123 rfl rfl ?_
                          refine k_get hC inlX4 0 14 rfl rfl (by decide) lkF_X4_26 rfl dX4_stage_124 ?_
                          refine k_iload hC dX4_stage_127 rfl ?_
                          refine k_iload hC dX4_stage_129 rfl ?_
                          refine k_if_eq hC 138 dX4_stage_131 (by decide) (fun d0 => ?_) (fun d0 => ?_)
                          · exact absurd d0 (by decide)
                          · refine k_iconst hC (nI 0) dX4_stage_134 rfl ?_
                            refine k_goto hC 139 dX4_stage_135 (by decide) ?_
                            refine k_ast hC 6 rfl (by omega) (by decide) dX4_stage_139 (wM K y b (va_up S 0 (nI 0)) (va_up (va_up (va_up (va_up (va_up G 9 (upd (G 9) σ.1 (nI c8))) 10 (upd (G 10) σ.1 (nI z8))) 11 (upd (G 11) σ.1 (nI t8))) 12 (upd (G 12) σ.1 (nI k8))) 14 (upd (G 14) σ.1 (nI 0)))) rfl ?_
                            refine k_iconst hC (nI 0) dX4_stage_140 rfl ?_
                            refine k_istore hC dX4_stage_141 (by decide) rfl [(0, .ref y), (1, .int (nI c8)), (2, .int (nI z8)), (3, .int (nI t8)), (4, .int (nI k8)), (5, .int (kB true)), (6, .int (nI 1)), (7, .int (nI σ.1)), (8, .int (nI 0))] rfl ?_
                            obtain ⟨G1, hG1⟩ : ∃ G1 : Nat → Nat → Int32, G1 = va_up (va_up (va_up (va_up (va_up G 9 (upd (G 9) σ.1 (nI c8))) 10 (upd (G 10) σ.1 (nI z8))) 11 (upd (G 11) σ.1 (nI t8))) 12 (upd (G 12) σ.1 (nI k8))) 14 (upd (G 14) σ.1 (nI 0)) := ⟨_, rfl⟩
                            have ho1 : mOnly σ.1 G G1 := by rw [hG1]; exact (mOnly_tr (mOnly_tr (mOnly_tr (mOnly_tr (mOnly_tr mOnly_rf mOnly_9) mOnly_10) mOnly_11) mOnly_12) mOnly_14)
                            have e9 : G1 9 = upd (G 9) σ.1 (nI c8) := by rw [hG1]; rfl
                            have e10 : G1 10 = upd (G 10) σ.1 (nI z8) := by rw [hG1]; rfl
                            have e11 : G1 11 = upd (G 11) σ.1 (nI t8) := by rw [hG1]; rfl
                            have e12 : G1 12 = upd (G 12) σ.1 (nI k8) := by rw [hG1]; rfl
                            have e13 : G1 13 = G 13 := by rw [hG1]; rfl
                            have e14 : G1 14 = upd (G 14) σ.1 (nI 0) := by rw [hG1]; rfl
                            have e15 : G1 15 = G 15 := by rw [hG1]; rfl
                            have e16 : G1 16 = G 16 := by rw [hG1]; rfl
                            have e17 : G1 17 = G 17 := by rw [hG1]; rfl
                            have e18 : G1 18 = G 18 := by rw [hG1]; rfl
                            have e19 : G1 19 = G 19 := by rw [hG1]; rfl
                            have e20 : G1 20 = G 20 := by rw [hG1]; rfl
                            have e21 : G1 21 = G 21 := by rw [hG1]; rfl
                            have e22 : G1 22 = G 22 := by rw [hG1]; rfl
                            have e23 : G1 23 = G 23 := by rw [hG1]; rfl
                            have e24 : G1 24 = G 24 := by rw [hG1]; rfl
                            have e25 : G1 25 = G 25 := by rw [hG1]; rfl
                            have e26 : G1 26 = G 26 := by rw [hG1]; rfl
                            have e27 : G1 27 = G 27 := by rw [hG1]; rfl
                            have e28 : G1 28 = G 28 := by rw [hG1]; rfl
                            have e29 : G1 29 = G 29 := by rw [hG1]; rfl
                            rw [← hG1]
                            have loop : ∀ (n i : Nat) (L : List (Nat × Nat)) (G9 : Nat → Nat → Int32), n + i = c8 → L = List.replicate i (z8, 1) → mRg σ.1 L (G9 21) (G9 22) (G9 23) → mSame [21, 22, 23] G1 G9 → mOnly σ.1 G1 G9 → kW p l e rmX4_stage s m args below meth cd K A 9 Q 0 0 ([]) (wM K y b (va_up S 0 (nI 0)) G9) [(0, .ref y), (1, .int (nI c8)), (2, .int (nI z8)), (3, .int (nI t8)), (4, .int (nI k8)), (5, .int (kB true)), (6, .int (nI 1)), (7, .int (nI σ.1)), (8, .int (nI i))] 143 [] := by
                              intro n
                              induction n with
                              | zero =>
                                intro i L G9 g1 g2 g3 g4 g5
                                have g1 : c8 = i := by omega
                                subst g1
                                refine k_iload hC dX4_stage_143 rfl ?_
                                refine k_iload_n hC 1 dX4_stage_145 rfl rfl ?_
                                refine k_icmp_geN hC 167 dX4_stage_146 (by decide) (by omega) (by omega) (fun d1 => ?_) (fun d1 => ?_)
                                · refine k_aload_n hC 0 dX4_stage_167 rfl rfl ?_
                                  refine k_dup hC dX4_stage_168 rfl ?_
                                  refine k_get hC inlX4 0 8 rfl rfl (by decide) lkF_X4_89 rfl dX4_stage_169 ?_
                                  refine k_iload hC dX4_stage_172 rfl ?_
                                  refine k_if_eq hC 183 dX4_stage_174 (by decide) (fun d3 => ?_) (fun d3 => ?_)
                                  · exact absurd d3 (by decide)
                                  · refine k_iload_n hC 1 dX4_stage_177 rfl rfl ?_
                                    refine k_iload_n hC 2 dX4_stage_178 rfl rfl ?_
                                    refine k_imulN hC dX4_stage_179 ?_
                                    refine k_goto hC 184 dX4_stage_180 (by decide) ?_
                                    refine k_iadd hC dX4_stage_184 ?_
                                    refine k_put hC inlX4 tyX4_ok nmX4 0 8 rfl rfl (by decide) lkF_X4_89 rfl rfl rfl (Nat.le_of_ble_eq_true rfl) dX4_stage_185 (wM K y b (va_up (va_up S 0 (nI 0)) 8 ((S 8) + nI (c8 * z8))) G9) rfl ?_
                                    refine k_aload_n hC 0 dX4_stage_188 rfl rfl ?_
                                    refine k_get hC inlX4 0 19 rfl rfl (by decide) lkF_X4_41 rfl dX4_stage_189 ?_
                                    refine k_iload hC dX4_stage_192 rfl ?_
                                    refine k_iload hC dX4_stage_194 rfl ?_
                                    refine k_if_neN hC 203 dX4_stage_196 (by decide) (by omega) (fun d4 => ?_) (fun d4 => ?_)
                                    · have ed : decide (σ.1 = 0) = false := by simp [d4]
                                      refine k_iconst hC (nI 1) dX4_stage_203 rfl ?_
                                      refine k_ast hC 11 rfl (by omega) (by decide) dX4_stage_204 (wM K y b (va_up (va_up S 0 (nI 0)) 8 ((S 8) + nI (c8 * z8))) (va_up G9 19 (upd (G9 19) σ.1 (nI 1)))) rfl ?_
                                      refine k_aload_n hC 0 dX4_stage_205 rfl rfl ?_
                                      refine k_get hC inlX4 0 20 rfl rfl (by decide) lkF_X4_44 rfl dX4_stage_206 ?_
                                      refine k_iload hC dX4_stage_209 rfl ?_
                                      refine k_aload_n hC 0 dX4_stage_211 rfl rfl ?_
                                      refine k_get hC inlX4 0 19 rfl rfl (by decide) lkF_X4_41 rfl dX4_stage_212 ?_
                                      refine k_iload hC dX4_stage_215 rfl ?_
                                      refine k_ald hC 11 rfl (by omega) (by decide) dX4_stage_217 ?_
                                      refine k_topE (nI 1) kupd_eq ?_
                                      refine k_ast hC 12 rfl (by omega) (by decide) dX4_stage_218 (wM K y b (va_up (va_up S 0 (nI 0)) 8 ((S 8) + nI (c8 * z8))) (va_up (va_up G9 19 (upd (G9 19) σ.1 (nI 1))) 20 (upd (G9 20) σ.1 (nI 1)))) rfl ?_
                                      refine k_aload_n hC 0 dX4_stage_219 rfl rfl ?_
                                      refine k_dup hC dX4_stage_220 rfl ?_
                                      refine k_get hC inlX4 0 1 rfl rfl (by decide) lkF_X4_78 rfl dX4_stage_221 ?_
                                      refine k_topE (nI σ.1) hR.1 ?_
                                      refine k_iconst hC (nI 1) dX4_stage_224 rfl ?_
                                      refine k_iaddN hC dX4_stage_225 ?_
                                      refine k_put hC inlX4 tyX4_ok nmX4 0 1 rfl rfl (by decide) lkF_X4_78 rfl rfl rfl (Nat.le_of_ble_eq_true rfl) dX4_stage_226 (wM K y b (va_up (va_up (va_up S 0 (nI 0)) 8 ((S 8) + nI (c8 * z8))) 1 (nI (σ.1 + 1))) (va_up (va_up G9 19 (upd (G9 19) σ.1 (nI 1))) 20 (upd (G9 20) σ.1 (nI 1)))) rfl ?_
                                      refine k_iload hC dX4_stage_229 rfl ?_
                                      exact k_iret hC hE (Nat.le_of_ble_eq_true rfl) (Nat.le_of_ble_eq_true rfl) dX4_stage_231 (by rw [eo]; exact ⟨_, _, _, rfl, List.append_nil _, rfl, fun _ => rfl, mRep_new hσ hR rfl rfl (fun j a1 a2 a3 => by simp only [va_up_ne _ _ a1, va_up_ne _ _ a2, va_up_ne _ _ a3]) ⟨((congrFun (g4 9 (by decide)) _).trans ((congrFun e9 _).trans kupd_eq)), ((congrFun (g4 10 (by decide)) _).trans ((congrFun e10 _).trans kupd_eq)), ((congrFun (g4 11 (by decide)) _).trans ((congrFun e11 _).trans kupd_eq)), ((congrFun (g4 12 (by decide)) _).trans ((congrFun e12 _).trans kupd_eq)), ((congrFun (g4 13 (by decide)) _).trans ((congrFun e13 _).trans z13)), ((congrFun (g4 14 (by decide)) _).trans ((congrFun e14 _).trans kupd_eq)), ((congrFun (g4 15 (by decide)) _).trans ((congrFun e15 _).trans z15)), ((congrFun (g4 16 (by decide)) _).trans ((congrFun e16 _).trans z16)), ((congrFun (g4 17 (by decide)) _).trans ((congrFun e17 _).trans z17)), ((congrFun (g4 18 (by decide)) _).trans ((congrFun e18 _).trans z18)), (kupd_eq.trans (by rw [ed]; rfl)), (kupd_eq.trans (by rw [ed]; rfl)), (by rw [g2] at g3; exact g3), ⟨(congrFun (g4 26 (by decide)) _).trans ((congrFun e26 _).trans z26), mR_nil⟩, ⟨(congrFun (g4 29 (by decide)) _).trans ((congrFun e29 _).trans z29), mR_nil⟩⟩ (mOnly_tr (mOnly_tr (mOnly_tr ho1 g5) mOnly_19) mOnly_20)⟩)
                                    · have ed : decide (σ.1 = 0) = true := by simp [d4]
                                      refine k_iconst hC (nI 0) dX4_stage_199 rfl ?_
                                      refine k_goto hC 204 dX4_stage_200 (by decide) ?_
                                      refine k_ast hC 11 rfl (by omega) (by decide) dX4_stage_204 (wM K y b (va_up (va_up S 0 (nI 0)) 8 ((S 8) + nI (c8 * z8))) (va_up G9 19 (upd (G9 19) σ.1 (nI 0)))) rfl ?_
                                      refine k_aload_n hC 0 dX4_stage_205 rfl rfl ?_
                                      refine k_get hC inlX4 0 20 rfl rfl (by decide) lkF_X4_44 rfl dX4_stage_206 ?_
                                      refine k_iload hC dX4_stage_209 rfl ?_
                                      refine k_aload_n hC 0 dX4_stage_211 rfl rfl ?_
                                      refine k_get hC inlX4 0 19 rfl rfl (by decide) lkF_X4_41 rfl dX4_stage_212 ?_
                                      refine k_iload hC dX4_stage_215 rfl ?_
                                      refine k_ald hC 11 rfl (by omega) (by decide) dX4_stage_217 ?_
                                      refine k_topE (nI 0) kupd_eq ?_
                                      refine k_ast hC 12 rfl (by omega) (by decide) dX4_stage_218 (wM K y b (va_up (va_up S 0 (nI 0)) 8 ((S 8) + nI (c8 * z8))) (va_up (va_up G9 19 (upd (G9 19) σ.1 (nI 0))) 20 (upd (G9 20) σ.1 (nI 0)))) rfl ?_
                                      refine k_aload_n hC 0 dX4_stage_219 rfl rfl ?_
                                      refine k_dup hC dX4_stage_220 rfl ?_
                                      refine k_get hC inlX4 0 1 rfl rfl (by decide) lkF_X4_78 rfl dX4_stage_221 ?_
                                      refine k_topE (nI σ.1) hR.1 ?_
                                      refine k_iconst hC (nI 1) dX4_stage_224 rfl ?_
                                      refine k_iaddN hC dX4_stage_225 ?_
                                      refine k_put hC inlX4 tyX4_ok nmX4 0 1 rfl rfl (by decide) lkF_X4_78 rfl rfl rfl (Nat.le_of_ble_eq_true rfl) dX4_stage_226 (wM K y b (va_up (va_up (va_up S 0 (nI 0)) 8 ((S 8) + nI (c8 * z8))) 1 (nI (σ.1 + 1))) (va_up (va_up G9 19 (upd (G9 19) σ.1 (nI 0))) 20 (upd (G9 20) σ.1 (nI 0)))) rfl ?_
                                      refine k_iload hC dX4_stage_229 rfl ?_
                                      exact k_iret hC hE (Nat.le_of_ble_eq_true rfl) (Nat.le_of_ble_eq_true rfl) dX4_stage_231 (by rw [eo]; exact ⟨_, _, _, rfl, List.append_nil _, rfl, fun _ => rfl, mRep_new hσ hR rfl rfl (fun j a1 a2 a3 => by simp only [va_up_ne _ _ a1, va_up_ne _ _ a2, va_up_ne _ _ a3]) ⟨((congrFun (g4 9 (by decide)) _).trans ((congrFun e9 _).trans kupd_eq)), ((congrFun (g4 10 (by decide)) _).trans ((congrFun e10 _).trans kupd_eq)), ((congrFun (g4 11 (by decide)) _).trans ((congrFun e11 _).trans kupd_eq)), ((congrFun (g4 12 (by decide)) _).trans ((congrFun e12 _).trans kupd_eq)), ((congrFun (g4 13 (by decide)) _).trans ((congrFun e13 _).trans z13)), ((congrFun (g4 14 (by decide)) _).trans ((congrFun e14 _).trans kupd_eq)), ((congrFun (g4 15 (by decide)) _).trans ((congrFun e15 _).trans z15)), ((congrFun (g4 16 (by decide)) _).trans ((congrFun e16 _).trans z16)), ((congrFun (g4 17 (by decide)) _).trans ((congrFun e17 _).trans z17)), ((congrFun (g4 18 (by decide)) _).trans ((congrFun e18 _).trans z18)), (kupd_eq.trans (by rw [ed]; rfl)), (kupd_eq.trans (by rw [ed]; rfl)), (by rw [g2] at g3; exact g3), ⟨(congrFun (g4 26 (by decide)) _).trans ((congrFun e26 _).trans z26), mR_nil⟩, ⟨(congrFun (g4 29 (by decide)) _).trans ((congrFun e29 _).trans z29), mR_nil⟩⟩ (mOnly_tr (mOnly_tr (mOnly_tr ho1 g5) mOnly_19) mOnly_20)⟩)
                                · exact absurd d1 (by omega)
                              | succ n ih =>
                                intro i L G9 g1 g2 g3 g4 g5
                                have gl : L.length = i := by rw [g2]; exact List.length_replicate
                                refine k_iload hC dX4_stage_143 rfl ?_
                                refine k_iload_n hC 1 dX4_stage_145 rfl rfl ?_
                                refine k_icmp_geN hC 167 dX4_stage_146 (by decide) (by omega) (by omega) (fun d1 => ?_) (fun d1 => ?_)
                                · exact absurd d1 (by omega)
                                · refine k_iload hC dX4_stage_149 rfl ?_
                                  refine k_if_eq hC 167 dX4_stage_151 (by decide) (fun d2 => ?_) (fun d2 => ?_)
                                  · exact absurd d2 (by decide)
                                  · refine k_aload_n hC 0 dX4_stage_154 rfl rfl ?_
                                    refine k_iload hC dX4_stage_155 rfl ?_
                                    refine k_iload_n hC 2 dX4_stage_157 rfl rfl ?_
                                    refine k_callV hC (As := [.int (nI σ.1), .int (nI z8)]) (cX4_comesToMarket_k l K y b (va_up S 0 (nI 0)) G9 σ.1 L.length z8 hs6 g3.1 (by omega)) [] (List.append_nil _).symm 0 rfl rfl (kAll5 lkM_X4_85 lkI_yX4_comesToMarket lkS_yX4_comesToMarket lkN_X4 lkC_yX4_comesToMarket) 2 (by decide) ⟨(Nat.le_of_ble_eq_true rfl), (Nat.le_of_ble_eq_true rfl)⟩ rfl rfl (Nat.le_of_ble_eq_true rfl) ⟨(Nat.le_of_ble_eq_true rfl), (Nat.le_of_ble_eq_true rfl)⟩ dX4_stage_158 (fun v w h => ?_)
                                    obtain ⟨rfl, rfl⟩ := h
                                    refine k_re 0 0 (wM K y b (va_up S 0 (nI 0)) (va_up (va_up (va_up G9 21 (upd (G9 21) (16 * σ.1 + L.length) (nI z8))) 22 (upd (G9 22) (16 * σ.1 + L.length) (nI 1))) 23 (upd (G9 23) σ.1 (nI (L.length + 1))))) [] rfl rfl (List.append_nil _) rfl ?_
                                    refine k_iinc hC dX4_stage_161 (by decide) rfl rfl (nI (i + 1)) (kinc i 1 rfl) [(0, .ref y), (1, .int (nI c8)), (2, .int (nI z8)), (3, .int (nI t8)), (4, .int (nI k8)), (5, .int (kB true)), (6, .int (nI 1)), (7, .int (nI σ.1)), (8, .int (nI (i + 1)))] rfl ?_
                                    refine k_goto hC 143 dX4_stage_164 (by decide) ?_
                                    exact ih (i + 1) (L ++ [(z8, 1)]) _ (by omega) (by rw [g2, List.replicate_succ']) (mRg_snoc z8 1 g3) (mSame_tr (mSame_tr (mSame_tr g4 (mSame_up (by decide))) (mSame_up (by decide))) (mSame_up (by decide))) (mOnly_tr (mOnly_tr (mOnly_tr g5 (mOnly_21 (x := L.length) (by omega))) (mOnly_22 (x := L.length) (by omega))) mOnly_23)
                            exact loop c8 0 [] G1 (by omega) rfl ⟨(congrFun e23 _).trans z23, mR_nil⟩ mSame_rf mOnly_rf
                      · exact absurd (by decide) d6
                    · refine k_iconst hC (nI 2) dX4_stage_67 rfl ?_
                      refine k_goto hC 72 dX4_stage_68 (by decide) ?_
                      refine k_put hC inlX4 tyX4_ok nmX4 0 0 rfl rfl (by decide) lkF_X4_74 rfl rfl rfl (Nat.le_of_ble_eq_true rfl) dX4_stage_72 (wM K y b (va_up S 0 (nI 2)) G) rfl ?_
                      refine k_aload_n hC 0 dX4_stage_75 rfl rfl ?_
                      refine k_get hC inlX4 0 0 rfl rfl (by decide) lkF_X4_74 rfl dX4_stage_76 ?_
                      refine k_if_leN hC 84 dX4_stage_79 (by decide) (by omega) (fun d6 => ?_) (fun d6 => ?_)
                      · exact absurd d6 (by decide)
                      · refine k_iconst hC (nI 0) dX4_stage_82 rfl ?_
                        exact k_iret hC hE (Nat.le_of_ble_eq_true rfl) (Nat.le_of_ble_eq_true rfl) dX4_stage_83 (by rw [show oStage σ (nI c8) (nI z8) (nI t8) (nI k8) full = (2, nI 0, σ) by simp only [oStage]; rw [if_pos hv, if_pos (by omega)]]; exact ⟨_, G, _, rfl, List.append_nil _, rfl, fun q => absurd q (Nat.succ_ne_zero _), mRep_S hR (fun j hj => by simp only [va_up_ne _ _ hj])⟩)
                  · exact absurd d5 (by decide)
              · rw [if_neg hv3]
                refine k_if_eqN hC 45 dX4_stage_38 (by decide) (by omega) (fun d4 => ?_) (fun d4 => ?_)
                · refine k_iconst hC (nI 0) dX4_stage_45 rfl ?_
                  refine k_istore hC dX4_stage_46 (by decide) rfl [(0, .ref y), (1, .int c9), (2, .int z9), (3, .int t9), (4, .int k9), (5, .int (kB full)), (6, .int (nI 0))] rfl ?_
                  refine k_aload_n hC 0 dX4_stage_48 rfl rfl ?_
                  refine k_iload hC dX4_stage_49 rfl ?_
                  refine k_if_neN hC 58 dX4_stage_51 (by decide) (by omega) (fun d5 => ?_) (fun d5 => ?_)
                  · exact absurd (by decide) d5
                  · refine k_iconst hC (nI 1) dX4_stage_54 rfl ?_
                    refine k_goto hC 72 dX4_stage_55 (by decide) ?_
                    refine k_put hC inlX4 tyX4_ok nmX4 0 0 rfl rfl (by decide) lkF_X4_74 rfl rfl rfl (Nat.le_of_ble_eq_true rfl) dX4_stage_72 (wM K y b (va_up S 0 (nI 1)) G) rfl ?_
                    refine k_aload_n hC 0 dX4_stage_75 rfl rfl ?_
                    refine k_get hC inlX4 0 0 rfl rfl (by decide) lkF_X4_74 rfl dX4_stage_76 ?_
                    refine k_if_leN hC 84 dX4_stage_79 (by decide) (by omega) (fun d6 => ?_) (fun d6 => ?_)
                    · exact absurd d6 (by decide)
                    · refine k_iconst hC (nI 0) dX4_stage_82 rfl ?_
                      exact k_iret hC hE (Nat.le_of_ble_eq_true rfl) (Nat.le_of_ble_eq_true rfl) dX4_stage_83 (by rw [show oStage σ c9 z9 t9 k9 full = (1, nI 0, σ) by simp only [oStage]; rw [if_neg (fun z => hv3 z.2.2.2)]]; exact ⟨_, G, _, rfl, List.append_nil _, rfl, fun q => absurd q (Nat.succ_ne_zero _), mRep_S hR (fun j hj => by simp only [va_up_ne _ _ hj])⟩)
                · exact absurd (by decide) d4
          · rw [if_neg hv2]
            refine k_if_eqN hC 45 dX4_stage_27 (by decide) (by omega) (fun d3 => ?_) (fun d3 => ?_)
            · refine k_iconst hC (nI 0) dX4_stage_45 rfl ?_
              refine k_istore hC dX4_stage_46 (by decide) rfl [(0, .ref y), (1, .int c9), (2, .int z9), (3, .int t9), (4, .int k9), (5, .int (kB full)), (6, .int (nI 0))] rfl ?_
              refine k_aload_n hC 0 dX4_stage_48 rfl rfl ?_
              refine k_iload hC dX4_stage_49 rfl ?_
              refine k_if_neN hC 58 dX4_stage_51 (by decide) (by omega) (fun d4 => ?_) (fun d4 => ?_)
              · exact absurd (by decide) d4
              · refine k_iconst hC (nI 1) dX4_stage_54 rfl ?_
                refine k_goto hC 72 dX4_stage_55 (by decide) ?_
                refine k_put hC inlX4 tyX4_ok nmX4 0 0 rfl rfl (by decide) lkF_X4_74 rfl rfl rfl (Nat.le_of_ble_eq_true rfl) dX4_stage_72 (wM K y b (va_up S 0 (nI 1)) G) rfl ?_
                refine k_aload_n hC 0 dX4_stage_75 rfl rfl ?_
                refine k_get hC inlX4 0 0 rfl rfl (by decide) lkF_X4_74 rfl dX4_stage_76 ?_
                refine k_if_leN hC 84 dX4_stage_79 (by decide) (by omega) (fun d5 => ?_) (fun d5 => ?_)
                · exact absurd d5 (by decide)
                · refine k_iconst hC (nI 0) dX4_stage_82 rfl ?_
                  exact k_iret hC hE (Nat.le_of_ble_eq_true rfl) (Nat.le_of_ble_eq_true rfl) dX4_stage_83 (by rw [show oStage σ c9 z9 t9 k9 full = (1, nI 0, σ) by simp only [oStage]; rw [if_neg (fun z => hv2 z.2.2.1)]]; exact ⟨_, G, _, rfl, List.append_nil _, rfl, fun q => absurd q (Nat.succ_ne_zero _), mRep_S hR (fun j hj => by simp only [va_up_ne _ _ hj])⟩)
            · exact absurd (by decide) d3
      · rw [if_neg hv1]
        refine k_if_eqN hC 45 dX4_stage_17 (by decide) (by omega) (fun d2 => ?_) (fun d2 => ?_)
        · refine k_iconst hC (nI 0) dX4_stage_45 rfl ?_
          refine k_istore hC dX4_stage_46 (by decide) rfl [(0, .ref y), (1, .int c9), (2, .int z9), (3, .int t9), (4, .int k9), (5, .int (kB full)), (6, .int (nI 0))] rfl ?_
          refine k_aload_n hC 0 dX4_stage_48 rfl rfl ?_
          refine k_iload hC dX4_stage_49 rfl ?_
          refine k_if_neN hC 58 dX4_stage_51 (by decide) (by omega) (fun d3 => ?_) (fun d3 => ?_)
          · exact absurd (by decide) d3
          · refine k_iconst hC (nI 1) dX4_stage_54 rfl ?_
            refine k_goto hC 72 dX4_stage_55 (by decide) ?_
            refine k_put hC inlX4 tyX4_ok nmX4 0 0 rfl rfl (by decide) lkF_X4_74 rfl rfl rfl (Nat.le_of_ble_eq_true rfl) dX4_stage_72 (wM K y b (va_up S 0 (nI 1)) G) rfl ?_
            refine k_aload_n hC 0 dX4_stage_75 rfl rfl ?_
            refine k_get hC inlX4 0 0 rfl rfl (by decide) lkF_X4_74 rfl dX4_stage_76 ?_
            refine k_if_leN hC 84 dX4_stage_79 (by decide) (by omega) (fun d4 => ?_) (fun d4 => ?_)
            · exact absurd d4 (by decide)
            · refine k_iconst hC (nI 0) dX4_stage_82 rfl ?_
              exact k_iret hC hE (Nat.le_of_ble_eq_true rfl) (Nat.le_of_ble_eq_true rfl) dX4_stage_83 (by rw [show oStage σ c9 z9 t9 k9 full = (1, nI 0, σ) by simp only [oStage]; rw [if_neg (fun z => hv1 z.2.1)]]; exact ⟨_, G, _, rfl, List.append_nil _, rfl, fun q => absurd q (Nat.succ_ne_zero _), mRep_S hR (fun j hj => by simp only [va_up_ne _ _ hj])⟩)
        · exact absurd (by decide) d2
  · rw [if_neg hv0]
    refine k_if_eqN hC 45 dX4_stage_7 (by decide) (by omega) (fun d1 => ?_) (fun d1 => ?_)
    · refine k_iconst hC (nI 0) dX4_stage_45 rfl ?_
      refine k_istore hC dX4_stage_46 (by decide) rfl [(0, .ref y), (1, .int c9), (2, .int z9), (3, .int t9), (4, .int k9), (5, .int (kB full)), (6, .int (nI 0))] rfl ?_
      refine k_aload_n hC 0 dX4_stage_48 rfl rfl ?_
      refine k_iload hC dX4_stage_49 rfl ?_
      refine k_if_neN hC 58 dX4_stage_51 (by decide) (by omega) (fun d2 => ?_) (fun d2 => ?_)
      · exact absurd (by decide) d2
      · refine k_iconst hC (nI 1) dX4_stage_54 rfl ?_
        refine k_goto hC 72 dX4_stage_55 (by decide) ?_
        refine k_put hC inlX4 tyX4_ok nmX4 0 0 rfl rfl (by decide) lkF_X4_74 rfl rfl rfl (Nat.le_of_ble_eq_true rfl) dX4_stage_72 (wM K y b (va_up S 0 (nI 1)) G) rfl ?_
        refine k_aload_n hC 0 dX4_stage_75 rfl rfl ?_
        refine k_get hC inlX4 0 0 rfl rfl (by decide) lkF_X4_74 rfl dX4_stage_76 ?_
        refine k_if_leN hC 84 dX4_stage_79 (by decide) (by omega) (fun d3 => ?_) (fun d3 => ?_)
        · exact absurd d3 (by decide)
        · refine k_iconst hC (nI 0) dX4_stage_82 rfl ?_
          exact k_iret hC hE (Nat.le_of_ble_eq_true rfl) (Nat.le_of_ble_eq_true rfl) dX4_stage_83 (by rw [show oStage σ c9 z9 t9 k9 full = (1, nI 0, σ) by simp only [oStage]; rw [if_neg (fun z => hv0 z.1)]]; exact ⟨_, G, _, rfl, List.append_nil _, rfl, fun q => absurd q (Nat.succ_ne_zero _), mRep_S hR (fun j hj => by simp only [va_up_ne _ _ hj])⟩)
    · exact absurd (by decide) d1
abbrev rmX4_init : Room := { frames := 1, cells := 21, slots := 666, locals := 30 }
set_option maxRecDepth 100000 in
set_option maxHeartbeats 4000000 in
theorem cX4_init_k (l : Launch) (K : kE) (y : Nat) : kM l yX4_init (kws yX4_init cX4_init 1 none) rmX4_init K [.ref y] [kO y 4 [.int (nI 0), .int (nI 0), .int (nI 0), .int (nI 0), .int (nI 0), .int (nI 0), .int (nI 0), .int (nI 0), .int (nI 0), .null, .null, .null, .null, .null, .null, .null, .null, .null, .null, .null, .null, .null, .null, .null, .null, .null, .null, .null, .null, .null]] (fun v w => v = none ∧ ∃ b : Nat → Nat, w = wM K y b (fun _ => nI 0) (fun _ _ => 0)) := by
  refine kM_of (pl := []) (X := [kO y 4 [.int (nI 0), .int (nI 0), .int (nI 0), .int (nI 0), .int (nI 0), .int (nI 0), .int (nI 0), .int (nI 0), .int (nI 0), .null, .null, .null, .null, .null, .null, .null, .null, .null, .null, .null, .null, .null, .null, .null, .null, .null, .null, .null, .null, .null]]) rfl (by decide) (Nat.le_of_ble_eq_true rfl) ?_
  intro p e s m args below meth cd A Q hC hnm hE
  refine k_eX (show _ = [kO y 4 [.int (nI 0), .int (nI 0), .int (nI 0), .int (nI 0), .int (nI 0), .int (nI 0), .int (nI 0), .int (nI 0), .int (nI 0), .null, .null, .null, .null, .null, .null, .null, .null, .null, .null, .null, .null, .null, .null, .null, .null, .null, .null, .null, .null, .null]] from rfl) ?_
  refine k_aload_n hC 0 dX4_init_0 rfl rfl ?_
  refine k_objInit hC lkM_X4_1 lkI_objectInit lkC_objectInit dX4_init_1 (Nat.le_of_ble_eq_true rfl) (Nat.le_of_ble_eq_true rfl) ?_
  refine k_aload_n hC 0 dX4_init_4 rfl rfl ?_
  refine k_bipush hC (nI 6) dX4_init_5 rfl ?_
  refine k_newI hC 6 rfl (by decide) (Nat.le_of_ble_eq_true rfl) (Nat.le_of_ble_eq_true rfl) lkA_int dX4_init_7 (fun a9 => ?_)
  refine k_eX (show _ = [kO y 4 [.int (nI 0), .int (nI 0), .int (nI 0), .int (nI 0), .int (nI 0), .int (nI 0), .int (nI 0), .int (nI 0), .int (nI 0), .null, .null, .null, .null, .null, .null, .null, .null, .null, .null, .null, .null, .null, .null, .null, .null, .null, .null, .null, .null, .null], kI K a9 6 ((fun _ => 0))] from rfl) ?_
  refine k_putF hC hnm inlX4 tyX4_ok nmX4 0 9 rfl rfl (by decide) lkF_X4_7 rfl rfl rfl rfl (Nat.le_of_ble_eq_true rfl) dX4_init_9 [kO y 4 [.int (nI 0), .int (nI 0), .int (nI 0), .int (nI 0), .int (nI 0), .int (nI 0), .int (nI 0), .int (nI 0), .int (nI 0), .ref a9, .null, .null, .null, .null, .null, .null, .null, .null, .null, .null, .null, .null, .null, .null, .null, .null, .null, .null, .null, .null], kI K a9 6 ((fun _ => 0))] rfl ?_
  refine k_aload_n hC 0 dX4_init_12 rfl rfl ?_
  refine k_bipush hC (nI 6) dX4_init_13 rfl ?_
  refine k_newI hC 6 rfl (by decide) (Nat.le_of_ble_eq_true rfl) (Nat.le_of_ble_eq_true rfl) lkA_int dX4_init_15 (fun a10 => ?_)
  refine k_eX (show _ = [kO y 4 [.int (nI 0), .int (nI 0), .int (nI 0), .int (nI 0), .int (nI 0), .int (nI 0), .int (nI 0), .int (nI 0), .int (nI 0), .ref a9, .null, .null, .null, .null, .null, .null, .null, .null, .null, .null, .null, .null, .null, .null, .null, .null, .null, .null, .null, .null], kI K a9 6 ((fun _ => 0)), kI K a10 6 ((fun _ => 0))] from rfl) ?_
  refine k_putF hC hnm inlX4 tyX4_ok nmX4 0 10 rfl rfl (by decide) lkF_X4_13 rfl rfl rfl rfl (Nat.le_of_ble_eq_true rfl) dX4_init_17 [kO y 4 [.int (nI 0), .int (nI 0), .int (nI 0), .int (nI 0), .int (nI 0), .int (nI 0), .int (nI 0), .int (nI 0), .int (nI 0), .ref a9, .ref a10, .null, .null, .null, .null, .null, .null, .null, .null, .null, .null, .null, .null, .null, .null, .null, .null, .null, .null, .null], kI K a9 6 ((fun _ => 0)), kI K a10 6 ((fun _ => 0))] rfl ?_
  refine k_aload_n hC 0 dX4_init_20 rfl rfl ?_
  refine k_bipush hC (nI 6) dX4_init_21 rfl ?_
  refine k_newI hC 6 rfl (by decide) (Nat.le_of_ble_eq_true rfl) (Nat.le_of_ble_eq_true rfl) lkA_int dX4_init_23 (fun a11 => ?_)
  refine k_eX (show _ = [kO y 4 [.int (nI 0), .int (nI 0), .int (nI 0), .int (nI 0), .int (nI 0), .int (nI 0), .int (nI 0), .int (nI 0), .int (nI 0), .ref a9, .ref a10, .null, .null, .null, .null, .null, .null, .null, .null, .null, .null, .null, .null, .null, .null, .null, .null, .null, .null, .null], kI K a9 6 ((fun _ => 0)), kI K a10 6 ((fun _ => 0)), kI K a11 6 ((fun _ => 0))] from rfl) ?_
  refine k_putF hC hnm inlX4 tyX4_ok nmX4 0 11 rfl rfl (by decide) lkF_X4_16 rfl rfl rfl rfl (Nat.le_of_ble_eq_true rfl) dX4_init_25 [kO y 4 [.int (nI 0), .int (nI 0), .int (nI 0), .int (nI 0), .int (nI 0), .int (nI 0), .int (nI 0), .int (nI 0), .int (nI 0), .ref a9, .ref a10, .ref a11, .null, .null, .null, .null, .null, .null, .null, .null, .null, .null, .null, .null, .null, .null, .null, .null, .null, .null], kI K a9 6 ((fun _ => 0)), kI K a10 6 ((fun _ => 0)), kI K a11 6 ((fun _ => 0))] rfl ?_
  refine k_aload_n hC 0 dX4_init_28 rfl rfl ?_
  refine k_bipush hC (nI 6) dX4_init_29 rfl ?_
  refine k_newI hC 6 rfl (by decide) (Nat.le_of_ble_eq_true rfl) (Nat.le_of_ble_eq_true rfl) lkA_int dX4_init_31 (fun a12 => ?_)
  refine k_eX (show _ = [kO y 4 [.int (nI 0), .int (nI 0), .int (nI 0), .int (nI 0), .int (nI 0), .int (nI 0), .int (nI 0), .int (nI 0), .int (nI 0), .ref a9, .ref a10, .ref a11, .null, .null, .null, .null, .null, .null, .null, .null, .null, .null, .null, .null, .null, .null, .null, .null, .null, .null], kI K a9 6 ((fun _ => 0)), kI K a10 6 ((fun _ => 0)), kI K a11 6 ((fun _ => 0)), kI K a12 6 ((fun _ => 0))] from rfl) ?_
  refine k_putF hC hnm inlX4 tyX4_ok nmX4 0 12 rfl rfl (by decide) lkF_X4_19 rfl rfl rfl rfl (Nat.le_of_ble_eq_true rfl) dX4_init_33 [kO y 4 [.int (nI 0), .int (nI 0), .int (nI 0), .int (nI 0), .int (nI 0), .int (nI 0), .int (nI 0), .int (nI 0), .int (nI 0), .ref a9, .ref a10, .ref a11, .ref a12, .null, .null, .null, .null, .null, .null, .null, .null, .null, .null, .null, .null, .null, .null, .null, .null, .null], kI K a9 6 ((fun _ => 0)), kI K a10 6 ((fun _ => 0)), kI K a11 6 ((fun _ => 0)), kI K a12 6 ((fun _ => 0))] rfl ?_
  refine k_aload_n hC 0 dX4_init_36 rfl rfl ?_
  refine k_bipush hC (nI 6) dX4_init_37 rfl ?_
  refine k_newZ hC 6 rfl (by decide) (Nat.le_of_ble_eq_true rfl) (Nat.le_of_ble_eq_true rfl) lkA_boolean dX4_init_39 (fun a13 => ?_)
  refine k_eX (show _ = [kO y 4 [.int (nI 0), .int (nI 0), .int (nI 0), .int (nI 0), .int (nI 0), .int (nI 0), .int (nI 0), .int (nI 0), .int (nI 0), .ref a9, .ref a10, .ref a11, .ref a12, .null, .null, .null, .null, .null, .null, .null, .null, .null, .null, .null, .null, .null, .null, .null, .null, .null], kI K a9 6 ((fun _ => 0)), kI K a10 6 ((fun _ => 0)), kI K a11 6 ((fun _ => 0)), kI K a12 6 ((fun _ => 0)), kZ K a13 6 ((fun _ => 0))] from rfl) ?_
  refine k_putF hC hnm inlX4 tyX4_ok nmX4 0 13 rfl rfl (by decide) lkF_X4_22 rfl rfl rfl rfl (Nat.le_of_ble_eq_true rfl) dX4_init_41 [kO y 4 [.int (nI 0), .int (nI 0), .int (nI 0), .int (nI 0), .int (nI 0), .int (nI 0), .int (nI 0), .int (nI 0), .int (nI 0), .ref a9, .ref a10, .ref a11, .ref a12, .ref a13, .null, .null, .null, .null, .null, .null, .null, .null, .null, .null, .null, .null, .null, .null, .null, .null], kI K a9 6 ((fun _ => 0)), kI K a10 6 ((fun _ => 0)), kI K a11 6 ((fun _ => 0)), kI K a12 6 ((fun _ => 0)), kZ K a13 6 ((fun _ => 0))] rfl ?_
  refine k_aload_n hC 0 dX4_init_44 rfl rfl ?_
  refine k_bipush hC (nI 6) dX4_init_45 rfl ?_
  refine k_newI hC 6 rfl (by decide) (Nat.le_of_ble_eq_true rfl) (Nat.le_of_ble_eq_true rfl) lkA_int dX4_init_47 (fun a14 => ?_)
  refine k_eX (show _ = [kO y 4 [.int (nI 0), .int (nI 0), .int (nI 0), .int (nI 0), .int (nI 0), .int (nI 0), .int (nI 0), .int (nI 0), .int (nI 0), .ref a9, .ref a10, .ref a11, .ref a12, .ref a13, .null, .null, .null, .null, .null, .null, .null, .null, .null, .null, .null, .null, .null, .null, .null, .null], kI K a9 6 ((fun _ => 0)), kI K a10 6 ((fun _ => 0)), kI K a11 6 ((fun _ => 0)), kI K a12 6 ((fun _ => 0)), kZ K a13 6 ((fun _ => 0)), kI K a14 6 ((fun _ => 0))] from rfl) ?_
  refine k_putF hC hnm inlX4 tyX4_ok nmX4 0 14 rfl rfl (by decide) lkF_X4_26 rfl rfl rfl rfl (Nat.le_of_ble_eq_true rfl) dX4_init_49 [kO y 4 [.int (nI 0), .int (nI 0), .int (nI 0), .int (nI 0), .int (nI 0), .int (nI 0), .int (nI 0), .int (nI 0), .int (nI 0), .ref a9, .ref a10, .ref a11, .ref a12, .ref a13, .ref a14, .null, .null, .null, .null, .null, .null, .null, .null, .null, .null, .null, .null, .null, .null, .null], kI K a9 6 ((fun _ => 0)), kI K a10 6 ((fun _ => 0)), kI K a11 6 ((fun _ => 0)), kI K a12 6 ((fun _ => 0)), kZ K a13 6 ((fun _ => 0)), kI K a14 6 ((fun _ => 0))] rfl ?_
  refine k_aload_n hC 0 dX4_init_52 rfl rfl ?_
  refine k_bipush hC (nI 6) dX4_init_53 rfl ?_
  refine k_newI hC 6 rfl (by decide) (Nat.le_of_ble_eq_true rfl) (Nat.le_of_ble_eq_true rfl) lkA_int dX4_init_55 (fun a15 => ?_)
  refine k_eX (show _ = [kO y 4 [.int (nI 0), .int (nI 0), .int (nI 0), .int (nI 0), .int (nI 0), .int (nI 0), .int (nI 0), .int (nI 0), .int (nI 0), .ref a9, .ref a10, .ref a11, .ref a12, .ref a13, .ref a14, .null, .null, .null, .null, .null, .null, .null, .null, .null, .null, .null, .null, .null, .null, .null], kI K a9 6 ((fun _ => 0)), kI K a10 6 ((fun _ => 0)), kI K a11 6 ((fun _ => 0)), kI K a12 6 ((fun _ => 0)), kZ K a13 6 ((fun _ => 0)), kI K a14 6 ((fun _ => 0)), kI K a15 6 ((fun _ => 0))] from rfl) ?_
  refine k_putF hC hnm inlX4 tyX4_ok nmX4 0 15 rfl rfl (by decide) lkF_X4_29 rfl rfl rfl rfl (Nat.le_of_ble_eq_true rfl) dX4_init_57 [kO y 4 [.int (nI 0), .int (nI 0), .int (nI 0), .int (nI 0), .int (nI 0), .int (nI 0), .int (nI 0), .int (nI 0), .int (nI 0), .ref a9, .ref a10, .ref a11, .ref a12, .ref a13, .ref a14, .ref a15, .null, .null, .null, .null, .null, .null, .null, .null, .null, .null, .null, .null, .null, .null], kI K a9 6 ((fun _ => 0)), kI K a10 6 ((fun _ => 0)), kI K a11 6 ((fun _ => 0)), kI K a12 6 ((fun _ => 0)), kZ K a13 6 ((fun _ => 0)), kI K a14 6 ((fun _ => 0)), kI K a15 6 ((fun _ => 0))] rfl ?_
  refine k_aload_n hC 0 dX4_init_60 rfl rfl ?_
  refine k_bipush hC (nI 6) dX4_init_61 rfl ?_
  refine k_newI hC 6 rfl (by decide) (Nat.le_of_ble_eq_true rfl) (Nat.le_of_ble_eq_true rfl) lkA_int dX4_init_63 (fun a16 => ?_)
  refine k_eX (show _ = [kO y 4 [.int (nI 0), .int (nI 0), .int (nI 0), .int (nI 0), .int (nI 0), .int (nI 0), .int (nI 0), .int (nI 0), .int (nI 0), .ref a9, .ref a10, .ref a11, .ref a12, .ref a13, .ref a14, .ref a15, .null, .null, .null, .null, .null, .null, .null, .null, .null, .null, .null, .null, .null, .null], kI K a9 6 ((fun _ => 0)), kI K a10 6 ((fun _ => 0)), kI K a11 6 ((fun _ => 0)), kI K a12 6 ((fun _ => 0)), kZ K a13 6 ((fun _ => 0)), kI K a14 6 ((fun _ => 0)), kI K a15 6 ((fun _ => 0)), kI K a16 6 ((fun _ => 0))] from rfl) ?_
  refine k_putF hC hnm inlX4 tyX4_ok nmX4 0 16 rfl rfl (by decide) lkF_X4_32 rfl rfl rfl rfl (Nat.le_of_ble_eq_true rfl) dX4_init_65 [kO y 4 [.int (nI 0), .int (nI 0), .int (nI 0), .int (nI 0), .int (nI 0), .int (nI 0), .int (nI 0), .int (nI 0), .int (nI 0), .ref a9, .ref a10, .ref a11, .ref a12, .ref a13, .ref a14, .ref a15, .ref a16, .null, .null, .null, .null, .null, .null, .null, .null, .null, .null, .null, .null, .null], kI K a9 6 ((fun _ => 0)), kI K a10 6 ((fun _ => 0)), kI K a11 6 ((fun _ => 0)), kI K a12 6 ((fun _ => 0)), kZ K a13 6 ((fun _ => 0)), kI K a14 6 ((fun _ => 0)), kI K a15 6 ((fun _ => 0)), kI K a16 6 ((fun _ => 0))] rfl ?_
  refine k_aload_n hC 0 dX4_init_68 rfl rfl ?_
  refine k_bipush hC (nI 6) dX4_init_69 rfl ?_
  refine k_newI hC 6 rfl (by decide) (Nat.le_of_ble_eq_true rfl) (Nat.le_of_ble_eq_true rfl) lkA_int dX4_init_71 (fun a17 => ?_)
  refine k_eX (show _ = [kO y 4 [.int (nI 0), .int (nI 0), .int (nI 0), .int (nI 0), .int (nI 0), .int (nI 0), .int (nI 0), .int (nI 0), .int (nI 0), .ref a9, .ref a10, .ref a11, .ref a12, .ref a13, .ref a14, .ref a15, .ref a16, .null, .null, .null, .null, .null, .null, .null, .null, .null, .null, .null, .null, .null], kI K a9 6 ((fun _ => 0)), kI K a10 6 ((fun _ => 0)), kI K a11 6 ((fun _ => 0)), kI K a12 6 ((fun _ => 0)), kZ K a13 6 ((fun _ => 0)), kI K a14 6 ((fun _ => 0)), kI K a15 6 ((fun _ => 0)), kI K a16 6 ((fun _ => 0)), kI K a17 6 ((fun _ => 0))] from rfl) ?_
  refine k_putF hC hnm inlX4 tyX4_ok nmX4 0 17 rfl rfl (by decide) lkF_X4_35 rfl rfl rfl rfl (Nat.le_of_ble_eq_true rfl) dX4_init_73 [kO y 4 [.int (nI 0), .int (nI 0), .int (nI 0), .int (nI 0), .int (nI 0), .int (nI 0), .int (nI 0), .int (nI 0), .int (nI 0), .ref a9, .ref a10, .ref a11, .ref a12, .ref a13, .ref a14, .ref a15, .ref a16, .ref a17, .null, .null, .null, .null, .null, .null, .null, .null, .null, .null, .null, .null], kI K a9 6 ((fun _ => 0)), kI K a10 6 ((fun _ => 0)), kI K a11 6 ((fun _ => 0)), kI K a12 6 ((fun _ => 0)), kZ K a13 6 ((fun _ => 0)), kI K a14 6 ((fun _ => 0)), kI K a15 6 ((fun _ => 0)), kI K a16 6 ((fun _ => 0)), kI K a17 6 ((fun _ => 0))] rfl ?_
  refine k_aload_n hC 0 dX4_init_76 rfl rfl ?_
  refine k_bipush hC (nI 6) dX4_init_77 rfl ?_
  refine k_newI hC 6 rfl (by decide) (Nat.le_of_ble_eq_true rfl) (Nat.le_of_ble_eq_true rfl) lkA_int dX4_init_79 (fun a18 => ?_)
  refine k_eX (show _ = [kO y 4 [.int (nI 0), .int (nI 0), .int (nI 0), .int (nI 0), .int (nI 0), .int (nI 0), .int (nI 0), .int (nI 0), .int (nI 0), .ref a9, .ref a10, .ref a11, .ref a12, .ref a13, .ref a14, .ref a15, .ref a16, .ref a17, .null, .null, .null, .null, .null, .null, .null, .null, .null, .null, .null, .null], kI K a9 6 ((fun _ => 0)), kI K a10 6 ((fun _ => 0)), kI K a11 6 ((fun _ => 0)), kI K a12 6 ((fun _ => 0)), kZ K a13 6 ((fun _ => 0)), kI K a14 6 ((fun _ => 0)), kI K a15 6 ((fun _ => 0)), kI K a16 6 ((fun _ => 0)), kI K a17 6 ((fun _ => 0)), kI K a18 6 ((fun _ => 0))] from rfl) ?_
  refine k_putF hC hnm inlX4 tyX4_ok nmX4 0 18 rfl rfl (by decide) lkF_X4_38 rfl rfl rfl rfl (Nat.le_of_ble_eq_true rfl) dX4_init_81 [kO y 4 [.int (nI 0), .int (nI 0), .int (nI 0), .int (nI 0), .int (nI 0), .int (nI 0), .int (nI 0), .int (nI 0), .int (nI 0), .ref a9, .ref a10, .ref a11, .ref a12, .ref a13, .ref a14, .ref a15, .ref a16, .ref a17, .ref a18, .null, .null, .null, .null, .null, .null, .null, .null, .null, .null, .null], kI K a9 6 ((fun _ => 0)), kI K a10 6 ((fun _ => 0)), kI K a11 6 ((fun _ => 0)), kI K a12 6 ((fun _ => 0)), kZ K a13 6 ((fun _ => 0)), kI K a14 6 ((fun _ => 0)), kI K a15 6 ((fun _ => 0)), kI K a16 6 ((fun _ => 0)), kI K a17 6 ((fun _ => 0)), kI K a18 6 ((fun _ => 0))] rfl ?_
  refine k_aload_n hC 0 dX4_init_84 rfl rfl ?_
  refine k_bipush hC (nI 6) dX4_init_85 rfl ?_
  refine k_newI hC 6 rfl (by decide) (Nat.le_of_ble_eq_true rfl) (Nat.le_of_ble_eq_true rfl) lkA_int dX4_init_87 (fun a19 => ?_)
  refine k_eX (show _ = [kO y 4 [.int (nI 0), .int (nI 0), .int (nI 0), .int (nI 0), .int (nI 0), .int (nI 0), .int (nI 0), .int (nI 0), .int (nI 0), .ref a9, .ref a10, .ref a11, .ref a12, .ref a13, .ref a14, .ref a15, .ref a16, .ref a17, .ref a18, .null, .null, .null, .null, .null, .null, .null, .null, .null, .null, .null], kI K a9 6 ((fun _ => 0)), kI K a10 6 ((fun _ => 0)), kI K a11 6 ((fun _ => 0)), kI K a12 6 ((fun _ => 0)), kZ K a13 6 ((fun _ => 0)), kI K a14 6 ((fun _ => 0)), kI K a15 6 ((fun _ => 0)), kI K a16 6 ((fun _ => 0)), kI K a17 6 ((fun _ => 0)), kI K a18 6 ((fun _ => 0)), kI K a19 6 ((fun _ => 0))] from rfl) ?_
  refine k_putF hC hnm inlX4 tyX4_ok nmX4 0 19 rfl rfl (by decide) lkF_X4_41 rfl rfl rfl rfl (Nat.le_of_ble_eq_true rfl) dX4_init_89 [kO y 4 [.int (nI 0), .int (nI 0), .int (nI 0), .int (nI 0), .int (nI 0), .int (nI 0), .int (nI 0), .int (nI 0), .int (nI 0), .ref a9, .ref a10, .ref a11, .ref a12, .ref a13, .ref a14, .ref a15, .ref a16, .ref a17, .ref a18, .ref a19, .null, .null, .null, .null, .null, .null, .null, .null, .null, .null], kI K a9 6 ((fun _ => 0)), kI K a10 6 ((fun _ => 0)), kI K a11 6 ((fun _ => 0)), kI K a12 6 ((fun _ => 0)), kZ K a13 6 ((fun _ => 0)), kI K a14 6 ((fun _ => 0)), kI K a15 6 ((fun _ => 0)), kI K a16 6 ((fun _ => 0)), kI K a17 6 ((fun _ => 0)), kI K a18 6 ((fun _ => 0)), kI K a19 6 ((fun _ => 0))] rfl ?_
  refine k_aload_n hC 0 dX4_init_92 rfl rfl ?_
  refine k_bipush hC (nI 6) dX4_init_93 rfl ?_
  refine k_newI hC 6 rfl (by decide) (Nat.le_of_ble_eq_true rfl) (Nat.le_of_ble_eq_true rfl) lkA_int dX4_init_95 (fun a20 => ?_)
  refine k_eX (show _ = [kO y 4 [.int (nI 0), .int (nI 0), .int (nI 0), .int (nI 0), .int (nI 0), .int (nI 0), .int (nI 0), .int (nI 0), .int (nI 0), .ref a9, .ref a10, .ref a11, .ref a12, .ref a13, .ref a14, .ref a15, .ref a16, .ref a17, .ref a18, .ref a19, .null, .null, .null, .null, .null, .null, .null, .null, .null, .null], kI K a9 6 ((fun _ => 0)), kI K a10 6 ((fun _ => 0)), kI K a11 6 ((fun _ => 0)), kI K a12 6 ((fun _ => 0)), kZ K a13 6 ((fun _ => 0)), kI K a14 6 ((fun _ => 0)), kI K a15 6 ((fun _ => 0)), kI K a16 6 ((fun _ => 0)), kI K a17 6 ((fun _ => 0)), kI K a18 6 ((fun _ => 0)), kI K a19 6 ((fun _ => 0)), kI K a20 6 ((fun _ => 0))] from rfl) ?_
  refine k_putF hC hnm inlX4 tyX4_ok nmX4 0 20 rfl rfl (by decide) lkF_X4_44 rfl rfl rfl rfl (Nat.le_of_ble_eq_true rfl) dX4_init_97 [kO y 4 [.int (nI 0), .int (nI 0), .int (nI 0), .int (nI 0), .int (nI 0), .int (nI 0), .int (nI 0), .int (nI 0), .int (nI 0), .ref a9, .ref a10, .ref a11, .ref a12, .ref a13, .ref a14, .ref a15, .ref a16, .ref a17, .ref a18, .ref a19, .ref a20, .null, .null, .null, .null, .null, .null, .null, .null, .null], kI K a9 6 ((fun _ => 0)), kI K a10 6 ((fun _ => 0)), kI K a11 6 ((fun _ => 0)), kI K a12 6 ((fun _ => 0)), kZ K a13 6 ((fun _ => 0)), kI K a14 6 ((fun _ => 0)), kI K a15 6 ((fun _ => 0)), kI K a16 6 ((fun _ => 0)), kI K a17 6 ((fun _ => 0)), kI K a18 6 ((fun _ => 0)), kI K a19 6 ((fun _ => 0)), kI K a20 6 ((fun _ => 0))] rfl ?_
  refine k_aload_n hC 0 dX4_init_100 rfl rfl ?_
  refine k_bipush hC (nI 96) dX4_init_101 rfl ?_
  refine k_newI hC 96 rfl (by decide) (Nat.le_of_ble_eq_true rfl) (Nat.le_of_ble_eq_true rfl) lkA_int dX4_init_103 (fun a21 => ?_)
  refine k_eX (show _ = [kO y 4 [.int (nI 0), .int (nI 0), .int (nI 0), .int (nI 0), .int (nI 0), .int (nI 0), .int (nI 0), .int (nI 0), .int (nI 0), .ref a9, .ref a10, .ref a11, .ref a12, .ref a13, .ref a14, .ref a15, .ref a16, .ref a17, .ref a18, .ref a19, .ref a20, .null, .null, .null, .null, .null, .null, .null, .null, .null], kI K a9 6 ((fun _ => 0)), kI K a10 6 ((fun _ => 0)), kI K a11 6 ((fun _ => 0)), kI K a12 6 ((fun _ => 0)), kZ K a13 6 ((fun _ => 0)), kI K a14 6 ((fun _ => 0)), kI K a15 6 ((fun _ => 0)), kI K a16 6 ((fun _ => 0)), kI K a17 6 ((fun _ => 0)), kI K a18 6 ((fun _ => 0)), kI K a19 6 ((fun _ => 0)), kI K a20 6 ((fun _ => 0)), kI K a21 96 ((fun _ => 0))] from rfl) ?_
  refine k_putF hC hnm inlX4 tyX4_ok nmX4 0 21 rfl rfl (by decide) lkF_X4_47 rfl rfl rfl rfl (Nat.le_of_ble_eq_true rfl) dX4_init_105 [kO y 4 [.int (nI 0), .int (nI 0), .int (nI 0), .int (nI 0), .int (nI 0), .int (nI 0), .int (nI 0), .int (nI 0), .int (nI 0), .ref a9, .ref a10, .ref a11, .ref a12, .ref a13, .ref a14, .ref a15, .ref a16, .ref a17, .ref a18, .ref a19, .ref a20, .ref a21, .null, .null, .null, .null, .null, .null, .null, .null], kI K a9 6 ((fun _ => 0)), kI K a10 6 ((fun _ => 0)), kI K a11 6 ((fun _ => 0)), kI K a12 6 ((fun _ => 0)), kZ K a13 6 ((fun _ => 0)), kI K a14 6 ((fun _ => 0)), kI K a15 6 ((fun _ => 0)), kI K a16 6 ((fun _ => 0)), kI K a17 6 ((fun _ => 0)), kI K a18 6 ((fun _ => 0)), kI K a19 6 ((fun _ => 0)), kI K a20 6 ((fun _ => 0)), kI K a21 96 ((fun _ => 0))] rfl ?_
  refine k_aload_n hC 0 dX4_init_108 rfl rfl ?_
  refine k_bipush hC (nI 96) dX4_init_109 rfl ?_
  refine k_newI hC 96 rfl (by decide) (Nat.le_of_ble_eq_true rfl) (Nat.le_of_ble_eq_true rfl) lkA_int dX4_init_111 (fun a22 => ?_)
  refine k_eX (show _ = [kO y 4 [.int (nI 0), .int (nI 0), .int (nI 0), .int (nI 0), .int (nI 0), .int (nI 0), .int (nI 0), .int (nI 0), .int (nI 0), .ref a9, .ref a10, .ref a11, .ref a12, .ref a13, .ref a14, .ref a15, .ref a16, .ref a17, .ref a18, .ref a19, .ref a20, .ref a21, .null, .null, .null, .null, .null, .null, .null, .null], kI K a9 6 ((fun _ => 0)), kI K a10 6 ((fun _ => 0)), kI K a11 6 ((fun _ => 0)), kI K a12 6 ((fun _ => 0)), kZ K a13 6 ((fun _ => 0)), kI K a14 6 ((fun _ => 0)), kI K a15 6 ((fun _ => 0)), kI K a16 6 ((fun _ => 0)), kI K a17 6 ((fun _ => 0)), kI K a18 6 ((fun _ => 0)), kI K a19 6 ((fun _ => 0)), kI K a20 6 ((fun _ => 0)), kI K a21 96 ((fun _ => 0)), kI K a22 96 ((fun _ => 0))] from rfl) ?_
  refine k_putF hC hnm inlX4 tyX4_ok nmX4 0 22 rfl rfl (by decide) lkF_X4_50 rfl rfl rfl rfl (Nat.le_of_ble_eq_true rfl) dX4_init_113 [kO y 4 [.int (nI 0), .int (nI 0), .int (nI 0), .int (nI 0), .int (nI 0), .int (nI 0), .int (nI 0), .int (nI 0), .int (nI 0), .ref a9, .ref a10, .ref a11, .ref a12, .ref a13, .ref a14, .ref a15, .ref a16, .ref a17, .ref a18, .ref a19, .ref a20, .ref a21, .ref a22, .null, .null, .null, .null, .null, .null, .null], kI K a9 6 ((fun _ => 0)), kI K a10 6 ((fun _ => 0)), kI K a11 6 ((fun _ => 0)), kI K a12 6 ((fun _ => 0)), kZ K a13 6 ((fun _ => 0)), kI K a14 6 ((fun _ => 0)), kI K a15 6 ((fun _ => 0)), kI K a16 6 ((fun _ => 0)), kI K a17 6 ((fun _ => 0)), kI K a18 6 ((fun _ => 0)), kI K a19 6 ((fun _ => 0)), kI K a20 6 ((fun _ => 0)), kI K a21 96 ((fun _ => 0)), kI K a22 96 ((fun _ => 0))] rfl ?_
  refine k_aload_n hC 0 dX4_init_116 rfl rfl ?_
  refine k_bipush hC (nI 6) dX4_init_117 rfl ?_
  refine k_newI hC 6 rfl (by decide) (Nat.le_of_ble_eq_true rfl) (Nat.le_of_ble_eq_true rfl) lkA_int dX4_init_119 (fun a23 => ?_)
  refine k_eX (show _ = [kO y 4 [.int (nI 0), .int (nI 0), .int (nI 0), .int (nI 0), .int (nI 0), .int (nI 0), .int (nI 0), .int (nI 0), .int (nI 0), .ref a9, .ref a10, .ref a11, .ref a12, .ref a13, .ref a14, .ref a15, .ref a16, .ref a17, .ref a18, .ref a19, .ref a20, .ref a21, .ref a22, .null, .null, .null, .null, .null, .null, .null], kI K a9 6 ((fun _ => 0)), kI K a10 6 ((fun _ => 0)), kI K a11 6 ((fun _ => 0)), kI K a12 6 ((fun _ => 0)), kZ K a13 6 ((fun _ => 0)), kI K a14 6 ((fun _ => 0)), kI K a15 6 ((fun _ => 0)), kI K a16 6 ((fun _ => 0)), kI K a17 6 ((fun _ => 0)), kI K a18 6 ((fun _ => 0)), kI K a19 6 ((fun _ => 0)), kI K a20 6 ((fun _ => 0)), kI K a21 96 ((fun _ => 0)), kI K a22 96 ((fun _ => 0)), kI K a23 6 ((fun _ => 0))] from rfl) ?_
  refine k_putF hC hnm inlX4 tyX4_ok nmX4 0 23 rfl rfl (by decide) lkF_X4_53 rfl rfl rfl rfl (Nat.le_of_ble_eq_true rfl) dX4_init_121 [kO y 4 [.int (nI 0), .int (nI 0), .int (nI 0), .int (nI 0), .int (nI 0), .int (nI 0), .int (nI 0), .int (nI 0), .int (nI 0), .ref a9, .ref a10, .ref a11, .ref a12, .ref a13, .ref a14, .ref a15, .ref a16, .ref a17, .ref a18, .ref a19, .ref a20, .ref a21, .ref a22, .ref a23, .null, .null, .null, .null, .null, .null], kI K a9 6 ((fun _ => 0)), kI K a10 6 ((fun _ => 0)), kI K a11 6 ((fun _ => 0)), kI K a12 6 ((fun _ => 0)), kZ K a13 6 ((fun _ => 0)), kI K a14 6 ((fun _ => 0)), kI K a15 6 ((fun _ => 0)), kI K a16 6 ((fun _ => 0)), kI K a17 6 ((fun _ => 0)), kI K a18 6 ((fun _ => 0)), kI K a19 6 ((fun _ => 0)), kI K a20 6 ((fun _ => 0)), kI K a21 96 ((fun _ => 0)), kI K a22 96 ((fun _ => 0)), kI K a23 6 ((fun _ => 0))] rfl ?_
  refine k_aload_n hC 0 dX4_init_124 rfl rfl ?_
  refine k_bipush hC (nI 96) dX4_init_125 rfl ?_
  refine k_newI hC 96 rfl (by decide) (Nat.le_of_ble_eq_true rfl) (Nat.le_of_ble_eq_true rfl) lkA_int dX4_init_127 (fun a24 => ?_)
  refine k_eX (show _ = [kO y 4 [.int (nI 0), .int (nI 0), .int (nI 0), .int (nI 0), .int (nI 0), .int (nI 0), .int (nI 0), .int (nI 0), .int (nI 0), .ref a9, .ref a10, .ref a11, .ref a12, .ref a13, .ref a14, .ref a15, .ref a16, .ref a17, .ref a18, .ref a19, .ref a20, .ref a21, .ref a22, .ref a23, .null, .null, .null, .null, .null, .null], kI K a9 6 ((fun _ => 0)), kI K a10 6 ((fun _ => 0)), kI K a11 6 ((fun _ => 0)), kI K a12 6 ((fun _ => 0)), kZ K a13 6 ((fun _ => 0)), kI K a14 6 ((fun _ => 0)), kI K a15 6 ((fun _ => 0)), kI K a16 6 ((fun _ => 0)), kI K a17 6 ((fun _ => 0)), kI K a18 6 ((fun _ => 0)), kI K a19 6 ((fun _ => 0)), kI K a20 6 ((fun _ => 0)), kI K a21 96 ((fun _ => 0)), kI K a22 96 ((fun _ => 0)), kI K a23 6 ((fun _ => 0)), kI K a24 96 ((fun _ => 0))] from rfl) ?_
  refine k_putF hC hnm inlX4 tyX4_ok nmX4 0 24 rfl rfl (by decide) lkF_X4_56 rfl rfl rfl rfl (Nat.le_of_ble_eq_true rfl) dX4_init_129 [kO y 4 [.int (nI 0), .int (nI 0), .int (nI 0), .int (nI 0), .int (nI 0), .int (nI 0), .int (nI 0), .int (nI 0), .int (nI 0), .ref a9, .ref a10, .ref a11, .ref a12, .ref a13, .ref a14, .ref a15, .ref a16, .ref a17, .ref a18, .ref a19, .ref a20, .ref a21, .ref a22, .ref a23, .ref a24, .null, .null, .null, .null, .null], kI K a9 6 ((fun _ => 0)), kI K a10 6 ((fun _ => 0)), kI K a11 6 ((fun _ => 0)), kI K a12 6 ((fun _ => 0)), kZ K a13 6 ((fun _ => 0)), kI K a14 6 ((fun _ => 0)), kI K a15 6 ((fun _ => 0)), kI K a16 6 ((fun _ => 0)), kI K a17 6 ((fun _ => 0)), kI K a18 6 ((fun _ => 0)), kI K a19 6 ((fun _ => 0)), kI K a20 6 ((fun _ => 0)), kI K a21 96 ((fun _ => 0)), kI K a22 96 ((fun _ => 0)), kI K a23 6 ((fun _ => 0)), kI K a24 96 ((fun _ => 0))] rfl ?_
  refine k_aload_n hC 0 dX4_init_132 rfl rfl ?_
  refine k_bipush hC (nI 96) dX4_init_133 rfl ?_
  refine k_newI hC 96 rfl (by decide) (Nat.le_of_ble_eq_true rfl) (Nat.le_of_ble_eq_true rfl) lkA_int dX4_init_135 (fun a25 => ?_)
  refine k_eX (show _ = [kO y 4 [.int (nI 0), .int (nI 0), .int (nI 0), .int (nI 0), .int (nI 0), .int (nI 0), .int (nI 0), .int (nI 0), .int (nI 0), .ref a9, .ref a10, .ref a11, .ref a12, .ref a13, .ref a14, .ref a15, .ref a16, .ref a17, .ref a18, .ref a19, .ref a20, .ref a21, .ref a22, .ref a23, .ref a24, .null, .null, .null, .null, .null], kI K a9 6 ((fun _ => 0)), kI K a10 6 ((fun _ => 0)), kI K a11 6 ((fun _ => 0)), kI K a12 6 ((fun _ => 0)), kZ K a13 6 ((fun _ => 0)), kI K a14 6 ((fun _ => 0)), kI K a15 6 ((fun _ => 0)), kI K a16 6 ((fun _ => 0)), kI K a17 6 ((fun _ => 0)), kI K a18 6 ((fun _ => 0)), kI K a19 6 ((fun _ => 0)), kI K a20 6 ((fun _ => 0)), kI K a21 96 ((fun _ => 0)), kI K a22 96 ((fun _ => 0)), kI K a23 6 ((fun _ => 0)), kI K a24 96 ((fun _ => 0)), kI K a25 96 ((fun _ => 0))] from rfl) ?_
  refine k_putF hC hnm inlX4 tyX4_ok nmX4 0 25 rfl rfl (by decide) lkF_X4_59 rfl rfl rfl rfl (Nat.le_of_ble_eq_true rfl) dX4_init_137 [kO y 4 [.int (nI 0), .int (nI 0), .int (nI 0), .int (nI 0), .int (nI 0), .int (nI 0), .int (nI 0), .int (nI 0), .int (nI 0), .ref a9, .ref a10, .ref a11, .ref a12, .ref a13, .ref a14, .ref a15, .ref a16, .ref a17, .ref a18, .ref a19, .ref a20, .ref a21, .ref a22, .ref a23, .ref a24, .ref a25, .null, .null, .null, .null], kI K a9 6 ((fun _ => 0)), kI K a10 6 ((fun _ => 0)), kI K a11 6 ((fun _ => 0)), kI K a12 6 ((fun _ => 0)), kZ K a13 6 ((fun _ => 0)), kI K a14 6 ((fun _ => 0)), kI K a15 6 ((fun _ => 0)), kI K a16 6 ((fun _ => 0)), kI K a17 6 ((fun _ => 0)), kI K a18 6 ((fun _ => 0)), kI K a19 6 ((fun _ => 0)), kI K a20 6 ((fun _ => 0)), kI K a21 96 ((fun _ => 0)), kI K a22 96 ((fun _ => 0)), kI K a23 6 ((fun _ => 0)), kI K a24 96 ((fun _ => 0)), kI K a25 96 ((fun _ => 0))] rfl ?_
  refine k_aload_n hC 0 dX4_init_140 rfl rfl ?_
  refine k_bipush hC (nI 6) dX4_init_141 rfl ?_
  refine k_newI hC 6 rfl (by decide) (Nat.le_of_ble_eq_true rfl) (Nat.le_of_ble_eq_true rfl) lkA_int dX4_init_143 (fun a26 => ?_)
  refine k_eX (show _ = [kO y 4 [.int (nI 0), .int (nI 0), .int (nI 0), .int (nI 0), .int (nI 0), .int (nI 0), .int (nI 0), .int (nI 0), .int (nI 0), .ref a9, .ref a10, .ref a11, .ref a12, .ref a13, .ref a14, .ref a15, .ref a16, .ref a17, .ref a18, .ref a19, .ref a20, .ref a21, .ref a22, .ref a23, .ref a24, .ref a25, .null, .null, .null, .null], kI K a9 6 ((fun _ => 0)), kI K a10 6 ((fun _ => 0)), kI K a11 6 ((fun _ => 0)), kI K a12 6 ((fun _ => 0)), kZ K a13 6 ((fun _ => 0)), kI K a14 6 ((fun _ => 0)), kI K a15 6 ((fun _ => 0)), kI K a16 6 ((fun _ => 0)), kI K a17 6 ((fun _ => 0)), kI K a18 6 ((fun _ => 0)), kI K a19 6 ((fun _ => 0)), kI K a20 6 ((fun _ => 0)), kI K a21 96 ((fun _ => 0)), kI K a22 96 ((fun _ => 0)), kI K a23 6 ((fun _ => 0)), kI K a24 96 ((fun _ => 0)), kI K a25 96 ((fun _ => 0)), kI K a26 6 ((fun _ => 0))] from rfl) ?_
  refine k_putF hC hnm inlX4 tyX4_ok nmX4 0 26 rfl rfl (by decide) lkF_X4_62 rfl rfl rfl rfl (Nat.le_of_ble_eq_true rfl) dX4_init_145 [kO y 4 [.int (nI 0), .int (nI 0), .int (nI 0), .int (nI 0), .int (nI 0), .int (nI 0), .int (nI 0), .int (nI 0), .int (nI 0), .ref a9, .ref a10, .ref a11, .ref a12, .ref a13, .ref a14, .ref a15, .ref a16, .ref a17, .ref a18, .ref a19, .ref a20, .ref a21, .ref a22, .ref a23, .ref a24, .ref a25, .ref a26, .null, .null, .null], kI K a9 6 ((fun _ => 0)), kI K a10 6 ((fun _ => 0)), kI K a11 6 ((fun _ => 0)), kI K a12 6 ((fun _ => 0)), kZ K a13 6 ((fun _ => 0)), kI K a14 6 ((fun _ => 0)), kI K a15 6 ((fun _ => 0)), kI K a16 6 ((fun _ => 0)), kI K a17 6 ((fun _ => 0)), kI K a18 6 ((fun _ => 0)), kI K a19 6 ((fun _ => 0)), kI K a20 6 ((fun _ => 0)), kI K a21 96 ((fun _ => 0)), kI K a22 96 ((fun _ => 0)), kI K a23 6 ((fun _ => 0)), kI K a24 96 ((fun _ => 0)), kI K a25 96 ((fun _ => 0)), kI K a26 6 ((fun _ => 0))] rfl ?_
  refine k_aload_n hC 0 dX4_init_148 rfl rfl ?_
  refine k_bipush hC (nI 96) dX4_init_149 rfl ?_
  refine k_newI hC 96 rfl (by decide) (Nat.le_of_ble_eq_true rfl) (Nat.le_of_ble_eq_true rfl) lkA_int dX4_init_151 (fun a27 => ?_)
  refine k_eX (show _ = [kO y 4 [.int (nI 0), .int (nI 0), .int (nI 0), .int (nI 0), .int (nI 0), .int (nI 0), .int (nI 0), .int (nI 0), .int (nI 0), .ref a9, .ref a10, .ref a11, .ref a12, .ref a13, .ref a14, .ref a15, .ref a16, .ref a17, .ref a18, .ref a19, .ref a20, .ref a21, .ref a22, .ref a23, .ref a24, .ref a25, .ref a26, .null, .null, .null], kI K a9 6 ((fun _ => 0)), kI K a10 6 ((fun _ => 0)), kI K a11 6 ((fun _ => 0)), kI K a12 6 ((fun _ => 0)), kZ K a13 6 ((fun _ => 0)), kI K a14 6 ((fun _ => 0)), kI K a15 6 ((fun _ => 0)), kI K a16 6 ((fun _ => 0)), kI K a17 6 ((fun _ => 0)), kI K a18 6 ((fun _ => 0)), kI K a19 6 ((fun _ => 0)), kI K a20 6 ((fun _ => 0)), kI K a21 96 ((fun _ => 0)), kI K a22 96 ((fun _ => 0)), kI K a23 6 ((fun _ => 0)), kI K a24 96 ((fun _ => 0)), kI K a25 96 ((fun _ => 0)), kI K a26 6 ((fun _ => 0)), kI K a27 96 ((fun _ => 0))] from rfl) ?_
  refine k_putF hC hnm inlX4 tyX4_ok nmX4 0 27 rfl rfl (by decide) lkF_X4_65 rfl rfl rfl rfl (Nat.le_of_ble_eq_true rfl) dX4_init_153 [kO y 4 [.int (nI 0), .int (nI 0), .int (nI 0), .int (nI 0), .int (nI 0), .int (nI 0), .int (nI 0), .int (nI 0), .int (nI 0), .ref a9, .ref a10, .ref a11, .ref a12, .ref a13, .ref a14, .ref a15, .ref a16, .ref a17, .ref a18, .ref a19, .ref a20, .ref a21, .ref a22, .ref a23, .ref a24, .ref a25, .ref a26, .ref a27, .null, .null], kI K a9 6 ((fun _ => 0)), kI K a10 6 ((fun _ => 0)), kI K a11 6 ((fun _ => 0)), kI K a12 6 ((fun _ => 0)), kZ K a13 6 ((fun _ => 0)), kI K a14 6 ((fun _ => 0)), kI K a15 6 ((fun _ => 0)), kI K a16 6 ((fun _ => 0)), kI K a17 6 ((fun _ => 0)), kI K a18 6 ((fun _ => 0)), kI K a19 6 ((fun _ => 0)), kI K a20 6 ((fun _ => 0)), kI K a21 96 ((fun _ => 0)), kI K a22 96 ((fun _ => 0)), kI K a23 6 ((fun _ => 0)), kI K a24 96 ((fun _ => 0)), kI K a25 96 ((fun _ => 0)), kI K a26 6 ((fun _ => 0)), kI K a27 96 ((fun _ => 0))] rfl ?_
  refine k_aload_n hC 0 dX4_init_156 rfl rfl ?_
  refine k_bipush hC (nI 96) dX4_init_157 rfl ?_
  refine k_newI hC 96 rfl (by decide) (Nat.le_of_ble_eq_true rfl) (Nat.le_of_ble_eq_true rfl) lkA_int dX4_init_159 (fun a28 => ?_)
  refine k_eX (show _ = [kO y 4 [.int (nI 0), .int (nI 0), .int (nI 0), .int (nI 0), .int (nI 0), .int (nI 0), .int (nI 0), .int (nI 0), .int (nI 0), .ref a9, .ref a10, .ref a11, .ref a12, .ref a13, .ref a14, .ref a15, .ref a16, .ref a17, .ref a18, .ref a19, .ref a20, .ref a21, .ref a22, .ref a23, .ref a24, .ref a25, .ref a26, .ref a27, .null, .null], kI K a9 6 ((fun _ => 0)), kI K a10 6 ((fun _ => 0)), kI K a11 6 ((fun _ => 0)), kI K a12 6 ((fun _ => 0)), kZ K a13 6 ((fun _ => 0)), kI K a14 6 ((fun _ => 0)), kI K a15 6 ((fun _ => 0)), kI K a16 6 ((fun _ => 0)), kI K a17 6 ((fun _ => 0)), kI K a18 6 ((fun _ => 0)), kI K a19 6 ((fun _ => 0)), kI K a20 6 ((fun _ => 0)), kI K a21 96 ((fun _ => 0)), kI K a22 96 ((fun _ => 0)), kI K a23 6 ((fun _ => 0)), kI K a24 96 ((fun _ => 0)), kI K a25 96 ((fun _ => 0)), kI K a26 6 ((fun _ => 0)), kI K a27 96 ((fun _ => 0)), kI K a28 96 ((fun _ => 0))] from rfl) ?_
  refine k_putF hC hnm inlX4 tyX4_ok nmX4 0 28 rfl rfl (by decide) lkF_X4_68 rfl rfl rfl rfl (Nat.le_of_ble_eq_true rfl) dX4_init_161 [kO y 4 [.int (nI 0), .int (nI 0), .int (nI 0), .int (nI 0), .int (nI 0), .int (nI 0), .int (nI 0), .int (nI 0), .int (nI 0), .ref a9, .ref a10, .ref a11, .ref a12, .ref a13, .ref a14, .ref a15, .ref a16, .ref a17, .ref a18, .ref a19, .ref a20, .ref a21, .ref a22, .ref a23, .ref a24, .ref a25, .ref a26, .ref a27, .ref a28, .null], kI K a9 6 ((fun _ => 0)), kI K a10 6 ((fun _ => 0)), kI K a11 6 ((fun _ => 0)), kI K a12 6 ((fun _ => 0)), kZ K a13 6 ((fun _ => 0)), kI K a14 6 ((fun _ => 0)), kI K a15 6 ((fun _ => 0)), kI K a16 6 ((fun _ => 0)), kI K a17 6 ((fun _ => 0)), kI K a18 6 ((fun _ => 0)), kI K a19 6 ((fun _ => 0)), kI K a20 6 ((fun _ => 0)), kI K a21 96 ((fun _ => 0)), kI K a22 96 ((fun _ => 0)), kI K a23 6 ((fun _ => 0)), kI K a24 96 ((fun _ => 0)), kI K a25 96 ((fun _ => 0)), kI K a26 6 ((fun _ => 0)), kI K a27 96 ((fun _ => 0)), kI K a28 96 ((fun _ => 0))] rfl ?_
  refine k_aload_n hC 0 dX4_init_164 rfl rfl ?_
  refine k_bipush hC (nI 6) dX4_init_165 rfl ?_
  refine k_newI hC 6 rfl (by decide) (Nat.le_of_ble_eq_true rfl) (Nat.le_of_ble_eq_true rfl) lkA_int dX4_init_167 (fun a29 => ?_)
  refine k_eX (show _ = [kO y 4 [.int (nI 0), .int (nI 0), .int (nI 0), .int (nI 0), .int (nI 0), .int (nI 0), .int (nI 0), .int (nI 0), .int (nI 0), .ref a9, .ref a10, .ref a11, .ref a12, .ref a13, .ref a14, .ref a15, .ref a16, .ref a17, .ref a18, .ref a19, .ref a20, .ref a21, .ref a22, .ref a23, .ref a24, .ref a25, .ref a26, .ref a27, .ref a28, .null], kI K a9 6 ((fun _ => 0)), kI K a10 6 ((fun _ => 0)), kI K a11 6 ((fun _ => 0)), kI K a12 6 ((fun _ => 0)), kZ K a13 6 ((fun _ => 0)), kI K a14 6 ((fun _ => 0)), kI K a15 6 ((fun _ => 0)), kI K a16 6 ((fun _ => 0)), kI K a17 6 ((fun _ => 0)), kI K a18 6 ((fun _ => 0)), kI K a19 6 ((fun _ => 0)), kI K a20 6 ((fun _ => 0)), kI K a21 96 ((fun _ => 0)), kI K a22 96 ((fun _ => 0)), kI K a23 6 ((fun _ => 0)), kI K a24 96 ((fun _ => 0)), kI K a25 96 ((fun _ => 0)), kI K a26 6 ((fun _ => 0)), kI K a27 96 ((fun _ => 0)), kI K a28 96 ((fun _ => 0)), kI K a29 6 ((fun _ => 0))] from rfl) ?_
  refine k_putF hC hnm inlX4 tyX4_ok nmX4 0 29 rfl rfl (by decide) lkF_X4_71 rfl rfl rfl rfl (Nat.le_of_ble_eq_true rfl) dX4_init_169 [kO y 4 [.int (nI 0), .int (nI 0), .int (nI 0), .int (nI 0), .int (nI 0), .int (nI 0), .int (nI 0), .int (nI 0), .int (nI 0), .ref a9, .ref a10, .ref a11, .ref a12, .ref a13, .ref a14, .ref a15, .ref a16, .ref a17, .ref a18, .ref a19, .ref a20, .ref a21, .ref a22, .ref a23, .ref a24, .ref a25, .ref a26, .ref a27, .ref a28, .ref a29], kI K a9 6 ((fun _ => 0)), kI K a10 6 ((fun _ => 0)), kI K a11 6 ((fun _ => 0)), kI K a12 6 ((fun _ => 0)), kZ K a13 6 ((fun _ => 0)), kI K a14 6 ((fun _ => 0)), kI K a15 6 ((fun _ => 0)), kI K a16 6 ((fun _ => 0)), kI K a17 6 ((fun _ => 0)), kI K a18 6 ((fun _ => 0)), kI K a19 6 ((fun _ => 0)), kI K a20 6 ((fun _ => 0)), kI K a21 96 ((fun _ => 0)), kI K a22 96 ((fun _ => 0)), kI K a23 6 ((fun _ => 0)), kI K a24 96 ((fun _ => 0)), kI K a25 96 ((fun _ => 0)), kI K a26 6 ((fun _ => 0)), kI K a27 96 ((fun _ => 0)), kI K a28 96 ((fun _ => 0)), kI K a29 6 ((fun _ => 0))] rfl ?_
  exact k_vret hC hE (Nat.le_of_ble_eq_true rfl) (Nat.le_of_ble_eq_true rfl) dX4_init_172 ⟨rfl, (fun j => match j with | 9 => a9 | 10 => a10 | 11 => a11 | 12 => a12 | 13 => a13 | 14 => a14 | 15 => a15 | 16 => a16 | 17 => a17 | 18 => a18 | 19 => a19 | 20 => a20 | 21 => a21 | 22 => a22 | 23 => a23 | 24 => a24 | 25 => a25 | 26 => a26 | 27 => a27 | 28 => a28 | 29 => a29 | _ => 0), rfl⟩
theorem mRep_0' : mRep mS0 (fun _ => nI 0) (fun _ _ => 0) := by
  refine ⟨rfl, rfl, fun j _ _ => rfl, rfl, fun k hk => absurd hk (Nat.not_lt_zero k), fun k _ _ => ?_⟩
  rw [nI_0]
  exact ⟨rfl, rfl, rfl, rfl, rfl, rfl, rfl, rfl⟩
theorem mSok_0 : mSok mS0 := ⟨Nat.zero_le 6, fun k hk => absurd hk (Nat.not_lt_zero k)⟩
theorem mURT_0 : mURT mS0 (fun _ _ _ => 0) := fun k hk => absurd hk (Nat.not_lt_zero k)
