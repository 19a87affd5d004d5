/-! the reference: steps -/
def mZero (n : Nat) (G : Nat → Nat → Int32) : Prop := ∀ k : Nat, n ≤ k → k < 6 → G 13 k = nI 0 ∧ G 15 k = nI 0 ∧ G 16 k = nI 0 ∧ G 17 k = nI 0 ∧ G 18 k = nI 0 ∧ G 23 k = nI 0 ∧ G 26 k = nI 0 ∧ G 29 k = nI 0
theorem mZero_ag {n : Nat} {G G' : Nat → Nat → Int32} (h : mZero n G) (ha : ∀ j : Nat, n ≤ j → mAg j G G') : mZero n G' := by
  intro k h1 h2
  obtain ⟨z1, z2, z3, z4, z5, z6, z7, z8⟩ := h k h1 h2
  obtain ⟨a9, a10, a11, a12, a13, a14, a15, a16, a17, a18, a19, a20, a21, a22, a23, a24, a25, a26, a27, a28, a29⟩ := ha k h1
  exact ⟨a13.trans z1, a15.trans z2, a16.trans z3, a17.trans z4, a18.trans z5, a23.trans z6, a26.trans z7, a29.trans z8⟩
theorem mSumZ_up {F F' : Nat → Int32} {n k : Nat} {d : Int32} (hk : k < n) (h1 : F' k = F k + d) (h2 : ∀ j : Nat, j ≠ k → F' j = F j) : mSumZ F' n = mSumZ F n + d := by
  induction n with
  | zero => exact absurd hk (Nat.not_lt_zero k)
  | succ n ih =>
    show mSumZ F' n + F' n = mSumZ F n + F n + d
    by_cases e : k = n
    · subst e
      have h3 : mSumZ F' k = mSumZ F k := by
        clear ih hk
        have h4 : ∀ m : Nat, m ≤ k → mSumZ F' m = mSumZ F m := by
          intro m
          induction m with
          | zero => intro _; rfl
          | succ m ihm => intro hm; show mSumZ F' m + F' m = mSumZ F m + F m; rw [ihm (by omega), h2 m (by omega)]
        exact h4 k (Nat.le_refl k)
      rw [h3, h1, Int32.add_assoc]
    · rw [ih (by omega), h2 n (fun q => e q.symm), Int32.add_assoc, Int32.add_comm d, ← Int32.add_assoc]
theorem mSumZ_eq {F F' : Nat → Int32} {n : Nat} (h : ∀ j : Nat, F' j = F j) : mSumZ F' n = mSumZ F n := by rw [show F' = F from funext h]
theorem va_up_id {α : Type} (f : Nat → α) (k : Nat) : va_up f k (f k) = f := by
  funext j
  by_cases h : j = k
  · subst h; exact va_up_self _ _ _
  · exact va_up_ne _ _ h
theorem mFetch_z (n : Nat) (τ α : mT) : (mFetch n τ α).1.2.1 = τ.2.1 ∧ (mFetch n τ α).2.2.1 = α.2.1 := by
  induction n generalizing τ α with
  | zero => exact ⟨rfl, rfl⟩
  | succ n ih =>
    unfold mFetch
    split
    · exact ⟨rfl, rfl⟩
    · next x t e => exact ih (mGet τ x) (mGive α x t)
theorem mConvey_z (τ α : mT) : (mConvey τ α).1.2.1 = τ.2.1 ∧ (mConvey τ α).2.2.1 = α.2.1 := mFetch_z _ (mBring τ) α
theorem mGot_le (σ : mS) (hm : mU ((σ.2.2.2 (σ.1 - 1)).2.2 0) < 2 ^ 31) : mIx (mGot σ) ≤ mU ((σ.2.2.2 (σ.1 - 1)).2.2 0) := by
  unfold mGot
  split
  · rw [mIx_nI hm]; exact Nat.le_refl _
  · next h =>
    generalize σ.2.2.1 3 + σ.2.2.1 6 = w at h ⊢
    rcases mIx_or w with ⟨h1, h2⟩ | ⟨h1, h2⟩
    · refine Nat.not_lt.mp (fun q => h ?_)
      rw [h1]
      exact (nI_ltI hm h2).mpr q
    · omega
section KLE
variable {p : Program} {l : Launch} {e : Env} {R : Room} {s : State} {m : MethodId} {args : Array Value} {below : List Frame} {meth : Method} {c : Code} {K : kE} {A : Nat → Prop} {nL : Nat} {Q : State → Prop} {k n : Nat} {pl X : va_W} {lv : List (Nat × Value)} {pc : Nat} {st : List Value}
theorem k_lE {lv2 : List (Nat × Value)} (h : lv = lv2) (kk : kW p l e R s m args below meth c K A nL Q k n pl X lv2 pc st) : kW p l e R s m args below meth c K A nL Q k n pl X lv pc st := h ▸ kk
end KLE
def mPo (K : kE) (y : Nat) (b : Nat → Nat) (o : mO) : Option Value → va_W → Prop := fun v w => ∃ (S1 : Nat → Int32) (G1 : Nat → Nat → Int32) (b9 : Int32), v = some (.int b9) ∧ w = wM K y b S1 G1 ∧ S1 0 = nI o.1 ∧ (o.1 = 0 → b9 = o.2.1) ∧ mRep o.2.2 S1 G1
theorem mRep_0 {σ : mS} {S : Nat → Int32} {G : Nat → Nat → Int32} (h : mRep σ S G) (v : Int32) : mRep σ (va_up S 0 v) G := by
  obtain ⟨h1, h2, h3, h4, h5, h6⟩ := h
  exact ⟨h1, h2, fun j a c => by rw [va_up_ne _ _ (by omega)]; exact h3 j a c, h4, h5, h6⟩
abbrev rmX4_step : Room := { frames := 2, cells := 0, slots := 0, locals := 47 }
set_option maxRecDepth 100000 in
set_option maxHeartbeats 4000000 in
theorem cX4_step_k (l : Launch) (K : kE) (y : Nat) (b : Nat → Nat) (S : Nat → Int32) (G : Nat → Nat → Int32) (σ : mS) (hσ : mSok σ) (hR : mRep σ S G) (v9 : Int32) : kM l yX4_step (kws yX4_step cX4_step 8 (some .int)) rmX4_step K [.ref y, .int v9] (wM K y b S G) (mPo K y b (oStep σ v9)) := by
  refine kM_of (pl := []) (X := (wM K y b S G)) rfl (by decide) (Nat.le_of_ble_eq_true rfl) ?_
  intro p e s m args below meth cd A Q hC hnm hE
  have hn6 := hσ.1
  refine k_aload_n hC 0 dX4_step_0 rfl rfl ?_
  refine k_iload_n hC 1 dX4_step_1 rfl rfl ?_
  refine k_iconst hC (nI 1) dX4_step_2 rfl ?_
  refine k_bipush hC (nI 50) dX4_step_3 rfl ?_
  refine k_callS hC (As := [.int v9, .int (nI 1), .int (nI 50)]) (cX4_isIn_k l K v9 (nI 1) (nI 50)) (wM K y b S G) rfl (kAll4 lkM_X4_81 lkT_yX4_isIn lkN_X4 lkC_yX4_isIn) 3 (by decide) ⟨(Nat.le_of_ble_eq_true rfl), (Nat.le_of_ble_eq_true rfl)⟩ rfl rfl (Nat.le_of_ble_eq_true rfl) ⟨(Nat.le_of_ble_eq_true rfl), (Nat.le_of_ble_eq_true rfl)⟩ dX4_step_5 (fun v w h => ?_)
  obtain ⟨rfl, rfl⟩ := h
  refine k_re 0 0 (wM K y b S G) [.int (nI ((if nI 1 ≤ v9 ∧ v9 ≤ nI 50 then 1 else 0))), .ref y] rfl rfl rfl rfl ?_
  by_cases hv : mIn v9 1 50
  · rw [if_pos hv]
    obtain ⟨j9, hj1, hj2, rfl⟩ := mIn_ex (by decide) (by decide) hv
    have hj31 : j9 < 2 ^ 31 := by omega
    refine k_if_neN hC 15 dX4_step_8 (by decide) (by omega) (fun c1 => ?_) (fun c1 => ?_)
    · refine k_aload_n hC 0 dX4_step_15 rfl rfl ?_
      refine k_get hC inlX4 0 1 rfl rfl (by decide) lkF_X4_78 rfl dX4_step_16 ?_
      refine k_topE (nI σ.1) hR.1 ?_
      refine k_if_neN hC 26 dX4_step_19 (by decide) (by omega) (fun c2 => ?_) (fun c2 => ?_)
      · refine k_iconst hC (nI 0) dX4_step_26 rfl ?_
        refine k_put hC inlX4 tyX4_ok nmX4 0 0 rfl rfl (by decide) lkF_X4_74 rfl rfl rfl (Nat.le_of_ble_eq_true rfl) dX4_step_27 (wM K y b (va_up S 0 (nI 0)) G) rfl ?_
        refine k_aload_n hC 0 dX4_step_30 rfl rfl ?_
        refine k_get hC inlX4 0 5 rfl rfl (by decide) lkF_X4_117 rfl dX4_step_31 ?_
        refine k_istore_n hC 2 dX4_step_34 rfl (by decide) rfl [(0, .ref y), (1, .int (nI j9)), (2, .int (S 5))] rfl ?_
        refine k_iconst hC (nI 0) dX4_step_35 rfl ?_
        refine k_istore_n hC 3 dX4_step_36 rfl (by decide) rfl [(0, .ref y), (1, .int (nI j9)), (2, .int (S 5)), (3, .int (nI 0))] rfl ?_
        have hos : oStep σ (nI j9) = (0, (mSteps j9 σ).2.2.1 5 - σ.2.2.1 5, mSteps j9 σ) := by simp only [oStep, if_pos hv, if_neg c2, mIx_nI hj31]
        have h25 := hR.2.2.1 5 (by decide) (by decide)
        obtain ⟨m9, hz⟩ : ∃ m9, σ.1 = m9 + 1 := ⟨σ.1 - 1, by omega⟩
        have loop : ∀ (n i : Nat) (σ8 : mS) (S8 : Nat → Int32) (G8 : Nat → Nat → Int32), n + i = j9 → mSteps n σ8 = mSteps j9 σ → mSok σ8 → mRep σ8 S8 G8 → σ8.1 = m9 + 1 → S8 0 = nI 0 → kW p l e rmX4_step s m args below meth cd K A 8 Q 0 0 ([]) (wM K y b S8 G8) [(0, .ref y), (1, .int (nI j9)), (2, .int (S 5)), (3, .int (nI i))] 37 [] := by
          intro n
          induction n with
          | zero =>
            intro i σ8 S8 G8 h1 h2 h3 h4 h5 h6
            refine k_iload_n hC 3 dX4_step_37 rfl rfl ?_
            refine k_iload_n hC 1 dX4_step_38 rfl rfl ?_
            refine k_icmp_geN hC 211 dX4_step_39 (by decide) (by omega) (by omega) (fun c5 => ?_) (fun c5 => ?_)
            · have e8 : mSteps j9 σ = σ8 := h2.symm
              refine k_aload_n hC 0 dX4_step_211 rfl rfl ?_
              refine k_get hC inlX4 0 5 rfl rfl (by decide) lkF_X4_117 rfl dX4_step_212 ?_
              refine k_iload_n hC 2 dX4_step_215 rfl rfl ?_
              refine k_isub hC dX4_step_216 ?_
              exact k_iret hC hE (Nat.le_of_ble_eq_true rfl) (Nat.le_of_ble_eq_true rfl) dX4_step_217 (by rw [hos, e8]; exact ⟨S8, G8, _, rfl, List.append_nil _, h6, fun _ => by rw [h4.2.2.1 5 (by decide) (by decide), h25], h4⟩)
            · exact absurd c5 (by omega)
          | succ n ih =>
            intro i σ8 S8 G8 h1 h2 h3 h4 h5 h6
            refine k_iload_n hC 3 dX4_step_37 rfl rfl ?_
            refine k_iload_n hC 1 dX4_step_38 rfl rfl ?_
            refine k_icmp_geN hC 211 dX4_step_39 (by decide) (by omega) (by omega) (fun c5 => ?_) (fun c5 => ?_)
            · exact absurd c5 (by omega)
            · refine k_aload_n hC 0 dX4_step_42 rfl rfl ?_
              refine k_get hC inlX4 0 0 rfl rfl (by decide) lkF_X4_74 rfl dX4_step_43 ?_
              refine k_topE (nI 0) h6 ?_
              refine k_if_neN hC 211 dX4_step_46 (by decide) (by omega) (fun c6 => ?_) (fun c6 => ?_)
              · exact absurd rfl c6
              · obtain ⟨hs1, hs2, hs3, hs8, hsr, hsz⟩ := id h4
                have hm6 : m9 < 6 := by have := h3.1; omega
                have hm : m9 < σ8.1 := by omega
                have e1 : σ8.1 - 1 = m9 := by omega
                have hi := h3.2 m9 hm
                have hrm := hsr m9 hm
                have ml0 := mInv_L0 hi.1
                have hmu := mU_le hi.1.2.2.2.1
                have mb9 : (σ8.2.2.2 m9).1 9 ≤ 9 := by have := hi.1.2.1; have := hi.1.1; omega
                obtain ⟨q9, q10, q11, q12, q13, q14, q15, q16, q17, q18, q19, q20, qr0, qr1, qr2⟩ := id hrm
                refine k_aload_n hC 0 dX4_step_49 rfl rfl ?_
                refine k_dup hC dX4_step_50 rfl ?_
                refine k_get hC inlX4 0 4 rfl rfl (by decide) lkF_X4_120 rfl dX4_step_51 ?_
                refine k_iconst hC (nI 1) dX4_step_54 rfl ?_
                refine k_iadd hC dX4_step_55 ?_
                refine k_put hC inlX4 tyX4_ok nmX4 0 4 rfl rfl (by decide) lkF_X4_120 rfl rfl rfl (Nat.le_of_ble_eq_true rfl) dX4_step_56 (wM K y b (va_up S8 4 ((S8 4) + nI 1)) G8) rfl ?_
                refine k_aload_n hC 0 dX4_step_59 rfl rfl ?_
                refine k_get hC inlX4 0 3 rfl rfl (by decide) lkF_X4_100 rfl dX4_step_60 ?_
                refine k_topE (σ8.2.2.1 3) (hs3 3 (by decide) (by decide)) ?_
                refine k_aload_n hC 0 dX4_step_63 rfl rfl ?_
                refine k_get hC inlX4 0 6 rfl rfl (by decide) lkF_X4_123 rfl dX4_step_64 ?_
                refine k_topE (σ8.2.2.1 6) (hs3 6 (by decide) (by decide)) ?_
                refine k_iadd hC dX4_step_67 ?_
                refine k_istore hC dX4_step_68 (by decide) rfl [(0, .ref y), (1, .int (nI j9)), (2, .int (S 5)), (3, .int (nI i)), (4, .int ((σ8.2.2.1 3) + (σ8.2.2.1 6)))] rfl ?_
                refine k_aload_n hC 0 dX4_step_70 rfl rfl ?_
                refine k_aload_n hC 0 dX4_step_71 rfl rfl ?_
                refine k_get hC inlX4 0 1 rfl rfl (by decide) lkF_X4_78 rfl dX4_step_72 ?_
                refine k_topE (nI (m9 + 1)) (hs1.trans (congrArg nI h5)) ?_
                refine k_iconst hC (nI 1) dX4_step_75 rfl ?_
                refine k_isubN hC dX4_step_76 (by omega) ?_
                refine k_topE (nI m9) rfl ?_
                refine k_callV hC (As := [.int (nI m9)]) (cX4_marketOf_k l K y b (va_up S8 4 ((S8 4) + nI 1)) G8 m9 ((σ8.2.2.2 m9).2.2 0) hm6 qr0 (by omega)) [] (List.append_nil _).symm 0 rfl rfl (kAll5 lkM_X4_126 lkI_yX4_marketOf lkS_yX4_marketOf lkN_X4 lkC_yX4_marketOf) 1 (by decide) ⟨(Nat.le_of_ble_eq_true rfl), (Nat.le_of_ble_eq_true rfl)⟩ rfl rfl (Nat.le_of_ble_eq_true rfl) ⟨(Nat.le_of_ble_eq_true rfl), (Nat.le_of_ble_eq_true rfl)⟩ dX4_step_77 (fun v w h => ?_)
                obtain ⟨rfl, rfl⟩ := h
                refine k_re 0 0 (wM K y b (va_up S8 4 ((S8 4) + nI 1)) G8) [.int (nI (mU ((σ8.2.2.2 m9).2.2 0)))] rfl rfl (List.append_nil _) rfl ?_
                refine k_istore hC dX4_step_80 (by decide) rfl [(0, .ref y), (1, .int (nI j9)), (2, .int (S 5)), (3, .int (nI i)), (4, .int ((σ8.2.2.1 3) + (σ8.2.2.1 6))), (5, .int (nI (mU ((σ8.2.2.2 m9).2.2 0))))] rfl ?_
                refine k_iload hC dX4_step_82 rfl ?_
                refine k_iload hC dX4_step_84 rfl ?_
                have j98 : kW p l e rmX4_step s m args below meth cd K A 8 Q 0 0 ([]) (wM K y b (va_up S8 4 ((S8 4) + nI 1)) G8) [(0, .ref y), (1, .int (nI j9)), (2, .int (S 5)), (3, .int (nI i)), (4, .int ((σ8.2.2.1 3) + (σ8.2.2.1 6))), (5, .int (nI (mU ((σ8.2.2.2 m9).2.2 0)))), (6, .int (mGot σ8))] 98 [] := by
                  refine k_aload_n hC 0 dX4_step_98 rfl rfl ?_
                  refine k_iload hC dX4_step_99 rfl ?_
                  refine k_callV hC (As := [.int (mGot σ8)]) (cX4_sells_k l K y b (va_up S8 4 ((S8 4) + nI 1)) G8 m9 hm6 ((σ8.2.2.2 m9).2.2 0) qr0 (by omega) hi.1.2.2.2.1 ((σ8.2.2.2 m9).1 9) (by omega) q14 σ8.2.1 hs2 (hs1.trans (congrArg nI h5)) (mGot σ8) (mIx (mGot σ8)) (mIx_or _) (by have := mGot_le σ8 (by rw [e1]; omega); rw [e1] at this; exact this)) [] (List.append_nil _).symm 0 rfl rfl (kAll5 lkM_X4_129 lkI_yX4_sells lkS_yX4_sells lkN_X4 lkC_yX4_sells) 1 (by decide) ⟨(Nat.le_of_ble_eq_true rfl), (Nat.le_of_ble_eq_true rfl)⟩ rfl rfl (Nat.le_of_ble_eq_true rfl) ⟨(Nat.le_of_ble_eq_true rfl), (Nat.le_of_ble_eq_true rfl)⟩ dX4_step_101 (fun v w h => ?_)
                  obtain ⟨rfl, G1, rfl, hg3, hw3, hsm, hon⟩ := h
                  refine k_re 0 0 (wM K y b (va_up S8 4 ((S8 4) + nI 1)) G1) [] rfl rfl (List.append_nil _) rfl ?_
                  have s3 : ∀ i : Nat, i ∉ [14, 21, 22, 23] → ∀ j : Nat, G1 i j = G8 i j := fun i hi j => congrFun (hsm i hi) j
                  have hq1 : mRepS m9 (mSold σ8 (σ8.2.2.2 m9)) G1 := ⟨((s3 9 (by decide) m9).trans q9), ((s3 10 (by decide) m9).trans q10), ((s3 11 (by decide) m9).trans q11), ((s3 12 (by decide) m9).trans q12), ((s3 13 (by decide) m9).trans q13), hw3, ((s3 15 (by decide) m9).trans q15), ((s3 16 (by decide) m9).trans q16), ((s3 17 (by decide) m9).trans q17), ((s3 18 (by decide) m9).trans q18), ((s3 19 (by decide) m9).trans q19), ((s3 20 (by decide) m9).trans q20), hg3, (by show mRg m9 _ (G1 24) (G1 25) (G1 26); rw [hsm 24 (by decide), hsm 25 (by decide), hsm 26 (by decide)]; exact qr1), (by show mRg m9 _ (G1 27) (G1 28) (G1 29); rw [hsm 27 (by decide), hsm 28 (by decide), hsm 29 (by decide)]; exact qr2)⟩
                  refine k_aload_n hC 0 dX4_step_104 rfl rfl ?_
                  refine k_dup hC dX4_step_105 rfl ?_
                  refine k_get hC inlX4 0 5 rfl rfl (by decide) lkF_X4_117 rfl dX4_step_106 ?_
                  refine k_topE (σ8.2.2.1 5) (hs3 5 (by decide) (by decide)) ?_
                  refine k_iload hC dX4_step_109 rfl ?_
                  refine k_iadd hC dX4_step_111 ?_
                  refine k_put hC inlX4 tyX4_ok nmX4 0 5 rfl rfl (by decide) lkF_X4_117 rfl rfl rfl (Nat.le_of_ble_eq_true rfl) dX4_step_112 (wM K y b (va_up (va_up S8 4 ((S8 4) + nI 1)) 5 ((σ8.2.2.1 5) + (mGot σ8))) G1) rfl ?_
                  refine k_aload_n hC 0 dX4_step_115 rfl rfl ?_
                  refine k_iload hC dX4_step_116 rfl ?_
                  refine k_iload hC dX4_step_118 rfl ?_
                  refine k_isub hC dX4_step_120 ?_
                  refine k_put hC inlX4 tyX4_ok nmX4 0 6 rfl rfl (by decide) lkF_X4_123 rfl rfl rfl (Nat.le_of_ble_eq_true rfl) dX4_step_121 (wM K y b (va_up (va_up (va_up S8 4 ((S8 4) + nI 1)) 5 ((σ8.2.2.1 5) + (mGot σ8))) 6 (((σ8.2.2.1 3) + (σ8.2.2.1 6)) - (mGot σ8))) G1) rfl ?_
                  refine k_aload_n hC 0 dX4_step_124 rfl rfl ?_
                  refine k_dup hC dX4_step_125 rfl ?_
                  refine k_get hC inlX4 0 7 rfl rfl (by decide) lkF_X4_132 rfl dX4_step_126 ?_
                  refine k_topE (σ8.2.2.1 7) (hs3 7 (by decide) (by decide)) ?_
                  refine k_aload_n hC 0 dX4_step_129 rfl rfl ?_
                  refine k_get hC inlX4 0 6 rfl rfl (by decide) lkF_X4_123 rfl dX4_step_130 ?_
                  have j145 : kW p l e rmX4_step s m args below meth cd K A 8 Q 0 0 ([]) (wM K y b (va_up (va_up (va_up (va_up S8 4 ((S8 4) + nI 1)) 5 ((σ8.2.2.1 5) + (mGot σ8))) 6 (((σ8.2.2.1 3) + (σ8.2.2.1 6)) - (mGot σ8))) 7 (if 0 < mOwe σ8 then σ8.2.2.1 7 + 1 else σ8.2.2.1 7)) G1) [(0, .ref y), (1, .int (nI j9)), (2, .int (S 5)), (3, .int (nI i)), (4, .int ((σ8.2.2.1 3) + (σ8.2.2.1 6))), (5, .int (nI (mU ((σ8.2.2.2 m9).2.2 0)))), (6, .int (mGot σ8))] 145 [] := by
                    obtain ⟨SV, hSV⟩ : ∃ SV : Nat → Int32, SV = va_up (va_up (va_up (va_up S8 4 ((S8 4) + nI 1)) 5 ((σ8.2.2.1 5) + (mGot σ8))) 6 (((σ8.2.2.1 3) + (σ8.2.2.1 6)) - (mGot σ8))) 7 (if 0 < mOwe σ8 then σ8.2.2.1 7 + 1 else σ8.2.2.1 7) := ⟨_, rfl⟩
                    have hz9 : mZero (m9 + 1) G8 := fun k a c => hsz k (by omega) c
                    have hzG : mZero (m9 + 1) G1 := mZero_ag hz9 (fun j hj => hon j (by omega))
                    have hS3 : ∀ j : Nat, 3 ≤ j → j ≤ 7 → SV j = (mServe (mTick σ8)).2.2.1 j := by
                      intro j h3 h7
                      rw [hSV]
                      obtain rfl | rfl | rfl | rfl | rfl : j = 3 ∨ j = 4 ∨ j = 5 ∨ j = 6 ∨ j = 7 := by omega
                      · exact hs3 3 (by decide) (by decide)
                      · show S8 4 + nI 1 = σ8.2.2.1 4 + 1; rw [hs3 4 (by decide) (by decide)]; rfl
                      · rfl
                      · rfl
                      · rfl
                    have hS1 : SV 1 = nI (m9 + 1) := by rw [hSV]; exact hs1.trans (congrArg nI h5)
                    have hS2 : SV 2 = kB σ8.2.1 := by rw [hSV]; exact hs2
                    have hS0 : SV 0 = nI 0 := by rw [hSV]; exact h6
                    have hS8 : SV 8 = mSumZ (fun k => ((mServe (mTick σ8)).2.2.2 k).2.1 1) (m9 + 1) := by
                      rw [hSV]; show S8 8 = _; rw [hs8, h5]; symm
                      refine mSumZ_eq (fun j => ?_)
                      show (va_up σ8.2.2.2 (σ8.1 - 1) (mSold (mTick σ8) (σ8.2.2.2 (σ8.1 - 1))) j).2.1 1 = (σ8.2.2.2 j).2.1 1
                      by_cases e : j = σ8.1 - 1
                      · subst e; rw [va_up_self]; rfl
                      · rw [va_up_ne _ _ e]
                    have hA0 : mAll (m9 + 1) (mServe (mTick σ8)).2.2.2 := by have := (mServe_ok (σ := mTick σ8) h3 (by show σ8.1 ≠ 0; omega)).2; rw [← h5]; exact this
                    have hG0 : ∀ k : Nat, k < m9 + 1 → mRepS k ((mServe (mTick σ8)).2.2.2 k) G1 := by
                      intro k hk
                      show mRepS k (va_up σ8.2.2.2 (σ8.1 - 1) (mSold (mTick σ8) (σ8.2.2.2 (σ8.1 - 1))) k) G1
                      rw [e1]
                      by_cases e : k = m9
                      · subst e; rw [va_up_self]; exact hq1
                      · rw [va_up_ne _ _ e]; exact mRepS_ag (hsr k (by omega)) (mInv_16 (h3.2 k (by omega)).1) (hon k e)
                    have hpass : mPass σ8 = ((mServe (mTick σ8)).1, σ8.2.1, (mServe (mTick σ8)).2.2.1, mConveys σ8.1 (mWorks σ8.2.1 σ8.1 (mServe (mTick σ8)).2.2.2)) := rfl
                    have hg9 : (mServe (mTick σ8)).1 = m9 + 1 := h5
                    rw [h5] at hpass
                    rw [hg9] at hpass
                    rw [← hSV]
                    generalize (mServe (mTick σ8)).2.2.2 = t0 at hS8 hA0 hG0 hpass
                    generalize (mServe (mTick σ8)).2.2.1 = g0 at hS3 hpass
                    refine k_lsub [0, 1, 2, 3] [(0, .ref y), (1, .int (nI j9)), (2, .int (S 5)), (3, .int (nI i))] rfl ?_
                    have cv : ∀ (j : Nat) (ts : Nat → mT) (S9 : Nat → Int32) (G9 : Nat → Nat → Int32), j ≤ m9 → mAll (m9 + 1) ts → (∀ k : Nat, k < m9 + 1 → mRepS k (ts k) G9) → mZero (m9 + 1) G9 → S9 8 = mSumZ (fun k => (ts k).2.1 1) (m9 + 1) → (∀ i : Nat, i ≠ 8 → S9 i = SV i) → mConveys (j + 1) ts = mConveys (m9 + 1) (mWorks σ8.2.1 (m9 + 1) t0) → kW p l e rmX4_step s m args below meth cd K A 8 Q 0 0 ([]) (wM K y b S9 G9) [(0, .ref y), (1, .int (nI j9)), (2, .int (S 5)), (3, .int (nI i)), (7, .int (nI j))] 188 [] := by
                      intro j
                      induction j with
                      | zero =>
                        intro ts S9 G9 hj hA9 hG9 hz9 h89 hS9 he
                        refine k_iload hC dX4_step_188 rfl ?_
                        refine k_if_leN hC 205 dX4_step_190 (by decide) (by omega) (fun c9 => ?_) (fun c9 => ?_)
                        · refine k_iinc hC dX4_step_205 (by decide) rfl rfl (nI (i + 1)) (kinc i 1 rfl) [(0, .ref y), (1, .int (nI j9)), (2, .int (S 5)), (3, .int (nI (i + 1))), (7, .int (nI 0))] rfl ?_
                          refine k_goto hC 37 dX4_step_208 (by decide) ?_
                          refine k_lsub [0, 1, 2, 3] [(0, .ref y), (1, .int (nI j9)), (2, .int (S 5)), (3, .int (nI (i + 1)))] rfl ?_
                          exact ih (i + 1) (mPass σ8) S9 G9 (by omega) h2 (mPass_ok h3 (by omega)) (by rw [hpass, ← he]; exact ⟨(hS9 1 (by decide)).trans hS1, (hS9 2 (by decide)).trans hS2, fun i a c => (hS9 i (by omega)).trans (hS3 i a c), h89, hG9, hz9⟩) h5 ((hS9 0 (by decide)).trans hS0)
                        · exact absurd rfl c9
                      | succ s ih2 =>
                        intro ts S9 G9 hj hA9 hG9 hz9 h89 hS9 he
                        refine k_iload hC dX4_step_188 rfl ?_
                        refine k_if_leN hC 205 dX4_step_190 (by decide) (by omega) (fun c9 => ?_) (fun c9 => ?_)
                        · exact absurd c9 (by omega)
                        · refine k_aload_n hC 0 dX4_step_193 rfl rfl ?_
                          refine k_iload hC dX4_step_194 rfl ?_
                          have i1 := (hA9 (s + 1) (by omega)).1
                          rw [show decide (s + 1 = 0) = false by simp] at i1
                          refine k_callV hC (As := [.int (nI (s + 1))]) (cX4_conveys_k l K y b S9 G9 s (by omega) (ts (s + 1)) (ts s) (decide (s = 0)) (hG9 (s + 1) (by omega)) (hG9 s (by omega)) i1 (hA9 s (by omega)).1) [] (List.append_nil _).symm 0 rfl rfl (kAll5 lkM_X4_138 lkI_yX4_conveys lkS_yX4_conveys lkN_X4 lkC_yX4_conveys) 1 (by decide) ⟨(Nat.le_of_ble_eq_true rfl), (Nat.le_of_ble_eq_true rfl)⟩ rfl rfl (Nat.le_of_ble_eq_true rfl) ⟨(Nat.le_of_ble_eq_true rfl), (Nat.le_of_ble_eq_true rfl)⟩ dX4_step_196 (fun v w h => ?_)
                          obtain ⟨rfl, G5, rfl, hr1, hr2, hro⟩ := h
                          refine k_re 0 0 (wM K y b S9 G5) [] rfl rfl (List.append_nil _) rfl ?_
                          refine k_iinc hC dX4_step_199 (by decide) rfl rfl (nI (s + 1 - 1)) (kdec (s + 1) 1 (by omega) rfl) [(0, .ref y), (1, .int (nI j9)), (2, .int (S 5)), (3, .int (nI i)), (7, .int (nI (s + 1 - 1)))] rfl ?_
                          refine k_goto hC 188 dX4_step_202 (by decide) ?_
                          have hz := mConvey_z (ts (s + 1)) (ts s)
                          refine ih2 _ S9 G5 (by omega) (mConvey_all hA9 (by omega)) (fun k hk => ?_) (mZero_ag hz9 (fun j hj => hro j (by omega) (by omega))) ?_ hS9 he
                          · by_cases e : k = s
                            · subst e; rw [va_up_self]; exact hr2
                            · rw [va_up_ne _ _ e]
                              by_cases e2 : k = s + 1
                              · subst e2; rw [va_up_self]; exact hr1
                              · rw [va_up_ne _ _ e2]; exact mRepS_ag (hG9 k hk) (mInv_16 (hA9 k hk).1) (hro k e2 e)
                          · rw [h89]; symm
                            refine mSumZ_eq (fun k => ?_)
                            by_cases e : k = s
                            · subst e; rw [va_up_self, hz.2]
                            · rw [va_up_ne _ _ e]
                              by_cases e2 : k = s + 1
                              · subst e2; rw [va_up_self, hz.1]
                              · rw [va_up_ne _ _ e2]
                    have wk : ∀ (j : Nat) (ts : Nat → mT) (S9 : Nat → Int32) (G9 : Nat → Nat → Int32), j ≤ m9 + 1 → mAll (m9 + 1) ts → (∀ k : Nat, k < m9 + 1 → mRepS k (ts k) G9) → mZero (m9 + 1) G9 → S9 8 = mSumZ (fun k => (ts k).2.1 1) (m9 + 1) → (∀ i : Nat, i ≠ 8 → S9 i = SV i) → mWorks σ8.2.1 j ts = mWorks σ8.2.1 (m9 + 1) t0 → kW p l e rmX4_step s m args below meth cd K A 8 Q 0 0 ([]) (wM K y b S9 G9) [(0, .ref y), (1, .int (nI j9)), (2, .int (S 5)), (3, .int (nI i)), (7, .int (nI j + (-1)))] 153 [] := by
                      intro j
                      induction j with
                      | zero =>
                        intro ts S9 G9 hj hA9 hG9 hz9 h89 hS9 he
                        refine k_iload hC dX4_step_153 rfl ?_
                        refine k_if_lt hC 180 dX4_step_155 (by decide) (fun c9 => ?_) (fun c9 => ?_)
                        · refine k_aload_n hC 0 dX4_step_180 rfl rfl ?_
                          refine k_get hC inlX4 0 1 rfl rfl (by decide) lkF_X4_78 rfl dX4_step_181 ?_
                          refine k_topE (nI (m9 + 1)) ((hS9 1 (by decide)).trans hS1) ?_
                          refine k_iconst hC (nI 1) dX4_step_184 rfl ?_
                          refine k_isubN hC dX4_step_185 (by omega) ?_
                          refine k_topE (nI m9) rfl ?_
                          refine k_istore hC dX4_step_186 (by decide) rfl [(0, .ref y), (1, .int (nI j9)), (2, .int (S 5)), (3, .int (nI i)), (7, .int (nI m9))] rfl ?_
                          exact cv m9 ts S9 G9 (Nat.le_refl _) hA9 hG9 hz9 h89 hS9 (by rw [← he]; rfl)
                        · exact absurd (show nI 0 + (-1) < 0 by decide) c9
                      | succ s ih2 =>
                        intro ts S9 G9 hj hA9 hG9 hz9 h89 hS9 he
                        have hk : s < m9 + 1 := hj
                        refine k_lE (show _ = [(0, .ref y), (1, .int (nI j9)), (2, .int (S 5)), (3, .int (nI i)), (7, .int (nI s))] by rw [pk_m1]) ?_
                        refine k_iload hC dX4_step_153 rfl ?_
                        refine k_if_lt hC 180 dX4_step_155 (by decide) (fun c9 => ?_) (fun c9 => ?_)
                        · exact absurd c9 (nI_pos (by omega))
                        · obtain ⟨p9, p10, p11, p12, p13, p14, p15, p16, p17, p18, p19, p20, pr0, pr1, pr2⟩ := id (hG9 s hk)
                          refine k_aload_n hC 0 dX4_step_158 rfl rfl ?_
                          refine k_get hC inlX4 0 13 rfl rfl (by decide) lkF_X4_22 rfl dX4_step_159 ?_
                          refine k_iload hC dX4_step_162 rfl ?_
                          refine k_zald hC 5 rfl (by omega) (by decide) dX4_step_164 ?_
                          refine k_topE (nI ((ts s).1 12)) p13 ?_
                          have ii := (hA9 s hk).1
                          have in1 := ii.1
                          refine k_if_neN hC 174 dX4_step_165 (by decide) (by omega) (fun c11 => ?_) (fun c11 => ?_)
                          · refine k_iinc hC dX4_step_174 (by decide) rfl rfl ((nI s) + (-1)) rfl [(0, .ref y), (1, .int (nI j9)), (2, .int (S 5)), (3, .int (nI i)), (7, .int ((nI s) + (-1)))] rfl ?_
                            refine k_goto hC 153 dX4_step_177 (by decide) ?_
                            have hw : mWork σ8.2.1 (decide (s = 0)) (ts s) = ts s := by unfold mWork; rw [if_pos c11]
                            exact ih2 ts S9 G9 (Nat.le_of_lt hj) hA9 hG9 hz9 h89 hS9 (by rw [← he]; show _ = mWorks σ8.2.1 s (va_up ts s (mWork σ8.2.1 (decide (s = 0)) (ts s))); rw [hw, va_up_id])
                          · refine k_aload_n hC 0 dX4_step_168 rfl rfl ?_
                            refine k_iload hC dX4_step_169 rfl ?_
                            refine k_callV hC (As := [.int (nI s)]) (cX4_works_k l K y b S9 G9 s (by omega) (ts s) σ8.2.1 (hG9 s hk) ii c11 ((hS9 2 (by decide)).trans hS2)) [] (List.append_nil _).symm 0 rfl rfl (kAll5 lkM_X4_135 lkI_yX4_works lkS_yX4_works lkN_X4 lkC_yX4_works) 1 (by decide) ⟨(Nat.le_of_ble_eq_true rfl), (Nat.le_of_ble_eq_true rfl)⟩ rfl rfl (Nat.le_of_ble_eq_true rfl) ⟨(Nat.le_of_ble_eq_true rfl), (Nat.le_of_ble_eq_true rfl)⟩ dX4_step_171 (fun v w h => ?_)
                            obtain ⟨rfl, S5, G5, d5, rfl, hr5, ho5, hd5, hd8, hS5⟩ := h
                            refine k_re 0 0 (wM K y b S5 G5) [] rfl rfl (List.append_nil _) rfl ?_
                            refine k_iinc hC dX4_step_174 (by decide) rfl rfl ((nI s) + (-1)) rfl [(0, .ref y), (1, .int (nI j9)), (2, .int (S 5)), (3, .int (nI i)), (7, .int ((nI s) + (-1)))] rfl ?_
                            refine k_goto hC 153 dX4_step_177 (by decide) ?_
                            refine ih2 (va_up ts s (mWork σ8.2.1 (decide (s = 0)) (ts s))) S5 G5 (Nat.le_of_lt hj) (mAll_put hA9 (mWork_inv ii) (by rw [mWork_1]; exact (hA9 s hk).2)) (fun k hk2 => ?_) (mZero_ag hz9 (fun j hj2 => ho5 j (by omega))) ?_ (fun i hi => (hS5 i hi).trans (hS9 i hi)) he
                            · by_cases e : k = s
                              · subst e; rw [va_up_self]; exact hr5
                              · rw [va_up_ne _ _ e]; exact mRepS_ag (hG9 k hk2) (mInv_16 (hA9 k hk2).1) (ho5 k e)
                            · rw [hd8, h89]; symm
                              exact mSumZ_up hk (by rw [va_up_self]; exact hd5) (fun j hj2 => by rw [va_up_ne _ _ hj2])
                    refine k_aload_n hC 0 dX4_step_145 rfl rfl ?_
                    refine k_get hC inlX4 0 1 rfl rfl (by decide) lkF_X4_78 rfl dX4_step_146 ?_
                    refine k_topE (nI (m9 + 1)) hS1 ?_
                    refine k_iconst hC (nI 1) dX4_step_149 rfl ?_
                    refine k_isubN hC dX4_step_150 (by omega) ?_
                    refine k_topE (nI m9) rfl ?_
                    refine k_istore hC dX4_step_151 (by decide) rfl [(0, .ref y), (1, .int (nI j9)), (2, .int (S 5)), (3, .int (nI i)), (7, .int (nI m9))] rfl ?_
                    refine k_lE (show _ = [(0, .ref y), (1, .int (nI j9)), (2, .int (S 5)), (3, .int (nI i)), (7, .int (nI (m9 + 1) + (-1)))] by rw [pk_m1]) ?_
                    exact wk (m9 + 1) t0 SV G1 (Nat.le_refl _) hA0 hG0 hzG hS8 (fun _ _ => rfl) rfl
                  refine k_if_le hC 140 dX4_step_133 (by decide) (fun c8 => ?_) (fun c8 => ?_)
                  · have hp : ¬ 0 < mOwe σ8 := Int32.not_lt.mpr c8
                    refine k_iconst hC (nI 0) dX4_step_140 rfl ?_
                    refine k_iadd hC dX4_step_141 ?_
                    refine k_topE (if 0 < mOwe σ8 then σ8.2.2.1 7 + 1 else σ8.2.2.1 7) (by rw [if_neg hp]; exact Int32.add_zero _) ?_
                    refine k_put hC inlX4 tyX4_ok nmX4 0 7 rfl rfl (by decide) lkF_X4_132 rfl rfl rfl (Nat.le_of_ble_eq_true rfl) dX4_step_142 (wM K y b (va_up (va_up (va_up (va_up S8 4 ((S8 4) + nI 1)) 5 ((σ8.2.2.1 5) + (mGot σ8))) 6 (((σ8.2.2.1 3) + (σ8.2.2.1 6)) - (mGot σ8))) 7 (if 0 < mOwe σ8 then σ8.2.2.1 7 + 1 else σ8.2.2.1 7)) G1) rfl ?_
                    exact j145
                  · have hp : 0 < mOwe σ8 := Int32.not_le.mp c8
                    refine k_iconst hC (nI 1) dX4_step_136 rfl ?_
                    refine k_goto hC 141 dX4_step_137 (by decide) ?_
                    refine k_iadd hC dX4_step_141 ?_
                    refine k_topE (if 0 < mOwe σ8 then σ8.2.2.1 7 + 1 else σ8.2.2.1 7) (by rw [if_pos hp]; rfl) ?_
                    refine k_put hC inlX4 tyX4_ok nmX4 0 7 rfl rfl (by decide) lkF_X4_132 rfl rfl rfl (Nat.le_of_ble_eq_true rfl) dX4_step_142 (wM K y b (va_up (va_up (va_up (va_up S8 4 ((S8 4) + nI 1)) 5 ((σ8.2.2.1 5) + (mGot σ8))) 6 (((σ8.2.2.1 3) + (σ8.2.2.1 6)) - (mGot σ8))) 7 (if 0 < mOwe σ8 then σ8.2.2.1 7 + 1 else σ8.2.2.1 7)) G1) rfl ?_
                    exact j145
                refine k_icmp_ge hC 94 dX4_step_86 (by decide) (fun c7 => ?_) (fun c7 => ?_)
                · have eg : nI (mU ((σ8.2.2.2 m9).2.2 0)) = mGot σ8 := by
                    unfold mGot; rw [e1]; by_cases hh : nI (mU ((σ8.2.2.2 m9).2.2 0)) < σ8.2.2.1 3 + σ8.2.2.1 6
                    · rw [if_pos hh]
                    · rw [if_neg hh]; exact Int32.le_antisymm c7 (Int32.not_lt.mp hh)
                  refine k_iload hC dX4_step_94 rfl ?_
                  refine k_topE (mGot σ8) eg ?_
                  refine k_istore hC dX4_step_96 (by decide) rfl [(0, .ref y), (1, .int (nI j9)), (2, .int (S 5)), (3, .int (nI i)), (4, .int ((σ8.2.2.1 3) + (σ8.2.2.1 6))), (5, .int (nI (mU ((σ8.2.2.2 m9).2.2 0)))), (6, .int (mGot σ8))] rfl ?_
                  exact j98
                · refine k_iload hC dX4_step_89 rfl ?_
                  refine k_topE (mGot σ8) (by unfold mGot; rw [e1, if_neg (fun q => c7 (Int32.le_of_lt q))]) ?_
                  refine k_goto hC 96 dX4_step_91 (by decide) ?_
                  refine k_istore hC dX4_step_96 (by decide) rfl [(0, .ref y), (1, .int (nI j9)), (2, .int (S 5)), (3, .int (nI i)), (4, .int ((σ8.2.2.1 3) + (σ8.2.2.1 6))), (5, .int (nI (mU ((σ8.2.2.2 m9).2.2 0)))), (6, .int (mGot σ8))] rfl ?_
                  exact j98
        exact loop j9 0 σ _ G (Nat.add_zero _) rfl hσ (mRep_0 hR (nI 0)) hz rfl
      · refine k_iconst hC (nI 2) dX4_step_22 rfl ?_
        refine k_goto hC 27 dX4_step_23 (by decide) ?_
        refine k_put hC inlX4 tyX4_ok nmX4 0 0 rfl rfl (by decide) lkF_X4_74 rfl rfl rfl (Nat.le_of_ble_eq_true rfl) dX4_step_27 (wM K y b (va_up S 0 (nI 2)) G) rfl ?_
        refine k_aload_n hC 0 dX4_step_30 rfl rfl ?_
        refine k_get hC inlX4 0 5 rfl rfl (by decide) lkF_X4_117 rfl dX4_step_31 ?_
        refine k_istore_n hC 2 dX4_step_34 rfl (by decide) rfl [(0, .ref y), (1, .int (nI j9)), (2, .int (S 5))] rfl ?_
        refine k_iconst hC (nI 0) dX4_step_35 rfl ?_
        refine k_istore_n hC 3 dX4_step_36 rfl (by decide) rfl [(0, .ref y), (1, .int (nI j9)), (2, .int (S 5)), (3, .int (nI 0))] rfl ?_
        refine k_iload_n hC 3 dX4_step_37 rfl rfl ?_
        refine k_iload_n hC 1 dX4_step_38 rfl rfl ?_
        refine k_icmp_geN hC 211 dX4_step_39 (by decide) (by omega) (by omega) (fun c4 => ?_) (fun c4 => ?_)
        · exact absurd c4 (by omega)
        · refine k_aload_n hC 0 dX4_step_42 rfl rfl ?_
          refine k_get hC inlX4 0 0 rfl rfl (by decide) lkF_X4_74 rfl dX4_step_43 ?_
          refine k_if_neN hC 211 dX4_step_46 (by decide) (by omega) (fun c3 => ?_) (fun c3 => ?_)
          · refine k_aload_n hC 0 dX4_step_211 rfl rfl ?_
            refine k_get hC inlX4 0 5 rfl rfl (by decide) lkF_X4_117 rfl dX4_step_212 ?_
            refine k_iload_n hC 2 dX4_step_215 rfl rfl ?_
            refine k_isub hC dX4_step_216 ?_
            exact k_iret hC hE (Nat.le_of_ble_eq_true rfl) (Nat.le_of_ble_eq_true rfl) dX4_step_217 (by rw [show oStep σ (nI j9) = (2, nI 0, σ) by simp only [oStep, if_pos hv, if_pos c2]]; exact ⟨_, G, _, rfl, List.append_nil _, rfl, fun q => absurd q (Nat.succ_ne_zero _), mRep_0 hR _⟩)
          · exact absurd c3 (by decide)
    · exact absurd c1 (by decide)
  · rw [if_neg hv]
    refine k_if_neN hC 15 dX4_step_8 (by decide) (by omega) (fun c1 => ?_) (fun c1 => ?_)
    · exact absurd rfl c1
    · refine k_iconst hC (nI 1) dX4_step_11 rfl ?_
      refine k_goto hC 27 dX4_step_12 (by decide) ?_
      refine k_put hC inlX4 tyX4_ok nmX4 0 0 rfl rfl (by decide) lkF_X4_74 rfl rfl rfl (Nat.le_of_ble_eq_true rfl) dX4_step_27 (wM K y b (va_up S 0 (nI 1)) G) rfl ?_
      refine k_aload_n hC 0 dX4_step_30 rfl rfl ?_
      refine k_get hC inlX4 0 5 rfl rfl (by decide) lkF_X4_117 rfl dX4_step_31 ?_
      refine k_istore_n hC 2 dX4_step_34 rfl (by decide) rfl [(0, .ref y), (1, .int v9), (2, .int (S 5))] rfl ?_
      refine k_iconst hC (nI 0) dX4_step_35 rfl ?_
      refine k_istore_n hC 3 dX4_step_36 rfl (by decide) rfl [(0, .ref y), (1, .int v9), (2, .int (S 5)), (3, .int (nI 0))] rfl ?_
      refine k_iload_n hC 3 dX4_step_37 rfl rfl ?_
      refine k_iload_n hC 1 dX4_step_38 rfl rfl ?_
      refine k_icmp_ge hC 211 dX4_step_39 (by decide) (fun c2 => ?_) (fun c2 => ?_)
      · refine k_aload_n hC 0 dX4_step_211 rfl rfl ?_
        refine k_get hC inlX4 0 5 rfl rfl (by decide) lkF_X4_117 rfl dX4_step_212 ?_
        refine k_iload_n hC 2 dX4_step_215 rfl rfl ?_
        refine k_isub hC dX4_step_216 ?_
        exact k_iret hC hE (Nat.le_of_ble_eq_true rfl) (Nat.le_of_ble_eq_true rfl) dX4_step_217 (by rw [show oStep σ v9 = (1, nI 0, σ) by simp only [oStep, if_neg hv]]; exact ⟨_, G, _, rfl, List.append_nil _, rfl, fun q => absurd q (Nat.succ_ne_zero _), mRep_0 hR _⟩)
      · refine k_aload_n hC 0 dX4_step_42 rfl rfl ?_
        refine k_get hC inlX4 0 0 rfl rfl (by decide) lkF_X4_74 rfl dX4_step_43 ?_
        refine k_if_neN hC 211 dX4_step_46 (by decide) (by omega) (fun c3 => ?_) (fun c3 => ?_)
        · refine k_aload_n hC 0 dX4_step_211 rfl rfl ?_
          refine k_get hC inlX4 0 5 rfl rfl (by decide) lkF_X4_117 rfl dX4_step_212 ?_
          refine k_iload_n hC 2 dX4_step_215 rfl rfl ?_
          refine k_isub hC dX4_step_216 ?_
          exact k_iret hC hE (Nat.le_of_ble_eq_true rfl) (Nat.le_of_ble_eq_true rfl) dX4_step_217 (by rw [show oStep σ v9 = (1, nI 0, σ) by simp only [oStep, if_neg hv]]; exact ⟨_, G, _, rfl, List.append_nil _, rfl, fun q => absurd q (Nat.succ_ne_zero _), mRep_0 hR _⟩)
        · exact absurd c3 (by decide)
