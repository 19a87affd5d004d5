/-! the law's own line: when its arrays hold the line; a step -/
theorem mSumZ_up {F F' : Nat → Int32} {n k : Nat} {d : Int32} (hk : k < n) (h1 : F' k = F k + d) (h2 : ∀ j : Nat, j ≠ k → F' j = F j) : mSumZ F' n = mSumZ F n + d := by
  induction n with
  | zero => exact absurd hk (Nat.not_lt_zero k)
  | succ n ih =>
    show mSumZ F' n + F' n = mSumZ F n + F n + d
    by_cases e : k = n
    · subst e
      have h3 : mSumZ F' k = mSumZ F k := by
        clear ih hk
        have h4 : ∀ m : Nat, m ≤ k → mSumZ F' m = mSumZ F m := by
          intro m
          induction m with
          | zero => intro _; rfl
          | succ m ihm => intro hm; show mSumZ F' m + F' m = mSumZ F m + F m; rw [ihm (by omega), h2 m (by omega)]
        exact h4 k (Nat.le_refl k)
      rw [h3, h1, Int32.add_assoc]
    · rw [ih (by omega), h2 n (fun q => e q.symm), Int32.add_assoc, Int32.add_comm d, ← Int32.add_assoc]
theorem mSumZ_eq {F F' : Nat → Int32} {n : Nat} (h : ∀ j : Nat, F' j = F j) : mSumZ F' n = mSumZ F n := by rw [show F' = F from funext h]
theorem va_up_id {α : Type} (f : Nat → α) (k : Nat) : va_up f k (f k) = f := by
  funext j
  by_cases h : j = k
  · subst h; exact va_up_self _ _ _
  · exact va_up_ne _ _ h
theorem mFetch_z (n : Nat) (τ α : mT) : (mFetch n τ α).1.2.1 = τ.2.1 ∧ (mFetch n τ α).2.2.1 = α.2.1 := by
  induction n generalizing τ α with
  | zero => exact ⟨rfl, rfl⟩
  | succ n ih =>
    unfold mFetch
    split
    · exact ⟨rfl, rfl⟩
    · next x t e => exact ih (mGet τ x) (mGive α x t)
theorem mConvey_z (τ α : mT) : (mConvey τ α).1.2.1 = τ.2.1 ∧ (mConvey τ α).2.2.1 = α.2.1 := mFetch_z _ (mBring τ) α
theorem mGot_le (σ : mS) (hm : mU ((σ.2.2.2 (σ.1 - 1)).2.2 0) < 2 ^ 31) : mIx (mGot σ) ≤ mU ((σ.2.2.2 (σ.1 - 1)).2.2 0) := by
  unfold mGot
  split
  · rw [mIx_nI hm]; exact Nat.le_refl _
  · next h =>
    generalize σ.2.2.1 3 + σ.2.2.1 6 = w at h ⊢
    rcases mIx_or w with ⟨h1, h2⟩ | ⟨h1, h2⟩
    · refine Nat.not_lt.mp (fun q => h ?_)
      rw [h1]
      exact (nI_ltI hm h2).mpr q
    · omega
section QLE
variable {p : Program} {l : Launch} {e : Env} {R : Room} {s : State} {m : MethodId} {args : Array Value} {below : List Frame} {meth : Method} {c : Code} {K : kE} {A : Nat → Prop} {nL : Nat} {Q : State → Prop} {k n : Nat} {pl X : va_W} {lv : List (Nat × Value)} {pc : Nat} {st : List Value} {cc : ByteArray} {own : String}
theorem k_lE {lv2 : List (Nat × Value)} (h : lv = lv2) (kk : kW p l e R s m args below meth c K A nL Q k n pl X lv2 pc st) : kW p l e R s m args below meth c K A nL Q k n pl X lv pc st := h ▸ kk
end QLE
/-- nothing is in the places of stages that are not there -/
def qZ (n : Nat) (fT : Nat → Int32) : Prop := ∀ k i : Nat, n ≤ k → k < 3 → i < 15 → fT (15 * k + i) = nI 0
theorem qZ_ag {n : Nat} {f g : Nat → Int32} (h : qZ n f) (ha : ∀ j : Nat, n ≤ j → qAT j f g) : qZ n g := fun k i h1 h2 h3 => (ha k h1 i h3).trans (h k i h1 h2 h3)
def qRep (σ : mS) (fT fM fI fW fG : Nat → Int32) : Prop := fG 0 = nI σ.1 ∧ fG 1 = kB σ.2.1 ∧ fG 2 = σ.2.2.1 3 ∧ fG 3 = σ.2.2.1 4 ∧ fG 4 = σ.2.2.1 5 ∧ fG 5 = σ.2.2.1 6 ∧ fG 6 = σ.2.2.1 7 ∧ fG 7 = mSumZ (fun k => (σ.2.2.2 k).2.1 1) σ.1 ∧ (∀ k : Nat, k < σ.1 → qS k (σ.2.2.2 k) fT fM fI fW) ∧ qZ σ.1 fT
abbrev rmL_step : Room := { frames := 3, cells := 0, slots := 0, locals := 79 }
set_option maxRecDepth 100000 in
set_option maxHeartbeats 4000000 in
theorem cL_step_k (l : Launch) (K : kE) (aT aM aI aW aG : Nat) (fT fM fI fW fG : Nat → Int32) (σ : mS) (hσ : mSok σ) (h0 : σ.1 ≠ 0) (h3 : σ.1 ≤ 3) (hR : qRep σ fT fM fI fW fG) : kM l yL_step (kws yL_step cL_step 10 none) rmL_step K [.ref aT, .ref aM, .ref aI, .ref aW, .ref aG] [kI K aT 45 fT, kI K aM 60 fM, kI K aI 60 fI, kI K aW 60 fW, kI K aG 8 fG] (fun v w => v = none ∧ ∃ T1 M1 I1 W1 G1 : Nat → Int32, w = [kI K aT 45 T1, kI K aM 60 M1, kI K aI 60 I1, kI K aW 60 W1, kI K aG 8 G1] ∧ qRep (mPass σ) T1 M1 I1 W1 G1) := by
  refine kM_of (pl := []) (X := [kI K aT 45 fT, kI K aM 60 fM, kI K aI 60 fI, kI K aW 60 fW, kI K aG 8 fG]) rfl (by decide) (Nat.le_of_ble_eq_true rfl) ?_
  intro p e s m args below meth cd A Q hC hnm hE
  refine k_eX (show _ = [kI K aT 45 fT, kI K aM 60 fM, kI K aI 60 fI, kI K aW 60 fW, kI K aG 8 fG] from rfl) ?_
  obtain ⟨m9, hz⟩ : ∃ m9, σ.1 = m9 + 1 := ⟨σ.1 - 1, by omega⟩
  obtain ⟨g0, g1, g2, g3, g4, g5, g6, g7, hsr, hsz⟩ := id hR
  rw [hz] at g0
  have hm3 : m9 < 3 := by omega
  have hm : m9 < σ.1 := by omega
  have e1 : σ.1 - 1 = m9 := by omega
  have hi := hσ.2 m9 hm
  have hrm := hsr m9 hm
  have ml0 := mInv_L0 hi.1
  have ml9 := qLen_of hi.1
  have hmu := mU_le hi.1.2.2.2.1
  have mb9 : (σ.2.2.2 m9).1 9 ≤ 9 := by have := hi.1.2.1; have := hi.1.1; omega
  obtain ⟨q0, q1, q2, q3, q4, q5, q6, q7, q8, q9, q10, q11, q12, q13, q14⟩ := id hrm.1
  refine k_aload hC dL_step_0 rfl ?_
  refine k_iconst hC (nI 0) dL_step_2 rfl ?_
  refine k_ald hC 4 rfl (by omega) (by decide) dL_step_3 ?_
  refine k_topE (nI (m9 + 1)) g0 ?_
  refine k_iconst hC (nI 1) dL_step_4 rfl ?_
  refine k_isubN hC dL_step_5 (by omega) ?_
  refine k_topE (nI m9) rfl ?_
  refine k_istore hC dL_step_6 (by decide) rfl [(0, .ref aT), (1, .ref aM), (2, .ref aI), (3, .ref aW), (4, .ref aG), (5, .int (nI m9))] rfl ?_
  refine k_aload hC dL_step_8 rfl ?_
  refine k_iconst hC (nI 3) dL_step_10 rfl ?_
  refine k_dup2 hC dL_step_11 rfl rfl ?_
  refine k_ald hC 4 rfl (by omega) (by decide) dL_step_12 ?_
  refine k_topE (σ.2.2.1 4) g3 ?_
  refine k_iconst hC (nI 1) dL_step_13 rfl ?_
  refine k_iadd hC dL_step_14 ?_
  refine k_ast hC 4 rfl (by omega) (by decide) dL_step_15 [kI K aT 45 fT, kI K aM 60 fM, kI K aI 60 fI, kI K aW 60 fW, kI K aG 8 (upd fG 3 ((σ.2.2.1 4) + nI 1))] rfl ?_
  refine k_aload hC dL_step_16 rfl ?_
  refine k_iconst hC (nI 2) dL_step_18 rfl ?_
  refine k_ald hC 4 rfl (by omega) (by decide) dL_step_19 ?_
  refine k_topE (σ.2.2.1 3) (((pk_un (by omega)).trans g2)) ?_
  refine k_aload hC dL_step_20 rfl ?_
  refine k_iconst hC (nI 5) dL_step_22 rfl ?_
  refine k_ald hC 4 rfl (by omega) (by decide) dL_step_23 ?_
  refine k_topE (σ.2.2.1 6) (((pk_un (by omega)).trans g5)) ?_
  refine k_iadd hC dL_step_24 ?_
  refine k_istore hC dL_step_25 (by decide) rfl [(0, .ref aT), (1, .ref aM), (2, .ref aI), (3, .ref aW), (4, .ref aG), (5, .int (nI m9)), (6, .int ((σ.2.2.1 3) + (σ.2.2.1 6)))] rfl ?_
  refine k_aload_n hC 1 dL_step_27 rfl rfl ?_
  refine k_iload hC dL_step_28 rfl ?_
  refine k_aload_n hC 0 dL_step_30 rfl rfl ?_
  refine k_bipush hC (nI 15) dL_step_31 rfl ?_
  refine k_iload hC dL_step_33 rfl ?_
  refine k_imulN hC dL_step_35 ?_
  refine k_bipush hC (nI 11) dL_step_36 rfl ?_
  refine k_iaddN hC dL_step_38 ?_
  refine k_ald hC 0 rfl (by omega) (by decide) dL_step_39 ?_
  refine k_topE (nI (((σ.2.2.2 m9).2.2 0).length)) q11 ?_
  refine k_perm [1, 0, 2, 3, 4] [kI K aM 60 fM, kI K aT 45 fT, kI K aI 60 fI, kI K aW 60 fW, kI K aG 8 (upd fG 3 ((σ.2.2.1 4) + nI 1))] rfl rfl ?_
  refine k_callS hC (As := [.ref aM, .int (nI m9), .int (nI (((σ.2.2.2 m9).2.2 0).length))]) (cL_units_k l K aM fM m9 ((σ.2.2.2 m9).2.2 0) hm3 ml9.1 hrm.2.1 (mKok_ok hi.1.2.2.2.1)) [kI K aT 45 fT, kI K aI 60 fI, kI K aW 60 fW, kI K aG 8 (upd fG 3 ((σ.2.2.1 4) + nI 1))] rfl (kAll4 lkM_L_20 lkT_yL_units lkN_L lkC_yL_units) 3 (by decide) ⟨(Nat.le_of_ble_eq_true rfl), (Nat.le_of_ble_eq_true rfl)⟩ rfl rfl (Nat.le_of_ble_eq_true rfl) ⟨(Nat.le_of_ble_eq_true rfl), (Nat.le_of_ble_eq_true rfl)⟩ dL_step_40 (fun v w h => ?_)
  obtain ⟨rfl, rfl⟩ := h
  refine k_re 0 0 [kI K aM 60 fM, kI K aT 45 fT, kI K aI 60 fI, kI K aW 60 fW, kI K aG 8 (upd fG 3 ((σ.2.2.1 4) + nI 1))] [.int (nI (mU ((σ.2.2.2 m9).2.2 0)))] rfl rfl rfl rfl ?_
  refine k_perm [1, 0, 2, 3, 4] [kI K aT 45 fT, kI K aM 60 fM, kI K aI 60 fI, kI K aW 60 fW, kI K aG 8 (upd fG 3 ((σ.2.2.1 4) + nI 1))] rfl rfl ?_
  refine k_istore hC dL_step_43 (by decide) rfl [(0, .ref aT), (1, .ref aM), (2, .ref aI), (3, .ref aW), (4, .ref aG), (5, .int (nI m9)), (6, .int ((σ.2.2.1 3) + (σ.2.2.1 6))), (7, .int (nI (mU ((σ.2.2.2 m9).2.2 0))))] rfl ?_
  refine k_iload hC dL_step_45 rfl ?_
  refine k_iload hC dL_step_47 rfl ?_
  have j59 : kW p l e rmL_step s m args below meth cd K A 10 Q 0 0 ([]) [kI K aT 45 fT, kI K aM 60 fM, kI K aI 60 fI, kI K aW 60 fW, kI K aG 8 (upd fG 3 ((σ.2.2.1 4) + nI 1))] [(0, .ref aT), (1, .ref aM), (2, .ref aI), (3, .ref aW), (4, .ref aG), (5, .int (nI m9)), (6, .int ((σ.2.2.1 3) + (σ.2.2.1 6))), (7, .int (nI (mU ((σ.2.2.2 m9).2.2 0))))] 59 [.int (mGot σ)] := by
    refine k_istore hC dL_step_59 (by decide) rfl [(0, .ref aT), (1, .ref aM), (2, .ref aI), (3, .ref aW), (4, .ref aG), (5, .int (nI m9)), (6, .int ((σ.2.2.1 3) + (σ.2.2.1 6))), (7, .int (nI (mU ((σ.2.2.2 m9).2.2 0)))), (8, .int (mGot σ))] rfl ?_
    refine k_aload_n hC 0 dL_step_61 rfl rfl ?_
    refine k_bipush hC (nI 15) dL_step_62 rfl ?_
    refine k_iload hC dL_step_64 rfl ?_
    refine k_imulN hC dL_step_66 ?_
    refine k_iconst hC (nI 4) dL_step_67 rfl ?_
    refine k_iaddN hC dL_step_68 ?_
    refine k_dup2 hC dL_step_69 rfl rfl ?_
    refine k_ald hC 0 rfl (by omega) (by decide) dL_step_70 ?_
    refine k_topE (nI ((σ.2.2.2 m9).1 9)) q4 ?_
    refine k_aload_n hC 1 dL_step_71 rfl rfl ?_
    refine k_iload hC dL_step_72 rfl ?_
    refine k_aload_n hC 0 dL_step_74 rfl rfl ?_
    refine k_bipush hC (nI 11) dL_step_75 rfl ?_
    refine k_iload hC dL_step_77 rfl ?_
    refine k_aload hC dL_step_79 rfl ?_
    refine k_iconst hC (nI 1) dL_step_81 rfl ?_
    refine k_ald hC 4 rfl (by omega) (by decide) dL_step_82 ?_
    refine k_topE (kB σ.2.1) (((pk_un (by omega)).trans g1)) ?_
    refine k_perm [1, 0, 2, 3, 4] [kI K aM 60 fM, kI K aT 45 fT, kI K aI 60 fI, kI K aW 60 fW, kI K aG 8 (upd fG 3 ((σ.2.2.1 4) + nI 1))] rfl rfl ?_
    refine k_callS hC (As := [.ref aM, .int (nI m9), .ref aT, .int (nI 11), .int (mGot σ), .int (kB σ.2.1)]) (cL_take_k l K aM aT fM (fT) m9 11 ((σ.2.2.2 m9).2.2 0) σ.2.1 (mGot σ) (mIx (mGot σ)) hm3 (by decide) q11 ml9.1 hrm.2.1 hi.1.2.2.2.1 (mIx_or _) (by have := mGot_le σ (by rw [e1]; omega); rw [e1] at this; exact this)) [kI K aI 60 fI, kI K aW 60 fW, kI K aG 8 (upd fG 3 ((σ.2.2.1 4) + nI 1))] rfl (kAll4 lkM_L_24 lkT_yL_take lkN_L lkC_yL_take) 6 (by decide) ⟨(Nat.le_of_ble_eq_true rfl), (Nat.le_of_ble_eq_true rfl)⟩ rfl rfl (Nat.le_of_ble_eq_true rfl) ⟨(Nat.le_of_ble_eq_true rfl), (Nat.le_of_ble_eq_true rfl)⟩ dL_step_83 (fun v w h => ?_)
    obtain ⟨rfl, M2, rfl, hK2, hF2⟩ := h
    refine k_re 0 0 [kI K aM 60 M2, kI K aT 45 (upd fT (15 * m9 + 11) (nI ((mTake ((σ.2.2.2 m9).2.2 0) (mIx (mGot σ)) σ.2.1).1.length))), kI K aI 60 fI, kI K aW 60 fW, kI K aG 8 (upd fG 3 ((σ.2.2.1 4) + nI 1))] [.int (nI ((mTake ((σ.2.2.2 m9).2.2 0) (mIx (mGot σ)) σ.2.1).2)), .int (nI ((σ.2.2.2 m9).1 9)), .int (nI (15 * m9 + 4)), .ref aT] rfl rfl rfl rfl ?_
    refine k_perm [1, 0, 2, 3, 4] [kI K aT 45 (upd fT (15 * m9 + 11) (nI ((mTake ((σ.2.2.2 m9).2.2 0) (mIx (mGot σ)) σ.2.1).1.length))), kI K aM 60 M2, kI K aI 60 fI, kI K aW 60 fW, kI K aG 8 (upd fG 3 ((σ.2.2.1 4) + nI 1))] rfl rfl ?_
    refine k_iaddN hC dL_step_86 ?_
    refine k_ast hC 0 rfl (by omega) (by decide) dL_step_87 [kI K aT 45 (upd (upd fT (15 * m9 + 11) (nI ((mTake ((σ.2.2.2 m9).2.2 0) (mIx (mGot σ)) σ.2.1).1.length))) (15 * m9 + 4) (nI ((σ.2.2.2 m9).1 9 + (mTake ((σ.2.2.2 m9).2.2 0) (mIx (mGot σ)) σ.2.1).2))), kI K aM 60 M2, kI K aI 60 fI, kI K aW 60 fW, kI K aG 8 (upd fG 3 ((σ.2.2.1 4) + nI 1))] rfl ?_
    refine k_aload hC dL_step_88 rfl ?_
    refine k_iconst hC (nI 4) dL_step_90 rfl ?_
    refine k_dup2 hC dL_step_91 rfl rfl ?_
    refine k_ald hC 4 rfl (by omega) (by decide) dL_step_92 ?_
    refine k_topE (σ.2.2.1 5) (((pk_un (by omega)).trans g4)) ?_
    refine k_iload hC dL_step_93 rfl ?_
    refine k_iadd hC dL_step_95 ?_
    refine k_ast hC 4 rfl (by omega) (by decide) dL_step_96 [kI K aT 45 (upd (upd fT (15 * m9 + 11) (nI ((mTake ((σ.2.2.2 m9).2.2 0) (mIx (mGot σ)) σ.2.1).1.length))) (15 * m9 + 4) (nI ((σ.2.2.2 m9).1 9 + (mTake ((σ.2.2.2 m9).2.2 0) (mIx (mGot σ)) σ.2.1).2))), kI K aM 60 M2, kI K aI 60 fI, kI K aW 60 fW, kI K aG 8 (upd (upd fG 3 ((σ.2.2.1 4) + nI 1)) 4 ((σ.2.2.1 5) + (mGot σ)))] rfl ?_
    refine k_aload hC dL_step_97 rfl ?_
    refine k_iconst hC (nI 5) dL_step_99 rfl ?_
    refine k_iload hC dL_step_100 rfl ?_
    refine k_iload hC dL_step_102 rfl ?_
    refine k_isub hC dL_step_104 ?_
    refine k_ast hC 4 rfl (by omega) (by decide) dL_step_105 [kI K aT 45 (upd (upd fT (15 * m9 + 11) (nI ((mTake ((σ.2.2.2 m9).2.2 0) (mIx (mGot σ)) σ.2.1).1.length))) (15 * m9 + 4) (nI ((σ.2.2.2 m9).1 9 + (mTake ((σ.2.2.2 m9).2.2 0) (mIx (mGot σ)) σ.2.1).2))), kI K aM 60 M2, kI K aI 60 fI, kI K aW 60 fW, kI K aG 8 (upd (upd (upd fG 3 ((σ.2.2.1 4) + nI 1)) 4 ((σ.2.2.1 5) + (mGot σ))) 5 (((σ.2.2.1 3) + (σ.2.2.1 6)) - (mGot σ)))] rfl ?_
    refine k_aload hC dL_step_106 rfl ?_
    refine k_bipush hC (nI 6) dL_step_108 rfl ?_
    refine k_dup2 hC dL_step_110 rfl rfl ?_
    refine k_ald hC 4 rfl (by omega) (by decide) dL_step_111 ?_
    refine k_topE (σ.2.2.1 7) (((pk_un (by omega)).trans ((pk_un (by omega)).trans ((pk_un (by omega)).trans g6)))) ?_
    refine k_aload hC dL_step_112 rfl ?_
    refine k_iconst hC (nI 5) dL_step_114 rfl ?_
    refine k_ald hC 4 rfl (by omega) (by decide) dL_step_115 ?_
    refine k_topE (((σ.2.2.1 3) + (σ.2.2.1 6)) - (mGot σ)) pk_us ?_
    have j126 : kW p l e rmL_step s m args below meth cd K A 10 Q 0 0 ([]) [kI K aT 45 (upd (upd fT (15 * m9 + 11) (nI ((mTake ((σ.2.2.2 m9).2.2 0) (mIx (mGot σ)) σ.2.1).1.length))) (15 * m9 + 4) (nI ((σ.2.2.2 m9).1 9 + (mTake ((σ.2.2.2 m9).2.2 0) (mIx (mGot σ)) σ.2.1).2))), kI K aM 60 M2, kI K aI 60 fI, kI K aW 60 fW, kI K aG 8 (upd (upd (upd (upd fG 3 ((σ.2.2.1 4) + nI 1)) 4 ((σ.2.2.1 5) + (mGot σ))) 5 (((σ.2.2.1 3) + (σ.2.2.1 6)) - (mGot σ))) 6 (if 0 < mOwe σ then σ.2.2.1 7 + 1 else σ.2.2.1 7))] [(0, .ref aT), (1, .ref aM), (2, .ref aI), (3, .ref aW), (4, .ref aG), (5, .int (nI m9)), (6, .int ((σ.2.2.1 3) + (σ.2.2.1 6))), (7, .int (nI (mU ((σ.2.2.2 m9).2.2 0)))), (8, .int (mGot σ))] 126 [] := by
      have hq1 : qS m9 (mSold (mTick σ) (σ.2.2.2 m9)) (upd (upd fT (15 * m9 + 11) (nI ((mTake ((σ.2.2.2 m9).2.2 0) (mIx (mGot σ)) σ.2.1).1.length))) (15 * m9 + 4) (nI ((σ.2.2.2 m9).1 9 + (mTake ((σ.2.2.2 m9).2.2 0) (mIx (mGot σ)) σ.2.1).2))) M2 fI fW := ⟨⟨((pk_un (by omega)).trans ((pk_un (by omega)).trans q0)), ((pk_un (by omega)).trans ((pk_un (by omega)).trans q1)), ((pk_un (by omega)).trans ((pk_un (by omega)).trans q2)), ((pk_un (by omega)).trans ((pk_un (by omega)).trans q3)), pk_us, ((pk_un (by omega)).trans ((pk_un (by omega)).trans q5)), ((pk_un (by omega)).trans ((pk_un (by omega)).trans q6)), ((pk_un (by omega)).trans ((pk_un (by omega)).trans q7)), ((pk_un (by omega)).trans ((pk_un (by omega)).trans q8)), ((pk_un (by omega)).trans ((pk_un (by omega)).trans q9)), ((pk_un (by omega)).trans ((pk_un (by omega)).trans q10)), ((pk_un (by omega)).trans pk_us), ((pk_un (by omega)).trans ((pk_un (by omega)).trans q12)), ((pk_un (by omega)).trans ((pk_un (by omega)).trans q13)), ((pk_un (by omega)).trans ((pk_un (by omega)).trans q14))⟩, hK2, hrm.2.2.1, hrm.2.2.2⟩
      have hon : ∀ j : Nat, j ≠ m9 → qAT j fT (upd (upd fT (15 * m9 + 11) (nI ((mTake ((σ.2.2.2 m9).2.2 0) (mIx (mGot σ)) σ.2.1).1.length))) (15 * m9 + 4) (nI ((σ.2.2.2 m9).1 9 + (mTake ((σ.2.2.2 m9).2.2 0) (mIx (mGot σ)) σ.2.1).2))) ∧ qAR j fM M2 := fun j hj => ⟨(qAT_up hj (by decide) (qAT_up hj (by decide) qAT_rf)), qAR_F hj qAR_rf hF2⟩
      obtain ⟨GV, hGV⟩ : ∃ GV : Nat → Int32, GV = upd (upd (upd (upd fG 3 ((σ.2.2.1 4) + nI 1)) 4 ((σ.2.2.1 5) + (mGot σ))) 5 (((σ.2.2.1 3) + (σ.2.2.1 6)) - (mGot σ))) 6 (if 0 < mOwe σ then σ.2.2.1 7 + 1 else σ.2.2.1 7) := ⟨_, rfl⟩
      obtain ⟨TV, hTV⟩ : ∃ TV : Nat → Int32, TV = upd (upd fT (15 * m9 + 11) (nI ((mTake ((σ.2.2.2 m9).2.2 0) (mIx (mGot σ)) σ.2.1).1.length))) (15 * m9 + 4) (nI ((σ.2.2.2 m9).1 9 + (mTake ((σ.2.2.2 m9).2.2 0) (mIx (mGot σ)) σ.2.1).2)) := ⟨_, rfl⟩
      rw [← hTV] at hq1 hon
      have hzT : qZ (m9 + 1) TV := qZ_ag (hz ▸ hsz) (fun j hj => (hon j (by omega)).1)
      have v0 : GV 0 = nI (m9 + 1) := by rw [hGV]; exact ((pk_un (by omega)).trans ((pk_un (by omega)).trans ((pk_un (by omega)).trans ((pk_un (by omega)).trans g0))))
      have v1 : GV 1 = kB σ.2.1 := by rw [hGV]; exact ((pk_un (by omega)).trans ((pk_un (by omega)).trans ((pk_un (by omega)).trans ((pk_un (by omega)).trans g1))))
      have v2 : GV 2 = (mServe (mTick σ)).2.2.1 3 := by rw [hGV]; exact ((pk_un (by omega)).trans ((pk_un (by omega)).trans ((pk_un (by omega)).trans ((pk_un (by omega)).trans g2))))
      have v3 : GV 3 = (mServe (mTick σ)).2.2.1 4 := by rw [hGV]; exact ((pk_un (by omega)).trans ((pk_un (by omega)).trans ((pk_un (by omega)).trans pk_us)))
      have v4 : GV 4 = (mServe (mTick σ)).2.2.1 5 := by rw [hGV]; exact ((pk_un (by omega)).trans ((pk_un (by omega)).trans pk_us))
      have v5 : GV 5 = (mServe (mTick σ)).2.2.1 6 := by rw [hGV]; exact ((pk_un (by omega)).trans pk_us)
      have v6 : GV 6 = (mServe (mTick σ)).2.2.1 7 := by rw [hGV]; exact pk_us
      have v7 : GV 7 = mSumZ (fun k => ((mServe (mTick σ)).2.2.2 k).2.1 1) (m9 + 1) := by
        rw [hGV]; refine (((pk_un (by omega)).trans ((pk_un (by omega)).trans ((pk_un (by omega)).trans ((pk_un (by omega)).trans g7))))).trans ?_
        rw [hz]; symm
        refine mSumZ_eq (fun j => ?_)
        show (va_up σ.2.2.2 (σ.1 - 1) (mSold (mTick σ) (σ.2.2.2 (σ.1 - 1))) j).2.1 1 = (σ.2.2.2 j).2.1 1
        by_cases e : j = σ.1 - 1
        · subst e; rw [va_up_self]; rfl
        · rw [va_up_ne _ _ e]
      have hA0 : mAll (m9 + 1) (mServe (mTick σ)).2.2.2 := by have := (mServe_ok (σ := mTick σ) hσ (by show σ.1 ≠ 0; omega)).2; rw [← hz]; exact this
      have hG0 : ∀ k : Nat, k < m9 + 1 → qS k ((mServe (mTick σ)).2.2.2 k) TV M2 fI fW := by
        intro k hk
        show qS k (va_up σ.2.2.2 (σ.1 - 1) (mSold (mTick σ) (σ.2.2.2 (σ.1 - 1))) k) TV M2 fI fW
        rw [e1]
        by_cases e : k = m9
        · subst e; rw [va_up_self]; exact hq1
        · rw [va_up_ne _ _ e]; exact qS_ag (hsr k (by omega)) (qLen_of (hσ.2 k (by omega)).1) (hon k e).1 (hon k e).2 qAR_rf qAR_rf
      have hpass : mPass σ = ((mServe (mTick σ)).1, σ.2.1, (mServe (mTick σ)).2.2.1, mConveys σ.1 (mWorks σ.2.1 σ.1 (mServe (mTick σ)).2.2.2)) := rfl
      have hg9 : (mServe (mTick σ)).1 = m9 + 1 := hz
      rw [hz] at hpass
      rw [hg9] at hpass
      rw [← hGV, ← hTV]
      generalize (mServe (mTick σ)).2.2.2 = t0 at v7 hA0 hG0 hpass
      generalize (mServe (mTick σ)).2.2.1 = ge at v2 v3 v4 v5 v6 hpass
      have cv : ∀ (j : Nat) (ts : Nat → mT) (T9 M9 I9 W9 G9 : Nat → Int32), j ≤ m9 → mAll (m9 + 1) ts → (∀ k : Nat, k < m9 + 1 → qS k (ts k) T9 M9 I9 W9) → qZ (m9 + 1) T9 → G9 7 = mSumZ (fun k => (ts k).2.1 1) (m9 + 1) → (∀ i : Nat, i ≠ 7 → G9 i = GV i) → mConveys (j + 1) ts = mConveys (m9 + 1) (mWorks σ.2.1 (m9 + 1) t0) → kW p l e rmL_step s m args below meth cd K A 10 Q 0 0 ([]) [kI K aT 45 T9, kI K aM 60 M9, kI K aI 60 I9, kI K aW 60 W9, kI K aG 8 G9] [(0, .ref aT), (1, .ref aM), (2, .ref aI), (3, .ref aW), (4, .ref aG), (5, .int (nI m9)), (9, .int (nI j))] 155 [] := by
        intro j
        induction j with
        | zero =>
          intro ts T9 M9 I9 W9 G9 hj hA9 hG9 hz9 h97 hG he
          refine k_iload hC dL_step_155 rfl ?_
          refine k_if_leN hC 175 dL_step_157 (by decide) (by omega) (fun c9 => ?_) (fun c9 => ?_)
          · exact k_vret hC hE (Nat.le_of_ble_eq_true rfl) (Nat.le_of_ble_eq_true rfl) dL_step_175 (by rw [hpass, ← he]; exact ⟨rfl, T9, M9, I9, W9, G9, rfl, (hG 0 (by decide)).trans v0, (hG 1 (by decide)).trans v1, (hG 2 (by decide)).trans v2, (hG 3 (by decide)).trans v3, (hG 4 (by decide)).trans v4, (hG 5 (by decide)).trans v5, (hG 6 (by decide)).trans v6, h97, hG9, hz9⟩)
          · exact absurd rfl c9
        | succ s7 ih2 =>
          intro ts T9 M9 I9 W9 G9 hj hA9 hG9 hz9 h97 hG he
          refine k_iload hC dL_step_155 rfl ?_
          refine k_if_leN hC 175 dL_step_157 (by decide) (by omega) (fun c9 => ?_) (fun c9 => ?_)
          · exact absurd c9 (by omega)
          · refine k_iload hC dL_step_160 rfl ?_
            refine k_aload_n hC 0 dL_step_162 rfl rfl ?_
            refine k_aload_n hC 1 dL_step_163 rfl rfl ?_
            refine k_aload_n hC 2 dL_step_164 rfl rfl ?_
            refine k_aload_n hC 3 dL_step_165 rfl rfl ?_
            have i1 := (hA9 (s7 + 1) (by omega)).1
            rw [show decide (s7 + 1 = 0) = false by simp] at i1
            refine k_callS hC (As := [.int (nI (s7 + 1)), .ref aT, .ref aM, .ref aI, .ref aW]) (cL_carry_k l K aT aM aI aW T9 M9 I9 W9 s7 (by omega) (ts (s7 + 1)) (ts s7) (decide (s7 = 0)) (hG9 (s7 + 1) (by omega)) (hG9 s7 (by omega)) i1 (hA9 s7 (by omega)).1) [kI K aG 8 G9] rfl (kAll4 lkM_L_32 lkT_yL_carry lkN_L lkC_yL_carry) 5 (by decide) ⟨(Nat.le_of_ble_eq_true rfl), (Nat.le_of_ble_eq_true rfl)⟩ rfl rfl (Nat.le_of_ble_eq_true rfl) ⟨(Nat.le_of_ble_eq_true rfl), (Nat.le_of_ble_eq_true rfl)⟩ dL_step_166 (fun v w h => ?_)
            obtain ⟨rfl, T5, M5, I5, W5, rfl, hr1, hr2, hro⟩ := h
            refine k_re 0 0 [kI K aT 45 T5, kI K aM 60 M5, kI K aI 60 I5, kI K aW 60 W5, kI K aG 8 G9] [] rfl rfl rfl rfl ?_
            refine k_iinc hC dL_step_169 (by decide) rfl rfl (nI (s7 + 1 - 1)) (kdec (s7 + 1) 1 (by omega) rfl) [(0, .ref aT), (1, .ref aM), (2, .ref aI), (3, .ref aW), (4, .ref aG), (5, .int (nI m9)), (9, .int (nI (s7 + 1 - 1)))] rfl ?_
            refine k_goto hC 155 dL_step_172 (by decide) ?_
            have hzz := mConvey_z (ts (s7 + 1)) (ts s7)
            refine ih2 _ T5 M5 I5 W5 G9 (by omega) (mConvey_all hA9 (by omega)) (fun k hk => ?_) (qZ_ag hz9 (fun j hj => (hro j (by omega) (by omega)).1)) ?_ hG he
            · by_cases e : k = s7
              · subst e; rw [va_up_self]; exact hr2
              · rw [va_up_ne _ _ e]
                by_cases e2 : k = s7 + 1
                · subst e2; rw [va_up_self]; exact hr1
                · rw [va_up_ne _ _ e2]; exact qS_a4 (hG9 k hk) (qLen_of (hA9 k hk).1) (hro k e2 e)
            · rw [h97]; symm
              refine mSumZ_eq (fun k => ?_)
              by_cases e : k = s7
              · subst e; rw [va_up_self, hzz.2]
              · rw [va_up_ne _ _ e]
                by_cases e2 : k = s7 + 1
                · subst e2; rw [va_up_self, hzz.1]
                · rw [va_up_ne _ _ e2]
      have wk : ∀ (j : Nat) (ts : Nat → mT) (T9 M9 I9 G9 : Nat → Int32), j ≤ m9 + 1 → mAll (m9 + 1) ts → (∀ k : Nat, k < m9 + 1 → qS k (ts k) T9 M9 I9 fW) → qZ (m9 + 1) T9 → G9 7 = mSumZ (fun k => (ts k).2.1 1) (m9 + 1) → (∀ i : Nat, i ≠ 7 → G9 i = GV i) → mWorks σ.2.1 j ts = mWorks σ.2.1 (m9 + 1) t0 → kW p l e rmL_step s m args below meth cd K A 10 Q 0 0 ([]) [kI K aT 45 T9, kI K aM 60 M9, kI K aI 60 I9, kI K aW 60 fW, kI K aG 8 G9] [(0, .ref aT), (1, .ref aM), (2, .ref aI), (3, .ref aW), (4, .ref aG), (5, .int (nI m9)), (9, .int (nI j + (-1)))] 130 [] := by
        intro j
        induction j with
        | zero =>
          intro ts T9 M9 I9 G9 hj hA9 hG9 hz9 h97 hG he
          refine k_iload hC dL_step_130 rfl ?_
          refine k_if_lt hC 151 dL_step_132 (by decide) (fun c9 => ?_) (fun c9 => ?_)
          · refine k_iload hC dL_step_151 rfl ?_
            refine k_istore hC dL_step_153 (by decide) rfl [(0, .ref aT), (1, .ref aM), (2, .ref aI), (3, .ref aW), (4, .ref aG), (5, .int (nI m9)), (9, .int (nI m9))] rfl ?_
            exact cv m9 ts T9 M9 I9 fW G9 (Nat.le_refl _) hA9 hG9 hz9 h97 hG (by rw [← he]; rfl)
          · exact absurd (show nI 0 + (-1) < 0 by decide) c9
        | succ s7 ih2 =>
          intro ts T9 M9 I9 G9 hj hA9 hG9 hz9 h97 hG he
          have hk : s7 < m9 + 1 := hj
          refine k_lE (show _ = [(0, .ref aT), (1, .ref aM), (2, .ref aI), (3, .ref aW), (4, .ref aG), (5, .int (nI m9)), (9, .int (nI s7))] by rw [pk_m1]) ?_
          refine k_iload hC dL_step_130 rfl ?_
          refine k_if_lt hC 151 dL_step_132 (by decide) (fun c9 => ?_) (fun c9 => ?_)
          · exact absurd c9 (nI_pos (by omega))
          · refine k_iload hC dL_step_135 rfl ?_
            refine k_aload_n hC 0 dL_step_137 rfl rfl ?_
            refine k_aload_n hC 1 dL_step_138 rfl rfl ?_
            refine k_aload_n hC 2 dL_step_139 rfl rfl ?_
            refine k_aload hC dL_step_140 rfl ?_
            have ii := (hA9 s7 hk).1
            refine k_perm [0, 1, 2, 4, 3] [kI K aT 45 T9, kI K aM 60 M9, kI K aI 60 I9, kI K aG 8 G9, kI K aW 60 fW] rfl rfl ?_
            refine k_callS hC (As := [.int (nI s7), .ref aT, .ref aM, .ref aI, .ref aG]) (cL_stage_k l K aT aM aI aG T9 M9 I9 G9 fW s7 (by omega) (ts s7) σ.2.1 (hG9 s7 hk) ii ((hG 1 (by decide)).trans v1)) [kI K aW 60 fW] rfl (kAll4 lkM_L_28 lkT_yL_stage lkN_L lkC_yL_stage) 5 (by decide) ⟨(Nat.le_of_ble_eq_true rfl), (Nat.le_of_ble_eq_true rfl)⟩ rfl rfl (Nat.le_of_ble_eq_true rfl) ⟨(Nat.le_of_ble_eq_true rfl), (Nat.le_of_ble_eq_true rfl)⟩ dL_step_142 (fun v w h => ?_)
            obtain ⟨rfl, T5, M5, I5, G5, d5, rfl, hr5, ho5, hd5, hd7, hG5⟩ := h
            refine k_re 0 0 [kI K aT 45 T5, kI K aM 60 M5, kI K aI 60 I5, kI K aG 8 G5, kI K aW 60 fW] [] rfl rfl rfl rfl ?_
            refine k_perm [0, 1, 2, 4, 3] [kI K aT 45 T5, kI K aM 60 M5, kI K aI 60 I5, kI K aW 60 fW, kI K aG 8 G5] rfl rfl ?_
            refine k_iinc hC dL_step_145 (by decide) rfl rfl ((nI s7) + (-1)) rfl [(0, .ref aT), (1, .ref aM), (2, .ref aI), (3, .ref aW), (4, .ref aG), (5, .int (nI m9)), (9, .int ((nI s7) + (-1)))] rfl ?_
            refine k_goto hC 130 dL_step_148 (by decide) ?_
            refine ih2 (va_up ts s7 (mWork σ.2.1 (decide (s7 = 0)) (ts s7))) T5 M5 I5 G5 (Nat.le_of_lt hj) (mAll_put hA9 (mWork_inv ii) (by rw [mWork_1]; exact (hA9 s7 hk).2)) (fun k hk2 => ?_) (qZ_ag hz9 (fun j hj2 => (ho5 j (by omega)).1)) ?_ (fun i hi => (hG5 i hi).trans (hG i hi)) he
            · by_cases e : k = s7
              · subst e; rw [va_up_self]; exact hr5
              · rw [va_up_ne _ _ e]; exact qS_ag (hG9 k hk2) (qLen_of (hA9 k hk2).1) (ho5 k e).1 (ho5 k e).2.1 (ho5 k e).2.2 qAR_rf
            · rw [hd7, h97]; symm
              exact mSumZ_up hk (by rw [va_up_self]; exact hd5) (fun j hj2 => by rw [va_up_ne _ _ hj2])
      refine k_iload hC dL_step_126 rfl ?_
      refine k_istore hC dL_step_128 (by decide) rfl [(0, .ref aT), (1, .ref aM), (2, .ref aI), (3, .ref aW), (4, .ref aG), (5, .int (nI m9)), (6, .int ((σ.2.2.1 3) + (σ.2.2.1 6))), (7, .int (nI (mU ((σ.2.2.2 m9).2.2 0)))), (8, .int (mGot σ)), (9, .int (nI m9))] rfl ?_
      refine k_lsub [0, 1, 2, 3, 4, 5, 9] [(0, .ref aT), (1, .ref aM), (2, .ref aI), (3, .ref aW), (4, .ref aG), (5, .int (nI m9)), (9, .int (nI m9))] rfl ?_
      refine k_lE (show _ = [(0, .ref aT), (1, .ref aM), (2, .ref aI), (3, .ref aW), (4, .ref aG), (5, .int (nI m9)), (9, .int (nI (m9 + 1) + (-1)))] by rw [pk_m1]) ?_
      exact wk (m9 + 1) t0 TV M2 fI GV (Nat.le_refl _) hA0 hG0 hzT v7 (fun _ _ => rfl) rfl
    refine k_if_le hC 123 dL_step_116 (by decide) (fun c8 => ?_) (fun c8 => ?_)
    · have hp : ¬ 0 < mOwe σ := Int32.not_lt.mpr c8
      refine k_iconst hC (nI 0) dL_step_123 rfl ?_
      refine k_iadd hC dL_step_124 ?_
      refine k_topE (if 0 < mOwe σ then σ.2.2.1 7 + 1 else σ.2.2.1 7) (by rw [if_neg hp]; exact Int32.add_zero _) ?_
      refine k_ast hC 4 rfl (by omega) (by decide) dL_step_125 [kI K aT 45 (upd (upd fT (15 * m9 + 11) (nI ((mTake ((σ.2.2.2 m9).2.2 0) (mIx (mGot σ)) σ.2.1).1.length))) (15 * m9 + 4) (nI ((σ.2.2.2 m9).1 9 + (mTake ((σ.2.2.2 m9).2.2 0) (mIx (mGot σ)) σ.2.1).2))), kI K aM 60 M2, kI K aI 60 fI, kI K aW 60 fW, kI K aG 8 (upd (upd (upd (upd fG 3 ((σ.2.2.1 4) + nI 1)) 4 ((σ.2.2.1 5) + (mGot σ))) 5 (((σ.2.2.1 3) + (σ.2.2.1 6)) - (mGot σ))) 6 (if 0 < mOwe σ then σ.2.2.1 7 + 1 else σ.2.2.1 7))] rfl ?_
      exact j126
    · have hp : 0 < mOwe σ := Int32.not_le.mp c8
      refine k_iconst hC (nI 1) dL_step_119 rfl ?_
      refine k_goto hC 124 dL_step_120 (by decide) ?_
      refine k_iadd hC dL_step_124 ?_
      refine k_topE (if 0 < mOwe σ then σ.2.2.1 7 + 1 else σ.2.2.1 7) (by rw [if_pos hp]; rfl) ?_
      refine k_ast hC 4 rfl (by omega) (by decide) dL_step_125 [kI K aT 45 (upd (upd fT (15 * m9 + 11) (nI ((mTake ((σ.2.2.2 m9).2.2 0) (mIx (mGot σ)) σ.2.1).1.length))) (15 * m9 + 4) (nI ((σ.2.2.2 m9).1 9 + (mTake ((σ.2.2.2 m9).2.2 0) (mIx (mGot σ)) σ.2.1).2))), kI K aM 60 M2, kI K aI 60 fI, kI K aW 60 fW, kI K aG 8 (upd (upd (upd (upd fG 3 ((σ.2.2.1 4) + nI 1)) 4 ((σ.2.2.1 5) + (mGot σ))) 5 (((σ.2.2.1 3) + (σ.2.2.1 6)) - (mGot σ))) 6 (if 0 < mOwe σ then σ.2.2.1 7 + 1 else σ.2.2.1 7))] rfl ?_
      exact j126
  refine k_icmp_ge hC 57 dL_step_49 (by decide) (fun c7 => ?_) (fun c7 => ?_)
  · refine k_iload hC dL_step_57 rfl ?_
    refine k_topE (mGot σ) (by unfold mGot; rw [e1, if_neg (fun q => absurd (Int32.lt_of_lt_of_le q c7) Int32.lt_irrefl)]) ?_
    exact j59
  · refine k_iload hC dL_step_52 rfl ?_
    refine k_topE (mGot σ) (by unfold mGot; rw [e1, if_pos (Int32.not_le.mp c7)]) ?_
    refine k_goto hC 59 dL_step_54 (by decide) ?_
    exact j59
