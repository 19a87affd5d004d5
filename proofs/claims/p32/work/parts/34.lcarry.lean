/-! the law's own line: what travels to a stage -/
theorem qlen1 (L : List (Nat × Nat)) (x : Nat × Nat) : (L ++ [x]).length = L.length + 1 := by rw [List.length_append]; rfl
def qMid (τ : mT) (i : Nat) : mT := (τ.1, τ.2.1, va_up (va_up τ.2.2 1 (τ.2.2 1 ++ mArr ((τ.2.2 2).take i))) 2 ((τ.2.2 2).drop i ++ mStay ((τ.2.2 2).take i)))
theorem qMid_0 (τ : mT) {s9 : Nat} {fT fM fI fW : Nat → Int32} (h : qS s9 τ fT fM fI fW) : qS s9 (qMid τ 0) fT fM fI fW := by
  have e1 : (qMid τ 0).2.2 1 = τ.2.2 1 := List.append_nil _
  have e2 : (qMid τ 0).2.2 2 = τ.2.2 2 := List.append_nil _
  obtain ⟨⟨q0, q1, q2, q3, q4, q5, q6, q7, q8, q9, q10, q11, q12, q13, q14⟩, h1, h2, h3⟩ := h
  exact ⟨⟨q0, q1, q2, q3, q4, q5, q6, q7, q8, q9, q10, q11, by rw [e1]; exact q12, by rw [e2]; exact q13, q14⟩, h1, by rw [e1]; exact h2, by rw [e2]; exact h3⟩
theorem qMid_end (τ : mT) {i : Nat} (hi : i = (τ.2.2 2).length) : qMid τ i = mBring τ := by
  subst hi
  unfold qMid mBring
  rw [List.take_length, List.drop_length, List.nil_append]
theorem qMid_head (τ : mT) {i : Nat} (hi : i < (τ.2.2 2).length) : (qMid τ i).2.2 2 = mg (τ.2.2 2) i :: ((τ.2.2 2).drop (i + 1) ++ mStay ((τ.2.2 2).take i)) := by
  show (τ.2.2 2).drop i ++ mStay ((τ.2.2 2).take i) = _
  rw [List.drop_eq_getElem_cons hi]
  unfold mg
  rw [List.getD_eq_getElem?_getD, List.getElem?_eq_getElem hi]
  rfl
theorem qMid_s (τ : mT) {i : Nat} (hi : i < (τ.2.2 2).length) (h2 : 1 < (mg (τ.2.2 2) i).2) : (qMid τ (i + 1)).2.2 2 = ((τ.2.2 2).drop (i + 1) ++ mStay ((τ.2.2 2).take i)) ++ [((mg (τ.2.2 2) i).1, (mg (τ.2.2 2) i).2 - 1)] ∧ (qMid τ (i + 1)).2.2 1 = (qMid τ i).2.2 1 := by
  have h7 := mStay_t hi h2
  refine ⟨?_, ?_⟩
  · show (τ.2.2 2).drop (i + 1) ++ mStay ((τ.2.2 2).take (i + 1)) = _
    rw [h7.1, List.append_assoc]
  · show τ.2.2 1 ++ mArr ((τ.2.2 2).take (i + 1)) = τ.2.2 1 ++ mArr ((τ.2.2 2).take i)
    rw [h7.2]
theorem qMid_a (τ : mT) {i : Nat} (hi : i < (τ.2.2 2).length) (h2 : ¬ 1 < (mg (τ.2.2 2) i).2) : (qMid τ (i + 1)).2.2 2 = ((τ.2.2 2).drop (i + 1) ++ mStay ((τ.2.2 2).take i)) ∧ (qMid τ (i + 1)).2.2 1 = (qMid τ i).2.2 1 ++ [((mg (τ.2.2 2) i).1, 1)] := by
  have h7 := mStay_f hi h2
  refine ⟨?_, ?_⟩
  · show (τ.2.2 2).drop (i + 1) ++ mStay ((τ.2.2 2).take (i + 1)) = _
    rw [h7.1]
  · show τ.2.2 1 ++ mArr ((τ.2.2 2).take (i + 1)) = (τ.2.2 1 ++ mArr ((τ.2.2 2).take i)) ++ _
    rw [h7.2, List.append_assoc]
theorem qMid_1l (τ : mT) {i : Nat} (hi : i ≤ (τ.2.2 2).length) : ((qMid τ i).2.2 1).length ≤ (τ.2.2 1).length + (τ.2.2 2).length := by
  have := mStay_le hi
  show (τ.2.2 1 ++ mArr ((τ.2.2 2).take i)).length ≤ _
  rw [List.length_append]
  omega
theorem qMid_2l (τ : mT) {i : Nat} (hi : i ≤ (τ.2.2 2).length) : ((qMid τ i).2.2 2).length ≤ (τ.2.2 2).length := by
  have := mStay_le hi
  show ((τ.2.2 2).drop i ++ mStay ((τ.2.2 2).take i)).length ≤ _
  rw [List.length_append, List.length_drop]
  omega
/-- beside two stages -/
def qA4 (j : Nat) (fT fM fI fW gT gM gI gW : Nat → Int32) : Prop := qAT j fT gT ∧ qAR j fM gM ∧ qAR j fI gI ∧ qAR j fW gW
theorem qA4_tr {j : Nat} {fT fM fI fW gT gM gI gW hT hM hI hW : Nat → Int32} (h1 : qA4 j fT fM fI fW gT gM gI gW) (h2 : qA4 j gT gM gI gW hT hM hI hW) : qA4 j fT fM fI fW hT hM hI hW := ⟨qAT_tr h1.1 h2.1, qAR_tr h1.2.1 h2.2.1, qAR_tr h1.2.2.1 h2.2.2.1, qAR_tr h1.2.2.2 h2.2.2.2⟩
theorem qS_a4 {j : Nat} {τ : mT} {fT fM fI fW gT gM gI gW : Nat → Int32} (h : qS j τ fT fM fI fW) (hl : qLen τ) (ha : qA4 j fT fM fI fW gT gM gI gW) : qS j τ gT gM gI gW := qS_ag h hl ha.1 ha.2.1 ha.2.2.1 ha.2.2.2
abbrev rmL_carry : Room := { frames := 1, cells := 0, slots := 0, locals := 25 }
set_option maxRecDepth 100000 in
set_option maxHeartbeats 4000000 in
theorem cL_carry_k (l : Launch) (K : kE) (aT aM aI aW : Nat) (fT fM fI fW : Nat → Int32) (k : Nat) (hk : k + 1 < 3) (τ α : mT) (bb : Bool) (hq : qS (k + 1) τ fT fM fI fW) (hq2 : qS k α fT fM fI fW) (hI : mInv false τ) (hI2 : mInv bb α) : kM l yL_carry (kws yL_carry cL_carry 9 none) rmL_carry K [.int (nI (k + 1)), .ref aT, .ref aM, .ref aI, .ref aW] [kI K aT 45 fT, kI K aM 60 fM, kI K aI 60 fI, kI K aW 60 fW] (fun v w => v = none ∧ ∃ T1 M1 I1 W1 : Nat → Int32, w = [kI K aT 45 T1, kI K aM 60 M1, kI K aI 60 I1, kI K aW 60 W1] ∧ qS (k + 1) (mConvey τ α).1 T1 M1 I1 W1 ∧ qS k (mConvey τ α).2 T1 M1 I1 W1 ∧ ∀ j : Nat, j ≠ k + 1 → j ≠ k → qA4 j fT fM fI fW T1 M1 I1 W1) := by
  refine kM_of (pl := []) (X := [kI K aT 45 fT, kI K aM 60 fM, kI K aI 60 fI, kI K aW 60 fW]) rfl (by decide) (Nat.le_of_ble_eq_true rfl) ?_
  intro p e s m args below meth cd A Q hC hnm hE
  refine k_eX (show _ = [kI K aT 45 fT, kI K aM 60 fM, kI K aI 60 fI, kI K aW 60 fW] from rfl) ?_
  have hn := hI.1
  have hl0 := mInv_L0 hI
  have hl1 := mInv_L1 hI
  have hl2 := mInv_L2 hI
  have ph2 : ∀ (n : Nat) (τ9 α9 : mT) (T9 M9 I9 W9 : Nat → Int32), n = min (τ9.1 14) (α9.2.2 0).length → mConvey τ α = mFetch n τ9 α9 → qS (k + 1) τ9 T9 M9 I9 W9 → qS k α9 T9 M9 I9 W9 → mInv false τ9 → mInv bb α9 → (∀ j : Nat, j ≠ k + 1 → j ≠ k → qA4 j fT fM fI fW T9 M9 I9 W9) → kW p l e rmL_carry s m args below meth cd K A 9 Q 0 0 ([]) [kI K aT 45 T9, kI K aM 60 M9, kI K aI 60 I9, kI K aW 60 W9] [(0, .int (nI (k + 1))), (1, .ref aT), (2, .ref aM), (3, .ref aI), (4, .ref aW), (5, .int (nI (15 * (k + 1))))] 79 [] := by
    intro n
    induction n with
    | zero =>
      intro τ9 α9 T9 M9 I9 W9 hmin he hp hv hJ hJ2 ho9
      obtain ⟨p0, p1, p2, p3, p4, p5, p6, p7, p8, p9, p10, p11, p12, p13, p14⟩ := id hp.1
      obtain ⟨v0, v1, v2, v3, v4, v5, v6, v7, v8, v9, v10, v11, v12, v13, v14⟩ := id hv.1
      have j2 := mInv_L2 hJ
      have j1 := mInv_L1 hJ
      have a0 := mInv_L0 hJ2
      refine k_aload_n hC 1 dL_carry_79 rfl rfl ?_
      refine k_iload hC dL_carry_80 rfl ?_
      refine k_bipush hC (nI 10) dL_carry_82 rfl ?_
      refine k_iaddN hC dL_carry_84 ?_
      refine k_ald hC 0 rfl (by omega) (by decide) dL_carry_85 ?_
      refine k_topE (nI (τ9.1 14)) p10 ?_
      refine k_if_leN hC 199 dL_carry_86 (by decide) (by omega) (fun c1 => ?_) (fun c1 => ?_)
      · exact k_vret hC hE (Nat.le_of_ble_eq_true rfl) (Nat.le_of_ble_eq_true rfl) dL_carry_199 (by rw [he]; exact ⟨rfl, T9, M9, I9, W9, rfl, hp, hv, ho9⟩)
      · refine k_aload_n hC 1 dL_carry_89 rfl rfl ?_
        refine k_iload hC dL_carry_90 rfl ?_
        refine k_bipush hC (nI 15) dL_carry_92 rfl ?_
        refine k_isubN hC dL_carry_94 (by omega) ?_
        refine k_topE (nI (15 * k)) (congrArg nI (by omega)) ?_
        refine k_bipush hC (nI 11) dL_carry_95 rfl ?_
        refine k_iaddN hC dL_carry_97 ?_
        refine k_ald hC 0 rfl (by omega) (by decide) dL_carry_98 ?_
        refine k_topE (nI ((α9.2.2 0).length)) v11 ?_
        refine k_if_leN hC 199 dL_carry_99 (by decide) (by omega) (fun c2 => ?_) (fun c2 => ?_)
        · exact k_vret hC hE (Nat.le_of_ble_eq_true rfl) (Nat.le_of_ble_eq_true rfl) dL_carry_199 (by rw [he]; exact ⟨rfl, T9, M9, I9, W9, rfl, hp, hv, ho9⟩)
        · exact absurd (show (α9.2.2 0).length = 0 by omega) c2
    | succ n ih =>
      intro τ9 α9 T9 M9 I9 W9 hmin he hp hv hJ hJ2 ho9
      have jn := hJ.1
      have j0 := mInv_L0 hJ
      have j1 := mInv_L1 hJ
      have j2 := mInv_L2 hJ
      have a0 := mInv_L0 hJ2
      have a9 : α9.1 9 ≤ 9 := by have := hJ2.2.1; have := hJ2.1; omega
      obtain ⟨x, t, hx⟩ : ∃ x t, α9.2.2 0 = x :: t := by
        cases hc : α9.2.2 0 with
        | nil => rw [hc] at hmin; simp at hmin
        | cons x t => exact ⟨x, t, rfl⟩
      have hlx : (α9.2.2 0).length = t.length + 1 := by rw [hx]; rfl
      have hk0 := hJ2.2.2.2.1
      rw [hx] at hk0
      have hox := mOk_1 hk0 (List.mem_cons_self)
      obtain ⟨p0, p1, p2, p3, p4, p5, p6, p7, p8, p9, p10, p11, p12, p13, p14⟩ := id hp.1
      obtain ⟨v0, v1, v2, v3, v4, v5, v6, v7, v8, v9, v10, v11, v12, v13, v14⟩ := id hv.1
      have vM := hv.2.1
      rw [hx] at vM
      have v11x : T9 (15 * k + 11) = nI (x :: t).length := by rw [← hx]; exact v11
      refine k_aload_n hC 1 dL_carry_79 rfl rfl ?_
      refine k_iload hC dL_carry_80 rfl ?_
      refine k_bipush hC (nI 10) dL_carry_82 rfl ?_
      refine k_iaddN hC dL_carry_84 ?_
      refine k_ald hC 0 rfl (by omega) (by decide) dL_carry_85 ?_
      refine k_topE (nI (τ9.1 14)) p10 ?_
      refine k_if_leN hC 199 dL_carry_86 (by decide) (by omega) (fun c1 => ?_) (fun c1 => ?_)
      · exact absurd c1 (by omega)
      · refine k_aload_n hC 1 dL_carry_89 rfl rfl ?_
        refine k_iload hC dL_carry_90 rfl ?_
        refine k_bipush hC (nI 15) dL_carry_92 rfl ?_
        refine k_isubN hC dL_carry_94 (by omega) ?_
        refine k_topE (nI (15 * k)) (congrArg nI (by omega)) ?_
        refine k_bipush hC (nI 11) dL_carry_95 rfl ?_
        refine k_iaddN hC dL_carry_97 ?_
        refine k_ald hC 0 rfl (by omega) (by decide) dL_carry_98 ?_
        refine k_topE (nI ((α9.2.2 0).length)) v11 ?_
        refine k_if_leN hC 199 dL_carry_99 (by decide) (by omega) (fun c2 => ?_) (fun c2 => ?_)
        · exact absurd c2 (by omega)
        · refine k_aload_n hC 2 dL_carry_102 rfl rfl ?_
          refine k_iload_n hC 0 dL_carry_103 rfl rfl ?_
          refine k_iconst hC (nI 1) dL_carry_104 rfl ?_
          refine k_isubN hC dL_carry_105 (by omega) ?_
          refine k_topE (nI k) rfl ?_
          refine k_aload_n hC 1 dL_carry_106 rfl rfl ?_
          refine k_bipush hC (nI 11) dL_carry_107 rfl ?_
          refine k_perm [1, 0, 2, 3] [kI K aM 60 M9, kI K aT 45 T9, kI K aI 60 I9, kI K aW 60 W9] rfl rfl ?_
          refine k_callS hC (As := [.ref aM, .int (nI k), .ref aT, .int (nI 11)]) (cL_first_k l K aM aT M9 T9 k 11 x t (by omega) (by decide) v11x (by show t.length + 1 ≤ 20; omega) vM) [kI K aI 60 I9, kI K aW 60 W9] rfl (kAll4 lkM_L_10 lkT_yL_first lkN_L lkC_yL_first) 4 (by decide) ⟨(Nat.le_of_ble_eq_true rfl), (Nat.le_of_ble_eq_true rfl)⟩ rfl rfl (Nat.le_of_ble_eq_true rfl) ⟨(Nat.le_of_ble_eq_true rfl), (Nat.le_of_ble_eq_true rfl)⟩ dL_carry_109 (fun v w h => ?_)
          obtain ⟨rfl, M2, rfl, hK2, hF2⟩ := h
          refine k_re 0 0 [kI K aM 60 M2, kI K aT 45 (upd T9 (15 * k + 11) (nI t.length)), kI K aI 60 I9, kI K aW 60 W9] [.int (nI (qv x))] rfl rfl rfl rfl ?_
          refine k_perm [1, 0, 2, 3] [kI K aT 45 (upd T9 (15 * k + 11) (nI t.length)), kI K aM 60 M2, kI K aI 60 I9, kI K aW 60 W9] rfl rfl ?_
          have hxv : qv x = 100 * x.2 + x.1 := rfl
          refine k_istore hC dL_carry_112 (by decide) rfl [(0, .int (nI (k + 1))), (1, .ref aT), (2, .ref aM), (3, .ref aI), (4, .ref aW), (5, .int (nI (15 * (k + 1)))), (7, .int (nI (qv x)))] rfl ?_
          refine k_aload_n hC 1 dL_carry_114 rfl rfl ?_
          refine k_iload hC dL_carry_115 rfl ?_
          refine k_bipush hC (nI 15) dL_carry_117 rfl ?_
          refine k_isubN hC dL_carry_119 (by omega) ?_
          refine k_topE (nI (15 * k)) (congrArg nI (by omega)) ?_
          refine k_iconst hC (nI 4) dL_carry_120 rfl ?_
          refine k_iaddN hC dL_carry_121 ?_
          refine k_dup2 hC dL_carry_122 rfl rfl ?_
          refine k_ald hC 0 rfl (by omega) (by decide) dL_carry_123 ?_
          refine k_topE (nI (α9.1 9)) (((pk_un (by omega)).trans v4)) ?_
          refine k_iload hC dL_carry_124 rfl ?_
          refine k_bipush hC (nI 100) dL_carry_126 rfl ?_
          refine k_idivN hC dL_carry_128 (by omega) (by omega) (by omega) ?_
          refine k_topE (nI x.2) (by congr 1; omega) ?_
          refine k_iaddN hC dL_carry_129 ?_
          refine k_ast hC 0 rfl (by omega) (by decide) dL_carry_130 [kI K aT 45 (upd (upd T9 (15 * k + 11) (nI t.length)) (15 * k + 4) (nI (α9.1 9 + x.2))), kI K aM 60 M2, kI K aI 60 I9, kI K aW 60 W9] rfl ?_
          refine k_aload_n hC 1 dL_carry_131 rfl rfl ?_
          refine k_iload hC dL_carry_132 rfl ?_
          refine k_bipush hC (nI 10) dL_carry_134 rfl ?_
          refine k_iaddN hC dL_carry_136 ?_
          refine k_dup2 hC dL_carry_137 rfl rfl ?_
          refine k_ald hC 0 rfl (by omega) (by decide) dL_carry_138 ?_
          refine k_topE (nI (τ9.1 14)) (((pk_un (by omega)).trans ((pk_un (by omega)).trans p10))) ?_
          refine k_iconst hC (nI 1) dL_carry_139 rfl ?_
          refine k_isubN hC dL_carry_140 (by omega) ?_
          refine k_ast hC 0 rfl (by omega) (by decide) dL_carry_141 [kI K aT 45 (upd (upd (upd T9 (15 * k + 11) (nI t.length)) (15 * k + 4) (nI (α9.1 9 + x.2))) (15 * (k + 1) + 10) (nI ((τ9.1 14) - 1))), kI K aM 60 M2, kI K aI 60 I9, kI K aW 60 W9] rfl ?_
          refine k_aload_n hC 1 dL_carry_142 rfl rfl ?_
          refine k_iload hC dL_carry_143 rfl ?_
          refine k_bipush hC (nI 8) dL_carry_145 rfl ?_
          refine k_iaddN hC dL_carry_147 ?_
          refine k_ald hC 0 rfl (by omega) (by decide) dL_carry_148 ?_
          refine k_topE (nI (τ9.1 15)) (((pk_un (by omega)).trans ((pk_un (by omega)).trans ((pk_un (by omega)).trans p8)))) ?_
          refine k_if_neN hC 171 dL_carry_149 (by decide) (by omega) (fun c3 => ?_) (fun c3 => ?_)
          · have eg : (va_up τ9.1 14 (τ9.1 14 - 1), τ9.2.1, va_up τ9.2.2 2 (τ9.2.2 2 ++ [(x.1, τ9.1 15)])) = mGet τ9 x := by unfold mGet; rw [if_neg c3]
            refine k_aload hC dL_carry_171 rfl ?_
            refine k_iload_n hC 0 dL_carry_173 rfl rfl ?_
            refine k_aload_n hC 1 dL_carry_174 rfl rfl ?_
            refine k_bipush hC (nI 13) dL_carry_175 rfl ?_
            refine k_bipush hC (nI 100) dL_carry_177 rfl ?_
            refine k_aload_n hC 1 dL_carry_179 rfl rfl ?_
            refine k_iload hC dL_carry_180 rfl ?_
            refine k_bipush hC (nI 8) dL_carry_182 rfl ?_
            refine k_iaddN hC dL_carry_184 ?_
            refine k_ald hC 0 rfl (by omega) (by decide) dL_carry_185 ?_
            refine k_topE (nI (τ9.1 15)) (((pk_un (by omega)).trans ((pk_un (by omega)).trans ((pk_un (by omega)).trans p8)))) ?_
            refine k_imulN hC dL_carry_186 ?_
            refine k_iload hC dL_carry_187 rfl ?_
            refine k_bipush hC (nI 100) dL_carry_189 rfl ?_
            refine k_iremN hC dL_carry_191 (by omega) (by omega) (by omega) ?_
            refine k_topE (nI x.1) (by congr 1; omega) ?_
            refine k_iaddN hC dL_carry_192 ?_
            refine k_topE (nI (qv (x.1, τ9.1 15))) rfl ?_
            refine k_perm [3, 0, 1, 2] [kI K aW 60 W9, kI K aT 45 (upd (upd (upd T9 (15 * k + 11) (nI t.length)) (15 * k + 4) (nI (α9.1 9 + x.2))) (15 * (k + 1) + 10) (nI ((τ9.1 14) - 1))), kI K aM 60 M2, kI K aI 60 I9] rfl rfl ?_
            refine k_callS hC (As := [.ref aW, .int (nI (k + 1)), .ref aT, .int (nI 13), .int (nI (qv (x.1, τ9.1 15)))]) (cL_add_k l K aW aT W9 (upd (upd (upd T9 (15 * k + 11) (nI t.length)) (15 * k + 4) (nI (α9.1 9 + x.2))) (15 * (k + 1) + 10) (nI ((τ9.1 14) - 1))) (k + 1) 13 (τ9.2.2 2).length (nI (qv (x.1, τ9.1 15))) (by omega) (by decide) ((pk_un (by omega)).trans ((pk_un (by omega)).trans ((pk_un (by omega)).trans p13))) (by omega)) [kI K aM 60 M2, kI K aI 60 I9] rfl (kAll4 lkM_L_16 lkT_yL_add lkN_L lkC_yL_add) 5 (by decide) ⟨(Nat.le_of_ble_eq_true rfl), (Nat.le_of_ble_eq_true rfl)⟩ rfl rfl (Nat.le_of_ble_eq_true rfl) ⟨(Nat.le_of_ble_eq_true rfl), (Nat.le_of_ble_eq_true rfl)⟩ dL_carry_193 (fun v w h => ?_)
            obtain ⟨rfl, rfl⟩ := h
            refine k_re 0 0 [kI K aW 60 (upd W9 (20 * (k + 1) + (τ9.2.2 2).length) (nI (qv (x.1, τ9.1 15)))), kI K aT 45 (upd (upd (upd (upd T9 (15 * k + 11) (nI t.length)) (15 * k + 4) (nI (α9.1 9 + x.2))) (15 * (k + 1) + 10) (nI ((τ9.1 14) - 1))) (15 * (k + 1) + 13) (nI ((τ9.2.2 2).length + 1))), kI K aM 60 M2, kI K aI 60 I9] [] rfl rfl rfl rfl ?_
            refine k_perm [1, 2, 3, 0] [kI K aT 45 (upd (upd (upd (upd T9 (15 * k + 11) (nI t.length)) (15 * k + 4) (nI (α9.1 9 + x.2))) (15 * (k + 1) + 10) (nI ((τ9.1 14) - 1))) (15 * (k + 1) + 13) (nI ((τ9.2.2 2).length + 1))), kI K aM 60 M2, kI K aI 60 I9, kI K aW 60 (upd W9 (20 * (k + 1) + (τ9.2.2 2).length) (nI (qv (x.1, τ9.1 15))))] rfl rfl ?_
            refine k_goto hC 79 dL_carry_196 (by decide) ?_
            refine k_lsub [0, 1, 2, 3, 4, 5] [(0, .int (nI (k + 1))), (1, .ref aT), (2, .ref aM), (3, .ref aI), (4, .ref aW), (5, .int (nI (15 * (k + 1))))] rfl ?_
            have hS1 : qS (k + 1) ((va_up τ9.1 14 (τ9.1 14 - 1), τ9.2.1, va_up τ9.2.2 2 (τ9.2.2 2 ++ [(x.1, τ9.1 15)]))) (upd (upd (upd (upd T9 (15 * k + 11) (nI t.length)) (15 * k + 4) (nI (α9.1 9 + x.2))) (15 * (k + 1) + 10) (nI ((τ9.1 14) - 1))) (15 * (k + 1) + 13) (nI ((τ9.2.2 2).length + 1))) M2 (I9) (upd W9 (20 * (k + 1) + (τ9.2.2 2).length) (nI (qv (x.1, τ9.1 15)))) := ⟨⟨((pk_un (by omega)).trans ((pk_un (by omega)).trans ((pk_un (by omega)).trans ((pk_un (by omega)).trans p0)))), ((pk_un (by omega)).trans ((pk_un (by omega)).trans ((pk_un (by omega)).trans ((pk_un (by omega)).trans p1)))), ((pk_un (by omega)).trans ((pk_un (by omega)).trans ((pk_un (by omega)).trans ((pk_un (by omega)).trans p2)))), ((pk_un (by omega)).trans ((pk_un (by omega)).trans ((pk_un (by omega)).trans ((pk_un (by omega)).trans p3)))), ((pk_un (by omega)).trans ((pk_un (by omega)).trans ((pk_un (by omega)).trans ((pk_un (by omega)).trans p4)))), ((pk_un (by omega)).trans ((pk_un (by omega)).trans ((pk_un (by omega)).trans ((pk_un (by omega)).trans p5)))), ((pk_un (by omega)).trans ((pk_un (by omega)).trans ((pk_un (by omega)).trans ((pk_un (by omega)).trans p6)))), ((pk_un (by omega)).trans ((pk_un (by omega)).trans ((pk_un (by omega)).trans ((pk_un (by omega)).trans p7)))), ((pk_un (by omega)).trans ((pk_un (by omega)).trans ((pk_un (by omega)).trans ((pk_un (by omega)).trans p8)))), ((pk_un (by omega)).trans ((pk_un (by omega)).trans ((pk_un (by omega)).trans ((pk_un (by omega)).trans p9)))), ((pk_un (by omega)).trans pk_us), ((pk_un (by omega)).trans ((pk_un (by omega)).trans ((pk_un (by omega)).trans ((pk_un (by omega)).trans p11)))), ((pk_un (by omega)).trans ((pk_un (by omega)).trans ((pk_un (by omega)).trans ((pk_un (by omega)).trans p12)))), (pk_us.trans (congrArg nI (show (τ9.2.2 2).length + 1 = ((τ9.2.2 2) ++ [(x.1, τ9.1 15)]).length from (qlen1 _ _).symm))), ((pk_un (by omega)).trans ((pk_un (by omega)).trans ((pk_un (by omega)).trans ((pk_un (by omega)).trans p14))))⟩, mK_fr (L := τ9.2.2 0) (Nat.succ_ne_self k) (by omega) hp.2.1 hF2, hp.2.2.1, mK_snocS (k := k + 1) (x.1, τ9.1 15) hp.2.2.2⟩
            have b1 := mInv_L1 hJ2
            have b2 := mInv_L2 hJ2
            have hS2 : qS k (mGive α9 x t) (upd (upd (upd (upd T9 (15 * k + 11) (nI t.length)) (15 * k + 4) (nI (α9.1 9 + x.2))) (15 * (k + 1) + 10) (nI ((τ9.1 14) - 1))) (15 * (k + 1) + 13) (nI ((τ9.2.2 2).length + 1))) M2 (I9) (upd W9 (20 * (k + 1) + (τ9.2.2 2).length) (nI (qv (x.1, τ9.1 15)))) := ⟨⟨((pk_un (by omega)).trans ((pk_un (by omega)).trans ((pk_un (by omega)).trans ((pk_un (by omega)).trans v0)))), ((pk_un (by omega)).trans ((pk_un (by omega)).trans ((pk_un (by omega)).trans ((pk_un (by omega)).trans v1)))), ((pk_un (by omega)).trans ((pk_un (by omega)).trans ((pk_un (by omega)).trans ((pk_un (by omega)).trans v2)))), ((pk_un (by omega)).trans ((pk_un (by omega)).trans ((pk_un (by omega)).trans ((pk_un (by omega)).trans v3)))), ((pk_un (by omega)).trans ((pk_un (by omega)).trans pk_us)), ((pk_un (by omega)).trans ((pk_un (by omega)).trans ((pk_un (by omega)).trans ((pk_un (by omega)).trans v5)))), ((pk_un (by omega)).trans ((pk_un (by omega)).trans ((pk_un (by omega)).trans ((pk_un (by omega)).trans v6)))), ((pk_un (by omega)).trans ((pk_un (by omega)).trans ((pk_un (by omega)).trans ((pk_un (by omega)).trans v7)))), ((pk_un (by omega)).trans ((pk_un (by omega)).trans ((pk_un (by omega)).trans ((pk_un (by omega)).trans v8)))), ((pk_un (by omega)).trans ((pk_un (by omega)).trans ((pk_un (by omega)).trans ((pk_un (by omega)).trans v9)))), ((pk_un (by omega)).trans ((pk_un (by omega)).trans ((pk_un (by omega)).trans ((pk_un (by omega)).trans v10)))), ((pk_un (by omega)).trans ((pk_un (by omega)).trans ((pk_un (by omega)).trans pk_us))), ((pk_un (by omega)).trans ((pk_un (by omega)).trans ((pk_un (by omega)).trans ((pk_un (by omega)).trans v12)))), ((pk_un (by omega)).trans ((pk_un (by omega)).trans ((pk_un (by omega)).trans ((pk_un (by omega)).trans v13)))), ((pk_un (by omega)).trans ((pk_un (by omega)).trans ((pk_un (by omega)).trans ((pk_un (by omega)).trans v14))))⟩, hK2, hv.2.2.1, mK_fr (L := α9.2.2 2) (j := k) (s9 := k + 1) (by omega) (by omega) hv.2.2.2 (qF_up (by omega))⟩
            exact ih (mGet τ9 x) (mGive α9 x t) _ _ _ _ (by show n = min (τ9.1 14 - 1) t.length; omega) (by rw [he]; simp only [mFetch, hx]) (eg ▸ hS1) hS2 (mGet_inv hJ (by omega) hox.1 hox.2.1) (mGive_inv hJ2 hx) (fun j h1 h2 => qA4_tr (ho9 j h1 h2) ⟨(qAT_up (by omega) (by decide) (qAT_up (by omega) (by decide) (qAT_up (by omega) (by decide) (qAT_up (by omega) (by decide) qAT_rf)))), qAR_F h2 qAR_rf hF2, qAR_rf, (qAR_F h1 qAR_rf (qF_up (by omega)))⟩)
          · have eg : (va_up τ9.1 14 (τ9.1 14 - 1), τ9.2.1, va_up τ9.2.2 1 (τ9.2.2 1 ++ [(x.1, 1)])) = mGet τ9 x := by unfold mGet; rw [if_pos c3]
            refine k_aload_n hC 3 dL_carry_152 rfl rfl ?_
            refine k_iload_n hC 0 dL_carry_153 rfl rfl ?_
            refine k_aload_n hC 1 dL_carry_154 rfl rfl ?_
            refine k_bipush hC (nI 12) dL_carry_155 rfl ?_
            refine k_bipush hC (nI 100) dL_carry_157 rfl ?_
            refine k_iload hC dL_carry_159 rfl ?_
            refine k_bipush hC (nI 100) dL_carry_161 rfl ?_
            refine k_iremN hC dL_carry_163 (by omega) (by omega) (by omega) ?_
            refine k_topE (nI x.1) (by congr 1; omega) ?_
            refine k_iaddN hC dL_carry_164 ?_
            refine k_topE (nI (qv (x.1, 1))) rfl ?_
            refine k_perm [2, 0, 1, 3] [kI K aI 60 I9, kI K aT 45 (upd (upd (upd T9 (15 * k + 11) (nI t.length)) (15 * k + 4) (nI (α9.1 9 + x.2))) (15 * (k + 1) + 10) (nI ((τ9.1 14) - 1))), kI K aM 60 M2, kI K aW 60 W9] rfl rfl ?_
            refine k_callS hC (As := [.ref aI, .int (nI (k + 1)), .ref aT, .int (nI 12), .int (nI (qv (x.1, 1)))]) (cL_add_k l K aI aT I9 (upd (upd (upd T9 (15 * k + 11) (nI t.length)) (15 * k + 4) (nI (α9.1 9 + x.2))) (15 * (k + 1) + 10) (nI ((τ9.1 14) - 1))) (k + 1) 12 (τ9.2.2 1).length (nI (qv (x.1, 1))) (by omega) (by decide) ((pk_un (by omega)).trans ((pk_un (by omega)).trans ((pk_un (by omega)).trans p12))) (by omega)) [kI K aM 60 M2, kI K aW 60 W9] rfl (kAll4 lkM_L_16 lkT_yL_add lkN_L lkC_yL_add) 5 (by decide) ⟨(Nat.le_of_ble_eq_true rfl), (Nat.le_of_ble_eq_true rfl)⟩ rfl rfl (Nat.le_of_ble_eq_true rfl) ⟨(Nat.le_of_ble_eq_true rfl), (Nat.le_of_ble_eq_true rfl)⟩ dL_carry_165 (fun v w h => ?_)
            obtain ⟨rfl, rfl⟩ := h
            refine k_re 0 0 [kI K aI 60 (upd I9 (20 * (k + 1) + (τ9.2.2 1).length) (nI (qv (x.1, 1)))), kI K aT 45 (upd (upd (upd (upd T9 (15 * k + 11) (nI t.length)) (15 * k + 4) (nI (α9.1 9 + x.2))) (15 * (k + 1) + 10) (nI ((τ9.1 14) - 1))) (15 * (k + 1) + 12) (nI ((τ9.2.2 1).length + 1))), kI K aM 60 M2, kI K aW 60 W9] [] rfl rfl rfl rfl ?_
            refine k_perm [1, 2, 0, 3] [kI K aT 45 (upd (upd (upd (upd T9 (15 * k + 11) (nI t.length)) (15 * k + 4) (nI (α9.1 9 + x.2))) (15 * (k + 1) + 10) (nI ((τ9.1 14) - 1))) (15 * (k + 1) + 12) (nI ((τ9.2.2 1).length + 1))), kI K aM 60 M2, kI K aI 60 (upd I9 (20 * (k + 1) + (τ9.2.2 1).length) (nI (qv (x.1, 1)))), kI K aW 60 W9] rfl rfl ?_
            refine k_goto hC 196 dL_carry_168 (by decide) ?_
            refine k_goto hC 79 dL_carry_196 (by decide) ?_
            refine k_lsub [0, 1, 2, 3, 4, 5] [(0, .int (nI (k + 1))), (1, .ref aT), (2, .ref aM), (3, .ref aI), (4, .ref aW), (5, .int (nI (15 * (k + 1))))] rfl ?_
            have hS1 : qS (k + 1) ((va_up τ9.1 14 (τ9.1 14 - 1), τ9.2.1, va_up τ9.2.2 1 (τ9.2.2 1 ++ [(x.1, 1)]))) (upd (upd (upd (upd T9 (15 * k + 11) (nI t.length)) (15 * k + 4) (nI (α9.1 9 + x.2))) (15 * (k + 1) + 10) (nI ((τ9.1 14) - 1))) (15 * (k + 1) + 12) (nI ((τ9.2.2 1).length + 1))) M2 (upd I9 (20 * (k + 1) + (τ9.2.2 1).length) (nI (qv (x.1, 1)))) (W9) := ⟨⟨((pk_un (by omega)).trans ((pk_un (by omega)).trans ((pk_un (by omega)).trans ((pk_un (by omega)).trans p0)))), ((pk_un (by omega)).trans ((pk_un (by omega)).trans ((pk_un (by omega)).trans ((pk_un (by omega)).trans p1)))), ((pk_un (by omega)).trans ((pk_un (by omega)).trans ((pk_un (by omega)).trans ((pk_un (by omega)).trans p2)))), ((pk_un (by omega)).trans ((pk_un (by omega)).trans ((pk_un (by omega)).trans ((pk_un (by omega)).trans p3)))), ((pk_un (by omega)).trans ((pk_un (by omega)).trans ((pk_un (by omega)).trans ((pk_un (by omega)).trans p4)))), ((pk_un (by omega)).trans ((pk_un (by omega)).trans ((pk_un (by omega)).trans ((pk_un (by omega)).trans p5)))), ((pk_un (by omega)).trans ((pk_un (by omega)).trans ((pk_un (by omega)).trans ((pk_un (by omega)).trans p6)))), ((pk_un (by omega)).trans ((pk_un (by omega)).trans ((pk_un (by omega)).trans ((pk_un (by omega)).trans p7)))), ((pk_un (by omega)).trans ((pk_un (by omega)).trans ((pk_un (by omega)).trans ((pk_un (by omega)).trans p8)))), ((pk_un (by omega)).trans ((pk_un (by omega)).trans ((pk_un (by omega)).trans ((pk_un (by omega)).trans p9)))), ((pk_un (by omega)).trans pk_us), ((pk_un (by omega)).trans ((pk_un (by omega)).trans ((pk_un (by omega)).trans ((pk_un (by omega)).trans p11)))), (pk_us.trans (congrArg nI (show (τ9.2.2 1).length + 1 = ((τ9.2.2 1) ++ [(x.1, 1)]).length from (qlen1 _ _).symm))), ((pk_un (by omega)).trans ((pk_un (by omega)).trans ((pk_un (by omega)).trans ((pk_un (by omega)).trans p13)))), ((pk_un (by omega)).trans ((pk_un (by omega)).trans ((pk_un (by omega)).trans ((pk_un (by omega)).trans p14))))⟩, mK_fr (L := τ9.2.2 0) (Nat.succ_ne_self k) (by omega) hp.2.1 hF2, mK_snocS (k := k + 1) (x.1, 1) hp.2.2.1, hp.2.2.2⟩
            have b1 := mInv_L1 hJ2
            have b2 := mInv_L2 hJ2
            have hS2 : qS k (mGive α9 x t) (upd (upd (upd (upd T9 (15 * k + 11) (nI t.length)) (15 * k + 4) (nI (α9.1 9 + x.2))) (15 * (k + 1) + 10) (nI ((τ9.1 14) - 1))) (15 * (k + 1) + 12) (nI ((τ9.2.2 1).length + 1))) M2 (upd I9 (20 * (k + 1) + (τ9.2.2 1).length) (nI (qv (x.1, 1)))) (W9) := ⟨⟨((pk_un (by omega)).trans ((pk_un (by omega)).trans ((pk_un (by omega)).trans ((pk_un (by omega)).trans v0)))), ((pk_un (by omega)).trans ((pk_un (by omega)).trans ((pk_un (by omega)).trans ((pk_un (by omega)).trans v1)))), ((pk_un (by omega)).trans ((pk_un (by omega)).trans ((pk_un (by omega)).trans ((pk_un (by omega)).trans v2)))), ((pk_un (by omega)).trans ((pk_un (by omega)).trans ((pk_un (by omega)).trans ((pk_un (by omega)).trans v3)))), ((pk_un (by omega)).trans ((pk_un (by omega)).trans pk_us)), ((pk_un (by omega)).trans ((pk_un (by omega)).trans ((pk_un (by omega)).trans ((pk_un (by omega)).trans v5)))), ((pk_un (by omega)).trans ((pk_un (by omega)).trans ((pk_un (by omega)).trans ((pk_un (by omega)).trans v6)))), ((pk_un (by omega)).trans ((pk_un (by omega)).trans ((pk_un (by omega)).trans ((pk_un (by omega)).trans v7)))), ((pk_un (by omega)).trans ((pk_un (by omega)).trans ((pk_un (by omega)).trans ((pk_un (by omega)).trans v8)))), ((pk_un (by omega)).trans ((pk_un (by omega)).trans ((pk_un (by omega)).trans ((pk_un (by omega)).trans v9)))), ((pk_un (by omega)).trans ((pk_un (by omega)).trans ((pk_un (by omega)).trans ((pk_un (by omega)).trans v10)))), ((pk_un (by omega)).trans ((pk_un (by omega)).trans ((pk_un (by omega)).trans pk_us))), ((pk_un (by omega)).trans ((pk_un (by omega)).trans ((pk_un (by omega)).trans ((pk_un (by omega)).trans v12)))), ((pk_un (by omega)).trans ((pk_un (by omega)).trans ((pk_un (by omega)).trans ((pk_un (by omega)).trans v13)))), ((pk_un (by omega)).trans ((pk_un (by omega)).trans ((pk_un (by omega)).trans ((pk_un (by omega)).trans v14))))⟩, hK2, mK_fr (L := α9.2.2 1) (j := k) (s9 := k + 1) (by omega) (by omega) hv.2.2.1 (qF_up (by omega)), hv.2.2.2⟩
            exact ih (mGet τ9 x) (mGive α9 x t) _ _ _ _ (by show n = min (τ9.1 14 - 1) t.length; omega) (by rw [he]; simp only [mFetch, hx]) (eg ▸ hS1) hS2 (mGet_inv hJ (by omega) hox.1 hox.2.1) (mGive_inv hJ2 hx) (fun j h1 h2 => qA4_tr (ho9 j h1 h2) ⟨(qAT_up (by omega) (by decide) (qAT_up (by omega) (by decide) (qAT_up (by omega) (by decide) (qAT_up (by omega) (by decide) qAT_rf)))), qAR_F h2 qAR_rf hF2, (qAR_F h1 qAR_rf (qF_up (by omega))), qAR_rf⟩)
  obtain ⟨q0, q1, q2, q3, q4, q5, q6, q7, q8, q9, q10, q11, q12, q13, q14⟩ := id hq.1
  refine k_bipush hC (nI 15) dL_carry_0 rfl ?_
  refine k_iload_n hC 0 dL_carry_2 rfl rfl ?_
  refine k_imulN hC dL_carry_3 ?_
  refine k_istore hC dL_carry_4 (by decide) rfl [(0, .int (nI (k + 1))), (1, .ref aT), (2, .ref aM), (3, .ref aI), (4, .ref aW), (5, .int (nI (15 * (k + 1))))] rfl ?_
  refine k_aload_n hC 1 dL_carry_6 rfl rfl ?_
  refine k_iload hC dL_carry_7 rfl ?_
  refine k_bipush hC (nI 13) dL_carry_9 rfl ?_
  refine k_iaddN hC dL_carry_11 ?_
  refine k_ald hC 0 rfl (by omega) (by decide) dL_carry_12 ?_
  refine k_topE (nI ((τ.2.2 2).length)) q13 ?_
  refine k_istore hC dL_carry_13 (by decide) rfl [(0, .int (nI (k + 1))), (1, .ref aT), (2, .ref aM), (3, .ref aI), (4, .ref aW), (5, .int (nI (15 * (k + 1)))), (6, .int (nI ((τ.2.2 2).length)))] rfl ?_
  refine k_iconst hC (nI 0) dL_carry_15 rfl ?_
  refine k_istore hC dL_carry_16 (by decide) rfl [(0, .int (nI (k + 1))), (1, .ref aT), (2, .ref aM), (3, .ref aI), (4, .ref aW), (5, .int (nI (15 * (k + 1)))), (6, .int (nI ((τ.2.2 2).length))), (7, .int (nI 0))] rfl ?_
  have ph1 : ∀ (n i : Nat) (T9 I9 W9 : Nat → Int32), n + i = (τ.2.2 2).length + 1 → i ≤ (τ.2.2 2).length → qS (k + 1) (qMid τ i) T9 fM I9 W9 → (∀ j : Nat, j ≠ k + 1 → qA4 j fT fM fI fW T9 fM I9 W9) → kW p l e rmL_carry s m args below meth cd K A 9 Q 0 0 ([]) [kI K aT 45 T9, kI K aM 60 fM, kI K aI 60 I9, kI K aW 60 W9] [(0, .int (nI (k + 1))), (1, .ref aT), (2, .ref aM), (3, .ref aI), (4, .ref aW), (5, .int (nI (15 * (k + 1)))), (6, .int (nI ((τ.2.2 2).length))), (7, .int (nI i))] 18 [] := by
    intro n
    induction n with
    | zero => intro i T9 I9 W9 h1 h2; exact absurd h1 (by omega)
    | succ n ih =>
      intro i T9 I9 W9 h1 h2 hS ho9
      have hst := hI.2.2.2.2.2.1
      have m1 := qMid_1l τ h2
      have m2 := qMid_2l τ h2
      obtain ⟨p0, p1, p2, p3, p4, p5, p6, p7, p8, p9, p10, p11, p12, p13, p14⟩ := id hS.1
      refine k_iload hC dL_carry_18 rfl ?_
      refine k_iload hC dL_carry_20 rfl ?_
      refine k_icmp_geN hC 79 dL_carry_22 (by decide) (by omega) (by omega) (fun c1 => ?_) (fun c1 => ?_)
      · have e9 : i = (τ.2.2 2).length := by omega
        refine k_lsub [0, 1, 2, 3, 4, 5] [(0, .int (nI (k + 1))), (1, .ref aT), (2, .ref aM), (3, .ref aI), (4, .ref aW), (5, .int (nI (15 * (k + 1))))] rfl ?_
        exact ph2 _ (mBring τ) α T9 fM I9 W9 rfl rfl (qMid_end τ e9 ▸ hS) (qS_a4 hq2 (qLen_of hI2) (ho9 k (by omega))) (mBring_inv hI) hI2 (fun j h1 _ => ho9 j h1)
      · have hi : i < (τ.2.2 2).length := by omega
        have hsx := hst _ (mg_mem hi)
        have hh := qMid_head τ hi
        have m3 := qMid_1l τ (show i + 1 ≤ (τ.2.2 2).length from hi)
        have m4 := qMid_2l τ (show i + 1 ≤ (τ.2.2 2).length from hi)
        have hW := hS.2.2.2
        rw [hh] at hW
        rw [hh] at p13 m2
        refine k_aload hC dL_carry_25 rfl ?_
        refine k_iload_n hC 0 dL_carry_27 rfl rfl ?_
        refine k_aload_n hC 1 dL_carry_28 rfl rfl ?_
        refine k_bipush hC (nI 13) dL_carry_29 rfl ?_
        refine k_perm [3, 0, 1, 2] [kI K aW 60 W9, kI K aT 45 T9, kI K aM 60 fM, kI K aI 60 I9] rfl rfl ?_
        refine k_callS hC (As := [.ref aW, .int (nI (k + 1)), .ref aT, .int (nI 13)]) (cL_first_k l K aW aT W9 T9 (k + 1) 13 (mg (τ.2.2 2) i) ((τ.2.2 2).drop (i + 1) ++ mStay ((τ.2.2 2).take i)) (by omega) (by decide) p13 (by omega) hW) [kI K aM 60 fM, kI K aI 60 I9] rfl (kAll4 lkM_L_10 lkT_yL_first lkN_L lkC_yL_first) 4 (by decide) ⟨(Nat.le_of_ble_eq_true rfl), (Nat.le_of_ble_eq_true rfl)⟩ rfl rfl (Nat.le_of_ble_eq_true rfl) ⟨(Nat.le_of_ble_eq_true rfl), (Nat.le_of_ble_eq_true rfl)⟩ dL_carry_31 (fun v w h => ?_)
        obtain ⟨rfl, W2, rfl, hK2, hF2⟩ := h
        refine k_re 0 0 [kI K aW 60 W2, kI K aT 45 (upd T9 (15 * (k + 1) + 13) (nI (((τ.2.2 2).drop (i + 1) ++ mStay ((τ.2.2 2).take i)).length))), kI K aM 60 fM, kI K aI 60 I9] [.int (nI (qv (mg (τ.2.2 2) i)))] rfl rfl rfl rfl ?_
        refine k_perm [1, 2, 3, 0] [kI K aT 45 (upd T9 (15 * (k + 1) + 13) (nI (((τ.2.2 2).drop (i + 1) ++ mStay ((τ.2.2 2).take i)).length))), kI K aM 60 fM, kI K aI 60 I9, kI K aW 60 W2] rfl rfl ?_
        have hxv : qv (mg (τ.2.2 2) i) = 100 * (mg (τ.2.2 2) i).2 + (mg (τ.2.2 2) i).1 := rfl
        have hxw : qv ((mg (τ.2.2 2) i).1, (mg (τ.2.2 2) i).2 - 1) = 100 * ((mg (τ.2.2 2) i).2 - 1) + (mg (τ.2.2 2) i).1 := rfl
        have htl : ((τ.2.2 2).drop (i + 1) ++ mStay ((τ.2.2 2).take i)).length + 1 ≤ (τ.2.2 2).length := m2
        refine k_bipush hC (nI 100) dL_carry_34 rfl ?_
        refine k_isubN hC dL_carry_36 (by omega) ?_
        refine k_topE (nI (qv ((mg (τ.2.2 2) i).1, (mg (τ.2.2 2) i).2 - 1))) (by congr 1; omega) ?_
        refine k_istore hC dL_carry_37 (by decide) rfl [(0, .int (nI (k + 1))), (1, .ref aT), (2, .ref aM), (3, .ref aI), (4, .ref aW), (5, .int (nI (15 * (k + 1)))), (6, .int (nI ((τ.2.2 2).length))), (7, .int (nI i)), (8, .int (nI (qv ((mg (τ.2.2 2) i).1, (mg (τ.2.2 2) i).2 - 1))))] rfl ?_
        refine k_iload hC dL_carry_39 rfl ?_
        refine k_bipush hC (nI 100) dL_carry_41 rfl ?_
        refine k_icmp_geN hC 62 dL_carry_43 (by decide) (by omega) (by omega) (fun c2 => ?_) (fun c2 => ?_)
        · have h2t : 1 < (mg (τ.2.2 2) i).2 := by omega
          have hm := qMid_s τ hi h2t
          refine k_aload hC dL_carry_62 rfl ?_
          refine k_iload_n hC 0 dL_carry_64 rfl rfl ?_
          refine k_aload_n hC 1 dL_carry_65 rfl rfl ?_
          refine k_bipush hC (nI 13) dL_carry_66 rfl ?_
          refine k_iload hC dL_carry_68 rfl ?_
          refine k_perm [3, 0, 1, 2] [kI K aW 60 W2, kI K aT 45 (upd T9 (15 * (k + 1) + 13) (nI (((τ.2.2 2).drop (i + 1) ++ mStay ((τ.2.2 2).take i)).length))), kI K aM 60 fM, kI K aI 60 I9] rfl rfl ?_
          refine k_callS hC (As := [.ref aW, .int (nI (k + 1)), .ref aT, .int (nI 13), .int (nI (qv ((mg (τ.2.2 2) i).1, (mg (τ.2.2 2) i).2 - 1)))]) (cL_add_k l K aW aT W2 (upd T9 (15 * (k + 1) + 13) (nI (((τ.2.2 2).drop (i + 1) ++ mStay ((τ.2.2 2).take i)).length))) (k + 1) 13 ((τ.2.2 2).drop (i + 1) ++ mStay ((τ.2.2 2).take i)).length (nI (qv ((mg (τ.2.2 2) i).1, (mg (τ.2.2 2) i).2 - 1))) (by omega) (by decide) pk_us (by omega)) [kI K aM 60 fM, kI K aI 60 I9] rfl (kAll4 lkM_L_16 lkT_yL_add lkN_L lkC_yL_add) 5 (by decide) ⟨(Nat.le_of_ble_eq_true rfl), (Nat.le_of_ble_eq_true rfl)⟩ rfl rfl (Nat.le_of_ble_eq_true rfl) ⟨(Nat.le_of_ble_eq_true rfl), (Nat.le_of_ble_eq_true rfl)⟩ dL_carry_70 (fun v w h => ?_)
          obtain ⟨rfl, rfl⟩ := h
          refine k_re 0 0 [kI K aW 60 (upd W2 (20 * (k + 1) + ((τ.2.2 2).drop (i + 1) ++ mStay ((τ.2.2 2).take i)).length) (nI (qv ((mg (τ.2.2 2) i).1, (mg (τ.2.2 2) i).2 - 1)))), kI K aT 45 (upd (upd T9 (15 * (k + 1) + 13) (nI (((τ.2.2 2).drop (i + 1) ++ mStay ((τ.2.2 2).take i)).length))) (15 * (k + 1) + 13) (nI (((τ.2.2 2).drop (i + 1) ++ mStay ((τ.2.2 2).take i)).length + 1))), kI K aM 60 fM, kI K aI 60 I9] [] rfl rfl rfl rfl ?_
          refine k_perm [1, 2, 3, 0] [kI K aT 45 (upd (upd T9 (15 * (k + 1) + 13) (nI (((τ.2.2 2).drop (i + 1) ++ mStay ((τ.2.2 2).take i)).length))) (15 * (k + 1) + 13) (nI (((τ.2.2 2).drop (i + 1) ++ mStay ((τ.2.2 2).take i)).length + 1))), kI K aM 60 fM, kI K aI 60 I9, kI K aW 60 (upd W2 (20 * (k + 1) + ((τ.2.2 2).drop (i + 1) ++ mStay ((τ.2.2 2).take i)).length) (nI (qv ((mg (τ.2.2 2) i).1, (mg (τ.2.2 2) i).2 - 1))))] rfl rfl ?_
          refine k_iinc hC dL_carry_73 (by decide) rfl rfl (nI (i + 1)) (kinc i 1 rfl) [(0, .int (nI (k + 1))), (1, .ref aT), (2, .ref aM), (3, .ref aI), (4, .ref aW), (5, .int (nI (15 * (k + 1)))), (6, .int (nI ((τ.2.2 2).length))), (7, .int (nI (i + 1))), (8, .int (nI (qv ((mg (τ.2.2 2) i).1, (mg (τ.2.2 2) i).2 - 1))))] rfl ?_
          refine k_goto hC 18 dL_carry_76 (by decide) ?_
          refine k_lsub [0, 1, 2, 3, 4, 5, 6, 7] [(0, .int (nI (k + 1))), (1, .ref aT), (2, .ref aM), (3, .ref aI), (4, .ref aW), (5, .int (nI (15 * (k + 1)))), (6, .int (nI ((τ.2.2 2).length))), (7, .int (nI (i + 1)))] rfl ?_
          exact ih (i + 1) _ _ _ (by omega) (by omega) ⟨⟨((pk_un (by omega)).trans ((pk_un (by omega)).trans p0)), ((pk_un (by omega)).trans ((pk_un (by omega)).trans p1)), ((pk_un (by omega)).trans ((pk_un (by omega)).trans p2)), ((pk_un (by omega)).trans ((pk_un (by omega)).trans p3)), ((pk_un (by omega)).trans ((pk_un (by omega)).trans p4)), ((pk_un (by omega)).trans ((pk_un (by omega)).trans p5)), ((pk_un (by omega)).trans ((pk_un (by omega)).trans p6)), ((pk_un (by omega)).trans ((pk_un (by omega)).trans p7)), ((pk_un (by omega)).trans ((pk_un (by omega)).trans p8)), ((pk_un (by omega)).trans ((pk_un (by omega)).trans p9)), ((pk_un (by omega)).trans ((pk_un (by omega)).trans p10)), ((pk_un (by omega)).trans ((pk_un (by omega)).trans p11)), (((pk_un (by omega)).trans ((pk_un (by omega)).trans p12)).trans (congrArg nI (by rw [hm.2]))), (pk_us.trans (congrArg nI (by rw [hm.1]; exact (qlen1 _ _).symm))), ((pk_un (by omega)).trans ((pk_un (by omega)).trans p14))⟩, hS.2.1, (by rw [hm.2]; exact hS.2.2.1), (by rw [hm.1]; exact mK_snocS (k := k + 1) ((mg (τ.2.2 2) i).1, (mg (τ.2.2 2) i).2 - 1) hK2)⟩ (fun j h1 => qA4_tr (ho9 j h1) ⟨(qAT_up h1 (by decide) (qAT_up h1 (by decide) qAT_rf)), qAR_rf, qAR_rf, (qAR_F h1 (qAR_F h1 qAR_rf hF2) (qF_up (by omega)))⟩)
        · have h2n : ¬ 1 < (mg (τ.2.2 2) i).2 := by omega
          have hm := qMid_a τ hi h2n
          refine k_aload_n hC 3 dL_carry_46 rfl rfl ?_
          refine k_iload_n hC 0 dL_carry_47 rfl rfl ?_
          refine k_aload_n hC 1 dL_carry_48 rfl rfl ?_
          refine k_bipush hC (nI 12) dL_carry_49 rfl ?_
          refine k_bipush hC (nI 100) dL_carry_51 rfl ?_
          refine k_iload hC dL_carry_53 rfl ?_
          refine k_iaddN hC dL_carry_55 ?_
          refine k_topE (nI (qv ((mg (τ.2.2 2) i).1, 1))) (by congr 1; show _ = 100 * 1 + _; omega) ?_
          refine k_perm [2, 0, 1, 3] [kI K aI 60 I9, kI K aT 45 (upd T9 (15 * (k + 1) + 13) (nI (((τ.2.2 2).drop (i + 1) ++ mStay ((τ.2.2 2).take i)).length))), kI K aM 60 fM, kI K aW 60 W2] rfl rfl ?_
          refine k_callS hC (As := [.ref aI, .int (nI (k + 1)), .ref aT, .int (nI 12), .int (nI (qv ((mg (τ.2.2 2) i).1, 1)))]) (cL_add_k l K aI aT I9 (upd T9 (15 * (k + 1) + 13) (nI (((τ.2.2 2).drop (i + 1) ++ mStay ((τ.2.2 2).take i)).length))) (k + 1) 12 ((qMid τ i).2.2 1).length (nI (qv ((mg (τ.2.2 2) i).1, 1))) (by omega) (by decide) ((pk_un (by omega)).trans p12) (by omega)) [kI K aM 60 fM, kI K aW 60 W2] rfl (kAll4 lkM_L_16 lkT_yL_add lkN_L lkC_yL_add) 5 (by decide) ⟨(Nat.le_of_ble_eq_true rfl), (Nat.le_of_ble_eq_true rfl)⟩ rfl rfl (Nat.le_of_ble_eq_true rfl) ⟨(Nat.le_of_ble_eq_true rfl), (Nat.le_of_ble_eq_true rfl)⟩ dL_carry_56 (fun v w h => ?_)
          obtain ⟨rfl, rfl⟩ := h
          refine k_re 0 0 [kI K aI 60 (upd I9 (20 * (k + 1) + ((qMid τ i).2.2 1).length) (nI (qv ((mg (τ.2.2 2) i).1, 1)))), kI K aT 45 (upd (upd T9 (15 * (k + 1) + 13) (nI (((τ.2.2 2).drop (i + 1) ++ mStay ((τ.2.2 2).take i)).length))) (15 * (k + 1) + 12) (nI (((qMid τ i).2.2 1).length + 1))), kI K aM 60 fM, kI K aW 60 W2] [] rfl rfl rfl rfl ?_
          refine k_perm [1, 2, 0, 3] [kI K aT 45 (upd (upd T9 (15 * (k + 1) + 13) (nI (((τ.2.2 2).drop (i + 1) ++ mStay ((τ.2.2 2).take i)).length))) (15 * (k + 1) + 12) (nI (((qMid τ i).2.2 1).length + 1))), kI K aM 60 fM, kI K aI 60 (upd I9 (20 * (k + 1) + ((qMid τ i).2.2 1).length) (nI (qv ((mg (τ.2.2 2) i).1, 1)))), kI K aW 60 W2] rfl rfl ?_
          refine k_goto hC 73 dL_carry_59 (by decide) ?_
          refine k_iinc hC dL_carry_73 (by decide) rfl rfl (nI (i + 1)) (kinc i 1 rfl) [(0, .int (nI (k + 1))), (1, .ref aT), (2, .ref aM), (3, .ref aI), (4, .ref aW), (5, .int (nI (15 * (k + 1)))), (6, .int (nI ((τ.2.2 2).length))), (7, .int (nI (i + 1))), (8, .int (nI (qv ((mg (τ.2.2 2) i).1, (mg (τ.2.2 2) i).2 - 1))))] rfl ?_
          refine k_goto hC 18 dL_carry_76 (by decide) ?_
          refine k_lsub [0, 1, 2, 3, 4, 5, 6, 7] [(0, .int (nI (k + 1))), (1, .ref aT), (2, .ref aM), (3, .ref aI), (4, .ref aW), (5, .int (nI (15 * (k + 1)))), (6, .int (nI ((τ.2.2 2).length))), (7, .int (nI (i + 1)))] rfl ?_
          exact ih (i + 1) _ _ _ (by omega) (by omega) ⟨⟨((pk_un (by omega)).trans ((pk_un (by omega)).trans p0)), ((pk_un (by omega)).trans ((pk_un (by omega)).trans p1)), ((pk_un (by omega)).trans ((pk_un (by omega)).trans p2)), ((pk_un (by omega)).trans ((pk_un (by omega)).trans p3)), ((pk_un (by omega)).trans ((pk_un (by omega)).trans p4)), ((pk_un (by omega)).trans ((pk_un (by omega)).trans p5)), ((pk_un (by omega)).trans ((pk_un (by omega)).trans p6)), ((pk_un (by omega)).trans ((pk_un (by omega)).trans p7)), ((pk_un (by omega)).trans ((pk_un (by omega)).trans p8)), ((pk_un (by omega)).trans ((pk_un (by omega)).trans p9)), ((pk_un (by omega)).trans ((pk_un (by omega)).trans p10)), ((pk_un (by omega)).trans ((pk_un (by omega)).trans p11)), (pk_us.trans (congrArg nI (by rw [hm.2]; exact (qlen1 _ _).symm))), (((pk_un (by omega)).trans pk_us).trans (congrArg nI (by rw [hm.1]))), ((pk_un (by omega)).trans ((pk_un (by omega)).trans p14))⟩, hS.2.1, (by rw [hm.2]; exact mK_snocS (k := k + 1) ((mg (τ.2.2 2) i).1, 1) hS.2.2.1), (by rw [hm.1]; exact hK2)⟩ (fun j h1 => qA4_tr (ho9 j h1) ⟨(qAT_up h1 (by decide) (qAT_up h1 (by decide) qAT_rf)), qAR_rf, (qAR_F h1 qAR_rf (qF_up (by omega))), (qAR_F h1 qAR_rf hF2)⟩)
  exact ph1 ((τ.2.2 2).length + 1) 0 fT fI fW (by omega) (by omega) (qMid_0 τ hq) (fun j _ => ⟨qAT_rf, qAR_rf, qAR_rf, qAR_rf⟩)
