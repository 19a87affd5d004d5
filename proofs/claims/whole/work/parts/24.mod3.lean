/-! the reference: a stage works -/
abbrev rmX4_works : Room := { frames := 1, cells := 0, slots := 0, locals := 26 }
set_option maxRecDepth 100000 in
set_option maxHeartbeats 4000000 in
theorem cX4_works_k (l : Launch) (K : kE) (y : Nat) (b : Nat → Nat) (S : Nat → Int32) (G : Nat → Nat → Int32) (k : Nat) (hk : k < 6) (τ : mT) (r : Bool) (hq : mRepS k τ G) (hI : mInv (decide (k = 0)) τ) (h12 : τ.1 12 = 0) (hr : S 2 = kB r) : kM l yX4_works (kws yX4_works cX4_works 2 none) rmX4_works K [.ref y, .int (nI k)] (wM K y b S G) (fun v w => v = none ∧ ∃ (S1 : Nat → Int32) (G1 : Nat → Nat → Int32) (d : Int32), w = wM K y b S1 G1 ∧ mRepS k (mWork r (decide (k = 0)) τ) G1 ∧ mOnly k G G1 ∧ (mWork r (decide (k = 0)) τ).2.1 1 = τ.2.1 1 + d ∧ S1 8 = S 8 + d ∧ ∀ j : Nat, j ≠ 8 → S1 j = S j) := by
  refine kM_of (pl := []) (X := (wM K y b S G)) rfl (by decide) (Nat.le_of_ble_eq_true rfl) ?_
  intro p e s m args below meth cd A Q hC hnm hE
  have hn := hI.1
  have hl0 := mInv_L0 hI
  have h89 : τ.1 9 ≤ 9 := by have := hI.2.1; omega
  obtain ⟨q9, q10, q11, q12, q13, q14, q15, q16, q17, q18, q19, q20, qr0, qr1, qr2⟩ := id hq
  have hw0 : mWork r (decide (k = 0)) τ = if (mGoOn τ).1 10 ≠ 0 then mGoOn τ else mStart r (decide (k = 0)) (mGoOn τ) := by unfold mWork; rw [if_neg (fun q => q h12)]
  have hz1 : (mGoOn τ).2.1 = τ.2.1 := by unfold mGoOn; split <;> rfl
  have j39 : ∀ (G1 : Nat → Nat → Int32) (g : mT), mRepS k g G1 → mOnly k G G1 → g = mGoOn τ → kW p l e rmX4_works s m args below meth cd K A 2 Q 0 0 ([]) (wM K y b S G1) [(0, .ref y), (1, .int (nI k))] 39 [] := by
    intro G1 g hq1 ho1 hg
    obtain ⟨p9, p10, p11, p12, p13, p14, p15, p16, p17, p18, p19, p20, pr0, pr1, pr2⟩ := id hq1
    rw [← hg] at hw0 hz1
    have hI1 : mInv (decide (k = 0)) g := by rw [hg]; exact mGoOn_inv hI
    have gn := hI1.1
    have gl0 := mInv_L0 hI1
    have gl1 := mInv_L1 hI1
    have gl2 := mInv_L2 hI1
    have hrl := mRun_le hI1
    have g89 : g.1 9 ≤ 9 := by have := hI1.2.1; omega
    refine k_aload_n hC 0 dX4_works_39 rfl rfl ?_
    refine k_get hC inlX4 0 15 rfl rfl (by decide) lkF_X4_29 rfl dX4_works_40 ?_
    refine k_iload_n hC 1 dX4_works_43 rfl rfl ?_
    refine k_ald hC 7 rfl (by omega) (by decide) dX4_works_44 ?_
    refine k_topE (nI (g.1 10)) p15 ?_
    refine k_if_leN hC 49 dX4_works_45 (by decide) (by omega) (fun c1 => ?_) (fun c1 => ?_)
    · have hw2 : mWork r (decide (k = 0)) τ = mStart r (decide (k = 0)) g := by rw [hw0, if_neg (fun q => q c1)]
      have j85 : ∀ G2 : Nat → Nat → Int32, mRepS k (va_up g.1 11 (mRun g), g.2.1, g.2.2) G2 → mOnly k G G2 → kW p l e rmX4_works s m args below meth cd K A 2 Q 0 0 ([]) (wM K y b S G2) [(0, .ref y), (1, .int (nI k))] 85 [] := by
        intro G2 hq2 ho2
        have hI2 := mRun_inv hI1
        obtain ⟨t9, t10, t11, t12, t13, t14, t15, t16, t17, t18, t19, t20, tr0, tr1, tr2⟩ := id hq2
        refine k_aload_n hC 0 dX4_works_85 rfl rfl ?_
        refine k_get hC inlX4 0 16 rfl rfl (by decide) lkF_X4_32 rfl dX4_works_86 ?_
        refine k_iload_n hC 1 dX4_works_89 rfl rfl ?_
        refine k_ald hC 8 rfl (by omega) (by decide) dX4_works_90 ?_
        refine k_topE (nI (mRun g)) t16 ?_
        refine k_if_neN hC 95 dX4_works_91 (by decide) (by omega) (fun c2 => ?_) (fun c2 => ?_)
        · refine k_iload_n hC 1 dX4_works_95 rfl rfl ?_
          refine k_if_leN hC 124 dX4_works_96 (by decide) (by omega) (fun c3 => ?_) (fun c3 => ?_)
          · have hb0 : decide (k = 0) = true := by rw [decide_eq_true_iff]; omega
            refine k_iload_n hC 1 dX4_works_124 rfl rfl ?_
            refine k_if_leN hC 142 dX4_works_125 (by decide) (by omega) (fun c9 => ?_) (fun c9 => ?_)
            · refine k_aload_n hC 0 dX4_works_142 rfl rfl ?_
              refine k_dup hC dX4_works_143 rfl ?_
              refine k_get hC inlX4 0 8 rfl rfl (by decide) lkF_X4_89 rfl dX4_works_144 ?_
              refine k_aload_n hC 0 dX4_works_147 rfl rfl ?_
              refine k_get hC inlX4 0 10 rfl rfl (by decide) lkF_X4_13 rfl dX4_works_148 ?_
              refine k_iload_n hC 1 dX4_works_151 rfl rfl ?_
              refine k_ald hC 2 rfl (by omega) (by decide) dX4_works_152 ?_
              refine k_topE (nI (g.1 2)) t10 ?_
              refine k_iadd hC dX4_works_153 ?_
              refine k_put hC inlX4 tyX4_ok nmX4 0 8 rfl rfl (by decide) lkF_X4_89 rfl rfl rfl (Nat.le_of_ble_eq_true rfl) dX4_works_154 (wM K y b (va_up S 8 ((S 8) + nI (g.1 2))) G2) rfl ?_
              refine k_aload_n hC 0 dX4_works_157 rfl rfl ?_
              refine k_get hC inlX4 0 14 rfl rfl (by decide) lkF_X4_26 rfl dX4_works_158 ?_
              refine k_iload_n hC 1 dX4_works_161 rfl rfl ?_
              refine k_dup2 hC dX4_works_162 rfl rfl ?_
              refine k_ald hC 6 rfl (by omega) (by decide) dX4_works_163 ?_
              refine k_topE (nI (g.1 9)) t14 ?_
              refine k_iconst hC (nI 1) dX4_works_164 rfl ?_
              refine k_isubN hC dX4_works_165 (by omega) ?_
              refine k_ast hC 6 rfl (by omega) (by decide) dX4_works_166 (wM K y b (va_up S 8 ((S 8) + nI (g.1 2))) (va_up G2 14 (upd (G2 14) k (nI ((g.1 9) - 1))))) rfl ?_
              refine k_aload_n hC 0 dX4_works_167 rfl rfl ?_
              refine k_get hC inlX4 0 16 rfl rfl (by decide) lkF_X4_32 rfl dX4_works_168 ?_
              refine k_iload_n hC 1 dX4_works_171 rfl rfl ?_
              refine k_dup2 hC dX4_works_172 rfl rfl ?_
              refine k_ald hC 8 rfl (by omega) (by decide) dX4_works_173 ?_
              refine k_topE (nI (mRun g)) t16 ?_
              refine k_iconst hC (nI 1) dX4_works_174 rfl ?_
              refine k_isubN hC dX4_works_175 (by omega) ?_
              refine k_ast hC 8 rfl (by omega) (by decide) dX4_works_176 (wM K y b (va_up S 8 ((S 8) + nI (g.1 2))) (va_up (va_up G2 14 (upd (G2 14) k (nI ((g.1 9) - 1)))) 16 (upd (G2 16) k (nI ((mRun g) - 1))))) rfl ?_
              refine k_aload_n hC 0 dX4_works_177 rfl rfl ?_
              refine k_get hC inlX4 0 15 rfl rfl (by decide) lkF_X4_29 rfl dX4_works_178 ?_
              refine k_iload_n hC 1 dX4_works_181 rfl rfl ?_
              refine k_aload_n hC 0 dX4_works_182 rfl rfl ?_
              refine k_get hC inlX4 0 11 rfl rfl (by decide) lkF_X4_16 rfl dX4_works_183 ?_
              refine k_iload_n hC 1 dX4_works_186 rfl rfl ?_
              refine k_ald hC 3 rfl (by omega) (by decide) dX4_works_187 ?_
              refine k_topE (nI (g.1 3)) t11 ?_
              refine k_ast hC 7 rfl (by omega) (by decide) dX4_works_188 (wM K y b (va_up S 8 ((S 8) + nI (g.1 2))) (va_up (va_up (va_up G2 14 (upd (G2 14) k (nI ((g.1 9) - 1)))) 16 (upd (G2 16) k (nI ((mRun g) - 1)))) 15 (upd (G2 15) k (nI (g.1 3))))) rfl ?_
              exact k_vret hC hE (Nat.le_of_ble_eq_true rfl) (Nat.le_of_ble_eq_true rfl) dX4_works_189 (by rw [hw2, (show mStart r (decide (k = 0)) g = mBegin r true (va_up g.1 11 (mRun g), g.2.1, g.2.2) by unfold mStart; rw [if_neg c2, if_neg (by rw [hb0]; simp), hb0])]; exact ⟨rfl, (va_up S 8 ((S 8) + nI (g.1 2))), _, (nI (g.1 2)), rfl, ⟨t9, t10, t11, t12, t13, kupd_eq, kupd_eq, kupd_eq, t17, t18, t19, t20, tr0, tr1, tr2⟩, (mOnly_tr (mOnly_tr (mOnly_tr ho2 mOnly_14) mOnly_16) mOnly_15), by show g.2.1 1 + nI (g.1 2) = _; rw [hz1], rfl, fun j hj => va_up_ne _ _ hj⟩)
            · exact absurd (show k = 0 by omega) c9
          · refine k_aload_n hC 0 dX4_works_99 rfl rfl ?_
            refine k_iload_n hC 1 dX4_works_100 rfl rfl ?_
            refine k_callV hC (As := [.int (nI k)]) (cX4_inboxOf_k l K y b S G2 k (g.2.2 1) hk tr1 (by omega)) [] (List.append_nil _).symm 0 rfl rfl (kAll5 lkM_X4_107 lkI_yX4_inboxOf lkS_yX4_inboxOf lkN_X4 lkC_yX4_inboxOf) 1 (by decide) ⟨(Nat.le_of_ble_eq_true rfl), (Nat.le_of_ble_eq_true rfl)⟩ rfl rfl (Nat.le_of_ble_eq_true rfl) ⟨(Nat.le_of_ble_eq_true rfl), (Nat.le_of_ble_eq_true rfl)⟩ dX4_works_101 (fun v w h => ?_)
            obtain ⟨rfl, rfl⟩ := h
            refine k_re 0 0 (wM K y b S G2) [.int (nI (mU (g.2.2 1)))] rfl rfl (List.append_nil _) rfl ?_
            have hmu := mU_le hI1.2.2.2.2.1
            refine k_aload_n hC 0 dX4_works_104 rfl rfl ?_
            refine k_get hC inlX4 0 10 rfl rfl (by decide) lkF_X4_13 rfl dX4_works_105 ?_
            refine k_iload_n hC 1 dX4_works_108 rfl rfl ?_
            refine k_ald hC 2 rfl (by omega) (by decide) dX4_works_109 ?_
            refine k_topE (nI (g.1 2)) t10 ?_
            refine k_icmp_geN hC 124 dX4_works_110 (by decide) (by omega) (by omega) (fun c4 => ?_) (fun c4 => ?_)
            · have hb0 : decide (k = 0) = false := by rw [decide_eq_false_iff_not]; omega
              refine k_iload_n hC 1 dX4_works_124 rfl rfl ?_
              refine k_if_leN hC 142 dX4_works_125 (by decide) (by omega) (fun c9 => ?_) (fun c9 => ?_)
              · exact absurd c9 (by omega)
              · refine k_aload_n hC 0 dX4_works_128 rfl rfl ?_
                refine k_iload_n hC 1 dX4_works_129 rfl rfl ?_
                refine k_aload_n hC 0 dX4_works_130 rfl rfl ?_
                refine k_get hC inlX4 0 10 rfl rfl (by decide) lkF_X4_13 rfl dX4_works_131 ?_
                refine k_iload_n hC 1 dX4_works_134 rfl rfl ?_
                refine k_ald hC 2 rfl (by omega) (by decide) dX4_works_135 ?_
                refine k_topE (nI (g.1 2)) t10 ?_
                refine k_callV hC (As := [.int (nI k), .int (nI (g.1 2))]) (cX4_uses_k l K y b S G2 k hk (g.2.2 1) tr1 (by omega) hI1.2.2.2.2.1 (g.1 14) (by omega) t20 r hr (g.1 2) (by omega) (by omega)) [] (List.append_nil _).symm 0 rfl rfl (kAll5 lkM_X4_111 lkI_yX4_uses lkS_yX4_uses lkN_X4 lkC_yX4_uses) 2 (by decide) ⟨(Nat.le_of_ble_eq_true rfl), (Nat.le_of_ble_eq_true rfl)⟩ rfl rfl (Nat.le_of_ble_eq_true rfl) ⟨(Nat.le_of_ble_eq_true rfl), (Nat.le_of_ble_eq_true rfl)⟩ dX4_works_136 (fun v w h => ?_)
                obtain ⟨rfl, G3, rfl, hg3, hw3, hs3, ho3⟩ := h
                refine k_re 0 0 (wM K y b S G3) [] rfl rfl (List.append_nil _) rfl ?_
                have s3 : ∀ i : Nat, i ∉ [20, 24, 25, 26] → ∀ j : Nat, G3 i j = G2 i j := fun i hi j => congrFun (hs3 i hi) j
                have hq3 : mRepS k (va_up (va_up g.1 11 (mRun g)) 14 (g.1 14 + (mTake (g.2.2 1) (g.1 2) r).2), g.2.1, va_up g.2.2 1 (mTake (g.2.2 1) (g.1 2) r).1) G3 := ⟨((s3 9 (by decide) k).trans t9), ((s3 10 (by decide) k).trans t10), ((s3 11 (by decide) k).trans t11), ((s3 12 (by decide) k).trans t12), ((s3 13 (by decide) k).trans t13), ((s3 14 (by decide) k).trans t14), ((s3 15 (by decide) k).trans t15), ((s3 16 (by decide) k).trans t16), ((s3 17 (by decide) k).trans t17), ((s3 18 (by decide) k).trans t18), ((s3 19 (by decide) k).trans t19), hw3, (by show mRg k _ (G3 21) (G3 22) (G3 23); rw [hs3 21 (by decide), hs3 22 (by decide), hs3 23 (by decide)]; exact tr0), hg3, (by show mRg k _ (G3 27) (G3 28) (G3 29); rw [hs3 27 (by decide), hs3 28 (by decide), hs3 29 (by decide)]; exact tr2)⟩
                obtain ⟨s9, s10, s11, s12, s13, s14, s15, s16, s17, s18, s19, s20, sr0, sr1, sr2⟩ := id hq3
                refine k_goto hC 157 dX4_works_139 (by decide) ?_
                refine k_aload_n hC 0 dX4_works_157 rfl rfl ?_
                refine k_get hC inlX4 0 14 rfl rfl (by decide) lkF_X4_26 rfl dX4_works_158 ?_
                refine k_iload_n hC 1 dX4_works_161 rfl rfl ?_
                refine k_dup2 hC dX4_works_162 rfl rfl ?_
                refine k_ald hC 6 rfl (by omega) (by decide) dX4_works_163 ?_
                refine k_topE (nI (g.1 9)) s14 ?_
                refine k_iconst hC (nI 1) dX4_works_164 rfl ?_
                refine k_isubN hC dX4_works_165 (by omega) ?_
                refine k_ast hC 6 rfl (by omega) (by decide) dX4_works_166 (wM K y b S (va_up G3 14 (upd (G3 14) k (nI ((g.1 9) - 1))))) rfl ?_
                refine k_aload_n hC 0 dX4_works_167 rfl rfl ?_
                refine k_get hC inlX4 0 16 rfl rfl (by decide) lkF_X4_32 rfl dX4_works_168 ?_
                refine k_iload_n hC 1 dX4_works_171 rfl rfl ?_
                refine k_dup2 hC dX4_works_172 rfl rfl ?_
                refine k_ald hC 8 rfl (by omega) (by decide) dX4_works_173 ?_
                refine k_topE (nI (mRun g)) s16 ?_
                refine k_iconst hC (nI 1) dX4_works_174 rfl ?_
                refine k_isubN hC dX4_works_175 (by omega) ?_
                refine k_ast hC 8 rfl (by omega) (by decide) dX4_works_176 (wM K y b S (va_up (va_up G3 14 (upd (G3 14) k (nI ((g.1 9) - 1)))) 16 (upd (G3 16) k (nI ((mRun g) - 1))))) rfl ?_
                refine k_aload_n hC 0 dX4_works_177 rfl rfl ?_
                refine k_get hC inlX4 0 15 rfl rfl (by decide) lkF_X4_29 rfl dX4_works_178 ?_
                refine k_iload_n hC 1 dX4_works_181 rfl rfl ?_
                refine k_aload_n hC 0 dX4_works_182 rfl rfl ?_
                refine k_get hC inlX4 0 11 rfl rfl (by decide) lkF_X4_16 rfl dX4_works_183 ?_
                refine k_iload_n hC 1 dX4_works_186 rfl rfl ?_
                refine k_ald hC 3 rfl (by omega) (by decide) dX4_works_187 ?_
                refine k_topE (nI (g.1 3)) s11 ?_
                refine k_ast hC 7 rfl (by omega) (by decide) dX4_works_188 (wM K y b S (va_up (va_up (va_up G3 14 (upd (G3 14) k (nI ((g.1 9) - 1)))) 16 (upd (G3 16) k (nI ((mRun g) - 1)))) 15 (upd (G3 15) k (nI (g.1 3))))) rfl ?_
                exact k_vret hC hE (Nat.le_of_ble_eq_true rfl) (Nat.le_of_ble_eq_true rfl) dX4_works_189 (by rw [hw2, (show mStart r (decide (k = 0)) g = mBegin r false (va_up g.1 11 (mRun g), g.2.1, g.2.2) by unfold mStart; rw [if_neg c2, if_neg (by rw [hb0]; intro q; omega), hb0])]; exact ⟨rfl, S, _, 0, rfl, ⟨s9, s10, s11, s12, s13, kupd_eq, kupd_eq, kupd_eq, s17, s18, s19, s20, sr0, sr1, sr2⟩, (mOnly_tr (mOnly_tr (mOnly_tr (mOnly_tr ho2 ho3) mOnly_14) mOnly_16) mOnly_15), by show g.2.1 1 = _; rw [hz1]; exact (Int32.add_zero _).symm, (Int32.add_zero _).symm, fun _ _ => rfl⟩)
            · refine k_aload_n hC 0 dX4_works_113 rfl rfl ?_
              refine k_get hC inlX4 0 17 rfl rfl (by decide) lkF_X4_35 rfl dX4_works_114 ?_
              refine k_iload_n hC 1 dX4_works_117 rfl rfl ?_
              refine k_dup2 hC dX4_works_118 rfl rfl ?_
              refine k_ald hC 9 rfl (by omega) (by decide) dX4_works_119 ?_
              refine k_topE (g.2.1 0) t17 ?_
              refine k_iconst hC (nI 1) dX4_works_120 rfl ?_
              refine k_iadd hC dX4_works_121 ?_
              refine k_ast hC 9 rfl (by omega) (by decide) dX4_works_122 (wM K y b S (va_up G2 17 (upd (G2 17) k ((g.2.1 0) + nI 1)))) rfl ?_
              have hb0 : decide (k = 0) = false := by rw [decide_eq_false_iff_not]; omega
              exact k_vret hC hE (Nat.le_of_ble_eq_true rfl) (Nat.le_of_ble_eq_true rfl) dX4_works_123 (by rw [hw2, show mStart r (decide (k = 0)) g = (va_up g.1 11 (mRun g), va_up g.2.1 0 (g.2.1 0 + 1), g.2.2) by unfold mStart; rw [if_neg c2, if_pos ⟨hb0, by omega⟩]]; exact ⟨rfl, S, _, 0, rfl, ⟨t9, t10, t11, t12, t13, t14, t15, t16, kupd_eq, t18, t19, t20, tr0, tr1, tr2⟩, (mOnly_tr ho2 mOnly_17), by show g.2.1 1 = _; rw [hz1]; exact (Int32.add_zero _).symm, (Int32.add_zero _).symm, fun _ _ => rfl⟩)
        · have e9 : mRun g = g.1 11 := by
            by_cases hh : g.1 11 = 0 ∧ g.1 7 ≤ g.1 9
            · exfalso; unfold mRun at c2; rw [if_pos hh] at c2; omega
            · unfold mRun; rw [if_neg hh]
          exact k_vret hC hE (Nat.le_of_ble_eq_true rfl) (Nat.le_of_ble_eq_true rfl) dX4_works_94 (by rw [hw2, show mStart r (decide (k = 0)) g = g by unfold mStart; rw [if_pos c2]]; exact ⟨rfl, S, G2, 0, rfl, ⟨t9, t10, t11, t12, t13, t14, t15, t16.trans (congrArg nI e9), t17, t18, t19, t20, tr0, tr1, tr2⟩, ho2, by rw [hz1]; exact (Int32.add_zero _).symm, (Int32.add_zero _).symm, fun _ _ => rfl⟩)
      refine k_aload_n hC 0 dX4_works_49 rfl rfl ?_
      refine k_get hC inlX4 0 16 rfl rfl (by decide) lkF_X4_32 rfl dX4_works_50 ?_
      refine k_iload_n hC 1 dX4_works_53 rfl rfl ?_
      refine k_ald hC 8 rfl (by omega) (by decide) dX4_works_54 ?_
      refine k_topE (nI (g.1 11)) p16 ?_
      refine k_if_neN hC 85 dX4_works_55 (by decide) (by omega) (fun c5 => ?_) (fun c5 => ?_)
      · exact j85 G1 ⟨p9, p10, p11, p12, p13, p14, p15, p16.trans (congrArg nI (show g.1 11 = mRun g by unfold mRun; rw [if_neg (fun q => c5 q.1)])), p17, p18, p19, p20, pr0, pr1, pr2⟩ ho1
      · refine k_aload_n hC 0 dX4_works_58 rfl rfl ?_
        refine k_get hC inlX4 0 14 rfl rfl (by decide) lkF_X4_26 rfl dX4_works_59 ?_
        refine k_iload_n hC 1 dX4_works_62 rfl rfl ?_
        refine k_ald hC 6 rfl (by omega) (by decide) dX4_works_63 ?_
        refine k_topE (nI (g.1 9)) p14 ?_
        refine k_aload_n hC 0 dX4_works_64 rfl rfl ?_
        refine k_get hC inlX4 0 12 rfl rfl (by decide) lkF_X4_19 rfl dX4_works_65 ?_
        refine k_iload_n hC 1 dX4_works_68 rfl rfl ?_
        refine k_ald hC 4 rfl (by omega) (by decide) dX4_works_69 ?_
        refine k_topE (nI (g.1 7)) p12 ?_
        refine k_icmp_ltN hC 85 dX4_works_70 (by decide) (by omega) (by omega) (fun c6 => ?_) (fun c6 => ?_)
        · exact j85 G1 ⟨p9, p10, p11, p12, p13, p14, p15, p16.trans (congrArg nI (show g.1 11 = mRun g by unfold mRun; rw [if_neg (fun q => by omega)])), p17, p18, p19, p20, pr0, pr1, pr2⟩ ho1
        · refine k_aload_n hC 0 dX4_works_73 rfl rfl ?_
          refine k_get hC inlX4 0 16 rfl rfl (by decide) lkF_X4_32 rfl dX4_works_74 ?_
          refine k_iload_n hC 1 dX4_works_77 rfl rfl ?_
          refine k_aload_n hC 0 dX4_works_78 rfl rfl ?_
          refine k_get hC inlX4 0 14 rfl rfl (by decide) lkF_X4_26 rfl dX4_works_79 ?_
          refine k_iload_n hC 1 dX4_works_82 rfl rfl ?_
          refine k_ald hC 6 rfl (by omega) (by decide) dX4_works_83 ?_
          refine k_topE (nI (g.1 9)) p14 ?_
          refine k_ast hC 8 rfl (by omega) (by decide) dX4_works_84 (wM K y b S (va_up G1 16 (upd (G1 16) k (nI (g.1 9))))) rfl ?_
          exact j85 _ ⟨p9, p10, p11, p12, p13, p14, p15, (show upd (G1 16) k (nI (g.1 9)) k = nI (mRun g) by rw [kupd_eq, show mRun g = g.1 9 by unfold mRun; rw [if_pos ⟨by omega, by omega⟩]]), p17, p18, p19, p20, pr0, pr1, pr2⟩ (mOnly_tr ho1 mOnly_16)
    · exact k_vret hC hE (Nat.le_of_ble_eq_true rfl) (Nat.le_of_ble_eq_true rfl) dX4_works_48 (by rw [hw0, if_pos c1]; exact ⟨rfl, S, G1, 0, rfl, hq1, ho1, by rw [hz1]; exact (Int32.add_zero _).symm, (Int32.add_zero _).symm, fun _ _ => rfl⟩)
  refine k_aload_n hC 0 dX4_works_0 rfl rfl ?_
  refine k_get hC inlX4 0 15 rfl rfl (by decide) lkF_X4_29 rfl dX4_works_1 ?_
  refine k_iload_n hC 1 dX4_works_4 rfl rfl ?_
  refine k_ald hC 7 rfl (by omega) (by decide) dX4_works_5 ?_
  refine k_topE (nI (τ.1 10)) q15 ?_
  have hq0 : mRepS k τ G := ⟨q9, q10, q11, q12, q13, q14, q15, q16, q17, q18, q19, q20, qr0, qr1, qr2⟩
  refine k_if_leN hC 39 dX4_works_6 (by decide) (by omega) (fun c1 => ?_) (fun c1 => ?_)
  · exact j39 G τ hq0 mOnly_rf (by unfold mGoOn; rw [if_pos c1])
  · refine k_aload_n hC 0 dX4_works_9 rfl rfl ?_
    refine k_get hC inlX4 0 15 rfl rfl (by decide) lkF_X4_29 rfl dX4_works_10 ?_
    refine k_iload_n hC 1 dX4_works_13 rfl rfl ?_
    refine k_dup2 hC dX4_works_14 rfl rfl ?_
    refine k_ald hC 7 rfl (by omega) (by decide) dX4_works_15 ?_
    refine k_topE (nI (τ.1 10)) q15 ?_
    refine k_iconst hC (nI 1) dX4_works_16 rfl ?_
    refine k_isubN hC dX4_works_17 (by omega) ?_
    refine k_ast hC 7 rfl (by omega) (by decide) dX4_works_18 (wM K y b S (va_up G 15 (upd (G 15) k (nI ((τ.1 10) - 1))))) rfl ?_
    refine k_aload_n hC 0 dX4_works_19 rfl rfl ?_
    refine k_get hC inlX4 0 15 rfl rfl (by decide) lkF_X4_29 rfl dX4_works_20 ?_
    refine k_iload_n hC 1 dX4_works_23 rfl rfl ?_
    refine k_ald hC 7 rfl (by omega) (by decide) dX4_works_24 ?_
    refine k_topE (nI (τ.1 10 - 1)) kupd_eq ?_
    refine k_if_neN hC 39 dX4_works_25 (by decide) (by omega) (fun c2 => ?_) (fun c2 => ?_)
    · exact j39 _ (va_up τ.1 10 (τ.1 10 - 1), τ.2) ⟨q9, q10, q11, q12, q13, q14, kupd_eq, q16, q17, q18, q19, q20, qr0, qr1, qr2⟩ (mOnly_tr mOnly_rf mOnly_15) (by unfold mGoOn; rw [if_neg c1, if_neg (by omega)])
    · refine k_aload_n hC 0 dX4_works_28 rfl rfl ?_
      refine k_iload_n hC 1 dX4_works_29 rfl rfl ?_
      refine k_aload_n hC 0 dX4_works_30 rfl rfl ?_
      refine k_get hC inlX4 0 10 rfl rfl (by decide) lkF_X4_13 rfl dX4_works_31 ?_
      refine k_iload_n hC 1 dX4_works_34 rfl rfl ?_
      refine k_ald hC 2 rfl (by omega) (by decide) dX4_works_35 ?_
      refine k_topE (nI (τ.1 2)) q10 ?_
      refine k_callV hC (As := [.int (nI k), .int (nI (τ.1 2))]) (cX4_comesToMarket_k l K y b S (va_up G 15 (upd (G 15) k (nI ((τ.1 10) - 1)))) k (τ.2.2 0).length (τ.1 2) hk qr0.1 (by omega)) [] (List.append_nil _).symm 0 rfl rfl (kAll5 lkM_X4_85 lkI_yX4_comesToMarket lkS_yX4_comesToMarket lkN_X4 lkC_yX4_comesToMarket) 2 (by decide) ⟨(Nat.le_of_ble_eq_true rfl), (Nat.le_of_ble_eq_true rfl)⟩ rfl rfl (Nat.le_of_ble_eq_true rfl) ⟨(Nat.le_of_ble_eq_true rfl), (Nat.le_of_ble_eq_true rfl)⟩ dX4_works_36 (fun v w h => ?_)
      obtain ⟨rfl, rfl⟩ := h
      refine k_re 0 0 (wM K y b S (va_up (va_up (va_up (va_up G 15 (upd (G 15) k (nI ((τ.1 10) - 1)))) 21 (upd ((va_up G 15 (upd (G 15) k (nI ((τ.1 10) - 1)))) 21) (16 * k + (τ.2.2 0).length) (nI (τ.1 2)))) 22 (upd ((va_up G 15 (upd (G 15) k (nI ((τ.1 10) - 1)))) 22) (16 * k + (τ.2.2 0).length) (nI 1))) 23 (upd ((va_up G 15 (upd (G 15) k (nI ((τ.1 10) - 1)))) 23) k (nI ((τ.2.2 0).length + 1))))) [] rfl rfl (List.append_nil _) rfl ?_
      exact j39 _ (va_up τ.1 10 (τ.1 10 - 1), τ.2.1, va_up τ.2.2 0 (τ.2.2 0 ++ [(τ.1 2, 1)])) ⟨q9, q10, q11, q12, q13, q14, kupd_eq, q16, q17, q18, q19, q20, mRg_snoc (τ.1 2) 1 qr0, qr1, qr2⟩ (mOnly_tr (mOnly_tr (mOnly_tr (mOnly_tr mOnly_rf mOnly_15) (mOnly_21 (x := ((τ.2.2 0).length)) (by omega))) (mOnly_22 (x := ((τ.2.2 0).length)) (by omega))) mOnly_23) (by unfold mGoOn; rw [if_neg c1, if_pos (by omega)])
