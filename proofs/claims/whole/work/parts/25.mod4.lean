/-! the reference: what travels to a stage -/
theorem mBr_sh {R : List (Nat × Nat)} {i k : Nat} {u s : Nat → Int32} (h : mBr R i (fun j => u (16 * k + j)) (fun j => s (16 * k + j))) (hi : i < R.length) (h2 : 1 < (mg R i).2) : mBr R (i + 1) (fun j => upd u (16 * k + (mStay (R.take i)).length) (nI (mg R i).1) (16 * k + j)) (fun j => upd s (16 * k + (mStay (R.take i)).length) (nI ((mg R i).2 - 1)) (16 * k + j)) := by
  rw [upd_sh, upd_sh]
  exact mBr_t h hi h2
abbrev rmX4_conveys : Room := { frames := 1, cells := 0, slots := 0, locals := 22 }
set_option maxRecDepth 100000 in
set_option maxHeartbeats 4000000 in
theorem cX4_conveys_k (l : Launch) (K : kE) (y : Nat) (b : Nat → Nat) (S : Nat → Int32) (G : Nat → Nat → Int32) (k : Nat) (hk : k + 1 < 6) (τ α : mT) (bb : Bool) (hq : mRepS (k + 1) τ G) (hq2 : mRepS k α G) (hI : mInv false τ) (hI2 : mInv bb α) : kM l yX4_conveys (kws yX4_conveys cX4_conveys 6 none) rmX4_conveys K [.ref y, .int (nI (k + 1))] (wM K y b S G) (fun v w => v = none ∧ ∃ G1 : Nat → Nat → Int32, w = wM K y b S G1 ∧ mRepS (k + 1) (mConvey τ α).1 G1 ∧ mRepS k (mConvey τ α).2 G1 ∧ ∀ j : Nat, j ≠ k + 1 → j ≠ k → mAg j G G1) := by
  refine kM_of (pl := []) (X := (wM K y b S G)) rfl (by decide) (Nat.le_of_ble_eq_true rfl) ?_
  intro p e s m args below meth cd A Q hC hnm hE
  have hn := hI.1
  have hl0 := mInv_L0 hI
  have hl1 := mInv_L1 hI
  have hl2 := mInv_L2 hI
  obtain ⟨q9, q10, q11, q12, q13, q14, q15, q16, q17, q18, q19, q20, qr0, qr1, qr2⟩ := id hq
  have ph2 : ∀ (n : Nat) (k9 : Int32) (τ9 α9 : mT) (G9 : Nat → Nat → Int32), n = min (τ9.1 14) (α9.2.2 0).length → mConvey τ α = mFetch n τ9 α9 → mRepS (k + 1) τ9 G9 → mRepS k α9 G9 → mInv false τ9 → mInv bb α9 → (∀ j : Nat, j ≠ k + 1 → j ≠ k → mAg j G G9) → kW p l e rmX4_conveys s m args below meth cd K A 6 Q 0 0 ([]) (wM K y b S G9) [(0, .ref y), (1, .int (nI (k + 1))), (2, .int k9), (3, .int (nI k))] 103 [] := by
    intro n
    induction n with
    | zero =>
      intro k9 τ9 α9 G9 hmin he hp hv hJ hJ2 ho9
      obtain ⟨p9, p10, p11, p12, p13, p14, p15, p16, p17, p18, p19, p20, pr0, pr1, pr2⟩ := id hp
      obtain ⟨v9, v10, v11, v12, v13, v14, v15, v16, v17, v18, v19, v20, vr0, vr1, vr2⟩ := id hv
      have j2 := mInv_L2 hJ
      have a0 := mInv_L0 hJ2
      refine k_aload_n hC 0 dX4_conveys_103 rfl rfl ?_
      refine k_get hC inlX4 0 20 rfl rfl (by decide) lkF_X4_44 rfl dX4_conveys_104 ?_
      refine k_iload_n hC 1 dX4_conveys_107 rfl rfl ?_
      refine k_ald hC 12 rfl (by omega) (by decide) dX4_conveys_108 ?_
      refine k_topE (nI (τ9.1 14)) p20 ?_
      refine k_if_leN hC 237 dX4_conveys_109 (by decide) (by omega) (fun c1 => ?_) (fun c1 => ?_)
      · exact k_vret hC hE (Nat.le_of_ble_eq_true rfl) (Nat.le_of_ble_eq_true rfl) dX4_conveys_237 (by rw [he]; exact ⟨rfl, G9, rfl, hp, hv, ho9⟩)
      · refine k_aload_n hC 0 dX4_conveys_112 rfl rfl ?_
        refine k_get hC inlX4 0 23 rfl rfl (by decide) lkF_X4_53 rfl dX4_conveys_113 ?_
        refine k_iload_n hC 3 dX4_conveys_116 rfl rfl ?_
        refine k_ald hC 15 rfl (by omega) (by decide) dX4_conveys_117 ?_
        refine k_topE (nI ((α9.2.2 0).length)) vr0.1 ?_
        refine k_if_leN hC 237 dX4_conveys_118 (by decide) (by omega) (fun c2 => ?_) (fun c2 => ?_)
        · exact k_vret hC hE (Nat.le_of_ble_eq_true rfl) (Nat.le_of_ble_eq_true rfl) dX4_conveys_237 (by rw [he]; exact ⟨rfl, G9, rfl, hp, hv, ho9⟩)
        · exact absurd (show (α9.2.2 0).length = 0 by omega) c2
    | succ n ih =>
      intro k9 τ9 α9 G9 hmin he hp hv hJ hJ2 ho9
      have jn := hJ.1
      have j0 := mInv_L0 hJ
      have j1 := mInv_L1 hJ
      have j2 := mInv_L2 hJ
      have a0 := mInv_L0 hJ2
      have a9 : α9.1 9 ≤ 9 := by have := hJ2.2.1; have := hJ2.1; omega
      obtain ⟨x, t, hx⟩ : ∃ x t, α9.2.2 0 = x :: t := by
        cases hc : α9.2.2 0 with
        | nil => rw [hc] at hmin; simp at hmin
        | cons x t => exact ⟨x, t, rfl⟩
      have hlx : (α9.2.2 0).length = t.length + 1 := by rw [hx]; rfl
      have hk0 := hJ2.2.2.2.1
      rw [hx] at hk0
      have hox := mOk_1 hk0 (List.mem_cons_self)
      obtain ⟨p9, p10, p11, p12, p13, p14, p15, p16, p17, p18, p19, p20, pr0, pr1, pr2⟩ := id hp
      obtain ⟨v9, v10, v11, v12, v13, v14, v15, v16, v17, v18, v19, v20, vr0, vr1, vr2⟩ := id hv
      have vx0 := vr0
      rw [hx] at vx0
      refine k_aload_n hC 0 dX4_conveys_103 rfl rfl ?_
      refine k_get hC inlX4 0 20 rfl rfl (by decide) lkF_X4_44 rfl dX4_conveys_104 ?_
      refine k_iload_n hC 1 dX4_conveys_107 rfl rfl ?_
      refine k_ald hC 12 rfl (by omega) (by decide) dX4_conveys_108 ?_
      refine k_topE (nI (τ9.1 14)) p20 ?_
      refine k_if_leN hC 237 dX4_conveys_109 (by decide) (by omega) (fun c1 => ?_) (fun c1 => ?_)
      · exact absurd c1 (by omega)
      · refine k_aload_n hC 0 dX4_conveys_112 rfl rfl ?_
        refine k_get hC inlX4 0 23 rfl rfl (by decide) lkF_X4_53 rfl dX4_conveys_113 ?_
        refine k_iload_n hC 3 dX4_conveys_116 rfl rfl ?_
        refine k_ald hC 15 rfl (by omega) (by decide) dX4_conveys_117 ?_
        refine k_topE (nI ((α9.2.2 0).length)) vr0.1 ?_
        refine k_if_leN hC 237 dX4_conveys_118 (by decide) (by omega) (fun c2 => ?_) (fun c2 => ?_)
        · exact absurd c2 (by omega)
        · refine k_aload_n hC 0 dX4_conveys_121 rfl rfl ?_
          refine k_get hC inlX4 0 21 rfl rfl (by decide) lkF_X4_47 rfl dX4_conveys_122 ?_
          refine k_bipush hC (nI 16) dX4_conveys_125 rfl ?_
          refine k_iload_n hC 3 dX4_conveys_127 rfl rfl ?_
          refine k_imulN hC dX4_conveys_128 ?_
          refine k_ald hC 13 rfl (by omega) (by decide) dX4_conveys_129 ?_
          refine k_topE (nI x.1) (vx0.2 0 (by show 0 < t.length + 1; omega)).1 ?_
          refine k_istore hC dX4_conveys_130 (by decide) rfl [(0, .ref y), (1, .int (nI (k + 1))), (2, .int k9), (3, .int (nI k)), (4, .int (nI x.1))] rfl ?_
          refine k_aload_n hC 0 dX4_conveys_132 rfl rfl ?_
          refine k_get hC inlX4 0 14 rfl rfl (by decide) lkF_X4_26 rfl dX4_conveys_133 ?_
          refine k_iload_n hC 3 dX4_conveys_136 rfl rfl ?_
          refine k_dup2 hC dX4_conveys_137 rfl rfl ?_
          refine k_ald hC 6 rfl (by omega) (by decide) dX4_conveys_138 ?_
          refine k_topE (nI (α9.1 9)) v14 ?_
          refine k_aload_n hC 0 dX4_conveys_139 rfl rfl ?_
          refine k_get hC inlX4 0 22 rfl rfl (by decide) lkF_X4_50 rfl dX4_conveys_140 ?_
          refine k_bipush hC (nI 16) dX4_conveys_143 rfl ?_
          refine k_iload_n hC 3 dX4_conveys_145 rfl rfl ?_
          refine k_imulN hC dX4_conveys_146 ?_
          refine k_ald hC 14 rfl (by omega) (by decide) dX4_conveys_147 ?_
          refine k_topE (nI x.2) (vx0.2 0 (by show 0 < t.length + 1; omega)).2 ?_
          refine k_iaddN hC dX4_conveys_148 ?_
          refine k_ast hC 6 rfl (by omega) (by decide) dX4_conveys_149 (wM K y b S (va_up G9 14 (upd (G9 14) k (nI ((α9.1 9) + x.2))))) rfl ?_
          refine k_aload_n hC 0 dX4_conveys_150 rfl rfl ?_
          refine k_iload_n hC 3 dX4_conveys_151 rfl rfl ?_
          refine k_callV hC (As := [.int (nI k)]) (cX4_leavesMarket_k l K y b S (va_up G9 14 (upd (G9 14) k (nI ((α9.1 9) + x.2)))) k x t (by omega) vx0 (by show t.length + 1 ≤ 16; omega)) [] (List.append_nil _).symm 0 rfl rfl (kAll5 lkM_X4_103 lkI_yX4_leavesMarket lkS_yX4_leavesMarket lkN_X4 lkC_yX4_leavesMarket) 1 (by decide) ⟨(Nat.le_of_ble_eq_true rfl), (Nat.le_of_ble_eq_true rfl)⟩ rfl rfl (Nat.le_of_ble_eq_true rfl) ⟨(Nat.le_of_ble_eq_true rfl), (Nat.le_of_ble_eq_true rfl)⟩ dX4_conveys_152 (fun v w h => ?_)
          obtain ⟨rfl, u1, c2, rfl, hR1, ho1⟩ := h
          refine k_re 0 0 (wM K y b S ((va_up (va_up (va_up (va_up G9 14 (upd (G9 14) k (nI ((α9.1 9) + x.2)))) 21 u1) 22 c2) 23 (upd ((va_up G9 14 (upd (G9 14) k (nI ((α9.1 9) + x.2)))) 23) k (nI t.length))))) [] rfl rfl (List.append_nil _) rfl ?_
          have hon : mOnly k G9 (va_up (va_up (va_up (va_up G9 14 (upd (G9 14) k (nI ((α9.1 9) + x.2)))) 21 u1) 22 c2) 23 (upd ((va_up G9 14 (upd (G9 14) k (nI ((α9.1 9) + x.2)))) 23) k (nI t.length))) := (mOnly_tr (mOnly_tr (mOnly_tr mOnly_rf mOnly_14) (mOnlyP_21 ho1)) mOnly_23)
          have hva : mRepS k (mGive α9 x t) (va_up (va_up (va_up (va_up G9 14 (upd (G9 14) k (nI ((α9.1 9) + x.2)))) 21 u1) 22 c2) 23 (upd ((va_up G9 14 (upd (G9 14) k (nI ((α9.1 9) + x.2)))) 23) k (nI t.length))) := ⟨v9, v10, v11, v12, v13, kupd_eq, v15, v16, v17, v18, v19, v20, ⟨kupd_eq, hR1⟩, vr1, vr2⟩
          have hpa : mRepS (k + 1) τ9 (va_up (va_up (va_up (va_up G9 14 (upd (G9 14) k (nI ((α9.1 9) + x.2)))) 21 u1) 22 c2) 23 (upd ((va_up G9 14 (upd (G9 14) k (nI ((α9.1 9) + x.2)))) 23) k (nI t.length))) := mRepS_ag hp (by omega) (hon (k + 1) (by omega))
          have hoa : ∀ j : Nat, j ≠ k + 1 → j ≠ k → mAg j G (va_up (va_up (va_up (va_up G9 14 (upd (G9 14) k (nI ((α9.1 9) + x.2)))) 21 u1) 22 c2) 23 (upd ((va_up G9 14 (upd (G9 14) k (nI ((α9.1 9) + x.2)))) 23) k (nI t.length))) := fun j h1 h2 => mAg_tr (ho9 j h1 h2) (hon j h2)
          generalize (va_up (va_up (va_up (va_up G9 14 (upd (G9 14) k (nI ((α9.1 9) + x.2)))) 21 u1) 22 c2) 23 (upd ((va_up G9 14 (upd (G9 14) k (nI ((α9.1 9) + x.2)))) 23) k (nI t.length))) = Ga at hva hpa hoa ⊢
          obtain ⟨s9, s10, s11, s12, s13, s14, s15, s16, s17, s18, s19, s20, sr0, sr1, sr2⟩ := id hpa
          refine k_aload_n hC 0 dX4_conveys_155 rfl rfl ?_
          refine k_get hC inlX4 0 20 rfl rfl (by decide) lkF_X4_44 rfl dX4_conveys_156 ?_
          refine k_iload_n hC 1 dX4_conveys_159 rfl rfl ?_
          refine k_dup2 hC dX4_conveys_160 rfl rfl ?_
          refine k_ald hC 12 rfl (by omega) (by decide) dX4_conveys_161 ?_
          refine k_topE (nI (τ9.1 14)) s20 ?_
          refine k_iconst hC (nI 1) dX4_conveys_162 rfl ?_
          refine k_isubN hC dX4_conveys_163 (by omega) ?_
          refine k_ast hC 12 rfl (by omega) (by decide) dX4_conveys_164 (wM K y b S (va_up Ga 20 (upd (Ga 20) (k + 1) (nI ((τ9.1 14) - 1))))) rfl ?_
          refine k_aload_n hC 0 dX4_conveys_165 rfl rfl ?_
          refine k_get hC inlX4 0 18 rfl rfl (by decide) lkF_X4_38 rfl dX4_conveys_166 ?_
          refine k_iload_n hC 1 dX4_conveys_169 rfl rfl ?_
          refine k_ald hC 10 rfl (by omega) (by decide) dX4_conveys_170 ?_
          refine k_topE (nI (τ9.1 15)) s18 ?_
          refine k_if_neN hC 184 dX4_conveys_171 (by decide) (by omega) (fun c3 => ?_) (fun c3 => ?_)
          · refine k_aload_n hC 0 dX4_conveys_184 rfl rfl ?_
            refine k_get hC inlX4 0 27 rfl rfl (by decide) lkF_X4_65 rfl dX4_conveys_185 ?_
            refine k_bipush hC (nI 16) dX4_conveys_188 rfl ?_
            refine k_iload_n hC 1 dX4_conveys_190 rfl rfl ?_
            refine k_imulN hC dX4_conveys_191 ?_
            refine k_aload_n hC 0 dX4_conveys_192 rfl rfl ?_
            refine k_get hC inlX4 0 29 rfl rfl (by decide) lkF_X4_71 rfl dX4_conveys_193 ?_
            refine k_iload_n hC 1 dX4_conveys_196 rfl rfl ?_
            refine k_ald hC 21 rfl (by omega) (by decide) dX4_conveys_197 ?_
            refine k_topE (nI ((τ9.2.2 2).length)) sr2.1 ?_
            refine k_iaddN hC dX4_conveys_198 ?_
            refine k_iload hC dX4_conveys_199 rfl ?_
            refine k_ast hC 19 rfl (by omega) (by decide) dX4_conveys_201 (wM K y b S (va_up (va_up Ga 20 (upd (Ga 20) (k + 1) (nI ((τ9.1 14) - 1)))) 27 (upd (Ga 27) ((16 * (k + 1)) + ((τ9.2.2 2).length)) (nI x.1)))) rfl ?_
            refine k_aload_n hC 0 dX4_conveys_202 rfl rfl ?_
            refine k_get hC inlX4 0 28 rfl rfl (by decide) lkF_X4_68 rfl dX4_conveys_203 ?_
            refine k_bipush hC (nI 16) dX4_conveys_206 rfl ?_
            refine k_iload_n hC 1 dX4_conveys_208 rfl rfl ?_
            refine k_imulN hC dX4_conveys_209 ?_
            refine k_aload_n hC 0 dX4_conveys_210 rfl rfl ?_
            refine k_get hC inlX4 0 29 rfl rfl (by decide) lkF_X4_71 rfl dX4_conveys_211 ?_
            refine k_iload_n hC 1 dX4_conveys_214 rfl rfl ?_
            refine k_ald hC 21 rfl (by omega) (by decide) dX4_conveys_215 ?_
            refine k_topE (nI ((τ9.2.2 2).length)) sr2.1 ?_
            refine k_iaddN hC dX4_conveys_216 ?_
            refine k_aload_n hC 0 dX4_conveys_217 rfl rfl ?_
            refine k_get hC inlX4 0 18 rfl rfl (by decide) lkF_X4_38 rfl dX4_conveys_218 ?_
            refine k_iload_n hC 1 dX4_conveys_221 rfl rfl ?_
            refine k_ald hC 10 rfl (by omega) (by decide) dX4_conveys_222 ?_
            refine k_topE (nI (τ9.1 15)) s18 ?_
            refine k_ast hC 20 rfl (by omega) (by decide) dX4_conveys_223 (wM K y b S (va_up (va_up (va_up Ga 20 (upd (Ga 20) (k + 1) (nI ((τ9.1 14) - 1)))) 27 (upd (Ga 27) ((16 * (k + 1)) + ((τ9.2.2 2).length)) (nI x.1))) 28 (upd (Ga 28) ((16 * (k + 1)) + ((τ9.2.2 2).length)) (nI (τ9.1 15))))) rfl ?_
            refine k_aload_n hC 0 dX4_conveys_224 rfl rfl ?_
            refine k_get hC inlX4 0 29 rfl rfl (by decide) lkF_X4_71 rfl dX4_conveys_225 ?_
            refine k_iload_n hC 1 dX4_conveys_228 rfl rfl ?_
            refine k_dup2 hC dX4_conveys_229 rfl rfl ?_
            refine k_ald hC 21 rfl (by omega) (by decide) dX4_conveys_230 ?_
            refine k_topE (nI ((τ9.2.2 2).length)) sr2.1 ?_
            refine k_iconst hC (nI 1) dX4_conveys_231 rfl ?_
            refine k_iaddN hC dX4_conveys_232 ?_
            refine k_ast hC 21 rfl (by omega) (by decide) dX4_conveys_233 (wM K y b S (va_up (va_up (va_up (va_up Ga 20 (upd (Ga 20) (k + 1) (nI ((τ9.1 14) - 1)))) 27 (upd (Ga 27) ((16 * (k + 1)) + ((τ9.2.2 2).length)) (nI x.1))) 28 (upd (Ga 28) ((16 * (k + 1)) + ((τ9.2.2 2).length)) (nI (τ9.1 15)))) 29 (upd (Ga 29) (k + 1) (nI (((τ9.2.2 2).length) + 1))))) rfl ?_
            have eg : mGet τ9 x = (va_up τ9.1 14 (τ9.1 14 - 1), τ9.2.1, va_up τ9.2.2 2 (τ9.2.2 2 ++ [(x.1, τ9.1 15)])) := by unfold mGet; rw [if_neg c3]
            refine k_goto hC 103 dX4_conveys_234 (by decide) ?_
            refine k_lsub [0, 1, 2, 3] [(0, .ref y), (1, .int (nI (k + 1))), (2, .int k9), (3, .int (nI k))] rfl ?_
            have honb : mOnly (k + 1) Ga (va_up (va_up (va_up (va_up Ga 20 (upd (Ga 20) (k + 1) (nI ((τ9.1 14) - 1)))) 27 (upd (Ga 27) ((16 * (k + 1)) + ((τ9.2.2 2).length)) (nI x.1))) 28 (upd (Ga 28) ((16 * (k + 1)) + ((τ9.2.2 2).length)) (nI (τ9.1 15)))) 29 (upd (Ga 29) (k + 1) (nI (((τ9.2.2 2).length) + 1)))) := (mOnly_tr (mOnly_tr (mOnly_tr (mOnly_tr mOnly_rf mOnly_20) (mOnly_27 (x := (((τ9.2.2 2).length))) (by omega))) (mOnly_28 (x := (((τ9.2.2 2).length))) (by omega))) mOnly_29)
            exact ih _ (mGet τ9 x) (mGive α9 x t) _ (by show n = min (τ9.1 14 - 1) t.length; omega) (by rw [he]; simp only [mFetch, hx]) (by rw [eg]; exact ⟨s9, s10, s11, s12, s13, s14, s15, s16, s17, s18, s19, kupd_eq, sr0, sr1, mRg_snoc x.1 (τ9.1 15) sr2⟩) (mRepS_ag hva (mInv_16 (mGive_inv hJ2 hx)) (honb k (by omega))) (mGet_inv hJ (by omega) hox.1 hox.2.1) (mGive_inv hJ2 hx) (fun j h1 h2 => mAg_tr (hoa j h1 h2) (honb j h1))
          · refine k_aload_n hC 0 dX4_conveys_174 rfl rfl ?_
            refine k_iload_n hC 1 dX4_conveys_175 rfl rfl ?_
            refine k_iload hC dX4_conveys_176 rfl ?_
            refine k_callV hC (As := [.int (nI (k + 1)), .int (nI x.1)]) (cX4_comesToInbox_k l K y b S (va_up Ga 20 (upd (Ga 20) (k + 1) (nI ((τ9.1 14) - 1)))) (k + 1) (τ9.2.2 1).length x.1 hk sr1.1 (by omega)) [] (List.append_nil _).symm 0 rfl rfl (kAll5 lkM_X4_114 lkI_yX4_comesToInbox lkS_yX4_comesToInbox lkN_X4 lkC_yX4_comesToInbox) 2 (by decide) ⟨(Nat.le_of_ble_eq_true rfl), (Nat.le_of_ble_eq_true rfl)⟩ rfl rfl (Nat.le_of_ble_eq_true rfl) ⟨(Nat.le_of_ble_eq_true rfl), (Nat.le_of_ble_eq_true rfl)⟩ dX4_conveys_178 (fun v w h => ?_)
            obtain ⟨rfl, rfl⟩ := h
            refine k_re 0 0 (wM K y b S (va_up (va_up (va_up (va_up Ga 20 (upd (Ga 20) (k + 1) (nI ((τ9.1 14) - 1)))) 24 (upd ((va_up Ga 20 (upd (Ga 20) (k + 1) (nI ((τ9.1 14) - 1)))) 24) (16 * (k + 1) + (τ9.2.2 1).length) (nI x.1))) 25 (upd ((va_up Ga 20 (upd (Ga 20) (k + 1) (nI ((τ9.1 14) - 1)))) 25) (16 * (k + 1) + (τ9.2.2 1).length) (nI 1))) 26 (upd ((va_up Ga 20 (upd (Ga 20) (k + 1) (nI ((τ9.1 14) - 1)))) 26) (k + 1) (nI ((τ9.2.2 1).length + 1))))) [] rfl rfl (List.append_nil _) rfl ?_
            have eg : mGet τ9 x = (va_up τ9.1 14 (τ9.1 14 - 1), τ9.2.1, va_up τ9.2.2 1 (τ9.2.2 1 ++ [(x.1, 1)])) := by unfold mGet; rw [if_pos c3]
            refine k_goto hC 234 dX4_conveys_181 (by decide) ?_
            refine k_goto hC 103 dX4_conveys_234 (by decide) ?_
            refine k_lsub [0, 1, 2, 3] [(0, .ref y), (1, .int (nI (k + 1))), (2, .int k9), (3, .int (nI k))] rfl ?_
            have honb : mOnly (k + 1) Ga (va_up (va_up (va_up (va_up Ga 20 (upd (Ga 20) (k + 1) (nI ((τ9.1 14) - 1)))) 24 (upd ((va_up Ga 20 (upd (Ga 20) (k + 1) (nI ((τ9.1 14) - 1)))) 24) (16 * (k + 1) + (τ9.2.2 1).length) (nI x.1))) 25 (upd ((va_up Ga 20 (upd (Ga 20) (k + 1) (nI ((τ9.1 14) - 1)))) 25) (16 * (k + 1) + (τ9.2.2 1).length) (nI 1))) 26 (upd ((va_up Ga 20 (upd (Ga 20) (k + 1) (nI ((τ9.1 14) - 1)))) 26) (k + 1) (nI ((τ9.2.2 1).length + 1)))) := (mOnly_tr (mOnly_tr (mOnly_tr (mOnly_tr mOnly_rf mOnly_20) (mOnly_24 (x := ((τ9.2.2 1).length)) (by omega))) (mOnly_25 (x := ((τ9.2.2 1).length)) (by omega))) mOnly_26)
            exact ih _ (mGet τ9 x) (mGive α9 x t) _ (by show n = min (τ9.1 14 - 1) t.length; omega) (by rw [he]; simp only [mFetch, hx]) (by rw [eg]; exact ⟨s9, s10, s11, s12, s13, s14, s15, s16, s17, s18, s19, kupd_eq, sr0, mRg_snoc x.1 1 sr1, sr2⟩) (mRepS_ag hva (mInv_16 (mGive_inv hJ2 hx)) (honb k (by omega))) (mGet_inv hJ (by omega) hox.1 hox.2.1) (mGive_inv hJ2 hx) (fun j h1 h2 => mAg_tr (hoa j h1 h2) (honb j h1))
  refine k_iconst hC (nI 0) dX4_conveys_0 rfl ?_
  refine k_istore_n hC 2 dX4_conveys_1 rfl (by decide) rfl [(0, .ref y), (1, .int (nI (k + 1))), (2, .int (nI 0))] rfl ?_
  refine k_iconst hC (nI 0) dX4_conveys_2 rfl ?_
  refine k_istore_n hC 3 dX4_conveys_3 rfl (by decide) rfl [(0, .ref y), (1, .int (nI (k + 1))), (2, .int (nI 0)), (3, .int (nI 0))] rfl ?_
  have ph1 : ∀ (n i : Nat) (G9 : Nat → Nat → Int32), n + i = (τ.2.2 2).length + 1 → i ≤ (τ.2.2 2).length → mBr (τ.2.2 2) i (fun j => G9 27 (16 * (k + 1) + j)) (fun j => G9 28 (16 * (k + 1) + j)) → mRg (k + 1) (τ.2.2 1 ++ mArr ((τ.2.2 2).take i)) (G9 24) (G9 25) (G9 26) → mSame [24, 25, 26, 27, 28] G G9 → mOnly (k + 1) G G9 → kW p l e rmX4_conveys s m args below meth cd K A 6 Q 0 0 ([]) (wM K y b S G9) [(0, .ref y), (1, .int (nI (k + 1))), (2, .int (nI ((mStay ((τ.2.2 2).take i)).length))), (3, .int (nI i))] 4 [] := by
    intro n
    induction n with
    | zero => intro i G9 h1 h2; exact absurd h1 (by omega)
    | succ n ih =>
      intro i G9 h1 h2 hbr hib hs9 ho9
      have e29 := hs9 29 (by decide)
      have s9 : ∀ i : Nat, i ∉ [24, 25, 26, 27, 28] → ∀ j : Nat, G9 i j = G i j := fun i hi j => congrFun (hs9 i hi) j
      have hst := hI.2.2.2.2.2.1
      refine k_iload_n hC 3 dX4_conveys_4 rfl rfl ?_
      refine k_aload_n hC 0 dX4_conveys_5 rfl rfl ?_
      refine k_get hC inlX4 0 29 rfl rfl (by decide) lkF_X4_71 rfl dX4_conveys_6 ?_
      refine k_iload_n hC 1 dX4_conveys_9 rfl rfl ?_
      refine k_ald hC 21 rfl (by omega) (by decide) dX4_conveys_10 ?_
      refine k_topE (nI ((τ.2.2 2).length)) ((s9 29 (by decide) _).trans qr2.1) ?_
      refine k_icmp_geN hC 92 dX4_conveys_11 (by decide) (by omega) (by omega) (fun c1 => ?_) (fun c1 => ?_)
      · have e9 : i = (τ.2.2 2).length := by omega
        refine k_aload_n hC 0 dX4_conveys_92 rfl rfl ?_
        refine k_get hC inlX4 0 29 rfl rfl (by decide) lkF_X4_71 rfl dX4_conveys_93 ?_
        refine k_iload_n hC 1 dX4_conveys_96 rfl rfl ?_
        refine k_iload_n hC 2 dX4_conveys_97 rfl rfl ?_
        refine k_ast hC 21 rfl (by omega) (by decide) dX4_conveys_98 (wM K y b S (va_up G9 29 (upd (G9 29) (k + 1) (nI ((mStay ((τ.2.2 2).take i)).length))))) rfl ?_
        refine k_iload_n hC 1 dX4_conveys_99 rfl rfl ?_
        refine k_iconst hC (nI 1) dX4_conveys_100 rfl ?_
        refine k_isubN hC dX4_conveys_101 (by omega) ?_
        refine k_topE (nI k) rfl ?_
        refine k_istore_n hC 3 dX4_conveys_102 rfl (by decide) rfl [(0, .ref y), (1, .int (nI (k + 1))), (2, .int (nI ((mStay ((τ.2.2 2).take i)).length))), (3, .int (nI k))] rfl ?_
        have honb : mOnly (k + 1) G (va_up G9 29 (upd (G9 29) (k + 1) (nI ((mStay ((τ.2.2 2).take i)).length)))) := (mOnly_tr ho9 mOnly_29)
        exact ph2 _ _ (mBring τ) α _ rfl rfl ⟨((s9 9 (by decide) _).trans q9), ((s9 10 (by decide) _).trans q10), ((s9 11 (by decide) _).trans q11), ((s9 12 (by decide) _).trans q12), ((s9 13 (by decide) _).trans q13), ((s9 14 (by decide) _).trans q14), ((s9 15 (by decide) _).trans q15), ((s9 16 (by decide) _).trans q16), ((s9 17 (by decide) _).trans q17), ((s9 18 (by decide) _).trans q18), ((s9 19 (by decide) _).trans q19), ((s9 20 (by decide) _).trans q20), (by show mRg (k + 1) _ (G9 21) (G9 22) (G9 23); rw [hs9 21 (by decide), hs9 22 (by decide), hs9 23 (by decide)]; exact qr0), (by rw [e9, List.take_length] at hib; exact hib), ⟨by show upd _ _ _ _ = _; rw [kupd_eq, e9, List.take_length]; rfl, mBr_end (e9 ▸ hbr)⟩⟩ (mRepS_ag hq2 (mInv_16 hI2) (honb k (by omega))) (mBring_inv hI) hI2 (fun j h1 h2 => honb j h1)
      · have hi : i < (τ.2.2 2).length := by omega
        have hsx := hst _ (mg_mem hi)
        have hlen := mStay_le (Nat.le_of_lt hi)
        refine k_aload_n hC 0 dX4_conveys_14 rfl rfl ?_
        refine k_get hC inlX4 0 27 rfl rfl (by decide) lkF_X4_65 rfl dX4_conveys_15 ?_
        refine k_bipush hC (nI 16) dX4_conveys_18 rfl ?_
        refine k_iload_n hC 1 dX4_conveys_20 rfl rfl ?_
        refine k_imulN hC dX4_conveys_21 ?_
        refine k_iload_n hC 3 dX4_conveys_22 rfl rfl ?_
        refine k_iaddN hC dX4_conveys_23 ?_
        refine k_ald hC 19 rfl (by omega) (by decide) dX4_conveys_24 ?_
        refine k_topE (nI ((mg (τ.2.2 2) i).1)) (hbr.2 i (Nat.le_refl i) hi).1 ?_
        refine k_istore hC dX4_conveys_25 (by decide) rfl [(0, .ref y), (1, .int (nI (k + 1))), (2, .int (nI ((mStay ((τ.2.2 2).take i)).length))), (3, .int (nI i)), (4, .int (nI ((mg (τ.2.2 2) i).1)))] rfl ?_
        refine k_aload_n hC 0 dX4_conveys_27 rfl rfl ?_
        refine k_get hC inlX4 0 28 rfl rfl (by decide) lkF_X4_68 rfl dX4_conveys_28 ?_
        refine k_bipush hC (nI 16) dX4_conveys_31 rfl ?_
        refine k_iload_n hC 1 dX4_conveys_33 rfl rfl ?_
        refine k_imulN hC dX4_conveys_34 ?_
        refine k_iload_n hC 3 dX4_conveys_35 rfl rfl ?_
        refine k_iaddN hC dX4_conveys_36 ?_
        refine k_ald hC 20 rfl (by omega) (by decide) dX4_conveys_37 ?_
        refine k_topE (nI ((mg (τ.2.2 2) i).2)) (hbr.2 i (Nat.le_refl i) hi).2 ?_
        refine k_iconst hC (nI 1) dX4_conveys_38 rfl ?_
        refine k_isubN hC dX4_conveys_39 (by omega) ?_
        refine k_istore hC dX4_conveys_40 (by decide) rfl [(0, .ref y), (1, .int (nI (k + 1))), (2, .int (nI ((mStay ((τ.2.2 2).take i)).length))), (3, .int (nI i)), (4, .int (nI ((mg (τ.2.2 2) i).1))), (5, .int (nI (((mg (τ.2.2 2) i).2) - 1)))] rfl ?_
        refine k_iload hC dX4_conveys_42 rfl ?_
        refine k_if_neN hC 57 dX4_conveys_44 (by decide) (by omega) (fun c2 => ?_) (fun c2 => ?_)
        · have h2t : 1 < (mg (τ.2.2 2) i).2 := by omega
          refine k_aload_n hC 0 dX4_conveys_57 rfl rfl ?_
          refine k_get hC inlX4 0 27 rfl rfl (by decide) lkF_X4_65 rfl dX4_conveys_58 ?_
          refine k_bipush hC (nI 16) dX4_conveys_61 rfl ?_
          refine k_iload_n hC 1 dX4_conveys_63 rfl rfl ?_
          refine k_imulN hC dX4_conveys_64 ?_
          refine k_iload_n hC 2 dX4_conveys_65 rfl rfl ?_
          refine k_iaddN hC dX4_conveys_66 ?_
          refine k_iload hC dX4_conveys_67 rfl ?_
          refine k_ast hC 19 rfl (by omega) (by decide) dX4_conveys_69 (wM K y b S (va_up G9 27 (upd (G9 27) ((16 * (k + 1)) + ((mStay ((τ.2.2 2).take i)).length)) (nI ((mg (τ.2.2 2) i).1))))) rfl ?_
          refine k_aload_n hC 0 dX4_conveys_70 rfl rfl ?_
          refine k_get hC inlX4 0 28 rfl rfl (by decide) lkF_X4_68 rfl dX4_conveys_71 ?_
          refine k_bipush hC (nI 16) dX4_conveys_74 rfl ?_
          refine k_iload_n hC 1 dX4_conveys_76 rfl rfl ?_
          refine k_imulN hC dX4_conveys_77 ?_
          refine k_iload_n hC 2 dX4_conveys_78 rfl rfl ?_
          refine k_iaddN hC dX4_conveys_79 ?_
          refine k_iload hC dX4_conveys_80 rfl ?_
          refine k_ast hC 20 rfl (by omega) (by decide) dX4_conveys_82 (wM K y b S (va_up (va_up G9 27 (upd (G9 27) ((16 * (k + 1)) + ((mStay ((τ.2.2 2).take i)).length)) (nI ((mg (τ.2.2 2) i).1)))) 28 (upd (G9 28) ((16 * (k + 1)) + ((mStay ((τ.2.2 2).take i)).length)) (nI (((mg (τ.2.2 2) i).2) - 1))))) rfl ?_
          refine k_iinc hC dX4_conveys_83 (by decide) rfl rfl (nI ((mStay ((τ.2.2 2).take i)).length + 1)) (kinc ((mStay ((τ.2.2 2).take i)).length) 1 rfl) [(0, .ref y), (1, .int (nI (k + 1))), (2, .int (nI ((mStay ((τ.2.2 2).take i)).length + 1))), (3, .int (nI i)), (4, .int (nI ((mg (τ.2.2 2) i).1))), (5, .int (nI (((mg (τ.2.2 2) i).2) - 1)))] rfl ?_
          refine k_iinc hC dX4_conveys_86 (by decide) rfl rfl (nI (i + 1)) (kinc i 1 rfl) [(0, .ref y), (1, .int (nI (k + 1))), (2, .int (nI ((mStay ((τ.2.2 2).take i)).length + 1))), (3, .int (nI (i + 1))), (4, .int (nI ((mg (τ.2.2 2) i).1))), (5, .int (nI (((mg (τ.2.2 2) i).2) - 1)))] rfl ?_
          refine k_goto hC 4 dX4_conveys_89 (by decide) ?_
          refine k_lsub [0, 1, 2, 3] [(0, .ref y), (1, .int (nI (k + 1))), (2, .int (nI ((mStay ((τ.2.2 2).take i)).length + 1))), (3, .int (nI (i + 1)))] rfl ?_
          have h7 := mStay_t hi h2t
          have h6 := ih (i + 1) (va_up (va_up G9 27 (upd (G9 27) ((16 * (k + 1)) + ((mStay ((τ.2.2 2).take i)).length)) (nI ((mg (τ.2.2 2) i).1)))) 28 (upd (G9 28) ((16 * (k + 1)) + ((mStay ((τ.2.2 2).take i)).length)) (nI (((mg (τ.2.2 2) i).2) - 1)))) (by omega) (by omega) (mBr_sh hbr hi h2t) (by rw [h7.2]; exact hib) (mSame_tr (mSame_tr hs9 (mSame_up (show 27 ∈ [24, 25, 26, 27, 28] by decide))) (mSame_up (show 28 ∈ [24, 25, 26, 27, 28] by decide))) (mOnly_tr (mOnly_tr ho9 (mOnly_27 (x := (((mStay ((τ.2.2 2).take i)).length))) (by omega))) (mOnly_28 (x := (((mStay ((τ.2.2 2).take i)).length))) (by omega)))
          rw [show (mStay ((τ.2.2 2).take (i + 1))).length = (mStay ((τ.2.2 2).take i)).length + 1 by rw [h7.1, List.length_append, List.length_singleton]] at h6
          exact h6
        · have h2n : ¬ 1 < (mg (τ.2.2 2) i).2 := by omega
          refine k_aload_n hC 0 dX4_conveys_47 rfl rfl ?_
          refine k_iload_n hC 1 dX4_conveys_48 rfl rfl ?_
          refine k_iload hC dX4_conveys_49 rfl ?_
          refine k_callV hC (As := [.int (nI (k + 1)), .int (nI ((mg (τ.2.2 2) i).1))]) (cX4_comesToInbox_k l K y b S (G9) (k + 1) (τ.2.2 1 ++ mArr ((τ.2.2 2).take i)).length (mg (τ.2.2 2) i).1 hk hib.1 (by rw [List.length_append]; omega)) [] (List.append_nil _).symm 0 rfl rfl (kAll5 lkM_X4_114 lkI_yX4_comesToInbox lkS_yX4_comesToInbox lkN_X4 lkC_yX4_comesToInbox) 2 (by decide) ⟨(Nat.le_of_ble_eq_true rfl), (Nat.le_of_ble_eq_true rfl)⟩ rfl rfl (Nat.le_of_ble_eq_true rfl) ⟨(Nat.le_of_ble_eq_true rfl), (Nat.le_of_ble_eq_true rfl)⟩ dX4_conveys_51 (fun v w h => ?_)
          obtain ⟨rfl, rfl⟩ := h
          refine k_re 0 0 (wM K y b S (va_up (va_up (va_up (G9) 24 (upd ((G9) 24) (16 * (k + 1) + (τ.2.2 1 ++ mArr ((τ.2.2 2).take i)).length) (nI (mg (τ.2.2 2) i).1))) 25 (upd ((G9) 25) (16 * (k + 1) + (τ.2.2 1 ++ mArr ((τ.2.2 2).take i)).length) (nI 1))) 26 (upd ((G9) 26) (k + 1) (nI ((τ.2.2 1 ++ mArr ((τ.2.2 2).take i)).length + 1))))) [] rfl rfl (List.append_nil _) rfl ?_
          refine k_goto hC 86 dX4_conveys_54 (by decide) ?_
          refine k_iinc hC dX4_conveys_86 (by decide) rfl rfl (nI (i + 1)) (kinc i 1 rfl) [(0, .ref y), (1, .int (nI (k + 1))), (2, .int (nI ((mStay ((τ.2.2 2).take i)).length))), (3, .int (nI (i + 1))), (4, .int (nI ((mg (τ.2.2 2) i).1))), (5, .int (nI (((mg (τ.2.2 2) i).2) - 1)))] rfl ?_
          refine k_goto hC 4 dX4_conveys_89 (by decide) ?_
          refine k_lsub [0, 1, 2, 3] [(0, .ref y), (1, .int (nI (k + 1))), (2, .int (nI ((mStay ((τ.2.2 2).take i)).length))), (3, .int (nI (i + 1)))] rfl ?_
          have h7 := mStay_f hi h2n
          have hll : (τ.2.2 1 ++ mArr ((τ.2.2 2).take i)).length < 16 := by rw [List.length_append]; omega
          have h6 := ih (i + 1) (va_up (va_up (va_up (G9) 24 (upd ((G9) 24) (16 * (k + 1) + (τ.2.2 1 ++ mArr ((τ.2.2 2).take i)).length) (nI (mg (τ.2.2 2) i).1))) 25 (upd ((G9) 25) (16 * (k + 1) + (τ.2.2 1 ++ mArr ((τ.2.2 2).take i)).length) (nI 1))) 26 (upd ((G9) 26) (k + 1) (nI ((τ.2.2 1 ++ mArr ((τ.2.2 2).take i)).length + 1)))) (by omega) (by omega) (mBr_f hbr hi h2n) (by rw [h7.2, ← List.append_assoc]; exact mRg_snoc _ 1 hib) (mSame_tr (mSame_tr (mSame_tr hs9 (mSame_up (show 24 ∈ [24, 25, 26, 27, 28] by decide))) (mSame_up (show 25 ∈ [24, 25, 26, 27, 28] by decide))) (mSame_up (show 26 ∈ [24, 25, 26, 27, 28] by decide))) (mOnly_tr (mOnly_tr (mOnly_tr ho9 (mOnly_24 (x := ((τ.2.2 1 ++ mArr ((τ.2.2 2).take i)).length)) (by omega))) (mOnly_25 (x := ((τ.2.2 1 ++ mArr ((τ.2.2 2).take i)).length)) (by omega))) mOnly_26)
          rw [h7.1] at h6
          exact h6
  have g9 := ph1 ((τ.2.2 2).length + 1) 0 G (by omega) (by omega) (mBr_0 qr2.2) (by show mRg (k + 1) (τ.2.2 1 ++ []) _ _ _; rw [List.append_nil]; exact qr1) mSame_rf mOnly_rf
  exact g9
