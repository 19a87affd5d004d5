/-! the law's own line: when its arrays hold a stage; a stage works -/
def qT (s9 : Nat) (τ : mT) (f : Nat → Int32) : Prop := f (15 * s9) = nI (τ.1 8) ∧ f (15 * s9 + 1) = nI (τ.1 2) ∧ f (15 * s9 + 2) = nI (τ.1 3) ∧ f (15 * s9 + 3) = nI (τ.1 7) ∧ f (15 * s9 + 4) = nI (τ.1 9) ∧ f (15 * s9 + 5) = nI (τ.1 10) ∧ f (15 * s9 + 6) = nI (τ.1 11) ∧ f (15 * s9 + 7) = τ.2.1 0 ∧ f (15 * s9 + 8) = nI (τ.1 15) ∧ f (15 * s9 + 9) = nI (τ.1 13) ∧ f (15 * s9 + 10) = nI (τ.1 14) ∧ f (15 * s9 + 11) = nI ((τ.2.2 0).length) ∧ f (15 * s9 + 12) = nI ((τ.2.2 1).length) ∧ f (15 * s9 + 13) = nI ((τ.2.2 2).length) ∧ f (15 * s9 + 14) = nI (τ.1 12)
def qS (s9 : Nat) (τ : mT) (fT fM fI fW : Nat → Int32) : Prop := qT s9 τ fT ∧ mK (τ.2.2 0) (fun i => fM (20 * s9 + i)) ∧ mK (τ.2.2 1) (fun i => fI (20 * s9 + i)) ∧ mK (τ.2.2 2) (fun i => fW (20 * s9 + i))
/-- what is a stage's own has not changed -/
def qAT (j : Nat) (f g : Nat → Int32) : Prop := ∀ i : Nat, i < 15 → g (15 * j + i) = f (15 * j + i)
def qAR (j : Nat) (f g : Nat → Int32) : Prop := ∀ i : Nat, i < 20 → g (20 * j + i) = f (20 * j + i)
theorem qAT_rf {j : Nat} {f : Nat → Int32} : qAT j f f := fun _ _ => rfl
theorem qAR_rf {j : Nat} {f : Nat → Int32} : qAR j f f := fun _ _ => rfl
theorem qAT_tr {j : Nat} {f g h : Nat → Int32} (h1 : qAT j f g) (h2 : qAT j g h) : qAT j f h := fun i hi => (h2 i hi).trans (h1 i hi)
theorem qAR_tr {j : Nat} {f g h : Nat → Int32} (h1 : qAR j f g) (h2 : qAR j g h) : qAR j f h := fun i hi => (h2 i hi).trans (h1 i hi)
theorem qAT_up {j k x : Nat} {f g : Nat → Int32} {v : Int32} (hj : j ≠ k) (hx : x < 15) (h : qAT j f g) : qAT j f (upd g (15 * k + x) v) := fun i hi => (pk_un (by omega)).trans (h i hi)
theorem qAT_up0 {j k : Nat} {f g : Nat → Int32} {v : Int32} (hj : j ≠ k) (h : qAT j f g) : qAT j f (upd g (15 * k) v) := fun i hi => (pk_un (by omega)).trans (h i hi)
theorem qAR_F {j k : Nat} {f g h : Nat → Int32} (hj : j ≠ k) (h1 : qAR j f g) (hF : qF k g h) : qAR j f h := fun i hi => (hF _ (by omega)).trans (h1 i hi)
def qLen (τ : mT) : Prop := (τ.2.2 0).length ≤ 20 ∧ (τ.2.2 1).length ≤ 20 ∧ (τ.2.2 2).length ≤ 20
theorem qLen_of {b : Bool} {τ : mT} (h : mInv b τ) : qLen τ := by
  have := mInv_L0 h
  have := mInv_L1 h
  have := mInv_L2 h
  unfold qLen
  omega
theorem qT_ag {j : Nat} {τ : mT} {f g : Nat → Int32} (h : qT j τ f) (ha : qAT j f g) : qT j τ g := by
  obtain ⟨q0, q1, q2, q3, q4, q5, q6, q7, q8, q9, q10, q11, q12, q13, q14⟩ := h
  exact ⟨(ha 0 (by decide)).trans q0, (ha 1 (by decide)).trans q1, (ha 2 (by decide)).trans q2, (ha 3 (by decide)).trans q3, (ha 4 (by decide)).trans q4, (ha 5 (by decide)).trans q5, (ha 6 (by decide)).trans q6, (ha 7 (by decide)).trans q7, (ha 8 (by decide)).trans q8, (ha 9 (by decide)).trans q9, (ha 10 (by decide)).trans q10, (ha 11 (by decide)).trans q11, (ha 12 (by decide)).trans q12, (ha 13 (by decide)).trans q13, (ha 14 (by decide)).trans q14⟩
theorem qS_ag {j : Nat} {τ : mT} {fT fM fI fW gT gM gI gW : Nat → Int32} (h : qS j τ fT fM fI fW) (hl : qLen τ) (h1 : qAT j fT gT) (h2 : qAR j fM gM) (h3 : qAR j fI gI) (h4 : qAR j fW gW) : qS j τ gT gM gI gW :=
  ⟨qT_ag h.1 h1, mK_ag hl.1 h.2.1 h2, mK_ag hl.2.1 h.2.2.1 h3, mK_ag hl.2.2 h.2.2.2 h4⟩
abbrev rmL_stage : Room := { frames := 2, cells := 0, slots := 0, locals := 53 }
set_option maxRecDepth 100000 in
set_option maxHeartbeats 4000000 in
theorem cL_stage_k (l : Launch) (K : kE) (aT aM aI aG : Nat) (fT fM fI fG fW : Nat → Int32) (s9 : Nat) (hs : s9 < 3) (τ : mT) (r : Bool) (hq : qS s9 τ fT fM fI fW) (hinv : mInv (decide (s9 = 0)) τ) (hr : fG 1 = kB r) : kM l yL_stage (kws yL_stage cL_stage 7 none) rmL_stage K [.int (nI s9), .ref aT, .ref aM, .ref aI, .ref aG] [kI K aT 45 fT, kI K aM 60 fM, kI K aI 60 fI, kI K aG 8 fG] (fun v w => v = none ∧ ∃ (T1 M1 I1 G1 : Nat → Int32) (d : Int32), w = [kI K aT 45 T1, kI K aM 60 M1, kI K aI 60 I1, kI K aG 8 G1] ∧ qS s9 (mWork r (decide (s9 = 0)) τ) T1 M1 I1 fW ∧ (∀ j : Nat, j ≠ s9 → qAT j fT T1 ∧ qAR j fM M1 ∧ qAR j fI I1) ∧ (mWork r (decide (s9 = 0)) τ).2.1 1 = τ.2.1 1 + d ∧ G1 7 = fG 7 + d ∧ ∀ j : Nat, j ≠ 7 → G1 j = fG j) := by
  refine kM_of (pl := []) (X := [kI K aT 45 fT, kI K aM 60 fM, kI K aI 60 fI, kI K aG 8 fG]) rfl (by decide) (Nat.le_of_ble_eq_true rfl) ?_
  intro p e s m args below meth cd A Q hC hnm hE
  refine k_eX (show _ = [kI K aT 45 fT, kI K aM 60 fM, kI K aI 60 fI, kI K aG 8 fG] from rfl) ?_
  have hn := hinv.1
  have hl0 := mInv_L0 hinv
  have hl1 := mInv_L1 hinv
  have h89 : τ.1 9 ≤ 9 := by have := hinv.2.1; omega
  obtain ⟨hqT, hqM, hqI, hqW⟩ := hq
  obtain ⟨q0, q1, q2, q3, q4, q5, q6, q7, q8, q9, q10, q11, q12, q13, q14⟩ := id hqT
  refine k_bipush hC (nI 15) dL_stage_0 rfl ?_
  refine k_iload_n hC 0 dL_stage_2 rfl rfl ?_
  refine k_imulN hC dL_stage_3 ?_
  refine k_istore hC dL_stage_4 (by decide) rfl [(0, .int (nI s9)), (1, .ref aT), (2, .ref aM), (3, .ref aI), (4, .ref aG), (5, .int (nI (15 * s9)))] rfl ?_
  refine k_aload_n hC 1 dL_stage_6 rfl rfl ?_
  refine k_iload hC dL_stage_7 rfl ?_
  refine k_bipush hC (nI 14) dL_stage_9 rfl ?_
  refine k_iaddN hC dL_stage_11 ?_
  refine k_ald hC 0 rfl (by omega) (by decide) dL_stage_12 ?_
  refine k_topE (nI (τ.1 12)) q14 ?_
  refine k_iconst hC (nI 1) dL_stage_13 rfl ?_
  refine k_icmp_neN hC 18 dL_stage_14 (by decide) (by omega) (by omega) (fun c1 => ?_) (fun c1 => ?_)
  · have h12 : τ.1 12 = 0 := by omega
    have hw0 : mWork r (decide (s9 = 0)) τ = if (mGoOn τ).1 10 ≠ 0 then mGoOn τ else mStart r (decide (s9 = 0)) (mGoOn τ) := by unfold mWork; rw [if_neg (fun q => q h12)]
    have hz1 : (mGoOn τ).2.1 = τ.2.1 := by unfold mGoOn; split <;> rfl
    have hz2 : (mGoOn τ).2.2 2 = τ.2.2 2 := by unfold mGoOn; split <;> first | rfl | (split <;> rfl)
    have j68 : ∀ (T2 M2 : Nat → Int32) (g : mT), qT s9 g T2 → mK (g.2.2 0) (fun i => M2 (20 * s9 + i)) → (∀ j : Nat, j ≠ s9 → qAT j fT T2 ∧ qAR j fM M2) → g = mGoOn τ → kW p l e rmL_stage s m args below meth cd K A 7 Q 0 0 ([]) [kI K aT 45 T2, kI K aM 60 M2, kI K aI 60 fI, kI K aG 8 fG] [(0, .int (nI s9)), (1, .ref aT), (2, .ref aM), (3, .ref aI), (4, .ref aG), (5, .int (nI (15 * s9)))] 68 [] := by
      intro T2 M2 g hq1 hM1 ho1 hg
      obtain ⟨p0, p1, p2, p3, p4, p5, p6, p7, p8, p9, p10, p11, p12, p13, p14⟩ := id hq1
      rw [← hg] at hw0 hz1 hz2
      have hI1 : mInv (decide (s9 = 0)) g := by rw [hg]; exact mGoOn_inv hinv
      have gn := hI1.1
      have gl0 := mInv_L0 hI1
      have gl1 := mInv_L1 hI1
      have gl2 := mInv_L2 hI1
      have hrl := mRun_le hI1
      have g89 : g.1 9 ≤ 9 := by have := hI1.2.1; omega
      have hI9 : mK (g.2.2 1) (fun i => fI (20 * s9 + i)) := by
        have e : g.2.2 1 = τ.2.2 1 := by rw [hg]; unfold mGoOn; split <;> first | rfl | (split <;> rfl)
        rw [e]; exact hqI
      have hW9 : mK (g.2.2 2) (fun i => fW (20 * s9 + i)) := by rw [hz2]; exact hqW
      refine k_aload_n hC 1 dL_stage_68 rfl rfl ?_
      refine k_iload hC dL_stage_69 rfl ?_
      refine k_iconst hC (nI 5) dL_stage_71 rfl ?_
      refine k_iaddN hC dL_stage_72 ?_
      refine k_ald hC 0 rfl (by omega) (by decide) dL_stage_73 ?_
      refine k_topE (nI (g.1 10)) p5 ?_
      refine k_if_leN hC 78 dL_stage_74 (by decide) (by omega) (fun c1 => ?_) (fun c1 => ?_)
      · have h10 : g.1 10 = 0 := by omega
        have hw2 : mWork r (decide (s9 = 0)) τ = mStart r (decide (s9 = 0)) g := by rw [hw0, if_neg (fun q => q h10)]
        have j126 : ∀ T3 : Nat → Int32, qT s9 (va_up g.1 11 (mRun g), g.2.1, g.2.2) T3 → (∀ j : Nat, j ≠ s9 → qAT j fT T3) → kW p l e rmL_stage s m args below meth cd K A 7 Q 0 0 ([]) [kI K aT 45 T3, kI K aM 60 M2, kI K aI 60 fI, kI K aG 8 fG] [(0, .int (nI s9)), (1, .ref aT), (2, .ref aM), (3, .ref aI), (4, .ref aG), (5, .int (nI (15 * s9)))] 126 [] := by
          intro T3 hq3 ho3
          obtain ⟨t0, t1, t2, t3, t4, t5, t6, t7, t8, t9, t10, t11, t12, t13, t14⟩ := id hq3
          refine k_aload_n hC 1 dL_stage_126 rfl rfl ?_
          refine k_iload hC dL_stage_127 rfl ?_
          refine k_bipush hC (nI 6) dL_stage_129 rfl ?_
          refine k_iaddN hC dL_stage_131 ?_
          refine k_ald hC 0 rfl (by omega) (by decide) dL_stage_132 ?_
          refine k_topE (nI (mRun g)) t6 ?_
          refine k_if_neN hC 137 dL_stage_133 (by decide) (by omega) (fun c2 => ?_) (fun c2 => ?_)
          · refine k_iload_n hC 0 dL_stage_137 rfl rfl ?_
            refine k_if_eqN hC 162 dL_stage_138 (by decide) (by omega) (fun c3 => ?_) (fun c3 => ?_)
            · have hb0 : decide (s9 = 0) = true := by rw [decide_eq_true_iff]; exact c3
              refine k_iconst hC (nI 1) dL_stage_162 rfl ?_
              refine k_goto hC 167 dL_stage_163 (by decide) ?_
              refine k_istore hC dL_stage_167 (by decide) rfl [(0, .int (nI s9)), (1, .ref aT), (2, .ref aM), (3, .ref aI), (4, .ref aG), (5, .int (nI (15 * s9))), (6, .int (nI 1))] rfl ?_
              refine k_iload hC dL_stage_169 rfl ?_
              refine k_if_neN hC 186 dL_stage_171 (by decide) (by omega) (fun c9 => ?_) (fun c9 => ?_)
              · refine k_iload_n hC 0 dL_stage_186 rfl rfl ?_
                refine k_if_neN hC 207 dL_stage_187 (by decide) (by omega) (fun c8 => ?_) (fun c8 => ?_)
                · exact absurd c3 c8
                · refine k_aload hC dL_stage_190 rfl ?_
                  refine k_bipush hC (nI 7) dL_stage_192 rfl ?_
                  refine k_dup2 hC dL_stage_194 rfl rfl ?_
                  refine k_ald hC 3 rfl (by omega) (by decide) dL_stage_195 ?_
                  refine k_aload_n hC 1 dL_stage_196 rfl rfl ?_
                  refine k_iload hC dL_stage_197 rfl ?_
                  refine k_iconst hC (nI 1) dL_stage_199 rfl ?_
                  refine k_iaddN hC dL_stage_200 ?_
                  refine k_ald hC 0 rfl (by omega) (by decide) dL_stage_201 ?_
                  refine k_topE (nI (g.1 2)) t1 ?_
                  refine k_iadd hC dL_stage_202 ?_
                  refine k_ast hC 3 rfl (by omega) (by decide) dL_stage_203 [kI K aT 45 T3, kI K aM 60 M2, kI K aI 60 fI, kI K aG 8 (upd fG 7 ((fG 7) + nI (g.1 2)))] rfl ?_
                  refine k_goto hC 235 dL_stage_204 (by decide) ?_
                  refine k_aload_n hC 1 dL_stage_235 rfl rfl ?_
                  refine k_iload hC dL_stage_236 rfl ?_
                  refine k_iconst hC (nI 4) dL_stage_238 rfl ?_
                  refine k_iaddN hC dL_stage_239 ?_
                  refine k_dup2 hC dL_stage_240 rfl rfl ?_
                  refine k_ald hC 0 rfl (by omega) (by decide) dL_stage_241 ?_
                  refine k_topE (nI (g.1 9)) t4 ?_
                  refine k_iconst hC (nI 1) dL_stage_242 rfl ?_
                  refine k_isubN hC dL_stage_243 (by omega) ?_
                  refine k_ast hC 0 rfl (by omega) (by decide) dL_stage_244 [kI K aT 45 (upd T3 (15 * s9 + 4) (nI ((g.1 9) - 1))), kI K aM 60 M2, kI K aI 60 fI, kI K aG 8 (upd fG 7 ((fG 7) + nI (g.1 2)))] rfl ?_
                  refine k_aload_n hC 1 dL_stage_245 rfl rfl ?_
                  refine k_iload hC dL_stage_246 rfl ?_
                  refine k_bipush hC (nI 6) dL_stage_248 rfl ?_
                  refine k_iaddN hC dL_stage_250 ?_
                  refine k_dup2 hC dL_stage_251 rfl rfl ?_
                  refine k_ald hC 0 rfl (by omega) (by decide) dL_stage_252 ?_
                  refine k_topE (nI (mRun g)) (((pk_un (by omega)).trans t6)) ?_
                  refine k_iconst hC (nI 1) dL_stage_253 rfl ?_
                  refine k_isubN hC dL_stage_254 (by omega) ?_
                  refine k_ast hC 0 rfl (by omega) (by decide) dL_stage_255 [kI K aT 45 (upd (upd T3 (15 * s9 + 4) (nI ((g.1 9) - 1))) (15 * s9 + 6) (nI ((mRun g) - 1))), kI K aM 60 M2, kI K aI 60 fI, kI K aG 8 (upd fG 7 ((fG 7) + nI (g.1 2)))] rfl ?_
                  refine k_aload_n hC 1 dL_stage_256 rfl rfl ?_
                  refine k_iload hC dL_stage_257 rfl ?_
                  refine k_iconst hC (nI 5) dL_stage_259 rfl ?_
                  refine k_iaddN hC dL_stage_260 ?_
                  refine k_aload_n hC 1 dL_stage_261 rfl rfl ?_
                  refine k_iload hC dL_stage_262 rfl ?_
                  refine k_iconst hC (nI 2) dL_stage_264 rfl ?_
                  refine k_iaddN hC dL_stage_265 ?_
                  refine k_ald hC 0 rfl (by omega) (by decide) dL_stage_266 ?_
                  refine k_topE (nI (g.1 3)) (((pk_un (by omega)).trans ((pk_un (by omega)).trans t2))) ?_
                  refine k_ast hC 0 rfl (by omega) (by decide) dL_stage_267 [kI K aT 45 (upd (upd (upd T3 (15 * s9 + 4) (nI ((g.1 9) - 1))) (15 * s9 + 6) (nI ((mRun g) - 1))) (15 * s9 + 5) (nI (g.1 3))), kI K aM 60 M2, kI K aI 60 fI, kI K aG 8 (upd fG 7 ((fG 7) + nI (g.1 2)))] rfl ?_
                  exact k_vret hC hE (Nat.le_of_ble_eq_true rfl) (Nat.le_of_ble_eq_true rfl) dL_stage_268 (by rw [hw2, (show mStart r (decide (s9 = 0)) g = mBegin r true (va_up g.1 11 (mRun g), g.2.1, g.2.2) by unfold mStart; rw [if_neg c2, if_neg (by rw [hb0]; simp), hb0])]; exact ⟨rfl, _, M2, fI, _, (nI (g.1 2)), rfl, ⟨⟨((pk_un (by omega)).trans ((pk_un (by omega)).trans ((pk_un (by omega)).trans t0))), ((pk_un (by omega)).trans ((pk_un (by omega)).trans ((pk_un (by omega)).trans t1))), ((pk_un (by omega)).trans ((pk_un (by omega)).trans ((pk_un (by omega)).trans t2))), ((pk_un (by omega)).trans ((pk_un (by omega)).trans ((pk_un (by omega)).trans t3))), ((pk_un (by omega)).trans ((pk_un (by omega)).trans pk_us)), pk_us, ((pk_un (by omega)).trans pk_us), ((pk_un (by omega)).trans ((pk_un (by omega)).trans ((pk_un (by omega)).trans t7))), ((pk_un (by omega)).trans ((pk_un (by omega)).trans ((pk_un (by omega)).trans t8))), ((pk_un (by omega)).trans ((pk_un (by omega)).trans ((pk_un (by omega)).trans t9))), ((pk_un (by omega)).trans ((pk_un (by omega)).trans ((pk_un (by omega)).trans t10))), ((pk_un (by omega)).trans ((pk_un (by omega)).trans ((pk_un (by omega)).trans t11))), ((pk_un (by omega)).trans ((pk_un (by omega)).trans ((pk_un (by omega)).trans t12))), ((pk_un (by omega)).trans ((pk_un (by omega)).trans ((pk_un (by omega)).trans t13))), ((pk_un (by omega)).trans ((pk_un (by omega)).trans ((pk_un (by omega)).trans t14)))⟩, hM1, hI9, hW9⟩, fun j hj => ⟨(qAT_up hj (by decide) (qAT_up hj (by decide) (qAT_up hj (by decide) (ho3 j hj)))), (ho1 j hj).2, qAR_rf⟩, by show g.2.1 1 + nI (g.1 2) = _; rw [hz1], pk_us, fun j hj => pk_un hj⟩)
              · exact absurd c9 (by decide)
            · have hb0 : decide (s9 = 0) = false := by rw [decide_eq_false_iff_not]; exact c3
              refine k_aload_n hC 3 dL_stage_141 rfl rfl ?_
              refine k_iload_n hC 0 dL_stage_142 rfl rfl ?_
              refine k_aload_n hC 1 dL_stage_143 rfl rfl ?_
              refine k_iload hC dL_stage_144 rfl ?_
              refine k_bipush hC (nI 12) dL_stage_146 rfl ?_
              refine k_iaddN hC dL_stage_148 ?_
              refine k_ald hC 0 rfl (by omega) (by decide) dL_stage_149 ?_
              refine k_topE (nI ((g.2.2 1).length)) t12 ?_
              refine k_perm [2, 0, 1, 3] [kI K aI 60 fI, kI K aT 45 T3, kI K aM 60 M2, kI K aG 8 fG] rfl rfl ?_
              refine k_callS hC (As := [.ref aI, .int (nI s9), .int (nI ((g.2.2 1).length))]) (cL_units_k l K aI fI s9 (g.2.2 1) hs (by omega) hI9 (mKok_ok hI1.2.2.2.2.1)) [kI K aT 45 T3, kI K aM 60 M2, kI K aG 8 fG] rfl (kAll4 lkM_L_20 lkT_yL_units lkN_L lkC_yL_units) 3 (by decide) ⟨(Nat.le_of_ble_eq_true rfl), (Nat.le_of_ble_eq_true rfl)⟩ rfl rfl (Nat.le_of_ble_eq_true rfl) ⟨(Nat.le_of_ble_eq_true rfl), (Nat.le_of_ble_eq_true rfl)⟩ dL_stage_150 (fun v w h => ?_)
              obtain ⟨rfl, rfl⟩ := h
              refine k_re 0 0 [kI K aI 60 fI, kI K aT 45 T3, kI K aM 60 M2, kI K aG 8 fG] [.int (nI (mU (g.2.2 1)))] rfl rfl rfl rfl ?_
              refine k_perm [1, 2, 0, 3] [kI K aT 45 T3, kI K aM 60 M2, kI K aI 60 fI, kI K aG 8 fG] rfl rfl ?_
              have hmu := mU_le hI1.2.2.2.2.1
              refine k_aload_n hC 1 dL_stage_153 rfl rfl ?_
              refine k_iload hC dL_stage_154 rfl ?_
              refine k_iconst hC (nI 1) dL_stage_156 rfl ?_
              refine k_iaddN hC dL_stage_157 ?_
              refine k_ald hC 0 rfl (by omega) (by decide) dL_stage_158 ?_
              refine k_topE (nI (g.1 2)) t1 ?_
              refine k_icmp_ltN hC 166 dL_stage_159 (by decide) (by omega) (by omega) (fun c4 => ?_) (fun c4 => ?_)
              · refine k_iconst hC (nI 0) dL_stage_166 rfl ?_
                refine k_istore hC dL_stage_167 (by decide) rfl [(0, .int (nI s9)), (1, .ref aT), (2, .ref aM), (3, .ref aI), (4, .ref aG), (5, .int (nI (15 * s9))), (6, .int (nI 0))] rfl ?_
                refine k_iload hC dL_stage_169 rfl ?_
                refine k_if_neN hC 186 dL_stage_171 (by decide) (by omega) (fun c9 => ?_) (fun c9 => ?_)
                · exact absurd rfl c9
                · refine k_aload_n hC 1 dL_stage_174 rfl rfl ?_
                  refine k_iload hC dL_stage_175 rfl ?_
                  refine k_bipush hC (nI 7) dL_stage_177 rfl ?_
                  refine k_iaddN hC dL_stage_179 ?_
                  refine k_dup2 hC dL_stage_180 rfl rfl ?_
                  refine k_ald hC 0 rfl (by omega) (by decide) dL_stage_181 ?_
                  refine k_topE (g.2.1 0) t7 ?_
                  refine k_iconst hC (nI 1) dL_stage_182 rfl ?_
                  refine k_iadd hC dL_stage_183 ?_
                  refine k_ast hC 0 rfl (by omega) (by decide) dL_stage_184 [kI K aT 45 (upd T3 (15 * s9 + 7) ((g.2.1 0) + nI 1)), kI K aM 60 M2, kI K aI 60 fI, kI K aG 8 fG] rfl ?_
                  exact k_vret hC hE (Nat.le_of_ble_eq_true rfl) (Nat.le_of_ble_eq_true rfl) dL_stage_185 (by rw [hw2, show mStart r (decide (s9 = 0)) g = (va_up g.1 11 (mRun g), va_up g.2.1 0 (g.2.1 0 + 1), g.2.2) by unfold mStart; rw [if_neg c2, if_pos ⟨hb0, by omega⟩]]; exact ⟨rfl, _, M2, fI, fG, 0, rfl, ⟨⟨((pk_un (by omega)).trans t0), ((pk_un (by omega)).trans t1), ((pk_un (by omega)).trans t2), ((pk_un (by omega)).trans t3), ((pk_un (by omega)).trans t4), ((pk_un (by omega)).trans t5), ((pk_un (by omega)).trans t6), pk_us, ((pk_un (by omega)).trans t8), ((pk_un (by omega)).trans t9), ((pk_un (by omega)).trans t10), ((pk_un (by omega)).trans t11), ((pk_un (by omega)).trans t12), ((pk_un (by omega)).trans t13), ((pk_un (by omega)).trans t14)⟩, hM1, hI9, hW9⟩, fun j hj => ⟨qAT_up hj (by decide) (ho3 j hj), (ho1 j hj).2, qAR_rf⟩, by show g.2.1 1 = _; rw [hz1]; exact (Int32.add_zero _).symm, (Int32.add_zero _).symm, fun _ _ => rfl⟩)
              · refine k_iconst hC (nI 1) dL_stage_162 rfl ?_
                refine k_goto hC 167 dL_stage_163 (by decide) ?_
                refine k_istore hC dL_stage_167 (by decide) rfl [(0, .int (nI s9)), (1, .ref aT), (2, .ref aM), (3, .ref aI), (4, .ref aG), (5, .int (nI (15 * s9))), (6, .int (nI 1))] rfl ?_
                refine k_iload hC dL_stage_169 rfl ?_
                refine k_if_neN hC 186 dL_stage_171 (by decide) (by omega) (fun c9 => ?_) (fun c9 => ?_)
                · refine k_iload_n hC 0 dL_stage_186 rfl rfl ?_
                  refine k_if_neN hC 207 dL_stage_187 (by decide) (by omega) (fun c8 => ?_) (fun c8 => ?_)
                  · refine k_aload_n hC 1 dL_stage_207 rfl rfl ?_
                    refine k_iload hC dL_stage_208 rfl ?_
                    refine k_bipush hC (nI 10) dL_stage_210 rfl ?_
                    refine k_iaddN hC dL_stage_212 ?_
                    refine k_dup2 hC dL_stage_213 rfl rfl ?_
                    refine k_ald hC 0 rfl (by omega) (by decide) dL_stage_214 ?_
                    refine k_topE (nI (g.1 14)) t10 ?_
                    refine k_aload_n hC 3 dL_stage_215 rfl rfl ?_
                    refine k_iload_n hC 0 dL_stage_216 rfl rfl ?_
                    refine k_aload_n hC 1 dL_stage_217 rfl rfl ?_
                    refine k_bipush hC (nI 12) dL_stage_218 rfl ?_
                    refine k_aload_n hC 1 dL_stage_220 rfl rfl ?_
                    refine k_iload hC dL_stage_221 rfl ?_
                    refine k_iconst hC (nI 1) dL_stage_223 rfl ?_
                    refine k_iaddN hC dL_stage_224 ?_
                    refine k_ald hC 0 rfl (by omega) (by decide) dL_stage_225 ?_
                    refine k_topE (nI (g.1 2)) t1 ?_
                    refine k_aload hC dL_stage_226 rfl ?_
                    refine k_iconst hC (nI 1) dL_stage_228 rfl ?_
                    refine k_ald hC 3 rfl (by omega) (by decide) dL_stage_229 ?_
                    refine k_topE (kB r) hr ?_
                    refine k_perm [2, 0, 1, 3] [kI K aI 60 fI, kI K aT 45 T3, kI K aM 60 M2, kI K aG 8 fG] rfl rfl ?_
                    refine k_callS hC (As := [.ref aI, .int (nI s9), .ref aT, .int (nI 12), .int (nI (g.1 2)), .int (kB r)]) (cL_take_k l K aI aT fI (T3) s9 12 (g.2.2 1) r (nI (g.1 2)) (g.1 2) hs (by decide) t12 (by omega) hI9 hI1.2.2.2.2.1 (Or.inl ⟨rfl, by omega⟩) (by omega)) [kI K aM 60 M2, kI K aG 8 fG] rfl (kAll4 lkM_L_24 lkT_yL_take lkN_L lkC_yL_take) 6 (by decide) ⟨(Nat.le_of_ble_eq_true rfl), (Nat.le_of_ble_eq_true rfl)⟩ rfl rfl (Nat.le_of_ble_eq_true rfl) ⟨(Nat.le_of_ble_eq_true rfl), (Nat.le_of_ble_eq_true rfl)⟩ dL_stage_230 (fun v w h => ?_)
                    obtain ⟨rfl, I2, rfl, hK2, hF2⟩ := h
                    refine k_re 0 0 [kI K aI 60 I2, kI K aT 45 (upd T3 (15 * s9 + 12) (nI ((mTake (g.2.2 1) (g.1 2) r).1.length))), kI K aM 60 M2, kI K aG 8 fG] [.int (nI ((mTake (g.2.2 1) (g.1 2) r).2)), .int (nI (g.1 14)), .int (nI (15 * s9 + 10)), .ref aT] rfl rfl rfl rfl ?_
                    refine k_perm [1, 2, 0, 3] [kI K aT 45 (upd T3 (15 * s9 + 12) (nI ((mTake (g.2.2 1) (g.1 2) r).1.length))), kI K aM 60 M2, kI K aI 60 I2, kI K aG 8 fG] rfl rfl ?_
                    refine k_iaddN hC dL_stage_233 ?_
                    refine k_ast hC 0 rfl (by omega) (by decide) dL_stage_234 [kI K aT 45 (upd (upd T3 (15 * s9 + 12) (nI ((mTake (g.2.2 1) (g.1 2) r).1.length))) (15 * s9 + 10) (nI (g.1 14 + (mTake (g.2.2 1) (g.1 2) r).2))), kI K aM 60 M2, kI K aI 60 I2, kI K aG 8 fG] rfl ?_
                    refine k_aload_n hC 1 dL_stage_235 rfl rfl ?_
                    refine k_iload hC dL_stage_236 rfl ?_
                    refine k_iconst hC (nI 4) dL_stage_238 rfl ?_
                    refine k_iaddN hC dL_stage_239 ?_
                    refine k_dup2 hC dL_stage_240 rfl rfl ?_
                    refine k_ald hC 0 rfl (by omega) (by decide) dL_stage_241 ?_
                    refine k_topE (nI (g.1 9)) (((pk_un (by omega)).trans ((pk_un (by omega)).trans t4))) ?_
                    refine k_iconst hC (nI 1) dL_stage_242 rfl ?_
                    refine k_isubN hC dL_stage_243 (by omega) ?_
                    refine k_ast hC 0 rfl (by omega) (by decide) dL_stage_244 [kI K aT 45 (upd (upd (upd T3 (15 * s9 + 12) (nI ((mTake (g.2.2 1) (g.1 2) r).1.length))) (15 * s9 + 10) (nI (g.1 14 + (mTake (g.2.2 1) (g.1 2) r).2))) (15 * s9 + 4) (nI ((g.1 9) - 1))), kI K aM 60 M2, kI K aI 60 I2, kI K aG 8 fG] rfl ?_
                    refine k_aload_n hC 1 dL_stage_245 rfl rfl ?_
                    refine k_iload hC dL_stage_246 rfl ?_
                    refine k_bipush hC (nI 6) dL_stage_248 rfl ?_
                    refine k_iaddN hC dL_stage_250 ?_
                    refine k_dup2 hC dL_stage_251 rfl rfl ?_
                    refine k_ald hC 0 rfl (by omega) (by decide) dL_stage_252 ?_
                    refine k_topE (nI (mRun g)) (((pk_un (by omega)).trans ((pk_un (by omega)).trans ((pk_un (by omega)).trans t6)))) ?_
                    refine k_iconst hC (nI 1) dL_stage_253 rfl ?_
                    refine k_isubN hC dL_stage_254 (by omega) ?_
                    refine k_ast hC 0 rfl (by omega) (by decide) dL_stage_255 [kI K aT 45 (upd (upd (upd (upd T3 (15 * s9 + 12) (nI ((mTake (g.2.2 1) (g.1 2) r).1.length))) (15 * s9 + 10) (nI (g.1 14 + (mTake (g.2.2 1) (g.1 2) r).2))) (15 * s9 + 4) (nI ((g.1 9) - 1))) (15 * s9 + 6) (nI ((mRun g) - 1))), kI K aM 60 M2, kI K aI 60 I2, kI K aG 8 fG] rfl ?_
                    refine k_aload_n hC 1 dL_stage_256 rfl rfl ?_
                    refine k_iload hC dL_stage_257 rfl ?_
                    refine k_iconst hC (nI 5) dL_stage_259 rfl ?_
                    refine k_iaddN hC dL_stage_260 ?_
                    refine k_aload_n hC 1 dL_stage_261 rfl rfl ?_
                    refine k_iload hC dL_stage_262 rfl ?_
                    refine k_iconst hC (nI 2) dL_stage_264 rfl ?_
                    refine k_iaddN hC dL_stage_265 ?_
                    refine k_ald hC 0 rfl (by omega) (by decide) dL_stage_266 ?_
                    refine k_topE (nI (g.1 3)) (((pk_un (by omega)).trans ((pk_un (by omega)).trans ((pk_un (by omega)).trans ((pk_un (by omega)).trans t2))))) ?_
                    refine k_ast hC 0 rfl (by omega) (by decide) dL_stage_267 [kI K aT 45 (upd (upd (upd (upd (upd T3 (15 * s9 + 12) (nI ((mTake (g.2.2 1) (g.1 2) r).1.length))) (15 * s9 + 10) (nI (g.1 14 + (mTake (g.2.2 1) (g.1 2) r).2))) (15 * s9 + 4) (nI ((g.1 9) - 1))) (15 * s9 + 6) (nI ((mRun g) - 1))) (15 * s9 + 5) (nI (g.1 3))), kI K aM 60 M2, kI K aI 60 I2, kI K aG 8 fG] rfl ?_
                    exact k_vret hC hE (Nat.le_of_ble_eq_true rfl) (Nat.le_of_ble_eq_true rfl) dL_stage_268 (by rw [hw2, (show mStart r (decide (s9 = 0)) g = mBegin r false (va_up g.1 11 (mRun g), g.2.1, g.2.2) by unfold mStart; rw [if_neg c2, if_neg (by rw [hb0]; intro q; omega), hb0])]; exact ⟨rfl, _, M2, I2, fG, 0, rfl, ⟨⟨((pk_un (by omega)).trans ((pk_un (by omega)).trans ((pk_un (by omega)).trans ((pk_un (by omega)).trans ((pk_un (by omega)).trans t0))))), ((pk_un (by omega)).trans ((pk_un (by omega)).trans ((pk_un (by omega)).trans ((pk_un (by omega)).trans ((pk_un (by omega)).trans t1))))), ((pk_un (by omega)).trans ((pk_un (by omega)).trans ((pk_un (by omega)).trans ((pk_un (by omega)).trans ((pk_un (by omega)).trans t2))))), ((pk_un (by omega)).trans ((pk_un (by omega)).trans ((pk_un (by omega)).trans ((pk_un (by omega)).trans ((pk_un (by omega)).trans t3))))), ((pk_un (by omega)).trans ((pk_un (by omega)).trans pk_us)), pk_us, ((pk_un (by omega)).trans pk_us), ((pk_un (by omega)).trans ((pk_un (by omega)).trans ((pk_un (by omega)).trans ((pk_un (by omega)).trans ((pk_un (by omega)).trans t7))))), ((pk_un (by omega)).trans ((pk_un (by omega)).trans ((pk_un (by omega)).trans ((pk_un (by omega)).trans ((pk_un (by omega)).trans t8))))), ((pk_un (by omega)).trans ((pk_un (by omega)).trans ((pk_un (by omega)).trans ((pk_un (by omega)).trans ((pk_un (by omega)).trans t9))))), ((pk_un (by omega)).trans ((pk_un (by omega)).trans ((pk_un (by omega)).trans pk_us))), ((pk_un (by omega)).trans ((pk_un (by omega)).trans ((pk_un (by omega)).trans ((pk_un (by omega)).trans ((pk_un (by omega)).trans t11))))), ((pk_un (by omega)).trans ((pk_un (by omega)).trans ((pk_un (by omega)).trans ((pk_un (by omega)).trans pk_us)))), ((pk_un (by omega)).trans ((pk_un (by omega)).trans ((pk_un (by omega)).trans ((pk_un (by omega)).trans ((pk_un (by omega)).trans t13))))), ((pk_un (by omega)).trans ((pk_un (by omega)).trans ((pk_un (by omega)).trans ((pk_un (by omega)).trans ((pk_un (by omega)).trans t14)))))⟩, hM1, hK2, hW9⟩, fun j hj => ⟨(qAT_up hj (by decide) (qAT_up hj (by decide) (qAT_up hj (by decide) (qAT_up hj (by decide) (qAT_up hj (by decide) (ho3 j hj)))))), (ho1 j hj).2, (qAR_F hj qAR_rf hF2)⟩, by show g.2.1 1 = _; rw [hz1]; exact (Int32.add_zero _).symm, (Int32.add_zero _).symm, fun _ _ => rfl⟩)
                  · exact absurd c8 c3
                · exact absurd c9 (by decide)
          · have e9 : mRun g = g.1 11 := by
              by_cases hh : g.1 11 = 0 ∧ g.1 7 ≤ g.1 9
              · exfalso; unfold mRun at c2; rw [if_pos hh] at c2; omega
              · unfold mRun; rw [if_neg hh]
            exact k_vret hC hE (Nat.le_of_ble_eq_true rfl) (Nat.le_of_ble_eq_true rfl) dL_stage_136 (by rw [hw2, show mStart r (decide (s9 = 0)) g = g by unfold mStart; rw [if_pos c2]]; exact ⟨rfl, T3, M2, fI, fG, 0, rfl, ⟨⟨t0, t1, t2, t3, t4, t5, t6.trans (congrArg nI e9), t7, t8, t9, t10, t11, t12, t13, t14⟩, hM1, hI9, hW9⟩, fun j hj => ⟨ho3 j hj, (ho1 j hj).2, qAR_rf⟩, by rw [hz1]; exact (Int32.add_zero _).symm, (Int32.add_zero _).symm, fun _ _ => rfl⟩)
        refine k_aload_n hC 1 dL_stage_78 rfl rfl ?_
        refine k_iload hC dL_stage_79 rfl ?_
        refine k_bipush hC (nI 6) dL_stage_81 rfl ?_
        refine k_iaddN hC dL_stage_83 ?_
        refine k_aload_n hC 1 dL_stage_84 rfl rfl ?_
        refine k_iload hC dL_stage_85 rfl ?_
        refine k_bipush hC (nI 6) dL_stage_87 rfl ?_
        refine k_iaddN hC dL_stage_89 ?_
        refine k_ald hC 0 rfl (by omega) (by decide) dL_stage_90 ?_
        refine k_topE (nI (g.1 11)) p6 ?_
        refine k_if_neN hC 118 dL_stage_91 (by decide) (by omega) (fun c5 => ?_) (fun c5 => ?_)
        · refine k_aload_n hC 1 dL_stage_118 rfl rfl ?_
          refine k_iload hC dL_stage_119 rfl ?_
          refine k_bipush hC (nI 6) dL_stage_121 rfl ?_
          refine k_iaddN hC dL_stage_123 ?_
          refine k_ald hC 0 rfl (by omega) (by decide) dL_stage_124 ?_
          refine k_topE (nI (g.1 11)) p6 ?_
          refine k_ast hC 0 rfl (by omega) (by decide) dL_stage_125 [kI K aT 45 (upd T2 (15 * s9 + 6) (nI (g.1 11))), kI K aM 60 M2, kI K aI 60 fI, kI K aG 8 fG] rfl ?_
          have hrun : g.1 11 = mRun g := by unfold mRun; rw [if_neg (fun q => c5 q.1)]
          exact j126 _ ⟨((pk_un (by omega)).trans p0), ((pk_un (by omega)).trans p1), ((pk_un (by omega)).trans p2), ((pk_un (by omega)).trans p3), ((pk_un (by omega)).trans p4), ((pk_un (by omega)).trans p5), (pk_us.trans (congrArg nI hrun)), ((pk_un (by omega)).trans p7), ((pk_un (by omega)).trans p8), ((pk_un (by omega)).trans p9), ((pk_un (by omega)).trans p10), ((pk_un (by omega)).trans p11), ((pk_un (by omega)).trans p12), ((pk_un (by omega)).trans p13), ((pk_un (by omega)).trans p14)⟩ (fun j hj => qAT_up hj (by decide) (ho1 j hj).1)
        · refine k_aload_n hC 1 dL_stage_94 rfl rfl ?_
          refine k_iload hC dL_stage_95 rfl ?_
          refine k_iconst hC (nI 4) dL_stage_97 rfl ?_
          refine k_iaddN hC dL_stage_98 ?_
          refine k_ald hC 0 rfl (by omega) (by decide) dL_stage_99 ?_
          refine k_topE (nI (g.1 9)) p4 ?_
          refine k_aload_n hC 1 dL_stage_100 rfl rfl ?_
          refine k_iload hC dL_stage_101 rfl ?_
          refine k_iconst hC (nI 3) dL_stage_103 rfl ?_
          refine k_iaddN hC dL_stage_104 ?_
          refine k_ald hC 0 rfl (by omega) (by decide) dL_stage_105 ?_
          refine k_topE (nI (g.1 7)) p3 ?_
          refine k_icmp_ltN hC 118 dL_stage_106 (by decide) (by omega) (by omega) (fun c6 => ?_) (fun c6 => ?_)
          · refine k_aload_n hC 1 dL_stage_118 rfl rfl ?_
            refine k_iload hC dL_stage_119 rfl ?_
            refine k_bipush hC (nI 6) dL_stage_121 rfl ?_
            refine k_iaddN hC dL_stage_123 ?_
            refine k_ald hC 0 rfl (by omega) (by decide) dL_stage_124 ?_
            refine k_topE (nI (g.1 11)) p6 ?_
            refine k_ast hC 0 rfl (by omega) (by decide) dL_stage_125 [kI K aT 45 (upd T2 (15 * s9 + 6) (nI (g.1 11))), kI K aM 60 M2, kI K aI 60 fI, kI K aG 8 fG] rfl ?_
            have hrun : g.1 11 = mRun g := by unfold mRun; rw [if_neg (fun q => by omega)]
            exact j126 _ ⟨((pk_un (by omega)).trans p0), ((pk_un (by omega)).trans p1), ((pk_un (by omega)).trans p2), ((pk_un (by omega)).trans p3), ((pk_un (by omega)).trans p4), ((pk_un (by omega)).trans p5), (pk_us.trans (congrArg nI hrun)), ((pk_un (by omega)).trans p7), ((pk_un (by omega)).trans p8), ((pk_un (by omega)).trans p9), ((pk_un (by omega)).trans p10), ((pk_un (by omega)).trans p11), ((pk_un (by omega)).trans p12), ((pk_un (by omega)).trans p13), ((pk_un (by omega)).trans p14)⟩ (fun j hj => qAT_up hj (by decide) (ho1 j hj).1)
          · refine k_aload_n hC 1 dL_stage_109 rfl rfl ?_
            refine k_iload hC dL_stage_110 rfl ?_
            refine k_iconst hC (nI 4) dL_stage_112 rfl ?_
            refine k_iaddN hC dL_stage_113 ?_
            refine k_ald hC 0 rfl (by omega) (by decide) dL_stage_114 ?_
            refine k_topE (nI (g.1 9)) p4 ?_
            refine k_goto hC 125 dL_stage_115 (by decide) ?_
            refine k_ast hC 0 rfl (by omega) (by decide) dL_stage_125 [kI K aT 45 (upd T2 (15 * s9 + 6) (nI (g.1 9))), kI K aM 60 M2, kI K aI 60 fI, kI K aG 8 fG] rfl ?_
            have hrun : g.1 9 = mRun g := by unfold mRun; rw [if_pos ⟨by omega, by omega⟩]
            exact j126 _ ⟨((pk_un (by omega)).trans p0), ((pk_un (by omega)).trans p1), ((pk_un (by omega)).trans p2), ((pk_un (by omega)).trans p3), ((pk_un (by omega)).trans p4), ((pk_un (by omega)).trans p5), (pk_us.trans (congrArg nI hrun)), ((pk_un (by omega)).trans p7), ((pk_un (by omega)).trans p8), ((pk_un (by omega)).trans p9), ((pk_un (by omega)).trans p10), ((pk_un (by omega)).trans p11), ((pk_un (by omega)).trans p12), ((pk_un (by omega)).trans p13), ((pk_un (by omega)).trans p14)⟩ (fun j hj => qAT_up hj (by decide) (ho1 j hj).1)
      · have hne : g.1 10 ≠ 0 := by omega
        exact k_vret hC hE (Nat.le_of_ble_eq_true rfl) (Nat.le_of_ble_eq_true rfl) dL_stage_77 (by rw [hw0, if_pos hne]; exact ⟨rfl, T2, M2, fI, fG, 0, rfl, ⟨hq1, hM1, hI9, hW9⟩, fun j hj => ⟨(ho1 j hj).1, (ho1 j hj).2, qAR_rf⟩, by rw [hz1]; exact (Int32.add_zero _).symm, (Int32.add_zero _).symm, fun _ _ => rfl⟩)
    refine k_aload_n hC 1 dL_stage_18 rfl rfl ?_
    refine k_iload hC dL_stage_19 rfl ?_
    refine k_iconst hC (nI 5) dL_stage_21 rfl ?_
    refine k_iaddN hC dL_stage_22 ?_
    refine k_ald hC 0 rfl (by omega) (by decide) dL_stage_23 ?_
    refine k_topE (nI (τ.1 10)) q5 ?_
    refine k_iconst hC (nI 1) dL_stage_24 rfl ?_
    refine k_icmp_neN hC 45 dL_stage_25 (by decide) (by omega) (by omega) (fun c2 => ?_) (fun c2 => ?_)
    · refine k_aload_n hC 1 dL_stage_45 rfl rfl ?_
      refine k_iload hC dL_stage_46 rfl ?_
      refine k_iconst hC (nI 5) dL_stage_48 rfl ?_
      refine k_iaddN hC dL_stage_49 ?_
      refine k_dup2 hC dL_stage_50 rfl rfl ?_
      refine k_ald hC 0 rfl (by omega) (by decide) dL_stage_51 ?_
      refine k_topE (nI (τ.1 10)) q5 ?_
      refine k_aload_n hC 1 dL_stage_52 rfl rfl ?_
      refine k_iload hC dL_stage_53 rfl ?_
      refine k_iconst hC (nI 5) dL_stage_55 rfl ?_
      refine k_iaddN hC dL_stage_56 ?_
      refine k_ald hC 0 rfl (by omega) (by decide) dL_stage_57 ?_
      refine k_topE (nI (τ.1 10)) q5 ?_
      refine k_if_leN hC 65 dL_stage_58 (by decide) (by omega) (fun c3 => ?_) (fun c3 => ?_)
      · refine k_iconst hC (nI 0) dL_stage_65 rfl ?_
        refine k_isubN hC dL_stage_66 (by omega) ?_
        refine k_ast hC 0 rfl (by omega) (by decide) dL_stage_67 [kI K aT 45 (upd fT (15 * s9 + 5) (nI ((τ.1 10) - 0))), kI K aM 60 fM, kI K aI 60 fI, kI K aG 8 fG] rfl ?_
        have hg : τ = mGoOn τ := by unfold mGoOn; rw [if_pos (by omega)]
        exact j68 _ fM τ ⟨((pk_un (by omega)).trans q0), ((pk_un (by omega)).trans q1), ((pk_un (by omega)).trans q2), ((pk_un (by omega)).trans q3), ((pk_un (by omega)).trans q4), pk_us, ((pk_un (by omega)).trans q6), ((pk_un (by omega)).trans q7), ((pk_un (by omega)).trans q8), ((pk_un (by omega)).trans q9), ((pk_un (by omega)).trans q10), ((pk_un (by omega)).trans q11), ((pk_un (by omega)).trans q12), ((pk_un (by omega)).trans q13), ((pk_un (by omega)).trans q14)⟩ hqM (fun j hj => ⟨qAT_up hj (by decide) qAT_rf, qAR_rf⟩) hg
      · refine k_iconst hC (nI 1) dL_stage_61 rfl ?_
        refine k_goto hC 66 dL_stage_62 (by decide) ?_
        refine k_isubN hC dL_stage_66 (by omega) ?_
        refine k_ast hC 0 rfl (by omega) (by decide) dL_stage_67 [kI K aT 45 (upd fT (15 * s9 + 5) (nI ((τ.1 10) - 1))), kI K aM 60 fM, kI K aI 60 fI, kI K aG 8 fG] rfl ?_
        have hg : (va_up τ.1 10 (τ.1 10 - 1), τ.2) = mGoOn τ := by unfold mGoOn; rw [if_neg (by omega), if_neg (by omega)]
        exact j68 _ fM (va_up τ.1 10 (τ.1 10 - 1), τ.2) ⟨((pk_un (by omega)).trans q0), ((pk_un (by omega)).trans q1), ((pk_un (by omega)).trans q2), ((pk_un (by omega)).trans q3), ((pk_un (by omega)).trans q4), pk_us, ((pk_un (by omega)).trans q6), ((pk_un (by omega)).trans q7), ((pk_un (by omega)).trans q8), ((pk_un (by omega)).trans q9), ((pk_un (by omega)).trans q10), ((pk_un (by omega)).trans q11), ((pk_un (by omega)).trans q12), ((pk_un (by omega)).trans q13), ((pk_un (by omega)).trans q14)⟩ hqM (fun j hj => ⟨qAT_up hj (by decide) qAT_rf, qAR_rf⟩) hg
    · have h10 : τ.1 10 = 1 := by omega
      refine k_aload_n hC 2 dL_stage_28 rfl rfl ?_
      refine k_iload_n hC 0 dL_stage_29 rfl rfl ?_
      refine k_aload_n hC 1 dL_stage_30 rfl rfl ?_
      refine k_bipush hC (nI 11) dL_stage_31 rfl ?_
      refine k_bipush hC (nI 100) dL_stage_33 rfl ?_
      refine k_aload_n hC 1 dL_stage_35 rfl rfl ?_
      refine k_iload hC dL_stage_36 rfl ?_
      refine k_iconst hC (nI 1) dL_stage_38 rfl ?_
      refine k_iaddN hC dL_stage_39 ?_
      refine k_ald hC 0 rfl (by omega) (by decide) dL_stage_40 ?_
      refine k_topE (nI (τ.1 2)) q1 ?_
      refine k_iaddN hC dL_stage_41 ?_
      refine k_perm [1, 0, 2, 3] [kI K aM 60 fM, kI K aT 45 fT, kI K aI 60 fI, kI K aG 8 fG] rfl rfl ?_
      refine k_callS hC (As := [.ref aM, .int (nI s9), .ref aT, .int (nI 11), .int (nI (100 + τ.1 2))]) (cL_add_k l K aM aT fM fT s9 11 (τ.2.2 0).length (nI (100 + τ.1 2)) hs (by decide) q11 (by omega)) [kI K aI 60 fI, kI K aG 8 fG] rfl (kAll4 lkM_L_16 lkT_yL_add lkN_L lkC_yL_add) 5 (by decide) ⟨(Nat.le_of_ble_eq_true rfl), (Nat.le_of_ble_eq_true rfl)⟩ rfl rfl (Nat.le_of_ble_eq_true rfl) ⟨(Nat.le_of_ble_eq_true rfl), (Nat.le_of_ble_eq_true rfl)⟩ dL_stage_42 (fun v w h => ?_)
      obtain ⟨rfl, rfl⟩ := h
      refine k_re 0 0 [kI K aM 60 (upd fM (20 * s9 + (τ.2.2 0).length) (nI (100 + τ.1 2))), kI K aT 45 (upd fT (15 * s9 + 11) (nI ((τ.2.2 0).length + 1))), kI K aI 60 fI, kI K aG 8 fG] [] rfl rfl rfl rfl ?_
      refine k_perm [1, 0, 2, 3] [kI K aT 45 (upd fT (15 * s9 + 11) (nI ((τ.2.2 0).length + 1))), kI K aM 60 (upd fM (20 * s9 + (τ.2.2 0).length) (nI (100 + τ.1 2))), kI K aI 60 fI, kI K aG 8 fG] rfl rfl ?_
      refine k_aload_n hC 1 dL_stage_45 rfl rfl ?_
      refine k_iload hC dL_stage_46 rfl ?_
      refine k_iconst hC (nI 5) dL_stage_48 rfl ?_
      refine k_iaddN hC dL_stage_49 ?_
      refine k_dup2 hC dL_stage_50 rfl rfl ?_
      refine k_ald hC 0 rfl (by omega) (by decide) dL_stage_51 ?_
      refine k_topE (nI (τ.1 10)) (((pk_un (by omega)).trans q5)) ?_
      refine k_aload_n hC 1 dL_stage_52 rfl rfl ?_
      refine k_iload hC dL_stage_53 rfl ?_
      refine k_iconst hC (nI 5) dL_stage_55 rfl ?_
      refine k_iaddN hC dL_stage_56 ?_
      refine k_ald hC 0 rfl (by omega) (by decide) dL_stage_57 ?_
      refine k_topE (nI (τ.1 10)) (((pk_un (by omega)).trans q5)) ?_
      refine k_if_leN hC 65 dL_stage_58 (by decide) (by omega) (fun c3 => ?_) (fun c3 => ?_)
      · exact absurd c3 (by omega)
      · refine k_iconst hC (nI 1) dL_stage_61 rfl ?_
        refine k_goto hC 66 dL_stage_62 (by decide) ?_
        refine k_isubN hC dL_stage_66 (by omega) ?_
        refine k_ast hC 0 rfl (by omega) (by decide) dL_stage_67 [kI K aT 45 (upd (upd fT (15 * s9 + 11) (nI ((τ.2.2 0).length + 1))) (15 * s9 + 5) (nI ((τ.1 10) - 1))), kI K aM 60 (upd fM (20 * s9 + (τ.2.2 0).length) (nI (100 + τ.1 2))), kI K aI 60 fI, kI K aG 8 fG] rfl ?_
        have hg : (va_up τ.1 10 (τ.1 10 - 1), τ.2.1, va_up τ.2.2 0 (τ.2.2 0 ++ [(τ.1 2, 1)])) = mGoOn τ := by unfold mGoOn; rw [if_neg (by omega), if_pos h10]
        exact j68 _ _ (va_up τ.1 10 (τ.1 10 - 1), τ.2.1, va_up τ.2.2 0 (τ.2.2 0 ++ [(τ.1 2, 1)])) ⟨((pk_un (by omega)).trans ((pk_un (by omega)).trans q0)), ((pk_un (by omega)).trans ((pk_un (by omega)).trans q1)), ((pk_un (by omega)).trans ((pk_un (by omega)).trans q2)), ((pk_un (by omega)).trans ((pk_un (by omega)).trans q3)), ((pk_un (by omega)).trans ((pk_un (by omega)).trans q4)), pk_us, ((pk_un (by omega)).trans ((pk_un (by omega)).trans q6)), ((pk_un (by omega)).trans ((pk_un (by omega)).trans q7)), ((pk_un (by omega)).trans ((pk_un (by omega)).trans q8)), ((pk_un (by omega)).trans ((pk_un (by omega)).trans q9)), ((pk_un (by omega)).trans ((pk_un (by omega)).trans q10)), ((pk_un (by omega)).trans (pk_us.trans (congrArg nI (by show _ = (τ.2.2 0 ++ [(τ.1 2, 1)]).length; rw [List.length_append]; rfl)))), ((pk_un (by omega)).trans ((pk_un (by omega)).trans q12)), ((pk_un (by omega)).trans ((pk_un (by omega)).trans q13)), ((pk_un (by omega)).trans ((pk_un (by omega)).trans q14))⟩ (by have h7 := mK_snocS (k := s9) (τ.1 2, 1) hqM; exact h7) (fun j hj => ⟨qAT_up hj (by decide) (qAT_up hj (by decide) qAT_rf), qAR_F hj qAR_rf (qF_up (by omega))⟩) hg
  · have hw0 : mWork r (decide (s9 = 0)) τ = τ := by unfold mWork; rw [if_pos (by omega)]
    exact k_vret hC hE (Nat.le_of_ble_eq_true rfl) (Nat.le_of_ble_eq_true rfl) dL_stage_17 (by rw [hw0]; exact ⟨rfl, fT, fM, fI, fG, 0, rfl, ⟨hqT, hqM, hqI, hqW⟩, fun j hj => ⟨qAT_rf, qAR_rf, qAR_rf⟩, (Int32.add_zero _).symm, (Int32.add_zero _).symm, fun _ _ => rfl⟩)
