/-! the law: steps pass; a stage is added -/
theorem mSumZ_ext {F F' : Nat → Int32} {n : Nat} (h : ∀ j : Nat, j < n → F' j = F j) : mSumZ F' n = mSumZ F n := by
  induction n with
  | zero => rfl
  | succ n ih => show mSumZ F' n + F' n = mSumZ F n + F n; rw [ih (fun j hj => h j (by omega)), h n (by omega)]
set_option maxRecDepth 100000 in
set_option maxHeartbeats 4000000 in
theorem law_c9 {p : Program} {l : Launch} {e : Env} {s : State} {m : MethodId} {args : Array Value} {below : List Frame} {meth : Method} {cd : Code} {K : kE} {A : Nat → Prop} {Q : State → Prop} {b0 x aT aM aI aW aG turn k9 n9 : Nat} (H0 : kHead p l s m args meth cd K A turn k9 n9) (kk : kCont p l e s m args below meth cd K A Q b0 x aT aM aI aW aG turn k9 n9) (ad : Nat → Nat → Nat) (σ : mS) (us : Nat → Nat → Nat → Int32) (fT fM fI fW fG : Nat → Int32) (hq : qInv σ us fT fM fI fW fG) (h0 : σ.1 ≠ 0) (z8 z9 : Int32) (kd a : Nat) (ha : a < σ.1) : kW p l e room_1 s m args below meth cd K A 16 Q k9 n9 (wX K x ad σ us) [kI K aT 45 fT, kI K aM 60 fM, kI K aI 60 fI, kI K aW 60 fW, kI K aG 8 fG] [(0, .ref b0), (1, .ref x), (2, .ref aT), (3, .ref aM), (4, .ref aI), (5, .ref aW), (6, .ref aG), (7, .int (nI turn)), (8, .int z8), (9, .int z9), (10, .int (nI kd)), (11, .int (nI a)), (12, .int (nI (15 * a)))] 1089 [] := by
  obtain ⟨hst, hC, ht60, hk9, hn9⟩ := H0
  obtain ⟨hσ, hU, hR, h3, d9, hd, hd20⟩ := id hq
  obtain ⟨g0, g1, g2, g3, g4, g5, g6, g7, hsr, hsz⟩ := id hR
  have h6 := hσ.1
  have hS := hsr a ha
  have hi := (hσ.2 a ha).1
  have hn := hi.1
  have hcard := hi.2.1
  have hconv := hi.2.2.1
  have ha31 : a < 2 ^ 31 := by omega
  have hm0 : mHas σ 0 (nI a) := mHas_k h6 (Nat.zero_le a) ha
  obtain ⟨q0, q1, q2, q3, q4, q5, q6, q7, q8, q9, q10, q11, q12, q13, q14⟩ := id hS.1
  refine k_iconst hC (nI 1) dL_law_1089 rfl ?_
  refine k_iload hC dL_law_1090 rfl ?_
  refine k_iconst hC (nI 3) dL_law_1092 rfl ?_
  refine k_ishr hC dL_law_1093 (fun z1 => ?_)
  refine k_iconst hC (nI 5) dL_law_1094 rfl ?_
  refine k_callS hC (As := [.int z1, .int (nI 5)]) (cL_low_k l K z1 5 (by decide) (by decide)) [kI K aT 45 fT, kI K aM 60 fM, kI K aI 60 fI, kI K aW 60 fW, kI K aG 8 fG] rfl (kAll4 lkM_L_127 lkT_yL_low lkN_L lkC_yL_low) 2 (by decide) ⟨(Nat.le_of_ble_eq_true rfl), (Nat.le_of_ble_eq_true rfl)⟩ rfl rfl (Nat.le_of_ble_eq_true rfl) ⟨by show k9 + 0 ≤ 637431; omega, by show n9 + 0 ≤ 7189406; omega⟩ dL_law_1095 (fun v w h => ?_)
  obtain ⟨⟨j21, hj21, rfl⟩, rfl⟩ := h
  refine k_re (k9) (n9) [kI K aT 45 fT, kI K aM 60 fM, kI K aI 60 fI, kI K aW 60 fW, kI K aG 8 fG] [.int (nI j21), .int (nI 1)] rfl rfl rfl rfl ?_
  refine k_iaddN hC dL_law_1098 ?_
  refine k_istore hC dL_law_1099 (by decide) rfl [(0, .ref b0), (1, .ref x), (2, .ref aT), (3, .ref aM), (4, .ref aI), (5, .ref aW), (6, .ref aG), (7, .int (nI turn)), (8, .int z8), (9, .int z9), (10, .int (nI kd)), (11, .int (nI a)), (12, .int (nI (15 * a))), (13, .int (nI (1 + j21)))] rfl ?_
  refine k_aload hC dL_law_1101 rfl ?_
  refine k_iconst hC (nI 4) dL_law_1103 rfl ?_
  refine k_ald hC 4 rfl (by omega) (by decide) dL_law_1104 ?_
  refine k_topE (σ.2.2.1 5) g4 ?_
  refine k_istore hC dL_law_1105 (by decide) rfl [(0, .ref b0), (1, .ref x), (2, .ref aT), (3, .ref aM), (4, .ref aI), (5, .ref aW), (6, .ref aG), (7, .int (nI turn)), (8, .int z8), (9, .int z9), (10, .int (nI kd)), (11, .int (nI a)), (12, .int (nI (15 * a))), (13, .int (nI (1 + j21))), (14, .int (σ.2.2.1 5))] rfl ?_
  refine k_iconst hC (nI 0) dL_law_1107 rfl ?_
  refine k_istore hC dL_law_1108 (by decide) rfl [(0, .ref b0), (1, .ref x), (2, .ref aT), (3, .ref aM), (4, .ref aI), (5, .ref aW), (6, .ref aG), (7, .int (nI turn)), (8, .int z8), (9, .int z9), (10, .int (nI kd)), (11, .int (nI a)), (12, .int (nI (15 * a))), (13, .int (nI (1 + j21))), (14, .int (σ.2.2.1 5)), (15, .int (nI 0))] rfl ?_
  have hv : mIn (nI (1 + j21)) 1 50 := ⟨nI_le (by omega) (by omega), nI_le (by omega) (by decide)⟩
  have hst31 : (1 + j21) < 2 ^ 31 := by omega
  have hop : oStep σ (nI (1 + j21)) = (0, (mSteps (1 + j21) σ).2.2.1 5 - σ.2.2.1 5, mSteps (1 + j21) σ) := by simp only [oStep, if_pos hv, if_neg h0, mIx_nI hst31]
  have loop : ∀ (n i : Nat) (σ8 : mS) (T8 M8 I8 W8 G8 : Nat → Int32), n + i = (1 + j21) → mSteps n σ8 = mSteps (1 + j21) σ → mSok σ8 → qRep σ8 T8 M8 I8 W8 G8 → σ8.1 = σ.1 → σ8.2.2.1 3 = σ.2.2.1 3 → kW p l e room_1 s m args below meth cd K A 16 Q k9 n9 ((wX K x ad σ us)) [kI K aT 45 T8, kI K aM 60 M8, kI K aI 60 I8, kI K aW 60 W8, kI K aG 8 G8] [(0, .ref b0), (1, .ref x), (2, .ref aT), (3, .ref aM), (4, .ref aI), (5, .ref aW), (6, .ref aG), (7, .int (nI turn)), (8, .int z8), (9, .int z9), (10, .int (nI kd)), (11, .int (nI a)), (12, .int (nI (15 * a))), (13, .int (nI (1 + j21))), (14, .int (σ.2.2.1 5)), (15, .int (nI i))] 1110 [] := by
    intro n
    induction n with
    | zero =>
      intro i σ8 T8 M8 I8 W8 G8 e1 e2 e3 e4 e5 e6
      refine k_iload hC dL_law_1110 rfl ?_
      refine k_iload hC dL_law_1112 rfl ?_
      refine k_icmp_geN hC 1134 dL_law_1114 (by decide) (by omega) (by omega) (fun c1 => ?_) (fun c1 => ?_)
      · have e8 : mSteps (1 + j21) σ = σ8 := e2.symm
        rw [e8] at hop
        refine k_aload_n hC 1 dL_law_1134 rfl rfl ?_
        refine k_iload hC dL_law_1135 rfl ?_
        refine k_perm2 [kI K aT 45 T8, kI K aM 60 M8, kI K aI 60 I8, kI K aW 60 W8, kI K aG 8 G8] (wX K x ad σ us) List.perm_append_comm ?_
        refine k_callXC hC (As := [.int (nI (1 + j21))]) (cX3_step_k hst K x ad σ us hσ hU (nI (1 + j21))) [] (List.append_nil _).symm 0 rfl rfl (kAll5 lkM_L_35 lkI_yX3_step lkS_yX3_step lkN_X3 lkC_yX3_step) 1 (by decide) ⟨(Nat.le_of_ble_eq_true rfl), (Nat.le_of_ble_eq_true rfl)⟩ rfl rfl (Nat.le_of_ble_eq_true rfl) ⟨by show k9 + 2 ≤ 637431; omega, by show n9 + 12 ≤ 7189406; omega⟩ dL_law_1137 (fun E q => (kNo (by rw [hop]) q).elim) (fun v w h => ?_)
        rw [hop] at h
        obtain ⟨-, rfl, ad1_, us1_, rfl, hU1_⟩ := h
        refine k_re (k9 + 2) (n9 + 12) (wX K x ad1_ σ8 us1_) [.int (σ8.2.2.1 5 - σ.2.2.1 5)] rfl rfl (List.append_nil _) rfl ?_
        refine k_perm2 (wX K x ad1_ σ8 us1_) [kI K aT 45 T8, kI K aM 60 M8, kI K aI 60 I8, kI K aW 60 W8, kI K aG 8 G8] List.perm_append_comm ?_
        refine k_aload hC dL_law_1140 rfl ?_
        refine k_iconst hC (nI 4) dL_law_1142 rfl ?_
        refine k_ald hC 4 rfl (by omega) (by decide) dL_law_1143 ?_
        refine k_topE (σ8.2.2.1 5) e4.2.2.2.2.1 ?_
        refine k_iload hC dL_law_1144 rfl ?_
        refine k_isub hC dL_law_1146 ?_
        refine k_topE (σ8.2.2.1 5 - σ.2.2.1 5) rfl ?_
        refine k_icmp_eq hC 1152 dL_law_1147 (by decide) (fun _ => ?_) (fun c9 => absurd rfl c9)
        refine k_lsub [0, 1, 2, 3, 4, 5, 6, 7] [(0, .ref b0), (1, .ref x), (2, .ref aT), (3, .ref aM), (4, .ref aI), (5, .ref aW), (6, .ref aG), (7, .int (nI turn))] rfl ?_
        exact law_1152 ⟨hst, hC, ht60, hk9, hn9⟩ kk ad1_ σ8 us1_ T8 M8 I8 W8 G8 ⟨e3, hU1_, e4, (by rw [e5]; exact h3), d9, (e6.trans hd), hd20⟩ (by rw [e5]; exact h0) (k9 + 2) (n9 + 12) (by omega) (by omega)
      · exact absurd c1 (by omega)
    | succ n ih =>
      intro i σ8 T8 M8 I8 W8 G8 e1 e2 e3 e4 e5 e6
      refine k_iload hC dL_law_1110 rfl ?_
      refine k_iload hC dL_law_1112 rfl ?_
      refine k_icmp_geN hC 1134 dL_law_1114 (by decide) (by omega) (by omega) (fun c1 => ?_) (fun c1 => ?_)
      · exact absurd c1 (by omega)
      · refine k_aload_n hC 2 dL_law_1117 rfl rfl ?_
        refine k_aload_n hC 3 dL_law_1118 rfl rfl ?_
        refine k_aload hC dL_law_1119 rfl ?_
        refine k_aload hC dL_law_1121 rfl ?_
        refine k_aload hC dL_law_1123 rfl ?_
        refine k_callS hC (As := [.ref aT, .ref aM, .ref aI, .ref aW, .ref aG]) (cL_step_k l K aT aM aI aW aG T8 M8 I8 W8 G8 σ8 e3 (by omega) (by omega) e4) [] rfl (kAll4 lkM_L_147 lkT_yL_step lkN_L lkC_yL_step) 5 (by decide) ⟨(Nat.le_of_ble_eq_true rfl), (Nat.le_of_ble_eq_true rfl)⟩ rfl rfl (Nat.le_of_ble_eq_true rfl) ⟨by show k9 + 0 ≤ 637431; omega, by show n9 + 0 ≤ 7189406; omega⟩ dL_law_1125 (fun v w h => ?_)
        obtain ⟨rfl, T5, M5, I5, W5, G5, rfl, hR5⟩ := h
        refine k_re (k9) (n9) [kI K aT 45 T5, kI K aM 60 M5, kI K aI 60 I5, kI K aW 60 W5, kI K aG 8 G5] [] rfl rfl rfl rfl ?_
        refine k_iinc hC dL_law_1128 (by decide) rfl rfl (nI (i + 1)) (kinc i 1 rfl) [(0, .ref b0), (1, .ref x), (2, .ref aT), (3, .ref aM), (4, .ref aI), (5, .ref aW), (6, .ref aG), (7, .int (nI turn)), (8, .int z8), (9, .int z9), (10, .int (nI kd)), (11, .int (nI a)), (12, .int (nI (15 * a))), (13, .int (nI (1 + j21))), (14, .int (σ.2.2.1 5)), (15, .int (nI (i + 1)))] rfl ?_
        refine k_goto hC 1110 dL_law_1131 (by decide) ?_
        exact ih (i + 1) (mPass σ8) T5 M5 I5 W5 G5 (by omega) e2 (mPass_ok e3 (by omega)) hR5 e5 e6
  exact loop (1 + j21) 0 σ fT fM fI fW fG (Nat.add_zero _) rfl hσ hR rfl rfl
set_option maxRecDepth 100000 in
set_option maxHeartbeats 4000000 in
theorem law_c0 {p : Program} {l : Launch} {e : Env} {s : State} {m : MethodId} {args : Array Value} {below : List Frame} {meth : Method} {cd : Code} {K : kE} {A : Nat → Prop} {Q : State → Prop} {b0 x aT aM aI aW aG turn k9 n9 : Nat} (H0 : kHead p l s m args meth cd K A turn k9 n9) (kk : kCont p l e s m args below meth cd K A Q b0 x aT aM aI aW aG turn k9 n9) (ad : Nat → Nat → Nat) (σ : mS) (us : Nat → Nat → Nat → Int32) (fT fM fI fW fG : Nat → Int32) (hq : qInv σ us fT fM fI fW fG) (z8 z9 : Int32) (kd a : Nat) : kW p l e room_1 s m args below meth cd K A 16 Q k9 n9 (wX K x ad σ us) [kI K aT 45 fT, kI K aM 60 fM, kI K aI 60 fI, kI K aW 60 fW, kI K aG 8 fG] [(0, .ref b0), (1, .ref x), (2, .ref aT), (3, .ref aM), (4, .ref aI), (5, .ref aW), (6, .ref aG), (7, .int (nI turn)), (8, .int z8), (9, .int z9), (10, .int (nI kd)), (11, .int (nI a)), (12, .int (nI (15 * a)))] 145 [] := by
  obtain ⟨hst, hC, ht60, hk9, hn9⟩ := H0
  obtain ⟨hσ, hU, hR, h3, d9, hd, hd20⟩ := id hq
  obtain ⟨g0, g1, g2, g3, g4, g5, g6, g7, hsr, hsz⟩ := id hR
  have h6 := hσ.1
  obtain ⟨nn, hnn⟩ : ∃ nn : Nat, nn = σ.1 := ⟨_, rfl⟩
  rw [← hnn] at g0
  have hnn3 : nn ≤ 3 := by omega
  refine k_aload hC dL_law_145 rfl ?_
  refine k_iconst hC (nI 0) dL_law_147 rfl ?_
  refine k_ald hC 4 rfl (by omega) (by decide) dL_law_148 ?_
  refine k_topE (nI nn) g0 ?_
  refine k_iconst hC (nI 3) dL_law_149 rfl ?_
  refine k_icmp_neN hC 156 dL_law_150 (by decide) (by omega) (by omega) (fun c1 => ?_) (fun c1 => ?_)
  · have hn2 : nn < 3 := by omega
    have hz : ∀ i : Nat, i < 15 → fT (15 * nn + i) = nI 0 := fun i hi => hsz nn i (by omega) hn2 hi
    refine k_bipush hC (nI 15) dL_law_156 rfl ?_
    refine k_aload hC dL_law_158 rfl ?_
    refine k_iconst hC (nI 0) dL_law_160 rfl ?_
    refine k_ald hC 4 rfl (by omega) (by decide) dL_law_161 ?_
    refine k_topE (nI nn) g0 ?_
    refine k_imulN hC dL_law_162 ?_
    refine k_istore hC dL_law_163 (by decide) rfl [(0, .ref b0), (1, .ref x), (2, .ref aT), (3, .ref aM), (4, .ref aI), (5, .ref aW), (6, .ref aG), (7, .int (nI turn)), (8, .int z8), (9, .int z9), (10, .int (nI kd)), (11, .int (nI a)), (12, .int (nI (15 * nn)))] rfl ?_
    refine k_iload hC dL_law_165 rfl ?_
    refine k_bipush hC (nI 12) dL_law_167 rfl ?_
    refine k_ishr hC dL_law_169 (fun z1 => ?_)
    refine k_iconst hC (nI 2) dL_law_170 rfl ?_
    refine k_callS hC (As := [.int z1, .int (nI 2)]) (cL_low_k l K z1 2 (by decide) (by decide)) [kI K aT 45 fT, kI K aM 60 fM, kI K aI 60 fI, kI K aW 60 fW, kI K aG 8 fG] rfl (kAll4 lkM_L_127 lkT_yL_low lkN_L lkC_yL_low) 2 (by decide) ⟨(Nat.le_of_ble_eq_true rfl), (Nat.le_of_ble_eq_true rfl)⟩ rfl rfl (Nat.le_of_ble_eq_true rfl) ⟨by show k9 + 0 ≤ 637431; omega, by show n9 + 0 ≤ 7189406; omega⟩ dL_law_171 (fun v w h => ?_)
    obtain ⟨⟨j22, hj22, rfl⟩, rfl⟩ := h
    refine k_re (k9) (n9) [kI K aT 45 fT, kI K aM 60 fM, kI K aI 60 fI, kI K aW 60 fW, kI K aG 8 fG] [.int (nI j22)] rfl rfl rfl rfl ?_
    refine k_if_neN hC 181 dL_law_174 (by decide) (by omega) (fun c2 => ?_) (fun c2 => ?_)
    · refine k_iconst hC (nI 0) dL_law_181 rfl ?_
      refine k_topE (kB false) rfl ?_
      refine k_istore hC dL_law_182 (by decide) rfl [(0, .ref b0), (1, .ref x), (2, .ref aT), (3, .ref aM), (4, .ref aI), (5, .ref aW), (6, .ref aG), (7, .int (nI turn)), (8, .int z8), (9, .int z9), (10, .int (nI kd)), (11, .int (nI a)), (12, .int (nI (15 * nn))), (13, .int (kB false))] rfl ?_
      refine k_aload_n hC 2 dL_law_184 rfl rfl ?_
      refine k_iload hC dL_law_185 rfl ?_
      refine k_iconst hC (nI 1) dL_law_187 rfl ?_
      refine k_iload hC dL_law_188 rfl ?_
      refine k_iconst hC (nI 2) dL_law_190 rfl ?_
      refine k_ishr hC dL_law_191 (fun z2 => ?_)
      refine k_iconst hC (nI 4) dL_law_192 rfl ?_
      refine k_callS hC (As := [.int z2, .int (nI 4)]) (cL_low_k l K z2 4 (by decide) (by decide)) [kI K aT 45 fT, kI K aM 60 fM, kI K aI 60 fI, kI K aW 60 fW, kI K aG 8 fG] rfl (kAll4 lkM_L_127 lkT_yL_low lkN_L lkC_yL_low) 2 (by decide) ⟨(Nat.le_of_ble_eq_true rfl), (Nat.le_of_ble_eq_true rfl)⟩ rfl rfl (Nat.le_of_ble_eq_true rfl) ⟨by show k9 + 0 ≤ 637431; omega, by show n9 + 0 ≤ 7189406; omega⟩ dL_law_193 (fun v w h => ?_)
      obtain ⟨⟨j23, hj23, rfl⟩, rfl⟩ := h
      refine k_re (k9) (n9) [kI K aT 45 fT, kI K aM 60 fM, kI K aI 60 fI, kI K aW 60 fW, kI K aG 8 fG] [.int (nI j23), .int (nI 1), .int (nI (15 * nn)), .ref aT] rfl rfl rfl rfl ?_
      refine k_iaddN hC dL_law_196 ?_
      refine k_ast hC 0 rfl (by omega) (by decide) dL_law_197 [kI K aT 45 (upd fT (15 * nn) (nI (1 + j23))), kI K aM 60 fM, kI K aI 60 fI, kI K aW 60 fW, kI K aG 8 fG] rfl ?_
      refine k_aload_n hC 2 dL_law_198 rfl rfl ?_
      refine k_iload hC dL_law_199 rfl ?_
      refine k_iconst hC (nI 1) dL_law_201 rfl ?_
      refine k_iaddN hC dL_law_202 ?_
      refine k_iconst hC (nI 1) dL_law_203 rfl ?_
      refine k_iload hC dL_law_204 rfl ?_
      refine k_iconst hC (nI 4) dL_law_206 rfl ?_
      refine k_ishr hC dL_law_207 (fun z3 => ?_)
      refine k_iconst hC (nI 5) dL_law_208 rfl ?_
      refine k_callS hC (As := [.int z3, .int (nI 5)]) (cL_low_k l K z3 5 (by decide) (by decide)) [kI K aT 45 (upd fT (15 * nn) (nI (1 + j23))), kI K aM 60 fM, kI K aI 60 fI, kI K aW 60 fW, kI K aG 8 fG] rfl (kAll4 lkM_L_127 lkT_yL_low lkN_L lkC_yL_low) 2 (by decide) ⟨(Nat.le_of_ble_eq_true rfl), (Nat.le_of_ble_eq_true rfl)⟩ rfl rfl (Nat.le_of_ble_eq_true rfl) ⟨by show k9 + 0 ≤ 637431; omega, by show n9 + 0 ≤ 7189406; omega⟩ dL_law_209 (fun v w h => ?_)
      obtain ⟨⟨j24, hj24, rfl⟩, rfl⟩ := h
      refine k_re (k9) (n9) [kI K aT 45 (upd fT (15 * nn) (nI (1 + j23))), kI K aM 60 fM, kI K aI 60 fI, kI K aW 60 fW, kI K aG 8 fG] [.int (nI j24), .int (nI 1), .int (nI (15 * nn + 1)), .ref aT] rfl rfl rfl rfl ?_
      refine k_iaddN hC dL_law_212 ?_
      refine k_ast hC 0 rfl (by omega) (by decide) dL_law_213 [kI K aT 45 (upd (upd fT (15 * nn) (nI (1 + j23))) (15 * nn + 1) (nI (1 + j24))), kI K aM 60 fM, kI K aI 60 fI, kI K aW 60 fW, kI K aG 8 fG] rfl ?_
      refine k_aload_n hC 2 dL_law_214 rfl rfl ?_
      refine k_iload hC dL_law_215 rfl ?_
      refine k_iconst hC (nI 2) dL_law_217 rfl ?_
      refine k_iaddN hC dL_law_218 ?_
      refine k_iconst hC (nI 1) dL_law_219 rfl ?_
      refine k_iload hC dL_law_220 rfl ?_
      refine k_bipush hC (nI 7) dL_law_222 rfl ?_
      refine k_ishr hC dL_law_224 (fun z4 => ?_)
      refine k_iconst hC (nI 3) dL_law_225 rfl ?_
      refine k_callS hC (As := [.int z4, .int (nI 3)]) (cL_low_k l K z4 3 (by decide) (by decide)) [kI K aT 45 (upd (upd fT (15 * nn) (nI (1 + j23))) (15 * nn + 1) (nI (1 + j24))), kI K aM 60 fM, kI K aI 60 fI, kI K aW 60 fW, kI K aG 8 fG] rfl (kAll4 lkM_L_127 lkT_yL_low lkN_L lkC_yL_low) 2 (by decide) ⟨(Nat.le_of_ble_eq_true rfl), (Nat.le_of_ble_eq_true rfl)⟩ rfl rfl (Nat.le_of_ble_eq_true rfl) ⟨by show k9 + 0 ≤ 637431; omega, by show n9 + 0 ≤ 7189406; omega⟩ dL_law_226 (fun v w h => ?_)
      obtain ⟨⟨j25, hj25, rfl⟩, rfl⟩ := h
      refine k_re (k9) (n9) [kI K aT 45 (upd (upd fT (15 * nn) (nI (1 + j23))) (15 * nn + 1) (nI (1 + j24))), kI K aM 60 fM, kI K aI 60 fI, kI K aW 60 fW, kI K aG 8 fG] [.int (nI j25), .int (nI 1), .int (nI (15 * nn + 2)), .ref aT] rfl rfl rfl rfl ?_
      refine k_iaddN hC dL_law_229 ?_
      refine k_ast hC 0 rfl (by omega) (by decide) dL_law_230 [kI K aT 45 (upd (upd (upd fT (15 * nn) (nI (1 + j23))) (15 * nn + 1) (nI (1 + j24))) (15 * nn + 2) (nI (1 + j25))), kI K aM 60 fM, kI K aI 60 fI, kI K aW 60 fW, kI K aG 8 fG] rfl ?_
      refine k_aload_n hC 2 dL_law_231 rfl rfl ?_
      refine k_iload hC dL_law_232 rfl ?_
      refine k_iconst hC (nI 3) dL_law_234 rfl ?_
      refine k_iaddN hC dL_law_235 ?_
      refine k_iconst hC (nI 1) dL_law_236 rfl ?_
      refine k_iload hC dL_law_237 rfl ?_
      refine k_bipush hC (nI 9) dL_law_239 rfl ?_
      refine k_ishr hC dL_law_241 (fun z5 => ?_)
      refine k_iconst hC (nI 3) dL_law_242 rfl ?_
      refine k_callS hC (As := [.int z5, .int (nI 3)]) (cL_low_k l K z5 3 (by decide) (by decide)) [kI K aT 45 (upd (upd (upd fT (15 * nn) (nI (1 + j23))) (15 * nn + 1) (nI (1 + j24))) (15 * nn + 2) (nI (1 + j25))), kI K aM 60 fM, kI K aI 60 fI, kI K aW 60 fW, kI K aG 8 fG] rfl (kAll4 lkM_L_127 lkT_yL_low lkN_L lkC_yL_low) 2 (by decide) ⟨(Nat.le_of_ble_eq_true rfl), (Nat.le_of_ble_eq_true rfl)⟩ rfl rfl (Nat.le_of_ble_eq_true rfl) ⟨by show k9 + 0 ≤ 637431; omega, by show n9 + 0 ≤ 7189406; omega⟩ dL_law_243 (fun v w h => ?_)
      obtain ⟨⟨j26, hj26, rfl⟩, rfl⟩ := h
      refine k_re (k9) (n9) [kI K aT 45 (upd (upd (upd fT (15 * nn) (nI (1 + j23))) (15 * nn + 1) (nI (1 + j24))) (15 * nn + 2) (nI (1 + j25))), kI K aM 60 fM, kI K aI 60 fI, kI K aW 60 fW, kI K aG 8 fG] [.int (nI j26), .int (nI 1), .int (nI (15 * nn + 3)), .ref aT] rfl rfl rfl rfl ?_
      refine k_iaddN hC dL_law_246 ?_
      refine k_ast hC 0 rfl (by omega) (by decide) dL_law_247 [kI K aT 45 (upd (upd (upd (upd fT (15 * nn) (nI (1 + j23))) (15 * nn + 1) (nI (1 + j24))) (15 * nn + 2) (nI (1 + j25))) (15 * nn + 3) (nI (1 + j26))), kI K aM 60 fM, kI K aI 60 fI, kI K aW 60 fW, kI K aG 8 fG] rfl ?_
      refine k_aload_n hC 2 dL_law_248 rfl rfl ?_
      refine k_iload hC dL_law_249 rfl ?_
      refine k_iconst hC (nI 4) dL_law_251 rfl ?_
      refine k_iaddN hC dL_law_252 ?_
      refine k_iload hC dL_law_253 rfl ?_
      refine k_if_eq hC 262 dL_law_255 (by decide) (fun c3 => ?_) (fun c3 => ?_)
      · refine k_aload_n hC 2 dL_law_262 rfl rfl ?_
        refine k_iload hC dL_law_263 rfl ?_
        refine k_ald hC 0 rfl (by omega) (by decide) dL_law_265 ?_
        refine k_topE (nI (1 + j23)) (((pk_un (by omega)).trans ((pk_un (by omega)).trans ((pk_un (by omega)).trans pk_us)))) ?_
        refine k_ast hC 0 rfl (by omega) (by decide) dL_law_266 [kI K aT 45 (upd (upd (upd (upd (upd fT (15 * nn) (nI (1 + j23))) (15 * nn + 1) (nI (1 + j24))) (15 * nn + 2) (nI (1 + j25))) (15 * nn + 3) (nI (1 + j26))) (15 * nn + 4) (nI (1 + j23))), kI K aM 60 fM, kI K aI 60 fI, kI K aW 60 fW, kI K aG 8 fG] rfl ?_
        refine k_iconst hC (nI 0) dL_law_267 rfl ?_
        refine k_istore hC dL_law_268 (by decide) rfl [(0, .ref b0), (1, .ref x), (2, .ref aT), (3, .ref aM), (4, .ref aI), (5, .ref aW), (6, .ref aG), (7, .int (nI turn)), (8, .int z8), (9, .int z9), (10, .int (nI kd)), (11, .int (nI a)), (12, .int (nI (15 * nn))), (13, .int (kB false)), (14, .int (nI 0))] rfl ?_
        refine k_iload hC dL_law_270 rfl ?_
        refine k_aload_n hC 2 dL_law_272 rfl rfl ?_
        refine k_iload hC dL_law_273 rfl ?_
        refine k_ald hC 0 rfl (by omega) (by decide) dL_law_275 ?_
        refine k_topE (nI (1 + j23)) (((pk_un (by omega)).trans ((pk_un (by omega)).trans ((pk_un (by omega)).trans ((pk_un (by omega)).trans pk_us))))) ?_
        refine k_icmp_geN hC 310 dL_law_276 (by decide) (by omega) (by omega) (fun c4 => ?_) (fun c4 => ?_)
        · exact absurd c4 (by omega)
        · refine k_iload hC dL_law_279 rfl ?_
          refine k_if_eq hC 310 dL_law_281 (by decide) (fun c5 => ?_) (fun c5 => ?_)
          · refine k_aload hC dL_law_310 rfl ?_
            refine k_bipush hC (nI 7) dL_law_312 rfl ?_
            refine k_dup2 hC dL_law_314 rfl rfl ?_
            refine k_ald hC 4 rfl (by omega) (by decide) dL_law_315 ?_
            refine k_topE (mSumZ (fun k => (σ.2.2.2 k).2.1 1) σ.1) g7 ?_
            refine k_iload hC dL_law_316 rfl ?_
            refine k_if_eq hC 335 dL_law_318 (by decide) (fun c7 => ?_) (fun c7 => ?_)
            · refine k_iconst hC (nI 0) dL_law_335 rfl ?_
              refine k_iadd hC dL_law_336 ?_
              refine k_ast hC 4 rfl (by omega) (by decide) dL_law_337 [kI K aT 45 (upd (upd (upd (upd (upd fT (15 * nn) (nI (1 + j23))) (15 * nn + 1) (nI (1 + j24))) (15 * nn + 2) (nI (1 + j25))) (15 * nn + 3) (nI (1 + j26))) (15 * nn + 4) (nI (1 + j23))), kI K aM 60 fM, kI K aI 60 fI, kI K aW 60 fW, kI K aG 8 (upd fG 7 ((mSumZ (fun k => (σ.2.2.2 k).2.1 1) σ.1) + nI 0))] rfl ?_
              refine k_aload_n hC 2 dL_law_338 rfl rfl ?_
              refine k_iload hC dL_law_339 rfl ?_
              refine k_bipush hC (nI 9) dL_law_341 rfl ?_
              refine k_iaddN hC dL_law_343 ?_
              refine k_aload hC dL_law_344 rfl ?_
              refine k_iconst hC (nI 0) dL_law_346 rfl ?_
              refine k_ald hC 4 rfl (by omega) (by decide) dL_law_347 ?_
              refine k_topE (nI nn) (((pk_un (by omega)).trans g0)) ?_
              have j356 : kW p l e room_1 s m args below meth cd K A 16 Q k9 n9 ((wX K x ad σ us)) [kI K aT 45 (upd (upd (upd (upd (upd fT (15 * nn) (nI (1 + j23))) (15 * nn + 1) (nI (1 + j24))) (15 * nn + 2) (nI (1 + j25))) (15 * nn + 3) (nI (1 + j26))) (15 * nn + 4) (nI (1 + j23))), kI K aM 60 fM, kI K aI 60 fI, kI K aW 60 fW, kI K aG 8 (upd fG 7 ((mSumZ (fun k => (σ.2.2.2 k).2.1 1) σ.1) + nI 0))] [(0, .ref b0), (1, .ref x), (2, .ref aT), (3, .ref aM), (4, .ref aI), (5, .ref aW), (6, .ref aG), (7, .int (nI turn)), (8, .int z8), (9, .int z9), (10, .int (nI kd)), (11, .int (nI a)), (12, .int (nI (15 * nn))), (13, .int (kB false)), (14, .int (nI 0))] 356 [.int (nI (if nn = 0 then 0 else 1)), .int (nI (15 * nn + 9)), .ref aT] := by
                refine k_ast hC 0 rfl (by omega) (by decide) dL_law_356 [kI K aT 45 (upd (upd (upd (upd (upd (upd fT (15 * nn) (nI (1 + j23))) (15 * nn + 1) (nI (1 + j24))) (15 * nn + 2) (nI (1 + j25))) (15 * nn + 3) (nI (1 + j26))) (15 * nn + 4) (nI (1 + j23))) (15 * nn + 9) (nI (if nn = 0 then 0 else 1))), kI K aM 60 fM, kI K aI 60 fI, kI K aW 60 fW, kI K aG 8 (upd fG 7 ((mSumZ (fun k => (σ.2.2.2 k).2.1 1) σ.1) + nI 0))] rfl ?_
                refine k_aload_n hC 2 dL_law_357 rfl rfl ?_
                refine k_iload hC dL_law_358 rfl ?_
                refine k_bipush hC (nI 10) dL_law_360 rfl ?_
                refine k_iaddN hC dL_law_362 ?_
                refine k_aload_n hC 2 dL_law_363 rfl rfl ?_
                refine k_iload hC dL_law_364 rfl ?_
                refine k_bipush hC (nI 9) dL_law_366 rfl ?_
                refine k_iaddN hC dL_law_368 ?_
                refine k_ald hC 0 rfl (by omega) (by decide) dL_law_369 ?_
                refine k_topE (nI (if nn = 0 then 0 else 1)) pk_us ?_
                refine k_ast hC 0 rfl (by omega) (by decide) dL_law_370 [kI K aT 45 (upd (upd (upd (upd (upd (upd (upd fT (15 * nn) (nI (1 + j23))) (15 * nn + 1) (nI (1 + j24))) (15 * nn + 2) (nI (1 + j25))) (15 * nn + 3) (nI (1 + j26))) (15 * nn + 4) (nI (1 + j23))) (15 * nn + 9) (nI (if nn = 0 then 0 else 1))) (15 * nn + 10) (nI (if nn = 0 then 0 else 1))), kI K aM 60 fM, kI K aI 60 fI, kI K aW 60 fW, kI K aG 8 (upd fG 7 ((mSumZ (fun k => (σ.2.2.2 k).2.1 1) σ.1) + nI 0))] rfl ?_
                refine k_aload hC dL_law_371 rfl ?_
                refine k_iconst hC (nI 0) dL_law_373 rfl ?_
                refine k_dup2 hC dL_law_374 rfl rfl ?_
                refine k_ald hC 4 rfl (by omega) (by decide) dL_law_375 ?_
                refine k_topE (nI nn) (((pk_un (by omega)).trans g0)) ?_
                refine k_iconst hC (nI 1) dL_law_376 rfl ?_
                refine k_iaddN hC dL_law_377 ?_
                refine k_ast hC 4 rfl (by omega) (by decide) dL_law_378 [kI K aT 45 (upd (upd (upd (upd (upd (upd (upd fT (15 * nn) (nI (1 + j23))) (15 * nn + 1) (nI (1 + j24))) (15 * nn + 2) (nI (1 + j25))) (15 * nn + 3) (nI (1 + j26))) (15 * nn + 4) (nI (1 + j23))) (15 * nn + 9) (nI (if nn = 0 then 0 else 1))) (15 * nn + 10) (nI (if nn = 0 then 0 else 1))), kI K aM 60 fM, kI K aI 60 fI, kI K aW 60 fW, kI K aG 8 (upd (upd fG 7 ((mSumZ (fun k => (σ.2.2.2 k).2.1 1) σ.1) + nI 0)) 0 (nI (nn + 1)))] rfl ?_
                refine k_aload_n hC 1 dL_law_379 rfl rfl ?_
                refine k_aload_n hC 2 dL_law_380 rfl rfl ?_
                refine k_iload hC dL_law_381 rfl ?_
                refine k_ald hC 0 rfl (by omega) (by decide) dL_law_383 ?_
                refine k_topE (nI (1 + j23)) (((pk_un (by omega)).trans ((pk_un (by omega)).trans ((pk_un (by omega)).trans ((pk_un (by omega)).trans ((pk_un (by omega)).trans ((pk_un (by omega)).trans pk_us))))))) ?_
                refine k_aload_n hC 2 dL_law_384 rfl rfl ?_
                refine k_iload hC dL_law_385 rfl ?_
                refine k_iconst hC (nI 1) dL_law_387 rfl ?_
                refine k_iaddN hC dL_law_388 ?_
                refine k_ald hC 0 rfl (by omega) (by decide) dL_law_389 ?_
                refine k_topE (nI (1 + j24)) (((pk_un (by omega)).trans ((pk_un (by omega)).trans ((pk_un (by omega)).trans ((pk_un (by omega)).trans ((pk_un (by omega)).trans pk_us)))))) ?_
                refine k_aload_n hC 2 dL_law_390 rfl rfl ?_
                refine k_iload hC dL_law_391 rfl ?_
                refine k_iconst hC (nI 2) dL_law_393 rfl ?_
                refine k_iaddN hC dL_law_394 ?_
                refine k_ald hC 0 rfl (by omega) (by decide) dL_law_395 ?_
                refine k_topE (nI (1 + j25)) (((pk_un (by omega)).trans ((pk_un (by omega)).trans ((pk_un (by omega)).trans ((pk_un (by omega)).trans pk_us))))) ?_
                refine k_aload_n hC 2 dL_law_396 rfl rfl ?_
                refine k_iload hC dL_law_397 rfl ?_
                refine k_iconst hC (nI 3) dL_law_399 rfl ?_
                refine k_iaddN hC dL_law_400 ?_
                refine k_ald hC 0 rfl (by omega) (by decide) dL_law_401 ?_
                refine k_topE (nI (1 + j26)) (((pk_un (by omega)).trans ((pk_un (by omega)).trans ((pk_un (by omega)).trans pk_us)))) ?_
                refine k_iload hC dL_law_402 rfl ?_
                have hop : oStage σ (nI (1 + j23)) (nI (1 + j24)) (nI (1 + j25)) (nI (1 + j26)) false = (0, nI nn, (nn + 1, σ.2.1, σ.2.2.1, va_up σ.2.2.2 nn (mNew nn (decide (nn = 0)) false (1 + j23) (1 + j24) (1 + j25) (1 + j26)))) := by
                  unfold oStage
                  rw [if_pos ⟨⟨nI_le (by omega) (by omega), nI_le (by omega) (by decide)⟩, ⟨nI_le (by omega) (by omega), nI_le (by omega) (by decide)⟩, ⟨nI_le (by omega) (by omega), nI_le (by omega) (by decide)⟩, ⟨nI_le (by omega) (by omega), nI_le (by omega) (by decide)⟩⟩, if_neg (by omega), mIx_nI (by omega), mIx_nI (by omega), mIx_nI (by omega), mIx_nI (by omega), ← hnn]
                refine k_perm2 [kI K aT 45 (upd (upd (upd (upd (upd (upd (upd fT (15 * nn) (nI (1 + j23))) (15 * nn + 1) (nI (1 + j24))) (15 * nn + 2) (nI (1 + j25))) (15 * nn + 3) (nI (1 + j26))) (15 * nn + 4) (nI (1 + j23))) (15 * nn + 9) (nI (if nn = 0 then 0 else 1))) (15 * nn + 10) (nI (if nn = 0 then 0 else 1))), kI K aM 60 fM, kI K aI 60 fI, kI K aW 60 fW, kI K aG 8 (upd (upd fG 7 ((mSumZ (fun k => (σ.2.2.2 k).2.1 1) σ.1) + nI 0)) 0 (nI (nn + 1)))] (wX K x ad σ us) List.perm_append_comm ?_
                refine k_callXC hC (As := [.int (nI (1 + j23)), .int (nI (1 + j24)), .int (nI (1 + j25)), .int (nI (1 + j26)), .int (kB false)]) (cX3_stage_k hst K x ad σ us hσ hU (nI (1 + j23)) (nI (1 + j24)) (nI (1 + j25)) (nI (1 + j26)) false) [] (List.append_nil _).symm 0 rfl rfl (kAll5 lkM_L_130 lkI_yX3_stage lkS_yX3_stage lkN_X3 lkC_yX3_stage) 5 (by decide) ⟨(Nat.le_of_ble_eq_true rfl), (Nat.le_of_ble_eq_true rfl)⟩ rfl rfl (Nat.le_of_ble_eq_true rfl) ⟨by show k9 + 14 ≤ 637431; omega, by show n9 + 101 ≤ 7189406; omega⟩ dL_law_404 (fun E q => (kNo (by rw [hop]) q).elim) (fun v w h => ?_)
                rw [hop] at h
                obtain ⟨-, rfl, ad1_, us1_, rfl, hU1_⟩ := h
                refine k_re (k9 + 14) (n9 + 101) (wX K x ad1_ ((nn + 1, σ.2.1, σ.2.2.1, va_up σ.2.2.2 nn (mNew nn (decide (nn = 0)) false (1 + j23) (1 + j24) (1 + j25) (1 + j26)))) us1_) [.int (nI nn)] rfl rfl (List.append_nil _) rfl ?_
                refine k_perm2 (wX K x ad1_ ((nn + 1, σ.2.1, σ.2.2.1, va_up σ.2.2.2 nn (mNew nn (decide (nn = 0)) false (1 + j23) (1 + j24) (1 + j25) (1 + j26)))) us1_) [kI K aT 45 (upd (upd (upd (upd (upd (upd (upd fT (15 * nn) (nI (1 + j23))) (15 * nn + 1) (nI (1 + j24))) (15 * nn + 2) (nI (1 + j25))) (15 * nn + 3) (nI (1 + j26))) (15 * nn + 4) (nI (1 + j23))) (15 * nn + 9) (nI (if nn = 0 then 0 else 1))) (15 * nn + 10) (nI (if nn = 0 then 0 else 1))), kI K aM 60 fM, kI K aI 60 fI, kI K aW 60 fW, kI K aG 8 (upd (upd fG 7 ((mSumZ (fun k => (σ.2.2.2 k).2.1 1) σ.1) + nI 0)) 0 (nI (nn + 1)))] List.perm_append_comm ?_
                refine k_aload hC dL_law_407 rfl ?_
                refine k_iconst hC (nI 0) dL_law_409 rfl ?_
                refine k_ald hC 4 rfl (by omega) (by decide) dL_law_410 ?_
                refine k_topE (nI (nn + 1)) pk_us ?_
                refine k_iconst hC (nI 1) dL_law_411 rfl ?_
                refine k_isubN hC dL_law_412 (by omega) ?_
                refine k_topE (nI nn) (congrArg nI (by omega)) ?_
                refine k_icmp_eq hC 418 dL_law_413 (by decide) (fun _ => ?_) (fun c9 => absurd rfl c9)
                have hfst : (if decide (nn = 0) = true then 0 else 1 : Nat) = if nn = 0 then 0 else 1 := by by_cases h : nn = 0 <;> simp [h]
                have hqn : qS nn (mNew nn (decide (nn = 0)) false (1 + j23) (1 + j24) (1 + j25) (1 + j26)) (upd (upd (upd (upd (upd (upd (upd fT (15 * nn) (nI (1 + j23))) (15 * nn + 1) (nI (1 + j24))) (15 * nn + 2) (nI (1 + j25))) (15 * nn + 3) (nI (1 + j26))) (15 * nn + 4) (nI (1 + j23))) (15 * nn + 9) (nI (if nn = 0 then 0 else 1))) (15 * nn + 10) (nI (if nn = 0 then 0 else 1))) (fM) fI fW := ⟨⟨((pk_un (by omega)).trans ((pk_un (by omega)).trans ((pk_un (by omega)).trans ((pk_un (by omega)).trans ((pk_un (by omega)).trans ((pk_un (by omega)).trans pk_us)))))), ((pk_un (by omega)).trans ((pk_un (by omega)).trans ((pk_un (by omega)).trans ((pk_un (by omega)).trans ((pk_un (by omega)).trans pk_us))))), ((pk_un (by omega)).trans ((pk_un (by omega)).trans ((pk_un (by omega)).trans ((pk_un (by omega)).trans pk_us)))), ((pk_un (by omega)).trans ((pk_un (by omega)).trans ((pk_un (by omega)).trans pk_us))), ((pk_un (by omega)).trans ((pk_un (by omega)).trans pk_us)), ((pk_un (by omega)).trans ((pk_un (by omega)).trans ((pk_un (by omega)).trans ((pk_un (by omega)).trans ((pk_un (by omega)).trans ((pk_un (by omega)).trans ((pk_un (by omega)).trans (hz 5 (by decide))))))))), ((pk_un (by omega)).trans ((pk_un (by omega)).trans ((pk_un (by omega)).trans ((pk_un (by omega)).trans ((pk_un (by omega)).trans ((pk_un (by omega)).trans ((pk_un (by omega)).trans (hz 6 (by decide))))))))), ((pk_un (by omega)).trans ((pk_un (by omega)).trans ((pk_un (by omega)).trans ((pk_un (by omega)).trans ((pk_un (by omega)).trans ((pk_un (by omega)).trans ((pk_un (by omega)).trans (hz 7 (by decide))))))))), ((pk_un (by omega)).trans ((pk_un (by omega)).trans ((pk_un (by omega)).trans ((pk_un (by omega)).trans ((pk_un (by omega)).trans ((pk_un (by omega)).trans ((pk_un (by omega)).trans (hz 8 (by decide))))))))), ((((pk_un (by omega)).trans pk_us)).trans (congrArg nI hfst.symm)), ((pk_us).trans (congrArg nI hfst.symm)), ((pk_un (by omega)).trans ((pk_un (by omega)).trans ((pk_un (by omega)).trans ((pk_un (by omega)).trans ((pk_un (by omega)).trans ((pk_un (by omega)).trans ((pk_un (by omega)).trans (hz 11 (by decide))))))))), ((pk_un (by omega)).trans ((pk_un (by omega)).trans ((pk_un (by omega)).trans ((pk_un (by omega)).trans ((pk_un (by omega)).trans ((pk_un (by omega)).trans ((pk_un (by omega)).trans (hz 12 (by decide))))))))), ((pk_un (by omega)).trans ((pk_un (by omega)).trans ((pk_un (by omega)).trans ((pk_un (by omega)).trans ((pk_un (by omega)).trans ((pk_un (by omega)).trans ((pk_un (by omega)).trans (hz 13 (by decide))))))))), ((pk_un (by omega)).trans ((pk_un (by omega)).trans ((pk_un (by omega)).trans ((pk_un (by omega)).trans ((pk_un (by omega)).trans ((pk_un (by omega)).trans ((pk_un (by omega)).trans (hz 14 (by decide)))))))))⟩, mK_nil, mK_nil, mK_nil⟩
                have hqo : ∀ j : Nat, j ≠ nn → qA4 j fT fM fI fW (upd (upd (upd (upd (upd (upd (upd fT (15 * nn) (nI (1 + j23))) (15 * nn + 1) (nI (1 + j24))) (15 * nn + 2) (nI (1 + j25))) (15 * nn + 3) (nI (1 + j26))) (15 * nn + 4) (nI (1 + j23))) (15 * nn + 9) (nI (if nn = 0 then 0 else 1))) (15 * nn + 10) (nI (if nn = 0 then 0 else 1))) (fM) fI fW := fun j hj => ⟨(qAT_up hj (by decide) (qAT_up hj (by decide) (qAT_up hj (by decide) (qAT_up hj (by decide) (qAT_up hj (by decide) (qAT_up hj (by decide) (qAT_up0 hj qAT_rf))))))), qAR_F hj qAR_rf qF_rf, qAR_rf, qAR_rf⟩
                have hqr : qRep (nn + 1, σ.2.1, σ.2.2.1, va_up σ.2.2.2 nn (mNew nn (decide (nn = 0)) false (1 + j23) (1 + j24) (1 + j25) (1 + j26))) (upd (upd (upd (upd (upd (upd (upd fT (15 * nn) (nI (1 + j23))) (15 * nn + 1) (nI (1 + j24))) (15 * nn + 2) (nI (1 + j25))) (15 * nn + 3) (nI (1 + j26))) (15 * nn + 4) (nI (1 + j23))) (15 * nn + 9) (nI (if nn = 0 then 0 else 1))) (15 * nn + 10) (nI (if nn = 0 then 0 else 1))) (fM) fI fW (upd (upd fG 7 ((mSumZ (fun k => (σ.2.2.2 k).2.1 1) σ.1) + nI 0)) 0 (nI (nn + 1))) := by
                  refine ⟨pk_us, ((pk_un (by omega)).trans ((pk_un (by omega)).trans g1)), ((pk_un (by omega)).trans ((pk_un (by omega)).trans g2)), ((pk_un (by omega)).trans ((pk_un (by omega)).trans g3)), ((pk_un (by omega)).trans ((pk_un (by omega)).trans g4)), ((pk_un (by omega)).trans ((pk_un (by omega)).trans g5)), ((pk_un (by omega)).trans ((pk_un (by omega)).trans g6)), ?_, fun k hk => ?_, ?_⟩
                  · refine (((pk_un (by omega)).trans pk_us)).trans ?_
                    show mSumZ _ σ.1 + _ = mSumZ _ nn + (va_up σ.2.2.2 nn (mNew nn (decide (nn = 0)) false (1 + j23) (1 + j24) (1 + j25) (1 + j26)) nn).2.1 1
                    rw [va_up_self, ← hnn]
                    refine congrArg (· + _) (mSumZ_ext (fun j hj => ?_)).symm
                    show (va_up σ.2.2.2 nn (mNew nn (decide (nn = 0)) false (1 + j23) (1 + j24) (1 + j25) (1 + j26)) j).2.1 1 = _
                    rw [va_up_ne _ _ (by omega)]
                  · show qS k (va_up σ.2.2.2 nn (mNew nn (decide (nn = 0)) false (1 + j23) (1 + j24) (1 + j25) (1 + j26)) k) _ _ _ _
                    have hk2 : k < nn + 1 := hk
                    by_cases e : k = nn
                    · subst e; rw [va_up_self]; exact hqn
                    · rw [va_up_ne _ _ e]; exact qS_a4 (hsr k (by omega)) (qLen_of (hσ.2 k (by omega)).1) (hqo k e)
                  · exact qZ_ag (fun k i h1 h2 h4 => hsz k i (by have : nn + 1 ≤ k := h1; omega) h2 h4) (fun j hj => (hqo j (by have : nn + 1 ≤ j := hj; omega)).1)
                refine k_goto hC 1152 dL_law_418 (by decide) ?_
                refine k_lsub [0, 1, 2, 3, 4, 5, 6, 7] [(0, .ref b0), (1, .ref x), (2, .ref aT), (3, .ref aM), (4, .ref aI), (5, .ref aW), (6, .ref aG), (7, .int (nI turn))] rfl ?_
                exact law_1152 ⟨hst, hC, ht60, hk9, hn9⟩ kk ad1_ ((nn + 1, σ.2.1, σ.2.2.1, va_up σ.2.2.2 nn (mNew nn (decide (nn = 0)) false (1 + j23) (1 + j24) (1 + j25) (1 + j26)))) us1_ (upd (upd (upd (upd (upd (upd (upd fT (15 * nn) (nI (1 + j23))) (15 * nn + 1) (nI (1 + j24))) (15 * nn + 2) (nI (1 + j25))) (15 * nn + 3) (nI (1 + j26))) (15 * nn + 4) (nI (1 + j23))) (15 * nn + 9) (nI (if nn = 0 then 0 else 1))) (15 * nn + 10) (nI (if nn = 0 then 0 else 1))) fM fI fW (upd (upd fG 7 ((mSumZ (fun k => (σ.2.2.2 k).2.1 1) σ.1) + nI 0)) 0 (nI (nn + 1))) ⟨(by have := oStage_ok hσ (nI (1 + j23)) (nI (1 + j24)) (nI (1 + j25)) (nI (1 + j26)) false; rw [hop] at this; exact this), hU1_, hqr, (by show nn + 1 ≤ 3; omega), d9, hd, hd20⟩ (Nat.succ_ne_zero nn) (k9 + 14) (n9 + 101) (by omega) (by omega)
              refine k_if_neN hC 355 dL_law_348 (by decide) (by omega) (fun c6 => ?_) (fun c6 => ?_)
              · refine k_iconst hC (nI 1) dL_law_355 rfl ?_
                refine k_topE (nI (if nn = 0 then 0 else 1)) (by rw [if_neg c6]) ?_
                exact j356
              · refine k_iconst hC (nI 0) dL_law_351 rfl ?_
                refine k_topE (nI (if nn = 0 then 0 else 1)) (by rw [if_pos c6]) ?_
                refine k_goto hC 356 dL_law_352 (by decide) ?_
                exact j356
            · exact absurd rfl c7
          · exact absurd rfl c5
      · exact absurd rfl c3
    · refine k_iconst hC (nI 1) dL_law_177 rfl ?_
      refine k_topE (kB true) rfl ?_
      refine k_goto hC 182 dL_law_178 (by decide) ?_
      refine k_istore hC dL_law_182 (by decide) rfl [(0, .ref b0), (1, .ref x), (2, .ref aT), (3, .ref aM), (4, .ref aI), (5, .ref aW), (6, .ref aG), (7, .int (nI turn)), (8, .int z8), (9, .int z9), (10, .int (nI kd)), (11, .int (nI a)), (12, .int (nI (15 * nn))), (13, .int (kB true))] rfl ?_
      refine k_aload_n hC 2 dL_law_184 rfl rfl ?_
      refine k_iload hC dL_law_185 rfl ?_
      refine k_iconst hC (nI 1) dL_law_187 rfl ?_
      refine k_iload hC dL_law_188 rfl ?_
      refine k_iconst hC (nI 2) dL_law_190 rfl ?_
      refine k_ishr hC dL_law_191 (fun z2 => ?_)
      refine k_iconst hC (nI 4) dL_law_192 rfl ?_
      refine k_callS hC (As := [.int z2, .int (nI 4)]) (cL_low_k l K z2 4 (by decide) (by decide)) [kI K aT 45 fT, kI K aM 60 fM, kI K aI 60 fI, kI K aW 60 fW, kI K aG 8 fG] rfl (kAll4 lkM_L_127 lkT_yL_low lkN_L lkC_yL_low) 2 (by decide) ⟨(Nat.le_of_ble_eq_true rfl), (Nat.le_of_ble_eq_true rfl)⟩ rfl rfl (Nat.le_of_ble_eq_true rfl) ⟨by show k9 + 0 ≤ 637431; omega, by show n9 + 0 ≤ 7189406; omega⟩ dL_law_193 (fun v w h => ?_)
      obtain ⟨⟨j27, hj27, rfl⟩, rfl⟩ := h
      refine k_re (k9) (n9) [kI K aT 45 fT, kI K aM 60 fM, kI K aI 60 fI, kI K aW 60 fW, kI K aG 8 fG] [.int (nI j27), .int (nI 1), .int (nI (15 * nn)), .ref aT] rfl rfl rfl rfl ?_
      refine k_iaddN hC dL_law_196 ?_
      refine k_ast hC 0 rfl (by omega) (by decide) dL_law_197 [kI K aT 45 (upd fT (15 * nn) (nI (1 + j27))), kI K aM 60 fM, kI K aI 60 fI, kI K aW 60 fW, kI K aG 8 fG] rfl ?_
      refine k_aload_n hC 2 dL_law_198 rfl rfl ?_
      refine k_iload hC dL_law_199 rfl ?_
      refine k_iconst hC (nI 1) dL_law_201 rfl ?_
      refine k_iaddN hC dL_law_202 ?_
      refine k_iconst hC (nI 1) dL_law_203 rfl ?_
      refine k_iload hC dL_law_204 rfl ?_
      refine k_iconst hC (nI 4) dL_law_206 rfl ?_
      refine k_ishr hC dL_law_207 (fun z3 => ?_)
      refine k_iconst hC (nI 5) dL_law_208 rfl ?_
      refine k_callS hC (As := [.int z3, .int (nI 5)]) (cL_low_k l K z3 5 (by decide) (by decide)) [kI K aT 45 (upd fT (15 * nn) (nI (1 + j27))), kI K aM 60 fM, kI K aI 60 fI, kI K aW 60 fW, kI K aG 8 fG] rfl (kAll4 lkM_L_127 lkT_yL_low lkN_L lkC_yL_low) 2 (by decide) ⟨(Nat.le_of_ble_eq_true rfl), (Nat.le_of_ble_eq_true rfl)⟩ rfl rfl (Nat.le_of_ble_eq_true rfl) ⟨by show k9 + 0 ≤ 637431; omega, by show n9 + 0 ≤ 7189406; omega⟩ dL_law_209 (fun v w h => ?_)
      obtain ⟨⟨j28, hj28, rfl⟩, rfl⟩ := h
      refine k_re (k9) (n9) [kI K aT 45 (upd fT (15 * nn) (nI (1 + j27))), kI K aM 60 fM, kI K aI 60 fI, kI K aW 60 fW, kI K aG 8 fG] [.int (nI j28), .int (nI 1), .int (nI (15 * nn + 1)), .ref aT] rfl rfl rfl rfl ?_
      refine k_iaddN hC dL_law_212 ?_
      refine k_ast hC 0 rfl (by omega) (by decide) dL_law_213 [kI K aT 45 (upd (upd fT (15 * nn) (nI (1 + j27))) (15 * nn + 1) (nI (1 + j28))), kI K aM 60 fM, kI K aI 60 fI, kI K aW 60 fW, kI K aG 8 fG] rfl ?_
      refine k_aload_n hC 2 dL_law_214 rfl rfl ?_
      refine k_iload hC dL_law_215 rfl ?_
      refine k_iconst hC (nI 2) dL_law_217 rfl ?_
      refine k_iaddN hC dL_law_218 ?_
      refine k_iconst hC (nI 1) dL_law_219 rfl ?_
      refine k_iload hC dL_law_220 rfl ?_
      refine k_bipush hC (nI 7) dL_law_222 rfl ?_
      refine k_ishr hC dL_law_224 (fun z4 => ?_)
      refine k_iconst hC (nI 3) dL_law_225 rfl ?_
      refine k_callS hC (As := [.int z4, .int (nI 3)]) (cL_low_k l K z4 3 (by decide) (by decide)) [kI K aT 45 (upd (upd fT (15 * nn) (nI (1 + j27))) (15 * nn + 1) (nI (1 + j28))), kI K aM 60 fM, kI K aI 60 fI, kI K aW 60 fW, kI K aG 8 fG] rfl (kAll4 lkM_L_127 lkT_yL_low lkN_L lkC_yL_low) 2 (by decide) ⟨(Nat.le_of_ble_eq_true rfl), (Nat.le_of_ble_eq_true rfl)⟩ rfl rfl (Nat.le_of_ble_eq_true rfl) ⟨by show k9 + 0 ≤ 637431; omega, by show n9 + 0 ≤ 7189406; omega⟩ dL_law_226 (fun v w h => ?_)
      obtain ⟨⟨j29, hj29, rfl⟩, rfl⟩ := h
      refine k_re (k9) (n9) [kI K aT 45 (upd (upd fT (15 * nn) (nI (1 + j27))) (15 * nn + 1) (nI (1 + j28))), kI K aM 60 fM, kI K aI 60 fI, kI K aW 60 fW, kI K aG 8 fG] [.int (nI j29), .int (nI 1), .int (nI (15 * nn + 2)), .ref aT] rfl rfl rfl rfl ?_
      refine k_iaddN hC dL_law_229 ?_
      refine k_ast hC 0 rfl (by omega) (by decide) dL_law_230 [kI K aT 45 (upd (upd (upd fT (15 * nn) (nI (1 + j27))) (15 * nn + 1) (nI (1 + j28))) (15 * nn + 2) (nI (1 + j29))), kI K aM 60 fM, kI K aI 60 fI, kI K aW 60 fW, kI K aG 8 fG] rfl ?_
      refine k_aload_n hC 2 dL_law_231 rfl rfl ?_
      refine k_iload hC dL_law_232 rfl ?_
      refine k_iconst hC (nI 3) dL_law_234 rfl ?_
      refine k_iaddN hC dL_law_235 ?_
      refine k_iconst hC (nI 1) dL_law_236 rfl ?_
      refine k_iload hC dL_law_237 rfl ?_
      refine k_bipush hC (nI 9) dL_law_239 rfl ?_
      refine k_ishr hC dL_law_241 (fun z5 => ?_)
      refine k_iconst hC (nI 3) dL_law_242 rfl ?_
      refine k_callS hC (As := [.int z5, .int (nI 3)]) (cL_low_k l K z5 3 (by decide) (by decide)) [kI K aT 45 (upd (upd (upd fT (15 * nn) (nI (1 + j27))) (15 * nn + 1) (nI (1 + j28))) (15 * nn + 2) (nI (1 + j29))), kI K aM 60 fM, kI K aI 60 fI, kI K aW 60 fW, kI K aG 8 fG] rfl (kAll4 lkM_L_127 lkT_yL_low lkN_L lkC_yL_low) 2 (by decide) ⟨(Nat.le_of_ble_eq_true rfl), (Nat.le_of_ble_eq_true rfl)⟩ rfl rfl (Nat.le_of_ble_eq_true rfl) ⟨by show k9 + 0 ≤ 637431; omega, by show n9 + 0 ≤ 7189406; omega⟩ dL_law_243 (fun v w h => ?_)
      obtain ⟨⟨j30, hj30, rfl⟩, rfl⟩ := h
      refine k_re (k9) (n9) [kI K aT 45 (upd (upd (upd fT (15 * nn) (nI (1 + j27))) (15 * nn + 1) (nI (1 + j28))) (15 * nn + 2) (nI (1 + j29))), kI K aM 60 fM, kI K aI 60 fI, kI K aW 60 fW, kI K aG 8 fG] [.int (nI j30), .int (nI 1), .int (nI (15 * nn + 3)), .ref aT] rfl rfl rfl rfl ?_
      refine k_iaddN hC dL_law_246 ?_
      refine k_ast hC 0 rfl (by omega) (by decide) dL_law_247 [kI K aT 45 (upd (upd (upd (upd fT (15 * nn) (nI (1 + j27))) (15 * nn + 1) (nI (1 + j28))) (15 * nn + 2) (nI (1 + j29))) (15 * nn + 3) (nI (1 + j30))), kI K aM 60 fM, kI K aI 60 fI, kI K aW 60 fW, kI K aG 8 fG] rfl ?_
      refine k_aload_n hC 2 dL_law_248 rfl rfl ?_
      refine k_iload hC dL_law_249 rfl ?_
      refine k_iconst hC (nI 4) dL_law_251 rfl ?_
      refine k_iaddN hC dL_law_252 ?_
      refine k_iload hC dL_law_253 rfl ?_
      refine k_if_eq hC 262 dL_law_255 (by decide) (fun c3 => ?_) (fun c3 => ?_)
      · exact absurd c3 (by decide)
      · refine k_iconst hC (nI 0) dL_law_258 rfl ?_
        refine k_goto hC 266 dL_law_259 (by decide) ?_
        refine k_ast hC 0 rfl (by omega) (by decide) dL_law_266 [kI K aT 45 (upd (upd (upd (upd (upd fT (15 * nn) (nI (1 + j27))) (15 * nn + 1) (nI (1 + j28))) (15 * nn + 2) (nI (1 + j29))) (15 * nn + 3) (nI (1 + j30))) (15 * nn + 4) (nI 0)), kI K aM 60 fM, kI K aI 60 fI, kI K aW 60 fW, kI K aG 8 fG] rfl ?_
        refine k_iconst hC (nI 0) dL_law_267 rfl ?_
        refine k_istore hC dL_law_268 (by decide) rfl [(0, .ref b0), (1, .ref x), (2, .ref aT), (3, .ref aM), (4, .ref aI), (5, .ref aW), (6, .ref aG), (7, .int (nI turn)), (8, .int z8), (9, .int z9), (10, .int (nI kd)), (11, .int (nI a)), (12, .int (nI (15 * nn))), (13, .int (kB true)), (14, .int (nI 0))] rfl ?_
        have loop : ∀ (n i : Nat) (f9 : Nat → Int32), n + i = 1 + j27 → mK (List.replicate i (1 + j28, 1)) (fun q => f9 (20 * nn + q)) → qF nn fM f9 → kW p l e room_1 s m args below meth cd K A 16 Q k9 n9 ((wX K x ad σ us)) [kI K aT 45 (upd (upd (upd (upd (upd (upd fT (15 * nn) (nI (1 + j27))) (15 * nn + 1) (nI (1 + j28))) (15 * nn + 2) (nI (1 + j29))) (15 * nn + 3) (nI (1 + j30))) (15 * nn + 4) (nI 0)) (15 * nn + 11) (nI i)), kI K aM 60 f9, kI K aI 60 fI, kI K aW 60 fW, kI K aG 8 fG] [(0, .ref b0), (1, .ref x), (2, .ref aT), (3, .ref aM), (4, .ref aI), (5, .ref aW), (6, .ref aG), (7, .int (nI turn)), (8, .int z8), (9, .int z9), (10, .int (nI kd)), (11, .int (nI a)), (12, .int (nI (15 * nn))), (13, .int (kB true)), (14, .int (nI i))] 270 [] := by
          intro n
          induction n with
          | zero =>
            intro i f9 e1 e2 e3
            refine k_iload hC dL_law_270 rfl ?_
            refine k_aload_n hC 2 dL_law_272 rfl rfl ?_
            refine k_iload hC dL_law_273 rfl ?_
            refine k_ald hC 0 rfl (by omega) (by decide) dL_law_275 ?_
            refine k_topE (nI (1 + j27)) (((pk_un (by omega)).trans ((pk_un (by omega)).trans ((pk_un (by omega)).trans ((pk_un (by omega)).trans ((pk_un (by omega)).trans pk_us)))))) ?_
            refine k_icmp_geN hC 310 dL_law_276 (by decide) (by omega) (by omega) (fun c4 => ?_) (fun c4 => ?_)
            · have e9 : i = 1 + j27 := by omega
              subst e9
              refine k_aload hC dL_law_310 rfl ?_
              refine k_bipush hC (nI 7) dL_law_312 rfl ?_
              refine k_dup2 hC dL_law_314 rfl rfl ?_
              refine k_ald hC 4 rfl (by omega) (by decide) dL_law_315 ?_
              refine k_topE (mSumZ (fun k => (σ.2.2.2 k).2.1 1) σ.1) g7 ?_
              refine k_iload hC dL_law_316 rfl ?_
              refine k_if_eq hC 335 dL_law_318 (by decide) (fun c7 => ?_) (fun c7 => ?_)
              · exact absurd c7 (by decide)
              · refine k_aload_n hC 2 dL_law_321 rfl rfl ?_
                refine k_iload hC dL_law_322 rfl ?_
                refine k_ald hC 0 rfl (by omega) (by decide) dL_law_324 ?_
                refine k_topE (nI (1 + j27)) (((pk_un (by omega)).trans ((pk_un (by omega)).trans ((pk_un (by omega)).trans ((pk_un (by omega)).trans ((pk_un (by omega)).trans pk_us)))))) ?_
                refine k_aload_n hC 2 dL_law_325 rfl rfl ?_
                refine k_iload hC dL_law_326 rfl ?_
                refine k_iconst hC (nI 1) dL_law_328 rfl ?_
                refine k_iaddN hC dL_law_329 ?_
                refine k_ald hC 0 rfl (by omega) (by decide) dL_law_330 ?_
                refine k_topE (nI (1 + j28)) (((pk_un (by omega)).trans ((pk_un (by omega)).trans ((pk_un (by omega)).trans ((pk_un (by omega)).trans pk_us))))) ?_
                refine k_imulN hC dL_law_331 ?_
                refine k_goto hC 336 dL_law_332 (by decide) ?_
                refine k_iadd hC dL_law_336 ?_
                refine k_ast hC 4 rfl (by omega) (by decide) dL_law_337 [kI K aT 45 (upd (upd (upd (upd (upd (upd fT (15 * nn) (nI (1 + j27))) (15 * nn + 1) (nI (1 + j28))) (15 * nn + 2) (nI (1 + j29))) (15 * nn + 3) (nI (1 + j30))) (15 * nn + 4) (nI 0)) (15 * nn + 11) (nI (1 + j27))), kI K aM 60 f9, kI K aI 60 fI, kI K aW 60 fW, kI K aG 8 (upd fG 7 ((mSumZ (fun k => (σ.2.2.2 k).2.1 1) σ.1) + nI ((1 + j27) * (1 + j28))))] rfl ?_
                refine k_aload_n hC 2 dL_law_338 rfl rfl ?_
                refine k_iload hC dL_law_339 rfl ?_
                refine k_bipush hC (nI 9) dL_law_341 rfl ?_
                refine k_iaddN hC dL_law_343 ?_
                refine k_aload hC dL_law_344 rfl ?_
                refine k_iconst hC (nI 0) dL_law_346 rfl ?_
                refine k_ald hC 4 rfl (by omega) (by decide) dL_law_347 ?_
                refine k_topE (nI nn) (((pk_un (by omega)).trans g0)) ?_
                have j356 : kW p l e room_1 s m args below meth cd K A 16 Q k9 n9 ((wX K x ad σ us)) [kI K aT 45 (upd (upd (upd (upd (upd (upd fT (15 * nn) (nI (1 + j27))) (15 * nn + 1) (nI (1 + j28))) (15 * nn + 2) (nI (1 + j29))) (15 * nn + 3) (nI (1 + j30))) (15 * nn + 4) (nI 0)) (15 * nn + 11) (nI (1 + j27))), kI K aM 60 f9, kI K aI 60 fI, kI K aW 60 fW, kI K aG 8 (upd fG 7 ((mSumZ (fun k => (σ.2.2.2 k).2.1 1) σ.1) + nI ((1 + j27) * (1 + j28))))] [(0, .ref b0), (1, .ref x), (2, .ref aT), (3, .ref aM), (4, .ref aI), (5, .ref aW), (6, .ref aG), (7, .int (nI turn)), (8, .int z8), (9, .int z9), (10, .int (nI kd)), (11, .int (nI a)), (12, .int (nI (15 * nn))), (13, .int (kB true)), (14, .int (nI (1 + j27)))] 356 [.int (nI (if nn = 0 then 0 else 1)), .int (nI (15 * nn + 9)), .ref aT] := by
                  refine k_ast hC 0 rfl (by omega) (by decide) dL_law_356 [kI K aT 45 (upd (upd (upd (upd (upd (upd (upd fT (15 * nn) (nI (1 + j27))) (15 * nn + 1) (nI (1 + j28))) (15 * nn + 2) (nI (1 + j29))) (15 * nn + 3) (nI (1 + j30))) (15 * nn + 4) (nI 0)) (15 * nn + 11) (nI (1 + j27))) (15 * nn + 9) (nI (if nn = 0 then 0 else 1))), kI K aM 60 f9, kI K aI 60 fI, kI K aW 60 fW, kI K aG 8 (upd fG 7 ((mSumZ (fun k => (σ.2.2.2 k).2.1 1) σ.1) + nI ((1 + j27) * (1 + j28))))] rfl ?_
                  refine k_aload_n hC 2 dL_law_357 rfl rfl ?_
                  refine k_iload hC dL_law_358 rfl ?_
                  refine k_bipush hC (nI 10) dL_law_360 rfl ?_
                  refine k_iaddN hC dL_law_362 ?_
                  refine k_aload_n hC 2 dL_law_363 rfl rfl ?_
                  refine k_iload hC dL_law_364 rfl ?_
                  refine k_bipush hC (nI 9) dL_law_366 rfl ?_
                  refine k_iaddN hC dL_law_368 ?_
                  refine k_ald hC 0 rfl (by omega) (by decide) dL_law_369 ?_
                  refine k_topE (nI (if nn = 0 then 0 else 1)) pk_us ?_
                  refine k_ast hC 0 rfl (by omega) (by decide) dL_law_370 [kI K aT 45 (upd (upd (upd (upd (upd (upd (upd (upd fT (15 * nn) (nI (1 + j27))) (15 * nn + 1) (nI (1 + j28))) (15 * nn + 2) (nI (1 + j29))) (15 * nn + 3) (nI (1 + j30))) (15 * nn + 4) (nI 0)) (15 * nn + 11) (nI (1 + j27))) (15 * nn + 9) (nI (if nn = 0 then 0 else 1))) (15 * nn + 10) (nI (if nn = 0 then 0 else 1))), kI K aM 60 f9, kI K aI 60 fI, kI K aW 60 fW, kI K aG 8 (upd fG 7 ((mSumZ (fun k => (σ.2.2.2 k).2.1 1) σ.1) + nI ((1 + j27) * (1 + j28))))] rfl ?_
                  refine k_aload hC dL_law_371 rfl ?_
                  refine k_iconst hC (nI 0) dL_law_373 rfl ?_
                  refine k_dup2 hC dL_law_374 rfl rfl ?_
                  refine k_ald hC 4 rfl (by omega) (by decide) dL_law_375 ?_
                  refine k_topE (nI nn) (((pk_un (by omega)).trans g0)) ?_
                  refine k_iconst hC (nI 1) dL_law_376 rfl ?_
                  refine k_iaddN hC dL_law_377 ?_
                  refine k_ast hC 4 rfl (by omega) (by decide) dL_law_378 [kI K aT 45 (upd (upd (upd (upd (upd (upd (upd (upd fT (15 * nn) (nI (1 + j27))) (15 * nn + 1) (nI (1 + j28))) (15 * nn + 2) (nI (1 + j29))) (15 * nn + 3) (nI (1 + j30))) (15 * nn + 4) (nI 0)) (15 * nn + 11) (nI (1 + j27))) (15 * nn + 9) (nI (if nn = 0 then 0 else 1))) (15 * nn + 10) (nI (if nn = 0 then 0 else 1))), kI K aM 60 f9, kI K aI 60 fI, kI K aW 60 fW, kI K aG 8 (upd (upd fG 7 ((mSumZ (fun k => (σ.2.2.2 k).2.1 1) σ.1) + nI ((1 + j27) * (1 + j28)))) 0 (nI (nn + 1)))] rfl ?_
                  refine k_aload_n hC 1 dL_law_379 rfl rfl ?_
                  refine k_aload_n hC 2 dL_law_380 rfl rfl ?_
                  refine k_iload hC dL_law_381 rfl ?_
                  refine k_ald hC 0 rfl (by omega) (by decide) dL_law_383 ?_
                  refine k_topE (nI (1 + j27)) (((pk_un (by omega)).trans ((pk_un (by omega)).trans ((pk_un (by omega)).trans ((pk_un (by omega)).trans ((pk_un (by omega)).trans ((pk_un (by omega)).trans ((pk_un (by omega)).trans pk_us)))))))) ?_
                  refine k_aload_n hC 2 dL_law_384 rfl rfl ?_
                  refine k_iload hC dL_law_385 rfl ?_
                  refine k_iconst hC (nI 1) dL_law_387 rfl ?_
                  refine k_iaddN hC dL_law_388 ?_
                  refine k_ald hC 0 rfl (by omega) (by decide) dL_law_389 ?_
                  refine k_topE (nI (1 + j28)) (((pk_un (by omega)).trans ((pk_un (by omega)).trans ((pk_un (by omega)).trans ((pk_un (by omega)).trans ((pk_un (by omega)).trans ((pk_un (by omega)).trans pk_us))))))) ?_
                  refine k_aload_n hC 2 dL_law_390 rfl rfl ?_
                  refine k_iload hC dL_law_391 rfl ?_
                  refine k_iconst hC (nI 2) dL_law_393 rfl ?_
                  refine k_iaddN hC dL_law_394 ?_
                  refine k_ald hC 0 rfl (by omega) (by decide) dL_law_395 ?_
                  refine k_topE (nI (1 + j29)) (((pk_un (by omega)).trans ((pk_un (by omega)).trans ((pk_un (by omega)).trans ((pk_un (by omega)).trans ((pk_un (by omega)).trans pk_us)))))) ?_
                  refine k_aload_n hC 2 dL_law_396 rfl rfl ?_
                  refine k_iload hC dL_law_397 rfl ?_
                  refine k_iconst hC (nI 3) dL_law_399 rfl ?_
                  refine k_iaddN hC dL_law_400 ?_
                  refine k_ald hC 0 rfl (by omega) (by decide) dL_law_401 ?_
                  refine k_topE (nI (1 + j30)) (((pk_un (by omega)).trans ((pk_un (by omega)).trans ((pk_un (by omega)).trans ((pk_un (by omega)).trans pk_us))))) ?_
                  refine k_iload hC dL_law_402 rfl ?_
                  have hop : oStage σ (nI (1 + j27)) (nI (1 + j28)) (nI (1 + j29)) (nI (1 + j30)) true = (0, nI nn, (nn + 1, σ.2.1, σ.2.2.1, va_up σ.2.2.2 nn (mNew nn (decide (nn = 0)) true (1 + j27) (1 + j28) (1 + j29) (1 + j30)))) := by
                    unfold oStage
                    rw [if_pos ⟨⟨nI_le (by omega) (by omega), nI_le (by omega) (by decide)⟩, ⟨nI_le (by omega) (by omega), nI_le (by omega) (by decide)⟩, ⟨nI_le (by omega) (by omega), nI_le (by omega) (by decide)⟩, ⟨nI_le (by omega) (by omega), nI_le (by omega) (by decide)⟩⟩, if_neg (by omega), mIx_nI (by omega), mIx_nI (by omega), mIx_nI (by omega), mIx_nI (by omega), ← hnn]
                  refine k_perm2 [kI K aT 45 (upd (upd (upd (upd (upd (upd (upd (upd fT (15 * nn) (nI (1 + j27))) (15 * nn + 1) (nI (1 + j28))) (15 * nn + 2) (nI (1 + j29))) (15 * nn + 3) (nI (1 + j30))) (15 * nn + 4) (nI 0)) (15 * nn + 11) (nI (1 + j27))) (15 * nn + 9) (nI (if nn = 0 then 0 else 1))) (15 * nn + 10) (nI (if nn = 0 then 0 else 1))), kI K aM 60 f9, kI K aI 60 fI, kI K aW 60 fW, kI K aG 8 (upd (upd fG 7 ((mSumZ (fun k => (σ.2.2.2 k).2.1 1) σ.1) + nI ((1 + j27) * (1 + j28)))) 0 (nI (nn + 1)))] (wX K x ad σ us) List.perm_append_comm ?_
                  refine k_callXC hC (As := [.int (nI (1 + j27)), .int (nI (1 + j28)), .int (nI (1 + j29)), .int (nI (1 + j30)), .int (kB true)]) (cX3_stage_k hst K x ad σ us hσ hU (nI (1 + j27)) (nI (1 + j28)) (nI (1 + j29)) (nI (1 + j30)) true) [] (List.append_nil _).symm 0 rfl rfl (kAll5 lkM_L_130 lkI_yX3_stage lkS_yX3_stage lkN_X3 lkC_yX3_stage) 5 (by decide) ⟨(Nat.le_of_ble_eq_true rfl), (Nat.le_of_ble_eq_true rfl)⟩ rfl rfl (Nat.le_of_ble_eq_true rfl) ⟨by show k9 + 14 ≤ 637431; omega, by show n9 + 101 ≤ 7189406; omega⟩ dL_law_404 (fun E q => (kNo (by rw [hop]) q).elim) (fun v w h => ?_)
                  rw [hop] at h
                  obtain ⟨-, rfl, ad2_, us2_, rfl, hU2_⟩ := h
                  refine k_re (k9 + 14) (n9 + 101) (wX K x ad2_ ((nn + 1, σ.2.1, σ.2.2.1, va_up σ.2.2.2 nn (mNew nn (decide (nn = 0)) true (1 + j27) (1 + j28) (1 + j29) (1 + j30)))) us2_) [.int (nI nn)] rfl rfl (List.append_nil _) rfl ?_
                  refine k_perm2 (wX K x ad2_ ((nn + 1, σ.2.1, σ.2.2.1, va_up σ.2.2.2 nn (mNew nn (decide (nn = 0)) true (1 + j27) (1 + j28) (1 + j29) (1 + j30)))) us2_) [kI K aT 45 (upd (upd (upd (upd (upd (upd (upd (upd fT (15 * nn) (nI (1 + j27))) (15 * nn + 1) (nI (1 + j28))) (15 * nn + 2) (nI (1 + j29))) (15 * nn + 3) (nI (1 + j30))) (15 * nn + 4) (nI 0)) (15 * nn + 11) (nI (1 + j27))) (15 * nn + 9) (nI (if nn = 0 then 0 else 1))) (15 * nn + 10) (nI (if nn = 0 then 0 else 1))), kI K aM 60 f9, kI K aI 60 fI, kI K aW 60 fW, kI K aG 8 (upd (upd fG 7 ((mSumZ (fun k => (σ.2.2.2 k).2.1 1) σ.1) + nI ((1 + j27) * (1 + j28)))) 0 (nI (nn + 1)))] List.perm_append_comm ?_
                  refine k_aload hC dL_law_407 rfl ?_
                  refine k_iconst hC (nI 0) dL_law_409 rfl ?_
                  refine k_ald hC 4 rfl (by omega) (by decide) dL_law_410 ?_
                  refine k_topE (nI (nn + 1)) pk_us ?_
                  refine k_iconst hC (nI 1) dL_law_411 rfl ?_
                  refine k_isubN hC dL_law_412 (by omega) ?_
                  refine k_topE (nI nn) (congrArg nI (by omega)) ?_
                  refine k_icmp_eq hC 418 dL_law_413 (by decide) (fun _ => ?_) (fun c9 => absurd rfl c9)
                  have hfst : (if decide (nn = 0) = true then 0 else 1 : Nat) = if nn = 0 then 0 else 1 := by by_cases h : nn = 0 <;> simp [h]
                  have hqn : qS nn (mNew nn (decide (nn = 0)) true (1 + j27) (1 + j28) (1 + j29) (1 + j30)) (upd (upd (upd (upd (upd (upd (upd (upd fT (15 * nn) (nI (1 + j27))) (15 * nn + 1) (nI (1 + j28))) (15 * nn + 2) (nI (1 + j29))) (15 * nn + 3) (nI (1 + j30))) (15 * nn + 4) (nI 0)) (15 * nn + 11) (nI (1 + j27))) (15 * nn + 9) (nI (if nn = 0 then 0 else 1))) (15 * nn + 10) (nI (if nn = 0 then 0 else 1))) (f9) fI fW := ⟨⟨((pk_un (by omega)).trans ((pk_un (by omega)).trans ((pk_un (by omega)).trans ((pk_un (by omega)).trans ((pk_un (by omega)).trans ((pk_un (by omega)).trans ((pk_un (by omega)).trans pk_us))))))), ((pk_un (by omega)).trans ((pk_un (by omega)).trans ((pk_un (by omega)).trans ((pk_un (by omega)).trans ((pk_un (by omega)).trans ((pk_un (by omega)).trans pk_us)))))), ((pk_un (by omega)).trans ((pk_un (by omega)).trans ((pk_un (by omega)).trans ((pk_un (by omega)).trans ((pk_un (by omega)).trans pk_us))))), ((pk_un (by omega)).trans ((pk_un (by omega)).trans ((pk_un (by omega)).trans ((pk_un (by omega)).trans pk_us)))), ((pk_un (by omega)).trans ((pk_un (by omega)).trans ((pk_un (by omega)).trans pk_us))), ((pk_un (by omega)).trans ((pk_un (by omega)).trans ((pk_un (by omega)).trans ((pk_un (by omega)).trans ((pk_un (by omega)).trans ((pk_un (by omega)).trans ((pk_un (by omega)).trans ((pk_un (by omega)).trans (hz 5 (by decide)))))))))), ((pk_un (by omega)).trans ((pk_un (by omega)).trans ((pk_un (by omega)).trans ((pk_un (by omega)).trans ((pk_un (by omega)).trans ((pk_un (by omega)).trans ((pk_un (by omega)).trans ((pk_un (by omega)).trans (hz 6 (by decide)))))))))), ((pk_un (by omega)).trans ((pk_un (by omega)).trans ((pk_un (by omega)).trans ((pk_un (by omega)).trans ((pk_un (by omega)).trans ((pk_un (by omega)).trans ((pk_un (by omega)).trans ((pk_un (by omega)).trans (hz 7 (by decide)))))))))), ((pk_un (by omega)).trans ((pk_un (by omega)).trans ((pk_un (by omega)).trans ((pk_un (by omega)).trans ((pk_un (by omega)).trans ((pk_un (by omega)).trans ((pk_un (by omega)).trans ((pk_un (by omega)).trans (hz 8 (by decide)))))))))), ((((pk_un (by omega)).trans pk_us)).trans (congrArg nI hfst.symm)), ((pk_us).trans (congrArg nI hfst.symm)), ((((pk_un (by omega)).trans ((pk_un (by omega)).trans pk_us))).trans (congrArg nI (List.length_replicate).symm)), ((pk_un (by omega)).trans ((pk_un (by omega)).trans ((pk_un (by omega)).trans ((pk_un (by omega)).trans ((pk_un (by omega)).trans ((pk_un (by omega)).trans ((pk_un (by omega)).trans ((pk_un (by omega)).trans (hz 12 (by decide)))))))))), ((pk_un (by omega)).trans ((pk_un (by omega)).trans ((pk_un (by omega)).trans ((pk_un (by omega)).trans ((pk_un (by omega)).trans ((pk_un (by omega)).trans ((pk_un (by omega)).trans ((pk_un (by omega)).trans (hz 13 (by decide)))))))))), ((pk_un (by omega)).trans ((pk_un (by omega)).trans ((pk_un (by omega)).trans ((pk_un (by omega)).trans ((pk_un (by omega)).trans ((pk_un (by omega)).trans ((pk_un (by omega)).trans ((pk_un (by omega)).trans (hz 14 (by decide))))))))))⟩, e2, mK_nil, mK_nil⟩
                  have hqo : ∀ j : Nat, j ≠ nn → qA4 j fT fM fI fW (upd (upd (upd (upd (upd (upd (upd (upd fT (15 * nn) (nI (1 + j27))) (15 * nn + 1) (nI (1 + j28))) (15 * nn + 2) (nI (1 + j29))) (15 * nn + 3) (nI (1 + j30))) (15 * nn + 4) (nI 0)) (15 * nn + 11) (nI (1 + j27))) (15 * nn + 9) (nI (if nn = 0 then 0 else 1))) (15 * nn + 10) (nI (if nn = 0 then 0 else 1))) (f9) fI fW := fun j hj => ⟨(qAT_up hj (by decide) (qAT_up hj (by decide) (qAT_up hj (by decide) (qAT_up hj (by decide) (qAT_up hj (by decide) (qAT_up hj (by decide) (qAT_up hj (by decide) (qAT_up0 hj qAT_rf)))))))), qAR_F hj qAR_rf e3, qAR_rf, qAR_rf⟩
                  have hqr : qRep (nn + 1, σ.2.1, σ.2.2.1, va_up σ.2.2.2 nn (mNew nn (decide (nn = 0)) true (1 + j27) (1 + j28) (1 + j29) (1 + j30))) (upd (upd (upd (upd (upd (upd (upd (upd fT (15 * nn) (nI (1 + j27))) (15 * nn + 1) (nI (1 + j28))) (15 * nn + 2) (nI (1 + j29))) (15 * nn + 3) (nI (1 + j30))) (15 * nn + 4) (nI 0)) (15 * nn + 11) (nI (1 + j27))) (15 * nn + 9) (nI (if nn = 0 then 0 else 1))) (15 * nn + 10) (nI (if nn = 0 then 0 else 1))) (f9) fI fW (upd (upd fG 7 ((mSumZ (fun k => (σ.2.2.2 k).2.1 1) σ.1) + nI ((1 + j27) * (1 + j28)))) 0 (nI (nn + 1))) := by
                    refine ⟨pk_us, ((pk_un (by omega)).trans ((pk_un (by omega)).trans g1)), ((pk_un (by omega)).trans ((pk_un (by omega)).trans g2)), ((pk_un (by omega)).trans ((pk_un (by omega)).trans g3)), ((pk_un (by omega)).trans ((pk_un (by omega)).trans g4)), ((pk_un (by omega)).trans ((pk_un (by omega)).trans g5)), ((pk_un (by omega)).trans ((pk_un (by omega)).trans g6)), ?_, fun k hk => ?_, ?_⟩
                    · refine (((pk_un (by omega)).trans pk_us)).trans ?_
                      show mSumZ _ σ.1 + _ = mSumZ _ nn + (va_up σ.2.2.2 nn (mNew nn (decide (nn = 0)) true (1 + j27) (1 + j28) (1 + j29) (1 + j30)) nn).2.1 1
                      rw [va_up_self, ← hnn]
                      refine congrArg (· + _) (mSumZ_ext (fun j hj => ?_)).symm
                      show (va_up σ.2.2.2 nn (mNew nn (decide (nn = 0)) true (1 + j27) (1 + j28) (1 + j29) (1 + j30)) j).2.1 1 = _
                      rw [va_up_ne _ _ (by omega)]
                    · show qS k (va_up σ.2.2.2 nn (mNew nn (decide (nn = 0)) true (1 + j27) (1 + j28) (1 + j29) (1 + j30)) k) _ _ _ _
                      have hk2 : k < nn + 1 := hk
                      by_cases e : k = nn
                      · subst e; rw [va_up_self]; exact hqn
                      · rw [va_up_ne _ _ e]; exact qS_a4 (hsr k (by omega)) (qLen_of (hσ.2 k (by omega)).1) (hqo k e)
                    · exact qZ_ag (fun k i h1 h2 h4 => hsz k i (by have : nn + 1 ≤ k := h1; omega) h2 h4) (fun j hj => (hqo j (by have : nn + 1 ≤ j := hj; omega)).1)
                  refine k_goto hC 1152 dL_law_418 (by decide) ?_
                  refine k_lsub [0, 1, 2, 3, 4, 5, 6, 7] [(0, .ref b0), (1, .ref x), (2, .ref aT), (3, .ref aM), (4, .ref aI), (5, .ref aW), (6, .ref aG), (7, .int (nI turn))] rfl ?_
                  exact law_1152 ⟨hst, hC, ht60, hk9, hn9⟩ kk ad2_ ((nn + 1, σ.2.1, σ.2.2.1, va_up σ.2.2.2 nn (mNew nn (decide (nn = 0)) true (1 + j27) (1 + j28) (1 + j29) (1 + j30)))) us2_ (upd (upd (upd (upd (upd (upd (upd (upd fT (15 * nn) (nI (1 + j27))) (15 * nn + 1) (nI (1 + j28))) (15 * nn + 2) (nI (1 + j29))) (15 * nn + 3) (nI (1 + j30))) (15 * nn + 4) (nI 0)) (15 * nn + 11) (nI (1 + j27))) (15 * nn + 9) (nI (if nn = 0 then 0 else 1))) (15 * nn + 10) (nI (if nn = 0 then 0 else 1))) f9 fI fW (upd (upd fG 7 ((mSumZ (fun k => (σ.2.2.2 k).2.1 1) σ.1) + nI ((1 + j27) * (1 + j28)))) 0 (nI (nn + 1))) ⟨(by have := oStage_ok hσ (nI (1 + j27)) (nI (1 + j28)) (nI (1 + j29)) (nI (1 + j30)) true; rw [hop] at this; exact this), hU2_, hqr, (by show nn + 1 ≤ 3; omega), d9, hd, hd20⟩ (Nat.succ_ne_zero nn) (k9 + 14) (n9 + 101) (by omega) (by omega)
                refine k_if_neN hC 355 dL_law_348 (by decide) (by omega) (fun c6 => ?_) (fun c6 => ?_)
                · refine k_iconst hC (nI 1) dL_law_355 rfl ?_
                  refine k_topE (nI (if nn = 0 then 0 else 1)) (by rw [if_neg c6]) ?_
                  exact j356
                · refine k_iconst hC (nI 0) dL_law_351 rfl ?_
                  refine k_topE (nI (if nn = 0 then 0 else 1)) (by rw [if_pos c6]) ?_
                  refine k_goto hC 356 dL_law_352 (by decide) ?_
                  exact j356
            · exact absurd c4 (by omega)
          | succ n ih =>
            intro i f9 e1 e2 e3
            refine k_iload hC dL_law_270 rfl ?_
            refine k_aload_n hC 2 dL_law_272 rfl rfl ?_
            refine k_iload hC dL_law_273 rfl ?_
            refine k_ald hC 0 rfl (by omega) (by decide) dL_law_275 ?_
            refine k_topE (nI (1 + j27)) (((pk_un (by omega)).trans ((pk_un (by omega)).trans ((pk_un (by omega)).trans ((pk_un (by omega)).trans ((pk_un (by omega)).trans pk_us)))))) ?_
            refine k_icmp_geN hC 310 dL_law_276 (by decide) (by omega) (by omega) (fun c4 => ?_) (fun c4 => ?_)
            · exact absurd c4 (by omega)
            · refine k_iload hC dL_law_279 rfl ?_
              refine k_if_eq hC 310 dL_law_281 (by decide) (fun c5 => ?_) (fun c5 => ?_)
              · exact absurd c5 (by decide)
              · refine k_aload_n hC 3 dL_law_284 rfl rfl ?_
                refine k_aload hC dL_law_285 rfl ?_
                refine k_iconst hC (nI 0) dL_law_287 rfl ?_
                refine k_ald hC 4 rfl (by omega) (by decide) dL_law_288 ?_
                refine k_topE (nI nn) g0 ?_
                refine k_aload_n hC 2 dL_law_289 rfl rfl ?_
                refine k_bipush hC (nI 11) dL_law_290 rfl ?_
                refine k_bipush hC (nI 100) dL_law_292 rfl ?_
                refine k_aload_n hC 2 dL_law_294 rfl rfl ?_
                refine k_iload hC dL_law_295 rfl ?_
                refine k_iconst hC (nI 1) dL_law_297 rfl ?_
                refine k_iaddN hC dL_law_298 ?_
                refine k_ald hC 0 rfl (by omega) (by decide) dL_law_299 ?_
                refine k_topE (nI (1 + j28)) (((pk_un (by omega)).trans ((pk_un (by omega)).trans ((pk_un (by omega)).trans ((pk_un (by omega)).trans pk_us))))) ?_
                refine k_iaddN hC dL_law_300 ?_
                refine k_topE (nI (qv (1 + j28, 1))) (by unfold qv; congr 1) ?_
                refine k_perm [1, 0, 2, 3, 4] [kI K aM 60 f9, kI K aT 45 (upd (upd (upd (upd (upd (upd fT (15 * nn) (nI (1 + j27))) (15 * nn + 1) (nI (1 + j28))) (15 * nn + 2) (nI (1 + j29))) (15 * nn + 3) (nI (1 + j30))) (15 * nn + 4) (nI 0)) (15 * nn + 11) (nI i)), kI K aI 60 fI, kI K aW 60 fW, kI K aG 8 fG] rfl rfl ?_
                refine k_callS hC (As := [.ref aM, .int (nI nn), .ref aT, .int (nI 11), .int (nI (qv (1 + j28, 1)))]) (cL_add_k l K aM aT f9 (upd (upd (upd (upd (upd (upd fT (15 * nn) (nI (1 + j27))) (15 * nn + 1) (nI (1 + j28))) (15 * nn + 2) (nI (1 + j29))) (15 * nn + 3) (nI (1 + j30))) (15 * nn + 4) (nI 0)) (15 * nn + 11) (nI i)) nn 11 i (nI (qv (1 + j28, 1))) hn2 (by decide) pk_us (by omega)) [kI K aI 60 fI, kI K aW 60 fW, kI K aG 8 fG] rfl (kAll4 lkM_L_16 lkT_yL_add lkN_L lkC_yL_add) 5 (by decide) ⟨(Nat.le_of_ble_eq_true rfl), (Nat.le_of_ble_eq_true rfl)⟩ rfl rfl (Nat.le_of_ble_eq_true rfl) ⟨by show k9 + 0 ≤ 637431; omega, by show n9 + 0 ≤ 7189406; omega⟩ dL_law_301 (fun v w h => ?_)
                obtain ⟨rfl, rfl⟩ := h
                refine k_re (k9) (n9) [kI K aM 60 (upd f9 (20 * nn + i) (nI (qv (1 + j28, 1)))), kI K aT 45 (upd (upd (upd (upd (upd (upd (upd fT (15 * nn) (nI (1 + j27))) (15 * nn + 1) (nI (1 + j28))) (15 * nn + 2) (nI (1 + j29))) (15 * nn + 3) (nI (1 + j30))) (15 * nn + 4) (nI 0)) (15 * nn + 11) (nI i)) (15 * nn + 11) (nI (i + 1))), kI K aI 60 fI, kI K aW 60 fW, kI K aG 8 fG] [] rfl rfl rfl rfl ?_
                refine k_perm [1, 0, 2, 3, 4] [kI K aT 45 (upd (upd (upd (upd (upd (upd (upd fT (15 * nn) (nI (1 + j27))) (15 * nn + 1) (nI (1 + j28))) (15 * nn + 2) (nI (1 + j29))) (15 * nn + 3) (nI (1 + j30))) (15 * nn + 4) (nI 0)) (15 * nn + 11) (nI i)) (15 * nn + 11) (nI (i + 1))), kI K aM 60 (upd f9 (20 * nn + i) (nI (qv (1 + j28, 1)))), kI K aI 60 fI, kI K aW 60 fW, kI K aG 8 fG] rfl rfl ?_
                refine k_eX (show _ = [kI K aT 45 (upd (upd (upd (upd (upd (upd fT (15 * nn) (nI (1 + j27))) (15 * nn + 1) (nI (1 + j28))) (15 * nn + 2) (nI (1 + j29))) (15 * nn + 3) (nI (1 + j30))) (15 * nn + 4) (nI 0)) (15 * nn + 11) (nI (i + 1))), kI K aM 60 (upd f9 (20 * nn + i) (nI (qv (1 + j28, 1)))), kI K aI 60 fI, kI K aW 60 fW, kI K aG 8 fG] by rw [qup2]) ?_
                refine k_iinc hC dL_law_304 (by decide) rfl rfl (nI (i + 1)) (kinc i 1 rfl) [(0, .ref b0), (1, .ref x), (2, .ref aT), (3, .ref aM), (4, .ref aI), (5, .ref aW), (6, .ref aG), (7, .int (nI turn)), (8, .int z8), (9, .int z9), (10, .int (nI kd)), (11, .int (nI a)), (12, .int (nI (15 * nn))), (13, .int (kB true)), (14, .int (nI (i + 1)))] rfl ?_
                refine k_goto hC 270 dL_law_307 (by decide) ?_
                have e7 := mK_snocS (k := nn) (1 + j28, 1) e2
                rw [List.length_replicate] at e7
                exact ih (i + 1) _ (by omega) (by rw [List.replicate_succ']; exact e7) (qF_tr e3 (qF_up (by omega)))
        refine k_eX (show _ = [kI K aT 45 (upd (upd (upd (upd (upd (upd fT (15 * nn) (nI (1 + j27))) (15 * nn + 1) (nI (1 + j28))) (15 * nn + 2) (nI (1 + j29))) (15 * nn + 3) (nI (1 + j30))) (15 * nn + 4) (nI 0)) (15 * nn + 11) (nI 0)), kI K aM 60 fM, kI K aI 60 fI, kI K aW 60 fW, kI K aG 8 fG] by rw [qupid (((pk_un (by omega)).trans ((pk_un (by omega)).trans ((pk_un (by omega)).trans ((pk_un (by omega)).trans ((pk_un (by omega)).trans (hz 11 (by decide))))))))]) ?_
        exact loop (1 + j27) 0 fM rfl mK_nil qF_rf
  · have h0 : σ.1 ≠ 0 := by omega
    refine k_goto hC 1169 dL_law_153 (by decide) ?_
    refine k_lsub [0, 1, 2, 3, 4, 5, 6, 7] [(0, .ref b0), (1, .ref x), (2, .ref aT), (3, .ref aM), (4, .ref aI), (5, .ref aW), (6, .ref aG), (7, .int (nI turn))] rfl ?_
    exact kk ad σ us fT fM fI fW fG (k9) (n9) ⟨hσ, hU, hR, h3, d9, hd, hd20⟩ h0 (by omega) (by omega)
