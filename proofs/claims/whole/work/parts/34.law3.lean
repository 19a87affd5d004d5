/-! the law: its cases -/
set_option maxRecDepth 100000 in
set_option maxHeartbeats 4000000 in
theorem law_c0 {p : Program} {l : Launch} {e : Env} {s : State} {m : MethodId} {args : Array Value} {below : List Frame} {meth : Method} {cd : Code} {K : kE} {A : Nat → Prop} {Q : State → Prop} {b0 L : Nat} {xs : Nat → Int32} {x y o : Nat} {b : Nat → Nat} {i k9 n9 : Nat} (H0 : kHead p l s m args meth cd K A b0 L xs i k9 n9) (ad : Nat → Nat → Nat) (σ : mS) (us : Nat → Nat → Nat → Int32) (f : Nat → Int64) (S : Nat → Int32) (G : Nat → Nat → Int32) (hσ : mSok σ) (hU : mURT σ us) (hR : mRep σ S G) (kk : kCont p l e s m args below meth cd K A Q b0 x y o b i k9 n9) : kW p l e room_1 s m args below meth cd K A 7 Q k9 n9 [] (wL K x ad σ us o f y b S G) [(0, .ref b0), (1, .ref x), (2, .ref y), (3, .ref o), (4, .int (nI i))] 172 [] := by
  obtain ⟨hst, hC, hX0, hbl, hbA, hL, hiL, hk9, hn9⟩ := H0
  refine k_aload_n hC 1 dL_law_172 rfl rfl ?_
  refine k_aload_n hC 0 dL_law_173 rfl rfl ?_
  refine k_iload hC dL_law_174 rfl ?_
  refine k_iconst hC (nI 1) dL_law_176 rfl ?_
  refine k_iaddN hC dL_law_177 ?_
  refine k_sld hC hX0 hbl hbA (by omega) hL dL_law_178 ?_
  refine k_aload_n hC 0 dL_law_179 rfl rfl ?_
  refine k_iload hC dL_law_180 rfl ?_
  refine k_iconst hC (nI 2) dL_law_182 rfl ?_
  refine k_iaddN hC dL_law_183 ?_
  refine k_sld hC hX0 hbl hbA (by omega) hL dL_law_184 ?_
  refine k_aload_n hC 0 dL_law_185 rfl rfl ?_
  refine k_iload hC dL_law_186 rfl ?_
  refine k_iconst hC (nI 3) dL_law_188 rfl ?_
  refine k_iaddN hC dL_law_189 ?_
  refine k_sld hC hX0 hbl hbA (by omega) hL dL_law_190 ?_
  refine k_aload_n hC 0 dL_law_191 rfl rfl ?_
  refine k_iload hC dL_law_192 rfl ?_
  refine k_iconst hC (nI 4) dL_law_194 rfl ?_
  refine k_iaddN hC dL_law_195 ?_
  refine k_sld hC hX0 hbl hbA (by omega) hL dL_law_196 ?_
  refine k_aload_n hC 0 dL_law_197 rfl rfl ?_
  refine k_iload hC dL_law_198 rfl ?_
  refine k_iconst hC (nI 5) dL_law_200 rfl ?_
  refine k_iaddN hC dL_law_201 ?_
  refine k_sld hC hX0 hbl hbA (by omega) hL dL_law_202 ?_
  refine k_if_eq hC 210 dL_law_203 (by decide) (fun z9 => ?_) (fun z9 => ?_)
  · refine k_iconst hC (nI 0) dL_law_210 rfl ?_
    refine k_topE (kB false) rfl ?_
    refine k_aload_n hC 3 dL_law_211 rfl rfl ?_
    refine k_callXH hC (As := [.ref x, .int (xs (i + 1)), .int (xs (i + 2)), .int (xs (i + 3)), .int (xs (i + 4)), .int (kB false), .ref o]) (cL_stage_k hst K x ad σ us hσ hU o f (xs (i + 1)) (xs (i + 2)) (xs (i + 3)) (xs (i + 4)) false) (wM K y b S G) rfl (kAll4 lkM_L_86 lkT_yL_stage lkN_L lkC_yL_stage) 7 (by decide) ⟨(Nat.le_of_ble_eq_true rfl), (Nat.le_of_ble_eq_true rfl)⟩ rfl rfl (Nat.le_of_ble_eq_true rfl) ⟨by show k9 + 14 ≤ 646352; omega, by show n9 + 101 ≤ 7157049; omega⟩ dL_law_212 (fun v w h => ?_)
    obtain ⟨rfl, ad1, us1, f1, rfl, hU1, hf1⟩ := h
    refine k_re (k9 + 14) (n9 + 101) ((wL K x ad1 (oStage σ (xs (i + 1)) (xs (i + 2)) (xs (i + 3)) (xs (i + 4)) false).2.2 us1 o f1 y b S G)) [.int (nI ((oStage σ (xs (i + 1)) (xs (i + 2)) (xs (i + 3)) (xs (i + 4)) false).1))] rfl rfl rfl rfl ?_
    refine k_perm2 [] (wM K y b S G ++ ([kJ K o 1 f1] ++ wX K x ad1 (oStage σ (xs (i + 1)) (xs (i + 2)) (xs (i + 3)) (xs (i + 4)) false).2.2 us1)) kPermL ?_
    refine k_istore hC dL_law_215 (by decide) rfl [(0, .ref b0), (1, .ref x), (2, .ref y), (3, .ref o), (4, .int (nI i)), (5, .int (nI ((oStage σ (xs (i + 1)) (xs (i + 2)) (xs (i + 3)) (xs (i + 4)) false).1)))] rfl ?_
    refine k_aload_n hC 2 dL_law_217 rfl rfl ?_
    refine k_aload_n hC 0 dL_law_218 rfl rfl ?_
    refine k_iload hC dL_law_219 rfl ?_
    refine k_iconst hC (nI 1) dL_law_221 rfl ?_
    refine k_iaddN hC dL_law_222 ?_
    refine k_sld hC hX0 hbl hbA (by omega) hL dL_law_223 ?_
    refine k_aload_n hC 0 dL_law_224 rfl rfl ?_
    refine k_iload hC dL_law_225 rfl ?_
    refine k_iconst hC (nI 2) dL_law_227 rfl ?_
    refine k_iaddN hC dL_law_228 ?_
    refine k_sld hC hX0 hbl hbA (by omega) hL dL_law_229 ?_
    refine k_aload_n hC 0 dL_law_230 rfl rfl ?_
    refine k_iload hC dL_law_231 rfl ?_
    refine k_iconst hC (nI 3) dL_law_233 rfl ?_
    refine k_iaddN hC dL_law_234 ?_
    refine k_sld hC hX0 hbl hbA (by omega) hL dL_law_235 ?_
    refine k_aload_n hC 0 dL_law_236 rfl rfl ?_
    refine k_iload hC dL_law_237 rfl ?_
    refine k_iconst hC (nI 4) dL_law_239 rfl ?_
    refine k_iaddN hC dL_law_240 ?_
    refine k_sld hC hX0 hbl hbA (by omega) hL dL_law_241 ?_
    refine k_aload_n hC 0 dL_law_242 rfl rfl ?_
    refine k_iload hC dL_law_243 rfl ?_
    refine k_iconst hC (nI 5) dL_law_245 rfl ?_
    refine k_iaddN hC dL_law_246 ?_
    refine k_sld hC hX0 hbl hbA (by omega) hL dL_law_247 ?_
    refine k_if_eq hC 255 dL_law_248 (by decide) (fun z8 => ?_) (fun z8 => ?_)
    · refine k_iconst hC (nI 0) dL_law_255 rfl ?_
      refine k_topE (kB false) rfl ?_
      refine k_callV hC (As := [.int (xs (i + 1)), .int (xs (i + 2)), .int (xs (i + 3)), .int (xs (i + 4)), .int (kB false)]) (cX4_stage_k l K y b S G σ hσ hR (xs (i + 1)) (xs (i + 2)) (xs (i + 3)) (xs (i + 4)) false) ([kJ K o 1 f1] ++ wX K x ad1 (oStage σ (xs (i + 1)) (xs (i + 2)) (xs (i + 3)) (xs (i + 4)) false).2.2 us1) rfl 0 rfl rfl (kAll5 lkM_L_91 lkI_yX4_stage lkS_yX4_stage lkN_X4 lkC_yX4_stage) 5 (by decide) ⟨(Nat.le_of_ble_eq_true rfl), (Nat.le_of_ble_eq_true rfl)⟩ rfl rfl (Nat.le_of_ble_eq_true rfl) ⟨by show k9 + 14 + 0 ≤ 646352; omega, by show n9 + 101 + 0 ≤ 7157049; omega⟩ dL_law_256 (fun v w h => ?_)
      obtain ⟨S1, G1, b9, rfl, rfl, hc1, hb1, hR1⟩ := h
      refine k_re (k9 + 14) (n9 + 101) ((wM K y b S1 G1 ++ ([kJ K o 1 f1] ++ wX K x ad1 (oStage σ (xs (i + 1)) (xs (i + 2)) (xs (i + 3)) (xs (i + 4)) false).2.2 us1))) [.int b9] rfl rfl rfl rfl ?_
      refine k_istore hC dL_law_259 (by decide) rfl [(0, .ref b0), (1, .ref x), (2, .ref y), (3, .ref o), (4, .int (nI i)), (5, .int (nI ((oStage σ (xs (i + 1)) (xs (i + 2)) (xs (i + 3)) (xs (i + 4)) false).1))), (6, .int b9)] rfl ?_
      refine k_aload_n hC 2 dL_law_261 rfl rfl ?_
      refine k_callV hC (As := []) (cX4_thrown_k l K y b S1 G1) ([kJ K o 1 f1] ++ wX K x ad1 (oStage σ (xs (i + 1)) (xs (i + 2)) (xs (i + 3)) (xs (i + 4)) false).2.2 us1) rfl 0 rfl rfl (kAll5 lkM_L_92 lkI_yX4_thrown lkS_yX4_thrown lkN_X4 lkC_yX4_thrown) 0 (by decide) ⟨(Nat.le_of_ble_eq_true rfl), (Nat.le_of_ble_eq_true rfl)⟩ rfl rfl (Nat.le_of_ble_eq_true rfl) ⟨by show k9 + 14 + 0 ≤ 646352; omega, by show n9 + 101 + 0 ≤ 7157049; omega⟩ dL_law_262 (fun v w h => ?_)
      obtain ⟨rfl, rfl⟩ := h
      refine k_re (k9 + 14) (n9 + 101) ((wM K y b S1 G1 ++ ([kJ K o 1 f1] ++ wX K x ad1 (oStage σ (xs (i + 1)) (xs (i + 2)) (xs (i + 3)) (xs (i + 4)) false).2.2 us1))) [.int (S1 0)] rfl rfl rfl rfl ?_
      refine k_topE (nI (oStage σ (xs (i + 1)) (xs (i + 2)) (xs (i + 3)) (xs (i + 4)) false).1) hc1 ?_
      refine k_iload hC dL_law_265 rfl ?_
      refine k_icmp_eq hC 272 dL_law_267 (by decide) (fun c1 => ?_) (fun c1 => ?_)
      · refine k_iload hC dL_law_272 rfl ?_
        refine k_if_ne hC 289 dL_law_274 (by decide) (fun c2 => ?_) (fun c2 => ?_)
        · refine k_goto hC 1587 dL_law_289 (by decide) ?_
          refine k_lsub [0, 1, 2, 3, 4] [(0, .ref b0), (1, .ref x), (2, .ref y), (3, .ref o), (4, .int (nI i))] rfl ?_
          refine k_perm2 [] (wL K x ad1 (oStage σ (xs (i + 1)) (xs (i + 2)) (xs (i + 3)) (xs (i + 4)) false).2.2 us1 o f1 y b S1 G1) kPermM ?_
          exact kk ad1 (oStage σ (xs (i + 1)) (xs (i + 2)) (xs (i + 3)) (xs (i + 4)) false).2.2 us1 f1 S1 G1 (k9 + 14) (n9 + 101) (oStage_ok hσ (xs (i + 1)) (xs (i + 2)) (xs (i + 3)) (xs (i + 4)) false) hU1 hR1 (by omega) (by omega)
        · have h0 : (oStage σ (xs (i + 1)) (xs (i + 2)) (xs (i + 3)) (xs (i + 4)) false).1 = 0 := (kz_eq (oStage_le _ (xs (i + 1)) (xs (i + 2)) (xs (i + 3)) (xs (i + 4)) false)).mp c2
          have e1 := hf1 h0
          have e2 := hb1 h0
          refine k_aload_n hC 3 dL_law_277 rfl rfl ?_
          refine k_iconst hC (nI 0) dL_law_278 rfl ?_
          refine k_jald hC 22 rfl (by decide) (by decide) dL_law_279 ?_
          refine k_iload hC dL_law_280 rfl ?_
          refine k_i2l hC dL_law_282 ?_
          refine k_lcmp hC dL_law_283 ?_
          refine k_if_eq hC 289 dL_law_284 (by decide) (fun c3 => ?_) (fun c3 => ?_)
          · refine k_goto hC 1587 dL_law_289 (by decide) ?_
            refine k_lsub [0, 1, 2, 3, 4] [(0, .ref b0), (1, .ref x), (2, .ref y), (3, .ref o), (4, .int (nI i))] rfl ?_
            refine k_perm2 [] (wL K x ad1 (oStage σ (xs (i + 1)) (xs (i + 2)) (xs (i + 3)) (xs (i + 4)) false).2.2 us1 o f1 y b S1 G1) kPermM ?_
            exact kk ad1 (oStage σ (xs (i + 1)) (xs (i + 2)) (xs (i + 3)) (xs (i + 4)) false).2.2 us1 f1 S1 G1 (k9 + 14) (n9 + 101) (oStage_ok hσ (xs (i + 1)) (xs (i + 2)) (xs (i + 3)) (xs (i + 4)) false) hU1 hR1 (by omega) (by omega)
          · exact absurd (by rw [e1, ← e2]; exact lg_cmp_self _) c3
      · exact absurd rfl c1
    · exact absurd z9 z8
  · refine k_iconst hC (nI 1) dL_law_206 rfl ?_
    refine k_topE (kB true) rfl ?_
    refine k_goto hC 211 dL_law_207 (by decide) ?_
    refine k_aload_n hC 3 dL_law_211 rfl rfl ?_
    refine k_callXH hC (As := [.ref x, .int (xs (i + 1)), .int (xs (i + 2)), .int (xs (i + 3)), .int (xs (i + 4)), .int (kB true), .ref o]) (cL_stage_k hst K x ad σ us hσ hU o f (xs (i + 1)) (xs (i + 2)) (xs (i + 3)) (xs (i + 4)) true) (wM K y b S G) rfl (kAll4 lkM_L_86 lkT_yL_stage lkN_L lkC_yL_stage) 7 (by decide) ⟨(Nat.le_of_ble_eq_true rfl), (Nat.le_of_ble_eq_true rfl)⟩ rfl rfl (Nat.le_of_ble_eq_true rfl) ⟨by show k9 + 14 ≤ 646352; omega, by show n9 + 101 ≤ 7157049; omega⟩ dL_law_212 (fun v w h => ?_)
    obtain ⟨rfl, ad1, us1, f1, rfl, hU1, hf1⟩ := h
    refine k_re (k9 + 14) (n9 + 101) ((wL K x ad1 (oStage σ (xs (i + 1)) (xs (i + 2)) (xs (i + 3)) (xs (i + 4)) true).2.2 us1 o f1 y b S G)) [.int (nI ((oStage σ (xs (i + 1)) (xs (i + 2)) (xs (i + 3)) (xs (i + 4)) true).1))] rfl rfl rfl rfl ?_
    refine k_perm2 [] (wM K y b S G ++ ([kJ K o 1 f1] ++ wX K x ad1 (oStage σ (xs (i + 1)) (xs (i + 2)) (xs (i + 3)) (xs (i + 4)) true).2.2 us1)) kPermL ?_
    refine k_istore hC dL_law_215 (by decide) rfl [(0, .ref b0), (1, .ref x), (2, .ref y), (3, .ref o), (4, .int (nI i)), (5, .int (nI ((oStage σ (xs (i + 1)) (xs (i + 2)) (xs (i + 3)) (xs (i + 4)) true).1)))] rfl ?_
    refine k_aload_n hC 2 dL_law_217 rfl rfl ?_
    refine k_aload_n hC 0 dL_law_218 rfl rfl ?_
    refine k_iload hC dL_law_219 rfl ?_
    refine k_iconst hC (nI 1) dL_law_221 rfl ?_
    refine k_iaddN hC dL_law_222 ?_
    refine k_sld hC hX0 hbl hbA (by omega) hL dL_law_223 ?_
    refine k_aload_n hC 0 dL_law_224 rfl rfl ?_
    refine k_iload hC dL_law_225 rfl ?_
    refine k_iconst hC (nI 2) dL_law_227 rfl ?_
    refine k_iaddN hC dL_law_228 ?_
    refine k_sld hC hX0 hbl hbA (by omega) hL dL_law_229 ?_
    refine k_aload_n hC 0 dL_law_230 rfl rfl ?_
    refine k_iload hC dL_law_231 rfl ?_
    refine k_iconst hC (nI 3) dL_law_233 rfl ?_
    refine k_iaddN hC dL_law_234 ?_
    refine k_sld hC hX0 hbl hbA (by omega) hL dL_law_235 ?_
    refine k_aload_n hC 0 dL_law_236 rfl rfl ?_
    refine k_iload hC dL_law_237 rfl ?_
    refine k_iconst hC (nI 4) dL_law_239 rfl ?_
    refine k_iaddN hC dL_law_240 ?_
    refine k_sld hC hX0 hbl hbA (by omega) hL dL_law_241 ?_
    refine k_aload_n hC 0 dL_law_242 rfl rfl ?_
    refine k_iload hC dL_law_243 rfl ?_
    refine k_iconst hC (nI 5) dL_law_245 rfl ?_
    refine k_iaddN hC dL_law_246 ?_
    refine k_sld hC hX0 hbl hbA (by omega) hL dL_law_247 ?_
    refine k_if_eq hC 255 dL_law_248 (by decide) (fun z8 => ?_) (fun z8 => ?_)
    · exact absurd z8 z9
    · refine k_iconst hC (nI 1) dL_law_251 rfl ?_
      refine k_topE (kB true) rfl ?_
      refine k_goto hC 256 dL_law_252 (by decide) ?_
      refine k_callV hC (As := [.int (xs (i + 1)), .int (xs (i + 2)), .int (xs (i + 3)), .int (xs (i + 4)), .int (kB true)]) (cX4_stage_k l K y b S G σ hσ hR (xs (i + 1)) (xs (i + 2)) (xs (i + 3)) (xs (i + 4)) true) ([kJ K o 1 f1] ++ wX K x ad1 (oStage σ (xs (i + 1)) (xs (i + 2)) (xs (i + 3)) (xs (i + 4)) true).2.2 us1) rfl 0 rfl rfl (kAll5 lkM_L_91 lkI_yX4_stage lkS_yX4_stage lkN_X4 lkC_yX4_stage) 5 (by decide) ⟨(Nat.le_of_ble_eq_true rfl), (Nat.le_of_ble_eq_true rfl)⟩ rfl rfl (Nat.le_of_ble_eq_true rfl) ⟨by show k9 + 14 + 0 ≤ 646352; omega, by show n9 + 101 + 0 ≤ 7157049; omega⟩ dL_law_256 (fun v w h => ?_)
      obtain ⟨S1, G1, b9, rfl, rfl, hc1, hb1, hR1⟩ := h
      refine k_re (k9 + 14) (n9 + 101) ((wM K y b S1 G1 ++ ([kJ K o 1 f1] ++ wX K x ad1 (oStage σ (xs (i + 1)) (xs (i + 2)) (xs (i + 3)) (xs (i + 4)) true).2.2 us1))) [.int b9] rfl rfl rfl rfl ?_
      refine k_istore hC dL_law_259 (by decide) rfl [(0, .ref b0), (1, .ref x), (2, .ref y), (3, .ref o), (4, .int (nI i)), (5, .int (nI ((oStage σ (xs (i + 1)) (xs (i + 2)) (xs (i + 3)) (xs (i + 4)) true).1))), (6, .int b9)] rfl ?_
      refine k_aload_n hC 2 dL_law_261 rfl rfl ?_
      refine k_callV hC (As := []) (cX4_thrown_k l K y b S1 G1) ([kJ K o 1 f1] ++ wX K x ad1 (oStage σ (xs (i + 1)) (xs (i + 2)) (xs (i + 3)) (xs (i + 4)) true).2.2 us1) rfl 0 rfl rfl (kAll5 lkM_L_92 lkI_yX4_thrown lkS_yX4_thrown lkN_X4 lkC_yX4_thrown) 0 (by decide) ⟨(Nat.le_of_ble_eq_true rfl), (Nat.le_of_ble_eq_true rfl)⟩ rfl rfl (Nat.le_of_ble_eq_true rfl) ⟨by show k9 + 14 + 0 ≤ 646352; omega, by show n9 + 101 + 0 ≤ 7157049; omega⟩ dL_law_262 (fun v w h => ?_)
      obtain ⟨rfl, rfl⟩ := h
      refine k_re (k9 + 14) (n9 + 101) ((wM K y b S1 G1 ++ ([kJ K o 1 f1] ++ wX K x ad1 (oStage σ (xs (i + 1)) (xs (i + 2)) (xs (i + 3)) (xs (i + 4)) true).2.2 us1))) [.int (S1 0)] rfl rfl rfl rfl ?_
      refine k_topE (nI (oStage σ (xs (i + 1)) (xs (i + 2)) (xs (i + 3)) (xs (i + 4)) true).1) hc1 ?_
      refine k_iload hC dL_law_265 rfl ?_
      refine k_icmp_eq hC 272 dL_law_267 (by decide) (fun c1 => ?_) (fun c1 => ?_)
      · refine k_iload hC dL_law_272 rfl ?_
        refine k_if_ne hC 289 dL_law_274 (by decide) (fun c2 => ?_) (fun c2 => ?_)
        · refine k_goto hC 1587 dL_law_289 (by decide) ?_
          refine k_lsub [0, 1, 2, 3, 4] [(0, .ref b0), (1, .ref x), (2, .ref y), (3, .ref o), (4, .int (nI i))] rfl ?_
          refine k_perm2 [] (wL K x ad1 (oStage σ (xs (i + 1)) (xs (i + 2)) (xs (i + 3)) (xs (i + 4)) true).2.2 us1 o f1 y b S1 G1) kPermM ?_
          exact kk ad1 (oStage σ (xs (i + 1)) (xs (i + 2)) (xs (i + 3)) (xs (i + 4)) true).2.2 us1 f1 S1 G1 (k9 + 14) (n9 + 101) (oStage_ok hσ (xs (i + 1)) (xs (i + 2)) (xs (i + 3)) (xs (i + 4)) true) hU1 hR1 (by omega) (by omega)
        · have h0 : (oStage σ (xs (i + 1)) (xs (i + 2)) (xs (i + 3)) (xs (i + 4)) true).1 = 0 := (kz_eq (oStage_le _ (xs (i + 1)) (xs (i + 2)) (xs (i + 3)) (xs (i + 4)) true)).mp c2
          have e1 := hf1 h0
          have e2 := hb1 h0
          refine k_aload_n hC 3 dL_law_277 rfl rfl ?_
          refine k_iconst hC (nI 0) dL_law_278 rfl ?_
          refine k_jald hC 22 rfl (by decide) (by decide) dL_law_279 ?_
          refine k_iload hC dL_law_280 rfl ?_
          refine k_i2l hC dL_law_282 ?_
          refine k_lcmp hC dL_law_283 ?_
          refine k_if_eq hC 289 dL_law_284 (by decide) (fun c3 => ?_) (fun c3 => ?_)
          · refine k_goto hC 1587 dL_law_289 (by decide) ?_
            refine k_lsub [0, 1, 2, 3, 4] [(0, .ref b0), (1, .ref x), (2, .ref y), (3, .ref o), (4, .int (nI i))] rfl ?_
            refine k_perm2 [] (wL K x ad1 (oStage σ (xs (i + 1)) (xs (i + 2)) (xs (i + 3)) (xs (i + 4)) true).2.2 us1 o f1 y b S1 G1) kPermM ?_
            exact kk ad1 (oStage σ (xs (i + 1)) (xs (i + 2)) (xs (i + 3)) (xs (i + 4)) true).2.2 us1 f1 S1 G1 (k9 + 14) (n9 + 101) (oStage_ok hσ (xs (i + 1)) (xs (i + 2)) (xs (i + 3)) (xs (i + 4)) true) hU1 hR1 (by omega) (by omega)
          · exact absurd (by rw [e1, ← e2]; exact lg_cmp_self _) c3
      · exact absurd rfl c1
set_option maxRecDepth 100000 in
set_option maxHeartbeats 4000000 in
theorem law_c1 {p : Program} {l : Launch} {e : Env} {s : State} {m : MethodId} {args : Array Value} {below : List Frame} {meth : Method} {cd : Code} {K : kE} {A : Nat → Prop} {Q : State → Prop} {b0 L : Nat} {xs : Nat → Int32} {x y o : Nat} {b : Nat → Nat} {i k9 n9 : Nat} (H0 : kHead p l s m args meth cd K A b0 L xs i k9 n9) (ad : Nat → Nat → Nat) (σ : mS) (us : Nat → Nat → Nat → Int32) (f : Nat → Int64) (S : Nat → Int32) (G : Nat → Nat → Int32) (hσ : mSok σ) (hU : mURT σ us) (hR : mRep σ S G) (kk : kCont p l e s m args below meth cd K A Q b0 x y o b i k9 n9) : kW p l e room_1 s m args below meth cd K A 7 Q k9 n9 [] (wL K x ad σ us o f y b S G) [(0, .ref b0), (1, .ref x), (2, .ref y), (3, .ref o), (4, .int (nI i))] 292 [] := by
  obtain ⟨hst, hC, hX0, hbl, hbA, hL, hiL, hk9, hn9⟩ := H0
  refine k_aload_n hC 1 dL_law_292 rfl rfl ?_
  refine k_aload_n hC 0 dL_law_293 rfl rfl ?_
  refine k_iload hC dL_law_294 rfl ?_
  refine k_iconst hC (nI 1) dL_law_296 rfl ?_
  refine k_iaddN hC dL_law_297 ?_
  refine k_sld hC hX0 hbl hbA (by omega) hL dL_law_298 ?_
  refine k_aload_n hC 0 dL_law_299 rfl rfl ?_
  refine k_iload hC dL_law_300 rfl ?_
  refine k_iconst hC (nI 2) dL_law_302 rfl ?_
  refine k_iaddN hC dL_law_303 ?_
  refine k_sld hC hX0 hbl hbA (by omega) hL dL_law_304 ?_
  refine k_aload_n hC 3 dL_law_305 rfl rfl ?_
  refine k_callXH hC (As := [.ref x, .int (xs (i + 1)), .int (xs (i + 2)), .ref o]) (cL_way_k hst K x ad σ us hσ hU o f (xs (i + 1)) (xs (i + 2))) (wM K y b S G) rfl (kAll4 lkM_L_96 lkT_yL_way lkN_L lkC_yL_way) 4 (by decide) ⟨(Nat.le_of_ble_eq_true rfl), (Nat.le_of_ble_eq_true rfl)⟩ rfl rfl (Nat.le_of_ble_eq_true rfl) ⟨by show k9 + 3 ≤ 646352; omega, by show n9 + 18 ≤ 7157049; omega⟩ dL_law_306 (fun v w h => ?_)
  obtain ⟨rfl, ad1, us1, f1, rfl, hU1, hf1⟩ := h
  refine k_re (k9 + 3) (n9 + 18) ((wL K x ad1 (oWay σ (xs (i + 1)) (xs (i + 2))).2.2 us1 o f1 y b S G)) [.int (nI ((oWay σ (xs (i + 1)) (xs (i + 2))).1))] rfl rfl rfl rfl ?_
  refine k_perm2 [] (wM K y b S G ++ ([kJ K o 1 f1] ++ wX K x ad1 (oWay σ (xs (i + 1)) (xs (i + 2))).2.2 us1)) kPermL ?_
  refine k_istore hC dL_law_309 (by decide) rfl [(0, .ref b0), (1, .ref x), (2, .ref y), (3, .ref o), (4, .int (nI i)), (5, .int (nI ((oWay σ (xs (i + 1)) (xs (i + 2))).1)))] rfl ?_
  refine k_aload_n hC 2 dL_law_311 rfl rfl ?_
  refine k_aload_n hC 0 dL_law_312 rfl rfl ?_
  refine k_iload hC dL_law_313 rfl ?_
  refine k_iconst hC (nI 1) dL_law_315 rfl ?_
  refine k_iaddN hC dL_law_316 ?_
  refine k_sld hC hX0 hbl hbA (by omega) hL dL_law_317 ?_
  refine k_aload_n hC 0 dL_law_318 rfl rfl ?_
  refine k_iload hC dL_law_319 rfl ?_
  refine k_iconst hC (nI 2) dL_law_321 rfl ?_
  refine k_iaddN hC dL_law_322 ?_
  refine k_sld hC hX0 hbl hbA (by omega) hL dL_law_323 ?_
  refine k_callV hC (As := [.int (xs (i + 1)), .int (xs (i + 2))]) (cX4_way_k l K y b S G σ hσ hR (xs (i + 1)) (xs (i + 2))) ([kJ K o 1 f1] ++ wX K x ad1 (oWay σ (xs (i + 1)) (xs (i + 2))).2.2 us1) rfl 0 rfl rfl (kAll5 lkM_L_99 lkI_yX4_way lkS_yX4_way lkN_X4 lkC_yX4_way) 2 (by decide) ⟨(Nat.le_of_ble_eq_true rfl), (Nat.le_of_ble_eq_true rfl)⟩ rfl rfl (Nat.le_of_ble_eq_true rfl) ⟨by show k9 + 3 + 0 ≤ 646352; omega, by show n9 + 18 + 0 ≤ 7157049; omega⟩ dL_law_324 (fun v w h => ?_)
  obtain ⟨S1, G1, b9, rfl, rfl, hc1, hb1, hR1⟩ := h
  refine k_re (k9 + 3) (n9 + 18) ((wM K y b S1 G1 ++ ([kJ K o 1 f1] ++ wX K x ad1 (oWay σ (xs (i + 1)) (xs (i + 2))).2.2 us1))) [.int b9] rfl rfl rfl rfl ?_
  refine k_istore hC dL_law_327 (by decide) rfl [(0, .ref b0), (1, .ref x), (2, .ref y), (3, .ref o), (4, .int (nI i)), (5, .int (nI ((oWay σ (xs (i + 1)) (xs (i + 2))).1))), (6, .int b9)] rfl ?_
  refine k_aload_n hC 2 dL_law_329 rfl rfl ?_
  refine k_callV hC (As := []) (cX4_thrown_k l K y b S1 G1) ([kJ K o 1 f1] ++ wX K x ad1 (oWay σ (xs (i + 1)) (xs (i + 2))).2.2 us1) rfl 0 rfl rfl (kAll5 lkM_L_92 lkI_yX4_thrown lkS_yX4_thrown lkN_X4 lkC_yX4_thrown) 0 (by decide) ⟨(Nat.le_of_ble_eq_true rfl), (Nat.le_of_ble_eq_true rfl)⟩ rfl rfl (Nat.le_of_ble_eq_true rfl) ⟨by show k9 + 3 + 0 ≤ 646352; omega, by show n9 + 18 + 0 ≤ 7157049; omega⟩ dL_law_330 (fun v w h => ?_)
  obtain ⟨rfl, rfl⟩ := h
  refine k_re (k9 + 3) (n9 + 18) ((wM K y b S1 G1 ++ ([kJ K o 1 f1] ++ wX K x ad1 (oWay σ (xs (i + 1)) (xs (i + 2))).2.2 us1))) [.int (S1 0)] rfl rfl rfl rfl ?_
  refine k_topE (nI (oWay σ (xs (i + 1)) (xs (i + 2))).1) hc1 ?_
  refine k_iload hC dL_law_333 rfl ?_
  refine k_icmp_eq hC 340 dL_law_335 (by decide) (fun c1 => ?_) (fun c1 => ?_)
  · refine k_iload hC dL_law_340 rfl ?_
    refine k_if_ne hC 357 dL_law_342 (by decide) (fun c2 => ?_) (fun c2 => ?_)
    · refine k_goto hC 1587 dL_law_357 (by decide) ?_
      refine k_lsub [0, 1, 2, 3, 4] [(0, .ref b0), (1, .ref x), (2, .ref y), (3, .ref o), (4, .int (nI i))] rfl ?_
      refine k_perm2 [] (wL K x ad1 (oWay σ (xs (i + 1)) (xs (i + 2))).2.2 us1 o f1 y b S1 G1) kPermM ?_
      exact kk ad1 (oWay σ (xs (i + 1)) (xs (i + 2))).2.2 us1 f1 S1 G1 (k9 + 3) (n9 + 18) (oWay_ok hσ (xs (i + 1)) (xs (i + 2))) hU1 hR1 (by omega) (by omega)
    · have h0 : (oWay σ (xs (i + 1)) (xs (i + 2))).1 = 0 := (kz_eq (oWay_le _ (xs (i + 1)) (xs (i + 2)))).mp c2
      have e1 := hf1 h0
      have e2 := hb1 h0
      refine k_aload_n hC 3 dL_law_345 rfl rfl ?_
      refine k_iconst hC (nI 0) dL_law_346 rfl ?_
      refine k_jald hC 22 rfl (by decide) (by decide) dL_law_347 ?_
      refine k_iload hC dL_law_348 rfl ?_
      refine k_i2l hC dL_law_350 ?_
      refine k_lcmp hC dL_law_351 ?_
      refine k_if_eq hC 357 dL_law_352 (by decide) (fun c3 => ?_) (fun c3 => ?_)
      · refine k_goto hC 1587 dL_law_357 (by decide) ?_
        refine k_lsub [0, 1, 2, 3, 4] [(0, .ref b0), (1, .ref x), (2, .ref y), (3, .ref o), (4, .int (nI i))] rfl ?_
        refine k_perm2 [] (wL K x ad1 (oWay σ (xs (i + 1)) (xs (i + 2))).2.2 us1 o f1 y b S1 G1) kPermM ?_
        exact kk ad1 (oWay σ (xs (i + 1)) (xs (i + 2))).2.2 us1 f1 S1 G1 (k9 + 3) (n9 + 18) (oWay_ok hσ (xs (i + 1)) (xs (i + 2))) hU1 hR1 (by omega) (by omega)
      · exact absurd (by rw [e1, ← e2]; exact lg_cmp_self _) c3
  · exact absurd rfl c1
set_option maxRecDepth 100000 in
set_option maxHeartbeats 4000000 in
theorem law_c2 {p : Program} {l : Launch} {e : Env} {s : State} {m : MethodId} {args : Array Value} {below : List Frame} {meth : Method} {cd : Code} {K : kE} {A : Nat → Prop} {Q : State → Prop} {b0 L : Nat} {xs : Nat → Int32} {x y o : Nat} {b : Nat → Nat} {i k9 n9 : Nat} (H0 : kHead p l s m args meth cd K A b0 L xs i k9 n9) (ad : Nat → Nat → Nat) (σ : mS) (us : Nat → Nat → Nat → Int32) (f : Nat → Int64) (S : Nat → Int32) (G : Nat → Nat → Int32) (hσ : mSok σ) (hU : mURT σ us) (hR : mRep σ S G) (kk : kCont p l e s m args below meth cd K A Q b0 x y o b i k9 n9) : kW p l e room_1 s m args below meth cd K A 7 Q k9 n9 [] (wL K x ad σ us o f y b S G) [(0, .ref b0), (1, .ref x), (2, .ref y), (3, .ref o), (4, .int (nI i))] 360 [] := by
  obtain ⟨hst, hC, hX0, hbl, hbA, hL, hiL, hk9, hn9⟩ := H0
  refine k_aload_n hC 1 dL_law_360 rfl rfl ?_
  refine k_aload_n hC 0 dL_law_361 rfl rfl ?_
  refine k_iload hC dL_law_362 rfl ?_
  refine k_iconst hC (nI 1) dL_law_364 rfl ?_
  refine k_iaddN hC dL_law_365 ?_
  refine k_sld hC hX0 hbl hbA (by omega) hL dL_law_366 ?_
  refine k_aload_n hC 0 dL_law_367 rfl rfl ?_
  refine k_iload hC dL_law_368 rfl ?_
  refine k_iconst hC (nI 2) dL_law_370 rfl ?_
  refine k_iaddN hC dL_law_371 ?_
  refine k_sld hC hX0 hbl hbA (by omega) hL dL_law_372 ?_
  refine k_aload_n hC 3 dL_law_373 rfl rfl ?_
  refine k_callXH hC (As := [.ref x, .int (xs (i + 1)), .int (xs (i + 2)), .ref o]) (cL_mark_k hst K x ad σ us hσ hU o f (xs (i + 1)) (xs (i + 2))) (wM K y b S G) rfl (kAll4 lkM_L_100 lkT_yL_mark lkN_L lkC_yL_mark) 4 (by decide) ⟨(Nat.le_of_ble_eq_true rfl), (Nat.le_of_ble_eq_true rfl)⟩ rfl rfl (Nat.le_of_ble_eq_true rfl) ⟨by show k9 + 2 ≤ 646352; omega, by show n9 + 12 ≤ 7157049; omega⟩ dL_law_374 (fun v w h => ?_)
  obtain ⟨rfl, ad1, us1, f1, rfl, hU1, hf1⟩ := h
  refine k_re (k9 + 2) (n9 + 12) ((wL K x ad1 (oMark σ (xs (i + 1)) (xs (i + 2))).2.2 us1 o f1 y b S G)) [.int (nI ((oMark σ (xs (i + 1)) (xs (i + 2))).1))] rfl rfl rfl rfl ?_
  refine k_perm2 [] (wM K y b S G ++ ([kJ K o 1 f1] ++ wX K x ad1 (oMark σ (xs (i + 1)) (xs (i + 2))).2.2 us1)) kPermL ?_
  refine k_istore hC dL_law_377 (by decide) rfl [(0, .ref b0), (1, .ref x), (2, .ref y), (3, .ref o), (4, .int (nI i)), (5, .int (nI ((oMark σ (xs (i + 1)) (xs (i + 2))).1)))] rfl ?_
  refine k_aload_n hC 2 dL_law_379 rfl rfl ?_
  refine k_aload_n hC 0 dL_law_380 rfl rfl ?_
  refine k_iload hC dL_law_381 rfl ?_
  refine k_iconst hC (nI 1) dL_law_383 rfl ?_
  refine k_iaddN hC dL_law_384 ?_
  refine k_sld hC hX0 hbl hbA (by omega) hL dL_law_385 ?_
  refine k_aload_n hC 0 dL_law_386 rfl rfl ?_
  refine k_iload hC dL_law_387 rfl ?_
  refine k_iconst hC (nI 2) dL_law_389 rfl ?_
  refine k_iaddN hC dL_law_390 ?_
  refine k_sld hC hX0 hbl hbA (by omega) hL dL_law_391 ?_
  refine k_callV hC (As := [.int (xs (i + 1)), .int (xs (i + 2))]) (cX4_mark_k l K y b S G σ hσ hR (xs (i + 1)) (xs (i + 2))) ([kJ K o 1 f1] ++ wX K x ad1 (oMark σ (xs (i + 1)) (xs (i + 2))).2.2 us1) rfl 0 rfl rfl (kAll5 lkM_L_102 lkI_yX4_mark lkS_yX4_mark lkN_X4 lkC_yX4_mark) 2 (by decide) ⟨(Nat.le_of_ble_eq_true rfl), (Nat.le_of_ble_eq_true rfl)⟩ rfl rfl (Nat.le_of_ble_eq_true rfl) ⟨by show k9 + 2 + 0 ≤ 646352; omega, by show n9 + 12 + 0 ≤ 7157049; omega⟩ dL_law_392 (fun v w h => ?_)
  obtain ⟨S1, G1, b9, rfl, rfl, hc1, hb1, hR1⟩ := h
  refine k_re (k9 + 2) (n9 + 12) ((wM K y b S1 G1 ++ ([kJ K o 1 f1] ++ wX K x ad1 (oMark σ (xs (i + 1)) (xs (i + 2))).2.2 us1))) [.int b9] rfl rfl rfl rfl ?_
  refine k_istore hC dL_law_395 (by decide) rfl [(0, .ref b0), (1, .ref x), (2, .ref y), (3, .ref o), (4, .int (nI i)), (5, .int (nI ((oMark σ (xs (i + 1)) (xs (i + 2))).1))), (6, .int b9)] rfl ?_
  refine k_aload_n hC 2 dL_law_397 rfl rfl ?_
  refine k_callV hC (As := []) (cX4_thrown_k l K y b S1 G1) ([kJ K o 1 f1] ++ wX K x ad1 (oMark σ (xs (i + 1)) (xs (i + 2))).2.2 us1) rfl 0 rfl rfl (kAll5 lkM_L_92 lkI_yX4_thrown lkS_yX4_thrown lkN_X4 lkC_yX4_thrown) 0 (by decide) ⟨(Nat.le_of_ble_eq_true rfl), (Nat.le_of_ble_eq_true rfl)⟩ rfl rfl (Nat.le_of_ble_eq_true rfl) ⟨by show k9 + 2 + 0 ≤ 646352; omega, by show n9 + 12 + 0 ≤ 7157049; omega⟩ dL_law_398 (fun v w h => ?_)
  obtain ⟨rfl, rfl⟩ := h
  refine k_re (k9 + 2) (n9 + 12) ((wM K y b S1 G1 ++ ([kJ K o 1 f1] ++ wX K x ad1 (oMark σ (xs (i + 1)) (xs (i + 2))).2.2 us1))) [.int (S1 0)] rfl rfl rfl rfl ?_
  refine k_topE (nI (oMark σ (xs (i + 1)) (xs (i + 2))).1) hc1 ?_
  refine k_iload hC dL_law_401 rfl ?_
  refine k_icmp_eq hC 408 dL_law_403 (by decide) (fun c1 => ?_) (fun c1 => ?_)
  · refine k_iload hC dL_law_408 rfl ?_
    refine k_if_ne hC 425 dL_law_410 (by decide) (fun c2 => ?_) (fun c2 => ?_)
    · refine k_goto hC 1587 dL_law_425 (by decide) ?_
      refine k_lsub [0, 1, 2, 3, 4] [(0, .ref b0), (1, .ref x), (2, .ref y), (3, .ref o), (4, .int (nI i))] rfl ?_
      refine k_perm2 [] (wL K x ad1 (oMark σ (xs (i + 1)) (xs (i + 2))).2.2 us1 o f1 y b S1 G1) kPermM ?_
      exact kk ad1 (oMark σ (xs (i + 1)) (xs (i + 2))).2.2 us1 f1 S1 G1 (k9 + 2) (n9 + 12) (oMark_ok hσ (xs (i + 1)) (xs (i + 2))) hU1 hR1 (by omega) (by omega)
    · have h0 : (oMark σ (xs (i + 1)) (xs (i + 2))).1 = 0 := (kz_eq (oMark_le _ (xs (i + 1)) (xs (i + 2)))).mp c2
      have e1 := hf1 h0
      have e2 := hb1 h0
      refine k_aload_n hC 3 dL_law_413 rfl rfl ?_
      refine k_iconst hC (nI 0) dL_law_414 rfl ?_
      refine k_jald hC 22 rfl (by decide) (by decide) dL_law_415 ?_
      refine k_iload hC dL_law_416 rfl ?_
      refine k_i2l hC dL_law_418 ?_
      refine k_lcmp hC dL_law_419 ?_
      refine k_if_eq hC 425 dL_law_420 (by decide) (fun c3 => ?_) (fun c3 => ?_)
      · refine k_goto hC 1587 dL_law_425 (by decide) ?_
        refine k_lsub [0, 1, 2, 3, 4] [(0, .ref b0), (1, .ref x), (2, .ref y), (3, .ref o), (4, .int (nI i))] rfl ?_
        refine k_perm2 [] (wL K x ad1 (oMark σ (xs (i + 1)) (xs (i + 2))).2.2 us1 o f1 y b S1 G1) kPermM ?_
        exact kk ad1 (oMark σ (xs (i + 1)) (xs (i + 2))).2.2 us1 f1 S1 G1 (k9 + 2) (n9 + 12) (oMark_ok hσ (xs (i + 1)) (xs (i + 2))) hU1 hR1 (by omega) (by omega)
      · exact absurd (by rw [e1, ← e2]; exact lg_cmp_self _) c3
  · exact absurd rfl c1
set_option maxRecDepth 100000 in
set_option maxHeartbeats 4000000 in
theorem law_c4 {p : Program} {l : Launch} {e : Env} {s : State} {m : MethodId} {args : Array Value} {below : List Frame} {meth : Method} {cd : Code} {K : kE} {A : Nat → Prop} {Q : State → Prop} {b0 L : Nat} {xs : Nat → Int32} {x y o : Nat} {b : Nat → Nat} {i k9 n9 : Nat} (H0 : kHead p l s m args meth cd K A b0 L xs i k9 n9) (ad : Nat → Nat → Nat) (σ : mS) (us : Nat → Nat → Nat → Int32) (f : Nat → Int64) (S : Nat → Int32) (G : Nat → Nat → Int32) (hσ : mSok σ) (hU : mURT σ us) (hR : mRep σ S G) (kk : kCont p l e s m args below meth cd K A Q b0 x y o b i k9 n9) : kW p l e room_1 s m args below meth cd K A 7 Q k9 n9 [] (wL K x ad σ us o f y b S G) [(0, .ref b0), (1, .ref x), (2, .ref y), (3, .ref o), (4, .int (nI i))] 469 [] := by
  obtain ⟨hst, hC, hX0, hbl, hbA, hL, hiL, hk9, hn9⟩ := H0
  refine k_aload_n hC 1 dL_law_469 rfl rfl ?_
  refine k_aload_n hC 0 dL_law_470 rfl rfl ?_
  refine k_iload hC dL_law_471 rfl ?_
  refine k_iconst hC (nI 1) dL_law_473 rfl ?_
  refine k_iaddN hC dL_law_474 ?_
  refine k_sld hC hX0 hbl hbA (by omega) hL dL_law_475 ?_
  refine k_aload_n hC 3 dL_law_476 rfl rfl ?_
  refine k_callXH hC (As := [.ref x, .int (xs (i + 1)), .ref o]) (cL_demand_k hst K x ad σ us hσ hU o f (xs (i + 1))) (wM K y b S G) rfl (kAll4 lkM_L_108 lkT_yL_demand lkN_L lkC_yL_demand) 3 (by decide) ⟨(Nat.le_of_ble_eq_true rfl), (Nat.le_of_ble_eq_true rfl)⟩ rfl rfl (Nat.le_of_ble_eq_true rfl) ⟨by show k9 + 1 ≤ 646352; omega, by show n9 + 6 ≤ 7157049; omega⟩ dL_law_477 (fun v w h => ?_)
  obtain ⟨rfl, ad1, us1, f1, rfl, hU1, hf1⟩ := h
  refine k_re (k9 + 1) (n9 + 6) ((wL K x ad1 (oDemand σ (xs (i + 1))).2.2 us1 o f1 y b S G)) [.int (nI ((oDemand σ (xs (i + 1))).1))] rfl rfl rfl rfl ?_
  refine k_perm2 [] (wM K y b S G ++ ([kJ K o 1 f1] ++ wX K x ad1 (oDemand σ (xs (i + 1))).2.2 us1)) kPermL ?_
  refine k_istore hC dL_law_480 (by decide) rfl [(0, .ref b0), (1, .ref x), (2, .ref y), (3, .ref o), (4, .int (nI i)), (5, .int (nI ((oDemand σ (xs (i + 1))).1)))] rfl ?_
  refine k_aload_n hC 2 dL_law_482 rfl rfl ?_
  refine k_aload_n hC 0 dL_law_483 rfl rfl ?_
  refine k_iload hC dL_law_484 rfl ?_
  refine k_iconst hC (nI 1) dL_law_486 rfl ?_
  refine k_iaddN hC dL_law_487 ?_
  refine k_sld hC hX0 hbl hbA (by omega) hL dL_law_488 ?_
  refine k_callV hC (As := [.int (xs (i + 1))]) (cX4_demand_k l K y b S G σ hσ hR (xs (i + 1))) ([kJ K o 1 f1] ++ wX K x ad1 (oDemand σ (xs (i + 1))).2.2 us1) rfl 0 rfl rfl (kAll5 lkM_L_111 lkI_yX4_demand lkS_yX4_demand lkN_X4 lkC_yX4_demand) 1 (by decide) ⟨(Nat.le_of_ble_eq_true rfl), (Nat.le_of_ble_eq_true rfl)⟩ rfl rfl (Nat.le_of_ble_eq_true rfl) ⟨by show k9 + 1 + 0 ≤ 646352; omega, by show n9 + 6 + 0 ≤ 7157049; omega⟩ dL_law_489 (fun v w h => ?_)
  obtain ⟨S1, G1, b9, rfl, rfl, hc1, hb1, hR1⟩ := h
  refine k_re (k9 + 1) (n9 + 6) ((wM K y b S1 G1 ++ ([kJ K o 1 f1] ++ wX K x ad1 (oDemand σ (xs (i + 1))).2.2 us1))) [.int b9] rfl rfl rfl rfl ?_
  refine k_istore hC dL_law_492 (by decide) rfl [(0, .ref b0), (1, .ref x), (2, .ref y), (3, .ref o), (4, .int (nI i)), (5, .int (nI ((oDemand σ (xs (i + 1))).1))), (6, .int b9)] rfl ?_
  refine k_aload_n hC 2 dL_law_494 rfl rfl ?_
  refine k_callV hC (As := []) (cX4_thrown_k l K y b S1 G1) ([kJ K o 1 f1] ++ wX K x ad1 (oDemand σ (xs (i + 1))).2.2 us1) rfl 0 rfl rfl (kAll5 lkM_L_92 lkI_yX4_thrown lkS_yX4_thrown lkN_X4 lkC_yX4_thrown) 0 (by decide) ⟨(Nat.le_of_ble_eq_true rfl), (Nat.le_of_ble_eq_true rfl)⟩ rfl rfl (Nat.le_of_ble_eq_true rfl) ⟨by show k9 + 1 + 0 ≤ 646352; omega, by show n9 + 6 + 0 ≤ 7157049; omega⟩ dL_law_495 (fun v w h => ?_)
  obtain ⟨rfl, rfl⟩ := h
  refine k_re (k9 + 1) (n9 + 6) ((wM K y b S1 G1 ++ ([kJ K o 1 f1] ++ wX K x ad1 (oDemand σ (xs (i + 1))).2.2 us1))) [.int (S1 0)] rfl rfl rfl rfl ?_
  refine k_topE (nI (oDemand σ (xs (i + 1))).1) hc1 ?_
  refine k_iload hC dL_law_498 rfl ?_
  refine k_icmp_eq hC 505 dL_law_500 (by decide) (fun c1 => ?_) (fun c1 => ?_)
  · refine k_iload hC dL_law_505 rfl ?_
    refine k_if_ne hC 522 dL_law_507 (by decide) (fun c2 => ?_) (fun c2 => ?_)
    · refine k_goto hC 1587 dL_law_522 (by decide) ?_
      refine k_lsub [0, 1, 2, 3, 4] [(0, .ref b0), (1, .ref x), (2, .ref y), (3, .ref o), (4, .int (nI i))] rfl ?_
      refine k_perm2 [] (wL K x ad1 (oDemand σ (xs (i + 1))).2.2 us1 o f1 y b S1 G1) kPermM ?_
      exact kk ad1 (oDemand σ (xs (i + 1))).2.2 us1 f1 S1 G1 (k9 + 1) (n9 + 6) (oDemand_ok hσ (xs (i + 1))) hU1 hR1 (by omega) (by omega)
    · have h0 : (oDemand σ (xs (i + 1))).1 = 0 := (kz_eq (oDemand_le _ (xs (i + 1)))).mp c2
      have e1 := hf1 h0
      have e2 := hb1 h0
      refine k_aload_n hC 3 dL_law_510 rfl rfl ?_
      refine k_iconst hC (nI 0) dL_law_511 rfl ?_
      refine k_jald hC 22 rfl (by decide) (by decide) dL_law_512 ?_
      refine k_iload hC dL_law_513 rfl ?_
      refine k_i2l hC dL_law_515 ?_
      refine k_lcmp hC dL_law_516 ?_
      refine k_if_eq hC 522 dL_law_517 (by decide) (fun c3 => ?_) (fun c3 => ?_)
      · refine k_goto hC 1587 dL_law_522 (by decide) ?_
        refine k_lsub [0, 1, 2, 3, 4] [(0, .ref b0), (1, .ref x), (2, .ref y), (3, .ref o), (4, .int (nI i))] rfl ?_
        refine k_perm2 [] (wL K x ad1 (oDemand σ (xs (i + 1))).2.2 us1 o f1 y b S1 G1) kPermM ?_
        exact kk ad1 (oDemand σ (xs (i + 1))).2.2 us1 f1 S1 G1 (k9 + 1) (n9 + 6) (oDemand_ok hσ (xs (i + 1))) hU1 hR1 (by omega) (by omega)
      · exact absurd (by rw [e1, ← e2]; exact lg_cmp_self _) c3
  · exact absurd rfl c1
set_option maxRecDepth 100000 in
set_option maxHeartbeats 4000000 in
theorem law_c5 {p : Program} {l : Launch} {e : Env} {s : State} {m : MethodId} {args : Array Value} {below : List Frame} {meth : Method} {cd : Code} {K : kE} {A : Nat → Prop} {Q : State → Prop} {b0 L : Nat} {xs : Nat → Int32} {x y o : Nat} {b : Nat → Nat} {i k9 n9 : Nat} (H0 : kHead p l s m args meth cd K A b0 L xs i k9 n9) (ad : Nat → Nat → Nat) (σ : mS) (us : Nat → Nat → Nat → Int32) (f : Nat → Int64) (S : Nat → Int32) (G : Nat → Nat → Int32) (hσ : mSok σ) (hU : mURT σ us) (hR : mRep σ S G) (kk : kCont p l e s m args below meth cd K A Q b0 x y o b i k9 n9) : kW p l e room_1 s m args below meth cd K A 7 Q k9 n9 [] (wL K x ad σ us o f y b S G) [(0, .ref b0), (1, .ref x), (2, .ref y), (3, .ref o), (4, .int (nI i))] 525 [] := by
  obtain ⟨hst, hC, hX0, hbl, hbA, hL, hiL, hk9, hn9⟩ := H0
  refine k_aload_n hC 1 dL_law_525 rfl rfl ?_
  refine k_aload_n hC 0 dL_law_526 rfl rfl ?_
  refine k_iload hC dL_law_527 rfl ?_
  refine k_iconst hC (nI 1) dL_law_529 rfl ?_
  refine k_iaddN hC dL_law_530 ?_
  refine k_sld hC hX0 hbl hbA (by omega) hL dL_law_531 ?_
  refine k_aload_n hC 3 dL_law_532 rfl rfl ?_
  refine k_callXH hC (As := [.ref x, .int (xs (i + 1)), .ref o]) (cL_stop_k hst K x ad σ us hσ hU o f (xs (i + 1))) (wM K y b S G) rfl (kAll4 lkM_L_112 lkT_yL_stop lkN_L lkC_yL_stop) 3 (by decide) ⟨(Nat.le_of_ble_eq_true rfl), (Nat.le_of_ble_eq_true rfl)⟩ rfl rfl (Nat.le_of_ble_eq_true rfl) ⟨by show k9 + 1 ≤ 646352; omega, by show n9 + 6 ≤ 7157049; omega⟩ dL_law_533 (fun v w h => ?_)
  obtain ⟨rfl, ad1, us1, f1, rfl, hU1, hf1⟩ := h
  refine k_re (k9 + 1) (n9 + 6) ((wL K x ad1 (oStop σ (xs (i + 1))).2.2 us1 o f1 y b S G)) [.int (nI ((oStop σ (xs (i + 1))).1))] rfl rfl rfl rfl ?_
  refine k_perm2 [] (wM K y b S G ++ ([kJ K o 1 f1] ++ wX K x ad1 (oStop σ (xs (i + 1))).2.2 us1)) kPermL ?_
  refine k_istore hC dL_law_536 (by decide) rfl [(0, .ref b0), (1, .ref x), (2, .ref y), (3, .ref o), (4, .int (nI i)), (5, .int (nI ((oStop σ (xs (i + 1))).1)))] rfl ?_
  refine k_aload_n hC 2 dL_law_538 rfl rfl ?_
  refine k_aload_n hC 0 dL_law_539 rfl rfl ?_
  refine k_iload hC dL_law_540 rfl ?_
  refine k_iconst hC (nI 1) dL_law_542 rfl ?_
  refine k_iaddN hC dL_law_543 ?_
  refine k_sld hC hX0 hbl hbA (by omega) hL dL_law_544 ?_
  refine k_callV hC (As := [.int (xs (i + 1))]) (cX4_stop_k l K y b S G σ hσ hR (xs (i + 1))) ([kJ K o 1 f1] ++ wX K x ad1 (oStop σ (xs (i + 1))).2.2 us1) rfl 0 rfl rfl (kAll5 lkM_L_114 lkI_yX4_stop lkS_yX4_stop lkN_X4 lkC_yX4_stop) 1 (by decide) ⟨(Nat.le_of_ble_eq_true rfl), (Nat.le_of_ble_eq_true rfl)⟩ rfl rfl (Nat.le_of_ble_eq_true rfl) ⟨by show k9 + 1 + 0 ≤ 646352; omega, by show n9 + 6 + 0 ≤ 7157049; omega⟩ dL_law_545 (fun v w h => ?_)
  obtain ⟨S1, G1, b9, rfl, rfl, hc1, hb1, hR1⟩ := h
  refine k_re (k9 + 1) (n9 + 6) ((wM K y b S1 G1 ++ ([kJ K o 1 f1] ++ wX K x ad1 (oStop σ (xs (i + 1))).2.2 us1))) [.int b9] rfl rfl rfl rfl ?_
  refine k_istore hC dL_law_548 (by decide) rfl [(0, .ref b0), (1, .ref x), (2, .ref y), (3, .ref o), (4, .int (nI i)), (5, .int (nI ((oStop σ (xs (i + 1))).1))), (6, .int b9)] rfl ?_
  refine k_aload_n hC 2 dL_law_550 rfl rfl ?_
  refine k_callV hC (As := []) (cX4_thrown_k l K y b S1 G1) ([kJ K o 1 f1] ++ wX K x ad1 (oStop σ (xs (i + 1))).2.2 us1) rfl 0 rfl rfl (kAll5 lkM_L_92 lkI_yX4_thrown lkS_yX4_thrown lkN_X4 lkC_yX4_thrown) 0 (by decide) ⟨(Nat.le_of_ble_eq_true rfl), (Nat.le_of_ble_eq_true rfl)⟩ rfl rfl (Nat.le_of_ble_eq_true rfl) ⟨by show k9 + 1 + 0 ≤ 646352; omega, by show n9 + 6 + 0 ≤ 7157049; omega⟩ dL_law_551 (fun v w h => ?_)
  obtain ⟨rfl, rfl⟩ := h
  refine k_re (k9 + 1) (n9 + 6) ((wM K y b S1 G1 ++ ([kJ K o 1 f1] ++ wX K x ad1 (oStop σ (xs (i + 1))).2.2 us1))) [.int (S1 0)] rfl rfl rfl rfl ?_
  refine k_topE (nI (oStop σ (xs (i + 1))).1) hc1 ?_
  refine k_iload hC dL_law_554 rfl ?_
  refine k_icmp_eq hC 561 dL_law_556 (by decide) (fun c1 => ?_) (fun c1 => ?_)
  · refine k_iload hC dL_law_561 rfl ?_
    refine k_if_ne hC 585 dL_law_563 (by decide) (fun c2 => ?_) (fun c2 => ?_)
    · refine k_goto hC 1587 dL_law_585 (by decide) ?_
      refine k_lsub [0, 1, 2, 3, 4] [(0, .ref b0), (1, .ref x), (2, .ref y), (3, .ref o), (4, .int (nI i))] rfl ?_
      refine k_perm2 [] (wL K x ad1 (oStop σ (xs (i + 1))).2.2 us1 o f1 y b S1 G1) kPermM ?_
      exact kk ad1 (oStop σ (xs (i + 1))).2.2 us1 f1 S1 G1 (k9 + 1) (n9 + 6) (oStop_ok hσ (xs (i + 1))) hU1 hR1 (by omega) (by omega)
    · have h0 : (oStop σ (xs (i + 1))).1 = 0 := (kz_eq (oStop_le _ (xs (i + 1)))).mp c2
      have e1 := hf1 h0
      have e2 := hb1 h0
      refine k_aload_n hC 3 dL_law_566 rfl rfl ?_
      refine k_iconst hC (nI 0) dL_law_567 rfl ?_
      refine k_jald hC 22 rfl (by decide) (by decide) dL_law_568 ?_
      refine k_iload hC dL_law_569 rfl ?_
      refine k_if_eq hC 578 dL_law_571 (by decide) (fun c4 => ?_) (fun c4 => ?_)
      · refine k_lconst hC (Int64.ofNat 0) dL_law_578 rfl ?_
        refine k_lcmp hC dL_law_579 ?_
        refine k_if_eq hC 585 dL_law_580 (by decide) (fun c3 => ?_) (fun c3 => ?_)
        · refine k_goto hC 1587 dL_law_585 (by decide) ?_
          refine k_lsub [0, 1, 2, 3, 4] [(0, .ref b0), (1, .ref x), (2, .ref y), (3, .ref o), (4, .int (nI i))] rfl ?_
          refine k_perm2 [] (wL K x ad1 (oStop σ (xs (i + 1))).2.2 us1 o f1 y b S1 G1) kPermM ?_
          exact kk ad1 (oStop σ (xs (i + 1))).2.2 us1 f1 S1 G1 (k9 + 1) (n9 + 6) (oStop_ok hσ (xs (i + 1))) hU1 hR1 (by omega) (by omega)
        · exact absurd (by rw [e1, ← e2, c4]; exact lg_cmp_self _) c3
      · refine k_lconst hC (Int64.ofNat 1) dL_law_574 rfl ?_
        refine k_goto hC 579 dL_law_575 (by decide) ?_
        refine k_lcmp hC dL_law_579 ?_
        have e4 : lg_cmp (f1 0) (Int64.ofNat 1) = 0 := by
          rw [e1]
          rcases oStop_01 σ (xs (i + 1)) h0 with q | q
          · exact absurd (e2.trans q) c4
          · rw [q]; exact lg_cmp_self _
        refine k_if_eq hC 585 dL_law_580 (by decide) (fun c3 => ?_) (fun c3 => ?_)
        · refine k_goto hC 1587 dL_law_585 (by decide) ?_
          refine k_lsub [0, 1, 2, 3, 4] [(0, .ref b0), (1, .ref x), (2, .ref y), (3, .ref o), (4, .int (nI i))] rfl ?_
          refine k_perm2 [] (wL K x ad1 (oStop σ (xs (i + 1))).2.2 us1 o f1 y b S1 G1) kPermM ?_
          exact kk ad1 (oStop σ (xs (i + 1))).2.2 us1 f1 S1 G1 (k9 + 1) (n9 + 6) (oStop_ok hσ (xs (i + 1))) hU1 hR1 (by omega) (by omega)
        · exact absurd e4 c3
  · exact absurd rfl c1
set_option maxRecDepth 100000 in
set_option maxHeartbeats 4000000 in
theorem law_c6 {p : Program} {l : Launch} {e : Env} {s : State} {m : MethodId} {args : Array Value} {below : List Frame} {meth : Method} {cd : Code} {K : kE} {A : Nat → Prop} {Q : State → Prop} {b0 L : Nat} {xs : Nat → Int32} {x y o : Nat} {b : Nat → Nat} {i k9 n9 : Nat} (H0 : kHead p l s m args meth cd K A b0 L xs i k9 n9) (ad : Nat → Nat → Nat) (σ : mS) (us : Nat → Nat → Nat → Int32) (f : Nat → Int64) (S : Nat → Int32) (G : Nat → Nat → Int32) (hσ : mSok σ) (hU : mURT σ us) (hR : mRep σ S G) (kk : kCont p l e s m args below meth cd K A Q b0 x y o b i k9 n9) : kW p l e room_1 s m args below meth cd K A 7 Q k9 n9 [] (wL K x ad σ us o f y b S G) [(0, .ref b0), (1, .ref x), (2, .ref y), (3, .ref o), (4, .int (nI i))] 588 [] := by
  obtain ⟨hst, hC, hX0, hbl, hbA, hL, hiL, hk9, hn9⟩ := H0
  refine k_aload_n hC 1 dL_law_588 rfl rfl ?_
  refine k_aload_n hC 0 dL_law_589 rfl rfl ?_
  refine k_iload hC dL_law_590 rfl ?_
  refine k_iconst hC (nI 1) dL_law_592 rfl ?_
  refine k_iaddN hC dL_law_593 ?_
  refine k_sld hC hX0 hbl hbA (by omega) hL dL_law_594 ?_
  refine k_aload_n hC 3 dL_law_595 rfl rfl ?_
  refine k_callXH hC (As := [.ref x, .int (xs (i + 1)), .ref o]) (cL_issue_k hst K x ad σ us hσ hU o f (xs (i + 1))) (wM K y b S G) rfl (kAll4 lkM_L_115 lkT_yL_issue lkN_L lkC_yL_issue) 3 (by decide) ⟨(Nat.le_of_ble_eq_true rfl), (Nat.le_of_ble_eq_true rfl)⟩ rfl rfl (Nat.le_of_ble_eq_true rfl) ⟨by show k9 + 2 ≤ 646352; omega, by show n9 + 12 ≤ 7157049; omega⟩ dL_law_596 (fun v w h => ?_)
  obtain ⟨rfl, ad1, us1, f1, rfl, hU1, hf1⟩ := h
  refine k_re (k9 + 2) (n9 + 12) ((wL K x ad1 (oIssue σ (xs (i + 1))).2.2 us1 o f1 y b S G)) [.int (nI ((oIssue σ (xs (i + 1))).1))] rfl rfl rfl rfl ?_
  refine k_perm2 [] (wM K y b S G ++ ([kJ K o 1 f1] ++ wX K x ad1 (oIssue σ (xs (i + 1))).2.2 us1)) kPermL ?_
  refine k_istore hC dL_law_599 (by decide) rfl [(0, .ref b0), (1, .ref x), (2, .ref y), (3, .ref o), (4, .int (nI i)), (5, .int (nI ((oIssue σ (xs (i + 1))).1)))] rfl ?_
  refine k_aload_n hC 2 dL_law_601 rfl rfl ?_
  refine k_aload_n hC 0 dL_law_602 rfl rfl ?_
  refine k_iload hC dL_law_603 rfl ?_
  refine k_iconst hC (nI 1) dL_law_605 rfl ?_
  refine k_iaddN hC dL_law_606 ?_
  refine k_sld hC hX0 hbl hbA (by omega) hL dL_law_607 ?_
  refine k_callV hC (As := [.int (xs (i + 1))]) (cX4_issue_k l K y b S G σ hσ hR (xs (i + 1))) ([kJ K o 1 f1] ++ wX K x ad1 (oIssue σ (xs (i + 1))).2.2 us1) rfl 0 rfl rfl (kAll5 lkM_L_117 lkI_yX4_issue lkS_yX4_issue lkN_X4 lkC_yX4_issue) 1 (by decide) ⟨(Nat.le_of_ble_eq_true rfl), (Nat.le_of_ble_eq_true rfl)⟩ rfl rfl (Nat.le_of_ble_eq_true rfl) ⟨by show k9 + 2 + 0 ≤ 646352; omega, by show n9 + 12 + 0 ≤ 7157049; omega⟩ dL_law_608 (fun v w h => ?_)
  obtain ⟨S1, G1, b9, rfl, rfl, hc1, hb1, hR1⟩ := h
  refine k_re (k9 + 2) (n9 + 12) ((wM K y b S1 G1 ++ ([kJ K o 1 f1] ++ wX K x ad1 (oIssue σ (xs (i + 1))).2.2 us1))) [.int b9] rfl rfl rfl rfl ?_
  refine k_istore hC dL_law_611 (by decide) rfl [(0, .ref b0), (1, .ref x), (2, .ref y), (3, .ref o), (4, .int (nI i)), (5, .int (nI ((oIssue σ (xs (i + 1))).1))), (6, .int b9)] rfl ?_
  refine k_aload_n hC 2 dL_law_613 rfl rfl ?_
  refine k_callV hC (As := []) (cX4_thrown_k l K y b S1 G1) ([kJ K o 1 f1] ++ wX K x ad1 (oIssue σ (xs (i + 1))).2.2 us1) rfl 0 rfl rfl (kAll5 lkM_L_92 lkI_yX4_thrown lkS_yX4_thrown lkN_X4 lkC_yX4_thrown) 0 (by decide) ⟨(Nat.le_of_ble_eq_true rfl), (Nat.le_of_ble_eq_true rfl)⟩ rfl rfl (Nat.le_of_ble_eq_true rfl) ⟨by show k9 + 2 + 0 ≤ 646352; omega, by show n9 + 12 + 0 ≤ 7157049; omega⟩ dL_law_614 (fun v w h => ?_)
  obtain ⟨rfl, rfl⟩ := h
  refine k_re (k9 + 2) (n9 + 12) ((wM K y b S1 G1 ++ ([kJ K o 1 f1] ++ wX K x ad1 (oIssue σ (xs (i + 1))).2.2 us1))) [.int (S1 0)] rfl rfl rfl rfl ?_
  refine k_topE (nI (oIssue σ (xs (i + 1))).1) hc1 ?_
  refine k_iload hC dL_law_617 rfl ?_
  refine k_icmp_eq hC 624 dL_law_619 (by decide) (fun c1 => ?_) (fun c1 => ?_)
  · refine k_iload hC dL_law_624 rfl ?_
    refine k_if_ne hC 641 dL_law_626 (by decide) (fun c2 => ?_) (fun c2 => ?_)
    · refine k_goto hC 1587 dL_law_641 (by decide) ?_
      refine k_lsub [0, 1, 2, 3, 4] [(0, .ref b0), (1, .ref x), (2, .ref y), (3, .ref o), (4, .int (nI i))] rfl ?_
      refine k_perm2 [] (wL K x ad1 (oIssue σ (xs (i + 1))).2.2 us1 o f1 y b S1 G1) kPermM ?_
      exact kk ad1 (oIssue σ (xs (i + 1))).2.2 us1 f1 S1 G1 (k9 + 2) (n9 + 12) (oIssue_ok hσ (xs (i + 1))) hU1 hR1 (by omega) (by omega)
    · have h0 : (oIssue σ (xs (i + 1))).1 = 0 := (kz_eq (oIssue_le _ (xs (i + 1)))).mp c2
      have e1 := hf1 h0
      have e2 := hb1 h0
      refine k_aload_n hC 3 dL_law_629 rfl rfl ?_
      refine k_iconst hC (nI 0) dL_law_630 rfl ?_
      refine k_jald hC 22 rfl (by decide) (by decide) dL_law_631 ?_
      refine k_iload hC dL_law_632 rfl ?_
      refine k_i2l hC dL_law_634 ?_
      refine k_lcmp hC dL_law_635 ?_
      refine k_if_eq hC 641 dL_law_636 (by decide) (fun c3 => ?_) (fun c3 => ?_)
      · refine k_goto hC 1587 dL_law_641 (by decide) ?_
        refine k_lsub [0, 1, 2, 3, 4] [(0, .ref b0), (1, .ref x), (2, .ref y), (3, .ref o), (4, .int (nI i))] rfl ?_
        refine k_perm2 [] (wL K x ad1 (oIssue σ (xs (i + 1))).2.2 us1 o f1 y b S1 G1) kPermM ?_
        exact kk ad1 (oIssue σ (xs (i + 1))).2.2 us1 f1 S1 G1 (k9 + 2) (n9 + 12) (oIssue_ok hσ (xs (i + 1))) hU1 hR1 (by omega) (by omega)
      · exact absurd (by rw [e1, ← e2]; exact lg_cmp_self _) c3
  · exact absurd rfl c1
set_option maxRecDepth 100000 in
set_option maxHeartbeats 4000000 in
theorem law_c7 {p : Program} {l : Launch} {e : Env} {s : State} {m : MethodId} {args : Array Value} {below : List Frame} {meth : Method} {cd : Code} {K : kE} {A : Nat → Prop} {Q : State → Prop} {b0 L : Nat} {xs : Nat → Int32} {x y o : Nat} {b : Nat → Nat} {i k9 n9 : Nat} (H0 : kHead p l s m args meth cd K A b0 L xs i k9 n9) (ad : Nat → Nat → Nat) (σ : mS) (us : Nat → Nat → Nat → Int32) (f : Nat → Int64) (S : Nat → Int32) (G : Nat → Nat → Int32) (hσ : mSok σ) (hU : mURT σ us) (hR : mRep σ S G) (kk : kCont p l e s m args below meth cd K A Q b0 x y o b i k9 n9) : kW p l e room_1 s m args below meth cd K A 7 Q k9 n9 [] (wL K x ad σ us o f y b S G) [(0, .ref b0), (1, .ref x), (2, .ref y), (3, .ref o), (4, .int (nI i))] 644 [] := by
  obtain ⟨hst, hC, hX0, hbl, hbA, hL, hiL, hk9, hn9⟩ := H0
  refine k_aload_n hC 1 dL_law_644 rfl rfl ?_
  refine k_aload_n hC 0 dL_law_645 rfl rfl ?_
  refine k_iload hC dL_law_646 rfl ?_
  refine k_iconst hC (nI 1) dL_law_648 rfl ?_
  refine k_iaddN hC dL_law_649 ?_
  refine k_sld hC hX0 hbl hbA (by omega) hL dL_law_650 ?_
  refine k_aload_n hC 3 dL_law_651 rfl rfl ?_
  refine k_callXH hC (As := [.ref x, .int (xs (i + 1)), .ref o]) (cL_retire_k hst K x ad σ us hσ hU o f (xs (i + 1))) (wM K y b S G) rfl (kAll4 lkM_L_118 lkT_yL_retire lkN_L lkC_yL_retire) 3 (by decide) ⟨(Nat.le_of_ble_eq_true rfl), (Nat.le_of_ble_eq_true rfl)⟩ rfl rfl (Nat.le_of_ble_eq_true rfl) ⟨by show k9 + 2 ≤ 646352; omega, by show n9 + 12 ≤ 7157049; omega⟩ dL_law_652 (fun v w h => ?_)
  obtain ⟨rfl, ad1, us1, f1, rfl, hU1, hf1⟩ := h
  refine k_re (k9 + 2) (n9 + 12) ((wL K x ad1 (oRetire σ (xs (i + 1))).2.2 us1 o f1 y b S G)) [.int (nI ((oRetire σ (xs (i + 1))).1))] rfl rfl rfl rfl ?_
  refine k_perm2 [] (wM K y b S G ++ ([kJ K o 1 f1] ++ wX K x ad1 (oRetire σ (xs (i + 1))).2.2 us1)) kPermL ?_
  refine k_istore hC dL_law_655 (by decide) rfl [(0, .ref b0), (1, .ref x), (2, .ref y), (3, .ref o), (4, .int (nI i)), (5, .int (nI ((oRetire σ (xs (i + 1))).1)))] rfl ?_
  refine k_aload_n hC 2 dL_law_657 rfl rfl ?_
  refine k_aload_n hC 0 dL_law_658 rfl rfl ?_
  refine k_iload hC dL_law_659 rfl ?_
  refine k_iconst hC (nI 1) dL_law_661 rfl ?_
  refine k_iaddN hC dL_law_662 ?_
  refine k_sld hC hX0 hbl hbA (by omega) hL dL_law_663 ?_
  refine k_callV hC (As := [.int (xs (i + 1))]) (cX4_retire_k l K y b S G σ hσ hR (xs (i + 1))) ([kJ K o 1 f1] ++ wX K x ad1 (oRetire σ (xs (i + 1))).2.2 us1) rfl 0 rfl rfl (kAll5 lkM_L_120 lkI_yX4_retire lkS_yX4_retire lkN_X4 lkC_yX4_retire) 1 (by decide) ⟨(Nat.le_of_ble_eq_true rfl), (Nat.le_of_ble_eq_true rfl)⟩ rfl rfl (Nat.le_of_ble_eq_true rfl) ⟨by show k9 + 2 + 0 ≤ 646352; omega, by show n9 + 12 + 0 ≤ 7157049; omega⟩ dL_law_664 (fun v w h => ?_)
  obtain ⟨S1, G1, b9, rfl, rfl, hc1, hb1, hR1⟩ := h
  refine k_re (k9 + 2) (n9 + 12) ((wM K y b S1 G1 ++ ([kJ K o 1 f1] ++ wX K x ad1 (oRetire σ (xs (i + 1))).2.2 us1))) [.int b9] rfl rfl rfl rfl ?_
  refine k_istore hC dL_law_667 (by decide) rfl [(0, .ref b0), (1, .ref x), (2, .ref y), (3, .ref o), (4, .int (nI i)), (5, .int (nI ((oRetire σ (xs (i + 1))).1))), (6, .int b9)] rfl ?_
  refine k_aload_n hC 2 dL_law_669 rfl rfl ?_
  refine k_callV hC (As := []) (cX4_thrown_k l K y b S1 G1) ([kJ K o 1 f1] ++ wX K x ad1 (oRetire σ (xs (i + 1))).2.2 us1) rfl 0 rfl rfl (kAll5 lkM_L_92 lkI_yX4_thrown lkS_yX4_thrown lkN_X4 lkC_yX4_thrown) 0 (by decide) ⟨(Nat.le_of_ble_eq_true rfl), (Nat.le_of_ble_eq_true rfl)⟩ rfl rfl (Nat.le_of_ble_eq_true rfl) ⟨by show k9 + 2 + 0 ≤ 646352; omega, by show n9 + 12 + 0 ≤ 7157049; omega⟩ dL_law_670 (fun v w h => ?_)
  obtain ⟨rfl, rfl⟩ := h
  refine k_re (k9 + 2) (n9 + 12) ((wM K y b S1 G1 ++ ([kJ K o 1 f1] ++ wX K x ad1 (oRetire σ (xs (i + 1))).2.2 us1))) [.int (S1 0)] rfl rfl rfl rfl ?_
  refine k_topE (nI (oRetire σ (xs (i + 1))).1) hc1 ?_
  refine k_iload hC dL_law_673 rfl ?_
  refine k_icmp_eq hC 680 dL_law_675 (by decide) (fun c1 => ?_) (fun c1 => ?_)
  · refine k_iload hC dL_law_680 rfl ?_
    refine k_if_ne hC 697 dL_law_682 (by decide) (fun c2 => ?_) (fun c2 => ?_)
    · refine k_goto hC 1587 dL_law_697 (by decide) ?_
      refine k_lsub [0, 1, 2, 3, 4] [(0, .ref b0), (1, .ref x), (2, .ref y), (3, .ref o), (4, .int (nI i))] rfl ?_
      refine k_perm2 [] (wL K x ad1 (oRetire σ (xs (i + 1))).2.2 us1 o f1 y b S1 G1) kPermM ?_
      exact kk ad1 (oRetire σ (xs (i + 1))).2.2 us1 f1 S1 G1 (k9 + 2) (n9 + 12) (oRetire_ok hσ (xs (i + 1))) hU1 hR1 (by omega) (by omega)
    · have h0 : (oRetire σ (xs (i + 1))).1 = 0 := (kz_eq (oRetire_le _ (xs (i + 1)))).mp c2
      have e1 := hf1 h0
      have e2 := hb1 h0
      refine k_aload_n hC 3 dL_law_685 rfl rfl ?_
      refine k_iconst hC (nI 0) dL_law_686 rfl ?_
      refine k_jald hC 22 rfl (by decide) (by decide) dL_law_687 ?_
      refine k_iload hC dL_law_688 rfl ?_
      refine k_i2l hC dL_law_690 ?_
      refine k_lcmp hC dL_law_691 ?_
      refine k_if_eq hC 697 dL_law_692 (by decide) (fun c3 => ?_) (fun c3 => ?_)
      · refine k_goto hC 1587 dL_law_697 (by decide) ?_
        refine k_lsub [0, 1, 2, 3, 4] [(0, .ref b0), (1, .ref x), (2, .ref y), (3, .ref o), (4, .int (nI i))] rfl ?_
        refine k_perm2 [] (wL K x ad1 (oRetire σ (xs (i + 1))).2.2 us1 o f1 y b S1 G1) kPermM ?_
        exact kk ad1 (oRetire σ (xs (i + 1))).2.2 us1 f1 S1 G1 (k9 + 2) (n9 + 12) (oRetire_ok hσ (xs (i + 1))) hU1 hR1 (by omega) (by omega)
      · exact absurd (by rw [e1, ← e2]; exact lg_cmp_self _) c3
  · exact absurd rfl c1
set_option maxRecDepth 100000 in
set_option maxHeartbeats 4000000 in
theorem law_c8 {p : Program} {l : Launch} {e : Env} {s : State} {m : MethodId} {args : Array Value} {below : List Frame} {meth : Method} {cd : Code} {K : kE} {A : Nat → Prop} {Q : State → Prop} {b0 L : Nat} {xs : Nat → Int32} {x y o : Nat} {b : Nat → Nat} {i k9 n9 : Nat} (H0 : kHead p l s m args meth cd K A b0 L xs i k9 n9) (ad : Nat → Nat → Nat) (σ : mS) (us : Nat → Nat → Nat → Int32) (f : Nat → Int64) (S : Nat → Int32) (G : Nat → Nat → Int32) (hσ : mSok σ) (hU : mURT σ us) (hR : mRep σ S G) (kk : kCont p l e s m args below meth cd K A Q b0 x y o b i k9 n9) : kW p l e room_1 s m args below meth cd K A 7 Q k9 n9 [] (wL K x ad σ us o f y b S G) [(0, .ref b0), (1, .ref x), (2, .ref y), (3, .ref o), (4, .int (nI i))] 700 [] := by
  obtain ⟨hst, hC, hX0, hbl, hbA, hL, hiL, hk9, hn9⟩ := H0
  refine k_aload_n hC 1 dL_law_700 rfl rfl ?_
  refine k_aload_n hC 0 dL_law_701 rfl rfl ?_
  refine k_iload hC dL_law_702 rfl ?_
  refine k_iconst hC (nI 1) dL_law_704 rfl ?_
  refine k_iaddN hC dL_law_705 ?_
  refine k_sld hC hX0 hbl hbA (by omega) hL dL_law_706 ?_
  refine k_aload_n hC 3 dL_law_707 rfl rfl ?_
  refine k_callXH hC (As := [.ref x, .int (xs (i + 1)), .ref o]) (cL_issueConveyance_k hst K x ad σ us hσ hU o f (xs (i + 1))) (wM K y b S G) rfl (kAll4 lkM_L_121 lkT_yL_issueConveyance lkN_L lkC_yL_issueConveyance) 3 (by decide) ⟨(Nat.le_of_ble_eq_true rfl), (Nat.le_of_ble_eq_true rfl)⟩ rfl rfl (Nat.le_of_ble_eq_true rfl) ⟨by show k9 + 3 ≤ 646352; omega, by show n9 + 18 ≤ 7157049; omega⟩ dL_law_708 (fun v w h => ?_)
  obtain ⟨rfl, ad1, us1, f1, rfl, hU1, hf1⟩ := h
  refine k_re (k9 + 3) (n9 + 18) ((wL K x ad1 (oIssueC σ (xs (i + 1))).2.2 us1 o f1 y b S G)) [.int (nI ((oIssueC σ (xs (i + 1))).1))] rfl rfl rfl rfl ?_
  refine k_perm2 [] (wM K y b S G ++ ([kJ K o 1 f1] ++ wX K x ad1 (oIssueC σ (xs (i + 1))).2.2 us1)) kPermL ?_
  refine k_istore hC dL_law_711 (by decide) rfl [(0, .ref b0), (1, .ref x), (2, .ref y), (3, .ref o), (4, .int (nI i)), (5, .int (nI ((oIssueC σ (xs (i + 1))).1)))] rfl ?_
  refine k_aload_n hC 2 dL_law_713 rfl rfl ?_
  refine k_aload_n hC 0 dL_law_714 rfl rfl ?_
  refine k_iload hC dL_law_715 rfl ?_
  refine k_iconst hC (nI 1) dL_law_717 rfl ?_
  refine k_iaddN hC dL_law_718 ?_
  refine k_sld hC hX0 hbl hbA (by omega) hL dL_law_719 ?_
  refine k_callV hC (As := [.int (xs (i + 1))]) (cX4_issueConveyance_k l K y b S G σ hσ hR (xs (i + 1))) ([kJ K o 1 f1] ++ wX K x ad1 (oIssueC σ (xs (i + 1))).2.2 us1) rfl 0 rfl rfl (kAll5 lkM_L_123 lkI_yX4_issueConveyance lkS_yX4_issueConveyance lkN_X4 lkC_yX4_issueConveyance) 1 (by decide) ⟨(Nat.le_of_ble_eq_true rfl), (Nat.le_of_ble_eq_true rfl)⟩ rfl rfl (Nat.le_of_ble_eq_true rfl) ⟨by show k9 + 3 + 0 ≤ 646352; omega, by show n9 + 18 + 0 ≤ 7157049; omega⟩ dL_law_720 (fun v w h => ?_)
  obtain ⟨S1, G1, b9, rfl, rfl, hc1, hb1, hR1⟩ := h
  refine k_re (k9 + 3) (n9 + 18) ((wM K y b S1 G1 ++ ([kJ K o 1 f1] ++ wX K x ad1 (oIssueC σ (xs (i + 1))).2.2 us1))) [.int b9] rfl rfl rfl rfl ?_
  refine k_istore hC dL_law_723 (by decide) rfl [(0, .ref b0), (1, .ref x), (2, .ref y), (3, .ref o), (4, .int (nI i)), (5, .int (nI ((oIssueC σ (xs (i + 1))).1))), (6, .int b9)] rfl ?_
  refine k_aload_n hC 2 dL_law_725 rfl rfl ?_
  refine k_callV hC (As := []) (cX4_thrown_k l K y b S1 G1) ([kJ K o 1 f1] ++ wX K x ad1 (oIssueC σ (xs (i + 1))).2.2 us1) rfl 0 rfl rfl (kAll5 lkM_L_92 lkI_yX4_thrown lkS_yX4_thrown lkN_X4 lkC_yX4_thrown) 0 (by decide) ⟨(Nat.le_of_ble_eq_true rfl), (Nat.le_of_ble_eq_true rfl)⟩ rfl rfl (Nat.le_of_ble_eq_true rfl) ⟨by show k9 + 3 + 0 ≤ 646352; omega, by show n9 + 18 + 0 ≤ 7157049; omega⟩ dL_law_726 (fun v w h => ?_)
  obtain ⟨rfl, rfl⟩ := h
  refine k_re (k9 + 3) (n9 + 18) ((wM K y b S1 G1 ++ ([kJ K o 1 f1] ++ wX K x ad1 (oIssueC σ (xs (i + 1))).2.2 us1))) [.int (S1 0)] rfl rfl rfl rfl ?_
  refine k_topE (nI (oIssueC σ (xs (i + 1))).1) hc1 ?_
  refine k_iload hC dL_law_729 rfl ?_
  refine k_icmp_eq hC 736 dL_law_731 (by decide) (fun c1 => ?_) (fun c1 => ?_)
  · refine k_iload hC dL_law_736 rfl ?_
    refine k_if_ne hC 753 dL_law_738 (by decide) (fun c2 => ?_) (fun c2 => ?_)
    · refine k_goto hC 1587 dL_law_753 (by decide) ?_
      refine k_lsub [0, 1, 2, 3, 4] [(0, .ref b0), (1, .ref x), (2, .ref y), (3, .ref o), (4, .int (nI i))] rfl ?_
      refine k_perm2 [] (wL K x ad1 (oIssueC σ (xs (i + 1))).2.2 us1 o f1 y b S1 G1) kPermM ?_
      exact kk ad1 (oIssueC σ (xs (i + 1))).2.2 us1 f1 S1 G1 (k9 + 3) (n9 + 18) (oIssueC_ok hσ (xs (i + 1))) hU1 hR1 (by omega) (by omega)
    · have h0 : (oIssueC σ (xs (i + 1))).1 = 0 := (kz_eq (oIssueC_le _ (xs (i + 1)))).mp c2
      have e1 := hf1 h0
      have e2 := hb1 h0
      refine k_aload_n hC 3 dL_law_741 rfl rfl ?_
      refine k_iconst hC (nI 0) dL_law_742 rfl ?_
      refine k_jald hC 22 rfl (by decide) (by decide) dL_law_743 ?_
      refine k_iload hC dL_law_744 rfl ?_
      refine k_i2l hC dL_law_746 ?_
      refine k_lcmp hC dL_law_747 ?_
      refine k_if_eq hC 753 dL_law_748 (by decide) (fun c3 => ?_) (fun c3 => ?_)
      · refine k_goto hC 1587 dL_law_753 (by decide) ?_
        refine k_lsub [0, 1, 2, 3, 4] [(0, .ref b0), (1, .ref x), (2, .ref y), (3, .ref o), (4, .int (nI i))] rfl ?_
        refine k_perm2 [] (wL K x ad1 (oIssueC σ (xs (i + 1))).2.2 us1 o f1 y b S1 G1) kPermM ?_
        exact kk ad1 (oIssueC σ (xs (i + 1))).2.2 us1 f1 S1 G1 (k9 + 3) (n9 + 18) (oIssueC_ok hσ (xs (i + 1))) hU1 hR1 (by omega) (by omega)
      · exact absurd (by rw [e1, ← e2]; exact lg_cmp_self _) c3
  · exact absurd rfl c1
set_option maxRecDepth 100000 in
set_option maxHeartbeats 4000000 in
theorem law_c9 {p : Program} {l : Launch} {e : Env} {s : State} {m : MethodId} {args : Array Value} {below : List Frame} {meth : Method} {cd : Code} {K : kE} {A : Nat → Prop} {Q : State → Prop} {b0 L : Nat} {xs : Nat → Int32} {x y o : Nat} {b : Nat → Nat} {i k9 n9 : Nat} (H0 : kHead p l s m args meth cd K A b0 L xs i k9 n9) (ad : Nat → Nat → Nat) (σ : mS) (us : Nat → Nat → Nat → Int32) (f : Nat → Int64) (S : Nat → Int32) (G : Nat → Nat → Int32) (hσ : mSok σ) (hU : mURT σ us) (hR : mRep σ S G) (kk : kCont p l e s m args below meth cd K A Q b0 x y o b i k9 n9) : kW p l e room_1 s m args below meth cd K A 7 Q k9 n9 [] (wL K x ad σ us o f y b S G) [(0, .ref b0), (1, .ref x), (2, .ref y), (3, .ref o), (4, .int (nI i))] 756 [] := by
  obtain ⟨hst, hC, hX0, hbl, hbA, hL, hiL, hk9, hn9⟩ := H0
  refine k_aload_n hC 1 dL_law_756 rfl rfl ?_
  refine k_aload_n hC 0 dL_law_757 rfl rfl ?_
  refine k_iload hC dL_law_758 rfl ?_
  refine k_iconst hC (nI 1) dL_law_760 rfl ?_
  refine k_iaddN hC dL_law_761 ?_
  refine k_sld hC hX0 hbl hbA (by omega) hL dL_law_762 ?_
  refine k_aload_n hC 3 dL_law_763 rfl rfl ?_
  refine k_callXH hC (As := [.ref x, .int (xs (i + 1)), .ref o]) (cL_retireConveyance_k hst K x ad σ us hσ hU o f (xs (i + 1))) (wM K y b S G) rfl (kAll4 lkM_L_124 lkT_yL_retireConveyance lkN_L lkC_yL_retireConveyance) 3 (by decide) ⟨(Nat.le_of_ble_eq_true rfl), (Nat.le_of_ble_eq_true rfl)⟩ rfl rfl (Nat.le_of_ble_eq_true rfl) ⟨by show k9 + 3 ≤ 646352; omega, by show n9 + 18 ≤ 7157049; omega⟩ dL_law_764 (fun v w h => ?_)
  obtain ⟨rfl, ad1, us1, f1, rfl, hU1, hf1⟩ := h
  refine k_re (k9 + 3) (n9 + 18) ((wL K x ad1 (oRetireC σ (xs (i + 1))).2.2 us1 o f1 y b S G)) [.int (nI ((oRetireC σ (xs (i + 1))).1))] rfl rfl rfl rfl ?_
  refine k_perm2 [] (wM K y b S G ++ ([kJ K o 1 f1] ++ wX K x ad1 (oRetireC σ (xs (i + 1))).2.2 us1)) kPermL ?_
  refine k_istore hC dL_law_767 (by decide) rfl [(0, .ref b0), (1, .ref x), (2, .ref y), (3, .ref o), (4, .int (nI i)), (5, .int (nI ((oRetireC σ (xs (i + 1))).1)))] rfl ?_
  refine k_aload_n hC 2 dL_law_769 rfl rfl ?_
  refine k_aload_n hC 0 dL_law_770 rfl rfl ?_
  refine k_iload hC dL_law_771 rfl ?_
  refine k_iconst hC (nI 1) dL_law_773 rfl ?_
  refine k_iaddN hC dL_law_774 ?_
  refine k_sld hC hX0 hbl hbA (by omega) hL dL_law_775 ?_
  refine k_callV hC (As := [.int (xs (i + 1))]) (cX4_retireConveyance_k l K y b S G σ hσ hR (xs (i + 1))) ([kJ K o 1 f1] ++ wX K x ad1 (oRetireC σ (xs (i + 1))).2.2 us1) rfl 0 rfl rfl (kAll5 lkM_L_126 lkI_yX4_retireConveyance lkS_yX4_retireConveyance lkN_X4 lkC_yX4_retireConveyance) 1 (by decide) ⟨(Nat.le_of_ble_eq_true rfl), (Nat.le_of_ble_eq_true rfl)⟩ rfl rfl (Nat.le_of_ble_eq_true rfl) ⟨by show k9 + 3 + 0 ≤ 646352; omega, by show n9 + 18 + 0 ≤ 7157049; omega⟩ dL_law_776 (fun v w h => ?_)
  obtain ⟨S1, G1, b9, rfl, rfl, hc1, hb1, hR1⟩ := h
  refine k_re (k9 + 3) (n9 + 18) ((wM K y b S1 G1 ++ ([kJ K o 1 f1] ++ wX K x ad1 (oRetireC σ (xs (i + 1))).2.2 us1))) [.int b9] rfl rfl rfl rfl ?_
  refine k_istore hC dL_law_779 (by decide) rfl [(0, .ref b0), (1, .ref x), (2, .ref y), (3, .ref o), (4, .int (nI i)), (5, .int (nI ((oRetireC σ (xs (i + 1))).1))), (6, .int b9)] rfl ?_
  refine k_aload_n hC 2 dL_law_781 rfl rfl ?_
  refine k_callV hC (As := []) (cX4_thrown_k l K y b S1 G1) ([kJ K o 1 f1] ++ wX K x ad1 (oRetireC σ (xs (i + 1))).2.2 us1) rfl 0 rfl rfl (kAll5 lkM_L_92 lkI_yX4_thrown lkS_yX4_thrown lkN_X4 lkC_yX4_thrown) 0 (by decide) ⟨(Nat.le_of_ble_eq_true rfl), (Nat.le_of_ble_eq_true rfl)⟩ rfl rfl (Nat.le_of_ble_eq_true rfl) ⟨by show k9 + 3 + 0 ≤ 646352; omega, by show n9 + 18 + 0 ≤ 7157049; omega⟩ dL_law_782 (fun v w h => ?_)
  obtain ⟨rfl, rfl⟩ := h
  refine k_re (k9 + 3) (n9 + 18) ((wM K y b S1 G1 ++ ([kJ K o 1 f1] ++ wX K x ad1 (oRetireC σ (xs (i + 1))).2.2 us1))) [.int (S1 0)] rfl rfl rfl rfl ?_
  refine k_topE (nI (oRetireC σ (xs (i + 1))).1) hc1 ?_
  refine k_iload hC dL_law_785 rfl ?_
  refine k_icmp_eq hC 792 dL_law_787 (by decide) (fun c1 => ?_) (fun c1 => ?_)
  · refine k_iload hC dL_law_792 rfl ?_
    refine k_if_ne hC 809 dL_law_794 (by decide) (fun c2 => ?_) (fun c2 => ?_)
    · refine k_goto hC 1587 dL_law_809 (by decide) ?_
      refine k_lsub [0, 1, 2, 3, 4] [(0, .ref b0), (1, .ref x), (2, .ref y), (3, .ref o), (4, .int (nI i))] rfl ?_
      refine k_perm2 [] (wL K x ad1 (oRetireC σ (xs (i + 1))).2.2 us1 o f1 y b S1 G1) kPermM ?_
      exact kk ad1 (oRetireC σ (xs (i + 1))).2.2 us1 f1 S1 G1 (k9 + 3) (n9 + 18) (oRetireC_ok hσ (xs (i + 1))) hU1 hR1 (by omega) (by omega)
    · have h0 : (oRetireC σ (xs (i + 1))).1 = 0 := (kz_eq (oRetireC_le _ (xs (i + 1)))).mp c2
      have e1 := hf1 h0
      have e2 := hb1 h0
      refine k_aload_n hC 3 dL_law_797 rfl rfl ?_
      refine k_iconst hC (nI 0) dL_law_798 rfl ?_
      refine k_jald hC 22 rfl (by decide) (by decide) dL_law_799 ?_
      refine k_iload hC dL_law_800 rfl ?_
      refine k_i2l hC dL_law_802 ?_
      refine k_lcmp hC dL_law_803 ?_
      refine k_if_eq hC 809 dL_law_804 (by decide) (fun c3 => ?_) (fun c3 => ?_)
      · refine k_goto hC 1587 dL_law_809 (by decide) ?_
        refine k_lsub [0, 1, 2, 3, 4] [(0, .ref b0), (1, .ref x), (2, .ref y), (3, .ref o), (4, .int (nI i))] rfl ?_
        refine k_perm2 [] (wL K x ad1 (oRetireC σ (xs (i + 1))).2.2 us1 o f1 y b S1 G1) kPermM ?_
        exact kk ad1 (oRetireC σ (xs (i + 1))).2.2 us1 f1 S1 G1 (k9 + 3) (n9 + 18) (oRetireC_ok hσ (xs (i + 1))) hU1 hR1 (by omega) (by omega)
      · exact absurd (by rw [e1, ← e2]; exact lg_cmp_self _) c3
  · exact absurd rfl c1
set_option maxRecDepth 100000 in
set_option maxHeartbeats 4000000 in
theorem law_c10 {p : Program} {l : Launch} {e : Env} {s : State} {m : MethodId} {args : Array Value} {below : List Frame} {meth : Method} {cd : Code} {K : kE} {A : Nat → Prop} {Q : State → Prop} {b0 L : Nat} {xs : Nat → Int32} {x y o : Nat} {b : Nat → Nat} {i k9 n9 : Nat} (H0 : kHead p l s m args meth cd K A b0 L xs i k9 n9) (ad : Nat → Nat → Nat) (σ : mS) (us : Nat → Nat → Nat → Int32) (f : Nat → Int64) (S : Nat → Int32) (G : Nat → Nat → Int32) (hσ : mSok σ) (hU : mURT σ us) (hR : mRep σ S G) (kk : kCont p l e s m args below meth cd K A Q b0 x y o b i k9 n9) : kW p l e room_1 s m args below meth cd K A 7 Q k9 n9 [] (wL K x ad σ us o f y b S G) [(0, .ref b0), (1, .ref x), (2, .ref y), (3, .ref o), (4, .int (nI i))] 812 [] := by
  obtain ⟨hst, hC, hX0, hbl, hbA, hL, hiL, hk9, hn9⟩ := H0
  refine k_aload_n hC 1 dL_law_812 rfl rfl ?_
  refine k_aload_n hC 0 dL_law_813 rfl rfl ?_
  refine k_iload hC dL_law_814 rfl ?_
  refine k_iconst hC (nI 1) dL_law_816 rfl ?_
  refine k_iaddN hC dL_law_817 ?_
  refine k_sld hC hX0 hbl hbA (by omega) hL dL_law_818 ?_
  refine k_aload_n hC 0 dL_law_819 rfl rfl ?_
  refine k_iload hC dL_law_820 rfl ?_
  refine k_iconst hC (nI 2) dL_law_822 rfl ?_
  refine k_iaddN hC dL_law_823 ?_
  refine k_sld hC hX0 hbl hbA (by omega) hL dL_law_824 ?_
  refine k_aload_n hC 3 dL_law_825 rfl rfl ?_
  refine k_callXH hC (As := [.ref x, .int (xs (i + 1)), .int (xs (i + 2)), .ref o]) (cL_needed_k hst K x ad σ us hσ hU o f (xs (i + 1)) (xs (i + 2))) (wM K y b S G) rfl (kAll4 lkM_L_127 lkT_yL_needed lkN_L lkC_yL_needed) 4 (by decide) ⟨(Nat.le_of_ble_eq_true rfl), (Nat.le_of_ble_eq_true rfl)⟩ rfl rfl (Nat.le_of_ble_eq_true rfl) ⟨by show k9 + 2 ≤ 646352; omega, by show n9 + 12 ≤ 7157049; omega⟩ dL_law_826 (fun v w h => ?_)
  obtain ⟨rfl, ad1, us1, f1, rfl, hU1, hf1⟩ := h
  refine k_re (k9 + 2) (n9 + 12) ((wL K x ad1 (oNeeded σ (xs (i + 1)) (xs (i + 2))).2.2 us1 o f1 y b S G)) [.int (nI ((oNeeded σ (xs (i + 1)) (xs (i + 2))).1))] rfl rfl rfl rfl ?_
  refine k_perm2 [] (wM K y b S G ++ ([kJ K o 1 f1] ++ wX K x ad1 (oNeeded σ (xs (i + 1)) (xs (i + 2))).2.2 us1)) kPermL ?_
  refine k_istore hC dL_law_829 (by decide) rfl [(0, .ref b0), (1, .ref x), (2, .ref y), (3, .ref o), (4, .int (nI i)), (5, .int (nI ((oNeeded σ (xs (i + 1)) (xs (i + 2))).1)))] rfl ?_
  refine k_aload_n hC 2 dL_law_831 rfl rfl ?_
  refine k_aload_n hC 0 dL_law_832 rfl rfl ?_
  refine k_iload hC dL_law_833 rfl ?_
  refine k_iconst hC (nI 1) dL_law_835 rfl ?_
  refine k_iaddN hC dL_law_836 ?_
  refine k_sld hC hX0 hbl hbA (by omega) hL dL_law_837 ?_
  refine k_aload_n hC 0 dL_law_838 rfl rfl ?_
  refine k_iload hC dL_law_839 rfl ?_
  refine k_iconst hC (nI 2) dL_law_841 rfl ?_
  refine k_iaddN hC dL_law_842 ?_
  refine k_sld hC hX0 hbl hbA (by omega) hL dL_law_843 ?_
  refine k_callV hC (As := [.int (xs (i + 1)), .int (xs (i + 2))]) (cX4_needed_k l K y b S G σ hσ hR (xs (i + 1)) (xs (i + 2))) ([kJ K o 1 f1] ++ wX K x ad1 (oNeeded σ (xs (i + 1)) (xs (i + 2))).2.2 us1) rfl 0 rfl rfl (kAll5 lkM_L_129 lkI_yX4_needed lkS_yX4_needed lkN_X4 lkC_yX4_needed) 2 (by decide) ⟨(Nat.le_of_ble_eq_true rfl), (Nat.le_of_ble_eq_true rfl)⟩ rfl rfl (Nat.le_of_ble_eq_true rfl) ⟨by show k9 + 2 + 0 ≤ 646352; omega, by show n9 + 12 + 0 ≤ 7157049; omega⟩ dL_law_844 (fun v w h => ?_)
  obtain ⟨S1, G1, b9, rfl, rfl, hc1, hb1, hR1⟩ := h
  refine k_re (k9 + 2) (n9 + 12) ((wM K y b S1 G1 ++ ([kJ K o 1 f1] ++ wX K x ad1 (oNeeded σ (xs (i + 1)) (xs (i + 2))).2.2 us1))) [.int b9] rfl rfl rfl rfl ?_
  refine k_istore hC dL_law_847 (by decide) rfl [(0, .ref b0), (1, .ref x), (2, .ref y), (3, .ref o), (4, .int (nI i)), (5, .int (nI ((oNeeded σ (xs (i + 1)) (xs (i + 2))).1))), (6, .int b9)] rfl ?_
  refine k_aload_n hC 2 dL_law_849 rfl rfl ?_
  refine k_callV hC (As := []) (cX4_thrown_k l K y b S1 G1) ([kJ K o 1 f1] ++ wX K x ad1 (oNeeded σ (xs (i + 1)) (xs (i + 2))).2.2 us1) rfl 0 rfl rfl (kAll5 lkM_L_92 lkI_yX4_thrown lkS_yX4_thrown lkN_X4 lkC_yX4_thrown) 0 (by decide) ⟨(Nat.le_of_ble_eq_true rfl), (Nat.le_of_ble_eq_true rfl)⟩ rfl rfl (Nat.le_of_ble_eq_true rfl) ⟨by show k9 + 2 + 0 ≤ 646352; omega, by show n9 + 12 + 0 ≤ 7157049; omega⟩ dL_law_850 (fun v w h => ?_)
  obtain ⟨rfl, rfl⟩ := h
  refine k_re (k9 + 2) (n9 + 12) ((wM K y b S1 G1 ++ ([kJ K o 1 f1] ++ wX K x ad1 (oNeeded σ (xs (i + 1)) (xs (i + 2))).2.2 us1))) [.int (S1 0)] rfl rfl rfl rfl ?_
  refine k_topE (nI (oNeeded σ (xs (i + 1)) (xs (i + 2))).1) hc1 ?_
  refine k_iload hC dL_law_853 rfl ?_
  refine k_icmp_eq hC 860 dL_law_855 (by decide) (fun c1 => ?_) (fun c1 => ?_)
  · refine k_iload hC dL_law_860 rfl ?_
    refine k_if_ne hC 877 dL_law_862 (by decide) (fun c2 => ?_) (fun c2 => ?_)
    · refine k_goto hC 1587 dL_law_877 (by decide) ?_
      refine k_lsub [0, 1, 2, 3, 4] [(0, .ref b0), (1, .ref x), (2, .ref y), (3, .ref o), (4, .int (nI i))] rfl ?_
      refine k_perm2 [] (wL K x ad1 (oNeeded σ (xs (i + 1)) (xs (i + 2))).2.2 us1 o f1 y b S1 G1) kPermM ?_
      exact kk ad1 (oNeeded σ (xs (i + 1)) (xs (i + 2))).2.2 us1 f1 S1 G1 (k9 + 2) (n9 + 12) (oNeeded_ok hσ (xs (i + 1)) (xs (i + 2))) hU1 hR1 (by omega) (by omega)
    · have h0 : (oNeeded σ (xs (i + 1)) (xs (i + 2))).1 = 0 := (kz_eq (oNeeded_le _ (xs (i + 1)) (xs (i + 2)))).mp c2
      have e1 := hf1 h0
      have e2 := hb1 h0
      refine k_aload_n hC 3 dL_law_865 rfl rfl ?_
      refine k_iconst hC (nI 0) dL_law_866 rfl ?_
      refine k_jald hC 22 rfl (by decide) (by decide) dL_law_867 ?_
      refine k_iload hC dL_law_868 rfl ?_
      refine k_i2l hC dL_law_870 ?_
      refine k_lcmp hC dL_law_871 ?_
      refine k_if_eq hC 877 dL_law_872 (by decide) (fun c3 => ?_) (fun c3 => ?_)
      · refine k_goto hC 1587 dL_law_877 (by decide) ?_
        refine k_lsub [0, 1, 2, 3, 4] [(0, .ref b0), (1, .ref x), (2, .ref y), (3, .ref o), (4, .int (nI i))] rfl ?_
        refine k_perm2 [] (wL K x ad1 (oNeeded σ (xs (i + 1)) (xs (i + 2))).2.2 us1 o f1 y b S1 G1) kPermM ?_
        exact kk ad1 (oNeeded σ (xs (i + 1)) (xs (i + 2))).2.2 us1 f1 S1 G1 (k9 + 2) (n9 + 12) (oNeeded_ok hσ (xs (i + 1)) (xs (i + 2))) hU1 hR1 (by omega) (by omega)
      · exact absurd (by rw [e1, ← e2]; exact lg_cmp_self _) c3
  · exact absurd rfl c1
set_option maxRecDepth 100000 in
set_option maxHeartbeats 4000000 in
theorem law_c11 {p : Program} {l : Launch} {e : Env} {s : State} {m : MethodId} {args : Array Value} {below : List Frame} {meth : Method} {cd : Code} {K : kE} {A : Nat → Prop} {Q : State → Prop} {b0 L : Nat} {xs : Nat → Int32} {x y o : Nat} {b : Nat → Nat} {i k9 n9 : Nat} (H0 : kHead p l s m args meth cd K A b0 L xs i k9 n9) (ad : Nat → Nat → Nat) (σ : mS) (us : Nat → Nat → Nat → Int32) (f : Nat → Int64) (S : Nat → Int32) (G : Nat → Nat → Int32) (hσ : mSok σ) (hU : mURT σ us) (hR : mRep σ S G) (kk : kCont p l e s m args below meth cd K A Q b0 x y o b i k9 n9) : kW p l e room_1 s m args below meth cd K A 7 Q k9 n9 [] (wL K x ad σ us o f y b S G) [(0, .ref b0), (1, .ref x), (2, .ref y), (3, .ref o), (4, .int (nI i))] 880 [] := by
  obtain ⟨hst, hC, hX0, hbl, hbA, hL, hiL, hk9, hn9⟩ := H0
  refine k_aload_n hC 1 dL_law_880 rfl rfl ?_
  refine k_aload_n hC 0 dL_law_881 rfl rfl ?_
  refine k_iload hC dL_law_882 rfl ?_
  refine k_iconst hC (nI 1) dL_law_884 rfl ?_
  refine k_iaddN hC dL_law_885 ?_
  refine k_sld hC hX0 hbl hbA (by omega) hL dL_law_886 ?_
  refine k_aload_n hC 3 dL_law_887 rfl rfl ?_
  refine k_callXH hC (As := [.ref x, .int (xs (i + 1)), .ref o]) (cL_step_k hst K x ad σ us hσ hU o f (xs (i + 1))) (wM K y b S G) rfl (kAll4 lkM_L_130 lkT_yL_step lkN_L lkC_yL_step) 3 (by decide) ⟨(Nat.le_of_ble_eq_true rfl), (Nat.le_of_ble_eq_true rfl)⟩ rfl rfl (Nat.le_of_ble_eq_true rfl) ⟨by show k9 + 2 ≤ 646352; omega, by show n9 + 12 ≤ 7157049; omega⟩ dL_law_888 (fun v w h => ?_)
  obtain ⟨rfl, ad1, us1, f1, rfl, hU1, hf1⟩ := h
  refine k_re (k9 + 2) (n9 + 12) ((wL K x ad1 (oStep σ (xs (i + 1))).2.2 us1 o f1 y b S G)) [.int (nI ((oStep σ (xs (i + 1))).1))] rfl rfl rfl rfl ?_
  refine k_perm2 [] (wM K y b S G ++ ([kJ K o 1 f1] ++ wX K x ad1 (oStep σ (xs (i + 1))).2.2 us1)) kPermL ?_
  refine k_istore hC dL_law_891 (by decide) rfl [(0, .ref b0), (1, .ref x), (2, .ref y), (3, .ref o), (4, .int (nI i)), (5, .int (nI ((oStep σ (xs (i + 1))).1)))] rfl ?_
  refine k_aload_n hC 2 dL_law_893 rfl rfl ?_
  refine k_aload_n hC 0 dL_law_894 rfl rfl ?_
  refine k_iload hC dL_law_895 rfl ?_
  refine k_iconst hC (nI 1) dL_law_897 rfl ?_
  refine k_iaddN hC dL_law_898 ?_
  refine k_sld hC hX0 hbl hbA (by omega) hL dL_law_899 ?_
  refine k_callV hC (As := [.int (xs (i + 1))]) (cX4_step_k l K y b S G σ hσ hR (xs (i + 1))) ([kJ K o 1 f1] ++ wX K x ad1 (oStep σ (xs (i + 1))).2.2 us1) rfl 0 rfl rfl (kAll5 lkM_L_132 lkI_yX4_step lkS_yX4_step lkN_X4 lkC_yX4_step) 1 (by decide) ⟨(Nat.le_of_ble_eq_true rfl), (Nat.le_of_ble_eq_true rfl)⟩ rfl rfl (Nat.le_of_ble_eq_true rfl) ⟨by show k9 + 2 + 0 ≤ 646352; omega, by show n9 + 12 + 0 ≤ 7157049; omega⟩ dL_law_900 (fun v w h => ?_)
  obtain ⟨S1, G1, b9, rfl, rfl, hc1, hb1, hR1⟩ := h
  refine k_re (k9 + 2) (n9 + 12) ((wM K y b S1 G1 ++ ([kJ K o 1 f1] ++ wX K x ad1 (oStep σ (xs (i + 1))).2.2 us1))) [.int b9] rfl rfl rfl rfl ?_
  refine k_istore hC dL_law_903 (by decide) rfl [(0, .ref b0), (1, .ref x), (2, .ref y), (3, .ref o), (4, .int (nI i)), (5, .int (nI ((oStep σ (xs (i + 1))).1))), (6, .int b9)] rfl ?_
  refine k_aload_n hC 2 dL_law_905 rfl rfl ?_
  refine k_callV hC (As := []) (cX4_thrown_k l K y b S1 G1) ([kJ K o 1 f1] ++ wX K x ad1 (oStep σ (xs (i + 1))).2.2 us1) rfl 0 rfl rfl (kAll5 lkM_L_92 lkI_yX4_thrown lkS_yX4_thrown lkN_X4 lkC_yX4_thrown) 0 (by decide) ⟨(Nat.le_of_ble_eq_true rfl), (Nat.le_of_ble_eq_true rfl)⟩ rfl rfl (Nat.le_of_ble_eq_true rfl) ⟨by show k9 + 2 + 0 ≤ 646352; omega, by show n9 + 12 + 0 ≤ 7157049; omega⟩ dL_law_906 (fun v w h => ?_)
  obtain ⟨rfl, rfl⟩ := h
  refine k_re (k9 + 2) (n9 + 12) ((wM K y b S1 G1 ++ ([kJ K o 1 f1] ++ wX K x ad1 (oStep σ (xs (i + 1))).2.2 us1))) [.int (S1 0)] rfl rfl rfl rfl ?_
  refine k_topE (nI (oStep σ (xs (i + 1))).1) hc1 ?_
  refine k_iload hC dL_law_909 rfl ?_
  refine k_icmp_eq hC 916 dL_law_911 (by decide) (fun c1 => ?_) (fun c1 => ?_)
  · refine k_iload hC dL_law_916 rfl ?_
    refine k_if_ne hC 933 dL_law_918 (by decide) (fun c2 => ?_) (fun c2 => ?_)
    · refine k_goto hC 1587 dL_law_933 (by decide) ?_
      refine k_lsub [0, 1, 2, 3, 4] [(0, .ref b0), (1, .ref x), (2, .ref y), (3, .ref o), (4, .int (nI i))] rfl ?_
      refine k_perm2 [] (wL K x ad1 (oStep σ (xs (i + 1))).2.2 us1 o f1 y b S1 G1) kPermM ?_
      exact kk ad1 (oStep σ (xs (i + 1))).2.2 us1 f1 S1 G1 (k9 + 2) (n9 + 12) (oStep_ok hσ (xs (i + 1))) hU1 hR1 (by omega) (by omega)
    · have h0 : (oStep σ (xs (i + 1))).1 = 0 := (kz_eq (oStep_le _ (xs (i + 1)))).mp c2
      have e1 := hf1 h0
      have e2 := hb1 h0
      refine k_aload_n hC 3 dL_law_921 rfl rfl ?_
      refine k_iconst hC (nI 0) dL_law_922 rfl ?_
      refine k_jald hC 22 rfl (by decide) (by decide) dL_law_923 ?_
      refine k_iload hC dL_law_924 rfl ?_
      refine k_i2l hC dL_law_926 ?_
      refine k_lcmp hC dL_law_927 ?_
      refine k_if_eq hC 933 dL_law_928 (by decide) (fun c3 => ?_) (fun c3 => ?_)
      · refine k_goto hC 1587 dL_law_933 (by decide) ?_
        refine k_lsub [0, 1, 2, 3, 4] [(0, .ref b0), (1, .ref x), (2, .ref y), (3, .ref o), (4, .int (nI i))] rfl ?_
        refine k_perm2 [] (wL K x ad1 (oStep σ (xs (i + 1))).2.2 us1 o f1 y b S1 G1) kPermM ?_
        exact kk ad1 (oStep σ (xs (i + 1))).2.2 us1 f1 S1 G1 (k9 + 2) (n9 + 12) (oStep_ok hσ (xs (i + 1))) hU1 hR1 (by omega) (by omega)
      · exact absurd (by rw [e1, ← e2]; exact lg_cmp_self _) c3
  · exact absurd rfl c1
set_option maxRecDepth 100000 in
set_option maxHeartbeats 4000000 in
theorem law_c14 {p : Program} {l : Launch} {e : Env} {s : State} {m : MethodId} {args : Array Value} {below : List Frame} {meth : Method} {cd : Code} {K : kE} {A : Nat → Prop} {Q : State → Prop} {b0 L : Nat} {xs : Nat → Int32} {x y o : Nat} {b : Nat → Nat} {i k9 n9 : Nat} (H0 : kHead p l s m args meth cd K A b0 L xs i k9 n9) (ad : Nat → Nat → Nat) (σ : mS) (us : Nat → Nat → Nat → Int32) (f : Nat → Int64) (S : Nat → Int32) (G : Nat → Nat → Int32) (hσ : mSok σ) (hU : mURT σ us) (hR : mRep σ S G) (kk : kCont p l e s m args below meth cd K A Q b0 x y o b i k9 n9) : kW p l e room_1 s m args below meth cd K A 7 Q k9 n9 [] (wL K x ad σ us o f y b S G) [(0, .ref b0), (1, .ref x), (2, .ref y), (3, .ref o), (4, .int (nI i))] 962 [] := by
  obtain ⟨hst, hC, hX0, hbl, hbA, hL, hiL, hk9, hn9⟩ := H0
  refine k_aload_n hC 1 dL_law_962 rfl rfl ?_
  refine k_aload_n hC 0 dL_law_963 rfl rfl ?_
  refine k_iload hC dL_law_964 rfl ?_
  refine k_iconst hC (nI 1) dL_law_966 rfl ?_
  refine k_iaddN hC dL_law_967 ?_
  refine k_sld hC hX0 hbl hbA (by omega) hL dL_law_968 ?_
  refine k_aload_n hC 3 dL_law_969 rfl rfl ?_
  refine k_callXH hC (As := [.ref x, .int (xs (i + 1)), .ref o]) (cL_board_k hst K x ad σ us hσ hU o f (xs (i + 1))) (wM K y b S G) rfl (kAll4 lkM_L_141 lkT_yL_board lkN_L lkC_yL_board) 3 (by decide) ⟨(Nat.le_of_ble_eq_true rfl), (Nat.le_of_ble_eq_true rfl)⟩ rfl rfl (Nat.le_of_ble_eq_true rfl) ⟨by show k9 + 1 ≤ 646352; omega, by show n9 + 6 ≤ 7157049; omega⟩ dL_law_970 (fun v w h => ?_)
  obtain ⟨rfl, ad1, us1, f1, rfl, hU1, hf1⟩ := h
  refine k_re (k9 + 1) (n9 + 6) ((wL K x ad1 (oGet σ (xs (i + 1)) (fun τ => nI (τ.1 9))).2.2 us1 o f1 y b S G)) [.int (nI ((oGet σ (xs (i + 1)) (fun τ => nI (τ.1 9))).1))] rfl rfl rfl rfl ?_
  refine k_perm2 [] (wM K y b S G ++ ([kJ K o 1 f1] ++ wX K x ad1 (oGet σ (xs (i + 1)) (fun τ => nI (τ.1 9))).2.2 us1)) kPermL ?_
  refine k_istore hC dL_law_973 (by decide) rfl [(0, .ref b0), (1, .ref x), (2, .ref y), (3, .ref o), (4, .int (nI i)), (5, .int (nI ((oGet σ (xs (i + 1)) (fun τ => nI (τ.1 9))).1)))] rfl ?_
  refine k_aload_n hC 2 dL_law_975 rfl rfl ?_
  refine k_aload_n hC 0 dL_law_976 rfl rfl ?_
  refine k_iload hC dL_law_977 rfl ?_
  refine k_iconst hC (nI 1) dL_law_979 rfl ?_
  refine k_iaddN hC dL_law_980 ?_
  refine k_sld hC hX0 hbl hbA (by omega) hL dL_law_981 ?_
  refine k_callV hC (As := [.int (xs (i + 1))]) (cX4_board_k l K y b S G σ hσ hR (xs (i + 1))) ([kJ K o 1 f1] ++ wX K x ad1 (oGet σ (xs (i + 1)) (fun τ => nI (τ.1 9))).2.2 us1) rfl 0 rfl rfl (kAll5 lkM_L_143 lkI_yX4_board lkS_yX4_board lkN_X4 lkC_yX4_board) 1 (by decide) ⟨(Nat.le_of_ble_eq_true rfl), (Nat.le_of_ble_eq_true rfl)⟩ rfl rfl (Nat.le_of_ble_eq_true rfl) ⟨by show k9 + 1 + 0 ≤ 646352; omega, by show n9 + 6 + 0 ≤ 7157049; omega⟩ dL_law_982 (fun v w h => ?_)
  obtain ⟨S1, G1, b9, rfl, rfl, hc1, hb1, hR1⟩ := h
  refine k_re (k9 + 1) (n9 + 6) ((wM K y b S1 G1 ++ ([kJ K o 1 f1] ++ wX K x ad1 (oGet σ (xs (i + 1)) (fun τ => nI (τ.1 9))).2.2 us1))) [.int b9] rfl rfl rfl rfl ?_
  refine k_istore hC dL_law_985 (by decide) rfl [(0, .ref b0), (1, .ref x), (2, .ref y), (3, .ref o), (4, .int (nI i)), (5, .int (nI ((oGet σ (xs (i + 1)) (fun τ => nI (τ.1 9))).1))), (6, .int b9)] rfl ?_
  refine k_aload_n hC 2 dL_law_987 rfl rfl ?_
  refine k_callV hC (As := []) (cX4_thrown_k l K y b S1 G1) ([kJ K o 1 f1] ++ wX K x ad1 (oGet σ (xs (i + 1)) (fun τ => nI (τ.1 9))).2.2 us1) rfl 0 rfl rfl (kAll5 lkM_L_92 lkI_yX4_thrown lkS_yX4_thrown lkN_X4 lkC_yX4_thrown) 0 (by decide) ⟨(Nat.le_of_ble_eq_true rfl), (Nat.le_of_ble_eq_true rfl)⟩ rfl rfl (Nat.le_of_ble_eq_true rfl) ⟨by show k9 + 1 + 0 ≤ 646352; omega, by show n9 + 6 + 0 ≤ 7157049; omega⟩ dL_law_988 (fun v w h => ?_)
  obtain ⟨rfl, rfl⟩ := h
  refine k_re (k9 + 1) (n9 + 6) ((wM K y b S1 G1 ++ ([kJ K o 1 f1] ++ wX K x ad1 (oGet σ (xs (i + 1)) (fun τ => nI (τ.1 9))).2.2 us1))) [.int (S1 0)] rfl rfl rfl rfl ?_
  refine k_topE (nI (oGet σ (xs (i + 1)) (fun τ => nI (τ.1 9))).1) hc1 ?_
  refine k_iload hC dL_law_991 rfl ?_
  refine k_icmp_eq hC 998 dL_law_993 (by decide) (fun c1 => ?_) (fun c1 => ?_)
  · refine k_iload hC dL_law_998 rfl ?_
    refine k_if_ne hC 1015 dL_law_1000 (by decide) (fun c2 => ?_) (fun c2 => ?_)
    · refine k_goto hC 1587 dL_law_1015 (by decide) ?_
      refine k_lsub [0, 1, 2, 3, 4] [(0, .ref b0), (1, .ref x), (2, .ref y), (3, .ref o), (4, .int (nI i))] rfl ?_
      refine k_perm2 [] (wL K x ad1 (oGet σ (xs (i + 1)) (fun τ => nI (τ.1 9))).2.2 us1 o f1 y b S1 G1) kPermM ?_
      exact kk ad1 (oGet σ (xs (i + 1)) (fun τ => nI (τ.1 9))).2.2 us1 f1 S1 G1 (k9 + 1) (n9 + 6) (oGet_ok hσ (xs (i + 1)) (fun τ => nI (τ.1 9))) hU1 hR1 (by omega) (by omega)
    · have h0 : (oGet σ (xs (i + 1)) (fun τ => nI (τ.1 9))).1 = 0 := (kz_eq (oGet_le _ (xs (i + 1)) (fun τ => nI (τ.1 9)))).mp c2
      have e1 := hf1 h0
      have e2 := hb1 h0
      refine k_aload_n hC 3 dL_law_1003 rfl rfl ?_
      refine k_iconst hC (nI 0) dL_law_1004 rfl ?_
      refine k_jald hC 22 rfl (by decide) (by decide) dL_law_1005 ?_
      refine k_iload hC dL_law_1006 rfl ?_
      refine k_i2l hC dL_law_1008 ?_
      refine k_lcmp hC dL_law_1009 ?_
      refine k_if_eq hC 1015 dL_law_1010 (by decide) (fun c3 => ?_) (fun c3 => ?_)
      · refine k_goto hC 1587 dL_law_1015 (by decide) ?_
        refine k_lsub [0, 1, 2, 3, 4] [(0, .ref b0), (1, .ref x), (2, .ref y), (3, .ref o), (4, .int (nI i))] rfl ?_
        refine k_perm2 [] (wL K x ad1 (oGet σ (xs (i + 1)) (fun τ => nI (τ.1 9))).2.2 us1 o f1 y b S1 G1) kPermM ?_
        exact kk ad1 (oGet σ (xs (i + 1)) (fun τ => nI (τ.1 9))).2.2 us1 f1 S1 G1 (k9 + 1) (n9 + 6) (oGet_ok hσ (xs (i + 1)) (fun τ => nI (τ.1 9))) hU1 hR1 (by omega) (by omega)
      · exact absurd (by rw [e1, ← e2]; exact lg_cmp_self _) c3
  · exact absurd rfl c1
set_option maxRecDepth 100000 in
set_option maxHeartbeats 4000000 in
theorem law_c15 {p : Program} {l : Launch} {e : Env} {s : State} {m : MethodId} {args : Array Value} {below : List Frame} {meth : Method} {cd : Code} {K : kE} {A : Nat → Prop} {Q : State → Prop} {b0 L : Nat} {xs : Nat → Int32} {x y o : Nat} {b : Nat → Nat} {i k9 n9 : Nat} (H0 : kHead p l s m args meth cd K A b0 L xs i k9 n9) (ad : Nat → Nat → Nat) (σ : mS) (us : Nat → Nat → Nat → Int32) (f : Nat → Int64) (S : Nat → Int32) (G : Nat → Nat → Int32) (hσ : mSok σ) (hU : mURT σ us) (hR : mRep σ S G) (kk : kCont p l e s m args below meth cd K A Q b0 x y o b i k9 n9) : kW p l e room_1 s m args below meth cd K A 7 Q k9 n9 [] (wL K x ad σ us o f y b S G) [(0, .ref b0), (1, .ref x), (2, .ref y), (3, .ref o), (4, .int (nI i))] 1018 [] := by
  obtain ⟨hst, hC, hX0, hbl, hbA, hL, hiL, hk9, hn9⟩ := H0
  refine k_aload_n hC 1 dL_law_1018 rfl rfl ?_
  refine k_aload_n hC 0 dL_law_1019 rfl rfl ?_
  refine k_iload hC dL_law_1020 rfl ?_
  refine k_iconst hC (nI 1) dL_law_1022 rfl ?_
  refine k_iaddN hC dL_law_1023 ?_
  refine k_sld hC hX0 hbl hbA (by omega) hL dL_law_1024 ?_
  refine k_aload_n hC 3 dL_law_1025 rfl rfl ?_
  refine k_callXH hC (As := [.ref x, .int (xs (i + 1)), .ref o]) (cL_attached_k hst K x ad σ us hσ hU o f (xs (i + 1))) (wM K y b S G) rfl (kAll4 lkM_L_144 lkT_yL_attached lkN_L lkC_yL_attached) 3 (by decide) ⟨(Nat.le_of_ble_eq_true rfl), (Nat.le_of_ble_eq_true rfl)⟩ rfl rfl (Nat.le_of_ble_eq_true rfl) ⟨by show k9 + 1 ≤ 646352; omega, by show n9 + 6 ≤ 7157049; omega⟩ dL_law_1026 (fun v w h => ?_)
  obtain ⟨rfl, ad1, us1, f1, rfl, hU1, hf1⟩ := h
  refine k_re (k9 + 1) (n9 + 6) ((wL K x ad1 (oGet σ (xs (i + 1)) (fun τ => nI (mCs (τ.2.2 0)))).2.2 us1 o f1 y b S G)) [.int (nI ((oGet σ (xs (i + 1)) (fun τ => nI (mCs (τ.2.2 0)))).1))] rfl rfl rfl rfl ?_
  refine k_perm2 [] (wM K y b S G ++ ([kJ K o 1 f1] ++ wX K x ad1 (oGet σ (xs (i + 1)) (fun τ => nI (mCs (τ.2.2 0)))).2.2 us1)) kPermL ?_
  refine k_istore hC dL_law_1029 (by decide) rfl [(0, .ref b0), (1, .ref x), (2, .ref y), (3, .ref o), (4, .int (nI i)), (5, .int (nI ((oGet σ (xs (i + 1)) (fun τ => nI (mCs (τ.2.2 0)))).1)))] rfl ?_
  refine k_aload_n hC 2 dL_law_1031 rfl rfl ?_
  refine k_aload_n hC 0 dL_law_1032 rfl rfl ?_
  refine k_iload hC dL_law_1033 rfl ?_
  refine k_iconst hC (nI 1) dL_law_1035 rfl ?_
  refine k_iaddN hC dL_law_1036 ?_
  refine k_sld hC hX0 hbl hbA (by omega) hL dL_law_1037 ?_
  refine k_callV hC (As := [.int (xs (i + 1))]) (cX4_attached_k l K y b S G σ hσ hR (xs (i + 1))) ([kJ K o 1 f1] ++ wX K x ad1 (oGet σ (xs (i + 1)) (fun τ => nI (mCs (τ.2.2 0)))).2.2 us1) rfl 0 rfl rfl (kAll5 lkM_L_146 lkI_yX4_attached lkS_yX4_attached lkN_X4 lkC_yX4_attached) 1 (by decide) ⟨(Nat.le_of_ble_eq_true rfl), (Nat.le_of_ble_eq_true rfl)⟩ rfl rfl (Nat.le_of_ble_eq_true rfl) ⟨by show k9 + 1 + 0 ≤ 646352; omega, by show n9 + 6 + 0 ≤ 7157049; omega⟩ dL_law_1038 (fun v w h => ?_)
  obtain ⟨S1, G1, b9, rfl, rfl, hc1, hb1, hR1⟩ := h
  refine k_re (k9 + 1) (n9 + 6) ((wM K y b S1 G1 ++ ([kJ K o 1 f1] ++ wX K x ad1 (oGet σ (xs (i + 1)) (fun τ => nI (mCs (τ.2.2 0)))).2.2 us1))) [.int b9] rfl rfl rfl rfl ?_
  refine k_istore hC dL_law_1041 (by decide) rfl [(0, .ref b0), (1, .ref x), (2, .ref y), (3, .ref o), (4, .int (nI i)), (5, .int (nI ((oGet σ (xs (i + 1)) (fun τ => nI (mCs (τ.2.2 0)))).1))), (6, .int b9)] rfl ?_
  refine k_aload_n hC 2 dL_law_1043 rfl rfl ?_
  refine k_callV hC (As := []) (cX4_thrown_k l K y b S1 G1) ([kJ K o 1 f1] ++ wX K x ad1 (oGet σ (xs (i + 1)) (fun τ => nI (mCs (τ.2.2 0)))).2.2 us1) rfl 0 rfl rfl (kAll5 lkM_L_92 lkI_yX4_thrown lkS_yX4_thrown lkN_X4 lkC_yX4_thrown) 0 (by decide) ⟨(Nat.le_of_ble_eq_true rfl), (Nat.le_of_ble_eq_true rfl)⟩ rfl rfl (Nat.le_of_ble_eq_true rfl) ⟨by show k9 + 1 + 0 ≤ 646352; omega, by show n9 + 6 + 0 ≤ 7157049; omega⟩ dL_law_1044 (fun v w h => ?_)
  obtain ⟨rfl, rfl⟩ := h
  refine k_re (k9 + 1) (n9 + 6) ((wM K y b S1 G1 ++ ([kJ K o 1 f1] ++ wX K x ad1 (oGet σ (xs (i + 1)) (fun τ => nI (mCs (τ.2.2 0)))).2.2 us1))) [.int (S1 0)] rfl rfl rfl rfl ?_
  refine k_topE (nI (oGet σ (xs (i + 1)) (fun τ => nI (mCs (τ.2.2 0)))).1) hc1 ?_
  refine k_iload hC dL_law_1047 rfl ?_
  refine k_icmp_eq hC 1054 dL_law_1049 (by decide) (fun c1 => ?_) (fun c1 => ?_)
  · refine k_iload hC dL_law_1054 rfl ?_
    refine k_if_ne hC 1071 dL_law_1056 (by decide) (fun c2 => ?_) (fun c2 => ?_)
    · refine k_goto hC 1587 dL_law_1071 (by decide) ?_
      refine k_lsub [0, 1, 2, 3, 4] [(0, .ref b0), (1, .ref x), (2, .ref y), (3, .ref o), (4, .int (nI i))] rfl ?_
      refine k_perm2 [] (wL K x ad1 (oGet σ (xs (i + 1)) (fun τ => nI (mCs (τ.2.2 0)))).2.2 us1 o f1 y b S1 G1) kPermM ?_
      exact kk ad1 (oGet σ (xs (i + 1)) (fun τ => nI (mCs (τ.2.2 0)))).2.2 us1 f1 S1 G1 (k9 + 1) (n9 + 6) (oGet_ok hσ (xs (i + 1)) (fun τ => nI (mCs (τ.2.2 0)))) hU1 hR1 (by omega) (by omega)
    · have h0 : (oGet σ (xs (i + 1)) (fun τ => nI (mCs (τ.2.2 0)))).1 = 0 := (kz_eq (oGet_le _ (xs (i + 1)) (fun τ => nI (mCs (τ.2.2 0))))).mp c2
      have e1 := hf1 h0
      have e2 := hb1 h0
      refine k_aload_n hC 3 dL_law_1059 rfl rfl ?_
      refine k_iconst hC (nI 0) dL_law_1060 rfl ?_
      refine k_jald hC 22 rfl (by decide) (by decide) dL_law_1061 ?_
      refine k_iload hC dL_law_1062 rfl ?_
      refine k_i2l hC dL_law_1064 ?_
      refine k_lcmp hC dL_law_1065 ?_
      refine k_if_eq hC 1071 dL_law_1066 (by decide) (fun c3 => ?_) (fun c3 => ?_)
      · refine k_goto hC 1587 dL_law_1071 (by decide) ?_
        refine k_lsub [0, 1, 2, 3, 4] [(0, .ref b0), (1, .ref x), (2, .ref y), (3, .ref o), (4, .int (nI i))] rfl ?_
        refine k_perm2 [] (wL K x ad1 (oGet σ (xs (i + 1)) (fun τ => nI (mCs (τ.2.2 0)))).2.2 us1 o f1 y b S1 G1) kPermM ?_
        exact kk ad1 (oGet σ (xs (i + 1)) (fun τ => nI (mCs (τ.2.2 0)))).2.2 us1 f1 S1 G1 (k9 + 1) (n9 + 6) (oGet_ok hσ (xs (i + 1)) (fun τ => nI (mCs (τ.2.2 0)))) hU1 hR1 (by omega) (by omega)
      · exact absurd (by rw [e1, ← e2]; exact lg_cmp_self _) c3
  · exact absurd rfl c1
set_option maxRecDepth 100000 in
set_option maxHeartbeats 4000000 in
theorem law_c16 {p : Program} {l : Launch} {e : Env} {s : State} {m : MethodId} {args : Array Value} {below : List Frame} {meth : Method} {cd : Code} {K : kE} {A : Nat → Prop} {Q : State → Prop} {b0 L : Nat} {xs : Nat → Int32} {x y o : Nat} {b : Nat → Nat} {i k9 n9 : Nat} (H0 : kHead p l s m args meth cd K A b0 L xs i k9 n9) (ad : Nat → Nat → Nat) (σ : mS) (us : Nat → Nat → Nat → Int32) (f : Nat → Int64) (S : Nat → Int32) (G : Nat → Nat → Int32) (hσ : mSok σ) (hU : mURT σ us) (hR : mRep σ S G) (kk : kCont p l e s m args below meth cd K A Q b0 x y o b i k9 n9) : kW p l e room_1 s m args below meth cd K A 7 Q k9 n9 [] (wL K x ad σ us o f y b S G) [(0, .ref b0), (1, .ref x), (2, .ref y), (3, .ref o), (4, .int (nI i))] 1074 [] := by
  obtain ⟨hst, hC, hX0, hbl, hbA, hL, hiL, hk9, hn9⟩ := H0
  refine k_aload_n hC 1 dL_law_1074 rfl rfl ?_
  refine k_aload_n hC 0 dL_law_1075 rfl rfl ?_
  refine k_iload hC dL_law_1076 rfl ?_
  refine k_iconst hC (nI 1) dL_law_1078 rfl ?_
  refine k_iaddN hC dL_law_1079 ?_
  refine k_sld hC hX0 hbl hbA (by omega) hL dL_law_1080 ?_
  refine k_aload_n hC 3 dL_law_1081 rfl rfl ?_
  refine k_callXH hC (As := [.ref x, .int (xs (i + 1)), .ref o]) (cL_left_k hst K x ad σ us hσ hU o f (xs (i + 1))) (wM K y b S G) rfl (kAll4 lkM_L_147 lkT_yL_left lkN_L lkC_yL_left) 3 (by decide) ⟨(Nat.le_of_ble_eq_true rfl), (Nat.le_of_ble_eq_true rfl)⟩ rfl rfl (Nat.le_of_ble_eq_true rfl) ⟨by show k9 + 1 ≤ 646352; omega, by show n9 + 6 ≤ 7157049; omega⟩ dL_law_1082 (fun v w h => ?_)
  obtain ⟨rfl, ad1, us1, f1, rfl, hU1, hf1⟩ := h
  refine k_re (k9 + 1) (n9 + 6) ((wL K x ad1 (oGet σ (xs (i + 1)) (fun τ => nI (τ.1 10))).2.2 us1 o f1 y b S G)) [.int (nI ((oGet σ (xs (i + 1)) (fun τ => nI (τ.1 10))).1))] rfl rfl rfl rfl ?_
  refine k_perm2 [] (wM K y b S G ++ ([kJ K o 1 f1] ++ wX K x ad1 (oGet σ (xs (i + 1)) (fun τ => nI (τ.1 10))).2.2 us1)) kPermL ?_
  refine k_istore hC dL_law_1085 (by decide) rfl [(0, .ref b0), (1, .ref x), (2, .ref y), (3, .ref o), (4, .int (nI i)), (5, .int (nI ((oGet σ (xs (i + 1)) (fun τ => nI (τ.1 10))).1)))] rfl ?_
  refine k_aload_n hC 2 dL_law_1087 rfl rfl ?_
  refine k_aload_n hC 0 dL_law_1088 rfl rfl ?_
  refine k_iload hC dL_law_1089 rfl ?_
  refine k_iconst hC (nI 1) dL_law_1091 rfl ?_
  refine k_iaddN hC dL_law_1092 ?_
  refine k_sld hC hX0 hbl hbA (by omega) hL dL_law_1093 ?_
  refine k_callV hC (As := [.int (xs (i + 1))]) (cX4_left_k l K y b S G σ hσ hR (xs (i + 1))) ([kJ K o 1 f1] ++ wX K x ad1 (oGet σ (xs (i + 1)) (fun τ => nI (τ.1 10))).2.2 us1) rfl 0 rfl rfl (kAll5 lkM_L_149 lkI_yX4_left lkS_yX4_left lkN_X4 lkC_yX4_left) 1 (by decide) ⟨(Nat.le_of_ble_eq_true rfl), (Nat.le_of_ble_eq_true rfl)⟩ rfl rfl (Nat.le_of_ble_eq_true rfl) ⟨by show k9 + 1 + 0 ≤ 646352; omega, by show n9 + 6 + 0 ≤ 7157049; omega⟩ dL_law_1094 (fun v w h => ?_)
  obtain ⟨S1, G1, b9, rfl, rfl, hc1, hb1, hR1⟩ := h
  refine k_re (k9 + 1) (n9 + 6) ((wM K y b S1 G1 ++ ([kJ K o 1 f1] ++ wX K x ad1 (oGet σ (xs (i + 1)) (fun τ => nI (τ.1 10))).2.2 us1))) [.int b9] rfl rfl rfl rfl ?_
  refine k_istore hC dL_law_1097 (by decide) rfl [(0, .ref b0), (1, .ref x), (2, .ref y), (3, .ref o), (4, .int (nI i)), (5, .int (nI ((oGet σ (xs (i + 1)) (fun τ => nI (τ.1 10))).1))), (6, .int b9)] rfl ?_
  refine k_aload_n hC 2 dL_law_1099 rfl rfl ?_
  refine k_callV hC (As := []) (cX4_thrown_k l K y b S1 G1) ([kJ K o 1 f1] ++ wX K x ad1 (oGet σ (xs (i + 1)) (fun τ => nI (τ.1 10))).2.2 us1) rfl 0 rfl rfl (kAll5 lkM_L_92 lkI_yX4_thrown lkS_yX4_thrown lkN_X4 lkC_yX4_thrown) 0 (by decide) ⟨(Nat.le_of_ble_eq_true rfl), (Nat.le_of_ble_eq_true rfl)⟩ rfl rfl (Nat.le_of_ble_eq_true rfl) ⟨by show k9 + 1 + 0 ≤ 646352; omega, by show n9 + 6 + 0 ≤ 7157049; omega⟩ dL_law_1100 (fun v w h => ?_)
  obtain ⟨rfl, rfl⟩ := h
  refine k_re (k9 + 1) (n9 + 6) ((wM K y b S1 G1 ++ ([kJ K o 1 f1] ++ wX K x ad1 (oGet σ (xs (i + 1)) (fun τ => nI (τ.1 10))).2.2 us1))) [.int (S1 0)] rfl rfl rfl rfl ?_
  refine k_topE (nI (oGet σ (xs (i + 1)) (fun τ => nI (τ.1 10))).1) hc1 ?_
  refine k_iload hC dL_law_1103 rfl ?_
  refine k_icmp_eq hC 1110 dL_law_1105 (by decide) (fun c1 => ?_) (fun c1 => ?_)
  · refine k_iload hC dL_law_1110 rfl ?_
    refine k_if_ne hC 1127 dL_law_1112 (by decide) (fun c2 => ?_) (fun c2 => ?_)
    · refine k_goto hC 1587 dL_law_1127 (by decide) ?_
      refine k_lsub [0, 1, 2, 3, 4] [(0, .ref b0), (1, .ref x), (2, .ref y), (3, .ref o), (4, .int (nI i))] rfl ?_
      refine k_perm2 [] (wL K x ad1 (oGet σ (xs (i + 1)) (fun τ => nI (τ.1 10))).2.2 us1 o f1 y b S1 G1) kPermM ?_
      exact kk ad1 (oGet σ (xs (i + 1)) (fun τ => nI (τ.1 10))).2.2 us1 f1 S1 G1 (k9 + 1) (n9 + 6) (oGet_ok hσ (xs (i + 1)) (fun τ => nI (τ.1 10))) hU1 hR1 (by omega) (by omega)
    · have h0 : (oGet σ (xs (i + 1)) (fun τ => nI (τ.1 10))).1 = 0 := (kz_eq (oGet_le _ (xs (i + 1)) (fun τ => nI (τ.1 10)))).mp c2
      have e1 := hf1 h0
      have e2 := hb1 h0
      refine k_aload_n hC 3 dL_law_1115 rfl rfl ?_
      refine k_iconst hC (nI 0) dL_law_1116 rfl ?_
      refine k_jald hC 22 rfl (by decide) (by decide) dL_law_1117 ?_
      refine k_iload hC dL_law_1118 rfl ?_
      refine k_i2l hC dL_law_1120 ?_
      refine k_lcmp hC dL_law_1121 ?_
      refine k_if_eq hC 1127 dL_law_1122 (by decide) (fun c3 => ?_) (fun c3 => ?_)
      · refine k_goto hC 1587 dL_law_1127 (by decide) ?_
        refine k_lsub [0, 1, 2, 3, 4] [(0, .ref b0), (1, .ref x), (2, .ref y), (3, .ref o), (4, .int (nI i))] rfl ?_
        refine k_perm2 [] (wL K x ad1 (oGet σ (xs (i + 1)) (fun τ => nI (τ.1 10))).2.2 us1 o f1 y b S1 G1) kPermM ?_
        exact kk ad1 (oGet σ (xs (i + 1)) (fun τ => nI (τ.1 10))).2.2 us1 f1 S1 G1 (k9 + 1) (n9 + 6) (oGet_ok hσ (xs (i + 1)) (fun τ => nI (τ.1 10))) hU1 hR1 (by omega) (by omega)
      · exact absurd (by rw [e1, ← e2]; exact lg_cmp_self _) c3
  · exact absurd rfl c1
set_option maxRecDepth 100000 in
set_option maxHeartbeats 4000000 in
theorem law_c17 {p : Program} {l : Launch} {e : Env} {s : State} {m : MethodId} {args : Array Value} {below : List Frame} {meth : Method} {cd : Code} {K : kE} {A : Nat → Prop} {Q : State → Prop} {b0 L : Nat} {xs : Nat → Int32} {x y o : Nat} {b : Nat → Nat} {i k9 n9 : Nat} (H0 : kHead p l s m args meth cd K A b0 L xs i k9 n9) (ad : Nat → Nat → Nat) (σ : mS) (us : Nat → Nat → Nat → Int32) (f : Nat → Int64) (S : Nat → Int32) (G : Nat → Nat → Int32) (hσ : mSok σ) (hU : mURT σ us) (hR : mRep σ S G) (kk : kCont p l e s m args below meth cd K A Q b0 x y o b i k9 n9) : kW p l e room_1 s m args below meth cd K A 7 Q k9 n9 [] (wL K x ad σ us o f y b S G) [(0, .ref b0), (1, .ref x), (2, .ref y), (3, .ref o), (4, .int (nI i))] 1130 [] := by
  obtain ⟨hst, hC, hX0, hbl, hbA, hL, hiL, hk9, hn9⟩ := H0
  refine k_aload_n hC 1 dL_law_1130 rfl rfl ?_
  refine k_aload_n hC 0 dL_law_1131 rfl rfl ?_
  refine k_iload hC dL_law_1132 rfl ?_
  refine k_iconst hC (nI 1) dL_law_1134 rfl ?_
  refine k_iaddN hC dL_law_1135 ?_
  refine k_sld hC hX0 hbl hbA (by omega) hL dL_law_1136 ?_
  refine k_aload_n hC 3 dL_law_1137 rfl rfl ?_
  refine k_callXH hC (As := [.ref x, .int (xs (i + 1)), .ref o]) (cL_run_k hst K x ad σ us hσ hU o f (xs (i + 1))) (wM K y b S G) rfl (kAll4 lkM_L_150 lkT_yL_run lkN_L lkC_yL_run) 3 (by decide) ⟨(Nat.le_of_ble_eq_true rfl), (Nat.le_of_ble_eq_true rfl)⟩ rfl rfl (Nat.le_of_ble_eq_true rfl) ⟨by show k9 + 1 ≤ 646352; omega, by show n9 + 6 ≤ 7157049; omega⟩ dL_law_1138 (fun v w h => ?_)
  obtain ⟨rfl, ad1, us1, f1, rfl, hU1, hf1⟩ := h
  refine k_re (k9 + 1) (n9 + 6) ((wL K x ad1 (oGet σ (xs (i + 1)) (fun τ => nI (τ.1 11))).2.2 us1 o f1 y b S G)) [.int (nI ((oGet σ (xs (i + 1)) (fun τ => nI (τ.1 11))).1))] rfl rfl rfl rfl ?_
  refine k_perm2 [] (wM K y b S G ++ ([kJ K o 1 f1] ++ wX K x ad1 (oGet σ (xs (i + 1)) (fun τ => nI (τ.1 11))).2.2 us1)) kPermL ?_
  refine k_istore hC dL_law_1141 (by decide) rfl [(0, .ref b0), (1, .ref x), (2, .ref y), (3, .ref o), (4, .int (nI i)), (5, .int (nI ((oGet σ (xs (i + 1)) (fun τ => nI (τ.1 11))).1)))] rfl ?_
  refine k_aload_n hC 2 dL_law_1143 rfl rfl ?_
  refine k_aload_n hC 0 dL_law_1144 rfl rfl ?_
  refine k_iload hC dL_law_1145 rfl ?_
  refine k_iconst hC (nI 1) dL_law_1147 rfl ?_
  refine k_iaddN hC dL_law_1148 ?_
  refine k_sld hC hX0 hbl hbA (by omega) hL dL_law_1149 ?_
  refine k_callV hC (As := [.int (xs (i + 1))]) (cX4_run_k l K y b S G σ hσ hR (xs (i + 1))) ([kJ K o 1 f1] ++ wX K x ad1 (oGet σ (xs (i + 1)) (fun τ => nI (τ.1 11))).2.2 us1) rfl 0 rfl rfl (kAll5 lkM_L_152 lkI_yX4_run lkS_yX4_run lkN_X4 lkC_yX4_run) 1 (by decide) ⟨(Nat.le_of_ble_eq_true rfl), (Nat.le_of_ble_eq_true rfl)⟩ rfl rfl (Nat.le_of_ble_eq_true rfl) ⟨by show k9 + 1 + 0 ≤ 646352; omega, by show n9 + 6 + 0 ≤ 7157049; omega⟩ dL_law_1150 (fun v w h => ?_)
  obtain ⟨S1, G1, b9, rfl, rfl, hc1, hb1, hR1⟩ := h
  refine k_re (k9 + 1) (n9 + 6) ((wM K y b S1 G1 ++ ([kJ K o 1 f1] ++ wX K x ad1 (oGet σ (xs (i + 1)) (fun τ => nI (τ.1 11))).2.2 us1))) [.int b9] rfl rfl rfl rfl ?_
  refine k_istore hC dL_law_1153 (by decide) rfl [(0, .ref b0), (1, .ref x), (2, .ref y), (3, .ref o), (4, .int (nI i)), (5, .int (nI ((oGet σ (xs (i + 1)) (fun τ => nI (τ.1 11))).1))), (6, .int b9)] rfl ?_
  refine k_aload_n hC 2 dL_law_1155 rfl rfl ?_
  refine k_callV hC (As := []) (cX4_thrown_k l K y b S1 G1) ([kJ K o 1 f1] ++ wX K x ad1 (oGet σ (xs (i + 1)) (fun τ => nI (τ.1 11))).2.2 us1) rfl 0 rfl rfl (kAll5 lkM_L_92 lkI_yX4_thrown lkS_yX4_thrown lkN_X4 lkC_yX4_thrown) 0 (by decide) ⟨(Nat.le_of_ble_eq_true rfl), (Nat.le_of_ble_eq_true rfl)⟩ rfl rfl (Nat.le_of_ble_eq_true rfl) ⟨by show k9 + 1 + 0 ≤ 646352; omega, by show n9 + 6 + 0 ≤ 7157049; omega⟩ dL_law_1156 (fun v w h => ?_)
  obtain ⟨rfl, rfl⟩ := h
  refine k_re (k9 + 1) (n9 + 6) ((wM K y b S1 G1 ++ ([kJ K o 1 f1] ++ wX K x ad1 (oGet σ (xs (i + 1)) (fun τ => nI (τ.1 11))).2.2 us1))) [.int (S1 0)] rfl rfl rfl rfl ?_
  refine k_topE (nI (oGet σ (xs (i + 1)) (fun τ => nI (τ.1 11))).1) hc1 ?_
  refine k_iload hC dL_law_1159 rfl ?_
  refine k_icmp_eq hC 1166 dL_law_1161 (by decide) (fun c1 => ?_) (fun c1 => ?_)
  · refine k_iload hC dL_law_1166 rfl ?_
    refine k_if_ne hC 1183 dL_law_1168 (by decide) (fun c2 => ?_) (fun c2 => ?_)
    · refine k_goto hC 1587 dL_law_1183 (by decide) ?_
      refine k_lsub [0, 1, 2, 3, 4] [(0, .ref b0), (1, .ref x), (2, .ref y), (3, .ref o), (4, .int (nI i))] rfl ?_
      refine k_perm2 [] (wL K x ad1 (oGet σ (xs (i + 1)) (fun τ => nI (τ.1 11))).2.2 us1 o f1 y b S1 G1) kPermM ?_
      exact kk ad1 (oGet σ (xs (i + 1)) (fun τ => nI (τ.1 11))).2.2 us1 f1 S1 G1 (k9 + 1) (n9 + 6) (oGet_ok hσ (xs (i + 1)) (fun τ => nI (τ.1 11))) hU1 hR1 (by omega) (by omega)
    · have h0 : (oGet σ (xs (i + 1)) (fun τ => nI (τ.1 11))).1 = 0 := (kz_eq (oGet_le _ (xs (i + 1)) (fun τ => nI (τ.1 11)))).mp c2
      have e1 := hf1 h0
      have e2 := hb1 h0
      refine k_aload_n hC 3 dL_law_1171 rfl rfl ?_
      refine k_iconst hC (nI 0) dL_law_1172 rfl ?_
      refine k_jald hC 22 rfl (by decide) (by decide) dL_law_1173 ?_
      refine k_iload hC dL_law_1174 rfl ?_
      refine k_i2l hC dL_law_1176 ?_
      refine k_lcmp hC dL_law_1177 ?_
      refine k_if_eq hC 1183 dL_law_1178 (by decide) (fun c3 => ?_) (fun c3 => ?_)
      · refine k_goto hC 1587 dL_law_1183 (by decide) ?_
        refine k_lsub [0, 1, 2, 3, 4] [(0, .ref b0), (1, .ref x), (2, .ref y), (3, .ref o), (4, .int (nI i))] rfl ?_
        refine k_perm2 [] (wL K x ad1 (oGet σ (xs (i + 1)) (fun τ => nI (τ.1 11))).2.2 us1 o f1 y b S1 G1) kPermM ?_
        exact kk ad1 (oGet σ (xs (i + 1)) (fun τ => nI (τ.1 11))).2.2 us1 f1 S1 G1 (k9 + 1) (n9 + 6) (oGet_ok hσ (xs (i + 1)) (fun τ => nI (τ.1 11))) hU1 hR1 (by omega) (by omega)
      · exact absurd (by rw [e1, ← e2]; exact lg_cmp_self _) c3
  · exact absurd rfl c1
set_option maxRecDepth 100000 in
set_option maxHeartbeats 4000000 in
theorem law_c18 {p : Program} {l : Launch} {e : Env} {s : State} {m : MethodId} {args : Array Value} {below : List Frame} {meth : Method} {cd : Code} {K : kE} {A : Nat → Prop} {Q : State → Prop} {b0 L : Nat} {xs : Nat → Int32} {x y o : Nat} {b : Nat → Nat} {i k9 n9 : Nat} (H0 : kHead p l s m args meth cd K A b0 L xs i k9 n9) (ad : Nat → Nat → Nat) (σ : mS) (us : Nat → Nat → Nat → Int32) (f : Nat → Int64) (S : Nat → Int32) (G : Nat → Nat → Int32) (hσ : mSok σ) (hU : mURT σ us) (hR : mRep σ S G) (kk : kCont p l e s m args below meth cd K A Q b0 x y o b i k9 n9) : kW p l e room_1 s m args below meth cd K A 7 Q k9 n9 [] (wL K x ad σ us o f y b S G) [(0, .ref b0), (1, .ref x), (2, .ref y), (3, .ref o), (4, .int (nI i))] 1186 [] := by
  obtain ⟨hst, hC, hX0, hbl, hbA, hL, hiL, hk9, hn9⟩ := H0
  refine k_aload_n hC 1 dL_law_1186 rfl rfl ?_
  refine k_aload_n hC 0 dL_law_1187 rfl rfl ?_
  refine k_iload hC dL_law_1188 rfl ?_
  refine k_iconst hC (nI 1) dL_law_1190 rfl ?_
  refine k_iaddN hC dL_law_1191 ?_
  refine k_sld hC hX0 hbl hbA (by omega) hL dL_law_1192 ?_
  refine k_aload_n hC 3 dL_law_1193 rfl rfl ?_
  refine k_callXH hC (As := [.ref x, .int (xs (i + 1)), .ref o]) (cL_market_k hst K x ad σ us hσ hU o f (xs (i + 1))) (wM K y b S G) rfl (kAll4 lkM_L_153 lkT_yL_market lkN_L lkC_yL_market) 3 (by decide) ⟨(Nat.le_of_ble_eq_true rfl), (Nat.le_of_ble_eq_true rfl)⟩ rfl rfl (Nat.le_of_ble_eq_true rfl) ⟨by show k9 + 1 ≤ 646352; omega, by show n9 + 6 ≤ 7157049; omega⟩ dL_law_1194 (fun v w h => ?_)
  obtain ⟨rfl, ad1, us1, f1, rfl, hU1, hf1⟩ := h
  refine k_re (k9 + 1) (n9 + 6) ((wL K x ad1 (oGet σ (xs (i + 1)) (fun τ => nI (mU (τ.2.2 0)))).2.2 us1 o f1 y b S G)) [.int (nI ((oGet σ (xs (i + 1)) (fun τ => nI (mU (τ.2.2 0)))).1))] rfl rfl rfl rfl ?_
  refine k_perm2 [] (wM K y b S G ++ ([kJ K o 1 f1] ++ wX K x ad1 (oGet σ (xs (i + 1)) (fun τ => nI (mU (τ.2.2 0)))).2.2 us1)) kPermL ?_
  refine k_istore hC dL_law_1197 (by decide) rfl [(0, .ref b0), (1, .ref x), (2, .ref y), (3, .ref o), (4, .int (nI i)), (5, .int (nI ((oGet σ (xs (i + 1)) (fun τ => nI (mU (τ.2.2 0)))).1)))] rfl ?_
  refine k_aload_n hC 2 dL_law_1199 rfl rfl ?_
  refine k_aload_n hC 0 dL_law_1200 rfl rfl ?_
  refine k_iload hC dL_law_1201 rfl ?_
  refine k_iconst hC (nI 1) dL_law_1203 rfl ?_
  refine k_iaddN hC dL_law_1204 ?_
  refine k_sld hC hX0 hbl hbA (by omega) hL dL_law_1205 ?_
  refine k_callV hC (As := [.int (xs (i + 1))]) (cX4_market_k l K y b S G σ hσ hR (xs (i + 1))) ([kJ K o 1 f1] ++ wX K x ad1 (oGet σ (xs (i + 1)) (fun τ => nI (mU (τ.2.2 0)))).2.2 us1) rfl 0 rfl rfl (kAll5 lkM_L_155 lkI_yX4_market lkS_yX4_market lkN_X4 lkC_yX4_market) 1 (by decide) ⟨(Nat.le_of_ble_eq_true rfl), (Nat.le_of_ble_eq_true rfl)⟩ rfl rfl (Nat.le_of_ble_eq_true rfl) ⟨by show k9 + 1 + 0 ≤ 646352; omega, by show n9 + 6 + 0 ≤ 7157049; omega⟩ dL_law_1206 (fun v w h => ?_)
  obtain ⟨S1, G1, b9, rfl, rfl, hc1, hb1, hR1⟩ := h
  refine k_re (k9 + 1) (n9 + 6) ((wM K y b S1 G1 ++ ([kJ K o 1 f1] ++ wX K x ad1 (oGet σ (xs (i + 1)) (fun τ => nI (mU (τ.2.2 0)))).2.2 us1))) [.int b9] rfl rfl rfl rfl ?_
  refine k_istore hC dL_law_1209 (by decide) rfl [(0, .ref b0), (1, .ref x), (2, .ref y), (3, .ref o), (4, .int (nI i)), (5, .int (nI ((oGet σ (xs (i + 1)) (fun τ => nI (mU (τ.2.2 0)))).1))), (6, .int b9)] rfl ?_
  refine k_aload_n hC 2 dL_law_1211 rfl rfl ?_
  refine k_callV hC (As := []) (cX4_thrown_k l K y b S1 G1) ([kJ K o 1 f1] ++ wX K x ad1 (oGet σ (xs (i + 1)) (fun τ => nI (mU (τ.2.2 0)))).2.2 us1) rfl 0 rfl rfl (kAll5 lkM_L_92 lkI_yX4_thrown lkS_yX4_thrown lkN_X4 lkC_yX4_thrown) 0 (by decide) ⟨(Nat.le_of_ble_eq_true rfl), (Nat.le_of_ble_eq_true rfl)⟩ rfl rfl (Nat.le_of_ble_eq_true rfl) ⟨by show k9 + 1 + 0 ≤ 646352; omega, by show n9 + 6 + 0 ≤ 7157049; omega⟩ dL_law_1212 (fun v w h => ?_)
  obtain ⟨rfl, rfl⟩ := h
  refine k_re (k9 + 1) (n9 + 6) ((wM K y b S1 G1 ++ ([kJ K o 1 f1] ++ wX K x ad1 (oGet σ (xs (i + 1)) (fun τ => nI (mU (τ.2.2 0)))).2.2 us1))) [.int (S1 0)] rfl rfl rfl rfl ?_
  refine k_topE (nI (oGet σ (xs (i + 1)) (fun τ => nI (mU (τ.2.2 0)))).1) hc1 ?_
  refine k_iload hC dL_law_1215 rfl ?_
  refine k_icmp_eq hC 1222 dL_law_1217 (by decide) (fun c1 => ?_) (fun c1 => ?_)
  · refine k_iload hC dL_law_1222 rfl ?_
    refine k_if_ne hC 1239 dL_law_1224 (by decide) (fun c2 => ?_) (fun c2 => ?_)
    · refine k_goto hC 1587 dL_law_1239 (by decide) ?_
      refine k_lsub [0, 1, 2, 3, 4] [(0, .ref b0), (1, .ref x), (2, .ref y), (3, .ref o), (4, .int (nI i))] rfl ?_
      refine k_perm2 [] (wL K x ad1 (oGet σ (xs (i + 1)) (fun τ => nI (mU (τ.2.2 0)))).2.2 us1 o f1 y b S1 G1) kPermM ?_
      exact kk ad1 (oGet σ (xs (i + 1)) (fun τ => nI (mU (τ.2.2 0)))).2.2 us1 f1 S1 G1 (k9 + 1) (n9 + 6) (oGet_ok hσ (xs (i + 1)) (fun τ => nI (mU (τ.2.2 0)))) hU1 hR1 (by omega) (by omega)
    · have h0 : (oGet σ (xs (i + 1)) (fun τ => nI (mU (τ.2.2 0)))).1 = 0 := (kz_eq (oGet_le _ (xs (i + 1)) (fun τ => nI (mU (τ.2.2 0))))).mp c2
      have e1 := hf1 h0
      have e2 := hb1 h0
      refine k_aload_n hC 3 dL_law_1227 rfl rfl ?_
      refine k_iconst hC (nI 0) dL_law_1228 rfl ?_
      refine k_jald hC 22 rfl (by decide) (by decide) dL_law_1229 ?_
      refine k_iload hC dL_law_1230 rfl ?_
      refine k_i2l hC dL_law_1232 ?_
      refine k_lcmp hC dL_law_1233 ?_
      refine k_if_eq hC 1239 dL_law_1234 (by decide) (fun c3 => ?_) (fun c3 => ?_)
      · refine k_goto hC 1587 dL_law_1239 (by decide) ?_
        refine k_lsub [0, 1, 2, 3, 4] [(0, .ref b0), (1, .ref x), (2, .ref y), (3, .ref o), (4, .int (nI i))] rfl ?_
        refine k_perm2 [] (wL K x ad1 (oGet σ (xs (i + 1)) (fun τ => nI (mU (τ.2.2 0)))).2.2 us1 o f1 y b S1 G1) kPermM ?_
        exact kk ad1 (oGet σ (xs (i + 1)) (fun τ => nI (mU (τ.2.2 0)))).2.2 us1 f1 S1 G1 (k9 + 1) (n9 + 6) (oGet_ok hσ (xs (i + 1)) (fun τ => nI (mU (τ.2.2 0)))) hU1 hR1 (by omega) (by omega)
      · exact absurd (by rw [e1, ← e2]; exact lg_cmp_self _) c3
  · exact absurd rfl c1
set_option maxRecDepth 100000 in
set_option maxHeartbeats 4000000 in
theorem law_c19 {p : Program} {l : Launch} {e : Env} {s : State} {m : MethodId} {args : Array Value} {below : List Frame} {meth : Method} {cd : Code} {K : kE} {A : Nat → Prop} {Q : State → Prop} {b0 L : Nat} {xs : Nat → Int32} {x y o : Nat} {b : Nat → Nat} {i k9 n9 : Nat} (H0 : kHead p l s m args meth cd K A b0 L xs i k9 n9) (ad : Nat → Nat → Nat) (σ : mS) (us : Nat → Nat → Nat → Int32) (f : Nat → Int64) (S : Nat → Int32) (G : Nat → Nat → Int32) (hσ : mSok σ) (hU : mURT σ us) (hR : mRep σ S G) (kk : kCont p l e s m args below meth cd K A Q b0 x y o b i k9 n9) : kW p l e room_1 s m args below meth cd K A 7 Q k9 n9 [] (wL K x ad σ us o f y b S G) [(0, .ref b0), (1, .ref x), (2, .ref y), (3, .ref o), (4, .int (nI i))] 1242 [] := by
  obtain ⟨hst, hC, hX0, hbl, hbA, hL, hiL, hk9, hn9⟩ := H0
  refine k_aload_n hC 1 dL_law_1242 rfl rfl ?_
  refine k_aload_n hC 0 dL_law_1243 rfl rfl ?_
  refine k_iload hC dL_law_1244 rfl ?_
  refine k_iconst hC (nI 1) dL_law_1246 rfl ?_
  refine k_iaddN hC dL_law_1247 ?_
  refine k_sld hC hX0 hbl hbA (by omega) hL dL_law_1248 ?_
  refine k_aload_n hC 3 dL_law_1249 rfl rfl ?_
  refine k_callXH hC (As := [.ref x, .int (xs (i + 1)), .ref o]) (cL_inbox_k hst K x ad σ us hσ hU o f (xs (i + 1))) (wM K y b S G) rfl (kAll4 lkM_L_156 lkT_yL_inbox lkN_L lkC_yL_inbox) 3 (by decide) ⟨(Nat.le_of_ble_eq_true rfl), (Nat.le_of_ble_eq_true rfl)⟩ rfl rfl (Nat.le_of_ble_eq_true rfl) ⟨by show k9 + 1 ≤ 646352; omega, by show n9 + 6 ≤ 7157049; omega⟩ dL_law_1250 (fun v w h => ?_)
  obtain ⟨rfl, ad1, us1, f1, rfl, hU1, hf1⟩ := h
  refine k_re (k9 + 1) (n9 + 6) ((wL K x ad1 (oGet σ (xs (i + 1)) (fun τ => nI (mU (τ.2.2 1)))).2.2 us1 o f1 y b S G)) [.int (nI ((oGet σ (xs (i + 1)) (fun τ => nI (mU (τ.2.2 1)))).1))] rfl rfl rfl rfl ?_
  refine k_perm2 [] (wM K y b S G ++ ([kJ K o 1 f1] ++ wX K x ad1 (oGet σ (xs (i + 1)) (fun τ => nI (mU (τ.2.2 1)))).2.2 us1)) kPermL ?_
  refine k_istore hC dL_law_1253 (by decide) rfl [(0, .ref b0), (1, .ref x), (2, .ref y), (3, .ref o), (4, .int (nI i)), (5, .int (nI ((oGet σ (xs (i + 1)) (fun τ => nI (mU (τ.2.2 1)))).1)))] rfl ?_
  refine k_aload_n hC 2 dL_law_1255 rfl rfl ?_
  refine k_aload_n hC 0 dL_law_1256 rfl rfl ?_
  refine k_iload hC dL_law_1257 rfl ?_
  refine k_iconst hC (nI 1) dL_law_1259 rfl ?_
  refine k_iaddN hC dL_law_1260 ?_
  refine k_sld hC hX0 hbl hbA (by omega) hL dL_law_1261 ?_
  refine k_callV hC (As := [.int (xs (i + 1))]) (cX4_inbox_k l K y b S G σ hσ hR (xs (i + 1))) ([kJ K o 1 f1] ++ wX K x ad1 (oGet σ (xs (i + 1)) (fun τ => nI (mU (τ.2.2 1)))).2.2 us1) rfl 0 rfl rfl (kAll5 lkM_L_158 lkI_yX4_inbox lkS_yX4_inbox lkN_X4 lkC_yX4_inbox) 1 (by decide) ⟨(Nat.le_of_ble_eq_true rfl), (Nat.le_of_ble_eq_true rfl)⟩ rfl rfl (Nat.le_of_ble_eq_true rfl) ⟨by show k9 + 1 + 0 ≤ 646352; omega, by show n9 + 6 + 0 ≤ 7157049; omega⟩ dL_law_1262 (fun v w h => ?_)
  obtain ⟨S1, G1, b9, rfl, rfl, hc1, hb1, hR1⟩ := h
  refine k_re (k9 + 1) (n9 + 6) ((wM K y b S1 G1 ++ ([kJ K o 1 f1] ++ wX K x ad1 (oGet σ (xs (i + 1)) (fun τ => nI (mU (τ.2.2 1)))).2.2 us1))) [.int b9] rfl rfl rfl rfl ?_
  refine k_istore hC dL_law_1265 (by decide) rfl [(0, .ref b0), (1, .ref x), (2, .ref y), (3, .ref o), (4, .int (nI i)), (5, .int (nI ((oGet σ (xs (i + 1)) (fun τ => nI (mU (τ.2.2 1)))).1))), (6, .int b9)] rfl ?_
  refine k_aload_n hC 2 dL_law_1267 rfl rfl ?_
  refine k_callV hC (As := []) (cX4_thrown_k l K y b S1 G1) ([kJ K o 1 f1] ++ wX K x ad1 (oGet σ (xs (i + 1)) (fun τ => nI (mU (τ.2.2 1)))).2.2 us1) rfl 0 rfl rfl (kAll5 lkM_L_92 lkI_yX4_thrown lkS_yX4_thrown lkN_X4 lkC_yX4_thrown) 0 (by decide) ⟨(Nat.le_of_ble_eq_true rfl), (Nat.le_of_ble_eq_true rfl)⟩ rfl rfl (Nat.le_of_ble_eq_true rfl) ⟨by show k9 + 1 + 0 ≤ 646352; omega, by show n9 + 6 + 0 ≤ 7157049; omega⟩ dL_law_1268 (fun v w h => ?_)
  obtain ⟨rfl, rfl⟩ := h
  refine k_re (k9 + 1) (n9 + 6) ((wM K y b S1 G1 ++ ([kJ K o 1 f1] ++ wX K x ad1 (oGet σ (xs (i + 1)) (fun τ => nI (mU (τ.2.2 1)))).2.2 us1))) [.int (S1 0)] rfl rfl rfl rfl ?_
  refine k_topE (nI (oGet σ (xs (i + 1)) (fun τ => nI (mU (τ.2.2 1)))).1) hc1 ?_
  refine k_iload hC dL_law_1271 rfl ?_
  refine k_icmp_eq hC 1278 dL_law_1273 (by decide) (fun c1 => ?_) (fun c1 => ?_)
  · refine k_iload hC dL_law_1278 rfl ?_
    refine k_if_ne hC 1295 dL_law_1280 (by decide) (fun c2 => ?_) (fun c2 => ?_)
    · refine k_goto hC 1587 dL_law_1295 (by decide) ?_
      refine k_lsub [0, 1, 2, 3, 4] [(0, .ref b0), (1, .ref x), (2, .ref y), (3, .ref o), (4, .int (nI i))] rfl ?_
      refine k_perm2 [] (wL K x ad1 (oGet σ (xs (i + 1)) (fun τ => nI (mU (τ.2.2 1)))).2.2 us1 o f1 y b S1 G1) kPermM ?_
      exact kk ad1 (oGet σ (xs (i + 1)) (fun τ => nI (mU (τ.2.2 1)))).2.2 us1 f1 S1 G1 (k9 + 1) (n9 + 6) (oGet_ok hσ (xs (i + 1)) (fun τ => nI (mU (τ.2.2 1)))) hU1 hR1 (by omega) (by omega)
    · have h0 : (oGet σ (xs (i + 1)) (fun τ => nI (mU (τ.2.2 1)))).1 = 0 := (kz_eq (oGet_le _ (xs (i + 1)) (fun τ => nI (mU (τ.2.2 1))))).mp c2
      have e1 := hf1 h0
      have e2 := hb1 h0
      refine k_aload_n hC 3 dL_law_1283 rfl rfl ?_
      refine k_iconst hC (nI 0) dL_law_1284 rfl ?_
      refine k_jald hC 22 rfl (by decide) (by decide) dL_law_1285 ?_
      refine k_iload hC dL_law_1286 rfl ?_
      refine k_i2l hC dL_law_1288 ?_
      refine k_lcmp hC dL_law_1289 ?_
      refine k_if_eq hC 1295 dL_law_1290 (by decide) (fun c3 => ?_) (fun c3 => ?_)
      · refine k_goto hC 1587 dL_law_1295 (by decide) ?_
        refine k_lsub [0, 1, 2, 3, 4] [(0, .ref b0), (1, .ref x), (2, .ref y), (3, .ref o), (4, .int (nI i))] rfl ?_
        refine k_perm2 [] (wL K x ad1 (oGet σ (xs (i + 1)) (fun τ => nI (mU (τ.2.2 1)))).2.2 us1 o f1 y b S1 G1) kPermM ?_
        exact kk ad1 (oGet σ (xs (i + 1)) (fun τ => nI (mU (τ.2.2 1)))).2.2 us1 f1 S1 G1 (k9 + 1) (n9 + 6) (oGet_ok hσ (xs (i + 1)) (fun τ => nI (mU (τ.2.2 1)))) hU1 hR1 (by omega) (by omega)
      · exact absurd (by rw [e1, ← e2]; exact lg_cmp_self _) c3
  · exact absurd rfl c1
set_option maxRecDepth 100000 in
set_option maxHeartbeats 4000000 in
theorem law_c20 {p : Program} {l : Launch} {e : Env} {s : State} {m : MethodId} {args : Array Value} {below : List Frame} {meth : Method} {cd : Code} {K : kE} {A : Nat → Prop} {Q : State → Prop} {b0 L : Nat} {xs : Nat → Int32} {x y o : Nat} {b : Nat → Nat} {i k9 n9 : Nat} (H0 : kHead p l s m args meth cd K A b0 L xs i k9 n9) (ad : Nat → Nat → Nat) (σ : mS) (us : Nat → Nat → Nat → Int32) (f : Nat → Int64) (S : Nat → Int32) (G : Nat → Nat → Int32) (hσ : mSok σ) (hU : mURT σ us) (hR : mRep σ S G) (kk : kCont p l e s m args below meth cd K A Q b0 x y o b i k9 n9) : kW p l e room_1 s m args below meth cd K A 7 Q k9 n9 [] (wL K x ad σ us o f y b S G) [(0, .ref b0), (1, .ref x), (2, .ref y), (3, .ref o), (4, .int (nI i))] 1298 [] := by
  obtain ⟨hst, hC, hX0, hbl, hbA, hL, hiL, hk9, hn9⟩ := H0
  refine k_aload_n hC 1 dL_law_1298 rfl rfl ?_
  refine k_aload_n hC 0 dL_law_1299 rfl rfl ?_
  refine k_iload hC dL_law_1300 rfl ?_
  refine k_iconst hC (nI 1) dL_law_1302 rfl ?_
  refine k_iaddN hC dL_law_1303 ?_
  refine k_sld hC hX0 hbl hbA (by omega) hL dL_law_1304 ?_
  refine k_aload_n hC 3 dL_law_1305 rfl rfl ?_
  refine k_callXH hC (As := [.ref x, .int (xs (i + 1)), .ref o]) (cL_waiting_k hst K x ad σ us hσ hU o f (xs (i + 1))) (wM K y b S G) rfl (kAll4 lkM_L_159 lkT_yL_waiting lkN_L lkC_yL_waiting) 3 (by decide) ⟨(Nat.le_of_ble_eq_true rfl), (Nat.le_of_ble_eq_true rfl)⟩ rfl rfl (Nat.le_of_ble_eq_true rfl) ⟨by show k9 + 1 ≤ 646352; omega, by show n9 + 6 ≤ 7157049; omega⟩ dL_law_1306 (fun v w h => ?_)
  obtain ⟨rfl, ad1, us1, f1, rfl, hU1, hf1⟩ := h
  refine k_re (k9 + 1) (n9 + 6) ((wL K x ad1 (oGet σ (xs (i + 1)) (fun τ => nI (τ.1 14))).2.2 us1 o f1 y b S G)) [.int (nI ((oGet σ (xs (i + 1)) (fun τ => nI (τ.1 14))).1))] rfl rfl rfl rfl ?_
  refine k_perm2 [] (wM K y b S G ++ ([kJ K o 1 f1] ++ wX K x ad1 (oGet σ (xs (i + 1)) (fun τ => nI (τ.1 14))).2.2 us1)) kPermL ?_
  refine k_istore hC dL_law_1309 (by decide) rfl [(0, .ref b0), (1, .ref x), (2, .ref y), (3, .ref o), (4, .int (nI i)), (5, .int (nI ((oGet σ (xs (i + 1)) (fun τ => nI (τ.1 14))).1)))] rfl ?_
  refine k_aload_n hC 2 dL_law_1311 rfl rfl ?_
  refine k_aload_n hC 0 dL_law_1312 rfl rfl ?_
  refine k_iload hC dL_law_1313 rfl ?_
  refine k_iconst hC (nI 1) dL_law_1315 rfl ?_
  refine k_iaddN hC dL_law_1316 ?_
  refine k_sld hC hX0 hbl hbA (by omega) hL dL_law_1317 ?_
  refine k_callV hC (As := [.int (xs (i + 1))]) (cX4_waiting_k l K y b S G σ hσ hR (xs (i + 1))) ([kJ K o 1 f1] ++ wX K x ad1 (oGet σ (xs (i + 1)) (fun τ => nI (τ.1 14))).2.2 us1) rfl 0 rfl rfl (kAll5 lkM_L_161 lkI_yX4_waiting lkS_yX4_waiting lkN_X4 lkC_yX4_waiting) 1 (by decide) ⟨(Nat.le_of_ble_eq_true rfl), (Nat.le_of_ble_eq_true rfl)⟩ rfl rfl (Nat.le_of_ble_eq_true rfl) ⟨by show k9 + 1 + 0 ≤ 646352; omega, by show n9 + 6 + 0 ≤ 7157049; omega⟩ dL_law_1318 (fun v w h => ?_)
  obtain ⟨S1, G1, b9, rfl, rfl, hc1, hb1, hR1⟩ := h
  refine k_re (k9 + 1) (n9 + 6) ((wM K y b S1 G1 ++ ([kJ K o 1 f1] ++ wX K x ad1 (oGet σ (xs (i + 1)) (fun τ => nI (τ.1 14))).2.2 us1))) [.int b9] rfl rfl rfl rfl ?_
  refine k_istore hC dL_law_1321 (by decide) rfl [(0, .ref b0), (1, .ref x), (2, .ref y), (3, .ref o), (4, .int (nI i)), (5, .int (nI ((oGet σ (xs (i + 1)) (fun τ => nI (τ.1 14))).1))), (6, .int b9)] rfl ?_
  refine k_aload_n hC 2 dL_law_1323 rfl rfl ?_
  refine k_callV hC (As := []) (cX4_thrown_k l K y b S1 G1) ([kJ K o 1 f1] ++ wX K x ad1 (oGet σ (xs (i + 1)) (fun τ => nI (τ.1 14))).2.2 us1) rfl 0 rfl rfl (kAll5 lkM_L_92 lkI_yX4_thrown lkS_yX4_thrown lkN_X4 lkC_yX4_thrown) 0 (by decide) ⟨(Nat.le_of_ble_eq_true rfl), (Nat.le_of_ble_eq_true rfl)⟩ rfl rfl (Nat.le_of_ble_eq_true rfl) ⟨by show k9 + 1 + 0 ≤ 646352; omega, by show n9 + 6 + 0 ≤ 7157049; omega⟩ dL_law_1324 (fun v w h => ?_)
  obtain ⟨rfl, rfl⟩ := h
  refine k_re (k9 + 1) (n9 + 6) ((wM K y b S1 G1 ++ ([kJ K o 1 f1] ++ wX K x ad1 (oGet σ (xs (i + 1)) (fun τ => nI (τ.1 14))).2.2 us1))) [.int (S1 0)] rfl rfl rfl rfl ?_
  refine k_topE (nI (oGet σ (xs (i + 1)) (fun τ => nI (τ.1 14))).1) hc1 ?_
  refine k_iload hC dL_law_1327 rfl ?_
  refine k_icmp_eq hC 1334 dL_law_1329 (by decide) (fun c1 => ?_) (fun c1 => ?_)
  · refine k_iload hC dL_law_1334 rfl ?_
    refine k_if_ne hC 1351 dL_law_1336 (by decide) (fun c2 => ?_) (fun c2 => ?_)
    · refine k_goto hC 1587 dL_law_1351 (by decide) ?_
      refine k_lsub [0, 1, 2, 3, 4] [(0, .ref b0), (1, .ref x), (2, .ref y), (3, .ref o), (4, .int (nI i))] rfl ?_
      refine k_perm2 [] (wL K x ad1 (oGet σ (xs (i + 1)) (fun τ => nI (τ.1 14))).2.2 us1 o f1 y b S1 G1) kPermM ?_
      exact kk ad1 (oGet σ (xs (i + 1)) (fun τ => nI (τ.1 14))).2.2 us1 f1 S1 G1 (k9 + 1) (n9 + 6) (oGet_ok hσ (xs (i + 1)) (fun τ => nI (τ.1 14))) hU1 hR1 (by omega) (by omega)
    · have h0 : (oGet σ (xs (i + 1)) (fun τ => nI (τ.1 14))).1 = 0 := (kz_eq (oGet_le _ (xs (i + 1)) (fun τ => nI (τ.1 14)))).mp c2
      have e1 := hf1 h0
      have e2 := hb1 h0
      refine k_aload_n hC 3 dL_law_1339 rfl rfl ?_
      refine k_iconst hC (nI 0) dL_law_1340 rfl ?_
      refine k_jald hC 22 rfl (by decide) (by decide) dL_law_1341 ?_
      refine k_iload hC dL_law_1342 rfl ?_
      refine k_i2l hC dL_law_1344 ?_
      refine k_lcmp hC dL_law_1345 ?_
      refine k_if_eq hC 1351 dL_law_1346 (by decide) (fun c3 => ?_) (fun c3 => ?_)
      · refine k_goto hC 1587 dL_law_1351 (by decide) ?_
        refine k_lsub [0, 1, 2, 3, 4] [(0, .ref b0), (1, .ref x), (2, .ref y), (3, .ref o), (4, .int (nI i))] rfl ?_
        refine k_perm2 [] (wL K x ad1 (oGet σ (xs (i + 1)) (fun τ => nI (τ.1 14))).2.2 us1 o f1 y b S1 G1) kPermM ?_
        exact kk ad1 (oGet σ (xs (i + 1)) (fun τ => nI (τ.1 14))).2.2 us1 f1 S1 G1 (k9 + 1) (n9 + 6) (oGet_ok hσ (xs (i + 1)) (fun τ => nI (τ.1 14))) hU1 hR1 (by omega) (by omega)
      · exact absurd (by rw [e1, ← e2]; exact lg_cmp_self _) c3
  · exact absurd rfl c1
set_option maxRecDepth 100000 in
set_option maxHeartbeats 4000000 in
theorem law_c21 {p : Program} {l : Launch} {e : Env} {s : State} {m : MethodId} {args : Array Value} {below : List Frame} {meth : Method} {cd : Code} {K : kE} {A : Nat → Prop} {Q : State → Prop} {b0 L : Nat} {xs : Nat → Int32} {x y o : Nat} {b : Nat → Nat} {i k9 n9 : Nat} (H0 : kHead p l s m args meth cd K A b0 L xs i k9 n9) (ad : Nat → Nat → Nat) (σ : mS) (us : Nat → Nat → Nat → Int32) (f : Nat → Int64) (S : Nat → Int32) (G : Nat → Nat → Int32) (hσ : mSok σ) (hU : mURT σ us) (hR : mRep σ S G) (kk : kCont p l e s m args below meth cd K A Q b0 x y o b i k9 n9) : kW p l e room_1 s m args below meth cd K A 7 Q k9 n9 [] (wL K x ad σ us o f y b S G) [(0, .ref b0), (1, .ref x), (2, .ref y), (3, .ref o), (4, .int (nI i))] 1354 [] := by
  obtain ⟨hst, hC, hX0, hbl, hbA, hL, hiL, hk9, hn9⟩ := H0
  refine k_aload_n hC 1 dL_law_1354 rfl rfl ?_
  refine k_aload_n hC 0 dL_law_1355 rfl rfl ?_
  refine k_iload hC dL_law_1356 rfl ?_
  refine k_iconst hC (nI 1) dL_law_1358 rfl ?_
  refine k_iaddN hC dL_law_1359 ?_
  refine k_sld hC hX0 hbl hbA (by omega) hL dL_law_1360 ?_
  refine k_aload_n hC 3 dL_law_1361 rfl rfl ?_
  refine k_callXH hC (As := [.ref x, .int (xs (i + 1)), .ref o]) (cL_travelling_k hst K x ad σ us hσ hU o f (xs (i + 1))) (wM K y b S G) rfl (kAll4 lkM_L_162 lkT_yL_travelling lkN_L lkC_yL_travelling) 3 (by decide) ⟨(Nat.le_of_ble_eq_true rfl), (Nat.le_of_ble_eq_true rfl)⟩ rfl rfl (Nat.le_of_ble_eq_true rfl) ⟨by show k9 + 1 ≤ 646352; omega, by show n9 + 6 ≤ 7157049; omega⟩ dL_law_1362 (fun v w h => ?_)
  obtain ⟨rfl, ad1, us1, f1, rfl, hU1, hf1⟩ := h
  refine k_re (k9 + 1) (n9 + 6) ((wL K x ad1 (oGet σ (xs (i + 1)) (fun τ => nI (τ.2.2 2).length)).2.2 us1 o f1 y b S G)) [.int (nI ((oGet σ (xs (i + 1)) (fun τ => nI (τ.2.2 2).length)).1))] rfl rfl rfl rfl ?_
  refine k_perm2 [] (wM K y b S G ++ ([kJ K o 1 f1] ++ wX K x ad1 (oGet σ (xs (i + 1)) (fun τ => nI (τ.2.2 2).length)).2.2 us1)) kPermL ?_
  refine k_istore hC dL_law_1365 (by decide) rfl [(0, .ref b0), (1, .ref x), (2, .ref y), (3, .ref o), (4, .int (nI i)), (5, .int (nI ((oGet σ (xs (i + 1)) (fun τ => nI (τ.2.2 2).length)).1)))] rfl ?_
  refine k_aload_n hC 2 dL_law_1367 rfl rfl ?_
  refine k_aload_n hC 0 dL_law_1368 rfl rfl ?_
  refine k_iload hC dL_law_1369 rfl ?_
  refine k_iconst hC (nI 1) dL_law_1371 rfl ?_
  refine k_iaddN hC dL_law_1372 ?_
  refine k_sld hC hX0 hbl hbA (by omega) hL dL_law_1373 ?_
  refine k_callV hC (As := [.int (xs (i + 1))]) (cX4_travelling_k l K y b S G σ hσ hR (xs (i + 1))) ([kJ K o 1 f1] ++ wX K x ad1 (oGet σ (xs (i + 1)) (fun τ => nI (τ.2.2 2).length)).2.2 us1) rfl 0 rfl rfl (kAll5 lkM_L_164 lkI_yX4_travelling lkS_yX4_travelling lkN_X4 lkC_yX4_travelling) 1 (by decide) ⟨(Nat.le_of_ble_eq_true rfl), (Nat.le_of_ble_eq_true rfl)⟩ rfl rfl (Nat.le_of_ble_eq_true rfl) ⟨by show k9 + 1 + 0 ≤ 646352; omega, by show n9 + 6 + 0 ≤ 7157049; omega⟩ dL_law_1374 (fun v w h => ?_)
  obtain ⟨S1, G1, b9, rfl, rfl, hc1, hb1, hR1⟩ := h
  refine k_re (k9 + 1) (n9 + 6) ((wM K y b S1 G1 ++ ([kJ K o 1 f1] ++ wX K x ad1 (oGet σ (xs (i + 1)) (fun τ => nI (τ.2.2 2).length)).2.2 us1))) [.int b9] rfl rfl rfl rfl ?_
  refine k_istore hC dL_law_1377 (by decide) rfl [(0, .ref b0), (1, .ref x), (2, .ref y), (3, .ref o), (4, .int (nI i)), (5, .int (nI ((oGet σ (xs (i + 1)) (fun τ => nI (τ.2.2 2).length)).1))), (6, .int b9)] rfl ?_
  refine k_aload_n hC 2 dL_law_1379 rfl rfl ?_
  refine k_callV hC (As := []) (cX4_thrown_k l K y b S1 G1) ([kJ K o 1 f1] ++ wX K x ad1 (oGet σ (xs (i + 1)) (fun τ => nI (τ.2.2 2).length)).2.2 us1) rfl 0 rfl rfl (kAll5 lkM_L_92 lkI_yX4_thrown lkS_yX4_thrown lkN_X4 lkC_yX4_thrown) 0 (by decide) ⟨(Nat.le_of_ble_eq_true rfl), (Nat.le_of_ble_eq_true rfl)⟩ rfl rfl (Nat.le_of_ble_eq_true rfl) ⟨by show k9 + 1 + 0 ≤ 646352; omega, by show n9 + 6 + 0 ≤ 7157049; omega⟩ dL_law_1380 (fun v w h => ?_)
  obtain ⟨rfl, rfl⟩ := h
  refine k_re (k9 + 1) (n9 + 6) ((wM K y b S1 G1 ++ ([kJ K o 1 f1] ++ wX K x ad1 (oGet σ (xs (i + 1)) (fun τ => nI (τ.2.2 2).length)).2.2 us1))) [.int (S1 0)] rfl rfl rfl rfl ?_
  refine k_topE (nI (oGet σ (xs (i + 1)) (fun τ => nI (τ.2.2 2).length)).1) hc1 ?_
  refine k_iload hC dL_law_1383 rfl ?_
  refine k_icmp_eq hC 1390 dL_law_1385 (by decide) (fun c1 => ?_) (fun c1 => ?_)
  · refine k_iload hC dL_law_1390 rfl ?_
    refine k_if_ne hC 1407 dL_law_1392 (by decide) (fun c2 => ?_) (fun c2 => ?_)
    · refine k_goto hC 1587 dL_law_1407 (by decide) ?_
      refine k_lsub [0, 1, 2, 3, 4] [(0, .ref b0), (1, .ref x), (2, .ref y), (3, .ref o), (4, .int (nI i))] rfl ?_
      refine k_perm2 [] (wL K x ad1 (oGet σ (xs (i + 1)) (fun τ => nI (τ.2.2 2).length)).2.2 us1 o f1 y b S1 G1) kPermM ?_
      exact kk ad1 (oGet σ (xs (i + 1)) (fun τ => nI (τ.2.2 2).length)).2.2 us1 f1 S1 G1 (k9 + 1) (n9 + 6) (oGet_ok hσ (xs (i + 1)) (fun τ => nI (τ.2.2 2).length)) hU1 hR1 (by omega) (by omega)
    · have h0 : (oGet σ (xs (i + 1)) (fun τ => nI (τ.2.2 2).length)).1 = 0 := (kz_eq (oGet_le _ (xs (i + 1)) (fun τ => nI (τ.2.2 2).length))).mp c2
      have e1 := hf1 h0
      have e2 := hb1 h0
      refine k_aload_n hC 3 dL_law_1395 rfl rfl ?_
      refine k_iconst hC (nI 0) dL_law_1396 rfl ?_
      refine k_jald hC 22 rfl (by decide) (by decide) dL_law_1397 ?_
      refine k_iload hC dL_law_1398 rfl ?_
      refine k_i2l hC dL_law_1400 ?_
      refine k_lcmp hC dL_law_1401 ?_
      refine k_if_eq hC 1407 dL_law_1402 (by decide) (fun c3 => ?_) (fun c3 => ?_)
      · refine k_goto hC 1587 dL_law_1407 (by decide) ?_
        refine k_lsub [0, 1, 2, 3, 4] [(0, .ref b0), (1, .ref x), (2, .ref y), (3, .ref o), (4, .int (nI i))] rfl ?_
        refine k_perm2 [] (wL K x ad1 (oGet σ (xs (i + 1)) (fun τ => nI (τ.2.2 2).length)).2.2 us1 o f1 y b S1 G1) kPermM ?_
        exact kk ad1 (oGet σ (xs (i + 1)) (fun τ => nI (τ.2.2 2).length)).2.2 us1 f1 S1 G1 (k9 + 1) (n9 + 6) (oGet_ok hσ (xs (i + 1)) (fun τ => nI (τ.2.2 2).length)) hU1 hR1 (by omega) (by omega)
      · exact absurd (by rw [e1, ← e2]; exact lg_cmp_self _) c3
  · exact absurd rfl c1
set_option maxRecDepth 100000 in
set_option maxHeartbeats 4000000 in
theorem law_c22 {p : Program} {l : Launch} {e : Env} {s : State} {m : MethodId} {args : Array Value} {below : List Frame} {meth : Method} {cd : Code} {K : kE} {A : Nat → Prop} {Q : State → Prop} {b0 L : Nat} {xs : Nat → Int32} {x y o : Nat} {b : Nat → Nat} {i k9 n9 : Nat} (H0 : kHead p l s m args meth cd K A b0 L xs i k9 n9) (ad : Nat → Nat → Nat) (σ : mS) (us : Nat → Nat → Nat → Int32) (f : Nat → Int64) (S : Nat → Int32) (G : Nat → Nat → Int32) (hσ : mSok σ) (hU : mURT σ us) (hR : mRep σ S G) (kk : kCont p l e s m args below meth cd K A Q b0 x y o b i k9 n9) : kW p l e room_1 s m args below meth cd K A 7 Q k9 n9 [] (wL K x ad σ us o f y b S G) [(0, .ref b0), (1, .ref x), (2, .ref y), (3, .ref o), (4, .int (nI i))] 1410 [] := by
  obtain ⟨hst, hC, hX0, hbl, hbA, hL, hiL, hk9, hn9⟩ := H0
  refine k_aload_n hC 1 dL_law_1410 rfl rfl ?_
  refine k_aload_n hC 0 dL_law_1411 rfl rfl ?_
  refine k_iload hC dL_law_1412 rfl ?_
  refine k_iconst hC (nI 1) dL_law_1414 rfl ?_
  refine k_iaddN hC dL_law_1415 ?_
  refine k_sld hC hX0 hbl hbA (by omega) hL dL_law_1416 ?_
  refine k_aload_n hC 3 dL_law_1417 rfl rfl ?_
  refine k_callXH hC (As := [.ref x, .int (xs (i + 1)), .ref o]) (cL_firstUnits_k hst K x ad σ us hσ hU o f (xs (i + 1))) (wM K y b S G) rfl (kAll4 lkM_L_165 lkT_yL_firstUnits lkN_L lkC_yL_firstUnits) 3 (by decide) ⟨(Nat.le_of_ble_eq_true rfl), (Nat.le_of_ble_eq_true rfl)⟩ rfl rfl (Nat.le_of_ble_eq_true rfl) ⟨by show k9 + 1 ≤ 646352; omega, by show n9 + 6 ≤ 7157049; omega⟩ dL_law_1418 (fun v w h => ?_)
  obtain ⟨rfl, ad1, us1, f1, rfl, hU1, hf1⟩ := h
  refine k_re (k9 + 1) (n9 + 6) ((wL K x ad1 (oGet σ (xs (i + 1)) (fun τ => nI (mg (τ.2.2 0) 0).1)).2.2 us1 o f1 y b S G)) [.int (nI ((oGet σ (xs (i + 1)) (fun τ => nI (mg (τ.2.2 0) 0).1)).1))] rfl rfl rfl rfl ?_
  refine k_perm2 [] (wM K y b S G ++ ([kJ K o 1 f1] ++ wX K x ad1 (oGet σ (xs (i + 1)) (fun τ => nI (mg (τ.2.2 0) 0).1)).2.2 us1)) kPermL ?_
  refine k_istore hC dL_law_1421 (by decide) rfl [(0, .ref b0), (1, .ref x), (2, .ref y), (3, .ref o), (4, .int (nI i)), (5, .int (nI ((oGet σ (xs (i + 1)) (fun τ => nI (mg (τ.2.2 0) 0).1)).1)))] rfl ?_
  refine k_aload_n hC 2 dL_law_1423 rfl rfl ?_
  refine k_aload_n hC 0 dL_law_1424 rfl rfl ?_
  refine k_iload hC dL_law_1425 rfl ?_
  refine k_iconst hC (nI 1) dL_law_1427 rfl ?_
  refine k_iaddN hC dL_law_1428 ?_
  refine k_sld hC hX0 hbl hbA (by omega) hL dL_law_1429 ?_
  refine k_callV hC (As := [.int (xs (i + 1))]) (cX4_firstUnits_k l K y b S G σ hσ hR (xs (i + 1))) ([kJ K o 1 f1] ++ wX K x ad1 (oGet σ (xs (i + 1)) (fun τ => nI (mg (τ.2.2 0) 0).1)).2.2 us1) rfl 0 rfl rfl (kAll5 lkM_L_167 lkI_yX4_firstUnits lkS_yX4_firstUnits lkN_X4 lkC_yX4_firstUnits) 1 (by decide) ⟨(Nat.le_of_ble_eq_true rfl), (Nat.le_of_ble_eq_true rfl)⟩ rfl rfl (Nat.le_of_ble_eq_true rfl) ⟨by show k9 + 1 + 0 ≤ 646352; omega, by show n9 + 6 + 0 ≤ 7157049; omega⟩ dL_law_1430 (fun v w h => ?_)
  obtain ⟨S1, G1, b9, rfl, rfl, hc1, hb1, hR1⟩ := h
  refine k_re (k9 + 1) (n9 + 6) ((wM K y b S1 G1 ++ ([kJ K o 1 f1] ++ wX K x ad1 (oGet σ (xs (i + 1)) (fun τ => nI (mg (τ.2.2 0) 0).1)).2.2 us1))) [.int b9] rfl rfl rfl rfl ?_
  refine k_istore hC dL_law_1433 (by decide) rfl [(0, .ref b0), (1, .ref x), (2, .ref y), (3, .ref o), (4, .int (nI i)), (5, .int (nI ((oGet σ (xs (i + 1)) (fun τ => nI (mg (τ.2.2 0) 0).1)).1))), (6, .int b9)] rfl ?_
  refine k_aload_n hC 2 dL_law_1435 rfl rfl ?_
  refine k_callV hC (As := []) (cX4_thrown_k l K y b S1 G1) ([kJ K o 1 f1] ++ wX K x ad1 (oGet σ (xs (i + 1)) (fun τ => nI (mg (τ.2.2 0) 0).1)).2.2 us1) rfl 0 rfl rfl (kAll5 lkM_L_92 lkI_yX4_thrown lkS_yX4_thrown lkN_X4 lkC_yX4_thrown) 0 (by decide) ⟨(Nat.le_of_ble_eq_true rfl), (Nat.le_of_ble_eq_true rfl)⟩ rfl rfl (Nat.le_of_ble_eq_true rfl) ⟨by show k9 + 1 + 0 ≤ 646352; omega, by show n9 + 6 + 0 ≤ 7157049; omega⟩ dL_law_1436 (fun v w h => ?_)
  obtain ⟨rfl, rfl⟩ := h
  refine k_re (k9 + 1) (n9 + 6) ((wM K y b S1 G1 ++ ([kJ K o 1 f1] ++ wX K x ad1 (oGet σ (xs (i + 1)) (fun τ => nI (mg (τ.2.2 0) 0).1)).2.2 us1))) [.int (S1 0)] rfl rfl rfl rfl ?_
  refine k_topE (nI (oGet σ (xs (i + 1)) (fun τ => nI (mg (τ.2.2 0) 0).1)).1) hc1 ?_
  refine k_iload hC dL_law_1439 rfl ?_
  refine k_icmp_eq hC 1446 dL_law_1441 (by decide) (fun c1 => ?_) (fun c1 => ?_)
  · refine k_iload hC dL_law_1446 rfl ?_
    refine k_if_ne hC 1463 dL_law_1448 (by decide) (fun c2 => ?_) (fun c2 => ?_)
    · refine k_goto hC 1587 dL_law_1463 (by decide) ?_
      refine k_lsub [0, 1, 2, 3, 4] [(0, .ref b0), (1, .ref x), (2, .ref y), (3, .ref o), (4, .int (nI i))] rfl ?_
      refine k_perm2 [] (wL K x ad1 (oGet σ (xs (i + 1)) (fun τ => nI (mg (τ.2.2 0) 0).1)).2.2 us1 o f1 y b S1 G1) kPermM ?_
      exact kk ad1 (oGet σ (xs (i + 1)) (fun τ => nI (mg (τ.2.2 0) 0).1)).2.2 us1 f1 S1 G1 (k9 + 1) (n9 + 6) (oGet_ok hσ (xs (i + 1)) (fun τ => nI (mg (τ.2.2 0) 0).1)) hU1 hR1 (by omega) (by omega)
    · have h0 : (oGet σ (xs (i + 1)) (fun τ => nI (mg (τ.2.2 0) 0).1)).1 = 0 := (kz_eq (oGet_le _ (xs (i + 1)) (fun τ => nI (mg (τ.2.2 0) 0).1))).mp c2
      have e1 := hf1 h0
      have e2 := hb1 h0
      refine k_aload_n hC 3 dL_law_1451 rfl rfl ?_
      refine k_iconst hC (nI 0) dL_law_1452 rfl ?_
      refine k_jald hC 22 rfl (by decide) (by decide) dL_law_1453 ?_
      refine k_iload hC dL_law_1454 rfl ?_
      refine k_i2l hC dL_law_1456 ?_
      refine k_lcmp hC dL_law_1457 ?_
      refine k_if_eq hC 1463 dL_law_1458 (by decide) (fun c3 => ?_) (fun c3 => ?_)
      · refine k_goto hC 1587 dL_law_1463 (by decide) ?_
        refine k_lsub [0, 1, 2, 3, 4] [(0, .ref b0), (1, .ref x), (2, .ref y), (3, .ref o), (4, .int (nI i))] rfl ?_
        refine k_perm2 [] (wL K x ad1 (oGet σ (xs (i + 1)) (fun τ => nI (mg (τ.2.2 0) 0).1)).2.2 us1 o f1 y b S1 G1) kPermM ?_
        exact kk ad1 (oGet σ (xs (i + 1)) (fun τ => nI (mg (τ.2.2 0) 0).1)).2.2 us1 f1 S1 G1 (k9 + 1) (n9 + 6) (oGet_ok hσ (xs (i + 1)) (fun τ => nI (mg (τ.2.2 0) 0).1)) hU1 hR1 (by omega) (by omega)
      · exact absurd (by rw [e1, ← e2]; exact lg_cmp_self _) c3
  · exact absurd rfl c1
set_option maxRecDepth 100000 in
set_option maxHeartbeats 4000000 in
theorem law_c26 {p : Program} {l : Launch} {e : Env} {s : State} {m : MethodId} {args : Array Value} {below : List Frame} {meth : Method} {cd : Code} {K : kE} {A : Nat → Prop} {Q : State → Prop} {b0 L : Nat} {xs : Nat → Int32} {x y o : Nat} {b : Nat → Nat} {i k9 n9 : Nat} (H0 : kHead p l s m args meth cd K A b0 L xs i k9 n9) (ad : Nat → Nat → Nat) (σ : mS) (us : Nat → Nat → Nat → Int32) (f : Nat → Int64) (S : Nat → Int32) (G : Nat → Nat → Int32) (hσ : mSok σ) (hU : mURT σ us) (hR : mRep σ S G) (kk : kCont p l e s m args below meth cd K A Q b0 x y o b i k9 n9) : kW p l e room_1 s m args below meth cd K A 7 Q k9 n9 [] (wL K x ad σ us o f y b S G) [(0, .ref b0), (1, .ref x), (2, .ref y), (3, .ref o), (4, .int (nI i))] 1505 [] := by
  obtain ⟨hst, hC, hX0, hbl, hbA, hL, hiL, hk9, hn9⟩ := H0
  refine k_aload_n hC 1 dL_law_1505 rfl rfl ?_
  refine k_aload_n hC 0 dL_law_1506 rfl rfl ?_
  refine k_iload hC dL_law_1507 rfl ?_
  refine k_iconst hC (nI 1) dL_law_1509 rfl ?_
  refine k_iaddN hC dL_law_1510 ?_
  refine k_sld hC hX0 hbl hbA (by omega) hL dL_law_1511 ?_
  refine k_aload_n hC 3 dL_law_1512 rfl rfl ?_
  refine k_callXH hC (As := [.ref x, .int (xs (i + 1)), .ref o]) (cL_starved_k hst K x ad σ us hσ hU o f (xs (i + 1))) (wM K y b S G) rfl (kAll4 lkM_L_180 lkT_yL_starved lkN_L lkC_yL_starved) 3 (by decide) ⟨(Nat.le_of_ble_eq_true rfl), (Nat.le_of_ble_eq_true rfl)⟩ rfl rfl (Nat.le_of_ble_eq_true rfl) ⟨by show k9 + 1 ≤ 646352; omega, by show n9 + 6 ≤ 7157049; omega⟩ dL_law_1513 (fun v w h => ?_)
  obtain ⟨rfl, ad1, us1, f1, rfl, hU1, hf1⟩ := h
  refine k_re (k9 + 1) (n9 + 6) ((wL K x ad1 (oGet σ (xs (i + 1)) (fun τ => τ.2.1 0)).2.2 us1 o f1 y b S G)) [.int (nI ((oGet σ (xs (i + 1)) (fun τ => τ.2.1 0)).1))] rfl rfl rfl rfl ?_
  refine k_perm2 [] (wM K y b S G ++ ([kJ K o 1 f1] ++ wX K x ad1 (oGet σ (xs (i + 1)) (fun τ => τ.2.1 0)).2.2 us1)) kPermL ?_
  refine k_istore hC dL_law_1516 (by decide) rfl [(0, .ref b0), (1, .ref x), (2, .ref y), (3, .ref o), (4, .int (nI i)), (5, .int (nI ((oGet σ (xs (i + 1)) (fun τ => τ.2.1 0)).1)))] rfl ?_
  refine k_aload_n hC 2 dL_law_1518 rfl rfl ?_
  refine k_aload_n hC 0 dL_law_1519 rfl rfl ?_
  refine k_iload hC dL_law_1520 rfl ?_
  refine k_iconst hC (nI 1) dL_law_1522 rfl ?_
  refine k_iaddN hC dL_law_1523 ?_
  refine k_sld hC hX0 hbl hbA (by omega) hL dL_law_1524 ?_
  refine k_callV hC (As := [.int (xs (i + 1))]) (cX4_starved_k l K y b S G σ hσ hR (xs (i + 1))) ([kJ K o 1 f1] ++ wX K x ad1 (oGet σ (xs (i + 1)) (fun τ => τ.2.1 0)).2.2 us1) rfl 0 rfl rfl (kAll5 lkM_L_182 lkI_yX4_starved lkS_yX4_starved lkN_X4 lkC_yX4_starved) 1 (by decide) ⟨(Nat.le_of_ble_eq_true rfl), (Nat.le_of_ble_eq_true rfl)⟩ rfl rfl (Nat.le_of_ble_eq_true rfl) ⟨by show k9 + 1 + 0 ≤ 646352; omega, by show n9 + 6 + 0 ≤ 7157049; omega⟩ dL_law_1525 (fun v w h => ?_)
  obtain ⟨S1, G1, b9, rfl, rfl, hc1, hb1, hR1⟩ := h
  refine k_re (k9 + 1) (n9 + 6) ((wM K y b S1 G1 ++ ([kJ K o 1 f1] ++ wX K x ad1 (oGet σ (xs (i + 1)) (fun τ => τ.2.1 0)).2.2 us1))) [.int b9] rfl rfl rfl rfl ?_
  refine k_istore hC dL_law_1528 (by decide) rfl [(0, .ref b0), (1, .ref x), (2, .ref y), (3, .ref o), (4, .int (nI i)), (5, .int (nI ((oGet σ (xs (i + 1)) (fun τ => τ.2.1 0)).1))), (6, .int b9)] rfl ?_
  refine k_aload_n hC 2 dL_law_1530 rfl rfl ?_
  refine k_callV hC (As := []) (cX4_thrown_k l K y b S1 G1) ([kJ K o 1 f1] ++ wX K x ad1 (oGet σ (xs (i + 1)) (fun τ => τ.2.1 0)).2.2 us1) rfl 0 rfl rfl (kAll5 lkM_L_92 lkI_yX4_thrown lkS_yX4_thrown lkN_X4 lkC_yX4_thrown) 0 (by decide) ⟨(Nat.le_of_ble_eq_true rfl), (Nat.le_of_ble_eq_true rfl)⟩ rfl rfl (Nat.le_of_ble_eq_true rfl) ⟨by show k9 + 1 + 0 ≤ 646352; omega, by show n9 + 6 + 0 ≤ 7157049; omega⟩ dL_law_1531 (fun v w h => ?_)
  obtain ⟨rfl, rfl⟩ := h
  refine k_re (k9 + 1) (n9 + 6) ((wM K y b S1 G1 ++ ([kJ K o 1 f1] ++ wX K x ad1 (oGet σ (xs (i + 1)) (fun τ => τ.2.1 0)).2.2 us1))) [.int (S1 0)] rfl rfl rfl rfl ?_
  refine k_topE (nI (oGet σ (xs (i + 1)) (fun τ => τ.2.1 0)).1) hc1 ?_
  refine k_iload hC dL_law_1534 rfl ?_
  refine k_icmp_eq hC 1541 dL_law_1536 (by decide) (fun c1 => ?_) (fun c1 => ?_)
  · refine k_iload hC dL_law_1541 rfl ?_
    refine k_if_ne hC 1558 dL_law_1543 (by decide) (fun c2 => ?_) (fun c2 => ?_)
    · refine k_goto hC 1587 dL_law_1558 (by decide) ?_
      refine k_lsub [0, 1, 2, 3, 4] [(0, .ref b0), (1, .ref x), (2, .ref y), (3, .ref o), (4, .int (nI i))] rfl ?_
      refine k_perm2 [] (wL K x ad1 (oGet σ (xs (i + 1)) (fun τ => τ.2.1 0)).2.2 us1 o f1 y b S1 G1) kPermM ?_
      exact kk ad1 (oGet σ (xs (i + 1)) (fun τ => τ.2.1 0)).2.2 us1 f1 S1 G1 (k9 + 1) (n9 + 6) (oGet_ok hσ (xs (i + 1)) (fun τ => τ.2.1 0)) hU1 hR1 (by omega) (by omega)
    · have h0 : (oGet σ (xs (i + 1)) (fun τ => τ.2.1 0)).1 = 0 := (kz_eq (oGet_le _ (xs (i + 1)) (fun τ => τ.2.1 0))).mp c2
      have e1 := hf1 h0
      have e2 := hb1 h0
      refine k_aload_n hC 3 dL_law_1546 rfl rfl ?_
      refine k_iconst hC (nI 0) dL_law_1547 rfl ?_
      refine k_jald hC 22 rfl (by decide) (by decide) dL_law_1548 ?_
      refine k_iload hC dL_law_1549 rfl ?_
      refine k_i2l hC dL_law_1551 ?_
      refine k_lcmp hC dL_law_1552 ?_
      refine k_if_eq hC 1558 dL_law_1553 (by decide) (fun c3 => ?_) (fun c3 => ?_)
      · refine k_goto hC 1587 dL_law_1558 (by decide) ?_
        refine k_lsub [0, 1, 2, 3, 4] [(0, .ref b0), (1, .ref x), (2, .ref y), (3, .ref o), (4, .int (nI i))] rfl ?_
        refine k_perm2 [] (wL K x ad1 (oGet σ (xs (i + 1)) (fun τ => τ.2.1 0)).2.2 us1 o f1 y b S1 G1) kPermM ?_
        exact kk ad1 (oGet σ (xs (i + 1)) (fun τ => τ.2.1 0)).2.2 us1 f1 S1 G1 (k9 + 1) (n9 + 6) (oGet_ok hσ (xs (i + 1)) (fun τ => τ.2.1 0)) hU1 hR1 (by omega) (by omega)
      · exact absurd (by rw [e1, ← e2]; exact lg_cmp_self _) c3
  · exact absurd rfl c1
set_option maxRecDepth 100000 in
set_option maxHeartbeats 4000000 in
theorem law_c3 {p : Program} {l : Launch} {e : Env} {s : State} {m : MethodId} {args : Array Value} {below : List Frame} {meth : Method} {cd : Code} {K : kE} {A : Nat → Prop} {Q : State → Prop} {b0 L : Nat} {xs : Nat → Int32} {x y o : Nat} {b : Nat → Nat} {i k9 n9 : Nat} (H0 : kHead p l s m args meth cd K A b0 L xs i k9 n9) (ad : Nat → Nat → Nat) (σ : mS) (us : Nat → Nat → Nat → Int32) (f : Nat → Int64) (S : Nat → Int32) (G : Nat → Nat → Int32) (hσ : mSok σ) (hU : mURT σ us) (hR : mRep σ S G) (kk : kCont p l e s m args below meth cd K A Q b0 x y o b i k9 n9) : kW p l e room_1 s m args below meth cd K A 7 Q k9 n9 [] (wL K x ad σ us o f y b S G) [(0, .ref b0), (1, .ref x), (2, .ref y), (3, .ref o), (4, .int (nI i))] 428 [] := by
  obtain ⟨hst, hC, hX0, hbl, hbA, hL, hiL, hk9, hn9⟩ := H0
  refine k_aload_n hC 1 dL_law_428 rfl rfl ?_
  refine k_aload_n hC 0 dL_law_429 rfl rfl ?_
  refine k_iload hC dL_law_430 rfl ?_
  refine k_iconst hC (nI 1) dL_law_432 rfl ?_
  refine k_iaddN hC dL_law_433 ?_
  refine k_sld hC hX0 hbl hbA (by omega) hL dL_law_434 ?_
  refine k_if_eq hC 442 dL_law_435 (by decide) (fun z9 => ?_) (fun z9 => ?_)
  · refine k_iconst hC (nI 0) dL_law_442 rfl ?_
    refine k_topE (kB false) rfl ?_
    refine k_eX (List.append_assoc _ _ _) ?_
    refine k_callV hC (As := [.int (kB false)]) (cX3_rule_k l K x ad σ us hσ hU false) ([kJ K o 1 f] ++ wM K y b S G) rfl 0 rfl rfl (kAll5 lkM_L_103 lkI_yX3_rule lkS_yX3_rule lkN_X3 lkC_yX3_rule) 1 (by decide) ⟨(Nat.le_of_ble_eq_true rfl), (Nat.le_of_ble_eq_true rfl)⟩ rfl rfl (Nat.le_of_ble_eq_true rfl) ⟨by show k9 + 0 ≤ 646352; omega, by show n9 + 0 ≤ 7157049; omega⟩ dL_law_443 (fun v w h => ?_)
    obtain ⟨-, rfl, ad1, us1, rfl, hU1⟩ := h
    refine k_re (k9) (n9) ((wX K x ad1 (oRule σ false).2.2 us1 ++ ([kJ K o 1 f] ++ wM K y b S G))) [.int ((oRule σ false).2.1)] rfl rfl rfl rfl ?_
    refine k_perm2 [] (wM K y b S G ++ ([kJ K o 1 f] ++ wX K x ad1 (oRule σ false).2.2 us1)) kPermN ?_
    refine k_aload_n hC 2 dL_law_446 rfl rfl ?_
    refine k_aload_n hC 0 dL_law_447 rfl rfl ?_
    refine k_iload hC dL_law_448 rfl ?_
    refine k_iconst hC (nI 1) dL_law_450 rfl ?_
    refine k_iaddN hC dL_law_451 ?_
    refine k_sld hC hX0 hbl hbA (by omega) hL dL_law_452 ?_
    refine k_if_eq hC 460 dL_law_453 (by decide) (fun z8 => ?_) (fun z8 => ?_)
    · refine k_iconst hC (nI 0) dL_law_460 rfl ?_
      refine k_topE (kB false) rfl ?_
      refine k_callV hC (As := [.int (kB false)]) (cX4_rule_k l K y b S G σ hσ hR false) ([kJ K o 1 f] ++ wX K x ad1 (oRule σ false).2.2 us1) rfl 0 rfl rfl (kAll5 lkM_L_107 lkI_yX4_rule lkS_yX4_rule lkN_X4 lkC_yX4_rule) 1 (by decide) ⟨(Nat.le_of_ble_eq_true rfl), (Nat.le_of_ble_eq_true rfl)⟩ rfl rfl (Nat.le_of_ble_eq_true rfl) ⟨by show k9 + 0 ≤ 646352; omega, by show n9 + 0 ≤ 7157049; omega⟩ dL_law_461 (fun v w h => ?_)
      obtain ⟨S1, G1, b9, rfl, rfl, hc1, hb1, hR1⟩ := h
      refine k_re (k9) (n9) ((wM K y b S1 G1 ++ ([kJ K o 1 f] ++ wX K x ad1 (oRule σ false).2.2 us1))) [.int b9, .int ((oRule σ false).2.1)] rfl rfl rfl rfl ?_
      refine k_topE ((oRule σ false).2.1) (hb1 rfl) ?_
      refine k_icmp_eq hC 1587 dL_law_464 (by decide) (fun c1 => ?_) (fun c1 => ?_)
      · refine k_lsub [0, 1, 2, 3, 4] [(0, .ref b0), (1, .ref x), (2, .ref y), (3, .ref o), (4, .int (nI i))] rfl ?_
        refine k_perm2 [] (wL K x ad1 (oRule σ false).2.2 us1 o f y b S1 G1) kPermM ?_
        exact kk ad1 (oRule σ false).2.2 us1 f S1 G1 (k9) (n9) ⟨hσ.1, hσ.2⟩ hU1 hR1 (by omega) (by omega)
      · exact absurd rfl c1
    · exact absurd z9 z8
  · refine k_iconst hC (nI 1) dL_law_438 rfl ?_
    refine k_topE (kB true) rfl ?_
    refine k_goto hC 443 dL_law_439 (by decide) ?_
    refine k_eX (List.append_assoc _ _ _) ?_
    refine k_callV hC (As := [.int (kB true)]) (cX3_rule_k l K x ad σ us hσ hU true) ([kJ K o 1 f] ++ wM K y b S G) rfl 0 rfl rfl (kAll5 lkM_L_103 lkI_yX3_rule lkS_yX3_rule lkN_X3 lkC_yX3_rule) 1 (by decide) ⟨(Nat.le_of_ble_eq_true rfl), (Nat.le_of_ble_eq_true rfl)⟩ rfl rfl (Nat.le_of_ble_eq_true rfl) ⟨by show k9 + 0 ≤ 646352; omega, by show n9 + 0 ≤ 7157049; omega⟩ dL_law_443 (fun v w h => ?_)
    obtain ⟨-, rfl, ad1, us1, rfl, hU1⟩ := h
    refine k_re (k9) (n9) ((wX K x ad1 (oRule σ true).2.2 us1 ++ ([kJ K o 1 f] ++ wM K y b S G))) [.int ((oRule σ true).2.1)] rfl rfl rfl rfl ?_
    refine k_perm2 [] (wM K y b S G ++ ([kJ K o 1 f] ++ wX K x ad1 (oRule σ true).2.2 us1)) kPermN ?_
    refine k_aload_n hC 2 dL_law_446 rfl rfl ?_
    refine k_aload_n hC 0 dL_law_447 rfl rfl ?_
    refine k_iload hC dL_law_448 rfl ?_
    refine k_iconst hC (nI 1) dL_law_450 rfl ?_
    refine k_iaddN hC dL_law_451 ?_
    refine k_sld hC hX0 hbl hbA (by omega) hL dL_law_452 ?_
    refine k_if_eq hC 460 dL_law_453 (by decide) (fun z8 => ?_) (fun z8 => ?_)
    · exact absurd z8 z9
    · refine k_iconst hC (nI 1) dL_law_456 rfl ?_
      refine k_topE (kB true) rfl ?_
      refine k_goto hC 461 dL_law_457 (by decide) ?_
      refine k_callV hC (As := [.int (kB true)]) (cX4_rule_k l K y b S G σ hσ hR true) ([kJ K o 1 f] ++ wX K x ad1 (oRule σ true).2.2 us1) rfl 0 rfl rfl (kAll5 lkM_L_107 lkI_yX4_rule lkS_yX4_rule lkN_X4 lkC_yX4_rule) 1 (by decide) ⟨(Nat.le_of_ble_eq_true rfl), (Nat.le_of_ble_eq_true rfl)⟩ rfl rfl (Nat.le_of_ble_eq_true rfl) ⟨by show k9 + 0 ≤ 646352; omega, by show n9 + 0 ≤ 7157049; omega⟩ dL_law_461 (fun v w h => ?_)
      obtain ⟨S1, G1, b9, rfl, rfl, hc1, hb1, hR1⟩ := h
      refine k_re (k9) (n9) ((wM K y b S1 G1 ++ ([kJ K o 1 f] ++ wX K x ad1 (oRule σ true).2.2 us1))) [.int b9, .int ((oRule σ true).2.1)] rfl rfl rfl rfl ?_
      refine k_topE ((oRule σ true).2.1) (hb1 rfl) ?_
      refine k_icmp_eq hC 1587 dL_law_464 (by decide) (fun c1 => ?_) (fun c1 => ?_)
      · refine k_lsub [0, 1, 2, 3, 4] [(0, .ref b0), (1, .ref x), (2, .ref y), (3, .ref o), (4, .int (nI i))] rfl ?_
        refine k_perm2 [] (wL K x ad1 (oRule σ true).2.2 us1 o f y b S1 G1) kPermM ?_
        exact kk ad1 (oRule σ true).2.2 us1 f S1 G1 (k9) (n9) ⟨hσ.1, hσ.2⟩ hU1 hR1 (by omega) (by omega)
      · exact absurd rfl c1
set_option maxRecDepth 100000 in
set_option maxHeartbeats 4000000 in
theorem law_c12 {p : Program} {l : Launch} {e : Env} {s : State} {m : MethodId} {args : Array Value} {below : List Frame} {meth : Method} {cd : Code} {K : kE} {A : Nat → Prop} {Q : State → Prop} {b0 L : Nat} {xs : Nat → Int32} {x y o : Nat} {b : Nat → Nat} {i k9 n9 : Nat} (H0 : kHead p l s m args meth cd K A b0 L xs i k9 n9) (ad : Nat → Nat → Nat) (σ : mS) (us : Nat → Nat → Nat → Int32) (f : Nat → Int64) (S : Nat → Int32) (G : Nat → Nat → Int32) (hσ : mSok σ) (hU : mURT σ us) (hR : mRep σ S G) (kk : kCont p l e s m args below meth cd K A Q b0 x y o b i k9 n9) : kW p l e room_1 s m args below meth cd K A 7 Q k9 n9 [] (wL K x ad σ us o f y b S G) [(0, .ref b0), (1, .ref x), (2, .ref y), (3, .ref o), (4, .int (nI i))] 936 [] := by
  obtain ⟨hst, hC, hX0, hbl, hbA, hL, hiL, hk9, hn9⟩ := H0
  refine k_eX (List.append_assoc _ _ _) ?_
  refine k_aload_n hC 1 dL_law_936 rfl rfl ?_
  refine k_callV hC (As := []) (cX3_time_k l K x ad σ us hσ hU) ([kJ K o 1 f] ++ wM K y b S G) rfl 0 rfl rfl (kAll5 lkM_L_133 lkI_yX3_time lkS_yX3_time lkN_X3 lkC_yX3_time) 0 (by decide) ⟨(Nat.le_of_ble_eq_true rfl), (Nat.le_of_ble_eq_true rfl)⟩ rfl rfl (Nat.le_of_ble_eq_true rfl) ⟨by show k9 + 0 ≤ 646352; omega, by show n9 + 0 ≤ 7157049; omega⟩ dL_law_937 (fun v w h => ?_)
  obtain ⟨-, rfl, ad1, us1, rfl, hU1⟩ := h
  refine k_re (k9) (n9) ((wX K x ad1 (0, σ.2.2.1 4, σ).2.2 us1 ++ ([kJ K o 1 f] ++ wM K y b S G))) [.int ((0, σ.2.2.1 4, σ).2.1)] rfl rfl rfl rfl ?_
  refine k_perm2 [] (wM K y b S G ++ ([kJ K o 1 f] ++ wX K x ad1 (0, σ.2.2.1 4, σ).2.2 us1)) kPermN ?_
  refine k_aload_n hC 2 dL_law_940 rfl rfl ?_
  refine k_callV hC (As := []) (cX4_time_k l K y b S G σ hσ hR) ([kJ K o 1 f] ++ wX K x ad1 (0, σ.2.2.1 4, σ).2.2 us1) rfl 0 rfl rfl (kAll5 lkM_L_136 lkI_yX4_time lkS_yX4_time lkN_X4 lkC_yX4_time) 0 (by decide) ⟨(Nat.le_of_ble_eq_true rfl), (Nat.le_of_ble_eq_true rfl)⟩ rfl rfl (Nat.le_of_ble_eq_true rfl) ⟨by show k9 + 0 ≤ 646352; omega, by show n9 + 0 ≤ 7157049; omega⟩ dL_law_941 (fun v w h => ?_)
  obtain ⟨S1, G1, b9, rfl, rfl, hc1, hb1, hR1⟩ := h
  refine k_re (k9) (n9) ((wM K y b S1 G1 ++ ([kJ K o 1 f] ++ wX K x ad1 (0, σ.2.2.1 4, σ).2.2 us1))) [.int b9, .int ((0, σ.2.2.1 4, σ).2.1)] rfl rfl rfl rfl ?_
  refine k_topE ((0, σ.2.2.1 4, σ).2.1) (hb1 rfl) ?_
  refine k_icmp_eq hC 1587 dL_law_944 (by decide) (fun c1 => ?_) (fun c1 => ?_)
  · refine k_lsub [0, 1, 2, 3, 4] [(0, .ref b0), (1, .ref x), (2, .ref y), (3, .ref o), (4, .int (nI i))] rfl ?_
    refine k_perm2 [] (wL K x ad1 (0, σ.2.2.1 4, σ).2.2 us1 o f y b S1 G1) kPermM ?_
    exact kk ad1 (0, σ.2.2.1 4, σ).2.2 us1 f S1 G1 (k9) (n9) hσ hU1 hR1 (by omega) (by omega)
  · exact absurd rfl c1
set_option maxRecDepth 100000 in
set_option maxHeartbeats 4000000 in
theorem law_c13 {p : Program} {l : Launch} {e : Env} {s : State} {m : MethodId} {args : Array Value} {below : List Frame} {meth : Method} {cd : Code} {K : kE} {A : Nat → Prop} {Q : State → Prop} {b0 L : Nat} {xs : Nat → Int32} {x y o : Nat} {b : Nat → Nat} {i k9 n9 : Nat} (H0 : kHead p l s m args meth cd K A b0 L xs i k9 n9) (ad : Nat → Nat → Nat) (σ : mS) (us : Nat → Nat → Nat → Int32) (f : Nat → Int64) (S : Nat → Int32) (G : Nat → Nat → Int32) (hσ : mSok σ) (hU : mURT σ us) (hR : mRep σ S G) (kk : kCont p l e s m args below meth cd K A Q b0 x y o b i k9 n9) : kW p l e room_1 s m args below meth cd K A 7 Q k9 n9 [] (wL K x ad σ us o f y b S G) [(0, .ref b0), (1, .ref x), (2, .ref y), (3, .ref o), (4, .int (nI i))] 949 [] := by
  obtain ⟨hst, hC, hX0, hbl, hbA, hL, hiL, hk9, hn9⟩ := H0
  refine k_eX (List.append_assoc _ _ _) ?_
  refine k_aload_n hC 1 dL_law_949 rfl rfl ?_
  refine k_callV hC (As := []) (cX3_stages_k l K x ad σ us hσ hU) ([kJ K o 1 f] ++ wM K y b S G) rfl 0 rfl rfl (kAll5 lkM_L_137 lkI_yX3_stages lkS_yX3_stages lkN_X3 lkC_yX3_stages) 0 (by decide) ⟨(Nat.le_of_ble_eq_true rfl), (Nat.le_of_ble_eq_true rfl)⟩ rfl rfl (Nat.le_of_ble_eq_true rfl) ⟨by show k9 + 0 ≤ 646352; omega, by show n9 + 0 ≤ 7157049; omega⟩ dL_law_950 (fun v w h => ?_)
  obtain ⟨-, rfl, ad1, us1, rfl, hU1⟩ := h
  refine k_re (k9) (n9) ((wX K x ad1 (0, nI σ.1, σ).2.2 us1 ++ ([kJ K o 1 f] ++ wM K y b S G))) [.int ((0, nI σ.1, σ).2.1)] rfl rfl rfl rfl ?_
  refine k_perm2 [] (wM K y b S G ++ ([kJ K o 1 f] ++ wX K x ad1 (0, nI σ.1, σ).2.2 us1)) kPermN ?_
  refine k_aload_n hC 2 dL_law_953 rfl rfl ?_
  refine k_callV hC (As := []) (cX4_stages_k l K y b S G σ hσ hR) ([kJ K o 1 f] ++ wX K x ad1 (0, nI σ.1, σ).2.2 us1) rfl 0 rfl rfl (kAll5 lkM_L_140 lkI_yX4_stages lkS_yX4_stages lkN_X4 lkC_yX4_stages) 0 (by decide) ⟨(Nat.le_of_ble_eq_true rfl), (Nat.le_of_ble_eq_true rfl)⟩ rfl rfl (Nat.le_of_ble_eq_true rfl) ⟨by show k9 + 0 ≤ 646352; omega, by show n9 + 0 ≤ 7157049; omega⟩ dL_law_954 (fun v w h => ?_)
  obtain ⟨S1, G1, b9, rfl, rfl, hc1, hb1, hR1⟩ := h
  refine k_re (k9) (n9) ((wM K y b S1 G1 ++ ([kJ K o 1 f] ++ wX K x ad1 (0, nI σ.1, σ).2.2 us1))) [.int b9, .int ((0, nI σ.1, σ).2.1)] rfl rfl rfl rfl ?_
  refine k_topE ((0, nI σ.1, σ).2.1) (hb1 rfl) ?_
  refine k_icmp_eq hC 1587 dL_law_957 (by decide) (fun c1 => ?_) (fun c1 => ?_)
  · refine k_lsub [0, 1, 2, 3, 4] [(0, .ref b0), (1, .ref x), (2, .ref y), (3, .ref o), (4, .int (nI i))] rfl ?_
    refine k_perm2 [] (wL K x ad1 (0, nI σ.1, σ).2.2 us1 o f y b S1 G1) kPermM ?_
    exact kk ad1 (0, nI σ.1, σ).2.2 us1 f S1 G1 (k9) (n9) hσ hU1 hR1 (by omega) (by omega)
  · exact absurd rfl c1
set_option maxRecDepth 100000 in
set_option maxHeartbeats 4000000 in
theorem law_c23 {p : Program} {l : Launch} {e : Env} {s : State} {m : MethodId} {args : Array Value} {below : List Frame} {meth : Method} {cd : Code} {K : kE} {A : Nat → Prop} {Q : State → Prop} {b0 L : Nat} {xs : Nat → Int32} {x y o : Nat} {b : Nat → Nat} {i k9 n9 : Nat} (H0 : kHead p l s m args meth cd K A b0 L xs i k9 n9) (ad : Nat → Nat → Nat) (σ : mS) (us : Nat → Nat → Nat → Int32) (f : Nat → Int64) (S : Nat → Int32) (G : Nat → Nat → Int32) (hσ : mSok σ) (hU : mURT σ us) (hR : mRep σ S G) (kk : kCont p l e s m args below meth cd K A Q b0 x y o b i k9 n9) : kW p l e room_1 s m args below meth cd K A 7 Q k9 n9 [] (wL K x ad σ us o f y b S G) [(0, .ref b0), (1, .ref x), (2, .ref y), (3, .ref o), (4, .int (nI i))] 1466 [] := by
  obtain ⟨hst, hC, hX0, hbl, hbA, hL, hiL, hk9, hn9⟩ := H0
  refine k_eX (List.append_assoc _ _ _) ?_
  refine k_aload_n hC 1 dL_law_1466 rfl rfl ?_
  refine k_callV hC (As := []) (cX3_taken_k l K x ad σ us hσ hU) ([kJ K o 1 f] ++ wM K y b S G) rfl 0 rfl rfl (kAll5 lkM_L_168 lkI_yX3_taken lkS_yX3_taken lkN_X3 lkC_yX3_taken) 0 (by decide) ⟨(Nat.le_of_ble_eq_true rfl), (Nat.le_of_ble_eq_true rfl)⟩ rfl rfl (Nat.le_of_ble_eq_true rfl) ⟨by show k9 + 0 ≤ 646352; omega, by show n9 + 0 ≤ 7157049; omega⟩ dL_law_1467 (fun v w h => ?_)
  obtain ⟨-, rfl, ad1, us1, rfl, hU1⟩ := h
  refine k_re (k9) (n9) ((wX K x ad1 (0, σ.2.2.1 5, σ).2.2 us1 ++ ([kJ K o 1 f] ++ wM K y b S G))) [.int ((0, σ.2.2.1 5, σ).2.1)] rfl rfl rfl rfl ?_
  refine k_perm2 [] (wM K y b S G ++ ([kJ K o 1 f] ++ wX K x ad1 (0, σ.2.2.1 5, σ).2.2 us1)) kPermN ?_
  refine k_aload_n hC 2 dL_law_1470 rfl rfl ?_
  refine k_callV hC (As := []) (cX4_taken_k l K y b S G σ hσ hR) ([kJ K o 1 f] ++ wX K x ad1 (0, σ.2.2.1 5, σ).2.2 us1) rfl 0 rfl rfl (kAll5 lkM_L_171 lkI_yX4_taken lkS_yX4_taken lkN_X4 lkC_yX4_taken) 0 (by decide) ⟨(Nat.le_of_ble_eq_true rfl), (Nat.le_of_ble_eq_true rfl)⟩ rfl rfl (Nat.le_of_ble_eq_true rfl) ⟨by show k9 + 0 ≤ 646352; omega, by show n9 + 0 ≤ 7157049; omega⟩ dL_law_1471 (fun v w h => ?_)
  obtain ⟨S1, G1, b9, rfl, rfl, hc1, hb1, hR1⟩ := h
  refine k_re (k9) (n9) ((wM K y b S1 G1 ++ ([kJ K o 1 f] ++ wX K x ad1 (0, σ.2.2.1 5, σ).2.2 us1))) [.int b9, .int ((0, σ.2.2.1 5, σ).2.1)] rfl rfl rfl rfl ?_
  refine k_topE ((0, σ.2.2.1 5, σ).2.1) (hb1 rfl) ?_
  refine k_icmp_eq hC 1587 dL_law_1474 (by decide) (fun c1 => ?_) (fun c1 => ?_)
  · refine k_lsub [0, 1, 2, 3, 4] [(0, .ref b0), (1, .ref x), (2, .ref y), (3, .ref o), (4, .int (nI i))] rfl ?_
    refine k_perm2 [] (wL K x ad1 (0, σ.2.2.1 5, σ).2.2 us1 o f y b S1 G1) kPermM ?_
    exact kk ad1 (0, σ.2.2.1 5, σ).2.2 us1 f S1 G1 (k9) (n9) hσ hU1 hR1 (by omega) (by omega)
  · exact absurd rfl c1
set_option maxRecDepth 100000 in
set_option maxHeartbeats 4000000 in
theorem law_c24 {p : Program} {l : Launch} {e : Env} {s : State} {m : MethodId} {args : Array Value} {below : List Frame} {meth : Method} {cd : Code} {K : kE} {A : Nat → Prop} {Q : State → Prop} {b0 L : Nat} {xs : Nat → Int32} {x y o : Nat} {b : Nat → Nat} {i k9 n9 : Nat} (H0 : kHead p l s m args meth cd K A b0 L xs i k9 n9) (ad : Nat → Nat → Nat) (σ : mS) (us : Nat → Nat → Nat → Int32) (f : Nat → Int64) (S : Nat → Int32) (G : Nat → Nat → Int32) (hσ : mSok σ) (hU : mURT σ us) (hR : mRep σ S G) (kk : kCont p l e s m args below meth cd K A Q b0 x y o b i k9 n9) : kW p l e room_1 s m args below meth cd K A 7 Q k9 n9 [] (wL K x ad σ us o f y b S G) [(0, .ref b0), (1, .ref x), (2, .ref y), (3, .ref o), (4, .int (nI i))] 1479 [] := by
  obtain ⟨hst, hC, hX0, hbl, hbA, hL, hiL, hk9, hn9⟩ := H0
  refine k_eX (List.append_assoc _ _ _) ?_
  refine k_aload_n hC 1 dL_law_1479 rfl rfl ?_
  refine k_callV hC (As := []) (cX3_backlog_k l K x ad σ us hσ hU) ([kJ K o 1 f] ++ wM K y b S G) rfl 0 rfl rfl (kAll5 lkM_L_172 lkI_yX3_backlog lkS_yX3_backlog lkN_X3 lkC_yX3_backlog) 0 (by decide) ⟨(Nat.le_of_ble_eq_true rfl), (Nat.le_of_ble_eq_true rfl)⟩ rfl rfl (Nat.le_of_ble_eq_true rfl) ⟨by show k9 + 0 ≤ 646352; omega, by show n9 + 0 ≤ 7157049; omega⟩ dL_law_1480 (fun v w h => ?_)
  obtain ⟨-, rfl, ad1, us1, rfl, hU1⟩ := h
  refine k_re (k9) (n9) ((wX K x ad1 (0, σ.2.2.1 6, σ).2.2 us1 ++ ([kJ K o 1 f] ++ wM K y b S G))) [.int ((0, σ.2.2.1 6, σ).2.1)] rfl rfl rfl rfl ?_
  refine k_perm2 [] (wM K y b S G ++ ([kJ K o 1 f] ++ wX K x ad1 (0, σ.2.2.1 6, σ).2.2 us1)) kPermN ?_
  refine k_aload_n hC 2 dL_law_1483 rfl rfl ?_
  refine k_callV hC (As := []) (cX4_backlog_k l K y b S G σ hσ hR) ([kJ K o 1 f] ++ wX K x ad1 (0, σ.2.2.1 6, σ).2.2 us1) rfl 0 rfl rfl (kAll5 lkM_L_175 lkI_yX4_backlog lkS_yX4_backlog lkN_X4 lkC_yX4_backlog) 0 (by decide) ⟨(Nat.le_of_ble_eq_true rfl), (Nat.le_of_ble_eq_true rfl)⟩ rfl rfl (Nat.le_of_ble_eq_true rfl) ⟨by show k9 + 0 ≤ 646352; omega, by show n9 + 0 ≤ 7157049; omega⟩ dL_law_1484 (fun v w h => ?_)
  obtain ⟨S1, G1, b9, rfl, rfl, hc1, hb1, hR1⟩ := h
  refine k_re (k9) (n9) ((wM K y b S1 G1 ++ ([kJ K o 1 f] ++ wX K x ad1 (0, σ.2.2.1 6, σ).2.2 us1))) [.int b9, .int ((0, σ.2.2.1 6, σ).2.1)] rfl rfl rfl rfl ?_
  refine k_topE ((0, σ.2.2.1 6, σ).2.1) (hb1 rfl) ?_
  refine k_icmp_eq hC 1587 dL_law_1487 (by decide) (fun c1 => ?_) (fun c1 => ?_)
  · refine k_lsub [0, 1, 2, 3, 4] [(0, .ref b0), (1, .ref x), (2, .ref y), (3, .ref o), (4, .int (nI i))] rfl ?_
    refine k_perm2 [] (wL K x ad1 (0, σ.2.2.1 6, σ).2.2 us1 o f y b S1 G1) kPermM ?_
    exact kk ad1 (0, σ.2.2.1 6, σ).2.2 us1 f S1 G1 (k9) (n9) hσ hU1 hR1 (by omega) (by omega)
  · exact absurd rfl c1
set_option maxRecDepth 100000 in
set_option maxHeartbeats 4000000 in
theorem law_c25 {p : Program} {l : Launch} {e : Env} {s : State} {m : MethodId} {args : Array Value} {below : List Frame} {meth : Method} {cd : Code} {K : kE} {A : Nat → Prop} {Q : State → Prop} {b0 L : Nat} {xs : Nat → Int32} {x y o : Nat} {b : Nat → Nat} {i k9 n9 : Nat} (H0 : kHead p l s m args meth cd K A b0 L xs i k9 n9) (ad : Nat → Nat → Nat) (σ : mS) (us : Nat → Nat → Nat → Int32) (f : Nat → Int64) (S : Nat → Int32) (G : Nat → Nat → Int32) (hσ : mSok σ) (hU : mURT σ us) (hR : mRep σ S G) (kk : kCont p l e s m args below meth cd K A Q b0 x y o b i k9 n9) : kW p l e room_1 s m args below meth cd K A 7 Q k9 n9 [] (wL K x ad σ us o f y b S G) [(0, .ref b0), (1, .ref x), (2, .ref y), (3, .ref o), (4, .int (nI i))] 1492 [] := by
  obtain ⟨hst, hC, hX0, hbl, hbA, hL, hiL, hk9, hn9⟩ := H0
  refine k_eX (List.append_assoc _ _ _) ?_
  refine k_aload_n hC 1 dL_law_1492 rfl rfl ?_
  refine k_callV hC (As := []) (cX3_shortSteps_k l K x ad σ us hσ hU) ([kJ K o 1 f] ++ wM K y b S G) rfl 0 rfl rfl (kAll5 lkM_L_176 lkI_yX3_shortSteps lkS_yX3_shortSteps lkN_X3 lkC_yX3_shortSteps) 0 (by decide) ⟨(Nat.le_of_ble_eq_true rfl), (Nat.le_of_ble_eq_true rfl)⟩ rfl rfl (Nat.le_of_ble_eq_true rfl) ⟨by show k9 + 0 ≤ 646352; omega, by show n9 + 0 ≤ 7157049; omega⟩ dL_law_1493 (fun v w h => ?_)
  obtain ⟨-, rfl, ad1, us1, rfl, hU1⟩ := h
  refine k_re (k9) (n9) ((wX K x ad1 (0, σ.2.2.1 7, σ).2.2 us1 ++ ([kJ K o 1 f] ++ wM K y b S G))) [.int ((0, σ.2.2.1 7, σ).2.1)] rfl rfl rfl rfl ?_
  refine k_perm2 [] (wM K y b S G ++ ([kJ K o 1 f] ++ wX K x ad1 (0, σ.2.2.1 7, σ).2.2 us1)) kPermN ?_
  refine k_aload_n hC 2 dL_law_1496 rfl rfl ?_
  refine k_callV hC (As := []) (cX4_shortSteps_k l K y b S G σ hσ hR) ([kJ K o 1 f] ++ wX K x ad1 (0, σ.2.2.1 7, σ).2.2 us1) rfl 0 rfl rfl (kAll5 lkM_L_179 lkI_yX4_shortSteps lkS_yX4_shortSteps lkN_X4 lkC_yX4_shortSteps) 0 (by decide) ⟨(Nat.le_of_ble_eq_true rfl), (Nat.le_of_ble_eq_true rfl)⟩ rfl rfl (Nat.le_of_ble_eq_true rfl) ⟨by show k9 + 0 ≤ 646352; omega, by show n9 + 0 ≤ 7157049; omega⟩ dL_law_1497 (fun v w h => ?_)
  obtain ⟨S1, G1, b9, rfl, rfl, hc1, hb1, hR1⟩ := h
  refine k_re (k9) (n9) ((wM K y b S1 G1 ++ ([kJ K o 1 f] ++ wX K x ad1 (0, σ.2.2.1 7, σ).2.2 us1))) [.int b9, .int ((0, σ.2.2.1 7, σ).2.1)] rfl rfl rfl rfl ?_
  refine k_topE ((0, σ.2.2.1 7, σ).2.1) (hb1 rfl) ?_
  refine k_icmp_eq hC 1587 dL_law_1500 (by decide) (fun c1 => ?_) (fun c1 => ?_)
  · refine k_lsub [0, 1, 2, 3, 4] [(0, .ref b0), (1, .ref x), (2, .ref y), (3, .ref o), (4, .int (nI i))] rfl ?_
    refine k_perm2 [] (wL K x ad1 (0, σ.2.2.1 7, σ).2.2 us1 o f y b S1 G1) kPermM ?_
    exact kk ad1 (0, σ.2.2.1 7, σ).2.2 us1 f S1 G1 (k9) (n9) hσ hU1 hR1 (by omega) (by omega)
  · exact absurd rfl c1
set_option maxRecDepth 100000 in
set_option maxHeartbeats 4000000 in
theorem law_c27 {p : Program} {l : Launch} {e : Env} {s : State} {m : MethodId} {args : Array Value} {below : List Frame} {meth : Method} {cd : Code} {K : kE} {A : Nat → Prop} {Q : State → Prop} {b0 L : Nat} {xs : Nat → Int32} {x y o : Nat} {b : Nat → Nat} {i k9 n9 : Nat} (H0 : kHead p l s m args meth cd K A b0 L xs i k9 n9) (ad : Nat → Nat → Nat) (σ : mS) (us : Nat → Nat → Nat → Int32) (f : Nat → Int64) (S : Nat → Int32) (G : Nat → Nat → Int32) (hσ : mSok σ) (hU : mURT σ us) (hR : mRep σ S G) (kk : kCont p l e s m args below meth cd K A Q b0 x y o b i k9 n9) : kW p l e room_1 s m args below meth cd K A 7 Q k9 n9 [] (wL K x ad σ us o f y b S G) [(0, .ref b0), (1, .ref x), (2, .ref y), (3, .ref o), (4, .int (nI i))] 1561 [] := by
  obtain ⟨hst, hC, hX0, hbl, hbA, hL, hiL, hk9, hn9⟩ := H0
  refine k_eX (List.append_assoc _ _ _) ?_
  refine k_aload_n hC 1 dL_law_1561 rfl rfl ?_
  refine k_callV hC (As := []) (cX3_stock_k l K x ad σ us hσ hU) ([kJ K o 1 f] ++ wM K y b S G) rfl 0 rfl rfl (kAll5 lkM_L_183 lkI_yX3_stock lkS_yX3_stock lkN_X3 lkC_yX3_stock) 0 (by decide) ⟨(Nat.le_of_ble_eq_true rfl), (Nat.le_of_ble_eq_true rfl)⟩ rfl rfl (Nat.le_of_ble_eq_true rfl) ⟨by show k9 + 0 ≤ 646352; omega, by show n9 + 0 ≤ 7157049; omega⟩ dL_law_1562 (fun v w h => ?_)
  obtain ⟨-, rfl, ad1, us1, rfl, hU1⟩ := h
  refine k_re (k9) (n9) ((wX K x ad1 (0, oStock σ, σ).2.2 us1 ++ ([kJ K o 1 f] ++ wM K y b S G))) [.int ((0, oStock σ, σ).2.1)] rfl rfl rfl rfl ?_
  refine k_perm2 [] (wM K y b S G ++ ([kJ K o 1 f] ++ wX K x ad1 (0, oStock σ, σ).2.2 us1)) kPermN ?_
  refine k_aload_n hC 2 dL_law_1565 rfl rfl ?_
  refine k_callV hC (As := []) (cX4_stock_k l K y b S G σ hσ hR) ([kJ K o 1 f] ++ wX K x ad1 (0, oStock σ, σ).2.2 us1) rfl 0 rfl rfl (kAll5 lkM_L_186 lkI_yX4_stock lkS_yX4_stock lkN_X4 lkC_yX4_stock) 0 (by decide) ⟨(Nat.le_of_ble_eq_true rfl), (Nat.le_of_ble_eq_true rfl)⟩ rfl rfl (Nat.le_of_ble_eq_true rfl) ⟨by show k9 + 0 ≤ 646352; omega, by show n9 + 0 ≤ 7157049; omega⟩ dL_law_1566 (fun v w h => ?_)
  obtain ⟨S1, G1, b9, rfl, rfl, hc1, hb1, hR1⟩ := h
  refine k_re (k9) (n9) ((wM K y b S1 G1 ++ ([kJ K o 1 f] ++ wX K x ad1 (0, oStock σ, σ).2.2 us1))) [.int b9, .int ((0, oStock σ, σ).2.1)] rfl rfl rfl rfl ?_
  refine k_topE ((0, oStock σ, σ).2.1) (hb1 rfl) ?_
  refine k_icmp_eq hC 1587 dL_law_1569 (by decide) (fun c1 => ?_) (fun c1 => ?_)
  · refine k_lsub [0, 1, 2, 3, 4] [(0, .ref b0), (1, .ref x), (2, .ref y), (3, .ref o), (4, .int (nI i))] rfl ?_
    refine k_perm2 [] (wL K x ad1 (0, oStock σ, σ).2.2 us1 o f y b S1 G1) kPermM ?_
    exact kk ad1 (0, oStock σ, σ).2.2 us1 f S1 G1 (k9) (n9) hσ hU1 hR1 (by omega) (by omega)
  · exact absurd rfl c1
set_option maxRecDepth 100000 in
set_option maxHeartbeats 4000000 in
theorem law_c28 {p : Program} {l : Launch} {e : Env} {s : State} {m : MethodId} {args : Array Value} {below : List Frame} {meth : Method} {cd : Code} {K : kE} {A : Nat → Prop} {Q : State → Prop} {b0 L : Nat} {xs : Nat → Int32} {x y o : Nat} {b : Nat → Nat} {i k9 n9 : Nat} (H0 : kHead p l s m args meth cd K A b0 L xs i k9 n9) (ad : Nat → Nat → Nat) (σ : mS) (us : Nat → Nat → Nat → Int32) (f : Nat → Int64) (S : Nat → Int32) (G : Nat → Nat → Int32) (hσ : mSok σ) (hU : mURT σ us) (hR : mRep σ S G) (kk : kCont p l e s m args below meth cd K A Q b0 x y o b i k9 n9) : kW p l e room_1 s m args below meth cd K A 7 Q k9 n9 [] (wL K x ad σ us o f y b S G) [(0, .ref b0), (1, .ref x), (2, .ref y), (3, .ref o), (4, .int (nI i))] 1574 [] := by
  obtain ⟨hst, hC, hX0, hbl, hbA, hL, hiL, hk9, hn9⟩ := H0
  refine k_eX (List.append_assoc _ _ _) ?_
  refine k_aload_n hC 1 dL_law_1574 rfl rfl ?_
  refine k_callV hC (As := []) (cX3_stockByFlow_k l K x ad σ us hσ hU) ([kJ K o 1 f] ++ wM K y b S G) rfl 0 rfl rfl (kAll5 lkM_L_187 lkI_yX3_stockByFlow lkS_yX3_stockByFlow lkN_X3 lkC_yX3_stockByFlow) 0 (by decide) ⟨(Nat.le_of_ble_eq_true rfl), (Nat.le_of_ble_eq_true rfl)⟩ rfl rfl (Nat.le_of_ble_eq_true rfl) ⟨by show k9 + 0 ≤ 646352; omega, by show n9 + 0 ≤ 7157049; omega⟩ dL_law_1575 (fun v w h => ?_)
  obtain ⟨-, rfl, ad1, us1, rfl, hU1⟩ := h
  refine k_re (k9) (n9) ((wX K x ad1 (0, oFlow σ, σ).2.2 us1 ++ ([kJ K o 1 f] ++ wM K y b S G))) [.int ((0, oFlow σ, σ).2.1)] rfl rfl rfl rfl ?_
  refine k_perm2 [] (wM K y b S G ++ ([kJ K o 1 f] ++ wX K x ad1 (0, oFlow σ, σ).2.2 us1)) kPermN ?_
  refine k_aload_n hC 2 dL_law_1578 rfl rfl ?_
  refine k_callV hC (As := []) (cX4_stockByFlow_k l K y b S G σ hσ hR) ([kJ K o 1 f] ++ wX K x ad1 (0, oFlow σ, σ).2.2 us1) rfl 0 rfl rfl (kAll5 lkM_L_190 lkI_yX4_stockByFlow lkS_yX4_stockByFlow lkN_X4 lkC_yX4_stockByFlow) 0 (by decide) ⟨(Nat.le_of_ble_eq_true rfl), (Nat.le_of_ble_eq_true rfl)⟩ rfl rfl (Nat.le_of_ble_eq_true rfl) ⟨by show k9 + 0 ≤ 646352; omega, by show n9 + 0 ≤ 7157049; omega⟩ dL_law_1579 (fun v w h => ?_)
  obtain ⟨S1, G1, b9, rfl, rfl, hc1, hb1, hR1⟩ := h
  refine k_re (k9) (n9) ((wM K y b S1 G1 ++ ([kJ K o 1 f] ++ wX K x ad1 (0, oFlow σ, σ).2.2 us1))) [.int b9, .int ((0, oFlow σ, σ).2.1)] rfl rfl rfl rfl ?_
  refine k_topE ((0, oFlow σ, σ).2.1) (hb1 rfl) ?_
  refine k_icmp_eq hC 1587 dL_law_1582 (by decide) (fun c1 => ?_) (fun c1 => ?_)
  · refine k_lsub [0, 1, 2, 3, 4] [(0, .ref b0), (1, .ref x), (2, .ref y), (3, .ref o), (4, .int (nI i))] rfl ?_
    refine k_perm2 [] (wL K x ad1 (0, oFlow σ, σ).2.2 us1 o f y b S1 G1) kPermM ?_
    exact kk ad1 (0, oFlow σ, σ).2.2 us1 f S1 G1 (k9) (n9) hσ hU1 hR1 (by omega) (by omega)
  · exact absurd rfl c1
