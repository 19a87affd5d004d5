/-! the law: its acts -/
set_option maxRecDepth 100000 in
set_option maxHeartbeats 4000000 in
theorem law_c1 {p : Program} {l : Launch} {e : Env} {s : State} {m : MethodId} {args : Array Value} {below : List Frame} {meth : Method} {cd : Code} {K : kE} {A : Nat → Prop} {Q : State → Prop} {b0 x aT aM aI aW aG turn k9 n9 : Nat} (H0 : kHead p l s m args meth cd K A turn k9 n9) (kk : kCont p l e s m args below meth cd K A Q b0 x aT aM aI aW aG turn k9 n9) (ad : Nat → Nat → Nat) (σ : mS) (us : Nat → Nat → Nat → Int32) (fT fM fI fW fG : Nat → Int32) (hq : qInv σ us fT fM fI fW fG) (h0 : σ.1 ≠ 0) (z8 z9 : Int32) (kd a : Nat) (ha : a < σ.1) : kW p l e room_1 s m args below meth cd K A 16 Q k9 n9 (wX K x ad σ us) [kI K aT 45 fT, kI K aM 60 fM, kI K aI 60 fI, kI K aW 60 fW, kI K aG 8 fG] [(0, .ref b0), (1, .ref x), (2, .ref aT), (3, .ref aM), (4, .ref aI), (5, .ref aW), (6, .ref aG), (7, .int (nI turn)), (8, .int z8), (9, .int z9), (10, .int (nI kd)), (11, .int (nI a)), (12, .int (nI (15 * a)))] 427 [] := by
  obtain ⟨hst, hC, ht60, hk9, hn9⟩ := H0
  obtain ⟨hσ, hU, hR, h3, d9, hd, hd20⟩ := id hq
  obtain ⟨g0, g1, g2, g3, g4, g5, g6, g7, hsr, hsz⟩ := id hR
  have h6 := hσ.1
  have hS := hsr a ha
  have hi := (hσ.2 a ha).1
  have hn := hi.1
  have hcard := hi.2.1
  have hconv := hi.2.2.1
  have ha31 : a < 2 ^ 31 := by omega
  have hm0 : mHas σ 0 (nI a) := mHas_k h6 (Nat.zero_le a) ha
  obtain ⟨q0, q1, q2, q3, q4, q5, q6, q7, q8, q9, q10, q11, q12, q13, q14⟩ := id hS.1
  refine k_iload hC dL_law_427 rfl ?_
  refine k_iconst hC (nI 3) dL_law_429 rfl ?_
  refine k_ishr hC dL_law_430 (fun z1 => ?_)
  refine k_iconst hC (nI 4) dL_law_431 rfl ?_
  refine k_callS hC (As := [.int z1, .int (nI 4)]) (cL_low_k l K z1 4 (by decide) (by decide)) [kI K aT 45 fT, kI K aM 60 fM, kI K aI 60 fI, kI K aW 60 fW, kI K aG 8 fG] rfl (kAll4 lkM_L_127 lkT_yL_low lkN_L lkC_yL_low) 2 (by decide) ⟨(Nat.le_of_ble_eq_true rfl), (Nat.le_of_ble_eq_true rfl)⟩ rfl rfl (Nat.le_of_ble_eq_true rfl) ⟨by show k9 + 0 ≤ 637431; omega, by show n9 + 0 ≤ 7189406; omega⟩ dL_law_432 (fun v w h => ?_)
  obtain ⟨⟨j1, hj1, rfl⟩, rfl⟩ := h
  refine k_re (k9) (n9) [kI K aT 45 fT, kI K aM 60 fM, kI K aI 60 fI, kI K aW 60 fW, kI K aG 8 fG] [.int (nI j1)] rfl rfl rfl rfl ?_
  refine k_istore hC dL_law_435 (by decide) rfl [(0, .ref b0), (1, .ref x), (2, .ref aT), (3, .ref aM), (4, .ref aI), (5, .ref aW), (6, .ref aG), (7, .int (nI turn)), (8, .int z8), (9, .int z9), (10, .int (nI kd)), (11, .int (nI a)), (12, .int (nI (15 * a))), (13, .int (nI j1))] rfl ?_
  refine k_iload hC dL_law_437 rfl ?_
  refine k_if_neN hC 456 dL_law_439 (by decide) (by omega) (fun c1 => ?_) (fun c1 => ?_)
  · have ha1 : 1 ≤ a := by omega
    have hm1 : mHas σ 1 (nI a) := mHas_k h6 ha1 ha
    have hv : mIn (nI j1) 0 5 := ⟨nI_le (Nat.zero_le _) (by omega), nI_le (by omega) (by decide)⟩
    have hj31 : j1 < 2 ^ 31 := by omega
    have hop : oWay σ (nI a) (nI j1) = (0, nI ((σ.2.2.2 a).1 15), mPut σ a (va_up (σ.2.2.2 a).1 15 j1, (σ.2.2.2 a).2)) := by simp only [oWay, oT, mIx_nI ha31, mIx_nI hj31, if_pos hm1, if_pos hv]
    refine k_aload_n hC 2 dL_law_456 rfl rfl ?_
    refine k_iload hC dL_law_457 rfl ?_
    refine k_bipush hC (nI 8) dL_law_459 rfl ?_
    refine k_iaddN hC dL_law_461 ?_
    refine k_ald hC 0 rfl (by omega) (by decide) dL_law_462 ?_
    refine k_topE (nI ((σ.2.2.2 a).1 15)) q8 ?_
    refine k_istore hC dL_law_463 (by decide) rfl [(0, .ref b0), (1, .ref x), (2, .ref aT), (3, .ref aM), (4, .ref aI), (5, .ref aW), (6, .ref aG), (7, .int (nI turn)), (8, .int z8), (9, .int z9), (10, .int (nI kd)), (11, .int (nI a)), (12, .int (nI (15 * a))), (13, .int (nI j1)), (14, .int (nI ((σ.2.2.2 a).1 15)))] rfl ?_
    refine k_aload_n hC 2 dL_law_465 rfl rfl ?_
    refine k_iload hC dL_law_466 rfl ?_
    refine k_bipush hC (nI 8) dL_law_468 rfl ?_
    refine k_iaddN hC dL_law_470 ?_
    refine k_iload hC dL_law_471 rfl ?_
    refine k_ast hC 0 rfl (by omega) (by decide) dL_law_473 [kI K aT 45 (upd fT (15 * a + 8) (nI j1)), kI K aM 60 fM, kI K aI 60 fI, kI K aW 60 fW, kI K aG 8 fG] rfl ?_
    refine k_aload_n hC 1 dL_law_474 rfl rfl ?_
    refine k_iload hC dL_law_475 rfl ?_
    refine k_iload hC dL_law_477 rfl ?_
    refine k_perm2 [kI K aT 45 (upd fT (15 * a + 8) (nI j1)), kI K aM 60 fM, kI K aI 60 fI, kI K aW 60 fW, kI K aG 8 fG] (wX K x ad σ us) List.perm_append_comm ?_
    refine k_callXC hC (As := [.int (nI a), .int (nI j1)]) (cX3_way_k hst K x ad σ us hσ hU (nI a) (nI j1)) [] (List.append_nil _).symm 0 rfl rfl (kAll5 lkM_L_53 lkI_yX3_way lkS_yX3_way lkN_X3 lkC_yX3_way) 2 (by decide) ⟨(Nat.le_of_ble_eq_true rfl), (Nat.le_of_ble_eq_true rfl)⟩ rfl rfl (Nat.le_of_ble_eq_true rfl) ⟨by show k9 + 3 ≤ 637431; omega, by show n9 + 18 ≤ 7189406; omega⟩ dL_law_479 (fun E q => (kNo (by rw [hop]) q).elim) (fun v w h => ?_)
    rw [hop] at h
    obtain ⟨-, rfl, ad1_, us1_, rfl, hU1_⟩ := h
    refine k_re (k9 + 3) (n9 + 18) (wX K x ad1_ (mPut σ a (va_up (σ.2.2.2 a).1 15 j1, (σ.2.2.2 a).2)) us1_) [.int (nI ((σ.2.2.2 a).1 15))] rfl rfl (List.append_nil _) rfl ?_
    refine k_perm2 (wX K x ad1_ (mPut σ a (va_up (σ.2.2.2 a).1 15 j1, (σ.2.2.2 a).2)) us1_) [kI K aT 45 (upd fT (15 * a + 8) (nI j1)), kI K aM 60 fM, kI K aI 60 fI, kI K aW 60 fW, kI K aG 8 fG] List.perm_append_comm ?_
    have hok : mSok (mPut σ a (va_up (σ.2.2.2 a).1 15 j1, (σ.2.2.2 a).2)) := by have := oWay_ok hσ (nI a) (nI j1); rw [hop] at this; exact this
    refine k_iload hC dL_law_482 rfl ?_
    refine k_icmp_ne hC 500 dL_law_484 (by decide) (fun c9 => absurd rfl c9) (fun _ => ?_)
    refine k_aload_n hC 1 dL_law_487 rfl rfl ?_
    refine k_iconst hC (nI 5) dL_law_488 rfl ?_
    refine k_iload hC dL_law_489 rfl ?_
    refine k_bipush hC (nI 6) dL_law_491 rfl ?_
    have hbc : (oWay (mPut σ a (va_up (σ.2.2.2 a).1 15 j1, (σ.2.2.2 a).2)) (nI a) (nI 6)).1 = 2 := by
      have hv6 : ¬ mIn (nI 6) 0 5 := fun q => by have := (nI_leI (by decide) (by decide)).mp q.2; omega
      have hm2 : mHas (mPut σ a (va_up (σ.2.2.2 a).1 15 j1, (σ.2.2.2 a).2)) 1 (nI a) := hm1
      simp only [oWay, if_pos hm2, if_neg hv6]
    refine k_perm2 [kI K aT 45 (upd fT (15 * a + 8) (nI j1)), kI K aM 60 fM, kI K aI 60 fI, kI K aW 60 fW, kI K aG 8 fG] (wX K x ad1_ (mPut σ a (va_up (σ.2.2.2 a).1 15 j1, (σ.2.2.2 a).2)) us1_) List.perm_append_comm ?_
    refine k_callXH hC (As := [.ref x, .int (nI 5), .int (nI a), .int (nI 6)]) (cL_refused_5 hst K x ad1_ (mPut σ a (va_up (σ.2.2.2 a).1 15 j1, (σ.2.2.2 a).2)) us1_ hok hU1_ (nI a) (nI 6) (by rw [hbc]; decide)) [] (List.append_nil _).symm (kAll4 lkM_L_118 lkT_yL_refused lkN_L lkC_yL_refused) 4 (by decide) ⟨(Nat.le_of_ble_eq_true rfl), (Nat.le_of_ble_eq_true rfl)⟩ rfl rfl (Nat.le_of_ble_eq_true rfl) ⟨by show k9 + 3 + 3 ≤ 637431; omega, by show n9 + 18 + 18 ≤ 7189406; omega⟩ dL_law_493 (fun v w h => ?_)
    rw [hbc, if_neg (show ¬ (2 : Nat) = 1 by decide)] at h
    obtain ⟨rfl, rfl⟩ := h
    refine k_re (k9 + 6) (n9 + 36) (wX K x ad1_ (mPut σ a (va_up (σ.2.2.2 a).1 15 j1, (σ.2.2.2 a).2)) us1_) [.int (nI 3)] rfl rfl (List.append_nil _) rfl ?_
    refine k_perm2 (wX K x ad1_ (mPut σ a (va_up (σ.2.2.2 a).1 15 j1, (σ.2.2.2 a).2)) us1_) [kI K aT 45 (upd fT (15 * a + 8) (nI j1)), kI K aM 60 fM, kI K aI 60 fI, kI K aW 60 fW, kI K aG 8 fG] List.perm_append_comm ?_
    refine k_iconst hC (nI 3) dL_law_496 rfl ?_
    refine k_icmp_eq hC 502 dL_law_497 (by decide) (fun _ => ?_) (fun c9 => absurd rfl c9)
    refine k_goto hC 1152 dL_law_502 (by decide) ?_
    refine k_lsub [0, 1, 2, 3, 4, 5, 6, 7] [(0, .ref b0), (1, .ref x), (2, .ref aT), (3, .ref aM), (4, .ref aI), (5, .ref aW), (6, .ref aG), (7, .int (nI turn))] rfl ?_
    exact law_1152 ⟨hst, hC, ht60, hk9, hn9⟩ kk ad1_ (mPut σ a (va_up (σ.2.2.2 a).1 15 j1, (σ.2.2.2 a).2)) us1_ (upd fT (15 * a + 8) (nI j1)) fM fI fW fG ⟨hok, hU1_, qRep_put (τ := (va_up (σ.2.2.2 a).1 15 j1, (σ.2.2.2 a).2)) hR hσ ha ⟨⟨((pk_un (by omega)).trans q0), ((pk_un (by omega)).trans q1), ((pk_un (by omega)).trans q2), ((pk_un (by omega)).trans q3), ((pk_un (by omega)).trans q4), ((pk_un (by omega)).trans q5), ((pk_un (by omega)).trans q6), ((pk_un (by omega)).trans q7), pk_us, ((pk_un (by omega)).trans q9), ((pk_un (by omega)).trans q10), ((pk_un (by omega)).trans q11), ((pk_un (by omega)).trans q12), ((pk_un (by omega)).trans q13), ((pk_un (by omega)).trans q14)⟩, hS.2.1, hS.2.2.1, hS.2.2.2⟩ (fun j hj => ⟨(qAT_up hj (by decide) qAT_rf), qAR_rf, qAR_rf, qAR_rf⟩) rfl, h3, d9, hd, hd20⟩ h0 (k9 + 6) (n9 + 36) (by omega) (by omega)
  · subst c1
    have hbc : (oWay σ (nI 0) (nI j1)).1 = 1 := by
      have hm2 : ¬ mHas σ 1 (nI 0) := fun q => by have := (nI_leI (by decide) (by decide)).mp q.1; omega
      simp only [oWay, if_neg hm2]
    refine k_aload_n hC 1 dL_law_442 rfl rfl ?_
    refine k_iconst hC (nI 5) dL_law_443 rfl ?_
    refine k_iconst hC (nI 0) dL_law_444 rfl ?_
    refine k_iload hC dL_law_445 rfl ?_
    refine k_perm2 [kI K aT 45 fT, kI K aM 60 fM, kI K aI 60 fI, kI K aW 60 fW, kI K aG 8 fG] (wX K x ad σ us) List.perm_append_comm ?_
    refine k_callXH hC (As := [.ref x, .int (nI 5), .int (nI 0), .int (nI j1)]) (cL_refused_5 hst K x ad σ us hσ hU (nI 0) (nI j1) (by rw [hbc]; decide)) [] (List.append_nil _).symm (kAll4 lkM_L_118 lkT_yL_refused lkN_L lkC_yL_refused) 4 (by decide) ⟨(Nat.le_of_ble_eq_true rfl), (Nat.le_of_ble_eq_true rfl)⟩ rfl rfl (Nat.le_of_ble_eq_true rfl) ⟨by show k9 + 3 ≤ 637431; omega, by show n9 + 18 ≤ 7189406; omega⟩ dL_law_447 (fun v w h => ?_)
    rw [hbc, if_pos rfl] at h
    obtain ⟨rfl, rfl⟩ := h
    refine k_re (k9 + 3) (n9 + 18) (wX K x ad σ us) [.int (nI 1)] rfl rfl (List.append_nil _) rfl ?_
    refine k_perm2 (wX K x ad σ us) [kI K aT 45 fT, kI K aM 60 fM, kI K aI 60 fI, kI K aW 60 fW, kI K aG 8 fG] List.perm_append_comm ?_
    refine k_iconst hC (nI 1) dL_law_450 rfl ?_
    refine k_icmp_eq hC 1169 dL_law_451 (by decide) (fun _ => ?_) (fun c9 => absurd rfl c9)
    refine k_lsub [0, 1, 2, 3, 4, 5, 6, 7] [(0, .ref b0), (1, .ref x), (2, .ref aT), (3, .ref aM), (4, .ref aI), (5, .ref aW), (6, .ref aG), (7, .int (nI turn))] rfl ?_
    exact kk ad σ us fT fM fI fW fG (k9 + 3) (n9 + 18) ⟨hσ, hU, hR, h3, d9, hd, hd20⟩ h0 (by omega) (by omega)
set_option maxRecDepth 100000 in
set_option maxHeartbeats 4000000 in
theorem law_c2 {p : Program} {l : Launch} {e : Env} {s : State} {m : MethodId} {args : Array Value} {below : List Frame} {meth : Method} {cd : Code} {K : kE} {A : Nat → Prop} {Q : State → Prop} {b0 x aT aM aI aW aG turn k9 n9 : Nat} (H0 : kHead p l s m args meth cd K A turn k9 n9) (kk : kCont p l e s m args below meth cd K A Q b0 x aT aM aI aW aG turn k9 n9) (ad : Nat → Nat → Nat) (σ : mS) (us : Nat → Nat → Nat → Int32) (fT fM fI fW fG : Nat → Int32) (hq : qInv σ us fT fM fI fW fG) (h0 : σ.1 ≠ 0) (z8 z9 : Int32) (kd a : Nat) (ha : a < σ.1) : kW p l e room_1 s m args below meth cd K A 16 Q k9 n9 (wX K x ad σ us) [kI K aT 45 fT, kI K aM 60 fM, kI K aI 60 fI, kI K aW 60 fW, kI K aG 8 fG] [(0, .ref b0), (1, .ref x), (2, .ref aT), (3, .ref aM), (4, .ref aI), (5, .ref aW), (6, .ref aG), (7, .int (nI turn)), (8, .int z8), (9, .int z9), (10, .int (nI kd)), (11, .int (nI a)), (12, .int (nI (15 * a)))] 511 [] := by
  obtain ⟨hst, hC, ht60, hk9, hn9⟩ := H0
  obtain ⟨hσ, hU, hR, h3, d9, hd, hd20⟩ := id hq
  obtain ⟨g0, g1, g2, g3, g4, g5, g6, g7, hsr, hsz⟩ := id hR
  have h6 := hσ.1
  have hS := hsr a ha
  have hi := (hσ.2 a ha).1
  have hn := hi.1
  have hcard := hi.2.1
  have hconv := hi.2.2.1
  have ha31 : a < 2 ^ 31 := by omega
  have hm0 : mHas σ 0 (nI a) := mHas_k h6 (Nat.zero_le a) ha
  obtain ⟨q0, q1, q2, q3, q4, q5, q6, q7, q8, q9, q10, q11, q12, q13, q14⟩ := id hS.1
  refine k_aload_n hC 2 dL_law_511 rfl rfl ?_
  refine k_iload hC dL_law_512 rfl ?_
  refine k_iconst hC (nI 3) dL_law_514 rfl ?_
  refine k_iaddN hC dL_law_515 ?_
  refine k_ald hC 0 rfl (by omega) (by decide) dL_law_516 ?_
  refine k_topE (nI ((σ.2.2.2 a).1 7)) q3 ?_
  refine k_istore hC dL_law_517 (by decide) rfl [(0, .ref b0), (1, .ref x), (2, .ref aT), (3, .ref aM), (4, .ref aI), (5, .ref aW), (6, .ref aG), (7, .int (nI turn)), (8, .int z8), (9, .int z9), (10, .int (nI kd)), (11, .int (nI a)), (12, .int (nI (15 * a))), (13, .int (nI ((σ.2.2.2 a).1 7)))] rfl ?_
  refine k_aload_n hC 2 dL_law_519 rfl rfl ?_
  refine k_iload hC dL_law_520 rfl ?_
  refine k_iconst hC (nI 3) dL_law_522 rfl ?_
  refine k_iaddN hC dL_law_523 ?_
  refine k_iconst hC (nI 1) dL_law_524 rfl ?_
  refine k_iload hC dL_law_525 rfl ?_
  refine k_iconst hC (nI 3) dL_law_527 rfl ?_
  refine k_ishr hC dL_law_528 (fun z1 => ?_)
  refine k_iconst hC (nI 4) dL_law_529 rfl ?_
  refine k_callS hC (As := [.int z1, .int (nI 4)]) (cL_low_k l K z1 4 (by decide) (by decide)) [kI K aT 45 fT, kI K aM 60 fM, kI K aI 60 fI, kI K aW 60 fW, kI K aG 8 fG] rfl (kAll4 lkM_L_127 lkT_yL_low lkN_L lkC_yL_low) 2 (by decide) ⟨(Nat.le_of_ble_eq_true rfl), (Nat.le_of_ble_eq_true rfl)⟩ rfl rfl (Nat.le_of_ble_eq_true rfl) ⟨by show k9 + 0 ≤ 637431; omega, by show n9 + 0 ≤ 7189406; omega⟩ dL_law_530 (fun v w h => ?_)
  obtain ⟨⟨j2, hj2, rfl⟩, rfl⟩ := h
  refine k_re (k9) (n9) [kI K aT 45 fT, kI K aM 60 fM, kI K aI 60 fI, kI K aW 60 fW, kI K aG 8 fG] [.int (nI j2), .int (nI 1), .int (nI (15 * a + 3)), .ref aT] rfl rfl rfl rfl ?_
  have hv : mIn (nI (1 + j2)) 1 9 := ⟨nI_le (by omega) (by omega), nI_le (by omega) (by decide)⟩
  have hj31 : 1 + j2 < 2 ^ 31 := by omega
  have hop : oMark σ (nI a) (nI (1 + j2)) = (0, nI ((σ.2.2.2 a).1 7), mPut σ a (va_up (σ.2.2.2 a).1 7 (1 + j2), (σ.2.2.2 a).2)) := by simp only [oMark, oT, mIx_nI ha31, mIx_nI hj31, if_pos hm0, if_pos hv]
  refine k_iaddN hC dL_law_533 ?_
  refine k_ast hC 0 rfl (by omega) (by decide) dL_law_534 [kI K aT 45 (upd fT (15 * a + 3) (nI (1 + j2))), kI K aM 60 fM, kI K aI 60 fI, kI K aW 60 fW, kI K aG 8 fG] rfl ?_
  refine k_aload_n hC 1 dL_law_535 rfl rfl ?_
  refine k_iload hC dL_law_536 rfl ?_
  refine k_aload_n hC 2 dL_law_538 rfl rfl ?_
  refine k_iload hC dL_law_539 rfl ?_
  refine k_iconst hC (nI 3) dL_law_541 rfl ?_
  refine k_iaddN hC dL_law_542 ?_
  refine k_ald hC 0 rfl (by omega) (by decide) dL_law_543 ?_
  refine k_topE (nI (1 + j2)) pk_us ?_
  refine k_perm2 [kI K aT 45 (upd fT (15 * a + 3) (nI (1 + j2))), kI K aM 60 fM, kI K aI 60 fI, kI K aW 60 fW, kI K aG 8 fG] (wX K x ad σ us) List.perm_append_comm ?_
  refine k_callXC hC (As := [.int (nI a), .int (nI (1 + j2))]) (cX3_mark_k hst K x ad σ us hσ hU (nI a) (nI (1 + j2))) [] (List.append_nil _).symm 0 rfl rfl (kAll5 lkM_L_133 lkI_yX3_mark lkS_yX3_mark lkN_X3 lkC_yX3_mark) 2 (by decide) ⟨(Nat.le_of_ble_eq_true rfl), (Nat.le_of_ble_eq_true rfl)⟩ rfl rfl (Nat.le_of_ble_eq_true rfl) ⟨by show k9 + 2 ≤ 637431; omega, by show n9 + 12 ≤ 7189406; omega⟩ dL_law_544 (fun E q => (kNo (by rw [hop]) q).elim) (fun v w h => ?_)
  rw [hop] at h
  obtain ⟨-, rfl, ad1_, us1_, rfl, hU1_⟩ := h
  refine k_re (k9 + 2) (n9 + 12) (wX K x ad1_ (mPut σ a (va_up (σ.2.2.2 a).1 7 (1 + j2), (σ.2.2.2 a).2)) us1_) [.int (nI ((σ.2.2.2 a).1 7))] rfl rfl (List.append_nil _) rfl ?_
  refine k_perm2 (wX K x ad1_ (mPut σ a (va_up (σ.2.2.2 a).1 7 (1 + j2), (σ.2.2.2 a).2)) us1_) [kI K aT 45 (upd fT (15 * a + 3) (nI (1 + j2))), kI K aM 60 fM, kI K aI 60 fI, kI K aW 60 fW, kI K aG 8 fG] List.perm_append_comm ?_
  refine k_iload hC dL_law_547 rfl ?_
  refine k_icmp_eq hC 554 dL_law_549 (by decide) (fun _ => ?_) (fun c9 => absurd rfl c9)
  refine k_goto hC 1152 dL_law_554 (by decide) ?_
  refine k_lsub [0, 1, 2, 3, 4, 5, 6, 7] [(0, .ref b0), (1, .ref x), (2, .ref aT), (3, .ref aM), (4, .ref aI), (5, .ref aW), (6, .ref aG), (7, .int (nI turn))] rfl ?_
  exact law_1152 ⟨hst, hC, ht60, hk9, hn9⟩ kk ad1_ (mPut σ a (va_up (σ.2.2.2 a).1 7 (1 + j2), (σ.2.2.2 a).2)) us1_ (upd fT (15 * a + 3) (nI (1 + j2))) fM fI fW fG ⟨(by have := oMark_ok hσ (nI a) (nI (1 + j2)); rw [hop] at this; exact this), hU1_, qRep_put (τ := (va_up (σ.2.2.2 a).1 7 (1 + j2), (σ.2.2.2 a).2)) hR hσ ha ⟨⟨((pk_un (by omega)).trans q0), ((pk_un (by omega)).trans q1), ((pk_un (by omega)).trans q2), pk_us, ((pk_un (by omega)).trans q4), ((pk_un (by omega)).trans q5), ((pk_un (by omega)).trans q6), ((pk_un (by omega)).trans q7), ((pk_un (by omega)).trans q8), ((pk_un (by omega)).trans q9), ((pk_un (by omega)).trans q10), ((pk_un (by omega)).trans q11), ((pk_un (by omega)).trans q12), ((pk_un (by omega)).trans q13), ((pk_un (by omega)).trans q14)⟩, hS.2.1, hS.2.2.1, hS.2.2.2⟩ (fun j hj => ⟨(qAT_up hj (by decide) qAT_rf), qAR_rf, qAR_rf, qAR_rf⟩) rfl, h3, d9, hd, hd20⟩ h0 (k9 + 2) (n9 + 12) (by omega) (by omega)
set_option maxRecDepth 100000 in
set_option maxHeartbeats 4000000 in
theorem law_c3 {p : Program} {l : Launch} {e : Env} {s : State} {m : MethodId} {args : Array Value} {below : List Frame} {meth : Method} {cd : Code} {K : kE} {A : Nat → Prop} {Q : State → Prop} {b0 x aT aM aI aW aG turn k9 n9 : Nat} (H0 : kHead p l s m args meth cd K A turn k9 n9) (kk : kCont p l e s m args below meth cd K A Q b0 x aT aM aI aW aG turn k9 n9) (ad : Nat → Nat → Nat) (σ : mS) (us : Nat → Nat → Nat → Int32) (fT fM fI fW fG : Nat → Int32) (hq : qInv σ us fT fM fI fW fG) (h0 : σ.1 ≠ 0) (z8 z9 : Int32) (kd a : Nat) (ha : a < σ.1) : kW p l e room_1 s m args below meth cd K A 16 Q k9 n9 (wX K x ad σ us) [kI K aT 45 fT, kI K aM 60 fM, kI K aI 60 fI, kI K aW 60 fW, kI K aG 8 fG] [(0, .ref b0), (1, .ref x), (2, .ref aT), (3, .ref aM), (4, .ref aI), (5, .ref aW), (6, .ref aG), (7, .int (nI turn)), (8, .int z8), (9, .int z9), (10, .int (nI kd)), (11, .int (nI a)), (12, .int (nI (15 * a)))] 563 [] := by
  obtain ⟨hst, hC, ht60, hk9, hn9⟩ := H0
  obtain ⟨hσ, hU, hR, h3, d9, hd, hd20⟩ := id hq
  obtain ⟨g0, g1, g2, g3, g4, g5, g6, g7, hsr, hsz⟩ := id hR
  have h6 := hσ.1
  have hS := hsr a ha
  have hi := (hσ.2 a ha).1
  have hn := hi.1
  have hcard := hi.2.1
  have hconv := hi.2.2.1
  have ha31 : a < 2 ^ 31 := by omega
  have hm0 : mHas σ 0 (nI a) := mHas_k h6 (Nat.zero_le a) ha
  obtain ⟨q0, q1, q2, q3, q4, q5, q6, q7, q8, q9, q10, q11, q12, q13, q14⟩ := id hS.1
  refine k_aload hC dL_law_563 rfl ?_
  refine k_iconst hC (nI 1) dL_law_565 rfl ?_
  refine k_ald hC 4 rfl (by omega) (by decide) dL_law_566 ?_
  refine k_topE (kB σ.2.1) g1 ?_
  refine k_istore hC dL_law_567 (by decide) rfl [(0, .ref b0), (1, .ref x), (2, .ref aT), (3, .ref aM), (4, .ref aI), (5, .ref aW), (6, .ref aG), (7, .int (nI turn)), (8, .int z8), (9, .int z9), (10, .int (nI kd)), (11, .int (nI a)), (12, .int (nI (15 * a))), (13, .int (kB σ.2.1))] rfl ?_
  refine k_aload hC dL_law_569 rfl ?_
  refine k_iconst hC (nI 1) dL_law_571 rfl ?_
  refine k_iload hC dL_law_572 rfl ?_
  refine k_iconst hC (nI 3) dL_law_574 rfl ?_
  refine k_ishr hC dL_law_575 (fun z1 => ?_)
  refine k_iconst hC (nI 2) dL_law_576 rfl ?_
  refine k_callS hC (As := [.int z1, .int (nI 2)]) (cL_low_k l K z1 2 (by decide) (by decide)) [kI K aT 45 fT, kI K aM 60 fM, kI K aI 60 fI, kI K aW 60 fW, kI K aG 8 fG] rfl (kAll4 lkM_L_127 lkT_yL_low lkN_L lkC_yL_low) 2 (by decide) ⟨(Nat.le_of_ble_eq_true rfl), (Nat.le_of_ble_eq_true rfl)⟩ rfl rfl (Nat.le_of_ble_eq_true rfl) ⟨by show k9 + 0 ≤ 637431; omega, by show n9 + 0 ≤ 7189406; omega⟩ dL_law_577 (fun v w h => ?_)
  obtain ⟨⟨j3, hj3, rfl⟩, rfl⟩ := h
  refine k_re (k9) (n9) [kI K aT 45 fT, kI K aM 60 fM, kI K aI 60 fI, kI K aW 60 fW, kI K aG 8 fG] [.int (nI j3), .int (nI 1), .ref aG] rfl rfl rfl rfl ?_
  refine k_ast hC 4 rfl (by omega) (by decide) dL_law_580 [kI K aT 45 fT, kI K aM 60 fM, kI K aI 60 fI, kI K aW 60 fW, kI K aG 8 (upd fG 1 (nI j3))] rfl ?_
  rcases (show j3 = 0 ∨ j3 = 1 by omega) with e1 | e1
  · subst e1
    have e8 : nI 0 = kB false := rfl
    refine k_aload_n hC 1 dL_law_581 rfl rfl ?_
    refine k_aload hC dL_law_582 rfl ?_
    refine k_iconst hC (nI 1) dL_law_584 rfl ?_
    refine k_ald hC 4 rfl (by omega) (by decide) dL_law_585 ?_
    refine k_topE (nI 0) pk_us ?_
    refine k_iconst hC (nI 1) dL_law_586 rfl ?_
    refine k_icmp_neN hC 594 dL_law_587 (by decide) (by omega) (by omega) (fun c5 => ?_) (fun c5 => ?_)
    · refine k_iconst hC (nI 0) dL_law_594 rfl ?_
      refine k_topE (kB false) rfl ?_
      refine k_perm2 [kI K aT 45 fT, kI K aM 60 fM, kI K aI 60 fI, kI K aW 60 fW, kI K aG 8 (upd fG 1 (nI 0))] (wX K x ad σ us) List.perm_append_comm ?_
      refine k_callV hC (As := [.int (kB false)]) (cX3_rule_k l K x ad σ us hσ hU false) [] (List.append_nil _).symm 0 rfl rfl (kAll5 lkM_L_136 lkI_yX3_rule lkS_yX3_rule lkN_X3 lkC_yX3_rule) 1 (by decide) ⟨(Nat.le_of_ble_eq_true rfl), (Nat.le_of_ble_eq_true rfl)⟩ rfl rfl (Nat.le_of_ble_eq_true rfl) ⟨by show k9 + 0 ≤ 637431; omega, by show n9 + 0 ≤ 7189406; omega⟩ dL_law_595 (fun v w h => ?_)
      obtain ⟨-, rfl, ad1_, us1_, rfl, hU1_⟩ := h
      refine k_re (k9) (n9) (wX K x ad1_ ((σ.1, false, σ.2.2)) us1_) [.int (kB σ.2.1)] rfl rfl (List.append_nil _) rfl ?_
      refine k_perm2 (wX K x ad1_ ((σ.1, false, σ.2.2)) us1_) [kI K aT 45 fT, kI K aM 60 fM, kI K aI 60 fI, kI K aW 60 fW, kI K aG 8 (upd fG 1 (nI 0))] List.perm_append_comm ?_
      refine k_iload hC dL_law_598 rfl ?_
      refine k_iconst hC (nI 1) dL_law_600 rfl ?_
      refine k_icmp_ne hC 608 dL_law_601 (by decide) (fun c7 => ?_) (fun c7 => ?_)
      · refine k_iconst hC (nI 0) dL_law_608 rfl ?_
        have hr0 : σ.2.1 = false := by
          cases hr : σ.2.1 with
          | false => rfl
          | true => rw [hr] at c7; exact absurd rfl c7
        refine k_topE (kB σ.2.1) (by rw [hr0]; rfl) ?_
        refine k_icmp_eq hC 614 dL_law_609 (by decide) (fun _ => ?_) (fun c9 => absurd rfl c9)
        refine k_goto hC 1152 dL_law_614 (by decide) ?_
        refine k_lsub [0, 1, 2, 3, 4, 5, 6, 7] [(0, .ref b0), (1, .ref x), (2, .ref aT), (3, .ref aM), (4, .ref aI), (5, .ref aW), (6, .ref aG), (7, .int (nI turn))] rfl ?_
        exact law_1152 ⟨hst, hC, ht60, hk9, hn9⟩ kk ad1_ ((σ.1, false, σ.2.2)) us1_ fT fM fI fW (upd fG 1 (nI 0)) ⟨⟨hσ.1, hσ.2⟩, hU1_, ⟨g0, rfl, g2, g3, g4, g5, g6, g7, hsr, hsz⟩, h3, d9, hd, hd20⟩ h0 (k9) (n9) (by omega) (by omega)
      · refine k_iconst hC (nI 1) dL_law_604 rfl ?_
        have hr0 : σ.2.1 = true := kB_1.mp c7
        refine k_topE (kB σ.2.1) (by rw [hr0]; rfl) ?_
        refine k_goto hC 609 dL_law_605 (by decide) ?_
        refine k_icmp_eq hC 614 dL_law_609 (by decide) (fun _ => ?_) (fun c9 => absurd rfl c9)
        refine k_goto hC 1152 dL_law_614 (by decide) ?_
        refine k_lsub [0, 1, 2, 3, 4, 5, 6, 7] [(0, .ref b0), (1, .ref x), (2, .ref aT), (3, .ref aM), (4, .ref aI), (5, .ref aW), (6, .ref aG), (7, .int (nI turn))] rfl ?_
        exact law_1152 ⟨hst, hC, ht60, hk9, hn9⟩ kk ad1_ ((σ.1, false, σ.2.2)) us1_ fT fM fI fW (upd fG 1 (nI 0)) ⟨⟨hσ.1, hσ.2⟩, hU1_, ⟨g0, rfl, g2, g3, g4, g5, g6, g7, hsr, hsz⟩, h3, d9, hd, hd20⟩ h0 (k9) (n9) (by omega) (by omega)
    · exact absurd c5 (by decide)
  · subst e1
    have e8 : nI 1 = kB true := rfl
    refine k_aload_n hC 1 dL_law_581 rfl rfl ?_
    refine k_aload hC dL_law_582 rfl ?_
    refine k_iconst hC (nI 1) dL_law_584 rfl ?_
    refine k_ald hC 4 rfl (by omega) (by decide) dL_law_585 ?_
    refine k_topE (nI 1) pk_us ?_
    refine k_iconst hC (nI 1) dL_law_586 rfl ?_
    refine k_icmp_neN hC 594 dL_law_587 (by decide) (by omega) (by omega) (fun c5 => ?_) (fun c5 => ?_)
    · exact absurd rfl c5
    · refine k_iconst hC (nI 1) dL_law_590 rfl ?_
      refine k_topE (kB true) rfl ?_
      refine k_goto hC 595 dL_law_591 (by decide) ?_
      refine k_perm2 [kI K aT 45 fT, kI K aM 60 fM, kI K aI 60 fI, kI K aW 60 fW, kI K aG 8 (upd fG 1 (nI 1))] (wX K x ad σ us) List.perm_append_comm ?_
      refine k_callV hC (As := [.int (kB true)]) (cX3_rule_k l K x ad σ us hσ hU true) [] (List.append_nil _).symm 0 rfl rfl (kAll5 lkM_L_136 lkI_yX3_rule lkS_yX3_rule lkN_X3 lkC_yX3_rule) 1 (by decide) ⟨(Nat.le_of_ble_eq_true rfl), (Nat.le_of_ble_eq_true rfl)⟩ rfl rfl (Nat.le_of_ble_eq_true rfl) ⟨by show k9 + 0 ≤ 637431; omega, by show n9 + 0 ≤ 7189406; omega⟩ dL_law_595 (fun v w h => ?_)
      obtain ⟨-, rfl, ad2_, us2_, rfl, hU2_⟩ := h
      refine k_re (k9) (n9) (wX K x ad2_ ((σ.1, true, σ.2.2)) us2_) [.int (kB σ.2.1)] rfl rfl (List.append_nil _) rfl ?_
      refine k_perm2 (wX K x ad2_ ((σ.1, true, σ.2.2)) us2_) [kI K aT 45 fT, kI K aM 60 fM, kI K aI 60 fI, kI K aW 60 fW, kI K aG 8 (upd fG 1 (nI 1))] List.perm_append_comm ?_
      refine k_iload hC dL_law_598 rfl ?_
      refine k_iconst hC (nI 1) dL_law_600 rfl ?_
      refine k_icmp_ne hC 608 dL_law_601 (by decide) (fun c7 => ?_) (fun c7 => ?_)
      · refine k_iconst hC (nI 0) dL_law_608 rfl ?_
        have hr0 : σ.2.1 = false := by
          cases hr : σ.2.1 with
          | false => rfl
          | true => rw [hr] at c7; exact absurd rfl c7
        refine k_topE (kB σ.2.1) (by rw [hr0]; rfl) ?_
        refine k_icmp_eq hC 614 dL_law_609 (by decide) (fun _ => ?_) (fun c9 => absurd rfl c9)
        refine k_goto hC 1152 dL_law_614 (by decide) ?_
        refine k_lsub [0, 1, 2, 3, 4, 5, 6, 7] [(0, .ref b0), (1, .ref x), (2, .ref aT), (3, .ref aM), (4, .ref aI), (5, .ref aW), (6, .ref aG), (7, .int (nI turn))] rfl ?_
        exact law_1152 ⟨hst, hC, ht60, hk9, hn9⟩ kk ad2_ ((σ.1, true, σ.2.2)) us2_ fT fM fI fW (upd fG 1 (nI 1)) ⟨⟨hσ.1, hσ.2⟩, hU2_, ⟨g0, rfl, g2, g3, g4, g5, g6, g7, hsr, hsz⟩, h3, d9, hd, hd20⟩ h0 (k9) (n9) (by omega) (by omega)
      · refine k_iconst hC (nI 1) dL_law_604 rfl ?_
        have hr0 : σ.2.1 = true := kB_1.mp c7
        refine k_topE (kB σ.2.1) (by rw [hr0]; rfl) ?_
        refine k_goto hC 609 dL_law_605 (by decide) ?_
        refine k_icmp_eq hC 614 dL_law_609 (by decide) (fun _ => ?_) (fun c9 => absurd rfl c9)
        refine k_goto hC 1152 dL_law_614 (by decide) ?_
        refine k_lsub [0, 1, 2, 3, 4, 5, 6, 7] [(0, .ref b0), (1, .ref x), (2, .ref aT), (3, .ref aM), (4, .ref aI), (5, .ref aW), (6, .ref aG), (7, .int (nI turn))] rfl ?_
        exact law_1152 ⟨hst, hC, ht60, hk9, hn9⟩ kk ad2_ ((σ.1, true, σ.2.2)) us2_ fT fM fI fW (upd fG 1 (nI 1)) ⟨⟨hσ.1, hσ.2⟩, hU2_, ⟨g0, rfl, g2, g3, g4, g5, g6, g7, hsr, hsz⟩, h3, d9, hd, hd20⟩ h0 (k9) (n9) (by omega) (by omega)
set_option maxRecDepth 100000 in
set_option maxHeartbeats 4000000 in
theorem law_c4 {p : Program} {l : Launch} {e : Env} {s : State} {m : MethodId} {args : Array Value} {below : List Frame} {meth : Method} {cd : Code} {K : kE} {A : Nat → Prop} {Q : State → Prop} {b0 x aT aM aI aW aG turn k9 n9 : Nat} (H0 : kHead p l s m args meth cd K A turn k9 n9) (kk : kCont p l e s m args below meth cd K A Q b0 x aT aM aI aW aG turn k9 n9) (ad : Nat → Nat → Nat) (σ : mS) (us : Nat → Nat → Nat → Int32) (fT fM fI fW fG : Nat → Int32) (hq : qInv σ us fT fM fI fW fG) (h0 : σ.1 ≠ 0) (z8 z9 : Int32) (kd a : Nat) (ha : a < σ.1) : kW p l e room_1 s m args below meth cd K A 16 Q k9 n9 (wX K x ad σ us) [kI K aT 45 fT, kI K aM 60 fM, kI K aI 60 fI, kI K aW 60 fW, kI K aG 8 fG] [(0, .ref b0), (1, .ref x), (2, .ref aT), (3, .ref aM), (4, .ref aI), (5, .ref aW), (6, .ref aG), (7, .int (nI turn)), (8, .int z8), (9, .int z9), (10, .int (nI kd)), (11, .int (nI a)), (12, .int (nI (15 * a)))] 623 [] := by
  obtain ⟨hst, hC, ht60, hk9, hn9⟩ := H0
  obtain ⟨hσ, hU, hR, h3, d9, hd, hd20⟩ := id hq
  obtain ⟨g0, g1, g2, g3, g4, g5, g6, g7, hsr, hsz⟩ := id hR
  have h6 := hσ.1
  have hS := hsr a ha
  have hi := (hσ.2 a ha).1
  have hn := hi.1
  have hcard := hi.2.1
  have hconv := hi.2.2.1
  have ha31 : a < 2 ^ 31 := by omega
  have hm0 : mHas σ 0 (nI a) := mHas_k h6 (Nat.zero_le a) ha
  obtain ⟨q0, q1, q2, q3, q4, q5, q6, q7, q8, q9, q10, q11, q12, q13, q14⟩ := id hS.1
  refine k_aload hC dL_law_623 rfl ?_
  refine k_iconst hC (nI 2) dL_law_625 rfl ?_
  refine k_ald hC 4 rfl (by omega) (by decide) dL_law_626 ?_
  refine k_topE (σ.2.2.1 3) g2 ?_
  refine k_istore hC dL_law_627 (by decide) rfl [(0, .ref b0), (1, .ref x), (2, .ref aT), (3, .ref aM), (4, .ref aI), (5, .ref aW), (6, .ref aG), (7, .int (nI turn)), (8, .int z8), (9, .int z9), (10, .int (nI kd)), (11, .int (nI a)), (12, .int (nI (15 * a))), (13, .int (σ.2.2.1 3))] rfl ?_
  refine k_aload hC dL_law_629 rfl ?_
  refine k_iconst hC (nI 2) dL_law_631 rfl ?_
  refine k_iload hC dL_law_632 rfl ?_
  refine k_iconst hC (nI 3) dL_law_634 rfl ?_
  refine k_ishr hC dL_law_635 (fun z1 => ?_)
  refine k_bipush hC (nI 7) dL_law_636 rfl ?_
  refine k_callS hC (As := [.int z1, .int (nI 7)]) (cL_low_k l K z1 7 (by decide) (by decide)) [kI K aT 45 fT, kI K aM 60 fM, kI K aI 60 fI, kI K aW 60 fW, kI K aG 8 fG] rfl (kAll4 lkM_L_127 lkT_yL_low lkN_L lkC_yL_low) 2 (by decide) ⟨(Nat.le_of_ble_eq_true rfl), (Nat.le_of_ble_eq_true rfl)⟩ rfl rfl (Nat.le_of_ble_eq_true rfl) ⟨by show k9 + 0 ≤ 637431; omega, by show n9 + 0 ≤ 7189406; omega⟩ dL_law_638 (fun v w h => ?_)
  obtain ⟨⟨j4, hj4, rfl⟩, rfl⟩ := h
  refine k_re (k9) (n9) [kI K aT 45 fT, kI K aM 60 fM, kI K aI 60 fI, kI K aW 60 fW, kI K aG 8 fG] [.int (nI j4), .int (nI 2), .ref aG] rfl rfl rfl rfl ?_
  have hv : mIn (nI j4) 0 20 := ⟨nI_le (Nat.zero_le _) (by omega), nI_le (by omega) (by decide)⟩
  have hop : oDemand σ (nI j4) = (0, σ.2.2.1 3, (σ.1, σ.2.1, va_up σ.2.2.1 3 (nI j4), σ.2.2.2)) := by simp only [oDemand, if_pos hv]
  refine k_ast hC 4 rfl (by omega) (by decide) dL_law_641 [kI K aT 45 fT, kI K aM 60 fM, kI K aI 60 fI, kI K aW 60 fW, kI K aG 8 (upd fG 2 (nI j4))] rfl ?_
  refine k_aload_n hC 1 dL_law_642 rfl rfl ?_
  refine k_aload hC dL_law_643 rfl ?_
  refine k_iconst hC (nI 2) dL_law_645 rfl ?_
  refine k_ald hC 4 rfl (by omega) (by decide) dL_law_646 ?_
  refine k_topE (nI j4) pk_us ?_
  refine k_perm2 [kI K aT 45 fT, kI K aM 60 fM, kI K aI 60 fI, kI K aW 60 fW, kI K aG 8 (upd fG 2 (nI j4))] (wX K x ad σ us) List.perm_append_comm ?_
  refine k_callXC hC (As := [.int (nI j4)]) (cX3_demand_k hst K x ad σ us hσ hU (nI j4)) [] (List.append_nil _).symm 0 rfl rfl (kAll5 lkM_L_140 lkI_yX3_demand lkS_yX3_demand lkN_X3 lkC_yX3_demand) 1 (by decide) ⟨(Nat.le_of_ble_eq_true rfl), (Nat.le_of_ble_eq_true rfl)⟩ rfl rfl (Nat.le_of_ble_eq_true rfl) ⟨by show k9 + 1 ≤ 637431; omega, by show n9 + 6 ≤ 7189406; omega⟩ dL_law_647 (fun E q => (kNo (by rw [hop]) q).elim) (fun v w h => ?_)
  rw [hop] at h
  obtain ⟨-, rfl, ad1_, us1_, rfl, hU1_⟩ := h
  refine k_re (k9 + 1) (n9 + 6) (wX K x ad1_ ((σ.1, σ.2.1, va_up σ.2.2.1 3 (nI j4), σ.2.2.2)) us1_) [.int (σ.2.2.1 3)] rfl rfl (List.append_nil _) rfl ?_
  refine k_perm2 (wX K x ad1_ ((σ.1, σ.2.1, va_up σ.2.2.1 3 (nI j4), σ.2.2.2)) us1_) [kI K aT 45 fT, kI K aM 60 fM, kI K aI 60 fI, kI K aW 60 fW, kI K aG 8 (upd fG 2 (nI j4))] List.perm_append_comm ?_
  refine k_iload hC dL_law_650 rfl ?_
  refine k_icmp_eq hC 657 dL_law_652 (by decide) (fun _ => ?_) (fun c9 => absurd rfl c9)
  refine k_goto hC 1152 dL_law_657 (by decide) ?_
  refine k_lsub [0, 1, 2, 3, 4, 5, 6, 7] [(0, .ref b0), (1, .ref x), (2, .ref aT), (3, .ref aM), (4, .ref aI), (5, .ref aW), (6, .ref aG), (7, .int (nI turn))] rfl ?_
  exact law_1152 ⟨hst, hC, ht60, hk9, hn9⟩ kk ad1_ ((σ.1, σ.2.1, va_up σ.2.2.1 3 (nI j4), σ.2.2.2)) us1_ fT fM fI fW (upd fG 2 (nI j4)) ⟨⟨hσ.1, hσ.2⟩, hU1_, ⟨g0, g1, rfl, g3, g4, g5, g6, g7, hsr, hsz⟩, h3, j4, rfl, (by omega)⟩ h0 (k9 + 1) (n9 + 6) (by omega) (by omega)
set_option maxRecDepth 100000 in
set_option maxHeartbeats 4000000 in
theorem law_c5 {p : Program} {l : Launch} {e : Env} {s : State} {m : MethodId} {args : Array Value} {below : List Frame} {meth : Method} {cd : Code} {K : kE} {A : Nat → Prop} {Q : State → Prop} {b0 x aT aM aI aW aG turn k9 n9 : Nat} (H0 : kHead p l s m args meth cd K A turn k9 n9) (kk : kCont p l e s m args below meth cd K A Q b0 x aT aM aI aW aG turn k9 n9) (ad : Nat → Nat → Nat) (σ : mS) (us : Nat → Nat → Nat → Int32) (fT fM fI fW fG : Nat → Int32) (hq : qInv σ us fT fM fI fW fG) (h0 : σ.1 ≠ 0) (z8 z9 : Int32) (kd a : Nat) (ha : a < σ.1) : kW p l e room_1 s m args below meth cd K A 16 Q k9 n9 (wX K x ad σ us) [kI K aT 45 fT, kI K aM 60 fM, kI K aI 60 fI, kI K aW 60 fW, kI K aG 8 fG] [(0, .ref b0), (1, .ref x), (2, .ref aT), (3, .ref aM), (4, .ref aI), (5, .ref aW), (6, .ref aG), (7, .int (nI turn)), (8, .int z8), (9, .int z9), (10, .int (nI kd)), (11, .int (nI a)), (12, .int (nI (15 * a)))] 666 [] := by
  obtain ⟨hst, hC, ht60, hk9, hn9⟩ := H0
  obtain ⟨hσ, hU, hR, h3, d9, hd, hd20⟩ := id hq
  obtain ⟨g0, g1, g2, g3, g4, g5, g6, g7, hsr, hsz⟩ := id hR
  have h6 := hσ.1
  have hS := hsr a ha
  have hi := (hσ.2 a ha).1
  have hn := hi.1
  have hcard := hi.2.1
  have hconv := hi.2.2.1
  have ha31 : a < 2 ^ 31 := by omega
  have hm0 : mHas σ 0 (nI a) := mHas_k h6 (Nat.zero_le a) ha
  obtain ⟨q0, q1, q2, q3, q4, q5, q6, q7, q8, q9, q10, q11, q12, q13, q14⟩ := id hS.1
  refine k_iload hC dL_law_666 rfl ?_
  refine k_iconst hC (nI 3) dL_law_668 rfl ?_
  refine k_ishr hC dL_law_669 (fun z1 => ?_)
  refine k_iconst hC (nI 2) dL_law_670 rfl ?_
  refine k_callS hC (As := [.int z1, .int (nI 2)]) (cL_low_k l K z1 2 (by decide) (by decide)) [kI K aT 45 fT, kI K aM 60 fM, kI K aI 60 fI, kI K aW 60 fW, kI K aG 8 fG] rfl (kAll4 lkM_L_127 lkT_yL_low lkN_L lkC_yL_low) 2 (by decide) ⟨(Nat.le_of_ble_eq_true rfl), (Nat.le_of_ble_eq_true rfl)⟩ rfl rfl (Nat.le_of_ble_eq_true rfl) ⟨by show k9 + 0 ≤ 637431; omega, by show n9 + 0 ≤ 7189406; omega⟩ dL_law_671 (fun v w h => ?_)
  obtain ⟨⟨j5, hj5, rfl⟩, rfl⟩ := h
  refine k_re (k9) (n9) [kI K aT 45 fT, kI K aM 60 fM, kI K aI 60 fI, kI K aW 60 fW, kI K aG 8 fG] [.int (nI j5)] rfl rfl rfl rfl ?_
  refine k_if_leN hC 680 dL_law_674 (by decide) (by omega) (fun c1 => ?_) (fun c1 => ?_)
  · have hop : oStop σ (nI a) = (0, nI (1 - (σ.2.2.2 a).1 12), mPut σ a (va_up (σ.2.2.2 a).1 12 (1 - (σ.2.2.2 a).1 12), (σ.2.2.2 a).2)) := by simp only [oStop, oT, mIx_nI ha31, if_pos hm0]
    refine k_aload_n hC 2 dL_law_680 rfl rfl ?_
    refine k_iload hC dL_law_681 rfl ?_
    refine k_bipush hC (nI 14) dL_law_683 rfl ?_
    refine k_iaddN hC dL_law_685 ?_
    refine k_iconst hC (nI 1) dL_law_686 rfl ?_
    refine k_aload_n hC 2 dL_law_687 rfl rfl ?_
    refine k_iload hC dL_law_688 rfl ?_
    refine k_bipush hC (nI 14) dL_law_690 rfl ?_
    refine k_iaddN hC dL_law_692 ?_
    refine k_ald hC 0 rfl (by omega) (by decide) dL_law_693 ?_
    refine k_topE (nI ((σ.2.2.2 a).1 12)) q14 ?_
    refine k_isubN hC dL_law_694 (by omega) ?_
    refine k_ast hC 0 rfl (by omega) (by decide) dL_law_695 [kI K aT 45 (upd fT (15 * a + 14) (nI (1 - ((σ.2.2.2 a).1 12)))), kI K aM 60 fM, kI K aI 60 fI, kI K aW 60 fW, kI K aG 8 fG] rfl ?_
    refine k_aload_n hC 1 dL_law_696 rfl rfl ?_
    refine k_iload hC dL_law_697 rfl ?_
    refine k_perm2 [kI K aT 45 (upd fT (15 * a + 14) (nI (1 - ((σ.2.2.2 a).1 12)))), kI K aM 60 fM, kI K aI 60 fI, kI K aW 60 fW, kI K aG 8 fG] (wX K x ad σ us) List.perm_append_comm ?_
    refine k_callXC hC (As := [.int (nI a)]) (cX3_stop_k hst K x ad σ us hσ hU (nI a)) [] (List.append_nil _).symm 0 rfl rfl (kAll5 lkM_L_143 lkI_yX3_stop lkS_yX3_stop lkN_X3 lkC_yX3_stop) 1 (by decide) ⟨(Nat.le_of_ble_eq_true rfl), (Nat.le_of_ble_eq_true rfl)⟩ rfl rfl (Nat.le_of_ble_eq_true rfl) ⟨by show k9 + 1 ≤ 637431; omega, by show n9 + 6 ≤ 7189406; omega⟩ dL_law_699 (fun E q => (kNo (by rw [hop]) q).elim) (fun v w h => ?_)
    rw [hop] at h
    obtain ⟨-, rfl, ad1_, us1_, rfl, hU1_⟩ := h
    refine k_re (k9 + 1) (n9 + 6) (wX K x ad1_ (mPut σ a (va_up (σ.2.2.2 a).1 12 (1 - (σ.2.2.2 a).1 12), (σ.2.2.2 a).2)) us1_) [.int (nI (1 - (σ.2.2.2 a).1 12))] rfl rfl (List.append_nil _) rfl ?_
    refine k_perm2 (wX K x ad1_ (mPut σ a (va_up (σ.2.2.2 a).1 12 (1 - (σ.2.2.2 a).1 12), (σ.2.2.2 a).2)) us1_) [kI K aT 45 (upd fT (15 * a + 14) (nI (1 - ((σ.2.2.2 a).1 12)))), kI K aM 60 fM, kI K aI 60 fI, kI K aW 60 fW, kI K aG 8 fG] List.perm_append_comm ?_
    refine k_aload_n hC 2 dL_law_702 rfl rfl ?_
    refine k_iload hC dL_law_703 rfl ?_
    refine k_bipush hC (nI 14) dL_law_705 rfl ?_
    refine k_iaddN hC dL_law_707 ?_
    refine k_ald hC 0 rfl (by omega) (by decide) dL_law_708 ?_
    refine k_topE (nI (1 - ((σ.2.2.2 a).1 12))) pk_us ?_
    refine k_iconst hC (nI 1) dL_law_709 rfl ?_
    refine k_icmp_neN hC 717 dL_law_710 (by decide) (by omega) (by omega) (fun c2 => ?_) (fun c2 => ?_)
    · refine k_iconst hC (nI 0) dL_law_717 rfl ?_
      refine k_topE (nI (1 - (σ.2.2.2 a).1 12)) (congrArg nI (by omega)) ?_
      refine k_icmp_eq hC 1152 dL_law_718 (by decide) (fun _ => ?_) (fun c9 => absurd rfl c9)
      refine k_lsub [0, 1, 2, 3, 4, 5, 6, 7] [(0, .ref b0), (1, .ref x), (2, .ref aT), (3, .ref aM), (4, .ref aI), (5, .ref aW), (6, .ref aG), (7, .int (nI turn))] rfl ?_
      exact law_1152 ⟨hst, hC, ht60, hk9, hn9⟩ kk ad1_ (mPut σ a (va_up (σ.2.2.2 a).1 12 (1 - (σ.2.2.2 a).1 12), (σ.2.2.2 a).2)) us1_ (upd fT (15 * a + 14) (nI (1 - ((σ.2.2.2 a).1 12)))) fM fI fW fG ⟨(by have := oStop_ok hσ (nI a); rw [hop] at this; exact this), hU1_, qRep_put (τ := (va_up (σ.2.2.2 a).1 12 (1 - (σ.2.2.2 a).1 12), (σ.2.2.2 a).2)) hR hσ ha ⟨⟨((pk_un (by omega)).trans q0), ((pk_un (by omega)).trans q1), ((pk_un (by omega)).trans q2), ((pk_un (by omega)).trans q3), ((pk_un (by omega)).trans q4), ((pk_un (by omega)).trans q5), ((pk_un (by omega)).trans q6), ((pk_un (by omega)).trans q7), ((pk_un (by omega)).trans q8), ((pk_un (by omega)).trans q9), ((pk_un (by omega)).trans q10), ((pk_un (by omega)).trans q11), ((pk_un (by omega)).trans q12), ((pk_un (by omega)).trans q13), pk_us⟩, hS.2.1, hS.2.2.1, hS.2.2.2⟩ (fun j hj => ⟨(qAT_up hj (by decide) qAT_rf), qAR_rf, qAR_rf, qAR_rf⟩) rfl, h3, d9, hd, hd20⟩ h0 (k9 + 1) (n9 + 6) (by omega) (by omega)
    · refine k_iconst hC (nI 1) dL_law_713 rfl ?_
      refine k_topE (nI (1 - (σ.2.2.2 a).1 12)) (congrArg nI (by omega)) ?_
      refine k_goto hC 718 dL_law_714 (by decide) ?_
      refine k_icmp_eq hC 1152 dL_law_718 (by decide) (fun _ => ?_) (fun c9 => absurd rfl c9)
      refine k_lsub [0, 1, 2, 3, 4, 5, 6, 7] [(0, .ref b0), (1, .ref x), (2, .ref aT), (3, .ref aM), (4, .ref aI), (5, .ref aW), (6, .ref aG), (7, .int (nI turn))] rfl ?_
      exact law_1152 ⟨hst, hC, ht60, hk9, hn9⟩ kk ad1_ (mPut σ a (va_up (σ.2.2.2 a).1 12 (1 - (σ.2.2.2 a).1 12), (σ.2.2.2 a).2)) us1_ (upd fT (15 * a + 14) (nI (1 - ((σ.2.2.2 a).1 12)))) fM fI fW fG ⟨(by have := oStop_ok hσ (nI a); rw [hop] at this; exact this), hU1_, qRep_put (τ := (va_up (σ.2.2.2 a).1 12 (1 - (σ.2.2.2 a).1 12), (σ.2.2.2 a).2)) hR hσ ha ⟨⟨((pk_un (by omega)).trans q0), ((pk_un (by omega)).trans q1), ((pk_un (by omega)).trans q2), ((pk_un (by omega)).trans q3), ((pk_un (by omega)).trans q4), ((pk_un (by omega)).trans q5), ((pk_un (by omega)).trans q6), ((pk_un (by omega)).trans q7), ((pk_un (by omega)).trans q8), ((pk_un (by omega)).trans q9), ((pk_un (by omega)).trans q10), ((pk_un (by omega)).trans q11), ((pk_un (by omega)).trans q12), ((pk_un (by omega)).trans q13), pk_us⟩, hS.2.1, hS.2.2.1, hS.2.2.2⟩ (fun j hj => ⟨(qAT_up hj (by decide) qAT_rf), qAR_rf, qAR_rf, qAR_rf⟩) rfl, h3, d9, hd, hd20⟩ h0 (k9 + 1) (n9 + 6) (by omega) (by omega)
  · refine k_goto hC 1169 dL_law_677 (by decide) ?_
    refine k_lsub [0, 1, 2, 3, 4, 5, 6, 7] [(0, .ref b0), (1, .ref x), (2, .ref aT), (3, .ref aM), (4, .ref aI), (5, .ref aW), (6, .ref aG), (7, .int (nI turn))] rfl ?_
    exact kk ad σ us fT fM fI fW fG (k9) (n9) ⟨hσ, hU, hR, h3, d9, hd, hd20⟩ h0 (by omega) (by omega)
set_option maxRecDepth 100000 in
set_option maxHeartbeats 4000000 in
theorem law_c6 {p : Program} {l : Launch} {e : Env} {s : State} {m : MethodId} {args : Array Value} {below : List Frame} {meth : Method} {cd : Code} {K : kE} {A : Nat → Prop} {Q : State → Prop} {b0 x aT aM aI aW aG turn k9 n9 : Nat} (H0 : kHead p l s m args meth cd K A turn k9 n9) (kk : kCont p l e s m args below meth cd K A Q b0 x aT aM aI aW aG turn k9 n9) (ad : Nat → Nat → Nat) (σ : mS) (us : Nat → Nat → Nat → Int32) (fT fM fI fW fG : Nat → Int32) (hq : qInv σ us fT fM fI fW fG) (h0 : σ.1 ≠ 0) (z8 z9 : Int32) (kd a : Nat) (ha : a < σ.1) : kW p l e room_1 s m args below meth cd K A 16 Q k9 n9 (wX K x ad σ us) [kI K aT 45 fT, kI K aM 60 fM, kI K aI 60 fI, kI K aW 60 fW, kI K aG 8 fG] [(0, .ref b0), (1, .ref x), (2, .ref aT), (3, .ref aM), (4, .ref aI), (5, .ref aW), (6, .ref aG), (7, .int (nI turn)), (8, .int z8), (9, .int z9), (10, .int (nI kd)), (11, .int (nI a)), (12, .int (nI (15 * a)))] 730 [] := by
  obtain ⟨hst, hC, ht60, hk9, hn9⟩ := H0
  obtain ⟨hσ, hU, hR, h3, d9, hd, hd20⟩ := id hq
  obtain ⟨g0, g1, g2, g3, g4, g5, g6, g7, hsr, hsz⟩ := id hR
  have h6 := hσ.1
  have hS := hsr a ha
  have hi := (hσ.2 a ha).1
  have hn := hi.1
  have hcard := hi.2.1
  have hconv := hi.2.2.1
  have ha31 : a < 2 ^ 31 := by omega
  have hm0 : mHas σ 0 (nI a) := mHas_k h6 (Nat.zero_le a) ha
  obtain ⟨q0, q1, q2, q3, q4, q5, q6, q7, q8, q9, q10, q11, q12, q13, q14⟩ := id hS.1
  refine k_iload hC dL_law_730 rfl ?_
  refine k_iconst hC (nI 3) dL_law_732 rfl ?_
  refine k_ishr hC dL_law_733 (fun z1 => ?_)
  refine k_iconst hC (nI 2) dL_law_734 rfl ?_
  refine k_callS hC (As := [.int z1, .int (nI 2)]) (cL_low_k l K z1 2 (by decide) (by decide)) [kI K aT 45 fT, kI K aM 60 fM, kI K aI 60 fI, kI K aW 60 fW, kI K aG 8 fG] rfl (kAll4 lkM_L_127 lkT_yL_low lkN_L lkC_yL_low) 2 (by decide) ⟨(Nat.le_of_ble_eq_true rfl), (Nat.le_of_ble_eq_true rfl)⟩ rfl rfl (Nat.le_of_ble_eq_true rfl) ⟨by show k9 + 0 ≤ 637431; omega, by show n9 + 0 ≤ 7189406; omega⟩ dL_law_735 (fun v w h => ?_)
  obtain ⟨⟨j6, hj6, rfl⟩, rfl⟩ := h
  refine k_re (k9) (n9) [kI K aT 45 fT, kI K aM 60 fM, kI K aI 60 fI, kI K aW 60 fW, kI K aG 8 fG] [.int (nI j6)] rfl rfl rfl rfl ?_
  refine k_if_neN hC 745 dL_law_738 (by decide) (by omega) (fun c1 => ?_) (fun c1 => ?_)
  · refine k_iconst hC (nI 0) dL_law_745 rfl ?_
    refine k_istore hC dL_law_746 (by decide) rfl [(0, .ref b0), (1, .ref x), (2, .ref aT), (3, .ref aM), (4, .ref aI), (5, .ref aW), (6, .ref aG), (7, .int (nI turn)), (8, .int z8), (9, .int z9), (10, .int (nI kd)), (11, .int (nI a)), (12, .int (nI (15 * a))), (13, .int (nI 0))] rfl ?_
    refine k_iload hC dL_law_748 rfl ?_
    refine k_if_eqN hC 765 dL_law_750 (by decide) (by omega) (fun c3 => ?_) (fun c3 => ?_)
    · refine k_aload_n hC 2 dL_law_765 rfl rfl ?_
      refine k_iload hC dL_law_766 rfl ?_
      refine k_iconst hC (nI 4) dL_law_768 rfl ?_
      refine k_iaddN hC dL_law_769 ?_
      refine k_ald hC 0 rfl (by omega) (by decide) dL_law_770 ?_
      refine k_topE (nI ((σ.2.2.2 a).1 9)) q4 ?_
      refine k_if_eqN hC 782 dL_law_771 (by decide) (by omega) (fun c4 => ?_) (fun c4 => ?_)
      · have hbc : (oRetire σ (nI a)).1 = 2 := by
          simp only [oRetire, oT, mIx_nI ha31, if_pos hm0]
          rw [if_pos (by omega)]
        refine k_aload_n hC 1 dL_law_782 rfl rfl ?_
        refine k_iload hC dL_law_783 rfl ?_
        refine k_if_eqN hC 792 dL_law_785 (by decide) (by omega) (fun c8 => ?_) (fun c8 => ?_)
        · refine k_iconst hC (nI 2) dL_law_792 rfl ?_
          refine k_iload hC dL_law_793 rfl ?_
          refine k_iconst hC (nI 0) dL_law_795 rfl ?_
          refine k_perm2 [kI K aT 45 fT, kI K aM 60 fM, kI K aI 60 fI, kI K aW 60 fW, kI K aG 8 fG] (wX K x ad σ us) List.perm_append_comm ?_
          refine k_callXH hC (As := [.ref x, .int (nI 2), .int (nI a), .int (nI 0)]) (cL_refused_2 hst K x ad σ us hσ hU (nI a) (nI 0) (by rw [hbc]; decide)) [] (List.append_nil _).symm (kAll4 lkM_L_118 lkT_yL_refused lkN_L lkC_yL_refused) 4 (by decide) ⟨(Nat.le_of_ble_eq_true rfl), (Nat.le_of_ble_eq_true rfl)⟩ rfl rfl (Nat.le_of_ble_eq_true rfl) ⟨by show k9 + 3 ≤ 637431; omega, by show n9 + 18 ≤ 7189406; omega⟩ dL_law_796 (fun v w h => ?_)
          rw [hbc, if_neg (show ¬ (2 : Nat) = 1 by decide)] at h
          obtain ⟨rfl, rfl⟩ := h
          refine k_re (k9 + 3) (n9 + 18) (wX K x ad σ us) [.int (nI 2)] rfl rfl (List.append_nil _) rfl ?_
          refine k_perm2 (wX K x ad σ us) [kI K aT 45 fT, kI K aM 60 fM, kI K aI 60 fI, kI K aW 60 fW, kI K aG 8 fG] List.perm_append_comm ?_
          refine k_iconst hC (nI 2) dL_law_799 rfl ?_
          refine k_icmp_eq hC 1169 dL_law_800 (by decide) (fun _ => ?_) (fun c9 => absurd rfl c9)
          refine k_lsub [0, 1, 2, 3, 4, 5, 6, 7] [(0, .ref b0), (1, .ref x), (2, .ref aT), (3, .ref aM), (4, .ref aI), (5, .ref aW), (6, .ref aG), (7, .int (nI turn))] rfl ?_
          exact kk ad σ us fT fM fI fW fG (k9 + 3) (n9 + 18) ⟨hσ, hU, hR, h3, d9, hd, hd20⟩ h0 (by omega) (by omega)
        · exact absurd rfl c8
      · refine k_aload_n hC 2 dL_law_774 rfl rfl ?_
        refine k_iload hC dL_law_775 rfl ?_
        refine k_ald hC 0 rfl (by omega) (by decide) dL_law_777 ?_
        refine k_topE (nI ((σ.2.2.2 a).1 8)) q0 ?_
        refine k_iconst hC (nI 1) dL_law_778 rfl ?_
        refine k_icmp_neN hC 805 dL_law_779 (by decide) (by omega) (by omega) (fun c5 => ?_) (fun c5 => ?_)
        · have hop : oRetire σ (nI a) = (0, nI ((σ.2.2.2 a).1 8 - 1), mPut σ a (va_up (va_up (va_up (σ.2.2.2 a).1 8 ((σ.2.2.2 a).1 8 - 1)) 9 ((σ.2.2.2 a).1 9 - 1)) 11 (min ((σ.2.2.2 a).1 11) ((σ.2.2.2 a).1 9 - 1)), (σ.2.2.2 a).2)) := by
            simp only [oRetire, oT, mIx_nI ha31, if_pos hm0]
            rw [if_neg (by omega)]
          refine k_aload_n hC 2 dL_law_805 rfl rfl ?_
          refine k_iload hC dL_law_806 rfl ?_
          refine k_dup2 hC dL_law_808 rfl rfl ?_
          refine k_ald hC 0 rfl (by omega) (by decide) dL_law_809 ?_
          refine k_topE (nI ((σ.2.2.2 a).1 8)) q0 ?_
          refine k_iload hC dL_law_810 rfl ?_
          refine k_if_eqN hC 819 dL_law_812 (by decide) (by omega) (fun c8 => ?_) (fun c8 => ?_)
          · refine k_iconst hC (-1) dL_law_819 rfl ?_
            refine k_iadd hC dL_law_820 ?_
            refine k_topE (nI ((σ.2.2.2 a).1 8 - 1)) (kdec _ 1 (by omega) rfl) ?_
            refine k_ast hC 0 rfl (by omega) (by decide) dL_law_821 [kI K aT 45 (upd fT (15 * a) (nI ((σ.2.2.2 a).1 8 - 1))), kI K aM 60 fM, kI K aI 60 fI, kI K aW 60 fW, kI K aG 8 fG] rfl ?_
            refine k_aload_n hC 2 dL_law_822 rfl rfl ?_
            refine k_iload hC dL_law_823 rfl ?_
            refine k_iconst hC (nI 4) dL_law_825 rfl ?_
            refine k_iaddN hC dL_law_826 ?_
            refine k_dup2 hC dL_law_827 rfl rfl ?_
            refine k_ald hC 0 rfl (by omega) (by decide) dL_law_828 ?_
            refine k_topE (nI ((σ.2.2.2 a).1 9)) (((pk_un (by omega)).trans q4)) ?_
            refine k_iload hC dL_law_829 rfl ?_
            refine k_if_eqN hC 838 dL_law_831 (by decide) (by omega) (fun c8 => ?_) (fun c8 => ?_)
            · refine k_iconst hC (-1) dL_law_838 rfl ?_
              refine k_iadd hC dL_law_839 ?_
              refine k_topE (nI ((σ.2.2.2 a).1 9 - 1)) (kdec _ 1 (by omega) rfl) ?_
              refine k_ast hC 0 rfl (by omega) (by decide) dL_law_840 [kI K aT 45 (upd (upd fT (15 * a) (nI ((σ.2.2.2 a).1 8 - 1))) (15 * a + 4) (nI ((σ.2.2.2 a).1 9 - 1))), kI K aM 60 fM, kI K aI 60 fI, kI K aW 60 fW, kI K aG 8 fG] rfl ?_
              refine k_aload_n hC 2 dL_law_841 rfl rfl ?_
              refine k_iload hC dL_law_842 rfl ?_
              refine k_bipush hC (nI 6) dL_law_844 rfl ?_
              refine k_iaddN hC dL_law_846 ?_
              refine k_aload_n hC 2 dL_law_847 rfl rfl ?_
              refine k_iload hC dL_law_848 rfl ?_
              refine k_bipush hC (nI 6) dL_law_850 rfl ?_
              refine k_iaddN hC dL_law_852 ?_
              refine k_ald hC 0 rfl (by omega) (by decide) dL_law_853 ?_
              refine k_topE (nI ((σ.2.2.2 a).1 11)) (((pk_un (by omega)).trans ((pk_un (by omega)).trans q6))) ?_
              refine k_aload_n hC 2 dL_law_854 rfl rfl ?_
              refine k_iload hC dL_law_855 rfl ?_
              refine k_iconst hC (nI 4) dL_law_857 rfl ?_
              refine k_iaddN hC dL_law_858 ?_
              refine k_ald hC 0 rfl (by omega) (by decide) dL_law_859 ?_
              refine k_topE (nI ((σ.2.2.2 a).1 9 - 1)) pk_us ?_
              refine k_icmp_leN hC 872 dL_law_860 (by decide) (by omega) (by omega) (fun c9 => ?_) (fun c9 => ?_)
              · refine k_aload_n hC 2 dL_law_872 rfl rfl ?_
                refine k_iload hC dL_law_873 rfl ?_
                refine k_bipush hC (nI 6) dL_law_875 rfl ?_
                refine k_iaddN hC dL_law_877 ?_
                refine k_ald hC 0 rfl (by omega) (by decide) dL_law_878 ?_
                refine k_topE (nI ((σ.2.2.2 a).1 11)) (((pk_un (by omega)).trans ((pk_un (by omega)).trans q6))) ?_
                refine k_ast hC 0 rfl (by omega) (by decide) dL_law_879 [kI K aT 45 (upd (upd (upd fT (15 * a) (nI ((σ.2.2.2 a).1 8 - 1))) (15 * a + 4) (nI ((σ.2.2.2 a).1 9 - 1))) (15 * a + 6) (nI ((σ.2.2.2 a).1 11))), kI K aM 60 fM, kI K aI 60 fI, kI K aW 60 fW, kI K aG 8 fG] rfl ?_
                refine k_iload hC dL_law_880 rfl ?_
                refine k_if_eqN hC 894 dL_law_882 (by decide) (by omega) (fun c10 => ?_) (fun c10 => ?_)
                · refine k_aload_n hC 1 dL_law_894 rfl rfl ?_
                  refine k_iload hC dL_law_895 rfl ?_
                  refine k_perm2 [kI K aT 45 (upd (upd (upd fT (15 * a) (nI ((σ.2.2.2 a).1 8 - 1))) (15 * a + 4) (nI ((σ.2.2.2 a).1 9 - 1))) (15 * a + 6) (nI ((σ.2.2.2 a).1 11))), kI K aM 60 fM, kI K aI 60 fI, kI K aW 60 fW, kI K aG 8 fG] (wX K x ad σ us) List.perm_append_comm ?_
                  refine k_callXC hC (As := [.int (nI a)]) (cX3_retire_k hst K x ad σ us hσ hU (nI a)) [] (List.append_nil _).symm 0 rfl rfl (kAll5 lkM_L_44 lkI_yX3_retire lkS_yX3_retire lkN_X3 lkC_yX3_retire) 1 (by decide) ⟨(Nat.le_of_ble_eq_true rfl), (Nat.le_of_ble_eq_true rfl)⟩ rfl rfl (Nat.le_of_ble_eq_true rfl) ⟨by show k9 + 2 ≤ 637431; omega, by show n9 + 12 ≤ 7189406; omega⟩ dL_law_897 (fun E q => (kNo (by rw [hop]) q).elim) (fun v w h => ?_)
                  rw [hop] at h
                  obtain ⟨-, rfl, ad1_, us1_, rfl, hU1_⟩ := h
                  refine k_re (k9 + 2) (n9 + 12) (wX K x ad1_ (mPut σ a (va_up (va_up (va_up (σ.2.2.2 a).1 8 ((σ.2.2.2 a).1 8 - 1)) 9 ((σ.2.2.2 a).1 9 - 1)) 11 (min ((σ.2.2.2 a).1 11) ((σ.2.2.2 a).1 9 - 1)), (σ.2.2.2 a).2)) us1_) [.int (nI ((σ.2.2.2 a).1 8 - 1))] rfl rfl (List.append_nil _) rfl ?_
                  refine k_perm2 (wX K x ad1_ (mPut σ a (va_up (va_up (va_up (σ.2.2.2 a).1 8 ((σ.2.2.2 a).1 8 - 1)) 9 ((σ.2.2.2 a).1 9 - 1)) 11 (min ((σ.2.2.2 a).1 11) ((σ.2.2.2 a).1 9 - 1)), (σ.2.2.2 a).2)) us1_) [kI K aT 45 (upd (upd (upd fT (15 * a) (nI ((σ.2.2.2 a).1 8 - 1))) (15 * a + 4) (nI ((σ.2.2.2 a).1 9 - 1))) (15 * a + 6) (nI ((σ.2.2.2 a).1 11))), kI K aM 60 fM, kI K aI 60 fI, kI K aW 60 fW, kI K aG 8 fG] List.perm_append_comm ?_
                  refine k_aload_n hC 2 dL_law_900 rfl rfl ?_
                  refine k_iload hC dL_law_901 rfl ?_
                  refine k_ald hC 0 rfl (by omega) (by decide) dL_law_903 ?_
                  refine k_topE (nI ((σ.2.2.2 a).1 8 - 1)) (((pk_un (by omega)).trans ((pk_un (by omega)).trans pk_us))) ?_
                  refine k_icmp_eq hC 909 dL_law_904 (by decide) (fun _ => ?_) (fun c9 => absurd rfl c9)
                  refine k_goto hC 1152 dL_law_909 (by decide) ?_
                  refine k_lsub [0, 1, 2, 3, 4, 5, 6, 7] [(0, .ref b0), (1, .ref x), (2, .ref aT), (3, .ref aM), (4, .ref aI), (5, .ref aW), (6, .ref aG), (7, .int (nI turn))] rfl ?_
                  exact law_1152 ⟨hst, hC, ht60, hk9, hn9⟩ kk ad1_ (mPut σ a (va_up (va_up (va_up (σ.2.2.2 a).1 8 ((σ.2.2.2 a).1 8 - 1)) 9 ((σ.2.2.2 a).1 9 - 1)) 11 (min ((σ.2.2.2 a).1 11) ((σ.2.2.2 a).1 9 - 1)), (σ.2.2.2 a).2)) us1_ (upd (upd (upd fT (15 * a) (nI ((σ.2.2.2 a).1 8 - 1))) (15 * a + 4) (nI ((σ.2.2.2 a).1 9 - 1))) (15 * a + 6) (nI ((σ.2.2.2 a).1 11))) fM fI fW fG ⟨(by have := oRetire_ok hσ (nI a); rw [hop] at this; exact this), hU1_, qRep_put (τ := (va_up (va_up (va_up (σ.2.2.2 a).1 8 ((σ.2.2.2 a).1 8 - 1)) 9 ((σ.2.2.2 a).1 9 - 1)) 11 (min ((σ.2.2.2 a).1 11) ((σ.2.2.2 a).1 9 - 1)), (σ.2.2.2 a).2)) hR hσ ha ⟨⟨((pk_un (by omega)).trans ((pk_un (by omega)).trans pk_us)), ((pk_un (by omega)).trans ((pk_un (by omega)).trans ((pk_un (by omega)).trans q1))), ((pk_un (by omega)).trans ((pk_un (by omega)).trans ((pk_un (by omega)).trans q2))), ((pk_un (by omega)).trans ((pk_un (by omega)).trans ((pk_un (by omega)).trans q3))), ((pk_un (by omega)).trans pk_us), ((pk_un (by omega)).trans ((pk_un (by omega)).trans ((pk_un (by omega)).trans q5))), (pk_us.trans (congrArg nI (show (σ.2.2.2 a).1 11 = min ((σ.2.2.2 a).1 11) ((σ.2.2.2 a).1 9 - 1) by omega))), ((pk_un (by omega)).trans ((pk_un (by omega)).trans ((pk_un (by omega)).trans q7))), ((pk_un (by omega)).trans ((pk_un (by omega)).trans ((pk_un (by omega)).trans q8))), ((pk_un (by omega)).trans ((pk_un (by omega)).trans ((pk_un (by omega)).trans q9))), ((pk_un (by omega)).trans ((pk_un (by omega)).trans ((pk_un (by omega)).trans q10))), ((pk_un (by omega)).trans ((pk_un (by omega)).trans ((pk_un (by omega)).trans q11))), ((pk_un (by omega)).trans ((pk_un (by omega)).trans ((pk_un (by omega)).trans q12))), ((pk_un (by omega)).trans ((pk_un (by omega)).trans ((pk_un (by omega)).trans q13))), ((pk_un (by omega)).trans ((pk_un (by omega)).trans ((pk_un (by omega)).trans q14)))⟩, hS.2.1, hS.2.2.1, hS.2.2.2⟩ (fun j hj => ⟨(qAT_up hj (by decide) (qAT_up hj (by decide) (qAT_up0 hj qAT_rf))), qAR_rf, qAR_rf, qAR_rf⟩) rfl, h3, d9, hd, hd20⟩ h0 (k9 + 2) (n9 + 12) (by omega) (by omega)
                · exact absurd rfl c10
              · refine k_aload_n hC 2 dL_law_863 rfl rfl ?_
                refine k_iload hC dL_law_864 rfl ?_
                refine k_iconst hC (nI 4) dL_law_866 rfl ?_
                refine k_iaddN hC dL_law_867 ?_
                refine k_ald hC 0 rfl (by omega) (by decide) dL_law_868 ?_
                refine k_topE (nI ((σ.2.2.2 a).1 9 - 1)) pk_us ?_
                refine k_goto hC 879 dL_law_869 (by decide) ?_
                refine k_ast hC 0 rfl (by omega) (by decide) dL_law_879 [kI K aT 45 (upd (upd (upd fT (15 * a) (nI ((σ.2.2.2 a).1 8 - 1))) (15 * a + 4) (nI ((σ.2.2.2 a).1 9 - 1))) (15 * a + 6) (nI ((σ.2.2.2 a).1 9 - 1))), kI K aM 60 fM, kI K aI 60 fI, kI K aW 60 fW, kI K aG 8 fG] rfl ?_
                refine k_iload hC dL_law_880 rfl ?_
                refine k_if_eqN hC 894 dL_law_882 (by decide) (by omega) (fun c10 => ?_) (fun c10 => ?_)
                · refine k_aload_n hC 1 dL_law_894 rfl rfl ?_
                  refine k_iload hC dL_law_895 rfl ?_
                  refine k_perm2 [kI K aT 45 (upd (upd (upd fT (15 * a) (nI ((σ.2.2.2 a).1 8 - 1))) (15 * a + 4) (nI ((σ.2.2.2 a).1 9 - 1))) (15 * a + 6) (nI ((σ.2.2.2 a).1 9 - 1))), kI K aM 60 fM, kI K aI 60 fI, kI K aW 60 fW, kI K aG 8 fG] (wX K x ad σ us) List.perm_append_comm ?_
                  refine k_callXC hC (As := [.int (nI a)]) (cX3_retire_k hst K x ad σ us hσ hU (nI a)) [] (List.append_nil _).symm 0 rfl rfl (kAll5 lkM_L_44 lkI_yX3_retire lkS_yX3_retire lkN_X3 lkC_yX3_retire) 1 (by decide) ⟨(Nat.le_of_ble_eq_true rfl), (Nat.le_of_ble_eq_true rfl)⟩ rfl rfl (Nat.le_of_ble_eq_true rfl) ⟨by show k9 + 2 ≤ 637431; omega, by show n9 + 12 ≤ 7189406; omega⟩ dL_law_897 (fun E q => (kNo (by rw [hop]) q).elim) (fun v w h => ?_)
                  rw [hop] at h
                  obtain ⟨-, rfl, ad2_, us2_, rfl, hU2_⟩ := h
                  refine k_re (k9 + 2) (n9 + 12) (wX K x ad2_ (mPut σ a (va_up (va_up (va_up (σ.2.2.2 a).1 8 ((σ.2.2.2 a).1 8 - 1)) 9 ((σ.2.2.2 a).1 9 - 1)) 11 (min ((σ.2.2.2 a).1 11) ((σ.2.2.2 a).1 9 - 1)), (σ.2.2.2 a).2)) us2_) [.int (nI ((σ.2.2.2 a).1 8 - 1))] rfl rfl (List.append_nil _) rfl ?_
                  refine k_perm2 (wX K x ad2_ (mPut σ a (va_up (va_up (va_up (σ.2.2.2 a).1 8 ((σ.2.2.2 a).1 8 - 1)) 9 ((σ.2.2.2 a).1 9 - 1)) 11 (min ((σ.2.2.2 a).1 11) ((σ.2.2.2 a).1 9 - 1)), (σ.2.2.2 a).2)) us2_) [kI K aT 45 (upd (upd (upd fT (15 * a) (nI ((σ.2.2.2 a).1 8 - 1))) (15 * a + 4) (nI ((σ.2.2.2 a).1 9 - 1))) (15 * a + 6) (nI ((σ.2.2.2 a).1 9 - 1))), kI K aM 60 fM, kI K aI 60 fI, kI K aW 60 fW, kI K aG 8 fG] List.perm_append_comm ?_
                  refine k_aload_n hC 2 dL_law_900 rfl rfl ?_
                  refine k_iload hC dL_law_901 rfl ?_
                  refine k_ald hC 0 rfl (by omega) (by decide) dL_law_903 ?_
                  refine k_topE (nI ((σ.2.2.2 a).1 8 - 1)) (((pk_un (by omega)).trans ((pk_un (by omega)).trans pk_us))) ?_
                  refine k_icmp_eq hC 909 dL_law_904 (by decide) (fun _ => ?_) (fun c9 => absurd rfl c9)
                  refine k_goto hC 1152 dL_law_909 (by decide) ?_
                  refine k_lsub [0, 1, 2, 3, 4, 5, 6, 7] [(0, .ref b0), (1, .ref x), (2, .ref aT), (3, .ref aM), (4, .ref aI), (5, .ref aW), (6, .ref aG), (7, .int (nI turn))] rfl ?_
                  exact law_1152 ⟨hst, hC, ht60, hk9, hn9⟩ kk ad2_ (mPut σ a (va_up (va_up (va_up (σ.2.2.2 a).1 8 ((σ.2.2.2 a).1 8 - 1)) 9 ((σ.2.2.2 a).1 9 - 1)) 11 (min ((σ.2.2.2 a).1 11) ((σ.2.2.2 a).1 9 - 1)), (σ.2.2.2 a).2)) us2_ (upd (upd (upd fT (15 * a) (nI ((σ.2.2.2 a).1 8 - 1))) (15 * a + 4) (nI ((σ.2.2.2 a).1 9 - 1))) (15 * a + 6) (nI ((σ.2.2.2 a).1 9 - 1))) fM fI fW fG ⟨(by have := oRetire_ok hσ (nI a); rw [hop] at this; exact this), hU2_, qRep_put (τ := (va_up (va_up (va_up (σ.2.2.2 a).1 8 ((σ.2.2.2 a).1 8 - 1)) 9 ((σ.2.2.2 a).1 9 - 1)) 11 (min ((σ.2.2.2 a).1 11) ((σ.2.2.2 a).1 9 - 1)), (σ.2.2.2 a).2)) hR hσ ha ⟨⟨((pk_un (by omega)).trans ((pk_un (by omega)).trans pk_us)), ((pk_un (by omega)).trans ((pk_un (by omega)).trans ((pk_un (by omega)).trans q1))), ((pk_un (by omega)).trans ((pk_un (by omega)).trans ((pk_un (by omega)).trans q2))), ((pk_un (by omega)).trans ((pk_un (by omega)).trans ((pk_un (by omega)).trans q3))), ((pk_un (by omega)).trans pk_us), ((pk_un (by omega)).trans ((pk_un (by omega)).trans ((pk_un (by omega)).trans q5))), (pk_us.trans (congrArg nI (show (σ.2.2.2 a).1 9 - 1 = min ((σ.2.2.2 a).1 11) ((σ.2.2.2 a).1 9 - 1) by omega))), ((pk_un (by omega)).trans ((pk_un (by omega)).trans ((pk_un (by omega)).trans q7))), ((pk_un (by omega)).trans ((pk_un (by omega)).trans ((pk_un (by omega)).trans q8))), ((pk_un (by omega)).trans ((pk_un (by omega)).trans ((pk_un (by omega)).trans q9))), ((pk_un (by omega)).trans ((pk_un (by omega)).trans ((pk_un (by omega)).trans q10))), ((pk_un (by omega)).trans ((pk_un (by omega)).trans ((pk_un (by omega)).trans q11))), ((pk_un (by omega)).trans ((pk_un (by omega)).trans ((pk_un (by omega)).trans q12))), ((pk_un (by omega)).trans ((pk_un (by omega)).trans ((pk_un (by omega)).trans q13))), ((pk_un (by omega)).trans ((pk_un (by omega)).trans ((pk_un (by omega)).trans q14)))⟩, hS.2.1, hS.2.2.1, hS.2.2.2⟩ (fun j hj => ⟨(qAT_up hj (by decide) (qAT_up hj (by decide) (qAT_up0 hj qAT_rf))), qAR_rf, qAR_rf, qAR_rf⟩) rfl, h3, d9, hd, hd20⟩ h0 (k9 + 2) (n9 + 12) (by omega) (by omega)
                · exact absurd rfl c10
            · exact absurd rfl c8
          · exact absurd rfl c8
        · have hbc : (oRetire σ (nI a)).1 = 2 := by
            simp only [oRetire, oT, mIx_nI ha31, if_pos hm0]
            rw [if_pos (by omega)]
          refine k_aload_n hC 1 dL_law_782 rfl rfl ?_
          refine k_iload hC dL_law_783 rfl ?_
          refine k_if_eqN hC 792 dL_law_785 (by decide) (by omega) (fun c8 => ?_) (fun c8 => ?_)
          · refine k_iconst hC (nI 2) dL_law_792 rfl ?_
            refine k_iload hC dL_law_793 rfl ?_
            refine k_iconst hC (nI 0) dL_law_795 rfl ?_
            refine k_perm2 [kI K aT 45 fT, kI K aM 60 fM, kI K aI 60 fI, kI K aW 60 fW, kI K aG 8 fG] (wX K x ad σ us) List.perm_append_comm ?_
            refine k_callXH hC (As := [.ref x, .int (nI 2), .int (nI a), .int (nI 0)]) (cL_refused_2 hst K x ad σ us hσ hU (nI a) (nI 0) (by rw [hbc]; decide)) [] (List.append_nil _).symm (kAll4 lkM_L_118 lkT_yL_refused lkN_L lkC_yL_refused) 4 (by decide) ⟨(Nat.le_of_ble_eq_true rfl), (Nat.le_of_ble_eq_true rfl)⟩ rfl rfl (Nat.le_of_ble_eq_true rfl) ⟨by show k9 + 3 ≤ 637431; omega, by show n9 + 18 ≤ 7189406; omega⟩ dL_law_796 (fun v w h => ?_)
            rw [hbc, if_neg (show ¬ (2 : Nat) = 1 by decide)] at h
            obtain ⟨rfl, rfl⟩ := h
            refine k_re (k9 + 3) (n9 + 18) (wX K x ad σ us) [.int (nI 2)] rfl rfl (List.append_nil _) rfl ?_
            refine k_perm2 (wX K x ad σ us) [kI K aT 45 fT, kI K aM 60 fM, kI K aI 60 fI, kI K aW 60 fW, kI K aG 8 fG] List.perm_append_comm ?_
            refine k_iconst hC (nI 2) dL_law_799 rfl ?_
            refine k_icmp_eq hC 1169 dL_law_800 (by decide) (fun _ => ?_) (fun c9 => absurd rfl c9)
            refine k_lsub [0, 1, 2, 3, 4, 5, 6, 7] [(0, .ref b0), (1, .ref x), (2, .ref aT), (3, .ref aM), (4, .ref aI), (5, .ref aW), (6, .ref aG), (7, .int (nI turn))] rfl ?_
            exact kk ad σ us fT fM fI fW fG (k9 + 3) (n9 + 18) ⟨hσ, hU, hR, h3, d9, hd, hd20⟩ h0 (by omega) (by omega)
          · exact absurd rfl c8
    · exact absurd rfl c3
  · refine k_iconst hC (nI 1) dL_law_741 rfl ?_
    refine k_goto hC 746 dL_law_742 (by decide) ?_
    refine k_istore hC dL_law_746 (by decide) rfl [(0, .ref b0), (1, .ref x), (2, .ref aT), (3, .ref aM), (4, .ref aI), (5, .ref aW), (6, .ref aG), (7, .int (nI turn)), (8, .int z8), (9, .int z9), (10, .int (nI kd)), (11, .int (nI a)), (12, .int (nI (15 * a))), (13, .int (nI 1))] rfl ?_
    refine k_iload hC dL_law_748 rfl ?_
    refine k_if_eqN hC 765 dL_law_750 (by decide) (by omega) (fun c3 => ?_) (fun c3 => ?_)
    · exact absurd c3 (by decide)
    · refine k_aload_n hC 2 dL_law_753 rfl rfl ?_
      refine k_iload hC dL_law_754 rfl ?_
      refine k_ald hC 0 rfl (by omega) (by decide) dL_law_756 ?_
      refine k_topE (nI ((σ.2.2.2 a).1 8)) q0 ?_
      refine k_bipush hC (nI 9) dL_law_757 rfl ?_
      refine k_icmp_neN hC 805 dL_law_759 (by decide) (by omega) (by omega) (fun c4 => ?_) (fun c4 => ?_)
      · have hop : oIssue σ (nI a) = (0, nI ((σ.2.2.2 a).1 8 + 1), mPut σ a (va_up (va_up (σ.2.2.2 a).1 8 ((σ.2.2.2 a).1 8 + 1)) 9 ((σ.2.2.2 a).1 9 + 1), (σ.2.2.2 a).2)) := by
          simp only [oIssue, oT, mIx_nI ha31, if_pos hm0]
          rw [if_neg (by omega)]
        refine k_aload_n hC 2 dL_law_805 rfl rfl ?_
        refine k_iload hC dL_law_806 rfl ?_
        refine k_dup2 hC dL_law_808 rfl rfl ?_
        refine k_ald hC 0 rfl (by omega) (by decide) dL_law_809 ?_
        refine k_topE (nI ((σ.2.2.2 a).1 8)) q0 ?_
        refine k_iload hC dL_law_810 rfl ?_
        refine k_if_eqN hC 819 dL_law_812 (by decide) (by omega) (fun c8 => ?_) (fun c8 => ?_)
        · exact absurd c8 (by decide)
        · refine k_iconst hC (nI 1) dL_law_815 rfl ?_
          refine k_goto hC 820 dL_law_816 (by decide) ?_
          refine k_iaddN hC dL_law_820 ?_
          refine k_ast hC 0 rfl (by omega) (by decide) dL_law_821 [kI K aT 45 (upd fT (15 * a) (nI ((σ.2.2.2 a).1 8 + 1))), kI K aM 60 fM, kI K aI 60 fI, kI K aW 60 fW, kI K aG 8 fG] rfl ?_
          refine k_aload_n hC 2 dL_law_822 rfl rfl ?_
          refine k_iload hC dL_law_823 rfl ?_
          refine k_iconst hC (nI 4) dL_law_825 rfl ?_
          refine k_iaddN hC dL_law_826 ?_
          refine k_dup2 hC dL_law_827 rfl rfl ?_
          refine k_ald hC 0 rfl (by omega) (by decide) dL_law_828 ?_
          refine k_topE (nI ((σ.2.2.2 a).1 9)) (((pk_un (by omega)).trans q4)) ?_
          refine k_iload hC dL_law_829 rfl ?_
          refine k_if_eqN hC 838 dL_law_831 (by decide) (by omega) (fun c8 => ?_) (fun c8 => ?_)
          · exact absurd c8 (by decide)
          · refine k_iconst hC (nI 1) dL_law_834 rfl ?_
            refine k_goto hC 839 dL_law_835 (by decide) ?_
            refine k_iaddN hC dL_law_839 ?_
            refine k_ast hC 0 rfl (by omega) (by decide) dL_law_840 [kI K aT 45 (upd (upd fT (15 * a) (nI ((σ.2.2.2 a).1 8 + 1))) (15 * a + 4) (nI ((σ.2.2.2 a).1 9 + 1))), kI K aM 60 fM, kI K aI 60 fI, kI K aW 60 fW, kI K aG 8 fG] rfl ?_
            refine k_aload_n hC 2 dL_law_841 rfl rfl ?_
            refine k_iload hC dL_law_842 rfl ?_
            refine k_bipush hC (nI 6) dL_law_844 rfl ?_
            refine k_iaddN hC dL_law_846 ?_
            refine k_aload_n hC 2 dL_law_847 rfl rfl ?_
            refine k_iload hC dL_law_848 rfl ?_
            refine k_bipush hC (nI 6) dL_law_850 rfl ?_
            refine k_iaddN hC dL_law_852 ?_
            refine k_ald hC 0 rfl (by omega) (by decide) dL_law_853 ?_
            refine k_topE (nI ((σ.2.2.2 a).1 11)) (((pk_un (by omega)).trans ((pk_un (by omega)).trans q6))) ?_
            refine k_aload_n hC 2 dL_law_854 rfl rfl ?_
            refine k_iload hC dL_law_855 rfl ?_
            refine k_iconst hC (nI 4) dL_law_857 rfl ?_
            refine k_iaddN hC dL_law_858 ?_
            refine k_ald hC 0 rfl (by omega) (by decide) dL_law_859 ?_
            refine k_topE (nI ((σ.2.2.2 a).1 9 + 1)) pk_us ?_
            refine k_icmp_leN hC 872 dL_law_860 (by decide) (by omega) (by omega) (fun c9 => ?_) (fun c9 => ?_)
            · refine k_aload_n hC 2 dL_law_872 rfl rfl ?_
              refine k_iload hC dL_law_873 rfl ?_
              refine k_bipush hC (nI 6) dL_law_875 rfl ?_
              refine k_iaddN hC dL_law_877 ?_
              refine k_ald hC 0 rfl (by omega) (by decide) dL_law_878 ?_
              refine k_topE (nI ((σ.2.2.2 a).1 11)) (((pk_un (by omega)).trans ((pk_un (by omega)).trans q6))) ?_
              refine k_ast hC 0 rfl (by omega) (by decide) dL_law_879 [kI K aT 45 (upd (upd (upd fT (15 * a) (nI ((σ.2.2.2 a).1 8 + 1))) (15 * a + 4) (nI ((σ.2.2.2 a).1 9 + 1))) (15 * a + 6) (nI ((σ.2.2.2 a).1 11))), kI K aM 60 fM, kI K aI 60 fI, kI K aW 60 fW, kI K aG 8 fG] rfl ?_
              refine k_iload hC dL_law_880 rfl ?_
              refine k_if_eqN hC 894 dL_law_882 (by decide) (by omega) (fun c10 => ?_) (fun c10 => ?_)
              · exact absurd c10 (by decide)
              · refine k_aload_n hC 1 dL_law_885 rfl rfl ?_
                refine k_iload hC dL_law_886 rfl ?_
                refine k_perm2 [kI K aT 45 (upd (upd (upd fT (15 * a) (nI ((σ.2.2.2 a).1 8 + 1))) (15 * a + 4) (nI ((σ.2.2.2 a).1 9 + 1))) (15 * a + 6) (nI ((σ.2.2.2 a).1 11))), kI K aM 60 fM, kI K aI 60 fI, kI K aW 60 fW, kI K aG 8 fG] (wX K x ad σ us) List.perm_append_comm ?_
                refine k_callXC hC (As := [.int (nI a)]) (cX3_issue_k hst K x ad σ us hσ hU (nI a)) [] (List.append_nil _).symm 0 rfl rfl (kAll5 lkM_L_41 lkI_yX3_issue lkS_yX3_issue lkN_X3 lkC_yX3_issue) 1 (by decide) ⟨(Nat.le_of_ble_eq_true rfl), (Nat.le_of_ble_eq_true rfl)⟩ rfl rfl (Nat.le_of_ble_eq_true rfl) ⟨by show k9 + 2 ≤ 637431; omega, by show n9 + 12 ≤ 7189406; omega⟩ dL_law_888 (fun E q => (kNo (by rw [hop]) q).elim) (fun v w h => ?_)
                rw [hop] at h
                obtain ⟨-, rfl, ad3_, us3_, rfl, hU3_⟩ := h
                refine k_re (k9 + 2) (n9 + 12) (wX K x ad3_ (mPut σ a (va_up (va_up (σ.2.2.2 a).1 8 ((σ.2.2.2 a).1 8 + 1)) 9 ((σ.2.2.2 a).1 9 + 1), (σ.2.2.2 a).2)) us3_) [.int (nI ((σ.2.2.2 a).1 8 + 1))] rfl rfl (List.append_nil _) rfl ?_
                refine k_perm2 (wX K x ad3_ (mPut σ a (va_up (va_up (σ.2.2.2 a).1 8 ((σ.2.2.2 a).1 8 + 1)) 9 ((σ.2.2.2 a).1 9 + 1), (σ.2.2.2 a).2)) us3_) [kI K aT 45 (upd (upd (upd fT (15 * a) (nI ((σ.2.2.2 a).1 8 + 1))) (15 * a + 4) (nI ((σ.2.2.2 a).1 9 + 1))) (15 * a + 6) (nI ((σ.2.2.2 a).1 11))), kI K aM 60 fM, kI K aI 60 fI, kI K aW 60 fW, kI K aG 8 fG] List.perm_append_comm ?_
                refine k_goto hC 900 dL_law_891 (by decide) ?_
                refine k_aload_n hC 2 dL_law_900 rfl rfl ?_
                refine k_iload hC dL_law_901 rfl ?_
                refine k_ald hC 0 rfl (by omega) (by decide) dL_law_903 ?_
                refine k_topE (nI ((σ.2.2.2 a).1 8 + 1)) (((pk_un (by omega)).trans ((pk_un (by omega)).trans pk_us))) ?_
                refine k_icmp_eq hC 909 dL_law_904 (by decide) (fun _ => ?_) (fun c9 => absurd rfl c9)
                refine k_goto hC 1152 dL_law_909 (by decide) ?_
                refine k_lsub [0, 1, 2, 3, 4, 5, 6, 7] [(0, .ref b0), (1, .ref x), (2, .ref aT), (3, .ref aM), (4, .ref aI), (5, .ref aW), (6, .ref aG), (7, .int (nI turn))] rfl ?_
                exact law_1152 ⟨hst, hC, ht60, hk9, hn9⟩ kk ad3_ (mPut σ a (va_up (va_up (σ.2.2.2 a).1 8 ((σ.2.2.2 a).1 8 + 1)) 9 ((σ.2.2.2 a).1 9 + 1), (σ.2.2.2 a).2)) us3_ (upd (upd (upd fT (15 * a) (nI ((σ.2.2.2 a).1 8 + 1))) (15 * a + 4) (nI ((σ.2.2.2 a).1 9 + 1))) (15 * a + 6) (nI ((σ.2.2.2 a).1 11))) fM fI fW fG ⟨(by have := oIssue_ok hσ (nI a); rw [hop] at this; exact this), hU3_, qRep_put (τ := (va_up (va_up (σ.2.2.2 a).1 8 ((σ.2.2.2 a).1 8 + 1)) 9 ((σ.2.2.2 a).1 9 + 1), (σ.2.2.2 a).2)) hR hσ ha ⟨⟨((pk_un (by omega)).trans ((pk_un (by omega)).trans pk_us)), ((pk_un (by omega)).trans ((pk_un (by omega)).trans ((pk_un (by omega)).trans q1))), ((pk_un (by omega)).trans ((pk_un (by omega)).trans ((pk_un (by omega)).trans q2))), ((pk_un (by omega)).trans ((pk_un (by omega)).trans ((pk_un (by omega)).trans q3))), ((pk_un (by omega)).trans pk_us), ((pk_un (by omega)).trans ((pk_un (by omega)).trans ((pk_un (by omega)).trans q5))), pk_us, ((pk_un (by omega)).trans ((pk_un (by omega)).trans ((pk_un (by omega)).trans q7))), ((pk_un (by omega)).trans ((pk_un (by omega)).trans ((pk_un (by omega)).trans q8))), ((pk_un (by omega)).trans ((pk_un (by omega)).trans ((pk_un (by omega)).trans q9))), ((pk_un (by omega)).trans ((pk_un (by omega)).trans ((pk_un (by omega)).trans q10))), ((pk_un (by omega)).trans ((pk_un (by omega)).trans ((pk_un (by omega)).trans q11))), ((pk_un (by omega)).trans ((pk_un (by omega)).trans ((pk_un (by omega)).trans q12))), ((pk_un (by omega)).trans ((pk_un (by omega)).trans ((pk_un (by omega)).trans q13))), ((pk_un (by omega)).trans ((pk_un (by omega)).trans ((pk_un (by omega)).trans q14)))⟩, hS.2.1, hS.2.2.1, hS.2.2.2⟩ (fun j hj => ⟨(qAT_up hj (by decide) (qAT_up hj (by decide) (qAT_up0 hj qAT_rf))), qAR_rf, qAR_rf, qAR_rf⟩) rfl, h3, d9, hd, hd20⟩ h0 (k9 + 2) (n9 + 12) (by omega) (by omega)
            · exact absurd c9 (by omega)
      · refine k_goto hC 782 dL_law_762 (by decide) ?_
        have hbc : (oIssue σ (nI a)).1 = 2 := by
          simp only [oIssue, oT, mIx_nI ha31, if_pos hm0]
          rw [if_pos (by omega)]
        refine k_aload_n hC 1 dL_law_782 rfl rfl ?_
        refine k_iload hC dL_law_783 rfl ?_
        refine k_if_eqN hC 792 dL_law_785 (by decide) (by omega) (fun c8 => ?_) (fun c8 => ?_)
        · exact absurd c8 (by decide)
        · refine k_iconst hC (nI 1) dL_law_788 rfl ?_
          refine k_goto hC 793 dL_law_789 (by decide) ?_
          refine k_iload hC dL_law_793 rfl ?_
          refine k_iconst hC (nI 0) dL_law_795 rfl ?_
          refine k_perm2 [kI K aT 45 fT, kI K aM 60 fM, kI K aI 60 fI, kI K aW 60 fW, kI K aG 8 fG] (wX K x ad σ us) List.perm_append_comm ?_
          refine k_callXH hC (As := [.ref x, .int (nI 1), .int (nI a), .int (nI 0)]) (cL_refused_1 hst K x ad σ us hσ hU (nI a) (nI 0) (by rw [hbc]; decide)) [] (List.append_nil _).symm (kAll4 lkM_L_118 lkT_yL_refused lkN_L lkC_yL_refused) 4 (by decide) ⟨(Nat.le_of_ble_eq_true rfl), (Nat.le_of_ble_eq_true rfl)⟩ rfl rfl (Nat.le_of_ble_eq_true rfl) ⟨by show k9 + 3 ≤ 637431; omega, by show n9 + 18 ≤ 7189406; omega⟩ dL_law_796 (fun v w h => ?_)
          rw [hbc, if_neg (show ¬ (2 : Nat) = 1 by decide)] at h
          obtain ⟨rfl, rfl⟩ := h
          refine k_re (k9 + 3) (n9 + 18) (wX K x ad σ us) [.int (nI 2)] rfl rfl (List.append_nil _) rfl ?_
          refine k_perm2 (wX K x ad σ us) [kI K aT 45 fT, kI K aM 60 fM, kI K aI 60 fI, kI K aW 60 fW, kI K aG 8 fG] List.perm_append_comm ?_
          refine k_iconst hC (nI 2) dL_law_799 rfl ?_
          refine k_icmp_eq hC 1169 dL_law_800 (by decide) (fun _ => ?_) (fun c9 => absurd rfl c9)
          refine k_lsub [0, 1, 2, 3, 4, 5, 6, 7] [(0, .ref b0), (1, .ref x), (2, .ref aT), (3, .ref aM), (4, .ref aI), (5, .ref aW), (6, .ref aG), (7, .int (nI turn))] rfl ?_
          exact kk ad σ us fT fM fI fW fG (k9 + 3) (n9 + 18) ⟨hσ, hU, hR, h3, d9, hd, hd20⟩ h0 (by omega) (by omega)
set_option maxRecDepth 100000 in
set_option maxHeartbeats 4000000 in
theorem law_c8 {p : Program} {l : Launch} {e : Env} {s : State} {m : MethodId} {args : Array Value} {below : List Frame} {meth : Method} {cd : Code} {K : kE} {A : Nat → Prop} {Q : State → Prop} {b0 x aT aM aI aW aG turn k9 n9 : Nat} (H0 : kHead p l s m args meth cd K A turn k9 n9) (kk : kCont p l e s m args below meth cd K A Q b0 x aT aM aI aW aG turn k9 n9) (ad : Nat → Nat → Nat) (σ : mS) (us : Nat → Nat → Nat → Int32) (fT fM fI fW fG : Nat → Int32) (hq : qInv σ us fT fM fI fW fG) (h0 : σ.1 ≠ 0) (z8 z9 : Int32) (kd a : Nat) (ha : a < σ.1) : kW p l e room_1 s m args below meth cd K A 16 Q k9 n9 (wX K x ad σ us) [kI K aT 45 fT, kI K aM 60 fM, kI K aI 60 fI, kI K aW 60 fW, kI K aG 8 fG] [(0, .ref b0), (1, .ref x), (2, .ref aT), (3, .ref aM), (4, .ref aI), (5, .ref aW), (6, .ref aG), (7, .int (nI turn)), (8, .int z8), (9, .int z9), (10, .int (nI kd)), (11, .int (nI a)), (12, .int (nI (15 * a)))] 919 [] := by
  obtain ⟨hst, hC, ht60, hk9, hn9⟩ := H0
  obtain ⟨hσ, hU, hR, h3, d9, hd, hd20⟩ := id hq
  obtain ⟨g0, g1, g2, g3, g4, g5, g6, g7, hsr, hsz⟩ := id hR
  have h6 := hσ.1
  have hS := hsr a ha
  have hi := (hσ.2 a ha).1
  have hn := hi.1
  have hcard := hi.2.1
  have hconv := hi.2.2.1
  have ha31 : a < 2 ^ 31 := by omega
  have hm0 : mHas σ 0 (nI a) := mHas_k h6 (Nat.zero_le a) ha
  obtain ⟨q0, q1, q2, q3, q4, q5, q6, q7, q8, q9, q10, q11, q12, q13, q14⟩ := id hS.1
  refine k_iload hC dL_law_919 rfl ?_
  refine k_iconst hC (nI 3) dL_law_921 rfl ?_
  refine k_ishr hC dL_law_922 (fun z1 => ?_)
  refine k_iconst hC (nI 2) dL_law_923 rfl ?_
  refine k_callS hC (As := [.int z1, .int (nI 2)]) (cL_low_k l K z1 2 (by decide) (by decide)) [kI K aT 45 fT, kI K aM 60 fM, kI K aI 60 fI, kI K aW 60 fW, kI K aG 8 fG] rfl (kAll4 lkM_L_127 lkT_yL_low lkN_L lkC_yL_low) 2 (by decide) ⟨(Nat.le_of_ble_eq_true rfl), (Nat.le_of_ble_eq_true rfl)⟩ rfl rfl (Nat.le_of_ble_eq_true rfl) ⟨by show k9 + 0 ≤ 637431; omega, by show n9 + 0 ≤ 7189406; omega⟩ dL_law_924 (fun v w h => ?_)
  obtain ⟨⟨j7, hj7, rfl⟩, rfl⟩ := h
  refine k_re (k9) (n9) [kI K aT 45 fT, kI K aM 60 fM, kI K aI 60 fI, kI K aW 60 fW, kI K aG 8 fG] [.int (nI j7)] rfl rfl rfl rfl ?_
  refine k_if_neN hC 934 dL_law_927 (by decide) (by omega) (fun c1 => ?_) (fun c1 => ?_)
  · refine k_iconst hC (nI 0) dL_law_934 rfl ?_
    refine k_istore hC dL_law_935 (by decide) rfl [(0, .ref b0), (1, .ref x), (2, .ref aT), (3, .ref aM), (4, .ref aI), (5, .ref aW), (6, .ref aG), (7, .int (nI turn)), (8, .int z8), (9, .int z9), (10, .int (nI kd)), (11, .int (nI a)), (12, .int (nI (15 * a))), (13, .int (nI 0))] rfl ?_
    refine k_iload hC dL_law_937 rfl ?_
    refine k_if_eqN hC 982 dL_law_939 (by decide) (by omega) (fun c3 => ?_) (fun c3 => ?_)
    · subst c3
      have hbc : (oRetireC σ (nI 0)).1 = 1 := by
        have hm2 : ¬ mHas σ 1 (nI 0) := fun q => by have := (nI_leI (by decide) (by decide)).mp q.1; omega
        simp only [oRetireC, if_neg hm2]
      refine k_aload_n hC 1 dL_law_982 rfl rfl ?_
      refine k_iload hC dL_law_983 rfl ?_
      refine k_if_eqN hC 992 dL_law_985 (by decide) (by omega) (fun c8 => ?_) (fun c8 => ?_)
      · refine k_iconst hC (nI 4) dL_law_992 rfl ?_
        refine k_iload hC dL_law_993 rfl ?_
        refine k_iconst hC (nI 0) dL_law_995 rfl ?_
        refine k_perm2 [kI K aT 45 fT, kI K aM 60 fM, kI K aI 60 fI, kI K aW 60 fW, kI K aG 8 fG] (wX K x ad σ us) List.perm_append_comm ?_
        refine k_callXH hC (As := [.ref x, .int (nI 4), .int (nI 0), .int (nI 0)]) (cL_refused_4 hst K x ad σ us hσ hU (nI 0) (nI 0) (by rw [hbc]; decide)) [] (List.append_nil _).symm (kAll4 lkM_L_118 lkT_yL_refused lkN_L lkC_yL_refused) 4 (by decide) ⟨(Nat.le_of_ble_eq_true rfl), (Nat.le_of_ble_eq_true rfl)⟩ rfl rfl (Nat.le_of_ble_eq_true rfl) ⟨by show k9 + 3 ≤ 637431; omega, by show n9 + 18 ≤ 7189406; omega⟩ dL_law_996 (fun v w h => ?_)
        rw [hbc, if_pos rfl] at h
        obtain ⟨rfl, rfl⟩ := h
        refine k_re (k9 + 3) (n9 + 18) (wX K x ad σ us) [.int (nI 1)] rfl rfl (List.append_nil _) rfl ?_
        refine k_perm2 (wX K x ad σ us) [kI K aT 45 fT, kI K aM 60 fM, kI K aI 60 fI, kI K aW 60 fW, kI K aG 8 fG] List.perm_append_comm ?_
        refine k_iload hC dL_law_999 rfl ?_
        refine k_if_neN hC 1008 dL_law_1001 (by decide) (by omega) (fun c11 => ?_) (fun c11 => ?_)
        · exact absurd rfl c11
        · refine k_iconst hC (nI 1) dL_law_1004 rfl ?_
          refine k_goto hC 1009 dL_law_1005 (by decide) ?_
          refine k_icmp_eq hC 1169 dL_law_1009 (by decide) (fun _ => ?_) (fun c9 => absurd rfl c9)
          refine k_lsub [0, 1, 2, 3, 4, 5, 6, 7] [(0, .ref b0), (1, .ref x), (2, .ref aT), (3, .ref aM), (4, .ref aI), (5, .ref aW), (6, .ref aG), (7, .int (nI turn))] rfl ?_
          exact kk ad σ us fT fM fI fW fG (k9 + 3) (n9 + 18) ⟨hσ, hU, hR, h3, d9, hd, hd20⟩ h0 (by omega) (by omega)
      · exact absurd rfl c8
    · refine k_iload hC dL_law_942 rfl ?_
      refine k_if_eqN hC 961 dL_law_944 (by decide) (by omega) (fun c6 => ?_) (fun c6 => ?_)
      · refine k_aload_n hC 2 dL_law_961 rfl rfl ?_
        refine k_iload hC dL_law_962 rfl ?_
        refine k_bipush hC (nI 10) dL_law_964 rfl ?_
        refine k_iaddN hC dL_law_966 ?_
        refine k_ald hC 0 rfl (by omega) (by decide) dL_law_967 ?_
        refine k_topE (nI ((σ.2.2.2 a).1 14)) q10 ?_
        refine k_if_eqN hC 982 dL_law_968 (by decide) (by omega) (fun c4 => ?_) (fun c4 => ?_)
        · have hm1 : mHas σ 1 (nI a) := mHas_k h6 (by omega) ha
          have hbc : (oRetireC σ (nI a)).1 = 2 := by
            simp only [oRetireC, oT, mIx_nI ha31, if_pos hm1]
            rw [if_pos (by omega)]
          refine k_aload_n hC 1 dL_law_982 rfl rfl ?_
          refine k_iload hC dL_law_983 rfl ?_
          refine k_if_eqN hC 992 dL_law_985 (by decide) (by omega) (fun c8 => ?_) (fun c8 => ?_)
          · refine k_iconst hC (nI 4) dL_law_992 rfl ?_
            refine k_iload hC dL_law_993 rfl ?_
            refine k_iconst hC (nI 0) dL_law_995 rfl ?_
            refine k_perm2 [kI K aT 45 fT, kI K aM 60 fM, kI K aI 60 fI, kI K aW 60 fW, kI K aG 8 fG] (wX K x ad σ us) List.perm_append_comm ?_
            refine k_callXH hC (As := [.ref x, .int (nI 4), .int (nI a), .int (nI 0)]) (cL_refused_4 hst K x ad σ us hσ hU (nI a) (nI 0) (by rw [hbc]; decide)) [] (List.append_nil _).symm (kAll4 lkM_L_118 lkT_yL_refused lkN_L lkC_yL_refused) 4 (by decide) ⟨(Nat.le_of_ble_eq_true rfl), (Nat.le_of_ble_eq_true rfl)⟩ rfl rfl (Nat.le_of_ble_eq_true rfl) ⟨by show k9 + 3 ≤ 637431; omega, by show n9 + 18 ≤ 7189406; omega⟩ dL_law_996 (fun v w h => ?_)
            rw [hbc, if_neg (show ¬ (2 : Nat) = 1 by decide)] at h
            obtain ⟨rfl, rfl⟩ := h
            refine k_re (k9 + 3) (n9 + 18) (wX K x ad σ us) [.int (nI 2)] rfl rfl (List.append_nil _) rfl ?_
            refine k_perm2 (wX K x ad σ us) [kI K aT 45 fT, kI K aM 60 fM, kI K aI 60 fI, kI K aW 60 fW, kI K aG 8 fG] List.perm_append_comm ?_
            refine k_iload hC dL_law_999 rfl ?_
            refine k_if_neN hC 1008 dL_law_1001 (by decide) (by omega) (fun c11 => ?_) (fun c11 => ?_)
            · refine k_iconst hC (nI 2) dL_law_1008 rfl ?_
              refine k_icmp_eq hC 1169 dL_law_1009 (by decide) (fun _ => ?_) (fun c9 => absurd rfl c9)
              refine k_lsub [0, 1, 2, 3, 4, 5, 6, 7] [(0, .ref b0), (1, .ref x), (2, .ref aT), (3, .ref aM), (4, .ref aI), (5, .ref aW), (6, .ref aG), (7, .int (nI turn))] rfl ?_
              exact kk ad σ us fT fM fI fW fG (k9 + 3) (n9 + 18) ⟨hσ, hU, hR, h3, d9, hd, hd20⟩ h0 (by omega) (by omega)
            · exact absurd c11 c3
          · exact absurd rfl c8
        · refine k_aload_n hC 2 dL_law_971 rfl rfl ?_
          refine k_iload hC dL_law_972 rfl ?_
          refine k_bipush hC (nI 9) dL_law_974 rfl ?_
          refine k_iaddN hC dL_law_976 ?_
          refine k_ald hC 0 rfl (by omega) (by decide) dL_law_977 ?_
          refine k_topE (nI ((σ.2.2.2 a).1 13)) q9 ?_
          refine k_iconst hC (nI 1) dL_law_978 rfl ?_
          refine k_icmp_neN hC 1014 dL_law_979 (by decide) (by omega) (by omega) (fun c5 => ?_) (fun c5 => ?_)
          · have hm1 : mHas σ 1 (nI a) := mHas_k h6 (by omega) ha
            have hcv := hi.2.2.2.2.2.2
            rw [if_neg (by simp; omega)] at hcv
            have hop : oRetireC σ (nI a) = (0, nI ((σ.2.2.2 a).1 13 - 1), mPut σ a (va_up (va_up (σ.2.2.2 a).1 13 ((σ.2.2.2 a).1 13 - 1)) 14 ((σ.2.2.2 a).1 14 - 1), (σ.2.2.2 a).2)) := by
              simp only [oRetireC, oT, mIx_nI ha31, if_pos hm1]
              rw [if_neg (by omega)]
            refine k_aload_n hC 2 dL_law_1014 rfl rfl ?_
            refine k_iload hC dL_law_1015 rfl ?_
            refine k_bipush hC (nI 9) dL_law_1017 rfl ?_
            refine k_iaddN hC dL_law_1019 ?_
            refine k_dup2 hC dL_law_1020 rfl rfl ?_
            refine k_ald hC 0 rfl (by omega) (by decide) dL_law_1021 ?_
            refine k_topE (nI ((σ.2.2.2 a).1 13)) q9 ?_
            refine k_iload hC dL_law_1022 rfl ?_
            refine k_if_eqN hC 1031 dL_law_1024 (by decide) (by omega) (fun c8 => ?_) (fun c8 => ?_)
            · refine k_iconst hC (-1) dL_law_1031 rfl ?_
              refine k_iadd hC dL_law_1032 ?_
              refine k_topE (nI ((σ.2.2.2 a).1 13 - 1)) (kdec _ 1 (by omega) rfl) ?_
              refine k_ast hC 0 rfl (by omega) (by decide) dL_law_1033 [kI K aT 45 (upd fT (15 * a + 9) (nI ((σ.2.2.2 a).1 13 - 1))), kI K aM 60 fM, kI K aI 60 fI, kI K aW 60 fW, kI K aG 8 fG] rfl ?_
              refine k_aload_n hC 2 dL_law_1034 rfl rfl ?_
              refine k_iload hC dL_law_1035 rfl ?_
              refine k_bipush hC (nI 10) dL_law_1037 rfl ?_
              refine k_iaddN hC dL_law_1039 ?_
              refine k_dup2 hC dL_law_1040 rfl rfl ?_
              refine k_ald hC 0 rfl (by omega) (by decide) dL_law_1041 ?_
              refine k_topE (nI ((σ.2.2.2 a).1 14)) (((pk_un (by omega)).trans q10)) ?_
              refine k_iload hC dL_law_1042 rfl ?_
              refine k_if_eqN hC 1051 dL_law_1044 (by decide) (by omega) (fun c8 => ?_) (fun c8 => ?_)
              · refine k_iconst hC (-1) dL_law_1051 rfl ?_
                refine k_iadd hC dL_law_1052 ?_
                refine k_topE (nI ((σ.2.2.2 a).1 14 - 1)) (kdec _ 1 (by omega) rfl) ?_
                refine k_ast hC 0 rfl (by omega) (by decide) dL_law_1053 [kI K aT 45 (upd (upd fT (15 * a + 9) (nI ((σ.2.2.2 a).1 13 - 1))) (15 * a + 10) (nI ((σ.2.2.2 a).1 14 - 1))), kI K aM 60 fM, kI K aI 60 fI, kI K aW 60 fW, kI K aG 8 fG] rfl ?_
                refine k_iload hC dL_law_1054 rfl ?_
                refine k_if_eqN hC 1068 dL_law_1056 (by decide) (by omega) (fun c10 => ?_) (fun c10 => ?_)
                · refine k_aload_n hC 1 dL_law_1068 rfl rfl ?_
                  refine k_iload hC dL_law_1069 rfl ?_
                  refine k_perm2 [kI K aT 45 (upd (upd fT (15 * a + 9) (nI ((σ.2.2.2 a).1 13 - 1))) (15 * a + 10) (nI ((σ.2.2.2 a).1 14 - 1))), kI K aM 60 fM, kI K aI 60 fI, kI K aW 60 fW, kI K aG 8 fG] (wX K x ad σ us) List.perm_append_comm ?_
                  refine k_callXC hC (As := [.int (nI a)]) (cX3_retireConveyance_k hst K x ad σ us hσ hU (nI a)) [] (List.append_nil _).symm 0 rfl rfl (kAll5 lkM_L_50 lkI_yX3_retireConveyance lkS_yX3_retireConveyance lkN_X3 lkC_yX3_retireConveyance) 1 (by decide) ⟨(Nat.le_of_ble_eq_true rfl), (Nat.le_of_ble_eq_true rfl)⟩ rfl rfl (Nat.le_of_ble_eq_true rfl) ⟨by show k9 + 3 ≤ 637431; omega, by show n9 + 18 ≤ 7189406; omega⟩ dL_law_1071 (fun E q => (kNo (by rw [hop]) q).elim) (fun v w h => ?_)
                  rw [hop] at h
                  obtain ⟨-, rfl, ad1_, us1_, rfl, hU1_⟩ := h
                  refine k_re (k9 + 3) (n9 + 18) (wX K x ad1_ (mPut σ a (va_up (va_up (σ.2.2.2 a).1 13 ((σ.2.2.2 a).1 13 - 1)) 14 ((σ.2.2.2 a).1 14 - 1), (σ.2.2.2 a).2)) us1_) [.int (nI ((σ.2.2.2 a).1 13 - 1))] rfl rfl (List.append_nil _) rfl ?_
                  refine k_perm2 (wX K x ad1_ (mPut σ a (va_up (va_up (σ.2.2.2 a).1 13 ((σ.2.2.2 a).1 13 - 1)) 14 ((σ.2.2.2 a).1 14 - 1), (σ.2.2.2 a).2)) us1_) [kI K aT 45 (upd (upd fT (15 * a + 9) (nI ((σ.2.2.2 a).1 13 - 1))) (15 * a + 10) (nI ((σ.2.2.2 a).1 14 - 1))), kI K aM 60 fM, kI K aI 60 fI, kI K aW 60 fW, kI K aG 8 fG] List.perm_append_comm ?_
                  refine k_aload_n hC 2 dL_law_1074 rfl rfl ?_
                  refine k_iload hC dL_law_1075 rfl ?_
                  refine k_bipush hC (nI 9) dL_law_1077 rfl ?_
                  refine k_iaddN hC dL_law_1079 ?_
                  refine k_ald hC 0 rfl (by omega) (by decide) dL_law_1080 ?_
                  refine k_topE (nI ((σ.2.2.2 a).1 13 - 1)) (((pk_un (by omega)).trans pk_us)) ?_
                  refine k_icmp_eq hC 1086 dL_law_1081 (by decide) (fun _ => ?_) (fun c9 => absurd rfl c9)
                  refine k_goto hC 1152 dL_law_1086 (by decide) ?_
                  refine k_lsub [0, 1, 2, 3, 4, 5, 6, 7] [(0, .ref b0), (1, .ref x), (2, .ref aT), (3, .ref aM), (4, .ref aI), (5, .ref aW), (6, .ref aG), (7, .int (nI turn))] rfl ?_
                  exact law_1152 ⟨hst, hC, ht60, hk9, hn9⟩ kk ad1_ (mPut σ a (va_up (va_up (σ.2.2.2 a).1 13 ((σ.2.2.2 a).1 13 - 1)) 14 ((σ.2.2.2 a).1 14 - 1), (σ.2.2.2 a).2)) us1_ (upd (upd fT (15 * a + 9) (nI ((σ.2.2.2 a).1 13 - 1))) (15 * a + 10) (nI ((σ.2.2.2 a).1 14 - 1))) fM fI fW fG ⟨(by have := oRetireC_ok hσ (nI a); rw [hop] at this; exact this), hU1_, qRep_put (τ := (va_up (va_up (σ.2.2.2 a).1 13 ((σ.2.2.2 a).1 13 - 1)) 14 ((σ.2.2.2 a).1 14 - 1), (σ.2.2.2 a).2)) hR hσ ha ⟨⟨((pk_un (by omega)).trans ((pk_un (by omega)).trans q0)), ((pk_un (by omega)).trans ((pk_un (by omega)).trans q1)), ((pk_un (by omega)).trans ((pk_un (by omega)).trans q2)), ((pk_un (by omega)).trans ((pk_un (by omega)).trans q3)), ((pk_un (by omega)).trans ((pk_un (by omega)).trans q4)), ((pk_un (by omega)).trans ((pk_un (by omega)).trans q5)), ((pk_un (by omega)).trans ((pk_un (by omega)).trans q6)), ((pk_un (by omega)).trans ((pk_un (by omega)).trans q7)), ((pk_un (by omega)).trans ((pk_un (by omega)).trans q8)), ((pk_un (by omega)).trans pk_us), pk_us, ((pk_un (by omega)).trans ((pk_un (by omega)).trans q11)), ((pk_un (by omega)).trans ((pk_un (by omega)).trans q12)), ((pk_un (by omega)).trans ((pk_un (by omega)).trans q13)), ((pk_un (by omega)).trans ((pk_un (by omega)).trans q14))⟩, hS.2.1, hS.2.2.1, hS.2.2.2⟩ (fun j hj => ⟨(qAT_up hj (by decide) (qAT_up hj (by decide) qAT_rf)), qAR_rf, qAR_rf, qAR_rf⟩) rfl, h3, d9, hd, hd20⟩ h0 (k9 + 3) (n9 + 18) (by omega) (by omega)
                · exact absurd rfl c10
              · exact absurd rfl c8
            · exact absurd rfl c8
          · have hm1 : mHas σ 1 (nI a) := mHas_k h6 (by omega) ha
            have hbc : (oRetireC σ (nI a)).1 = 2 := by
              simp only [oRetireC, oT, mIx_nI ha31, if_pos hm1]
              rw [if_pos (by omega)]
            refine k_aload_n hC 1 dL_law_982 rfl rfl ?_
            refine k_iload hC dL_law_983 rfl ?_
            refine k_if_eqN hC 992 dL_law_985 (by decide) (by omega) (fun c8 => ?_) (fun c8 => ?_)
            · refine k_iconst hC (nI 4) dL_law_992 rfl ?_
              refine k_iload hC dL_law_993 rfl ?_
              refine k_iconst hC (nI 0) dL_law_995 rfl ?_
              refine k_perm2 [kI K aT 45 fT, kI K aM 60 fM, kI K aI 60 fI, kI K aW 60 fW, kI K aG 8 fG] (wX K x ad σ us) List.perm_append_comm ?_
              refine k_callXH hC (As := [.ref x, .int (nI 4), .int (nI a), .int (nI 0)]) (cL_refused_4 hst K x ad σ us hσ hU (nI a) (nI 0) (by rw [hbc]; decide)) [] (List.append_nil _).symm (kAll4 lkM_L_118 lkT_yL_refused lkN_L lkC_yL_refused) 4 (by decide) ⟨(Nat.le_of_ble_eq_true rfl), (Nat.le_of_ble_eq_true rfl)⟩ rfl rfl (Nat.le_of_ble_eq_true rfl) ⟨by show k9 + 3 ≤ 637431; omega, by show n9 + 18 ≤ 7189406; omega⟩ dL_law_996 (fun v w h => ?_)
              rw [hbc, if_neg (show ¬ (2 : Nat) = 1 by decide)] at h
              obtain ⟨rfl, rfl⟩ := h
              refine k_re (k9 + 3) (n9 + 18) (wX K x ad σ us) [.int (nI 2)] rfl rfl (List.append_nil _) rfl ?_
              refine k_perm2 (wX K x ad σ us) [kI K aT 45 fT, kI K aM 60 fM, kI K aI 60 fI, kI K aW 60 fW, kI K aG 8 fG] List.perm_append_comm ?_
              refine k_iload hC dL_law_999 rfl ?_
              refine k_if_neN hC 1008 dL_law_1001 (by decide) (by omega) (fun c11 => ?_) (fun c11 => ?_)
              · refine k_iconst hC (nI 2) dL_law_1008 rfl ?_
                refine k_icmp_eq hC 1169 dL_law_1009 (by decide) (fun _ => ?_) (fun c9 => absurd rfl c9)
                refine k_lsub [0, 1, 2, 3, 4, 5, 6, 7] [(0, .ref b0), (1, .ref x), (2, .ref aT), (3, .ref aM), (4, .ref aI), (5, .ref aW), (6, .ref aG), (7, .int (nI turn))] rfl ?_
                exact kk ad σ us fT fM fI fW fG (k9 + 3) (n9 + 18) ⟨hσ, hU, hR, h3, d9, hd, hd20⟩ h0 (by omega) (by omega)
              · exact absurd c11 c3
            · exact absurd rfl c8
      · exact absurd rfl c6
  · refine k_iconst hC (nI 1) dL_law_930 rfl ?_
    refine k_goto hC 935 dL_law_931 (by decide) ?_
    refine k_istore hC dL_law_935 (by decide) rfl [(0, .ref b0), (1, .ref x), (2, .ref aT), (3, .ref aM), (4, .ref aI), (5, .ref aW), (6, .ref aG), (7, .int (nI turn)), (8, .int z8), (9, .int z9), (10, .int (nI kd)), (11, .int (nI a)), (12, .int (nI (15 * a))), (13, .int (nI 1))] rfl ?_
    refine k_iload hC dL_law_937 rfl ?_
    refine k_if_eqN hC 982 dL_law_939 (by decide) (by omega) (fun c3 => ?_) (fun c3 => ?_)
    · subst c3
      have hbc : (oIssueC σ (nI 0)).1 = 1 := by
        have hm2 : ¬ mHas σ 1 (nI 0) := fun q => by have := (nI_leI (by decide) (by decide)).mp q.1; omega
        simp only [oIssueC, if_neg hm2]
      refine k_aload_n hC 1 dL_law_982 rfl rfl ?_
      refine k_iload hC dL_law_983 rfl ?_
      refine k_if_eqN hC 992 dL_law_985 (by decide) (by omega) (fun c8 => ?_) (fun c8 => ?_)
      · exact absurd c8 (by decide)
      · refine k_iconst hC (nI 3) dL_law_988 rfl ?_
        refine k_goto hC 993 dL_law_989 (by decide) ?_
        refine k_iload hC dL_law_993 rfl ?_
        refine k_iconst hC (nI 0) dL_law_995 rfl ?_
        refine k_perm2 [kI K aT 45 fT, kI K aM 60 fM, kI K aI 60 fI, kI K aW 60 fW, kI K aG 8 fG] (wX K x ad σ us) List.perm_append_comm ?_
        refine k_callXH hC (As := [.ref x, .int (nI 3), .int (nI 0), .int (nI 0)]) (cL_refused_3 hst K x ad σ us hσ hU (nI 0) (nI 0) (by rw [hbc]; decide)) [] (List.append_nil _).symm (kAll4 lkM_L_118 lkT_yL_refused lkN_L lkC_yL_refused) 4 (by decide) ⟨(Nat.le_of_ble_eq_true rfl), (Nat.le_of_ble_eq_true rfl)⟩ rfl rfl (Nat.le_of_ble_eq_true rfl) ⟨by show k9 + 3 ≤ 637431; omega, by show n9 + 18 ≤ 7189406; omega⟩ dL_law_996 (fun v w h => ?_)
        rw [hbc, if_pos rfl] at h
        obtain ⟨rfl, rfl⟩ := h
        refine k_re (k9 + 3) (n9 + 18) (wX K x ad σ us) [.int (nI 1)] rfl rfl (List.append_nil _) rfl ?_
        refine k_perm2 (wX K x ad σ us) [kI K aT 45 fT, kI K aM 60 fM, kI K aI 60 fI, kI K aW 60 fW, kI K aG 8 fG] List.perm_append_comm ?_
        refine k_iload hC dL_law_999 rfl ?_
        refine k_if_neN hC 1008 dL_law_1001 (by decide) (by omega) (fun c11 => ?_) (fun c11 => ?_)
        · exact absurd rfl c11
        · refine k_iconst hC (nI 1) dL_law_1004 rfl ?_
          refine k_goto hC 1009 dL_law_1005 (by decide) ?_
          refine k_icmp_eq hC 1169 dL_law_1009 (by decide) (fun _ => ?_) (fun c9 => absurd rfl c9)
          refine k_lsub [0, 1, 2, 3, 4, 5, 6, 7] [(0, .ref b0), (1, .ref x), (2, .ref aT), (3, .ref aM), (4, .ref aI), (5, .ref aW), (6, .ref aG), (7, .int (nI turn))] rfl ?_
          exact kk ad σ us fT fM fI fW fG (k9 + 3) (n9 + 18) ⟨hσ, hU, hR, h3, d9, hd, hd20⟩ h0 (by omega) (by omega)
    · refine k_iload hC dL_law_942 rfl ?_
      refine k_if_eqN hC 961 dL_law_944 (by decide) (by omega) (fun c6 => ?_) (fun c6 => ?_)
      · exact absurd c6 (by decide)
      · refine k_aload_n hC 2 dL_law_947 rfl rfl ?_
        refine k_iload hC dL_law_948 rfl ?_
        refine k_bipush hC (nI 9) dL_law_950 rfl ?_
        refine k_iaddN hC dL_law_952 ?_
        refine k_ald hC 0 rfl (by omega) (by decide) dL_law_953 ?_
        refine k_topE (nI ((σ.2.2.2 a).1 13)) q9 ?_
        refine k_iconst hC (nI 5) dL_law_954 rfl ?_
        refine k_icmp_neN hC 1014 dL_law_955 (by decide) (by omega) (by omega) (fun c4 => ?_) (fun c4 => ?_)
        · have hm1 : mHas σ 1 (nI a) := mHas_k h6 (by omega) ha
          have hcv := hi.2.2.2.2.2.2
          rw [if_neg (by simp; omega)] at hcv
          have hop : oIssueC σ (nI a) = (0, nI ((σ.2.2.2 a).1 13 + 1), mPut σ a (va_up (va_up (σ.2.2.2 a).1 13 ((σ.2.2.2 a).1 13 + 1)) 14 ((σ.2.2.2 a).1 14 + 1), (σ.2.2.2 a).2)) := by
            simp only [oIssueC, oT, mIx_nI ha31, if_pos hm1]
            rw [if_neg (by omega)]
          refine k_aload_n hC 2 dL_law_1014 rfl rfl ?_
          refine k_iload hC dL_law_1015 rfl ?_
          refine k_bipush hC (nI 9) dL_law_1017 rfl ?_
          refine k_iaddN hC dL_law_1019 ?_
          refine k_dup2 hC dL_law_1020 rfl rfl ?_
          refine k_ald hC 0 rfl (by omega) (by decide) dL_law_1021 ?_
          refine k_topE (nI ((σ.2.2.2 a).1 13)) q9 ?_
          refine k_iload hC dL_law_1022 rfl ?_
          refine k_if_eqN hC 1031 dL_law_1024 (by decide) (by omega) (fun c8 => ?_) (fun c8 => ?_)
          · exact absurd c8 (by decide)
          · refine k_iconst hC (nI 1) dL_law_1027 rfl ?_
            refine k_goto hC 1032 dL_law_1028 (by decide) ?_
            refine k_iaddN hC dL_law_1032 ?_
            refine k_ast hC 0 rfl (by omega) (by decide) dL_law_1033 [kI K aT 45 (upd fT (15 * a + 9) (nI ((σ.2.2.2 a).1 13 + 1))), kI K aM 60 fM, kI K aI 60 fI, kI K aW 60 fW, kI K aG 8 fG] rfl ?_
            refine k_aload_n hC 2 dL_law_1034 rfl rfl ?_
            refine k_iload hC dL_law_1035 rfl ?_
            refine k_bipush hC (nI 10) dL_law_1037 rfl ?_
            refine k_iaddN hC dL_law_1039 ?_
            refine k_dup2 hC dL_law_1040 rfl rfl ?_
            refine k_ald hC 0 rfl (by omega) (by decide) dL_law_1041 ?_
            refine k_topE (nI ((σ.2.2.2 a).1 14)) (((pk_un (by omega)).trans q10)) ?_
            refine k_iload hC dL_law_1042 rfl ?_
            refine k_if_eqN hC 1051 dL_law_1044 (by decide) (by omega) (fun c8 => ?_) (fun c8 => ?_)
            · exact absurd c8 (by decide)
            · refine k_iconst hC (nI 1) dL_law_1047 rfl ?_
              refine k_goto hC 1052 dL_law_1048 (by decide) ?_
              refine k_iaddN hC dL_law_1052 ?_
              refine k_ast hC 0 rfl (by omega) (by decide) dL_law_1053 [kI K aT 45 (upd (upd fT (15 * a + 9) (nI ((σ.2.2.2 a).1 13 + 1))) (15 * a + 10) (nI ((σ.2.2.2 a).1 14 + 1))), kI K aM 60 fM, kI K aI 60 fI, kI K aW 60 fW, kI K aG 8 fG] rfl ?_
              refine k_iload hC dL_law_1054 rfl ?_
              refine k_if_eqN hC 1068 dL_law_1056 (by decide) (by omega) (fun c10 => ?_) (fun c10 => ?_)
              · exact absurd c10 (by decide)
              · refine k_aload_n hC 1 dL_law_1059 rfl rfl ?_
                refine k_iload hC dL_law_1060 rfl ?_
                refine k_perm2 [kI K aT 45 (upd (upd fT (15 * a + 9) (nI ((σ.2.2.2 a).1 13 + 1))) (15 * a + 10) (nI ((σ.2.2.2 a).1 14 + 1))), kI K aM 60 fM, kI K aI 60 fI, kI K aW 60 fW, kI K aG 8 fG] (wX K x ad σ us) List.perm_append_comm ?_
                refine k_callXC hC (As := [.int (nI a)]) (cX3_issueConveyance_k hst K x ad σ us hσ hU (nI a)) [] (List.append_nil _).symm 0 rfl rfl (kAll5 lkM_L_47 lkI_yX3_issueConveyance lkS_yX3_issueConveyance lkN_X3 lkC_yX3_issueConveyance) 1 (by decide) ⟨(Nat.le_of_ble_eq_true rfl), (Nat.le_of_ble_eq_true rfl)⟩ rfl rfl (Nat.le_of_ble_eq_true rfl) ⟨by show k9 + 3 ≤ 637431; omega, by show n9 + 18 ≤ 7189406; omega⟩ dL_law_1062 (fun E q => (kNo (by rw [hop]) q).elim) (fun v w h => ?_)
                rw [hop] at h
                obtain ⟨-, rfl, ad2_, us2_, rfl, hU2_⟩ := h
                refine k_re (k9 + 3) (n9 + 18) (wX K x ad2_ (mPut σ a (va_up (va_up (σ.2.2.2 a).1 13 ((σ.2.2.2 a).1 13 + 1)) 14 ((σ.2.2.2 a).1 14 + 1), (σ.2.2.2 a).2)) us2_) [.int (nI ((σ.2.2.2 a).1 13 + 1))] rfl rfl (List.append_nil _) rfl ?_
                refine k_perm2 (wX K x ad2_ (mPut σ a (va_up (va_up (σ.2.2.2 a).1 13 ((σ.2.2.2 a).1 13 + 1)) 14 ((σ.2.2.2 a).1 14 + 1), (σ.2.2.2 a).2)) us2_) [kI K aT 45 (upd (upd fT (15 * a + 9) (nI ((σ.2.2.2 a).1 13 + 1))) (15 * a + 10) (nI ((σ.2.2.2 a).1 14 + 1))), kI K aM 60 fM, kI K aI 60 fI, kI K aW 60 fW, kI K aG 8 fG] List.perm_append_comm ?_
                refine k_goto hC 1074 dL_law_1065 (by decide) ?_
                refine k_aload_n hC 2 dL_law_1074 rfl rfl ?_
                refine k_iload hC dL_law_1075 rfl ?_
                refine k_bipush hC (nI 9) dL_law_1077 rfl ?_
                refine k_iaddN hC dL_law_1079 ?_
                refine k_ald hC 0 rfl (by omega) (by decide) dL_law_1080 ?_
                refine k_topE (nI ((σ.2.2.2 a).1 13 + 1)) (((pk_un (by omega)).trans pk_us)) ?_
                refine k_icmp_eq hC 1086 dL_law_1081 (by decide) (fun _ => ?_) (fun c9 => absurd rfl c9)
                refine k_goto hC 1152 dL_law_1086 (by decide) ?_
                refine k_lsub [0, 1, 2, 3, 4, 5, 6, 7] [(0, .ref b0), (1, .ref x), (2, .ref aT), (3, .ref aM), (4, .ref aI), (5, .ref aW), (6, .ref aG), (7, .int (nI turn))] rfl ?_
                exact law_1152 ⟨hst, hC, ht60, hk9, hn9⟩ kk ad2_ (mPut σ a (va_up (va_up (σ.2.2.2 a).1 13 ((σ.2.2.2 a).1 13 + 1)) 14 ((σ.2.2.2 a).1 14 + 1), (σ.2.2.2 a).2)) us2_ (upd (upd fT (15 * a + 9) (nI ((σ.2.2.2 a).1 13 + 1))) (15 * a + 10) (nI ((σ.2.2.2 a).1 14 + 1))) fM fI fW fG ⟨(by have := oIssueC_ok hσ (nI a); rw [hop] at this; exact this), hU2_, qRep_put (τ := (va_up (va_up (σ.2.2.2 a).1 13 ((σ.2.2.2 a).1 13 + 1)) 14 ((σ.2.2.2 a).1 14 + 1), (σ.2.2.2 a).2)) hR hσ ha ⟨⟨((pk_un (by omega)).trans ((pk_un (by omega)).trans q0)), ((pk_un (by omega)).trans ((pk_un (by omega)).trans q1)), ((pk_un (by omega)).trans ((pk_un (by omega)).trans q2)), ((pk_un (by omega)).trans ((pk_un (by omega)).trans q3)), ((pk_un (by omega)).trans ((pk_un (by omega)).trans q4)), ((pk_un (by omega)).trans ((pk_un (by omega)).trans q5)), ((pk_un (by omega)).trans ((pk_un (by omega)).trans q6)), ((pk_un (by omega)).trans ((pk_un (by omega)).trans q7)), ((pk_un (by omega)).trans ((pk_un (by omega)).trans q8)), ((pk_un (by omega)).trans pk_us), pk_us, ((pk_un (by omega)).trans ((pk_un (by omega)).trans q11)), ((pk_un (by omega)).trans ((pk_un (by omega)).trans q12)), ((pk_un (by omega)).trans ((pk_un (by omega)).trans q13)), ((pk_un (by omega)).trans ((pk_un (by omega)).trans q14))⟩, hS.2.1, hS.2.2.1, hS.2.2.2⟩ (fun j hj => ⟨(qAT_up hj (by decide) (qAT_up hj (by decide) qAT_rf)), qAR_rf, qAR_rf, qAR_rf⟩) rfl, h3, d9, hd, hd20⟩ h0 (k9 + 3) (n9 + 18) (by omega) (by omega)
        · refine k_goto hC 982 dL_law_958 (by decide) ?_
          have hm1 : mHas σ 1 (nI a) := mHas_k h6 (by omega) ha
          have hbc : (oIssueC σ (nI a)).1 = 2 := by
            simp only [oIssueC, oT, mIx_nI ha31, if_pos hm1]
            rw [if_pos (by omega)]
          refine k_aload_n hC 1 dL_law_982 rfl rfl ?_
          refine k_iload hC dL_law_983 rfl ?_
          refine k_if_eqN hC 992 dL_law_985 (by decide) (by omega) (fun c8 => ?_) (fun c8 => ?_)
          · exact absurd c8 (by decide)
          · refine k_iconst hC (nI 3) dL_law_988 rfl ?_
            refine k_goto hC 993 dL_law_989 (by decide) ?_
            refine k_iload hC dL_law_993 rfl ?_
            refine k_iconst hC (nI 0) dL_law_995 rfl ?_
            refine k_perm2 [kI K aT 45 fT, kI K aM 60 fM, kI K aI 60 fI, kI K aW 60 fW, kI K aG 8 fG] (wX K x ad σ us) List.perm_append_comm ?_
            refine k_callXH hC (As := [.ref x, .int (nI 3), .int (nI a), .int (nI 0)]) (cL_refused_3 hst K x ad σ us hσ hU (nI a) (nI 0) (by rw [hbc]; decide)) [] (List.append_nil _).symm (kAll4 lkM_L_118 lkT_yL_refused lkN_L lkC_yL_refused) 4 (by decide) ⟨(Nat.le_of_ble_eq_true rfl), (Nat.le_of_ble_eq_true rfl)⟩ rfl rfl (Nat.le_of_ble_eq_true rfl) ⟨by show k9 + 3 ≤ 637431; omega, by show n9 + 18 ≤ 7189406; omega⟩ dL_law_996 (fun v w h => ?_)
            rw [hbc, if_neg (show ¬ (2 : Nat) = 1 by decide)] at h
            obtain ⟨rfl, rfl⟩ := h
            refine k_re (k9 + 3) (n9 + 18) (wX K x ad σ us) [.int (nI 2)] rfl rfl (List.append_nil _) rfl ?_
            refine k_perm2 (wX K x ad σ us) [kI K aT 45 fT, kI K aM 60 fM, kI K aI 60 fI, kI K aW 60 fW, kI K aG 8 fG] List.perm_append_comm ?_
            refine k_iload hC dL_law_999 rfl ?_
            refine k_if_neN hC 1008 dL_law_1001 (by decide) (by omega) (fun c11 => ?_) (fun c11 => ?_)
            · refine k_iconst hC (nI 2) dL_law_1008 rfl ?_
              refine k_icmp_eq hC 1169 dL_law_1009 (by decide) (fun _ => ?_) (fun c9 => absurd rfl c9)
              refine k_lsub [0, 1, 2, 3, 4, 5, 6, 7] [(0, .ref b0), (1, .ref x), (2, .ref aT), (3, .ref aM), (4, .ref aI), (5, .ref aW), (6, .ref aG), (7, .int (nI turn))] rfl ?_
              exact kk ad σ us fT fM fI fW fG (k9 + 3) (n9 + 18) ⟨hσ, hU, hR, h3, d9, hd, hd20⟩ h0 (by omega) (by omega)
            · exact absurd c11 c3
