/-! the law's own line: the class answers as the line says -/
theorem kNo {o : mO} {E1 E2 E : String} (h0 : o.1 = 0) (h : kPx o E1 E2 E) : False := by
  rcases h with ⟨h, -⟩ | ⟨h, -⟩
  · exact absurd (h0.symm.trans h) (by decide)
  · exact absurd (h0.symm.trans h) (by decide)
theorem oGet_in {σ : mS} {k : Nat} (F : mT → Int32) (h6 : σ.1 ≤ 6) (hk : k < σ.1) : oGet σ (nI k) F = (0, F (σ.2.2.2 k), σ) := by
  simp only [oGet, oT, mIx_nI (show k < 2 ^ 31 by omega), if_pos (mHas_k h6 (Nat.zero_le k) hk)]
theorem qBeh {σ : mS} (h : mSok σ) (k : Nat) : mBehind σ k ≤ 5 := by
  unfold mBehind
  split
  · next hk => have := (h.2 (k + 1) hk).1.1; omega
  · exact Nat.zero_le 5
theorem qCeil (a : Nat) {q : Nat} (hq : 0 < q) : (a + q - 1) / q = a / q + (if a % q = 0 then 0 else 1) := by
  have h1 := Nat.div_add_mod a q
  have h2 := Nat.mod_lt a hq
  generalize a / q = d at h1 ⊢
  generalize a % q = r at h1 h2 ⊢
  split
  · next h0 =>
    subst h0
    rw [show a + q - 1 = q * d + (q - 1) by omega, Nat.mul_add_div hq, Nat.div_eq_of_lt (by omega)]
  · next h0 =>
    rw [show a + q - 1 = q * d + q * 1 + (r - 1) by omega, ← Nat.mul_add, Nat.mul_add_div hq, Nat.div_eq_of_lt (by omega)]
theorem qNeed {σ : mS} {k d9 : Nat} (h : mSok σ) (hk : k < σ.1) (hd : σ.2.2.1 3 = nI d9) (hd20 : d9 ≤ 20) {nd : Nat} (hnd : nd = d9 * ((σ.2.2.2 k).1 7 * (σ.2.2.2 k).1 3 + mBehind σ k) * 120 / (100 * (σ.2.2.2 k).1 2) + (if d9 * ((σ.2.2.2 k).1 7 * (σ.2.2.2 k).1 3 + mBehind σ k) * 120 % (100 * (σ.2.2.2 k).1 2) = 0 then 0 else 1)) : oNeeded σ (nI k) (nI 20) = (0, nI (if nd < 1 then 1 else nd), σ) := by
  have hi := (h.2 k hk).1.1
  have hb := qBeh h k
  have h1 : (σ.2.2.2 k).1 7 * (σ.2.2.2 k).1 3 ≤ 9 * 9 := Nat.mul_le_mul (by omega) (by omega)
  have h2 : d9 * ((σ.2.2.2 k).1 7 * (σ.2.2.2 k).1 3 + mBehind σ k) ≤ 20 * 86 := Nat.mul_le_mul hd20 (by omega)
  have hq : mQuot σ k (nI 20) = nI nd := by
    unfold mQuot
    rw [hd, nI_add, pk_mul, pk_mul, nI_add, pk_sub (by omega), pk_div (by omega) (by omega) (by omega), qCeil _ (by omega), hnd]
  have hlt : nd < 2 ^ 31 := by
    rw [hnd]
    have := Nat.div_le_self (d9 * ((σ.2.2.2 k).1 7 * (σ.2.2.2 k).1 3 + mBehind σ k) * 120) (100 * (σ.2.2.2 k).1 2)
    split <;> omega
  have hv : mIn (nI 20) 0 100 := ⟨nI_le (by decide) (by decide), nI_le (by decide) (by decide)⟩
  simp only [oNeeded, mIx_nI (show k < 2 ^ 31 by have := h.1; omega), if_pos (mHas_k h.1 (Nat.zero_le k) hk), if_pos hv, hq]
  rw [Prod.mk.injEq]
  refine ⟨rfl, ?_⟩
  rw [Prod.mk.injEq]
  refine ⟨?_, rfl⟩
  by_cases hn : nd < 1
  · rw [if_pos hn, if_neg (fun q => by have := (nI_ltI (by decide) hlt).mp q; omega)]
  · rw [if_neg hn]
    by_cases h9 : nd = 1
    · subst h9; rw [if_neg (Int32.lt_irrefl)]
    · rw [if_pos ((nI_ltI (by decide) hlt).mpr (by omega))]
abbrev rmL_same : Room := { frames := 10, cells := 200, slots := 1000, locals := 192 }
set_option maxRecDepth 100000 in
set_option maxHeartbeats 4000000 in
theorem cL_same_k (l : Launch) (K : kE) (hst : l.stackTraces = false) (x : Nat) (ad : Nat → Nat → Nat) (σ : mS) (us : Nat → Nat → Nat → Int32) (hσ : mSok σ) (hU : mURT σ us) (aT aM aI aW aG : Nat) (fT fM fI fW fG : Nat → Int32) (h3 : σ.1 ≤ 3) (d9 : Nat) (hd : σ.2.2.1 3 = nI d9) (hd20 : d9 ≤ 20) (hR : qRep σ fT fM fI fW fG) : kM l yL_same (kws yL_same cL_same 14 (some .boolean)) rmL_same K [.ref x, .ref aT, .ref aM, .ref aI, .ref aW, .ref aG] ([kI K aT 45 fT, kI K aM 60 fM, kI K aI 60 fI, kI K aW 60 fW, kI K aG 8 fG] ++ wX K x ad σ us) (fun v w => v = some (.int (nI 1)) ∧ ∃ (ad1 : Nat → Nat → Nat) (us1 : Nat → Nat → Nat → Int32), w = [kI K aT 45 fT, kI K aM 60 fM, kI K aI 60 fI, kI K aW 60 fW, kI K aG 8 fG] ++ wX K x ad1 σ us1 ∧ mURT σ us1) := by
  refine kM_of (pl := (wX K x ad σ us)) (X := [kI K aT 45 fT, kI K aM 60 fM, kI K aI 60 fI, kI K aW 60 fW, kI K aG 8 fG]) rfl (by decide) (Nat.le_of_ble_eq_true rfl) ?_
  intro p e s m args below meth cd A Q hC hnm hE
  obtain ⟨g0, g1, g2, g3, g4, g5, g6, g7, hsr, hsz⟩ := id hR
  rw [hd] at g2
  refine k_iconst hC (nI 0) dL_same_0 rfl ?_
  refine k_istore hC dL_same_1 (by decide) rfl [(0, .ref x), (1, .ref aT), (2, .ref aM), (3, .ref aI), (4, .ref aW), (5, .ref aG), (6, .int (nI 0))] rfl ?_
  refine k_iconst hC (nI 0) dL_same_3 rfl ?_
  refine k_istore hC dL_same_4 (by decide) rfl [(0, .ref x), (1, .ref aT), (2, .ref aM), (3, .ref aI), (4, .ref aW), (5, .ref aG), (6, .int (nI 0)), (7, .int (nI 0))] rfl ?_
  have loop : ∀ (n j sm : Nat) (ad7 : Nat → Nat → Nat) (us7 : Nat → Nat → Nat → Int32) (k9 n9 : Nat), n + j = σ.1 + 1 → j ≤ σ.1 → sm = mSum (fun k => mHeld (σ.2.2.2 k)) j → mURT σ us7 → k9 ≤ 20 * j → n9 ≤ 120 * j → kW p l e rmL_same s m args below meth cd K A 14 Q k9 n9 ((wX K x ad7 σ us7)) [kI K aT 45 fT, kI K aM 60 fM, kI K aI 60 fI, kI K aW 60 fW, kI K aG 8 fG] [(0, .ref x), (1, .ref aT), (2, .ref aM), (3, .ref aI), (4, .ref aW), (5, .ref aG), (6, .int (nI sm)), (7, .int (nI j))] 6 [] := by
    intro n
    induction n with
    | zero => intro j sm ad7 us7 k9 n9 h1 h2; exact absurd h1 (by omega)
    | succ n ih =>
      intro j sm ad7 us7 k9 n9 h1 h2 hsm hU7 hk9 hn9
      refine k_iload hC dL_same_6 rfl ?_
      refine k_aload hC dL_same_8 rfl ?_
      refine k_iconst hC (nI 0) dL_same_10 rfl ?_
      refine k_ald hC 4 rfl (by omega) (by decide) dL_same_11 ?_
      refine k_topE (nI σ.1) g0 ?_
      refine k_icmp_geN hC 453 dL_same_12 (by decide) (by omega) (by omega) (fun c1 => ?_) (fun c1 => ?_)
      · have ej : j = σ.1 := by omega
        refine k_aload_n hC 0 dL_same_453 rfl rfl ?_
        refine k_perm2 [kI K aT 45 fT, kI K aM 60 fM, kI K aI 60 fI, kI K aW 60 fW, kI K aG 8 fG] (wX K x ad7 σ us7) List.perm_append_comm ?_
        refine k_callV hC (As := []) (cX3_stages_k l K x ad7 σ us7 hσ hU7) [] (List.append_nil _).symm 0 rfl rfl (kAll5 lkM_L_96 lkI_yX3_stages lkS_yX3_stages lkN_X3 lkC_yX3_stages) 0 (by decide) ⟨(Nat.le_of_ble_eq_true rfl), (Nat.le_of_ble_eq_true rfl)⟩ rfl rfl (Nat.le_of_ble_eq_true rfl) ⟨by show k9 + 0 ≤ 200; omega, by show n9 + 0 ≤ 1000; omega⟩ dL_same_454 (fun v w h => ?_)
        obtain ⟨-, rfl, ad1_, us1_, rfl, hU1_⟩ := h
        refine k_re (k9) (n9) (wX K x ad1_ σ us1_) [.int (nI σ.1)] rfl rfl (List.append_nil _) rfl ?_
        refine k_perm2 (wX K x ad1_ σ us1_) [kI K aT 45 fT, kI K aM 60 fM, kI K aI 60 fI, kI K aW 60 fW, kI K aG 8 fG] List.perm_append_comm ?_
        refine k_aload hC dL_same_457 rfl ?_
        refine k_iconst hC (nI 0) dL_same_459 rfl ?_
        refine k_ald hC 4 rfl (by omega) (by decide) dL_same_460 ?_
        refine k_topE (nI σ.1) g0 ?_
        refine k_icmp_ne hC 554 dL_same_461 (by decide) (fun c9 => absurd rfl c9) (fun _ => ?_)
        refine k_aload_n hC 0 dL_same_464 rfl rfl ?_
        refine k_perm2 [kI K aT 45 fT, kI K aM 60 fM, kI K aI 60 fI, kI K aW 60 fW, kI K aG 8 fG] (wX K x ad1_ σ us1_) List.perm_append_comm ?_
        refine k_callV hC (As := []) (cX3_time_k l K x ad1_ σ us1_ hσ hU1_) [] (List.append_nil _).symm 0 rfl rfl (kAll5 lkM_L_100 lkI_yX3_time lkS_yX3_time lkN_X3 lkC_yX3_time) 0 (by decide) ⟨(Nat.le_of_ble_eq_true rfl), (Nat.le_of_ble_eq_true rfl)⟩ rfl rfl (Nat.le_of_ble_eq_true rfl) ⟨by show k9 + 0 ≤ 200; omega, by show n9 + 0 ≤ 1000; omega⟩ dL_same_465 (fun v w h => ?_)
        obtain ⟨-, rfl, ad2_, us2_, rfl, hU2_⟩ := h
        refine k_re (k9) (n9) (wX K x ad2_ σ us2_) [.int (σ.2.2.1 4)] rfl rfl (List.append_nil _) rfl ?_
        refine k_perm2 (wX K x ad2_ σ us2_) [kI K aT 45 fT, kI K aM 60 fM, kI K aI 60 fI, kI K aW 60 fW, kI K aG 8 fG] List.perm_append_comm ?_
        refine k_aload hC dL_same_468 rfl ?_
        refine k_iconst hC (nI 3) dL_same_470 rfl ?_
        refine k_ald hC 4 rfl (by omega) (by decide) dL_same_471 ?_
        refine k_topE (σ.2.2.1 4) g3 ?_
        refine k_icmp_ne hC 554 dL_same_472 (by decide) (fun c9 => absurd rfl c9) (fun _ => ?_)
        refine k_aload_n hC 0 dL_same_475 rfl rfl ?_
        refine k_perm2 [kI K aT 45 fT, kI K aM 60 fM, kI K aI 60 fI, kI K aW 60 fW, kI K aG 8 fG] (wX K x ad2_ σ us2_) List.perm_append_comm ?_
        refine k_callV hC (As := []) (cX3_taken_k l K x ad2_ σ us2_ hσ hU2_) [] (List.append_nil _).symm 0 rfl rfl (kAll5 lkM_L_103 lkI_yX3_taken lkS_yX3_taken lkN_X3 lkC_yX3_taken) 0 (by decide) ⟨(Nat.le_of_ble_eq_true rfl), (Nat.le_of_ble_eq_true rfl)⟩ rfl rfl (Nat.le_of_ble_eq_true rfl) ⟨by show k9 + 0 ≤ 200; omega, by show n9 + 0 ≤ 1000; omega⟩ dL_same_476 (fun v w h => ?_)
        obtain ⟨-, rfl, ad3_, us3_, rfl, hU3_⟩ := h
        refine k_re (k9) (n9) (wX K x ad3_ σ us3_) [.int (σ.2.2.1 5)] rfl rfl (List.append_nil _) rfl ?_
        refine k_perm2 (wX K x ad3_ σ us3_) [kI K aT 45 fT, kI K aM 60 fM, kI K aI 60 fI, kI K aW 60 fW, kI K aG 8 fG] List.perm_append_comm ?_
        refine k_aload hC dL_same_479 rfl ?_
        refine k_iconst hC (nI 4) dL_same_481 rfl ?_
        refine k_ald hC 4 rfl (by omega) (by decide) dL_same_482 ?_
        refine k_topE (σ.2.2.1 5) g4 ?_
        refine k_icmp_ne hC 554 dL_same_483 (by decide) (fun c9 => absurd rfl c9) (fun _ => ?_)
        refine k_aload_n hC 0 dL_same_486 rfl rfl ?_
        refine k_perm2 [kI K aT 45 fT, kI K aM 60 fM, kI K aI 60 fI, kI K aW 60 fW, kI K aG 8 fG] (wX K x ad3_ σ us3_) List.perm_append_comm ?_
        refine k_callV hC (As := []) (cX3_backlog_k l K x ad3_ σ us3_ hσ hU3_) [] (List.append_nil _).symm 0 rfl rfl (kAll5 lkM_L_106 lkI_yX3_backlog lkS_yX3_backlog lkN_X3 lkC_yX3_backlog) 0 (by decide) ⟨(Nat.le_of_ble_eq_true rfl), (Nat.le_of_ble_eq_true rfl)⟩ rfl rfl (Nat.le_of_ble_eq_true rfl) ⟨by show k9 + 0 ≤ 200; omega, by show n9 + 0 ≤ 1000; omega⟩ dL_same_487 (fun v w h => ?_)
        obtain ⟨-, rfl, ad4_, us4_, rfl, hU4_⟩ := h
        refine k_re (k9) (n9) (wX K x ad4_ σ us4_) [.int (σ.2.2.1 6)] rfl rfl (List.append_nil _) rfl ?_
        refine k_perm2 (wX K x ad4_ σ us4_) [kI K aT 45 fT, kI K aM 60 fM, kI K aI 60 fI, kI K aW 60 fW, kI K aG 8 fG] List.perm_append_comm ?_
        refine k_aload hC dL_same_490 rfl ?_
        refine k_iconst hC (nI 5) dL_same_492 rfl ?_
        refine k_ald hC 4 rfl (by omega) (by decide) dL_same_493 ?_
        refine k_topE (σ.2.2.1 6) g5 ?_
        refine k_icmp_ne hC 554 dL_same_494 (by decide) (fun c9 => absurd rfl c9) (fun _ => ?_)
        refine k_aload_n hC 0 dL_same_497 rfl rfl ?_
        refine k_perm2 [kI K aT 45 fT, kI K aM 60 fM, kI K aI 60 fI, kI K aW 60 fW, kI K aG 8 fG] (wX K x ad4_ σ us4_) List.perm_append_comm ?_
        refine k_callV hC (As := []) (cX3_shortSteps_k l K x ad4_ σ us4_ hσ hU4_) [] (List.append_nil _).symm 0 rfl rfl (kAll5 lkM_L_109 lkI_yX3_shortSteps lkS_yX3_shortSteps lkN_X3 lkC_yX3_shortSteps) 0 (by decide) ⟨(Nat.le_of_ble_eq_true rfl), (Nat.le_of_ble_eq_true rfl)⟩ rfl rfl (Nat.le_of_ble_eq_true rfl) ⟨by show k9 + 0 ≤ 200; omega, by show n9 + 0 ≤ 1000; omega⟩ dL_same_498 (fun v w h => ?_)
        obtain ⟨-, rfl, ad5_, us5_, rfl, hU5_⟩ := h
        refine k_re (k9) (n9) (wX K x ad5_ σ us5_) [.int (σ.2.2.1 7)] rfl rfl (List.append_nil _) rfl ?_
        refine k_perm2 (wX K x ad5_ σ us5_) [kI K aT 45 fT, kI K aM 60 fM, kI K aI 60 fI, kI K aW 60 fW, kI K aG 8 fG] List.perm_append_comm ?_
        refine k_aload hC dL_same_501 rfl ?_
        refine k_bipush hC (nI 6) dL_same_503 rfl ?_
        refine k_ald hC 4 rfl (by omega) (by decide) dL_same_505 ?_
        refine k_topE (σ.2.2.1 7) g6 ?_
        refine k_icmp_ne hC 554 dL_same_506 (by decide) (fun c9 => absurd rfl c9) (fun _ => ?_)
        refine k_aload_n hC 0 dL_same_509 rfl rfl ?_
        refine k_perm2 [kI K aT 45 fT, kI K aM 60 fM, kI K aI 60 fI, kI K aW 60 fW, kI K aG 8 fG] (wX K x ad5_ σ us5_) List.perm_append_comm ?_
        refine k_callV hC (As := []) (cX3_stock_k l K x ad5_ σ us5_ hσ hU5_) [] (List.append_nil _).symm 0 rfl rfl (kAll5 lkM_L_112 lkI_yX3_stock lkS_yX3_stock lkN_X3 lkC_yX3_stock) 0 (by decide) ⟨(Nat.le_of_ble_eq_true rfl), (Nat.le_of_ble_eq_true rfl)⟩ rfl rfl (Nat.le_of_ble_eq_true rfl) ⟨by show k9 + 0 ≤ 200; omega, by show n9 + 0 ≤ 1000; omega⟩ dL_same_510 (fun v w h => ?_)
        obtain ⟨-, rfl, ad6_, us6_, rfl, hU6_⟩ := h
        refine k_re (k9) (n9) (wX K x ad6_ σ us6_) [.int (oStock σ)] rfl rfl (List.append_nil _) rfl ?_
        refine k_perm2 (wX K x ad6_ σ us6_) [kI K aT 45 fT, kI K aM 60 fM, kI K aI 60 fI, kI K aW 60 fW, kI K aG 8 fG] List.perm_append_comm ?_
        refine k_iload hC dL_same_513 rfl ?_
        refine k_topE (oStock σ) (by unfold oStock; rw [hsm, ej]) ?_
        refine k_icmp_ne hC 554 dL_same_515 (by decide) (fun c9 => absurd rfl c9) (fun _ => ?_)
        refine k_aload_n hC 0 dL_same_518 rfl rfl ?_
        refine k_perm2 [kI K aT 45 fT, kI K aM 60 fM, kI K aI 60 fI, kI K aW 60 fW, kI K aG 8 fG] (wX K x ad6_ σ us6_) List.perm_append_comm ?_
        refine k_callV hC (As := []) (cX3_stockByFlow_k l K x ad6_ σ us6_ hσ hU6_) [] (List.append_nil _).symm 0 rfl rfl (kAll5 lkM_L_115 lkI_yX3_stockByFlow lkS_yX3_stockByFlow lkN_X3 lkC_yX3_stockByFlow) 0 (by decide) ⟨(Nat.le_of_ble_eq_true rfl), (Nat.le_of_ble_eq_true rfl)⟩ rfl rfl (Nat.le_of_ble_eq_true rfl) ⟨by show k9 + 0 ≤ 200; omega, by show n9 + 0 ≤ 1000; omega⟩ dL_same_519 (fun v w h => ?_)
        obtain ⟨-, rfl, ad7_, us7_, rfl, hU7_⟩ := h
        refine k_re (k9) (n9) (wX K x ad7_ σ us7_) [.int (oFlow σ)] rfl rfl (List.append_nil _) rfl ?_
        refine k_perm2 (wX K x ad7_ σ us7_) [kI K aT 45 fT, kI K aM 60 fM, kI K aI 60 fI, kI K aW 60 fW, kI K aG 8 fG] List.perm_append_comm ?_
        refine k_aload hC dL_same_522 rfl ?_
        refine k_bipush hC (nI 7) dL_same_524 rfl ?_
        refine k_ald hC 4 rfl (by omega) (by decide) dL_same_526 ?_
        refine k_topE (mSumZ (fun k => (σ.2.2.2 k).2.1 1) σ.1) g7 ?_
        refine k_aload hC dL_same_527 rfl ?_
        refine k_iconst hC (nI 4) dL_same_529 rfl ?_
        refine k_ald hC 4 rfl (by omega) (by decide) dL_same_530 ?_
        refine k_topE (σ.2.2.1 5) g4 ?_
        refine k_isub hC dL_same_531 ?_
        refine k_topE (oFlow σ) (by unfold oFlow; rw [Int32.sub_eq_add_neg, Int32.add_comm]) ?_
        refine k_icmp_ne hC 554 dL_same_532 (by decide) (fun c9 => absurd rfl c9) (fun _ => ?_)
        refine k_aload_n hC 0 dL_same_535 rfl rfl ?_
        refine k_bipush hC (nI 6) dL_same_536 rfl ?_
        refine k_aload hC dL_same_538 rfl ?_
        refine k_iconst hC (nI 0) dL_same_540 rfl ?_
        refine k_ald hC 4 rfl (by omega) (by decide) dL_same_541 ?_
        refine k_topE (nI σ.1) g0 ?_
        refine k_iconst hC (nI 0) dL_same_542 rfl ?_
        have hbc : (oGet σ (nI σ.1) (fun τ => nI (τ.1 9))).1 = 1 := by
          have hn : ¬ mHas σ 0 (nI σ.1) := fun q => absurd q.2 Int32.lt_irrefl
          simp only [oGet, if_neg hn]
        refine k_perm2 [kI K aT 45 fT, kI K aM 60 fM, kI K aI 60 fI, kI K aW 60 fW, kI K aG 8 fG] (wX K x ad7_ σ us7_) List.perm_append_comm ?_
        refine k_callXH hC (As := [.ref x, .int (nI 6), .int (nI σ.1), .int (nI 0)]) (cL_refused_6 hst K x ad7_ σ us7_ hσ hU7_ (nI σ.1) (nI 0) (by rw [hbc]; decide)) [] (List.append_nil _).symm (kAll4 lkM_L_118 lkT_yL_refused lkN_L lkC_yL_refused) 4 (by decide) ⟨(Nat.le_of_ble_eq_true rfl), (Nat.le_of_ble_eq_true rfl)⟩ rfl rfl (Nat.le_of_ble_eq_true rfl) ⟨by show k9 + 3 ≤ 200; omega, by show n9 + 18 ≤ 1000; omega⟩ dL_same_543 (fun v w h => ?_)
        rw [if_pos hbc] at h
        obtain ⟨rfl, rfl⟩ := h
        refine k_re (k9 + 3) (n9 + 18) (wX K x ad7_ σ us7_) [.int (nI 1)] rfl rfl (List.append_nil _) rfl ?_
        refine k_perm2 (wX K x ad7_ σ us7_) [kI K aT 45 fT, kI K aM 60 fM, kI K aI 60 fI, kI K aW 60 fW, kI K aG 8 fG] List.perm_append_comm ?_
        refine k_iconst hC (nI 1) dL_same_546 rfl ?_
        refine k_icmp_ne hC 554 dL_same_547 (by decide) (fun c9 => absurd rfl c9) (fun _ => ?_)
        refine k_iconst hC (nI 1) dL_same_550 rfl ?_
        refine k_goto hC 555 dL_same_551 (by decide) ?_
        exact k_zret hC hE (by show k9 + 3 ≤ 200; omega) (by show n9 + 18 ≤ 1000; omega) rfl dL_same_555 ⟨rfl, ad7_, us7_, rfl, hU7_⟩
      · have hj : j < σ.1 := by omega
        have hS := hsr j hj
        have hi := (hσ.2 j hj).1
        have hn := hi.1
        have hlen := qLen_of hi
        have hl0 := mInv_L0 hi
        have hl1 := mInv_L1 hi
        have hl2 := mInv_L2 hi
        have hmb := qBeh hσ j
        have h6 := hσ.1
        obtain ⟨q0, q1, q2, q3, q4, q5, q6, q7, q8, q9, q10, q11, q12, q13, q14⟩ := id hS.1
        refine k_bipush hC (nI 15) dL_same_15 rfl ?_
        refine k_iload hC dL_same_17 rfl ?_
        refine k_imulN hC dL_same_19 ?_
        refine k_istore hC dL_same_20 (by decide) rfl [(0, .ref x), (1, .ref aT), (2, .ref aM), (3, .ref aI), (4, .ref aW), (5, .ref aG), (6, .int (nI sm)), (7, .int (nI j)), (8, .int (nI (15 * j)))] rfl ?_
        refine k_iconst hC (nI 0) dL_same_22 rfl ?_
        refine k_istore hC dL_same_23 (by decide) rfl [(0, .ref x), (1, .ref aT), (2, .ref aM), (3, .ref aI), (4, .ref aW), (5, .ref aG), (6, .int (nI sm)), (7, .int (nI j)), (8, .int (nI (15 * j))), (9, .int (nI 0))] rfl ?_
        refine k_iload hC dL_same_25 rfl ?_
        refine k_iconst hC (nI 1) dL_same_27 rfl ?_
        refine k_iaddN hC dL_same_28 ?_
        refine k_aload hC dL_same_29 rfl ?_
        refine k_iconst hC (nI 0) dL_same_31 rfl ?_
        refine k_ald hC 4 rfl (by omega) (by decide) dL_same_32 ?_
        refine k_topE (nI σ.1) g0 ?_
        have j50 : kW p l e rmL_same s m args below meth cd K A 14 Q k9 n9 ((wX K x ad7 σ us7)) [kI K aT 45 fT, kI K aM 60 fM, kI K aI 60 fI, kI K aW 60 fW, kI K aG 8 fG] [(0, .ref x), (1, .ref aT), (2, .ref aM), (3, .ref aI), (4, .ref aW), (5, .ref aG), (6, .int (nI sm)), (7, .int (nI j)), (8, .int (nI (15 * j))), (9, .int (nI 0))] 50 [.int (nI (mBehind σ j))] := by
          refine k_istore hC dL_same_50 (by decide) rfl [(0, .ref x), (1, .ref aT), (2, .ref aM), (3, .ref aI), (4, .ref aW), (5, .ref aG), (6, .int (nI sm)), (7, .int (nI j)), (8, .int (nI (15 * j))), (9, .int (nI 0)), (10, .int (nI (mBehind σ j)))] rfl ?_
          refine k_aload hC dL_same_52 rfl ?_
          refine k_iconst hC (nI 2) dL_same_54 rfl ?_
          refine k_ald hC 4 rfl (by omega) (by decide) dL_same_55 ?_
          refine k_topE (nI d9) g2 ?_
          refine k_aload_n hC 1 dL_same_56 rfl rfl ?_
          refine k_iload hC dL_same_57 rfl ?_
          refine k_iconst hC (nI 3) dL_same_59 rfl ?_
          refine k_iaddN hC dL_same_60 ?_
          refine k_ald hC 0 rfl (by omega) (by decide) dL_same_61 ?_
          refine k_topE (nI ((σ.2.2.2 j).1 7)) q3 ?_
          refine k_aload_n hC 1 dL_same_62 rfl rfl ?_
          refine k_iload hC dL_same_63 rfl ?_
          refine k_iconst hC (nI 2) dL_same_65 rfl ?_
          refine k_iaddN hC dL_same_66 ?_
          refine k_ald hC 0 rfl (by omega) (by decide) dL_same_67 ?_
          refine k_topE (nI ((σ.2.2.2 j).1 3)) q2 ?_
          refine k_imulN hC dL_same_68 ?_
          refine k_iload hC dL_same_69 rfl ?_
          refine k_iaddN hC dL_same_71 ?_
          refine k_imulN hC dL_same_72 ?_
          refine k_bipush hC (nI 120) dL_same_73 rfl ?_
          refine k_imulN hC dL_same_75 ?_
          obtain ⟨ov, hov⟩ : ∃ ov : Nat, ov = (d9 * (((σ.2.2.2 j).1 7) * ((σ.2.2.2 j).1 3) + mBehind σ j)) * 120 := ⟨_, rfl⟩
          refine k_topE (nI ov) (by rw [hov]) ?_
          have hm1 : (σ.2.2.2 j).1 7 * (σ.2.2.2 j).1 3 ≤ 9 * 9 := Nat.mul_le_mul (by omega) (by omega)
          have hm2 : d9 * ((σ.2.2.2 j).1 7 * (σ.2.2.2 j).1 3 + mBehind σ j) ≤ 20 * 86 := Nat.mul_le_mul hd20 (by omega)
          have hov2 : ov ≤ 206400 := by omega
          refine k_istore hC dL_same_76 (by decide) rfl [(0, .ref x), (1, .ref aT), (2, .ref aM), (3, .ref aI), (4, .ref aW), (5, .ref aG), (6, .int (nI sm)), (7, .int (nI j)), (8, .int (nI (15 * j))), (9, .int (nI 0)), (10, .int (nI (mBehind σ j))), (11, .int (nI ov))] rfl ?_
          refine k_iload hC dL_same_78 rfl ?_
          refine k_bipush hC (nI 100) dL_same_80 rfl ?_
          refine k_aload_n hC 1 dL_same_82 rfl rfl ?_
          refine k_iload hC dL_same_83 rfl ?_
          refine k_iconst hC (nI 1) dL_same_85 rfl ?_
          refine k_iaddN hC dL_same_86 ?_
          refine k_ald hC 0 rfl (by omega) (by decide) dL_same_87 ?_
          refine k_topE (nI ((σ.2.2.2 j).1 2)) q1 ?_
          refine k_imulN hC dL_same_88 ?_
          refine k_idivN hC dL_same_89 (by omega) (by omega) (by omega) ?_
          obtain ⟨qt, hqt⟩ : ∃ qt : Nat, qt = ov / (100 * ((σ.2.2.2 j).1 2)) := ⟨_, rfl⟩
          refine k_topE (nI qt) (by rw [hqt]) ?_
          have hqt2 : qt ≤ ov := by rw [hqt]; exact Nat.div_le_self _ _
          refine k_iload hC dL_same_90 rfl ?_
          refine k_bipush hC (nI 100) dL_same_92 rfl ?_
          refine k_aload_n hC 1 dL_same_94 rfl rfl ?_
          refine k_iload hC dL_same_95 rfl ?_
          refine k_iconst hC (nI 1) dL_same_97 rfl ?_
          refine k_iaddN hC dL_same_98 ?_
          refine k_ald hC 0 rfl (by omega) (by decide) dL_same_99 ?_
          refine k_topE (nI ((σ.2.2.2 j).1 2)) q1 ?_
          refine k_imulN hC dL_same_100 ?_
          refine k_iremN hC dL_same_101 (by omega) (by omega) (by omega) ?_
          obtain ⟨md, hmd⟩ : ∃ md : Nat, md = ov % (100 * ((σ.2.2.2 j).1 2)) := ⟨_, rfl⟩
          refine k_topE (nI md) (by rw [hmd]) ?_
          have hmd2 : md < 100 * (σ.2.2.2 j).1 2 := by rw [hmd]; exact Nat.mod_lt _ (by omega)
          have j110 : kW p l e rmL_same s m args below meth cd K A 14 Q k9 n9 ((wX K x ad7 σ us7)) [kI K aT 45 fT, kI K aM 60 fM, kI K aI 60 fI, kI K aW 60 fW, kI K aG 8 fG] [(0, .ref x), (1, .ref aT), (2, .ref aM), (3, .ref aI), (4, .ref aW), (5, .ref aG), (6, .int (nI sm)), (7, .int (nI j)), (8, .int (nI (15 * j))), (9, .int (nI 0)), (10, .int (nI (mBehind σ j))), (11, .int (nI ov))] 110 [.int (nI (if md = 0 then 0 else 1)), .int (nI qt)] := by
            refine k_iaddN hC dL_same_110 ?_
            obtain ⟨nd, hnd⟩ : ∃ nd : Nat, nd = qt + (if md = 0 then 0 else 1) := ⟨_, rfl⟩
            refine k_topE (nI nd) (by rw [hnd]) ?_
            have hnd2 : nd ≤ 206401 := by rw [hnd]; split <;> omega
            refine k_istore hC dL_same_111 (by decide) rfl [(0, .ref x), (1, .ref aT), (2, .ref aM), (3, .ref aI), (4, .ref aW), (5, .ref aG), (6, .int (nI sm)), (7, .int (nI j)), (8, .int (nI (15 * j))), (9, .int (nI 0)), (10, .int (nI (mBehind σ j))), (11, .int (nI ov)), (12, .int (nI nd))] rfl ?_
            refine k_iconst hC (nI 0) dL_same_113 rfl ?_
            refine k_istore hC dL_same_114 (by decide) rfl [(0, .ref x), (1, .ref aT), (2, .ref aM), (3, .ref aI), (4, .ref aW), (5, .ref aG), (6, .int (nI sm)), (7, .int (nI j)), (8, .int (nI (15 * j))), (9, .int (nI 0)), (10, .int (nI (mBehind σ j))), (11, .int (nI ov)), (12, .int (nI nd)), (13, .int (nI 0))] rfl ?_
            have j152 : kW p l e rmL_same s m args below meth cd K A 14 Q k9 n9 ((wX K x ad7 σ us7)) [kI K aT 45 fT, kI K aM 60 fM, kI K aI 60 fI, kI K aW 60 fW, kI K aG 8 fG] [(0, .ref x), (1, .ref aT), (2, .ref aM), (3, .ref aI), (4, .ref aW), (5, .ref aG), (6, .int (nI sm)), (7, .int (nI j)), (8, .int (nI (15 * j))), (9, .int (nI (mCs ((σ.2.2.2 j).2.2 0)))), (10, .int (nI (mBehind σ j))), (11, .int (nI ov)), (12, .int (nI nd))] 152 [] := by
              refine k_aload_n hC 0 dL_same_152 rfl rfl ?_
              refine k_iload hC dL_same_153 rfl ?_
              refine k_perm2 [kI K aT 45 fT, kI K aM 60 fM, kI K aI 60 fI, kI K aW 60 fW, kI K aG 8 fG] (wX K x ad7 σ us7) List.perm_append_comm ?_
              refine k_callXC hC (As := [.int (nI j)]) (cX3_board_k hst K x ad7 σ us7 hσ hU7 (nI j)) [] (List.append_nil _).symm 0 rfl rfl (kAll5 lkM_L_57 lkI_yX3_board lkS_yX3_board lkN_X3 lkC_yX3_board) 1 (by decide) ⟨(Nat.le_of_ble_eq_true rfl), (Nat.le_of_ble_eq_true rfl)⟩ rfl rfl (Nat.le_of_ble_eq_true rfl) ⟨by show k9 + 1 ≤ 200; omega, by show n9 + 6 ≤ 1000; omega⟩ dL_same_155 (fun E q => (kNo (by rw [oGet_in (fun τ => nI (τ.1 9)) h6 hj]) q).elim) (fun v w h => ?_)
              rw [oGet_in (fun τ => nI (τ.1 9)) h6 hj] at h
              obtain ⟨-, rfl, ad8_, us8_, rfl, hU8_⟩ := h
              refine k_re (k9 + 1) (n9 + 6) (wX K x ad8_ σ us8_) [.int (nI ((σ.2.2.2 j).1 9))] rfl rfl (List.append_nil _) rfl ?_
              refine k_perm2 (wX K x ad8_ σ us8_) [kI K aT 45 fT, kI K aM 60 fM, kI K aI 60 fI, kI K aW 60 fW, kI K aG 8 fG] List.perm_append_comm ?_
              refine k_aload_n hC 1 dL_same_158 rfl rfl ?_
              refine k_iload hC dL_same_159 rfl ?_
              refine k_iconst hC (nI 4) dL_same_161 rfl ?_
              refine k_iaddN hC dL_same_162 ?_
              refine k_ald hC 0 rfl (by omega) (by decide) dL_same_163 ?_
              refine k_topE (nI ((σ.2.2.2 j).1 9)) q4 ?_
              refine k_icmp_ne hC 257 dL_same_164 (by decide) (fun c9 => absurd rfl c9) (fun _ => ?_)
              refine k_aload_n hC 0 dL_same_167 rfl rfl ?_
              refine k_iload hC dL_same_168 rfl ?_
              refine k_perm2 [kI K aT 45 fT, kI K aM 60 fM, kI K aI 60 fI, kI K aW 60 fW, kI K aG 8 fG] (wX K x ad8_ σ us8_) List.perm_append_comm ?_
              refine k_callXC hC (As := [.int (nI j)]) (cX3_attached_k hst K x ad8_ σ us8_ hσ hU8_ (nI j)) [] (List.append_nil _).symm 0 rfl rfl (kAll5 lkM_L_66 lkI_yX3_attached lkS_yX3_attached lkN_X3 lkC_yX3_attached) 1 (by decide) ⟨(Nat.le_of_ble_eq_true rfl), (Nat.le_of_ble_eq_true rfl)⟩ rfl rfl (Nat.le_of_ble_eq_true rfl) ⟨by show k9 + 1 + 1 ≤ 200; omega, by show n9 + 6 + 6 ≤ 1000; omega⟩ dL_same_170 (fun E q => (kNo (by rw [oGet_in (fun τ => nI (mCs (τ.2.2 0))) h6 hj]) q).elim) (fun v w h => ?_)
              rw [oGet_in (fun τ => nI (mCs (τ.2.2 0))) h6 hj] at h
              obtain ⟨-, rfl, ad9_, us9_, rfl, hU9_⟩ := h
              refine k_re (k9 + 2) (n9 + 12) (wX K x ad9_ σ us9_) [.int (nI (mCs ((σ.2.2.2 j).2.2 0)))] rfl rfl (List.append_nil _) rfl ?_
              refine k_perm2 (wX K x ad9_ σ us9_) [kI K aT 45 fT, kI K aM 60 fM, kI K aI 60 fI, kI K aW 60 fW, kI K aG 8 fG] List.perm_append_comm ?_
              refine k_iload hC dL_same_173 rfl ?_
              refine k_icmp_ne hC 257 dL_same_175 (by decide) (fun c9 => absurd rfl c9) (fun _ => ?_)
              refine k_aload_n hC 0 dL_same_178 rfl rfl ?_
              refine k_iload hC dL_same_179 rfl ?_
              refine k_perm2 [kI K aT 45 fT, kI K aM 60 fM, kI K aI 60 fI, kI K aW 60 fW, kI K aG 8 fG] (wX K x ad9_ σ us9_) List.perm_append_comm ?_
              refine k_callXC hC (As := [.int (nI j)]) (cX3_left_k hst K x ad9_ σ us9_ hσ hU9_ (nI j)) [] (List.append_nil _).symm 0 rfl rfl (kAll5 lkM_L_69 lkI_yX3_left lkS_yX3_left lkN_X3 lkC_yX3_left) 1 (by decide) ⟨(Nat.le_of_ble_eq_true rfl), (Nat.le_of_ble_eq_true rfl)⟩ rfl rfl (Nat.le_of_ble_eq_true rfl) ⟨by show k9 + 2 + 1 ≤ 200; omega, by show n9 + 12 + 6 ≤ 1000; omega⟩ dL_same_181 (fun E q => (kNo (by rw [oGet_in (fun τ => nI (τ.1 10)) h6 hj]) q).elim) (fun v w h => ?_)
              rw [oGet_in (fun τ => nI (τ.1 10)) h6 hj] at h
              obtain ⟨-, rfl, ad10_, us10_, rfl, hU10_⟩ := h
              refine k_re (k9 + 3) (n9 + 18) (wX K x ad10_ σ us10_) [.int (nI ((σ.2.2.2 j).1 10))] rfl rfl (List.append_nil _) rfl ?_
              refine k_perm2 (wX K x ad10_ σ us10_) [kI K aT 45 fT, kI K aM 60 fM, kI K aI 60 fI, kI K aW 60 fW, kI K aG 8 fG] List.perm_append_comm ?_
              refine k_aload_n hC 1 dL_same_184 rfl rfl ?_
              refine k_iload hC dL_same_185 rfl ?_
              refine k_iconst hC (nI 5) dL_same_187 rfl ?_
              refine k_iaddN hC dL_same_188 ?_
              refine k_ald hC 0 rfl (by omega) (by decide) dL_same_189 ?_
              refine k_topE (nI ((σ.2.2.2 j).1 10)) q5 ?_
              refine k_icmp_ne hC 257 dL_same_190 (by decide) (fun c9 => absurd rfl c9) (fun _ => ?_)
              refine k_aload_n hC 0 dL_same_193 rfl rfl ?_
              refine k_iload hC dL_same_194 rfl ?_
              refine k_perm2 [kI K aT 45 fT, kI K aM 60 fM, kI K aI 60 fI, kI K aW 60 fW, kI K aG 8 fG] (wX K x ad10_ σ us10_) List.perm_append_comm ?_
              refine k_callXC hC (As := [.int (nI j)]) (cX3_run_k hst K x ad10_ σ us10_ hσ hU10_ (nI j)) [] (List.append_nil _).symm 0 rfl rfl (kAll5 lkM_L_72 lkI_yX3_run lkS_yX3_run lkN_X3 lkC_yX3_run) 1 (by decide) ⟨(Nat.le_of_ble_eq_true rfl), (Nat.le_of_ble_eq_true rfl)⟩ rfl rfl (Nat.le_of_ble_eq_true rfl) ⟨by show k9 + 3 + 1 ≤ 200; omega, by show n9 + 18 + 6 ≤ 1000; omega⟩ dL_same_196 (fun E q => (kNo (by rw [oGet_in (fun τ => nI (τ.1 11)) h6 hj]) q).elim) (fun v w h => ?_)
              rw [oGet_in (fun τ => nI (τ.1 11)) h6 hj] at h
              obtain ⟨-, rfl, ad11_, us11_, rfl, hU11_⟩ := h
              refine k_re (k9 + 4) (n9 + 24) (wX K x ad11_ σ us11_) [.int (nI ((σ.2.2.2 j).1 11))] rfl rfl (List.append_nil _) rfl ?_
              refine k_perm2 (wX K x ad11_ σ us11_) [kI K aT 45 fT, kI K aM 60 fM, kI K aI 60 fI, kI K aW 60 fW, kI K aG 8 fG] List.perm_append_comm ?_
              refine k_aload_n hC 1 dL_same_199 rfl rfl ?_
              refine k_iload hC dL_same_200 rfl ?_
              refine k_bipush hC (nI 6) dL_same_202 rfl ?_
              refine k_iaddN hC dL_same_204 ?_
              refine k_ald hC 0 rfl (by omega) (by decide) dL_same_205 ?_
              refine k_topE (nI ((σ.2.2.2 j).1 11)) q6 ?_
              refine k_icmp_ne hC 257 dL_same_206 (by decide) (fun c9 => absurd rfl c9) (fun _ => ?_)
              refine k_aload_n hC 0 dL_same_209 rfl rfl ?_
              refine k_iload hC dL_same_210 rfl ?_
              refine k_perm2 [kI K aT 45 fT, kI K aM 60 fM, kI K aI 60 fI, kI K aW 60 fW, kI K aG 8 fG] (wX K x ad11_ σ us11_) List.perm_append_comm ?_
              refine k_callXC hC (As := [.int (nI j)]) (cX3_starved_k hst K x ad11_ σ us11_ hσ hU11_ (nI j)) [] (List.append_nil _).symm 0 rfl rfl (kAll5 lkM_L_75 lkI_yX3_starved lkS_yX3_starved lkN_X3 lkC_yX3_starved) 1 (by decide) ⟨(Nat.le_of_ble_eq_true rfl), (Nat.le_of_ble_eq_true rfl)⟩ rfl rfl (Nat.le_of_ble_eq_true rfl) ⟨by show k9 + 4 + 1 ≤ 200; omega, by show n9 + 24 + 6 ≤ 1000; omega⟩ dL_same_212 (fun E q => (kNo (by rw [oGet_in (fun τ => τ.2.1 0) h6 hj]) q).elim) (fun v w h => ?_)
              rw [oGet_in (fun τ => τ.2.1 0) h6 hj] at h
              obtain ⟨-, rfl, ad12_, us12_, rfl, hU12_⟩ := h
              refine k_re (k9 + 5) (n9 + 30) (wX K x ad12_ σ us12_) [.int ((σ.2.2.2 j).2.1 0)] rfl rfl (List.append_nil _) rfl ?_
              refine k_perm2 (wX K x ad12_ σ us12_) [kI K aT 45 fT, kI K aM 60 fM, kI K aI 60 fI, kI K aW 60 fW, kI K aG 8 fG] List.perm_append_comm ?_
              refine k_aload_n hC 1 dL_same_215 rfl rfl ?_
              refine k_iload hC dL_same_216 rfl ?_
              refine k_bipush hC (nI 7) dL_same_218 rfl ?_
              refine k_iaddN hC dL_same_220 ?_
              refine k_ald hC 0 rfl (by omega) (by decide) dL_same_221 ?_
              refine k_topE ((σ.2.2.2 j).2.1 0) q7 ?_
              refine k_icmp_ne hC 257 dL_same_222 (by decide) (fun c9 => absurd rfl c9) (fun _ => ?_)
              refine k_aload_n hC 0 dL_same_225 rfl rfl ?_
              refine k_iload hC dL_same_226 rfl ?_
              refine k_perm2 [kI K aT 45 fT, kI K aM 60 fM, kI K aI 60 fI, kI K aW 60 fW, kI K aG 8 fG] (wX K x ad12_ σ us12_) List.perm_append_comm ?_
              refine k_callXC hC (As := [.int (nI j)]) (cX3_waiting_k hst K x ad12_ σ us12_ hσ hU12_ (nI j)) [] (List.append_nil _).symm 0 rfl rfl (kAll5 lkM_L_78 lkI_yX3_waiting lkS_yX3_waiting lkN_X3 lkC_yX3_waiting) 1 (by decide) ⟨(Nat.le_of_ble_eq_true rfl), (Nat.le_of_ble_eq_true rfl)⟩ rfl rfl (Nat.le_of_ble_eq_true rfl) ⟨by show k9 + 5 + 1 ≤ 200; omega, by show n9 + 30 + 6 ≤ 1000; omega⟩ dL_same_228 (fun E q => (kNo (by rw [oGet_in (fun τ => nI (τ.1 14)) h6 hj]) q).elim) (fun v w h => ?_)
              rw [oGet_in (fun τ => nI (τ.1 14)) h6 hj] at h
              obtain ⟨-, rfl, ad13_, us13_, rfl, hU13_⟩ := h
              refine k_re (k9 + 6) (n9 + 36) (wX K x ad13_ σ us13_) [.int (nI ((σ.2.2.2 j).1 14))] rfl rfl (List.append_nil _) rfl ?_
              refine k_perm2 (wX K x ad13_ σ us13_) [kI K aT 45 fT, kI K aM 60 fM, kI K aI 60 fI, kI K aW 60 fW, kI K aG 8 fG] List.perm_append_comm ?_
              refine k_aload_n hC 1 dL_same_231 rfl rfl ?_
              refine k_iload hC dL_same_232 rfl ?_
              refine k_bipush hC (nI 10) dL_same_234 rfl ?_
              refine k_iaddN hC dL_same_236 ?_
              refine k_ald hC 0 rfl (by omega) (by decide) dL_same_237 ?_
              refine k_topE (nI ((σ.2.2.2 j).1 14)) q10 ?_
              refine k_icmp_ne hC 257 dL_same_238 (by decide) (fun c9 => absurd rfl c9) (fun _ => ?_)
              refine k_aload_n hC 0 dL_same_241 rfl rfl ?_
              refine k_iload hC dL_same_242 rfl ?_
              refine k_perm2 [kI K aT 45 fT, kI K aM 60 fM, kI K aI 60 fI, kI K aW 60 fW, kI K aG 8 fG] (wX K x ad13_ σ us13_) List.perm_append_comm ?_
              refine k_callXC hC (As := [.int (nI j)]) (cX3_travelling_k hst K x ad13_ σ us13_ hσ hU13_ (nI j)) [] (List.append_nil _).symm 0 rfl rfl (kAll5 lkM_L_81 lkI_yX3_travelling lkS_yX3_travelling lkN_X3 lkC_yX3_travelling) 1 (by decide) ⟨(Nat.le_of_ble_eq_true rfl), (Nat.le_of_ble_eq_true rfl)⟩ rfl rfl (Nat.le_of_ble_eq_true rfl) ⟨by show k9 + 6 + 1 ≤ 200; omega, by show n9 + 36 + 6 ≤ 1000; omega⟩ dL_same_244 (fun E q => (kNo (by rw [oGet_in (fun τ => nI (τ.2.2 2).length) h6 hj]) q).elim) (fun v w h => ?_)
              rw [oGet_in (fun τ => nI (τ.2.2 2).length) h6 hj] at h
              obtain ⟨-, rfl, ad14_, us14_, rfl, hU14_⟩ := h
              refine k_re (k9 + 7) (n9 + 42) (wX K x ad14_ σ us14_) [.int (nI (((σ.2.2.2 j).2.2 2).length))] rfl rfl (List.append_nil _) rfl ?_
              refine k_perm2 (wX K x ad14_ σ us14_) [kI K aT 45 fT, kI K aM 60 fM, kI K aI 60 fI, kI K aW 60 fW, kI K aG 8 fG] List.perm_append_comm ?_
              refine k_aload_n hC 1 dL_same_247 rfl rfl ?_
              refine k_iload hC dL_same_248 rfl ?_
              refine k_bipush hC (nI 13) dL_same_250 rfl ?_
              refine k_iaddN hC dL_same_252 ?_
              refine k_ald hC 0 rfl (by omega) (by decide) dL_same_253 ?_
              refine k_topE (nI (((σ.2.2.2 j).2.2 2).length)) q13 ?_
              refine k_icmp_eq hC 259 dL_same_254 (by decide) (fun _ => ?_) (fun c9 => absurd rfl c9)
              refine k_aload_n hC 0 dL_same_259 rfl rfl ?_
              refine k_iload hC dL_same_260 rfl ?_
              refine k_perm2 [kI K aT 45 fT, kI K aM 60 fM, kI K aI 60 fI, kI K aW 60 fW, kI K aG 8 fG] (wX K x ad14_ σ us14_) List.perm_append_comm ?_
              refine k_callXC hC (As := [.int (nI j)]) (cX3_market_k hst K x ad14_ σ us14_ hσ hU14_ (nI j)) [] (List.append_nil _).symm 0 rfl rfl (kAll5 lkM_L_84 lkI_yX3_market lkS_yX3_market lkN_X3 lkC_yX3_market) 1 (by decide) ⟨(Nat.le_of_ble_eq_true rfl), (Nat.le_of_ble_eq_true rfl)⟩ rfl rfl (Nat.le_of_ble_eq_true rfl) ⟨by show k9 + 7 + 1 ≤ 200; omega, by show n9 + 42 + 6 ≤ 1000; omega⟩ dL_same_262 (fun E q => (kNo (by rw [oGet_in (fun τ => nI (mU (τ.2.2 0))) h6 hj]) q).elim) (fun v w h => ?_)
              rw [oGet_in (fun τ => nI (mU (τ.2.2 0))) h6 hj] at h
              obtain ⟨-, rfl, ad15_, us15_, rfl, hU15_⟩ := h
              refine k_re (k9 + 8) (n9 + 48) (wX K x ad15_ σ us15_) [.int (nI (mU ((σ.2.2.2 j).2.2 0)))] rfl rfl (List.append_nil _) rfl ?_
              refine k_perm2 (wX K x ad15_ σ us15_) [kI K aT 45 fT, kI K aM 60 fM, kI K aI 60 fI, kI K aW 60 fW, kI K aG 8 fG] List.perm_append_comm ?_
              refine k_aload_n hC 2 dL_same_265 rfl rfl ?_
              refine k_iload hC dL_same_266 rfl ?_
              refine k_aload_n hC 1 dL_same_268 rfl rfl ?_
              refine k_iload hC dL_same_269 rfl ?_
              refine k_bipush hC (nI 11) dL_same_271 rfl ?_
              refine k_iaddN hC dL_same_273 ?_
              refine k_ald hC 0 rfl (by omega) (by decide) dL_same_274 ?_
              refine k_topE (nI (((σ.2.2.2 j).2.2 0).length)) q11 ?_
              refine k_perm [1, 0, 2, 3, 4] [kI K aM 60 fM, kI K aT 45 fT, kI K aI 60 fI, kI K aW 60 fW, kI K aG 8 fG] rfl rfl ?_
              refine k_callS hC (As := [.ref aM, .int (nI j), .int (nI (((σ.2.2.2 j).2.2 0).length))]) (cL_units_k l K aM fM j ((σ.2.2.2 j).2.2 0) (by omega) (by omega) hS.2.1 (mKok_ok hi.2.2.2.1)) [kI K aT 45 fT, kI K aI 60 fI, kI K aW 60 fW, kI K aG 8 fG] rfl (kAll4 lkM_L_20 lkT_yL_units lkN_L lkC_yL_units) 3 (by decide) ⟨(Nat.le_of_ble_eq_true rfl), (Nat.le_of_ble_eq_true rfl)⟩ rfl rfl (Nat.le_of_ble_eq_true rfl) ⟨by show k9 + 8 + 0 ≤ 200; omega, by show n9 + 48 + 0 ≤ 1000; omega⟩ dL_same_275 (fun v w h => ?_)
              obtain ⟨rfl, rfl⟩ := h
              refine k_re (k9 + 8) (n9 + 48) [kI K aM 60 fM, kI K aT 45 fT, kI K aI 60 fI, kI K aW 60 fW, kI K aG 8 fG] [.int (nI (mU ((σ.2.2.2 j).2.2 0))), .int (nI (mU ((σ.2.2.2 j).2.2 0)))] rfl rfl rfl rfl ?_
              refine k_perm [1, 0, 2, 3, 4] [kI K aT 45 fT, kI K aM 60 fM, kI K aI 60 fI, kI K aW 60 fW, kI K aG 8 fG] rfl rfl ?_
              refine k_icmp_ne hC 359 dL_same_278 (by decide) (fun c9 => absurd rfl c9) (fun _ => ?_)
              refine k_aload_n hC 0 dL_same_281 rfl rfl ?_
              refine k_iload hC dL_same_282 rfl ?_
              refine k_perm2 [kI K aT 45 fT, kI K aM 60 fM, kI K aI 60 fI, kI K aW 60 fW, kI K aG 8 fG] (wX K x ad15_ σ us15_) List.perm_append_comm ?_
              refine k_callXC hC (As := [.int (nI j)]) (cX3_inbox_k hst K x ad15_ σ us15_ hσ hU15_ (nI j)) [] (List.append_nil _).symm 0 rfl rfl (kAll5 lkM_L_87 lkI_yX3_inbox lkS_yX3_inbox lkN_X3 lkC_yX3_inbox) 1 (by decide) ⟨(Nat.le_of_ble_eq_true rfl), (Nat.le_of_ble_eq_true rfl)⟩ rfl rfl (Nat.le_of_ble_eq_true rfl) ⟨by show k9 + 8 + 1 ≤ 200; omega, by show n9 + 48 + 6 ≤ 1000; omega⟩ dL_same_284 (fun E q => (kNo (by rw [oGet_in (fun τ => nI (mU (τ.2.2 1))) h6 hj]) q).elim) (fun v w h => ?_)
              rw [oGet_in (fun τ => nI (mU (τ.2.2 1))) h6 hj] at h
              obtain ⟨-, rfl, ad16_, us16_, rfl, hU16_⟩ := h
              refine k_re (k9 + 9) (n9 + 54) (wX K x ad16_ σ us16_) [.int (nI (mU ((σ.2.2.2 j).2.2 1)))] rfl rfl (List.append_nil _) rfl ?_
              refine k_perm2 (wX K x ad16_ σ us16_) [kI K aT 45 fT, kI K aM 60 fM, kI K aI 60 fI, kI K aW 60 fW, kI K aG 8 fG] List.perm_append_comm ?_
              refine k_aload_n hC 3 dL_same_287 rfl rfl ?_
              refine k_iload hC dL_same_288 rfl ?_
              refine k_aload_n hC 1 dL_same_290 rfl rfl ?_
              refine k_iload hC dL_same_291 rfl ?_
              refine k_bipush hC (nI 12) dL_same_293 rfl ?_
              refine k_iaddN hC dL_same_295 ?_
              refine k_ald hC 0 rfl (by omega) (by decide) dL_same_296 ?_
              refine k_topE (nI (((σ.2.2.2 j).2.2 1).length)) q12 ?_
              refine k_perm [2, 0, 1, 3, 4] [kI K aI 60 fI, kI K aT 45 fT, kI K aM 60 fM, kI K aW 60 fW, kI K aG 8 fG] rfl rfl ?_
              refine k_callS hC (As := [.ref aI, .int (nI j), .int (nI (((σ.2.2.2 j).2.2 1).length))]) (cL_units_k l K aI fI j ((σ.2.2.2 j).2.2 1) (by omega) (by omega) hS.2.2.1 (mKok_ok hi.2.2.2.2.1)) [kI K aT 45 fT, kI K aM 60 fM, kI K aW 60 fW, kI K aG 8 fG] rfl (kAll4 lkM_L_20 lkT_yL_units lkN_L lkC_yL_units) 3 (by decide) ⟨(Nat.le_of_ble_eq_true rfl), (Nat.le_of_ble_eq_true rfl)⟩ rfl rfl (Nat.le_of_ble_eq_true rfl) ⟨by show k9 + 9 + 0 ≤ 200; omega, by show n9 + 54 + 0 ≤ 1000; omega⟩ dL_same_297 (fun v w h => ?_)
              obtain ⟨rfl, rfl⟩ := h
              refine k_re (k9 + 9) (n9 + 54) [kI K aI 60 fI, kI K aT 45 fT, kI K aM 60 fM, kI K aW 60 fW, kI K aG 8 fG] [.int (nI (mU ((σ.2.2.2 j).2.2 1))), .int (nI (mU ((σ.2.2.2 j).2.2 1)))] rfl rfl rfl rfl ?_
              refine k_perm [1, 2, 0, 3, 4] [kI K aT 45 fT, kI K aM 60 fM, kI K aI 60 fI, kI K aW 60 fW, kI K aG 8 fG] rfl rfl ?_
              refine k_icmp_ne hC 359 dL_same_300 (by decide) (fun c9 => absurd rfl c9) (fun _ => ?_)
              refine k_aload_n hC 0 dL_same_303 rfl rfl ?_
              refine k_iload hC dL_same_304 rfl ?_
              refine k_perm2 [kI K aT 45 fT, kI K aM 60 fM, kI K aI 60 fI, kI K aW 60 fW, kI K aG 8 fG] (wX K x ad16_ σ us16_) List.perm_append_comm ?_
              refine k_callXC hC (As := [.int (nI j)]) (cX3_firstUnits_k hst K x ad16_ σ us16_ hσ hU16_ (nI j)) [] (List.append_nil _).symm 0 rfl rfl (kAll5 lkM_L_90 lkI_yX3_firstUnits lkS_yX3_firstUnits lkN_X3 lkC_yX3_firstUnits) 1 (by decide) ⟨(Nat.le_of_ble_eq_true rfl), (Nat.le_of_ble_eq_true rfl)⟩ rfl rfl (Nat.le_of_ble_eq_true rfl) ⟨by show k9 + 9 + 1 ≤ 200; omega, by show n9 + 54 + 6 ≤ 1000; omega⟩ dL_same_306 (fun E q => (kNo (by rw [oGet_in (fun τ => nI (mg (τ.2.2 0) 0).1) h6 hj]) q).elim) (fun v w h => ?_)
              rw [oGet_in (fun τ => nI (mg (τ.2.2 0) 0).1) h6 hj] at h
              obtain ⟨-, rfl, ad17_, us17_, rfl, hU17_⟩ := h
              refine k_re (k9 + 10) (n9 + 60) (wX K x ad17_ σ us17_) [.int (nI ((mg ((σ.2.2.2 j).2.2 0) 0).1))] rfl rfl (List.append_nil _) rfl ?_
              refine k_perm2 (wX K x ad17_ σ us17_) [kI K aT 45 fT, kI K aM 60 fM, kI K aI 60 fI, kI K aW 60 fW, kI K aG 8 fG] List.perm_append_comm ?_
              refine k_aload_n hC 1 dL_same_309 rfl rfl ?_
              refine k_iload hC dL_same_310 rfl ?_
              refine k_bipush hC (nI 11) dL_same_312 rfl ?_
              refine k_iaddN hC dL_same_314 ?_
              refine k_ald hC 0 rfl (by omega) (by decide) dL_same_315 ?_
              refine k_topE (nI (((σ.2.2.2 j).2.2 0).length)) q11 ?_
              have j333 : kW p l e rmL_same s m args below meth cd K A 14 Q (k9 + 10) (n9 + 60) ((wX K x ad17_ σ us17_)) [kI K aT 45 fT, kI K aM 60 fM, kI K aI 60 fI, kI K aW 60 fW, kI K aG 8 fG] [(0, .ref x), (1, .ref aT), (2, .ref aM), (3, .ref aI), (4, .ref aW), (5, .ref aG), (6, .int (nI sm)), (7, .int (nI j)), (8, .int (nI (15 * j))), (9, .int (nI (mCs ((σ.2.2.2 j).2.2 0)))), (10, .int (nI (mBehind σ j))), (11, .int (nI ov)), (12, .int (nI nd))] 333 [.int (nI ((mg ((σ.2.2.2 j).2.2 0) 0).1)), .int (nI ((mg ((σ.2.2.2 j).2.2 0) 0).1))] := by
                refine k_icmp_ne hC 359 dL_same_333 (by decide) (fun c9 => absurd rfl c9) (fun _ => ?_)
                refine k_aload_n hC 0 dL_same_336 rfl rfl ?_
                refine k_iload hC dL_same_337 rfl ?_
                refine k_bipush hC (nI 20) dL_same_339 rfl ?_
                have hnd3 := qNeed hσ hj hd hd20 (nd := nd) (by rw [hnd, hqt, hmd, hov])
                refine k_perm2 [kI K aT 45 fT, kI K aM 60 fM, kI K aI 60 fI, kI K aW 60 fW, kI K aG 8 fG] (wX K x ad17_ σ us17_) List.perm_append_comm ?_
                refine k_callXC hC (As := [.int (nI j), .int (nI 20)]) (cX3_needed_k hst K x ad17_ σ us17_ hσ hU17_ (nI j) (nI 20)) [] (List.append_nil _).symm 0 rfl rfl (kAll5 lkM_L_93 lkI_yX3_needed lkS_yX3_needed lkN_X3 lkC_yX3_needed) 2 (by decide) ⟨(Nat.le_of_ble_eq_true rfl), (Nat.le_of_ble_eq_true rfl)⟩ rfl rfl (Nat.le_of_ble_eq_true rfl) ⟨by show k9 + 10 + 2 ≤ 200; omega, by show n9 + 60 + 12 ≤ 1000; omega⟩ dL_same_341 (fun E q => (kNo (by rw [hnd3]) q).elim) (fun v w h => ?_)
                rw [hnd3] at h
                obtain ⟨-, rfl, ad18_, us18_, rfl, hU18_⟩ := h
                refine k_re (k9 + 12) (n9 + 72) (wX K x ad18_ σ us18_) [.int (nI (if nd < 1 then 1 else nd))] rfl rfl (List.append_nil _) rfl ?_
                refine k_perm2 (wX K x ad18_ σ us18_) [kI K aT 45 fT, kI K aM 60 fM, kI K aI 60 fI, kI K aW 60 fW, kI K aG 8 fG] List.perm_append_comm ?_
                refine k_iload hC dL_same_344 rfl ?_
                refine k_iconst hC (nI 1) dL_same_346 rfl ?_
                have j356 : kW p l e rmL_same s m args below meth cd K A 14 Q (k9 + 12) (n9 + 72) ((wX K x ad18_ σ us18_)) [kI K aT 45 fT, kI K aM 60 fM, kI K aI 60 fI, kI K aW 60 fW, kI K aG 8 fG] [(0, .ref x), (1, .ref aT), (2, .ref aM), (3, .ref aI), (4, .ref aW), (5, .ref aG), (6, .int (nI sm)), (7, .int (nI j)), (8, .int (nI (15 * j))), (9, .int (nI (mCs ((σ.2.2.2 j).2.2 0)))), (10, .int (nI (mBehind σ j))), (11, .int (nI ov)), (12, .int (nI nd))] 356 [.int (nI (if nd < 1 then 1 else nd)), .int (nI (if nd < 1 then 1 else nd))] := by
                  refine k_icmp_eq hC 361 dL_same_356 (by decide) (fun _ => ?_) (fun c9 => absurd rfl c9)
                  refine k_aload_n hC 1 dL_same_361 rfl rfl ?_
                  refine k_iload hC dL_same_362 rfl ?_
                  refine k_ald hC 0 rfl (by omega) (by decide) dL_same_364 ?_
                  refine k_topE (nI ((σ.2.2.2 j).1 8)) q0 ?_
                  refine k_aload_n hC 1 dL_same_365 rfl rfl ?_
                  refine k_iload hC dL_same_366 rfl ?_
                  refine k_iconst hC (nI 4) dL_same_368 rfl ?_
                  refine k_iaddN hC dL_same_369 ?_
                  refine k_ald hC 0 rfl (by omega) (by decide) dL_same_370 ?_
                  refine k_topE (nI ((σ.2.2.2 j).1 9)) q4 ?_
                  refine k_iload hC dL_same_371 rfl ?_
                  refine k_iaddN hC dL_same_373 ?_
                  refine k_aload_n hC 1 dL_same_374 rfl rfl ?_
                  refine k_iload hC dL_same_375 rfl ?_
                  refine k_iconst hC (nI 5) dL_same_377 rfl ?_
                  refine k_iaddN hC dL_same_378 ?_
                  refine k_ald hC 0 rfl (by omega) (by decide) dL_same_379 ?_
                  refine k_topE (nI ((σ.2.2.2 j).1 10)) q5 ?_
                  have hcard := hi.2.1
                  have j394 : kW p l e rmL_same s m args below meth cd K A 14 Q (k9 + 12) (n9 + 72) ((wX K x ad18_ σ us18_)) [kI K aT 45 fT, kI K aM 60 fM, kI K aI 60 fI, kI K aW 60 fW, kI K aG 8 fG] [(0, .ref x), (1, .ref aT), (2, .ref aM), (3, .ref aI), (4, .ref aW), (5, .ref aG), (6, .int (nI sm)), (7, .int (nI j)), (8, .int (nI (15 * j))), (9, .int (nI (mCs ((σ.2.2.2 j).2.2 0)))), (10, .int (nI (mBehind σ j))), (11, .int (nI ov)), (12, .int (nI nd))] 394 [] := by
                    refine k_iload hC dL_same_394 rfl ?_
                    refine k_aload_n hC 0 dL_same_396 rfl rfl ?_
                    refine k_iload hC dL_same_397 rfl ?_
                    refine k_perm2 [kI K aT 45 fT, kI K aM 60 fM, kI K aI 60 fI, kI K aW 60 fW, kI K aG 8 fG] (wX K x ad18_ σ us18_) List.perm_append_comm ?_
                    refine k_callXC hC (As := [.int (nI j)]) (cX3_market_k hst K x ad18_ σ us18_ hσ hU18_ (nI j)) [] (List.append_nil _).symm 0 rfl rfl (kAll5 lkM_L_84 lkI_yX3_market lkS_yX3_market lkN_X3 lkC_yX3_market) 1 (by decide) ⟨(Nat.le_of_ble_eq_true rfl), (Nat.le_of_ble_eq_true rfl)⟩ rfl rfl (Nat.le_of_ble_eq_true rfl) ⟨by show k9 + 12 + 1 ≤ 200; omega, by show n9 + 72 + 6 ≤ 1000; omega⟩ dL_same_399 (fun E q => (kNo (by rw [oGet_in (fun τ => nI (mU (τ.2.2 0))) h6 hj]) q).elim) (fun v w h => ?_)
                    rw [oGet_in (fun τ => nI (mU (τ.2.2 0))) h6 hj] at h
                    obtain ⟨-, rfl, ad19_, us19_, rfl, hU19_⟩ := h
                    refine k_re (k9 + 13) (n9 + 78) (wX K x ad19_ σ us19_) [.int (nI (mU ((σ.2.2.2 j).2.2 0))), .int (nI sm)] rfl rfl (List.append_nil _) rfl ?_
                    refine k_perm2 (wX K x ad19_ σ us19_) [kI K aT 45 fT, kI K aM 60 fM, kI K aI 60 fI, kI K aW 60 fW, kI K aG 8 fG] List.perm_append_comm ?_
                    refine k_aload_n hC 0 dL_same_402 rfl rfl ?_
                    refine k_iload hC dL_same_403 rfl ?_
                    refine k_perm2 [kI K aT 45 fT, kI K aM 60 fM, kI K aI 60 fI, kI K aW 60 fW, kI K aG 8 fG] (wX K x ad19_ σ us19_) List.perm_append_comm ?_
                    refine k_callXC hC (As := [.int (nI j)]) (cX3_inbox_k hst K x ad19_ σ us19_ hσ hU19_ (nI j)) [] (List.append_nil _).symm 0 rfl rfl (kAll5 lkM_L_87 lkI_yX3_inbox lkS_yX3_inbox lkN_X3 lkC_yX3_inbox) 1 (by decide) ⟨(Nat.le_of_ble_eq_true rfl), (Nat.le_of_ble_eq_true rfl)⟩ rfl rfl (Nat.le_of_ble_eq_true rfl) ⟨by show k9 + 13 + 1 ≤ 200; omega, by show n9 + 78 + 6 ≤ 1000; omega⟩ dL_same_405 (fun E q => (kNo (by rw [oGet_in (fun τ => nI (mU (τ.2.2 1))) h6 hj]) q).elim) (fun v w h => ?_)
                    rw [oGet_in (fun τ => nI (mU (τ.2.2 1))) h6 hj] at h
                    obtain ⟨-, rfl, ad20_, us20_, rfl, hU20_⟩ := h
                    refine k_re (k9 + 14) (n9 + 84) (wX K x ad20_ σ us20_) [.int (nI (mU ((σ.2.2.2 j).2.2 1))), .int (nI (mU ((σ.2.2.2 j).2.2 0))), .int (nI sm)] rfl rfl (List.append_nil _) rfl ?_
                    refine k_perm2 (wX K x ad20_ σ us20_) [kI K aT 45 fT, kI K aM 60 fM, kI K aI 60 fI, kI K aW 60 fW, kI K aG 8 fG] List.perm_append_comm ?_
                    refine k_iaddN hC dL_same_408 ?_
                    refine k_aload hC dL_same_409 rfl ?_
                    refine k_iload hC dL_same_411 rfl ?_
                    refine k_aload_n hC 1 dL_same_413 rfl rfl ?_
                    refine k_iload hC dL_same_414 rfl ?_
                    refine k_bipush hC (nI 13) dL_same_416 rfl ?_
                    refine k_iaddN hC dL_same_418 ?_
                    refine k_ald hC 0 rfl (by omega) (by decide) dL_same_419 ?_
                    refine k_topE (nI (((σ.2.2.2 j).2.2 2).length)) q13 ?_
                    refine k_perm [3, 0, 1, 2, 4] [kI K aW 60 fW, kI K aT 45 fT, kI K aM 60 fM, kI K aI 60 fI, kI K aG 8 fG] rfl rfl ?_
                    refine k_callS hC (As := [.ref aW, .int (nI j), .int (nI (((σ.2.2.2 j).2.2 2).length))]) (cL_units_k l K aW fW j ((σ.2.2.2 j).2.2 2) (by omega) (by omega) hS.2.2.2 (fun q hq => by have := hi.2.2.2.2.2.1 q hq; omega)) [kI K aT 45 fT, kI K aM 60 fM, kI K aI 60 fI, kI K aG 8 fG] rfl (kAll4 lkM_L_20 lkT_yL_units lkN_L lkC_yL_units) 3 (by decide) ⟨(Nat.le_of_ble_eq_true rfl), (Nat.le_of_ble_eq_true rfl)⟩ rfl rfl (Nat.le_of_ble_eq_true rfl) ⟨by show k9 + 14 + 0 ≤ 200; omega, by show n9 + 84 + 0 ≤ 1000; omega⟩ dL_same_420 (fun v w h => ?_)
                    obtain ⟨rfl, rfl⟩ := h
                    refine k_re (k9 + 14) (n9 + 84) [kI K aW 60 fW, kI K aT 45 fT, kI K aM 60 fM, kI K aI 60 fI, kI K aG 8 fG] [.int (nI (mU ((σ.2.2.2 j).2.2 2))), .int (nI (mU ((σ.2.2.2 j).2.2 0) + mU ((σ.2.2.2 j).2.2 1))), .int (nI sm)] rfl rfl rfl rfl ?_
                    refine k_perm [1, 2, 3, 0, 4] [kI K aT 45 fT, kI K aM 60 fM, kI K aI 60 fI, kI K aW 60 fW, kI K aG 8 fG] rfl rfl ?_
                    refine k_iaddN hC dL_same_423 ?_
                    refine k_aload_n hC 1 dL_same_424 rfl rfl ?_
                    refine k_iload hC dL_same_425 rfl ?_
                    refine k_iconst hC (nI 5) dL_same_427 rfl ?_
                    refine k_iaddN hC dL_same_428 ?_
                    refine k_ald hC 0 rfl (by omega) (by decide) dL_same_429 ?_
                    refine k_topE (nI ((σ.2.2.2 j).1 10)) q5 ?_
                    refine k_if_leN hC 442 dL_same_430 (by decide) (by omega) (fun c8 => ?_) (fun c8 => ?_)
                    · refine k_iconst hC (nI 0) dL_same_442 rfl ?_
                      refine k_iaddN hC dL_same_443 ?_
                      refine k_iaddN hC dL_same_444 ?_
                      refine k_istore hC dL_same_445 (by decide) rfl [(0, .ref x), (1, .ref aT), (2, .ref aM), (3, .ref aI), (4, .ref aW), (5, .ref aG), (6, .int (nI (sm + (mU ((σ.2.2.2 j).2.2 0) + mU ((σ.2.2.2 j).2.2 1) + mU ((σ.2.2.2 j).2.2 2) + 0)))), (7, .int (nI j)), (8, .int (nI (15 * j))), (9, .int (nI (mCs ((σ.2.2.2 j).2.2 0)))), (10, .int (nI (mBehind σ j))), (11, .int (nI ov)), (12, .int (nI nd))] rfl ?_
                      refine k_iinc hC dL_same_447 (by decide) rfl rfl (nI (j + 1)) (kinc j 1 rfl) [(0, .ref x), (1, .ref aT), (2, .ref aM), (3, .ref aI), (4, .ref aW), (5, .ref aG), (6, .int (nI (sm + (mU ((σ.2.2.2 j).2.2 0) + mU ((σ.2.2.2 j).2.2 1) + mU ((σ.2.2.2 j).2.2 2) + 0)))), (7, .int (nI (j + 1))), (8, .int (nI (15 * j))), (9, .int (nI (mCs ((σ.2.2.2 j).2.2 0)))), (10, .int (nI (mBehind σ j))), (11, .int (nI ov)), (12, .int (nI nd))] rfl ?_
                      refine k_goto hC 6 dL_same_450 (by decide) ?_
                      refine k_lsub [0, 1, 2, 3, 4, 5, 6, 7] [(0, .ref x), (1, .ref aT), (2, .ref aM), (3, .ref aI), (4, .ref aW), (5, .ref aG), (6, .int (nI (sm + (mU ((σ.2.2.2 j).2.2 0) + mU ((σ.2.2.2 j).2.2 1) + mU ((σ.2.2.2 j).2.2 2) + 0)))), (7, .int (nI (j + 1)))] rfl ?_
                      exact ih (j + 1) _ ad20_ us20_ _ _ (by omega) hj (by rw [hsm]; show _ = mSum _ j + (mU ((σ.2.2.2 j).2.2 0) + mU ((σ.2.2.2 j).2.2 1) + mU ((σ.2.2.2 j).2.2 2) + (if (σ.2.2.2 j).1 10 = 0 then 0 else (σ.2.2.2 j).1 2)); rw [if_pos c8]) hU20_ (by omega) (by omega)
                    · refine k_aload_n hC 1 dL_same_433 rfl rfl ?_
                      refine k_iload hC dL_same_434 rfl ?_
                      refine k_iconst hC (nI 1) dL_same_436 rfl ?_
                      refine k_iaddN hC dL_same_437 ?_
                      refine k_ald hC 0 rfl (by omega) (by decide) dL_same_438 ?_
                      refine k_topE (nI ((σ.2.2.2 j).1 2)) q1 ?_
                      refine k_goto hC 443 dL_same_439 (by decide) ?_
                      refine k_iaddN hC dL_same_443 ?_
                      refine k_iaddN hC dL_same_444 ?_
                      refine k_istore hC dL_same_445 (by decide) rfl [(0, .ref x), (1, .ref aT), (2, .ref aM), (3, .ref aI), (4, .ref aW), (5, .ref aG), (6, .int (nI (sm + (mU ((σ.2.2.2 j).2.2 0) + mU ((σ.2.2.2 j).2.2 1) + mU ((σ.2.2.2 j).2.2 2) + (σ.2.2.2 j).1 2)))), (7, .int (nI j)), (8, .int (nI (15 * j))), (9, .int (nI (mCs ((σ.2.2.2 j).2.2 0)))), (10, .int (nI (mBehind σ j))), (11, .int (nI ov)), (12, .int (nI nd))] rfl ?_
                      refine k_iinc hC dL_same_447 (by decide) rfl rfl (nI (j + 1)) (kinc j 1 rfl) [(0, .ref x), (1, .ref aT), (2, .ref aM), (3, .ref aI), (4, .ref aW), (5, .ref aG), (6, .int (nI (sm + (mU ((σ.2.2.2 j).2.2 0) + mU ((σ.2.2.2 j).2.2 1) + mU ((σ.2.2.2 j).2.2 2) + (σ.2.2.2 j).1 2)))), (7, .int (nI (j + 1))), (8, .int (nI (15 * j))), (9, .int (nI (mCs ((σ.2.2.2 j).2.2 0)))), (10, .int (nI (mBehind σ j))), (11, .int (nI ov)), (12, .int (nI nd))] rfl ?_
                      refine k_goto hC 6 dL_same_450 (by decide) ?_
                      refine k_lsub [0, 1, 2, 3, 4, 5, 6, 7] [(0, .ref x), (1, .ref aT), (2, .ref aM), (3, .ref aI), (4, .ref aW), (5, .ref aG), (6, .int (nI (sm + (mU ((σ.2.2.2 j).2.2 0) + mU ((σ.2.2.2 j).2.2 1) + mU ((σ.2.2.2 j).2.2 2) + (σ.2.2.2 j).1 2)))), (7, .int (nI (j + 1)))] rfl ?_
                      exact ih (j + 1) _ ad20_ us20_ _ _ (by omega) hj (by rw [hsm]; show _ = mSum _ j + (mU ((σ.2.2.2 j).2.2 0) + mU ((σ.2.2.2 j).2.2 1) + mU ((σ.2.2.2 j).2.2 2) + (if (σ.2.2.2 j).1 10 = 0 then 0 else (σ.2.2.2 j).1 2)); rw [if_neg c8]) hU20_ (by omega) (by omega)
                  refine k_if_leN hC 387 dL_same_380 (by decide) (by omega) (fun c7 => ?_) (fun c7 => ?_)
                  · refine k_iconst hC (nI 0) dL_same_387 rfl ?_
                    refine k_iaddN hC dL_same_388 ?_
                    refine k_topE (nI ((σ.2.2.2 j).1 8)) (congrArg nI (by first | (rw [if_pos (by omega)] at hcard; omega) | (rw [if_neg (by omega)] at hcard; omega))) ?_
                    refine k_icmp_eq hC 394 dL_same_389 (by decide) (fun _ => ?_) (fun c9 => absurd rfl c9)
                    exact j394
                  · refine k_iconst hC (nI 1) dL_same_383 rfl ?_
                    refine k_goto hC 388 dL_same_384 (by decide) ?_
                    refine k_iaddN hC dL_same_388 ?_
                    refine k_topE (nI ((σ.2.2.2 j).1 8)) (congrArg nI (by first | (rw [if_pos (by omega)] at hcard; omega) | (rw [if_neg (by omega)] at hcard; omega))) ?_
                    refine k_icmp_eq hC 394 dL_same_389 (by decide) (fun _ => ?_) (fun c9 => absurd rfl c9)
                    exact j394
                refine k_icmp_geN hC 354 dL_same_347 (by decide) (by omega) (by omega) (fun c6 => ?_) (fun c6 => ?_)
                · refine k_iload hC dL_same_354 rfl ?_
                  refine k_topE (nI (if nd < 1 then 1 else nd)) (by rw [if_neg (by omega)]) ?_
                  exact j356
                · refine k_iconst hC (nI 1) dL_same_350 rfl ?_
                  refine k_topE (nI (if nd < 1 then 1 else nd)) (by rw [if_pos (by omega)]) ?_
                  refine k_goto hC 356 dL_same_351 (by decide) ?_
                  exact j356
              refine k_if_neN hC 323 dL_same_316 (by decide) (by omega) (fun c5 => ?_) (fun c5 => ?_)
              · have hL0 : 0 < ((σ.2.2.2 j).2.2 0).length := by omega
                have ex := hS.2.1 0 hL0
                have hx9 := mOk_1 hi.2.2.2.1 (mg_mem hL0)
                have hqv : qv (mg ((σ.2.2.2 j).2.2 0) 0) = 100 * (mg ((σ.2.2.2 j).2.2 0) 0).2 + (mg ((σ.2.2.2 j).2.2 0) 0).1 := rfl
                refine k_aload_n hC 2 dL_same_323 rfl rfl ?_
                refine k_bipush hC (nI 20) dL_same_324 rfl ?_
                refine k_iload hC dL_same_326 rfl ?_
                refine k_imulN hC dL_same_328 ?_
                refine k_ald hC 1 rfl (by omega) (by decide) dL_same_329 ?_
                refine k_topE (nI (qv (mg ((σ.2.2.2 j).2.2 0) 0))) ex ?_
                refine k_bipush hC (nI 100) dL_same_330 rfl ?_
                refine k_iremN hC dL_same_332 (by omega) (by omega) (by omega) ?_
                refine k_topE (nI ((mg ((σ.2.2.2 j).2.2 0) 0).1)) (congrArg nI (by omega)) ?_
                exact j333
              · have e5 : ((σ.2.2.2 j).2.2 0) = [] := List.eq_nil_of_length_eq_zero c5
                refine k_iconst hC (nI 0) dL_same_319 rfl ?_
                refine k_topE (nI ((mg ((σ.2.2.2 j).2.2 0) 0).1)) (by rw [e5]; rfl) ?_
                refine k_goto hC 333 dL_same_320 (by decide) ?_
                exact j333
            have sumc : ∀ (n i at9 : Nat), n + i = ((σ.2.2.2 j).2.2 0).length + 1 → i ≤ ((σ.2.2.2 j).2.2 0).length → at9 = mCs (((σ.2.2.2 j).2.2 0).take i) → kW p l e rmL_same s m args below meth cd K A 14 Q k9 n9 ((wX K x ad7 σ us7)) [kI K aT 45 fT, kI K aM 60 fM, kI K aI 60 fI, kI K aW 60 fW, kI K aG 8 fG] [(0, .ref x), (1, .ref aT), (2, .ref aM), (3, .ref aI), (4, .ref aW), (5, .ref aG), (6, .int (nI sm)), (7, .int (nI j)), (8, .int (nI (15 * j))), (9, .int (nI at9)), (10, .int (nI (mBehind σ j))), (11, .int (nI ov)), (12, .int (nI nd)), (13, .int (nI i))] 116 [] := by
              intro n
              induction n with
              | zero => intro i at9 e1 e2; exact absurd e1 (by omega)
              | succ n ih7 =>
                intro i at9 e1 e2 e3
                refine k_iload hC dL_same_116 rfl ?_
                refine k_aload_n hC 1 dL_same_118 rfl rfl ?_
                refine k_iload hC dL_same_119 rfl ?_
                refine k_bipush hC (nI 11) dL_same_121 rfl ?_
                refine k_iaddN hC dL_same_123 ?_
                refine k_ald hC 0 rfl (by omega) (by decide) dL_same_124 ?_
                refine k_topE (nI (((σ.2.2.2 j).2.2 0).length)) q11 ?_
                refine k_icmp_geN hC 152 dL_same_125 (by decide) (by omega) (by omega) (fun c3 => ?_) (fun c3 => ?_)
                · refine k_lsub [0, 1, 2, 3, 4, 5, 6, 7, 8, 9, 10, 11, 12] [(0, .ref x), (1, .ref aT), (2, .ref aM), (3, .ref aI), (4, .ref aW), (5, .ref aG), (6, .int (nI sm)), (7, .int (nI j)), (8, .int (nI (15 * j))), (9, .int (nI at9)), (10, .int (nI (mBehind σ j))), (11, .int (nI ov)), (12, .int (nI nd))] rfl ?_
                  refine k_lE (show _ = [(0, .ref x), (1, .ref aT), (2, .ref aM), (3, .ref aI), (4, .ref aW), (5, .ref aG), (6, .int (nI sm)), (7, .int (nI j)), (8, .int (nI (15 * j))), (9, .int (nI (mCs ((σ.2.2.2 j).2.2 0)))), (10, .int (nI (mBehind σ j))), (11, .int (nI ov)), (12, .int (nI nd))] by rw [e3, show i = ((σ.2.2.2 j).2.2 0).length by omega, List.take_length]) ?_
                  exact j152
                · have hi9 : i < ((σ.2.2.2 j).2.2 0).length := by omega
                  have ex := hS.2.1 i hi9
                  have hx9 := mOk_1 hi.2.2.2.1 (mg_mem hi9)
                  have hqv : qv (mg ((σ.2.2.2 j).2.2 0) i) = 100 * (mg ((σ.2.2.2 j).2.2 0) i).2 + (mg ((σ.2.2.2 j).2.2 0) i).1 := rfl
                  refine k_iload hC dL_same_128 rfl ?_
                  refine k_aload_n hC 2 dL_same_130 rfl rfl ?_
                  refine k_bipush hC (nI 20) dL_same_131 rfl ?_
                  refine k_iload hC dL_same_133 rfl ?_
                  refine k_imulN hC dL_same_135 ?_
                  refine k_iload hC dL_same_136 rfl ?_
                  refine k_iaddN hC dL_same_138 ?_
                  refine k_ald hC 1 rfl (by omega) (by decide) dL_same_139 ?_
                  refine k_topE (nI (qv (mg ((σ.2.2.2 j).2.2 0) i))) ex ?_
                  refine k_bipush hC (nI 100) dL_same_140 rfl ?_
                  refine k_idivN hC dL_same_142 (by omega) (by omega) (by omega) ?_
                  refine k_topE (nI ((mg ((σ.2.2.2 j).2.2 0) i).2)) (congrArg nI (by omega)) ?_
                  refine k_iaddN hC dL_same_143 ?_
                  refine k_istore hC dL_same_144 (by decide) rfl [(0, .ref x), (1, .ref aT), (2, .ref aM), (3, .ref aI), (4, .ref aW), (5, .ref aG), (6, .int (nI sm)), (7, .int (nI j)), (8, .int (nI (15 * j))), (9, .int (nI (at9 + (mg ((σ.2.2.2 j).2.2 0) i).2))), (10, .int (nI (mBehind σ j))), (11, .int (nI ov)), (12, .int (nI nd)), (13, .int (nI i))] rfl ?_
                  refine k_iinc hC dL_same_146 (by decide) rfl rfl (nI (i + 1)) (kinc i 1 rfl) [(0, .ref x), (1, .ref aT), (2, .ref aM), (3, .ref aI), (4, .ref aW), (5, .ref aG), (6, .int (nI sm)), (7, .int (nI j)), (8, .int (nI (15 * j))), (9, .int (nI (at9 + (mg ((σ.2.2.2 j).2.2 0) i).2))), (10, .int (nI (mBehind σ j))), (11, .int (nI ov)), (12, .int (nI nd)), (13, .int (nI (i + 1)))] rfl ?_
                  refine k_goto hC 116 dL_same_149 (by decide) ?_
                  exact ih7 (i + 1) _ (by omega) (by omega) (by rw [mCs_take hi9, e3])
            exact sumc (((σ.2.2.2 j).2.2 0).length + 1) 0 0 (by omega) (by omega) rfl
          refine k_if_leN hC 109 dL_same_102 (by decide) (by omega) (fun c4 => ?_) (fun c4 => ?_)
          · refine k_iconst hC (nI 0) dL_same_109 rfl ?_
            refine k_topE (nI (if md = 0 then 0 else 1)) (by rw [if_pos c4]) ?_
            exact j110
          · refine k_iconst hC (nI 1) dL_same_105 rfl ?_
            refine k_topE (nI (if md = 0 then 0 else 1)) (by rw [if_neg c4]) ?_
            refine k_goto hC 110 dL_same_106 (by decide) ?_
            exact j110
        refine k_icmp_geN hC 49 dL_same_33 (by decide) (by omega) (by omega) (fun c2 => ?_) (fun c2 => ?_)
        · refine k_iconst hC (nI 0) dL_same_49 rfl ?_
          refine k_topE (nI (mBehind σ j)) (by unfold mBehind; rw [if_neg (by omega)]) ?_
          exact j50
        · have hj1 : j + 1 < σ.1 := by omega
          obtain ⟨u0, u1, u2, u3, u4, u5, u6, u7, u8, u9, u10, u11, u12, u13, u14⟩ := id (hsr (j + 1) hj1).1
          refine k_aload_n hC 1 dL_same_36 rfl rfl ?_
          refine k_iload hC dL_same_37 rfl ?_
          refine k_bipush hC (nI 15) dL_same_39 rfl ?_
          refine k_iaddN hC dL_same_41 ?_
          refine k_topE (nI (15 * (j + 1))) (congrArg nI (by omega)) ?_
          refine k_bipush hC (nI 8) dL_same_42 rfl ?_
          refine k_iaddN hC dL_same_44 ?_
          refine k_ald hC 0 rfl (by omega) (by decide) dL_same_45 ?_
          refine k_topE (nI ((σ.2.2.2 (j + 1)).1 15)) u8 ?_
          refine k_topE (nI (mBehind σ j)) (by unfold mBehind; rw [if_pos hj1]) ?_
          refine k_goto hC 50 dL_same_46 (by decide) ?_
          exact j50
  exact loop (σ.1 + 1) 0 0 ad us 0 0 rfl (Nat.zero_le _) rfl hU (Nat.le_refl 0) (Nat.le_refl 0)
