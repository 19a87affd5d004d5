/-! the law: its loop, and its whole walk -/
set_option maxRecDepth 100000 in
set_option maxHeartbeats 4000000 in
theorem law_loop {p : Program} {l : Launch} {e : Env} {s : State} {m : MethodId} {below : List Frame} {meth : Method} {cd : Code} {K : kE} {b0 L : Nat} {xs : Nat → Int32} (hst : l.stackTraces = false) (hC : kC p s m #[Value.ref b0] meth cd K (fun q : Nat => s.heap.size ≤ q) 16 cL_law RL) (hX0 : va_X b0 L xs s s.heap) (hbl : b0 < s.heap.size) (hL : L ≤ 260) (hr : meth.sig.returnType = ret) (x aT aM aI aW aG : Nat) : ∀ (n turn : Nat) (ad : Nat → Nat → Nat) (σ : mS) (us : Nat → Nat → Nat → Int32) (fT fM fI fW fG : Nat → Int32) (k9 n9 : Nat), turn + n = 60 → qInv σ us fT fM fI fW fG → (σ.1 = 0 → turn = 0) → k9 ≤ 100 + 500 * turn → n9 ≤ 2000 + 2100 * turn → kW p l e room_1 s m #[Value.ref b0] below meth cd K (fun q : Nat => s.heap.size ≤ q) 16 (lw_Z below #[Value.ref b0] s) k9 n9 ((wX K x ad σ us)) [kI K aT 45 fT, kI K aM 60 fM, kI K aI 60 fI, kI K aW 60 fW, kI K aG 8 fG] [(0, .ref b0), (1, .ref x), (2, .ref aT), (3, .ref aM), (4, .ref aI), (5, .ref aW), (6, .ref aG), (7, .int (nI turn))] 64 [] := by
  have hbA : ¬ (fun q : Nat => s.heap.size ≤ q) b0 := Nat.not_le.mpr hbl
  intro n
  induction n with
  | zero =>
    intro turn ad σ us fT fM fI fW fG k9 n9 ht hq hz hk9 hn9
    refine k_iload hC dL_law_64 rfl ?_
    refine k_bipush hC (nI 60) dL_law_66 rfl ?_
    refine k_icmp_geN hC 1175 dL_law_68 (by decide) (by omega) (by omega) (fun c1 => ?_) (fun c1 => ?_)
    · refine k_iconst hC (nI 1) dL_law_1175 rfl ?_
      refine k_topE 1 (by decide) ?_
      exact k_lawret hC hr (by omega) (by omega) dL_law_1176
    · exact absurd c1 (by omega)
  | succ n ih =>
    intro turn ad σ us fT fM fI fW fG k9 n9 ht hq hz hk9 hn9
    have h60 : turn < 60 := by omega
    obtain ⟨hσ, hU, hR, h3, d9, hd, hd20⟩ := id hq
    have H0 : kHead p l s m #[Value.ref b0] meth cd K (fun q : Nat => s.heap.size ≤ q) turn k9 n9 := ⟨hst, hC, h60, by omega, by omega⟩
    have kk : kCont p l e s m #[Value.ref b0] below meth cd K (fun q : Nat => s.heap.size ≤ q) (lw_Z below #[Value.ref b0] s) b0 x aT aM aI aW aG turn k9 n9 := by
      intro ad σ us fT fM fI fW fG k n hq h0 hk hn
      refine k_iinc hC dL_law_1169 (by decide) rfl rfl (nI (turn + 1)) (kinc turn 1 rfl) [(0, .ref b0), (1, .ref x), (2, .ref aT), (3, .ref aM), (4, .ref aI), (5, .ref aW), (6, .ref aG), (7, .int (nI (turn + 1)))] rfl ?_
      refine k_goto hC 64 dL_law_1172 (by decide) ?_
      exact ih (turn + 1) ad σ us fT fM fI fW fG k n (by omega) hq (fun q => absurd q h0) (by omega) (by omega)
    refine k_iload hC dL_law_64 rfl ?_
    refine k_bipush hC (nI 60) dL_law_66 rfl ?_
    refine k_icmp_geN hC 1175 dL_law_68 (by decide) (by omega) (by omega) (fun c1 => ?_) (fun c1 => ?_)
    · exact absurd c1 (by omega)
    · refine k_aload_n hC 0 dL_law_71 rfl rfl ?_
      refine k_iconst hC (nI 2) dL_law_72 rfl ?_
      refine k_iload hC dL_law_73 rfl ?_
      refine k_imulN hC dL_law_75 ?_
      refine k_callCell hC hX0 hbl hbA hL (by omega) ⟨(Nat.le_of_ble_eq_true rfl), (Nat.le_of_ble_eq_true rfl)⟩ (Nat.le_of_ble_eq_true rfl) ⟨by show k9 ≤ 637431; omega, by show n9 ≤ 7189406; omega⟩ dL_law_76 (fun z8 => ?_)
      refine k_istore hC dL_law_79 (by decide) rfl [(0, .ref b0), (1, .ref x), (2, .ref aT), (3, .ref aM), (4, .ref aI), (5, .ref aW), (6, .ref aG), (7, .int (nI turn)), (8, .int z8)] rfl ?_
      refine k_aload_n hC 0 dL_law_81 rfl rfl ?_
      refine k_iconst hC (nI 2) dL_law_82 rfl ?_
      refine k_iload hC dL_law_83 rfl ?_
      refine k_imulN hC dL_law_85 ?_
      refine k_iconst hC (nI 1) dL_law_86 rfl ?_
      refine k_iaddN hC dL_law_87 ?_
      refine k_callCell hC hX0 hbl hbA hL (by omega) ⟨(Nat.le_of_ble_eq_true rfl), (Nat.le_of_ble_eq_true rfl)⟩ (Nat.le_of_ble_eq_true rfl) ⟨by show k9 ≤ 637431; omega, by show n9 ≤ 7189406; omega⟩ dL_law_88 (fun z9 => ?_)
      refine k_istore hC dL_law_91 (by decide) rfl [(0, .ref b0), (1, .ref x), (2, .ref aT), (3, .ref aM), (4, .ref aI), (5, .ref aW), (6, .ref aG), (7, .int (nI turn)), (8, .int z8), (9, .int z9)] rfl ?_
      refine k_iload hC dL_law_93 rfl ?_
      have j109 : ∀ kd : Nat, kd < 16 → (turn = 0 → kd = 0) → kW p l e room_1 s m #[Value.ref b0] below meth cd K (fun q : Nat => s.heap.size ≤ q) 16 (lw_Z below #[Value.ref b0] s) k9 n9 ((wX K x ad σ us)) [kI K aT 45 fT, kI K aM 60 fM, kI K aI 60 fI, kI K aW 60 fW, kI K aG 8 fG] [(0, .ref b0), (1, .ref x), (2, .ref aT), (3, .ref aM), (4, .ref aI), (5, .ref aW), (6, .ref aG), (7, .int (nI turn)), (8, .int z8), (9, .int z9)] 109 [.int (nI kd)] := by
        intro kd hkd hk0
        refine k_istore hC dL_law_109 (by decide) rfl [(0, .ref b0), (1, .ref x), (2, .ref aT), (3, .ref aM), (4, .ref aI), (5, .ref aW), (6, .ref aG), (7, .int (nI turn)), (8, .int z8), (9, .int z9), (10, .int (nI kd))] rfl ?_
        refine k_aload hC dL_law_111 rfl ?_
        refine k_iconst hC (nI 0) dL_law_113 rfl ?_
        refine k_ald hC 4 rfl (by omega) (by decide) dL_law_114 ?_
        refine k_topE (nI σ.1) hR.1 ?_
        have j131 : ∀ a : Nat, (σ.1 ≠ 0 → a < σ.1) → kW p l e room_1 s m #[Value.ref b0] below meth cd K (fun q : Nat => s.heap.size ≤ q) 16 (lw_Z below #[Value.ref b0] s) k9 n9 ((wX K x ad σ us)) [kI K aT 45 fT, kI K aM 60 fM, kI K aI 60 fI, kI K aW 60 fW, kI K aG 8 fG] [(0, .ref b0), (1, .ref x), (2, .ref aT), (3, .ref aM), (4, .ref aI), (5, .ref aW), (6, .ref aG), (7, .int (nI turn)), (8, .int z8), (9, .int z9), (10, .int (nI kd))] 131 [.int (nI a)] := by
          intro a ha0
          refine k_istore hC dL_law_131 (by decide) rfl [(0, .ref b0), (1, .ref x), (2, .ref aT), (3, .ref aM), (4, .ref aI), (5, .ref aW), (6, .ref aG), (7, .int (nI turn)), (8, .int z8), (9, .int z9), (10, .int (nI kd)), (11, .int (nI a))] rfl ?_
          refine k_bipush hC (nI 15) dL_law_133 rfl ?_
          refine k_iload hC dL_law_135 rfl ?_
          refine k_imulN hC dL_law_137 ?_
          refine k_istore hC dL_law_138 (by decide) rfl [(0, .ref b0), (1, .ref x), (2, .ref aT), (3, .ref aM), (4, .ref aI), (5, .ref aW), (6, .ref aG), (7, .int (nI turn)), (8, .int z8), (9, .int z9), (10, .int (nI kd)), (11, .int (nI a)), (12, .int (nI (15 * a)))] rfl ?_
          refine k_iload hC dL_law_140 rfl ?_
          refine k_if_neN hC 421 dL_law_142 (by decide) (by omega) (fun c4 => ?_) (fun c4 => ?_)
          · have h0 : σ.1 ≠ 0 := fun q => c4 (hk0 (hz q))
            have ha := ha0 h0
            refine k_iload hC dL_law_421 rfl ?_
            refine k_iconst hC (nI 1) dL_law_423 rfl ?_
            refine k_icmp_neN hC 505 dL_law_424 (by decide) (by omega) (by omega) (fun d0 => ?_) (fun d0 => ?_)
            · refine k_iload hC dL_law_505 rfl ?_
              refine k_iconst hC (nI 2) dL_law_507 rfl ?_
              refine k_icmp_neN hC 557 dL_law_508 (by decide) (by omega) (by omega) (fun d1 => ?_) (fun d1 => ?_)
              · refine k_iload hC dL_law_557 rfl ?_
                refine k_iconst hC (nI 3) dL_law_559 rfl ?_
                refine k_icmp_neN hC 617 dL_law_560 (by decide) (by omega) (by omega) (fun d2 => ?_) (fun d2 => ?_)
                · refine k_iload hC dL_law_617 rfl ?_
                  refine k_iconst hC (nI 4) dL_law_619 rfl ?_
                  refine k_icmp_neN hC 660 dL_law_620 (by decide) (by omega) (by omega) (fun d3 => ?_) (fun d3 => ?_)
                  · refine k_iload hC dL_law_660 rfl ?_
                    refine k_iconst hC (nI 5) dL_law_662 rfl ?_
                    refine k_icmp_neN hC 723 dL_law_663 (by decide) (by omega) (by omega) (fun d4 => ?_) (fun d4 => ?_)
                    · refine k_iload hC dL_law_723 rfl ?_
                      refine k_bipush hC (nI 8) dL_law_725 rfl ?_
                      refine k_icmp_geN hC 912 dL_law_727 (by decide) (by omega) (by omega) (fun d5 => ?_) (fun d5 => ?_)
                      · refine k_iload hC dL_law_912 rfl ?_
                        refine k_bipush hC (nI 8) dL_law_914 rfl ?_
                        refine k_icmp_neN hC 1089 dL_law_916 (by decide) (by omega) (by omega) (fun d6 => ?_) (fun d6 => ?_)
                        · exact law_c9 H0 kk ad σ us fT fM fI fW fG hq h0 z8 z9 kd a ha
                        · exact law_c8 H0 kk ad σ us fT fM fI fW fG hq h0 z8 z9 kd a ha
                      · exact law_c6 H0 kk ad σ us fT fM fI fW fG hq h0 z8 z9 kd a ha
                    · exact law_c5 H0 kk ad σ us fT fM fI fW fG hq h0 z8 z9 kd a ha
                  · exact law_c4 H0 kk ad σ us fT fM fI fW fG hq h0 z8 z9 kd a ha
                · exact law_c3 H0 kk ad σ us fT fM fI fW fG hq h0 z8 z9 kd a ha
              · exact law_c2 H0 kk ad σ us fT fM fI fW fG hq h0 z8 z9 kd a ha
            · exact law_c1 H0 kk ad σ us fT fM fI fW fG hq h0 z8 z9 kd a ha
          · exact law_c0 H0 kk ad σ us fT fM fI fW fG hq z8 z9 kd a
        refine k_if_neN hC 122 dL_law_115 (by decide) (by omega) (fun c3 => ?_) (fun c3 => ?_)
        · refine k_iload hC dL_law_122 rfl ?_
          refine k_aload hC dL_law_124 rfl ?_
          refine k_iconst hC (nI 0) dL_law_126 rfl ?_
          refine k_ald hC 4 rfl (by omega) (by decide) dL_law_127 ?_
          refine k_topE (nI σ.1) hR.1 ?_
          refine k_callS hC (As := [.int z9, .int (nI σ.1)]) (cL_low_k l K z9 σ.1 (by omega) (by omega)) [kI K aT 45 fT, kI K aM 60 fM, kI K aI 60 fI, kI K aW 60 fW, kI K aG 8 fG] rfl (kAll4 lkM_L_127 lkT_yL_low lkN_L lkC_yL_low) 2 (by decide) ⟨(Nat.le_of_ble_eq_true rfl), (Nat.le_of_ble_eq_true rfl)⟩ rfl rfl (Nat.le_of_ble_eq_true rfl) ⟨by show k9 + 0 ≤ 637431; omega, by show n9 + 0 ≤ 7189406; omega⟩ dL_law_128 (fun v w h => ?_)
          obtain ⟨⟨j41, hj41, rfl⟩, rfl⟩ := h
          refine k_re (k9) (n9) [kI K aT 45 fT, kI K aM 60 fM, kI K aI 60 fI, kI K aW 60 fW, kI K aG 8 fG] [.int (nI j41)] rfl rfl rfl rfl ?_
          exact j131 j41 (fun _ => hj41)
        · refine k_iconst hC (nI 0) dL_law_118 rfl ?_
          refine k_goto hC 131 dL_law_119 (by decide) ?_
          exact j131 0 (fun q => absurd c3 q)
      refine k_if_neN hC 102 dL_law_95 (by decide) (by omega) (fun c2 => ?_) (fun c2 => ?_)
      · refine k_iload hC dL_law_102 rfl ?_
        refine k_bipush hC (nI 16) dL_law_104 rfl ?_
        refine k_callS hC (As := [.int z8, .int (nI 16)]) (cL_low_k l K z8 16 (by decide) (by decide)) [kI K aT 45 fT, kI K aM 60 fM, kI K aI 60 fI, kI K aW 60 fW, kI K aG 8 fG] rfl (kAll4 lkM_L_127 lkT_yL_low lkN_L lkC_yL_low) 2 (by decide) ⟨(Nat.le_of_ble_eq_true rfl), (Nat.le_of_ble_eq_true rfl)⟩ rfl rfl (Nat.le_of_ble_eq_true rfl) ⟨by show k9 + 0 ≤ 637431; omega, by show n9 + 0 ≤ 7189406; omega⟩ dL_law_106 (fun v w h => ?_)
        obtain ⟨⟨j42, hj42, rfl⟩, rfl⟩ := h
        refine k_re (k9) (n9) [kI K aT 45 fT, kI K aM 60 fM, kI K aI 60 fI, kI K aW 60 fW, kI K aG 8 fG] [.int (nI j42)] rfl rfl rfl rfl ?_
        exact j109 j42 hj42 (fun q => absurd q c2)
      · refine k_iconst hC (nI 0) dL_law_98 rfl ?_
        refine k_goto hC 109 dL_law_99 (by decide) ?_
        exact j109 0 (by decide) (fun _ => rfl)
theorem kPermE {α : Type} {w : List α} {a b c d e : α} : ((((((w ++ [a]) ++ [b]) ++ [c]) ++ [d]) ++ [e]) ++ []).Perm ([a, b, c, d, e] ++ w) := by
  simp only [List.append_assoc, List.append_nil, List.cons_append, List.nil_append]
  exact List.perm_append_comm (l₁ := w) (l₂ := [a, b, c, d, e])
set_option maxRecDepth 100000 in
set_option maxHeartbeats 4000000 in
theorem law_start {p : Program} {l : Launch} {e : Env} {s : State} {m : MethodId} {below : List Frame} {meth : Method} {cd : Code} {K : kE} {b0 L : Nat} {xs : Nat → Int32} (hst : l.stackTraces = false) (hC : kC p s m #[Value.ref b0] meth cd K (fun q : Nat => s.heap.size ≤ q) 16 cL_law RL) (hX0 : va_X b0 L xs s s.heap) (hbl : b0 < s.heap.size) (hL : L ≤ 260) (hr : meth.sig.returnType = ret) : kW p l e room_1 s m #[Value.ref b0] below meth cd K (fun q : Nat => s.heap.size ≤ q) 16 (lw_Z below #[Value.ref b0] s) 0 0 [] [] [(0, .ref b0)] 0 [] := by
  refine k_new hC (ci := 3) inlX3 tyX3_ok rfl lkL_L_36 lkB_X3 lkN_X3 [.null, .int (nI 0), .int (nI 0), .int (nI 0), .int (nI 0), .int (nI 0), .int (nI 0), .int (nI 0)] (by decide) (Nat.le_of_ble_eq_true rfl) (Nat.le_of_ble_eq_true rfl) dL_law_0 (fun x => ?_)
  refine k_eX (show _ = [kO x 3 [.null, .int (nI 0), .int (nI 0), .int (nI 0), .int (nI 0), .int (nI 0), .int (nI 0), .int (nI 0)]] from rfl) ?_
  refine k_dup hC dL_law_3 rfl ?_
  refine k_callI hC (As := []) (cX3_init_k l K x) [] rfl (kAll4 lkM_L_122 lkI_yX3_init lkN_X3 lkC_yX3_init) rfl 0 (by decide) ⟨(Nat.le_of_ble_eq_true rfl), (Nat.le_of_ble_eq_true rfl)⟩ rfl rfl (Nat.le_of_ble_eq_true rfl) ⟨(Nat.le_of_ble_eq_true rfl), (Nat.le_of_ble_eq_true rfl)⟩ dL_law_4 (fun v w h => ?_)
  obtain ⟨rfl, rfl⟩ := h
  refine k_re 1 8 ((wX K x (fun _ _ => 0) mS0 (fun _ _ _ => 0))) [.ref x] rfl rfl (List.append_nil _) rfl ?_
  refine k_astore_n hC 1 dL_law_7 rfl (by decide) rfl [(0, .ref b0), (1, .ref x)] rfl ?_
  refine k_bipush hC (nI 45) dL_law_8 rfl ?_
  refine k_newI hC 45 rfl (by decide) (Nat.le_of_ble_eq_true rfl) (Nat.le_of_ble_eq_true rfl) lkA_int dL_law_10 (fun aT => ?_)
  refine k_re 2 53 (((wX K x (fun _ _ => 0) mS0 (fun _ _ _ => 0)) ++ [kI K aT 45 (fun _ => 0)])) [.ref aT] rfl rfl rfl rfl ?_
  refine k_astore_n hC 2 dL_law_12 rfl (by decide) rfl [(0, .ref b0), (1, .ref x), (2, .ref aT)] rfl ?_
  refine k_bipush hC (nI 60) dL_law_13 rfl ?_
  refine k_newI hC 60 rfl (by decide) (Nat.le_of_ble_eq_true rfl) (Nat.le_of_ble_eq_true rfl) lkA_int dL_law_15 (fun aM => ?_)
  refine k_re 3 113 ((((wX K x (fun _ _ => 0) mS0 (fun _ _ _ => 0)) ++ [kI K aT 45 (fun _ => 0)]) ++ [kI K aM 60 (fun _ => 0)])) [.ref aM] rfl rfl rfl rfl ?_
  refine k_astore_n hC 3 dL_law_17 rfl (by decide) rfl [(0, .ref b0), (1, .ref x), (2, .ref aT), (3, .ref aM)] rfl ?_
  refine k_bipush hC (nI 60) dL_law_18 rfl ?_
  refine k_newI hC 60 rfl (by decide) (Nat.le_of_ble_eq_true rfl) (Nat.le_of_ble_eq_true rfl) lkA_int dL_law_20 (fun aI => ?_)
  refine k_re 4 173 (((((wX K x (fun _ _ => 0) mS0 (fun _ _ _ => 0)) ++ [kI K aT 45 (fun _ => 0)]) ++ [kI K aM 60 (fun _ => 0)]) ++ [kI K aI 60 (fun _ => 0)])) [.ref aI] rfl rfl rfl rfl ?_
  refine k_astore hC dL_law_22 (by decide) rfl [(0, .ref b0), (1, .ref x), (2, .ref aT), (3, .ref aM), (4, .ref aI)] rfl ?_
  refine k_bipush hC (nI 60) dL_law_24 rfl ?_
  refine k_newI hC 60 rfl (by decide) (Nat.le_of_ble_eq_true rfl) (Nat.le_of_ble_eq_true rfl) lkA_int dL_law_26 (fun aW => ?_)
  refine k_re 5 233 ((((((wX K x (fun _ _ => 0) mS0 (fun _ _ _ => 0)) ++ [kI K aT 45 (fun _ => 0)]) ++ [kI K aM 60 (fun _ => 0)]) ++ [kI K aI 60 (fun _ => 0)]) ++ [kI K aW 60 (fun _ => 0)])) [.ref aW] rfl rfl rfl rfl ?_
  refine k_astore hC dL_law_28 (by decide) rfl [(0, .ref b0), (1, .ref x), (2, .ref aT), (3, .ref aM), (4, .ref aI), (5, .ref aW)] rfl ?_
  refine k_bipush hC (nI 8) dL_law_30 rfl ?_
  refine k_newI hC 8 rfl (by decide) (Nat.le_of_ble_eq_true rfl) (Nat.le_of_ble_eq_true rfl) lkA_int dL_law_32 (fun aG => ?_)
  refine k_re 6 241 (((((((wX K x (fun _ _ => 0) mS0 (fun _ _ _ => 0)) ++ [kI K aT 45 (fun _ => 0)]) ++ [kI K aM 60 (fun _ => 0)]) ++ [kI K aI 60 (fun _ => 0)]) ++ [kI K aW 60 (fun _ => 0)]) ++ [kI K aG 8 (fun _ => 0)])) [.ref aG] rfl rfl rfl rfl ?_
  refine k_astore hC dL_law_34 (by decide) rfl [(0, .ref b0), (1, .ref x), (2, .ref aT), (3, .ref aM), (4, .ref aI), (5, .ref aW), (6, .ref aG)] rfl ?_
  refine k_perm2 (wX K x (fun _ _ => 0) mS0 (fun _ _ _ => 0)) [kI K aT 45 (fun _ => 0), kI K aM 60 (fun _ => 0), kI K aI 60 (fun _ => 0), kI K aW 60 (fun _ => 0), kI K aG 8 (fun _ => 0)] kPermE ?_
  have hb1 : (oStep mS0 (nI 1)).1 = 2 := by unfold oStep; rw [if_pos ⟨nI_le (by decide) (by decide), nI_le (by decide) (by decide)⟩, if_pos (show mS0.1 = 0 from rfl)]
  have hb2 : (oStep mS0 (nI 51)).1 = 1 := by unfold oStep; rw [if_neg (fun q => absurd ((nI_leI (by decide) (by decide)).mp q.2) (by decide))]
  refine k_aload_n hC 1 dL_law_36 rfl rfl ?_
  refine k_iconst hC (nI 0) dL_law_37 rfl ?_
  refine k_iconst hC (nI 1) dL_law_38 rfl ?_
  refine k_iconst hC (nI 0) dL_law_39 rfl ?_
  refine k_perm2 [kI K aT 45 ((fun _ => 0)), kI K aM 60 ((fun _ => 0)), kI K aI 60 ((fun _ => 0)), kI K aW 60 ((fun _ => 0)), kI K aG 8 ((fun _ => 0))] (wX K x ((fun _ _ => 0)) mS0 ((fun _ _ _ => 0))) List.perm_append_comm ?_
  refine k_callXH hC (As := [.ref x, .int (nI 0), .int (nI 1), .int (nI 0)]) (cL_refused_0 hst K x ((fun _ _ => 0)) mS0 ((fun _ _ _ => 0)) mSok_0 mURT_0 (nI 1) (nI 0) (by rw [hb1]; decide)) [] (List.append_nil _).symm (kAll4 lkM_L_118 lkT_yL_refused lkN_L lkC_yL_refused) 4 (by decide) ⟨(Nat.le_of_ble_eq_true rfl), (Nat.le_of_ble_eq_true rfl)⟩ rfl rfl (Nat.le_of_ble_eq_true rfl) ⟨by show 6 + 3 ≤ 637431; omega, by show 241 + 18 ≤ 7189406; omega⟩ dL_law_40 (fun v w h => ?_)
  rw [hb1, if_neg (show ¬ (2 : Nat) = 1 by decide)] at h
  obtain ⟨rfl, rfl⟩ := h
  refine k_re (6 + 3) (241 + 18) (wX K x ((fun _ _ => 0)) mS0 ((fun _ _ _ => 0))) [.int (nI 2)] rfl rfl (List.append_nil _) rfl ?_
  refine k_perm2 (wX K x ((fun _ _ => 0)) mS0 ((fun _ _ _ => 0))) [kI K aT 45 ((fun _ => 0)), kI K aM 60 ((fun _ => 0)), kI K aI 60 ((fun _ => 0)), kI K aW 60 ((fun _ => 0)), kI K aG 8 ((fun _ => 0))] List.perm_append_comm ?_
  refine k_iconst hC (nI 2) dL_law_43 rfl ?_
  refine k_icmp_ne hC 59 dL_law_44 (by decide) (fun c9 => absurd rfl c9) (fun _ => ?_)
  refine k_aload_n hC 1 dL_law_47 rfl rfl ?_
  refine k_iconst hC (nI 0) dL_law_48 rfl ?_
  refine k_bipush hC (nI 51) dL_law_49 rfl ?_
  refine k_iconst hC (nI 0) dL_law_51 rfl ?_
  refine k_perm2 [kI K aT 45 ((fun _ => 0)), kI K aM 60 ((fun _ => 0)), kI K aI 60 ((fun _ => 0)), kI K aW 60 ((fun _ => 0)), kI K aG 8 ((fun _ => 0))] (wX K x ((fun _ _ => 0)) mS0 ((fun _ _ _ => 0))) List.perm_append_comm ?_
  refine k_callXH hC (As := [.ref x, .int (nI 0), .int (nI 51), .int (nI 0)]) (cL_refused_0 hst K x ((fun _ _ => 0)) mS0 ((fun _ _ _ => 0)) mSok_0 mURT_0 (nI 51) (nI 0) (by rw [hb2]; decide)) [] (List.append_nil _).symm (kAll4 lkM_L_118 lkT_yL_refused lkN_L lkC_yL_refused) 4 (by decide) ⟨(Nat.le_of_ble_eq_true rfl), (Nat.le_of_ble_eq_true rfl)⟩ rfl rfl (Nat.le_of_ble_eq_true rfl) ⟨by show 6 + 3 + 3 ≤ 637431; omega, by show 241 + 18 + 18 ≤ 7189406; omega⟩ dL_law_52 (fun v w h => ?_)
  rw [hb2, if_pos rfl] at h
  obtain ⟨rfl, rfl⟩ := h
  refine k_re (6 + 6) (241 + 36) (wX K x ((fun _ _ => 0)) mS0 ((fun _ _ _ => 0))) [.int (nI 3)] rfl rfl (List.append_nil _) rfl ?_
  refine k_perm2 (wX K x ((fun _ _ => 0)) mS0 ((fun _ _ _ => 0))) [kI K aT 45 ((fun _ => 0)), kI K aM 60 ((fun _ => 0)), kI K aI 60 ((fun _ => 0)), kI K aW 60 ((fun _ => 0)), kI K aG 8 ((fun _ => 0))] List.perm_append_comm ?_
  refine k_iconst hC (nI 3) dL_law_55 rfl ?_
  refine k_icmp_eq hC 61 dL_law_56 (by decide) (fun _ => ?_) (fun c9 => absurd rfl c9)
  refine k_iconst hC (nI 0) dL_law_61 rfl ?_
  refine k_istore hC dL_law_62 (by decide) rfl [(0, .ref b0), (1, .ref x), (2, .ref aT), (3, .ref aM), (4, .ref aI), (5, .ref aW), (6, .ref aG), (7, .int (nI 0))] rfl ?_
  exact law_loop hst hC hX0 hbl hL hr x aT aM aI aW aG 60 0 (fun _ _ => 0) mS0 (fun _ _ _ => 0) (fun _ => 0) (fun _ => 0) (fun _ => 0) (fun _ => 0) (fun _ => 0) (6 + 6) (241 + 36) rfl ⟨mSok_0, mURT_0, qRep_0, by decide, 0, rfl, by decide⟩ (fun _ => rfl) (by decide) (by decide)
/-- YOUR PART: from the entry, for every script of at most 260 ints, the law comes to its end with true ('hflags': the launch's flags, for a law that throws: no stack traces) -/
theorem whole_start {p : Program} {e : Env} {s : State} {m : MethodId} {below : List Frame} {meth : Method} {c : Code} (l : Launch) (hflags : l.flags = flags0) {b L : Nat} {xs : Nat → Int32} (hL : L ≤ 260) (C0 : lw_At p s m meth c b L xs) : W p l e room_1 s m #[Value.ref b] below meth c s.heap [] 0 0 (lw_Z below #[Value.ref b] s) (entryFrame m ([Value.ref b] : List Value).toArray 16) := by
  have hst : l.stackTraces = false := by
    unfold Launch.stackTraces
    rw [hflags]
    decide +kernel
  obtain ⟨K, hC⟩ := kG_entry C0
  obtain ⟨hx, hb, hr, hml, hown, hts, hX, hbl, hlocks, hgv⟩ := C0
  have hl := lv_entry ([.ref b]) (n := 16) (Nat.le_of_ble_eq_true rfl)
  rw [lg_entry_eq]
  generalize (lg_sl ([.ref b]) ++ List.replicate (16 - (lg_sl ([.ref b])).length) Slot.unset).toArray = ls at hl ⊢
  exact law_start hst hC hX hbl hL hr s.heap [] ls (fun k q h => by simp at h) ⟨fun i j p q h => by simp at h, fun k q h => by simp at h⟩ va_S.rf hl
-- ===== YOUR PART ENDS =====
set_option maxHeartbeats 4000000 in
theorem lw_walk (l : Launch) (hflags : l.flags = flags0) (b : Addr) (xs : List Int32) : MetFree l x (headSpec (Jvm.Cond.code x code maxLocals ret :: tables_1) room_1) (lw_P b xs) (fun _ _ _ _ _ => True) lw_Q := by
  refine MetFree.of_bodyS (code := code) (maxLocals := maxLocals) (ret := ret) (by decide) ?_ ?_
  · intro args s m h hn
    obtain ⟨meth, c, h1, h2, h3, h4, h5, h6, -, -⟩ := Cond.code_spec hn (atoms_spec (ws := Jvm.Cond.code x code maxLocals ret :: tables_1) h _ List.mem_cons_self)
    exact ⟨meth, c, h1, h2, h3, h4, h5, h6⟩
  · intro p e s m args below meth c s₁ B hml0 hP _
    obtain ⟨rfl, hx, hbd, hgv⟩ := hP
    obtain ⟨scr, harrAt, hlist, hof, hsmall⟩ := hx
    obtain ⟨hcb, hkn, -, -⟩ := State.arrayAt?_spec harrAt
    have hown : s.vm.findClass R_law = some m.cls := findClass_of_methodNamed B.named
    have hts0 : ∀ c ∈ (Jvm.Cond.code x code maxLocals ret :: tables_1), c.before #[Value.ref b] s = true := atoms_spec (ws := Jvm.Cond.code x code maxLocals ret :: tables_1) B.pre
    have hts : ∀ w ∈ lw_tbl, w.before #[Value.ref b] s = true := k2_hts_sels lw_privs (fun w hw => hts0 w (List.mem_cons_of_mem _ hw)) lw_privs_ok
    have hml : c.maxLocals = 16 := B.maxLocals_eq (hts0 _ List.mem_cons_self)
    have X₀ : Stand p l e room_1 s m #[Value.ref b] below meth c s₁ [] 0 0 := Stand.of_body B
    have hh0 : s₁.heap = s.heap := by rw [B.state]; rfl
    have hsz : scr.slots.size = xs.length := by rw [← Array.length_toList, hlist, List.length_map]
    have hval : ∀ j : Nat, j < xs.length → scr.slots[j]? = some (.int (xs.getD j 0)) := fun j hj => by
      rw [← Array.getElem?_toList, hlist]
      simp [hj]
    have hbl : b < s.heap.size := (Array.getElem?_eq_some_iff.mp hcb).1
    have hX : va_X b xs.length (fun j => xs.getD j 0) s s.heap := ⟨scr, hcb, hof, hkn, hsz, hval⟩
    have K : W p l e room_1 s m #[Value.ref b] below meth c s₁.heap [] 0 0 (lw_Z below #[Value.ref b] s) (entryFrame m ([Value.ref b] : List Value).toArray 16) := by
      rw [hh0]
      exact whole_start l hflags hbd ⟨B.exec, B.bytes, B.returns, hml, hown, hts, hX, hbl, B.notSynchronized, hgv⟩
    obtain ⟨t, a1, o, b1, b2, b3⟩ := K s₁ rfl X₀
    exact ⟨t, o, a1, b1, b2, b3⟩
theorem lw_pre_spec {args : Array Value} {s : State} (h : (Jvm.Cond.and given_1 narrow_1).before args s = true) (hr : rest_1_c.before args s = true) : ∃ (b : Addr) (xs : List Int32), lw_P b xs args s := by
  have hs := flat_of_before _ h
  have hq := flat_of_before _ hr
  have hc : (Cond.count 1).before args s = true := hs _ (by decide +kernel)
  have harr : (Cond.arrayOf (.arg 0) .int).before args s = true := hs _ (by decide +kernel)
  have hle : (Cond.le (.length (.arg 0)) (.int 260)).before args s = true := hs _ (by decide +kernel)
  have hlen : (Cond.isInt (.length (.arg 0))).before args s = true := hq _ (by decide +kernel)
  have hall : (Cond.all (.arg 0) (.isInt (.elem (.arg 0) (.index 0)))).before args s = true := hq _ (by decide +kernel)
  obtain ⟨b, xs, hb, hx⟩ := State.ints_of_pre rfl harr hlen hall
  have hsm : xs.length < 2 ^ 31 := hx.choose_spec.2.2.2
  have hev : (Term.length (.arg 0)).eval args s none [] s = some (.int xs.length.toInt32) := hx.length_eval hb
  have hv := Cond.le_ints hev (show (Term.int 260).eval args s none [] s = some (.int 260) from rfl)
  have hd : xs.length.toInt32 ≤ 260 := by
    simpa [Cond.before, Cond.holds, hv] using hle
  have hN : xs.length ≤ 260 := (Int32.ofNat_le_ofNat hsm (by decide)).mp (show Int32.ofNat xs.length ≤ Int32.ofNat 260 from hd)
  exact ⟨b, xs, Cond.one_arg hc (show args[0]? = some (.ref b) from hb), hx, hN, h⟩
theorem lw_comes (l : Launch) (hflags : l.flags = flags0) : Comes l x (Jvm.Cond.code x code maxLocals ret :: tables_1) room_1 (fun tb e args s => Calls_1 tb e args s ∧ rest_1 tb e args s ∧ Pre_1 tb e args s)
    (fun _ _ args s o t => lw_Q args s o t) := by
  intro p e ha hc hk s m args below hf hfit hheap happ hpre
  obtain ⟨b, xs, hP⟩ := lw_pre_spec hpre.2.2 hpre.2.1
  obtain ⟨k, o, h1, h2, h3, hQ⟩ := lw_walk l hflags b xs p e ha hc hk s m args below hf ((Spec.applies_iff_loose hf).mp happ).1 hP trivial
  exact ⟨k, o, h1, h2, h3, hQ⟩
theorem lw_frame {s t : State} {o : Outcome} {args : Array Value} (h : Framed s o t [] 637431 7189406) :
    Framed s o t (fieldLocs frame_1_writes args s ++ arrayLocs frame_1_arrays args s ++ staticLocs frame_1_statics s) 637431 7189406 := h
theorem lw_limb (L : Cond) (hL : ∀ (args : Array Value) (s t : State), L.after args s (.returned (some (.int 1))) t = true) :
    ArmFor flags0 classFile x code maxLocals ret World_1 tables_1 room_1 Calls_1 rest_1 Pre_1
      (fun tb e a s o t => postC L tb e a s o t ∧ Framed s o t (fieldLocs frame_1_writes a s ++ arrayLocs frame_1_arrays a s ++ staticLocs frame_1_statics s) 637431 7189406) := by
  intro l hflags _ _ p e ha hc hk s m args below hf hfit hheap happ hpre
  obtain ⟨k, o, h1, h2, h3, rfl, hF⟩ := lw_comes l hflags p e ha hc hk s m args below hf hfit hheap happ hpre
  exact ⟨k, _, h1, h2, h3, hL args s _, lw_frame hF⟩
theorem i_vc : Claimed_1_1 ∧ Claimed_1_2 := ⟨lw_limb limb_1_1 (fun args s t => by simp [limb_1_1, Cond.after, Cond.holds, Cond.value]), lw_limb limb_1_2 (fun args s t => Cond.after_iff.mpr (by
  first | (rw [show limb_1_2 = Cond.eq .result (.int 1) from rfl, Cond.eq_ints (x := 1) (y := 1) rfl rfl]; simp; done) | (simp [limb_1_2, Cond.value, Term.eval]; done)))⟩
