/-! the law: its loop, and its whole walk -/
set_option maxRecDepth 100000 in
set_option maxHeartbeats 4000000 in
theorem law_loop {p : Program} {l : Launch} {e : Env} {s : State} {m : MethodId} {below : List Frame} {meth : Method} {cd : Code} {K : kE} {b0 L : Nat} {xs : Nat → Int32} (hst : l.stackTraces = false) (hC : kC p s m #[Value.ref b0] meth cd K (fun q : Nat => s.heap.size ≤ q) 7 cL_law RL) (hX0 : va_X b0 L xs s s.heap) (hbl : b0 < s.heap.size) (hL : L ≤ 3072) (hr : meth.sig.returnType = ret) (x y o : Nat) (b : Nat → Nat) : ∀ (n i : Nat) (ad : Nat → Nat → Nat) (σ : mS) (us : Nat → Nat → Nat → Int32) (f : Nat → Int64) (S : Nat → Int32) (G : Nat → Nat → Int32) (k9 n9 : Nat), L + 6 ≤ i + n → i ≤ L → mSok σ → mURT σ us → mRep σ S G → k9 ≤ 100 + 20 * i → n9 ≤ 1000 + 110 * i → kW p l e room_1 s m #[Value.ref b0] below meth cd K (fun q : Nat => s.heap.size ≤ q) 7 (lw_Z below #[Value.ref b0] s) k9 n9 [] (wL K x ad σ us o f y b S G) [(0, .ref b0), (1, .ref x), (2, .ref y), (3, .ref o), (4, .int (nI i))] 23 [] := by
  have hbA : ¬ (fun q : Nat => s.heap.size ≤ q) b0 := Nat.not_le.mpr hbl
  intro n
  induction n with
  | zero => intro i ad σ us f S G k9 n9 h1 h2; exact absurd h1 (by omega)
  | succ n ih =>
    intro i ad σ us f S G k9 n9 h1 h2 hσ hU hR hk9 hn9
    refine k_iload hC dL_law_23 rfl ?_
    refine k_aload_n hC 0 dL_law_25 rfl rfl ?_
    refine k_slen hC hX0 hbl hbA dL_law_26 ?_
    refine k_bipush hC (nI 6) dL_law_27 rfl ?_
    refine k_isub hC dL_law_29 ?_
    refine k_icmp_gt hC 1593 dL_law_30 (by decide) (fun c1 => ?_) (fun c1 => ?_)
    · refine k_iconst hC (nI 1) dL_law_1593 rfl ?_
      refine k_topE 1 (by decide) ?_
      exact k_lawret hC hr (by omega) (by omega) dL_law_1594
    · have hiL : i + 6 ≤ L := by have := mt (kSc hL (by omega)).mpr c1; omega
      have kk : kCont p l e s m #[Value.ref b0] below meth cd K (fun q : Nat => s.heap.size ≤ q) (lw_Z below #[Value.ref b0] s) b0 x y o b i k9 n9 := by
        intro ad σ us f S G k n hσ hU hR hk hn
        refine k_iinc hC dL_law_1587 (by decide) rfl rfl (nI (i + 6)) (kinc i 6 rfl) [(0, .ref b0), (1, .ref x), (2, .ref y), (3, .ref o), (4, .int (nI (i + 6)))] rfl ?_
        refine k_goto hC 23 dL_law_1590 (by decide) ?_
        exact ih (i + 6) ad σ us f S G k n (by omega) (by omega) hσ hU hR (by omega) (by omega)
      have H0 : kHead p l s m #[Value.ref b0] meth cd K (fun q : Nat => s.heap.size ≤ q) b0 L xs i k9 n9 := ⟨hst, hC, hX0, hbl, hbA, hL, hiL, by omega, by omega⟩
      refine k_aload_n hC 0 dL_law_33 rfl rfl ?_
      refine k_iload hC dL_law_34 rfl ?_
      refine k_sld hC hX0 hbl hbA (by omega) hL dL_law_36 ?_
      refine k_bipush hC (nI 31) dL_law_37 rfl ?_
      refine k_iand hC dL_law_39 ?_
      obtain ⟨j, hj, ej⟩ := and31 (xs i)
      refine k_topE (nI j) ej ?_
      match j, hj with
      | 0, _ => exact k_tabIn (off := 132) hC 172 dL_law_40 (by decide) (by decide) (by decide) (by decide) (law_c0 H0 ad σ us f S G hσ hU hR kk)
      | 1, _ => exact k_tabIn (off := 252) hC 292 dL_law_40 (by decide) (by decide) (by decide) (by decide) (law_c1 H0 ad σ us f S G hσ hU hR kk)
      | 2, _ => exact k_tabIn (off := 320) hC 360 dL_law_40 (by decide) (by decide) (by decide) (by decide) (law_c2 H0 ad σ us f S G hσ hU hR kk)
      | 3, _ => exact k_tabIn (off := 388) hC 428 dL_law_40 (by decide) (by decide) (by decide) (by decide) (law_c3 H0 ad σ us f S G hσ hU hR kk)
      | 4, _ => exact k_tabIn (off := 429) hC 469 dL_law_40 (by decide) (by decide) (by decide) (by decide) (law_c4 H0 ad σ us f S G hσ hU hR kk)
      | 5, _ => exact k_tabIn (off := 485) hC 525 dL_law_40 (by decide) (by decide) (by decide) (by decide) (law_c5 H0 ad σ us f S G hσ hU hR kk)
      | 6, _ => exact k_tabIn (off := 548) hC 588 dL_law_40 (by decide) (by decide) (by decide) (by decide) (law_c6 H0 ad σ us f S G hσ hU hR kk)
      | 7, _ => exact k_tabIn (off := 604) hC 644 dL_law_40 (by decide) (by decide) (by decide) (by decide) (law_c7 H0 ad σ us f S G hσ hU hR kk)
      | 8, _ => exact k_tabIn (off := 660) hC 700 dL_law_40 (by decide) (by decide) (by decide) (by decide) (law_c8 H0 ad σ us f S G hσ hU hR kk)
      | 9, _ => exact k_tabIn (off := 716) hC 756 dL_law_40 (by decide) (by decide) (by decide) (by decide) (law_c9 H0 ad σ us f S G hσ hU hR kk)
      | 10, _ => exact k_tabIn (off := 772) hC 812 dL_law_40 (by decide) (by decide) (by decide) (by decide) (law_c10 H0 ad σ us f S G hσ hU hR kk)
      | 11, _ => exact k_tabIn (off := 840) hC 880 dL_law_40 (by decide) (by decide) (by decide) (by decide) (law_c11 H0 ad σ us f S G hσ hU hR kk)
      | 12, _ => exact k_tabIn (off := 896) hC 936 dL_law_40 (by decide) (by decide) (by decide) (by decide) (law_c12 H0 ad σ us f S G hσ hU hR kk)
      | 13, _ => exact k_tabIn (off := 909) hC 949 dL_law_40 (by decide) (by decide) (by decide) (by decide) (law_c13 H0 ad σ us f S G hσ hU hR kk)
      | 14, _ => exact k_tabIn (off := 922) hC 962 dL_law_40 (by decide) (by decide) (by decide) (by decide) (law_c14 H0 ad σ us f S G hσ hU hR kk)
      | 15, _ => exact k_tabIn (off := 978) hC 1018 dL_law_40 (by decide) (by decide) (by decide) (by decide) (law_c15 H0 ad σ us f S G hσ hU hR kk)
      | 16, _ => exact k_tabIn (off := 1034) hC 1074 dL_law_40 (by decide) (by decide) (by decide) (by decide) (law_c16 H0 ad σ us f S G hσ hU hR kk)
      | 17, _ => exact k_tabIn (off := 1090) hC 1130 dL_law_40 (by decide) (by decide) (by decide) (by decide) (law_c17 H0 ad σ us f S G hσ hU hR kk)
      | 18, _ => exact k_tabIn (off := 1146) hC 1186 dL_law_40 (by decide) (by decide) (by decide) (by decide) (law_c18 H0 ad σ us f S G hσ hU hR kk)
      | 19, _ => exact k_tabIn (off := 1202) hC 1242 dL_law_40 (by decide) (by decide) (by decide) (by decide) (law_c19 H0 ad σ us f S G hσ hU hR kk)
      | 20, _ => exact k_tabIn (off := 1258) hC 1298 dL_law_40 (by decide) (by decide) (by decide) (by decide) (law_c20 H0 ad σ us f S G hσ hU hR kk)
      | 21, _ => exact k_tabIn (off := 1314) hC 1354 dL_law_40 (by decide) (by decide) (by decide) (by decide) (law_c21 H0 ad σ us f S G hσ hU hR kk)
      | 22, _ => exact k_tabIn (off := 1370) hC 1410 dL_law_40 (by decide) (by decide) (by decide) (by decide) (law_c22 H0 ad σ us f S G hσ hU hR kk)
      | 23, _ => exact k_tabIn (off := 1426) hC 1466 dL_law_40 (by decide) (by decide) (by decide) (by decide) (law_c23 H0 ad σ us f S G hσ hU hR kk)
      | 24, _ => exact k_tabIn (off := 1439) hC 1479 dL_law_40 (by decide) (by decide) (by decide) (by decide) (law_c24 H0 ad σ us f S G hσ hU hR kk)
      | 25, _ => exact k_tabIn (off := 1452) hC 1492 dL_law_40 (by decide) (by decide) (by decide) (by decide) (law_c25 H0 ad σ us f S G hσ hU hR kk)
      | 26, _ => exact k_tabIn (off := 1465) hC 1505 dL_law_40 (by decide) (by decide) (by decide) (by decide) (law_c26 H0 ad σ us f S G hσ hU hR kk)
      | 27, _ => exact k_tabIn (off := 1521) hC 1561 dL_law_40 (by decide) (by decide) (by decide) (by decide) (law_c27 H0 ad σ us f S G hσ hU hR kk)
      | 28, _ => exact k_tabIn (off := 1534) hC 1574 dL_law_40 (by decide) (by decide) (by decide) (by decide) (law_c28 H0 ad σ us f S G hσ hU hR kk)
      | j + 29, hj => exact k_tabOut hC 1587 dL_law_40 (Or.inr (by rw [nI_toInt (by omega)]; omega)) (by decide) (kk ad σ us f S G k9 n9 hσ hU hR (by omega) (by omega))
theorem kPermS {α : Type} {a b c : List α} : (((c ++ a) ++ b) ++ []).Perm (((a ++ b) ++ c) ++ []) := by
  rw [List.append_nil, List.append_nil, List.append_assoc]
  exact List.perm_append_comm
set_option maxRecDepth 100000 in
set_option maxHeartbeats 4000000 in
theorem law_start {p : Program} {l : Launch} {e : Env} {s : State} {m : MethodId} {below : List Frame} {meth : Method} {cd : Code} {K : kE} {b0 L : Nat} {xs : Nat → Int32} (hst : l.stackTraces = false) (hC : kC p s m #[Value.ref b0] meth cd K (fun q : Nat => s.heap.size ≤ q) 7 cL_law RL) (hX0 : va_X b0 L xs s s.heap) (hbl : b0 < s.heap.size) (hL : L ≤ 3072) (hr : meth.sig.returnType = ret) : kW p l e room_1 s m #[Value.ref b0] below meth cd K (fun q : Nat => s.heap.size ≤ q) 7 (lw_Z below #[Value.ref b0] s) 0 0 [] [] [(0, .ref b0)] 0 [] := by
  refine k_new hC (ci := 3) inlX3 tyX3_ok rfl lkL_L_8 lkB_X3 lkN_X3 [.null, .int (nI 0), .int (nI 0), .int (nI 0), .int (nI 0), .int (nI 0), .int (nI 0), .int (nI 0)] (by decide) (Nat.le_of_ble_eq_true rfl) (Nat.le_of_ble_eq_true rfl) dL_law_0 (fun x => ?_)
  refine k_eX (show _ = [kO x 3 [.null, .int (nI 0), .int (nI 0), .int (nI 0), .int (nI 0), .int (nI 0), .int (nI 0), .int (nI 0)]] from rfl) ?_
  refine k_dup hC dL_law_3 rfl ?_
  refine k_callI hC (As := []) (cX3_init_k l K x) [] rfl (kAll4 lkM_L_82 lkI_yX3_init lkN_X3 lkC_yX3_init) rfl 0 (by decide) ⟨(Nat.le_of_ble_eq_true rfl), (Nat.le_of_ble_eq_true rfl)⟩ rfl rfl (Nat.le_of_ble_eq_true rfl) ⟨(Nat.le_of_ble_eq_true rfl), (Nat.le_of_ble_eq_true rfl)⟩ dL_law_4 (fun v w h => ?_)
  obtain ⟨rfl, rfl⟩ := h
  refine k_re 1 8 ((wX K x (fun _ _ => 0) mS0 (fun _ _ _ => 0))) [.ref x] rfl rfl (List.append_nil _) rfl ?_
  refine k_astore_n hC 1 dL_law_7 rfl (by decide) rfl [(0, .ref b0), (1, .ref x)] rfl ?_
  refine k_new hC (ci := 4) inlX4 tyX4_ok rfl lkL_L_83 lkB_X4 lkN_X4 [.int (nI 0), .int (nI 0), .int (nI 0), .int (nI 0), .int (nI 0), .int (nI 0), .int (nI 0), .int (nI 0), .int (nI 0), .null, .null, .null, .null, .null, .null, .null, .null, .null, .null, .null, .null, .null, .null, .null, .null, .null, .null, .null, .null, .null] (by decide) (Nat.le_of_ble_eq_true rfl) (Nat.le_of_ble_eq_true rfl) dL_law_8 (fun y => ?_)
  refine k_perm2 [] ([kO y 4 [.int (nI 0), .int (nI 0), .int (nI 0), .int (nI 0), .int (nI 0), .int (nI 0), .int (nI 0), .int (nI 0), .int (nI 0), .null, .null, .null, .null, .null, .null, .null, .null, .null, .null, .null, .null, .null, .null, .null, .null, .null, .null, .null, .null, .null]] ++ wX K x (fun _ _ => 0) mS0 (fun _ _ _ => 0)) (by rw [List.append_nil, List.append_nil]; exact List.perm_append_comm) ?_
  refine k_dup hC dL_law_11 rfl ?_
  refine k_callI hC (As := []) (cX4_init_k l K y) (wX K x (fun _ _ => 0) mS0 (fun _ _ _ => 0)) rfl (kAll4 lkM_L_85 lkI_yX4_init lkN_X4 lkC_yX4_init) rfl 0 (by decide) ⟨(Nat.le_of_ble_eq_true rfl), (Nat.le_of_ble_eq_true rfl)⟩ rfl rfl (Nat.le_of_ble_eq_true rfl) ⟨(Nat.le_of_ble_eq_true rfl), (Nat.le_of_ble_eq_true rfl)⟩ dL_law_12 (fun v w h => ?_)
  obtain ⟨rfl, b, rfl⟩ := h
  refine k_re 23 704 ((wM K y b (fun _ => nI 0) (fun _ _ => 0) ++ wX K x (fun _ _ => 0) mS0 (fun _ _ _ => 0))) [.ref y] rfl rfl rfl rfl ?_
  refine k_astore_n hC 2 dL_law_15 rfl (by decide) rfl [(0, .ref b0), (1, .ref x), (2, .ref y)] rfl ?_
  refine k_iconst hC (nI 1) dL_law_16 rfl ?_
  refine k_newJ hC 1 rfl (by decide) (Nat.le_of_ble_eq_true rfl) (Nat.le_of_ble_eq_true rfl) lkA_long dL_law_17 (fun o => ?_)
  refine k_re 24 705 (((wM K y b (fun _ => nI 0) (fun _ _ => 0) ++ wX K x (fun _ _ => 0) mS0 (fun _ _ _ => 0)) ++ [kJ K o 1 (fun _ => 0)])) [.ref o] rfl rfl rfl rfl ?_
  refine k_astore_n hC 3 dL_law_19 rfl (by decide) rfl [(0, .ref b0), (1, .ref x), (2, .ref y), (3, .ref o)] rfl ?_
  refine k_iconst hC (nI 0) dL_law_20 rfl ?_
  refine k_istore hC dL_law_21 (by decide) rfl [(0, .ref b0), (1, .ref x), (2, .ref y), (3, .ref o), (4, .int (nI 0))] rfl ?_
  refine k_perm2 [] (wL K x (fun _ _ => 0) mS0 (fun _ _ _ => 0) o (fun _ => 0) y b (fun _ => nI 0) (fun _ _ => 0)) kPermS ?_
  exact law_loop hst hC hX0 hbl hL hr x y o b (L + 6) 0 (fun _ _ => 0) mS0 (fun _ _ _ => 0) (fun _ => 0) (fun _ => nI 0) (fun _ _ => 0) 24 705 (by omega) (Nat.zero_le _) mSok_0 mURT_0 mRep_0' (by omega) (by omega)
/-- YOUR PART: from the entry, for every script of at most 3072 ints, the law comes to its end with true ('hflags': the launch's flags, for a law that throws: no stack traces) -/
theorem whole_start {p : Program} {e : Env} {s : State} {m : MethodId} {below : List Frame} {meth : Method} {c : Code} (l : Launch) (hflags : l.flags = flags0) {b L : Nat} {xs : Nat → Int32} (hL : L ≤ 3072) (C0 : lw_At p s m meth c b L xs) : W p l e room_1 s m #[Value.ref b] below meth c s.heap [] 0 0 (lw_Z below #[Value.ref b] s) (entryFrame m ([Value.ref b] : List Value).toArray 7) := by
  have hst : l.stackTraces = false := by
    unfold Launch.stackTraces
    rw [hflags]
    decide +kernel
  obtain ⟨K, hC⟩ := kG_entry C0
  obtain ⟨hx, hb, hr, hml, hown, hts, hX, hbl, hlocks, hgv⟩ := C0
  have hl := lv_entry ([.ref b]) (n := 7) (Nat.le_of_ble_eq_true rfl)
  rw [lg_entry_eq]
  generalize (lg_sl ([.ref b]) ++ List.replicate (7 - (lg_sl ([.ref b])).length) Slot.unset).toArray = ls at hl ⊢
  exact law_start hst hC hX hbl hL hr s.heap [] ls (fun k q h => by simp at h) ⟨fun i j p q h => by simp at h, fun k q h => by simp at h⟩ va_S.rf hl
-- ===== YOUR PART ENDS =====
set_option maxHeartbeats 4000000 in
theorem lw_walk (l : Launch) (hflags : l.flags = flags0) (b : Addr) (xs : List Int32) : MetFree l x (headSpec (Jvm.Cond.code x code maxLocals ret :: tables_1) room_1) (lw_P b xs) (fun _ _ _ _ _ => True) lw_Q := by
  refine MetFree.of_bodyS (code := code) (maxLocals := maxLocals) (ret := ret) (by decide) ?_ ?_
  · intro args s m h hn
    obtain ⟨meth, c, h1, h2, h3, h4, h5, h6, -, -⟩ := Cond.code_spec hn (atoms_spec (ws := Jvm.Cond.code x code maxLocals ret :: tables_1) h _ List.mem_cons_self)
    exact ⟨meth, c, h1, h2, h3, h4, h5, h6⟩
  · intro p e s m args below meth c s₁ B hml0 hP _
    obtain ⟨rfl, hx, hbd, hgv⟩ := hP
    obtain ⟨scr, harrAt, hlist, hof, hsmall⟩ := hx
    obtain ⟨hcb, hkn, -, -⟩ := State.arrayAt?_spec harrAt
    have hown : s.vm.findClass R_law = some m.cls := findClass_of_methodNamed B.named
    have hts0 : ∀ c ∈ (Jvm.Cond.code x code maxLocals ret :: tables_1), c.before #[Value.ref b] s = true := atoms_spec (ws := Jvm.Cond.code x code maxLocals ret :: tables_1) B.pre
    have hts : ∀ w ∈ lw_tbl, w.before #[Value.ref b] s = true := k2_hts_sels lw_privs (fun w hw => hts0 w (List.mem_cons_of_mem _ hw)) lw_privs_ok
    have hml : c.maxLocals = 7 := B.maxLocals_eq (hts0 _ List.mem_cons_self)
    have X₀ : Stand p l e room_1 s m #[Value.ref b] below meth c s₁ [] 0 0 := Stand.of_body B
    have hh0 : s₁.heap = s.heap := by rw [B.state]; rfl
    have hsz : scr.slots.size = xs.length := by rw [← Array.length_toList, hlist, List.length_map]
    have hval : ∀ j : Nat, j < xs.length → scr.slots[j]? = some (.int (xs.getD j 0)) := fun j hj => by
      rw [← Array.getElem?_toList, hlist]
      simp [hj]
    have hbl : b < s.heap.size := (Array.getElem?_eq_some_iff.mp hcb).1
    have hX : va_X b xs.length (fun j => xs.getD j 0) s s.heap := ⟨scr, hcb, hof, hkn, hsz, hval⟩
    have K : W p l e room_1 s m #[Value.ref b] below meth c s₁.heap [] 0 0 (lw_Z below #[Value.ref b] s) (entryFrame m ([Value.ref b] : List Value).toArray 7) := by
      rw [hh0]
      exact whole_start l hflags hbd ⟨B.exec, B.bytes, B.returns, hml, hown, hts, hX, hbl, B.notSynchronized, hgv⟩
    obtain ⟨t, a1, o, b1, b2, b3⟩ := K s₁ rfl X₀
    exact ⟨t, o, a1, b1, b2, b3⟩
theorem lw_pre_spec {args : Array Value} {s : State} (h : (Jvm.Cond.and given_1 narrow_1).before args s = true) (hr : rest_1_c.before args s = true) : ∃ (b : Addr) (xs : List Int32), lw_P b xs args s := by
  have hs := flat_of_before _ h
  have hq := flat_of_before _ hr
  have hc : (Cond.count 1).before args s = true := hs _ (by decide +kernel)
  have harr : (Cond.arrayOf (.arg 0) .int).before args s = true := hs _ (by decide +kernel)
  have hle : (Cond.le (.length (.arg 0)) (.int 3072)).before args s = true := hs _ (by decide +kernel)
  have hlen : (Cond.isInt (.length (.arg 0))).before args s = true := hq _ (by decide +kernel)
  have hall : (Cond.all (.arg 0) (.isInt (.elem (.arg 0) (.index 0)))).before args s = true := hq _ (by decide +kernel)
  obtain ⟨b, xs, hb, hx⟩ := State.ints_of_pre rfl harr hlen hall
  have hsm : xs.length < 2 ^ 31 := hx.choose_spec.2.2.2
  have hev : (Term.length (.arg 0)).eval args s none [] s = some (.int xs.length.toInt32) := hx.length_eval hb
  have hv := Cond.le_ints hev (show (Term.int 3072).eval args s none [] s = some (.int 3072) from rfl)
  have hd : xs.length.toInt32 ≤ 3072 := by
    simpa [Cond.before, Cond.holds, hv] using hle
  have hN : xs.length ≤ 3072 := (Int32.ofNat_le_ofNat hsm (by decide)).mp (show Int32.ofNat xs.length ≤ Int32.ofNat 3072 from hd)
  exact ⟨b, xs, Cond.one_arg hc (show args[0]? = some (.ref b) from hb), hx, hN, h⟩
theorem lw_comes (l : Launch) (hflags : l.flags = flags0) : Comes l x (Jvm.Cond.code x code maxLocals ret :: tables_1) room_1 (fun tb e args s => Calls_1 tb e args s ∧ rest_1 tb e args s ∧ Pre_1 tb e args s)
    (fun _ _ args s o t => lw_Q args s o t) := by
  intro p e ha hc hk s m args below hf hfit hheap happ hpre
  obtain ⟨b, xs, hP⟩ := lw_pre_spec hpre.2.2 hpre.2.1
  obtain ⟨k, o, h1, h2, h3, hQ⟩ := lw_walk l hflags b xs p e ha hc hk s m args below hf ((Spec.applies_iff_loose hf).mp happ).1 hP trivial
  exact ⟨k, o, h1, h2, h3, hQ⟩
theorem lw_frame {s t : State} {o : Outcome} {args : Array Value} (h : Framed s o t [] 646352 7157049) :
    Framed s o t (fieldLocs frame_1_writes args s ++ arrayLocs frame_1_arrays args s ++ staticLocs frame_1_statics s) 646352 7157049 := h
theorem lw_limb (L : Cond) (hL : ∀ (args : Array Value) (s t : State), L.after args s (.returned (some (.int 1))) t = true) :
    ArmFor flags0 classFile x code maxLocals ret World_1 tables_1 room_1 Calls_1 rest_1 Pre_1
      (fun tb e a s o t => postC L tb e a s o t ∧ Framed s o t (fieldLocs frame_1_writes a s ++ arrayLocs frame_1_arrays a s ++ staticLocs frame_1_statics s) 646352 7157049) := by
  intro l hflags _ _ p e ha hc hk s m args below hf hfit hheap happ hpre
  obtain ⟨k, o, h1, h2, h3, rfl, hF⟩ := lw_comes l hflags p e ha hc hk s m args below hf hfit hheap happ hpre
  exact ⟨k, _, h1, h2, h3, hL args s _, lw_frame hF⟩
theorem i_vc : Claimed_1_1 ∧ Claimed_1_2 := ⟨lw_limb limb_1_1 (fun args s t => by simp [limb_1_1, Cond.after, Cond.holds, Cond.value]), lw_limb limb_1_2 (fun args s t => Cond.after_iff.mpr (by
  first | (rw [show limb_1_2 = Cond.eq .result (.int 1) from rfl, Cond.eq_ints (x := 1) (y := 1) rfl rfl]; simp; done) | (simp [limb_1_2, Cond.value, Term.eval]; done)))⟩
