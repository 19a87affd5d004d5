/-! KanbanLoop: needed, stock, a step, a new stage -/
section KD
variable {p : Program} {l : Launch} {e : Env} {R : Room} {s : State} {m : MethodId} {args : Array Value} {below : List Frame} {meth : Method} {c : Code} {K : kE} {A : Nat → Prop} {nL : Nat} {Q : State → Prop} {k n : Nat} {pl X : va_W} {lv : List (Nat × Value)} {pc : Nat} {st : List Value}
theorem k_dist {P : Prop} (h : ∀ A' : Nat → Prop, va_D A' (X ++ pl) → P) (kk : P → kW p l e R s m args below meth c K A nL Q k n pl X lv pc st) : kW p l e R s m args below meth c K A nL Q k n pl X lv pc st :=
  fun H locs ls hP hD hS hl => kk (h A hD) H locs ls hP hD hS hl
end KD
theorem wCh_mem {K : kE} {ad : Nat → Nat → Nat} {τs : Nat → mT} {us : Nat → Nat → Nat → Int32} {P : Nat → Bool} {n k : Nat} (hk : k < n) (hP : P k = true) : ∀ q ∈ wT K (mAh ad k) (ad k) (τs k) (us k), q ∈ wCh K ad τs us P n := fun q hq => (wCh_open hk hP).mem_iff.mpr (List.mem_append_left _ hq)
theorem wX_inj {K : kE} {x : Nat} {ad : Nat → Nat → Nat} {σ : mS} {us : Nat → Nat → Nat → Int32} {A : Nat → Prop} (hD : va_D A (wX K x ad σ us)) : ∀ i j : Nat, i < σ.1 → j < σ.1 → ad i 0 = ad j 0 → i = j := by
  intro i j hi hj e
  by_cases hij : i = j
  · exact hij
  · exfalso
    have hD2 : va_D A (wT K (mAh ad i) (ad i) (σ.2.2.2 i) (us i) ++ wCh K ad σ.2.2.2 us (fun k => true && !(k == i)) σ.1) := by
      refine va_D_perm (wCh_open hi rfl) ?_
      exact ⟨fun a b p q ha hb h => by have := hD.1 (a + 1) (b + 1) p q ha hb h; omega, fun a q ha => hD.2 (a + 1) q ha⟩
    have hm := wCh_mem (K := K) (ad := ad) (τs := σ.2.2.2) (us := us) (P := fun k => true && !(k == i)) hj (by simp; omega) _ List.mem_cons_self
    obtain ⟨b, hb⟩ := List.getElem?_of_mem hm
    have hlt : (wT K (mAh ad i) (ad i) (σ.2.2.2 i) (us i)).length = 10 := rfl
    have := hD2.1 0 (10 + b) _ _ rfl (by rw [List.getElem?_append_right (by rw [hlt]; omega), hlt, Nat.add_sub_cancel_left]; exact hb) e
    omega
abbrev rmX3_wayBehind : Room := { frames := 0, cells := 0, slots := 0, locals := 0 }
set_option maxRecDepth 100000 in
set_option maxHeartbeats 4000000 in
theorem cX3_wayBehind_k (l : Launch) (K : kE) (x : Nat) (ad : Nat → Nat → Nat) (σ : mS) (us : Nat → Nat → Nat → Int32) (hσ : mSok σ) (hU : mURT σ us) (k9 : Nat) (hk9 : k9 < σ.1) : kM l yX3_wayBehind (kws yX3_wayBehind cX3_wayBehind 3 (some .int)) rmX3_wayBehind K [.ref x, .ref (ad k9 0)] (wX K x ad σ us) (fun v w => v = some (.int (nI (mBehind σ k9))) ∧ w = wX K x ad σ us) := by
  refine kM_of (pl := []) (X := (wX K x ad σ us)) (List.append_nil _).symm (by decide) (Nat.le_of_ble_eq_true rfl) ?_
  intro p e s m args below meth cd A Q hC hnm hE
  refine k_dist (P := ∀ i j : Nat, i < σ.1 → j < σ.1 → ad i 0 = ad j 0 → i = j) (fun A1 hD => wX_inj (by rw [List.append_nil] at hD; exact hD)) (fun hinj => ?_)
  refine k_aload_n hC 0 dX3_wayBehind_0 rfl rfl ?_
  refine k_get hC inlX3 0 0 rfl rfl (by decide) lkF_X3_7 rfl dX3_wayBehind_1 ?_
  refine k_astore_nV hC 2 dX3_wayBehind_4 rfl (mAh_or _ _) (by decide) rfl [(0, .ref x), (1, .ref (ad k9 0)), (2, mAh ad σ.1)] rfl ?_
  have loop : ∀ j : Nat, j ≤ σ.1 → (∀ i : Nat, j ≤ i → i < σ.1 → i ≠ k9 + 1) → kW p l e rmX3_wayBehind s m args below meth cd K A 3 Q 0 0 ([]) (wX K x ad σ us) [(0, .ref x), (1, .ref (ad k9 0)), (2, mAh ad j)] 5 [] := by
    intro j
    induction j with
    | zero =>
      intro h1 h2
      have g : kW p l e rmX3_wayBehind s m args below meth cd K A 3 Q 0 0 ([]) (wX K x ad σ us) [(0, .ref x), (1, .ref (ad k9 0)), (2, .null)] 5 [] := by
        refine k_aload_nN hC 2 dX3_wayBehind_5 rfl rfl ?_
        refine k_ifnullN hC 30 dX3_wayBehind_6 (by decide) ?_
        refine k_iconst hC (nI 0) dX3_wayBehind_30 rfl ?_
        exact k_iret hC hE (Nat.le_of_ble_eq_true rfl) (Nat.le_of_ble_eq_true rfl) dX3_wayBehind_31 ⟨by unfold mBehind; rw [if_neg (fun q => h2 (k9 + 1) (Nat.zero_le _) q rfl)], List.append_nil _⟩
      exact g
    | succ j ih =>
      intro h1 h2
      obtain ⟨i9, hi9⟩ := wX_at (K := K) (x := x) (ad := ad) (us := us) (show j < σ.1 from h1)
      have g : kW p l e rmX3_wayBehind s m args below meth cd K A 3 Q 0 0 ([]) (wX K x ad σ us) [(0, .ref x), (1, .ref (ad k9 0)), (2, .ref (ad j 0))] 5 [] := by
        rcases j with _ | j
        · refine k_aload_n hC 2 dX3_wayBehind_5 rfl rfl ?_
          refine k_ifnull hC dX3_wayBehind_6 ?_
          refine k_aload_n hC 2 dX3_wayBehind_9 rfl rfl ?_
          refine k_getN hC inlX1 i9 0 hi9 rfl (by decide) (List.mem_of_getElem? (i := 2) rfl) rfl dX3_wayBehind_10 ?_
          refine k_aload_n hC 1 dX3_wayBehind_13 rfl rfl ?_
          refine k_acmp_ne hC (rx := none) (ry := some (ad k9 0)) rfl rfl 22 dX3_wayBehind_14 (by decide) (fun c1 => ?_) (fun c1 => ?_)
          · refine k_aload_n hC 2 dX3_wayBehind_22 rfl rfl ?_
            refine k_getN hC inlX1 i9 0 hi9 rfl (by decide) (List.mem_of_getElem? (i := 2) rfl) rfl dX3_wayBehind_23 ?_
            refine k_astore_nN hC 2 dX3_wayBehind_26 rfl (by decide) rfl [(0, .ref x), (1, .ref (ad k9 0)), (2, .null)] rfl ?_
            refine k_goto hC 5 dX3_wayBehind_27 (by decide) ?_
            refine ih (Nat.le_of_lt h1) (fun i hi1 hi2 q => ?_)
            rcases Nat.lt_or_ge 0 i with h | h
            · exact h2 i h hi2 q
            · omega
          · cases c1
        · refine k_aload_n hC 2 dX3_wayBehind_5 rfl rfl ?_
          refine k_ifnull hC dX3_wayBehind_6 ?_
          refine k_aload_n hC 2 dX3_wayBehind_9 rfl rfl ?_
          refine k_getN hC inlX1 i9 0 hi9 rfl (by decide) (List.mem_of_getElem? (i := 2) rfl) rfl dX3_wayBehind_10 ?_
          refine k_aload_n hC 1 dX3_wayBehind_13 rfl rfl ?_
          refine k_acmp_ne hC (rx := some (ad j 0)) (ry := some (ad k9 0)) rfl rfl 22 dX3_wayBehind_14 (by decide) (fun c1 => ?_) (fun c1 => ?_)
          · refine k_aload_n hC 2 dX3_wayBehind_22 rfl rfl ?_
            refine k_getN hC inlX1 i9 0 hi9 rfl (by decide) (List.mem_of_getElem? (i := 2) rfl) rfl dX3_wayBehind_23 ?_
            refine k_astore_n hC 2 dX3_wayBehind_26 rfl (by decide) rfl [(0, .ref x), (1, .ref (ad k9 0)), (2, .ref (ad j 0))] rfl ?_
            refine k_goto hC 5 dX3_wayBehind_27 (by decide) ?_
            refine ih (Nat.le_of_lt h1) (fun i hi1 hi2 q => ?_)
            rcases Nat.lt_or_ge (j + 1) i with h | h
            · exact h2 i h hi2 q
            · exact c1 (by rw [show k9 = j by omega])
          · have e9 := hinj j k9 (by omega) hk9 (Option.some.inj c1)
            refine k_aload_n hC 2 dX3_wayBehind_17 rfl rfl ?_
            refine k_getN hC inlX1 i9 15 hi9 rfl (by decide) (List.mem_of_getElem? (i := 17) rfl) rfl dX3_wayBehind_18 ?_
            exact k_iret hC hE (Nat.le_of_ble_eq_true rfl) (Nat.le_of_ble_eq_true rfl) dX3_wayBehind_21 ⟨by unfold mBehind; rw [if_pos (by omega), ← e9], List.append_nil _⟩
      exact g
  exact loop σ.1 (Nat.le_refl _) (fun i h1 h2 => absurd h1 (by omega))
abbrev rmX3_needed : Room := { frames := 7, cells := 2, slots := 12, locals := 122 }
set_option maxRecDepth 100000 in
set_option maxHeartbeats 4000000 in
theorem cX3_needed_k {l : Launch} (hst : l.stackTraces = false) (K : kE) (x : Nat) (ad : Nat → Nat → Nat) (σ : mS) (us : Nat → Nat → Nat → Int32) (hσ : mSok σ) (hU : mURT σ us) (p9 v9 : Int32) : kX l yX3_needed (kws yX3_needed cX3_needed 8 (some .int)) rmX3_needed K [.ref x, .int p9, .int v9] (wX K x ad σ us) (kPo K x (oNeeded σ p9 v9)) (kPx (oNeeded σ p9 v9) "java/lang/IndexOutOfBoundsException" "java/lang/IllegalArgumentException") := by
  refine kX_of hst (pl := []) (X := (wX K x ad σ us)) (List.append_nil _).symm (by decide) (Nat.le_of_ble_eq_true rfl) ?_
  intro p e s m args below meth cd A Q hC hX hE
  refine k_aload_n hC 0 dX3_needed_0 rfl rfl ?_
  refine k_iload_n hC 1 dX3_needed_1 rfl rfl ?_
  refine k_callXV hC hX (As := [.int p9]) (cX3_find_k hst K x ad σ us hσ hU p9) [] (List.append_nil _).symm (fun _ h => List.mem_append_left _ h) (fun E q => Or.inl ⟨by simp only [oNeeded, if_neg q.2], q.1⟩) 0 rfl rfl (kAll5 lkM_X3_62 lkI_yX3_find lkS_yX3_find lkN_X3 lkC_yX3_find) 1 (by decide) ⟨(Nat.le_of_ble_eq_true rfl), (Nat.le_of_ble_eq_true rfl)⟩ rfl rfl (Nat.le_of_ble_eq_true rfl) ⟨(Nat.le_of_ble_eq_true rfl), (Nat.le_of_ble_eq_true rfl)⟩ ⟨(Nat.le_of_ble_eq_true rfl), (Nat.le_of_ble_eq_true rfl)⟩ dX3_needed_2 (fun v w h => ?_)
  obtain ⟨k, hk, rfl, rfl, rfl⟩ := h
  have hk1 := Nat.zero_le k
  refine k_re 1 6 (wX K x ad σ us) [.ref (ad k 0)] rfl rfl (List.append_nil _) rfl ?_
  have hk31 : k < 2 ^ 31 := by have := hσ.1; omega
  have hm : mHas σ 0 (nI k) := mHas_k hσ.1 hk1 hk
  have hi := hσ.2 k hk
  have hT := hU k hk
  have hn := hi.1.1
  have h9 : (σ.2.2.2 k).1 9 ≤ 9 := by have := hi.1.2.1; omega
  have hl2 := mInv_L2 hi.1
  have hl1 := mInv_L1 hi.1
  have hl0 := mInv_L0 hi.1
  obtain ⟨i9, hi9⟩ := wX_at (K := K) (x := x) (ad := ad) (us := us) hk
  refine k_astore_n hC 3 dX3_needed_5 rfl (by decide) rfl [(0, .ref x), (1, .int (nI k)), (2, .int v9), (3, .ref (ad k 0))] rfl ?_
  refine k_iload_n hC 2 dX3_needed_6 rfl rfl ?_
  refine k_iconst hC (nI 0) dX3_needed_7 rfl ?_
  refine k_bipush hC (nI 100) dX3_needed_8 rfl ?_
  refine k_callXS hC hX (As := [.int v9, .int (nI 0), .int (nI 100)]) (cX3_checkRange_k hst K v9 (nI 0) (nI 100)) (wX K x ad σ us) rfl (fun _ h => List.mem_append_left _ h) (fun E q => Or.inr ⟨by simp only [oNeeded, if_pos hm, if_neg q.2], q.1⟩) (kAll4 lkM_X3_36 lkT_yX3_checkRange lkN_X3 lkC_yX3_checkRange) 3 (by decide) ⟨(Nat.le_of_ble_eq_true rfl), (Nat.le_of_ble_eq_true rfl)⟩ rfl rfl (Nat.le_of_ble_eq_true rfl) ⟨(Nat.le_of_ble_eq_true rfl), (Nat.le_of_ble_eq_true rfl)⟩ ⟨(Nat.le_of_ble_eq_true rfl), (Nat.le_of_ble_eq_true rfl)⟩ dX3_needed_10 (fun v w h => ?_)
  obtain ⟨rfl, rfl, h1, h2⟩ := h
  have hv : mIn v9 0 100 := ⟨h1, h2⟩
  refine k_re 2 12 (wX K x ad σ us) [] rfl rfl rfl rfl ?_
  refine k_aload_n hC 3 dX3_needed_13 rfl rfl ?_
  refine k_getN hC inlX1 i9 7 hi9 rfl (by decide) (List.mem_of_getElem? (i := 9) rfl) rfl dX3_needed_14 ?_
  refine k_aload_n hC 3 dX3_needed_17 rfl rfl ?_
  refine k_getN hC inlX1 i9 3 hi9 rfl (by decide) (List.mem_of_getElem? (i := 5) rfl) rfl dX3_needed_18 ?_
  refine k_imulN hC dX3_needed_21 ?_
  refine k_aload_n hC 0 dX3_needed_22 rfl rfl ?_
  refine k_aload_n hC 3 dX3_needed_23 rfl rfl ?_
  refine k_callV hC (As := [.ref (ad k 0)]) (cX3_wayBehind_k l K x ad σ us hσ hU k hk) [] (List.append_nil _).symm 0 rfl rfl (kAll5 lkM_X3_103 lkI_yX3_wayBehind lkS_yX3_wayBehind lkN_X3 lkC_yX3_wayBehind) 1 (by decide) ⟨(Nat.le_of_ble_eq_true rfl), (Nat.le_of_ble_eq_true rfl)⟩ rfl rfl (Nat.le_of_ble_eq_true rfl) ⟨(Nat.le_of_ble_eq_true rfl), (Nat.le_of_ble_eq_true rfl)⟩ dX3_needed_24 (fun v w h => ?_)
  obtain ⟨rfl, rfl⟩ := h
  refine k_re 2 12 (wX K x ad σ us) [.int (nI (mBehind σ k)), .int (nI ((((σ.2.2.2 k)).1 7) * (((σ.2.2.2 k)).1 3)))] rfl rfl (List.append_nil _) rfl ?_
  refine k_iaddN hC dX3_needed_27 ?_
  refine k_istore hC dX3_needed_28 (by decide) rfl [(0, .ref x), (1, .int (nI k)), (2, .int v9), (3, .ref (ad k 0)), (4, .int (nI (((((σ.2.2.2 k)).1 7) * (((σ.2.2.2 k)).1 3)) + (mBehind σ k))))] rfl ?_
  refine k_aload_n hC 0 dX3_needed_30 rfl rfl ?_
  refine k_get hC inlX3 0 3 rfl rfl (by decide) lkF_X3_21 rfl dX3_needed_31 ?_
  refine k_iload hC dX3_needed_34 rfl ?_
  refine k_imul hC dX3_needed_36 ?_
  refine k_bipush hC (nI 100) dX3_needed_37 rfl ?_
  refine k_iload_n hC 2 dX3_needed_39 rfl rfl ?_
  refine k_iadd hC dX3_needed_40 ?_
  refine k_imul hC dX3_needed_41 ?_
  refine k_istore hC dX3_needed_42 (by decide) rfl [(0, .ref x), (1, .int (nI k)), (2, .int v9), (3, .ref (ad k 0)), (4, .int (nI (((((σ.2.2.2 k)).1 7) * (((σ.2.2.2 k)).1 3)) + (mBehind σ k)))), (5, .int (((σ.2.2.1 3) * nI (((((σ.2.2.2 k)).1 7) * (((σ.2.2.2 k)).1 3)) + (mBehind σ k))) * (nI 100 + v9)))] rfl ?_
  refine k_bipush hC (nI 100) dX3_needed_44 rfl ?_
  refine k_aload_n hC 3 dX3_needed_46 rfl rfl ?_
  refine k_getN hC inlX1 i9 2 hi9 rfl (by decide) (List.mem_of_getElem? (i := 4) rfl) rfl dX3_needed_47 ?_
  refine k_imulN hC dX3_needed_50 ?_
  refine k_istore hC dX3_needed_51 (by decide) rfl [(0, .ref x), (1, .int (nI k)), (2, .int v9), (3, .ref (ad k 0)), (4, .int (nI (((((σ.2.2.2 k)).1 7) * (((σ.2.2.2 k)).1 3)) + (mBehind σ k)))), (5, .int (((σ.2.2.1 3) * nI (((((σ.2.2.2 k)).1 7) * (((σ.2.2.2 k)).1 3)) + (mBehind σ k))) * (nI 100 + v9))), (6, .int (nI (100 * (((σ.2.2.2 k)).1 2))))] rfl ?_
  refine k_iload hC dX3_needed_53 rfl ?_
  refine k_iconst hC (nI 1) dX3_needed_55 rfl ?_
  refine k_icmp_geN hC 61 dX3_needed_56 (by decide) (by omega) (by omega) (fun c1 => ?_) (fun c1 => ?_)
  · refine k_iload hC dX3_needed_61 rfl ?_
    refine k_iload hC dX3_needed_63 rfl ?_
    refine k_iadd hC dX3_needed_65 ?_
    refine k_iconst hC (nI 1) dX3_needed_66 rfl ?_
    refine k_isub hC dX3_needed_67 ?_
    refine k_iload hC dX3_needed_68 rfl ?_
    refine k_idiv hC dX3_needed_70 (nI_ne0 (by omega) (by omega)) ?_
    refine k_topE (mQuot σ k v9) rfl ?_
    refine k_istore hC dX3_needed_71 (by decide) rfl [(0, .ref x), (1, .int (nI k)), (2, .int v9), (3, .ref (ad k 0)), (4, .int (nI (((((σ.2.2.2 k)).1 7) * (((σ.2.2.2 k)).1 3)) + (mBehind σ k)))), (5, .int (((σ.2.2.1 3) * nI (((((σ.2.2.2 k)).1 7) * (((σ.2.2.2 k)).1 3)) + (mBehind σ k))) * (nI 100 + v9))), (6, .int (nI (100 * (((σ.2.2.2 k)).1 2)))), (7, .int (mQuot σ k v9))] rfl ?_
    refine k_iconst hC (nI 1) dX3_needed_73 rfl ?_
    refine k_iload hC dX3_needed_74 rfl ?_
    refine k_max hC lkM_X3_110 lkT_Math_max_name lkN_J9 lkC_Math_max_name (Nat.le_of_ble_eq_true rfl) (Nat.le_of_ble_eq_true rfl) (Nat.le_of_ble_eq_true rfl) (Nat.le_of_ble_eq_true rfl) dX3_needed_76 ?_
    exact k_iret hC hE (Nat.le_of_ble_eq_true rfl) (Nat.le_of_ble_eq_true rfl) dX3_needed_79 (by rw [show oNeeded σ (nI k) v9 = (0, if nI 1 < mQuot σ k v9 then mQuot σ k v9 else nI 1, σ) by simp only [oNeeded, mIx_nI hk31, if_pos hm, if_pos hv]]; exact ⟨rfl, rfl, ad, us, List.append_nil _, hU⟩)
  · exact absurd (show (1 : Nat) ≤ 100 * (σ.2.2.2 k).1 2 by omega) c1
theorem mSum_le (F : Nat → Nat) (B : Nat) (n : Nat) (h : ∀ k : Nat, k < n → F k ≤ B) : mSum F n ≤ n * B := by
  induction n with
  | zero => exact Nat.zero_le _
  | succ n ih =>
    have h1 := ih (fun k hk => h k (Nat.lt_succ_of_lt hk))
    have h2 := h n (Nat.lt_succ_self n)
    rw [Nat.succ_mul]
    show mSum F n + F n ≤ _
    omega
abbrev rmX3_stock : Room := { frames := 2, cells := 0, slots := 0, locals := 43 }
set_option maxRecDepth 100000 in
set_option maxHeartbeats 4000000 in
theorem cX3_stock_k (l : Launch) (K : kE) (x : Nat) (ad : Nat → Nat → Nat) (σ : mS) (us : Nat → Nat → Nat → Int32) (hσ : mSok σ) (hU : mURT σ us) : kM l yX3_stock (kws yX3_stock cX3_stock 3 (some .int)) rmX3_stock K [.ref x] (wX K x ad σ us) (kPo K x (0, oStock σ, σ)) := by
  refine kM_of (pl := []) (X := (wX K x ad σ us)) (List.append_nil _).symm (by decide) (Nat.le_of_ble_eq_true rfl) ?_
  intro p e s m args below meth cd A Q hC hnm hE
  refine k_iconst hC (nI 0) dX3_stock_0 rfl ?_
  refine k_istore_n hC 1 dX3_stock_1 rfl (by decide) rfl [(0, .ref x), (1, .int (nI 0))] rfl ?_
  refine k_aload_n hC 0 dX3_stock_2 rfl rfl ?_
  refine k_get hC inlX3 0 0 rfl rfl (by decide) lkF_X3_7 rfl dX3_stock_3 ?_
  refine k_astore_nV hC 2 dX3_stock_6 rfl (mAh_or _ _) (by decide) rfl [(0, .ref x), (1, .int (nI 0)), (2, mAh ad σ.1)] rfl ?_
  have loop : ∀ (j q9 : Nat), j ≤ σ.1 → q9 + mSum (fun k => mHeld (σ.2.2.2 k)) j = mSum (fun k => mHeld (σ.2.2.2 k)) σ.1 → kW p l e rmX3_stock s m args below meth cd K A 3 Q 0 0 ([]) (wX K x ad σ us) [(0, .ref x), (1, .int (nI q9)), (2, mAh ad j)] 7 [] := by
    intro j
    induction j with
    | zero =>
      intro q9 h1 h2
      have g : kW p l e rmX3_stock s m args below meth cd K A 3 Q 0 0 ([]) (wX K x ad σ us) [(0, .ref x), (1, .int (nI q9)), (2, .null)] 7 [] := by
        refine k_aload_nN hC 2 dX3_stock_7 rfl rfl ?_
        refine k_ifnullN hC 26 dX3_stock_8 (by decide) ?_
        refine k_iload_n hC 1 dX3_stock_26 rfl rfl ?_
        exact k_iret hC hE (Nat.le_of_ble_eq_true rfl) (Nat.le_of_ble_eq_true rfl) dX3_stock_27 ⟨rfl, by unfold oStock; rw [← h2]; rfl, ad, us, List.append_nil _, hU⟩
      exact g
    | succ k ih =>
      intro q9 hk h2
      have g : kW p l e rmX3_stock s m args below meth cd K A 3 Q 0 0 ([]) (wX K x ad σ us) [(0, .ref x), (1, .int (nI q9)), (2, .ref (ad k 0))] 7 [] := by
        refine k_perm2 (wCh K ad σ.2.2.2 us (fun j => true && !(j == k)) σ.1) [kO x 3 [mAh ad σ.1, .int (nI σ.1), .int (kB σ.2.1), .int (σ.2.2.1 3), .int (σ.2.2.1 4), .int (σ.2.2.1 5), .int (σ.2.2.1 6), .int (σ.2.2.1 7)], kO (ad k 0) 1 [mAh ad k, .int (nI (((σ.2.2.2 k)).1 1)), .int (nI (((σ.2.2.2 k)).1 2)), .int (nI (((σ.2.2.2 k)).1 3)), .ref (ad k 1), .ref (ad k 4), .ref (ad k 7), .int (nI (((σ.2.2.2 k)).1 7)), .int (nI (((σ.2.2.2 k)).1 8)), .int (nI (((σ.2.2.2 k)).1 9)), .int (nI (((σ.2.2.2 k)).1 10)), .int (nI (((σ.2.2.2 k)).1 11)), .int (nI (((σ.2.2.2 k)).1 12)), .int (nI (((σ.2.2.2 k)).1 13)), .int (nI (((σ.2.2.2 k)).1 14)), .int (nI (((σ.2.2.2 k)).1 15)), .int (((σ.2.2.2 k)).2.1 0), .int (((σ.2.2.2 k)).2.1 1)], kO (ad k 1) 2 [.ref (ad k 2), .ref (ad k 3), .int (nI ((((σ.2.2.2 k)).2.2 0).length))], kI K (ad k 2) 10 (us k 0), kZ K (ad k 3) 10 (us k 1), kO (ad k 4) 2 [.ref (ad k 5), .ref (ad k 6), .int (nI ((((σ.2.2.2 k)).2.2 1).length))], kI K (ad k 5) 10 (us k 2), kZ K (ad k 6) 10 (us k 3), kO (ad k 7) 0 [.ref (ad k 8), .ref (ad k 9), .int (nI ((((σ.2.2.2 k)).2.2 2).length))], kI K (ad k 8) 5 (us k 4), kI K (ad k 9) 5 (us k 5)] (by rw [List.append_nil]; exact (wCh_open hk rfl).cons _) ?_
        refine k_aload_n hC 2 dX3_stock_7 rfl rfl ?_
        refine k_ifnull hC dX3_stock_8 ?_
        refine k_iload_n hC 1 dX3_stock_11 rfl rfl ?_
        refine k_aload_n hC 2 dX3_stock_12 rfl rfl ?_
        refine k_perm [1, 2, 3, 4, 5, 6, 7, 8, 9, 10, 0] [kO (ad k 0) 1 [mAh ad k, .int (nI (((σ.2.2.2 k)).1 1)), .int (nI (((σ.2.2.2 k)).1 2)), .int (nI (((σ.2.2.2 k)).1 3)), .ref (ad k 1), .ref (ad k 4), .ref (ad k 7), .int (nI (((σ.2.2.2 k)).1 7)), .int (nI (((σ.2.2.2 k)).1 8)), .int (nI (((σ.2.2.2 k)).1 9)), .int (nI (((σ.2.2.2 k)).1 10)), .int (nI (((σ.2.2.2 k)).1 11)), .int (nI (((σ.2.2.2 k)).1 12)), .int (nI (((σ.2.2.2 k)).1 13)), .int (nI (((σ.2.2.2 k)).1 14)), .int (nI (((σ.2.2.2 k)).1 15)), .int (((σ.2.2.2 k)).2.1 0), .int (((σ.2.2.2 k)).2.1 1)], kO (ad k 1) 2 [.ref (ad k 2), .ref (ad k 3), .int (nI ((((σ.2.2.2 k)).2.2 0).length))], kI K (ad k 2) 10 (us k 0), kZ K (ad k 3) 10 (us k 1), kO (ad k 4) 2 [.ref (ad k 5), .ref (ad k 6), .int (nI ((((σ.2.2.2 k)).2.2 1).length))], kI K (ad k 5) 10 (us k 2), kZ K (ad k 6) 10 (us k 3), kO (ad k 7) 0 [.ref (ad k 8), .ref (ad k 9), .int (nI ((((σ.2.2.2 k)).2.2 2).length))], kI K (ad k 8) 5 (us k 4), kI K (ad k 9) 5 (us k 5), kO x 3 [mAh ad σ.1, .int (nI σ.1), .int (kB σ.2.1), .int (σ.2.2.1 3), .int (σ.2.2.1 4), .int (σ.2.2.1 5), .int (σ.2.2.1 6), .int (σ.2.2.1 7)]] rfl rfl ?_
        refine k_callVN hC (As := []) (cX1_unitsHeld_k l K (ad k) (mAh ad k) (σ.2.2.2 k) (us k) (decide (k = 0)) (hσ.2 k hk).1 (hU k hk)) [kO x 3 [mAh ad σ.1, .int (nI σ.1), .int (kB σ.2.1), .int (σ.2.2.1 3), .int (σ.2.2.1 4), .int (σ.2.2.1 5), .int (σ.2.2.1 6), .int (σ.2.2.1 7)]] rfl 0 rfl rfl (kAll4 lkI_yX1_unitsHeld lkS_yX1_unitsHeld lkN_X1 lkC_yX1_unitsHeld) (List.mem_of_getElem? (i := 18) rfl) 0 (by decide) ⟨(Nat.le_of_ble_eq_true rfl), (Nat.le_of_ble_eq_true rfl)⟩ rfl rfl (Nat.le_of_ble_eq_true rfl) ⟨(Nat.le_of_ble_eq_true rfl), (Nat.le_of_ble_eq_true rfl)⟩ dX3_stock_13 (fun v w h => ?_)
        obtain ⟨rfl, rfl⟩ := h
        refine k_re 0 0 [kO (ad k 0) 1 [mAh ad k, .int (nI (((σ.2.2.2 k)).1 1)), .int (nI (((σ.2.2.2 k)).1 2)), .int (nI (((σ.2.2.2 k)).1 3)), .ref (ad k 1), .ref (ad k 4), .ref (ad k 7), .int (nI (((σ.2.2.2 k)).1 7)), .int (nI (((σ.2.2.2 k)).1 8)), .int (nI (((σ.2.2.2 k)).1 9)), .int (nI (((σ.2.2.2 k)).1 10)), .int (nI (((σ.2.2.2 k)).1 11)), .int (nI (((σ.2.2.2 k)).1 12)), .int (nI (((σ.2.2.2 k)).1 13)), .int (nI (((σ.2.2.2 k)).1 14)), .int (nI (((σ.2.2.2 k)).1 15)), .int (((σ.2.2.2 k)).2.1 0), .int (((σ.2.2.2 k)).2.1 1)], kO (ad k 1) 2 [.ref (ad k 2), .ref (ad k 3), .int (nI ((((σ.2.2.2 k)).2.2 0).length))], kI K (ad k 2) 10 (us k 0), kZ K (ad k 3) 10 (us k 1), kO (ad k 4) 2 [.ref (ad k 5), .ref (ad k 6), .int (nI ((((σ.2.2.2 k)).2.2 1).length))], kI K (ad k 5) 10 (us k 2), kZ K (ad k 6) 10 (us k 3), kO (ad k 7) 0 [.ref (ad k 8), .ref (ad k 9), .int (nI ((((σ.2.2.2 k)).2.2 2).length))], kI K (ad k 8) 5 (us k 4), kI K (ad k 9) 5 (us k 5), kO x 3 [mAh ad σ.1, .int (nI σ.1), .int (kB σ.2.1), .int (σ.2.2.1 3), .int (σ.2.2.1 4), .int (σ.2.2.1 5), .int (σ.2.2.1 6), .int (σ.2.2.1 7)]] [.int (nI (mHeld (σ.2.2.2 k))), .int (nI q9)] rfl rfl rfl rfl ?_
        refine k_perm [10, 0, 1, 2, 3, 4, 5, 6, 7, 8, 9] [kO x 3 [mAh ad σ.1, .int (nI σ.1), .int (kB σ.2.1), .int (σ.2.2.1 3), .int (σ.2.2.1 4), .int (σ.2.2.1 5), .int (σ.2.2.1 6), .int (σ.2.2.1 7)], kO (ad k 0) 1 [mAh ad k, .int (nI (((σ.2.2.2 k)).1 1)), .int (nI (((σ.2.2.2 k)).1 2)), .int (nI (((σ.2.2.2 k)).1 3)), .ref (ad k 1), .ref (ad k 4), .ref (ad k 7), .int (nI (((σ.2.2.2 k)).1 7)), .int (nI (((σ.2.2.2 k)).1 8)), .int (nI (((σ.2.2.2 k)).1 9)), .int (nI (((σ.2.2.2 k)).1 10)), .int (nI (((σ.2.2.2 k)).1 11)), .int (nI (((σ.2.2.2 k)).1 12)), .int (nI (((σ.2.2.2 k)).1 13)), .int (nI (((σ.2.2.2 k)).1 14)), .int (nI (((σ.2.2.2 k)).1 15)), .int (((σ.2.2.2 k)).2.1 0), .int (((σ.2.2.2 k)).2.1 1)], kO (ad k 1) 2 [.ref (ad k 2), .ref (ad k 3), .int (nI ((((σ.2.2.2 k)).2.2 0).length))], kI K (ad k 2) 10 (us k 0), kZ K (ad k 3) 10 (us k 1), kO (ad k 4) 2 [.ref (ad k 5), .ref (ad k 6), .int (nI ((((σ.2.2.2 k)).2.2 1).length))], kI K (ad k 5) 10 (us k 2), kZ K (ad k 6) 10 (us k 3), kO (ad k 7) 0 [.ref (ad k 8), .ref (ad k 9), .int (nI ((((σ.2.2.2 k)).2.2 2).length))], kI K (ad k 8) 5 (us k 4), kI K (ad k 9) 5 (us k 5)] rfl rfl ?_
        refine k_iaddN hC dX3_stock_16 ?_
        refine k_istore_n hC 1 dX3_stock_17 rfl (by decide) rfl [(0, .ref x), (1, .int (nI (q9 + (mHeld (σ.2.2.2 k))))), (2, .ref (ad k 0))] rfl ?_
        refine k_aload_n hC 2 dX3_stock_18 rfl rfl ?_
        refine k_getN hC inlX1 1 0 rfl rfl (by decide) (List.mem_of_getElem? (i := 2) rfl) rfl dX3_stock_19 ?_
        refine k_astore_nV hC 2 dX3_stock_22 rfl (mAh_or _ _) (by decide) rfl [(0, .ref x), (1, .int (nI (q9 + (mHeld (σ.2.2.2 k))))), (2, mAh ad k)] rfl ?_
        refine k_goto hC 7 dX3_stock_23 (by decide) ?_
        refine k_perm2 [] (wX K x ad σ us) (by rw [List.append_nil]; exact ((wCh_open hk rfl).symm).cons _) ?_
        refine ih (q9 + mHeld (σ.2.2.2 k)) (Nat.le_of_lt hk) ?_
        rw [← h2]; show _ = q9 + (mSum _ k + mHeld (σ.2.2.2 k)); omega
      exact g
  exact loop σ.1 0 (Nat.le_refl _) (Nat.zero_add _)
abbrev rmX3_stockByFlow : Room := { frames := 0, cells := 0, slots := 0, locals := 0 }
set_option maxRecDepth 100000 in
set_option maxHeartbeats 4000000 in
theorem cX3_stockByFlow_k (l : Launch) (K : kE) (x : Nat) (ad : Nat → Nat → Nat) (σ : mS) (us : Nat → Nat → Nat → Int32) (hσ : mSok σ) (hU : mURT σ us) : kM l yX3_stockByFlow (kws yX3_stockByFlow cX3_stockByFlow 3 (some .int)) rmX3_stockByFlow K [.ref x] (wX K x ad σ us) (kPo K x (0, oFlow σ, σ)) := by
  refine kM_of (pl := []) (X := (wX K x ad σ us)) (List.append_nil _).symm (by decide) (Nat.le_of_ble_eq_true rfl) ?_
  intro p e s m args below meth cd A Q hC hnm hE
  refine k_aload_n hC 0 dX3_stockByFlow_0 rfl rfl ?_
  refine k_get hC inlX3 0 5 rfl rfl (by decide) lkF_X3_27 rfl dX3_stockByFlow_1 ?_
  refine k_ineg hC dX3_stockByFlow_4 ?_
  refine k_istore_n hC 1 dX3_stockByFlow_5 rfl (by decide) rfl [(0, .ref x), (1, .int (-(σ.2.2.1 5)))] rfl ?_
  refine k_aload_n hC 0 dX3_stockByFlow_6 rfl rfl ?_
  refine k_get hC inlX3 0 0 rfl rfl (by decide) lkF_X3_7 rfl dX3_stockByFlow_7 ?_
  refine k_astore_nV hC 2 dX3_stockByFlow_10 rfl (mAh_or _ _) (by decide) rfl [(0, .ref x), (1, .int (-(σ.2.2.1 5))), (2, mAh ad σ.1)] rfl ?_
  have loop : ∀ (j : Nat) (q9 : Int32), j ≤ σ.1 → q9 + mSumZ (fun k => (σ.2.2.2 k).2.1 1) j = oFlow σ → kW p l e rmX3_stockByFlow s m args below meth cd K A 3 Q 0 0 ([]) (wX K x ad σ us) [(0, .ref x), (1, .int q9), (2, mAh ad j)] 11 [] := by
    intro j
    induction j with
    | zero =>
      intro q9 h1 h2
      have e9 : q9 = oFlow σ := by rw [← h2]; exact (Int32.add_zero q9).symm
      have g : kW p l e rmX3_stockByFlow s m args below meth cd K A 3 Q 0 0 ([]) (wX K x ad σ us) [(0, .ref x), (1, .int q9), (2, .null)] 11 [] := by
        refine k_aload_nN hC 2 dX3_stockByFlow_11 rfl rfl ?_
        refine k_ifnullN hC 30 dX3_stockByFlow_12 (by decide) ?_
        refine k_iload_n hC 1 dX3_stockByFlow_30 rfl rfl ?_
        exact k_iret hC hE (Nat.le_of_ble_eq_true rfl) (Nat.le_of_ble_eq_true rfl) dX3_stockByFlow_31 ⟨rfl, by rw [e9], ad, us, List.append_nil _, hU⟩
      exact g
    | succ k ih =>
      intro q9 hk h2
      obtain ⟨i9, hi9⟩ := wX_at (K := K) (x := x) (ad := ad) (us := us) (show k < σ.1 from hk)
      have g : kW p l e rmX3_stockByFlow s m args below meth cd K A 3 Q 0 0 ([]) (wX K x ad σ us) [(0, .ref x), (1, .int q9), (2, .ref (ad k 0))] 11 [] := by
        refine k_aload_n hC 2 dX3_stockByFlow_11 rfl rfl ?_
        refine k_ifnull hC dX3_stockByFlow_12 ?_
        refine k_iload_n hC 1 dX3_stockByFlow_15 rfl rfl ?_
        refine k_aload_n hC 2 dX3_stockByFlow_16 rfl rfl ?_
        refine k_getN hC inlX1 i9 17 hi9 rfl (by decide) (List.mem_of_getElem? (i := 19) rfl) rfl dX3_stockByFlow_17 ?_
        refine k_iadd hC dX3_stockByFlow_20 ?_
        refine k_istore_n hC 1 dX3_stockByFlow_21 rfl (by decide) rfl [(0, .ref x), (1, .int (q9 + (((σ.2.2.2 k)).2.1 1))), (2, .ref (ad k 0))] rfl ?_
        refine k_aload_n hC 2 dX3_stockByFlow_22 rfl rfl ?_
        refine k_getN hC inlX1 i9 0 hi9 rfl (by decide) (List.mem_of_getElem? (i := 2) rfl) rfl dX3_stockByFlow_23 ?_
        refine k_astore_nV hC 2 dX3_stockByFlow_26 rfl (mAh_or _ _) (by decide) rfl [(0, .ref x), (1, .int (q9 + (((σ.2.2.2 k)).2.1 1))), (2, mAh ad k)] rfl ?_
        refine k_goto hC 11 dX3_stockByFlow_27 (by decide) ?_
        refine ih (q9 + (σ.2.2.2 k).2.1 1) (Nat.le_of_lt hk) ?_
        rw [← h2, Int32.add_assoc]; congr 1; exact Int32.add_comm _ _
      exact g
  exact loop σ.1 (-σ.2.2.1 5) (Nat.le_refl _) rfl
