/-! KanbanLoop: find and its like -/
theorem mAh_or (ad : Nat → Nat → Nat) (k : Nat) : mAh ad k = .null ∨ ∃ a, mAh ad k = .ref a := by
  cases k with
  | zero => exact Or.inl rfl
  | succ k => exact Or.inr ⟨_, rfl⟩
section KV
variable {p : Program} {l : Launch} {e : Env} {R : Room} {s : State} {m : MethodId} {args : Array Value} {below : List Frame} {meth : Method} {c : Code} {K : kE} {A : Nat → Prop} {nL : Nat} {Q : State → Prop} {k n : Nat} {pl X : va_W} {lv : List (Nat × Value)} {pc : Nat} {st : List Value} {cc : ByteArray} {own : String}
theorem k_astore_nV (hC : kC p s m args meth c K A nL cc own) {j : Fin 4} (i : Nat) {v : Value} (hd : decode cc pc = .ok (.astore_n j, 1)) (hi9 : (j : Nat) = i) (hv : v = .null ∨ ∃ a, v = .ref a) (hi : i < nL) (h1 : kl_1 lv = true) (lv2 : List (Nat × Value)) (h2 : kl_set lv i v = lv2) (kk : kW p l e R s m args below meth c K A nL Q k n pl X lv2 (pc + 1) st) : kW p l e R s m args below meth c K A nL Q k n pl X lv pc (v :: st) := by
  rcases hv with rfl | ⟨a, rfl⟩
  · exact k_astore_nN hC i hd hi9 hi h1 lv2 h2 kk
  · exact k_astore_n hC i hd hi9 hi h1 lv2 h2 kk
end KV
theorem kl_1V {lv : List (Nat × Value)} {i : Nat} {v : Value} (hv : v = .null ∨ ∃ a, v = .ref a) (h : kl_1 lv = true) : kl_1 ((i, v) :: lv) = true := by
  rcases hv with rfl | ⟨a, rfl⟩ <;> simpa [kl_1, kl_v1] using h
theorem wX_at {K : kE} {x : Nat} {ad : Nat → Nat → Nat} {σ : mS} {us : Nat → Nat → Nat → Int32} {k : Nat} (hk : k < σ.1) : ∃ i : Nat, (wX K x ad σ us)[i]? = some (ad k 0, .inr (1, [mAh ad k, .int (nI (((σ.2.2.2 k)).1 1)), .int (nI (((σ.2.2.2 k)).1 2)), .int (nI (((σ.2.2.2 k)).1 3)), .ref (ad k 1), .ref (ad k 4), .ref (ad k 7), .int (nI (((σ.2.2.2 k)).1 7)), .int (nI (((σ.2.2.2 k)).1 8)), .int (nI (((σ.2.2.2 k)).1 9)), .int (nI (((σ.2.2.2 k)).1 10)), .int (nI (((σ.2.2.2 k)).1 11)), .int (nI (((σ.2.2.2 k)).1 12)), .int (nI (((σ.2.2.2 k)).1 13)), .int (nI (((σ.2.2.2 k)).1 14)), .int (nI (((σ.2.2.2 k)).1 15)), .int (((σ.2.2.2 k)).2.1 0), .int (((σ.2.2.2 k)).2.1 1)])) :=
  List.getElem?_of_mem (List.mem_cons_of_mem _ ((wCh_open hk rfl).mem_iff.mpr (List.mem_append_left _ List.mem_cons_self)))
abbrev rmX3_checkRange : Room := { frames := 6, cells := 1, slots := 6, locals := 100 }
set_option maxRecDepth 100000 in
set_option maxHeartbeats 4000000 in
theorem cX3_checkRange_k {l : Launch} (hst : l.stackTraces = false) (K : kE) (v lo hi : Int32) : kX l yX3_checkRange (kws yX3_checkRange cX3_checkRange 3 none) rmX3_checkRange K [.int v, .int lo, .int hi] [] (fun r w => r = none ∧ w = [] ∧ lo ≤ v ∧ v ≤ hi) (fun E => E = "java/lang/IllegalArgumentException" ∧ ¬ (lo ≤ v ∧ v ≤ hi)) := by
  refine kX_of hst (pl := []) (X := []) rfl (by decide) (Nat.le_of_ble_eq_true rfl) ?_
  intro p e s m args below meth cd A Q hC hX hE
  refine k_eX (show _ = [] from rfl) ?_
  refine k_iload_n hC 0 dX3_checkRange_0 rfl rfl ?_
  refine k_iload_n hC 1 dX3_checkRange_1 rfl rfl ?_
  refine k_icmp_lt hC 10 dX3_checkRange_2 (by decide) (fun c1 => ?_) (fun c1 => ?_)
  · exact k_throw (text := "an argument is out of its range") hC hX kTh_IA (List.mem_of_getElem? (i := 0) rfl) (fun _ h => h) ⟨rfl, fun q => absurd (Int32.lt_of_lt_of_le c1 q.1) Int32.lt_irrefl⟩ (Nat.le_of_ble_eq_true rfl) (Nat.le_of_ble_eq_true rfl) ⟨(Nat.le_of_ble_eq_true rfl), (Nat.le_of_ble_eq_true rfl)⟩ ⟨(Nat.le_of_ble_eq_true rfl), (Nat.le_of_ble_eq_true rfl)⟩ dX3_checkRange_10 dX3_checkRange_13 dX3_checkRange_14 dX3_checkRange_16 dX3_checkRange_19
  · refine k_iload_n hC 0 dX3_checkRange_5 rfl rfl ?_
    refine k_iload_n hC 2 dX3_checkRange_6 rfl rfl ?_
    refine k_icmp_le hC 20 dX3_checkRange_7 (by decide) (fun c2 => ?_) (fun c2 => ?_)
    · exact k_vret hC hE (Nat.le_of_ble_eq_true rfl) (Nat.le_of_ble_eq_true rfl) dX3_checkRange_20 ⟨rfl, rfl, Int32.not_lt.mp c1, c2⟩
    · exact k_throw (text := "an argument is out of its range") hC hX kTh_IA (List.mem_of_getElem? (i := 0) rfl) (fun _ h => h) ⟨rfl, fun q => c2 q.2⟩ (Nat.le_of_ble_eq_true rfl) (Nat.le_of_ble_eq_true rfl) ⟨(Nat.le_of_ble_eq_true rfl), (Nat.le_of_ble_eq_true rfl)⟩ ⟨(Nat.le_of_ble_eq_true rfl), (Nat.le_of_ble_eq_true rfl)⟩ dX3_checkRange_10 dX3_checkRange_13 dX3_checkRange_14 dX3_checkRange_16 dX3_checkRange_19
abbrev rmX3_find : Room := { frames := 6, cells := 1, slots := 6, locals := 100 }
set_option maxRecDepth 100000 in
set_option maxHeartbeats 4000000 in
theorem cX3_find_k {l : Launch} (hst : l.stackTraces = false) (K : kE) (x : Nat) (ad : Nat → Nat → Nat) (σ : mS) (us : Nat → Nat → Nat → Int32) (hσ : mSok σ) (hU : mURT σ us) (p9 : Int32) : kX l yX3_find (kws yX3_find cX3_find 3 (some (.object "KanbanLoop$Stage"))) rmX3_find K [.ref x, .int p9] (wX K x ad σ us) (fun v w => ∃ k : Nat, k < σ.1 ∧ p9 = nI k ∧ v = some (.ref (ad k 0)) ∧ w = wX K x ad σ us) (fun E => E = "java/lang/IndexOutOfBoundsException" ∧ ¬ mHas σ 0 p9) := by
  refine kX_of hst (pl := []) (X := (wX K x ad σ us)) (List.append_nil _).symm (by decide) (Nat.le_of_ble_eq_true rfl) ?_
  intro p e s m args below meth cd A Q hC hX hE
  refine k_aload_n hC 0 dX3_find_0 rfl rfl ?_
  refine k_get hC inlX3 0 0 rfl rfl (by decide) lkF_X3_7 rfl dX3_find_1 ?_
  refine k_astore_nV hC 2 dX3_find_4 rfl (mAh_or _ _) (by decide) rfl [(0, .ref x), (1, .int p9), (2, mAh ad σ.1)] rfl ?_
  have loop : ∀ j : Nat, j ≤ σ.1 → (∀ i : Nat, j ≤ i → i < σ.1 → p9 ≠ nI i) → kW p l e rmX3_find s m args below meth cd K A 3 Q 0 0 ([]) (wX K x ad σ us) [(0, .ref x), (1, .int p9), (2, mAh ad j)] 5 [] := by
    intro j
    induction j with
    | zero =>
      intro h1 h2
      have g : kW p l e rmX3_find s m args below meth cd K A 3 Q 0 0 ([]) (wX K x ad σ us) [(0, .ref x), (1, .int p9), (2, .null)] 5 [] := by
        refine k_aload_nN hC 2 dX3_find_5 rfl rfl ?_
        refine k_ifnullN hC 25 dX3_find_6 (by decide) ?_
        refine k_aload_nN hC 2 dX3_find_25 rfl rfl ?_
        refine k_ifnonnullN hC dX3_find_26 ?_
        exact k_throw (text := "there is no such stage") hC hX kTh_IB (List.mem_of_getElem? (i := 2) rfl) (fun _ h => List.mem_append_left _ h) ⟨rfl, fun q => by obtain ⟨k, -, hk, he⟩ := mHas_ex hσ.1 (Nat.zero_le 6) q; exact h2 k (Nat.zero_le k) hk he⟩ (Nat.le_of_ble_eq_true rfl) (Nat.le_of_ble_eq_true rfl) ⟨(Nat.le_of_ble_eq_true rfl), (Nat.le_of_ble_eq_true rfl)⟩ ⟨(Nat.le_of_ble_eq_true rfl), (Nat.le_of_ble_eq_true rfl)⟩ dX3_find_29 dX3_find_32 dX3_find_33 dX3_find_35 dX3_find_38
      exact g
    | succ j ih =>
      intro h1 h2
      obtain ⟨i9, hi9⟩ := wX_at (K := K) (x := x) (ad := ad) (us := us) (show j < σ.1 from h1)
      have hnum := (hσ.2 j h1).2
      have g : kW p l e rmX3_find s m args below meth cd K A 3 Q 0 0 ([]) (wX K x ad σ us) [(0, .ref x), (1, .int p9), (2, .ref (ad j 0))] 5 [] := by
        refine k_aload_n hC 2 dX3_find_5 rfl rfl ?_
        refine k_ifnull hC dX3_find_6 ?_
        refine k_aload_n hC 2 dX3_find_9 rfl rfl ?_
        refine k_getN hC inlX1 i9 1 hi9 rfl (by decide) (List.mem_of_getElem? (i := 3) rfl) rfl dX3_find_10 ?_
        refine k_iload_n hC 1 dX3_find_13 rfl rfl ?_
        refine k_icmp_eq hC 25 dX3_find_14 (by decide) (fun c1 => ?_) (fun c1 => ?_)
        · refine k_aload_n hC 2 dX3_find_25 rfl rfl ?_
          refine k_ifnonnull hC 39 dX3_find_26 (by decide) ?_
          refine k_aload_n hC 2 dX3_find_39 rfl rfl ?_
          exact k_aret hC hE (Nat.le_of_ble_eq_true rfl) (Nat.le_of_ble_eq_true rfl) dX3_find_40 ⟨j, h1, by rw [← c1, hnum], rfl, List.append_nil _⟩
        · refine k_aload_n hC 2 dX3_find_17 rfl rfl ?_
          refine k_getN hC inlX1 i9 0 hi9 rfl (by decide) (List.mem_of_getElem? (i := 2) rfl) rfl dX3_find_18 ?_
          refine k_astore_nV hC 2 dX3_find_21 rfl (mAh_or _ _) (by decide) rfl [(0, .ref x), (1, .int p9), (2, mAh ad j)] rfl ?_
          refine k_goto hC 5 dX3_find_22 (by decide) ?_
          refine ih (Nat.le_of_lt h1) (fun i hi1 hi2 => ?_)
          rcases Nat.lt_or_ge j i with h | h
          · exact h2 i h hi2
          · obtain rfl : i = j := by omega
            exact fun q => c1 (by rw [q, hnum])
      exact g
  exact loop σ.1 (Nat.le_refl _) (fun i h1 h2 => absurd h1 (by omega))
abbrev rmX3_findFed : Room := { frames := 7, cells := 2, slots := 12, locals := 122 }
set_option maxRecDepth 100000 in
set_option maxHeartbeats 4000000 in
theorem cX3_findFed_k {l : Launch} (hst : l.stackTraces = false) (K : kE) (x : Nat) (ad : Nat → Nat → Nat) (σ : mS) (us : Nat → Nat → Nat → Int32) (hσ : mSok σ) (hU : mURT σ us) (p9 : Int32) : kX l yX3_findFed (kws yX3_findFed cX3_findFed 3 (some (.object "KanbanLoop$Stage"))) rmX3_findFed K [.ref x, .int p9] (wX K x ad σ us) (fun v w => ∃ k : Nat, 1 ≤ k ∧ k < σ.1 ∧ p9 = nI k ∧ v = some (.ref (ad k 0)) ∧ w = wX K x ad σ us) (fun E => E = "java/lang/IndexOutOfBoundsException" ∧ ¬ mHas σ 1 p9) := by
  refine kX_of hst (pl := []) (X := (wX K x ad σ us)) (List.append_nil _).symm (by decide) (Nat.le_of_ble_eq_true rfl) ?_
  intro p e s m args below meth cd A Q hC hX hE
  have hn6 := hσ.1
  refine k_aload_n hC 0 dX3_findFed_0 rfl rfl ?_
  refine k_iload_n hC 1 dX3_findFed_1 rfl rfl ?_
  refine k_callXV hC hX (As := [.int p9]) (cX3_find_k hst K x ad σ us hσ hU p9) [] (List.append_nil _).symm (fun _ h => List.mem_append_left _ h) (fun E q => ⟨q.1, fun z => q.2 ⟨Int32.le_trans (by decide) z.1, z.2⟩⟩) 0 rfl rfl (kAll5 lkM_X3_62 lkI_yX3_find lkS_yX3_find lkN_X3 lkC_yX3_find) 1 (by decide) ⟨(Nat.le_of_ble_eq_true rfl), (Nat.le_of_ble_eq_true rfl)⟩ rfl rfl (Nat.le_of_ble_eq_true rfl) ⟨(Nat.le_of_ble_eq_true rfl), (Nat.le_of_ble_eq_true rfl)⟩ ⟨(Nat.le_of_ble_eq_true rfl), (Nat.le_of_ble_eq_true rfl)⟩ dX3_findFed_2 (fun v w h => ?_)
  obtain ⟨k, hk, rfl, rfl, rfl⟩ := h
  refine k_re 1 6 (wX K x ad σ us) [.ref (ad k 0)] rfl rfl (List.append_nil _) rfl ?_
  obtain ⟨i9, hi9⟩ := wX_at (K := K) (x := x) (ad := ad) (us := us) hk
  rcases k with _ | k
  · refine k_astore_n hC 2 dX3_findFed_5 rfl (by decide) rfl [(0, .ref x), (1, .int (nI 0)), (2, .ref (ad 0 0))] rfl ?_
    refine k_aload_n hC 2 dX3_findFed_6 rfl rfl ?_
    refine k_getN hC inlX1 i9 0 hi9 rfl (by decide) (List.mem_of_getElem? (i := 2) rfl) rfl dX3_findFed_7 ?_
    refine k_ifnonnullN hC dX3_findFed_10 ?_
    exact k_throw (text := "the first stage has no inbox") hC hX kTh_IB (List.mem_of_getElem? (i := 3) rfl) (fun _ h => List.mem_append_left _ h) ⟨rfl, fun z => by have := (nI_leI (a := 1) (b := 0) (by decide) (by decide)).mp z.1; omega⟩ (Nat.le_of_ble_eq_true rfl) (Nat.le_of_ble_eq_true rfl) ⟨(Nat.le_of_ble_eq_true rfl), (Nat.le_of_ble_eq_true rfl)⟩ ⟨(Nat.le_of_ble_eq_true rfl), (Nat.le_of_ble_eq_true rfl)⟩ dX3_findFed_13 dX3_findFed_16 dX3_findFed_17 dX3_findFed_19 dX3_findFed_22
  · refine k_astore_n hC 2 dX3_findFed_5 rfl (by decide) rfl [(0, .ref x), (1, .int (nI (k + 1))), (2, .ref (ad (k + 1) 0))] rfl ?_
    refine k_aload_n hC 2 dX3_findFed_6 rfl rfl ?_
    refine k_getN hC inlX1 i9 0 hi9 rfl (by decide) (List.mem_of_getElem? (i := 2) rfl) rfl dX3_findFed_7 ?_
    refine k_ifnonnull hC 23 dX3_findFed_10 (by decide) ?_
    refine k_aload_n hC 2 dX3_findFed_23 rfl rfl ?_
    exact k_aret hC hE (Nat.le_of_ble_eq_true rfl) (Nat.le_of_ble_eq_true rfl) dX3_findFed_24 ⟨k + 1, by omega, hk, rfl, rfl, List.append_nil _⟩
