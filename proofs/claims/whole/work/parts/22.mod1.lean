/-! the reference: its private methods -/
theorem kupd_ne {u : Nat → Int32} {i q : Nat} {v : Int32} (h : q ≠ i) : upd u i v q = u q := by unfold upd; rw [if_neg h]
theorem kupd_eq {u : Nat → Int32} {i : Nat} {v : Int32} : upd u i v i = v := by unfold upd; rw [if_pos rfl]
abbrev rmX4_isIn : Room := { frames := 0, cells := 0, slots := 0, locals := 0 }
set_option maxRecDepth 100000 in
set_option maxHeartbeats 4000000 in
theorem cX4_isIn_k (l : Launch) (K : kE) (v9 lo9 hi9 : Int32) : kM l yX4_isIn (kws yX4_isIn cX4_isIn 3 (some .boolean)) rmX4_isIn K [.int v9, .int lo9, .int hi9] [] (fun v w => v = some (.int (nI (if lo9 ≤ v9 ∧ v9 ≤ hi9 then 1 else 0))) ∧ w = []) := by
  refine kM_of (pl := []) (X := []) rfl (by decide) (Nat.le_of_ble_eq_true rfl) ?_
  intro p e s m args below meth cd A Q hC hnm hE
  refine k_eX (show _ = [] from rfl) ?_
  refine k_iload_n hC 0 dX4_isIn_0 rfl rfl ?_
  refine k_iload_n hC 1 dX4_isIn_1 rfl rfl ?_
  refine k_icmp_lt hC 14 dX4_isIn_2 (by decide) (fun c1 => ?_) (fun c1 => ?_)
  · refine k_iconst hC (nI 0) dX4_isIn_14 rfl ?_
    exact k_zret hC hE (Nat.le_of_ble_eq_true rfl) (Nat.le_of_ble_eq_true rfl) rfl dX4_isIn_15 ⟨by rw [if_neg (fun q => absurd (Int32.lt_of_lt_of_le c1 q.1) Int32.lt_irrefl)], rfl⟩
  · refine k_iload_n hC 0 dX4_isIn_5 rfl rfl ?_
    refine k_iload_n hC 2 dX4_isIn_6 rfl rfl ?_
    refine k_icmp_gt hC 14 dX4_isIn_7 (by decide) (fun c2 => ?_) (fun c2 => ?_)
    · refine k_iconst hC (nI 0) dX4_isIn_14 rfl ?_
      exact k_zret hC hE (Nat.le_of_ble_eq_true rfl) (Nat.le_of_ble_eq_true rfl) rfl dX4_isIn_15 ⟨by rw [if_neg (fun q => absurd (Int32.lt_of_lt_of_le c2 q.2) Int32.lt_irrefl)], rfl⟩
    · refine k_iconst hC (nI 1) dX4_isIn_10 rfl ?_
      refine k_goto hC 15 dX4_isIn_11 (by decide) ?_
      exact k_zret hC hE (Nat.le_of_ble_eq_true rfl) (Nat.le_of_ble_eq_true rfl) rfl dX4_isIn_15 ⟨by rw [if_pos ⟨Int32.not_lt.mp c1, Int32.not_lt.mp c2⟩], rfl⟩
abbrev rmX4_asks : Room := { frames := 0, cells := 0, slots := 0, locals := 0 }
set_option maxRecDepth 100000 in
set_option maxHeartbeats 4000000 in
theorem cX4_asks_k (l : Launch) (K : kE) (y : Nat) (b : Nat → Nat) (S : Nat → Int32) (G : Nat → Nat → Int32) (p9 lo9 : Int32) : kM l yX4_asks (kws yX4_asks cX4_asks 4 (some .boolean)) rmX4_asks K [.ref y, .int p9, .int lo9] (wM K y b S G) (fun v w => v = some (.int (nI (if lo9 ≤ p9 ∧ p9 < S 1 then 1 else 0))) ∧ w = wM K y b (va_up S 0 (nI (if lo9 ≤ p9 ∧ p9 < S 1 then 0 else 1))) G) := by
  refine kM_of (pl := []) (X := (wM K y b S G)) rfl (by decide) (Nat.le_of_ble_eq_true rfl) ?_
  intro p e s m args below meth cd A Q hC hnm hE
  refine k_iload_n hC 1 dX4_asks_0 rfl rfl ?_
  refine k_iload_n hC 2 dX4_asks_1 rfl rfl ?_
  refine k_icmp_lt hC 17 dX4_asks_2 (by decide) (fun c1 => ?_) (fun c1 => ?_)
  · refine k_iconst hC (nI 0) dX4_asks_17 rfl ?_
    refine k_istore_n hC 3 dX4_asks_18 rfl (by decide) rfl [(0, .ref y), (1, .int p9), (2, .int lo9), (3, .int (nI 0))] rfl ?_
    refine k_aload_n hC 0 dX4_asks_19 rfl rfl ?_
    refine k_iload_n hC 3 dX4_asks_20 rfl rfl ?_
    refine k_if_eqN hC 28 dX4_asks_21 (by decide) (by omega) (fun c9 => ?_) (fun c9 => ?_)
    · refine k_iconst hC (nI 1) dX4_asks_28 rfl ?_
      refine k_put hC inlX4 tyX4_ok nmX4 0 0 rfl rfl (by decide) lkF_X4_74 rfl rfl rfl (Nat.le_of_ble_eq_true rfl) dX4_asks_29 (wM K y b (va_up S 0 (nI 1)) G) rfl ?_
      refine k_iload_n hC 3 dX4_asks_32 rfl rfl ?_
      exact k_zret hC hE (Nat.le_of_ble_eq_true rfl) (Nat.le_of_ble_eq_true rfl) rfl dX4_asks_33 ⟨by rw [if_neg (fun q => absurd (Int32.lt_of_lt_of_le c1 q.1) Int32.lt_irrefl)], by rw [if_neg (fun q => absurd (Int32.lt_of_lt_of_le c1 q.1) Int32.lt_irrefl)]; rfl⟩
    · exact absurd rfl c9
  · refine k_iload_n hC 1 dX4_asks_5 rfl rfl ?_
    refine k_aload_n hC 0 dX4_asks_6 rfl rfl ?_
    refine k_get hC inlX4 0 1 rfl rfl (by decide) lkF_X4_78 rfl dX4_asks_7 ?_
    refine k_icmp_ge hC 17 dX4_asks_10 (by decide) (fun c2 => ?_) (fun c2 => ?_)
    · refine k_iconst hC (nI 0) dX4_asks_17 rfl ?_
      refine k_istore_n hC 3 dX4_asks_18 rfl (by decide) rfl [(0, .ref y), (1, .int p9), (2, .int lo9), (3, .int (nI 0))] rfl ?_
      refine k_aload_n hC 0 dX4_asks_19 rfl rfl ?_
      refine k_iload_n hC 3 dX4_asks_20 rfl rfl ?_
      refine k_if_eqN hC 28 dX4_asks_21 (by decide) (by omega) (fun c9 => ?_) (fun c9 => ?_)
      · refine k_iconst hC (nI 1) dX4_asks_28 rfl ?_
        refine k_put hC inlX4 tyX4_ok nmX4 0 0 rfl rfl (by decide) lkF_X4_74 rfl rfl rfl (Nat.le_of_ble_eq_true rfl) dX4_asks_29 (wM K y b (va_up S 0 (nI 1)) G) rfl ?_
        refine k_iload_n hC 3 dX4_asks_32 rfl rfl ?_
        exact k_zret hC hE (Nat.le_of_ble_eq_true rfl) (Nat.le_of_ble_eq_true rfl) rfl dX4_asks_33 ⟨by rw [if_neg (fun q => absurd (Int32.lt_of_lt_of_le q.2 c2) Int32.lt_irrefl)], by rw [if_neg (fun q => absurd (Int32.lt_of_lt_of_le q.2 c2) Int32.lt_irrefl)]; rfl⟩
      · exact absurd rfl c9
    · refine k_iconst hC (nI 1) dX4_asks_13 rfl ?_
      refine k_goto hC 18 dX4_asks_14 (by decide) ?_
      refine k_istore_n hC 3 dX4_asks_18 rfl (by decide) rfl [(0, .ref y), (1, .int p9), (2, .int lo9), (3, .int (nI 1))] rfl ?_
      refine k_aload_n hC 0 dX4_asks_19 rfl rfl ?_
      refine k_iload_n hC 3 dX4_asks_20 rfl rfl ?_
      refine k_if_eqN hC 28 dX4_asks_21 (by decide) (by omega) (fun c9 => ?_) (fun c9 => ?_)
      · exact absurd c9 (by decide)
      · refine k_iconst hC (nI 0) dX4_asks_24 rfl ?_
        refine k_goto hC 29 dX4_asks_25 (by decide) ?_
        refine k_put hC inlX4 tyX4_ok nmX4 0 0 rfl rfl (by decide) lkF_X4_74 rfl rfl rfl (Nat.le_of_ble_eq_true rfl) dX4_asks_29 (wM K y b (va_up S 0 (nI 0)) G) rfl ?_
        refine k_iload_n hC 3 dX4_asks_32 rfl rfl ?_
        exact k_zret hC hE (Nat.le_of_ble_eq_true rfl) (Nat.le_of_ble_eq_true rfl) rfl dX4_asks_33 ⟨by rw [if_pos ⟨Int32.not_lt.mp c1, Int32.not_le.mp c2⟩], by rw [if_pos ⟨Int32.not_lt.mp c1, Int32.not_le.mp c2⟩]; rfl⟩
abbrev rmX4_comesToMarket : Room := { frames := 0, cells := 0, slots := 0, locals := 0 }
set_option maxRecDepth 100000 in
set_option maxHeartbeats 4000000 in
theorem cX4_comesToMarket_k (l : Launch) (K : kE) (y : Nat) (b : Nat → Nat) (S : Nat → Int32) (G : Nat → Nat → Int32) (k z9 x9 : Nat) (hk : k < 6) (hz : G 23 k = nI z9) (hz16 : z9 < 16) : kM l yX4_comesToMarket (kws yX4_comesToMarket cX4_comesToMarket 3 none) rmX4_comesToMarket K [.ref y, .int (nI k), .int (nI x9)] (wM K y b S G) (fun v w => v = none ∧ w = wM K y b S (va_up (va_up (va_up G 21 (upd (G 21) (16 * k + z9) (nI x9))) 22 (upd (G 22) (16 * k + z9) (nI 1))) 23 (upd (G 23) k (nI (z9 + 1))))) := by
  refine kM_of (pl := []) (X := (wM K y b S G)) rfl (by decide) (Nat.le_of_ble_eq_true rfl) ?_
  intro p e s m args below meth cd A Q hC hnm hE
  refine k_aload_n hC 0 dX4_comesToMarket_0 rfl rfl ?_
  refine k_get hC inlX4 0 21 rfl rfl (by decide) lkF_X4_47 rfl dX4_comesToMarket_1 ?_
  refine k_bipush hC (nI 16) dX4_comesToMarket_4 rfl ?_
  refine k_iload_n hC 1 dX4_comesToMarket_6 rfl rfl ?_
  refine k_imulN hC dX4_comesToMarket_7 ?_
  refine k_aload_n hC 0 dX4_comesToMarket_8 rfl rfl ?_
  refine k_get hC inlX4 0 23 rfl rfl (by decide) lkF_X4_53 rfl dX4_comesToMarket_9 ?_
  refine k_iload_n hC 1 dX4_comesToMarket_12 rfl rfl ?_
  refine k_ald hC 15 rfl (by omega) (by decide) dX4_comesToMarket_13 ?_
  refine k_topE (nI z9) hz ?_
  refine k_iaddN hC dX4_comesToMarket_14 ?_
  refine k_iload_n hC 2 dX4_comesToMarket_15 rfl rfl ?_
  refine k_ast hC 13 rfl (by omega) (by decide) dX4_comesToMarket_16 (wM K y b S (va_up G 21 (upd (G 21) ((16 * k) + z9) (nI x9)))) rfl ?_
  refine k_aload_n hC 0 dX4_comesToMarket_17 rfl rfl ?_
  refine k_get hC inlX4 0 22 rfl rfl (by decide) lkF_X4_50 rfl dX4_comesToMarket_18 ?_
  refine k_bipush hC (nI 16) dX4_comesToMarket_21 rfl ?_
  refine k_iload_n hC 1 dX4_comesToMarket_23 rfl rfl ?_
  refine k_imulN hC dX4_comesToMarket_24 ?_
  refine k_aload_n hC 0 dX4_comesToMarket_25 rfl rfl ?_
  refine k_get hC inlX4 0 23 rfl rfl (by decide) lkF_X4_53 rfl dX4_comesToMarket_26 ?_
  refine k_iload_n hC 1 dX4_comesToMarket_29 rfl rfl ?_
  refine k_ald hC 15 rfl (by omega) (by decide) dX4_comesToMarket_30 ?_
  refine k_topE (nI z9) hz ?_
  refine k_iaddN hC dX4_comesToMarket_31 ?_
  refine k_iconst hC (nI 1) dX4_comesToMarket_32 rfl ?_
  refine k_ast hC 14 rfl (by omega) (by decide) dX4_comesToMarket_33 (wM K y b S (va_up (va_up G 21 (upd (G 21) ((16 * k) + z9) (nI x9))) 22 (upd (G 22) ((16 * k) + z9) (nI 1)))) rfl ?_
  refine k_aload_n hC 0 dX4_comesToMarket_34 rfl rfl ?_
  refine k_get hC inlX4 0 23 rfl rfl (by decide) lkF_X4_53 rfl dX4_comesToMarket_35 ?_
  refine k_iload_n hC 1 dX4_comesToMarket_38 rfl rfl ?_
  refine k_dup2 hC dX4_comesToMarket_39 rfl rfl ?_
  refine k_ald hC 15 rfl (by omega) (by decide) dX4_comesToMarket_40 ?_
  refine k_topE (nI z9) hz ?_
  refine k_iconst hC (nI 1) dX4_comesToMarket_41 rfl ?_
  refine k_iaddN hC dX4_comesToMarket_42 ?_
  refine k_ast hC 15 rfl (by omega) (by decide) dX4_comesToMarket_43 (wM K y b S (va_up (va_up (va_up G 21 (upd (G 21) ((16 * k) + z9) (nI x9))) 22 (upd (G 22) ((16 * k) + z9) (nI 1))) 23 (upd (G 23) k (nI (z9 + 1))))) rfl ?_
  exact k_vret hC hE (Nat.le_of_ble_eq_true rfl) (Nat.le_of_ble_eq_true rfl) dX4_comesToMarket_44 ⟨rfl, rfl⟩
abbrev rmX4_comesToInbox : Room := { frames := 0, cells := 0, slots := 0, locals := 0 }
set_option maxRecDepth 100000 in
set_option maxHeartbeats 4000000 in
theorem cX4_comesToInbox_k (l : Launch) (K : kE) (y : Nat) (b : Nat → Nat) (S : Nat → Int32) (G : Nat → Nat → Int32) (k z9 x9 : Nat) (hk : k < 6) (hz : G 26 k = nI z9) (hz16 : z9 < 16) : kM l yX4_comesToInbox (kws yX4_comesToInbox cX4_comesToInbox 3 none) rmX4_comesToInbox K [.ref y, .int (nI k), .int (nI x9)] (wM K y b S G) (fun v w => v = none ∧ w = wM K y b S (va_up (va_up (va_up G 24 (upd (G 24) (16 * k + z9) (nI x9))) 25 (upd (G 25) (16 * k + z9) (nI 1))) 26 (upd (G 26) k (nI (z9 + 1))))) := by
  refine kM_of (pl := []) (X := (wM K y b S G)) rfl (by decide) (Nat.le_of_ble_eq_true rfl) ?_
  intro p e s m args below meth cd A Q hC hnm hE
  refine k_aload_n hC 0 dX4_comesToInbox_0 rfl rfl ?_
  refine k_get hC inlX4 0 24 rfl rfl (by decide) lkF_X4_56 rfl dX4_comesToInbox_1 ?_
  refine k_bipush hC (nI 16) dX4_comesToInbox_4 rfl ?_
  refine k_iload_n hC 1 dX4_comesToInbox_6 rfl rfl ?_
  refine k_imulN hC dX4_comesToInbox_7 ?_
  refine k_aload_n hC 0 dX4_comesToInbox_8 rfl rfl ?_
  refine k_get hC inlX4 0 26 rfl rfl (by decide) lkF_X4_62 rfl dX4_comesToInbox_9 ?_
  refine k_iload_n hC 1 dX4_comesToInbox_12 rfl rfl ?_
  refine k_ald hC 18 rfl (by omega) (by decide) dX4_comesToInbox_13 ?_
  refine k_topE (nI z9) hz ?_
  refine k_iaddN hC dX4_comesToInbox_14 ?_
  refine k_iload_n hC 2 dX4_comesToInbox_15 rfl rfl ?_
  refine k_ast hC 16 rfl (by omega) (by decide) dX4_comesToInbox_16 (wM K y b S (va_up G 24 (upd (G 24) ((16 * k) + z9) (nI x9)))) rfl ?_
  refine k_aload_n hC 0 dX4_comesToInbox_17 rfl rfl ?_
  refine k_get hC inlX4 0 25 rfl rfl (by decide) lkF_X4_59 rfl dX4_comesToInbox_18 ?_
  refine k_bipush hC (nI 16) dX4_comesToInbox_21 rfl ?_
  refine k_iload_n hC 1 dX4_comesToInbox_23 rfl rfl ?_
  refine k_imulN hC dX4_comesToInbox_24 ?_
  refine k_aload_n hC 0 dX4_comesToInbox_25 rfl rfl ?_
  refine k_get hC inlX4 0 26 rfl rfl (by decide) lkF_X4_62 rfl dX4_comesToInbox_26 ?_
  refine k_iload_n hC 1 dX4_comesToInbox_29 rfl rfl ?_
  refine k_ald hC 18 rfl (by omega) (by decide) dX4_comesToInbox_30 ?_
  refine k_topE (nI z9) hz ?_
  refine k_iaddN hC dX4_comesToInbox_31 ?_
  refine k_iconst hC (nI 1) dX4_comesToInbox_32 rfl ?_
  refine k_ast hC 17 rfl (by omega) (by decide) dX4_comesToInbox_33 (wM K y b S (va_up (va_up G 24 (upd (G 24) ((16 * k) + z9) (nI x9))) 25 (upd (G 25) ((16 * k) + z9) (nI 1)))) rfl ?_
  refine k_aload_n hC 0 dX4_comesToInbox_34 rfl rfl ?_
  refine k_get hC inlX4 0 26 rfl rfl (by decide) lkF_X4_62 rfl dX4_comesToInbox_35 ?_
  refine k_iload_n hC 1 dX4_comesToInbox_38 rfl rfl ?_
  refine k_dup2 hC dX4_comesToInbox_39 rfl rfl ?_
  refine k_ald hC 18 rfl (by omega) (by decide) dX4_comesToInbox_40 ?_
  refine k_topE (nI z9) hz ?_
  refine k_iconst hC (nI 1) dX4_comesToInbox_41 rfl ?_
  refine k_iaddN hC dX4_comesToInbox_42 ?_
  refine k_ast hC 18 rfl (by omega) (by decide) dX4_comesToInbox_43 (wM K y b S (va_up (va_up (va_up G 24 (upd (G 24) ((16 * k) + z9) (nI x9))) 25 (upd (G 25) ((16 * k) + z9) (nI 1))) 26 (upd (G 26) k (nI (z9 + 1))))) rfl ?_
  exact k_vret hC hE (Nat.le_of_ble_eq_true rfl) (Nat.le_of_ble_eq_true rfl) dX4_comesToInbox_44 ⟨rfl, rfl⟩
abbrev rmX4_leavesMarket : Room := { frames := 0, cells := 0, slots := 0, locals := 0 }
set_option maxRecDepth 100000 in
set_option maxHeartbeats 4000000 in
theorem cX4_leavesMarket_k (l : Launch) (K : kE) (y : Nat) (b : Nat → Nat) (S : Nat → Int32) (G : Nat → Nat → Int32) (k : Nat) (x : Nat × Nat) (t : List (Nat × Nat)) (hk : k < 6) (hg : mRg k (x :: t) (G 21) (G 22) (G 23)) (hL : (x :: t).length ≤ 16) : kM l yX4_leavesMarket (kws yX4_leavesMarket cX4_leavesMarket 3 none) rmX4_leavesMarket K [.ref y, .int (nI k)] (wM K y b S G) (fun v w => v = none ∧ ∃ u1 c1 : Nat → Int32, w = wM K y b S (va_up (va_up (va_up G 21 u1) 22 c1) 23 (upd (G 23) k (nI t.length))) ∧ mR t (fun j => u1 (16 * k + j)) (fun j => c1 (16 * k + j)) ∧ ∀ q : Nat, (q < 16 * k ∨ 16 * k + 16 ≤ q) → u1 q = G 21 q ∧ c1 q = G 22 q) := by
  refine kM_of (pl := []) (X := (wM K y b S G)) rfl (by decide) (Nat.le_of_ble_eq_true rfl) ?_
  intro p e s m args below meth cd A Q hC hnm hE
  have hl1 : (x :: t).length = t.length + 1 := rfl
  refine k_aload_n hC 0 dX4_leavesMarket_0 rfl rfl ?_
  refine k_get hC inlX4 0 23 rfl rfl (by decide) lkF_X4_53 rfl dX4_leavesMarket_1 ?_
  refine k_iload_n hC 1 dX4_leavesMarket_4 rfl rfl ?_
  refine k_dup2 hC dX4_leavesMarket_5 rfl rfl ?_
  refine k_ald hC 15 rfl (by omega) (by decide) dX4_leavesMarket_6 ?_
  refine k_topE (nI ((x :: t).length)) hg.1 ?_
  refine k_iconst hC (nI 1) dX4_leavesMarket_7 rfl ?_
  refine k_isubN hC dX4_leavesMarket_8 (by omega) ?_
  refine k_topE (nI t.length) rfl ?_
  refine k_ast hC 15 rfl (by omega) (by decide) dX4_leavesMarket_9 (wM K y b S (va_up G 23 (upd (G 23) k (nI t.length)))) rfl ?_
  refine k_bipush hC (nI 16) dX4_leavesMarket_10 rfl ?_
  refine k_iload_n hC 1 dX4_leavesMarket_12 rfl rfl ?_
  refine k_imulN hC dX4_leavesMarket_13 ?_
  refine k_istore_n hC 2 dX4_leavesMarket_14 rfl (by decide) rfl [(0, .ref y), (1, .int (nI k)), (2, .int (nI (16 * k)))] rfl ?_
  have loop : ∀ (n i : Nat) (u9 c9 : Nat → Int32), n + i = t.length + 1 → i ≤ t.length → mSh (x :: t) i (fun j => u9 (16 * k + j)) (fun j => c9 (16 * k + j)) → (∀ q : Nat, (q < 16 * k ∨ 16 * k + 16 ≤ q) → u9 q = G 21 q ∧ c9 q = G 22 q) → kW p l e rmX4_leavesMarket s m args below meth cd K A 3 Q 0 0 ([]) (wM K y b S ((va_up (va_up (va_up G 21 u9) 22 c9) 23 (upd (G 23) k (nI t.length))))) [(0, .ref y), (1, .int (nI k)), (2, .int (nI (16 * k + i)))] 15 [] := by
    intro n
    induction n with
    | zero => intro i u9 c9 h1 h2; exact absurd h1 (by omega)
    | succ n ih =>
      intro i u9 c9 h1 h2 hs ho
      refine k_iload_n hC 2 dX4_leavesMarket_15 rfl rfl ?_
      refine k_bipush hC (nI 16) dX4_leavesMarket_16 rfl ?_
      refine k_iload_n hC 1 dX4_leavesMarket_18 rfl rfl ?_
      refine k_imulN hC dX4_leavesMarket_19 ?_
      refine k_aload_n hC 0 dX4_leavesMarket_20 rfl rfl ?_
      refine k_get hC inlX4 0 23 rfl rfl (by decide) lkF_X4_53 rfl dX4_leavesMarket_21 ?_
      refine k_iload_n hC 1 dX4_leavesMarket_24 rfl rfl ?_
      refine k_ald hC 15 rfl (by omega) (by decide) dX4_leavesMarket_25 ?_
      refine k_topE (nI t.length) (by show upd _ _ _ _ = _; simp [upd]) ?_
      refine k_iaddN hC dX4_leavesMarket_26 ?_
      refine k_icmp_geN hC 64 dX4_leavesMarket_27 (by decide) (by omega) (by omega) (fun c1 => ?_) (fun c1 => ?_)
      · have e9 : i = t.length := by omega
        exact k_vret hC hE (Nat.le_of_ble_eq_true rfl) (Nat.le_of_ble_eq_true rfl) dX4_leavesMarket_64 ⟨rfl, u9, c9, rfl, mSh_end (e9 ▸ hs), ho⟩
      · refine k_aload_n hC 0 dX4_leavesMarket_30 rfl rfl ?_
        refine k_get hC inlX4 0 21 rfl rfl (by decide) lkF_X4_47 rfl dX4_leavesMarket_31 ?_
        refine k_iload_n hC 2 dX4_leavesMarket_34 rfl rfl ?_
        refine k_aload_n hC 0 dX4_leavesMarket_35 rfl rfl ?_
        refine k_get hC inlX4 0 21 rfl rfl (by decide) lkF_X4_47 rfl dX4_leavesMarket_36 ?_
        refine k_iload_n hC 2 dX4_leavesMarket_39 rfl rfl ?_
        refine k_iconst hC (nI 1) dX4_leavesMarket_40 rfl ?_
        refine k_iaddN hC dX4_leavesMarket_41 ?_
        refine k_ald hC 13 rfl (by omega) (by decide) dX4_leavesMarket_42 ?_
        refine k_ast hC 13 rfl (by omega) (by decide) dX4_leavesMarket_43 (wM K y b S (va_up ((va_up (va_up (va_up G 21 u9) 22 c9) 23 (upd (G 23) k (nI t.length)))) 21 (upd u9 (16 * k + i) (u9 ((16 * k + i) + 1))))) rfl ?_
        refine k_aload_n hC 0 dX4_leavesMarket_44 rfl rfl ?_
        refine k_get hC inlX4 0 22 rfl rfl (by decide) lkF_X4_50 rfl dX4_leavesMarket_45 ?_
        refine k_iload_n hC 2 dX4_leavesMarket_48 rfl rfl ?_
        refine k_aload_n hC 0 dX4_leavesMarket_49 rfl rfl ?_
        refine k_get hC inlX4 0 22 rfl rfl (by decide) lkF_X4_50 rfl dX4_leavesMarket_50 ?_
        refine k_iload_n hC 2 dX4_leavesMarket_53 rfl rfl ?_
        refine k_iconst hC (nI 1) dX4_leavesMarket_54 rfl ?_
        refine k_iaddN hC dX4_leavesMarket_55 ?_
        refine k_ald hC 14 rfl (by omega) (by decide) dX4_leavesMarket_56 ?_
        refine k_ast hC 14 rfl (by omega) (by decide) dX4_leavesMarket_57 (wM K y b S (va_up (va_up ((va_up (va_up (va_up G 21 u9) 22 c9) 23 (upd (G 23) k (nI t.length)))) 21 (upd u9 (16 * k + i) (u9 ((16 * k + i) + 1)))) 22 (upd c9 (16 * k + i) (c9 ((16 * k + i) + 1))))) rfl ?_
        refine k_iinc hC dX4_leavesMarket_58 (by decide) rfl rfl (nI (16 * k + i + 1)) (kinc (16 * k + i) 1 rfl) [(0, .ref y), (1, .int (nI k)), (2, .int (nI (16 * k + i + 1)))] rfl ?_
        refine k_goto hC 15 dX4_leavesMarket_61 (by decide) ?_
        have hs2 := mSh_step hs (by omega : i + 1 < (x :: t).length)
        rw [← upd_sh, ← upd_sh] at hs2
        refine ih (i + 1) _ _ (by omega) (by omega) hs2 (fun q hq => ?_)
        have h7 := ho q hq
        exact ⟨(kupd_ne (by omega)).trans h7.1, (kupd_ne (by omega)).trans h7.2⟩
  exact loop (t.length + 1) 0 (G 21) (G 22) (by omega) (by omega) (mSh_0 hg.2) (fun q _ => ⟨rfl, rfl⟩)
abbrev rmX4_marketOf : Room := { frames := 0, cells := 0, slots := 0, locals := 0 }
set_option maxRecDepth 100000 in
set_option maxHeartbeats 4000000 in
theorem cX4_marketOf_k (l : Launch) (K : kE) (y : Nat) (b : Nat → Nat) (S : Nat → Int32) (G : Nat → Nat → Int32) (k : Nat) (L : List (Nat × Nat)) (hk : k < 6) (hg : mRg k L (G 21) (G 22) (G 23)) (hL : L.length ≤ 16) : kM l yX4_marketOf (kws yX4_marketOf cX4_marketOf 4 (some .int)) rmX4_marketOf K [.ref y, .int (nI k)] (wM K y b S G) (fun v w => v = some (.int (nI (mU L))) ∧ w = wM K y b S G) := by
  refine kM_of (pl := []) (X := (wM K y b S G)) rfl (by decide) (Nat.le_of_ble_eq_true rfl) ?_
  intro p e s m args below meth cd A Q hC hnm hE
  refine k_iconst hC (nI 0) dX4_marketOf_0 rfl ?_
  refine k_istore_n hC 2 dX4_marketOf_1 rfl (by decide) rfl [(0, .ref y), (1, .int (nI k)), (2, .int (nI 0))] rfl ?_
  refine k_iconst hC (nI 0) dX4_marketOf_2 rfl ?_
  refine k_istore_n hC 3 dX4_marketOf_3 rfl (by decide) rfl [(0, .ref y), (1, .int (nI k)), (2, .int (nI 0)), (3, .int (nI 0))] rfl ?_
  have loop : ∀ (n i sm : Nat), n + i = L.length + 1 → i ≤ L.length → sm = mU (L.take i) → kW p l e rmX4_marketOf s m args below meth cd K A 4 Q 0 0 ([]) (wM K y b S G) [(0, .ref y), (1, .int (nI k)), (2, .int (nI sm)), (3, .int (nI i))] 4 [] := by
    intro n
    induction n with
    | zero => intro i sm h1 h2; exact absurd h1 (by omega)
    | succ n ih =>
      intro i sm h1 h2 hs
      refine k_iload_n hC 3 dX4_marketOf_4 rfl rfl ?_
      refine k_aload_n hC 0 dX4_marketOf_5 rfl rfl ?_
      refine k_get hC inlX4 0 23 rfl rfl (by decide) lkF_X4_53 rfl dX4_marketOf_6 ?_
      refine k_iload_n hC 1 dX4_marketOf_9 rfl rfl ?_
      refine k_ald hC 15 rfl (by omega) (by decide) dX4_marketOf_10 ?_
      refine k_topE (nI L.length) hg.1 ?_
      refine k_icmp_geN hC 34 dX4_marketOf_11 (by decide) (by omega) (by omega) (fun c1 => ?_) (fun c1 => ?_)
      · refine k_iload_n hC 2 dX4_marketOf_34 rfl rfl ?_
        exact k_iret hC hE (Nat.le_of_ble_eq_true rfl) (Nat.le_of_ble_eq_true rfl) dX4_marketOf_35 ⟨by rw [hs, show i = L.length by omega, List.take_length], rfl⟩
      · have hi : i < L.length := by omega
        refine k_iload_n hC 2 dX4_marketOf_14 rfl rfl ?_
        refine k_aload_n hC 0 dX4_marketOf_15 rfl rfl ?_
        refine k_get hC inlX4 0 21 rfl rfl (by decide) lkF_X4_47 rfl dX4_marketOf_16 ?_
        refine k_bipush hC (nI 16) dX4_marketOf_19 rfl ?_
        refine k_iload_n hC 1 dX4_marketOf_21 rfl rfl ?_
        refine k_imulN hC dX4_marketOf_22 ?_
        refine k_iload_n hC 3 dX4_marketOf_23 rfl rfl ?_
        refine k_iaddN hC dX4_marketOf_24 ?_
        refine k_ald hC 13 rfl (by omega) (by decide) dX4_marketOf_25 ?_
        refine k_topE (nI ((mg L i).1)) (hg.2 i hi).1 ?_
        refine k_iaddN hC dX4_marketOf_26 ?_
        refine k_istore_n hC 2 dX4_marketOf_27 rfl (by decide) rfl [(0, .ref y), (1, .int (nI k)), (2, .int (nI (sm + ((mg L i).1)))), (3, .int (nI i))] rfl ?_
        refine k_iinc hC dX4_marketOf_28 (by decide) rfl rfl (nI (i + 1)) (kinc i 1 rfl) [(0, .ref y), (1, .int (nI k)), (2, .int (nI (sm + ((mg L i).1)))), (3, .int (nI (i + 1)))] rfl ?_
        refine k_goto hC 4 dX4_marketOf_31 (by decide) ?_
        exact ih (i + 1) _ (by omega) (by omega) (by rw [mU_take hi, hs])
  exact loop (L.length + 1) 0 0 (by omega) (by omega) rfl
abbrev rmX4_inboxOf : Room := { frames := 0, cells := 0, slots := 0, locals := 0 }
set_option maxRecDepth 100000 in
set_option maxHeartbeats 4000000 in
theorem cX4_inboxOf_k (l : Launch) (K : kE) (y : Nat) (b : Nat → Nat) (S : Nat → Int32) (G : Nat → Nat → Int32) (k : Nat) (L : List (Nat × Nat)) (hk : k < 6) (hg : mRg k L (G 24) (G 25) (G 26)) (hL : L.length ≤ 16) : kM l yX4_inboxOf (kws yX4_inboxOf cX4_inboxOf 4 (some .int)) rmX4_inboxOf K [.ref y, .int (nI k)] (wM K y b S G) (fun v w => v = some (.int (nI (mU L))) ∧ w = wM K y b S G) := by
  refine kM_of (pl := []) (X := (wM K y b S G)) rfl (by decide) (Nat.le_of_ble_eq_true rfl) ?_
  intro p e s m args below meth cd A Q hC hnm hE
  refine k_iconst hC (nI 0) dX4_inboxOf_0 rfl ?_
  refine k_istore_n hC 2 dX4_inboxOf_1 rfl (by decide) rfl [(0, .ref y), (1, .int (nI k)), (2, .int (nI 0))] rfl ?_
  refine k_iconst hC (nI 0) dX4_inboxOf_2 rfl ?_
  refine k_istore_n hC 3 dX4_inboxOf_3 rfl (by decide) rfl [(0, .ref y), (1, .int (nI k)), (2, .int (nI 0)), (3, .int (nI 0))] rfl ?_
  have loop : ∀ (n i sm : Nat), n + i = L.length + 1 → i ≤ L.length → sm = mU (L.take i) → kW p l e rmX4_inboxOf s m args below meth cd K A 4 Q 0 0 ([]) (wM K y b S G) [(0, .ref y), (1, .int (nI k)), (2, .int (nI sm)), (3, .int (nI i))] 4 [] := by
    intro n
    induction n with
    | zero => intro i sm h1 h2; exact absurd h1 (by omega)
    | succ n ih =>
      intro i sm h1 h2 hs
      refine k_iload_n hC 3 dX4_inboxOf_4 rfl rfl ?_
      refine k_aload_n hC 0 dX4_inboxOf_5 rfl rfl ?_
      refine k_get hC inlX4 0 26 rfl rfl (by decide) lkF_X4_62 rfl dX4_inboxOf_6 ?_
      refine k_iload_n hC 1 dX4_inboxOf_9 rfl rfl ?_
      refine k_ald hC 18 rfl (by omega) (by decide) dX4_inboxOf_10 ?_
      refine k_topE (nI L.length) hg.1 ?_
      refine k_icmp_geN hC 34 dX4_inboxOf_11 (by decide) (by omega) (by omega) (fun c1 => ?_) (fun c1 => ?_)
      · refine k_iload_n hC 2 dX4_inboxOf_34 rfl rfl ?_
        exact k_iret hC hE (Nat.le_of_ble_eq_true rfl) (Nat.le_of_ble_eq_true rfl) dX4_inboxOf_35 ⟨by rw [hs, show i = L.length by omega, List.take_length], rfl⟩
      · have hi : i < L.length := by omega
        refine k_iload_n hC 2 dX4_inboxOf_14 rfl rfl ?_
        refine k_aload_n hC 0 dX4_inboxOf_15 rfl rfl ?_
        refine k_get hC inlX4 0 24 rfl rfl (by decide) lkF_X4_56 rfl dX4_inboxOf_16 ?_
        refine k_bipush hC (nI 16) dX4_inboxOf_19 rfl ?_
        refine k_iload_n hC 1 dX4_inboxOf_21 rfl rfl ?_
        refine k_imulN hC dX4_inboxOf_22 ?_
        refine k_iload_n hC 3 dX4_inboxOf_23 rfl rfl ?_
        refine k_iaddN hC dX4_inboxOf_24 ?_
        refine k_ald hC 16 rfl (by omega) (by decide) dX4_inboxOf_25 ?_
        refine k_topE (nI ((mg L i).1)) (hg.2 i hi).1 ?_
        refine k_iaddN hC dX4_inboxOf_26 ?_
        refine k_istore_n hC 2 dX4_inboxOf_27 rfl (by decide) rfl [(0, .ref y), (1, .int (nI k)), (2, .int (nI (sm + ((mg L i).1)))), (3, .int (nI i))] rfl ?_
        refine k_iinc hC dX4_inboxOf_28 (by decide) rfl rfl (nI (i + 1)) (kinc i 1 rfl) [(0, .ref y), (1, .int (nI k)), (2, .int (nI (sm + ((mg L i).1)))), (3, .int (nI (i + 1)))] rfl ?_
        refine k_goto hC 4 dX4_inboxOf_31 (by decide) ?_
        exact ih (i + 1) _ (by omega) (by omega) (by rw [mU_take hi, hs])
  exact loop (L.length + 1) 0 0 (by omega) (by omega) rfl
