/-! the reference: units taken out of a market, out of an inbox -/
theorem upd_sh0 (u : Nat → Int32) (k : Nat) (v : Int32) : (fun j => upd u (16 * k) v (16 * k + j)) = upd (fun j => u (16 * k + j)) 0 v := upd_sh u k 0 v
theorem mRg_set0 {k : Nat} {x : Nat × Nat} {t : List (Nat × Nat)} {u c z : Nat → Int32} (h : mRg k (x :: t) u c z) (a : Nat) : mRg k ((a, x.2) :: t) (upd u (16 * k) (nI a)) c z := ⟨h.1, by rw [upd_sh0]; exact mR_set0 h.2 a⟩
theorem mRg_set1 {k : Nat} {x : Nat × Nat} {t : List (Nat × Nat)} {u c z : Nat → Int32} (h : mRg k (x :: t) u c z) (a : Nat) : mRg k ((x.1, a) :: t) u (upd c (16 * k) (nI a)) z := ⟨h.1, by rw [upd_sh0]; exact mR_set1 h.2 a⟩
theorem mTake_full {x : Nat × Nat} {t : List (Nat × Nat)} {w : Nat} {r : Bool} (h0 : ¬ w = 0) (h : x.1 ≤ w) : mTake (x :: t) w r = ((mTake t (w - x.1) r).1, (mTake t (w - x.1) r).2 + x.2) := by rw [mTake, if_neg h0, if_pos h]
theorem mTake_part1 {x : Nat × Nat} {t : List (Nat × Nat)} {w : Nat} (h0 : ¬ w = 0) (h : w < x.1) : mTake (x :: t) w true = ((x.1 - w, 0) :: t, x.2) := by rw [mTake, if_neg h0, if_neg (by omega), if_pos rfl]
theorem mTake_part0 {x : Nat × Nat} {t : List (Nat × Nat)} {w : Nat} {r : Bool} (h0 : ¬ w = 0) (h : w < x.1) (hr : r = false ∨ x.2 = 0) : mTake (x :: t) w r = ((x.1 - w, x.2) :: t, 0) := by
  rw [mTake, if_neg h0, if_neg (by omega)]
  rcases hr with rfl | hr
  · rfl
  · rw [hr]; split <;> rfl
abbrev rmX4_sells : Room := { frames := 1, cells := 0, slots := 0, locals := 22 }
set_option maxRecDepth 100000 in
set_option maxHeartbeats 4000000 in
theorem cX4_sells_k (l : Launch) (K : kE) (y : Nat) (b : Nat → Nat) (S : Nat → Int32) (G : Nat → Nat → Int32) (k : Nat) (hk : k < 6) (L : List (Nat × Nat)) (hg : mRg k L (G 21) (G 22) (G 23)) (hL : L.length ≤ 10) (hok : mOk L) (bd : Nat) (hbd : bd < 1000) (hb : G 14 k = nI bd) (r : Bool) (hr : S 2 = kB r) (hS1 : S 1 = nI (k + 1)) (wd : Int32) (g : Nat) (hw : (wd = nI g ∧ g < 2 ^ 31) ∨ (wd < 0 ∧ g = 0)) (hgU : g ≤ mU L) : kM l yX4_sells (kws yX4_sells cX4_sells 6 none) rmX4_sells K [.ref y, .int wd] (wM K y b S G) (fun v w => v = none ∧ ∃ G1 : Nat → Nat → Int32, w = wM K y b S G1 ∧ mRg k (mTake L g r).1 (G1 21) (G1 22) (G1 23) ∧ G1 14 k = nI (bd + (mTake L g r).2) ∧ mSame [14, 21, 22, 23] G G1 ∧ mOnly k G G1) := by
  refine kM_of (pl := []) (X := (wM K y b S G)) rfl (by decide) (Nat.le_of_ble_eq_true rfl) ?_
  intro p e s m args below meth cd A Q hC hnm hE
  have ex : ∀ (L9 : List (Nat × Nat)) (o : Nat) (x9 : Int32) (G9 : Nat → Nat → Int32), x9 ≤ 0 → mTake L g r = (L9, o) → mRg k L9 (G9 21) (G9 22) (G9 23) → G9 14 k = nI (bd + o) → mSame [14, 21, 22, 23] G G9 → mOnly k G G9 → kW p l e rmX4_sells s m args below meth cd K A 6 Q 0 0 ([]) (wM K y b S G9) [(0, .ref y), (1, .int wd), (2, .int (nI k)), (3, .int x9)] 9 [] := by
    intro L9 o x9 G9 hx he hg9 hb9 hs9 ho9
    refine k_iload_n hC 3 dX4_sells_9 rfl rfl ?_
    refine k_if_le hC 124 dX4_sells_10 (by decide) (fun c1 => ?_) (fun c1 => ?_)
    · exact k_vret hC hE (Nat.le_of_ble_eq_true rfl) (Nat.le_of_ble_eq_true rfl) dX4_sells_124 ⟨rfl, G9, rfl, by rw [he]; exact hg9, by rw [he]; exact hb9, hs9, ho9⟩
    · exact absurd hx c1
  have loop : ∀ (n : Nat) (L9 : List (Nat × Nat)) (w9 o : Nat) (G9 : Nat → Nat → Int32), L9.length < n → L9.length ≤ 10 → w9 < 2 ^ 31 → w9 ≤ mU L9 → o ≤ 100 → mTake L g r = ((mTake L9 w9 r).1, o + (mTake L9 w9 r).2) → mRg k L9 (G9 21) (G9 22) (G9 23) → mOk L9 → o + L9.length ≤ 100 → G9 14 k = nI (bd + o) → mSame [14, 21, 22, 23] G G9 → mOnly k G G9 → kW p l e rmX4_sells s m args below meth cd K A 6 Q 0 0 ([]) (wM K y b S G9) [(0, .ref y), (1, .int wd), (2, .int (nI k)), (3, .int (nI w9))] 9 [] := by
    intro n
    induction n with
    | zero => intro L9 w9 o G9 h1; exact absurd h1 (Nat.not_lt_zero _)
    | succ n ih =>
      intro L9 w9 o G9 h1 h2 h3 h4 h10 he hg9 hk9 h11 hb9 hs9 ho9
      refine k_iload_n hC 3 dX4_sells_9 rfl rfl ?_
      refine k_if_leN hC 124 dX4_sells_10 (by decide) (by omega) (fun c1 => ?_) (fun c1 => ?_)
      · subst c1
        rw [mTake_0] at he
        exact k_vret hC hE (Nat.le_of_ble_eq_true rfl) (Nat.le_of_ble_eq_true rfl) dX4_sells_124 ⟨rfl, G9, rfl, by rw [he]; exact hg9, by rw [he]; exact hb9, hs9, ho9⟩
      · rcases L9 with _ | ⟨x, t⟩
        · exact absurd (Nat.le_zero.mp h4) c1
        · have hl : (x :: t).length = t.length + 1 := rfl
          have ho := mOk_1 hk9 (List.mem_cons_self)
          have hU : mU (x :: t) = x.1 + mU t := rfl
          refine k_bipush hC (nI 16) dX4_sells_13 rfl ?_
          refine k_iload_n hC 2 dX4_sells_15 rfl rfl ?_
          refine k_imulN hC dX4_sells_16 ?_
          refine k_istore hC dX4_sells_17 (by decide) rfl [(0, .ref y), (1, .int wd), (2, .int (nI k)), (3, .int (nI w9)), (4, .int (nI (16 * k)))] rfl ?_
          refine k_aload_n hC 0 dX4_sells_19 rfl rfl ?_
          refine k_get hC inlX4 0 21 rfl rfl (by decide) lkF_X4_47 rfl dX4_sells_20 ?_
          refine k_iload hC dX4_sells_23 rfl ?_
          refine k_ald hC 13 rfl (by omega) (by decide) dX4_sells_25 ?_
          refine k_topE (nI x.1) (hg9.2 0 (by omega)).1 ?_
          refine k_iload_n hC 3 dX4_sells_26 rfl rfl ?_
          refine k_icmp_geN hC 40 dX4_sells_27 (by decide) (by omega) (by omega) (fun c2 => ?_) (fun c2 => ?_)
          · refine k_iload_n hC 3 dX4_sells_40 rfl rfl ?_
            rcases Nat.lt_or_ge w9 x.1 with h5 | h5
            · refine k_istore hC dX4_sells_41 (by decide) rfl [(0, .ref y), (1, .int wd), (2, .int (nI k)), (3, .int (nI w9)), (4, .int (nI (16 * k))), (5, .int (nI w9))] rfl ?_
              refine k_aload_n hC 0 dX4_sells_43 rfl rfl ?_
              refine k_get hC inlX4 0 21 rfl rfl (by decide) lkF_X4_47 rfl dX4_sells_44 ?_
              refine k_iload hC dX4_sells_47 rfl ?_
              refine k_dup2 hC dX4_sells_49 rfl rfl ?_
              refine k_ald hC 13 rfl (by omega) (by decide) dX4_sells_50 ?_
              refine k_topE (nI x.1) (hg9.2 0 (by omega)).1 ?_
              refine k_iload hC dX4_sells_51 rfl ?_
              refine k_isubN hC dX4_sells_53 (by omega) ?_
              refine k_topE (nI (x.1 - w9)) (by first | rfl | (congr 1; omega)) ?_
              refine k_ast hC 13 rfl (by omega) (by decide) dX4_sells_54 (wM K y b S (va_up G9 21 (upd (G9 21) (16 * k) (nI (x.1 - w9))))) rfl ?_
              refine k_iload_n hC 3 dX4_sells_55 rfl rfl ?_
              refine k_iload hC dX4_sells_56 rfl ?_
              refine k_isubN hC dX4_sells_58 (by omega) ?_
              refine k_topE (nI 0) (by first | rfl | (congr 1; omega)) ?_
              refine k_istore_n hC 3 dX4_sells_59 rfl (by decide) rfl [(0, .ref y), (1, .int wd), (2, .int (nI k)), (3, .int (nI 0)), (4, .int (nI (16 * k))), (5, .int (nI w9))] rfl ?_
              refine k_aload_n hC 0 dX4_sells_60 rfl rfl ?_
              refine k_get hC inlX4 0 22 rfl rfl (by decide) lkF_X4_50 rfl dX4_sells_61 ?_
              refine k_iload hC dX4_sells_64 rfl ?_
              refine k_ald hC 14 rfl (by omega) (by decide) dX4_sells_66 ?_
              refine k_topE (nI x.2) (hg9.2 0 (by omega)).2 ?_
              refine k_iconst hC (nI 1) dX4_sells_67 rfl ?_
              refine k_icmp_neN hC 106 dX4_sells_68 (by decide) (by omega) (by omega) (fun c3 => ?_) (fun c3 => ?_)
              · refine k_aload_n hC 0 dX4_sells_106 rfl rfl ?_
                refine k_get hC inlX4 0 21 rfl rfl (by decide) lkF_X4_47 rfl dX4_sells_107 ?_
                refine k_iload hC dX4_sells_110 rfl ?_
                refine k_ald hC 13 rfl (by omega) (by decide) dX4_sells_112 ?_
                refine k_topE (nI (x.1 - w9)) kupd_eq ?_
                refine k_if_neN hC 121 dX4_sells_113 (by decide) (by omega) (fun c7 => ?_) (fun c7 => ?_)
                · refine k_goto hC 9 dX4_sells_121 (by decide) ?_
                  refine k_lsub [0, 1, 2, 3] [(0, .ref y), (1, .int wd), (2, .int (nI k)), (3, .int (nI 0))] rfl ?_
                  exact ex ((x.1 - w9, x.2) :: t) o (nI 0) _ (by decide) (by rw [he, mTake_part0 c1 (by omega) (Or.inr (by omega))]; rfl) (mRg_set0 hg9 (x.1 - w9)) hb9 (mSame_tr hs9 (mSame_up (show 21 ∈ [14, 21, 22, 23] by decide))) (mOnly_tr ho9 (mOnly_21 (x := 0) (by omega)))
                · exact absurd c7 (by omega)
              · refine k_aload_n hC 0 dX4_sells_71 rfl rfl ?_
                refine k_get hC inlX4 0 2 rfl rfl (by decide) lkF_X4_96 rfl dX4_sells_72 ?_
                refine k_topE (kB r) hr ?_
                refine k_if_ne hC 88 dX4_sells_75 (by decide) (fun c4 => ?_) (fun c4 => ?_)
                · have hr1 := kB_ne.mp c4
                  refine k_aload_n hC 0 dX4_sells_88 rfl rfl ?_
                  refine k_get hC inlX4 0 22 rfl rfl (by decide) lkF_X4_50 rfl dX4_sells_89 ?_
                  refine k_iload hC dX4_sells_92 rfl ?_
                  refine k_iconst hC (nI 0) dX4_sells_94 rfl ?_
                  refine k_ast hC 14 rfl (by omega) (by decide) dX4_sells_95 (wM K y b S (va_up (va_up G9 21 (upd (G9 21) (16 * k) (nI (x.1 - w9)))) 22 (upd (G9 22) (16 * k) (nI 0)))) rfl ?_
                  refine k_aload_n hC 0 dX4_sells_96 rfl rfl ?_
                  refine k_get hC inlX4 0 14 rfl rfl (by decide) lkF_X4_26 rfl dX4_sells_97 ?_
                  refine k_iload_n hC 2 dX4_sells_100 rfl rfl ?_
                  refine k_dup2 hC dX4_sells_101 rfl rfl ?_
                  refine k_ald hC 6 rfl (by omega) (by decide) dX4_sells_102 ?_
                  refine k_topE (nI (bd + o)) hb9 ?_
                  refine k_iconst hC (nI 1) dX4_sells_103 rfl ?_
                  refine k_iaddN hC dX4_sells_104 ?_
                  refine k_ast hC 6 rfl (by omega) (by decide) dX4_sells_105 (wM K y b S (va_up (va_up (va_up G9 21 (upd (G9 21) (16 * k) (nI (x.1 - w9)))) 22 (upd (G9 22) (16 * k) (nI 0))) 14 (upd (G9 14) k (nI ((bd + o) + 1))))) rfl ?_
                  refine k_aload_n hC 0 dX4_sells_106 rfl rfl ?_
                  refine k_get hC inlX4 0 21 rfl rfl (by decide) lkF_X4_47 rfl dX4_sells_107 ?_
                  refine k_iload hC dX4_sells_110 rfl ?_
                  refine k_ald hC 13 rfl (by omega) (by decide) dX4_sells_112 ?_
                  refine k_topE (nI (x.1 - w9)) kupd_eq ?_
                  refine k_if_neN hC 121 dX4_sells_113 (by decide) (by omega) (fun c7 => ?_) (fun c7 => ?_)
                  · refine k_goto hC 9 dX4_sells_121 (by decide) ?_
                    refine k_lsub [0, 1, 2, 3] [(0, .ref y), (1, .int wd), (2, .int (nI k)), (3, .int (nI 0))] rfl ?_
                    exact ex ((x.1 - w9, 0) :: t) (o + 1) (nI 0) _ (by decide) (by rw [he, hr1, mTake_part1 c1 (by omega)]; rw [show x.2 = 1 by omega]) (mRg_set1 (mRg_set0 hg9 (x.1 - w9)) 0) kupd_eq (mSame_tr (mSame_tr (mSame_tr hs9 (mSame_up (show 21 ∈ [14, 21, 22, 23] by decide))) (mSame_up (show 22 ∈ [14, 21, 22, 23] by decide))) (mSame_up (show 14 ∈ [14, 21, 22, 23] by decide))) (mOnly_tr (mOnly_tr (mOnly_tr ho9 (mOnly_21 (x := 0) (by omega))) (mOnly_22 (x := 0) (by omega))) mOnly_14)
                  · exact absurd c7 (by omega)
                · refine k_aload_n hC 0 dX4_sells_78 rfl rfl ?_
                  refine k_get hC inlX4 0 21 rfl rfl (by decide) lkF_X4_47 rfl dX4_sells_79 ?_
                  refine k_iload hC dX4_sells_82 rfl ?_
                  refine k_ald hC 13 rfl (by omega) (by decide) dX4_sells_84 ?_
                  refine k_topE (nI (x.1 - w9)) kupd_eq ?_
                  refine k_if_neN hC 106 dX4_sells_85 (by decide) (by omega) (fun c5 => ?_) (fun c5 => ?_)
                  · refine k_aload_n hC 0 dX4_sells_106 rfl rfl ?_
                    refine k_get hC inlX4 0 21 rfl rfl (by decide) lkF_X4_47 rfl dX4_sells_107 ?_
                    refine k_iload hC dX4_sells_110 rfl ?_
                    refine k_ald hC 13 rfl (by omega) (by decide) dX4_sells_112 ?_
                    refine k_topE (nI (x.1 - w9)) kupd_eq ?_
                    refine k_if_neN hC 121 dX4_sells_113 (by decide) (by omega) (fun c7 => ?_) (fun c7 => ?_)
                    · refine k_goto hC 9 dX4_sells_121 (by decide) ?_
                      refine k_lsub [0, 1, 2, 3] [(0, .ref y), (1, .int wd), (2, .int (nI k)), (3, .int (nI 0))] rfl ?_
                      exact ex ((x.1 - w9, x.2) :: t) o (nI 0) _ (by decide) (by rw [he, mTake_part0 c1 (by omega) (Or.inl (kB_eq.mp c4))]; rfl) (mRg_set0 hg9 (x.1 - w9)) hb9 (mSame_tr hs9 (mSame_up (show 21 ∈ [14, 21, 22, 23] by decide))) (mOnly_tr ho9 (mOnly_21 (x := 0) (by omega)))
                    · exact absurd c7 (by omega)
                  · exact absurd c5 (by omega)
            · have h6 : x.1 ≤ w9 := h5
              refine k_istore hC dX4_sells_41 (by decide) rfl [(0, .ref y), (1, .int wd), (2, .int (nI k)), (3, .int (nI w9)), (4, .int (nI (16 * k))), (5, .int (nI w9))] rfl ?_
              refine k_aload_n hC 0 dX4_sells_43 rfl rfl ?_
              refine k_get hC inlX4 0 21 rfl rfl (by decide) lkF_X4_47 rfl dX4_sells_44 ?_
              refine k_iload hC dX4_sells_47 rfl ?_
              refine k_dup2 hC dX4_sells_49 rfl rfl ?_
              refine k_ald hC 13 rfl (by omega) (by decide) dX4_sells_50 ?_
              refine k_topE (nI x.1) (hg9.2 0 (by omega)).1 ?_
              refine k_iload hC dX4_sells_51 rfl ?_
              refine k_isubN hC dX4_sells_53 (by omega) ?_
              refine k_topE (nI 0) (by first | rfl | (congr 1; omega)) ?_
              refine k_ast hC 13 rfl (by omega) (by decide) dX4_sells_54 (wM K y b S (va_up G9 21 (upd (G9 21) (16 * k) (nI 0)))) rfl ?_
              refine k_iload_n hC 3 dX4_sells_55 rfl rfl ?_
              refine k_iload hC dX4_sells_56 rfl ?_
              refine k_isubN hC dX4_sells_58 (by omega) ?_
              refine k_topE (nI (w9 - x.1)) (by first | rfl | (congr 1; omega)) ?_
              refine k_istore_n hC 3 dX4_sells_59 rfl (by decide) rfl [(0, .ref y), (1, .int wd), (2, .int (nI k)), (3, .int (nI (w9 - x.1))), (4, .int (nI (16 * k))), (5, .int (nI w9))] rfl ?_
              refine k_aload_n hC 0 dX4_sells_60 rfl rfl ?_
              refine k_get hC inlX4 0 22 rfl rfl (by decide) lkF_X4_50 rfl dX4_sells_61 ?_
              refine k_iload hC dX4_sells_64 rfl ?_
              refine k_ald hC 14 rfl (by omega) (by decide) dX4_sells_66 ?_
              refine k_topE (nI x.2) (hg9.2 0 (by omega)).2 ?_
              refine k_iconst hC (nI 1) dX4_sells_67 rfl ?_
              refine k_icmp_neN hC 106 dX4_sells_68 (by decide) (by omega) (by omega) (fun c3 => ?_) (fun c3 => ?_)
              · refine k_aload_n hC 0 dX4_sells_106 rfl rfl ?_
                refine k_get hC inlX4 0 21 rfl rfl (by decide) lkF_X4_47 rfl dX4_sells_107 ?_
                refine k_iload hC dX4_sells_110 rfl ?_
                refine k_ald hC 13 rfl (by omega) (by decide) dX4_sells_112 ?_
                refine k_topE (nI 0) kupd_eq ?_
                refine k_if_neN hC 121 dX4_sells_113 (by decide) (by omega) (fun c7 => ?_) (fun c7 => ?_)
                · exact absurd rfl c7
                · refine k_aload_n hC 0 dX4_sells_116 rfl rfl ?_
                  refine k_iload_n hC 2 dX4_sells_117 rfl rfl ?_
                  refine k_callV hC (As := [.int (nI k)]) (cX4_leavesMarket_k l K y b S (va_up G9 21 (upd (G9 21) (16 * k) (nI 0))) k (0, x.2) t hk (mRg_set0 hg9 0) (by show t.length + 1 ≤ 16; omega)) [] (List.append_nil _).symm 0 rfl rfl (kAll5 lkM_X4_103 lkI_yX4_leavesMarket lkS_yX4_leavesMarket lkN_X4 lkC_yX4_leavesMarket) 1 (by decide) ⟨(Nat.le_of_ble_eq_true rfl), (Nat.le_of_ble_eq_true rfl)⟩ rfl rfl (Nat.le_of_ble_eq_true rfl) ⟨(Nat.le_of_ble_eq_true rfl), (Nat.le_of_ble_eq_true rfl)⟩ dX4_sells_118 (fun v w h => ?_)
                  obtain ⟨rfl, u1, c2, rfl, hR1, ho1⟩ := h
                  refine k_re 0 0 (wM K y b S (va_up (va_up (va_up (va_up G9 21 (upd (G9 21) (16 * k) (nI 0))) 21 u1) 22 c2) 23 (upd (G9 23) k (nI t.length)))) [] rfl rfl (List.append_nil _) rfl ?_
                  refine k_goto hC 9 dX4_sells_121 (by decide) ?_
                  refine k_lsub [0, 1, 2, 3] [(0, .ref y), (1, .int wd), (2, .int (nI k)), (3, .int (nI (w9 - x.1)))] rfl ?_
                  exact ih t (w9 - x.1) (o + x.2) _ (by omega) (by omega) (by omega) (by omega) (by omega) (by rw [he, mTake_full c1 (by omega)]; congr 1; omega) ⟨kupd_eq, hR1⟩ (mOk_tail hk9) (by omega) (by rw [show x.2 = 0 by omega]; exact hb9) (mSame_tr (mSame_tr (mSame_tr (mSame_tr hs9 (mSame_up (show 21 ∈ [14, 21, 22, 23] by decide))) (mSame_up (show 21 ∈ [14, 21, 22, 23] by decide))) (mSame_up (show 22 ∈ [14, 21, 22, 23] by decide))) (mSame_up (show 23 ∈ [14, 21, 22, 23] by decide))) (mOnly_tr (mOnly_tr (mOnly_tr ho9 (mOnly_21 (x := 0) (by omega))) (mOnlyP_21 ho1)) mOnly_23)
              · refine k_aload_n hC 0 dX4_sells_71 rfl rfl ?_
                refine k_get hC inlX4 0 2 rfl rfl (by decide) lkF_X4_96 rfl dX4_sells_72 ?_
                refine k_topE (kB r) hr ?_
                refine k_if_ne hC 88 dX4_sells_75 (by decide) (fun c4 => ?_) (fun c4 => ?_)
                · have hr1 := kB_ne.mp c4
                  refine k_aload_n hC 0 dX4_sells_88 rfl rfl ?_
                  refine k_get hC inlX4 0 22 rfl rfl (by decide) lkF_X4_50 rfl dX4_sells_89 ?_
                  refine k_iload hC dX4_sells_92 rfl ?_
                  refine k_iconst hC (nI 0) dX4_sells_94 rfl ?_
                  refine k_ast hC 14 rfl (by omega) (by decide) dX4_sells_95 (wM K y b S (va_up (va_up G9 21 (upd (G9 21) (16 * k) (nI 0))) 22 (upd (G9 22) (16 * k) (nI 0)))) rfl ?_
                  refine k_aload_n hC 0 dX4_sells_96 rfl rfl ?_
                  refine k_get hC inlX4 0 14 rfl rfl (by decide) lkF_X4_26 rfl dX4_sells_97 ?_
                  refine k_iload_n hC 2 dX4_sells_100 rfl rfl ?_
                  refine k_dup2 hC dX4_sells_101 rfl rfl ?_
                  refine k_ald hC 6 rfl (by omega) (by decide) dX4_sells_102 ?_
                  refine k_topE (nI (bd + o)) hb9 ?_
                  refine k_iconst hC (nI 1) dX4_sells_103 rfl ?_
                  refine k_iaddN hC dX4_sells_104 ?_
                  refine k_ast hC 6 rfl (by omega) (by decide) dX4_sells_105 (wM K y b S (va_up (va_up (va_up G9 21 (upd (G9 21) (16 * k) (nI 0))) 22 (upd (G9 22) (16 * k) (nI 0))) 14 (upd (G9 14) k (nI ((bd + o) + 1))))) rfl ?_
                  refine k_aload_n hC 0 dX4_sells_106 rfl rfl ?_
                  refine k_get hC inlX4 0 21 rfl rfl (by decide) lkF_X4_47 rfl dX4_sells_107 ?_
                  refine k_iload hC dX4_sells_110 rfl ?_
                  refine k_ald hC 13 rfl (by omega) (by decide) dX4_sells_112 ?_
                  refine k_topE (nI 0) kupd_eq ?_
                  refine k_if_neN hC 121 dX4_sells_113 (by decide) (by omega) (fun c7 => ?_) (fun c7 => ?_)
                  · exact absurd rfl c7
                  · refine k_aload_n hC 0 dX4_sells_116 rfl rfl ?_
                    refine k_iload_n hC 2 dX4_sells_117 rfl rfl ?_
                    refine k_callV hC (As := [.int (nI k)]) (cX4_leavesMarket_k l K y b S (va_up (va_up (va_up G9 21 (upd (G9 21) (16 * k) (nI 0))) 22 (upd (G9 22) (16 * k) (nI 0))) 14 (upd (G9 14) k (nI ((bd + o) + 1)))) k (0, 0) t hk (mRg_set1 (mRg_set0 hg9 0) 0) (by show t.length + 1 ≤ 16; omega)) [] (List.append_nil _).symm 0 rfl rfl (kAll5 lkM_X4_103 lkI_yX4_leavesMarket lkS_yX4_leavesMarket lkN_X4 lkC_yX4_leavesMarket) 1 (by decide) ⟨(Nat.le_of_ble_eq_true rfl), (Nat.le_of_ble_eq_true rfl)⟩ rfl rfl (Nat.le_of_ble_eq_true rfl) ⟨(Nat.le_of_ble_eq_true rfl), (Nat.le_of_ble_eq_true rfl)⟩ dX4_sells_118 (fun v w h => ?_)
                    obtain ⟨rfl, u1, c2, rfl, hR1, ho1⟩ := h
                    refine k_re 0 0 (wM K y b S (va_up (va_up (va_up (va_up (va_up (va_up G9 21 (upd (G9 21) (16 * k) (nI 0))) 22 (upd (G9 22) (16 * k) (nI 0))) 14 (upd (G9 14) k (nI ((bd + o) + 1)))) 21 u1) 22 c2) 23 (upd (G9 23) k (nI t.length)))) [] rfl rfl (List.append_nil _) rfl ?_
                    refine k_goto hC 9 dX4_sells_121 (by decide) ?_
                    refine k_lsub [0, 1, 2, 3] [(0, .ref y), (1, .int wd), (2, .int (nI k)), (3, .int (nI (w9 - x.1)))] rfl ?_
                    exact ih t (w9 - x.1) (o + x.2) _ (by omega) (by omega) (by omega) (by omega) (by omega) (by rw [he, mTake_full c1 (by omega)]; congr 1; omega) ⟨kupd_eq, hR1⟩ (mOk_tail hk9) (by omega) (by show upd _ _ _ _ = _; rw [kupd_eq]; congr 1; omega) (mSame_tr (mSame_tr (mSame_tr (mSame_tr (mSame_tr (mSame_tr hs9 (mSame_up (show 21 ∈ [14, 21, 22, 23] by decide))) (mSame_up (show 22 ∈ [14, 21, 22, 23] by decide))) (mSame_up (show 14 ∈ [14, 21, 22, 23] by decide))) (mSame_up (show 21 ∈ [14, 21, 22, 23] by decide))) (mSame_up (show 22 ∈ [14, 21, 22, 23] by decide))) (mSame_up (show 23 ∈ [14, 21, 22, 23] by decide))) (mOnly_tr (mOnly_tr (mOnly_tr (mOnly_tr (mOnly_tr ho9 (mOnly_21 (x := 0) (by omega))) (mOnly_22 (x := 0) (by omega))) mOnly_14) (mOnlyP_21 ho1)) mOnly_23)
                · refine k_aload_n hC 0 dX4_sells_78 rfl rfl ?_
                  refine k_get hC inlX4 0 21 rfl rfl (by decide) lkF_X4_47 rfl dX4_sells_79 ?_
                  refine k_iload hC dX4_sells_82 rfl ?_
                  refine k_ald hC 13 rfl (by omega) (by decide) dX4_sells_84 ?_
                  refine k_topE (nI 0) kupd_eq ?_
                  refine k_if_neN hC 106 dX4_sells_85 (by decide) (by omega) (fun c5 => ?_) (fun c5 => ?_)
                  · exact absurd rfl c5
                  · refine k_aload_n hC 0 dX4_sells_88 rfl rfl ?_
                    refine k_get hC inlX4 0 22 rfl rfl (by decide) lkF_X4_50 rfl dX4_sells_89 ?_
                    refine k_iload hC dX4_sells_92 rfl ?_
                    refine k_iconst hC (nI 0) dX4_sells_94 rfl ?_
                    refine k_ast hC 14 rfl (by omega) (by decide) dX4_sells_95 (wM K y b S (va_up (va_up G9 21 (upd (G9 21) (16 * k) (nI 0))) 22 (upd (G9 22) (16 * k) (nI 0)))) rfl ?_
                    refine k_aload_n hC 0 dX4_sells_96 rfl rfl ?_
                    refine k_get hC inlX4 0 14 rfl rfl (by decide) lkF_X4_26 rfl dX4_sells_97 ?_
                    refine k_iload_n hC 2 dX4_sells_100 rfl rfl ?_
                    refine k_dup2 hC dX4_sells_101 rfl rfl ?_
                    refine k_ald hC 6 rfl (by omega) (by decide) dX4_sells_102 ?_
                    refine k_topE (nI (bd + o)) hb9 ?_
                    refine k_iconst hC (nI 1) dX4_sells_103 rfl ?_
                    refine k_iaddN hC dX4_sells_104 ?_
                    refine k_ast hC 6 rfl (by omega) (by decide) dX4_sells_105 (wM K y b S (va_up (va_up (va_up G9 21 (upd (G9 21) (16 * k) (nI 0))) 22 (upd (G9 22) (16 * k) (nI 0))) 14 (upd (G9 14) k (nI ((bd + o) + 1))))) rfl ?_
                    refine k_aload_n hC 0 dX4_sells_106 rfl rfl ?_
                    refine k_get hC inlX4 0 21 rfl rfl (by decide) lkF_X4_47 rfl dX4_sells_107 ?_
                    refine k_iload hC dX4_sells_110 rfl ?_
                    refine k_ald hC 13 rfl (by omega) (by decide) dX4_sells_112 ?_
                    refine k_topE (nI 0) kupd_eq ?_
                    refine k_if_neN hC 121 dX4_sells_113 (by decide) (by omega) (fun c7 => ?_) (fun c7 => ?_)
                    · exact absurd rfl c7
                    · refine k_aload_n hC 0 dX4_sells_116 rfl rfl ?_
                      refine k_iload_n hC 2 dX4_sells_117 rfl rfl ?_
                      refine k_callV hC (As := [.int (nI k)]) (cX4_leavesMarket_k l K y b S (va_up (va_up (va_up G9 21 (upd (G9 21) (16 * k) (nI 0))) 22 (upd (G9 22) (16 * k) (nI 0))) 14 (upd (G9 14) k (nI ((bd + o) + 1)))) k (0, 0) t hk (mRg_set1 (mRg_set0 hg9 0) 0) (by show t.length + 1 ≤ 16; omega)) [] (List.append_nil _).symm 0 rfl rfl (kAll5 lkM_X4_103 lkI_yX4_leavesMarket lkS_yX4_leavesMarket lkN_X4 lkC_yX4_leavesMarket) 1 (by decide) ⟨(Nat.le_of_ble_eq_true rfl), (Nat.le_of_ble_eq_true rfl)⟩ rfl rfl (Nat.le_of_ble_eq_true rfl) ⟨(Nat.le_of_ble_eq_true rfl), (Nat.le_of_ble_eq_true rfl)⟩ dX4_sells_118 (fun v w h => ?_)
                      obtain ⟨rfl, u1, c2, rfl, hR1, ho1⟩ := h
                      refine k_re 0 0 (wM K y b S (va_up (va_up (va_up (va_up (va_up (va_up G9 21 (upd (G9 21) (16 * k) (nI 0))) 22 (upd (G9 22) (16 * k) (nI 0))) 14 (upd (G9 14) k (nI ((bd + o) + 1)))) 21 u1) 22 c2) 23 (upd (G9 23) k (nI t.length)))) [] rfl rfl (List.append_nil _) rfl ?_
                      refine k_goto hC 9 dX4_sells_121 (by decide) ?_
                      refine k_lsub [0, 1, 2, 3] [(0, .ref y), (1, .int wd), (2, .int (nI k)), (3, .int (nI (w9 - x.1)))] rfl ?_
                      exact ih t (w9 - x.1) (o + x.2) _ (by omega) (by omega) (by omega) (by omega) (by omega) (by rw [he, mTake_full c1 (by omega)]; congr 1; omega) ⟨kupd_eq, hR1⟩ (mOk_tail hk9) (by omega) (by show upd _ _ _ _ = _; rw [kupd_eq]; congr 1; omega) (mSame_tr (mSame_tr (mSame_tr (mSame_tr (mSame_tr (mSame_tr hs9 (mSame_up (show 21 ∈ [14, 21, 22, 23] by decide))) (mSame_up (show 22 ∈ [14, 21, 22, 23] by decide))) (mSame_up (show 14 ∈ [14, 21, 22, 23] by decide))) (mSame_up (show 21 ∈ [14, 21, 22, 23] by decide))) (mSame_up (show 22 ∈ [14, 21, 22, 23] by decide))) (mSame_up (show 23 ∈ [14, 21, 22, 23] by decide))) (mOnly_tr (mOnly_tr (mOnly_tr (mOnly_tr (mOnly_tr ho9 (mOnly_21 (x := 0) (by omega))) (mOnly_22 (x := 0) (by omega))) mOnly_14) (mOnlyP_21 ho1)) mOnly_23)
          · refine k_aload_n hC 0 dX4_sells_30 rfl rfl ?_
            refine k_get hC inlX4 0 21 rfl rfl (by decide) lkF_X4_47 rfl dX4_sells_31 ?_
            refine k_iload hC dX4_sells_34 rfl ?_
            refine k_ald hC 13 rfl (by omega) (by decide) dX4_sells_36 ?_
            refine k_topE (nI x.1) (hg9.2 0 (by omega)).1 ?_
            refine k_goto hC 41 dX4_sells_37 (by decide) ?_
            refine k_istore hC dX4_sells_41 (by decide) rfl [(0, .ref y), (1, .int wd), (2, .int (nI k)), (3, .int (nI w9)), (4, .int (nI (16 * k))), (5, .int (nI x.1))] rfl ?_
            refine k_aload_n hC 0 dX4_sells_43 rfl rfl ?_
            refine k_get hC inlX4 0 21 rfl rfl (by decide) lkF_X4_47 rfl dX4_sells_44 ?_
            refine k_iload hC dX4_sells_47 rfl ?_
            refine k_dup2 hC dX4_sells_49 rfl rfl ?_
            refine k_ald hC 13 rfl (by omega) (by decide) dX4_sells_50 ?_
            refine k_topE (nI x.1) (hg9.2 0 (by omega)).1 ?_
            refine k_iload hC dX4_sells_51 rfl ?_
            refine k_isubN hC dX4_sells_53 (by omega) ?_
            refine k_topE (nI 0) (by first | rfl | (congr 1; omega)) ?_
            refine k_ast hC 13 rfl (by omega) (by decide) dX4_sells_54 (wM K y b S (va_up G9 21 (upd (G9 21) (16 * k) (nI 0)))) rfl ?_
            refine k_iload_n hC 3 dX4_sells_55 rfl rfl ?_
            refine k_iload hC dX4_sells_56 rfl ?_
            refine k_isubN hC dX4_sells_58 (by omega) ?_
            refine k_topE (nI (w9 - x.1)) (by first | rfl | (congr 1; omega)) ?_
            refine k_istore_n hC 3 dX4_sells_59 rfl (by decide) rfl [(0, .ref y), (1, .int wd), (2, .int (nI k)), (3, .int (nI (w9 - x.1))), (4, .int (nI (16 * k))), (5, .int (nI x.1))] rfl ?_
            refine k_aload_n hC 0 dX4_sells_60 rfl rfl ?_
            refine k_get hC inlX4 0 22 rfl rfl (by decide) lkF_X4_50 rfl dX4_sells_61 ?_
            refine k_iload hC dX4_sells_64 rfl ?_
            refine k_ald hC 14 rfl (by omega) (by decide) dX4_sells_66 ?_
            refine k_topE (nI x.2) (hg9.2 0 (by omega)).2 ?_
            refine k_iconst hC (nI 1) dX4_sells_67 rfl ?_
            refine k_icmp_neN hC 106 dX4_sells_68 (by decide) (by omega) (by omega) (fun c3 => ?_) (fun c3 => ?_)
            · refine k_aload_n hC 0 dX4_sells_106 rfl rfl ?_
              refine k_get hC inlX4 0 21 rfl rfl (by decide) lkF_X4_47 rfl dX4_sells_107 ?_
              refine k_iload hC dX4_sells_110 rfl ?_
              refine k_ald hC 13 rfl (by omega) (by decide) dX4_sells_112 ?_
              refine k_topE (nI 0) kupd_eq ?_
              refine k_if_neN hC 121 dX4_sells_113 (by decide) (by omega) (fun c7 => ?_) (fun c7 => ?_)
              · exact absurd rfl c7
              · refine k_aload_n hC 0 dX4_sells_116 rfl rfl ?_
                refine k_iload_n hC 2 dX4_sells_117 rfl rfl ?_
                refine k_callV hC (As := [.int (nI k)]) (cX4_leavesMarket_k l K y b S (va_up G9 21 (upd (G9 21) (16 * k) (nI 0))) k (0, x.2) t hk (mRg_set0 hg9 0) (by show t.length + 1 ≤ 16; omega)) [] (List.append_nil _).symm 0 rfl rfl (kAll5 lkM_X4_103 lkI_yX4_leavesMarket lkS_yX4_leavesMarket lkN_X4 lkC_yX4_leavesMarket) 1 (by decide) ⟨(Nat.le_of_ble_eq_true rfl), (Nat.le_of_ble_eq_true rfl)⟩ rfl rfl (Nat.le_of_ble_eq_true rfl) ⟨(Nat.le_of_ble_eq_true rfl), (Nat.le_of_ble_eq_true rfl)⟩ dX4_sells_118 (fun v w h => ?_)
                obtain ⟨rfl, u1, c2, rfl, hR1, ho1⟩ := h
                refine k_re 0 0 (wM K y b S (va_up (va_up (va_up (va_up G9 21 (upd (G9 21) (16 * k) (nI 0))) 21 u1) 22 c2) 23 (upd (G9 23) k (nI t.length)))) [] rfl rfl (List.append_nil _) rfl ?_
                refine k_goto hC 9 dX4_sells_121 (by decide) ?_
                refine k_lsub [0, 1, 2, 3] [(0, .ref y), (1, .int wd), (2, .int (nI k)), (3, .int (nI (w9 - x.1)))] rfl ?_
                exact ih t (w9 - x.1) (o + x.2) _ (by omega) (by omega) (by omega) (by omega) (by omega) (by rw [he, mTake_full c1 (by omega)]; congr 1; omega) ⟨kupd_eq, hR1⟩ (mOk_tail hk9) (by omega) (by rw [show x.2 = 0 by omega]; exact hb9) (mSame_tr (mSame_tr (mSame_tr (mSame_tr hs9 (mSame_up (show 21 ∈ [14, 21, 22, 23] by decide))) (mSame_up (show 21 ∈ [14, 21, 22, 23] by decide))) (mSame_up (show 22 ∈ [14, 21, 22, 23] by decide))) (mSame_up (show 23 ∈ [14, 21, 22, 23] by decide))) (mOnly_tr (mOnly_tr (mOnly_tr ho9 (mOnly_21 (x := 0) (by omega))) (mOnlyP_21 ho1)) mOnly_23)
            · refine k_aload_n hC 0 dX4_sells_71 rfl rfl ?_
              refine k_get hC inlX4 0 2 rfl rfl (by decide) lkF_X4_96 rfl dX4_sells_72 ?_
              refine k_topE (kB r) hr ?_
              refine k_if_ne hC 88 dX4_sells_75 (by decide) (fun c4 => ?_) (fun c4 => ?_)
              · have hr1 := kB_ne.mp c4
                refine k_aload_n hC 0 dX4_sells_88 rfl rfl ?_
                refine k_get hC inlX4 0 22 rfl rfl (by decide) lkF_X4_50 rfl dX4_sells_89 ?_
                refine k_iload hC dX4_sells_92 rfl ?_
                refine k_iconst hC (nI 0) dX4_sells_94 rfl ?_
                refine k_ast hC 14 rfl (by omega) (by decide) dX4_sells_95 (wM K y b S (va_up (va_up G9 21 (upd (G9 21) (16 * k) (nI 0))) 22 (upd (G9 22) (16 * k) (nI 0)))) rfl ?_
                refine k_aload_n hC 0 dX4_sells_96 rfl rfl ?_
                refine k_get hC inlX4 0 14 rfl rfl (by decide) lkF_X4_26 rfl dX4_sells_97 ?_
                refine k_iload_n hC 2 dX4_sells_100 rfl rfl ?_
                refine k_dup2 hC dX4_sells_101 rfl rfl ?_
                refine k_ald hC 6 rfl (by omega) (by decide) dX4_sells_102 ?_
                refine k_topE (nI (bd + o)) hb9 ?_
                refine k_iconst hC (nI 1) dX4_sells_103 rfl ?_
                refine k_iaddN hC dX4_sells_104 ?_
                refine k_ast hC 6 rfl (by omega) (by decide) dX4_sells_105 (wM K y b S (va_up (va_up (va_up G9 21 (upd (G9 21) (16 * k) (nI 0))) 22 (upd (G9 22) (16 * k) (nI 0))) 14 (upd (G9 14) k (nI ((bd + o) + 1))))) rfl ?_
                refine k_aload_n hC 0 dX4_sells_106 rfl rfl ?_
                refine k_get hC inlX4 0 21 rfl rfl (by decide) lkF_X4_47 rfl dX4_sells_107 ?_
                refine k_iload hC dX4_sells_110 rfl ?_
                refine k_ald hC 13 rfl (by omega) (by decide) dX4_sells_112 ?_
                refine k_topE (nI 0) kupd_eq ?_
                refine k_if_neN hC 121 dX4_sells_113 (by decide) (by omega) (fun c7 => ?_) (fun c7 => ?_)
                · exact absurd rfl c7
                · refine k_aload_n hC 0 dX4_sells_116 rfl rfl ?_
                  refine k_iload_n hC 2 dX4_sells_117 rfl rfl ?_
                  refine k_callV hC (As := [.int (nI k)]) (cX4_leavesMarket_k l K y b S (va_up (va_up (va_up G9 21 (upd (G9 21) (16 * k) (nI 0))) 22 (upd (G9 22) (16 * k) (nI 0))) 14 (upd (G9 14) k (nI ((bd + o) + 1)))) k (0, 0) t hk (mRg_set1 (mRg_set0 hg9 0) 0) (by show t.length + 1 ≤ 16; omega)) [] (List.append_nil _).symm 0 rfl rfl (kAll5 lkM_X4_103 lkI_yX4_leavesMarket lkS_yX4_leavesMarket lkN_X4 lkC_yX4_leavesMarket) 1 (by decide) ⟨(Nat.le_of_ble_eq_true rfl), (Nat.le_of_ble_eq_true rfl)⟩ rfl rfl (Nat.le_of_ble_eq_true rfl) ⟨(Nat.le_of_ble_eq_true rfl), (Nat.le_of_ble_eq_true rfl)⟩ dX4_sells_118 (fun v w h => ?_)
                  obtain ⟨rfl, u1, c2, rfl, hR1, ho1⟩ := h
                  refine k_re 0 0 (wM K y b S (va_up (va_up (va_up (va_up (va_up (va_up G9 21 (upd (G9 21) (16 * k) (nI 0))) 22 (upd (G9 22) (16 * k) (nI 0))) 14 (upd (G9 14) k (nI ((bd + o) + 1)))) 21 u1) 22 c2) 23 (upd (G9 23) k (nI t.length)))) [] rfl rfl (List.append_nil _) rfl ?_
                  refine k_goto hC 9 dX4_sells_121 (by decide) ?_
                  refine k_lsub [0, 1, 2, 3] [(0, .ref y), (1, .int wd), (2, .int (nI k)), (3, .int (nI (w9 - x.1)))] rfl ?_
                  exact ih t (w9 - x.1) (o + x.2) _ (by omega) (by omega) (by omega) (by omega) (by omega) (by rw [he, mTake_full c1 (by omega)]; congr 1; omega) ⟨kupd_eq, hR1⟩ (mOk_tail hk9) (by omega) (by show upd _ _ _ _ = _; rw [kupd_eq]; congr 1; omega) (mSame_tr (mSame_tr (mSame_tr (mSame_tr (mSame_tr (mSame_tr hs9 (mSame_up (show 21 ∈ [14, 21, 22, 23] by decide))) (mSame_up (show 22 ∈ [14, 21, 22, 23] by decide))) (mSame_up (show 14 ∈ [14, 21, 22, 23] by decide))) (mSame_up (show 21 ∈ [14, 21, 22, 23] by decide))) (mSame_up (show 22 ∈ [14, 21, 22, 23] by decide))) (mSame_up (show 23 ∈ [14, 21, 22, 23] by decide))) (mOnly_tr (mOnly_tr (mOnly_tr (mOnly_tr (mOnly_tr ho9 (mOnly_21 (x := 0) (by omega))) (mOnly_22 (x := 0) (by omega))) mOnly_14) (mOnlyP_21 ho1)) mOnly_23)
              · refine k_aload_n hC 0 dX4_sells_78 rfl rfl ?_
                refine k_get hC inlX4 0 21 rfl rfl (by decide) lkF_X4_47 rfl dX4_sells_79 ?_
                refine k_iload hC dX4_sells_82 rfl ?_
                refine k_ald hC 13 rfl (by omega) (by decide) dX4_sells_84 ?_
                refine k_topE (nI 0) kupd_eq ?_
                refine k_if_neN hC 106 dX4_sells_85 (by decide) (by omega) (fun c5 => ?_) (fun c5 => ?_)
                · exact absurd rfl c5
                · refine k_aload_n hC 0 dX4_sells_88 rfl rfl ?_
                  refine k_get hC inlX4 0 22 rfl rfl (by decide) lkF_X4_50 rfl dX4_sells_89 ?_
                  refine k_iload hC dX4_sells_92 rfl ?_
                  refine k_iconst hC (nI 0) dX4_sells_94 rfl ?_
                  refine k_ast hC 14 rfl (by omega) (by decide) dX4_sells_95 (wM K y b S (va_up (va_up G9 21 (upd (G9 21) (16 * k) (nI 0))) 22 (upd (G9 22) (16 * k) (nI 0)))) rfl ?_
                  refine k_aload_n hC 0 dX4_sells_96 rfl rfl ?_
                  refine k_get hC inlX4 0 14 rfl rfl (by decide) lkF_X4_26 rfl dX4_sells_97 ?_
                  refine k_iload_n hC 2 dX4_sells_100 rfl rfl ?_
                  refine k_dup2 hC dX4_sells_101 rfl rfl ?_
                  refine k_ald hC 6 rfl (by omega) (by decide) dX4_sells_102 ?_
                  refine k_topE (nI (bd + o)) hb9 ?_
                  refine k_iconst hC (nI 1) dX4_sells_103 rfl ?_
                  refine k_iaddN hC dX4_sells_104 ?_
                  refine k_ast hC 6 rfl (by omega) (by decide) dX4_sells_105 (wM K y b S (va_up (va_up (va_up G9 21 (upd (G9 21) (16 * k) (nI 0))) 22 (upd (G9 22) (16 * k) (nI 0))) 14 (upd (G9 14) k (nI ((bd + o) + 1))))) rfl ?_
                  refine k_aload_n hC 0 dX4_sells_106 rfl rfl ?_
                  refine k_get hC inlX4 0 21 rfl rfl (by decide) lkF_X4_47 rfl dX4_sells_107 ?_
                  refine k_iload hC dX4_sells_110 rfl ?_
                  refine k_ald hC 13 rfl (by omega) (by decide) dX4_sells_112 ?_
                  refine k_topE (nI 0) kupd_eq ?_
                  refine k_if_neN hC 121 dX4_sells_113 (by decide) (by omega) (fun c7 => ?_) (fun c7 => ?_)
                  · exact absurd rfl c7
                  · refine k_aload_n hC 0 dX4_sells_116 rfl rfl ?_
                    refine k_iload_n hC 2 dX4_sells_117 rfl rfl ?_
                    refine k_callV hC (As := [.int (nI k)]) (cX4_leavesMarket_k l K y b S (va_up (va_up (va_up G9 21 (upd (G9 21) (16 * k) (nI 0))) 22 (upd (G9 22) (16 * k) (nI 0))) 14 (upd (G9 14) k (nI ((bd + o) + 1)))) k (0, 0) t hk (mRg_set1 (mRg_set0 hg9 0) 0) (by show t.length + 1 ≤ 16; omega)) [] (List.append_nil _).symm 0 rfl rfl (kAll5 lkM_X4_103 lkI_yX4_leavesMarket lkS_yX4_leavesMarket lkN_X4 lkC_yX4_leavesMarket) 1 (by decide) ⟨(Nat.le_of_ble_eq_true rfl), (Nat.le_of_ble_eq_true rfl)⟩ rfl rfl (Nat.le_of_ble_eq_true rfl) ⟨(Nat.le_of_ble_eq_true rfl), (Nat.le_of_ble_eq_true rfl)⟩ dX4_sells_118 (fun v w h => ?_)
                    obtain ⟨rfl, u1, c2, rfl, hR1, ho1⟩ := h
                    refine k_re 0 0 (wM K y b S (va_up (va_up (va_up (va_up (va_up (va_up G9 21 (upd (G9 21) (16 * k) (nI 0))) 22 (upd (G9 22) (16 * k) (nI 0))) 14 (upd (G9 14) k (nI ((bd + o) + 1)))) 21 u1) 22 c2) 23 (upd (G9 23) k (nI t.length)))) [] rfl rfl (List.append_nil _) rfl ?_
                    refine k_goto hC 9 dX4_sells_121 (by decide) ?_
                    refine k_lsub [0, 1, 2, 3] [(0, .ref y), (1, .int wd), (2, .int (nI k)), (3, .int (nI (w9 - x.1)))] rfl ?_
                    exact ih t (w9 - x.1) (o + x.2) _ (by omega) (by omega) (by omega) (by omega) (by omega) (by rw [he, mTake_full c1 (by omega)]; congr 1; omega) ⟨kupd_eq, hR1⟩ (mOk_tail hk9) (by omega) (by show upd _ _ _ _ = _; rw [kupd_eq]; congr 1; omega) (mSame_tr (mSame_tr (mSame_tr (mSame_tr (mSame_tr (mSame_tr hs9 (mSame_up (show 21 ∈ [14, 21, 22, 23] by decide))) (mSame_up (show 22 ∈ [14, 21, 22, 23] by decide))) (mSame_up (show 14 ∈ [14, 21, 22, 23] by decide))) (mSame_up (show 21 ∈ [14, 21, 22, 23] by decide))) (mSame_up (show 22 ∈ [14, 21, 22, 23] by decide))) (mSame_up (show 23 ∈ [14, 21, 22, 23] by decide))) (mOnly_tr (mOnly_tr (mOnly_tr (mOnly_tr (mOnly_tr ho9 (mOnly_21 (x := 0) (by omega))) (mOnly_22 (x := 0) (by omega))) mOnly_14) (mOnlyP_21 ho1)) mOnly_23)
  refine k_aload_n hC 0 dX4_sells_0 rfl rfl ?_
  refine k_get hC inlX4 0 1 rfl rfl (by decide) lkF_X4_78 rfl dX4_sells_1 ?_
  refine k_topE (nI (k + 1)) hS1 ?_
  refine k_iconst hC (nI 1) dX4_sells_4 rfl ?_
  refine k_isubN hC dX4_sells_5 (by omega) ?_
  refine k_topE (nI k) rfl ?_
  refine k_istore_n hC 2 dX4_sells_6 rfl (by decide) rfl [(0, .ref y), (1, .int wd), (2, .int (nI k))] rfl ?_
  refine k_iload_n hC 1 dX4_sells_7 rfl rfl ?_
  refine k_istore_n hC 3 dX4_sells_8 rfl (by decide) rfl [(0, .ref y), (1, .int wd), (2, .int (nI k)), (3, .int wd)] rfl ?_
  rcases hw with hw | hw
  · obtain ⟨rfl, hg31⟩ := hw
    exact loop (L.length + 1) L g 0 G (Nat.lt_succ_self _) hL hg31 hgU (by omega) (by rw [Nat.zero_add]) hg hok (by omega) hb mSame_rf mOnly_rf
  · obtain ⟨hw1, rfl⟩ := hw
    exact ex L 0 wd G (Int32.le_of_lt hw1) (mTake_0 L r) hg hb mSame_rf mOnly_rf
abbrev rmX4_uses : Room := { frames := 0, cells := 0, slots := 0, locals := 0 }
set_option maxRecDepth 100000 in
set_option maxHeartbeats 4000000 in
theorem cX4_uses_k (l : Launch) (K : kE) (y : Nat) (b : Nat → Nat) (S : Nat → Int32) (G : Nat → Nat → Int32) (k : Nat) (hk : k < 6) (L : List (Nat × Nat)) (hg : mRg k L (G 24) (G 25) (G 26)) (hL : L.length ≤ 10) (hok : mOk L) (bd : Nat) (hbd : bd < 1000) (hb : G 20 k = nI bd) (r : Bool) (hr : S 2 = kB r) (g : Nat) (hg31 : g < 2 ^ 31) (hgU : g ≤ mU L) : kM l yX4_uses (kws yX4_uses cX4_uses 7 none) rmX4_uses K [.ref y, .int (nI k), .int (nI g)] (wM K y b S G) (fun v w => v = none ∧ ∃ G1 : Nat → Nat → Int32, w = wM K y b S G1 ∧ mRg k (mTake L g r).1 (G1 24) (G1 25) (G1 26) ∧ G1 20 k = nI (bd + (mTake L g r).2) ∧ mSame [20, 24, 25, 26] G G1 ∧ mOnly k G G1) := by
  refine kM_of (pl := []) (X := (wM K y b S G)) rfl (by decide) (Nat.le_of_ble_eq_true rfl) ?_
  intro p e s m args below meth cd A Q hC hnm hE
  have ex : ∀ (L9 : List (Nat × Nat)) (o : Nat) (x9 : Int32) (G9 : Nat → Nat → Int32), x9 ≤ 0 → mTake L g r = (L9, o) → mRg k L9 (G9 24) (G9 25) (G9 26) → G9 20 k = nI (bd + o) → mSame [20, 24, 25, 26] G G9 → mOnly k G G9 → kW p l e rmX4_uses s m args below meth cd K A 7 Q 0 0 ([]) (wM K y b S G9) [(0, .ref y), (1, .int (nI k)), (2, .int (nI g)), (3, .int x9)] 2 [] := by
    intro L9 o x9 G9 hx he hg9 hb9 hs9 ho9
    refine k_iload_n hC 3 dX4_uses_2 rfl rfl ?_
    refine k_if_le hC 178 dX4_uses_3 (by decide) (fun c1 => ?_) (fun c1 => ?_)
    · exact k_vret hC hE (Nat.le_of_ble_eq_true rfl) (Nat.le_of_ble_eq_true rfl) dX4_uses_178 ⟨rfl, G9, rfl, by rw [he]; exact hg9, by rw [he]; exact hb9, hs9, ho9⟩
    · exact absurd hx c1
  have loop : ∀ (n : Nat) (L9 : List (Nat × Nat)) (w9 o : Nat) (G9 : Nat → Nat → Int32), L9.length < n → L9.length ≤ 10 → w9 < 2 ^ 31 → w9 ≤ mU L9 → o ≤ 100 → mTake L g r = ((mTake L9 w9 r).1, o + (mTake L9 w9 r).2) → mRg k L9 (G9 24) (G9 25) (G9 26) → mOk L9 → o + L9.length ≤ 100 → G9 20 k = nI (bd + o) → mSame [20, 24, 25, 26] G G9 → mOnly k G G9 → kW p l e rmX4_uses s m args below meth cd K A 7 Q 0 0 ([]) (wM K y b S G9) [(0, .ref y), (1, .int (nI k)), (2, .int (nI g)), (3, .int (nI w9))] 2 [] := by
    intro n
    induction n with
    | zero => intro L9 w9 o G9 h1; exact absurd h1 (Nat.not_lt_zero _)
    | succ n ih =>
      intro L9 w9 o G9 h1 h2 h3 h4 h10 he hg9 hk9 h11 hb9 hs9 ho9
      refine k_iload_n hC 3 dX4_uses_2 rfl rfl ?_
      refine k_if_leN hC 178 dX4_uses_3 (by decide) (by omega) (fun c1 => ?_) (fun c1 => ?_)
      · subst c1
        rw [mTake_0] at he
        exact k_vret hC hE (Nat.le_of_ble_eq_true rfl) (Nat.le_of_ble_eq_true rfl) dX4_uses_178 ⟨rfl, G9, rfl, by rw [he]; exact hg9, by rw [he]; exact hb9, hs9, ho9⟩
      · rcases L9 with _ | ⟨x, t⟩
        · exact absurd (Nat.le_zero.mp h4) c1
        · have hl : (x :: t).length = t.length + 1 := rfl
          have ho := mOk_1 hk9 (List.mem_cons_self)
          have hU : mU (x :: t) = x.1 + mU t := rfl
          refine k_bipush hC (nI 16) dX4_uses_6 rfl ?_
          refine k_iload_n hC 1 dX4_uses_8 rfl rfl ?_
          refine k_imulN hC dX4_uses_9 ?_
          refine k_istore hC dX4_uses_10 (by decide) rfl [(0, .ref y), (1, .int (nI k)), (2, .int (nI g)), (3, .int (nI w9)), (4, .int (nI (16 * k)))] rfl ?_
          refine k_aload_n hC 0 dX4_uses_12 rfl rfl ?_
          refine k_get hC inlX4 0 24 rfl rfl (by decide) lkF_X4_56 rfl dX4_uses_13 ?_
          refine k_iload hC dX4_uses_16 rfl ?_
          refine k_ald hC 16 rfl (by omega) (by decide) dX4_uses_18 ?_
          refine k_topE (nI x.1) (hg9.2 0 (by omega)).1 ?_
          refine k_iload_n hC 3 dX4_uses_19 rfl rfl ?_
          refine k_icmp_geN hC 33 dX4_uses_20 (by decide) (by omega) (by omega) (fun c2 => ?_) (fun c2 => ?_)
          · refine k_iload_n hC 3 dX4_uses_33 rfl rfl ?_
            rcases Nat.lt_or_ge w9 x.1 with h5 | h5
            · refine k_istore hC dX4_uses_34 (by decide) rfl [(0, .ref y), (1, .int (nI k)), (2, .int (nI g)), (3, .int (nI w9)), (4, .int (nI (16 * k))), (5, .int (nI w9))] rfl ?_
              refine k_aload_n hC 0 dX4_uses_36 rfl rfl ?_
              refine k_get hC inlX4 0 24 rfl rfl (by decide) lkF_X4_56 rfl dX4_uses_37 ?_
              refine k_iload hC dX4_uses_40 rfl ?_
              refine k_dup2 hC dX4_uses_42 rfl rfl ?_
              refine k_ald hC 16 rfl (by omega) (by decide) dX4_uses_43 ?_
              refine k_topE (nI x.1) (hg9.2 0 (by omega)).1 ?_
              refine k_iload hC dX4_uses_44 rfl ?_
              refine k_isubN hC dX4_uses_46 (by omega) ?_
              refine k_topE (nI (x.1 - w9)) (by first | rfl | (congr 1; omega)) ?_
              refine k_ast hC 16 rfl (by omega) (by decide) dX4_uses_47 (wM K y b S (va_up G9 24 (upd (G9 24) (16 * k) (nI (x.1 - w9))))) rfl ?_
              refine k_iload_n hC 3 dX4_uses_48 rfl rfl ?_
              refine k_iload hC dX4_uses_49 rfl ?_
              refine k_isubN hC dX4_uses_51 (by omega) ?_
              refine k_topE (nI 0) (by first | rfl | (congr 1; omega)) ?_
              refine k_istore_n hC 3 dX4_uses_52 rfl (by decide) rfl [(0, .ref y), (1, .int (nI k)), (2, .int (nI g)), (3, .int (nI 0)), (4, .int (nI (16 * k))), (5, .int (nI w9))] rfl ?_
              refine k_aload_n hC 0 dX4_uses_53 rfl rfl ?_
              refine k_get hC inlX4 0 25 rfl rfl (by decide) lkF_X4_59 rfl dX4_uses_54 ?_
              refine k_iload hC dX4_uses_57 rfl ?_
              refine k_ald hC 17 rfl (by omega) (by decide) dX4_uses_59 ?_
              refine k_topE (nI x.2) (hg9.2 0 (by omega)).2 ?_
              refine k_iconst hC (nI 1) dX4_uses_60 rfl ?_
              refine k_icmp_neN hC 99 dX4_uses_61 (by decide) (by omega) (by omega) (fun c3 => ?_) (fun c3 => ?_)
              · refine k_aload_n hC 0 dX4_uses_99 rfl rfl ?_
                refine k_get hC inlX4 0 24 rfl rfl (by decide) lkF_X4_56 rfl dX4_uses_100 ?_
                refine k_iload hC dX4_uses_103 rfl ?_
                refine k_ald hC 16 rfl (by omega) (by decide) dX4_uses_105 ?_
                refine k_topE (nI (x.1 - w9)) kupd_eq ?_
                refine k_if_neN hC 175 dX4_uses_106 (by decide) (by omega) (fun c7 => ?_) (fun c7 => ?_)
                · refine k_goto hC 2 dX4_uses_175 (by decide) ?_
                  refine k_lsub [0, 1, 2, 3] [(0, .ref y), (1, .int (nI k)), (2, .int (nI g)), (3, .int (nI 0))] rfl ?_
                  exact ex ((x.1 - w9, x.2) :: t) o (nI 0) _ (by decide) (by rw [he, mTake_part0 c1 (by omega) (Or.inr (by omega))]; rfl) (mRg_set0 hg9 (x.1 - w9)) hb9 (mSame_tr hs9 (mSame_up (show 24 ∈ [20, 24, 25, 26] by decide))) (mOnly_tr ho9 (mOnly_24 (x := 0) (by omega)))
                · exact absurd c7 (by omega)
              · refine k_aload_n hC 0 dX4_uses_64 rfl rfl ?_
                refine k_get hC inlX4 0 2 rfl rfl (by decide) lkF_X4_96 rfl dX4_uses_65 ?_
                refine k_topE (kB r) hr ?_
                refine k_if_ne hC 81 dX4_uses_68 (by decide) (fun c4 => ?_) (fun c4 => ?_)
                · have hr1 := kB_ne.mp c4
                  refine k_aload_n hC 0 dX4_uses_81 rfl rfl ?_
                  refine k_get hC inlX4 0 25 rfl rfl (by decide) lkF_X4_59 rfl dX4_uses_82 ?_
                  refine k_iload hC dX4_uses_85 rfl ?_
                  refine k_iconst hC (nI 0) dX4_uses_87 rfl ?_
                  refine k_ast hC 17 rfl (by omega) (by decide) dX4_uses_88 (wM K y b S (va_up (va_up G9 24 (upd (G9 24) (16 * k) (nI (x.1 - w9)))) 25 (upd (G9 25) (16 * k) (nI 0)))) rfl ?_
                  refine k_aload_n hC 0 dX4_uses_89 rfl rfl ?_
                  refine k_get hC inlX4 0 20 rfl rfl (by decide) lkF_X4_44 rfl dX4_uses_90 ?_
                  refine k_iload_n hC 1 dX4_uses_93 rfl rfl ?_
                  refine k_dup2 hC dX4_uses_94 rfl rfl ?_
                  refine k_ald hC 12 rfl (by omega) (by decide) dX4_uses_95 ?_
                  refine k_topE (nI (bd + o)) hb9 ?_
                  refine k_iconst hC (nI 1) dX4_uses_96 rfl ?_
                  refine k_iaddN hC dX4_uses_97 ?_
                  refine k_ast hC 12 rfl (by omega) (by decide) dX4_uses_98 (wM K y b S (va_up (va_up (va_up G9 24 (upd (G9 24) (16 * k) (nI (x.1 - w9)))) 25 (upd (G9 25) (16 * k) (nI 0))) 20 (upd (G9 20) k (nI ((bd + o) + 1))))) rfl ?_
                  refine k_aload_n hC 0 dX4_uses_99 rfl rfl ?_
                  refine k_get hC inlX4 0 24 rfl rfl (by decide) lkF_X4_56 rfl dX4_uses_100 ?_
                  refine k_iload hC dX4_uses_103 rfl ?_
                  refine k_ald hC 16 rfl (by omega) (by decide) dX4_uses_105 ?_
                  refine k_topE (nI (x.1 - w9)) kupd_eq ?_
                  refine k_if_neN hC 175 dX4_uses_106 (by decide) (by omega) (fun c7 => ?_) (fun c7 => ?_)
                  · refine k_goto hC 2 dX4_uses_175 (by decide) ?_
                    refine k_lsub [0, 1, 2, 3] [(0, .ref y), (1, .int (nI k)), (2, .int (nI g)), (3, .int (nI 0))] rfl ?_
                    exact ex ((x.1 - w9, 0) :: t) (o + 1) (nI 0) _ (by decide) (by rw [he, hr1, mTake_part1 c1 (by omega)]; rw [show x.2 = 1 by omega]) (mRg_set1 (mRg_set0 hg9 (x.1 - w9)) 0) kupd_eq (mSame_tr (mSame_tr (mSame_tr hs9 (mSame_up (show 24 ∈ [20, 24, 25, 26] by decide))) (mSame_up (show 25 ∈ [20, 24, 25, 26] by decide))) (mSame_up (show 20 ∈ [20, 24, 25, 26] by decide))) (mOnly_tr (mOnly_tr (mOnly_tr ho9 (mOnly_24 (x := 0) (by omega))) (mOnly_25 (x := 0) (by omega))) mOnly_20)
                  · exact absurd c7 (by omega)
                · refine k_aload_n hC 0 dX4_uses_71 rfl rfl ?_
                  refine k_get hC inlX4 0 24 rfl rfl (by decide) lkF_X4_56 rfl dX4_uses_72 ?_
                  refine k_iload hC dX4_uses_75 rfl ?_
                  refine k_ald hC 16 rfl (by omega) (by decide) dX4_uses_77 ?_
                  refine k_topE (nI (x.1 - w9)) kupd_eq ?_
                  refine k_if_neN hC 99 dX4_uses_78 (by decide) (by omega) (fun c5 => ?_) (fun c5 => ?_)
                  · refine k_aload_n hC 0 dX4_uses_99 rfl rfl ?_
                    refine k_get hC inlX4 0 24 rfl rfl (by decide) lkF_X4_56 rfl dX4_uses_100 ?_
                    refine k_iload hC dX4_uses_103 rfl ?_
                    refine k_ald hC 16 rfl (by omega) (by decide) dX4_uses_105 ?_
                    refine k_topE (nI (x.1 - w9)) kupd_eq ?_
                    refine k_if_neN hC 175 dX4_uses_106 (by decide) (by omega) (fun c7 => ?_) (fun c7 => ?_)
                    · refine k_goto hC 2 dX4_uses_175 (by decide) ?_
                      refine k_lsub [0, 1, 2, 3] [(0, .ref y), (1, .int (nI k)), (2, .int (nI g)), (3, .int (nI 0))] rfl ?_
                      exact ex ((x.1 - w9, x.2) :: t) o (nI 0) _ (by decide) (by rw [he, mTake_part0 c1 (by omega) (Or.inl (kB_eq.mp c4))]; rfl) (mRg_set0 hg9 (x.1 - w9)) hb9 (mSame_tr hs9 (mSame_up (show 24 ∈ [20, 24, 25, 26] by decide))) (mOnly_tr ho9 (mOnly_24 (x := 0) (by omega)))
                    · exact absurd c7 (by omega)
                  · exact absurd c5 (by omega)
            · have h6 : x.1 ≤ w9 := h5
              refine k_istore hC dX4_uses_34 (by decide) rfl [(0, .ref y), (1, .int (nI k)), (2, .int (nI g)), (3, .int (nI w9)), (4, .int (nI (16 * k))), (5, .int (nI w9))] rfl ?_
              refine k_aload_n hC 0 dX4_uses_36 rfl rfl ?_
              refine k_get hC inlX4 0 24 rfl rfl (by decide) lkF_X4_56 rfl dX4_uses_37 ?_
              refine k_iload hC dX4_uses_40 rfl ?_
              refine k_dup2 hC dX4_uses_42 rfl rfl ?_
              refine k_ald hC 16 rfl (by omega) (by decide) dX4_uses_43 ?_
              refine k_topE (nI x.1) (hg9.2 0 (by omega)).1 ?_
              refine k_iload hC dX4_uses_44 rfl ?_
              refine k_isubN hC dX4_uses_46 (by omega) ?_
              refine k_topE (nI 0) (by first | rfl | (congr 1; omega)) ?_
              refine k_ast hC 16 rfl (by omega) (by decide) dX4_uses_47 (wM K y b S (va_up G9 24 (upd (G9 24) (16 * k) (nI 0)))) rfl ?_
              refine k_iload_n hC 3 dX4_uses_48 rfl rfl ?_
              refine k_iload hC dX4_uses_49 rfl ?_
              refine k_isubN hC dX4_uses_51 (by omega) ?_
              refine k_topE (nI (w9 - x.1)) (by first | rfl | (congr 1; omega)) ?_
              refine k_istore_n hC 3 dX4_uses_52 rfl (by decide) rfl [(0, .ref y), (1, .int (nI k)), (2, .int (nI g)), (3, .int (nI (w9 - x.1))), (4, .int (nI (16 * k))), (5, .int (nI w9))] rfl ?_
              refine k_aload_n hC 0 dX4_uses_53 rfl rfl ?_
              refine k_get hC inlX4 0 25 rfl rfl (by decide) lkF_X4_59 rfl dX4_uses_54 ?_
              refine k_iload hC dX4_uses_57 rfl ?_
              refine k_ald hC 17 rfl (by omega) (by decide) dX4_uses_59 ?_
              refine k_topE (nI x.2) (hg9.2 0 (by omega)).2 ?_
              refine k_iconst hC (nI 1) dX4_uses_60 rfl ?_
              refine k_icmp_neN hC 99 dX4_uses_61 (by decide) (by omega) (by omega) (fun c3 => ?_) (fun c3 => ?_)
              · refine k_aload_n hC 0 dX4_uses_99 rfl rfl ?_
                refine k_get hC inlX4 0 24 rfl rfl (by decide) lkF_X4_56 rfl dX4_uses_100 ?_
                refine k_iload hC dX4_uses_103 rfl ?_
                refine k_ald hC 16 rfl (by omega) (by decide) dX4_uses_105 ?_
                refine k_topE (nI 0) kupd_eq ?_
                refine k_if_neN hC 175 dX4_uses_106 (by decide) (by omega) (fun c7 => ?_) (fun c7 => ?_)
                · exact absurd rfl c7
                · refine k_aload_n hC 0 dX4_uses_109 rfl rfl ?_
                  refine k_get hC inlX4 0 26 rfl rfl (by decide) lkF_X4_62 rfl dX4_uses_110 ?_
                  refine k_iload_n hC 1 dX4_uses_113 rfl rfl ?_
                  refine k_dup2 hC dX4_uses_114 rfl rfl ?_
                  refine k_ald hC 18 rfl (by omega) (by decide) dX4_uses_115 ?_
                  refine k_topE (nI ((x :: t).length)) hg9.1 ?_
                  refine k_iconst hC (nI 1) dX4_uses_116 rfl ?_
                  refine k_isubN hC dX4_uses_117 (by omega) ?_
                  refine k_topE (nI t.length) rfl ?_
                  refine k_ast hC 18 rfl (by omega) (by decide) dX4_uses_118 (wM K y b S (va_up (va_up G9 24 (upd (G9 24) (16 * k) (nI 0))) 26 (upd (G9 26) k (nI t.length)))) rfl ?_
                  refine k_iload hC dX4_uses_119 rfl ?_
                  refine k_istore hC dX4_uses_121 (by decide) rfl [(0, .ref y), (1, .int (nI k)), (2, .int (nI g)), (3, .int (nI (w9 - x.1))), (4, .int (nI (16 * k))), (5, .int (nI w9)), (6, .int (nI (16 * k)))] rfl ?_
                  have sh : ∀ (n8 i : Nat) (u8 c8 : Nat → Int32), n8 + i = t.length + 1 → i ≤ t.length → mSh ((0, x.2) :: t) i (fun j => u8 (16 * k + j)) (fun j => c8 (16 * k + j)) → (∀ q : Nat, (q < 16 * k ∨ 16 * k + 16 ≤ q) → u8 q = (upd (G9 24) (16 * k) (nI 0)) q ∧ c8 q = (G9 25) q) → kW p l e rmX4_uses s m args below meth cd K A 7 Q 0 0 ([]) (wM K y b S (va_up (va_up (va_up (va_up G9 24 (upd (G9 24) (16 * k) (nI 0))) 26 (upd (G9 26) k (nI t.length))) 24 u8) 25 c8)) [(0, .ref y), (1, .int (nI k)), (2, .int (nI g)), (3, .int (nI (w9 - x.1))), (4, .int (nI (16 * k))), (5, .int (nI w9)), (6, .int (nI (16 * k + i)))] 123 [] := by
                    intro n8
                    induction n8 with
                    | zero => intro i u8 c8 g1 g2; exact absurd g1 (by omega)
                    | succ n8 ih8 =>
                      intro i u8 c8 g1 g2 gs go
                      refine k_iload hC dX4_uses_123 rfl ?_
                      refine k_iload hC dX4_uses_125 rfl ?_
                      refine k_aload_n hC 0 dX4_uses_127 rfl rfl ?_
                      refine k_get hC inlX4 0 26 rfl rfl (by decide) lkF_X4_62 rfl dX4_uses_128 ?_
                      refine k_iload_n hC 1 dX4_uses_131 rfl rfl ?_
                      refine k_ald hC 18 rfl (by omega) (by decide) dX4_uses_132 ?_
                      refine k_topE (nI t.length) kupd_eq ?_
                      refine k_iaddN hC dX4_uses_133 ?_
                      refine k_icmp_geN hC 175 dX4_uses_134 (by decide) (by omega) (by omega) (fun d1 => ?_) (fun d1 => ?_)
                      · have e9 : i = t.length := by omega
                        refine k_goto hC 2 dX4_uses_175 (by decide) ?_
                        refine k_lsub [0, 1, 2, 3] [(0, .ref y), (1, .int (nI k)), (2, .int (nI g)), (3, .int (nI (w9 - x.1)))] rfl ?_
                        exact ih t (w9 - x.1) (o + x.2) _ (by omega) (by omega) (by omega) (by omega) (by omega) (by rw [he, mTake_full c1 (by omega)]; congr 1; omega) ⟨kupd_eq, mSh_end (e9 ▸ gs)⟩ (mOk_tail hk9) (by omega) (by rw [show x.2 = 0 by omega]; exact hb9) (mSame_tr (mSame_tr (mSame_tr (mSame_tr hs9 (mSame_up (show 24 ∈ [20, 24, 25, 26] by decide))) (mSame_up (show 26 ∈ [20, 24, 25, 26] by decide))) (mSame_up (show 24 ∈ [20, 24, 25, 26] by decide))) (mSame_up (show 25 ∈ [20, 24, 25, 26] by decide))) (mOnly_tr (mOnly_tr (mOnly_tr ho9 (mOnly_24 (x := 0) (by omega))) mOnly_26) (mOnlyP_24 go))
                      · refine k_aload_n hC 0 dX4_uses_137 rfl rfl ?_
                        refine k_get hC inlX4 0 24 rfl rfl (by decide) lkF_X4_56 rfl dX4_uses_138 ?_
                        refine k_iload hC dX4_uses_141 rfl ?_
                        refine k_aload_n hC 0 dX4_uses_143 rfl rfl ?_
                        refine k_get hC inlX4 0 24 rfl rfl (by decide) lkF_X4_56 rfl dX4_uses_144 ?_
                        refine k_iload hC dX4_uses_147 rfl ?_
                        refine k_iconst hC (nI 1) dX4_uses_149 rfl ?_
                        refine k_iaddN hC dX4_uses_150 ?_
                        refine k_ald hC 16 rfl (by omega) (by decide) dX4_uses_151 ?_
                        refine k_ast hC 16 rfl (by omega) (by decide) dX4_uses_152 (wM K y b S (va_up (va_up (va_up (va_up (va_up G9 24 (upd (G9 24) (16 * k) (nI 0))) 26 (upd (G9 26) k (nI t.length))) 24 u8) 25 c8) 24 (upd u8 (16 * k + i) (u8 ((16 * k + i) + 1))))) rfl ?_
                        refine k_aload_n hC 0 dX4_uses_153 rfl rfl ?_
                        refine k_get hC inlX4 0 25 rfl rfl (by decide) lkF_X4_59 rfl dX4_uses_154 ?_
                        refine k_iload hC dX4_uses_157 rfl ?_
                        refine k_aload_n hC 0 dX4_uses_159 rfl rfl ?_
                        refine k_get hC inlX4 0 25 rfl rfl (by decide) lkF_X4_59 rfl dX4_uses_160 ?_
                        refine k_iload hC dX4_uses_163 rfl ?_
                        refine k_iconst hC (nI 1) dX4_uses_165 rfl ?_
                        refine k_iaddN hC dX4_uses_166 ?_
                        refine k_ald hC 17 rfl (by omega) (by decide) dX4_uses_167 ?_
                        refine k_ast hC 17 rfl (by omega) (by decide) dX4_uses_168 (wM K y b S (va_up (va_up (va_up (va_up (va_up (va_up G9 24 (upd (G9 24) (16 * k) (nI 0))) 26 (upd (G9 26) k (nI t.length))) 24 u8) 25 c8) 24 (upd u8 (16 * k + i) (u8 ((16 * k + i) + 1)))) 25 (upd c8 (16 * k + i) (c8 ((16 * k + i) + 1))))) rfl ?_
                        refine k_iinc hC dX4_uses_169 (by decide) rfl rfl (nI (16 * k + i + 1)) (kinc (16 * k + i) 1 rfl) [(0, .ref y), (1, .int (nI k)), (2, .int (nI g)), (3, .int (nI (w9 - x.1))), (4, .int (nI (16 * k))), (5, .int (nI w9)), (6, .int (nI (16 * k + i + 1)))] rfl ?_
                        refine k_goto hC 123 dX4_uses_172 (by decide) ?_
                        have hs2 := mSh_step gs (by show i + 1 < t.length + 1; omega)
                        rw [← upd_sh, ← upd_sh] at hs2
                        refine k_eX (show _ = wM K y b S (va_up (va_up (va_up (va_up G9 24 (upd (G9 24) (16 * k) (nI 0))) 26 (upd (G9 26) k (nI t.length))) 24 (upd u8 (16 * k + i) (u8 ((16 * k + i) + 1)))) 25 (upd c8 (16 * k + i) (c8 ((16 * k + i) + 1)))) from rfl) ?_
                        exact ih8 (i + 1) _ _ (by omega) (by omega) hs2 (fun q hq => ⟨(kupd_ne (by omega)).trans (go q hq).1, (kupd_ne (by omega)).trans (go q hq).2⟩)
                  refine k_eX (show _ = wM K y b S (va_up (va_up (va_up (va_up G9 24 (upd (G9 24) (16 * k) (nI 0))) 26 (upd (G9 26) k (nI t.length))) 24 (upd (G9 24) (16 * k) (nI 0))) 25 (G9 25)) from rfl) ?_
                  exact sh (t.length + 1) 0 _ _ (by omega) (by omega) (mSh_0 (mRg_set0 hg9 0).2) (fun q _ => ⟨rfl, rfl⟩)
              · refine k_aload_n hC 0 dX4_uses_64 rfl rfl ?_
                refine k_get hC inlX4 0 2 rfl rfl (by decide) lkF_X4_96 rfl dX4_uses_65 ?_
                refine k_topE (kB r) hr ?_
                refine k_if_ne hC 81 dX4_uses_68 (by decide) (fun c4 => ?_) (fun c4 => ?_)
                · have hr1 := kB_ne.mp c4
                  refine k_aload_n hC 0 dX4_uses_81 rfl rfl ?_
                  refine k_get hC inlX4 0 25 rfl rfl (by decide) lkF_X4_59 rfl dX4_uses_82 ?_
                  refine k_iload hC dX4_uses_85 rfl ?_
                  refine k_iconst hC (nI 0) dX4_uses_87 rfl ?_
                  refine k_ast hC 17 rfl (by omega) (by decide) dX4_uses_88 (wM K y b S (va_up (va_up G9 24 (upd (G9 24) (16 * k) (nI 0))) 25 (upd (G9 25) (16 * k) (nI 0)))) rfl ?_
                  refine k_aload_n hC 0 dX4_uses_89 rfl rfl ?_
                  refine k_get hC inlX4 0 20 rfl rfl (by decide) lkF_X4_44 rfl dX4_uses_90 ?_
                  refine k_iload_n hC 1 dX4_uses_93 rfl rfl ?_
                  refine k_dup2 hC dX4_uses_94 rfl rfl ?_
                  refine k_ald hC 12 rfl (by omega) (by decide) dX4_uses_95 ?_
                  refine k_topE (nI (bd + o)) hb9 ?_
                  refine k_iconst hC (nI 1) dX4_uses_96 rfl ?_
                  refine k_iaddN hC dX4_uses_97 ?_
                  refine k_ast hC 12 rfl (by omega) (by decide) dX4_uses_98 (wM K y b S (va_up (va_up (va_up G9 24 (upd (G9 24) (16 * k) (nI 0))) 25 (upd (G9 25) (16 * k) (nI 0))) 20 (upd (G9 20) k (nI ((bd + o) + 1))))) rfl ?_
                  refine k_aload_n hC 0 dX4_uses_99 rfl rfl ?_
                  refine k_get hC inlX4 0 24 rfl rfl (by decide) lkF_X4_56 rfl dX4_uses_100 ?_
                  refine k_iload hC dX4_uses_103 rfl ?_
                  refine k_ald hC 16 rfl (by omega) (by decide) dX4_uses_105 ?_
                  refine k_topE (nI 0) kupd_eq ?_
                  refine k_if_neN hC 175 dX4_uses_106 (by decide) (by omega) (fun c7 => ?_) (fun c7 => ?_)
                  · exact absurd rfl c7
                  · refine k_aload_n hC 0 dX4_uses_109 rfl rfl ?_
                    refine k_get hC inlX4 0 26 rfl rfl (by decide) lkF_X4_62 rfl dX4_uses_110 ?_
                    refine k_iload_n hC 1 dX4_uses_113 rfl rfl ?_
                    refine k_dup2 hC dX4_uses_114 rfl rfl ?_
                    refine k_ald hC 18 rfl (by omega) (by decide) dX4_uses_115 ?_
                    refine k_topE (nI ((x :: t).length)) hg9.1 ?_
                    refine k_iconst hC (nI 1) dX4_uses_116 rfl ?_
                    refine k_isubN hC dX4_uses_117 (by omega) ?_
                    refine k_topE (nI t.length) rfl ?_
                    refine k_ast hC 18 rfl (by omega) (by decide) dX4_uses_118 (wM K y b S (va_up (va_up (va_up (va_up G9 24 (upd (G9 24) (16 * k) (nI 0))) 25 (upd (G9 25) (16 * k) (nI 0))) 20 (upd (G9 20) k (nI ((bd + o) + 1)))) 26 (upd (G9 26) k (nI t.length)))) rfl ?_
                    refine k_iload hC dX4_uses_119 rfl ?_
                    refine k_istore hC dX4_uses_121 (by decide) rfl [(0, .ref y), (1, .int (nI k)), (2, .int (nI g)), (3, .int (nI (w9 - x.1))), (4, .int (nI (16 * k))), (5, .int (nI w9)), (6, .int (nI (16 * k)))] rfl ?_
                    have sh : ∀ (n8 i : Nat) (u8 c8 : Nat → Int32), n8 + i = t.length + 1 → i ≤ t.length → mSh ((0, 0) :: t) i (fun j => u8 (16 * k + j)) (fun j => c8 (16 * k + j)) → (∀ q : Nat, (q < 16 * k ∨ 16 * k + 16 ≤ q) → u8 q = (upd (G9 24) (16 * k) (nI 0)) q ∧ c8 q = (upd (G9 25) (16 * k) (nI 0)) q) → kW p l e rmX4_uses s m args below meth cd K A 7 Q 0 0 ([]) (wM K y b S (va_up (va_up (va_up (va_up (va_up (va_up G9 24 (upd (G9 24) (16 * k) (nI 0))) 25 (upd (G9 25) (16 * k) (nI 0))) 20 (upd (G9 20) k (nI ((bd + o) + 1)))) 26 (upd (G9 26) k (nI t.length))) 24 u8) 25 c8)) [(0, .ref y), (1, .int (nI k)), (2, .int (nI g)), (3, .int (nI (w9 - x.1))), (4, .int (nI (16 * k))), (5, .int (nI w9)), (6, .int (nI (16 * k + i)))] 123 [] := by
                      intro n8
                      induction n8 with
                      | zero => intro i u8 c8 g1 g2; exact absurd g1 (by omega)
                      | succ n8 ih8 =>
                        intro i u8 c8 g1 g2 gs go
                        refine k_iload hC dX4_uses_123 rfl ?_
                        refine k_iload hC dX4_uses_125 rfl ?_
                        refine k_aload_n hC 0 dX4_uses_127 rfl rfl ?_
                        refine k_get hC inlX4 0 26 rfl rfl (by decide) lkF_X4_62 rfl dX4_uses_128 ?_
                        refine k_iload_n hC 1 dX4_uses_131 rfl rfl ?_
                        refine k_ald hC 18 rfl (by omega) (by decide) dX4_uses_132 ?_
                        refine k_topE (nI t.length) kupd_eq ?_
                        refine k_iaddN hC dX4_uses_133 ?_
                        refine k_icmp_geN hC 175 dX4_uses_134 (by decide) (by omega) (by omega) (fun d1 => ?_) (fun d1 => ?_)
                        · have e9 : i = t.length := by omega
                          refine k_goto hC 2 dX4_uses_175 (by decide) ?_
                          refine k_lsub [0, 1, 2, 3] [(0, .ref y), (1, .int (nI k)), (2, .int (nI g)), (3, .int (nI (w9 - x.1)))] rfl ?_
                          exact ih t (w9 - x.1) (o + x.2) _ (by omega) (by omega) (by omega) (by omega) (by omega) (by rw [he, mTake_full c1 (by omega)]; congr 1; omega) ⟨kupd_eq, mSh_end (e9 ▸ gs)⟩ (mOk_tail hk9) (by omega) (by show upd _ _ _ _ = _; rw [kupd_eq]; congr 1; omega) (mSame_tr (mSame_tr (mSame_tr (mSame_tr (mSame_tr (mSame_tr hs9 (mSame_up (show 24 ∈ [20, 24, 25, 26] by decide))) (mSame_up (show 25 ∈ [20, 24, 25, 26] by decide))) (mSame_up (show 20 ∈ [20, 24, 25, 26] by decide))) (mSame_up (show 26 ∈ [20, 24, 25, 26] by decide))) (mSame_up (show 24 ∈ [20, 24, 25, 26] by decide))) (mSame_up (show 25 ∈ [20, 24, 25, 26] by decide))) (mOnly_tr (mOnly_tr (mOnly_tr (mOnly_tr (mOnly_tr ho9 (mOnly_24 (x := 0) (by omega))) (mOnly_25 (x := 0) (by omega))) mOnly_20) mOnly_26) (mOnlyP_24 go))
                        · refine k_aload_n hC 0 dX4_uses_137 rfl rfl ?_
                          refine k_get hC inlX4 0 24 rfl rfl (by decide) lkF_X4_56 rfl dX4_uses_138 ?_
                          refine k_iload hC dX4_uses_141 rfl ?_
                          refine k_aload_n hC 0 dX4_uses_143 rfl rfl ?_
                          refine k_get hC inlX4 0 24 rfl rfl (by decide) lkF_X4_56 rfl dX4_uses_144 ?_
                          refine k_iload hC dX4_uses_147 rfl ?_
                          refine k_iconst hC (nI 1) dX4_uses_149 rfl ?_
                          refine k_iaddN hC dX4_uses_150 ?_
                          refine k_ald hC 16 rfl (by omega) (by decide) dX4_uses_151 ?_
                          refine k_ast hC 16 rfl (by omega) (by decide) dX4_uses_152 (wM K y b S (va_up (va_up (va_up (va_up (va_up (va_up (va_up G9 24 (upd (G9 24) (16 * k) (nI 0))) 25 (upd (G9 25) (16 * k) (nI 0))) 20 (upd (G9 20) k (nI ((bd + o) + 1)))) 26 (upd (G9 26) k (nI t.length))) 24 u8) 25 c8) 24 (upd u8 (16 * k + i) (u8 ((16 * k + i) + 1))))) rfl ?_
                          refine k_aload_n hC 0 dX4_uses_153 rfl rfl ?_
                          refine k_get hC inlX4 0 25 rfl rfl (by decide) lkF_X4_59 rfl dX4_uses_154 ?_
                          refine k_iload hC dX4_uses_157 rfl ?_
                          refine k_aload_n hC 0 dX4_uses_159 rfl rfl ?_
                          refine k_get hC inlX4 0 25 rfl rfl (by decide) lkF_X4_59 rfl dX4_uses_160 ?_
                          refine k_iload hC dX4_uses_163 rfl ?_
                          refine k_iconst hC (nI 1) dX4_uses_165 rfl ?_
                          refine k_iaddN hC dX4_uses_166 ?_
                          refine k_ald hC 17 rfl (by omega) (by decide) dX4_uses_167 ?_
                          refine k_ast hC 17 rfl (by omega) (by decide) dX4_uses_168 (wM K y b S (va_up (va_up (va_up (va_up (va_up (va_up (va_up (va_up G9 24 (upd (G9 24) (16 * k) (nI 0))) 25 (upd (G9 25) (16 * k) (nI 0))) 20 (upd (G9 20) k (nI ((bd + o) + 1)))) 26 (upd (G9 26) k (nI t.length))) 24 u8) 25 c8) 24 (upd u8 (16 * k + i) (u8 ((16 * k + i) + 1)))) 25 (upd c8 (16 * k + i) (c8 ((16 * k + i) + 1))))) rfl ?_
                          refine k_iinc hC dX4_uses_169 (by decide) rfl rfl (nI (16 * k + i + 1)) (kinc (16 * k + i) 1 rfl) [(0, .ref y), (1, .int (nI k)), (2, .int (nI g)), (3, .int (nI (w9 - x.1))), (4, .int (nI (16 * k))), (5, .int (nI w9)), (6, .int (nI (16 * k + i + 1)))] rfl ?_
                          refine k_goto hC 123 dX4_uses_172 (by decide) ?_
                          have hs2 := mSh_step gs (by show i + 1 < t.length + 1; omega)
                          rw [← upd_sh, ← upd_sh] at hs2
                          refine k_eX (show _ = wM K y b S (va_up (va_up (va_up (va_up (va_up (va_up G9 24 (upd (G9 24) (16 * k) (nI 0))) 25 (upd (G9 25) (16 * k) (nI 0))) 20 (upd (G9 20) k (nI ((bd + o) + 1)))) 26 (upd (G9 26) k (nI t.length))) 24 (upd u8 (16 * k + i) (u8 ((16 * k + i) + 1)))) 25 (upd c8 (16 * k + i) (c8 ((16 * k + i) + 1)))) from rfl) ?_
                          exact ih8 (i + 1) _ _ (by omega) (by omega) hs2 (fun q hq => ⟨(kupd_ne (by omega)).trans (go q hq).1, (kupd_ne (by omega)).trans (go q hq).2⟩)
                    refine k_eX (show _ = wM K y b S (va_up (va_up (va_up (va_up (va_up (va_up G9 24 (upd (G9 24) (16 * k) (nI 0))) 25 (upd (G9 25) (16 * k) (nI 0))) 20 (upd (G9 20) k (nI ((bd + o) + 1)))) 26 (upd (G9 26) k (nI t.length))) 24 (upd (G9 24) (16 * k) (nI 0))) 25 (upd (G9 25) (16 * k) (nI 0))) from rfl) ?_
                    exact sh (t.length + 1) 0 _ _ (by omega) (by omega) (mSh_0 (mRg_set1 (mRg_set0 hg9 0) 0).2) (fun q _ => ⟨rfl, rfl⟩)
                · refine k_aload_n hC 0 dX4_uses_71 rfl rfl ?_
                  refine k_get hC inlX4 0 24 rfl rfl (by decide) lkF_X4_56 rfl dX4_uses_72 ?_
                  refine k_iload hC dX4_uses_75 rfl ?_
                  refine k_ald hC 16 rfl (by omega) (by decide) dX4_uses_77 ?_
                  refine k_topE (nI 0) kupd_eq ?_
                  refine k_if_neN hC 99 dX4_uses_78 (by decide) (by omega) (fun c5 => ?_) (fun c5 => ?_)
                  · exact absurd rfl c5
                  · refine k_aload_n hC 0 dX4_uses_81 rfl rfl ?_
                    refine k_get hC inlX4 0 25 rfl rfl (by decide) lkF_X4_59 rfl dX4_uses_82 ?_
                    refine k_iload hC dX4_uses_85 rfl ?_
                    refine k_iconst hC (nI 0) dX4_uses_87 rfl ?_
                    refine k_ast hC 17 rfl (by omega) (by decide) dX4_uses_88 (wM K y b S (va_up (va_up G9 24 (upd (G9 24) (16 * k) (nI 0))) 25 (upd (G9 25) (16 * k) (nI 0)))) rfl ?_
                    refine k_aload_n hC 0 dX4_uses_89 rfl rfl ?_
                    refine k_get hC inlX4 0 20 rfl rfl (by decide) lkF_X4_44 rfl dX4_uses_90 ?_
                    refine k_iload_n hC 1 dX4_uses_93 rfl rfl ?_
                    refine k_dup2 hC dX4_uses_94 rfl rfl ?_
                    refine k_ald hC 12 rfl (by omega) (by decide) dX4_uses_95 ?_
                    refine k_topE (nI (bd + o)) hb9 ?_
                    refine k_iconst hC (nI 1) dX4_uses_96 rfl ?_
                    refine k_iaddN hC dX4_uses_97 ?_
                    refine k_ast hC 12 rfl (by omega) (by decide) dX4_uses_98 (wM K y b S (va_up (va_up (va_up G9 24 (upd (G9 24) (16 * k) (nI 0))) 25 (upd (G9 25) (16 * k) (nI 0))) 20 (upd (G9 20) k (nI ((bd + o) + 1))))) rfl ?_
                    refine k_aload_n hC 0 dX4_uses_99 rfl rfl ?_
                    refine k_get hC inlX4 0 24 rfl rfl (by decide) lkF_X4_56 rfl dX4_uses_100 ?_
                    refine k_iload hC dX4_uses_103 rfl ?_
                    refine k_ald hC 16 rfl (by omega) (by decide) dX4_uses_105 ?_
                    refine k_topE (nI 0) kupd_eq ?_
                    refine k_if_neN hC 175 dX4_uses_106 (by decide) (by omega) (fun c7 => ?_) (fun c7 => ?_)
                    · exact absurd rfl c7
                    · refine k_aload_n hC 0 dX4_uses_109 rfl rfl ?_
                      refine k_get hC inlX4 0 26 rfl rfl (by decide) lkF_X4_62 rfl dX4_uses_110 ?_
                      refine k_iload_n hC 1 dX4_uses_113 rfl rfl ?_
                      refine k_dup2 hC dX4_uses_114 rfl rfl ?_
                      refine k_ald hC 18 rfl (by omega) (by decide) dX4_uses_115 ?_
                      refine k_topE (nI ((x :: t).length)) hg9.1 ?_
                      refine k_iconst hC (nI 1) dX4_uses_116 rfl ?_
                      refine k_isubN hC dX4_uses_117 (by omega) ?_
                      refine k_topE (nI t.length) rfl ?_
                      refine k_ast hC 18 rfl (by omega) (by decide) dX4_uses_118 (wM K y b S (va_up (va_up (va_up (va_up G9 24 (upd (G9 24) (16 * k) (nI 0))) 25 (upd (G9 25) (16 * k) (nI 0))) 20 (upd (G9 20) k (nI ((bd + o) + 1)))) 26 (upd (G9 26) k (nI t.length)))) rfl ?_
                      refine k_iload hC dX4_uses_119 rfl ?_
                      refine k_istore hC dX4_uses_121 (by decide) rfl [(0, .ref y), (1, .int (nI k)), (2, .int (nI g)), (3, .int (nI (w9 - x.1))), (4, .int (nI (16 * k))), (5, .int (nI w9)), (6, .int (nI (16 * k)))] rfl ?_
                      have sh : ∀ (n8 i : Nat) (u8 c8 : Nat → Int32), n8 + i = t.length + 1 → i ≤ t.length → mSh ((0, 0) :: t) i (fun j => u8 (16 * k + j)) (fun j => c8 (16 * k + j)) → (∀ q : Nat, (q < 16 * k ∨ 16 * k + 16 ≤ q) → u8 q = (upd (G9 24) (16 * k) (nI 0)) q ∧ c8 q = (upd (G9 25) (16 * k) (nI 0)) q) → kW p l e rmX4_uses s m args below meth cd K A 7 Q 0 0 ([]) (wM K y b S (va_up (va_up (va_up (va_up (va_up (va_up G9 24 (upd (G9 24) (16 * k) (nI 0))) 25 (upd (G9 25) (16 * k) (nI 0))) 20 (upd (G9 20) k (nI ((bd + o) + 1)))) 26 (upd (G9 26) k (nI t.length))) 24 u8) 25 c8)) [(0, .ref y), (1, .int (nI k)), (2, .int (nI g)), (3, .int (nI (w9 - x.1))), (4, .int (nI (16 * k))), (5, .int (nI w9)), (6, .int (nI (16 * k + i)))] 123 [] := by
                        intro n8
                        induction n8 with
                        | zero => intro i u8 c8 g1 g2; exact absurd g1 (by omega)
                        | succ n8 ih8 =>
                          intro i u8 c8 g1 g2 gs go
                          refine k_iload hC dX4_uses_123 rfl ?_
                          refine k_iload hC dX4_uses_125 rfl ?_
                          refine k_aload_n hC 0 dX4_uses_127 rfl rfl ?_
                          refine k_get hC inlX4 0 26 rfl rfl (by decide) lkF_X4_62 rfl dX4_uses_128 ?_
                          refine k_iload_n hC 1 dX4_uses_131 rfl rfl ?_
                          refine k_ald hC 18 rfl (by omega) (by decide) dX4_uses_132 ?_
                          refine k_topE (nI t.length) kupd_eq ?_
                          refine k_iaddN hC dX4_uses_133 ?_
                          refine k_icmp_geN hC 175 dX4_uses_134 (by decide) (by omega) (by omega) (fun d1 => ?_) (fun d1 => ?_)
                          · have e9 : i = t.length := by omega
                            refine k_goto hC 2 dX4_uses_175 (by decide) ?_
                            refine k_lsub [0, 1, 2, 3] [(0, .ref y), (1, .int (nI k)), (2, .int (nI g)), (3, .int (nI (w9 - x.1)))] rfl ?_
                            exact ih t (w9 - x.1) (o + x.2) _ (by omega) (by omega) (by omega) (by omega) (by omega) (by rw [he, mTake_full c1 (by omega)]; congr 1; omega) ⟨kupd_eq, mSh_end (e9 ▸ gs)⟩ (mOk_tail hk9) (by omega) (by show upd _ _ _ _ = _; rw [kupd_eq]; congr 1; omega) (mSame_tr (mSame_tr (mSame_tr (mSame_tr (mSame_tr (mSame_tr hs9 (mSame_up (show 24 ∈ [20, 24, 25, 26] by decide))) (mSame_up (show 25 ∈ [20, 24, 25, 26] by decide))) (mSame_up (show 20 ∈ [20, 24, 25, 26] by decide))) (mSame_up (show 26 ∈ [20, 24, 25, 26] by decide))) (mSame_up (show 24 ∈ [20, 24, 25, 26] by decide))) (mSame_up (show 25 ∈ [20, 24, 25, 26] by decide))) (mOnly_tr (mOnly_tr (mOnly_tr (mOnly_tr (mOnly_tr ho9 (mOnly_24 (x := 0) (by omega))) (mOnly_25 (x := 0) (by omega))) mOnly_20) mOnly_26) (mOnlyP_24 go))
                          · refine k_aload_n hC 0 dX4_uses_137 rfl rfl ?_
                            refine k_get hC inlX4 0 24 rfl rfl (by decide) lkF_X4_56 rfl dX4_uses_138 ?_
                            refine k_iload hC dX4_uses_141 rfl ?_
                            refine k_aload_n hC 0 dX4_uses_143 rfl rfl ?_
                            refine k_get hC inlX4 0 24 rfl rfl (by decide) lkF_X4_56 rfl dX4_uses_144 ?_
                            refine k_iload hC dX4_uses_147 rfl ?_
                            refine k_iconst hC (nI 1) dX4_uses_149 rfl ?_
                            refine k_iaddN hC dX4_uses_150 ?_
                            refine k_ald hC 16 rfl (by omega) (by decide) dX4_uses_151 ?_
                            refine k_ast hC 16 rfl (by omega) (by decide) dX4_uses_152 (wM K y b S (va_up (va_up (va_up (va_up (va_up (va_up (va_up G9 24 (upd (G9 24) (16 * k) (nI 0))) 25 (upd (G9 25) (16 * k) (nI 0))) 20 (upd (G9 20) k (nI ((bd + o) + 1)))) 26 (upd (G9 26) k (nI t.length))) 24 u8) 25 c8) 24 (upd u8 (16 * k + i) (u8 ((16 * k + i) + 1))))) rfl ?_
                            refine k_aload_n hC 0 dX4_uses_153 rfl rfl ?_
                            refine k_get hC inlX4 0 25 rfl rfl (by decide) lkF_X4_59 rfl dX4_uses_154 ?_
                            refine k_iload hC dX4_uses_157 rfl ?_
                            refine k_aload_n hC 0 dX4_uses_159 rfl rfl ?_
                            refine k_get hC inlX4 0 25 rfl rfl (by decide) lkF_X4_59 rfl dX4_uses_160 ?_
                            refine k_iload hC dX4_uses_163 rfl ?_
                            refine k_iconst hC (nI 1) dX4_uses_165 rfl ?_
                            refine k_iaddN hC dX4_uses_166 ?_
                            refine k_ald hC 17 rfl (by omega) (by decide) dX4_uses_167 ?_
                            refine k_ast hC 17 rfl (by omega) (by decide) dX4_uses_168 (wM K y b S (va_up (va_up (va_up (va_up (va_up (va_up (va_up (va_up G9 24 (upd (G9 24) (16 * k) (nI 0))) 25 (upd (G9 25) (16 * k) (nI 0))) 20 (upd (G9 20) k (nI ((bd + o) + 1)))) 26 (upd (G9 26) k (nI t.length))) 24 u8) 25 c8) 24 (upd u8 (16 * k + i) (u8 ((16 * k + i) + 1)))) 25 (upd c8 (16 * k + i) (c8 ((16 * k + i) + 1))))) rfl ?_
                            refine k_iinc hC dX4_uses_169 (by decide) rfl rfl (nI (16 * k + i + 1)) (kinc (16 * k + i) 1 rfl) [(0, .ref y), (1, .int (nI k)), (2, .int (nI g)), (3, .int (nI (w9 - x.1))), (4, .int (nI (16 * k))), (5, .int (nI w9)), (6, .int (nI (16 * k + i + 1)))] rfl ?_
                            refine k_goto hC 123 dX4_uses_172 (by decide) ?_
                            have hs2 := mSh_step gs (by show i + 1 < t.length + 1; omega)
                            rw [← upd_sh, ← upd_sh] at hs2
                            refine k_eX (show _ = wM K y b S (va_up (va_up (va_up (va_up (va_up (va_up G9 24 (upd (G9 24) (16 * k) (nI 0))) 25 (upd (G9 25) (16 * k) (nI 0))) 20 (upd (G9 20) k (nI ((bd + o) + 1)))) 26 (upd (G9 26) k (nI t.length))) 24 (upd u8 (16 * k + i) (u8 ((16 * k + i) + 1)))) 25 (upd c8 (16 * k + i) (c8 ((16 * k + i) + 1)))) from rfl) ?_
                            exact ih8 (i + 1) _ _ (by omega) (by omega) hs2 (fun q hq => ⟨(kupd_ne (by omega)).trans (go q hq).1, (kupd_ne (by omega)).trans (go q hq).2⟩)
                      refine k_eX (show _ = wM K y b S (va_up (va_up (va_up (va_up (va_up (va_up G9 24 (upd (G9 24) (16 * k) (nI 0))) 25 (upd (G9 25) (16 * k) (nI 0))) 20 (upd (G9 20) k (nI ((bd + o) + 1)))) 26 (upd (G9 26) k (nI t.length))) 24 (upd (G9 24) (16 * k) (nI 0))) 25 (upd (G9 25) (16 * k) (nI 0))) from rfl) ?_
                      exact sh (t.length + 1) 0 _ _ (by omega) (by omega) (mSh_0 (mRg_set1 (mRg_set0 hg9 0) 0).2) (fun q _ => ⟨rfl, rfl⟩)
          · refine k_aload_n hC 0 dX4_uses_23 rfl rfl ?_
            refine k_get hC inlX4 0 24 rfl rfl (by decide) lkF_X4_56 rfl dX4_uses_24 ?_
            refine k_iload hC dX4_uses_27 rfl ?_
            refine k_ald hC 16 rfl (by omega) (by decide) dX4_uses_29 ?_
            refine k_topE (nI x.1) (hg9.2 0 (by omega)).1 ?_
            refine k_goto hC 34 dX4_uses_30 (by decide) ?_
            refine k_istore hC dX4_uses_34 (by decide) rfl [(0, .ref y), (1, .int (nI k)), (2, .int (nI g)), (3, .int (nI w9)), (4, .int (nI (16 * k))), (5, .int (nI x.1))] rfl ?_
            refine k_aload_n hC 0 dX4_uses_36 rfl rfl ?_
            refine k_get hC inlX4 0 24 rfl rfl (by decide) lkF_X4_56 rfl dX4_uses_37 ?_
            refine k_iload hC dX4_uses_40 rfl ?_
            refine k_dup2 hC dX4_uses_42 rfl rfl ?_
            refine k_ald hC 16 rfl (by omega) (by decide) dX4_uses_43 ?_
            refine k_topE (nI x.1) (hg9.2 0 (by omega)).1 ?_
            refine k_iload hC dX4_uses_44 rfl ?_
            refine k_isubN hC dX4_uses_46 (by omega) ?_
            refine k_topE (nI 0) (by first | rfl | (congr 1; omega)) ?_
            refine k_ast hC 16 rfl (by omega) (by decide) dX4_uses_47 (wM K y b S (va_up G9 24 (upd (G9 24) (16 * k) (nI 0)))) rfl ?_
            refine k_iload_n hC 3 dX4_uses_48 rfl rfl ?_
            refine k_iload hC dX4_uses_49 rfl ?_
            refine k_isubN hC dX4_uses_51 (by omega) ?_
            refine k_topE (nI (w9 - x.1)) (by first | rfl | (congr 1; omega)) ?_
            refine k_istore_n hC 3 dX4_uses_52 rfl (by decide) rfl [(0, .ref y), (1, .int (nI k)), (2, .int (nI g)), (3, .int (nI (w9 - x.1))), (4, .int (nI (16 * k))), (5, .int (nI x.1))] rfl ?_
            refine k_aload_n hC 0 dX4_uses_53 rfl rfl ?_
            refine k_get hC inlX4 0 25 rfl rfl (by decide) lkF_X4_59 rfl dX4_uses_54 ?_
            refine k_iload hC dX4_uses_57 rfl ?_
            refine k_ald hC 17 rfl (by omega) (by decide) dX4_uses_59 ?_
            refine k_topE (nI x.2) (hg9.2 0 (by omega)).2 ?_
            refine k_iconst hC (nI 1) dX4_uses_60 rfl ?_
            refine k_icmp_neN hC 99 dX4_uses_61 (by decide) (by omega) (by omega) (fun c3 => ?_) (fun c3 => ?_)
            · refine k_aload_n hC 0 dX4_uses_99 rfl rfl ?_
              refine k_get hC inlX4 0 24 rfl rfl (by decide) lkF_X4_56 rfl dX4_uses_100 ?_
              refine k_iload hC dX4_uses_103 rfl ?_
              refine k_ald hC 16 rfl (by omega) (by decide) dX4_uses_105 ?_
              refine k_topE (nI 0) kupd_eq ?_
              refine k_if_neN hC 175 dX4_uses_106 (by decide) (by omega) (fun c7 => ?_) (fun c7 => ?_)
              · exact absurd rfl c7
              · refine k_aload_n hC 0 dX4_uses_109 rfl rfl ?_
                refine k_get hC inlX4 0 26 rfl rfl (by decide) lkF_X4_62 rfl dX4_uses_110 ?_
                refine k_iload_n hC 1 dX4_uses_113 rfl rfl ?_
                refine k_dup2 hC dX4_uses_114 rfl rfl ?_
                refine k_ald hC 18 rfl (by omega) (by decide) dX4_uses_115 ?_
                refine k_topE (nI ((x :: t).length)) hg9.1 ?_
                refine k_iconst hC (nI 1) dX4_uses_116 rfl ?_
                refine k_isubN hC dX4_uses_117 (by omega) ?_
                refine k_topE (nI t.length) rfl ?_
                refine k_ast hC 18 rfl (by omega) (by decide) dX4_uses_118 (wM K y b S (va_up (va_up G9 24 (upd (G9 24) (16 * k) (nI 0))) 26 (upd (G9 26) k (nI t.length)))) rfl ?_
                refine k_iload hC dX4_uses_119 rfl ?_
                refine k_istore hC dX4_uses_121 (by decide) rfl [(0, .ref y), (1, .int (nI k)), (2, .int (nI g)), (3, .int (nI (w9 - x.1))), (4, .int (nI (16 * k))), (5, .int (nI x.1)), (6, .int (nI (16 * k)))] rfl ?_
                have sh : ∀ (n8 i : Nat) (u8 c8 : Nat → Int32), n8 + i = t.length + 1 → i ≤ t.length → mSh ((0, x.2) :: t) i (fun j => u8 (16 * k + j)) (fun j => c8 (16 * k + j)) → (∀ q : Nat, (q < 16 * k ∨ 16 * k + 16 ≤ q) → u8 q = (upd (G9 24) (16 * k) (nI 0)) q ∧ c8 q = (G9 25) q) → kW p l e rmX4_uses s m args below meth cd K A 7 Q 0 0 ([]) (wM K y b S (va_up (va_up (va_up (va_up G9 24 (upd (G9 24) (16 * k) (nI 0))) 26 (upd (G9 26) k (nI t.length))) 24 u8) 25 c8)) [(0, .ref y), (1, .int (nI k)), (2, .int (nI g)), (3, .int (nI (w9 - x.1))), (4, .int (nI (16 * k))), (5, .int (nI x.1)), (6, .int (nI (16 * k + i)))] 123 [] := by
                  intro n8
                  induction n8 with
                  | zero => intro i u8 c8 g1 g2; exact absurd g1 (by omega)
                  | succ n8 ih8 =>
                    intro i u8 c8 g1 g2 gs go
                    refine k_iload hC dX4_uses_123 rfl ?_
                    refine k_iload hC dX4_uses_125 rfl ?_
                    refine k_aload_n hC 0 dX4_uses_127 rfl rfl ?_
                    refine k_get hC inlX4 0 26 rfl rfl (by decide) lkF_X4_62 rfl dX4_uses_128 ?_
                    refine k_iload_n hC 1 dX4_uses_131 rfl rfl ?_
                    refine k_ald hC 18 rfl (by omega) (by decide) dX4_uses_132 ?_
                    refine k_topE (nI t.length) kupd_eq ?_
                    refine k_iaddN hC dX4_uses_133 ?_
                    refine k_icmp_geN hC 175 dX4_uses_134 (by decide) (by omega) (by omega) (fun d1 => ?_) (fun d1 => ?_)
                    · have e9 : i = t.length := by omega
                      refine k_goto hC 2 dX4_uses_175 (by decide) ?_
                      refine k_lsub [0, 1, 2, 3] [(0, .ref y), (1, .int (nI k)), (2, .int (nI g)), (3, .int (nI (w9 - x.1)))] rfl ?_
                      exact ih t (w9 - x.1) (o + x.2) _ (by omega) (by omega) (by omega) (by omega) (by omega) (by rw [he, mTake_full c1 (by omega)]; congr 1; omega) ⟨kupd_eq, mSh_end (e9 ▸ gs)⟩ (mOk_tail hk9) (by omega) (by rw [show x.2 = 0 by omega]; exact hb9) (mSame_tr (mSame_tr (mSame_tr (mSame_tr hs9 (mSame_up (show 24 ∈ [20, 24, 25, 26] by decide))) (mSame_up (show 26 ∈ [20, 24, 25, 26] by decide))) (mSame_up (show 24 ∈ [20, 24, 25, 26] by decide))) (mSame_up (show 25 ∈ [20, 24, 25, 26] by decide))) (mOnly_tr (mOnly_tr (mOnly_tr ho9 (mOnly_24 (x := 0) (by omega))) mOnly_26) (mOnlyP_24 go))
                    · refine k_aload_n hC 0 dX4_uses_137 rfl rfl ?_
                      refine k_get hC inlX4 0 24 rfl rfl (by decide) lkF_X4_56 rfl dX4_uses_138 ?_
                      refine k_iload hC dX4_uses_141 rfl ?_
                      refine k_aload_n hC 0 dX4_uses_143 rfl rfl ?_
                      refine k_get hC inlX4 0 24 rfl rfl (by decide) lkF_X4_56 rfl dX4_uses_144 ?_
                      refine k_iload hC dX4_uses_147 rfl ?_
                      refine k_iconst hC (nI 1) dX4_uses_149 rfl ?_
                      refine k_iaddN hC dX4_uses_150 ?_
                      refine k_ald hC 16 rfl (by omega) (by decide) dX4_uses_151 ?_
                      refine k_ast hC 16 rfl (by omega) (by decide) dX4_uses_152 (wM K y b S (va_up (va_up (va_up (va_up (va_up G9 24 (upd (G9 24) (16 * k) (nI 0))) 26 (upd (G9 26) k (nI t.length))) 24 u8) 25 c8) 24 (upd u8 (16 * k + i) (u8 ((16 * k + i) + 1))))) rfl ?_
                      refine k_aload_n hC 0 dX4_uses_153 rfl rfl ?_
                      refine k_get hC inlX4 0 25 rfl rfl (by decide) lkF_X4_59 rfl dX4_uses_154 ?_
                      refine k_iload hC dX4_uses_157 rfl ?_
                      refine k_aload_n hC 0 dX4_uses_159 rfl rfl ?_
                      refine k_get hC inlX4 0 25 rfl rfl (by decide) lkF_X4_59 rfl dX4_uses_160 ?_
                      refine k_iload hC dX4_uses_163 rfl ?_
                      refine k_iconst hC (nI 1) dX4_uses_165 rfl ?_
                      refine k_iaddN hC dX4_uses_166 ?_
                      refine k_ald hC 17 rfl (by omega) (by decide) dX4_uses_167 ?_
                      refine k_ast hC 17 rfl (by omega) (by decide) dX4_uses_168 (wM K y b S (va_up (va_up (va_up (va_up (va_up (va_up G9 24 (upd (G9 24) (16 * k) (nI 0))) 26 (upd (G9 26) k (nI t.length))) 24 u8) 25 c8) 24 (upd u8 (16 * k + i) (u8 ((16 * k + i) + 1)))) 25 (upd c8 (16 * k + i) (c8 ((16 * k + i) + 1))))) rfl ?_
                      refine k_iinc hC dX4_uses_169 (by decide) rfl rfl (nI (16 * k + i + 1)) (kinc (16 * k + i) 1 rfl) [(0, .ref y), (1, .int (nI k)), (2, .int (nI g)), (3, .int (nI (w9 - x.1))), (4, .int (nI (16 * k))), (5, .int (nI x.1)), (6, .int (nI (16 * k + i + 1)))] rfl ?_
                      refine k_goto hC 123 dX4_uses_172 (by decide) ?_
                      have hs2 := mSh_step gs (by show i + 1 < t.length + 1; omega)
                      rw [← upd_sh, ← upd_sh] at hs2
                      refine k_eX (show _ = wM K y b S (va_up (va_up (va_up (va_up G9 24 (upd (G9 24) (16 * k) (nI 0))) 26 (upd (G9 26) k (nI t.length))) 24 (upd u8 (16 * k + i) (u8 ((16 * k + i) + 1)))) 25 (upd c8 (16 * k + i) (c8 ((16 * k + i) + 1)))) from rfl) ?_
                      exact ih8 (i + 1) _ _ (by omega) (by omega) hs2 (fun q hq => ⟨(kupd_ne (by omega)).trans (go q hq).1, (kupd_ne (by omega)).trans (go q hq).2⟩)
                refine k_eX (show _ = wM K y b S (va_up (va_up (va_up (va_up G9 24 (upd (G9 24) (16 * k) (nI 0))) 26 (upd (G9 26) k (nI t.length))) 24 (upd (G9 24) (16 * k) (nI 0))) 25 (G9 25)) from rfl) ?_
                exact sh (t.length + 1) 0 _ _ (by omega) (by omega) (mSh_0 (mRg_set0 hg9 0).2) (fun q _ => ⟨rfl, rfl⟩)
            · refine k_aload_n hC 0 dX4_uses_64 rfl rfl ?_
              refine k_get hC inlX4 0 2 rfl rfl (by decide) lkF_X4_96 rfl dX4_uses_65 ?_
              refine k_topE (kB r) hr ?_
              refine k_if_ne hC 81 dX4_uses_68 (by decide) (fun c4 => ?_) (fun c4 => ?_)
              · have hr1 := kB_ne.mp c4
                refine k_aload_n hC 0 dX4_uses_81 rfl rfl ?_
                refine k_get hC inlX4 0 25 rfl rfl (by decide) lkF_X4_59 rfl dX4_uses_82 ?_
                refine k_iload hC dX4_uses_85 rfl ?_
                refine k_iconst hC (nI 0) dX4_uses_87 rfl ?_
                refine k_ast hC 17 rfl (by omega) (by decide) dX4_uses_88 (wM K y b S (va_up (va_up G9 24 (upd (G9 24) (16 * k) (nI 0))) 25 (upd (G9 25) (16 * k) (nI 0)))) rfl ?_
                refine k_aload_n hC 0 dX4_uses_89 rfl rfl ?_
                refine k_get hC inlX4 0 20 rfl rfl (by decide) lkF_X4_44 rfl dX4_uses_90 ?_
                refine k_iload_n hC 1 dX4_uses_93 rfl rfl ?_
                refine k_dup2 hC dX4_uses_94 rfl rfl ?_
                refine k_ald hC 12 rfl (by omega) (by decide) dX4_uses_95 ?_
                refine k_topE (nI (bd + o)) hb9 ?_
                refine k_iconst hC (nI 1) dX4_uses_96 rfl ?_
                refine k_iaddN hC dX4_uses_97 ?_
                refine k_ast hC 12 rfl (by omega) (by decide) dX4_uses_98 (wM K y b S (va_up (va_up (va_up G9 24 (upd (G9 24) (16 * k) (nI 0))) 25 (upd (G9 25) (16 * k) (nI 0))) 20 (upd (G9 20) k (nI ((bd + o) + 1))))) rfl ?_
                refine k_aload_n hC 0 dX4_uses_99 rfl rfl ?_
                refine k_get hC inlX4 0 24 rfl rfl (by decide) lkF_X4_56 rfl dX4_uses_100 ?_
                refine k_iload hC dX4_uses_103 rfl ?_
                refine k_ald hC 16 rfl (by omega) (by decide) dX4_uses_105 ?_
                refine k_topE (nI 0) kupd_eq ?_
                refine k_if_neN hC 175 dX4_uses_106 (by decide) (by omega) (fun c7 => ?_) (fun c7 => ?_)
                · exact absurd rfl c7
                · refine k_aload_n hC 0 dX4_uses_109 rfl rfl ?_
                  refine k_get hC inlX4 0 26 rfl rfl (by decide) lkF_X4_62 rfl dX4_uses_110 ?_
                  refine k_iload_n hC 1 dX4_uses_113 rfl rfl ?_
                  refine k_dup2 hC dX4_uses_114 rfl rfl ?_
                  refine k_ald hC 18 rfl (by omega) (by decide) dX4_uses_115 ?_
                  refine k_topE (nI ((x :: t).length)) hg9.1 ?_
                  refine k_iconst hC (nI 1) dX4_uses_116 rfl ?_
                  refine k_isubN hC dX4_uses_117 (by omega) ?_
                  refine k_topE (nI t.length) rfl ?_
                  refine k_ast hC 18 rfl (by omega) (by decide) dX4_uses_118 (wM K y b S (va_up (va_up (va_up (va_up G9 24 (upd (G9 24) (16 * k) (nI 0))) 25 (upd (G9 25) (16 * k) (nI 0))) 20 (upd (G9 20) k (nI ((bd + o) + 1)))) 26 (upd (G9 26) k (nI t.length)))) rfl ?_
                  refine k_iload hC dX4_uses_119 rfl ?_
                  refine k_istore hC dX4_uses_121 (by decide) rfl [(0, .ref y), (1, .int (nI k)), (2, .int (nI g)), (3, .int (nI (w9 - x.1))), (4, .int (nI (16 * k))), (5, .int (nI x.1)), (6, .int (nI (16 * k)))] rfl ?_
                  have sh : ∀ (n8 i : Nat) (u8 c8 : Nat → Int32), n8 + i = t.length + 1 → i ≤ t.length → mSh ((0, 0) :: t) i (fun j => u8 (16 * k + j)) (fun j => c8 (16 * k + j)) → (∀ q : Nat, (q < 16 * k ∨ 16 * k + 16 ≤ q) → u8 q = (upd (G9 24) (16 * k) (nI 0)) q ∧ c8 q = (upd (G9 25) (16 * k) (nI 0)) q) → kW p l e rmX4_uses s m args below meth cd K A 7 Q 0 0 ([]) (wM K y b S (va_up (va_up (va_up (va_up (va_up (va_up G9 24 (upd (G9 24) (16 * k) (nI 0))) 25 (upd (G9 25) (16 * k) (nI 0))) 20 (upd (G9 20) k (nI ((bd + o) + 1)))) 26 (upd (G9 26) k (nI t.length))) 24 u8) 25 c8)) [(0, .ref y), (1, .int (nI k)), (2, .int (nI g)), (3, .int (nI (w9 - x.1))), (4, .int (nI (16 * k))), (5, .int (nI x.1)), (6, .int (nI (16 * k + i)))] 123 [] := by
                    intro n8
                    induction n8 with
                    | zero => intro i u8 c8 g1 g2; exact absurd g1 (by omega)
                    | succ n8 ih8 =>
                      intro i u8 c8 g1 g2 gs go
                      refine k_iload hC dX4_uses_123 rfl ?_
                      refine k_iload hC dX4_uses_125 rfl ?_
                      refine k_aload_n hC 0 dX4_uses_127 rfl rfl ?_
                      refine k_get hC inlX4 0 26 rfl rfl (by decide) lkF_X4_62 rfl dX4_uses_128 ?_
                      refine k_iload_n hC 1 dX4_uses_131 rfl rfl ?_
                      refine k_ald hC 18 rfl (by omega) (by decide) dX4_uses_132 ?_
                      refine k_topE (nI t.length) kupd_eq ?_
                      refine k_iaddN hC dX4_uses_133 ?_
                      refine k_icmp_geN hC 175 dX4_uses_134 (by decide) (by omega) (by omega) (fun d1 => ?_) (fun d1 => ?_)
                      · have e9 : i = t.length := by omega
                        refine k_goto hC 2 dX4_uses_175 (by decide) ?_
                        refine k_lsub [0, 1, 2, 3] [(0, .ref y), (1, .int (nI k)), (2, .int (nI g)), (3, .int (nI (w9 - x.1)))] rfl ?_
                        exact ih t (w9 - x.1) (o + x.2) _ (by omega) (by omega) (by omega) (by omega) (by omega) (by rw [he, mTake_full c1 (by omega)]; congr 1; omega) ⟨kupd_eq, mSh_end (e9 ▸ gs)⟩ (mOk_tail hk9) (by omega) (by show upd _ _ _ _ = _; rw [kupd_eq]; congr 1; omega) (mSame_tr (mSame_tr (mSame_tr (mSame_tr (mSame_tr (mSame_tr hs9 (mSame_up (show 24 ∈ [20, 24, 25, 26] by decide))) (mSame_up (show 25 ∈ [20, 24, 25, 26] by decide))) (mSame_up (show 20 ∈ [20, 24, 25, 26] by decide))) (mSame_up (show 26 ∈ [20, 24, 25, 26] by decide))) (mSame_up (show 24 ∈ [20, 24, 25, 26] by decide))) (mSame_up (show 25 ∈ [20, 24, 25, 26] by decide))) (mOnly_tr (mOnly_tr (mOnly_tr (mOnly_tr (mOnly_tr ho9 (mOnly_24 (x := 0) (by omega))) (mOnly_25 (x := 0) (by omega))) mOnly_20) mOnly_26) (mOnlyP_24 go))
                      · refine k_aload_n hC 0 dX4_uses_137 rfl rfl ?_
                        refine k_get hC inlX4 0 24 rfl rfl (by decide) lkF_X4_56 rfl dX4_uses_138 ?_
                        refine k_iload hC dX4_uses_141 rfl ?_
                        refine k_aload_n hC 0 dX4_uses_143 rfl rfl ?_
                        refine k_get hC inlX4 0 24 rfl rfl (by decide) lkF_X4_56 rfl dX4_uses_144 ?_
                        refine k_iload hC dX4_uses_147 rfl ?_
                        refine k_iconst hC (nI 1) dX4_uses_149 rfl ?_
                        refine k_iaddN hC dX4_uses_150 ?_
                        refine k_ald hC 16 rfl (by omega) (by decide) dX4_uses_151 ?_
                        refine k_ast hC 16 rfl (by omega) (by decide) dX4_uses_152 (wM K y b S (va_up (va_up (va_up (va_up (va_up (va_up (va_up G9 24 (upd (G9 24) (16 * k) (nI 0))) 25 (upd (G9 25) (16 * k) (nI 0))) 20 (upd (G9 20) k (nI ((bd + o) + 1)))) 26 (upd (G9 26) k (nI t.length))) 24 u8) 25 c8) 24 (upd u8 (16 * k + i) (u8 ((16 * k + i) + 1))))) rfl ?_
                        refine k_aload_n hC 0 dX4_uses_153 rfl rfl ?_
                        refine k_get hC inlX4 0 25 rfl rfl (by decide) lkF_X4_59 rfl dX4_uses_154 ?_
                        refine k_iload hC dX4_uses_157 rfl ?_
                        refine k_aload_n hC 0 dX4_uses_159 rfl rfl ?_
                        refine k_get hC inlX4 0 25 rfl rfl (by decide) lkF_X4_59 rfl dX4_uses_160 ?_
                        refine k_iload hC dX4_uses_163 rfl ?_
                        refine k_iconst hC (nI 1) dX4_uses_165 rfl ?_
                        refine k_iaddN hC dX4_uses_166 ?_
                        refine k_ald hC 17 rfl (by omega) (by decide) dX4_uses_167 ?_
                        refine k_ast hC 17 rfl (by omega) (by decide) dX4_uses_168 (wM K y b S (va_up (va_up (va_up (va_up (va_up (va_up (va_up (va_up G9 24 (upd (G9 24) (16 * k) (nI 0))) 25 (upd (G9 25) (16 * k) (nI 0))) 20 (upd (G9 20) k (nI ((bd + o) + 1)))) 26 (upd (G9 26) k (nI t.length))) 24 u8) 25 c8) 24 (upd u8 (16 * k + i) (u8 ((16 * k + i) + 1)))) 25 (upd c8 (16 * k + i) (c8 ((16 * k + i) + 1))))) rfl ?_
                        refine k_iinc hC dX4_uses_169 (by decide) rfl rfl (nI (16 * k + i + 1)) (kinc (16 * k + i) 1 rfl) [(0, .ref y), (1, .int (nI k)), (2, .int (nI g)), (3, .int (nI (w9 - x.1))), (4, .int (nI (16 * k))), (5, .int (nI x.1)), (6, .int (nI (16 * k + i + 1)))] rfl ?_
                        refine k_goto hC 123 dX4_uses_172 (by decide) ?_
                        have hs2 := mSh_step gs (by show i + 1 < t.length + 1; omega)
                        rw [← upd_sh, ← upd_sh] at hs2
                        refine k_eX (show _ = wM K y b S (va_up (va_up (va_up (va_up (va_up (va_up G9 24 (upd (G9 24) (16 * k) (nI 0))) 25 (upd (G9 25) (16 * k) (nI 0))) 20 (upd (G9 20) k (nI ((bd + o) + 1)))) 26 (upd (G9 26) k (nI t.length))) 24 (upd u8 (16 * k + i) (u8 ((16 * k + i) + 1)))) 25 (upd c8 (16 * k + i) (c8 ((16 * k + i) + 1)))) from rfl) ?_
                        exact ih8 (i + 1) _ _ (by omega) (by omega) hs2 (fun q hq => ⟨(kupd_ne (by omega)).trans (go q hq).1, (kupd_ne (by omega)).trans (go q hq).2⟩)
                  refine k_eX (show _ = wM K y b S (va_up (va_up (va_up (va_up (va_up (va_up G9 24 (upd (G9 24) (16 * k) (nI 0))) 25 (upd (G9 25) (16 * k) (nI 0))) 20 (upd (G9 20) k (nI ((bd + o) + 1)))) 26 (upd (G9 26) k (nI t.length))) 24 (upd (G9 24) (16 * k) (nI 0))) 25 (upd (G9 25) (16 * k) (nI 0))) from rfl) ?_
                  exact sh (t.length + 1) 0 _ _ (by omega) (by omega) (mSh_0 (mRg_set1 (mRg_set0 hg9 0) 0).2) (fun q _ => ⟨rfl, rfl⟩)
              · refine k_aload_n hC 0 dX4_uses_71 rfl rfl ?_
                refine k_get hC inlX4 0 24 rfl rfl (by decide) lkF_X4_56 rfl dX4_uses_72 ?_
                refine k_iload hC dX4_uses_75 rfl ?_
                refine k_ald hC 16 rfl (by omega) (by decide) dX4_uses_77 ?_
                refine k_topE (nI 0) kupd_eq ?_
                refine k_if_neN hC 99 dX4_uses_78 (by decide) (by omega) (fun c5 => ?_) (fun c5 => ?_)
                · exact absurd rfl c5
                · refine k_aload_n hC 0 dX4_uses_81 rfl rfl ?_
                  refine k_get hC inlX4 0 25 rfl rfl (by decide) lkF_X4_59 rfl dX4_uses_82 ?_
                  refine k_iload hC dX4_uses_85 rfl ?_
                  refine k_iconst hC (nI 0) dX4_uses_87 rfl ?_
                  refine k_ast hC 17 rfl (by omega) (by decide) dX4_uses_88 (wM K y b S (va_up (va_up G9 24 (upd (G9 24) (16 * k) (nI 0))) 25 (upd (G9 25) (16 * k) (nI 0)))) rfl ?_
                  refine k_aload_n hC 0 dX4_uses_89 rfl rfl ?_
                  refine k_get hC inlX4 0 20 rfl rfl (by decide) lkF_X4_44 rfl dX4_uses_90 ?_
                  refine k_iload_n hC 1 dX4_uses_93 rfl rfl ?_
                  refine k_dup2 hC dX4_uses_94 rfl rfl ?_
                  refine k_ald hC 12 rfl (by omega) (by decide) dX4_uses_95 ?_
                  refine k_topE (nI (bd + o)) hb9 ?_
                  refine k_iconst hC (nI 1) dX4_uses_96 rfl ?_
                  refine k_iaddN hC dX4_uses_97 ?_
                  refine k_ast hC 12 rfl (by omega) (by decide) dX4_uses_98 (wM K y b S (va_up (va_up (va_up G9 24 (upd (G9 24) (16 * k) (nI 0))) 25 (upd (G9 25) (16 * k) (nI 0))) 20 (upd (G9 20) k (nI ((bd + o) + 1))))) rfl ?_
                  refine k_aload_n hC 0 dX4_uses_99 rfl rfl ?_
                  refine k_get hC inlX4 0 24 rfl rfl (by decide) lkF_X4_56 rfl dX4_uses_100 ?_
                  refine k_iload hC dX4_uses_103 rfl ?_
                  refine k_ald hC 16 rfl (by omega) (by decide) dX4_uses_105 ?_
                  refine k_topE (nI 0) kupd_eq ?_
                  refine k_if_neN hC 175 dX4_uses_106 (by decide) (by omega) (fun c7 => ?_) (fun c7 => ?_)
                  · exact absurd rfl c7
                  · refine k_aload_n hC 0 dX4_uses_109 rfl rfl ?_
                    refine k_get hC inlX4 0 26 rfl rfl (by decide) lkF_X4_62 rfl dX4_uses_110 ?_
                    refine k_iload_n hC 1 dX4_uses_113 rfl rfl ?_
                    refine k_dup2 hC dX4_uses_114 rfl rfl ?_
                    refine k_ald hC 18 rfl (by omega) (by decide) dX4_uses_115 ?_
                    refine k_topE (nI ((x :: t).length)) hg9.1 ?_
                    refine k_iconst hC (nI 1) dX4_uses_116 rfl ?_
                    refine k_isubN hC dX4_uses_117 (by omega) ?_
                    refine k_topE (nI t.length) rfl ?_
                    refine k_ast hC 18 rfl (by omega) (by decide) dX4_uses_118 (wM K y b S (va_up (va_up (va_up (va_up G9 24 (upd (G9 24) (16 * k) (nI 0))) 25 (upd (G9 25) (16 * k) (nI 0))) 20 (upd (G9 20) k (nI ((bd + o) + 1)))) 26 (upd (G9 26) k (nI t.length)))) rfl ?_
                    refine k_iload hC dX4_uses_119 rfl ?_
                    refine k_istore hC dX4_uses_121 (by decide) rfl [(0, .ref y), (1, .int (nI k)), (2, .int (nI g)), (3, .int (nI (w9 - x.1))), (4, .int (nI (16 * k))), (5, .int (nI x.1)), (6, .int (nI (16 * k)))] rfl ?_
                    have sh : ∀ (n8 i : Nat) (u8 c8 : Nat → Int32), n8 + i = t.length + 1 → i ≤ t.length → mSh ((0, 0) :: t) i (fun j => u8 (16 * k + j)) (fun j => c8 (16 * k + j)) → (∀ q : Nat, (q < 16 * k ∨ 16 * k + 16 ≤ q) → u8 q = (upd (G9 24) (16 * k) (nI 0)) q ∧ c8 q = (upd (G9 25) (16 * k) (nI 0)) q) → kW p l e rmX4_uses s m args below meth cd K A 7 Q 0 0 ([]) (wM K y b S (va_up (va_up (va_up (va_up (va_up (va_up G9 24 (upd (G9 24) (16 * k) (nI 0))) 25 (upd (G9 25) (16 * k) (nI 0))) 20 (upd (G9 20) k (nI ((bd + o) + 1)))) 26 (upd (G9 26) k (nI t.length))) 24 u8) 25 c8)) [(0, .ref y), (1, .int (nI k)), (2, .int (nI g)), (3, .int (nI (w9 - x.1))), (4, .int (nI (16 * k))), (5, .int (nI x.1)), (6, .int (nI (16 * k + i)))] 123 [] := by
                      intro n8
                      induction n8 with
                      | zero => intro i u8 c8 g1 g2; exact absurd g1 (by omega)
                      | succ n8 ih8 =>
                        intro i u8 c8 g1 g2 gs go
                        refine k_iload hC dX4_uses_123 rfl ?_
                        refine k_iload hC dX4_uses_125 rfl ?_
                        refine k_aload_n hC 0 dX4_uses_127 rfl rfl ?_
                        refine k_get hC inlX4 0 26 rfl rfl (by decide) lkF_X4_62 rfl dX4_uses_128 ?_
                        refine k_iload_n hC 1 dX4_uses_131 rfl rfl ?_
                        refine k_ald hC 18 rfl (by omega) (by decide) dX4_uses_132 ?_
                        refine k_topE (nI t.length) kupd_eq ?_
                        refine k_iaddN hC dX4_uses_133 ?_
                        refine k_icmp_geN hC 175 dX4_uses_134 (by decide) (by omega) (by omega) (fun d1 => ?_) (fun d1 => ?_)
                        · have e9 : i = t.length := by omega
                          refine k_goto hC 2 dX4_uses_175 (by decide) ?_
                          refine k_lsub [0, 1, 2, 3] [(0, .ref y), (1, .int (nI k)), (2, .int (nI g)), (3, .int (nI (w9 - x.1)))] rfl ?_
                          exact ih t (w9 - x.1) (o + x.2) _ (by omega) (by omega) (by omega) (by omega) (by omega) (by rw [he, mTake_full c1 (by omega)]; congr 1; omega) ⟨kupd_eq, mSh_end (e9 ▸ gs)⟩ (mOk_tail hk9) (by omega) (by show upd _ _ _ _ = _; rw [kupd_eq]; congr 1; omega) (mSame_tr (mSame_tr (mSame_tr (mSame_tr (mSame_tr (mSame_tr hs9 (mSame_up (show 24 ∈ [20, 24, 25, 26] by decide))) (mSame_up (show 25 ∈ [20, 24, 25, 26] by decide))) (mSame_up (show 20 ∈ [20, 24, 25, 26] by decide))) (mSame_up (show 26 ∈ [20, 24, 25, 26] by decide))) (mSame_up (show 24 ∈ [20, 24, 25, 26] by decide))) (mSame_up (show 25 ∈ [20, 24, 25, 26] by decide))) (mOnly_tr (mOnly_tr (mOnly_tr (mOnly_tr (mOnly_tr ho9 (mOnly_24 (x := 0) (by omega))) (mOnly_25 (x := 0) (by omega))) mOnly_20) mOnly_26) (mOnlyP_24 go))
                        · refine k_aload_n hC 0 dX4_uses_137 rfl rfl ?_
                          refine k_get hC inlX4 0 24 rfl rfl (by decide) lkF_X4_56 rfl dX4_uses_138 ?_
                          refine k_iload hC dX4_uses_141 rfl ?_
                          refine k_aload_n hC 0 dX4_uses_143 rfl rfl ?_
                          refine k_get hC inlX4 0 24 rfl rfl (by decide) lkF_X4_56 rfl dX4_uses_144 ?_
                          refine k_iload hC dX4_uses_147 rfl ?_
                          refine k_iconst hC (nI 1) dX4_uses_149 rfl ?_
                          refine k_iaddN hC dX4_uses_150 ?_
                          refine k_ald hC 16 rfl (by omega) (by decide) dX4_uses_151 ?_
                          refine k_ast hC 16 rfl (by omega) (by decide) dX4_uses_152 (wM K y b S (va_up (va_up (va_up (va_up (va_up (va_up (va_up G9 24 (upd (G9 24) (16 * k) (nI 0))) 25 (upd (G9 25) (16 * k) (nI 0))) 20 (upd (G9 20) k (nI ((bd + o) + 1)))) 26 (upd (G9 26) k (nI t.length))) 24 u8) 25 c8) 24 (upd u8 (16 * k + i) (u8 ((16 * k + i) + 1))))) rfl ?_
                          refine k_aload_n hC 0 dX4_uses_153 rfl rfl ?_
                          refine k_get hC inlX4 0 25 rfl rfl (by decide) lkF_X4_59 rfl dX4_uses_154 ?_
                          refine k_iload hC dX4_uses_157 rfl ?_
                          refine k_aload_n hC 0 dX4_uses_159 rfl rfl ?_
                          refine k_get hC inlX4 0 25 rfl rfl (by decide) lkF_X4_59 rfl dX4_uses_160 ?_
                          refine k_iload hC dX4_uses_163 rfl ?_
                          refine k_iconst hC (nI 1) dX4_uses_165 rfl ?_
                          refine k_iaddN hC dX4_uses_166 ?_
                          refine k_ald hC 17 rfl (by omega) (by decide) dX4_uses_167 ?_
                          refine k_ast hC 17 rfl (by omega) (by decide) dX4_uses_168 (wM K y b S (va_up (va_up (va_up (va_up (va_up (va_up (va_up (va_up G9 24 (upd (G9 24) (16 * k) (nI 0))) 25 (upd (G9 25) (16 * k) (nI 0))) 20 (upd (G9 20) k (nI ((bd + o) + 1)))) 26 (upd (G9 26) k (nI t.length))) 24 u8) 25 c8) 24 (upd u8 (16 * k + i) (u8 ((16 * k + i) + 1)))) 25 (upd c8 (16 * k + i) (c8 ((16 * k + i) + 1))))) rfl ?_
                          refine k_iinc hC dX4_uses_169 (by decide) rfl rfl (nI (16 * k + i + 1)) (kinc (16 * k + i) 1 rfl) [(0, .ref y), (1, .int (nI k)), (2, .int (nI g)), (3, .int (nI (w9 - x.1))), (4, .int (nI (16 * k))), (5, .int (nI x.1)), (6, .int (nI (16 * k + i + 1)))] rfl ?_
                          refine k_goto hC 123 dX4_uses_172 (by decide) ?_
                          have hs2 := mSh_step gs (by show i + 1 < t.length + 1; omega)
                          rw [← upd_sh, ← upd_sh] at hs2
                          refine k_eX (show _ = wM K y b S (va_up (va_up (va_up (va_up (va_up (va_up G9 24 (upd (G9 24) (16 * k) (nI 0))) 25 (upd (G9 25) (16 * k) (nI 0))) 20 (upd (G9 20) k (nI ((bd + o) + 1)))) 26 (upd (G9 26) k (nI t.length))) 24 (upd u8 (16 * k + i) (u8 ((16 * k + i) + 1)))) 25 (upd c8 (16 * k + i) (c8 ((16 * k + i) + 1)))) from rfl) ?_
                          exact ih8 (i + 1) _ _ (by omega) (by omega) hs2 (fun q hq => ⟨(kupd_ne (by omega)).trans (go q hq).1, (kupd_ne (by omega)).trans (go q hq).2⟩)
                    refine k_eX (show _ = wM K y b S (va_up (va_up (va_up (va_up (va_up (va_up G9 24 (upd (G9 24) (16 * k) (nI 0))) 25 (upd (G9 25) (16 * k) (nI 0))) 20 (upd (G9 20) k (nI ((bd + o) + 1)))) 26 (upd (G9 26) k (nI t.length))) 24 (upd (G9 24) (16 * k) (nI 0))) 25 (upd (G9 25) (16 * k) (nI 0))) from rfl) ?_
                    exact sh (t.length + 1) 0 _ _ (by omega) (by omega) (mSh_0 (mRg_set1 (mRg_set0 hg9 0) 0).2) (fun q _ => ⟨rfl, rfl⟩)
  refine k_iload_n hC 2 dX4_uses_0 rfl rfl ?_
  refine k_istore_n hC 3 dX4_uses_1 rfl (by decide) rfl [(0, .ref y), (1, .int (nI k)), (2, .int (nI g)), (3, .int (nI g))] rfl ?_
  exact loop (L.length + 1) L g 0 G (Nat.lt_succ_self _) hL hg31 hgU (by omega) (by rw [Nat.zero_add]) hg hok (by omega) hb mSame_rf mOnly_rf
