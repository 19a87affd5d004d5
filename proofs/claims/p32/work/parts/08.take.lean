/-! Store.takeOut, Store() -/
theorem mOk_le1 {L : List (Nat × Nat)} (h : mOk L) : ∀ i : Nat, i < L.length → (mg L i).2 ≤ 1 := fun i hi => (mOk_1 h (mg_mem hi)).2.2
theorem kle1 {x y : Nat × Nat} {t : List (Nat × Nat)} (hk : mOk (x :: t)) (hb : y.2 ≤ 1) : ∀ i : Nat, i < (y :: t).length → (mg (y :: t) i).2 ≤ 1 := by
  intro i hi
  cases i with
  | zero => exact hb
  | succ i => rw [mg_succ]; exact mOk_le1 (mOk_tail hk) i (Nat.lt_of_succ_lt_succ hi)
abbrev rmX2_takeOut : Room := { frames := 1, cells := 0, slots := 0, locals := 30 }
set_option maxRecDepth 100000 in
set_option maxHeartbeats 4000000 in
theorem cX2_takeOut_k (l : Launch) (K : kE) (a0 a1 a2 : Nat) (u c : Nat → Int32) (L : List (Nat × Nat)) (wd : Int32) (g : Nat) (r : Bool) (hL : L.length ≤ 10) (hR : mR L u c) (hk : mOk L) (hg : (wd = nI g ∧ g < 2 ^ 31) ∨ (wd < 0 ∧ g = 0)) : kM l yX2_takeOut (kws yX2_takeOut cX2_takeOut 8 (some .int)) rmX2_takeOut K [.ref a0, .int wd, .int (kB r)] (wSt K a0 a1 a2 u c L.length) (fun v w => v = some (.int (nI (mTake L g r).2)) ∧ ∃ u2 c2 : Nat → Int32, w = wSt K a0 a1 a2 u2 c2 (mTake L g r).1.length ∧ mR (mTake L g r).1 u2 c2) := by
  refine kM_of (pl := []) (X := (wSt K a0 a1 a2 u c L.length)) rfl (by decide) (Nat.le_of_ble_eq_true rfl) ?_
  intro p e s m args below meth cd A Q hC hnm hE
  refine k_eX (show _ = [kO a0 2 [.ref a1, .ref a2, .int (nI L.length)], kI K a1 10 u, kZ K a2 10 c] from rfl) ?_
  have ex : ∀ (L9 : List (Nat × Nat)) (o a : Nat) (x : Int32) (u9 c9 : Nat → Int32), x ≤ 0 → a < 2 ^ 31 → mTake L g r = (L9, o) → mR L9 u9 c9 → kW p l e rmX2_takeOut s m args below meth cd K A 8 Q 0 0 ([]) [kO a0 2 [.ref a1, .ref a2, .int (nI L9.length)], kI K a1 10 u9, kZ K a2 10 c9] [(0, .ref a0), (1, .int wd), (2, .int (kB r)), (3, .int x), (4, .int (nI o)), (5, .int (nI a))] 11 [] := by
    intro L9 o a x u9 c9 hx ha he hR9
    refine k_iload hC dX2_takeOut_11 rfl ?_
    refine k_if_leN hC 107 dX2_takeOut_13 (by decide) (by omega) (fun c1 => ?_) (fun c1 => ?_)
    · refine k_iload hC dX2_takeOut_107 rfl ?_
      exact k_iret hC hE (Nat.le_of_ble_eq_true rfl) (Nat.le_of_ble_eq_true rfl) dX2_takeOut_109 ⟨by rw [he], u9, c9, by rw [he]; rfl, by rw [he]; exact hR9⟩
    · refine k_iload_n hC 3 dX2_takeOut_16 rfl rfl ?_
      refine k_if_le hC 107 dX2_takeOut_17 (by decide) (fun c2 => ?_) (fun c2 => ?_)
      · refine k_iload hC dX2_takeOut_107 rfl ?_
        exact k_iret hC hE (Nat.le_of_ble_eq_true rfl) (Nat.le_of_ble_eq_true rfl) dX2_takeOut_109 ⟨by rw [he], u9, c9, by rw [he]; rfl, by rw [he]; exact hR9⟩
      · exact absurd hx c2
  have loop : ∀ (n : Nat) (L9 : List (Nat × Nat)) (w9 o : Nat) (u9 c9 : Nat → Int32), L9.length < n → L9.length ≤ 10 → w9 < 2 ^ 31 → mTake L g r = ((mTake L9 w9 r).1, o + (mTake L9 w9 r).2) → mR L9 u9 c9 → mOk L9 → kW p l e rmX2_takeOut s m args below meth cd K A 8 Q 0 0 ([]) [kO a0 2 [.ref a1, .ref a2, .int (nI L9.length)], kI K a1 10 u9, kZ K a2 10 c9] [(0, .ref a0), (1, .int wd), (2, .int (kB r)), (3, .int (nI w9)), (4, .int (nI o)), (5, .int (nI L9.length))] 11 [] := by
    intro n
    induction n with
    | zero => intro L9 w9 o u9 c9 h1; exact absurd h1 (Nat.not_lt_zero _)
    | succ n ih =>
      intro L9 w9 o u9 c9 h1 h2 h3 he hR9 hk9
      rcases L9 with _ | ⟨y, t⟩
      · have he2 : mTake L g r = ([], o) := he
        refine k_iload hC dX2_takeOut_11 rfl ?_
        refine k_if_leN hC 107 dX2_takeOut_13 (by decide) (by omega) (fun c1 => ?_) (fun c1 => ?_)
        · refine k_iload hC dX2_takeOut_107 rfl ?_
          exact k_iret hC hE (Nat.le_of_ble_eq_true rfl) (Nat.le_of_ble_eq_true rfl) dX2_takeOut_109 ⟨by rw [he2], u9, c9, by rw [he2]; rfl, by rw [he2]; exact hR9⟩
        · exact absurd c1 (fun q => q rfl)
      · have hl : (y :: t).length = t.length + 1 := rfl
        have ho := mOk_1 hk9 (List.mem_cons_self)
        refine k_iload hC dX2_takeOut_11 rfl ?_
        refine k_if_leN hC 107 dX2_takeOut_13 (by decide) (by omega) (fun c1 => ?_) (fun c1 => ?_)
        · exact absurd c1 (by omega)
        · refine k_iload_n hC 3 dX2_takeOut_16 rfl rfl ?_
          refine k_if_leN hC 107 dX2_takeOut_17 (by decide) (by omega) (fun c2 => ?_) (fun c2 => ?_)
          · subst c2
            rw [mTake_0] at he
            refine k_iload hC dX2_takeOut_107 rfl ?_
            exact k_iret hC hE (Nat.le_of_ble_eq_true rfl) (Nat.le_of_ble_eq_true rfl) dX2_takeOut_109 ⟨by rw [he]; rfl, u9, c9, by rw [he]; rfl, by rw [he]; exact hR9⟩
          · refine k_iload_n hC 3 dX2_takeOut_20 rfl rfl ?_
            refine k_aload_n hC 0 dX2_takeOut_21 rfl rfl ?_
            refine k_get hC inlX2 0 0 rfl rfl (by decide) lkF_X2_11 rfl dX2_takeOut_22 ?_
            refine k_iconst hC (nI 0) dX2_takeOut_25 rfl ?_
            refine k_ald hC 1 rfl (by omega) (by decide) dX2_takeOut_26 ?_
            refine k_topE (nI y.1) (hR9 0 (by omega)).1 ?_
            refine k_min hC lkM_X2_19 lkT_Math_min_name lkN_J9 lkC_Math_min_name (Nat.le_of_ble_eq_true rfl) (Nat.le_of_ble_eq_true rfl) (Nat.le_of_ble_eq_true rfl) (Nat.le_of_ble_eq_true rfl) dX2_takeOut_27 ?_
            rcases Nat.lt_or_ge w9 y.1 with h5 | h5
            · refine k_topE (nI w9) (kmin_gt (by omega) (by omega) (by omega)) ?_
              refine k_istore hC dX2_takeOut_30 (by decide) rfl [(0, .ref a0), (1, .int wd), (2, .int (kB r)), (3, .int (nI w9)), (4, .int (nI o)), (5, .int (nI ((y :: t).length))), (6, .int (nI w9))] rfl ?_
              refine k_iload_n hC 3 dX2_takeOut_32 rfl rfl ?_
              refine k_iload hC dX2_takeOut_33 rfl ?_
              refine k_isubN hC dX2_takeOut_35 (by omega) ?_
              refine k_topE (nI 0) (by congr 1; try omega) ?_
              refine k_istore_n hC 3 dX2_takeOut_36 rfl (by decide) rfl [(0, .ref a0), (1, .int wd), (2, .int (kB r)), (3, .int (nI 0)), (4, .int (nI o)), (5, .int (nI ((y :: t).length))), (6, .int (nI w9))] rfl ?_
              refine k_aload_n hC 0 dX2_takeOut_37 rfl rfl ?_
              refine k_get hC inlX2 0 0 rfl rfl (by decide) lkF_X2_11 rfl dX2_takeOut_38 ?_
              refine k_iconst hC (nI 0) dX2_takeOut_41 rfl ?_
              refine k_dup2 hC dX2_takeOut_42 rfl rfl ?_
              refine k_ald hC 1 rfl (by omega) (by decide) dX2_takeOut_43 ?_
              refine k_topE (nI y.1) (hR9 0 (by omega)).1 ?_
              refine k_iload hC dX2_takeOut_44 rfl ?_
              refine k_isubN hC dX2_takeOut_46 (by omega) ?_
              refine k_topE (nI (y.1 - w9)) rfl ?_
              refine k_ast hC 1 rfl (by omega) (by decide) dX2_takeOut_47 [kO a0 2 [.ref a1, .ref a2, .int (nI ((y :: t).length))], kI K a1 10 (upd u9 0 (nI (y.1 - w9))), kZ K a2 10 c9] rfl ?_
              refine k_aload_n hC 0 dX2_takeOut_48 rfl rfl ?_
              refine k_get hC inlX2 0 0 rfl rfl (by decide) lkF_X2_11 rfl dX2_takeOut_49 ?_
              refine k_iconst hC (nI 0) dX2_takeOut_52 rfl ?_
              refine k_ald hC 1 rfl (by omega) (by decide) dX2_takeOut_53 ?_
              refine k_topE (nI (y.1 - w9)) (by simp [upd]) ?_
              refine k_if_neN hC 61 dX2_takeOut_54 (by decide) (by omega) (fun c7 => ?_) (fun c7 => ?_)
              · refine k_iconst hC (nI 0) dX2_takeOut_61 rfl ?_
                refine k_istore hC dX2_takeOut_62 (by decide) rfl [(0, .ref a0), (1, .int wd), (2, .int (kB r)), (3, .int (nI 0)), (4, .int (nI o)), (5, .int (nI ((y :: t).length))), (6, .int (nI w9)), (7, .int (nI 0))] rfl ?_
                refine k_aload_n hC 0 dX2_takeOut_64 rfl rfl ?_
                refine k_get hC inlX2 0 1 rfl rfl (by decide) lkF_X2_15 rfl dX2_takeOut_65 ?_
                refine k_iconst hC (nI 0) dX2_takeOut_68 rfl ?_
                refine k_zald hC 2 rfl (by omega) (by decide) dX2_takeOut_69 ?_
                refine k_topE (nI y.2) (hR9 0 (by omega)).2 ?_
                refine k_if_eqN hC 92 dX2_takeOut_70 (by decide) (by omega) (fun c3 => ?_) (fun c3 => ?_)
                · refine k_iload hC dX2_takeOut_92 rfl ?_
                  refine k_if_eqN hC 101 dX2_takeOut_94 (by decide) (by omega) (fun c6 => ?_) (fun c6 => ?_)
                  · refine k_iinc hC dX2_takeOut_101 (by decide) rfl rfl (nI ((y :: t).length - 1)) (kdec ((y :: t).length) 1 (by omega) rfl) [(0, .ref a0), (1, .int wd), (2, .int (kB r)), (3, .int (nI 0)), (4, .int (nI o)), (5, .int (nI ((y :: t).length - 1))), (6, .int (nI w9)), (7, .int (nI 0))] rfl ?_
                    refine k_goto hC 11 dX2_takeOut_104 (by decide) ?_
                    refine k_lsub [0, 1, 2, 3, 4, 5] [(0, .ref a0), (1, .int wd), (2, .int (kB r)), (3, .int (nI 0)), (4, .int (nI o)), (5, .int (nI ((y :: t).length - 1)))] rfl ?_
                    rw [mTake] at he
                    rw [if_neg c2, if_neg (by omega)] at he
                    have hr2 : (if r = true then ((y.1 - w9, 0) :: t, y.2) else ((y.1 - w9, y.2) :: t, 0)) = ((y.1 - w9, y.2) :: t, 0) := by
                      rw [c3]; split <;> rfl
                    rw [hr2] at he
                    exact ex ((y.1 - w9, y.2) :: t) o ((y :: t).length - 1) (nI 0) _ _ (by decide) (by omega) (by rw [he]; rfl) (mR_set0 hR9 (y.1 - w9))
                  · exact absurd c6 (by decide)
                · refine k_iload_n hC 2 dX2_takeOut_73 rfl rfl ?_
                  refine k_if_ne hC 82 dX2_takeOut_74 (by decide) (fun c4 => ?_) (fun c4 => ?_)
                  · refine k_aload_n hC 0 dX2_takeOut_82 rfl rfl ?_
                    refine k_get hC inlX2 0 1 rfl rfl (by decide) lkF_X2_15 rfl dX2_takeOut_83 ?_
                    refine k_iconst hC (nI 0) dX2_takeOut_86 rfl ?_
                    refine k_iconst hC (nI 0) dX2_takeOut_87 rfl ?_
                    refine k_zast hC 2 rfl (by omega) (by decide) rfl dX2_takeOut_88 [kO a0 2 [.ref a1, .ref a2, .int (nI ((y :: t).length))], kI K a1 10 (upd u9 0 (nI (y.1 - w9))), kZ K a2 10 (upd c9 0 (nI 0))] rfl ?_
                    refine k_iinc hC dX2_takeOut_89 (by decide) rfl rfl (nI (o + 1)) (kinc o 1 rfl) [(0, .ref a0), (1, .int wd), (2, .int (kB r)), (3, .int (nI 0)), (4, .int (nI (o + 1))), (5, .int (nI ((y :: t).length))), (6, .int (nI w9)), (7, .int (nI 0))] rfl ?_
                    refine k_iload hC dX2_takeOut_92 rfl ?_
                    refine k_if_eqN hC 101 dX2_takeOut_94 (by decide) (by omega) (fun c6 => ?_) (fun c6 => ?_)
                    · refine k_iinc hC dX2_takeOut_101 (by decide) rfl rfl (nI ((y :: t).length - 1)) (kdec ((y :: t).length) 1 (by omega) rfl) [(0, .ref a0), (1, .int wd), (2, .int (kB r)), (3, .int (nI 0)), (4, .int (nI (o + 1))), (5, .int (nI ((y :: t).length - 1))), (6, .int (nI w9)), (7, .int (nI 0))] rfl ?_
                      refine k_goto hC 11 dX2_takeOut_104 (by decide) ?_
                      refine k_lsub [0, 1, 2, 3, 4, 5] [(0, .ref a0), (1, .int wd), (2, .int (kB r)), (3, .int (nI 0)), (4, .int (nI (o + 1))), (5, .int (nI ((y :: t).length - 1)))] rfl ?_
                      rw [mTake] at he
                      rw [if_neg c2, if_neg (by omega)] at he
                      rw [if_pos (kB_ne.mp c4)] at he
                      exact ex ((y.1 - w9, 0) :: t) (o + 1) ((y :: t).length - 1) (nI 0) _ _ (by decide) (by omega) (by rw [he, show y.2 = 1 by omega]) (mR_set1 (mR_set0 hR9 (y.1 - w9)) 0)
                    · exact absurd c6 (by decide)
                  · refine k_iload hC dX2_takeOut_77 rfl ?_
                    refine k_if_eqN hC 92 dX2_takeOut_79 (by decide) (by omega) (fun c5 => ?_) (fun c5 => ?_)
                    · refine k_iload hC dX2_takeOut_92 rfl ?_
                      refine k_if_eqN hC 101 dX2_takeOut_94 (by decide) (by omega) (fun c6 => ?_) (fun c6 => ?_)
                      · refine k_iinc hC dX2_takeOut_101 (by decide) rfl rfl (nI ((y :: t).length - 1)) (kdec ((y :: t).length) 1 (by omega) rfl) [(0, .ref a0), (1, .int wd), (2, .int (kB r)), (3, .int (nI 0)), (4, .int (nI o)), (5, .int (nI ((y :: t).length - 1))), (6, .int (nI w9)), (7, .int (nI 0))] rfl ?_
                        refine k_goto hC 11 dX2_takeOut_104 (by decide) ?_
                        refine k_lsub [0, 1, 2, 3, 4, 5] [(0, .ref a0), (1, .int wd), (2, .int (kB r)), (3, .int (nI 0)), (4, .int (nI o)), (5, .int (nI ((y :: t).length - 1)))] rfl ?_
                        rw [mTake] at he
                        rw [if_neg c2, if_neg (by omega)] at he
                        have hr2 : (if r = true then ((y.1 - w9, 0) :: t, y.2) else ((y.1 - w9, y.2) :: t, 0)) = ((y.1 - w9, y.2) :: t, 0) := by
                          rw [if_neg (by rw [kB_eq.mp c4]; decide)]
                        rw [hr2] at he
                        exact ex ((y.1 - w9, y.2) :: t) o ((y :: t).length - 1) (nI 0) _ _ (by decide) (by omega) (by rw [he]; rfl) (mR_set0 hR9 (y.1 - w9))
                      · exact absurd c6 (by decide)
                    · exact absurd c5 (by decide)
              · exact absurd c7 (by omega)
            · refine k_topE (nI y.1) (kmin_le (by omega) (by omega) h5) ?_
              refine k_istore hC dX2_takeOut_30 (by decide) rfl [(0, .ref a0), (1, .int wd), (2, .int (kB r)), (3, .int (nI w9)), (4, .int (nI o)), (5, .int (nI ((y :: t).length))), (6, .int (nI y.1))] rfl ?_
              refine k_iload_n hC 3 dX2_takeOut_32 rfl rfl ?_
              refine k_iload hC dX2_takeOut_33 rfl ?_
              refine k_isubN hC dX2_takeOut_35 (by omega) ?_
              refine k_topE (nI (w9 - y.1)) rfl ?_
              refine k_istore_n hC 3 dX2_takeOut_36 rfl (by decide) rfl [(0, .ref a0), (1, .int wd), (2, .int (kB r)), (3, .int (nI (w9 - y.1))), (4, .int (nI o)), (5, .int (nI ((y :: t).length))), (6, .int (nI y.1))] rfl ?_
              refine k_aload_n hC 0 dX2_takeOut_37 rfl rfl ?_
              refine k_get hC inlX2 0 0 rfl rfl (by decide) lkF_X2_11 rfl dX2_takeOut_38 ?_
              refine k_iconst hC (nI 0) dX2_takeOut_41 rfl ?_
              refine k_dup2 hC dX2_takeOut_42 rfl rfl ?_
              refine k_ald hC 1 rfl (by omega) (by decide) dX2_takeOut_43 ?_
              refine k_topE (nI y.1) (hR9 0 (by omega)).1 ?_
              refine k_iload hC dX2_takeOut_44 rfl ?_
              refine k_isubN hC dX2_takeOut_46 (by omega) ?_
              refine k_topE (nI 0) (by congr 1; omega) ?_
              refine k_ast hC 1 rfl (by omega) (by decide) dX2_takeOut_47 [kO a0 2 [.ref a1, .ref a2, .int (nI ((y :: t).length))], kI K a1 10 (upd u9 0 (nI 0)), kZ K a2 10 c9] rfl ?_
              refine k_aload_n hC 0 dX2_takeOut_48 rfl rfl ?_
              refine k_get hC inlX2 0 0 rfl rfl (by decide) lkF_X2_11 rfl dX2_takeOut_49 ?_
              refine k_iconst hC (nI 0) dX2_takeOut_52 rfl ?_
              refine k_ald hC 1 rfl (by omega) (by decide) dX2_takeOut_53 ?_
              refine k_topE (nI 0) (by simp [upd]) ?_
              refine k_if_neN hC 61 dX2_takeOut_54 (by decide) (by omega) (fun c7 => ?_) (fun c7 => ?_)
              · exact absurd rfl c7
              · refine k_iconst hC (nI 1) dX2_takeOut_57 rfl ?_
                refine k_goto hC 62 dX2_takeOut_58 (by decide) ?_
                refine k_istore hC dX2_takeOut_62 (by decide) rfl [(0, .ref a0), (1, .int wd), (2, .int (kB r)), (3, .int (nI (w9 - y.1))), (4, .int (nI o)), (5, .int (nI ((y :: t).length))), (6, .int (nI y.1)), (7, .int (nI 1))] rfl ?_
                refine k_aload_n hC 0 dX2_takeOut_64 rfl rfl ?_
                refine k_get hC inlX2 0 1 rfl rfl (by decide) lkF_X2_15 rfl dX2_takeOut_65 ?_
                refine k_iconst hC (nI 0) dX2_takeOut_68 rfl ?_
                refine k_zald hC 2 rfl (by omega) (by decide) dX2_takeOut_69 ?_
                refine k_topE (nI y.2) (hR9 0 (by omega)).2 ?_
                refine k_if_eqN hC 92 dX2_takeOut_70 (by decide) (by omega) (fun c3 => ?_) (fun c3 => ?_)
                · refine k_iload hC dX2_takeOut_92 rfl ?_
                  refine k_if_eqN hC 101 dX2_takeOut_94 (by decide) (by omega) (fun c6 => ?_) (fun c6 => ?_)
                  · exact absurd c6 (by decide)
                  · refine k_aload_n hC 0 dX2_takeOut_97 rfl rfl ?_
                    refine k_callV hC (As := []) (cX2_removeHead_k l K a0 a1 a2 _ _ (0, y.2) t (by omega) (mR_set0 hR9 0) (kle1 (x := y) (y := (0, y.2)) hk9 (by show _ ≤ 1; omega))) [] rfl 0 rfl rfl (kAll5 lkM_X2_29 lkI_yX2_removeHead lkS_yX2_removeHead lkN_X2 lkC_yX2_removeHead) 0 (by decide) ⟨(Nat.le_of_ble_eq_true rfl), (Nat.le_of_ble_eq_true rfl)⟩ rfl rfl (Nat.le_of_ble_eq_true rfl) ⟨(Nat.le_of_ble_eq_true rfl), (Nat.le_of_ble_eq_true rfl)⟩ dX2_takeOut_98 (fun v w h => ?_)
                    obtain ⟨rfl, u3, c3v, rfl, hR3⟩ := h
                    refine k_re 0 0 [kO a0 2 [.ref a1, .ref a2, .int (nI t.length)], kI K a1 10 u3, kZ K a2 10 c3v] [] rfl rfl rfl rfl ?_
                    refine k_iinc hC dX2_takeOut_101 (by decide) rfl rfl (nI ((y :: t).length - 1)) (kdec ((y :: t).length) 1 (by omega) rfl) [(0, .ref a0), (1, .int wd), (2, .int (kB r)), (3, .int (nI (w9 - y.1))), (4, .int (nI o)), (5, .int (nI ((y :: t).length - 1))), (6, .int (nI y.1)), (7, .int (nI 1))] rfl ?_
                    refine k_goto hC 11 dX2_takeOut_104 (by decide) ?_
                    refine k_lsub [0, 1, 2, 3, 4, 5] [(0, .ref a0), (1, .int wd), (2, .int (kB r)), (3, .int (nI (w9 - y.1))), (4, .int (nI o)), (5, .int (nI ((y :: t).length - 1)))] rfl ?_
                    rw [mTake] at he
                    rw [if_neg c2, if_pos h5] at he
                    exact ih t (w9 - y.1) (o) u3 c3v (by omega) (by omega) (by omega) (by rw [he]; congr 1; omega) hR3 (mOk_tail hk9)
                · refine k_iload_n hC 2 dX2_takeOut_73 rfl rfl ?_
                  refine k_if_ne hC 82 dX2_takeOut_74 (by decide) (fun c4 => ?_) (fun c4 => ?_)
                  · refine k_aload_n hC 0 dX2_takeOut_82 rfl rfl ?_
                    refine k_get hC inlX2 0 1 rfl rfl (by decide) lkF_X2_15 rfl dX2_takeOut_83 ?_
                    refine k_iconst hC (nI 0) dX2_takeOut_86 rfl ?_
                    refine k_iconst hC (nI 0) dX2_takeOut_87 rfl ?_
                    refine k_zast hC 2 rfl (by omega) (by decide) rfl dX2_takeOut_88 [kO a0 2 [.ref a1, .ref a2, .int (nI ((y :: t).length))], kI K a1 10 (upd u9 0 (nI 0)), kZ K a2 10 (upd c9 0 (nI 0))] rfl ?_
                    refine k_iinc hC dX2_takeOut_89 (by decide) rfl rfl (nI (o + 1)) (kinc o 1 rfl) [(0, .ref a0), (1, .int wd), (2, .int (kB r)), (3, .int (nI (w9 - y.1))), (4, .int (nI (o + 1))), (5, .int (nI ((y :: t).length))), (6, .int (nI y.1)), (7, .int (nI 1))] rfl ?_
                    refine k_iload hC dX2_takeOut_92 rfl ?_
                    refine k_if_eqN hC 101 dX2_takeOut_94 (by decide) (by omega) (fun c6 => ?_) (fun c6 => ?_)
                    · exact absurd c6 (by decide)
                    · refine k_aload_n hC 0 dX2_takeOut_97 rfl rfl ?_
                      refine k_callV hC (As := []) (cX2_removeHead_k l K a0 a1 a2 _ _ (0, 0) t (by omega) (mR_set1 (mR_set0 hR9 0) 0) (kle1 (x := y) (y := (0, 0)) hk9 (by show _ ≤ 1; omega))) [] rfl 0 rfl rfl (kAll5 lkM_X2_29 lkI_yX2_removeHead lkS_yX2_removeHead lkN_X2 lkC_yX2_removeHead) 0 (by decide) ⟨(Nat.le_of_ble_eq_true rfl), (Nat.le_of_ble_eq_true rfl)⟩ rfl rfl (Nat.le_of_ble_eq_true rfl) ⟨(Nat.le_of_ble_eq_true rfl), (Nat.le_of_ble_eq_true rfl)⟩ dX2_takeOut_98 (fun v w h => ?_)
                      obtain ⟨rfl, u3, c3v, rfl, hR3⟩ := h
                      refine k_re 0 0 [kO a0 2 [.ref a1, .ref a2, .int (nI t.length)], kI K a1 10 u3, kZ K a2 10 c3v] [] rfl rfl rfl rfl ?_
                      refine k_iinc hC dX2_takeOut_101 (by decide) rfl rfl (nI ((y :: t).length - 1)) (kdec ((y :: t).length) 1 (by omega) rfl) [(0, .ref a0), (1, .int wd), (2, .int (kB r)), (3, .int (nI (w9 - y.1))), (4, .int (nI (o + 1))), (5, .int (nI ((y :: t).length - 1))), (6, .int (nI y.1)), (7, .int (nI 1))] rfl ?_
                      refine k_goto hC 11 dX2_takeOut_104 (by decide) ?_
                      refine k_lsub [0, 1, 2, 3, 4, 5] [(0, .ref a0), (1, .int wd), (2, .int (kB r)), (3, .int (nI (w9 - y.1))), (4, .int (nI (o + 1))), (5, .int (nI ((y :: t).length - 1)))] rfl ?_
                      rw [mTake] at he
                      rw [if_neg c2, if_pos h5] at he
                      exact ih t (w9 - y.1) (o + 1) u3 c3v (by omega) (by omega) (by omega) (by rw [he]; congr 1; omega) hR3 (mOk_tail hk9)
                  · refine k_iload hC dX2_takeOut_77 rfl ?_
                    refine k_if_eqN hC 92 dX2_takeOut_79 (by decide) (by omega) (fun c5 => ?_) (fun c5 => ?_)
                    · exact absurd c5 (by decide)
                    · refine k_aload_n hC 0 dX2_takeOut_82 rfl rfl ?_
                      refine k_get hC inlX2 0 1 rfl rfl (by decide) lkF_X2_15 rfl dX2_takeOut_83 ?_
                      refine k_iconst hC (nI 0) dX2_takeOut_86 rfl ?_
                      refine k_iconst hC (nI 0) dX2_takeOut_87 rfl ?_
                      refine k_zast hC 2 rfl (by omega) (by decide) rfl dX2_takeOut_88 [kO a0 2 [.ref a1, .ref a2, .int (nI ((y :: t).length))], kI K a1 10 (upd u9 0 (nI 0)), kZ K a2 10 (upd c9 0 (nI 0))] rfl ?_
                      refine k_iinc hC dX2_takeOut_89 (by decide) rfl rfl (nI (o + 1)) (kinc o 1 rfl) [(0, .ref a0), (1, .int wd), (2, .int (kB r)), (3, .int (nI (w9 - y.1))), (4, .int (nI (o + 1))), (5, .int (nI ((y :: t).length))), (6, .int (nI y.1)), (7, .int (nI 1))] rfl ?_
                      refine k_iload hC dX2_takeOut_92 rfl ?_
                      refine k_if_eqN hC 101 dX2_takeOut_94 (by decide) (by omega) (fun c6 => ?_) (fun c6 => ?_)
                      · exact absurd c6 (by decide)
                      · refine k_aload_n hC 0 dX2_takeOut_97 rfl rfl ?_
                        refine k_callV hC (As := []) (cX2_removeHead_k l K a0 a1 a2 _ _ (0, 0) t (by omega) (mR_set1 (mR_set0 hR9 0) 0) (kle1 (x := y) (y := (0, 0)) hk9 (by show _ ≤ 1; omega))) [] rfl 0 rfl rfl (kAll5 lkM_X2_29 lkI_yX2_removeHead lkS_yX2_removeHead lkN_X2 lkC_yX2_removeHead) 0 (by decide) ⟨(Nat.le_of_ble_eq_true rfl), (Nat.le_of_ble_eq_true rfl)⟩ rfl rfl (Nat.le_of_ble_eq_true rfl) ⟨(Nat.le_of_ble_eq_true rfl), (Nat.le_of_ble_eq_true rfl)⟩ dX2_takeOut_98 (fun v w h => ?_)
                        obtain ⟨rfl, u3, c3v, rfl, hR3⟩ := h
                        refine k_re 0 0 [kO a0 2 [.ref a1, .ref a2, .int (nI t.length)], kI K a1 10 u3, kZ K a2 10 c3v] [] rfl rfl rfl rfl ?_
                        refine k_iinc hC dX2_takeOut_101 (by decide) rfl rfl (nI ((y :: t).length - 1)) (kdec ((y :: t).length) 1 (by omega) rfl) [(0, .ref a0), (1, .int wd), (2, .int (kB r)), (3, .int (nI (w9 - y.1))), (4, .int (nI (o + 1))), (5, .int (nI ((y :: t).length - 1))), (6, .int (nI y.1)), (7, .int (nI 1))] rfl ?_
                        refine k_goto hC 11 dX2_takeOut_104 (by decide) ?_
                        refine k_lsub [0, 1, 2, 3, 4, 5] [(0, .ref a0), (1, .int wd), (2, .int (kB r)), (3, .int (nI (w9 - y.1))), (4, .int (nI (o + 1))), (5, .int (nI ((y :: t).length - 1)))] rfl ?_
                        rw [mTake] at he
                        rw [if_neg c2, if_pos h5] at he
                        exact ih t (w9 - y.1) (o + 1) u3 c3v (by omega) (by omega) (by omega) (by rw [he]; congr 1; omega) hR3 (mOk_tail hk9)
  refine k_iload_n hC 1 dX2_takeOut_0 rfl rfl ?_
  refine k_istore_n hC 3 dX2_takeOut_1 rfl (by decide) rfl [(0, .ref a0), (1, .int wd), (2, .int (kB r)), (3, .int wd)] rfl ?_
  refine k_iconst hC (nI 0) dX2_takeOut_2 rfl ?_
  refine k_istore hC dX2_takeOut_3 (by decide) rfl [(0, .ref a0), (1, .int wd), (2, .int (kB r)), (3, .int wd), (4, .int (nI 0))] rfl ?_
  refine k_aload_n hC 0 dX2_takeOut_5 rfl rfl ?_
  refine k_get hC inlX2 0 2 rfl rfl (by decide) lkF_X2_25 rfl dX2_takeOut_6 ?_
  refine k_istore hC dX2_takeOut_9 (by decide) rfl [(0, .ref a0), (1, .int wd), (2, .int (kB r)), (3, .int wd), (4, .int (nI 0)), (5, .int (nI L.length))] rfl ?_
  rcases hg with hg | hg
  · obtain ⟨rfl, hg1⟩ := hg
    exact loop (L.length + 1) L g 0 u c (Nat.lt_succ_self _) hL hg1 (by rw [Nat.zero_add]) hR hk
  · obtain ⟨hw, rfl⟩ := hg
    exact ex L 0 L.length wd u c (Int32.le_of_lt hw) (by omega) (mTake_0 L r) hR
abbrev rmX2_init : Room := { frames := 1, cells := 2, slots := 20, locals := 30 }
set_option maxRecDepth 100000 in
set_option maxHeartbeats 4000000 in
theorem cX2_init_k (l : Launch) (K : kE) (a0 z sz : Nat) (hz : z ≤ 9) : kM l yX2_init (kws yX2_init cX2_init 4 none) rmX2_init K [.ref a0, .int (nI z), .int (nI sz)] [kO a0 2 [.null, .null, .int (nI 0)]] (fun v w => v = none ∧ ∃ (a1 a2 : Nat) (u2 c2 : Nat → Int32), w = wSt K a0 a1 a2 u2 c2 (List.replicate z (sz, 1)).length ∧ mR (List.replicate z (sz, 1)) u2 c2) := by
  refine kM_of (pl := []) (X := [kO a0 2 [.null, .null, .int (nI 0)]]) rfl (by decide) (Nat.le_of_ble_eq_true rfl) ?_
  intro p e s m args below meth cd A Q hC hnm hE
  refine k_eX (show _ = [kO a0 2 [.null, .null, .int (nI 0)]] from rfl) ?_
  refine k_aload_n hC 0 dX2_init_0 rfl rfl ?_
  refine k_objInit hC lkM_X2_3 lkI_objectInit lkC_objectInit dX2_init_1 (Nat.le_of_ble_eq_true rfl) (Nat.le_of_ble_eq_true rfl) ?_
  refine k_aload_n hC 0 dX2_init_4 rfl rfl ?_
  refine k_bipush hC (nI 10) dX2_init_5 rfl ?_
  refine k_newI hC 10 rfl (by decide) (Nat.le_of_ble_eq_true rfl) (Nat.le_of_ble_eq_true rfl) lkA_int dX2_init_7 (fun q1 => ?_)
  refine k_eX (show _ = [kO a0 2 [.null, .null, .int (nI 0)], kI K q1 10 ((fun _ => 0))] from rfl) ?_
  refine k_putF hC hnm inlX2 tyX2_ok nmX2 0 0 rfl rfl (by decide) lkF_X2_11 rfl rfl rfl rfl (Nat.le_of_ble_eq_true rfl) dX2_init_9 [kO a0 2 [.ref q1, .null, .int (nI 0)], kI K q1 10 ((fun _ => 0))] rfl ?_
  refine k_aload_n hC 0 dX2_init_12 rfl rfl ?_
  refine k_bipush hC (nI 10) dX2_init_13 rfl ?_
  refine k_newZ hC 10 rfl (by decide) (Nat.le_of_ble_eq_true rfl) (Nat.le_of_ble_eq_true rfl) lkA_boolean dX2_init_15 (fun q2 => ?_)
  refine k_eX (show _ = [kO a0 2 [.ref q1, .null, .int (nI 0)], kI K q1 10 ((fun _ => 0)), kZ K q2 10 ((fun _ => 0))] from rfl) ?_
  refine k_putF hC hnm inlX2 tyX2_ok nmX2 0 1 rfl rfl (by decide) lkF_X2_15 rfl rfl rfl rfl (Nat.le_of_ble_eq_true rfl) dX2_init_17 [kO a0 2 [.ref q1, .ref q2, .int (nI 0)], kI K q1 10 ((fun _ => 0)), kZ K q2 10 ((fun _ => 0))] rfl ?_
  refine k_aload_n hC 0 dX2_init_20 rfl rfl ?_
  refine k_iload_n hC 1 dX2_init_21 rfl rfl ?_
  refine k_bipush hC (nI 10) dX2_init_22 rfl ?_
  refine k_min hC lkM_X2_19 lkT_Math_min_name lkN_J9 lkC_Math_min_name (Nat.le_of_ble_eq_true rfl) (Nat.le_of_ble_eq_true rfl) (Nat.le_of_ble_eq_true rfl) (Nat.le_of_ble_eq_true rfl) dX2_init_24 ?_
  refine k_topE (nI z) (by rw [if_neg (fun q => by have := (nI_ltI (by omega) (by omega)).mp q; omega)]) ?_
  refine k_put hC inlX2 tyX2_ok nmX2 0 2 rfl rfl (by decide) lkF_X2_25 rfl rfl rfl (Nat.le_of_ble_eq_true rfl) dX2_init_27 [kO a0 2 [.ref q1, .ref q2, .int (nI z)], kI K q1 10 ((fun _ => 0)), kZ K q2 10 ((fun _ => 0))] rfl ?_
  refine k_iconst hC (nI 0) dX2_init_30 rfl ?_
  refine k_istore_n hC 3 dX2_init_31 rfl (by decide) rfl [(0, .ref a0), (1, .int (nI z)), (2, .int (nI sz)), (3, .int (nI 0))] rfl ?_
  have loop : ∀ (n i : Nat) (u9 c9 : Nat → Int32), n + i = z + 1 → i ≤ z → mR (List.replicate i (sz, 1)) u9 c9 → kW p l e rmX2_init s m args below meth cd K A 4 Q 2 20 ([]) [kO a0 2 [.ref q1, .ref q2, .int (nI z)], kI K q1 10 u9, kZ K q2 10 c9] [(0, .ref a0), (1, .int (nI z)), (2, .int (nI sz)), (3, .int (nI i))] 32 [] := by
    intro n
    induction n with
    | zero => intro i u9 c9 h1 h2; exact absurd h1 (by omega)
    | succ n ih =>
      intro i u9 c9 h1 h2 hs
      refine k_iload_n hC 3 dX2_init_32 rfl rfl ?_
      refine k_aload_n hC 0 dX2_init_33 rfl rfl ?_
      refine k_get hC inlX2 0 2 rfl rfl (by decide) lkF_X2_25 rfl dX2_init_34 ?_
      refine k_icmp_geN hC 60 dX2_init_37 (by decide) (by omega) (by omega) (fun c1 => ?_) (fun c1 => ?_)
      · obtain rfl : i = z := by omega
        exact k_vret hC hE (Nat.le_of_ble_eq_true rfl) (Nat.le_of_ble_eq_true rfl) dX2_init_60 ⟨rfl, q1, q2, u9, c9, by rw [List.length_replicate]; rfl, hs⟩
      · refine k_aload_n hC 0 dX2_init_40 rfl rfl ?_
        refine k_get hC inlX2 0 0 rfl rfl (by decide) lkF_X2_11 rfl dX2_init_41 ?_
        refine k_iload_n hC 3 dX2_init_44 rfl rfl ?_
        refine k_iload_n hC 2 dX2_init_45 rfl rfl ?_
        refine k_ast hC 1 rfl (by omega) (by decide) dX2_init_46 [kO a0 2 [.ref q1, .ref q2, .int (nI z)], kI K q1 10 (upd u9 i (nI sz)), kZ K q2 10 c9] rfl ?_
        refine k_aload_n hC 0 dX2_init_47 rfl rfl ?_
        refine k_get hC inlX2 0 1 rfl rfl (by decide) lkF_X2_15 rfl dX2_init_48 ?_
        refine k_iload_n hC 3 dX2_init_51 rfl rfl ?_
        refine k_iconst hC (nI 1) dX2_init_52 rfl ?_
        refine k_zast hC 2 rfl (by omega) (by decide) rfl dX2_init_53 [kO a0 2 [.ref q1, .ref q2, .int (nI z)], kI K q1 10 (upd u9 i (nI sz)), kZ K q2 10 (upd c9 i (nI 1))] rfl ?_
        refine k_iinc hC dX2_init_54 (by decide) rfl rfl (nI (i + 1)) (kinc i 1 rfl) [(0, .ref a0), (1, .int (nI z)), (2, .int (nI sz)), (3, .int (nI (i + 1)))] rfl ?_
        refine k_goto hC 32 dX2_init_57 (by decide) ?_
        refine ih (i + 1) _ _ (by omega) (by omega) ?_
        rw [List.replicate_succ']
        have h9 := mR_snoc (x := sz) (y := 1) hs
        rw [List.length_replicate] at h9
        exact h9
  exact loop (z + 1) 0 _ _ (by omega) (by omega) mR_nil
