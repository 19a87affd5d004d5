/-! the law's helpers: a code, and the answer in a place -/
def kHo (K : kE) (x o : Nat) (q : mO) : Option Value → va_W → Prop := fun v w => v = some (.int (nI q.1)) ∧ ∃ (ad : Nat → Nat → Nat) (us : Nat → Nat → Nat → Int32) (f : Nat → Int64), w = wX K x ad q.2.2 us ++ [kJ K o 1 f] ∧ mURT q.2.2 us ∧ (q.1 = 0 → f 0 = q.2.1.toInt64)
theorem oWay_st (σ : mS) (p v : Int32) (h : (oWay σ p v).1 ≠ 0) : (oWay σ p v).2.2 = σ := by
  revert h
  unfold oWay
  repeat' split
  all_goals (intro h; first | rfl | exact absurd rfl h)
theorem oMark_st (σ : mS) (p v : Int32) (h : (oMark σ p v).1 ≠ 0) : (oMark σ p v).2.2 = σ := by
  revert h
  unfold oMark
  repeat' split
  all_goals (intro h; first | rfl | exact absurd rfl h)
theorem oDemand_st (σ : mS) (v : Int32) (h : (oDemand σ v).1 ≠ 0) : (oDemand σ v).2.2 = σ := by
  revert h
  unfold oDemand
  repeat' split
  all_goals (intro h; first | rfl | exact absurd rfl h)
theorem oDemand_n2 (σ : mS) (v : Int32) (h : (oDemand σ v).1 = 2) : False := by
  revert h
  unfold oDemand
  repeat' split
  all_goals (intro h; simp at h)
theorem oStop_st (σ : mS) (p : Int32) (h : (oStop σ p).1 ≠ 0) : (oStop σ p).2.2 = σ := by
  revert h
  unfold oStop
  repeat' split
  all_goals (intro h; first | rfl | exact absurd rfl h)
theorem oStop_n2 (σ : mS) (p : Int32) (h : (oStop σ p).1 = 2) : False := by
  revert h
  unfold oStop
  repeat' split
  all_goals (intro h; simp at h)
theorem oIssue_st (σ : mS) (p : Int32) (h : (oIssue σ p).1 ≠ 0) : (oIssue σ p).2.2 = σ := by
  revert h
  unfold oIssue
  repeat' split
  all_goals (intro h; first | rfl | exact absurd rfl h)
theorem oRetire_st (σ : mS) (p : Int32) (h : (oRetire σ p).1 ≠ 0) : (oRetire σ p).2.2 = σ := by
  revert h
  unfold oRetire
  repeat' split
  all_goals (intro h; first | rfl | exact absurd rfl h)
theorem oIssueC_st (σ : mS) (p : Int32) (h : (oIssueC σ p).1 ≠ 0) : (oIssueC σ p).2.2 = σ := by
  revert h
  unfold oIssueC
  repeat' split
  all_goals (intro h; first | rfl | exact absurd rfl h)
theorem oRetireC_st (σ : mS) (p : Int32) (h : (oRetireC σ p).1 ≠ 0) : (oRetireC σ p).2.2 = σ := by
  revert h
  unfold oRetireC
  repeat' split
  all_goals (intro h; first | rfl | exact absurd rfl h)
theorem oNeeded_st (σ : mS) (p v : Int32) (h : (oNeeded σ p v).1 ≠ 0) : (oNeeded σ p v).2.2 = σ := by
  revert h
  unfold oNeeded
  repeat' split
  all_goals (intro h; first | rfl | exact absurd rfl h)
theorem oStep_st (σ : mS) (s : Int32) (h : (oStep σ s).1 ≠ 0) : (oStep σ s).2.2 = σ := by
  revert h
  unfold oStep
  repeat' split
  all_goals (intro h; first | rfl | exact absurd rfl h)
theorem oGet_st (σ : mS) (p : Int32) (F : mT → Int32) (h : (oGet σ p F).1 ≠ 0) : (oGet σ p F).2.2 = σ := by
  revert h
  unfold oGet
  repeat' split
  all_goals (intro h; first | rfl | exact absurd rfl h)
theorem oGet_n2 (σ : mS) (p : Int32) (F : mT → Int32) (h : (oGet σ p F).1 = 2) : False := by
  revert h
  unfold oGet
  repeat' split
  all_goals (intro h; simp at h)
theorem oStage_st (σ : mS) (c z t k : Int32) (full : Bool) (h : (oStage σ c z t k full).1 ≠ 0) : (oStage σ c z t k full).2.2 = σ := by
  revert h
  unfold oStage
  repeat' split
  all_goals (intro h; first | rfl | exact absurd rfl h)
theorem oStop_01 (σ : mS) (p : Int32) (h : (oStop σ p).1 = 0) : (oStop σ p).2.1 = nI 0 ∨ (oStop σ p).2.1 = nI 1 := by
  revert h
  unfold oStop
  split
  · intro _
    show nI _ = nI 0 ∨ nI _ = nI 1
    rcases (show 1 - (oT σ p).1 12 = 0 ∨ 1 - (oT σ p).1 12 = 1 by omega) with e | e
    · rw [e]; exact Or.inl rfl
    · rw [e]; exact Or.inr rfl
  · intro h; simp at h
abbrev rmL_stage : Room := { frames := 8, cells := 14, slots := 101, locals := 147 }
set_option maxRecDepth 100000 in
set_option maxHeartbeats 4000000 in
theorem cL_stage_k {l : Launch} (hst : l.stackTraces = false) (K : kE) (x : Nat) (ad : Nat → Nat → Nat) (σ : mS) (us : Nat → Nat → Nat → Int32) (hσ : mSok σ) (hU : mURT σ us) (o : Nat) (f : Nat → Int64) (c9 z9 t9 k9 : Int32) (full : Bool) : kX l yL_stage (kwh yL_stage cL_stage 8 (some .int) [(0, 16, 19, 13), (0, 16, 23, 15)]) rmL_stage K [.ref x, .int c9, .int z9, .int t9, .int k9, .int (kB full), .ref o] (wX K x ad σ us ++ [kJ K o 1 f]) (kHo K x o (oStage σ c9 z9 t9 k9 full)) (fun _ => False) := by
  refine kXH_of lkC_yL_stage (pl := []) (X := (wX K x ad σ us ++ [kJ K o 1 f])) (List.append_nil _).symm (by decide) (Nat.le_of_ble_eq_true rfl) ?_
  intro p e s m args below meth cd A Q hC hTb hE
  refine k_aload hC dL_stage_0 rfl ?_
  refine k_iconst hC (nI 0) dL_stage_2 rfl ?_
  refine k_aload_n hC 0 dL_stage_3 rfl rfl ?_
  refine k_iload_n hC 1 dL_stage_4 rfl rfl ?_
  refine k_iload_n hC 2 dL_stage_5 rfl rfl ?_
  refine k_iload_n hC 3 dL_stage_6 rfl rfl ?_
  refine k_iload hC dL_stage_7 rfl ?_
  refine k_iload hC dL_stage_9 rfl ?_
  refine k_callXC hC (As := [.int c9, .int z9, .int t9, .int k9, .int (kB full)]) (cX3_stage_k hst K x ad σ us hσ hU c9 z9 t9 k9 full) [kJ K o 1 f] rfl 0 rfl rfl (kAll5 lkM_L_7 lkI_yX3_stage lkS_yX3_stage lkN_X3 lkC_yX3_stage) 5 (by decide) ⟨(Nat.le_of_ble_eq_true rfl), (Nat.le_of_ble_eq_true rfl)⟩ rfl rfl (Nat.le_of_ble_eq_true rfl) ⟨(Nat.le_of_ble_eq_true rfl), (Nat.le_of_ble_eq_true rfl)⟩ dL_stage_11 (fun E q => ?_) (fun v w h => ?_)
  · rcases q with ⟨q1, rfl⟩ | ⟨q1, rfl⟩
    · refine ⟨by decide, [], _, _, hTb.trans rfl, (fun z hz => absurd hz List.not_mem_nil), rfl, by decide, lkL_L_13, fun q9 => ?_⟩
      refine k_re 14 101 ((wX K x ad σ us ++ [kJ K o 1 f])) [.ref q9] rfl rfl rfl rfl ?_
      refine k_astore hC dL_stage_19 (by decide) rfl [(0, .ref x), (1, .int c9), (2, .int z9), (3, .int t9), (4, .int k9), (5, .int (kB full)), (6, .ref o), (7, .ref q9)] rfl ?_
      refine k_iconst hC (nI 1) dL_stage_21 rfl ?_
      exact k_iret hC hE (Nat.le_of_ble_eq_true rfl) (Nat.le_of_ble_eq_true rfl) dL_stage_22 ⟨by rw [q1], ad, us, f, by rw [oStage_st _ c9 z9 t9 k9 full (by rw [q1]; decide)]; exact List.append_nil _, by rw [oStage_st _ c9 z9 t9 k9 full (by rw [q1]; decide)]; exact hU, fun z => absurd (z.symm.trans q1) (by decide)⟩
    · refine ⟨by decide, [_], _, _, hTb.trans rfl, (fun z hz => by rw [List.mem_singleton] at hz; subst hz; exact Or.inr ⟨by decide, _, lkL_L_13, by decide⟩), rfl, by decide, lkL_L_15, fun q9 => ?_⟩
      refine k_re 14 101 ((wX K x ad σ us ++ [kJ K o 1 f])) [.ref q9] rfl rfl rfl rfl ?_
      refine k_astore hC dL_stage_23 (by decide) rfl [(0, .ref x), (1, .int c9), (2, .int z9), (3, .int t9), (4, .int k9), (5, .int (kB full)), (6, .ref o), (7, .ref q9)] rfl ?_
      refine k_iconst hC (nI 2) dL_stage_25 rfl ?_
      exact k_iret hC hE (Nat.le_of_ble_eq_true rfl) (Nat.le_of_ble_eq_true rfl) dL_stage_26 ⟨by rw [q1], ad, us, f, by rw [oStage_st _ c9 z9 t9 k9 full (by rw [q1]; decide)]; exact List.append_nil _, by rw [oStage_st _ c9 z9 t9 k9 full (by rw [q1]; decide)]; exact hU, fun z => absurd (z.symm.trans q1) (by decide)⟩
  · obtain ⟨h0, rfl, ad2, us2, rfl, hU2⟩ := h
    refine k_re 14 101 ((wX K x ad2 (oStage σ c9 z9 t9 k9 full).2.2 us2 ++ [kJ K o 1 f])) [.int ((oStage σ c9 z9 t9 k9 full).2.1), .int (nI 0), .ref o] rfl rfl rfl rfl ?_
    refine k_i2l hC dL_stage_14 ?_
    refine k_perm2 [] ([kJ K o 1 f] ++ wX K x ad2 (oStage σ c9 z9 t9 k9 full).2.2 us2) (by rw [List.append_nil, List.append_nil]; exact List.perm_append_comm) ?_
    refine k_jast hC 0 rfl (by decide) (by decide) dL_stage_15 ([kJ K o 1 (vp_updL f 0 ((((oStage σ c9 z9 t9 k9 full).2.1)).toInt64))] ++ wX K x ad2 (oStage σ c9 z9 t9 k9 full).2.2 us2) rfl ?_
    refine k_perm2 [] (wX K x ad2 (oStage σ c9 z9 t9 k9 full).2.2 us2 ++ [kJ K o 1 (vp_updL f 0 ((((oStage σ c9 z9 t9 k9 full).2.1)).toInt64))]) (by rw [List.append_nil, List.append_nil]; exact List.perm_append_comm) ?_
    refine k_goto hC 27 dL_stage_16 (by decide) ?_
    refine k_iconst hC (nI 0) dL_stage_27 rfl ?_
    exact k_iret hC hE (Nat.le_of_ble_eq_true rfl) (Nat.le_of_ble_eq_true rfl) dL_stage_28 ⟨by rw [h0], ad2, us2, _, List.append_nil _, hU2, fun _ => if_pos rfl⟩
abbrev rmL_way : Room := { frames := 9, cells := 3, slots := 18, locals := 168 }
set_option maxRecDepth 100000 in
set_option maxHeartbeats 4000000 in
theorem cL_way_k {l : Launch} (hst : l.stackTraces = false) (K : kE) (x : Nat) (ad : Nat → Nat → Nat) (σ : mS) (us : Nat → Nat → Nat → Int32) (hσ : mSok σ) (hU : mURT σ us) (o : Nat) (f : Nat → Int64) (p9 v9 : Int32) : kX l yL_way (kwh yL_way cL_way 5 (some .int) [(0, 10, 13, 21), (0, 10, 17, 13)]) rmL_way K [.ref x, .int p9, .int v9, .ref o] (wX K x ad σ us ++ [kJ K o 1 f]) (kHo K x o (oWay σ p9 v9)) (fun _ => False) := by
  refine kXH_of lkC_yL_way (pl := []) (X := (wX K x ad σ us ++ [kJ K o 1 f])) (List.append_nil _).symm (by decide) (Nat.le_of_ble_eq_true rfl) ?_
  intro p e s m args below meth cd A Q hC hTb hE
  refine k_aload_n hC 3 dL_way_0 rfl rfl ?_
  refine k_iconst hC (nI 0) dL_way_1 rfl ?_
  refine k_aload_n hC 0 dL_way_2 rfl rfl ?_
  refine k_iload_n hC 1 dL_way_3 rfl rfl ?_
  refine k_iload_n hC 2 dL_way_4 rfl rfl ?_
  refine k_callXC hC (As := [.int p9, .int v9]) (cX3_way_k hst K x ad σ us hσ hU p9 v9) [kJ K o 1 f] rfl 0 rfl rfl (kAll5 lkM_L_17 lkI_yX3_way lkS_yX3_way lkN_X3 lkC_yX3_way) 2 (by decide) ⟨(Nat.le_of_ble_eq_true rfl), (Nat.le_of_ble_eq_true rfl)⟩ rfl rfl (Nat.le_of_ble_eq_true rfl) ⟨(Nat.le_of_ble_eq_true rfl), (Nat.le_of_ble_eq_true rfl)⟩ dL_way_5 (fun E q => ?_) (fun v w h => ?_)
  · rcases q with ⟨q1, rfl⟩ | ⟨q1, rfl⟩
    · refine ⟨by decide, [], _, _, hTb.trans rfl, (fun z hz => absurd hz List.not_mem_nil), rfl, by decide, lkL_L_21, fun q9 => ?_⟩
      refine k_re 3 18 ((wX K x ad σ us ++ [kJ K o 1 f])) [.ref q9] rfl rfl rfl rfl ?_
      refine k_astore hC dL_way_13 (by decide) rfl [(0, .ref x), (1, .int p9), (2, .int v9), (3, .ref o), (4, .ref q9)] rfl ?_
      refine k_iconst hC (nI 1) dL_way_15 rfl ?_
      exact k_iret hC hE (Nat.le_of_ble_eq_true rfl) (Nat.le_of_ble_eq_true rfl) dL_way_16 ⟨by rw [q1], ad, us, f, by rw [oWay_st _ p9 v9 (by rw [q1]; decide)]; exact List.append_nil _, by rw [oWay_st _ p9 v9 (by rw [q1]; decide)]; exact hU, fun z => absurd (z.symm.trans q1) (by decide)⟩
    · refine ⟨by decide, [_], _, _, hTb.trans rfl, (fun z hz => by rw [List.mem_singleton] at hz; subst hz; exact Or.inr ⟨by decide, _, lkL_L_21, by decide⟩), rfl, by decide, lkL_L_13, fun q9 => ?_⟩
      refine k_re 3 18 ((wX K x ad σ us ++ [kJ K o 1 f])) [.ref q9] rfl rfl rfl rfl ?_
      refine k_astore hC dL_way_17 (by decide) rfl [(0, .ref x), (1, .int p9), (2, .int v9), (3, .ref o), (4, .ref q9)] rfl ?_
      refine k_iconst hC (nI 2) dL_way_19 rfl ?_
      exact k_iret hC hE (Nat.le_of_ble_eq_true rfl) (Nat.le_of_ble_eq_true rfl) dL_way_20 ⟨by rw [q1], ad, us, f, by rw [oWay_st _ p9 v9 (by rw [q1]; decide)]; exact List.append_nil _, by rw [oWay_st _ p9 v9 (by rw [q1]; decide)]; exact hU, fun z => absurd (z.symm.trans q1) (by decide)⟩
  · obtain ⟨h0, rfl, ad2, us2, rfl, hU2⟩ := h
    refine k_re 3 18 ((wX K x ad2 (oWay σ p9 v9).2.2 us2 ++ [kJ K o 1 f])) [.int ((oWay σ p9 v9).2.1), .int (nI 0), .ref o] rfl rfl rfl rfl ?_
    refine k_i2l hC dL_way_8 ?_
    refine k_perm2 [] ([kJ K o 1 f] ++ wX K x ad2 (oWay σ p9 v9).2.2 us2) (by rw [List.append_nil, List.append_nil]; exact List.perm_append_comm) ?_
    refine k_jast hC 0 rfl (by decide) (by decide) dL_way_9 ([kJ K o 1 (vp_updL f 0 ((((oWay σ p9 v9).2.1)).toInt64))] ++ wX K x ad2 (oWay σ p9 v9).2.2 us2) rfl ?_
    refine k_perm2 [] (wX K x ad2 (oWay σ p9 v9).2.2 us2 ++ [kJ K o 1 (vp_updL f 0 ((((oWay σ p9 v9).2.1)).toInt64))]) (by rw [List.append_nil, List.append_nil]; exact List.perm_append_comm) ?_
    refine k_goto hC 21 dL_way_10 (by decide) ?_
    refine k_iconst hC (nI 0) dL_way_21 rfl ?_
    exact k_iret hC hE (Nat.le_of_ble_eq_true rfl) (Nat.le_of_ble_eq_true rfl) dL_way_22 ⟨by rw [h0], ad2, us2, _, List.append_nil _, hU2, fun _ => if_pos rfl⟩
abbrev rmL_mark : Room := { frames := 8, cells := 2, slots := 12, locals := 146 }
set_option maxRecDepth 100000 in
set_option maxHeartbeats 4000000 in
theorem cL_mark_k {l : Launch} (hst : l.stackTraces = false) (K : kE) (x : Nat) (ad : Nat → Nat → Nat) (σ : mS) (us : Nat → Nat → Nat → Int32) (hσ : mSok σ) (hU : mURT σ us) (o : Nat) (f : Nat → Int64) (p9 v9 : Int32) : kX l yL_mark (kwh yL_mark cL_mark 5 (some .int) [(0, 10, 13, 21), (0, 10, 17, 13)]) rmL_mark K [.ref x, .int p9, .int v9, .ref o] (wX K x ad σ us ++ [kJ K o 1 f]) (kHo K x o (oMark σ p9 v9)) (fun _ => False) := by
  refine kXH_of lkC_yL_mark (pl := []) (X := (wX K x ad σ us ++ [kJ K o 1 f])) (List.append_nil _).symm (by decide) (Nat.le_of_ble_eq_true rfl) ?_
  intro p e s m args below meth cd A Q hC hTb hE
  refine k_aload_n hC 3 dL_mark_0 rfl rfl ?_
  refine k_iconst hC (nI 0) dL_mark_1 rfl ?_
  refine k_aload_n hC 0 dL_mark_2 rfl rfl ?_
  refine k_iload_n hC 1 dL_mark_3 rfl rfl ?_
  refine k_iload_n hC 2 dL_mark_4 rfl rfl ?_
  refine k_callXC hC (As := [.int p9, .int v9]) (cX3_mark_k hst K x ad σ us hσ hU p9 v9) [kJ K o 1 f] rfl 0 rfl rfl (kAll5 lkM_L_23 lkI_yX3_mark lkS_yX3_mark lkN_X3 lkC_yX3_mark) 2 (by decide) ⟨(Nat.le_of_ble_eq_true rfl), (Nat.le_of_ble_eq_true rfl)⟩ rfl rfl (Nat.le_of_ble_eq_true rfl) ⟨(Nat.le_of_ble_eq_true rfl), (Nat.le_of_ble_eq_true rfl)⟩ dL_mark_5 (fun E q => ?_) (fun v w h => ?_)
  · rcases q with ⟨q1, rfl⟩ | ⟨q1, rfl⟩
    · refine ⟨by decide, [], _, _, hTb.trans rfl, (fun z hz => absurd hz List.not_mem_nil), rfl, by decide, lkL_L_21, fun q9 => ?_⟩
      refine k_re 2 12 ((wX K x ad σ us ++ [kJ K o 1 f])) [.ref q9] rfl rfl rfl rfl ?_
      refine k_astore hC dL_mark_13 (by decide) rfl [(0, .ref x), (1, .int p9), (2, .int v9), (3, .ref o), (4, .ref q9)] rfl ?_
      refine k_iconst hC (nI 1) dL_mark_15 rfl ?_
      exact k_iret hC hE (Nat.le_of_ble_eq_true rfl) (Nat.le_of_ble_eq_true rfl) dL_mark_16 ⟨by rw [q1], ad, us, f, by rw [oMark_st _ p9 v9 (by rw [q1]; decide)]; exact List.append_nil _, by rw [oMark_st _ p9 v9 (by rw [q1]; decide)]; exact hU, fun z => absurd (z.symm.trans q1) (by decide)⟩
    · refine ⟨by decide, [_], _, _, hTb.trans rfl, (fun z hz => by rw [List.mem_singleton] at hz; subst hz; exact Or.inr ⟨by decide, _, lkL_L_21, by decide⟩), rfl, by decide, lkL_L_13, fun q9 => ?_⟩
      refine k_re 2 12 ((wX K x ad σ us ++ [kJ K o 1 f])) [.ref q9] rfl rfl rfl rfl ?_
      refine k_astore hC dL_mark_17 (by decide) rfl [(0, .ref x), (1, .int p9), (2, .int v9), (3, .ref o), (4, .ref q9)] rfl ?_
      refine k_iconst hC (nI 2) dL_mark_19 rfl ?_
      exact k_iret hC hE (Nat.le_of_ble_eq_true rfl) (Nat.le_of_ble_eq_true rfl) dL_mark_20 ⟨by rw [q1], ad, us, f, by rw [oMark_st _ p9 v9 (by rw [q1]; decide)]; exact List.append_nil _, by rw [oMark_st _ p9 v9 (by rw [q1]; decide)]; exact hU, fun z => absurd (z.symm.trans q1) (by decide)⟩
  · obtain ⟨h0, rfl, ad2, us2, rfl, hU2⟩ := h
    refine k_re 2 12 ((wX K x ad2 (oMark σ p9 v9).2.2 us2 ++ [kJ K o 1 f])) [.int ((oMark σ p9 v9).2.1), .int (nI 0), .ref o] rfl rfl rfl rfl ?_
    refine k_i2l hC dL_mark_8 ?_
    refine k_perm2 [] ([kJ K o 1 f] ++ wX K x ad2 (oMark σ p9 v9).2.2 us2) (by rw [List.append_nil, List.append_nil]; exact List.perm_append_comm) ?_
    refine k_jast hC 0 rfl (by decide) (by decide) dL_mark_9 ([kJ K o 1 (vp_updL f 0 ((((oMark σ p9 v9).2.1)).toInt64))] ++ wX K x ad2 (oMark σ p9 v9).2.2 us2) rfl ?_
    refine k_perm2 [] (wX K x ad2 (oMark σ p9 v9).2.2 us2 ++ [kJ K o 1 (vp_updL f 0 ((((oMark σ p9 v9).2.1)).toInt64))]) (by rw [List.append_nil, List.append_nil]; exact List.perm_append_comm) ?_
    refine k_goto hC 21 dL_mark_10 (by decide) ?_
    refine k_iconst hC (nI 0) dL_mark_21 rfl ?_
    exact k_iret hC hE (Nat.le_of_ble_eq_true rfl) (Nat.le_of_ble_eq_true rfl) dL_mark_22 ⟨by rw [h0], ad2, us2, _, List.append_nil _, hU2, fun _ => if_pos rfl⟩
abbrev rmL_demand : Room := { frames := 8, cells := 1, slots := 6, locals := 144 }
set_option maxRecDepth 100000 in
set_option maxHeartbeats 4000000 in
theorem cL_demand_k {l : Launch} (hst : l.stackTraces = false) (K : kE) (x : Nat) (ad : Nat → Nat → Nat) (σ : mS) (us : Nat → Nat → Nat → Int32) (hσ : mSok σ) (hU : mURT σ us) (o : Nat) (f : Nat → Int64) (v9 : Int32) : kX l yL_demand (kwh yL_demand cL_demand 4 (some .int) [(0, 9, 12, 13)]) rmL_demand K [.ref x, .int v9, .ref o] (wX K x ad σ us ++ [kJ K o 1 f]) (kHo K x o (oDemand σ v9)) (fun _ => False) := by
  refine kXH_of lkC_yL_demand (pl := []) (X := (wX K x ad σ us ++ [kJ K o 1 f])) (List.append_nil _).symm (by decide) (Nat.le_of_ble_eq_true rfl) ?_
  intro p e s m args below meth cd A Q hC hTb hE
  refine k_aload_n hC 2 dL_demand_0 rfl rfl ?_
  refine k_iconst hC (nI 0) dL_demand_1 rfl ?_
  refine k_aload_n hC 0 dL_demand_2 rfl rfl ?_
  refine k_iload_n hC 1 dL_demand_3 rfl rfl ?_
  refine k_callXC hC (As := [.int v9]) (cX3_demand_k hst K x ad σ us hσ hU v9) [kJ K o 1 f] rfl 0 rfl rfl (kAll5 lkM_L_26 lkI_yX3_demand lkS_yX3_demand lkN_X3 lkC_yX3_demand) 1 (by decide) ⟨(Nat.le_of_ble_eq_true rfl), (Nat.le_of_ble_eq_true rfl)⟩ rfl rfl (Nat.le_of_ble_eq_true rfl) ⟨(Nat.le_of_ble_eq_true rfl), (Nat.le_of_ble_eq_true rfl)⟩ dL_demand_4 (fun E q => ?_) (fun v w h => ?_)
  · rcases q with ⟨q1, rfl⟩ | ⟨q1, rfl⟩
    · refine ⟨by decide, [], _, _, hTb.trans rfl, (fun z hz => absurd hz List.not_mem_nil), rfl, by decide, lkL_L_13, fun q9 => ?_⟩
      refine k_re 1 6 ((wX K x ad σ us ++ [kJ K o 1 f])) [.ref q9] rfl rfl rfl rfl ?_
      refine k_astore_n hC 3 dL_demand_12 rfl (by decide) rfl [(0, .ref x), (1, .int v9), (2, .ref o), (3, .ref q9)] rfl ?_
      refine k_iconst hC (nI 1) dL_demand_13 rfl ?_
      exact k_iret hC hE (Nat.le_of_ble_eq_true rfl) (Nat.le_of_ble_eq_true rfl) dL_demand_14 ⟨by rw [q1], ad, us, f, by rw [oDemand_st _ v9 (by rw [q1]; decide)]; exact List.append_nil _, by rw [oDemand_st _ v9 (by rw [q1]; decide)]; exact hU, fun z => absurd (z.symm.trans q1) (by decide)⟩
    · exact absurd q1 (fun z => oDemand_n2 _ v9 z)
  · obtain ⟨h0, rfl, ad2, us2, rfl, hU2⟩ := h
    refine k_re 1 6 ((wX K x ad2 (oDemand σ v9).2.2 us2 ++ [kJ K o 1 f])) [.int ((oDemand σ v9).2.1), .int (nI 0), .ref o] rfl rfl rfl rfl ?_
    refine k_i2l hC dL_demand_7 ?_
    refine k_perm2 [] ([kJ K o 1 f] ++ wX K x ad2 (oDemand σ v9).2.2 us2) (by rw [List.append_nil, List.append_nil]; exact List.perm_append_comm) ?_
    refine k_jast hC 0 rfl (by decide) (by decide) dL_demand_8 ([kJ K o 1 (vp_updL f 0 ((((oDemand σ v9).2.1)).toInt64))] ++ wX K x ad2 (oDemand σ v9).2.2 us2) rfl ?_
    refine k_perm2 [] (wX K x ad2 (oDemand σ v9).2.2 us2 ++ [kJ K o 1 (vp_updL f 0 ((((oDemand σ v9).2.1)).toInt64))]) (by rw [List.append_nil, List.append_nil]; exact List.perm_append_comm) ?_
    refine k_goto hC 15 dL_demand_9 (by decide) ?_
    refine k_iconst hC (nI 0) dL_demand_15 rfl ?_
    exact k_iret hC hE (Nat.le_of_ble_eq_true rfl) (Nat.le_of_ble_eq_true rfl) dL_demand_16 ⟨by rw [h0], ad2, us2, _, List.append_nil _, hU2, fun _ => if_pos rfl⟩
abbrev rmL_stop : Room := { frames := 8, cells := 1, slots := 6, locals := 144 }
set_option maxRecDepth 100000 in
set_option maxHeartbeats 4000000 in
theorem cL_stop_k {l : Launch} (hst : l.stackTraces = false) (K : kE) (x : Nat) (ad : Nat → Nat → Nat) (σ : mS) (us : Nat → Nat → Nat → Int32) (hσ : mSok σ) (hU : mURT σ us) (o : Nat) (f : Nat → Int64) (p9 : Int32) : kX l yL_stop (kwh yL_stop cL_stop 4 (some .int) [(0, 16, 19, 21)]) rmL_stop K [.ref x, .int p9, .ref o] (wX K x ad σ us ++ [kJ K o 1 f]) (kHo K x o (oStop σ p9)) (fun _ => False) := by
  refine kXH_of lkC_yL_stop (pl := []) (X := (wX K x ad σ us ++ [kJ K o 1 f])) (List.append_nil _).symm (by decide) (Nat.le_of_ble_eq_true rfl) ?_
  intro p e s m args below meth cd A Q hC hTb hE
  refine k_aload_n hC 2 dL_stop_0 rfl rfl ?_
  refine k_iconst hC (nI 0) dL_stop_1 rfl ?_
  refine k_aload_n hC 0 dL_stop_2 rfl rfl ?_
  refine k_iload_n hC 1 dL_stop_3 rfl rfl ?_
  refine k_callXC hC (As := [.int p9]) (cX3_stop_k hst K x ad σ us hσ hU p9) [kJ K o 1 f] rfl 0 rfl rfl (kAll5 lkM_L_30 lkI_yX3_stop lkS_yX3_stop lkN_X3 lkC_yX3_stop) 1 (by decide) ⟨(Nat.le_of_ble_eq_true rfl), (Nat.le_of_ble_eq_true rfl)⟩ rfl rfl (Nat.le_of_ble_eq_true rfl) ⟨(Nat.le_of_ble_eq_true rfl), (Nat.le_of_ble_eq_true rfl)⟩ dL_stop_4 (fun E q => ?_) (fun v w h => ?_)
  · rcases q with ⟨q1, rfl⟩ | ⟨q1, rfl⟩
    · refine ⟨by decide, [], _, _, hTb.trans rfl, (fun z hz => absurd hz List.not_mem_nil), rfl, by decide, lkL_L_21, fun q9 => ?_⟩
      refine k_re 1 6 ((wX K x ad σ us ++ [kJ K o 1 f])) [.ref q9] rfl rfl rfl rfl ?_
      refine k_astore_n hC 3 dL_stop_19 rfl (by decide) rfl [(0, .ref x), (1, .int p9), (2, .ref o), (3, .ref q9)] rfl ?_
      refine k_iconst hC (nI 1) dL_stop_20 rfl ?_
      exact k_iret hC hE (Nat.le_of_ble_eq_true rfl) (Nat.le_of_ble_eq_true rfl) dL_stop_21 ⟨by rw [q1], ad, us, f, by rw [oStop_st _ p9 (by rw [q1]; decide)]; exact List.append_nil _, by rw [oStop_st _ p9 (by rw [q1]; decide)]; exact hU, fun z => absurd (z.symm.trans q1) (by decide)⟩
    · exact absurd q1 (fun z => oStop_n2 _ p9 z)
  · obtain ⟨h0, rfl, ad2, us2, rfl, hU2⟩ := h
    refine k_re 1 6 ((wX K x ad2 (oStop σ p9).2.2 us2 ++ [kJ K o 1 f])) [.int ((oStop σ p9).2.1), .int (nI 0), .ref o] rfl rfl rfl rfl ?_
    refine k_if_eq hC 14 dL_stop_7 (by decide) (fun c1 => ?_) (fun c1 => ?_)
    · refine k_lconst hC (Int64.ofNat 0) dL_stop_14 rfl ?_
      refine k_perm2 [] ([kJ K o 1 f] ++ wX K x ad2 (oStop σ p9).2.2 us2) (by rw [List.append_nil, List.append_nil]; exact List.perm_append_comm) ?_
      refine k_jast hC 0 rfl (by decide) (by decide) dL_stop_15 ([kJ K o 1 (vp_updL f 0 (Int64.ofNat 0))] ++ wX K x ad2 (oStop σ p9).2.2 us2) rfl ?_
      refine k_perm2 [] (wX K x ad2 (oStop σ p9).2.2 us2 ++ [kJ K o 1 (vp_updL f 0 (Int64.ofNat 0))]) (by rw [List.append_nil, List.append_nil]; exact List.perm_append_comm) ?_
      refine k_goto hC 22 dL_stop_16 (by decide) ?_
      refine k_iconst hC (nI 0) dL_stop_22 rfl ?_
      exact k_iret hC hE (Nat.le_of_ble_eq_true rfl) (Nat.le_of_ble_eq_true rfl) dL_stop_23 ⟨by rw [h0], ad2, us2, _, List.append_nil _, hU2, fun _ => by rw [c1]; exact if_pos rfl⟩
    · refine k_lconst hC (Int64.ofNat 1) dL_stop_10 rfl ?_
      refine k_goto hC 15 dL_stop_11 (by decide) ?_
      refine k_perm2 [] ([kJ K o 1 f] ++ wX K x ad2 (oStop σ p9).2.2 us2) (by rw [List.append_nil, List.append_nil]; exact List.perm_append_comm) ?_
      refine k_jast hC 0 rfl (by decide) (by decide) dL_stop_15 ([kJ K o 1 (vp_updL f 0 (Int64.ofNat 1))] ++ wX K x ad2 (oStop σ p9).2.2 us2) rfl ?_
      refine k_perm2 [] (wX K x ad2 (oStop σ p9).2.2 us2 ++ [kJ K o 1 (vp_updL f 0 (Int64.ofNat 1))]) (by rw [List.append_nil, List.append_nil]; exact List.perm_append_comm) ?_
      refine k_goto hC 22 dL_stop_16 (by decide) ?_
      refine k_iconst hC (nI 0) dL_stop_22 rfl ?_
      exact k_iret hC hE (Nat.le_of_ble_eq_true rfl) (Nat.le_of_ble_eq_true rfl) dL_stop_23 ⟨by rw [h0], ad2, us2, _, List.append_nil _, hU2, fun _ => by
        rcases oStop_01 σ p9 h0 with e | e
        · exact absurd e c1
        · rw [e]; exact if_pos rfl⟩
abbrev rmL_issue : Room := { frames := 8, cells := 2, slots := 12, locals := 144 }
set_option maxRecDepth 100000 in
set_option maxHeartbeats 4000000 in
theorem cL_issue_k {l : Launch} (hst : l.stackTraces = false) (K : kE) (x : Nat) (ad : Nat → Nat → Nat) (σ : mS) (us : Nat → Nat → Nat → Int32) (hσ : mSok σ) (hU : mURT σ us) (o : Nat) (f : Nat → Int64) (p9 : Int32) : kX l yL_issue (kwh yL_issue cL_issue 4 (some .int) [(0, 9, 12, 21), (0, 9, 15, 15)]) rmL_issue K [.ref x, .int p9, .ref o] (wX K x ad σ us ++ [kJ K o 1 f]) (kHo K x o (oIssue σ p9)) (fun _ => False) := by
  refine kXH_of lkC_yL_issue (pl := []) (X := (wX K x ad σ us ++ [kJ K o 1 f])) (List.append_nil _).symm (by decide) (Nat.le_of_ble_eq_true rfl) ?_
  intro p e s m args below meth cd A Q hC hTb hE
  refine k_aload_n hC 2 dL_issue_0 rfl rfl ?_
  refine k_iconst hC (nI 0) dL_issue_1 rfl ?_
  refine k_aload_n hC 0 dL_issue_2 rfl rfl ?_
  refine k_iload_n hC 1 dL_issue_3 rfl rfl ?_
  refine k_callXC hC (As := [.int p9]) (cX3_issue_k hst K x ad σ us hσ hU p9) [kJ K o 1 f] rfl 0 rfl rfl (kAll5 lkM_L_34 lkI_yX3_issue lkS_yX3_issue lkN_X3 lkC_yX3_issue) 1 (by decide) ⟨(Nat.le_of_ble_eq_true rfl), (Nat.le_of_ble_eq_true rfl)⟩ rfl rfl (Nat.le_of_ble_eq_true rfl) ⟨(Nat.le_of_ble_eq_true rfl), (Nat.le_of_ble_eq_true rfl)⟩ dL_issue_4 (fun E q => ?_) (fun v w h => ?_)
  · rcases q with ⟨q1, rfl⟩ | ⟨q1, rfl⟩
    · refine ⟨by decide, [], _, _, hTb.trans rfl, (fun z hz => absurd hz List.not_mem_nil), rfl, by decide, lkL_L_21, fun q9 => ?_⟩
      refine k_re 2 12 ((wX K x ad σ us ++ [kJ K o 1 f])) [.ref q9] rfl rfl rfl rfl ?_
      refine k_astore_n hC 3 dL_issue_12 rfl (by decide) rfl [(0, .ref x), (1, .int p9), (2, .ref o), (3, .ref q9)] rfl ?_
      refine k_iconst hC (nI 1) dL_issue_13 rfl ?_
      exact k_iret hC hE (Nat.le_of_ble_eq_true rfl) (Nat.le_of_ble_eq_true rfl) dL_issue_14 ⟨by rw [q1], ad, us, f, by rw [oIssue_st _ p9 (by rw [q1]; decide)]; exact List.append_nil _, by rw [oIssue_st _ p9 (by rw [q1]; decide)]; exact hU, fun z => absurd (z.symm.trans q1) (by decide)⟩
    · refine ⟨by decide, [_], _, _, hTb.trans rfl, (fun z hz => by rw [List.mem_singleton] at hz; subst hz; exact Or.inr ⟨by decide, _, lkL_L_21, by decide⟩), rfl, by decide, lkL_L_15, fun q9 => ?_⟩
      refine k_re 2 12 ((wX K x ad σ us ++ [kJ K o 1 f])) [.ref q9] rfl rfl rfl rfl ?_
      refine k_astore_n hC 3 dL_issue_15 rfl (by decide) rfl [(0, .ref x), (1, .int p9), (2, .ref o), (3, .ref q9)] rfl ?_
      refine k_iconst hC (nI 2) dL_issue_16 rfl ?_
      exact k_iret hC hE (Nat.le_of_ble_eq_true rfl) (Nat.le_of_ble_eq_true rfl) dL_issue_17 ⟨by rw [q1], ad, us, f, by rw [oIssue_st _ p9 (by rw [q1]; decide)]; exact List.append_nil _, by rw [oIssue_st _ p9 (by rw [q1]; decide)]; exact hU, fun z => absurd (z.symm.trans q1) (by decide)⟩
  · obtain ⟨h0, rfl, ad2, us2, rfl, hU2⟩ := h
    refine k_re 2 12 ((wX K x ad2 (oIssue σ p9).2.2 us2 ++ [kJ K o 1 f])) [.int ((oIssue σ p9).2.1), .int (nI 0), .ref o] rfl rfl rfl rfl ?_
    refine k_i2l hC dL_issue_7 ?_
    refine k_perm2 [] ([kJ K o 1 f] ++ wX K x ad2 (oIssue σ p9).2.2 us2) (by rw [List.append_nil, List.append_nil]; exact List.perm_append_comm) ?_
    refine k_jast hC 0 rfl (by decide) (by decide) dL_issue_8 ([kJ K o 1 (vp_updL f 0 ((((oIssue σ p9).2.1)).toInt64))] ++ wX K x ad2 (oIssue σ p9).2.2 us2) rfl ?_
    refine k_perm2 [] (wX K x ad2 (oIssue σ p9).2.2 us2 ++ [kJ K o 1 (vp_updL f 0 ((((oIssue σ p9).2.1)).toInt64))]) (by rw [List.append_nil, List.append_nil]; exact List.perm_append_comm) ?_
    refine k_goto hC 18 dL_issue_9 (by decide) ?_
    refine k_iconst hC (nI 0) dL_issue_18 rfl ?_
    exact k_iret hC hE (Nat.le_of_ble_eq_true rfl) (Nat.le_of_ble_eq_true rfl) dL_issue_19 ⟨by rw [h0], ad2, us2, _, List.append_nil _, hU2, fun _ => if_pos rfl⟩
abbrev rmL_retire : Room := { frames := 8, cells := 2, slots := 12, locals := 144 }
set_option maxRecDepth 100000 in
set_option maxHeartbeats 4000000 in
theorem cL_retire_k {l : Launch} (hst : l.stackTraces = false) (K : kE) (x : Nat) (ad : Nat → Nat → Nat) (σ : mS) (us : Nat → Nat → Nat → Int32) (hσ : mSok σ) (hU : mURT σ us) (o : Nat) (f : Nat → Int64) (p9 : Int32) : kX l yL_retire (kwh yL_retire cL_retire 4 (some .int) [(0, 9, 12, 21), (0, 9, 15, 15)]) rmL_retire K [.ref x, .int p9, .ref o] (wX K x ad σ us ++ [kJ K o 1 f]) (kHo K x o (oRetire σ p9)) (fun _ => False) := by
  refine kXH_of lkC_yL_retire (pl := []) (X := (wX K x ad σ us ++ [kJ K o 1 f])) (List.append_nil _).symm (by decide) (Nat.le_of_ble_eq_true rfl) ?_
  intro p e s m args below meth cd A Q hC hTb hE
  refine k_aload_n hC 2 dL_retire_0 rfl rfl ?_
  refine k_iconst hC (nI 0) dL_retire_1 rfl ?_
  refine k_aload_n hC 0 dL_retire_2 rfl rfl ?_
  refine k_iload_n hC 1 dL_retire_3 rfl rfl ?_
  refine k_callXC hC (As := [.int p9]) (cX3_retire_k hst K x ad σ us hσ hU p9) [kJ K o 1 f] rfl 0 rfl rfl (kAll5 lkM_L_37 lkI_yX3_retire lkS_yX3_retire lkN_X3 lkC_yX3_retire) 1 (by decide) ⟨(Nat.le_of_ble_eq_true rfl), (Nat.le_of_ble_eq_true rfl)⟩ rfl rfl (Nat.le_of_ble_eq_true rfl) ⟨(Nat.le_of_ble_eq_true rfl), (Nat.le_of_ble_eq_true rfl)⟩ dL_retire_4 (fun E q => ?_) (fun v w h => ?_)
  · rcases q with ⟨q1, rfl⟩ | ⟨q1, rfl⟩
    · refine ⟨by decide, [], _, _, hTb.trans rfl, (fun z hz => absurd hz List.not_mem_nil), rfl, by decide, lkL_L_21, fun q9 => ?_⟩
      refine k_re 2 12 ((wX K x ad σ us ++ [kJ K o 1 f])) [.ref q9] rfl rfl rfl rfl ?_
      refine k_astore_n hC 3 dL_retire_12 rfl (by decide) rfl [(0, .ref x), (1, .int p9), (2, .ref o), (3, .ref q9)] rfl ?_
      refine k_iconst hC (nI 1) dL_retire_13 rfl ?_
      exact k_iret hC hE (Nat.le_of_ble_eq_true rfl) (Nat.le_of_ble_eq_true rfl) dL_retire_14 ⟨by rw [q1], ad, us, f, by rw [oRetire_st _ p9 (by rw [q1]; decide)]; exact List.append_nil _, by rw [oRetire_st _ p9 (by rw [q1]; decide)]; exact hU, fun z => absurd (z.symm.trans q1) (by decide)⟩
    · refine ⟨by decide, [_], _, _, hTb.trans rfl, (fun z hz => by rw [List.mem_singleton] at hz; subst hz; exact Or.inr ⟨by decide, _, lkL_L_21, by decide⟩), rfl, by decide, lkL_L_15, fun q9 => ?_⟩
      refine k_re 2 12 ((wX K x ad σ us ++ [kJ K o 1 f])) [.ref q9] rfl rfl rfl rfl ?_
      refine k_astore_n hC 3 dL_retire_15 rfl (by decide) rfl [(0, .ref x), (1, .int p9), (2, .ref o), (3, .ref q9)] rfl ?_
      refine k_iconst hC (nI 2) dL_retire_16 rfl ?_
      exact k_iret hC hE (Nat.le_of_ble_eq_true rfl) (Nat.le_of_ble_eq_true rfl) dL_retire_17 ⟨by rw [q1], ad, us, f, by rw [oRetire_st _ p9 (by rw [q1]; decide)]; exact List.append_nil _, by rw [oRetire_st _ p9 (by rw [q1]; decide)]; exact hU, fun z => absurd (z.symm.trans q1) (by decide)⟩
  · obtain ⟨h0, rfl, ad2, us2, rfl, hU2⟩ := h
    refine k_re 2 12 ((wX K x ad2 (oRetire σ p9).2.2 us2 ++ [kJ K o 1 f])) [.int ((oRetire σ p9).2.1), .int (nI 0), .ref o] rfl rfl rfl rfl ?_
    refine k_i2l hC dL_retire_7 ?_
    refine k_perm2 [] ([kJ K o 1 f] ++ wX K x ad2 (oRetire σ p9).2.2 us2) (by rw [List.append_nil, List.append_nil]; exact List.perm_append_comm) ?_
    refine k_jast hC 0 rfl (by decide) (by decide) dL_retire_8 ([kJ K o 1 (vp_updL f 0 ((((oRetire σ p9).2.1)).toInt64))] ++ wX K x ad2 (oRetire σ p9).2.2 us2) rfl ?_
    refine k_perm2 [] (wX K x ad2 (oRetire σ p9).2.2 us2 ++ [kJ K o 1 (vp_updL f 0 ((((oRetire σ p9).2.1)).toInt64))]) (by rw [List.append_nil, List.append_nil]; exact List.perm_append_comm) ?_
    refine k_goto hC 18 dL_retire_9 (by decide) ?_
    refine k_iconst hC (nI 0) dL_retire_18 rfl ?_
    exact k_iret hC hE (Nat.le_of_ble_eq_true rfl) (Nat.le_of_ble_eq_true rfl) dL_retire_19 ⟨by rw [h0], ad2, us2, _, List.append_nil _, hU2, fun _ => if_pos rfl⟩
abbrev rmL_issueConveyance : Room := { frames := 9, cells := 3, slots := 18, locals := 166 }
set_option maxRecDepth 100000 in
set_option maxHeartbeats 4000000 in
theorem cL_issueConveyance_k {l : Launch} (hst : l.stackTraces = false) (K : kE) (x : Nat) (ad : Nat → Nat → Nat) (σ : mS) (us : Nat → Nat → Nat → Int32) (hσ : mSok σ) (hU : mURT σ us) (o : Nat) (f : Nat → Int64) (p9 : Int32) : kX l yL_issueConveyance (kwh yL_issueConveyance cL_issueConveyance 4 (some .int) [(0, 9, 12, 21), (0, 9, 15, 15)]) rmL_issueConveyance K [.ref x, .int p9, .ref o] (wX K x ad σ us ++ [kJ K o 1 f]) (kHo K x o (oIssueC σ p9)) (fun _ => False) := by
  refine kXH_of lkC_yL_issueConveyance (pl := []) (X := (wX K x ad σ us ++ [kJ K o 1 f])) (List.append_nil _).symm (by decide) (Nat.le_of_ble_eq_true rfl) ?_
  intro p e s m args below meth cd A Q hC hTb hE
  refine k_aload_n hC 2 dL_issueConveyance_0 rfl rfl ?_
  refine k_iconst hC (nI 0) dL_issueConveyance_1 rfl ?_
  refine k_aload_n hC 0 dL_issueConveyance_2 rfl rfl ?_
  refine k_iload_n hC 1 dL_issueConveyance_3 rfl rfl ?_
  refine k_callXC hC (As := [.int p9]) (cX3_issueConveyance_k hst K x ad σ us hσ hU p9) [kJ K o 1 f] rfl 0 rfl rfl (kAll5 lkM_L_40 lkI_yX3_issueConveyance lkS_yX3_issueConveyance lkN_X3 lkC_yX3_issueConveyance) 1 (by decide) ⟨(Nat.le_of_ble_eq_true rfl), (Nat.le_of_ble_eq_true rfl)⟩ rfl rfl (Nat.le_of_ble_eq_true rfl) ⟨(Nat.le_of_ble_eq_true rfl), (Nat.le_of_ble_eq_true rfl)⟩ dL_issueConveyance_4 (fun E q => ?_) (fun v w h => ?_)
  · rcases q with ⟨q1, rfl⟩ | ⟨q1, rfl⟩
    · refine ⟨by decide, [], _, _, hTb.trans rfl, (fun z hz => absurd hz List.not_mem_nil), rfl, by decide, lkL_L_21, fun q9 => ?_⟩
      refine k_re 3 18 ((wX K x ad σ us ++ [kJ K o 1 f])) [.ref q9] rfl rfl rfl rfl ?_
      refine k_astore_n hC 3 dL_issueConveyance_12 rfl (by decide) rfl [(0, .ref x), (1, .int p9), (2, .ref o), (3, .ref q9)] rfl ?_
      refine k_iconst hC (nI 1) dL_issueConveyance_13 rfl ?_
      exact k_iret hC hE (Nat.le_of_ble_eq_true rfl) (Nat.le_of_ble_eq_true rfl) dL_issueConveyance_14 ⟨by rw [q1], ad, us, f, by rw [oIssueC_st _ p9 (by rw [q1]; decide)]; exact List.append_nil _, by rw [oIssueC_st _ p9 (by rw [q1]; decide)]; exact hU, fun z => absurd (z.symm.trans q1) (by decide)⟩
    · refine ⟨by decide, [_], _, _, hTb.trans rfl, (fun z hz => by rw [List.mem_singleton] at hz; subst hz; exact Or.inr ⟨by decide, _, lkL_L_21, by decide⟩), rfl, by decide, lkL_L_15, fun q9 => ?_⟩
      refine k_re 3 18 ((wX K x ad σ us ++ [kJ K o 1 f])) [.ref q9] rfl rfl rfl rfl ?_
      refine k_astore_n hC 3 dL_issueConveyance_15 rfl (by decide) rfl [(0, .ref x), (1, .int p9), (2, .ref o), (3, .ref q9)] rfl ?_
      refine k_iconst hC (nI 2) dL_issueConveyance_16 rfl ?_
      exact k_iret hC hE (Nat.le_of_ble_eq_true rfl) (Nat.le_of_ble_eq_true rfl) dL_issueConveyance_17 ⟨by rw [q1], ad, us, f, by rw [oIssueC_st _ p9 (by rw [q1]; decide)]; exact List.append_nil _, by rw [oIssueC_st _ p9 (by rw [q1]; decide)]; exact hU, fun z => absurd (z.symm.trans q1) (by decide)⟩
  · obtain ⟨h0, rfl, ad2, us2, rfl, hU2⟩ := h
    refine k_re 3 18 ((wX K x ad2 (oIssueC σ p9).2.2 us2 ++ [kJ K o 1 f])) [.int ((oIssueC σ p9).2.1), .int (nI 0), .ref o] rfl rfl rfl rfl ?_
    refine k_i2l hC dL_issueConveyance_7 ?_
    refine k_perm2 [] ([kJ K o 1 f] ++ wX K x ad2 (oIssueC σ p9).2.2 us2) (by rw [List.append_nil, List.append_nil]; exact List.perm_append_comm) ?_
    refine k_jast hC 0 rfl (by decide) (by decide) dL_issueConveyance_8 ([kJ K o 1 (vp_updL f 0 ((((oIssueC σ p9).2.1)).toInt64))] ++ wX K x ad2 (oIssueC σ p9).2.2 us2) rfl ?_
    refine k_perm2 [] (wX K x ad2 (oIssueC σ p9).2.2 us2 ++ [kJ K o 1 (vp_updL f 0 ((((oIssueC σ p9).2.1)).toInt64))]) (by rw [List.append_nil, List.append_nil]; exact List.perm_append_comm) ?_
    refine k_goto hC 18 dL_issueConveyance_9 (by decide) ?_
    refine k_iconst hC (nI 0) dL_issueConveyance_18 rfl ?_
    exact k_iret hC hE (Nat.le_of_ble_eq_true rfl) (Nat.le_of_ble_eq_true rfl) dL_issueConveyance_19 ⟨by rw [h0], ad2, us2, _, List.append_nil _, hU2, fun _ => if_pos rfl⟩
abbrev rmL_retireConveyance : Room := { frames := 9, cells := 3, slots := 18, locals := 166 }
set_option maxRecDepth 100000 in
set_option maxHeartbeats 4000000 in
theorem cL_retireConveyance_k {l : Launch} (hst : l.stackTraces = false) (K : kE) (x : Nat) (ad : Nat → Nat → Nat) (σ : mS) (us : Nat → Nat → Nat → Int32) (hσ : mSok σ) (hU : mURT σ us) (o : Nat) (f : Nat → Int64) (p9 : Int32) : kX l yL_retireConveyance (kwh yL_retireConveyance cL_retireConveyance 4 (some .int) [(0, 9, 12, 21), (0, 9, 15, 15)]) rmL_retireConveyance K [.ref x, .int p9, .ref o] (wX K x ad σ us ++ [kJ K o 1 f]) (kHo K x o (oRetireC σ p9)) (fun _ => False) := by
  refine kXH_of lkC_yL_retireConveyance (pl := []) (X := (wX K x ad σ us ++ [kJ K o 1 f])) (List.append_nil _).symm (by decide) (Nat.le_of_ble_eq_true rfl) ?_
  intro p e s m args below meth cd A Q hC hTb hE
  refine k_aload_n hC 2 dL_retireConveyance_0 rfl rfl ?_
  refine k_iconst hC (nI 0) dL_retireConveyance_1 rfl ?_
  refine k_aload_n hC 0 dL_retireConveyance_2 rfl rfl ?_
  refine k_iload_n hC 1 dL_retireConveyance_3 rfl rfl ?_
  refine k_callXC hC (As := [.int p9]) (cX3_retireConveyance_k hst K x ad σ us hσ hU p9) [kJ K o 1 f] rfl 0 rfl rfl (kAll5 lkM_L_43 lkI_yX3_retireConveyance lkS_yX3_retireConveyance lkN_X3 lkC_yX3_retireConveyance) 1 (by decide) ⟨(Nat.le_of_ble_eq_true rfl), (Nat.le_of_ble_eq_true rfl)⟩ rfl rfl (Nat.le_of_ble_eq_true rfl) ⟨(Nat.le_of_ble_eq_true rfl), (Nat.le_of_ble_eq_true rfl)⟩ dL_retireConveyance_4 (fun E q => ?_) (fun v w h => ?_)
  · rcases q with ⟨q1, rfl⟩ | ⟨q1, rfl⟩
    · refine ⟨by decide, [], _, _, hTb.trans rfl, (fun z hz => absurd hz List.not_mem_nil), rfl, by decide, lkL_L_21, fun q9 => ?_⟩
      refine k_re 3 18 ((wX K x ad σ us ++ [kJ K o 1 f])) [.ref q9] rfl rfl rfl rfl ?_
      refine k_astore_n hC 3 dL_retireConveyance_12 rfl (by decide) rfl [(0, .ref x), (1, .int p9), (2, .ref o), (3, .ref q9)] rfl ?_
      refine k_iconst hC (nI 1) dL_retireConveyance_13 rfl ?_
      exact k_iret hC hE (Nat.le_of_ble_eq_true rfl) (Nat.le_of_ble_eq_true rfl) dL_retireConveyance_14 ⟨by rw [q1], ad, us, f, by rw [oRetireC_st _ p9 (by rw [q1]; decide)]; exact List.append_nil _, by rw [oRetireC_st _ p9 (by rw [q1]; decide)]; exact hU, fun z => absurd (z.symm.trans q1) (by decide)⟩
    · refine ⟨by decide, [_], _, _, hTb.trans rfl, (fun z hz => by rw [List.mem_singleton] at hz; subst hz; exact Or.inr ⟨by decide, _, lkL_L_21, by decide⟩), rfl, by decide, lkL_L_15, fun q9 => ?_⟩
      refine k_re 3 18 ((wX K x ad σ us ++ [kJ K o 1 f])) [.ref q9] rfl rfl rfl rfl ?_
      refine k_astore_n hC 3 dL_retireConveyance_15 rfl (by decide) rfl [(0, .ref x), (1, .int p9), (2, .ref o), (3, .ref q9)] rfl ?_
      refine k_iconst hC (nI 2) dL_retireConveyance_16 rfl ?_
      exact k_iret hC hE (Nat.le_of_ble_eq_true rfl) (Nat.le_of_ble_eq_true rfl) dL_retireConveyance_17 ⟨by rw [q1], ad, us, f, by rw [oRetireC_st _ p9 (by rw [q1]; decide)]; exact List.append_nil _, by rw [oRetireC_st _ p9 (by rw [q1]; decide)]; exact hU, fun z => absurd (z.symm.trans q1) (by decide)⟩
  · obtain ⟨h0, rfl, ad2, us2, rfl, hU2⟩ := h
    refine k_re 3 18 ((wX K x ad2 (oRetireC σ p9).2.2 us2 ++ [kJ K o 1 f])) [.int ((oRetireC σ p9).2.1), .int (nI 0), .ref o] rfl rfl rfl rfl ?_
    refine k_i2l hC dL_retireConveyance_7 ?_
    refine k_perm2 [] ([kJ K o 1 f] ++ wX K x ad2 (oRetireC σ p9).2.2 us2) (by rw [List.append_nil, List.append_nil]; exact List.perm_append_comm) ?_
    refine k_jast hC 0 rfl (by decide) (by decide) dL_retireConveyance_8 ([kJ K o 1 (vp_updL f 0 ((((oRetireC σ p9).2.1)).toInt64))] ++ wX K x ad2 (oRetireC σ p9).2.2 us2) rfl ?_
    refine k_perm2 [] (wX K x ad2 (oRetireC σ p9).2.2 us2 ++ [kJ K o 1 (vp_updL f 0 ((((oRetireC σ p9).2.1)).toInt64))]) (by rw [List.append_nil, List.append_nil]; exact List.perm_append_comm) ?_
    refine k_goto hC 18 dL_retireConveyance_9 (by decide) ?_
    refine k_iconst hC (nI 0) dL_retireConveyance_18 rfl ?_
    exact k_iret hC hE (Nat.le_of_ble_eq_true rfl) (Nat.le_of_ble_eq_true rfl) dL_retireConveyance_19 ⟨by rw [h0], ad2, us2, _, List.append_nil _, hU2, fun _ => if_pos rfl⟩
abbrev rmL_needed : Room := { frames := 8, cells := 2, slots := 12, locals := 149 }
set_option maxRecDepth 100000 in
set_option maxHeartbeats 4000000 in
theorem cL_needed_k {l : Launch} (hst : l.stackTraces = false) (K : kE) (x : Nat) (ad : Nat → Nat → Nat) (σ : mS) (us : Nat → Nat → Nat → Int32) (hσ : mSok σ) (hU : mURT σ us) (o : Nat) (f : Nat → Int64) (p9 v9 : Int32) : kX l yL_needed (kwh yL_needed cL_needed 5 (some .int) [(0, 10, 13, 21), (0, 10, 17, 13)]) rmL_needed K [.ref x, .int p9, .int v9, .ref o] (wX K x ad σ us ++ [kJ K o 1 f]) (kHo K x o (oNeeded σ p9 v9)) (fun _ => False) := by
  refine kXH_of lkC_yL_needed (pl := []) (X := (wX K x ad σ us ++ [kJ K o 1 f])) (List.append_nil _).symm (by decide) (Nat.le_of_ble_eq_true rfl) ?_
  intro p e s m args below meth cd A Q hC hTb hE
  refine k_aload_n hC 3 dL_needed_0 rfl rfl ?_
  refine k_iconst hC (nI 0) dL_needed_1 rfl ?_
  refine k_aload_n hC 0 dL_needed_2 rfl rfl ?_
  refine k_iload_n hC 1 dL_needed_3 rfl rfl ?_
  refine k_iload_n hC 2 dL_needed_4 rfl rfl ?_
  refine k_callXC hC (As := [.int p9, .int v9]) (cX3_needed_k hst K x ad σ us hσ hU p9 v9) [kJ K o 1 f] rfl 0 rfl rfl (kAll5 lkM_L_46 lkI_yX3_needed lkS_yX3_needed lkN_X3 lkC_yX3_needed) 2 (by decide) ⟨(Nat.le_of_ble_eq_true rfl), (Nat.le_of_ble_eq_true rfl)⟩ rfl rfl (Nat.le_of_ble_eq_true rfl) ⟨(Nat.le_of_ble_eq_true rfl), (Nat.le_of_ble_eq_true rfl)⟩ dL_needed_5 (fun E q => ?_) (fun v w h => ?_)
  · rcases q with ⟨q1, rfl⟩ | ⟨q1, rfl⟩
    · refine ⟨by decide, [], _, _, hTb.trans rfl, (fun z hz => absurd hz List.not_mem_nil), rfl, by decide, lkL_L_21, fun q9 => ?_⟩
      refine k_re 2 12 ((wX K x ad σ us ++ [kJ K o 1 f])) [.ref q9] rfl rfl rfl rfl ?_
      refine k_astore hC dL_needed_13 (by decide) rfl [(0, .ref x), (1, .int p9), (2, .int v9), (3, .ref o), (4, .ref q9)] rfl ?_
      refine k_iconst hC (nI 1) dL_needed_15 rfl ?_
      exact k_iret hC hE (Nat.le_of_ble_eq_true rfl) (Nat.le_of_ble_eq_true rfl) dL_needed_16 ⟨by rw [q1], ad, us, f, by rw [oNeeded_st _ p9 v9 (by rw [q1]; decide)]; exact List.append_nil _, by rw [oNeeded_st _ p9 v9 (by rw [q1]; decide)]; exact hU, fun z => absurd (z.symm.trans q1) (by decide)⟩
    · refine ⟨by decide, [_], _, _, hTb.trans rfl, (fun z hz => by rw [List.mem_singleton] at hz; subst hz; exact Or.inr ⟨by decide, _, lkL_L_21, by decide⟩), rfl, by decide, lkL_L_13, fun q9 => ?_⟩
      refine k_re 2 12 ((wX K x ad σ us ++ [kJ K o 1 f])) [.ref q9] rfl rfl rfl rfl ?_
      refine k_astore hC dL_needed_17 (by decide) rfl [(0, .ref x), (1, .int p9), (2, .int v9), (3, .ref o), (4, .ref q9)] rfl ?_
      refine k_iconst hC (nI 2) dL_needed_19 rfl ?_
      exact k_iret hC hE (Nat.le_of_ble_eq_true rfl) (Nat.le_of_ble_eq_true rfl) dL_needed_20 ⟨by rw [q1], ad, us, f, by rw [oNeeded_st _ p9 v9 (by rw [q1]; decide)]; exact List.append_nil _, by rw [oNeeded_st _ p9 v9 (by rw [q1]; decide)]; exact hU, fun z => absurd (z.symm.trans q1) (by decide)⟩
  · obtain ⟨h0, rfl, ad2, us2, rfl, hU2⟩ := h
    refine k_re 2 12 ((wX K x ad2 (oNeeded σ p9 v9).2.2 us2 ++ [kJ K o 1 f])) [.int ((oNeeded σ p9 v9).2.1), .int (nI 0), .ref o] rfl rfl rfl rfl ?_
    refine k_i2l hC dL_needed_8 ?_
    refine k_perm2 [] ([kJ K o 1 f] ++ wX K x ad2 (oNeeded σ p9 v9).2.2 us2) (by rw [List.append_nil, List.append_nil]; exact List.perm_append_comm) ?_
    refine k_jast hC 0 rfl (by decide) (by decide) dL_needed_9 ([kJ K o 1 (vp_updL f 0 ((((oNeeded σ p9 v9).2.1)).toInt64))] ++ wX K x ad2 (oNeeded σ p9 v9).2.2 us2) rfl ?_
    refine k_perm2 [] (wX K x ad2 (oNeeded σ p9 v9).2.2 us2 ++ [kJ K o 1 (vp_updL f 0 ((((oNeeded σ p9 v9).2.1)).toInt64))]) (by rw [List.append_nil, List.append_nil]; exact List.perm_append_comm) ?_
    refine k_goto hC 21 dL_needed_10 (by decide) ?_
    refine k_iconst hC (nI 0) dL_needed_21 rfl ?_
    exact k_iret hC hE (Nat.le_of_ble_eq_true rfl) (Nat.le_of_ble_eq_true rfl) dL_needed_22 ⟨by rw [h0], ad2, us2, _, List.append_nil _, hU2, fun _ => if_pos rfl⟩
abbrev rmL_step : Room := { frames := 8, cells := 2, slots := 12, locals := 145 }
set_option maxRecDepth 100000 in
set_option maxHeartbeats 4000000 in
theorem cL_step_k {l : Launch} (hst : l.stackTraces = false) (K : kE) (x : Nat) (ad : Nat → Nat → Nat) (σ : mS) (us : Nat → Nat → Nat → Int32) (hσ : mSok σ) (hU : mURT σ us) (o : Nat) (f : Nat → Int64) (v9 : Int32) : kX l yL_step (kwh yL_step cL_step 4 (some .int) [(0, 9, 12, 13), (0, 9, 15, 15)]) rmL_step K [.ref x, .int v9, .ref o] (wX K x ad σ us ++ [kJ K o 1 f]) (kHo K x o (oStep σ v9)) (fun _ => False) := by
  refine kXH_of lkC_yL_step (pl := []) (X := (wX K x ad σ us ++ [kJ K o 1 f])) (List.append_nil _).symm (by decide) (Nat.le_of_ble_eq_true rfl) ?_
  intro p e s m args below meth cd A Q hC hTb hE
  refine k_aload_n hC 2 dL_step_0 rfl rfl ?_
  refine k_iconst hC (nI 0) dL_step_1 rfl ?_
  refine k_aload_n hC 0 dL_step_2 rfl rfl ?_
  refine k_iload_n hC 1 dL_step_3 rfl rfl ?_
  refine k_callXC hC (As := [.int v9]) (cX3_step_k hst K x ad σ us hσ hU v9) [kJ K o 1 f] rfl 0 rfl rfl (kAll5 lkM_L_49 lkI_yX3_step lkS_yX3_step lkN_X3 lkC_yX3_step) 1 (by decide) ⟨(Nat.le_of_ble_eq_true rfl), (Nat.le_of_ble_eq_true rfl)⟩ rfl rfl (Nat.le_of_ble_eq_true rfl) ⟨(Nat.le_of_ble_eq_true rfl), (Nat.le_of_ble_eq_true rfl)⟩ dL_step_4 (fun E q => ?_) (fun v w h => ?_)
  · rcases q with ⟨q1, rfl⟩ | ⟨q1, rfl⟩
    · refine ⟨by decide, [], _, _, hTb.trans rfl, (fun z hz => absurd hz List.not_mem_nil), rfl, by decide, lkL_L_13, fun q9 => ?_⟩
      refine k_re 2 12 ((wX K x ad σ us ++ [kJ K o 1 f])) [.ref q9] rfl rfl rfl rfl ?_
      refine k_astore_n hC 3 dL_step_12 rfl (by decide) rfl [(0, .ref x), (1, .int v9), (2, .ref o), (3, .ref q9)] rfl ?_
      refine k_iconst hC (nI 1) dL_step_13 rfl ?_
      exact k_iret hC hE (Nat.le_of_ble_eq_true rfl) (Nat.le_of_ble_eq_true rfl) dL_step_14 ⟨by rw [q1], ad, us, f, by rw [oStep_st _ v9 (by rw [q1]; decide)]; exact List.append_nil _, by rw [oStep_st _ v9 (by rw [q1]; decide)]; exact hU, fun z => absurd (z.symm.trans q1) (by decide)⟩
    · refine ⟨by decide, [_], _, _, hTb.trans rfl, (fun z hz => by rw [List.mem_singleton] at hz; subst hz; exact Or.inr ⟨by decide, _, lkL_L_13, by decide⟩), rfl, by decide, lkL_L_15, fun q9 => ?_⟩
      refine k_re 2 12 ((wX K x ad σ us ++ [kJ K o 1 f])) [.ref q9] rfl rfl rfl rfl ?_
      refine k_astore_n hC 3 dL_step_15 rfl (by decide) rfl [(0, .ref x), (1, .int v9), (2, .ref o), (3, .ref q9)] rfl ?_
      refine k_iconst hC (nI 2) dL_step_16 rfl ?_
      exact k_iret hC hE (Nat.le_of_ble_eq_true rfl) (Nat.le_of_ble_eq_true rfl) dL_step_17 ⟨by rw [q1], ad, us, f, by rw [oStep_st _ v9 (by rw [q1]; decide)]; exact List.append_nil _, by rw [oStep_st _ v9 (by rw [q1]; decide)]; exact hU, fun z => absurd (z.symm.trans q1) (by decide)⟩
  · obtain ⟨h0, rfl, ad2, us2, rfl, hU2⟩ := h
    refine k_re 2 12 ((wX K x ad2 (oStep σ v9).2.2 us2 ++ [kJ K o 1 f])) [.int ((oStep σ v9).2.1), .int (nI 0), .ref o] rfl rfl rfl rfl ?_
    refine k_i2l hC dL_step_7 ?_
    refine k_perm2 [] ([kJ K o 1 f] ++ wX K x ad2 (oStep σ v9).2.2 us2) (by rw [List.append_nil, List.append_nil]; exact List.perm_append_comm) ?_
    refine k_jast hC 0 rfl (by decide) (by decide) dL_step_8 ([kJ K o 1 (vp_updL f 0 ((((oStep σ v9).2.1)).toInt64))] ++ wX K x ad2 (oStep σ v9).2.2 us2) rfl ?_
    refine k_perm2 [] (wX K x ad2 (oStep σ v9).2.2 us2 ++ [kJ K o 1 (vp_updL f 0 ((((oStep σ v9).2.1)).toInt64))]) (by rw [List.append_nil, List.append_nil]; exact List.perm_append_comm) ?_
    refine k_goto hC 18 dL_step_9 (by decide) ?_
    refine k_iconst hC (nI 0) dL_step_18 rfl ?_
    exact k_iret hC hE (Nat.le_of_ble_eq_true rfl) (Nat.le_of_ble_eq_true rfl) dL_step_19 ⟨by rw [h0], ad2, us2, _, List.append_nil _, hU2, fun _ => if_pos rfl⟩
abbrev rmL_board : Room := { frames := 8, cells := 1, slots := 6, locals := 143 }
set_option maxRecDepth 100000 in
set_option maxHeartbeats 4000000 in
theorem cL_board_k {l : Launch} (hst : l.stackTraces = false) (K : kE) (x : Nat) (ad : Nat → Nat → Nat) (σ : mS) (us : Nat → Nat → Nat → Int32) (hσ : mSok σ) (hU : mURT σ us) (o : Nat) (f : Nat → Int64) (p9 : Int32) : kX l yL_board (kwh yL_board cL_board 4 (some .int) [(0, 9, 12, 21)]) rmL_board K [.ref x, .int p9, .ref o] (wX K x ad σ us ++ [kJ K o 1 f]) (kHo K x o (oGet σ p9 (fun τ => nI (τ.1 9)))) (fun _ => False) := by
  refine kXH_of lkC_yL_board (pl := []) (X := (wX K x ad σ us ++ [kJ K o 1 f])) (List.append_nil _).symm (by decide) (Nat.le_of_ble_eq_true rfl) ?_
  intro p e s m args below meth cd A Q hC hTb hE
  refine k_aload_n hC 2 dL_board_0 rfl rfl ?_
  refine k_iconst hC (nI 0) dL_board_1 rfl ?_
  refine k_aload_n hC 0 dL_board_2 rfl rfl ?_
  refine k_iload_n hC 1 dL_board_3 rfl rfl ?_
  refine k_callXC hC (As := [.int p9]) (cX3_board_k hst K x ad σ us hσ hU p9) [kJ K o 1 f] rfl 0 rfl rfl (kAll5 lkM_L_52 lkI_yX3_board lkS_yX3_board lkN_X3 lkC_yX3_board) 1 (by decide) ⟨(Nat.le_of_ble_eq_true rfl), (Nat.le_of_ble_eq_true rfl)⟩ rfl rfl (Nat.le_of_ble_eq_true rfl) ⟨(Nat.le_of_ble_eq_true rfl), (Nat.le_of_ble_eq_true rfl)⟩ dL_board_4 (fun E q => ?_) (fun v w h => ?_)
  · rcases q with ⟨q1, rfl⟩ | ⟨q1, rfl⟩
    · refine ⟨by decide, [], _, _, hTb.trans rfl, (fun z hz => absurd hz List.not_mem_nil), rfl, by decide, lkL_L_21, fun q9 => ?_⟩
      refine k_re 1 6 ((wX K x ad σ us ++ [kJ K o 1 f])) [.ref q9] rfl rfl rfl rfl ?_
      refine k_astore_n hC 3 dL_board_12 rfl (by decide) rfl [(0, .ref x), (1, .int p9), (2, .ref o), (3, .ref q9)] rfl ?_
      refine k_iconst hC (nI 1) dL_board_13 rfl ?_
      exact k_iret hC hE (Nat.le_of_ble_eq_true rfl) (Nat.le_of_ble_eq_true rfl) dL_board_14 ⟨by rw [q1], ad, us, f, by rw [oGet_st _ p9 (fun τ => nI (τ.1 9)) (by rw [q1]; decide)]; exact List.append_nil _, by rw [oGet_st _ p9 (fun τ => nI (τ.1 9)) (by rw [q1]; decide)]; exact hU, fun z => absurd (z.symm.trans q1) (by decide)⟩
    · exact absurd q1 (fun z => oGet_n2 _ p9 (fun τ => nI (τ.1 9)) z)
  · obtain ⟨h0, rfl, ad2, us2, rfl, hU2⟩ := h
    refine k_re 1 6 ((wX K x ad2 (oGet σ p9 (fun τ => nI (τ.1 9))).2.2 us2 ++ [kJ K o 1 f])) [.int ((oGet σ p9 (fun τ => nI (τ.1 9))).2.1), .int (nI 0), .ref o] rfl rfl rfl rfl ?_
    refine k_i2l hC dL_board_7 ?_
    refine k_perm2 [] ([kJ K o 1 f] ++ wX K x ad2 (oGet σ p9 (fun τ => nI (τ.1 9))).2.2 us2) (by rw [List.append_nil, List.append_nil]; exact List.perm_append_comm) ?_
    refine k_jast hC 0 rfl (by decide) (by decide) dL_board_8 ([kJ K o 1 (vp_updL f 0 ((((oGet σ p9 (fun τ => nI (τ.1 9))).2.1)).toInt64))] ++ wX K x ad2 (oGet σ p9 (fun τ => nI (τ.1 9))).2.2 us2) rfl ?_
    refine k_perm2 [] (wX K x ad2 (oGet σ p9 (fun τ => nI (τ.1 9))).2.2 us2 ++ [kJ K o 1 (vp_updL f 0 ((((oGet σ p9 (fun τ => nI (τ.1 9))).2.1)).toInt64))]) (by rw [List.append_nil, List.append_nil]; exact List.perm_append_comm) ?_
    refine k_goto hC 15 dL_board_9 (by decide) ?_
    refine k_iconst hC (nI 0) dL_board_15 rfl ?_
    exact k_iret hC hE (Nat.le_of_ble_eq_true rfl) (Nat.le_of_ble_eq_true rfl) dL_board_16 ⟨by rw [h0], ad2, us2, _, List.append_nil _, hU2, fun _ => if_pos rfl⟩
abbrev rmL_attached : Room := { frames := 8, cells := 1, slots := 6, locals := 143 }
set_option maxRecDepth 100000 in
set_option maxHeartbeats 4000000 in
theorem cL_attached_k {l : Launch} (hst : l.stackTraces = false) (K : kE) (x : Nat) (ad : Nat → Nat → Nat) (σ : mS) (us : Nat → Nat → Nat → Int32) (hσ : mSok σ) (hU : mURT σ us) (o : Nat) (f : Nat → Int64) (p9 : Int32) : kX l yL_attached (kwh yL_attached cL_attached 4 (some .int) [(0, 9, 12, 21)]) rmL_attached K [.ref x, .int p9, .ref o] (wX K x ad σ us ++ [kJ K o 1 f]) (kHo K x o (oGet σ p9 (fun τ => nI (mCs (τ.2.2 0))))) (fun _ => False) := by
  refine kXH_of lkC_yL_attached (pl := []) (X := (wX K x ad σ us ++ [kJ K o 1 f])) (List.append_nil _).symm (by decide) (Nat.le_of_ble_eq_true rfl) ?_
  intro p e s m args below meth cd A Q hC hTb hE
  refine k_aload_n hC 2 dL_attached_0 rfl rfl ?_
  refine k_iconst hC (nI 0) dL_attached_1 rfl ?_
  refine k_aload_n hC 0 dL_attached_2 rfl rfl ?_
  refine k_iload_n hC 1 dL_attached_3 rfl rfl ?_
  refine k_callXC hC (As := [.int p9]) (cX3_attached_k hst K x ad σ us hσ hU p9) [kJ K o 1 f] rfl 0 rfl rfl (kAll5 lkM_L_55 lkI_yX3_attached lkS_yX3_attached lkN_X3 lkC_yX3_attached) 1 (by decide) ⟨(Nat.le_of_ble_eq_true rfl), (Nat.le_of_ble_eq_true rfl)⟩ rfl rfl (Nat.le_of_ble_eq_true rfl) ⟨(Nat.le_of_ble_eq_true rfl), (Nat.le_of_ble_eq_true rfl)⟩ dL_attached_4 (fun E q => ?_) (fun v w h => ?_)
  · rcases q with ⟨q1, rfl⟩ | ⟨q1, rfl⟩
    · refine ⟨by decide, [], _, _, hTb.trans rfl, (fun z hz => absurd hz List.not_mem_nil), rfl, by decide, lkL_L_21, fun q9 => ?_⟩
      refine k_re 1 6 ((wX K x ad σ us ++ [kJ K o 1 f])) [.ref q9] rfl rfl rfl rfl ?_
      refine k_astore_n hC 3 dL_attached_12 rfl (by decide) rfl [(0, .ref x), (1, .int p9), (2, .ref o), (3, .ref q9)] rfl ?_
      refine k_iconst hC (nI 1) dL_attached_13 rfl ?_
      exact k_iret hC hE (Nat.le_of_ble_eq_true rfl) (Nat.le_of_ble_eq_true rfl) dL_attached_14 ⟨by rw [q1], ad, us, f, by rw [oGet_st _ p9 (fun τ => nI (mCs (τ.2.2 0))) (by rw [q1]; decide)]; exact List.append_nil _, by rw [oGet_st _ p9 (fun τ => nI (mCs (τ.2.2 0))) (by rw [q1]; decide)]; exact hU, fun z => absurd (z.symm.trans q1) (by decide)⟩
    · exact absurd q1 (fun z => oGet_n2 _ p9 (fun τ => nI (mCs (τ.2.2 0))) z)
  · obtain ⟨h0, rfl, ad2, us2, rfl, hU2⟩ := h
    refine k_re 1 6 ((wX K x ad2 (oGet σ p9 (fun τ => nI (mCs (τ.2.2 0)))).2.2 us2 ++ [kJ K o 1 f])) [.int ((oGet σ p9 (fun τ => nI (mCs (τ.2.2 0)))).2.1), .int (nI 0), .ref o] rfl rfl rfl rfl ?_
    refine k_i2l hC dL_attached_7 ?_
    refine k_perm2 [] ([kJ K o 1 f] ++ wX K x ad2 (oGet σ p9 (fun τ => nI (mCs (τ.2.2 0)))).2.2 us2) (by rw [List.append_nil, List.append_nil]; exact List.perm_append_comm) ?_
    refine k_jast hC 0 rfl (by decide) (by decide) dL_attached_8 ([kJ K o 1 (vp_updL f 0 ((((oGet σ p9 (fun τ => nI (mCs (τ.2.2 0)))).2.1)).toInt64))] ++ wX K x ad2 (oGet σ p9 (fun τ => nI (mCs (τ.2.2 0)))).2.2 us2) rfl ?_
    refine k_perm2 [] (wX K x ad2 (oGet σ p9 (fun τ => nI (mCs (τ.2.2 0)))).2.2 us2 ++ [kJ K o 1 (vp_updL f 0 ((((oGet σ p9 (fun τ => nI (mCs (τ.2.2 0)))).2.1)).toInt64))]) (by rw [List.append_nil, List.append_nil]; exact List.perm_append_comm) ?_
    refine k_goto hC 15 dL_attached_9 (by decide) ?_
    refine k_iconst hC (nI 0) dL_attached_15 rfl ?_
    exact k_iret hC hE (Nat.le_of_ble_eq_true rfl) (Nat.le_of_ble_eq_true rfl) dL_attached_16 ⟨by rw [h0], ad2, us2, _, List.append_nil _, hU2, fun _ => if_pos rfl⟩
abbrev rmL_left : Room := { frames := 8, cells := 1, slots := 6, locals := 143 }
set_option maxRecDepth 100000 in
set_option maxHeartbeats 4000000 in
theorem cL_left_k {l : Launch} (hst : l.stackTraces = false) (K : kE) (x : Nat) (ad : Nat → Nat → Nat) (σ : mS) (us : Nat → Nat → Nat → Int32) (hσ : mSok σ) (hU : mURT σ us) (o : Nat) (f : Nat → Int64) (p9 : Int32) : kX l yL_left (kwh yL_left cL_left 4 (some .int) [(0, 9, 12, 21)]) rmL_left K [.ref x, .int p9, .ref o] (wX K x ad σ us ++ [kJ K o 1 f]) (kHo K x o (oGet σ p9 (fun τ => nI (τ.1 10)))) (fun _ => False) := by
  refine kXH_of lkC_yL_left (pl := []) (X := (wX K x ad σ us ++ [kJ K o 1 f])) (List.append_nil _).symm (by decide) (Nat.le_of_ble_eq_true rfl) ?_
  intro p e s m args below meth cd A Q hC hTb hE
  refine k_aload_n hC 2 dL_left_0 rfl rfl ?_
  refine k_iconst hC (nI 0) dL_left_1 rfl ?_
  refine k_aload_n hC 0 dL_left_2 rfl rfl ?_
  refine k_iload_n hC 1 dL_left_3 rfl rfl ?_
  refine k_callXC hC (As := [.int p9]) (cX3_left_k hst K x ad σ us hσ hU p9) [kJ K o 1 f] rfl 0 rfl rfl (kAll5 lkM_L_58 lkI_yX3_left lkS_yX3_left lkN_X3 lkC_yX3_left) 1 (by decide) ⟨(Nat.le_of_ble_eq_true rfl), (Nat.le_of_ble_eq_true rfl)⟩ rfl rfl (Nat.le_of_ble_eq_true rfl) ⟨(Nat.le_of_ble_eq_true rfl), (Nat.le_of_ble_eq_true rfl)⟩ dL_left_4 (fun E q => ?_) (fun v w h => ?_)
  · rcases q with ⟨q1, rfl⟩ | ⟨q1, rfl⟩
    · refine ⟨by decide, [], _, _, hTb.trans rfl, (fun z hz => absurd hz List.not_mem_nil), rfl, by decide, lkL_L_21, fun q9 => ?_⟩
      refine k_re 1 6 ((wX K x ad σ us ++ [kJ K o 1 f])) [.ref q9] rfl rfl rfl rfl ?_
      refine k_astore_n hC 3 dL_left_12 rfl (by decide) rfl [(0, .ref x), (1, .int p9), (2, .ref o), (3, .ref q9)] rfl ?_
      refine k_iconst hC (nI 1) dL_left_13 rfl ?_
      exact k_iret hC hE (Nat.le_of_ble_eq_true rfl) (Nat.le_of_ble_eq_true rfl) dL_left_14 ⟨by rw [q1], ad, us, f, by rw [oGet_st _ p9 (fun τ => nI (τ.1 10)) (by rw [q1]; decide)]; exact List.append_nil _, by rw [oGet_st _ p9 (fun τ => nI (τ.1 10)) (by rw [q1]; decide)]; exact hU, fun z => absurd (z.symm.trans q1) (by decide)⟩
    · exact absurd q1 (fun z => oGet_n2 _ p9 (fun τ => nI (τ.1 10)) z)
  · obtain ⟨h0, rfl, ad2, us2, rfl, hU2⟩ := h
    refine k_re 1 6 ((wX K x ad2 (oGet σ p9 (fun τ => nI (τ.1 10))).2.2 us2 ++ [kJ K o 1 f])) [.int ((oGet σ p9 (fun τ => nI (τ.1 10))).2.1), .int (nI 0), .ref o] rfl rfl rfl rfl ?_
    refine k_i2l hC dL_left_7 ?_
    refine k_perm2 [] ([kJ K o 1 f] ++ wX K x ad2 (oGet σ p9 (fun τ => nI (τ.1 10))).2.2 us2) (by rw [List.append_nil, List.append_nil]; exact List.perm_append_comm) ?_
    refine k_jast hC 0 rfl (by decide) (by decide) dL_left_8 ([kJ K o 1 (vp_updL f 0 ((((oGet σ p9 (fun τ => nI (τ.1 10))).2.1)).toInt64))] ++ wX K x ad2 (oGet σ p9 (fun τ => nI (τ.1 10))).2.2 us2) rfl ?_
    refine k_perm2 [] (wX K x ad2 (oGet σ p9 (fun τ => nI (τ.1 10))).2.2 us2 ++ [kJ K o 1 (vp_updL f 0 ((((oGet σ p9 (fun τ => nI (τ.1 10))).2.1)).toInt64))]) (by rw [List.append_nil, List.append_nil]; exact List.perm_append_comm) ?_
    refine k_goto hC 15 dL_left_9 (by decide) ?_
    refine k_iconst hC (nI 0) dL_left_15 rfl ?_
    exact k_iret hC hE (Nat.le_of_ble_eq_true rfl) (Nat.le_of_ble_eq_true rfl) dL_left_16 ⟨by rw [h0], ad2, us2, _, List.append_nil _, hU2, fun _ => if_pos rfl⟩
abbrev rmL_run : Room := { frames := 8, cells := 1, slots := 6, locals := 143 }
set_option maxRecDepth 100000 in
set_option maxHeartbeats 4000000 in
theorem cL_run_k {l : Launch} (hst : l.stackTraces = false) (K : kE) (x : Nat) (ad : Nat → Nat → Nat) (σ : mS) (us : Nat → Nat → Nat → Int32) (hσ : mSok σ) (hU : mURT σ us) (o : Nat) (f : Nat → Int64) (p9 : Int32) : kX l yL_run (kwh yL_run cL_run 4 (some .int) [(0, 9, 12, 21)]) rmL_run K [.ref x, .int p9, .ref o] (wX K x ad σ us ++ [kJ K o 1 f]) (kHo K x o (oGet σ p9 (fun τ => nI (τ.1 11)))) (fun _ => False) := by
  refine kXH_of lkC_yL_run (pl := []) (X := (wX K x ad σ us ++ [kJ K o 1 f])) (List.append_nil _).symm (by decide) (Nat.le_of_ble_eq_true rfl) ?_
  intro p e s m args below meth cd A Q hC hTb hE
  refine k_aload_n hC 2 dL_run_0 rfl rfl ?_
  refine k_iconst hC (nI 0) dL_run_1 rfl ?_
  refine k_aload_n hC 0 dL_run_2 rfl rfl ?_
  refine k_iload_n hC 1 dL_run_3 rfl rfl ?_
  refine k_callXC hC (As := [.int p9]) (cX3_run_k hst K x ad σ us hσ hU p9) [kJ K o 1 f] rfl 0 rfl rfl (kAll5 lkM_L_61 lkI_yX3_run lkS_yX3_run lkN_X3 lkC_yX3_run) 1 (by decide) ⟨(Nat.le_of_ble_eq_true rfl), (Nat.le_of_ble_eq_true rfl)⟩ rfl rfl (Nat.le_of_ble_eq_true rfl) ⟨(Nat.le_of_ble_eq_true rfl), (Nat.le_of_ble_eq_true rfl)⟩ dL_run_4 (fun E q => ?_) (fun v w h => ?_)
  · rcases q with ⟨q1, rfl⟩ | ⟨q1, rfl⟩
    · refine ⟨by decide, [], _, _, hTb.trans rfl, (fun z hz => absurd hz List.not_mem_nil), rfl, by decide, lkL_L_21, fun q9 => ?_⟩
      refine k_re 1 6 ((wX K x ad σ us ++ [kJ K o 1 f])) [.ref q9] rfl rfl rfl rfl ?_
      refine k_astore_n hC 3 dL_run_12 rfl (by decide) rfl [(0, .ref x), (1, .int p9), (2, .ref o), (3, .ref q9)] rfl ?_
      refine k_iconst hC (nI 1) dL_run_13 rfl ?_
      exact k_iret hC hE (Nat.le_of_ble_eq_true rfl) (Nat.le_of_ble_eq_true rfl) dL_run_14 ⟨by rw [q1], ad, us, f, by rw [oGet_st _ p9 (fun τ => nI (τ.1 11)) (by rw [q1]; decide)]; exact List.append_nil _, by rw [oGet_st _ p9 (fun τ => nI (τ.1 11)) (by rw [q1]; decide)]; exact hU, fun z => absurd (z.symm.trans q1) (by decide)⟩
    · exact absurd q1 (fun z => oGet_n2 _ p9 (fun τ => nI (τ.1 11)) z)
  · obtain ⟨h0, rfl, ad2, us2, rfl, hU2⟩ := h
    refine k_re 1 6 ((wX K x ad2 (oGet σ p9 (fun τ => nI (τ.1 11))).2.2 us2 ++ [kJ K o 1 f])) [.int ((oGet σ p9 (fun τ => nI (τ.1 11))).2.1), .int (nI 0), .ref o] rfl rfl rfl rfl ?_
    refine k_i2l hC dL_run_7 ?_
    refine k_perm2 [] ([kJ K o 1 f] ++ wX K x ad2 (oGet σ p9 (fun τ => nI (τ.1 11))).2.2 us2) (by rw [List.append_nil, List.append_nil]; exact List.perm_append_comm) ?_
    refine k_jast hC 0 rfl (by decide) (by decide) dL_run_8 ([kJ K o 1 (vp_updL f 0 ((((oGet σ p9 (fun τ => nI (τ.1 11))).2.1)).toInt64))] ++ wX K x ad2 (oGet σ p9 (fun τ => nI (τ.1 11))).2.2 us2) rfl ?_
    refine k_perm2 [] (wX K x ad2 (oGet σ p9 (fun τ => nI (τ.1 11))).2.2 us2 ++ [kJ K o 1 (vp_updL f 0 ((((oGet σ p9 (fun τ => nI (τ.1 11))).2.1)).toInt64))]) (by rw [List.append_nil, List.append_nil]; exact List.perm_append_comm) ?_
    refine k_goto hC 15 dL_run_9 (by decide) ?_
    refine k_iconst hC (nI 0) dL_run_15 rfl ?_
    exact k_iret hC hE (Nat.le_of_ble_eq_true rfl) (Nat.le_of_ble_eq_true rfl) dL_run_16 ⟨by rw [h0], ad2, us2, _, List.append_nil _, hU2, fun _ => if_pos rfl⟩
abbrev rmL_market : Room := { frames := 8, cells := 1, slots := 6, locals := 143 }
set_option maxRecDepth 100000 in
set_option maxHeartbeats 4000000 in
theorem cL_market_k {l : Launch} (hst : l.stackTraces = false) (K : kE) (x : Nat) (ad : Nat → Nat → Nat) (σ : mS) (us : Nat → Nat → Nat → Int32) (hσ : mSok σ) (hU : mURT σ us) (o : Nat) (f : Nat → Int64) (p9 : Int32) : kX l yL_market (kwh yL_market cL_market 4 (some .int) [(0, 9, 12, 21)]) rmL_market K [.ref x, .int p9, .ref o] (wX K x ad σ us ++ [kJ K o 1 f]) (kHo K x o (oGet σ p9 (fun τ => nI (mU (τ.2.2 0))))) (fun _ => False) := by
  refine kXH_of lkC_yL_market (pl := []) (X := (wX K x ad σ us ++ [kJ K o 1 f])) (List.append_nil _).symm (by decide) (Nat.le_of_ble_eq_true rfl) ?_
  intro p e s m args below meth cd A Q hC hTb hE
  refine k_aload_n hC 2 dL_market_0 rfl rfl ?_
  refine k_iconst hC (nI 0) dL_market_1 rfl ?_
  refine k_aload_n hC 0 dL_market_2 rfl rfl ?_
  refine k_iload_n hC 1 dL_market_3 rfl rfl ?_
  refine k_callXC hC (As := [.int p9]) (cX3_market_k hst K x ad σ us hσ hU p9) [kJ K o 1 f] rfl 0 rfl rfl (kAll5 lkM_L_64 lkI_yX3_market lkS_yX3_market lkN_X3 lkC_yX3_market) 1 (by decide) ⟨(Nat.le_of_ble_eq_true rfl), (Nat.le_of_ble_eq_true rfl)⟩ rfl rfl (Nat.le_of_ble_eq_true rfl) ⟨(Nat.le_of_ble_eq_true rfl), (Nat.le_of_ble_eq_true rfl)⟩ dL_market_4 (fun E q => ?_) (fun v w h => ?_)
  · rcases q with ⟨q1, rfl⟩ | ⟨q1, rfl⟩
    · refine ⟨by decide, [], _, _, hTb.trans rfl, (fun z hz => absurd hz List.not_mem_nil), rfl, by decide, lkL_L_21, fun q9 => ?_⟩
      refine k_re 1 6 ((wX K x ad σ us ++ [kJ K o 1 f])) [.ref q9] rfl rfl rfl rfl ?_
      refine k_astore_n hC 3 dL_market_12 rfl (by decide) rfl [(0, .ref x), (1, .int p9), (2, .ref o), (3, .ref q9)] rfl ?_
      refine k_iconst hC (nI 1) dL_market_13 rfl ?_
      exact k_iret hC hE (Nat.le_of_ble_eq_true rfl) (Nat.le_of_ble_eq_true rfl) dL_market_14 ⟨by rw [q1], ad, us, f, by rw [oGet_st _ p9 (fun τ => nI (mU (τ.2.2 0))) (by rw [q1]; decide)]; exact List.append_nil _, by rw [oGet_st _ p9 (fun τ => nI (mU (τ.2.2 0))) (by rw [q1]; decide)]; exact hU, fun z => absurd (z.symm.trans q1) (by decide)⟩
    · exact absurd q1 (fun z => oGet_n2 _ p9 (fun τ => nI (mU (τ.2.2 0))) z)
  · obtain ⟨h0, rfl, ad2, us2, rfl, hU2⟩ := h
    refine k_re 1 6 ((wX K x ad2 (oGet σ p9 (fun τ => nI (mU (τ.2.2 0)))).2.2 us2 ++ [kJ K o 1 f])) [.int ((oGet σ p9 (fun τ => nI (mU (τ.2.2 0)))).2.1), .int (nI 0), .ref o] rfl rfl rfl rfl ?_
    refine k_i2l hC dL_market_7 ?_
    refine k_perm2 [] ([kJ K o 1 f] ++ wX K x ad2 (oGet σ p9 (fun τ => nI (mU (τ.2.2 0)))).2.2 us2) (by rw [List.append_nil, List.append_nil]; exact List.perm_append_comm) ?_
    refine k_jast hC 0 rfl (by decide) (by decide) dL_market_8 ([kJ K o 1 (vp_updL f 0 ((((oGet σ p9 (fun τ => nI (mU (τ.2.2 0)))).2.1)).toInt64))] ++ wX K x ad2 (oGet σ p9 (fun τ => nI (mU (τ.2.2 0)))).2.2 us2) rfl ?_
    refine k_perm2 [] (wX K x ad2 (oGet σ p9 (fun τ => nI (mU (τ.2.2 0)))).2.2 us2 ++ [kJ K o 1 (vp_updL f 0 ((((oGet σ p9 (fun τ => nI (mU (τ.2.2 0)))).2.1)).toInt64))]) (by rw [List.append_nil, List.append_nil]; exact List.perm_append_comm) ?_
    refine k_goto hC 15 dL_market_9 (by decide) ?_
    refine k_iconst hC (nI 0) dL_market_15 rfl ?_
    exact k_iret hC hE (Nat.le_of_ble_eq_true rfl) (Nat.le_of_ble_eq_true rfl) dL_market_16 ⟨by rw [h0], ad2, us2, _, List.append_nil _, hU2, fun _ => if_pos rfl⟩
abbrev rmL_inbox : Room := { frames := 8, cells := 1, slots := 6, locals := 143 }
set_option maxRecDepth 100000 in
set_option maxHeartbeats 4000000 in
theorem cL_inbox_k {l : Launch} (hst : l.stackTraces = false) (K : kE) (x : Nat) (ad : Nat → Nat → Nat) (σ : mS) (us : Nat → Nat → Nat → Int32) (hσ : mSok σ) (hU : mURT σ us) (o : Nat) (f : Nat → Int64) (p9 : Int32) : kX l yL_inbox (kwh yL_inbox cL_inbox 4 (some .int) [(0, 9, 12, 21)]) rmL_inbox K [.ref x, .int p9, .ref o] (wX K x ad σ us ++ [kJ K o 1 f]) (kHo K x o (oGet σ p9 (fun τ => nI (mU (τ.2.2 1))))) (fun _ => False) := by
  refine kXH_of lkC_yL_inbox (pl := []) (X := (wX K x ad σ us ++ [kJ K o 1 f])) (List.append_nil _).symm (by decide) (Nat.le_of_ble_eq_true rfl) ?_
  intro p e s m args below meth cd A Q hC hTb hE
  refine k_aload_n hC 2 dL_inbox_0 rfl rfl ?_
  refine k_iconst hC (nI 0) dL_inbox_1 rfl ?_
  refine k_aload_n hC 0 dL_inbox_2 rfl rfl ?_
  refine k_iload_n hC 1 dL_inbox_3 rfl rfl ?_
  refine k_callXC hC (As := [.int p9]) (cX3_inbox_k hst K x ad σ us hσ hU p9) [kJ K o 1 f] rfl 0 rfl rfl (kAll5 lkM_L_67 lkI_yX3_inbox lkS_yX3_inbox lkN_X3 lkC_yX3_inbox) 1 (by decide) ⟨(Nat.le_of_ble_eq_true rfl), (Nat.le_of_ble_eq_true rfl)⟩ rfl rfl (Nat.le_of_ble_eq_true rfl) ⟨(Nat.le_of_ble_eq_true rfl), (Nat.le_of_ble_eq_true rfl)⟩ dL_inbox_4 (fun E q => ?_) (fun v w h => ?_)
  · rcases q with ⟨q1, rfl⟩ | ⟨q1, rfl⟩
    · refine ⟨by decide, [], _, _, hTb.trans rfl, (fun z hz => absurd hz List.not_mem_nil), rfl, by decide, lkL_L_21, fun q9 => ?_⟩
      refine k_re 1 6 ((wX K x ad σ us ++ [kJ K o 1 f])) [.ref q9] rfl rfl rfl rfl ?_
      refine k_astore_n hC 3 dL_inbox_12 rfl (by decide) rfl [(0, .ref x), (1, .int p9), (2, .ref o), (3, .ref q9)] rfl ?_
      refine k_iconst hC (nI 1) dL_inbox_13 rfl ?_
      exact k_iret hC hE (Nat.le_of_ble_eq_true rfl) (Nat.le_of_ble_eq_true rfl) dL_inbox_14 ⟨by rw [q1], ad, us, f, by rw [oGet_st _ p9 (fun τ => nI (mU (τ.2.2 1))) (by rw [q1]; decide)]; exact List.append_nil _, by rw [oGet_st _ p9 (fun τ => nI (mU (τ.2.2 1))) (by rw [q1]; decide)]; exact hU, fun z => absurd (z.symm.trans q1) (by decide)⟩
    · exact absurd q1 (fun z => oGet_n2 _ p9 (fun τ => nI (mU (τ.2.2 1))) z)
  · obtain ⟨h0, rfl, ad2, us2, rfl, hU2⟩ := h
    refine k_re 1 6 ((wX K x ad2 (oGet σ p9 (fun τ => nI (mU (τ.2.2 1)))).2.2 us2 ++ [kJ K o 1 f])) [.int ((oGet σ p9 (fun τ => nI (mU (τ.2.2 1)))).2.1), .int (nI 0), .ref o] rfl rfl rfl rfl ?_
    refine k_i2l hC dL_inbox_7 ?_
    refine k_perm2 [] ([kJ K o 1 f] ++ wX K x ad2 (oGet σ p9 (fun τ => nI (mU (τ.2.2 1)))).2.2 us2) (by rw [List.append_nil, List.append_nil]; exact List.perm_append_comm) ?_
    refine k_jast hC 0 rfl (by decide) (by decide) dL_inbox_8 ([kJ K o 1 (vp_updL f 0 ((((oGet σ p9 (fun τ => nI (mU (τ.2.2 1)))).2.1)).toInt64))] ++ wX K x ad2 (oGet σ p9 (fun τ => nI (mU (τ.2.2 1)))).2.2 us2) rfl ?_
    refine k_perm2 [] (wX K x ad2 (oGet σ p9 (fun τ => nI (mU (τ.2.2 1)))).2.2 us2 ++ [kJ K o 1 (vp_updL f 0 ((((oGet σ p9 (fun τ => nI (mU (τ.2.2 1)))).2.1)).toInt64))]) (by rw [List.append_nil, List.append_nil]; exact List.perm_append_comm) ?_
    refine k_goto hC 15 dL_inbox_9 (by decide) ?_
    refine k_iconst hC (nI 0) dL_inbox_15 rfl ?_
    exact k_iret hC hE (Nat.le_of_ble_eq_true rfl) (Nat.le_of_ble_eq_true rfl) dL_inbox_16 ⟨by rw [h0], ad2, us2, _, List.append_nil _, hU2, fun _ => if_pos rfl⟩
abbrev rmL_waiting : Room := { frames := 8, cells := 1, slots := 6, locals := 143 }
set_option maxRecDepth 100000 in
set_option maxHeartbeats 4000000 in
theorem cL_waiting_k {l : Launch} (hst : l.stackTraces = false) (K : kE) (x : Nat) (ad : Nat → Nat → Nat) (σ : mS) (us : Nat → Nat → Nat → Int32) (hσ : mSok σ) (hU : mURT σ us) (o : Nat) (f : Nat → Int64) (p9 : Int32) : kX l yL_waiting (kwh yL_waiting cL_waiting 4 (some .int) [(0, 9, 12, 21)]) rmL_waiting K [.ref x, .int p9, .ref o] (wX K x ad σ us ++ [kJ K o 1 f]) (kHo K x o (oGet σ p9 (fun τ => nI (τ.1 14)))) (fun _ => False) := by
  refine kXH_of lkC_yL_waiting (pl := []) (X := (wX K x ad σ us ++ [kJ K o 1 f])) (List.append_nil _).symm (by decide) (Nat.le_of_ble_eq_true rfl) ?_
  intro p e s m args below meth cd A Q hC hTb hE
  refine k_aload_n hC 2 dL_waiting_0 rfl rfl ?_
  refine k_iconst hC (nI 0) dL_waiting_1 rfl ?_
  refine k_aload_n hC 0 dL_waiting_2 rfl rfl ?_
  refine k_iload_n hC 1 dL_waiting_3 rfl rfl ?_
  refine k_callXC hC (As := [.int p9]) (cX3_waiting_k hst K x ad σ us hσ hU p9) [kJ K o 1 f] rfl 0 rfl rfl (kAll5 lkM_L_70 lkI_yX3_waiting lkS_yX3_waiting lkN_X3 lkC_yX3_waiting) 1 (by decide) ⟨(Nat.le_of_ble_eq_true rfl), (Nat.le_of_ble_eq_true rfl)⟩ rfl rfl (Nat.le_of_ble_eq_true rfl) ⟨(Nat.le_of_ble_eq_true rfl), (Nat.le_of_ble_eq_true rfl)⟩ dL_waiting_4 (fun E q => ?_) (fun v w h => ?_)
  · rcases q with ⟨q1, rfl⟩ | ⟨q1, rfl⟩
    · refine ⟨by decide, [], _, _, hTb.trans rfl, (fun z hz => absurd hz List.not_mem_nil), rfl, by decide, lkL_L_21, fun q9 => ?_⟩
      refine k_re 1 6 ((wX K x ad σ us ++ [kJ K o 1 f])) [.ref q9] rfl rfl rfl rfl ?_
      refine k_astore_n hC 3 dL_waiting_12 rfl (by decide) rfl [(0, .ref x), (1, .int p9), (2, .ref o), (3, .ref q9)] rfl ?_
      refine k_iconst hC (nI 1) dL_waiting_13 rfl ?_
      exact k_iret hC hE (Nat.le_of_ble_eq_true rfl) (Nat.le_of_ble_eq_true rfl) dL_waiting_14 ⟨by rw [q1], ad, us, f, by rw [oGet_st _ p9 (fun τ => nI (τ.1 14)) (by rw [q1]; decide)]; exact List.append_nil _, by rw [oGet_st _ p9 (fun τ => nI (τ.1 14)) (by rw [q1]; decide)]; exact hU, fun z => absurd (z.symm.trans q1) (by decide)⟩
    · exact absurd q1 (fun z => oGet_n2 _ p9 (fun τ => nI (τ.1 14)) z)
  · obtain ⟨h0, rfl, ad2, us2, rfl, hU2⟩ := h
    refine k_re 1 6 ((wX K x ad2 (oGet σ p9 (fun τ => nI (τ.1 14))).2.2 us2 ++ [kJ K o 1 f])) [.int ((oGet σ p9 (fun τ => nI (τ.1 14))).2.1), .int (nI 0), .ref o] rfl rfl rfl rfl ?_
    refine k_i2l hC dL_waiting_7 ?_
    refine k_perm2 [] ([kJ K o 1 f] ++ wX K x ad2 (oGet σ p9 (fun τ => nI (τ.1 14))).2.2 us2) (by rw [List.append_nil, List.append_nil]; exact List.perm_append_comm) ?_
    refine k_jast hC 0 rfl (by decide) (by decide) dL_waiting_8 ([kJ K o 1 (vp_updL f 0 ((((oGet σ p9 (fun τ => nI (τ.1 14))).2.1)).toInt64))] ++ wX K x ad2 (oGet σ p9 (fun τ => nI (τ.1 14))).2.2 us2) rfl ?_
    refine k_perm2 [] (wX K x ad2 (oGet σ p9 (fun τ => nI (τ.1 14))).2.2 us2 ++ [kJ K o 1 (vp_updL f 0 ((((oGet σ p9 (fun τ => nI (τ.1 14))).2.1)).toInt64))]) (by rw [List.append_nil, List.append_nil]; exact List.perm_append_comm) ?_
    refine k_goto hC 15 dL_waiting_9 (by decide) ?_
    refine k_iconst hC (nI 0) dL_waiting_15 rfl ?_
    exact k_iret hC hE (Nat.le_of_ble_eq_true rfl) (Nat.le_of_ble_eq_true rfl) dL_waiting_16 ⟨by rw [h0], ad2, us2, _, List.append_nil _, hU2, fun _ => if_pos rfl⟩
abbrev rmL_travelling : Room := { frames := 8, cells := 1, slots := 6, locals := 143 }
set_option maxRecDepth 100000 in
set_option maxHeartbeats 4000000 in
theorem cL_travelling_k {l : Launch} (hst : l.stackTraces = false) (K : kE) (x : Nat) (ad : Nat → Nat → Nat) (σ : mS) (us : Nat → Nat → Nat → Int32) (hσ : mSok σ) (hU : mURT σ us) (o : Nat) (f : Nat → Int64) (p9 : Int32) : kX l yL_travelling (kwh yL_travelling cL_travelling 4 (some .int) [(0, 9, 12, 21)]) rmL_travelling K [.ref x, .int p9, .ref o] (wX K x ad σ us ++ [kJ K o 1 f]) (kHo K x o (oGet σ p9 (fun τ => nI (τ.2.2 2).length))) (fun _ => False) := by
  refine kXH_of lkC_yL_travelling (pl := []) (X := (wX K x ad σ us ++ [kJ K o 1 f])) (List.append_nil _).symm (by decide) (Nat.le_of_ble_eq_true rfl) ?_
  intro p e s m args below meth cd A Q hC hTb hE
  refine k_aload_n hC 2 dL_travelling_0 rfl rfl ?_
  refine k_iconst hC (nI 0) dL_travelling_1 rfl ?_
  refine k_aload_n hC 0 dL_travelling_2 rfl rfl ?_
  refine k_iload_n hC 1 dL_travelling_3 rfl rfl ?_
  refine k_callXC hC (As := [.int p9]) (cX3_travelling_k hst K x ad σ us hσ hU p9) [kJ K o 1 f] rfl 0 rfl rfl (kAll5 lkM_L_73 lkI_yX3_travelling lkS_yX3_travelling lkN_X3 lkC_yX3_travelling) 1 (by decide) ⟨(Nat.le_of_ble_eq_true rfl), (Nat.le_of_ble_eq_true rfl)⟩ rfl rfl (Nat.le_of_ble_eq_true rfl) ⟨(Nat.le_of_ble_eq_true rfl), (Nat.le_of_ble_eq_true rfl)⟩ dL_travelling_4 (fun E q => ?_) (fun v w h => ?_)
  · rcases q with ⟨q1, rfl⟩ | ⟨q1, rfl⟩
    · refine ⟨by decide, [], _, _, hTb.trans rfl, (fun z hz => absurd hz List.not_mem_nil), rfl, by decide, lkL_L_21, fun q9 => ?_⟩
      refine k_re 1 6 ((wX K x ad σ us ++ [kJ K o 1 f])) [.ref q9] rfl rfl rfl rfl ?_
      refine k_astore_n hC 3 dL_travelling_12 rfl (by decide) rfl [(0, .ref x), (1, .int p9), (2, .ref o), (3, .ref q9)] rfl ?_
      refine k_iconst hC (nI 1) dL_travelling_13 rfl ?_
      exact k_iret hC hE (Nat.le_of_ble_eq_true rfl) (Nat.le_of_ble_eq_true rfl) dL_travelling_14 ⟨by rw [q1], ad, us, f, by rw [oGet_st _ p9 (fun τ => nI (τ.2.2 2).length) (by rw [q1]; decide)]; exact List.append_nil _, by rw [oGet_st _ p9 (fun τ => nI (τ.2.2 2).length) (by rw [q1]; decide)]; exact hU, fun z => absurd (z.symm.trans q1) (by decide)⟩
    · exact absurd q1 (fun z => oGet_n2 _ p9 (fun τ => nI (τ.2.2 2).length) z)
  · obtain ⟨h0, rfl, ad2, us2, rfl, hU2⟩ := h
    refine k_re 1 6 ((wX K x ad2 (oGet σ p9 (fun τ => nI (τ.2.2 2).length)).2.2 us2 ++ [kJ K o 1 f])) [.int ((oGet σ p9 (fun τ => nI (τ.2.2 2).length)).2.1), .int (nI 0), .ref o] rfl rfl rfl rfl ?_
    refine k_i2l hC dL_travelling_7 ?_
    refine k_perm2 [] ([kJ K o 1 f] ++ wX K x ad2 (oGet σ p9 (fun τ => nI (τ.2.2 2).length)).2.2 us2) (by rw [List.append_nil, List.append_nil]; exact List.perm_append_comm) ?_
    refine k_jast hC 0 rfl (by decide) (by decide) dL_travelling_8 ([kJ K o 1 (vp_updL f 0 ((((oGet σ p9 (fun τ => nI (τ.2.2 2).length)).2.1)).toInt64))] ++ wX K x ad2 (oGet σ p9 (fun τ => nI (τ.2.2 2).length)).2.2 us2) rfl ?_
    refine k_perm2 [] (wX K x ad2 (oGet σ p9 (fun τ => nI (τ.2.2 2).length)).2.2 us2 ++ [kJ K o 1 (vp_updL f 0 ((((oGet σ p9 (fun τ => nI (τ.2.2 2).length)).2.1)).toInt64))]) (by rw [List.append_nil, List.append_nil]; exact List.perm_append_comm) ?_
    refine k_goto hC 15 dL_travelling_9 (by decide) ?_
    refine k_iconst hC (nI 0) dL_travelling_15 rfl ?_
    exact k_iret hC hE (Nat.le_of_ble_eq_true rfl) (Nat.le_of_ble_eq_true rfl) dL_travelling_16 ⟨by rw [h0], ad2, us2, _, List.append_nil _, hU2, fun _ => if_pos rfl⟩
abbrev rmL_firstUnits : Room := { frames := 8, cells := 1, slots := 6, locals := 143 }
set_option maxRecDepth 100000 in
set_option maxHeartbeats 4000000 in
theorem cL_firstUnits_k {l : Launch} (hst : l.stackTraces = false) (K : kE) (x : Nat) (ad : Nat → Nat → Nat) (σ : mS) (us : Nat → Nat → Nat → Int32) (hσ : mSok σ) (hU : mURT σ us) (o : Nat) (f : Nat → Int64) (p9 : Int32) : kX l yL_firstUnits (kwh yL_firstUnits cL_firstUnits 4 (some .int) [(0, 9, 12, 21)]) rmL_firstUnits K [.ref x, .int p9, .ref o] (wX K x ad σ us ++ [kJ K o 1 f]) (kHo K x o (oGet σ p9 (fun τ => nI (mg (τ.2.2 0) 0).1))) (fun _ => False) := by
  refine kXH_of lkC_yL_firstUnits (pl := []) (X := (wX K x ad σ us ++ [kJ K o 1 f])) (List.append_nil _).symm (by decide) (Nat.le_of_ble_eq_true rfl) ?_
  intro p e s m args below meth cd A Q hC hTb hE
  refine k_aload_n hC 2 dL_firstUnits_0 rfl rfl ?_
  refine k_iconst hC (nI 0) dL_firstUnits_1 rfl ?_
  refine k_aload_n hC 0 dL_firstUnits_2 rfl rfl ?_
  refine k_iload_n hC 1 dL_firstUnits_3 rfl rfl ?_
  refine k_callXC hC (As := [.int p9]) (cX3_firstUnits_k hst K x ad σ us hσ hU p9) [kJ K o 1 f] rfl 0 rfl rfl (kAll5 lkM_L_76 lkI_yX3_firstUnits lkS_yX3_firstUnits lkN_X3 lkC_yX3_firstUnits) 1 (by decide) ⟨(Nat.le_of_ble_eq_true rfl), (Nat.le_of_ble_eq_true rfl)⟩ rfl rfl (Nat.le_of_ble_eq_true rfl) ⟨(Nat.le_of_ble_eq_true rfl), (Nat.le_of_ble_eq_true rfl)⟩ dL_firstUnits_4 (fun E q => ?_) (fun v w h => ?_)
  · rcases q with ⟨q1, rfl⟩ | ⟨q1, rfl⟩
    · refine ⟨by decide, [], _, _, hTb.trans rfl, (fun z hz => absurd hz List.not_mem_nil), rfl, by decide, lkL_L_21, fun q9 => ?_⟩
      refine k_re 1 6 ((wX K x ad σ us ++ [kJ K o 1 f])) [.ref q9] rfl rfl rfl rfl ?_
      refine k_astore_n hC 3 dL_firstUnits_12 rfl (by decide) rfl [(0, .ref x), (1, .int p9), (2, .ref o), (3, .ref q9)] rfl ?_
      refine k_iconst hC (nI 1) dL_firstUnits_13 rfl ?_
      exact k_iret hC hE (Nat.le_of_ble_eq_true rfl) (Nat.le_of_ble_eq_true rfl) dL_firstUnits_14 ⟨by rw [q1], ad, us, f, by rw [oGet_st _ p9 (fun τ => nI (mg (τ.2.2 0) 0).1) (by rw [q1]; decide)]; exact List.append_nil _, by rw [oGet_st _ p9 (fun τ => nI (mg (τ.2.2 0) 0).1) (by rw [q1]; decide)]; exact hU, fun z => absurd (z.symm.trans q1) (by decide)⟩
    · exact absurd q1 (fun z => oGet_n2 _ p9 (fun τ => nI (mg (τ.2.2 0) 0).1) z)
  · obtain ⟨h0, rfl, ad2, us2, rfl, hU2⟩ := h
    refine k_re 1 6 ((wX K x ad2 (oGet σ p9 (fun τ => nI (mg (τ.2.2 0) 0).1)).2.2 us2 ++ [kJ K o 1 f])) [.int ((oGet σ p9 (fun τ => nI (mg (τ.2.2 0) 0).1)).2.1), .int (nI 0), .ref o] rfl rfl rfl rfl ?_
    refine k_i2l hC dL_firstUnits_7 ?_
    refine k_perm2 [] ([kJ K o 1 f] ++ wX K x ad2 (oGet σ p9 (fun τ => nI (mg (τ.2.2 0) 0).1)).2.2 us2) (by rw [List.append_nil, List.append_nil]; exact List.perm_append_comm) ?_
    refine k_jast hC 0 rfl (by decide) (by decide) dL_firstUnits_8 ([kJ K o 1 (vp_updL f 0 ((((oGet σ p9 (fun τ => nI (mg (τ.2.2 0) 0).1)).2.1)).toInt64))] ++ wX K x ad2 (oGet σ p9 (fun τ => nI (mg (τ.2.2 0) 0).1)).2.2 us2) rfl ?_
    refine k_perm2 [] (wX K x ad2 (oGet σ p9 (fun τ => nI (mg (τ.2.2 0) 0).1)).2.2 us2 ++ [kJ K o 1 (vp_updL f 0 ((((oGet σ p9 (fun τ => nI (mg (τ.2.2 0) 0).1)).2.1)).toInt64))]) (by rw [List.append_nil, List.append_nil]; exact List.perm_append_comm) ?_
    refine k_goto hC 15 dL_firstUnits_9 (by decide) ?_
    refine k_iconst hC (nI 0) dL_firstUnits_15 rfl ?_
    exact k_iret hC hE (Nat.le_of_ble_eq_true rfl) (Nat.le_of_ble_eq_true rfl) dL_firstUnits_16 ⟨by rw [h0], ad2, us2, _, List.append_nil _, hU2, fun _ => if_pos rfl⟩
abbrev rmL_starved : Room := { frames := 8, cells := 1, slots := 6, locals := 143 }
set_option maxRecDepth 100000 in
set_option maxHeartbeats 4000000 in
theorem cL_starved_k {l : Launch} (hst : l.stackTraces = false) (K : kE) (x : Nat) (ad : Nat → Nat → Nat) (σ : mS) (us : Nat → Nat → Nat → Int32) (hσ : mSok σ) (hU : mURT σ us) (o : Nat) (f : Nat → Int64) (p9 : Int32) : kX l yL_starved (kwh yL_starved cL_starved 4 (some .int) [(0, 9, 12, 21)]) rmL_starved K [.ref x, .int p9, .ref o] (wX K x ad σ us ++ [kJ K o 1 f]) (kHo K x o (oGet σ p9 (fun τ => τ.2.1 0))) (fun _ => False) := by
  refine kXH_of lkC_yL_starved (pl := []) (X := (wX K x ad σ us ++ [kJ K o 1 f])) (List.append_nil _).symm (by decide) (Nat.le_of_ble_eq_true rfl) ?_
  intro p e s m args below meth cd A Q hC hTb hE
  refine k_aload_n hC 2 dL_starved_0 rfl rfl ?_
  refine k_iconst hC (nI 0) dL_starved_1 rfl ?_
  refine k_aload_n hC 0 dL_starved_2 rfl rfl ?_
  refine k_iload_n hC 1 dL_starved_3 rfl rfl ?_
  refine k_callXC hC (As := [.int p9]) (cX3_starved_k hst K x ad σ us hσ hU p9) [kJ K o 1 f] rfl 0 rfl rfl (kAll5 lkM_L_79 lkI_yX3_starved lkS_yX3_starved lkN_X3 lkC_yX3_starved) 1 (by decide) ⟨(Nat.le_of_ble_eq_true rfl), (Nat.le_of_ble_eq_true rfl)⟩ rfl rfl (Nat.le_of_ble_eq_true rfl) ⟨(Nat.le_of_ble_eq_true rfl), (Nat.le_of_ble_eq_true rfl)⟩ dL_starved_4 (fun E q => ?_) (fun v w h => ?_)
  · rcases q with ⟨q1, rfl⟩ | ⟨q1, rfl⟩
    · refine ⟨by decide, [], _, _, hTb.trans rfl, (fun z hz => absurd hz List.not_mem_nil), rfl, by decide, lkL_L_21, fun q9 => ?_⟩
      refine k_re 1 6 ((wX K x ad σ us ++ [kJ K o 1 f])) [.ref q9] rfl rfl rfl rfl ?_
      refine k_astore_n hC 3 dL_starved_12 rfl (by decide) rfl [(0, .ref x), (1, .int p9), (2, .ref o), (3, .ref q9)] rfl ?_
      refine k_iconst hC (nI 1) dL_starved_13 rfl ?_
      exact k_iret hC hE (Nat.le_of_ble_eq_true rfl) (Nat.le_of_ble_eq_true rfl) dL_starved_14 ⟨by rw [q1], ad, us, f, by rw [oGet_st _ p9 (fun τ => τ.2.1 0) (by rw [q1]; decide)]; exact List.append_nil _, by rw [oGet_st _ p9 (fun τ => τ.2.1 0) (by rw [q1]; decide)]; exact hU, fun z => absurd (z.symm.trans q1) (by decide)⟩
    · exact absurd q1 (fun z => oGet_n2 _ p9 (fun τ => τ.2.1 0) z)
  · obtain ⟨h0, rfl, ad2, us2, rfl, hU2⟩ := h
    refine k_re 1 6 ((wX K x ad2 (oGet σ p9 (fun τ => τ.2.1 0)).2.2 us2 ++ [kJ K o 1 f])) [.int ((oGet σ p9 (fun τ => τ.2.1 0)).2.1), .int (nI 0), .ref o] rfl rfl rfl rfl ?_
    refine k_i2l hC dL_starved_7 ?_
    refine k_perm2 [] ([kJ K o 1 f] ++ wX K x ad2 (oGet σ p9 (fun τ => τ.2.1 0)).2.2 us2) (by rw [List.append_nil, List.append_nil]; exact List.perm_append_comm) ?_
    refine k_jast hC 0 rfl (by decide) (by decide) dL_starved_8 ([kJ K o 1 (vp_updL f 0 ((((oGet σ p9 (fun τ => τ.2.1 0)).2.1)).toInt64))] ++ wX K x ad2 (oGet σ p9 (fun τ => τ.2.1 0)).2.2 us2) rfl ?_
    refine k_perm2 [] (wX K x ad2 (oGet σ p9 (fun τ => τ.2.1 0)).2.2 us2 ++ [kJ K o 1 (vp_updL f 0 ((((oGet σ p9 (fun τ => τ.2.1 0)).2.1)).toInt64))]) (by rw [List.append_nil, List.append_nil]; exact List.perm_append_comm) ?_
    refine k_goto hC 15 dL_starved_9 (by decide) ?_
    refine k_iconst hC (nI 0) dL_starved_15 rfl ?_
    exact k_iret hC hE (Nat.le_of_ble_eq_true rfl) (Nat.le_of_ble_eq_true rfl) dL_starved_16 ⟨by rw [h0], ad2, us2, _, List.append_nil _, hU2, fun _ => if_pos rfl⟩
