/-! the law's own line: what is refused -/
abbrev rmL_refused : Room := { frames := 9, cells := 3, slots := 18, locals := 168 }
set_option maxRecDepth 100000 in
set_option maxHeartbeats 4000000 in
theorem cL_refused_0 {l : Launch} (hst : l.stackTraces = false) (K : kE) (x : Nat) (ad : Nat → Nat → Nat) (σ : mS) (us : Nat → Nat → Nat → Int32) (hσ : mSok σ) (hU : mURT σ us) (v9 b9 : Int32) (hne : (oStep σ v9).1 ≠ 0) : kX l yL_refused (kwh yL_refused cL_refused 5 (some .int) [(0, 85, 86, 60), (0, 85, 90, 62), (0, 85, 94, 64)]) rmL_refused K [.ref x, .int (nI 0), .int v9, .int b9] (wX K x ad σ us) (fun v w => v = some (.int (nI (if (oStep σ v9).1 = 1 then 3 else 2))) ∧ w = wX K x ad σ us) (fun _ => False) := by
  refine kXH_of lkC_yL_refused (pl := []) (X := (wX K x ad σ us)) (List.append_nil _).symm (by decide) (Nat.le_of_ble_eq_true rfl) ?_
  intro p e s m args below meth cd A Q hC hTb hE
  refine k_iload_n hC 1 dL_refused_0 rfl rfl ?_
  refine k_if_neN hC 12 dL_refused_1 (by decide) (by decide) (fun c9 => absurd rfl c9) (fun c9 => ?_)
  refine k_aload_n hC 0 dL_refused_4 rfl rfl ?_
  refine k_iload_n hC 2 dL_refused_5 rfl rfl ?_
  refine k_callXC hC (As := [.int v9]) (cX3_step_k hst K x ad σ us hσ hU v9) [] (List.append_nil _).symm 0 rfl rfl (kAll5 lkM_L_35 lkI_yX3_step lkS_yX3_step lkN_X3 lkC_yX3_step) 1 (by decide) ⟨(Nat.le_of_ble_eq_true rfl), (Nat.le_of_ble_eq_true rfl)⟩ rfl rfl (Nat.le_of_ble_eq_true rfl) ⟨(Nat.le_of_ble_eq_true rfl), (Nat.le_of_ble_eq_true rfl)⟩ dL_refused_6 (fun E q => ?_) (fun v w h => ?_)
  · rcases q with ⟨q1, rfl⟩ | ⟨q1, rfl⟩
    · refine ⟨by decide, [_, _], _, _, hTb.trans rfl, (fun z hz => by
        rcases List.mem_cons.mp hz with rfl | hz
        · exact Or.inr ⟨by decide, _, lkL_L_60, by decide⟩
        · rw [List.mem_singleton] at hz; subst hz; exact Or.inr ⟨by decide, _, lkL_L_62, by decide⟩), rfl, by decide, lkL_L_64, fun q9 => ?_⟩
      refine k_re 2 12 ((wX K x ad σ us)) [.ref q9] rfl rfl rfl rfl ?_
      refine k_astore hC dL_refused_94 (by decide) rfl [(0, .ref x), (1, .int (nI 0)), (2, .int v9), (3, .int b9), (4, .ref q9)] rfl ?_
      refine k_iconst hC (nI 3) dL_refused_96 rfl ?_
      exact k_iret hC hE (Nat.le_of_ble_eq_true rfl) (Nat.le_of_ble_eq_true rfl) dL_refused_97 ⟨by rw [q1]; rfl, List.append_nil _⟩
    · refine ⟨by decide, [_], _, _, hTb.trans rfl, (fun z hz => by rw [List.mem_singleton] at hz; subst hz; exact Or.inr ⟨by decide, _, lkL_L_60, by decide⟩), rfl, by decide, lkL_L_62, fun q9 => ?_⟩
      refine k_re 2 12 ((wX K x ad σ us)) [.ref q9] rfl rfl rfl rfl ?_
      refine k_astore hC dL_refused_90 (by decide) rfl [(0, .ref x), (1, .int (nI 0)), (2, .int v9), (3, .int b9), (4, .ref q9)] rfl ?_
      refine k_iconst hC (nI 2) dL_refused_92 rfl ?_
      exact k_iret hC hE (Nat.le_of_ble_eq_true rfl) (Nat.le_of_ble_eq_true rfl) dL_refused_93 ⟨by rw [q1]; rfl, List.append_nil _⟩
  · exact absurd h.1 hne
set_option maxRecDepth 100000 in
set_option maxHeartbeats 4000000 in
theorem cL_refused_1 {l : Launch} (hst : l.stackTraces = false) (K : kE) (x : Nat) (ad : Nat → Nat → Nat) (σ : mS) (us : Nat → Nat → Nat → Int32) (hσ : mSok σ) (hU : mURT σ us) (p9 b9 : Int32) (hne : (oIssue σ p9).1 ≠ 0) : kX l yL_refused (kwh yL_refused cL_refused 5 (some .int) [(0, 85, 86, 60), (0, 85, 90, 62), (0, 85, 94, 64)]) rmL_refused K [.ref x, .int (nI 1), .int p9, .int b9] (wX K x ad σ us) (fun v w => v = some (.int (nI (if (oIssue σ p9).1 = 1 then 1 else 2))) ∧ w = wX K x ad σ us) (fun _ => False) := by
  refine kXH_of lkC_yL_refused (pl := []) (X := (wX K x ad σ us)) (List.append_nil _).symm (by decide) (Nat.le_of_ble_eq_true rfl) ?_
  intro p e s m args below meth cd A Q hC hTb hE
  refine k_iload_n hC 1 dL_refused_0 rfl rfl ?_
  refine k_if_neN hC 12 dL_refused_1 (by decide) (by decide) (fun c9 => ?_) (fun c9 => absurd c9 (by decide))
  refine k_iload_n hC 1 dL_refused_12 rfl rfl ?_
  refine k_iconst hC (nI 1) dL_refused_13 rfl ?_
  refine k_icmp_neN hC 25 dL_refused_14 (by decide) (by decide) (by decide) (fun c9 => absurd rfl c9) (fun c9 => ?_)
  refine k_aload_n hC 0 dL_refused_17 rfl rfl ?_
  refine k_iload_n hC 2 dL_refused_18 rfl rfl ?_
  refine k_callXC hC (As := [.int p9]) (cX3_issue_k hst K x ad σ us hσ hU p9) [] (List.append_nil _).symm 0 rfl rfl (kAll5 lkM_L_41 lkI_yX3_issue lkS_yX3_issue lkN_X3 lkC_yX3_issue) 1 (by decide) ⟨(Nat.le_of_ble_eq_true rfl), (Nat.le_of_ble_eq_true rfl)⟩ rfl rfl (Nat.le_of_ble_eq_true rfl) ⟨(Nat.le_of_ble_eq_true rfl), (Nat.le_of_ble_eq_true rfl)⟩ dL_refused_19 (fun E q => ?_) (fun v w h => ?_)
  · rcases q with ⟨q1, rfl⟩ | ⟨q1, rfl⟩
    · refine ⟨by decide, [], _, _, hTb.trans rfl, (fun z hz => absurd hz List.not_mem_nil), rfl, by decide, lkL_L_60, fun q9 => ?_⟩
      refine k_re 2 12 ((wX K x ad σ us)) [.ref q9] rfl rfl rfl rfl ?_
      refine k_astore hC dL_refused_86 (by decide) rfl [(0, .ref x), (1, .int (nI 1)), (2, .int p9), (3, .int b9), (4, .ref q9)] rfl ?_
      refine k_iconst hC (nI 1) dL_refused_88 rfl ?_
      exact k_iret hC hE (Nat.le_of_ble_eq_true rfl) (Nat.le_of_ble_eq_true rfl) dL_refused_89 ⟨by rw [q1]; rfl, List.append_nil _⟩
    · refine ⟨by decide, [_], _, _, hTb.trans rfl, (fun z hz => by rw [List.mem_singleton] at hz; subst hz; exact Or.inr ⟨by decide, _, lkL_L_60, by decide⟩), rfl, by decide, lkL_L_62, fun q9 => ?_⟩
      refine k_re 2 12 ((wX K x ad σ us)) [.ref q9] rfl rfl rfl rfl ?_
      refine k_astore hC dL_refused_90 (by decide) rfl [(0, .ref x), (1, .int (nI 1)), (2, .int p9), (3, .int b9), (4, .ref q9)] rfl ?_
      refine k_iconst hC (nI 2) dL_refused_92 rfl ?_
      exact k_iret hC hE (Nat.le_of_ble_eq_true rfl) (Nat.le_of_ble_eq_true rfl) dL_refused_93 ⟨by rw [q1]; rfl, List.append_nil _⟩
  · exact absurd h.1 hne
set_option maxRecDepth 100000 in
set_option maxHeartbeats 4000000 in
theorem cL_refused_2 {l : Launch} (hst : l.stackTraces = false) (K : kE) (x : Nat) (ad : Nat → Nat → Nat) (σ : mS) (us : Nat → Nat → Nat → Int32) (hσ : mSok σ) (hU : mURT σ us) (p9 b9 : Int32) (hne : (oRetire σ p9).1 ≠ 0) : kX l yL_refused (kwh yL_refused cL_refused 5 (some .int) [(0, 85, 86, 60), (0, 85, 90, 62), (0, 85, 94, 64)]) rmL_refused K [.ref x, .int (nI 2), .int p9, .int b9] (wX K x ad σ us) (fun v w => v = some (.int (nI (if (oRetire σ p9).1 = 1 then 1 else 2))) ∧ w = wX K x ad σ us) (fun _ => False) := by
  refine kXH_of lkC_yL_refused (pl := []) (X := (wX K x ad σ us)) (List.append_nil _).symm (by decide) (Nat.le_of_ble_eq_true rfl) ?_
  intro p e s m args below meth cd A Q hC hTb hE
  refine k_iload_n hC 1 dL_refused_0 rfl rfl ?_
  refine k_if_neN hC 12 dL_refused_1 (by decide) (by decide) (fun c9 => ?_) (fun c9 => absurd c9 (by decide))
  refine k_iload_n hC 1 dL_refused_12 rfl rfl ?_
  refine k_iconst hC (nI 1) dL_refused_13 rfl ?_
  refine k_icmp_neN hC 25 dL_refused_14 (by decide) (by decide) (by decide) (fun c9 => ?_) (fun c9 => absurd c9 (by decide))
  refine k_iload_n hC 1 dL_refused_25 rfl rfl ?_
  refine k_iconst hC (nI 2) dL_refused_26 rfl ?_
  refine k_icmp_neN hC 38 dL_refused_27 (by decide) (by decide) (by decide) (fun c9 => absurd rfl c9) (fun c9 => ?_)
  refine k_aload_n hC 0 dL_refused_30 rfl rfl ?_
  refine k_iload_n hC 2 dL_refused_31 rfl rfl ?_
  refine k_callXC hC (As := [.int p9]) (cX3_retire_k hst K x ad σ us hσ hU p9) [] (List.append_nil _).symm 0 rfl rfl (kAll5 lkM_L_44 lkI_yX3_retire lkS_yX3_retire lkN_X3 lkC_yX3_retire) 1 (by decide) ⟨(Nat.le_of_ble_eq_true rfl), (Nat.le_of_ble_eq_true rfl)⟩ rfl rfl (Nat.le_of_ble_eq_true rfl) ⟨(Nat.le_of_ble_eq_true rfl), (Nat.le_of_ble_eq_true rfl)⟩ dL_refused_32 (fun E q => ?_) (fun v w h => ?_)
  · rcases q with ⟨q1, rfl⟩ | ⟨q1, rfl⟩
    · refine ⟨by decide, [], _, _, hTb.trans rfl, (fun z hz => absurd hz List.not_mem_nil), rfl, by decide, lkL_L_60, fun q9 => ?_⟩
      refine k_re 2 12 ((wX K x ad σ us)) [.ref q9] rfl rfl rfl rfl ?_
      refine k_astore hC dL_refused_86 (by decide) rfl [(0, .ref x), (1, .int (nI 2)), (2, .int p9), (3, .int b9), (4, .ref q9)] rfl ?_
      refine k_iconst hC (nI 1) dL_refused_88 rfl ?_
      exact k_iret hC hE (Nat.le_of_ble_eq_true rfl) (Nat.le_of_ble_eq_true rfl) dL_refused_89 ⟨by rw [q1]; rfl, List.append_nil _⟩
    · refine ⟨by decide, [_], _, _, hTb.trans rfl, (fun z hz => by rw [List.mem_singleton] at hz; subst hz; exact Or.inr ⟨by decide, _, lkL_L_60, by decide⟩), rfl, by decide, lkL_L_62, fun q9 => ?_⟩
      refine k_re 2 12 ((wX K x ad σ us)) [.ref q9] rfl rfl rfl rfl ?_
      refine k_astore hC dL_refused_90 (by decide) rfl [(0, .ref x), (1, .int (nI 2)), (2, .int p9), (3, .int b9), (4, .ref q9)] rfl ?_
      refine k_iconst hC (nI 2) dL_refused_92 rfl ?_
      exact k_iret hC hE (Nat.le_of_ble_eq_true rfl) (Nat.le_of_ble_eq_true rfl) dL_refused_93 ⟨by rw [q1]; rfl, List.append_nil _⟩
  · exact absurd h.1 hne
set_option maxRecDepth 100000 in
set_option maxHeartbeats 4000000 in
theorem cL_refused_3 {l : Launch} (hst : l.stackTraces = false) (K : kE) (x : Nat) (ad : Nat → Nat → Nat) (σ : mS) (us : Nat → Nat → Nat → Int32) (hσ : mSok σ) (hU : mURT σ us) (p9 b9 : Int32) (hne : (oIssueC σ p9).1 ≠ 0) : kX l yL_refused (kwh yL_refused cL_refused 5 (some .int) [(0, 85, 86, 60), (0, 85, 90, 62), (0, 85, 94, 64)]) rmL_refused K [.ref x, .int (nI 3), .int p9, .int b9] (wX K x ad σ us) (fun v w => v = some (.int (nI (if (oIssueC σ p9).1 = 1 then 1 else 2))) ∧ w = wX K x ad σ us) (fun _ => False) := by
  refine kXH_of lkC_yL_refused (pl := []) (X := (wX K x ad σ us)) (List.append_nil _).symm (by decide) (Nat.le_of_ble_eq_true rfl) ?_
  intro p e s m args below meth cd A Q hC hTb hE
  refine k_iload_n hC 1 dL_refused_0 rfl rfl ?_
  refine k_if_neN hC 12 dL_refused_1 (by decide) (by decide) (fun c9 => ?_) (fun c9 => absurd c9 (by decide))
  refine k_iload_n hC 1 dL_refused_12 rfl rfl ?_
  refine k_iconst hC (nI 1) dL_refused_13 rfl ?_
  refine k_icmp_neN hC 25 dL_refused_14 (by decide) (by decide) (by decide) (fun c9 => ?_) (fun c9 => absurd c9 (by decide))
  refine k_iload_n hC 1 dL_refused_25 rfl rfl ?_
  refine k_iconst hC (nI 2) dL_refused_26 rfl ?_
  refine k_icmp_neN hC 38 dL_refused_27 (by decide) (by decide) (by decide) (fun c9 => ?_) (fun c9 => absurd c9 (by decide))
  refine k_iload_n hC 1 dL_refused_38 rfl rfl ?_
  refine k_iconst hC (nI 3) dL_refused_39 rfl ?_
  refine k_icmp_neN hC 51 dL_refused_40 (by decide) (by decide) (by decide) (fun c9 => absurd rfl c9) (fun c9 => ?_)
  refine k_aload_n hC 0 dL_refused_43 rfl rfl ?_
  refine k_iload_n hC 2 dL_refused_44 rfl rfl ?_
  refine k_callXC hC (As := [.int p9]) (cX3_issueConveyance_k hst K x ad σ us hσ hU p9) [] (List.append_nil _).symm 0 rfl rfl (kAll5 lkM_L_47 lkI_yX3_issueConveyance lkS_yX3_issueConveyance lkN_X3 lkC_yX3_issueConveyance) 1 (by decide) ⟨(Nat.le_of_ble_eq_true rfl), (Nat.le_of_ble_eq_true rfl)⟩ rfl rfl (Nat.le_of_ble_eq_true rfl) ⟨(Nat.le_of_ble_eq_true rfl), (Nat.le_of_ble_eq_true rfl)⟩ dL_refused_45 (fun E q => ?_) (fun v w h => ?_)
  · rcases q with ⟨q1, rfl⟩ | ⟨q1, rfl⟩
    · refine ⟨by decide, [], _, _, hTb.trans rfl, (fun z hz => absurd hz List.not_mem_nil), rfl, by decide, lkL_L_60, fun q9 => ?_⟩
      refine k_re 3 18 ((wX K x ad σ us)) [.ref q9] rfl rfl rfl rfl ?_
      refine k_astore hC dL_refused_86 (by decide) rfl [(0, .ref x), (1, .int (nI 3)), (2, .int p9), (3, .int b9), (4, .ref q9)] rfl ?_
      refine k_iconst hC (nI 1) dL_refused_88 rfl ?_
      exact k_iret hC hE (Nat.le_of_ble_eq_true rfl) (Nat.le_of_ble_eq_true rfl) dL_refused_89 ⟨by rw [q1]; rfl, List.append_nil _⟩
    · refine ⟨by decide, [_], _, _, hTb.trans rfl, (fun z hz => by rw [List.mem_singleton] at hz; subst hz; exact Or.inr ⟨by decide, _, lkL_L_60, by decide⟩), rfl, by decide, lkL_L_62, fun q9 => ?_⟩
      refine k_re 3 18 ((wX K x ad σ us)) [.ref q9] rfl rfl rfl rfl ?_
      refine k_astore hC dL_refused_90 (by decide) rfl [(0, .ref x), (1, .int (nI 3)), (2, .int p9), (3, .int b9), (4, .ref q9)] rfl ?_
      refine k_iconst hC (nI 2) dL_refused_92 rfl ?_
      exact k_iret hC hE (Nat.le_of_ble_eq_true rfl) (Nat.le_of_ble_eq_true rfl) dL_refused_93 ⟨by rw [q1]; rfl, List.append_nil _⟩
  · exact absurd h.1 hne
set_option maxRecDepth 100000 in
set_option maxHeartbeats 4000000 in
theorem cL_refused_4 {l : Launch} (hst : l.stackTraces = false) (K : kE) (x : Nat) (ad : Nat → Nat → Nat) (σ : mS) (us : Nat → Nat → Nat → Int32) (hσ : mSok σ) (hU : mURT σ us) (p9 b9 : Int32) (hne : (oRetireC σ p9).1 ≠ 0) : kX l yL_refused (kwh yL_refused cL_refused 5 (some .int) [(0, 85, 86, 60), (0, 85, 90, 62), (0, 85, 94, 64)]) rmL_refused K [.ref x, .int (nI 4), .int p9, .int b9] (wX K x ad σ us) (fun v w => v = some (.int (nI (if (oRetireC σ p9).1 = 1 then 1 else 2))) ∧ w = wX K x ad σ us) (fun _ => False) := by
  refine kXH_of lkC_yL_refused (pl := []) (X := (wX K x ad σ us)) (List.append_nil _).symm (by decide) (Nat.le_of_ble_eq_true rfl) ?_
  intro p e s m args below meth cd A Q hC hTb hE
  refine k_iload_n hC 1 dL_refused_0 rfl rfl ?_
  refine k_if_neN hC 12 dL_refused_1 (by decide) (by decide) (fun c9 => ?_) (fun c9 => absurd c9 (by decide))
  refine k_iload_n hC 1 dL_refused_12 rfl rfl ?_
  refine k_iconst hC (nI 1) dL_refused_13 rfl ?_
  refine k_icmp_neN hC 25 dL_refused_14 (by decide) (by decide) (by decide) (fun c9 => ?_) (fun c9 => absurd c9 (by decide))
  refine k_iload_n hC 1 dL_refused_25 rfl rfl ?_
  refine k_iconst hC (nI 2) dL_refused_26 rfl ?_
  refine k_icmp_neN hC 38 dL_refused_27 (by decide) (by decide) (by decide) (fun c9 => ?_) (fun c9 => absurd c9 (by decide))
  refine k_iload_n hC 1 dL_refused_38 rfl rfl ?_
  refine k_iconst hC (nI 3) dL_refused_39 rfl ?_
  refine k_icmp_neN hC 51 dL_refused_40 (by decide) (by decide) (by decide) (fun c9 => ?_) (fun c9 => absurd c9 (by decide))
  refine k_iload_n hC 1 dL_refused_51 rfl rfl ?_
  refine k_iconst hC (nI 4) dL_refused_52 rfl ?_
  refine k_icmp_neN hC 64 dL_refused_53 (by decide) (by decide) (by decide) (fun c9 => absurd rfl c9) (fun c9 => ?_)
  refine k_aload_n hC 0 dL_refused_56 rfl rfl ?_
  refine k_iload_n hC 2 dL_refused_57 rfl rfl ?_
  refine k_callXC hC (As := [.int p9]) (cX3_retireConveyance_k hst K x ad σ us hσ hU p9) [] (List.append_nil _).symm 0 rfl rfl (kAll5 lkM_L_50 lkI_yX3_retireConveyance lkS_yX3_retireConveyance lkN_X3 lkC_yX3_retireConveyance) 1 (by decide) ⟨(Nat.le_of_ble_eq_true rfl), (Nat.le_of_ble_eq_true rfl)⟩ rfl rfl (Nat.le_of_ble_eq_true rfl) ⟨(Nat.le_of_ble_eq_true rfl), (Nat.le_of_ble_eq_true rfl)⟩ dL_refused_58 (fun E q => ?_) (fun v w h => ?_)
  · rcases q with ⟨q1, rfl⟩ | ⟨q1, rfl⟩
    · refine ⟨by decide, [], _, _, hTb.trans rfl, (fun z hz => absurd hz List.not_mem_nil), rfl, by decide, lkL_L_60, fun q9 => ?_⟩
      refine k_re 3 18 ((wX K x ad σ us)) [.ref q9] rfl rfl rfl rfl ?_
      refine k_astore hC dL_refused_86 (by decide) rfl [(0, .ref x), (1, .int (nI 4)), (2, .int p9), (3, .int b9), (4, .ref q9)] rfl ?_
      refine k_iconst hC (nI 1) dL_refused_88 rfl ?_
      exact k_iret hC hE (Nat.le_of_ble_eq_true rfl) (Nat.le_of_ble_eq_true rfl) dL_refused_89 ⟨by rw [q1]; rfl, List.append_nil _⟩
    · refine ⟨by decide, [_], _, _, hTb.trans rfl, (fun z hz => by rw [List.mem_singleton] at hz; subst hz; exact Or.inr ⟨by decide, _, lkL_L_60, by decide⟩), rfl, by decide, lkL_L_62, fun q9 => ?_⟩
      refine k_re 3 18 ((wX K x ad σ us)) [.ref q9] rfl rfl rfl rfl ?_
      refine k_astore hC dL_refused_90 (by decide) rfl [(0, .ref x), (1, .int (nI 4)), (2, .int p9), (3, .int b9), (4, .ref q9)] rfl ?_
      refine k_iconst hC (nI 2) dL_refused_92 rfl ?_
      exact k_iret hC hE (Nat.le_of_ble_eq_true rfl) (Nat.le_of_ble_eq_true rfl) dL_refused_93 ⟨by rw [q1]; rfl, List.append_nil _⟩
  · exact absurd h.1 hne
set_option maxRecDepth 100000 in
set_option maxHeartbeats 4000000 in
theorem cL_refused_5 {l : Launch} (hst : l.stackTraces = false) (K : kE) (x : Nat) (ad : Nat → Nat → Nat) (σ : mS) (us : Nat → Nat → Nat → Int32) (hσ : mSok σ) (hU : mURT σ us) (p9 v9 : Int32) (hne : (oWay σ p9 v9).1 ≠ 0) : kX l yL_refused (kwh yL_refused cL_refused 5 (some .int) [(0, 85, 86, 60), (0, 85, 90, 62), (0, 85, 94, 64)]) rmL_refused K [.ref x, .int (nI 5), .int p9, .int v9] (wX K x ad σ us) (fun v w => v = some (.int (nI (if (oWay σ p9 v9).1 = 1 then 1 else 3))) ∧ w = wX K x ad σ us) (fun _ => False) := by
  refine kXH_of lkC_yL_refused (pl := []) (X := (wX K x ad σ us)) (List.append_nil _).symm (by decide) (Nat.le_of_ble_eq_true rfl) ?_
  intro p e s m args below meth cd A Q hC hTb hE
  refine k_iload_n hC 1 dL_refused_0 rfl rfl ?_
  refine k_if_neN hC 12 dL_refused_1 (by decide) (by decide) (fun c9 => ?_) (fun c9 => absurd c9 (by decide))
  refine k_iload_n hC 1 dL_refused_12 rfl rfl ?_
  refine k_iconst hC (nI 1) dL_refused_13 rfl ?_
  refine k_icmp_neN hC 25 dL_refused_14 (by decide) (by decide) (by decide) (fun c9 => ?_) (fun c9 => absurd c9 (by decide))
  refine k_iload_n hC 1 dL_refused_25 rfl rfl ?_
  refine k_iconst hC (nI 2) dL_refused_26 rfl ?_
  refine k_icmp_neN hC 38 dL_refused_27 (by decide) (by decide) (by decide) (fun c9 => ?_) (fun c9 => absurd c9 (by decide))
  refine k_iload_n hC 1 dL_refused_38 rfl rfl ?_
  refine k_iconst hC (nI 3) dL_refused_39 rfl ?_
  refine k_icmp_neN hC 51 dL_refused_40 (by decide) (by decide) (by decide) (fun c9 => ?_) (fun c9 => absurd c9 (by decide))
  refine k_iload_n hC 1 dL_refused_51 rfl rfl ?_
  refine k_iconst hC (nI 4) dL_refused_52 rfl ?_
  refine k_icmp_neN hC 64 dL_refused_53 (by decide) (by decide) (by decide) (fun c9 => ?_) (fun c9 => absurd c9 (by decide))
  refine k_iload_n hC 1 dL_refused_64 rfl rfl ?_
  refine k_iconst hC (nI 5) dL_refused_65 rfl ?_
  refine k_icmp_neN hC 78 dL_refused_66 (by decide) (by decide) (by decide) (fun c9 => absurd rfl c9) (fun c9 => ?_)
  refine k_aload_n hC 0 dL_refused_69 rfl rfl ?_
  refine k_iload_n hC 2 dL_refused_70 rfl rfl ?_
  refine k_iload_n hC 3 dL_refused_71 rfl rfl ?_
  refine k_callXC hC (As := [.int p9, .int v9]) (cX3_way_k hst K x ad σ us hσ hU p9 v9) [] (List.append_nil _).symm 0 rfl rfl (kAll5 lkM_L_53 lkI_yX3_way lkS_yX3_way lkN_X3 lkC_yX3_way) 2 (by decide) ⟨(Nat.le_of_ble_eq_true rfl), (Nat.le_of_ble_eq_true rfl)⟩ rfl rfl (Nat.le_of_ble_eq_true rfl) ⟨(Nat.le_of_ble_eq_true rfl), (Nat.le_of_ble_eq_true rfl)⟩ dL_refused_72 (fun E q => ?_) (fun v w h => ?_)
  · rcases q with ⟨q1, rfl⟩ | ⟨q1, rfl⟩
    · refine ⟨by decide, [], _, _, hTb.trans rfl, (fun z hz => absurd hz List.not_mem_nil), rfl, by decide, lkL_L_60, fun q9 => ?_⟩
      refine k_re 3 18 ((wX K x ad σ us)) [.ref q9] rfl rfl rfl rfl ?_
      refine k_astore hC dL_refused_86 (by decide) rfl [(0, .ref x), (1, .int (nI 5)), (2, .int p9), (3, .int v9), (4, .ref q9)] rfl ?_
      refine k_iconst hC (nI 1) dL_refused_88 rfl ?_
      exact k_iret hC hE (Nat.le_of_ble_eq_true rfl) (Nat.le_of_ble_eq_true rfl) dL_refused_89 ⟨by rw [q1]; rfl, List.append_nil _⟩
    · refine ⟨by decide, [_, _], _, _, hTb.trans rfl, (fun z hz => by
        rcases List.mem_cons.mp hz with rfl | hz
        · exact Or.inr ⟨by decide, _, lkL_L_60, by decide⟩
        · rw [List.mem_singleton] at hz; subst hz; exact Or.inr ⟨by decide, _, lkL_L_62, by decide⟩), rfl, by decide, lkL_L_64, fun q9 => ?_⟩
      refine k_re 3 18 ((wX K x ad σ us)) [.ref q9] rfl rfl rfl rfl ?_
      refine k_astore hC dL_refused_94 (by decide) rfl [(0, .ref x), (1, .int (nI 5)), (2, .int p9), (3, .int v9), (4, .ref q9)] rfl ?_
      refine k_iconst hC (nI 3) dL_refused_96 rfl ?_
      exact k_iret hC hE (Nat.le_of_ble_eq_true rfl) (Nat.le_of_ble_eq_true rfl) dL_refused_97 ⟨by rw [q1]; rfl, List.append_nil _⟩
  · exact absurd h.1 hne
set_option maxRecDepth 100000 in
set_option maxHeartbeats 4000000 in
theorem cL_refused_6 {l : Launch} (hst : l.stackTraces = false) (K : kE) (x : Nat) (ad : Nat → Nat → Nat) (σ : mS) (us : Nat → Nat → Nat → Int32) (hσ : mSok σ) (hU : mURT σ us) (p9 b9 : Int32) (hne : (oGet σ p9 (fun τ => nI (τ.1 9))).1 ≠ 0) : kX l yL_refused (kwh yL_refused cL_refused 5 (some .int) [(0, 85, 86, 60), (0, 85, 90, 62), (0, 85, 94, 64)]) rmL_refused K [.ref x, .int (nI 6), .int p9, .int b9] (wX K x ad σ us) (fun v w => v = some (.int (nI (if (oGet σ p9 (fun τ => nI (τ.1 9))).1 = 1 then 1 else 0))) ∧ w = wX K x ad σ us) (fun _ => False) := by
  refine kXH_of lkC_yL_refused (pl := []) (X := (wX K x ad σ us)) (List.append_nil _).symm (by decide) (Nat.le_of_ble_eq_true rfl) ?_
  intro p e s m args below meth cd A Q hC hTb hE
  refine k_iload_n hC 1 dL_refused_0 rfl rfl ?_
  refine k_if_neN hC 12 dL_refused_1 (by decide) (by decide) (fun c9 => ?_) (fun c9 => absurd c9 (by decide))
  refine k_iload_n hC 1 dL_refused_12 rfl rfl ?_
  refine k_iconst hC (nI 1) dL_refused_13 rfl ?_
  refine k_icmp_neN hC 25 dL_refused_14 (by decide) (by decide) (by decide) (fun c9 => ?_) (fun c9 => absurd c9 (by decide))
  refine k_iload_n hC 1 dL_refused_25 rfl rfl ?_
  refine k_iconst hC (nI 2) dL_refused_26 rfl ?_
  refine k_icmp_neN hC 38 dL_refused_27 (by decide) (by decide) (by decide) (fun c9 => ?_) (fun c9 => absurd c9 (by decide))
  refine k_iload_n hC 1 dL_refused_38 rfl rfl ?_
  refine k_iconst hC (nI 3) dL_refused_39 rfl ?_
  refine k_icmp_neN hC 51 dL_refused_40 (by decide) (by decide) (by decide) (fun c9 => ?_) (fun c9 => absurd c9 (by decide))
  refine k_iload_n hC 1 dL_refused_51 rfl rfl ?_
  refine k_iconst hC (nI 4) dL_refused_52 rfl ?_
  refine k_icmp_neN hC 64 dL_refused_53 (by decide) (by decide) (by decide) (fun c9 => ?_) (fun c9 => absurd c9 (by decide))
  refine k_iload_n hC 1 dL_refused_64 rfl rfl ?_
  refine k_iconst hC (nI 5) dL_refused_65 rfl ?_
  refine k_icmp_neN hC 78 dL_refused_66 (by decide) (by decide) (by decide) (fun c9 => ?_) (fun c9 => absurd c9 (by decide))
  refine k_aload_n hC 0 dL_refused_78 rfl rfl ?_
  refine k_iload_n hC 2 dL_refused_79 rfl rfl ?_
  refine k_callXC hC (As := [.int p9]) (cX3_board_k hst K x ad σ us hσ hU p9) [] (List.append_nil _).symm 0 rfl rfl (kAll5 lkM_L_57 lkI_yX3_board lkS_yX3_board lkN_X3 lkC_yX3_board) 1 (by decide) ⟨(Nat.le_of_ble_eq_true rfl), (Nat.le_of_ble_eq_true rfl)⟩ rfl rfl (Nat.le_of_ble_eq_true rfl) ⟨(Nat.le_of_ble_eq_true rfl), (Nat.le_of_ble_eq_true rfl)⟩ dL_refused_80 (fun E q => ?_) (fun v w h => ?_)
  · rcases q with ⟨q1, rfl⟩ | ⟨q1, rfl⟩
    · refine ⟨by decide, [], _, _, hTb.trans rfl, (fun z hz => absurd hz List.not_mem_nil), rfl, by decide, lkL_L_60, fun q9 => ?_⟩
      refine k_re 1 6 ((wX K x ad σ us)) [.ref q9] rfl rfl rfl rfl ?_
      refine k_astore hC dL_refused_86 (by decide) rfl [(0, .ref x), (1, .int (nI 6)), (2, .int p9), (3, .int b9), (4, .ref q9)] rfl ?_
      refine k_iconst hC (nI 1) dL_refused_88 rfl ?_
      exact k_iret hC hE (Nat.le_of_ble_eq_true rfl) (Nat.le_of_ble_eq_true rfl) dL_refused_89 ⟨by rw [q1]; rfl, List.append_nil _⟩
    · exact absurd q1 (by unfold oGet; split <;> simp)
  · exact absurd h.1 hne
