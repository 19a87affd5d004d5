/-! a stage as numbers and lists; what its methods do to it; what always holds of it -/
abbrev mT : Type := (Nat → Nat) × (Nat → Int32) × (Nat → List (Nat × Nat))
def mGoOn (τ : mT) : mT := if τ.1 10 = 0 then τ else (va_up τ.1 10 (τ.1 10 - 1), τ.2.1, if τ.1 10 = 1 then va_up τ.2.2 0 (τ.2.2 0 ++ [(τ.1 2, 1)]) else τ.2.2)
def mBegin (r first : Bool) (τ : mT) : mT :=
  if first = true then (va_up (va_up (va_up τ.1 9 (τ.1 9 - 1)) 11 (τ.1 11 - 1)) 10 (τ.1 3), va_up τ.2.1 1 (τ.2.1 1 + nI (τ.1 2)), τ.2.2)
  else (va_up (va_up (va_up (va_up τ.1 14 (τ.1 14 + (mTake (τ.2.2 1) (τ.1 2) r).2)) 9 (τ.1 9 - 1)) 11 (τ.1 11 - 1)) 10 (τ.1 3), τ.2.1, va_up τ.2.2 1 (mTake (τ.2.2 1) (τ.1 2) r).1)
/-- the run that is on or begins -/
def mRun (τ : mT) : Nat := if τ.1 11 = 0 ∧ τ.1 7 ≤ τ.1 9 then τ.1 9 else τ.1 11
def mStart (r first : Bool) (τ : mT) : mT :=
  if mRun τ = 0 then τ
  else if first = false ∧ mU (τ.2.2 1) < τ.1 2 then (va_up τ.1 11 (mRun τ), va_up τ.2.1 0 (τ.2.1 0 + 1), τ.2.2)
  else mBegin r first (va_up τ.1 11 (mRun τ), τ.2.1, τ.2.2)
def mWork (r first : Bool) (τ : mT) : mT := if τ.1 12 ≠ 0 then τ else if (mGoOn τ).1 10 ≠ 0 then mGoOn τ else mStart r first (mGoOn τ)
def mBring (τ : mT) : mT := (τ.1, τ.2.1, va_up (va_up τ.2.2 1 (τ.2.2 1 ++ mArr (τ.2.2 2))) 2 (mStay (τ.2.2 2)))
/-- one container, x, fetched -/
def mGet (τ : mT) (x : Nat × Nat) : mT := (va_up τ.1 14 (τ.1 14 - 1), τ.2.1, if τ.1 15 = 0 then va_up τ.2.2 1 (τ.2.2 1 ++ [(x.1, 1)]) else va_up τ.2.2 2 (τ.2.2 2 ++ [(x.1, τ.1 15)]))
def mGive (α : mT) (x : Nat × Nat) (t : List (Nat × Nat)) : mT := (va_up α.1 9 (α.1 9 + x.2), α.2.1, va_up α.2.2 0 t)
def mFetch : Nat → mT → mT → mT × mT
  | 0, τ, α => (τ, α)
  | n + 1, τ, α => match α.2.2 0 with
    | [] => (τ, α)
    | x :: t => mFetch n (mGet τ x) (mGive α x t)
def mConvey (τ α : mT) : mT × mT := mFetch (min (τ.1 14) (α.2.2 0).length) (mBring τ) α
def mHeld (τ : mT) : Nat := mU (τ.2.2 0) + mU (τ.2.2 1) + mU (τ.2.2 2) + (if τ.1 10 = 0 then 0 else τ.1 2)
def mInv (first : Bool) (τ : mT) : Prop :=
  (1 ≤ τ.1 2 ∧ τ.1 2 ≤ 10 ∧ 1 ≤ τ.1 3 ∧ τ.1 3 ≤ 9 ∧ 1 ≤ τ.1 7 ∧ τ.1 7 ≤ 9 ∧ 1 ≤ τ.1 8 ∧ τ.1 8 ≤ 9 ∧ τ.1 12 ≤ 1 ∧ τ.1 11 ≤ τ.1 9 ∧ τ.1 10 ≤ 9 ∧ τ.1 13 ≤ 5 ∧ τ.1 15 ≤ 5) ∧
  τ.1 9 + (if τ.1 10 = 0 then 0 else 1) + mCs (τ.2.2 0) = τ.1 8 ∧ τ.1 14 + (τ.2.2 2).length + mCs (τ.2.2 1) = τ.1 13 ∧
  mOk (τ.2.2 0) ∧ mOk (τ.2.2 1) ∧ (∀ x ∈ τ.2.2 2, 1 ≤ x.1 ∧ x.1 ≤ 10 ∧ 1 ≤ x.2 ∧ x.2 ≤ 5) ∧ (if first = true then τ.1 13 = 0 ∧ τ.2.2 1 = [] ∧ τ.1 15 = 0 else 1 ≤ τ.1 13)
theorem mInv_L0 {b : Bool} {τ : mT} (h : mInv b τ) : (τ.2.2 0).length + τ.1 9 + (if τ.1 10 = 0 then 0 else 1) ≤ 10 := by
  obtain ⟨h1, h2, h3, h4, h5, h6, h7⟩ := h
  have := mOk_len h4
  omega
theorem mInv_L1 {b : Bool} {τ : mT} (h : mInv b τ) : (τ.2.2 1).length + τ.1 14 + (τ.2.2 2).length ≤ 6 := by
  obtain ⟨h1, h2, h3, h4, h5, h6, h7⟩ := h
  have := mOk_len h5
  omega
theorem mInv_L2 {b : Bool} {τ : mT} (h : mInv b τ) : τ.1 14 + (τ.2.2 2).length ≤ 5 := by
  obtain ⟨h1, h2, h3, h4, h5, h6, h7⟩ := h
  omega
theorem mGoOn_inv {b : Bool} {τ : mT} (h : mInv b τ) : mInv b (mGoOn τ) := by
  obtain ⟨h1, h2, h3, h4, h5, h6, h7⟩ := h
  unfold mGoOn
  split
  · exact ⟨h1, h2, h3, h4, h5, h6, h7⟩
  · next hn =>
    rw [if_neg hn] at h2
    split
    · next h10 =>
      refine ⟨by simp [va_up]; omega, ?_, ?_, ?_, ?_, ?_, ?_⟩
      · simp [va_up, h10, mCs_app, mCs]; omega
      · simpa [va_up] using h3
      · show mOk (τ.2.2 0 ++ [(τ.1 2, 1)])
        exact mOk_snoc h4 h1.1 h1.2.1
      · simpa [va_up] using h5
      · simpa [va_up] using h6
      · simpa [va_up] using h7
    · next h10 =>
      refine ⟨by simp [va_up]; omega, ?_, ?_, h4, h5, h6, ?_⟩
      · have : ¬ (τ.1 10 - 1 = 0) := by omega
        simp [va_up, this]; omega
      · simpa [va_up] using h3
      · simpa [va_up] using h7
theorem mRun_le {b : Bool} {τ : mT} (h : mInv b τ) : mRun τ ≤ τ.1 9 := by
  unfold mRun
  have := h.1
  split <;> omega
theorem mRun_inv {b : Bool} {τ : mT} (h : mInv b τ) : mInv b (va_up τ.1 11 (mRun τ), τ.2.1, τ.2.2) := by
  have hr := mRun_le h
  obtain ⟨h1, h2, h3, h4, h5, h6, h7⟩ := h
  refine ⟨by simp [va_up]; omega, ?_, ?_, h4, h5, h6, ?_⟩
  · simpa [va_up] using h2
  · simpa [va_up] using h3
  · simpa [va_up] using h7
theorem mBegin_inv {b r : Bool} {τ : mT} (h : mInv b τ) (h10 : τ.1 10 = 0) (h11 : τ.1 11 ≠ 0) : mInv b (mBegin r b τ) := by
  obtain ⟨h1, h2, h3, h4, h5, h6, h7⟩ := h
  rw [if_pos h10] at h2
  have h33 : τ.1 3 ≠ 0 := by omega
  unfold mBegin
  split
  · next hb =>
    refine ⟨by simp [va_up]; omega, ?_, ?_, h4, h5, h6, ?_⟩
    · simp [va_up, h33]; omega
    · simpa [va_up] using h3
    · simpa [va_up] using h7
  · next hb =>
    have hc := mTake_Cs (τ.2.2 1) (τ.1 2) r
    refine ⟨by simp [va_up]; omega, ?_, ?_, ?_, ?_, ?_, ?_⟩
    · simp [va_up, h33]; omega
    · simp [va_up]; omega
    · simpa [va_up] using h4
    · exact mTake_ok h5 _ _
    · simpa [va_up] using h6
    · rw [if_neg hb] at h7 ⊢
      simpa [va_up] using h7
theorem mStart_inv {b r : Bool} {τ : mT} (h : mInv b τ) (h10 : τ.1 10 = 0) : mInv b (mStart r b τ) := by
  unfold mStart
  split
  · exact h
  · next hr =>
    have h2 := mRun_inv h
    split
    · exact ⟨h2.1, h2.2.1, h2.2.2.1, h2.2.2.2.1, h2.2.2.2.2.1, h2.2.2.2.2.2.1, h2.2.2.2.2.2.2⟩
    · exact mBegin_inv h2 (by simpa [va_up] using h10) (by simpa [va_up] using hr)
theorem mWork_inv {b r : Bool} {τ : mT} (h : mInv b τ) : mInv b (mWork r b τ) := by
  unfold mWork
  split
  · exact h
  · split
    · exact mGoOn_inv h
    · next h10 => exact mStart_inv (mGoOn_inv h) (by simpa using h10)
theorem mArr_len (R : List (Nat × Nat)) (n : Nat) : mCs (mArr R) = (mArr R).length := by
  induction R with
  | nil => rfl
  | cons x t ih =>
    unfold mArr
    split
    · exact ih
    · simp only [mCs, List.length_cons, ih]; omega
theorem mArr_ok {R L : List (Nat × Nat)} (h : mOk L) (hR : ∀ x ∈ R, 1 ≤ x.1 ∧ x.1 ≤ 10 ∧ 1 ≤ x.2 ∧ x.2 ≤ 5) : mOk (L ++ mArr R) := by
  induction R generalizing L with
  | nil => simpa [mArr] using h
  | cons x t ih =>
    have hx := hR x List.mem_cons_self
    have ht := fun y hy => hR y (List.mem_cons_of_mem x hy)
    unfold mArr
    split
    · exact ih h ht
    · have := ih (mOk_snoc h hx.1 hx.2.1) ht
      rw [List.append_assoc] at this
      exact this
theorem mStay_ok {R : List (Nat × Nat)} (hR : ∀ x ∈ R, 1 ≤ x.1 ∧ x.1 ≤ 10 ∧ 1 ≤ x.2 ∧ x.2 ≤ 5) : ∀ x ∈ mStay R, 1 ≤ x.1 ∧ x.1 ≤ 10 ∧ 1 ≤ x.2 ∧ x.2 ≤ 5 := by
  induction R with
  | nil => intro x hx; cases hx
  | cons x t ih =>
    have hx := hR x List.mem_cons_self
    have ht := ih (fun y hy => hR y (List.mem_cons_of_mem x hy))
    unfold mStay
    split
    · intro y hy
      rcases List.mem_cons.mp hy with e | e
      · rw [e]; exact ⟨hx.1, hx.2.1, by show 1 ≤ x.2 - 1; omega, by show x.2 - 1 ≤ 5; omega⟩
      · exact ht y e
    · exact ht
theorem mBring_inv {τ : mT} (h : mInv false τ) : mInv false (mBring τ) := by
  obtain ⟨h1, h2, h3, h4, h5, h6, h7⟩ := h
  have hl := mStay_len (τ.2.2 2)
  have hc := mArr_len (τ.2.2 2) 0
  refine ⟨h1, h2, ?_, h4, ?_, ?_, h7⟩
  · show τ.1 14 + (mStay (τ.2.2 2)).length + mCs (τ.2.2 1 ++ mArr (τ.2.2 2)) = τ.1 13
    rw [mCs_app]; omega
  · show mOk (τ.2.2 1 ++ mArr (τ.2.2 2))
    exact mArr_ok h5 h6
  · show ∀ x ∈ mStay (τ.2.2 2), _
    exact mStay_ok h6
theorem mGet_inv {τ : mT} {x : Nat × Nat} (h : mInv false τ) (hw : 1 ≤ τ.1 14) (h1x : 1 ≤ x.1) (h2x : x.1 ≤ 10) : mInv false (mGet τ x) := by
  obtain ⟨h1, h2, h3, h4, h5, h6, h7⟩ := h
  unfold mGet
  split
  · refine ⟨by simp [va_up]; omega, ?_, ?_, ?_, ?_, ?_, ?_⟩
    · simpa [va_up] using h2
    · simp [va_up, mCs_app, mCs]; omega
    · simpa [va_up] using h4
    · show mOk (τ.2.2 1 ++ [(x.1, 1)])
      exact mOk_snoc h5 h1x h2x
    · simpa [va_up] using h6
    · simpa [va_up] using h7
  · next h15 =>
    refine ⟨by simp [va_up]; omega, ?_, ?_, ?_, ?_, ?_, ?_⟩
    · simpa [va_up] using h2
    · simp [va_up]; omega
    · simpa [va_up] using h4
    · simpa [va_up] using h5
    · show ∀ y ∈ τ.2.2 2 ++ [(x.1, τ.1 15)], _
      intro y hy
      rcases List.mem_append.mp hy with e | e
      · exact h6 y e
      · rw [List.mem_singleton.mp e]
        exact ⟨h1x, h2x, by show 1 ≤ τ.1 15; omega, by show τ.1 15 ≤ 5; omega⟩
    · simpa [va_up] using h7
theorem mGive_inv {b : Bool} {α : mT} {x : Nat × Nat} {t : List (Nat × Nat)} (h : mInv b α) (hx : α.2.2 0 = x :: t) : mInv b (mGive α x t) := by
  obtain ⟨h1, h2, h3, h4, h5, h6, h7⟩ := h
  rw [hx] at h2 h4
  refine ⟨by simp [mGive, va_up]; omega, ?_, ?_, ?_, ?_, ?_, ?_⟩
  · simp [mGive, va_up, mCs] at h2 ⊢; omega
  · simpa [mGive, va_up] using h3
  · exact mOk_tail h4
  · simpa [mGive, va_up] using h5
  · simpa [mGive, va_up] using h6
  · simpa [mGive, va_up] using h7
theorem mFetch_inv {b : Bool} (n : Nat) {τ α : mT} (h : mInv false τ) (h2 : mInv b α) (hn : n ≤ τ.1 14) : mInv false (mFetch n τ α).1 ∧ mInv b (mFetch n τ α).2 := by
  induction n generalizing τ α with
  | zero => exact ⟨h, h2⟩
  | succ n ih =>
    unfold mFetch
    split
    · exact ⟨h, h2⟩
    · next x t e =>
      have hx : mOk (x :: t) := by rw [← e]; exact h2.2.2.2.1
      exact ih (mGet_inv h (by omega) hx.1 hx.2.1) (mGive_inv h2 e) (by simp [mGet, va_up]; omega)
theorem mConvey_inv {b : Bool} {τ α : mT} (h : mInv false τ) (h2 : mInv b α) : mInv false (mConvey τ α).1 ∧ mInv b (mConvey τ α).2 :=
  mFetch_inv _ (mBring_inv h) h2 (Nat.min_le_left _ _)
