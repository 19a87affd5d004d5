/-! the calls of the line as functions: a code (0, or which exception), an answer, the line then -/
abbrev oT (σ : mS) (p : Int32) : mT := σ.2.2.2 (mIx p)
abbrev mO : Type := Nat × Int32 × mS
def oWay (σ : mS) (p v : Int32) : mO := if mHas σ 1 p then (if mIn v 0 5 then (0, nI ((oT σ p).1 15), mPut σ (mIx p) (va_up (oT σ p).1 15 (mIx v), (oT σ p).2)) else (2, nI 0, σ)) else (1, nI 0, σ)
def oMark (σ : mS) (p v : Int32) : mO := if mHas σ 0 p then (if mIn v 1 9 then (0, nI ((oT σ p).1 7), mPut σ (mIx p) (va_up (oT σ p).1 7 (mIx v), (oT σ p).2)) else (2, nI 0, σ)) else (1, nI 0, σ)
def oRule (σ : mS) (b : Bool) : mO := (0, kB σ.2.1, (σ.1, b, σ.2.2))
def oDemand (σ : mS) (v : Int32) : mO := if mIn v 0 20 then (0, σ.2.2.1 3, (σ.1, σ.2.1, va_up σ.2.2.1 3 v, σ.2.2.2)) else (1, nI 0, σ)
def oStop (σ : mS) (p : Int32) : mO := if mHas σ 0 p then (0, nI (1 - (oT σ p).1 12), mPut σ (mIx p) (va_up (oT σ p).1 12 (1 - (oT σ p).1 12), (oT σ p).2)) else (1, nI 0, σ)
def oIssue (σ : mS) (p : Int32) : mO := if mHas σ 0 p then (if (oT σ p).1 8 = 9 then (2, nI 0, σ) else (0, nI ((oT σ p).1 8 + 1), mPut σ (mIx p) (va_up (va_up (oT σ p).1 8 ((oT σ p).1 8 + 1)) 9 ((oT σ p).1 9 + 1), (oT σ p).2))) else (1, nI 0, σ)
def oRetire (σ : mS) (p : Int32) : mO := if mHas σ 0 p then (if (oT σ p).1 9 = 0 ∨ (oT σ p).1 8 = 1 then (2, nI 0, σ) else (0, nI ((oT σ p).1 8 - 1), mPut σ (mIx p) (va_up (va_up (va_up (oT σ p).1 8 ((oT σ p).1 8 - 1)) 9 ((oT σ p).1 9 - 1)) 11 (min ((oT σ p).1 11) ((oT σ p).1 9 - 1)), (oT σ p).2))) else (1, nI 0, σ)
def oIssueC (σ : mS) (p : Int32) : mO := if mHas σ 1 p then (if (oT σ p).1 13 = 5 then (2, nI 0, σ) else (0, nI ((oT σ p).1 13 + 1), mPut σ (mIx p) (va_up (va_up (oT σ p).1 13 ((oT σ p).1 13 + 1)) 14 ((oT σ p).1 14 + 1), (oT σ p).2))) else (1, nI 0, σ)
def oRetireC (σ : mS) (p : Int32) : mO := if mHas σ 1 p then (if (oT σ p).1 14 = 0 ∨ (oT σ p).1 13 = 1 then (2, nI 0, σ) else (0, nI ((oT σ p).1 13 - 1), mPut σ (mIx p) (va_up (va_up (oT σ p).1 13 ((oT σ p).1 13 - 1)) 14 ((oT σ p).1 14 - 1), (oT σ p).2))) else (1, nI 0, σ)
def mBehind (σ : mS) (k : Nat) : Nat := if k + 1 < σ.1 then (σ.2.2.2 (k + 1)).1 15 else 0
def mQuot (σ : mS) (k : Nat) (v : Int32) : Int32 := (σ.2.2.1 3 * nI ((σ.2.2.2 k).1 7 * (σ.2.2.2 k).1 3 + mBehind σ k) * (nI 100 + v) + nI (100 * (σ.2.2.2 k).1 2) - nI 1) / nI (100 * (σ.2.2.2 k).1 2)
def oNeeded (σ : mS) (p v : Int32) : mO := if mHas σ 0 p then (if mIn v 0 100 then (0, if nI 1 < mQuot σ (mIx p) v then mQuot σ (mIx p) v else nI 1, σ) else (2, nI 0, σ)) else (1, nI 0, σ)
def oGet (σ : mS) (p : Int32) (F : mT → Int32) : mO := if mHas σ 0 p then (0, F (oT σ p), σ) else (1, nI 0, σ)
def oStage (σ : mS) (c z t k : Int32) (full : Bool) : mO := if mIn c 1 9 ∧ mIn z 1 10 ∧ mIn t 1 9 ∧ mIn k 1 9 then (if σ.1 = 6 then (2, nI 0, σ) else (0, nI σ.1, (σ.1 + 1, σ.2.1, σ.2.2.1, va_up σ.2.2.2 σ.1 (mNew σ.1 (decide (σ.1 = 0)) full (mIx c) (mIx z) (mIx t) (mIx k))))) else (1, nI 0, σ)
def mGot (σ : mS) : Int32 := if nI (mU ((σ.2.2.2 (σ.1 - 1)).2.2 0)) < σ.2.2.1 3 + σ.2.2.1 6 then nI (mU ((σ.2.2.2 (σ.1 - 1)).2.2 0)) else σ.2.2.1 3 + σ.2.2.1 6
def mOwe (σ : mS) : Int32 := σ.2.2.1 3 + σ.2.2.1 6 - mGot σ
def mSold (σ : mS) (τ : mT) : mT := (va_up τ.1 9 (τ.1 9 + (mTake (τ.2.2 0) (mIx (mGot σ)) σ.2.1).2), τ.2.1, va_up τ.2.2 0 (mTake (τ.2.2 0) (mIx (mGot σ)) σ.2.1).1)
def mServe (σ : mS) : mS := (σ.1, σ.2.1, va_up (va_up (va_up σ.2.2.1 5 (σ.2.2.1 5 + mGot σ)) 6 (mOwe σ)) 7 (if 0 < mOwe σ then σ.2.2.1 7 + 1 else σ.2.2.1 7), va_up σ.2.2.2 (σ.1 - 1) (mSold σ (σ.2.2.2 (σ.1 - 1))))
def mTick (σ : mS) : mS := (σ.1, σ.2.1, va_up σ.2.2.1 4 (σ.2.2.1 4 + 1), σ.2.2.2)
def mWorks (r : Bool) : Nat → (Nat → mT) → (Nat → mT)
  | 0, τs => τs
  | k + 1, τs => mWorks r k (va_up τs k (mWork r (decide (k = 0)) (τs k)))
def mConveys : Nat → (Nat → mT) → (Nat → mT)
  | 0, τs => τs
  | 1, τs => τs
  | k + 2, τs => mConveys (k + 1) (va_up (va_up τs (k + 1) (mConvey (τs (k + 1)) (τs k)).1) k (mConvey (τs (k + 1)) (τs k)).2)
def mMove (σ : mS) : mS := (σ.1, σ.2.1, σ.2.2.1, mConveys σ.1 (mWorks σ.2.1 σ.1 σ.2.2.2))
def mPass (σ : mS) : mS := mMove (mServe (mTick σ))
def mSteps : Nat → mS → mS
  | 0, σ => σ
  | i + 1, σ => mSteps i (mPass σ)
def oStep (σ : mS) (s : Int32) : mO := if mIn s 1 50 then (if σ.1 = 0 then (2, nI 0, σ) else (0, (mSteps (mIx s) σ).2.2.1 5 - σ.2.2.1 5, mSteps (mIx s) σ)) else (1, nI 0, σ)
def mSum (F : Nat → Nat) : Nat → Nat
  | 0 => 0
  | n + 1 => mSum F n + F n
def mSumZ (F : Nat → Int32) : Nat → Int32
  | 0 => 0
  | n + 1 => mSumZ F n + F n
def oStock (σ : mS) : Int32 := nI (mSum (fun k => mHeld (σ.2.2.2 k)) σ.1)
def oFlow (σ : mS) : Int32 := -σ.2.2.1 5 + mSumZ (fun k => (σ.2.2.2 k).2.1 1) σ.1
theorem mIx_or (w : Int32) : (w = nI (mIx w) ∧ mIx w < 2 ^ 31) ∨ (w < 0 ∧ mIx w = 0) := by
  rcases kI_cases w with h | ⟨j, hj, rfl⟩
  · refine Or.inr ⟨h, ?_⟩
    have h2 : w.toInt < 0 := by have := Int32.lt_iff_toInt_lt.mp h; simpa using this
    unfold mIx Int32.toNatClampNeg
    omega
  · exact Or.inl ⟨by rw [mIx_nI hj], by rw [mIx_nI hj]; exact hj⟩
-- what always holds is kept
theorem mGoOn_1 (τ : mT) : (mGoOn τ).1 1 = τ.1 1 := by unfold mGoOn; split <;> rfl
theorem mBegin_1 (r b : Bool) (τ : mT) : (mBegin r b τ).1 1 = τ.1 1 := by unfold mBegin; split <;> rfl
theorem mStart_1 (r b : Bool) (τ : mT) : (mStart r b τ).1 1 = τ.1 1 := by
  unfold mStart
  split
  · rfl
  · split
    · rfl
    · rw [mBegin_1]; rfl
theorem mWork_1 (r b : Bool) (τ : mT) : (mWork r b τ).1 1 = τ.1 1 := by
  unfold mWork
  split
  · rfl
  · split
    · exact mGoOn_1 τ
    · rw [mStart_1]; exact mGoOn_1 τ
theorem mFetch_1 (n : Nat) (τ α : mT) : (mFetch n τ α).1.1 1 = τ.1 1 ∧ (mFetch n τ α).2.1 1 = α.1 1 := by
  induction n generalizing τ α with
  | zero => exact ⟨rfl, rfl⟩
  | succ n ih =>
    unfold mFetch
    split
    · exact ⟨rfl, rfl⟩
    · next x t e => exact ih (mGet τ x) (mGive α x t)
theorem mConvey_1 (τ α : mT) : (mConvey τ α).1.1 1 = τ.1 1 ∧ (mConvey τ α).2.1 1 = α.1 1 := mFetch_1 _ (mBring τ) α
/-- all stages below n hold -/
def mAll (n : Nat) (τs : Nat → mT) : Prop := ∀ k : Nat, k < n → mInv (decide (k = 0)) (τs k) ∧ (τs k).1 1 = k
theorem mAll_put {n : Nat} {τs : Nat → mT} (h : mAll n τs) {k : Nat} {τ : mT} (h1 : mInv (decide (k = 0)) τ) (h2 : τ.1 1 = k) : mAll n (va_up τs k τ) := by
  intro j hj
  by_cases e : j = k
  · subst e; rw [va_up_self]; exact ⟨h1, h2⟩
  · rw [va_up_ne _ _ e]; exact h j hj
theorem mWorks_all (r : Bool) {n : Nat} (m : Nat) {τs : Nat → mT} (h : mAll n τs) (hm : m ≤ n) : mAll n (mWorks r m τs) := by
  induction m generalizing τs with
  | zero => exact h
  | succ m ih =>
    have h1 := h m (by omega)
    exact ih (mAll_put h (mWork_inv h1.1) (by rw [mWork_1]; exact h1.2)) (by omega)
theorem mConvey_all {n : Nat} {k : Nat} {τs : Nat → mT} (h : mAll n τs) (hk : k + 1 < n) : mAll n (va_up (va_up τs (k + 1) (mConvey (τs (k + 1)) (τs k)).1) k (mConvey (τs (k + 1)) (τs k)).2) := by
  have h1 := h (k + 1) hk
  have h2 := h k (by omega)
  have e : decide (k + 1 = 0) = false := by simp
  rw [e] at h1
  have h3 := mConvey_inv h1.1 h2.1
  have h4 := mConvey_1 (τs (k + 1)) (τs k)
  exact mAll_put (mAll_put h (by rw [e]; exact h3.1) (by rw [h4.1]; exact h1.2)) h3.2 (by rw [h4.2]; exact h2.2)
theorem mConveys_all {n : Nat} (m : Nat) {τs : Nat → mT} (h : mAll n τs) (hm : m ≤ n) : mAll n (mConveys m τs) := by
  induction m generalizing τs with
  | zero => exact h
  | succ m ih =>
    cases m with
    | zero => exact h
    | succ k => exact ih (mConvey_all h hm) (by omega)
theorem mSold_inv {b : Bool} {σ : mS} {τ : mT} (h : mInv b τ) : mInv b (mSold σ τ) := by
  obtain ⟨h1, h2, h3, h4, h5, h6, h7⟩ := h
  have hc := mTake_Cs (τ.2.2 0) (mIx (mGot σ)) σ.2.1
  refine ⟨by simp [mSold, va_up]; omega, ?_, ?_, ?_, ?_, ?_, ?_⟩
  · simp [mSold, va_up]; omega
  · simpa [mSold, va_up] using h3
  · exact mTake_ok h4 _ _
  · simpa [mSold, va_up] using h5
  · simpa [mSold, va_up] using h6
  · simpa [mSold, va_up] using h7
theorem mServe_ok {σ : mS} (h : mSok σ) (h0 : σ.1 ≠ 0) : mSok (mServe σ) := by
  refine ⟨h.1, ?_⟩
  have h1 := h.2 (σ.1 - 1) (by omega)
  exact mAll_put (n := σ.1) h.2 (mSold_inv h1.1) h1.2
theorem mMove_ok {σ : mS} (h : mSok σ) : mSok (mMove σ) := ⟨h.1, mConveys_all σ.1 (mWorks_all σ.2.1 σ.1 h.2 (Nat.le_refl _)) (Nat.le_refl _)⟩
theorem mPass_ok {σ : mS} (h : mSok σ) (h0 : σ.1 ≠ 0) : mSok (mPass σ) := mMove_ok (mServe_ok (σ := mTick σ) h h0)
theorem mSteps_ok (i : Nat) {σ : mS} (h : mSok σ) (h0 : σ.1 ≠ 0) : mSok (mSteps i σ) := by
  induction i generalizing σ with
  | zero => exact h
  | succ i ih => exact ih (mPass_ok h h0) h0
theorem oStep_ok {σ : mS} (h : mSok σ) (s : Int32) : mSok (oStep σ s).2.2 := by
  unfold oStep
  split
  · split
    · exact h
    · next h0 => exact mSteps_ok _ h h0
  · exact h
theorem mHas_put {σ : mS} {p : Int32} {lo : Nat} (h : mSok σ) (hlo : lo ≤ 6) (hp : mHas σ lo p) : lo ≤ mIx p ∧ mIx p < σ.1 := by
  obtain ⟨k, h1, h2, rfl⟩ := mHas_ex h.1 hlo hp
  have := h.1
  rw [mIx_nI (by omega)]
  exact ⟨h1, h2⟩
theorem mIn_ix {v : Int32} {lo hi : Nat} (hlo : lo < 1000) (hhi : hi < 1000) (h : mIn v lo hi) : lo ≤ mIx v ∧ mIx v ≤ hi := by
  obtain ⟨k, h1, h2, rfl⟩ := mIn_ex hlo hhi h
  rw [mIx_nI (by omega)]
  exact ⟨h1, h2⟩
theorem fWay {τ : mT} {v : Nat} (h : mInv false τ) (hv : v ≤ 5) : mInv false (va_up τ.1 15 v, τ.2) := by
  obtain ⟨h1, h2, h3, h4, h5, h6, h7⟩ := h
  exact ⟨by simp [va_up]; omega, h2, h3, h4, h5, h6, h7⟩
theorem fMark {b : Bool} {τ : mT} {v : Nat} (h : mInv b τ) (hv : 1 ≤ v) (hv2 : v ≤ 9) : mInv b (va_up τ.1 7 v, τ.2) := by
  obtain ⟨h1, h2, h3, h4, h5, h6, h7⟩ := h
  exact ⟨by simp [va_up]; omega, h2, h3, h4, h5, h6, h7⟩
theorem fStop {b : Bool} {τ : mT} (h : mInv b τ) : mInv b (va_up τ.1 12 (1 - τ.1 12), τ.2) := by
  obtain ⟨h1, h2, h3, h4, h5, h6, h7⟩ := h
  exact ⟨by simp [va_up]; omega, h2, h3, h4, h5, h6, h7⟩
theorem fIssue {b : Bool} {τ : mT} (h : mInv b τ) (h8 : ¬ τ.1 8 = 9) : mInv b (va_up (va_up τ.1 8 (τ.1 8 + 1)) 9 (τ.1 9 + 1), τ.2) := by
  obtain ⟨h1, h2, h3, h4, h5, h6, h7⟩ := h
  exact ⟨by simp [va_up]; omega, by simp [va_up]; omega, h3, h4, h5, h6, h7⟩
theorem fRetire {b : Bool} {τ : mT} (h : mInv b τ) (hn : ¬ (τ.1 9 = 0 ∨ τ.1 8 = 1)) : mInv b (va_up (va_up (va_up τ.1 8 (τ.1 8 - 1)) 9 (τ.1 9 - 1)) 11 (min (τ.1 11) (τ.1 9 - 1)), τ.2) := by
  obtain ⟨h1, h2, h3, h4, h5, h6, h7⟩ := h
  exact ⟨by simp [va_up]; omega, by simp [va_up]; omega, h3, h4, h5, h6, h7⟩
theorem fIssueC {τ : mT} (h : mInv false τ) (hn : ¬ τ.1 13 = 5) : mInv false (va_up (va_up τ.1 13 (τ.1 13 + 1)) 14 (τ.1 14 + 1), τ.2) := by
  obtain ⟨h1, h2, h3, h4, h5, h6, h7⟩ := h
  exact ⟨by simp [va_up]; omega, h2, by simp [va_up]; omega, h4, h5, h6, by simp [va_up]⟩
theorem fRetireC {τ : mT} (h : mInv false τ) (hn : ¬ (τ.1 14 = 0 ∨ τ.1 13 = 1)) : mInv false (va_up (va_up τ.1 13 (τ.1 13 - 1)) 14 (τ.1 14 - 1), τ.2) := by
  obtain ⟨h1, h2, h3, h4, h5, h6, h7⟩ := h
  simp at h7
  exact ⟨by simp [va_up]; omega, h2, by simp [va_up]; omega, h4, h5, h6, by simp [va_up]; omega⟩
theorem oWay_ok {σ : mS} (h : mSok σ) (p v : Int32) : mSok (oWay σ p v).2.2 := by
  unfold oWay
  split
  · next hp =>
    split
    · next hv =>
      have hp := mHas_put h (by decide) hp
      have hv := mIn_ix (by decide) (by decide) hv
      have hi := h.2 _ hp.2
      refine mPut_ok h hp.2 ?_ hi.2
      have e : decide (mIx p = 0) = false := by simp; omega
      rw [e] at hi ⊢
      exact fWay hi.1 hv.2
    · exact h
  · exact h
theorem oMark_ok {σ : mS} (h : mSok σ) (p v : Int32) : mSok (oMark σ p v).2.2 := by
  unfold oMark
  split
  · next hp =>
    split
    · next hv =>
      have hp := mHas_put h (by decide) hp
      have hv := mIn_ix (by decide) (by decide) hv
      have hi := h.2 _ hp.2
      refine mPut_ok h hp.2 ?_ hi.2
      exact fMark hi.1 hv.1 hv.2
    · exact h
  · exact h
theorem oDemand_ok {σ : mS} (h : mSok σ) (v : Int32) : mSok (oDemand σ v).2.2 := by
  unfold oDemand
  split <;> exact h
theorem oStop_ok {σ : mS} (h : mSok σ) (p : Int32) : mSok (oStop σ p).2.2 := by
  unfold oStop
  split
  · next hp =>
    have hp := mHas_put h (by decide) hp
    have hi := h.2 _ hp.2
    refine mPut_ok h hp.2 ?_ hi.2
    exact fStop hi.1
  · exact h
theorem oIssue_ok {σ : mS} (h : mSok σ) (p : Int32) : mSok (oIssue σ p).2.2 := by
  unfold oIssue
  split
  · next hp =>
    split
    · exact h
    · have hp := mHas_put h (by decide) hp
      have hi := h.2 _ hp.2
      refine mPut_ok h hp.2 ?_ hi.2
      exact fIssue hi.1 (by assumption)
  · exact h
theorem oRetire_ok {σ : mS} (h : mSok σ) (p : Int32) : mSok (oRetire σ p).2.2 := by
  unfold oRetire
  split
  · next hp =>
    split
    · exact h
    · next hn =>
      have hp := mHas_put h (by decide) hp
      have hi := h.2 _ hp.2
      refine mPut_ok h hp.2 ?_ hi.2
      exact fRetire hi.1 hn
  · exact h
theorem oIssueC_ok {σ : mS} (h : mSok σ) (p : Int32) : mSok (oIssueC σ p).2.2 := by
  unfold oIssueC
  split
  · next hp =>
    split
    · exact h
    · have hp := mHas_put h (by decide) hp
      have hi := h.2 _ hp.2
      refine mPut_ok h hp.2 ?_ hi.2
      have e : decide (mIx p = 0) = false := by simp; omega
      rw [e] at hi ⊢
      exact fIssueC hi.1 (by assumption)
  · exact h
theorem oRetireC_ok {σ : mS} (h : mSok σ) (p : Int32) : mSok (oRetireC σ p).2.2 := by
  unfold oRetireC
  split
  · next hp =>
    split
    · exact h
    · next hn =>
      have hp := mHas_put h (by decide) hp
      have hi := h.2 _ hp.2
      refine mPut_ok h hp.2 ?_ hi.2
      have e : decide (mIx p = 0) = false := by simp; omega
      rw [e] at hi ⊢
      exact fRetireC hi.1 hn
  · exact h
theorem oNeeded_ok {σ : mS} (h : mSok σ) (p v : Int32) : mSok (oNeeded σ p v).2.2 := by
  unfold oNeeded
  split
  · split <;> exact h
  · exact h
theorem oGet_ok {σ : mS} (h : mSok σ) (p : Int32) (F : mT → Int32) : mSok (oGet σ p F).2.2 := by
  unfold oGet
  split <;> exact h
theorem oStage_ok {σ : mS} (h : mSok σ) (c z t k : Int32) (full : Bool) : mSok (oStage σ c z t k full).2.2 := by
  unfold oStage
  split
  · next hv =>
    split
    · exact h
    · next h6 =>
      obtain ⟨v1, v2, v3, v4⟩ := hv
      have v1 := mIn_ix (by decide) (by decide) v1
      have v2 := mIn_ix (by decide) (by decide) v2
      have v3 := mIn_ix (by decide) (by decide) v3
      have v4 := mIn_ix (by decide) (by decide) v4
      have h0 := h.1
      refine ⟨by show σ.1 + 1 ≤ 6; omega, fun j hj => ?_⟩
      show mInv _ (va_up σ.2.2.2 σ.1 _ j) ∧ (va_up σ.2.2.2 σ.1 _ j).1 1 = j
      by_cases e : j = σ.1
      · subst e
        rw [va_up_self]
        exact ⟨mNew_inv v1.1 v1.2 v2.1 v2.2 v3.1 v3.2 v4.1 v4.2, rfl⟩
      · rw [va_up_ne _ _ e]
        exact h.2 j (by have : j < σ.1 + 1 := hj; omega)
  · exact h
