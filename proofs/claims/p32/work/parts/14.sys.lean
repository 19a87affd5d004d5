/-! the chain of stages as a world, and the whole line as a value -/
abbrev mS : Type := Nat × Bool × (Nat → Int32) × (Nat → mT)
def mAh (ad : Nat → Nat → Nat) : Nat → Value
  | 0 => .null
  | k + 1 => .ref (ad k 0)
def wCh (K : kE) (ad : Nat → Nat → Nat) (τs : Nat → mT) (us : Nat → Nat → Nat → Int32) (P : Nat → Bool) : Nat → va_W
  | 0 => []
  | k + 1 => if P k = true then wT K (mAh ad k) (ad k) (τs k) (us k) ++ wCh K ad τs us P k else wCh K ad τs us P k
abbrev wX (K : kE) (x : Nat) (ad : Nat → Nat → Nat) (σ : mS) (us : Nat → Nat → Nat → Int32) : va_W := kO x 3 [mAh ad σ.1, .int (nI σ.1), .int (kB σ.2.1), .int (σ.2.2.1 3), .int (σ.2.2.1 4), .int (σ.2.2.1 5), .int (σ.2.2.1 6), .int (σ.2.2.1 7)] :: wCh K ad σ.2.2.2 us (fun _ => true) σ.1
def mSok (σ : mS) : Prop := σ.1 ≤ 6 ∧ ∀ k : Nat, k < σ.1 → mInv (decide (k = 0)) (σ.2.2.2 k) ∧ (σ.2.2.2 k).1 1 = k
def mURT (σ : mS) (us : Nat → Nat → Nat → Int32) : Prop := ∀ k : Nat, k < σ.1 → mRT (σ.2.2.2 k) (us k)
theorem wCh_congr {K : kE} {ad : Nat → Nat → Nat} {τs τs' : Nat → mT} {us us' : Nat → Nat → Nat → Int32} {P : Nat → Bool} {n : Nat} (h : ∀ j : Nat, j < n → P j = true → τs j = τs' j ∧ us j = us' j) : wCh K ad τs us P n = wCh K ad τs' us' P n := by
  induction n with
  | zero => rfl
  | succ n ih =>
    have ih := ih (fun j hj hp => h j (Nat.lt_succ_of_lt hj) hp)
    unfold wCh
    by_cases hp : P n = true
    · rw [if_pos hp, if_pos hp, ih, (h n (Nat.lt_succ_self n) hp).1, (h n (Nat.lt_succ_self n) hp).2]
    · rw [if_neg hp, if_neg hp, ih]
theorem wCh_ad {K : kE} {ad ad' : Nat → Nat → Nat} {τs : Nat → mT} {us us' : Nat → Nat → Nat → Int32} {P : Nat → Bool} {n : Nat} (h : ∀ j : Nat, j < n → ad j = ad' j ∧ us j = us' j) : wCh K ad τs us P n = wCh K ad' τs us' P n := by
  induction n with
  | zero => rfl
  | succ n ih =>
    have ih := ih (fun j hj => h j (Nat.lt_succ_of_lt hj))
    have e : mAh ad n = mAh ad' n := by
      cases n with
      | zero => rfl
      | succ n => show Value.ref (ad n 0) = Value.ref (ad' n 0); rw [(h n (by omega)).1]
    unfold wCh
    rw [ih, e, (h n (Nat.lt_succ_self n)).1, (h n (Nat.lt_succ_self n)).2]
theorem wCh_P {K : kE} {ad : Nat → Nat → Nat} {τs : Nat → mT} {us : Nat → Nat → Nat → Int32} {P P' : Nat → Bool} {n : Nat} (h : ∀ j : Nat, j < n → P j = P' j) : wCh K ad τs us P n = wCh K ad τs us P' n := by
  induction n with
  | zero => rfl
  | succ n ih =>
    have ih := ih (fun j hj => h j (Nat.lt_succ_of_lt hj))
    unfold wCh
    rw [ih, h n (Nat.lt_succ_self n)]
theorem wCh_open {K : kE} {ad : Nat → Nat → Nat} {τs : Nat → mT} {us : Nat → Nat → Nat → Int32} {P : Nat → Bool} {n k : Nat} (hk : k < n) (hP : P k = true) : (wCh K ad τs us P n).Perm (wT K (mAh ad k) (ad k) (τs k) (us k) ++ wCh K ad τs us (fun j => P j && !(j == k)) n) := by
  induction n with
  | zero => exact absurd hk (Nat.not_lt_zero k)
  | succ n ih =>
    unfold wCh
    by_cases e : k = n
    · subst e
      have h1 : ¬ ((P k && !(k == k)) = true) := by simp
      have h3 : ∀ j : Nat, j < k → P j = (P j && !(j == k)) := fun j hj => by
        have h4 : (j == k) = false := by
          rw [beq_eq_false_iff_ne]; omega
        rw [h4]; simp
      rw [if_pos hP, if_neg h1, wCh_P h3]
    · have ih := ih (by omega)
      have h2 : (P n && !(n == k)) = P n := by
        have h4 : (n == k) = false := by
          rw [beq_eq_false_iff_ne]; omega
        rw [h4]; simp
      rw [h2]
      by_cases hp : P n = true
      · rw [if_pos hp, if_pos hp]
        refine (List.Perm.append_left _ ih).trans ?_
        rw [← List.append_assoc, ← List.append_assoc]
        exact List.Perm.append_right _ List.perm_append_comm
      · rw [if_neg hp, if_neg hp]
        exact ih
theorem wCh_close {K : kE} {ad : Nat → Nat → Nat} {τs : Nat → mT} {us : Nat → Nat → Nat → Int32} {P : Nat → Bool} {n k : Nat} (hk : k < n) (hP : P k = true) (τ : mT) (u : Nat → Nat → Int32) : (wT K (mAh ad k) (ad k) τ u ++ wCh K ad τs us (fun j => P j && !(j == k)) n).Perm (wCh K ad (va_up τs k τ) (va_up us k u) P n) := by
  have h := wCh_open (K := K) (ad := ad) (τs := va_up τs k τ) (us := va_up us k u) hk hP
  rw [va_up_self, va_up_self, wCh_congr (τs := va_up τs k τ) (us := va_up us k u) (τs' := τs) (us' := us) (P := fun j => P j && !(j == k)) (fun j _ hp => by
    have hne : j ≠ k := by intro q; subst q; simp at hp
    exact ⟨va_up_ne _ _ hne, va_up_ne _ _ hne⟩)] at h
  exact h.symm
theorem va_D_nd {A : Nat → Prop} {ws : va_W} : va_D A ws ↔ (ws.map Prod.fst).Nodup ∧ ∀ q ∈ ws, A q.1 := by
  constructor
  · intro h
    refine ⟨?_, fun q hq => ?_⟩
    · rw [List.nodup_iff_pairwise_ne, List.pairwise_iff_getElem]
      intro i j hi hj hij e
      simp only [List.length_map] at hi hj
      simp only [List.getElem_map] at e
      have := h.1 i j ws[i] ws[j] (List.getElem?_eq_getElem hi) (List.getElem?_eq_getElem hj) e
      omega
    · obtain ⟨i, hi⟩ := List.getElem?_of_mem hq
      exact h.2 i q hi
  · intro h
    refine ⟨fun i j x y hi hj hxy => ?_, fun j q hq => h.2 q (List.mem_of_getElem? hq)⟩
    have hi' : (ws.map Prod.fst)[i]? = some x.1 := by rw [List.getElem?_map, hi]; rfl
    have hj' : (ws.map Prod.fst)[j]? = some y.1 := by rw [List.getElem?_map, hj]; rfl
    exact (List.getElem?_inj (List.getElem?_eq_some_iff.mp hi').1 h.1).mp (by rw [hi', hj', hxy])
theorem va_D_perm {A : Nat → Prop} {w1 w2 : va_W} (hp : w1.Perm w2) (h : va_D A w1) : va_D A w2 := by
  rw [va_D_nd] at h ⊢
  exact ⟨(hp.map _).nodup_iff.mp h.1, fun q hq => h.2 q (hp.mem_iff.mpr hq)⟩
section KPERM
variable {p : Program} {l : Launch} {e : Env} {R : Room} {s : State} {m : MethodId} {args : Array Value} {below : List Frame} {meth : Method} {c : Code} {K : kE} {A : Nat → Prop} {nL : Nat} {Q : State → Prop} {k n : Nat} {pl X : va_W} {lv : List (Nat × Value)} {pc : Nat} {st : List Value}
theorem k_perm2 (pl2 X2 : va_W) (hp : (X ++ pl).Perm (X2 ++ pl2)) (kk : kW p l e R s m args below meth c K A nL Q k n pl2 X2 lv pc st) : kW p l e R s m args below meth c K A nL Q k n pl X lv pc st :=
  k_world pl2 X2 (fun q hq => hp.mem_iff.mpr hq) (Or.inr fun _ h => va_D_perm hp h) kk
end KPERM
/-- the arrays' own names: which stage is asked -/
abbrev mHas (σ : mS) (lo : Nat) (p : Int32) : Prop := nI lo ≤ p ∧ p < nI σ.1
abbrev mIn (v : Int32) (lo hi : Nat) : Prop := nI lo ≤ v ∧ v ≤ nI hi
def mIx (p : Int32) : Nat := p.toNatClampNeg
theorem mIx_nI {k : Nat} (h : k < 2 ^ 31) : mIx (nI k) = k := nI_clamp h
theorem mHas_k {σ : mS} {lo k : Nat} (h6 : σ.1 ≤ 6) (h1 : lo ≤ k) (h2 : k < σ.1) : mHas σ lo (nI k) := ⟨nI_le h1 (by omega), nI_lt h2 (by omega)⟩
theorem kI_cases (p : Int32) : p < 0 ∨ ∃ j : Nat, j < 2 ^ 31 ∧ p = nI j := by
  by_cases h : p < 0
  · exact Or.inl h
  · exact Or.inr (nI_of h)
theorem kneg_lt {p : Int32} {a : Nat} (h : p < 0) (ha : a < 2 ^ 31) : p < nI a := Int32.lt_of_lt_of_le h (nI_pos' ha)
theorem mHas_ex {σ : mS} {lo : Nat} {p : Int32} (h6 : σ.1 ≤ 6) (hlo : lo ≤ 6) (h : mHas σ lo p) : ∃ k : Nat, lo ≤ k ∧ k < σ.1 ∧ p = nI k := by
  obtain ⟨h1, h2⟩ := h
  rcases kI_cases p with hn | ⟨j, hj, rfl⟩
  · exact absurd (Int32.lt_of_lt_of_le (kneg_lt hn (show lo < 2 ^ 31 by omega)) h1) Int32.lt_irrefl
  · exact ⟨j, (nI_leI (by omega) hj).mp h1, (nI_ltI hj (by omega)).mp h2, rfl⟩
theorem mIn_ex {v : Int32} {lo hi : Nat} (hlo : lo < 1000) (hhi : hi < 1000) (h : mIn v lo hi) : ∃ k : Nat, lo ≤ k ∧ k ≤ hi ∧ v = nI k := by
  obtain ⟨h1, h2⟩ := h
  rcases kI_cases v with hn | ⟨j, hj, rfl⟩
  · exact absurd (Int32.lt_of_lt_of_le (kneg_lt hn (show lo < 2 ^ 31 by omega)) h1) Int32.lt_irrefl
  · exact ⟨j, (nI_leI (by omega) hj).mp h1, (nI_leI hj (by omega)).mp h2, rfl⟩
/-- stage k has become τ -/
def mPut (σ : mS) (k : Nat) (τ : mT) : mS := (σ.1, σ.2.1, σ.2.2.1, va_up σ.2.2.2 k τ)
theorem mPut_ok {σ : mS} {k : Nat} {τ : mT} (h : mSok σ) (hk : k < σ.1) (h1 : mInv (decide (k = 0)) τ) (h2 : τ.1 1 = k) : mSok (mPut σ k τ) := by
  refine ⟨h.1, fun j hj => ?_⟩
  show mInv _ (va_up σ.2.2.2 k τ j) ∧ (va_up σ.2.2.2 k τ j).1 1 = j
  by_cases e : j = k
  · subst e; rw [va_up_self]; exact ⟨h1, h2⟩
  · rw [va_up_ne _ _ e]; exact h.2 j hj
theorem mURT_put {σ : mS} {us : Nat → Nat → Nat → Int32} {k : Nat} {τ : mT} {u : Nat → Nat → Int32} (h : mURT σ us) (h1 : mRT τ u) : mURT (mPut σ k τ) (va_up us k u) := by
  intro j hj
  show mRT (va_up σ.2.2.2 k τ j) (va_up us k u j)
  by_cases e : j = k
  · subst e; rw [va_up_self, va_up_self]; exact h1
  · rw [va_up_ne _ _ e, va_up_ne _ _ e]; exact h j hj
