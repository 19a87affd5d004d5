/-! the line as numbers and lists: what the class and the reference both hold -/
def mU : List (Nat × Nat) → Nat
  | [] => 0
  | x :: t => x.1 + mU t
def mCs : List (Nat × Nat) → Nat
  | [] => 0
  | x :: t => x.2 + mCs t
def mg (L : List (Nat × Nat)) (i : Nat) : Nat × Nat := L.getD i (0, 0)
/-- the places of a row hold the list -/
def mR (L : List (Nat × Nat)) (u c : Nat → Int32) : Prop := ∀ i : Nat, i < L.length → u i = nI (mg L i).1 ∧ c i = nI (mg L i).2
def mOk : List (Nat × Nat) → Prop
  | [] => True
  | x :: t => 1 ≤ x.1 ∧ x.1 ≤ 10 ∧ x.2 ≤ 1 ∧ ∀ y ∈ t, 1 ≤ y.1 ∧ y.1 ≤ 10 ∧ y.2 = 1
theorem mg_cons0 (x : Nat × Nat) (t : List (Nat × Nat)) : mg (x :: t) 0 = x := rfl
theorem mg_succ (x : Nat × Nat) (t : List (Nat × Nat)) (i : Nat) : mg (x :: t) (i + 1) = mg t i := rfl
theorem mg_mem {L : List (Nat × Nat)} {i : Nat} (h : i < L.length) : mg L i ∈ L := by
  unfold mg
  rw [List.getD_eq_getElem?_getD, List.getElem?_eq_getElem h]
  exact List.getElem_mem h
theorem mU_take {L : List (Nat × Nat)} {i : Nat} (h : i < L.length) : mU (L.take (i + 1)) = mU (L.take i) + (mg L i).1 := by
  induction L generalizing i with
  | nil => cases h
  | cons x t ih =>
    cases i with
    | zero => simp [mU, mg]
    | succ i =>
      have := ih (Nat.lt_of_succ_lt_succ h)
      simp only [List.take_succ_cons, mU, mg_succ, this]
      omega
theorem mCs_take {L : List (Nat × Nat)} {i : Nat} (h : i < L.length) : mCs (L.take (i + 1)) = mCs (L.take i) + (mg L i).2 := by
  induction L generalizing i with
  | nil => cases h
  | cons x t ih =>
    cases i with
    | zero => simp [mCs, mg]
    | succ i =>
      have := ih (Nat.lt_of_succ_lt_succ h)
      simp only [List.take_succ_cons, mCs, mg_succ, this]
      omega
theorem mU_app (a b : List (Nat × Nat)) : mU (a ++ b) = mU a + mU b := by
  induction a with
  | nil => simp [mU]
  | cons x t ih => simp only [List.cons_append, mU, ih]; omega
theorem mCs_app (a b : List (Nat × Nat)) : mCs (a ++ b) = mCs a + mCs b := by
  induction a with
  | nil => simp [mCs]
  | cons x t ih => simp only [List.cons_append, mCs, ih]; omega
theorem mOk_1 {L : List (Nat × Nat)} (h : mOk L) {x : Nat × Nat} (hx : x ∈ L) : 1 ≤ x.1 ∧ x.1 ≤ 10 ∧ x.2 ≤ 1 := by
  cases L with
  | nil => cases hx
  | cons y t =>
    obtain ⟨h1, h2, h3, h4⟩ := h
    rcases List.mem_cons.mp hx with e | e
    · rw [e]; exact ⟨h1, h2, h3⟩
    · have := h4 x e
      omega
theorem mOk_tail {x : Nat × Nat} {t : List (Nat × Nat)} (h : mOk (x :: t)) : mOk t := by
  cases t with
  | nil => trivial
  | cons y t =>
    obtain ⟨-, -, -, h4⟩ := h
    have h5 := h4 y List.mem_cons_self
    exact ⟨h5.1, h5.2.1, Nat.le_of_eq h5.2.2, fun z hz => h4 z (List.mem_cons_of_mem _ hz)⟩
theorem mCs_all {L : List (Nat × Nat)} (h : ∀ y ∈ L, 1 ≤ y.1 ∧ y.1 ≤ 10 ∧ y.2 = 1) : mCs L = L.length := by
  induction L with
  | nil => rfl
  | cons x t ih =>
    have h1 := h x List.mem_cons_self
    have h2 := ih (fun y hy => h y (List.mem_cons_of_mem _ hy))
    simp only [mCs, List.length_cons, h2, h1.2.2]
    omega
theorem mOk_len {L : List (Nat × Nat)} (h : mOk L) : L.length ≤ mCs L + 1 := by
  cases L with
  | nil => simp [mCs]
  | cons x t =>
    have := mCs_all h.2.2.2
    simp only [mCs, List.length_cons]
    omega
theorem mOk_snoc {L : List (Nat × Nat)} {u : Nat} (h : mOk L) (h1 : 1 ≤ u) (h2 : u ≤ 10) : mOk (L ++ [(u, 1)]) := by
  cases L with
  | nil => exact ⟨h1, h2, Nat.le_refl 1, fun y hy => by cases hy⟩
  | cons x t =>
    obtain ⟨a, b, c, d⟩ := h
    refine ⟨a, b, c, fun y hy => ?_⟩
    rcases List.mem_append.mp hy with e | e
    · exact d y e
    · rw [List.mem_singleton.mp e]
      exact ⟨h1, h2, rfl⟩
theorem mR_snoc {L : List (Nat × Nat)} {u c : Nat → Int32} {x y : Nat} (h : mR L u c) : mR (L ++ [(x, y)]) (upd u L.length (nI x)) (upd c L.length (nI y)) := by
  intro i hi
  rw [List.length_append, List.length_singleton] at hi
  unfold mg upd
  by_cases e : i = L.length
  · subst e
    simp
  · have hl : i < L.length := by omega
    have := h i hl
    simp only [e, if_false]
    rw [List.getD_eq_getElem?_getD, List.getElem?_append_left hl, ← List.getD_eq_getElem?_getD]
    exact this
theorem mR_nil {u c : Nat → Int32} : mR [] u c := fun i h => by cases h
/-- w units taken out, the rule FIRST where r: what is left, and how many cards come off -/
def mTake : List (Nat × Nat) → Nat → Bool → List (Nat × Nat) × Nat
  | [], _, _ => ([], 0)
  | x :: t, w, r => if w = 0 then (x :: t, 0) else if x.1 ≤ w then ((mTake t (w - x.1) r).1, (mTake t (w - x.1) r).2 + x.2) else if r = true then ((x.1 - w, 0) :: t, x.2) else ((x.1 - w, x.2) :: t, 0)
theorem mTake_0 (L : List (Nat × Nat)) (r : Bool) : mTake L 0 r = (L, 0) := by
  cases L <;> simp [mTake]
theorem mTake_U (L : List (Nat × Nat)) (w : Nat) (r : Bool) (h : w ≤ mU L) : mU (mTake L w r).1 + w = mU L := by
  induction L generalizing w with
  | nil => simp [mTake, mU] at *; omega
  | cons x t ih =>
    simp only [mU] at h
    unfold mTake
    split
    · subst w; simp [mU]
    · split
      · have := ih (w - x.1) (by omega)
        simp only [mU]; omega
      · split <;> (simp only [mU]; omega)
theorem mTake_Cs (L : List (Nat × Nat)) (w : Nat) (r : Bool) : mCs (mTake L w r).1 + (mTake L w r).2 = mCs L := by
  induction L generalizing w with
  | nil => simp [mTake, mCs]
  | cons x t ih =>
    unfold mTake
    split
    · simp
    · split
      · have := ih (w - x.1)
        simp only [mCs]; omega
      · split <;> (simp only [mCs]; omega)
theorem mTake_ok {L : List (Nat × Nat)} (h : mOk L) (w : Nat) (r : Bool) : mOk (mTake L w r).1 := by
  induction L generalizing w with
  | nil => simp [mTake, mOk]
  | cons x t ih =>
    unfold mTake
    split
    · exact h
    · split
      · exact ih (mOk_tail h) _
      · obtain ⟨a, b, c, d⟩ := h
        split
        · exact ⟨by show 1 ≤ x.1 - w; omega, by show x.1 - w ≤ 10; omega, Nat.zero_le 1, d⟩
        · exact ⟨by show 1 ≤ x.1 - w; omega, by show x.1 - w ≤ 10; omega, c, d⟩
theorem mTake_len (L : List (Nat × Nat)) (w : Nat) (r : Bool) : (mTake L w r).1.length ≤ L.length := by
  induction L generalizing w with
  | nil => simp [mTake]
  | cons x t ih =>
    unfold mTake
    split
    · simp
    · split
      · have := ih (w - x.1)
        simp only [List.length_cons]; omega
      · split <;> simp
