/-! which timer is due first -/
/-- the least due, and where it first stands: from what is known so far -/
def lsT : List (Nm × Int32) → Nat → Int32 × Nat → Int32 × Nat
  | [], _, z => z
  | t :: ts, i, z => lsT ts (i + 1) (if t.2 < z.1 then (t.2, i) else z)
/-- of a row that isn't empty -/
def lst1 (ts : List (Nm × Int32)) : Int32 × Nat := match ts with
  | [] => (0, 0)
  | t :: ts => lsT ts 1 (t.2, 0)
theorem i_lt_trans {x y z : Int32} (h1 : x < y) (h2 : y < z) : x < z := by
  rw [Int32.lt_iff_toInt_lt] at *
  omega
theorem i_lt_le {x y z : Int32} (h1 : x < y) (h2 : y ≤ z) : x < z := by
  rw [Int32.lt_iff_toInt_lt] at *
  rw [Int32.le_iff_toInt_le] at h2
  omega
theorem i_le_lt {x y z : Int32} (h1 : x ≤ y) (h2 : y < z) : x < z := by
  rw [Int32.lt_iff_toInt_lt] at *
  rw [Int32.le_iff_toInt_le] at h1
  omega
theorem i_nlt {x y : Int32} : ¬ x < y ↔ y ≤ x := by
  rw [Int32.lt_iff_toInt_lt, Int32.le_iff_toInt_le]
  omega
theorem lsT_le : ∀ (ts : List (Nm × Int32)) (i : Nat) (z : Int32 × Nat), (lsT ts i z).1 ≤ z.1 ∧ ∀ t, t ∈ ts → (lsT ts i z).1 ≤ t.2 := by
  intro ts
  induction ts with
  | nil => intro i z; exact ⟨Int32.le_refl _, fun t ht => by cases ht⟩
  | cons t ts ih =>
    intro i z
    unfold lsT
    by_cases h : t.2 < z.1
    · rw [if_pos h]
      obtain ⟨h1, h2⟩ := ih (i + 1) (t.2, i)
      refine ⟨?_, fun t' ht => ?_⟩
      · rw [Int32.lt_iff_toInt_lt] at h
        rw [Int32.le_iff_toInt_le] at *
        simp only at h1
        omega
      · cases ht with
        | head => exact h1
        | tail _ ht => exact h2 t' ht
    · rw [if_neg h]
      obtain ⟨h1, h2⟩ := ih (i + 1) z
      refine ⟨h1, fun t' ht => ?_⟩
      cases ht with
      | head =>
        rw [i_nlt] at h
        rw [Int32.le_iff_toInt_le] at *
        omega
      | tail _ ht => exact h2 t' ht
/-- from a greater beginning: the same, if something less is there -/
theorem aDueT_some {k : Nat} : ∀ (ts : List (Nm × Int32)) (i : Nat) (z : Int32 × Nat × Nat) (y : Int32 × Nat), y.1 < z.1 → aDueT k ts i (some (y.1, k, y.2)) = some ((lsT ts i y).1, k, (lsT ts i y).2) := by
  intro ts
  induction ts with
  | nil => intro i z y _; rfl
  | cons t ts ih =>
    intro i z y hy
    unfold aDueT lsT
    simp only
    by_cases h : t.2 < y.1
    · rw [if_pos h, if_pos h]
      exact ih (i + 1) z (t.2, i) (i_lt_trans h hy)
    · rw [if_neg h, if_neg h]
      exact ih (i + 1) z y hy
theorem aDueT_one {k : Nat} : ∀ (ts : List (Nm × Int32)) (i : Nat) (y : Int32 × Nat), aDueT k ts i (some (y.1, k, y.2)) = some ((lsT ts i y).1, k, (lsT ts i y).2) := by
  intro ts
  induction ts with
  | nil => intro i y; rfl
  | cons t ts ih =>
    intro i y
    unfold aDueT lsT
    simp only
    by_cases h : t.2 < y.1
    · rw [if_pos h, if_pos h]
      exact ih (i + 1) (t.2, i)
    · rw [if_neg h, if_neg h]
      exact ih (i + 1) y
theorem aDueT_none {k : Nat} {ts : List (Nm × Int32)} : aDueT k ts 0 none = if ts = [] then none else some ((lst1 ts).1, k, (lst1 ts).2) := by
  cases ts with
  | nil => rfl
  | cons t ts =>
    rw [if_neg (by simp)]
    unfold aDueT lst1
    simp only
    exact aDueT_one ts 1 (t.2, 0)
/-- of the rest: what is less than all so far, or nothing new -/
theorem aDueT_z {k : Nat} : ∀ (ts : List (Nm × Int32)) (i : Nat) (z : Int32 × Nat × Nat) (y : Int32 × Nat), ¬ y.1 < z.1 → (aDueT k ts i (some z) = if (lsT ts i y).1 < z.1 then some ((lsT ts i y).1, k, (lsT ts i y).2) else some z) := by
  intro ts
  induction ts with
  | nil =>
    intro i z y hy
    show some z = if y.1 < z.1 then _ else some z
    rw [if_neg hy]
  | cons t ts ih =>
    intro i z y hy
    unfold aDueT lsT
    simp only
    by_cases h : t.2 < z.1
    · rw [if_pos h]
      have hty : t.2 < y.1 := i_lt_le h (i_nlt.mp hy)
      rw [if_pos hty]
      have e := aDueT_one (k := k) ts (i + 1) (t.2, i)
      simp only at e
      rw [e]
      have hl := (lsT_le ts (i + 1) (t.2, i)).1
      rw [if_pos (i_le_lt hl h)]
    · rw [if_neg h]
      by_cases hty : t.2 < y.1
      · rw [if_pos hty]
        exact ih (i + 1) z (t.2, i) h
      · rw [if_neg hty]
        exact ih (i + 1) z y hy
theorem aDueT_c {k : Nat} {ts : List (Nm × Int32)} {z : Int32 × Nat × Nat} : aDueT k ts 0 (some z) = if ts = [] then some z else if (lst1 ts).1 < z.1 then some ((lst1 ts).1, k, (lst1 ts).2) else some z := by
  cases ts with
  | nil => rfl
  | cons t ts =>
    rw [if_neg (by simp)]
    unfold aDueT lst1
    simp only
    by_cases h : t.2 < z.1
    · rw [if_pos h]
      have e := aDueT_one (k := k) ts 1 (t.2, 0)
      simp only at e
      have hl := (lsT_le ts 1 (t.2, 0)).1
      rw [if_pos (i_le_lt hl h)]
      exact e
    · rw [if_neg h]
      exact aDueT_z ts 1 z (t.2, 0) h
theorem lsT_ix : ∀ (ts : List (Nm × Int32)) (i : Nat) (z : Int32 × Nat), (lsT ts i z = z ∧ ∀ (j : Nat) (t : Nm × Int32), ts[j]? = some t → ¬ t.2 < z.1) ∨ (i ≤ (lsT ts i z).2 ∧ (∃ t, ts[(lsT ts i z).2 - i]? = some t ∧ t.2 = (lsT ts i z).1) ∧ (lsT ts i z).1 < z.1 ∧ ∀ (j : Nat) (t : Nm × Int32), j < (lsT ts i z).2 - i → ts[j]? = some t → ¬ t.2 = (lsT ts i z).1) := by
  intro ts
  induction ts with
  | nil => intro i z; exact Or.inl ⟨rfl, fun j t h => by simp at h⟩
  | cons t ts ih =>
    intro i z
    unfold lsT
    by_cases h : t.2 < z.1
    · rw [if_pos h]
      rcases ih (i + 1) (t.2, i) with ⟨e, h2⟩ | ⟨h1, ⟨t', h2, h3⟩, h4, h5⟩
      · rw [e]
        refine Or.inr ⟨Nat.le_refl _, ⟨t, by simp, rfl⟩, h, fun j t' hj => by simp at hj⟩
      · refine Or.inr ⟨by omega, ⟨t', ?_, h3⟩, i_lt_trans h4 h, fun j t2 hj ht2 => ?_⟩
        · rw [show (lsT ts (i + 1) (t.2, i)).2 - i = ((lsT ts (i + 1) (t.2, i)).2 - (i + 1)) + 1 by omega]
          simpa using h2
        · cases j with
          | zero =>
            have : t2 = t := by simpa using ht2.symm
            subst this
            intro e
            rw [← e] at h4
            rw [Int32.lt_iff_toInt_lt] at h4
            simp only at h4
            omega
          | succ j => exact h5 j t2 (by omega) (by simpa using ht2)
    · rw [if_neg h]
      rcases ih (i + 1) z with ⟨e, h2⟩ | ⟨h1, ⟨t', h2, h3⟩, h4, h5⟩
      · refine Or.inl ⟨e, fun j t2 ht2 => ?_⟩
        cases j with
        | zero =>
          have : t2 = t := by simpa using ht2.symm
          subst this
          exact h
        | succ j => exact h2 j t2 (by simpa using ht2)
      · refine Or.inr ⟨by omega, ⟨t', ?_, h3⟩, h4, fun j t2 hj ht2 => ?_⟩
        · rw [show (lsT ts (i + 1) z).2 - i = ((lsT ts (i + 1) z).2 - (i + 1)) + 1 by omega]
          simpa using h2
        · cases j with
          | zero =>
            have : t2 = t := by simpa using ht2.symm
            subst this
            intro e
            rw [← e] at h4
            exact h h4
          | succ j => exact h5 j t2 (by omega) (by simpa using ht2)
/-- where the least first stands -/
theorem lst1_ix {ts : List (Nm × Int32)} (hne : ts ≠ []) : (lst1 ts).2 < ts.length ∧ (∃ t, ts[(lst1 ts).2]? = some t ∧ t.2 = (lst1 ts).1) ∧ ∀ (j : Nat) (t : Nm × Int32), j < (lst1 ts).2 → ts[j]? = some t → ¬ t.2 = (lst1 ts).1 := by
  cases ts with
  | nil => exact absurd rfl hne
  | cons t ts =>
    unfold lst1
    simp only
    rcases lsT_ix ts 1 (t.2, 0) with ⟨e, h2⟩ | ⟨h1, ⟨t', h2, h3⟩, h4, h5⟩
    · rw [e]
      exact ⟨by simp, ⟨t, by simp, rfl⟩, fun j t' hj => by simp at hj⟩
    · have hl : (lsT ts 1 (t.2, 0)).2 - 1 < ts.length := by
        rcases Nat.lt_or_ge ((lsT ts 1 (t.2, 0)).2 - 1) ts.length with h | h
        · exact h
        · rw [List.getElem?_eq_none h] at h2; cases h2
      refine ⟨by simp; omega, ⟨t', ?_, h3⟩, fun j t2 hj ht2 => ?_⟩
      · rw [show (lsT ts 1 (t.2, 0)).2 = ((lsT ts 1 (t.2, 0)).2 - 1) + 1 by omega]
        simpa using h2
      · cases j with
        | zero =>
          have : t2 = t := by simpa using ht2.symm
          subst this
          intro e
          rw [← e] at h4
          rw [Int32.lt_iff_toInt_lt] at h4
          simp only at h4
          omega
        | succ j => exact h5 j t2 (by omega) (by simpa using ht2)
