/-! tools for the heap in sight: reading what was written, numbers, whole rows -/
section PT
variable {h : Nat → Option jC} {b : Nat} {X : jXX} {I : Nat → Nat → Int32} {J : Nat → Nat → Int64} {R : Nat → Nat → Nat} {n : Nat}
theorem u2_s {α : Type} {I : Nat → Nat → α} {k i : Nat} {v : α} : u2 I k i v k i = v := by simp [u2]
theorem u2_k {α : Type} {I : Nat → Nat → α} {k i k' i' : Nat} {v : α} (hk : k' ≠ k) : u2 I k i v k' i' = I k' i' := by simp [u2, hk]
theorem u2_i {α : Type} {I : Nat → Nat → α} {k i i' : Nat} {v : α} (hi : i' ≠ i) : u2 I k i v k i' = I k i' := by simp [u2, hi]
theorem uc_s {α : Type} {I : Nat → Nat → α} {k i : Nat} {f : Nat → α} : uc I k f k i = f i := by simp [uc]
theorem uc_k {α : Type} {I : Nat → Nat → α} {k k' i' : Nat} {f : Nat → α} (hk : k' ≠ k) : uc I k f k' i' = I k' i' := by simp [uc, hk]
theorem uc_c {α : Type} {I : Nat → Nat → α} {k k' : Nat} {f : Nat → α} (hk : k' ≠ k) : uc I k f k' = I k' := by funext i; simp [uc, hk]
theorem LI0 : (0 : Int32) = nI 0 := by decide
theorem LI1 : (1 : Int32) = nI 1 := by decide
theorem LI2 : (2 : Int32) = nI 2 := by decide
theorem LI3 : (3 : Int32) = nI 3 := by decide
theorem LI4 : (4 : Int32) = nI 4 := by decide
theorem LI5 : (5 : Int32) = nI 5 := by decide
theorem LI6 : (6 : Int32) = nI 6 := by decide
theorem LI7 : (7 : Int32) = nI 7 := by decide
theorem LI8 : (8 : Int32) = nI 8 := by decide
theorem LI9 : (9 : Int32) = nI 9 := by decide
theorem LI10 : (10 : Int32) = nI 10 := by decide
theorem LI11 : (11 : Int32) = nI 11 := by decide
theorem LI12 : (12 : Int32) = nI 12 := by decide
theorem LI13 : (13 : Int32) = nI 13 := by decide
theorem LI14 : (14 : Int32) = nI 14 := by decide
theorem LI15 : (15 : Int32) = nI 15 := by decide
theorem LI16 : (16 : Int32) = nI 16 := by decide
theorem LI17 : (17 : Int32) = nI 17 := by decide
theorem LI18 : (18 : Int32) = nI 18 := by decide
theorem LI19 : (19 : Int32) = nI 19 := by decide
theorem LI20 : (20 : Int32) = nI 20 := by decide
theorem LI21 : (21 : Int32) = nI 21 := by decide
theorem LI22 : (22 : Int32) = nI 22 := by decide
theorem LI23 : (23 : Int32) = nI 23 := by decide
theorem LI24 : (24 : Int32) = nI 24 := by decide
theorem LI25 : (25 : Int32) = nI 25 := by decide
theorem LI26 : (26 : Int32) = nI 26 := by decide
theorem LI27 : (27 : Int32) = nI 27 := by decide
theorem LI28 : (28 : Int32) = nI 28 := by decide
theorem LI29 : (29 : Int32) = nI 29 := by decide
theorem LI30 : (30 : Int32) = nI 30 := by decide
theorem LI31 : (31 : Int32) = nI 31 := by decide
theorem LI32 : (32 : Int32) = nI 32 := by decide
theorem LI33 : (33 : Int32) = nI 33 := by decide
theorem LI34 : (34 : Int32) = nI 34 := by decide
theorem LI35 : (35 : Int32) = nI 35 := by decide
theorem LI36 : (36 : Int32) = nI 36 := by decide
theorem LI37 : (37 : Int32) = nI 37 := by decide
theorem LI40 : (40 : Int32) = nI 40 := by decide
theorem LI42 : (42 : Int32) = nI 42 := by decide
theorem LI43 : (43 : Int32) = nI 43 := by decide
theorem LI45 : (45 : Int32) = nI 45 := by decide
theorem LI48 : (48 : Int32) = nI 48 := by decide
theorem LI60 : (60 : Int32) = nI 60 := by decide
theorem LI61 : (61 : Int32) = nI 61 := by decide
theorem LI64 : (64 : Int32) = nI 64 := by decide
theorem LI80 : (80 : Int32) = nI 80 := by decide
theorem LI300 : (300 : Int32) = nI 300 := by decide
theorem LI400 : (400 : Int32) = nI 400 := by decide
theorem LI1000 : (1000 : Int32) = nI 1000 := by decide
theorem LI2000 : (2000 : Int32) = nI 2000 := by decide
theorem LI2001 : (2001 : Int32) = nI 2001 := by decide
theorem LI2047 : (2047 : Int32) = nI 2047 := by decide
theorem LI2048 : (2048 : Int32) = nI 2048 := by decide
theorem LI100000 : (100000 : Int32) = nI 100000 := by decide
theorem LI1000000 : (1000000 : Int32) = nI 1000000 := by decide
theorem nI_sub {a b : Nat} (h : b ≤ a) : nI a - nI b = nI (a - b) := by
  have e : nI a = nI (a - b) + nI b := by rw [nI_add]; congr 1; omega
  rw [e, Int32.add_sub_cancel]
theorem nI_mul (a b : Nat) : nI a * nI b = nI (a * b) := (Int32.ofNat_mul a b).symm
theorem u2_c {α : Type} {I : Nat → Nat → α} {k i k' : Nat} {v : α} (hk : k' ≠ k) : u2 I k i v k' = I k' := by funext j; simp [u2, hk]
theorem nI_ne {a b : Nat} (h : a ≠ b) (ha : a < 2 ^ 31) (hb : b < 2 ^ 31) : ¬ nI a = nI b := fun e => h ((nI_eq ha hb).mp e)
/-- less than nothing -/
def mI (k : Nat) : Int32 := - nI k
theorem LM {k : Nat} : - nI k = mI k := rfl
theorem mI_toInt {k : Nat} (h : k < 2 ^ 31) : (mI k).toInt = - (k : Int) := by
  unfold mI
  rw [Int32.toInt_neg, nI_toInt h]
  apply Int.bmod_eq_of_le <;> omega
theorem mI_lt {k a : Nat} (h0 : 0 < k) (h : k < 2 ^ 31) (ha : a < 2 ^ 31) : mI k < nI a := by
  rw [Int32.lt_iff_toInt_lt, nI_toInt ha, mI_toInt h]; omega
theorem mI_le {k a : Nat} (h : k < 2 ^ 31) (ha : a < 2 ^ 31) : mI k ≤ nI a := by
  rw [Int32.le_iff_toInt_le, nI_toInt ha, mI_toInt h]; omega
theorem mI_nlt {k a : Nat} (h : k < 2 ^ 31) (ha : a < 2 ^ 31) : ¬ nI a < mI k := by
  rw [Int32.lt_iff_toInt_lt, nI_toInt ha, mI_toInt h]; omega
theorem mI_nle {k a : Nat} (h0 : 0 < k) (h : k < 2 ^ 31) (ha : a < 2 ^ 31) : ¬ nI a ≤ mI k := by
  rw [Int32.le_iff_toInt_le, nI_toInt ha, mI_toInt h]; omega
theorem mI_ne {k a : Nat} (h0 : 0 < k) (h : k < 2 ^ 31) (ha : a < 2 ^ 31) : ¬ nI a = mI k := by
  intro e
  have := mI_nle h0 h ha
  rw [e] at this
  exact this (Int32.le_refl _)
theorem mI_ne' {k a : Nat} (h0 : 0 < k) (h : k < 2 ^ 31) (ha : a < 2 ^ 31) : ¬ mI k = nI a := fun e => mI_ne h0 h ha e.symm
theorem mI_nem {k a : Nat} (h0 : k ≠ a) (h : k < 2 ^ 31) (ha : a < 2 ^ 31) : ¬ mI k = mI a := by
  intro e
  have e2 : (mI k).toInt = (mI a).toInt := by rw [e]
  rw [mI_toInt h, mI_toInt ha] at e2
  omega
theorem b0I : nI 0 &&& nI 1 = nI 0 := by decide
theorem b1I : nI 1 &&& nI 1 = nI 1 := by decide
/-- a whole row of ints -/
theorem H_pC {k m : Nat} {g : Nat → Int32} (hk : fx k = true) (hs : sT k = (20, m)) : jset (jH h b X I J R n) (b + k) (20, m, fun i => .int (g i)) = jH h b X (uc I k g) J R n := by
  unfold jset jH
  simp only
  congr 1
  funext q
  unfold jup
  by_cases hq : q = b + k
  · subst hq
    rw [if_pos rfl, if_neg (by omega), Nat.add_sub_cancel_left]
    unfold cl
    rw [if_pos hk, hs]
    simp only
    congr 3
    funext i'
    unfold vf uc
    simp
  · rw [if_neg hq]
    show (if q < b then h q else cl b X I J R (q - b)) = _
    by_cases hb : q < b
    · rw [if_pos hb, if_pos hb]
    · rw [if_neg hb, if_neg hb]
      have hk' : q - b ≠ k := by omega
      have h1 : ∀ i', uc I k g (q - b) i' = I (q - b) i' := fun i' => by simp [uc, hk']
      unfold cl vf
      simp only [h1]
      have hg : gw k = false := by
        unfold fx at hk
        simp at hk
        exact hk.2
      cases hf : gL.find? (fun w => ad X w == q - b) with
      | none => rfl
      | some w =>
        have h2 : gw w = true := by
          have := List.mem_of_find?_eq_some hf
          unfold gw; simpa using this
        have h3 : w ≠ k := by intro e; rw [e, hg] at h2; cases h2
        have h4 : ∀ i', uc I k g w i' = I w i' := fun i' => by simp [uc, h3]
        simp only [h4]
/-- a part of a row over a part of a row -/
def cpI (f g : Nat → Int32) (s d m : Nat) (i : Nat) : Int32 := if d ≤ i ∧ i < d + m then f (s + (i - d)) else g i
theorem cp_v {k1 k s d m : Nat} : va_cpy (vf b 20 X I J R k1) (vf b 20 X I J R k) s d m = fun i => .int (cpI (I k1) (I k) s d m i) := by
  funext i
  unfold va_cpy cpI
  by_cases hc : d ≤ i ∧ i < d + m
  · simp [hc, vf20]
  · simp [hc, vf20]
theorem H_cp20 {k1 k m s d c : Nat} (hk : fx k = true) (hs : sT k = (20, m)) : jset (jH h b X I J R n) (b + k) (20, m, va_cpy (vf b 20 X I J R k1) (vf b 20 X I J R k) s d c) = jH h b X (uc I k (cpI (I k1) (I k) s d c)) J R n := by
  rw [cp_v]
  exact H_pC hk hs
theorem isW_e {w : Nat} (hw : isW w) : w = 57 ∨ w = 132 := by simpa [isW] using hw
theorem isI_e {p : Nat} (hp : isI p) : ∃ j, j < 8 ∧ (p = 66 + 8 * j ∨ p = 141 + 8 * j) := by
  have h : ∀ p ∈ [66, 74, 82, 90, 98, 106, 114, 122, 141, 149, 157, 165, 173, 181, 189, 197], ∃ j, j < 8 ∧ (p = 66 + 8 * j ∨ p = 141 + 8 * j) := by
    intro p hp
    simp at hp
    rcases hp with rfl | rfl | rfl | rfl | rfl | rfl | rfl | rfl | rfl | rfl | rfl | rfl | rfl | rfl | rfl | rfl
    · exact ⟨0, by omega⟩
    · exact ⟨1, by omega⟩
    · exact ⟨2, by omega⟩
    · exact ⟨3, by omega⟩
    · exact ⟨4, by omega⟩
    · exact ⟨5, by omega⟩
    · exact ⟨6, by omega⟩
    · exact ⟨7, by omega⟩
    · exact ⟨0, by omega⟩
    · exact ⟨1, by omega⟩
    · exact ⟨2, by omega⟩
    · exact ⟨3, by omega⟩
    · exact ⟨4, by omega⟩
    · exact ⟨5, by omega⟩
    · exact ⟨6, by omega⟩
    · exact ⟨7, by omega⟩
  exact h p hp
theorem isI_of {w j : Nat} (hw : isW w) (hj : j < 8) : isI (w + 9 + 8 * j) := by
  rcases isW_e hw with rfl | rfl
  · have h : ∀ j < 8, 57 + 9 + 8 * j ∈ [66, 74, 82, 90, 98, 106, 114, 122, 141, 149, 157, 165, 173, 181, 189, 197] := by decide
    exact h j hj
  · have h : ∀ j < 8, 132 + 9 + 8 * j ∈ [66, 74, 82, 90, 98, 106, 114, 122, 141, 149, 157, 165, 173, 181, 189, 197] := by decide
    exact h j hj
theorem isP_e {P : Nat} (hP : isP P) : P = 10 ∨ P = 33 := by simpa [isP] using hP
theorem isC_e {P : Nat} (hP : isC P) : P = 215 ∨ P = 228 := by simpa [isC] using hP
theorem isN_P {P : Nat} (hP : isP P) : isN (P + 1) := by
  rcases isP_e hP with rfl | rfl <;> simp [isN]
end PT
