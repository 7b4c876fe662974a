/-! the heap in sight: every cell by its number from the house's address on; ints, longs and references by cell and place; rows that grow (names, nodes, the walker's pool) by the number that they had at first -/
def u2 {α : Type} (I : Nat → Nat → α) (k i : Nat) (v : α) : Nat → Nat → α := fun k' i' => if k' = k ∧ i' = i then v else I k' i'
def uc {α : Type} (I : Nat → Nat → α) (k : Nat) (f : Nat → α) : Nat → Nat → α := fun k' i' => if k' = k then f i' else I k' i'
theorem u2_ap {α : Type} {I : Nat → Nat → α} {k i k' i' : Nat} {v : α} : u2 I k i v k' i' = if k' = k ∧ i' = i then v else I k' i' := rfl
theorem uc_ap {α : Type} {I : Nat → Nat → α} {k k' i' : Nat} {f : Nat → α} : uc I k f k' i' = if k' = k then f i' else I k' i' := rfl
/-- rows that grow -/
def gL : List Nat := [206, 243, 244, 245, 246, 251, 252, 253, 254, 255, 256, 257, 258]
def gw (k : Nat) : Bool := gL.contains k
def gtag (k : Nat) : Nat := if k = 243 then 22 else 20
/-- tags and lengths -/
def sT (k : Nat) : Nat × Nat := (([(10, 14), (22, 2000), (22, 12), (6, 7), (21, 26), (20, 2001), (20, 2001), (20, 2001), (21, 2001), (20, 2001), (5, 18), (3, 3), (21, 1600), (20, 1600), (1, 5), (20, 2048), (20, 2048), (20, 2048), (20, 2048), (20, 6), (20, 6), (20, 6), (20, 6), (20, 36), (20, 36), (20, 6), (20, 48), (20, 48), (20, 384), (20, 384), (20, 384), (20, 384), (20, 384), (5, 18), (3, 3), (21, 1600), (20, 1600), (1, 5), (20, 2048), (20, 2048), (20, 2048), (20, 2048), (20, 6), (20, 6), (20, 6), (20, 6), (20, 36), (20, 36), (20, 6), (20, 48), (20, 48), (20, 384), (20, 384), (20, 384), (20, 384), (20, 384), (4, 10), (9, 13), (7, 8), (20, 400), (20, 400), (20, 400), (20, 400), (20, 400), (20, 400), (24, 8), (2, 15), (20, 6), (20, 8), (20, 8), (20, 8), (20, 8), (20, 4), (20, 4), (2, 15), (20, 6), (20, 8), (20, 8), (20, 8), (20, 8), (20, 4), (20, 4), (2, 15), (20, 6), (20, 8), (20, 8), (20, 8), (20, 8), (20, 4), (20, 4), (2, 15), (20, 6), (20, 8), (20, 8), (20, 8), (20, 8), (20, 4), (20, 4), (2, 15), (20, 6), (20, 8), (20, 8), (20, 8), (20, 8), (20, 4), (20, 4), (2, 15), (20, 6), (20, 8), (20, 8), (20, 8), (20, 8), (20, 4), (20, 4), (2, 15), (20, 6), (20, 8), (20, 8), (20, 8), (20, 8), (20, 4), (20, 4), (2, 15), (20, 6), (20, 8), (20, 8), (20, 8), (20, 8), (20, 4), (20, 4), (20, 64), (8, 16), (9, 13), (7, 8), (20, 0), (20, 0), (20, 0), (20, 0), (20, 0), (20, 0), (24, 8), (2, 15), (20, 6), (20, 8), (20, 8), (20, 8), (20, 8), (20, 4), (20, 4), (2, 15), (20, 6), (20, 8), (20, 8), (20, 8), (20, 8), (20, 4), (20, 4), (2, 15), (20, 6), (20, 8), (20, 8), (20, 8), (20, 8), (20, 4), (20, 4), (2, 15), (20, 6), (20, 8), (20, 8), (20, 8), (20, 8), (20, 4), (20, 4), (2, 15), (20, 6), (20, 8), (20, 8), (20, 8), (20, 8), (20, 4), (20, 4), (2, 15), (20, 6), (20, 8), (20, 8), (20, 8), (20, 8), (20, 4), (20, 4), (2, 15), (20, 6), (20, 8), (20, 8), (20, 8), (20, 8), (20, 4), (20, 4), (2, 15), (20, 6), (20, 8), (20, 8), (20, 8), (20, 8), (20, 4), (20, 4), (20, 64), (20, 4096), (20, 1001), (20, 1000), (20, 1000), (20, 1000), (20, 1000), (20, 2048), (20, 370), (20, 1000), (0, 13), (3, 3), (21, 48), (20, 48), (20, 8), (20, 40), (20, 40), (20, 40), (21, 80), (21, 80), (23, 80), (20, 3160), (20, 3160), (0, 13), (3, 3), (21, 48), (20, 48), (20, 8), (20, 40), (20, 40), (20, 40), (21, 80), (21, 80), (23, 80), (20, 3160), (20, 3160), (12, 101), (11, 6), (22, 1024), (20, 64), (20, 64), (20, 64), (20, 256), (22, 2000), (22, 2000), (22, 16), (20, 1024), (20, 1024), (20, 1024), (20, 1024), (20, 1024), (20, 1024), (20, 1024), (20, 1024), (20, 6), (20, 8), (20, 8), (20, 8), (20, 8), (20, 8), (20, 8), (20, 48), (20, 8), (20, 64), (20, 64), (20, 64), (20, 64), (20, 8), (20, 32), (20, 32), (20, 400), (20, 400), (20, 400), (20, 400), (20, 400), (20, 400), (23, 400), (20, 435870), (20, 1002), (20, 1002), (20, 1002), (20, 1002), (20, 40), (20, 40), (20, 40), (20, 40), (20, 40), (20, 40), (20, 8), (20, 8), (23, 6400), (23, 80), (20, 6400), (20, 6400), (21, 1)] : List (Nat × Nat)).getD k (99, 0))
def fx (k : Nat) : Bool := decide (k < 300) && !gw k
/-- the kind of a field: 0 an int, 2 a reference, 3 none -/
def tyk (t i : Nat) : Nat := (([[2, 2, 0, 2, 2, 2, 0, 2, 2, 2, 2, 2, 0], [2, 2, 2, 2, 0], [0, 0, 0, 0, 0, 0, 2, 0, 2, 2, 2, 2, 0, 2, 2], [2, 2, 0], [2, 2, 2, 0, 0, 0, 0, 0, 0, 0], [2, 0, 2, 0, 2, 2, 2, 2, 2, 2, 2, 2, 2, 2, 2, 2, 2, 2], [2, 2, 2, 2, 2, 2, 0], [2, 2, 2, 2, 2, 2, 0, 0], [2, 2, 2, 2, 2, 2, 2, 2, 2, 0, 0, 0, 0, 2, 0, 0], [2, 2, 2, 0, 0, 0, 0, 0, 0, 2, 0, 0, 0], [2, 0, 2, 0, 2, 2, 2, 2, 2, 2, 0, 2, 2, 0], [2, 2, 2, 2, 2, 0], [0, 2, 0, 2, 2, 2, 2, 2, 0, 0, 2, 2, 2, 0, 0, 0, 0, 0, 0, 0, 0, 2, 2, 2, 2, 2, 2, 2, 2, 0, 0, 0, 0, 0, 0, 2, 0, 0, 0, 0, 0, 0, 2, 2, 2, 2, 2, 2, 2, 2, 2, 2, 2, 2, 2, 2, 2, 2, 2, 2, 2, 2, 2, 2, 0, 0, 0, 0, 0, 0, 0, 0, 0, 0, 0, 2, 2, 2, 2, 2, 0, 0, 0, 0, 0, 0, 0, 0, 0, 2, 2, 2, 2, 2, 2, 2, 2, 2, 2, 2, 2]] : List (List Nat)).getD t []).getD i 3
/-- places whose references change -/
def vr (k i : Nat) : Bool := (k == 0 && (i == 8 || i == 9 || i == 11 || i == 12)) || (k == 56 && (i == 1 || i == 2)) || ((k == 57 || k == 132) && i == 0) || k == 65 || k == 140
def gf (k i : Nat) : Nat := if k = 131 ∧ i = 1 then 206 else if k = 241 ∧ 3 ≤ i ∧ i ≤ 6 then 240 + i else if k = 241 ∧ 21 ≤ i ∧ i ≤ 28 then 230 + i else 0
def c0 (k i : Nat) : Nat := (([[1, 0, 2, 0, 3, 56, 57, 131, 10, 33, 0, 215, 228, 0], [], [], [4, 5, 7, 6, 8, 9, 0], [], [], [], [], [], [], [11, 0, 14, 0, 19, 20, 21, 22, 23, 24, 25, 26, 27, 28, 29, 30, 31, 32], [12, 13, 0], [], [], [15, 16, 17, 18, 0], [], [], [], [], [], [], [], [], [], [], [], [], [], [], [], [], [], [], [34, 0, 37, 0, 42, 43, 44, 45, 46, 47, 48, 49, 50, 51, 52, 53, 54, 55], [35, 36, 0], [], [], [38, 39, 40, 41, 0], [], [], [], [], [], [], [], [], [], [], [], [], [], [], [], [], [], [], [3, 33, 37, 0, 0, 0, 0, 0, 0, 0], [10, 58, 65, 0, 0, 0, 0, 0, 0, 130, 0, 0, 0], [59, 60, 61, 62, 63, 64, 0, 0], [], [], [], [], [], [], [], [0, 0, 0, 0, 0, 0, 67, 0, 68, 69, 70, 71, 0, 72, 73], [], [], [], [], [], [], [], [0, 0, 0, 0, 0, 0, 75, 0, 76, 77, 78, 79, 0, 80, 81], [], [], [], [], [], [], [], [0, 0, 0, 0, 0, 0, 83, 0, 84, 85, 86, 87, 0, 88, 89], [], [], [], [], [], [], [], [0, 0, 0, 0, 0, 0, 91, 0, 92, 93, 94, 95, 0, 96, 97], [], [], [], [], [], [], [], [0, 0, 0, 0, 0, 0, 99, 0, 100, 101, 102, 103, 0, 104, 105], [], [], [], [], [], [], [], [0, 0, 0, 0, 0, 0, 107, 0, 108, 109, 110, 111, 0, 112, 113], [], [], [], [], [], [], [], [0, 0, 0, 0, 0, 0, 115, 0, 116, 117, 118, 119, 0, 120, 121], [], [], [], [], [], [], [], [0, 0, 0, 0, 0, 0, 123, 0, 124, 125, 126, 127, 0, 128, 129], [], [], [], [], [], [], [], [], [132, 206, 207, 208, 209, 210, 211, 212, 213, 0, 0, 0, 0, 214, 0, 0], [10, 133, 140, 0, 0, 0, 0, 0, 0, 205, 0, 0, 0], [134, 135, 136, 137, 138, 139, 0, 0], [], [], [], [], [], [], [], [0, 0, 0, 0, 0, 0, 142, 0, 143, 144, 145, 146, 0, 147, 148], [], [], [], [], [], [], [], [0, 0, 0, 0, 0, 0, 150, 0, 151, 152, 153, 154, 0, 155, 156], [], [], [], [], [], [], [], [0, 0, 0, 0, 0, 0, 158, 0, 159, 160, 161, 162, 0, 163, 164], [], [], [], [], [], [], [], [0, 0, 0, 0, 0, 0, 166, 0, 167, 168, 169, 170, 0, 171, 172], [], [], [], [], [], [], [], [0, 0, 0, 0, 0, 0, 174, 0, 175, 176, 177, 178, 0, 179, 180], [], [], [], [], [], [], [], [0, 0, 0, 0, 0, 0, 182, 0, 183, 184, 185, 186, 0, 187, 188], [], [], [], [], [], [], [], [0, 0, 0, 0, 0, 0, 190, 0, 191, 192, 193, 194, 0, 195, 196], [], [], [], [], [], [], [], [0, 0, 0, 0, 0, 0, 198, 0, 199, 200, 201, 202, 0, 203, 204], [], [], [], [], [], [], [], [], [], [], [], [], [], [], [], [], [], [216, 219, 0, 220, 221, 222, 0, 223, 224, 225, 226, 227, 0], [217, 218, 0], [], [], [], [], [], [], [], [], [], [], [], [229, 232, 0, 233, 234, 235, 0, 236, 237, 238, 239, 240, 0], [230, 231, 0], [], [], [], [], [], [], [], [], [], [], [], [0, 242, 0, 243, 244, 245, 246, 247, 0, 0, 248, 249, 250, 0, 0, 0, 0, 0, 0, 0, 0, 251, 252, 253, 254, 255, 256, 257, 258, 0, 0, 0, 0, 0, 0, 259, 0, 0, 0, 0, 0, 0, 260, 261, 262, 263, 264, 265, 266, 267, 268, 269, 270, 271, 272, 273, 274, 275, 276, 277, 278, 279, 280, 281, 0, 0, 0, 0, 0, 0, 0, 0, 0, 0, 0, 282, 283, 284, 285, 286, 0, 0, 0, 0, 0, 0, 0, 0, 0, 287, 288, 289, 290, 291, 292, 293, 294, 295, 296, 297, 298]] : List (List Nat)).getD k []).getD i 0
/-- where the rows that grow are now, their lengths; what else is there; the next number -/
abbrev jX0 : Type := (Nat → Nat) × (Nat → Nat) × (Nat → Option jC) × Nat
def jWX (X : jX0) : Prop := (∀ v, gw v = true → (X.1 v = v ∨ 300 ≤ X.1 v) ∧ X.1 v < X.2.2.2) ∧ (∀ v w, gw v = true → gw w = true → X.1 v = X.1 w → v = w) ∧ 300 ≤ X.2.2.2 ∧ ∀ k, X.2.2.2 ≤ k → X.2.2.1 k = none
abbrev jXX : Type := { X : jX0 // jWX X }
def ad (X : jXX) (v : Nat) : Nat := X.1.1 v
def cp (X : jXX) (v : Nat) : Nat := X.1.2.1 v
def tp (X : jXX) : Nat := X.1.2.2.2
def tgt (X : jXX) (R : Nat → Nat → Nat) (k i : Nat) : Nat := if gf k i = 0 then (if vr k i = true then R k i else c0 k i) else ad X (gf k i)
def vf (b t : Nat) (X : jXX) (I : Nat → Nat → Int32) (J : Nat → Nat → Int64) (R : Nat → Nat → Nat) (k i : Nat) : Value :=
  if t = 20 ∨ t = 22 ∨ t = 23 then .int (I k i) else if t = 21 then .long (J k i) else if t = 24 then (if i < 8 then .ref (b + R k i) else .null) else if t = 11 then jdf 11 i else if tyk t i = 0 then .int (I k i) else if tyk t i = 2 then .ref (b + tgt X R k i) else jdf t i
/-- the cell k -/
def cl (b : Nat) (X : jXX) (I : Nat → Nat → Int32) (J : Nat → Nat → Int64) (R : Nat → Nat → Nat) (k : Nat) : Option jC :=
  if fx k = true then some ((sT k).1, (sT k).2, fun i => vf b (sT k).1 X I J R k i) else match gL.find? (fun v => ad X v == k) with
    | some v => some (gtag v, cp X v, fun i => .int (I v i))
    | none => X.1.2.2.1 k
def jH (h : Nat → Option jC) (b : Nat) (X : jXX) (I : Nat → Nat → Int32) (J : Nat → Nat → Int64) (R : Nat → Nat → Nat) (n : Nat) : jS := (fun q => if q < b then h q else cl b X I J R (q - b), b + tp X, n)
section PH
variable {h : Nat → Option jC} {b : Nat} {X : jXX} {I : Nat → Nat → Int32} {J : Nat → Nat → Int64} {R : Nat → Nat → Nat} {n : Nat}
theorem H_at {k : Nat} : (jH h b X I J R n).1 (b + k) = cl b X I J R k := by
  show (if b + k < b then h (b + k) else cl b X I J R (b + k - b)) = _
  rw [if_neg (by omega), Nat.add_sub_cancel_left]
theorem H_low {q : Nat} (hq : q < b) : (jH h b X I J R n).1 q = h q := if_pos hq
theorem H_top : (jH h b X I J R n).2.1 = b + tp X := rfl
theorem H_fx {k t m : Nat} (hk : fx k = true) (hs : sT k = (t, m)) : (jH h b X I J R n).1 (b + k) = some (t, m, fun i => vf b t X I J R k i) := by
  rw [H_at]
  unfold cl
  rw [if_pos hk, hs]
theorem gw_fx {v : Nat} (hv : gw v = true) : fx v = false := by unfold fx; rw [hv]; simp
theorem gw_lt {v : Nat} (hv : gw v = true) : v < 300 := by
  have h : ∀ v ∈ gL, v < 300 := by decide
  exact h v (by unfold gw at hv; simpa using hv)
theorem ad_fx {v : Nat} (hv : gw v = true) : fx (ad X v) = false := by
  have h0 := (X.2.1 v hv).1
  rcases h0 with h0 | h0
  · unfold ad; rw [h0]; exact gw_fx hv
  · unfold fx ad
    have : ¬ (X.1.1 v < 300) := by omega
    simp [this]
theorem find_ad {v : Nat} (hv : gw v = true) : gL.find? (fun w => ad X w == ad X v) = some v := by
  have hm : v ∈ gL := by unfold gw at hv; simpa using hv
  cases hf : gL.find? (fun w => ad X w == ad X v) with
  | none =>
    have := List.find?_eq_none.mp hf v hm
    simp at this
  | some w =>
    have h1 := List.find?_some hf
    have h2 : gw w = true := by
      have := List.mem_of_find?_eq_some hf
      unfold gw; simpa using this
    have h3 : ad X w = ad X v := by simpa using h1
    rw [X.2.2.1 w v h2 hv h3]
theorem H_ad {v : Nat} (hv : gw v = true) : (jH h b X I J R n).1 (b + ad X v) = some (gtag v, cp X v, fun i => .int (I v i)) := by
  rw [H_at]
  unfold cl
  rw [if_neg (by rw [ad_fx hv]; decide), find_ad hv]
theorem vf_int {t k k' i i' : Nat} {v : Int32} (ht : t = 20 ∨ t = 22 ∨ t = 23 ∨ (t < 20 ∧ t ≠ 11 ∧ tyk t i' = 0)) : updV (fun i => vf b t X I J R k i) i' (.int v) i = vf b t X (u2 I k i' v) J R k i := by
  unfold updV u2 vf
  by_cases hi : i = i'
  · subst hi
    rcases ht with rfl | rfl | rfl | ⟨h1, h2, h3⟩
    · simp
    · simp
    · simp
    · have : t ≠ 20 ∧ t ≠ 21 ∧ t ≠ 22 ∧ t ≠ 23 ∧ t ≠ 24 := by omega
      simp [this, h2, h3]
  · simp [hi]
theorem cl_o {k k' i : Nat} {v : Int32} (hk : k' ≠ k) (hg : gw k = false) : cl b X (u2 I k i v) J R k' = cl b X I J R k' := by
  have h1 : ∀ i', u2 I k i v k' i' = I k' i' := fun i' => by simp [u2, hk]
  unfold cl vf
  simp only [h1]
  cases hf : gL.find? (fun w => ad X w == k') with
  | none => rfl
  | some w =>
    have h2 : gw w = true := by
      have := List.mem_of_find?_eq_some hf
      unfold gw; simpa using this
    have h3 : w ≠ k := by intro e; rw [e, hg] at h2; cases h2
    have h4 : ∀ i', u2 I k i v w i' = I w i' := fun i' => by simp [u2, h3]
    simp only [h4]
theorem H_pI {k t m i : Nat} {v : Int32} (hk : fx k = true) (hs : sT k = (t, m)) (ht : t = 20 ∨ t = 22 ∨ t = 23 ∨ (t < 20 ∧ t ≠ 11 ∧ tyk t i = 0)) : jset (jH h b X I J R n) (b + k) (t, m, updV (fun i => vf b t X I J R k i) i (.int v)) = jH h b X (u2 I k i v) J R n := by
  unfold jset jH
  simp only
  congr 1
  funext q
  unfold jup
  by_cases hq : q = b + k
  · subst hq
    rw [if_pos rfl, if_neg (by omega), Nat.add_sub_cancel_left]
    unfold cl
    rw [if_pos hk, hs]
    simp only
    congr 3
    funext i'
    exact vf_int (k' := k) ht
  · rw [if_neg hq]
    show (if q < b then h q else cl b X I J R (q - b)) = _
    by_cases hb : q < b
    · rw [if_pos hb, if_pos hb]
    · rw [if_neg hb, if_neg hb]
      refine (cl_o (by omega) ?_).symm
      unfold fx at hk
      simp at hk
      exact hk.2
theorem cl_oJ {k k' i : Nat} {v : Int64} (hk : k' ≠ k) : cl b X I (u2 J k i v) R k' = cl b X I J R k' := by
  have h1 : ∀ i', u2 J k i v k' i' = J k' i' := fun i' => by simp [u2, hk]
  unfold cl vf
  simp only [h1]
theorem H_pJ {k m i : Nat} {v : Int64} (hk : fx k = true) (hs : sT k = (21, m)) : jset (jH h b X I J R n) (b + k) (21, m, updV (fun i => vf b 21 X I J R k i) i (.long v)) = jH h b X I (u2 J k i v) R n := by
  unfold jset jH
  simp only
  congr 1
  funext q
  unfold jup
  by_cases hq : q = b + k
  · subst hq
    rw [if_pos rfl, if_neg (by omega), Nat.add_sub_cancel_left]
    unfold cl
    rw [if_pos hk, hs]
    simp only
    congr 3
    funext i'
    unfold updV vf u2
    by_cases hi : i' = i
    · simp [hi]
    · simp [hi]
  · rw [if_neg hq]
    show (if q < b then h q else cl b X I J R (q - b)) = _
    by_cases hb : q < b
    · rw [if_pos hb, if_pos hb]
    · rw [if_neg hb, if_neg hb]
      exact (cl_oJ (by omega)).symm
theorem cl_oR {k k' i v : Nat} (hk : k' ≠ k) : cl b X I J (u2 R k i v) k' = cl b X I J R k' := by
  have h1 : ∀ i', u2 R k i v k' i' = R k' i' := fun i' => by simp [u2, hk]
  unfold cl vf tgt
  simp only [h1]
theorem H_pR {k t m i v : Nat} (hk : fx k = true) (hs : sT k = (t, m)) (hv : vr k i = true) (hg : gf k i = 0) (ht : (t = 24 ∧ i < 8) ∨ (t < 20 ∧ t ≠ 11 ∧ tyk t i = 2)) : jset (jH h b X I J R n) (b + k) (t, m, updV (fun i => vf b t X I J R k i) i (.ref (b + v))) = jH h b X I J (u2 R k i v) n := by
  unfold jset jH
  simp only
  congr 1
  funext q
  unfold jup
  by_cases hq : q = b + k
  · subst hq
    rw [if_pos rfl, if_neg (by omega), Nat.add_sub_cancel_left]
    unfold cl
    rw [if_pos hk, hs]
    simp only
    congr 3
    funext i'
    unfold updV vf u2 tgt
    by_cases hi : i' = i
    · subst hi
      rcases ht with ⟨rfl, h8⟩ | ⟨h1, h2, h3⟩
      · simp [h8]
      · have : t ≠ 20 ∧ t ≠ 21 ∧ t ≠ 22 ∧ t ≠ 23 ∧ t ≠ 24 := by omega
        simp [this, h2, h3, hv, hg]
    · simp [hi]
  · rw [if_neg hq]
    show (if q < b then h q else cl b X I J R (q - b)) = _
    by_cases hb : q < b
    · rw [if_pos hb, if_pos hb]
    · rw [if_neg hb, if_neg hb]
      exact (cl_oR (by omega)).symm
/-- writing into a row that grows -/
theorem H_pA {v i : Nat} {x : Int32} (hv : gw v = true) : jset (jH h b X I J R n) (b + ad X v) (gtag v, cp X v, updV (fun i => .int (I v i)) i (.int x)) = jH h b X (u2 I v i x) J R n := by
  unfold jset jH
  simp only
  congr 1
  funext q
  unfold jup
  by_cases hq : q = b + ad X v
  · subst hq
    rw [if_pos rfl, if_neg (by omega), Nat.add_sub_cancel_left]
    unfold cl
    rw [if_neg (by rw [ad_fx hv]; decide), find_ad hv]
    simp only
    congr 3
    funext i'
    unfold updV u2
    by_cases hi : i' = i
    · simp [hi]
    · simp [hi]
  · rw [if_neg hq]
    show (if q < b then h q else cl b X I J R (q - b)) = _
    by_cases hb : q < b
    · rw [if_pos hb, if_pos hb]
    · rw [if_neg hb, if_neg hb]
      unfold cl
      by_cases hf : fx (q - b) = true
      · rw [if_pos hf, if_pos hf]
        have h3 : q - b ≠ v := by intro e; rw [e, gw_fx hv] at hf; cases hf
        have h1 : ∀ i', u2 I v i x (q - b) i' = I (q - b) i' := fun i' => by simp [u2, h3]
        unfold vf
        simp only [h1]
      · rw [if_neg hf, if_neg hf]
        cases hw : gL.find? (fun w => ad X w == q - b) with
        | none => rfl
        | some w =>
          have h1 := List.find?_some hw
          have h3 : ad X w = q - b := by simpa using h1
          have h2 : w ≠ v := by intro e; subst e; omega
          have h4 : ∀ i', u2 I v i x w i' = I w i' := fun i' => by simp [u2, h2]
          simp only [h4]
/-- one cell more -/
def xad (X : jXX) (c : jC) : jXX := ⟨(X.1.1, X.1.2.1, up X.1.2.2.1 X.1.2.2.2 (some c), X.1.2.2.2 + 1), by
  obtain ⟨⟨f, g, D, t⟩, h1, h2, h3, h4⟩ := X
  refine ⟨fun v hv => ⟨(h1 v hv).1, Nat.lt_succ_of_lt (h1 v hv).2⟩, h2, Nat.le_succ_of_le h3, fun k hk => ?_⟩
  show up D t (some c) k = none
  unfold up
  have hk' : t + 1 ≤ k := hk
  rw [if_neg (by omega)]
  exact h4 k (by show t ≤ k; omega)⟩
theorem H_new {c : jC} {m : Nat} : jnew (jH h b X I J R n) c m = jH h b (xad X c) I J R (n + m) := by
  unfold jnew jH
  have h1 : tp (xad X c) = tp X + 1 := rfl
  rw [h1]
  simp only [← Nat.add_assoc]
  congr 1
  funext q
  unfold jup
  by_cases hq : q = b + tp X
  · subst hq
    rw [if_pos rfl, if_neg (by omega), Nat.add_sub_cancel_left]
    unfold cl
    have h3 : 300 ≤ tp X := X.2.2.2.1
    have hf : fx (tp X) = false := by unfold fx; simp; intro h; omega
    have h4 : gL.find? (fun w => ad (xad X c) w == tp X) = none := by
      apply List.find?_eq_none.mpr
      intro w hw
      have h5 : gw w = true := by unfold gw; simpa using hw
      have h6 := (X.2.1 w h5).2
      have h7 : ad (xad X c) w = X.1.1 w := rfl
      have h8 : tp X = X.1.2.2.2 := rfl
      simp
      omega
    rw [if_neg (by rw [hf]; decide), h4]
    show some c = up X.1.2.2.1 X.1.2.2.2 (some c) (tp X)
    unfold up
    rw [if_pos (show tp X = X.1.2.2.2 from rfl)]
  · rw [if_neg hq]
    show (if q < b then h q else cl b X I J R (q - b)) = _
    by_cases hb : q < b
    · rw [if_pos hb, if_pos hb]
    · rw [if_neg hb, if_neg hb]
      unfold cl
      have h7 : ad (xad X c) = ad X := rfl
      have h8 : cp (xad X c) = cp X := rfl
      have h9 : tgt (xad X c) = tgt X := by funext R k i; unfold tgt; rw [h7]
      have h10 : ∀ t k i, vf b t (xad X c) I J R k i = vf b t X I J R k i := fun t k i => by unfold vf; rw [h9]
      simp only [h7, h8, h10]
      have h11 : (xad X c).1.2.2.1 (q - b) = X.1.2.2.1 (q - b) := by
        show up X.1.2.2.1 X.1.2.2.2 (some c) (q - b) = _
        unfold up
        rw [if_neg]
        show ¬ q - b = tp X
        omega
      rw [h11]
end PH
