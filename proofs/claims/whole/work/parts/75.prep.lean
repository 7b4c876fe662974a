/-! how the cells of the class, and those of the reference, tell what is there -/
/-- of the reference: whom it comes from -/
def oR (y : Int32) : Int32 := if y < 0 then (if y = -1 then -3 else y + 1) else y
section RP
variable {α : Type} (cN rN : Int32 → α)
/-- an instance of the class -/
def iC (I : Nat → Nat → Int32) (p : Nat) (a : aI α) : Prop :=
  a.1 = (I p 0, I p 1, I p 2, I p 3, I p 4, I p 5) ∧ a.2.1 = rl (I (p + 1)) a.2.1.length ∧
  I p 7 = nI a.2.2.1.length ∧ a.2.2.1 = rl (fun i => (cN (I (p + 2) i), I (p + 3) i, I (p + 4) i, I (p + 5) i)) a.2.2.1.length ∧
  I p 12 = nI a.2.2.2.length ∧ a.2.2.2 = rl (fun i => (cN (I (p + 6) i), I (p + 7) i)) a.2.2.2.length
/-- an instance of the reference -/
def iR (I : Nat → Nat → Int32) (k : Nat) (a : aI α) : Prop :=
  a.1 = (I 260 k, I 261 k, I 262 k, I 263 k, I 264 k, I 265 k) ∧ (a.2.1 = rl (fun j => I 266 (6 * k + j)) a.2.1.length ∧ ∀ j, a.2.1.length ≤ j → j < 6 → I 266 (6 * k + j) = 0) ∧
  I 267 k = nI a.2.2.1.length ∧ a.2.2.1 = rl (fun i => (rN (I 268 (8 * k + i)), I 269 (8 * k + i), I 270 (8 * k + i), oR (I 271 (8 * k + i)))) a.2.2.1.length ∧
  I 272 k = nI a.2.2.2.length ∧ a.2.2.2 = rl (fun i => (rN (I 273 (4 * k + i)), I 274 (4 * k + i))) a.2.2.2.length
/-- the slots of a world are its own eight instances -/
def okS (R : Nat → Nat → Nat) (w : Nat) : Prop := (∀ k, k < 8 → ∃ j, j < 8 ∧ R (w + 8) k = w + 9 + 8 * j) ∧ ∀ k k', k < 8 → k' < 8 → R (w + 8) k = R (w + 8) k' → k = k'
def wA (I : Nat → Nat → Int32) (R : Nat → Nat → Nat) (w : Nat) (L : List (aI α)) : Prop := okS R w ∧ L.length ≤ 8 ∧ I w 3 = nI L.length ∧ ∀ k a, L[k]? = some a → iC cN I (R (w + 8) k) a
def wB (I : Nat → Nat → Int32) (L : List (aI α)) : Prop := L.length ≤ 8 ∧ I 241 36 = nI L.length ∧ ∀ k a, L[k]? = some a → iR rN I k a
def eC (I : Nat → Nat → Int32) (i : Nat) : aE α := (I 59 i, I 60 i, cN (I 61 i), I 62 i, if (I 59 i = 0 ∨ I 59 i = 1) ∧ ¬ I 64 i = -2 then some (I 63 i, I 64 i) else none)
def eR (I : Nat → Nat → Int32) (i : Nat) : aE α := (I 275 i, I 276 i, rN (I 277 i), I 278 i, if (I 275 i = 0 ∨ I 275 i = 1) ∧ I 281 i = 0 ∧ ¬ I 280 i = -3 then some (oR (I 279 i), oR (I 280 i)) else none)
/-- numbers and the trace; a world without a trace counts alone -/
def tC (I : Nat → Nat → Int32) (w : Nat) (n : Int32 × Int32 × Int32 × Int32 × Int32) (T : List (aE α) × Bool) (F : Nat × Nat) : Prop :=
  I w 4 = n.1 ∧ I w 5 = n.2.1 ∧ (w = 57 → I w 6 = n.2.2.1 ∧ I w 7 = n.2.2.2.1 ∧ I w 8 = n.2.2.2.2 ∧ T.1.length ≤ 400 ∧ I 58 6 = nI T.1.length ∧ T.1 = rl (eC cN I) T.1.length ∧ I 58 7 = if T.2 = true then 1 else 0) ∧
  (w = 132 → I w 6 = nI F.1 ∧ I w 7 = nI F.2 ∧ I 133 6 = 0)
/-- what the reference keeps while it is quiet -/
def tQ (I : Nat → Nat → Int32) (n : Int32 × Int32 × Int32 × Int32 × Int32) (T : List (aE α) × Bool) : Prop :=
  I 241 39 = n.2.2.1 ∧ I 241 40 = n.2.2.2.1 ∧ I 241 41 = n.2.2.2.2 ∧ T.1.length ≤ 400 ∧ I 241 64 = nI T.1.length ∧ T.1 = rl (eR rN I) T.1.length ∧ I 241 65 = if T.2 = true then 1 else 0
/-- l: the reference is not quiet -/
def tR (I : Nat → Nat → Int32) (l : Bool) (n : Int32 × Int32 × Int32 × Int32 × Int32) (T : List (aE α) × Bool) (F : Nat × Nat) : Prop :=
  I 241 37 = n.1 ∧ I 241 38 = n.2.1 ∧ (l = true → I 241 66 = 0 ∧ I 241 39 = n.2.2.1 ∧ I 241 40 = n.2.2.2.1 ∧ I 241 41 = n.2.2.2.2 ∧ T.1.length ≤ 400 ∧ I 241 64 = nI T.1.length ∧ T.1 = rl (eR rN I) T.1.length ∧ I 241 65 = if T.2 = true then 1 else 0) ∧
  (l = false → I 241 66 = 1 ∧ (I 241 67 = 0 ↔ F.1 = 0) ∧ (I 241 68 = 0 ↔ F.2 = 0) ∧ tQ rN I n T)
def wC (I : Nat → Nat → Int32) (R : Nat → Nat → Nat) (w : Nat) (W : aW α) : Prop := wA cN I R w W.1 ∧ tC cN I w W.2.1 W.2.2.1 W.2.2.2
def wR (I : Nat → Nat → Int32) (l : Bool) (W : aW α) : Prop := wB rN I W.1 ∧ tR rN I l W.2.1 W.2.2.1 W.2.2.2
/-- nothing but a world's cells (of the class); the stack's height stays -/
def fC (w : Nat) (I I' : Nat → Nat → Int32) : Prop := (∀ c i, c < w ∨ w + 73 < c → I' c i = I c i) ∧ I' w 10 = I w 10
/-- nothing but the cells of the reference's instances and trace -/
def fR (I I' : Nat → Nat → Int32) : Prop := (∀ c i, c < 241 ∨ (241 < c ∧ c < 260) ∨ 281 < c → I' c i = I c i) ∧ (∀ i, i < 36 ∨ 74 < i → I' 241 i = I 241 i) ∧ I' 241 66 = I 241 66
variable {cN rN}
theorem fC_refl {w : Nat} {I : Nat → Nat → Int32} : fC w I I := ⟨fun _ _ _ => rfl, rfl⟩
theorem fC_trans {w : Nat} {I I' I2 : Nat → Nat → Int32} (h : fC w I I') (h2 : fC w I' I2) : fC w I I2 := ⟨fun c i hc => (h2.1 c i hc).trans (h.1 c i hc), h2.2.trans h.2⟩
theorem fR_refl {I : Nat → Nat → Int32} : fR I I := ⟨fun _ _ _ => rfl, fun _ _ => rfl, rfl⟩
theorem fR_trans {I I' I2 : Nat → Nat → Int32} (h : fR I I') (h2 : fR I' I2) : fR I I2 := ⟨fun c i hc => (h2.1 c i hc).trans (h.1 c i hc), fun i hi => (h2.2.1 i hi).trans (h.2.1 i hi), h2.2.2.trans h.2.2⟩
theorem iC_fr {I I' : Nat → Nat → Int32} {p : Nat} {a : aI α} (hi : ∀ c i, p ≤ c → c ≤ p + 7 → I' c i = I c i) (h : iC cN I p a) : iC cN I' p a := by
  have e : ∀ c, p ≤ c → c ≤ p + 7 → I' c = I c := fun c h1 h2 => funext fun i => hi c i h1 h2
  unfold iC at h ⊢
  rw [e p (by omega) (by omega), e (p + 1) (by omega) (by omega), e (p + 2) (by omega) (by omega), e (p + 3) (by omega) (by omega), e (p + 4) (by omega) (by omega), e (p + 5) (by omega) (by omega), e (p + 6) (by omega) (by omega), e (p + 7) (by omega) (by omega)]
  exact h
theorem okS_r {R : Nat → Nat → Nat} {w k : Nat} (h : okS R w) (hk : k < 8) : w + 9 ≤ R (w + 8) k ∧ R (w + 8) k ≤ w + 65 := by
  obtain ⟨j, hj, e⟩ := h.1 k hk
  omega
theorem okS_d {R : Nat → Nat → Nat} {w k k' : Nat} (h : okS R w) (hk : k < 8) (hk' : k' < 8) (hne : k ≠ k') : R (w + 8) k + 7 < R (w + 8) k' ∨ R (w + 8) k' + 7 < R (w + 8) k := by
  obtain ⟨j, hj, e⟩ := h.1 k hk
  obtain ⟨j', hj', e'⟩ := h.1 k' hk'
  have : R (w + 8) k ≠ R (w + 8) k' := fun x => hne (h.2 k k' hk hk' x)
  omega
theorem wA_lt {I : Nat → Nat → Int32} {R : Nat → Nat → Nat} {w k : Nat} {L : List (aI α)} {a : aI α} (h : wA cN I R w L) (hk : L[k]? = some a) : k < 8 := by
  have h1 : k < L.length := by
    rcases Nat.lt_or_ge k L.length with h2 | h2
    · exact h2
    · rw [List.getElem?_eq_none h2] at hk; cases hk
  have := h.2.1
  omega
theorem wA_fr {I I' : Nat → Nat → Int32} {R : Nat → Nat → Nat} {w : Nat} {L : List (aI α)} (hi : ∀ c i, w + 9 ≤ c → c ≤ w + 72 → I' c i = I c i) (h3 : I' w 3 = I w 3) (h : wA cN I R w L) : wA cN I' R w L := by
  refine ⟨h.1, h.2.1, h3.trans h.2.2.1, fun k a hk => ?_⟩
  have hr := okS_r h.1 (wA_lt h hk)
  exact iC_fr (fun c i h1 h2 => hi c i (by omega) (by omega)) (h.2.2.2 k a hk)
theorem tC_fr {I I' : Nat → Nat → Int32} {w : Nat} {n : Int32 × Int32 × Int32 × Int32 × Int32} {T : List (aE α) × Bool} {F : Nat × Nat} (hi : ∀ c i, w < c → c ≤ w + 7 → I' c i = I c i) (h3 : ∀ i, 4 ≤ i → i ≤ 8 → I' w i = I w i) (h : tC cN I w n T F) : tC cN I' w n T F := by
  unfold tC at h ⊢
  rw [h3 4 (by omega) (by omega), h3 5 (by omega) (by omega), h3 6 (by omega) (by omega), h3 7 (by omega) (by omega), h3 8 (by omega) (by omega)]
  refine ⟨h.1, h.2.1, fun e => ?_, fun e => ?_⟩
  · have e6 := h.2.2.1 e
    subst e
    have e1 : ∀ c, 57 < c → c ≤ 64 → I' c = I c := fun c h1 h2 => funext fun i => hi c i h1 (by omega)
    have e2 : eC cN I' = eC cN I := by
      funext i
      unfold eC
      rw [e1 59 (by omega) (by omega), e1 60 (by omega) (by omega), e1 61 (by omega) (by omega), e1 62 (by omega) (by omega), e1 63 (by omega) (by omega), e1 64 (by omega) (by omega)]
    rw [e1 58 (by omega) (by omega), e2]
    exact e6
  · have e6 := h.2.2.2 e
    subst e
    rw [hi 133 6 (by omega) (by omega)]
    exact e6
/-- one instance has changed -/
theorem wA_put {I I' : Nat → Nat → Int32} {R : Nat → Nat → Nat} {w k : Nat} {L : List (aI α)} {a : aI α} (h : wA cN I R w L) (hk : k < L.length) (hi : ∀ c i, w + 9 ≤ c → c ≤ w + 72 → (c < R (w + 8) k ∨ R (w + 8) k + 7 < c) → I' c i = I c i) (h3 : I' w 3 = I w 3) (ha : iC cN I' (R (w + 8) k) a) : wA cN I' R w (L.set k a) := by
  have h8 : k < 8 := by have := h.2.1; omega
  refine ⟨h.1, by rw [List.length_set]; exact h.2.1, by rw [List.length_set]; exact h3.trans h.2.2.1, fun k' a' hk' => ?_⟩
  rw [List.getElem?_set] at hk'
  by_cases e : k = k'
  · subst e
    rw [if_pos rfl, if_pos hk] at hk'
    cases hk'
    exact ha
  · rw [if_neg e] at hk'
    have h8' := wA_lt h hk'
    have hr := okS_r h.1 h8'
    have hd := okS_d h.1 h8 h8' e
    exact iC_fr (fun c i h1 h2 => hi c i (by omega) (by omega) (by omega)) (h.2.2.2 k' a' hk')
theorem iR_fr {I I' : Nat → Nat → Int32} {k : Nat} {a : aI α} (hi : ∀ c, 260 ≤ c → c ≤ 265 ∨ c = 267 ∨ c = 272 → I' c k = I c k) (h6 : ∀ j, I' 266 (6 * k + j) = I 266 (6 * k + j) ∨ 6 ≤ j ∧ a.2.1.length ≤ j) (h8 : ∀ c j, 268 ≤ c → c ≤ 271 → I' c (8 * k + j) = I c (8 * k + j) ∨ a.2.2.1.length ≤ j) (h4 : ∀ c j, 273 ≤ c → c ≤ 274 → I' c (4 * k + j) = I c (4 * k + j) ∨ a.2.2.2.length ≤ j) (h : iR rN I k a) : iR rN I' k a := by
  unfold iR at h ⊢
  refine ⟨?_, ?_, ?_, ?_, ?_, ?_⟩
  · rw [hi 260 (by omega) (by omega), hi 261 (by omega) (by omega), hi 262 (by omega) (by omega), hi 263 (by omega) (by omega), hi 264 (by omega) (by omega), hi 265 (by omega) (by omega)]
    exact h.1
  · refine ⟨h.2.1.1.trans (rl_congr fun j hj => ?_), fun j hj hj6 => ?_⟩
    · rcases h6 j with e | e
      · exact e.symm
      · omega
    · rcases h6 j with e | e
      · exact e.trans (h.2.1.2 j hj hj6)
      · omega
  · rw [hi 267 (by omega) (by omega)]; exact h.2.2.1
  · refine h.2.2.2.1.trans (rl_congr fun j hj => ?_)
    have e1 := (h8 268 j (by omega) (by omega)).resolve_right (by omega)
    have e2 := (h8 269 j (by omega) (by omega)).resolve_right (by omega)
    have e3 := (h8 270 j (by omega) (by omega)).resolve_right (by omega)
    have e4 := (h8 271 j (by omega) (by omega)).resolve_right (by omega)
    rw [e1, e2, e3, e4]
  · rw [hi 272 (by omega) (by omega)]; exact h.2.2.2.2.1
  · refine h.2.2.2.2.2.trans (rl_congr fun j hj => ?_)
    have e1 := (h4 273 j (by omega) (by omega)).resolve_right (by omega)
    have e2 := (h4 274 j (by omega) (by omega)).resolve_right (by omega)
    rw [e1, e2]
theorem tQ_fr {I I' : Nat → Nat → Int32} {n : Int32 × Int32 × Int32 × Int32 × Int32} {T : List (aE α) × Bool} (hi : ∀ c i, 275 ≤ c → c ≤ 281 → I' c i = I c i) (h3 : ∀ i, (39 ≤ i ∧ i ≤ 41) ∨ i = 64 ∨ i = 65 → I' 241 i = I 241 i) (h : tQ rN I n T) : tQ rN I' n T := by
  have e1 : ∀ c, 275 ≤ c → c ≤ 281 → I' c = I c := fun c h1 h2 => funext fun i => hi c i h1 h2
  have e2 : eR rN I' = eR rN I := by
    funext i
    unfold eR
    rw [e1 275 (by omega) (by omega), e1 276 (by omega) (by omega), e1 277 (by omega) (by omega), e1 278 (by omega) (by omega), e1 279 (by omega) (by omega), e1 280 (by omega) (by omega), e1 281 (by omega) (by omega)]
  unfold tQ at h ⊢
  rw [h3 39 (by omega), h3 40 (by omega), h3 41 (by omega), h3 64 (by omega), h3 65 (by omega), e2]
  exact h
theorem tR_fr {I I' : Nat → Nat → Int32} {l : Bool} {n : Int32 × Int32 × Int32 × Int32 × Int32} {T : List (aE α) × Bool} {F : Nat × Nat} (hi : ∀ c i, 275 ≤ c → c ≤ 281 → I' c i = I c i) (h3 : ∀ i, 37 ≤ i → i ≤ 68 → I' 241 i = I 241 i) (h : tR rN I l n T F) : tR rN I' l n T F := by
  have e1 : ∀ c, 275 ≤ c → c ≤ 281 → I' c = I c := fun c h1 h2 => funext fun i => hi c i h1 h2
  have e2 : eR rN I' = eR rN I := by
    funext i
    unfold eR
    rw [e1 275 (by omega) (by omega), e1 276 (by omega) (by omega), e1 277 (by omega) (by omega), e1 278 (by omega) (by omega), e1 279 (by omega) (by omega), e1 280 (by omega) (by omega), e1 281 (by omega) (by omega)]
  unfold tR tQ at h ⊢
  rw [h3 37 (by omega) (by omega), h3 38 (by omega) (by omega), h3 39 (by omega) (by omega), h3 40 (by omega) (by omega), h3 41 (by omega) (by omega), h3 64 (by omega) (by omega), h3 65 (by omega) (by omega), h3 66 (by omega) (by omega), h3 67 (by omega) (by omega), h3 68 (by omega) (by omega), e2]
  exact h
end RP
