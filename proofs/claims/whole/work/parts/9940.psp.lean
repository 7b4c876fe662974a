/-! what a text says, said once over the kinds K of its tokens: code for a machine with a stack; inr j: the number, or the name, of token j -/
abbrev oA : Type := Int32 ⊕ Nat
/-- op, argument, peer, token -/
abbrev oT : Type := Nat × oA × oA × Nat
/-- code, or none: it can't stand; where it halts -/
abbrev pR : Type := Option (List oT) × Nat
def pB (a : pR) (f : List oT → Nat → pR) : pR := match a.1 with | none => (none, a.2) | some l => f l a.2
theorem pB_n {a : pR} {f : List oT → Nat → pR} {j : Nat} (h : a = (none, j)) : pB a f = (none, j) := by rw [h]; rfl
theorem pB_s {a : pR} {f : List oT → Nat → pR} {l : List oT} {j : Nat} (h : a = (some l, j)) : pB a f = f l j := by rw [h]; rfl
/-- the op of a simple part -/
def aop (k : Nat) : Option Nat := if k = 27 then some 0 else if k = 26 then some 1 else if k = 25 then some 2 else if k = 21 then some 3 else if k = 20 then some 4 else if k = 22 then some 5 else if k = 23 then some 6 else none
/-- the op of a target -/
def top0 (k : Nat) : Option Nat := if k = 24 then some 14 else if k = 20 then some 15 else if k = 21 then some 16 else if k = 22 then some 17 else if k = 23 then some 18 else if k = 26 then some 19 else none
section PS
variable (K : Nat → Nat) (pr : Nat)
def oz (op tk : Nat) : oT := (op, .inl 0, .inl (nI pr), tk)
def pN (k : Nat) (l : List oT) (j : Nat) : pR := if K j = k then (some l, j + 1) else (none, j)
def xA (j : Nat) : pR := match aop (K j) with | some o => (some [(o, .inr j, .inl (nI pr), j)], j + 1) | none => (none, j)
section XS
variable (S : Nat → pR)
def xPl : Nat → List oT → Nat → pR
  | 0, l, j => (some l, j)
  | r + 1, l, j => if K j = 42 then pB (S (j + 1)) (fun l1 j1 => xPl r (l ++ l1 ++ [oz pr 10 (j1 - 1)]) j1) else (some l, j)
def xP (j : Nat) : pR := pB (S j) (fun l j1 => xPl K pr S 2001 l j1)
def xQl : Nat → List oT → Nat → pR
  | 0, l, j => (some l, j)
  | r + 1, l, j => if K j = 43 ∨ K j = 45 then pB (xP K pr S (j + 1)) (fun l1 j1 => xQl r (l ++ l1 ++ [oz pr (if K j = 43 then 8 else 9) (j1 - 1)]) j1) else (some l, j)
def xQ (j : Nat) : pR := pB (xP K pr S j) (fun l j1 => xQl K pr S 2001 l j1)
def xE (j : Nat) : pR := pB (xQ K pr S j) (fun l j1 => if K j1 = 30 ∨ K j1 = 60 then pB (xQ K pr S (j1 + 1)) (fun l2 j2 => (some (l ++ l2 ++ [oz pr (if K j1 = 60 then 12 else 11) (j2 - 1)]), j2)) else (some l, j1))
end XS
/-- a simple part, where g brackets more may stand around it -/
def xS : Nat → Nat → pR
  | 0, j => xA K pr j
  | g + 1, j => if K j = 40 then pB (xE K pr (xS g) (j + 1)) (fun l j1 => pN K 41 l j1) else if K j = 45 then pB (xS g (j + 1)) (fun l j1 => (some (l ++ [oz pr 7 (j1 - 1)]), j1)) else xA K pr j
/-- a bracket -/
def xB : Nat → Nat → pR
  | 0, j => (none, j)
  | g + 1, j => if K j = 40 then pB (xE K pr (xS K pr g) (j + 1)) (fun l j1 => pN K 41 l j1) else (none, j)
def bL (A : Nat → Nat → pR) (L : Nat) : Nat → List oT → Nat → pR
  | 0, l, j => (some l, j)
  | r + 1, l, j => if K j = 125 then (some l, j) else pB (A (L + l.length) j) (fun l1 j1 => bL A L r (l ++ l1) j1)
/-- a block within another -/
def bI0 (A : Nat → Nat → pR) (L j : Nat) : pR := if K j = 123 then pB (bL K A L 2001 [] (j + 1)) (fun l j1 => pN K 125 l j1) else (none, j)
def aT (sg : Nat) (l : List oT) (j : Nat) : pR := match top0 (K j) with | some o => pN K 59 (l ++ [(o, .inr sg, .inr j, j)]) (j + 1) | none => (none, j)
/-- an act: g more brackets; B: a block -/
def a1 (g : Nat) (B : Nat → Nat → pR) (L j : Nat) : pR :=
  if K j = 26 then (if K (j + 1) = 61 then pB (xE K pr (xS K pr g) (j + 2)) (fun l j1 => pN K 59 (l ++ [(13, .inr j, .inl (nI pr), j)]) j1) else (none, j + 1)) else
  if K j = 10 then (if K (j + 1) = 26 then pB (if K (j + 2) = 40 then xB K pr g (j + 2) else (some [oz pr 0 (j + 1)], j + 2)) (fun l j1 => if K j1 = 11 then aT K (j + 1) l (j1 + 1) else (none, j1)) else (none, j + 1)) else
  if K j = 12 then (if K (j + 1) = 26 then pB (xE K pr (xS K pr g) (j + 2)) (fun l j1 => pN K 59 (l ++ [(20, .inr (j + 1), .inl (nI pr), j1 - 1)]) j1) else (none, j + 1)) else
  if K j = 13 ∨ K j = 14 ∨ K j = 15 then (if K (j + 1) = 26 then pN K 59 [(K j + 8, .inr (j + 1), .inl (nI pr), j + 1)] (j + 2) else (none, j + 1)) else
  if K j = 16 then pN K 59 [oz pr 24 j] (j + 1) else
  if K j = 17 then pB (xE K pr (xS K pr g) (j + 1)) (fun l j1 => pN K 59 (l ++ [oz pr 25 (j1 - 1)]) j1) else
  if K j = 18 then pB (xB K pr g (j + 1)) (fun l j1 => pB (B (L + l.length + 1) j1) (fun l2 j2 =>
      if K j2 = 19 then pB (B (L + l.length + 1 + l2.length + 1) (j2 + 1)) (fun l3 j3 => (some (l ++ [(26, .inl (nI (L + l.length + 1 + l2.length + 1)), .inl (nI pr), j1 - 1)] ++ l2 ++ [(27, .inl (nI (L + l.length + 1 + l2.length + 1 + l3.length)), .inl (nI pr), j2)] ++ l3), j3))
      else (some (l ++ [(26, .inl (nI (L + l.length + 1 + l2.length)), .inl (nI pr), j1 - 1)] ++ l2), j2))) else
  (none, j)
def aA : Nat → Nat → Nat → pR
  | 0, L, j => a1 K pr 0 (fun _ j => (none, j)) L j
  | g + 1, L, j => a1 K pr (g + 1) (bI0 K (aA g)) L j
/-- a whole body -/
def bO (L j : Nat) : pR := if K j = 123 then pB (bL K (aA K pr 7) L 2001 [] (j + 1)) (fun l j1 => pN K 125 (l ++ [oz pr 28 j1]) j1) else (none, j)
end PS
/-- where it halts, how much code there is, which tokens it speaks of -/
def pOK (m j : Nat) (a : pR) : Prop := j ≤ a.2 ∧ a.2 ≤ m ∧ ∀ l, a.1 = some l → l.length ≤ a.2 - j ∧ ∀ x, x ∈ l → j ≤ x.2.2.2 ∧ x.2.2.2 < a.2
section PO
variable {K : Nat → Nat} {pr m : Nat}
theorem pOK_n {j j' : Nat} (h : j ≤ j') (h2 : j' ≤ m) : pOK m j (none, j') := ⟨h, h2, fun l hl => by cases hl⟩
theorem pOK_s {j j' : Nat} {l : List oT} (h : j ≤ j') (h2 : j' ≤ m) (h3 : l.length ≤ j' - j) (h4 : ∀ x, x ∈ l → j ≤ x.2.2.2 ∧ x.2.2.2 < j') : pOK m j (some l, j') := ⟨h, h2, fun l' hl => by cases hl; exact ⟨h3, h4⟩⟩
theorem pOK_mono {j0 j : Nat} {a : pR} (h0 : j0 ≤ j) (h : pOK m j a) : pOK m j0 a := ⟨by have := h.1; omega, h.2.1, fun l hl => ⟨by have := (h.2.2 l hl).1; omega, fun x hx => ⟨by have := ((h.2.2 l hl).2 x hx).1; omega, ((h.2.2 l hl).2 x hx).2⟩⟩⟩
/-- what goes on behind a; l ahead -/
theorem pOK_B {j0 j : Nat} {a : pR} {f : List oT → Nat → pR} (h0 : j0 ≤ j) (h : pOK m j a) (hf : ∀ l j1, a = (some l, j1) → j ≤ j1 → j1 ≤ m → l.length ≤ j1 - j → (∀ x, x ∈ l → j ≤ x.2.2.2 ∧ x.2.2.2 < j1) → pOK m j0 (f l j1)) : pOK m j0 (pB a f) := by
  obtain ⟨o, j1⟩ := a
  cases o with
  | none => exact pOK_n (by have := h.1; simp at this; omega) h.2.1
  | some l => exact hf l j1 rfl h.1 h.2.1 (h.2.2 l rfl).1 (h.2.2 l rfl).2
theorem kin {l l' : List oT} {j j' j0 j1 : Nat} (h : ∀ x, x ∈ l → j ≤ x.2.2.2 ∧ x.2.2.2 < j') (h0 : j0 ≤ j) (h1 : j' ≤ j1) (hl : ∀ x, x ∈ l' → j0 ≤ x.2.2.2 ∧ x.2.2.2 < j1) : ∀ x, x ∈ l ++ l' → j0 ≤ x.2.2.2 ∧ x.2.2.2 < j1 := by
  intro x hx
  rcases List.mem_append.mp hx with hx | hx
  · have := h x hx; omega
  · exact hl x hx
theorem kin1 {o : oT} {j0 j1 : Nat} (h : j0 ≤ o.2.2.2 ∧ o.2.2.2 < j1) : ∀ x, x ∈ [o] → j0 ≤ x.2.2.2 ∧ x.2.2.2 < j1 := by
  intro x hx
  have : x = o := by simpa using hx
  rw [this]; exact h
theorem pN_ok (hm : ∀ j, j ≤ m → K j ≠ 29 → j < m) {k j0 j : Nat} {l : List oT} (hk : k ≠ 29) (h0 : j0 ≤ j) (h2 : j ≤ m) (h3 : l.length ≤ j + 1 - j0) (h4 : ∀ x, x ∈ l → j0 ≤ x.2.2.2 ∧ x.2.2.2 < j + 1) : pOK m j0 (pN K k l j) := by
  unfold pN
  split
  · next e => exact pOK_s (by omega) (by have := hm j h2 (by rw [e]; exact hk); omega) h3 h4
  · exact pOK_n h0 h2
theorem xA_ok (hm : ∀ j, j ≤ m → K j ≠ 29 → j < m) {j : Nat} (h2 : j ≤ m) : pOK m j (xA K pr j) := by
  unfold xA
  cases h : aop (K j) with
  | none => exact pOK_n (Nat.le_refl _) h2
  | some o =>
    have : K j ≠ 29 := by intro e; rw [e] at h; simp [aop] at h
    have := hm j h2 this
    exact pOK_s (by omega) (by omega) (by simp) (kin1 ⟨Nat.le_refl _, Nat.lt_succ_self _⟩)
section PX
variable {S : Nat → pR}
theorem xPl_ok (hm : ∀ j, j ≤ m → K j ≠ 29 → j < m) (hS : ∀ j, j ≤ m → pOK m j (S j)) {j0 : Nat} : ∀ (r : Nat) (l : List oT) (j : Nat), j0 ≤ j → j ≤ m → l.length ≤ j - j0 → (∀ x, x ∈ l → j0 ≤ x.2.2.2 ∧ x.2.2.2 < j) → pOK m j0 (xPl K pr S r l j) := by
  intro r
  induction r with
  | zero => intro l j h0 h1 h2 h3; exact pOK_s h0 h1 h2 h3
  | succ r ih =>
    intro l j h0 h1 h2 h3
    unfold xPl
    split
    · next e =>
      have hj := hm j h1 (by rw [e]; decide)
      refine pOK_B (by omega) (hS (j + 1) (by omega)) fun l1 j1 _ h4 h5 h6 h7 => ih _ j1 (by omega) h5 (by simp only [List.length_append, List.length_cons, List.length_nil]; omega) ?_
      exact kin (kin h3 (Nat.le_refl _) (by omega) (fun x hx => by have := h7 x hx; omega) : ∀ x, x ∈ l ++ l1 → j0 ≤ x.2.2.2 ∧ x.2.2.2 < j1) (Nat.le_refl _) (Nat.le_refl _) (kin1 ⟨by show j0 ≤ j1 - 1; omega, by show j1 - 1 < j1; omega⟩)
    · exact pOK_s h0 h1 h2 h3
theorem xP_ok (hm : ∀ j, j ≤ m → K j ≠ 29 → j < m) (hS : ∀ j, j ≤ m → pOK m j (S j)) {j : Nat} (h2 : j ≤ m) : pOK m j (xP K pr S j) := pOK_B (Nat.le_refl _) (hS j h2) fun l j1 _ h4 h5 h6 h7 => xPl_ok hm hS 2001 l j1 h4 h5 h6 h7
theorem xQl_ok (hm : ∀ j, j ≤ m → K j ≠ 29 → j < m) (hS : ∀ j, j ≤ m → pOK m j (S j)) {j0 : Nat} : ∀ (r : Nat) (l : List oT) (j : Nat), j0 ≤ j → j ≤ m → l.length ≤ j - j0 → (∀ x, x ∈ l → j0 ≤ x.2.2.2 ∧ x.2.2.2 < j) → pOK m j0 (xQl K pr S r l j) := by
  intro r
  induction r with
  | zero => intro l j h0 h1 h2 h3; exact pOK_s h0 h1 h2 h3
  | succ r ih =>
    intro l j h0 h1 h2 h3
    unfold xQl
    split
    · next e =>
      have hj := hm j h1 (by rcases e with e | e <;> rw [e] <;> decide)
      refine pOK_B (by omega) (xP_ok hm hS (j := j + 1) (by omega)) fun l1 j1 _ h4 h5 h6 h7 => ih _ j1 (by omega) h5 (by simp only [List.length_append, List.length_cons, List.length_nil]; omega) ?_
      exact kin (kin h3 (Nat.le_refl _) (by omega) (fun x hx => by have := h7 x hx; omega) : ∀ x, x ∈ l ++ l1 → j0 ≤ x.2.2.2 ∧ x.2.2.2 < j1) (Nat.le_refl _) (Nat.le_refl _) (kin1 ⟨by show j0 ≤ j1 - 1; omega, by show j1 - 1 < j1; omega⟩)
    · exact pOK_s h0 h1 h2 h3
theorem xQ_ok (hm : ∀ j, j ≤ m → K j ≠ 29 → j < m) (hS : ∀ j, j ≤ m → pOK m j (S j)) {j : Nat} (h2 : j ≤ m) : pOK m j (xQ K pr S j) := pOK_B (Nat.le_refl _) (xP_ok hm hS h2) fun l j1 _ h4 h5 h6 h7 => xQl_ok hm hS 2001 l j1 h4 h5 h6 h7
theorem xE_ok (hm : ∀ j, j ≤ m → K j ≠ 29 → j < m) (hS : ∀ j, j ≤ m → pOK m j (S j)) {j : Nat} (h2 : j ≤ m) : pOK m j (xE K pr S j) := by
  refine pOK_B (Nat.le_refl _) (xQ_ok hm hS h2) fun l j1 _ h4 h5 h6 h7 => ?_
  split
  · next e =>
    have hj := hm j1 h5 (by rcases e with e | e <;> rw [e] <;> decide)
    refine pOK_B (by omega) (xQ_ok hm hS (j := j1 + 1) (by omega)) fun l2 j2 _ h4' h5' h6' h7' => pOK_s (by omega) h5' (by simp only [List.length_append, List.length_cons, List.length_nil]; omega) ?_
    exact kin (kin h7 (Nat.le_refl _) (by omega) (fun x hx => by have := h7' x hx; omega) : ∀ x, x ∈ l ++ l2 → j ≤ x.2.2.2 ∧ x.2.2.2 < j2) (Nat.le_refl _) (Nat.le_refl _) (kin1 ⟨by show j ≤ j2 - 1; omega, by show j2 - 1 < j2; omega⟩)
  · exact pOK_s h4 h5 h6 h7
end PX
theorem xS_ok (hm : ∀ j, j ≤ m → K j ≠ 29 → j < m) : ∀ (g j : Nat), j ≤ m → pOK m j (xS K pr g j) := by
  intro g
  induction g with
  | zero => intro j h; exact xA_ok hm h
  | succ g ih =>
    intro j h
    unfold xS
    split
    · next e =>
      have hj := hm j h (by rw [e]; decide)
      refine pOK_B (by omega) (xE_ok hm ih (j := j + 1) (by omega)) fun l j1 _ h4 h5 h6 h7 => pN_ok hm (by decide) (by omega) h5 (by omega) (fun x hx => by have := h7 x hx; omega)
    · split
      · next e =>
        have hj := hm j h (by rw [e]; decide)
        refine pOK_B (by omega) (ih (j + 1) (by omega)) fun l j1 _ h4 h5 h6 h7 => pOK_s (by omega) h5 (by simp only [List.length_append, List.length_cons, List.length_nil]; omega) ?_
        exact kin h7 (by omega) (Nat.le_refl _) (kin1 ⟨by show j ≤ j1 - 1; omega, by show j1 - 1 < j1; omega⟩)
      · exact xA_ok hm h
theorem xB_ok (hm : ∀ j, j ≤ m → K j ≠ 29 → j < m) : ∀ (g j : Nat), j ≤ m → pOK m j (xB K pr g j) := by
  intro g j h
  cases g with
  | zero => exact pOK_n (Nat.le_refl _) h
  | succ g =>
    show pOK m j (if K j = 40 then pB (xE K pr (xS K pr g) (j + 1)) (fun l j1 => pN K 41 l j1) else (none, j))
    split
    · next e =>
      have hj := hm j h (by rw [e]; decide)
      refine pOK_B (by omega) (xE_ok hm (xS_ok hm g) (j := j + 1) (by omega)) fun l j1 _ h4 h5 h6 h7 => pN_ok hm (by decide) (by omega) h5 (by omega) (fun x hx => by have := h7 x hx; omega)
    · exact pOK_n (Nat.le_refl _) h
theorem bL_ok (hm : ∀ j, j ≤ m → K j ≠ 29 → j < m) {A : Nat → Nat → pR} (hA : ∀ L j, j ≤ m → pOK m j (A L j)) {L j0 : Nat} : ∀ (r : Nat) (l : List oT) (j : Nat), j0 ≤ j → j ≤ m → l.length ≤ j - j0 → (∀ x, x ∈ l → j0 ≤ x.2.2.2 ∧ x.2.2.2 < j) → pOK m j0 (bL K A L r l j) := by
  intro r
  induction r with
  | zero => intro l j h0 h1 h2 h3; exact pOK_s h0 h1 h2 h3
  | succ r ih =>
    intro l j h0 h1 h2 h3
    unfold bL
    split
    · exact pOK_s h0 h1 h2 h3
    · refine pOK_B h0 (hA _ j h1) fun l1 j1 _ h4 h5 h6 h7 => ih _ j1 (by omega) h5 (by simp only [List.length_append]; omega) ?_
      exact kin h3 (Nat.le_refl _) h4 (fun x hx => by have := h7 x hx; omega)
theorem bI0_ok (hm : ∀ j, j ≤ m → K j ≠ 29 → j < m) {A : Nat → Nat → pR} (hA : ∀ L j, j ≤ m → pOK m j (A L j)) {L j : Nat} (h : j ≤ m) : pOK m j (bI0 K A L j) := by
  unfold bI0
  split
  · next e =>
    have hj := hm j h (by rw [e]; decide)
    refine pOK_B (by omega) (bL_ok hm hA (j0 := j + 1) 2001 [] (j + 1) (Nat.le_refl _) (by omega) (by simp) (by simp)) fun l j1 _ h4 h5 h6 h7 => pN_ok hm (by decide) (by omega) h5 (by omega) (fun x hx => by have := h7 x hx; omega)
  · exact pOK_n (Nat.le_refl _) h
theorem aT_ok (hm : ∀ j, j ≤ m → K j ≠ 29 → j < m) {sg j0 j : Nat} {l : List oT} (h0 : j0 ≤ j) (h1 : j ≤ m) (h2 : l.length ≤ j - j0) (h3 : ∀ x, x ∈ l → j0 ≤ x.2.2.2 ∧ x.2.2.2 < j) : pOK m j0 (aT K sg l j) := by
  unfold aT
  cases h : top0 (K j) with
  | none => exact pOK_n h0 h1
  | some o =>
    have : K j ≠ 29 := by intro e; rw [e] at h; simp [top0] at h
    have := hm j h1 this
    exact pN_ok hm (by decide) (by omega) (by omega) (by simp only [List.length_append, List.length_cons, List.length_nil]; omega) (kin h3 (Nat.le_refl _) (by omega) (kin1 ⟨by show j0 ≤ j; omega, by show j < j + 1 + 1; omega⟩))
theorem a1_ok (hm : ∀ j, j ≤ m → K j ≠ 29 → j < m) {g : Nat} {B : Nat → Nat → pR} (hB : ∀ L j, j ≤ m → pOK m j (B L j)) {L j : Nat} (h : j ≤ m) : pOK m j (a1 K pr g B L j) := by
  have hE := fun (j : Nat) (hj : j ≤ m) => xE_ok (pr := pr) hm (xS_ok (pr := pr) hm g) (j := j) hj
  unfold a1
  split
  · next e =>
    have hj := hm j h (by rw [e]; decide)
    split
    · next e2 =>
      have hj2 := hm (j + 1) (by omega) (by rw [e2]; decide)
      refine pOK_B (by omega) (hE (j + 2) (by omega)) fun l j1 _ h4 h5 h6 h7 => pN_ok hm (by decide) (by omega) h5 (by simp only [List.length_append, List.length_cons, List.length_nil]; omega) ?_
      exact kin h7 (by omega) (by omega) (kin1 ⟨Nat.le_refl _, by show j < j1 + 1; omega⟩)
    · exact pOK_n (by omega) (by omega)
  split
  · next e =>
    have hj := hm j h (by rw [e]; decide)
    split
    · next e2 =>
      have hj2 := hm (j + 1) (by omega) (by rw [e2]; decide)
      have hv : pOK m (j + 1) (if K (j + 2) = 40 then xB K pr g (j + 2) else (some [oz pr 0 (j + 1)], j + 2)) := by
        split
        · exact pOK_mono (by omega) (xB_ok hm g (j + 2) (by omega))
        · exact pOK_s (by omega) (by omega) (by simp) (kin1 ⟨by show j + 1 ≤ j + 1; omega, by show j + 1 < j + 2; omega⟩)
      refine pOK_B (by omega) hv fun l j1 _ h4 h5 h6 h7 => ?_
      split
      · next e3 =>
        have hj3 := hm j1 h5 (by rw [e3]; decide)
        exact aT_ok hm (by omega) (by omega) (by omega) (fun x hx => by have := h7 x hx; omega)
      · exact pOK_n (by omega) h5
    · exact pOK_n (by omega) (by omega)
  split
  · next e =>
    have hj := hm j h (by rw [e]; decide)
    split
    · next e2 =>
      have hj2 := hm (j + 1) (by omega) (by rw [e2]; decide)
      refine pOK_B (by omega) (hE (j + 2) (by omega)) fun l j1 _ h4 h5 h6 h7 => pN_ok hm (by decide) (by omega) h5 (by simp only [List.length_append, List.length_cons, List.length_nil]; omega) ?_
      exact kin h7 (by omega) (by omega) (kin1 ⟨by show j ≤ j1 - 1; omega, by show j1 - 1 < j1 + 1; omega⟩)
    · exact pOK_n (by omega) (by omega)
  split
  · next e =>
    have hj := hm j h (by rcases e with e | e | e <;> rw [e] <;> decide)
    split
    · next e2 =>
      have hj2 := hm (j + 1) (by omega) (by rw [e2]; decide)
      exact pN_ok hm (by decide) (by omega) (by omega) (by simp; omega) (kin1 ⟨by show j ≤ j + 1; omega, by show j + 1 < j + 2 + 1; omega⟩)
    · exact pOK_n (by omega) (by omega)
  split
  · next e =>
    have hj := hm j h (by rw [e]; decide)
    exact pN_ok hm (by decide) (by omega) (by omega) (by simp; omega) (kin1 ⟨Nat.le_refl _, by show j < j + 1 + 1; omega⟩)
  split
  · next e =>
    have hj := hm j h (by rw [e]; decide)
    refine pOK_B (by omega) (hE (j + 1) (by omega)) fun l j1 _ h4 h5 h6 h7 => pN_ok hm (by decide) (by omega) h5 (by simp only [List.length_append, List.length_cons, List.length_nil]; omega) ?_
    exact kin h7 (by omega) (by omega) (kin1 ⟨by show j ≤ j1 - 1; omega, by show j1 - 1 < j1 + 1; omega⟩)
  split
  · next e =>
    have hj := hm j h (by rw [e]; decide)
    refine pOK_B (by omega) (xB_ok hm g (j + 1) (by omega)) fun l j1 _ h4 h5 h6 h7 => ?_
    refine pOK_B (by omega) (hB _ j1 h5) fun l2 j2 hq2 h42 h52 h62 h72 => ?_
    split
    · next e2 =>
      have hj2 := hm j2 h52 (by rw [e2]; decide)
      refine pOK_B (by omega) (hB _ (j2 + 1) (by omega)) fun l3 j3 _ h43 h53 h63 h73 => pOK_s (by omega) h53 ?_ ?_
      · simp only [List.length_append, List.length_cons, List.length_nil]; omega
      · intro x hx
        simp only [List.mem_append, List.mem_cons, List.not_mem_nil, or_false] at hx
        rcases hx with (((hx | hx) | hx) | hx) | hx
        · have := h7 x hx; omega
        · rw [hx]; show j ≤ j1 - 1 ∧ j1 - 1 < j3; omega
        · have := h72 x hx; omega
        · rw [hx]; show j ≤ j2 ∧ j2 < j3; omega
        · have := h73 x hx; omega
    · refine pOK_s (by omega) h52 (by simp only [List.length_append, List.length_cons, List.length_nil]; omega) ?_
      intro x hx
      simp only [List.mem_append, List.mem_cons, List.not_mem_nil, or_false] at hx
      rcases hx with (hx | hx) | hx
      · have := h7 x hx; omega
      · rw [hx]; show j ≤ j1 - 1 ∧ j1 - 1 < j2; omega
      · have := h72 x hx; omega
  · exact pOK_n (Nat.le_refl _) h
theorem aA_ok (hm : ∀ j, j ≤ m → K j ≠ 29 → j < m) : ∀ (g L j : Nat), j ≤ m → pOK m j (aA K pr g L j) := by
  intro g
  induction g with
  | zero => intro L j h; exact a1_ok hm (fun L j hj => pOK_n (Nat.le_refl _) hj) h
  | succ g ih => intro L j h; exact a1_ok hm (fun L j hj => bI0_ok hm ih hj) h
theorem bO_ok (hm : ∀ j, j ≤ m → K j ≠ 29 → j < m) {L j : Nat} (h : j ≤ m) : pOK m j (bO K pr L j) := by
  unfold bO
  split
  · next e =>
    have hj := hm j h (by rw [e]; decide)
    refine pOK_B (by omega) (bL_ok hm (aA_ok hm 7) (j0 := j + 1) 2001 [] (j + 1) (Nat.le_refl _) (by omega) (by simp) (by simp)) fun l j1 _ h4 h5 h6 h7 => pN_ok hm (by decide) (by omega) h5 (by simp only [List.length_append, List.length_cons, List.length_nil]; omega) ?_
    exact kin h7 (by omega) (by omega) (kin1 ⟨by show j ≤ j1; omega, by show j1 < j1 + 1; omega⟩)
  · exact pOK_n (Nat.le_refl _) h
end PO
