/-! what a turn would be: what there is then -/
/-- blocks within one another, at most g deep -/
def nB (N : Nat → Nat → Int32) : Nat → Nat → List Nat → Prop
  | _, 0, _ => False
  | _, _ + 1, [] => True
  | g, r + 1, a :: as => nB N g r as ∧ (N 251 a = 18 → ∃ g', g = g' + 1 ∧ nB N g' r (acts N (ix (N 253 a))) ∧ (¬ N 254 a < 0 → nB N g' r (acts N (ix (N 254 a)))))
def vC (N : Nat → Nat → Int32) (M nv ns np c : Nat) : Prop := c < M ∧ (
  ((N 251 c = 33 ∨ N 251 c = 34) ∧ (N 258 c = -1 ∨ ∃ y j, y < 2 ^ 20 ∧ N 258 c = nI y ∧ j < nv ∧ N 253 c = nI j) ∧ ∃ x, N 254 c = nI x ∧ vK N M x ∧ vB N M nv ns np RD (acts N x) ∧ nB N 9 RD (acts N x)) ∨
  N 251 c = 35 ∨
  (N 251 c = 36 ∧ ∃ x, N 254 c = nI x ∧ vK N M x ∧ vB N M nv ns np RD (acts N x) ∧ nB N 9 RD (acts N x)) ∨
  (N 251 c = 37 ∧ (∃ e, N 252 c = nI e ∧ xOK N M nv ED e) ∧ ∃ x, N 254 c = nI x ∧ vK N M x ∧ vB N M nv ns np RD (acts N x) ∧ nB N 9 RD (acts N x)))
/-- a process of the reference -/
def vP (N : Nat → Nat → Int32) (M np p : Nat) : Prop :=
  pnd N p < M ∧ N 259 p = nI (pnd N p) ∧ (∃ m, m ≤ 3 ∧ N 257 (pnd N p) = nI m) ∧ chOK N M 7 (N 253 (pnd N p)) ∧ (lets N p).length ≤ 6 ∧ chOK N M 9 (N 254 (pnd N p)) ∧ (sts N p).length ≤ 8 ∧
  (∃ x, N 258 (pnd N p) = nI x ∧ vK N M x ∧ vB N M (lets N p).length (sts N p).length np RD (acts N x) ∧ nB N 9 RD (acts N x)) ∧
  ∀ (s y : Nat), (sts N p)[s]? = some y → y < M ∧ chOK N M 9 (N 253 y) ∧ (cls N p s).length ≤ 8 ∧ ∀ (j c : Nat), (cls N p s)[j]? = some c → vC N M (lets N p).length (sts N p).length np c
def vN (N : Nat → Nat → Int32) (M np : Nat) : Prop := np ≤ 6 ∧ N 241 34 = nI np ∧ M < 2 ^ 20 ∧ ∀ p, p < np → vP N M np p
/-- a turn, once it is known what it would be -/
def aTurnB (rN : Int32 → Nm) (N : Nat → Nat → Int32) (l : Bool) (k : Nat) (kd : Int32) (i c : Option Nat) (W : aW Nm) : Int32 × aW Nm :=
  if kd = 0 then (0, W) else
    let W1 := match i with | some i => aTake rN N l k i kd c W | none => W
    if kd = 5 then (5, (W1.1, (W1.2.1.1, W1.2.1.2.1, W1.2.1.2.2.1, if l = true then W1.2.1.2.2.2.1 + 1 else W1.2.1.2.2.2.1, W1.2.1.2.2.2.2), W1.2.2.1, (W1.2.2.2.1, W1.2.2.2.2 + 1)))
    else
      let b := if kd = 1 then ix (N 258 (pnd N (ix (aAt W k).1.2.1))) else match c with | some c => ix (N 254 ((cls N (ix (aAt W k).1.2.1) (ix (aAt W k).1.2.2.1)).getD c 0)) | none => 0
      let z := aRun rN N l k RD (acts N b) W1
      (kd, if z.1 = 2 ∨ z.1 = 0 ∧ kd = 1 then aGone rN l k z.2 else z.2)
theorem aTurn_B {rN : Int32 → Nm} {N : Nat → Nat → Int32} {l : Bool} {k : Nat} {kd : Int32} {i c : Option Nat} {W : aW Nm} (h : aPlan rN N W.2.1.2.1 (aAt W k) = (kd, i, c)) : aTurn rN N l k W = aTurnB rN N l k kd i c W := by
  unfold aTurn aTurnB
  rw [h]
  rfl
section AP
variable {rN : Int32 → Nm} {N : Nat → Nat → Int32}
theorem fcl_at {p s : Nat} {kd : Int32} {x : Nm} {c : Nat} (h : fcl rN N p s kd x = some c) : ∃ cn, (cls N p s)[c]? = some cn ∧ N 251 cn = kd := by
  unfold fcl at h
  obtain ⟨h1, h2, _⟩ := List.findIdx?_eq_some_iff_getElem.mp h
  refine ⟨_, List.getElem?_eq_getElem h1, ?_⟩
  simp at h2
  exact h2.1
theorem aPri_at {p s : Nat} : ∀ (qs : List (aS Nm)) (i0 : Nat) {i c : Nat}, aPri rN N p s qs i0 = some (i, c) → ∃ q cn, i0 ≤ i ∧ qs[i - i0]? = some q ∧ (cls N p s)[c]? = some cn ∧ N 251 cn = 34 := by
  intro qs
  induction qs with
  | nil => intro i0 i c h; cases h
  | cons q qs ih =>
    intro i0 i c h
    unfold aPri at h
    cases hf : fcl rN N p s 34 q.1 with
    | some c' =>
      rw [hf] at h
      simp only [Option.some.injEq, Prod.mk.injEq] at h
      obtain ⟨rfl, rfl⟩ := h
      obtain ⟨cn, h1, h2⟩ := fcl_at hf
      exact ⟨q, cn, Nat.le_refl _, by simp, h1, h2⟩
    | none =>
      rw [hf] at h
      obtain ⟨q', cn, h1, h2, h3⟩ := ih (i0 + 1) h
      refine ⟨q', cn, by omega, ?_, h3⟩
      rw [show i - i0 = (i - (i0 + 1)) + 1 by omega]
      simpa using h2
theorem aSig_at {p s : Nat} : ∀ (qs : List (aS Nm)) (i0 : Nat) {i : Nat} {q : aS Nm}, aSig rN N p s qs i0 = some (i, q) → i0 ≤ i ∧ qs[i - i0]? = some q := by
  intro qs
  induction qs with
  | nil => intro i0 i q h; cases h
  | cons q0 qs ih =>
    intro i0 i q h
    unfold aSig at h
    cases hf : fcl rN N p s 35 q0.1 with
    | none =>
      rw [hf] at h
      simp only [Option.some.injEq, Prod.mk.injEq] at h
      obtain ⟨rfl, rfl⟩ := h
      exact ⟨Nat.le_refl _, by simp⟩
    | some c' =>
      rw [hf] at h
      obtain ⟨h1, h2⟩ := ih (i0 + 1) h
      refine ⟨by omega, ?_⟩
      rw [show i - i0 = (i - (i0 + 1)) + 1 by omega]
      simpa using h2
theorem aPlan_at {now : Int32} {a : aI Nm} {kd : Int32} {i c : Option Nat} (h : aPlan rN N now a = (kd, i, c)) :
    (kd = 0 ∧ i = none ∧ c = none) ∨ (kd = 1 ∧ a.1.2.2.1 < 0 ∧ i = none ∧ c = none) ∨ (¬ a.1.2.2.1 < 0 ∧ (
      (kd = 5 ∧ c = none ∧ ∃ i' q, i = some i' ∧ a.2.2.1[i']? = some q) ∨
      ((kd = 2 ∨ kd = 3 ∨ kd = 4) ∧ ∃ i' q c' cn, i = some i' ∧ a.2.2.1[i']? = some q ∧ c = some c' ∧ (cls N (ix a.1.2.1) (ix a.1.2.2.1))[c']? = some cn ∧ ((kd = 2 ∧ N 251 cn = 34) ∨ (kd = 3 ∧ N 251 cn = 33) ∨ (kd = 4 ∧ N 251 cn = 36))) ∨
      (kd = 6 ∧ i = none ∧ ∃ c' cn, c = some c' ∧ (cls N (ix a.1.2.1) (ix a.1.2.2.1))[c']? = some cn ∧ N 251 cn = 37))) := by
  unfold aPlan at h
  by_cases hs : a.1.2.2.1 < 0
  · rw [if_pos hs] at h
    simp only [Prod.mk.injEq] at h
    obtain ⟨rfl, rfl, rfl⟩ := h
    exact Or.inr (Or.inl ⟨rfl, hs, rfl, rfl⟩)
  · rw [if_neg hs] at h
    cases hp : aPri rN N (ix a.1.2.1) (ix a.1.2.2.1) a.2.2.1 0 with
    | some kc =>
      obtain ⟨k, c0⟩ := kc
      rw [hp] at h
      simp only [Prod.mk.injEq] at h
      obtain ⟨rfl, rfl, rfl⟩ := h
      obtain ⟨q, cn, _, h2, h3, h4⟩ := aPri_at _ _ hp
      exact Or.inr (Or.inr ⟨hs, Or.inr (Or.inl ⟨Or.inl rfl, k, q, c0, cn, rfl, h2, rfl, h3, Or.inl ⟨rfl, h4⟩⟩)⟩)
    | none =>
      rw [hp] at h
      simp only at h
      cases hg : aSig rN N (ix a.1.2.1) (ix a.1.2.2.1) a.2.2.1 0 with
      | some kq =>
        obtain ⟨k, q⟩ := kq
        obtain ⟨_, h2⟩ := aSig_at _ _ hg
        rw [hg] at h
        simp only at h
        cases h33 : fcl rN N (ix a.1.2.1) (ix a.1.2.2.1) 33 q.1 with
        | some c0 =>
          rw [h33] at h
          simp only [Prod.mk.injEq] at h
          obtain ⟨rfl, rfl, rfl⟩ := h
          obtain ⟨cn, h3, h4⟩ := fcl_at h33
          exact Or.inr (Or.inr ⟨hs, Or.inr (Or.inl ⟨Or.inr (Or.inl rfl), k, q, c0, cn, rfl, h2, rfl, h3, Or.inr (Or.inl ⟨rfl, h4⟩)⟩)⟩)
        | none =>
          rw [h33] at h
          simp only at h
          cases h36 : fcl rN N (ix a.1.2.1) (ix a.1.2.2.1) 36 q.1 with
          | some c0 =>
            rw [h36] at h
            simp only [Prod.mk.injEq] at h
            obtain ⟨rfl, rfl, rfl⟩ := h
            obtain ⟨cn, h3, h4⟩ := fcl_at h36
            exact Or.inr (Or.inr ⟨hs, Or.inr (Or.inl ⟨Or.inr (Or.inr rfl), k, q, c0, cn, rfl, h2, rfl, h3, Or.inr (Or.inr ⟨rfl, h4⟩)⟩)⟩)
          | none =>
            rw [h36] at h
            simp only [Prod.mk.injEq] at h
            obtain ⟨rfl, rfl, rfl⟩ := h
            exact Or.inr (Or.inr ⟨hs, Or.inl ⟨rfl, rfl, k, q, rfl, h2⟩⟩)
      | none =>
        rw [hg] at h
        simp only at h
        cases hw : (cls N (ix a.1.2.1) (ix a.1.2.2.1)).findIdx? (fun c => decide (N 251 c = 37) && decide (¬ evl N now a ED (ix (N 252 c)) = 0)) with
        | some c0 =>
          rw [hw] at h
          simp only [Prod.mk.injEq] at h
          obtain ⟨rfl, rfl, rfl⟩ := h
          obtain ⟨h1, h2, _⟩ := List.findIdx?_eq_some_iff_getElem.mp hw
          simp at h2
          exact Or.inr (Or.inr ⟨hs, Or.inr (Or.inr ⟨rfl, rfl, c0, _, rfl, List.getElem?_eq_getElem h1, h2.1⟩)⟩)
        | none =>
          rw [hw] at h
          simp only [Prod.mk.injEq] at h
          obtain ⟨rfl, rfl, rfl⟩ := h
          exact Or.inl ⟨rfl, rfl, rfl⟩
theorem aTake_eq {W : aW Nm} {k i : Nat} {kd : Int32} {c : Option Nat} {l : Bool} {a : aI Nm} {s : aS Nm} (hk : W.1[k]? = some a) (hs : a.2.2.1[i]? = some s) : aTake rN N l k i kd c W = aAdd l (if kd = 5 then 2 else 1, a.1.1, s.1, s.2.1, if kd = 5 ∨ s.2.2.2 = -2 then none else some (a.1.2.1, s.2.2.2)) (aPut k ((a.1.1, a.1.2.1, a.1.2.2.1, a.1.2.2.2.1, s.2.2.1, a.1.2.2.2.2.2), tkV N kd a c s.2.1, a.2.2.1.eraseIdx i, a.2.2.2) W) := by
  unfold aTake
  rw [aAt_of hk]
  have e : a.2.2.1.getD i (rN (-1), 0, 0, 0) = s := by rw [List.getD_eq_getElem?_getD, hs]; rfl
  simp only [e]
  rfl
theorem tkV_len {kd : Int32} {c : Option Nat} {v : Int32} {a : aI Nm} : (tkV N kd a c v).length = a.2.1.length := by
  unfold tkV
  cases c with
  | none => rfl
  | some c =>
    simp only
    split
    · rw [List.length_set]
    · rfl
end AP
