/-! the class's plan is the reference's: acts as code, clauses, states, processes -/
section PL
variable {α : Type} (cN rN : Int32 → α) (N : Nat → Nat → Int32) (O G E : Nat → Int32) (nv ns np : Nat)
/-- code from p up to m: the act a, which is no if -/
def sA (p a m : Nat) : Prop :=
  (N 251 a = 10 ∧ ∃ m1 j e, e < 2 ^ 20 ∧ N 253 a = nI e ∧ sE N O G nv ED p e m1 64 ∧ O m1 = nI 13 ∧ G m1 = nI j ∧ N 254 a = nI j ∧ j < nv ∧ m = m1 + 1) ∨
  (N 251 a = 11 ∧ ∃ m1, ((N 253 a = -1 ∧ O p = nI 0 ∧ G p = 0 ∧ m1 = p + 1) ∨ ∃ e, e < 2 ^ 20 ∧ N 253 a = nI e ∧ sE N O G nv ED p e m1 64) ∧ cN (G m1) = rN (N 252 a) ∧ m = m1 + 1 ∧
    ((∃ y t, y < 2 ^ 20 ∧ N 258 a = nI y ∧ t < np ∧ N 257 a = nI t ∧ E m1 = nI t ∧ O m1 = nI 19) ∨
     (N 258 a = -1 ∧ ((N 254 a = 22 ∧ O m1 = nI 14) ∨ (N 254 a = 18 ∧ O m1 = nI 15) ∨ (N 254 a = 19 ∧ O m1 = nI 16) ∨ (N 254 a = 20 ∧ O m1 = nI 17) ∨ (N 254 a = 21 ∧ O m1 = nI 18))))) ∨
  (N 251 a = 12 ∧ ∃ m1 e, e < 2 ^ 20 ∧ N 253 a = nI e ∧ sE N O G nv ED p e m1 64 ∧ O m1 = nI 20 ∧ cN (G m1) = rN (N 252 a) ∧ m = m1 + 1) ∨
  (N 251 a = 13 ∧ O p = nI 21 ∧ cN (G p) = rN (N 252 a) ∧ m = p + 1) ∨
  (N 251 a = 14 ∧ O p = nI 22 ∧ (∃ t, t < np ∧ N 253 a = nI t ∧ G p = nI t) ∧ m = p + 1) ∨
  (N 251 a = 15 ∧ O p = nI 23 ∧ (∃ s, s < ns ∧ N 253 a = nI s ∧ G p = nI s) ∧ m = p + 1) ∨
  (N 251 a = 16 ∧ O p = nI 24 ∧ m = p + 1) ∨
  (N 251 a = 17 ∧ ∃ m1 e, e < 2 ^ 20 ∧ N 252 a = nI e ∧ sE N O G nv ED p e m1 64 ∧ O m1 = nI 25 ∧ m = m1 + 1)
/-- code from p up to q: acts in a row -/
def sB : Nat → Nat → List Nat → Nat → Prop
  | 0, _, _, _ => False
  | _ + 1, p, [], q => p = q
  | r + 1, p, a :: as, q => ∃ m, sB r m as q ∧ (sA cN rN N O G E nv ns np p a m ∨
      (N 251 a = 18 ∧ ∃ m1 m2 e f, e < 2 ^ 20 ∧ f < 2 ^ 20 ∧ N 252 a = nI e ∧ N 253 a = nI f ∧ sE N O G nv ED p e m1 64 ∧ O m1 = nI 26 ∧ sB r (m1 + 1) (acts N f) m2 ∧
        ((N 254 a = -1 ∧ G m1 = nI m2 ∧ m = m2) ∨ ∃ g, g < 2 ^ 20 ∧ N 254 a = nI g ∧ O m2 = nI 27 ∧ G m1 = nI (m2 + 1) ∧ sB r (m2 + 1) (acts N g) m ∧ G m2 = nI m)))
/-- a body begins at p -/
def sD (L p b : Nat) : Prop := ∃ q, sB cN rN N O G E nv ns np RD p (acts N b) q ∧ q < L ∧ O q = nI 28
variable (P L : Nat) (I : Nat → Nat → Int32)
/-- clause i of the class is the node c -/
def kC (i c : Nat) : Prop :=
  (N 251 c = 33 ∧ I (P + 18) i = nI 5 ∧ cN (I (P + 19) i) = rN (N 252 c) ∧ ((N 258 c = -1 ∧ I (P + 20) i = -1) ∨ ∃ y j, y < 2 ^ 20 ∧ N 258 c = nI y ∧ j < nv ∧ N 253 c = nI j ∧ I (P + 20) i = nI j) ∧ ∃ p x, x < 2 ^ 20 ∧ N 254 c = nI x ∧ I (P + 22) i = nI p ∧ sD cN rN N O G E nv ns np L p x) ∨
  (N 251 c = 34 ∧ I (P + 18) i = nI 6 ∧ cN (I (P + 19) i) = rN (N 252 c) ∧ ((N 258 c = -1 ∧ I (P + 20) i = -1) ∨ ∃ y j, y < 2 ^ 20 ∧ N 258 c = nI y ∧ j < nv ∧ N 253 c = nI j ∧ I (P + 20) i = nI j) ∧ ∃ p x, x < 2 ^ 20 ∧ N 254 c = nI x ∧ I (P + 22) i = nI p ∧ sD cN rN N O G E nv ns np L p x) ∨
  (N 251 c = 35 ∧ I (P + 18) i = nI 7 ∧ cN (I (P + 19) i) = rN (N 252 c)) ∨
  (N 251 c = 36 ∧ I (P + 18) i = nI 9 ∧ I (P + 19) i = -1 ∧ I (P + 20) i = -1 ∧ ∃ p x, x < 2 ^ 20 ∧ N 254 c = nI x ∧ I (P + 22) i = nI p ∧ sD cN rN N O G E nv ns np L p x) ∨
  (N 251 c = 37 ∧ I (P + 18) i = nI 8 ∧ I (P + 19) i = -1 ∧ (∃ p e q, e < 2 ^ 20 ∧ N 252 c = nI e ∧ I (P + 21) i = nI p ∧ sE N O G nv ED p e q 64 ∧ q < L ∧ O q = nI 28) ∧ ∃ p x, x < 2 ^ 20 ∧ N 254 c = nI x ∧ I (P + 22) i = nI p ∧ sD cN rN N O G E nv ns np L p x)
end PL
/-- a process -/
def kP {α : Type} (cN rN : Int32 → α) (N : Nat → Nat → Int32) (O G E : Nat → Int32) (np P L : Nat) (I : Nat → Nat → Int32) (p : Nat) : Prop :=
  pnd N p < 2 ^ 20 ∧ N 259 p = nI (pnd N p) ∧ cN (I (P + 9) p) = rN (N 252 (pnd N p)) ∧ (∃ m, m ≤ 3 ∧ I (P + 10) p = nI m ∧ N 257 (pnd N p) = nI m) ∧
  (lets N p).length ≤ 6 ∧ I (P + 12) p = nI (lets N p).length ∧ (∀ j c, (lets N p)[j]? = some c → cN (I (P + 13) (p * 6 + j)) = rN (N 252 c) ∧ I (P + 14) (p * 6 + j) = N 253 c) ∧
  (sts N p).length ≤ 8 ∧ I (P + 15) p = nI (sts N p).length ∧ (∀ j c, (sts N p)[j]? = some c → cN (I (P + 16) (p * 8 + j)) = rN (N 252 c)) ∧
  (∃ q x, x < 2 ^ 20 ∧ N 258 (pnd N p) = nI x ∧ I (P + 11) p = nI q ∧ sD cN rN N O G E (lets N p).length (sts N p).length np L q x) ∧
  ∀ s, s < (sts N p).length → (cls N p s).length ≤ 8 ∧ I (P + 17) (p * 8 + s) = nI (cls N p s).length ∧ ∀ j c, (cls N p s)[j]? = some c → kC cN rN N O G E (lets N p).length (sts N p).length np P L I ((p * 8 + s) * 8 + j) c
/-- the whole plan -/
def plC {α : Type} (cN rN : Int32 → α) (N : Nat → Nat → Int32) (O G E : Nat → Int32) (np P L : Nat) (I : Nat → Nat → Int32) : Prop :=
  np ≤ 6 ∧ I P 3 = nI np ∧ cdC P L O G E I ∧ ∀ p, p < np → kP cN rN N O G E np P L I p
theorem plC_fr {α : Type} {cN rN : Int32 → α} {N : Nat → Nat → Int32} {O G E : Nat → Int32} {np P L : Nat} {I I' : Nat → Nat → Int32} (hi : ∀ c i, P ≤ c → c ≤ P + 22 → I' c i = I c i) (h : plC cN rN N O G E np P L I) : plC cN rN N O G E np P L I' := by
  have e : ∀ j, j ≤ 22 → I' (P + j) = I (P + j) := fun j hj => funext fun i => hi (P + j) i (by omega) (by omega)
  have e0 : I' P = I P := e 0 (by omega)
  unfold plC kP kC cdC at h ⊢
  rw [e0, e 4 (by omega), e 5 (by omega), e 6 (by omega), e 7 (by omega), e 9 (by omega), e 10 (by omega), e 11 (by omega), e 12 (by omega), e 13 (by omega), e 14 (by omega), e 15 (by omega), e 16 (by omega), e 17 (by omega), e 18 (by omega), e 19 (by omega), e 20 (by omega), e 21 (by omega), e 22 (by omega)]
  exact h
