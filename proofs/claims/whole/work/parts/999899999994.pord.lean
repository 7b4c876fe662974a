/-! races: the order of a chart's events -/
section ORD
/-- p is just before q: sent before it comes, or both on one line and q is sent -/
def eB (ln : Nat → Nat) (p q : Nat) : Bool := (decide (p % 2 = 0) && decide (q = p + 1)) || (decide (p < q) && decide (q % 2 = 0) && decide (ln p = ln q))
def eD (ln : Nat → Nat) (n p q : Nat) : Prop := p < q ∧ q < n ∧ eB ln p q = true
/-- the least transitive relation -/
def bP (ln : Nat → Nat) (n p q : Nat) : Prop := ∀ T : Nat → Nat → Prop, (∀ x y, eD ln n x y → T x y) → (∀ x y z, T x y → T y z → T x z) → T p q
variable {ln : Nat → Nat} {n p q r : Nat}
theorem bP_e (h : eD ln n p q) : bP ln n p q := fun _ a _ => a p q h
theorem bP_t (h : bP ln n p q) (h2 : bP ln n q r) : bP ln n p r := fun T a t => t p q r (h T a t) (h2 T a t)
theorem bP_lt (h : bP ln n p q) : p < q ∧ q < n := h (fun x y => x < y ∧ y < n) (fun _ _ e => ⟨e.1, e.2.1⟩) (fun _ _ _ a c => ⟨by omega, c.2⟩)
theorem bP_i : bP ln n p q ↔ ∃ f, f < q ∧ eD ln n f q ∧ (p = f ∨ bP ln n p f) := by
  constructor
  · intro h
    have := h (fun x y => bP ln n x y ∧ ∃ f, f < y ∧ eD ln n f y ∧ (x = f ∨ bP ln n x f)) (fun x y e => ⟨bP_e e, x, e.1, e, Or.inl rfl⟩) (fun x y z a c => by
      obtain ⟨f, f1, f2, f3⟩ := c.2
      refine ⟨bP_t a.1 c.1, f, f1, f2, Or.inr ?_⟩
      rcases f3 with rfl | f3
      · exact a.1
      · exact bP_t a.1 f3)
    exact this.2
  · rintro ⟨f, _, f2, f3⟩
    rcases f3 with rfl | f3
    · exact bP_e f2
    · exact bP_t f3 (bP_e f2)
/-- the matrix, a step and its loops -/
def stW (W : Nat → Nat → Bool) (k i j : Nat) : Nat → Nat → Bool := fun p q => if p = i ∧ q = j then W i j || (W i k && W k j) else W p q
def wIn (k i : Nat) : Nat → Nat → (Nat → Nat → Bool) → Nat → Nat → Bool
  | 0, _, W => W
  | r + 1, j, W => wIn k i r (j + 1) (stW W k i j)
def wMd (n k : Nat) : Nat → Nat → (Nat → Nat → Bool) → Nat → Nat → Bool
  | 0, _, W => W
  | r + 1, i, W => wMd n k r (i + 1) (wIn k i n 0 W)
def wOu (n : Nat) : Nat → Nat → (Nat → Nat → Bool) → Nat → Nat → Bool
  | 0, _, W => W
  | r + 1, k, W => wOu n r (k + 1) (wMd n k n 0 W)
def phs (W : Nat → Nat → Bool) (k p q : Nat) : Bool := W p q || (W p k && W k q)
theorem stW_ik {W : Nat → Nat → Bool} {k i j p : Nat} : stW W k i j p k = W p k := by
  unfold stW
  split
  · rename_i h
    obtain ⟨rfl, rfl⟩ := h
    cases W p k <;> simp
  · rfl
theorem stW_kq {W : Nat → Nat → Bool} {k i j q : Nat} : stW W k i j k q = W k q := by
  unfold stW
  split
  · rename_i h
    obtain ⟨rfl, rfl⟩ := h
    cases W k q <;> simp
  · rfl
theorem wIn_e {k i : Nat} : ∀ (r j : Nat) (W : Nat → Nat → Bool) (p q : Nat), wIn k i r j W p q = if p = i ∧ j ≤ q ∧ q < j + r then phs W k p q else W p q := by
  intro r
  induction r with
  | zero => intro j W p q; rw [if_neg (by omega)]; rfl
  | succ r ih =>
    intro j W p q
    show wIn k i r (j + 1) (stW W k i j) p q = _
    rw [ih]
    unfold phs
    rw [stW_ik, stW_kq]
    by_cases h : p = i ∧ q = j
    · obtain ⟨rfl, rfl⟩ := h
      rw [if_neg (by omega), if_pos (by omega)]
      unfold stW
      rw [if_pos ⟨rfl, rfl⟩]
    · have : stW W k i j p q = W p q := by unfold stW; rw [if_neg h]
      rw [this]
      by_cases h2 : p = i ∧ j + 1 ≤ q ∧ q < j + 1 + r
      · rw [if_pos h2, if_pos (by omega)]
      · rw [if_neg h2, if_neg (by omega)]
theorem phs_ik {W : Nat → Nat → Bool} {k p : Nat} : phs W k p k = W p k := by
  unfold phs
  cases W p k <;> simp
theorem phs_kq {W : Nat → Nat → Bool} {k q : Nat} : phs W k k q = W k q := by
  unfold phs
  cases W k q <;> simp
theorem wMd_e {n k : Nat} (hk : k < n) : ∀ (r i : Nat) (W : Nat → Nat → Bool) (p q : Nat), q < n → wMd n k r i W p q = if i ≤ p ∧ p < i + r then phs W k p q else W p q := by
  intro r
  induction r with
  | zero => intro i W p q _; rw [if_neg (by omega)]; rfl
  | succ r ih =>
    intro i W p q hq
    show wMd n k r (i + 1) (wIn k i n 0 W) p q = _
    rw [ih _ _ _ _ hq]
    have e1 : ∀ p', wIn k i n 0 W p' k = W p' k := fun p' => by
      rw [wIn_e]
      split
      · exact phs_ik
      · rfl
    have e2 : ∀ q', wIn k i n 0 W k q' = W k q' := fun q' => by
      rw [wIn_e]
      split
      · exact phs_kq
      · rfl
    have e3 : phs (wIn k i n 0 W) k p q = (wIn k i n 0 W p q || (W p k && W k q)) := by
      unfold phs
      rw [e1, e2]
    rw [e3, wIn_e]
    by_cases h : p = i
    · rw [if_neg (by omega), if_pos (by omega), if_pos (by omega)]
    · rw [if_neg (by omega : ¬ (p = i ∧ 0 ≤ q ∧ q < 0 + n))]
      by_cases h2 : i + 1 ≤ p ∧ p < i + 1 + r
      · rw [if_pos h2, if_pos (by omega)]
        rfl
      · rw [if_neg h2, if_neg (by omega)]
/-- closed below k -/
def clo (n k : Nat) (W : Nat → Nat → Bool) : Prop := ∀ m i j, m < k → i < n → j < n → W i m = true → W m j = true → W i j = true
theorem clo_s {k : Nat} {W W' : Nat → Nat → Bool} (hk : k < n) (h : clo n k W) (hW : ∀ p q, p < n → q < n → W' p q = phs W k p q) : clo n (k + 1) W' := by
  intro m i j hm hi hj a c
  rw [hW _ _ hi (by omega)] at a
  rw [hW _ _ (by omega) hj] at c
  rw [hW _ _ hi hj]
  unfold phs at a c ⊢
  simp only [Bool.or_eq_true, Bool.and_eq_true] at a c ⊢
  by_cases hmk : m = k
  · subst hmk
    rcases a with a | a <;> rcases c with c | c
    · exact Or.inr ⟨a, c⟩
    · exact Or.inr ⟨a, c.2⟩
    · exact Or.inr ⟨a.1, c⟩
    · exact Or.inr ⟨a.1, c.2⟩
  · have hm' : m < k := by omega
    rcases a with a | a <;> rcases c with c | c
    · exact Or.inl (h m i j hm' hi hj a c)
    · exact Or.inr ⟨h m i k hm' hi hk a c.1, c.2⟩
    · exact Or.inr ⟨a.1, h m k j hm' hk hj a.2 c⟩
    · exact Or.inr ⟨a.1, c.2⟩
theorem wOu_e {T : Nat → Nat → Prop} (hT : ∀ x y z, T x y → T y z → T x z) : ∀ (r k : Nat) (W : Nat → Nat → Bool), k + r = n → clo n k W → (∀ p q, p < n → q < n → W p q = true → T p q) → clo n n (wOu n r k W) ∧ (∀ p q, p < n → q < n → W p q = true → wOu n r k W p q = true) ∧ ∀ p q, p < n → q < n → wOu n r k W p q = true → T p q := by
  intro r
  induction r with
  | zero =>
    intro k W hk hc ht
    have : k = n := by omega
    subst this
    exact ⟨hc, fun _ _ _ _ z => z, ht⟩
  | succ r ih =>
    intro k W hk hc ht
    have hkn : k < n := by omega
    have e : ∀ p q, p < n → q < n → wMd n k n 0 W p q = phs W k p q := fun p q hp hq => by
      rw [wMd_e hkn n 0 W p q hq, if_pos (by omega)]
    have hc' := clo_s hkn hc e
    obtain ⟨i1, i2, i3⟩ := ih (k + 1) (wMd n k n 0 W) (by omega) hc' (fun p q hp hq z => by
      rw [e p q hp hq] at z
      unfold phs at z
      simp only [Bool.or_eq_true, Bool.and_eq_true] at z
      rcases z with z | z
      · exact ht p q hp hq z
      · exact hT _ _ _ (ht p k hp hkn z.1) (ht k q hkn hq z.2))
    refine ⟨i1, fun p q hp hq z => i2 p q hp hq ?_, i3⟩
    rw [e p q hp hq]
    unfold phs
    rw [z]
    rfl
/-- the matrix at the end is the order -/
theorem wOu_b {W : Nat → Nat → Bool} (hW : ∀ p q, p < n → q < n → W p q = eB ln p q) (p q : Nat) (hp : p < n) (hq : q < n) : wOu n n 0 W p q = true ↔ bP ln n p q := by
  have he : ∀ x y, x < n → y < n → eB ln x y = true → eD ln n x y := fun x y hx hy z => by
    refine ⟨?_, hy, z⟩
    unfold eB at z
    simp only [Bool.or_eq_true, Bool.and_eq_true, decide_eq_true_eq] at z
    omega
  obtain ⟨a1, a2, a3⟩ := wOu_e (n := n) (T := bP ln n) (fun _ _ _ => bP_t) n 0 W (by omega) (fun m i j hm => by omega) (fun x y hx hy z => bP_e (he x y hx hy (by rw [← hW x y hx hy]; exact z)))
  constructor
  · exact a3 p q hp hq
  · intro h
    have := h (fun x y => x < n ∧ y < n ∧ wOu n n 0 W x y = true) (fun x y e => by
      have hx : x < n := by have := e.1; have := e.2.1; omega
      exact ⟨hx, e.2.1, a2 x y hx e.2.1 (by rw [hW x y hx e.2.1]; exact e.2.2)⟩) (fun x y z a c => ⟨a.1, c.2.1, a1 y x z a.2.1 a.1 c.2.1 a.2.2 c.2.2⟩)
    exact this.2.2
/-- the races, as both look for them -/
def rcI (bf : Nat → Nat → Bool) (ln : Nat → Nat) (p : Nat) : Nat → Nat → List (Nat × Nat)
  | 0, _ => []
  | r + 1, q => (if q % 2 = 1 ∧ ln p = ln q ∧ bf p q = false then [(p, q)] else []) ++ rcI bf ln p r (q + 1)
def rcO (bf : Nat → Nat → Bool) (ln : Nat → Nat) (n : Nat) : Nat → Nat → List (Nat × Nat)
  | 0, _ => []
  | r + 1, p => rcI bf ln p (n - (p + 1)) (p + 1) ++ rcO bf ln n r (p + 1)
theorem rcI_g {bf bg : Nat → Nat → Bool} {p : Nat} (h : ∀ q, q < n → bf p q = bg p q) : ∀ (r q : Nat), q + r ≤ n → rcI bf ln p r q = rcI bg ln p r q := by
  intro r
  induction r with
  | zero => intro q _; rfl
  | succ r ih =>
    intro q hq
    unfold rcI
    rw [h q (by omega), ih (q + 1) (by omega)]
theorem rcO_g {bf bg : Nat → Nat → Bool} (h : ∀ p q, p < n → q < n → bf p q = bg p q) : ∀ (r p : Nat), p + r ≤ n → rcO bf ln n r p = rcO bg ln n r p := by
  intro r
  induction r with
  | zero => intro q _; rfl
  | succ r ih =>
    intro p hp
    unfold rcO
    rw [ih (p + 1) (by omega), rcI_g (fun q hq => h p q (by omega) hq) _ _ (by omega)]
def tr : Nat → Nat
  | 0 => 0
  | r + 1 => tr r + r
theorem tr_80 : ∀ n, n ≤ 80 → tr n ≤ 3160 := by decide +kernel
theorem rcI_l {bf : Nat → Nat → Bool} {p : Nat} : ∀ (r q : Nat), (rcI bf ln p r q).length ≤ r := by
  intro r
  induction r with
  | zero => intro q; exact Nat.le_refl _
  | succ r ih =>
    intro q
    unfold rcI
    have := ih (q + 1)
    rw [List.length_append]
    split
    · simp only [List.length_cons, List.length_nil]; omega
    · simp only [List.length_nil]; omega
theorem rcO_l {bf : Nat → Nat → Bool} : ∀ (r p : Nat), p + r = n → (rcO bf ln n r p).length ≤ tr r := by
  intro r
  induction r with
  | zero => intro q _; exact Nat.le_refl _
  | succ r ih =>
    intro p hp
    unfold rcO tr
    have h1 := ih (p + 1) (by omega)
    have h2 := rcI_l (bf := bf) (ln := ln) (p := p) (n - (p + 1)) (p + 1)
    rw [List.length_append]
    omega
end ORD
section BTS
def btL (x : Int64) (p : Nat) : Bool := x.toBitVec.getLsbD p
theorem btL_or {x y : Int64} {p : Nat} : btL (x ||| y) p = (btL x p || btL y p) := by
  unfold btL
  rw [Int64.toBitVec_or, BitVec.getLsbD_or]
theorem btL_0 {p : Nat} : btL 0 p = false := by
  unfold btL
  show (0#64).getLsbD p = false
  simp
end BTS
