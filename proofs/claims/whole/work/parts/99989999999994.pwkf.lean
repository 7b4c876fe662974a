/-! walk: when two rows are the same -/
def kI (now : Int32) (a : aI Nm) : aI Nm := (a.1, a.2.1, a.2.2.1.map eS, a.2.2.2.map (fun t => (t.1, t.2 - now)))
/-- what tells states apart -/
def ky (W : aW Nm) : Int32 × List (aI Nm) := (W.2.1.1, W.1.map (kI W.2.1.2.1))
theorem kI_eI (now : Int32) (a : aI Nm) : kI now (eI a) = kI now a := by
  simp [kI, eI, eS, Function.comp_def]
theorem ky_mp (W : aW Nm) : ky (mp W) = ky W := by
  unfold ky
  show (W.2.1.1, (W.1.map eI).map (kI W.2.1.2.1)) = _
  rw [List.map_map]
  congr 2
  funext a
  exact kI_eI _ _
theorem ky_mq {W V : aW Nm} (h : mq W V) : ky W = ky V := by rw [← ky_mp W, ← ky_mp V, h]
/-- what stands in a row of the class -/
def vwC (cN : Int32 → Nm) (D : Nat → Int32) (f nv q t : Nat) : aI Nm := ((D f, D (f + 1), D (f + 2), D (f + 3), D (f + 4), D (f + 5)), rl (fun i => D (f + 6 + i)) nv, rl (fun i => (cN (D (f + 7 + nv + 3 * i)), D (f + 7 + nv + 3 * i + 1), D (f + 7 + nv + 3 * i + 2), 0)) q, rl (fun i => (cN (D (f + 8 + nv + 3 * q + 2 * i)), D (f + 8 + nv + 3 * q + 2 * i + 1))) t)
theorem rl_mapf {β γ : Type} (g : β → γ) (f : Nat → β) (m : Nat) : (rl f m).map g = rl (fun i => g (f i)) m := by
  unfold rl
  rw [List.map_map]
  rfl
theorem pI_k {cN : Int32 → Nm} {D : Nat → Int32} {f : Nat} {now : Int32} {a : aI Nm} (h : pI cN D f now a) : kI now a = vwC cN D f a.2.1.length a.2.2.1.length a.2.2.2.length := by
  obtain ⟨h1, h2, h3, h4, h5, h6⟩ := h
  unfold kI vwC
  rw [← h1, ← h2, ← h4]
  congr 3
  conv => lhs; rw [h6]
  rw [rl_mapf]
  refine rl_congr fun i hi => ?_
  simp only [Int32.add_sub_cancel]
theorem rl_eq {β : Type} {f g : Nat → β} {m k : Nat} (h : rl f m = rl g k) : m = k ∧ ∀ i, i < m → f i = g i := by
  have e : m = k := by have := congrArg List.length h; rwa [rl_len, rl_len] at this
  subst e
  exact ⟨rfl, fun i hi => rl_in h hi⟩
section KEY
variable {cN : Int32 → Nm} {N : Nat → Nat → Int32} {np : Nat} {D D' : Nat → Int32} {now now' : Int32}
/-- equal keys: equal rows -/
theorem pI_eq {f f' : Nat} {a a' : aI Nm} (hj : ∀ x y, cN x = cN y → x = y) (h : pI cN D f now a) (h' : pI cN D' f' now' a') (he : kI now a = kI now' a') : sz a = sz a' ∧ ∀ i, i < sz a → D (f + i) = D' (f' + i) := by
  have k1 := pI_k h
  have k2 := pI_k h'
  have n1 : a.2.1.length = a'.2.1.length := by have := congrArg (fun z : aI Nm => z.2.1.length) he; simpa [kI] using this
  have n2 : a.2.2.1.length = a'.2.2.1.length := by have := congrArg (fun z : aI Nm => z.2.2.1.length) he; simpa [kI] using this
  have n3 : a.2.2.2.length = a'.2.2.2.length := by have := congrArg (fun z : aI Nm => z.2.2.2.length) he; simpa [kI] using this
  have hs : sz a = sz a' := by unfold sz; omega
  refine ⟨hs, ?_⟩
  rw [k1, k2, ← n1, ← n2, ← n3] at he
  unfold vwC at he
  simp only [Prod.mk.injEq] at he
  obtain ⟨⟨b0, b1, b2, b3, b4, b5⟩, c1, c2, c3⟩ := he
  have c1' := (rl_eq c1).2
  have c2' := (rl_eq c2).2
  have c3' := (rl_eq c3).2
  have q1 : D (f + 6 + a.2.1.length) = D' (f' + 6 + a.2.1.length) := by
    have z := h'.2.2.1
    rw [← n1, ← n2] at z
    rw [h.2.2.1, z]
  have q2 : D (f + 7 + a.2.1.length + 3 * a.2.2.1.length) = D' (f' + 7 + a.2.1.length + 3 * a.2.2.1.length) := by
    have z := h'.2.2.2.2.1
    rw [← n1, ← n2, ← n3] at z
    rw [h.2.2.2.2.1, z]
  intro i hi
  have hi' : i < 8 + a.2.1.length + 3 * a.2.2.1.length + 2 * a.2.2.2.length := hi
  by_cases i6 : i < 6
  · obtain rfl | rfl | rfl | rfl | rfl | rfl : i = 0 ∨ i = 1 ∨ i = 2 ∨ i = 3 ∨ i = 4 ∨ i = 5 := by omega
    · exact b0
    · exact b1
    · exact b2
    · exact b3
    · exact b4
    · exact b5
  by_cases iv : i < 6 + a.2.1.length
  · have := c1' (i - 6) (by omega)
    rw [show f + 6 + (i - 6) = f + i by omega, show f' + 6 + (i - 6) = f' + i by omega] at this
    exact this
  by_cases i0 : i = 6 + a.2.1.length
  · subst i0
    rw [← Nat.add_assoc, ← Nat.add_assoc]
    exact q1
  by_cases iq : i < 7 + a.2.1.length + 3 * a.2.2.1.length
  · have hm : (i - (7 + a.2.1.length)) / 3 < a.2.2.1.length := by omega
    have := c2' _ hm
    simp only [Prod.mk.injEq] at this
    obtain ⟨d1, d2, d3, _⟩ := this
    have d1' := hj _ _ d1
    obtain e | e | e : i = 7 + a.2.1.length + 3 * ((i - (7 + a.2.1.length)) / 3) ∨ i = 7 + a.2.1.length + 3 * ((i - (7 + a.2.1.length)) / 3) + 1 ∨ i = 7 + a.2.1.length + 3 * ((i - (7 + a.2.1.length)) / 3) + 2 := by omega
    · rw [e, show f + (7 + a.2.1.length + 3 * ((i - (7 + a.2.1.length)) / 3)) = f + 7 + a.2.1.length + 3 * ((i - (7 + a.2.1.length)) / 3) by omega, show f' + (7 + a.2.1.length + 3 * ((i - (7 + a.2.1.length)) / 3)) = f' + 7 + a.2.1.length + 3 * ((i - (7 + a.2.1.length)) / 3) by omega]
      exact d1'
    · rw [e, show f + (7 + a.2.1.length + 3 * ((i - (7 + a.2.1.length)) / 3) + 1) = f + 7 + a.2.1.length + 3 * ((i - (7 + a.2.1.length)) / 3) + 1 by omega, show f' + (7 + a.2.1.length + 3 * ((i - (7 + a.2.1.length)) / 3) + 1) = f' + 7 + a.2.1.length + 3 * ((i - (7 + a.2.1.length)) / 3) + 1 by omega]
      exact d2
    · rw [e, show f + (7 + a.2.1.length + 3 * ((i - (7 + a.2.1.length)) / 3) + 2) = f + 7 + a.2.1.length + 3 * ((i - (7 + a.2.1.length)) / 3) + 2 by omega, show f' + (7 + a.2.1.length + 3 * ((i - (7 + a.2.1.length)) / 3) + 2) = f' + 7 + a.2.1.length + 3 * ((i - (7 + a.2.1.length)) / 3) + 2 by omega]
      exact d3
  by_cases i7 : i = 7 + a.2.1.length + 3 * a.2.2.1.length
  · rw [i7, show f + (7 + a.2.1.length + 3 * a.2.2.1.length) = f + 7 + a.2.1.length + 3 * a.2.2.1.length by omega, show f' + (7 + a.2.1.length + 3 * a.2.2.1.length) = f' + 7 + a.2.1.length + 3 * a.2.2.1.length by omega]
    exact q2
  · have hm : (i - (8 + a.2.1.length + 3 * a.2.2.1.length)) / 2 < a.2.2.2.length := by omega
    have := c3' _ hm
    simp only [Prod.mk.injEq] at this
    obtain ⟨d1, d2⟩ := this
    have d1' := hj _ _ d1
    obtain e | e : i = 8 + a.2.1.length + 3 * a.2.2.1.length + 2 * ((i - (8 + a.2.1.length + 3 * a.2.2.1.length)) / 2) ∨ i = 8 + a.2.1.length + 3 * a.2.2.1.length + 2 * ((i - (8 + a.2.1.length + 3 * a.2.2.1.length)) / 2) + 1 := by omega
    · have z : ∀ g, g + i = g + 8 + a.2.1.length + 3 * a.2.2.1.length + 2 * ((i - (8 + a.2.1.length + 3 * a.2.2.1.length)) / 2) := fun g => by omega
      rw [z f, z f']
      exact d1'
    · have z : ∀ g, g + i = g + 8 + a.2.1.length + 3 * a.2.2.1.length + 2 * ((i - (8 + a.2.1.length + 3 * a.2.2.1.length)) / 2) + 1 := fun g => by omega
      rw [z f, z f']
      exact d2
/-- equal rows: equal keys -/
theorem pI_ne {f f' m : Nat} {a a' : aI Nm} (o : okI N np a) (o' : okI N np a') (n6 : np ≤ 6) (l6 : ∀ p, p < np → (lets N p).length ≤ 6) (h : pI cN D f now a) (h' : pI cN D' f' now' a') (hm : sz a ≤ m) (he : ∀ i, i < m → D (f + i) = D' (f' + i)) : kI now a = kI now' a' ∧ sz a = sz a' := by
  obtain ⟨p, hp, g1, g2, _, g3, g4⟩ := o
  obtain ⟨p', hp', g1', g2', _, g3', g4'⟩ := o'
  have l6p := l6 p hp
  have l6p' := l6 p' hp'
  unfold sz at hm
  have e1 : nI p = nI p' := by
    have := he 1 (by omega)
    rw [← g1, ← g1', h.1, h'.1]
    exact this
  have ep : p = p' := nI_inj (by omega) (by omega) e1
  subst ep
  have n1 : a.2.1.length = a'.2.1.length := by rw [g2, g2']
  have e2 : nI a.2.2.1.length = nI a'.2.2.1.length := by
    rw [← h.2.2.1, ← h'.2.2.1, ← n1, Nat.add_assoc, Nat.add_assoc]
    exact he _ (by omega)
  have n2 : a.2.2.1.length = a'.2.2.1.length := nI_inj (by omega) (by omega) e2
  have e3 : nI a.2.2.2.length = nI a'.2.2.2.length := by
    rw [← h.2.2.2.2.1, ← h'.2.2.2.2.1, ← n1, ← n2]
    have := he (7 + a.2.1.length + 3 * a.2.2.1.length) (by omega)
    simp only [← Nat.add_assoc] at this
    exact this
  have n3 : a.2.2.2.length = a'.2.2.2.length := nI_inj (by omega) (by omega) e3
  refine ⟨?_, by unfold sz; omega⟩
  rw [pI_k h, pI_k h', ← n1, ← n2, ← n3]
  have e : ∀ g i, g = f + i → ∀ g', g' = f' + i → i < m → D g = D' g' := fun g i x g' x' hi => by rw [x, x']; exact he i hi
  unfold vwC
  rw [e f 0 rfl f' rfl (by omega), e (f + 1) 1 rfl (f' + 1) rfl (by omega), e (f + 2) 2 rfl (f' + 2) rfl (by omega), e (f + 3) 3 rfl (f' + 3) rfl (by omega), e (f + 4) 4 rfl (f' + 4) rfl (by omega), e (f + 5) 5 rfl (f' + 5) rfl (by omega)]
  congr 2
  · exact rl_congr fun i hi => e _ (6 + i) (by omega) _ (by omega) (by omega)
  · congr 1
    · refine rl_congr fun i hi => ?_
      rw [e _ (7 + a.2.1.length + 3 * i) (by omega) (f' + 7 + a.2.1.length + 3 * i) (by omega) (by omega), e _ (7 + a.2.1.length + 3 * i + 1) (by omega) (f' + 7 + a.2.1.length + 3 * i + 1) (by omega) (by omega), e _ (7 + a.2.1.length + 3 * i + 2) (by omega) (f' + 7 + a.2.1.length + 3 * i + 2) (by omega) (by omega)]
    · refine rl_congr fun i hi => ?_
      rw [e _ (8 + a.2.1.length + 3 * a.2.2.1.length + 2 * i) (by omega) (f' + 8 + a.2.1.length + 3 * a.2.2.1.length + 2 * i) (by omega) (by omega), e _ (8 + a.2.1.length + 3 * a.2.2.1.length + 2 * i + 1) (by omega) (f' + 8 + a.2.1.length + 3 * a.2.2.1.length + 2 * i + 1) (by omega) (by omega)]
theorem pkL_eq (hj : ∀ x y, cN x = cN y → x = y) : ∀ (L L' : List (aI Nm)) (f f' : Nat), pkL cN D now f L → pkL cN D' now' f' L' → L.map (kI now) = L'.map (kI now') → szL L = szL L' ∧ ∀ i, i < szL L → D (f + i) = D' (f' + i) := by
  intro L
  induction L with
  | nil =>
    intro L' f f' _ _ he
    cases L' with
    | nil => exact ⟨rfl, fun i hi => by simp [szL] at hi⟩
    | cons a' L' => simp at he
  | cons a L ih =>
    intro L' f f' h h' he
    cases L' with
    | nil => simp at he
    | cons a' L' =>
      simp only [List.map_cons, List.cons.injEq] at he
      obtain ⟨s1, e1⟩ := pI_eq hj h.1 h'.1 he.1
      obtain ⟨s2, e2⟩ := ih L' (f + sz a) (f' + sz a') h.2 h'.2 he.2
      refine ⟨by show sz a + szL L = sz a' + szL L'; omega, fun i hi => ?_⟩
      have hi' : i < sz a + szL L := hi
      by_cases c : i < sz a
      · exact e1 i c
      · have := e2 (i - sz a) (by omega)
        rw [show f + sz a + (i - sz a) = f + i by omega, show f' + sz a' + (i - sz a) = f' + i by omega] at this
        exact this
theorem pkL_ne (n6 : np ≤ 6) (l6 : ∀ p, p < np → (lets N p).length ≤ 6) : ∀ (L L' : List (aI Nm)) (f f' : Nat), (∀ a, a ∈ L → okI N np a) → (∀ a, a ∈ L' → okI N np a) → pkL cN D now f L → pkL cN D' now' f' L' → L.length = L'.length → (∀ i, i < szL L → D (f + i) = D' (f' + i)) → L.map (kI now) = L'.map (kI now') ∧ szL L = szL L' := by
  intro L
  induction L with
  | nil =>
    intro L' f f' _ _ _ _ hl _
    cases L' with
    | nil => exact ⟨rfl, rfl⟩
    | cons a' L' => simp at hl
  | cons a L ih =>
    intro L' f f' o o' h h' hl he
    cases L' with
    | nil => simp at hl
    | cons a' L' =>
      have hs : szL (a :: L) = sz a + szL L := rfl
      obtain ⟨k1, s1⟩ := pI_ne (m := sz a) (o a (List.mem_cons_self ..)) (o' a' (List.mem_cons_self ..)) n6 l6 h.1 h'.1 (Nat.le_refl _) (fun i hi => he i (by omega))
      obtain ⟨k2, s2⟩ := ih L' (f + sz a) (f' + sz a') (fun c hc => o c (List.mem_cons_of_mem _ hc)) (fun c hc => o' c (List.mem_cons_of_mem _ hc)) h.2 h'.2 (by simpa using hl) (fun i hi => by
        have := he (sz a + i) (by omega)
        rw [← Nat.add_assoc, ← Nat.add_assoc] at this
        rw [this, s1])
      exact ⟨by rw [List.map_cons, List.map_cons, k1, k2], by show sz a + szL L = sz a' + szL L'; omega⟩
/-- the class's rows and the keys -/
theorem pW_ky {f f' : Nat} {W W' : aW Nm} (hj : ∀ x y, cN x = cN y → x = y) (n6 : np ≤ 6) (l6 : ∀ p, p < np → (lets N p).length ≤ 6) (o : ∀ a, a ∈ W.1 → okI N np a) (o' : ∀ a, a ∈ W'.1 → okI N np a) (l8 : W.1.length ≤ 8) (l8' : W'.1.length ≤ 8) (h : pW cN D f W) (h' : pW cN D' f' W') : (2 + szL W.1 = 2 + szL W'.1 ∧ ∀ i, i < 2 + szL W.1 → D (f + i) = D' (f' + i)) ↔ ky W = ky W' := by
  constructor
  · rintro ⟨e1, e2⟩
    have a0 := e2 0 (by omega)
    have a1 := e2 1 (by omega)
    have hl : W.1.length = W'.1.length := nI_inj (by omega) (by omega) (by rw [← h.2.1, ← h'.2.1]; exact a1)
    obtain ⟨k1, _⟩ := pkL_ne n6 l6 W.1 W'.1 (f + 2) (f' + 2) o o' h.2.2 h'.2.2 hl (fun i hi => by
      have := e2 (2 + i) (by omega)
      rw [← Nat.add_assoc, ← Nat.add_assoc] at this
      exact this)
    unfold ky
    rw [k1, ← h.1, ← h'.1]
    exact congrArg (fun z => (z, _)) a0
  · intro e
    unfold ky at e
    simp only [Prod.mk.injEq] at e
    obtain ⟨e1, e2⟩ := pkL_eq hj W.1 W'.1 (f + 2) (f' + 2) h.2.2 h'.2.2 e.2
    have hl : W.1.length = W'.1.length := by have := congrArg List.length e.2; simpa using this
    refine ⟨by omega, fun i hi => ?_⟩
    by_cases c0 : i = 0
    · subst c0
      exact h.1.trans (e.1.trans h'.1.symm)
    by_cases c1 : i = 1
    · subst c1
      have z := h'.2.1
      rw [← hl] at z
      exact h.2.1.trans z.symm
    have := e2 (i - 2) (by omega)
    rw [show f + 2 + (i - 2) = f + i by omega, show f' + 2 + (i - 2) = f' + i by omega] at this
    exact this
end KEY
