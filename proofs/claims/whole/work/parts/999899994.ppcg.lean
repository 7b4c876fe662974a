/-! a plan is what its nodes are -/
section PCG
variable {N N' : Nat → Nat → Int32} {O G E : Nat → Int32} {M nv ns np P L : Nat} {cN rN : Int32 → Nm} {I : Nat → Nat → Int32}
/-- the same nodes below M -/
def agN (M : Nat) (N N' : Nat → Nat → Int32) : Prop := ∀ c i, 251 ≤ c → c ≤ 258 → i < M → N' c i = N c i
theorem xOK_cg (h : agN M N N') : ∀ (r e : Nat), xOK N M nv r e → xOK N' M nv r e := by
  intro r
  induction r with
  | zero => intro e h; exact h
  | succ r ih =>
    intro e hx
    have he := hx.1
    refine ⟨he, ?_⟩
    rw [h 251 e (by omega) (by omega) he, h 252 e (by omega) (by omega) he, h 253 e (by omega) (by omega) he, h 254 e (by omega) (by omega) he]
    rcases hx.2 with a | a | a | ⟨a, f, b, c⟩ | ⟨a, b, f, g, c, c', e1, e2⟩
    · exact Or.inl a
    · exact Or.inr (Or.inl a)
    · exact Or.inr (Or.inr (Or.inl a))
    · exact Or.inr (Or.inr (Or.inr (Or.inl ⟨a, f, b, ih f c⟩)))
    · exact Or.inr (Or.inr (Or.inr (Or.inr ⟨a, b, f, g, c, c', ih f e1, ih g e2⟩)))
theorem nI_inj {a c : Nat} (ha : a < 2 ^ 20) (hc : c < 2 ^ 20) (h : nI a = nI c) : a = c := (nI_eq (by omega) (by omega)).mp h
theorem sE_cg (hM : M < 2 ^ 20) (h : agN M N N') : ∀ (r p e q s : Nat), xOK N M nv r e → sE N O G nv r p e q s → sE N' O G nv r p e q s := by
  intro r
  induction r with
  | zero => intro p e q s _ h; exact h
  | succ r ih =>
    intro p e q s hx hs
    have he := hx.1
    refine ⟨hs.1, ?_⟩
    rw [h 251 e (by omega) (by omega) he, h 252 e (by omega) (by omega) he, h 253 e (by omega) (by omega) he, h 254 e (by omega) (by omega) he]
    rcases hs.2 with a | a | a | ⟨a, f, m, b1, b2, b3, b4, b5⟩ | ⟨a, f, g, m, m2, o, b1, b2, b3, b4, b5, b6, b7, b8, b9⟩
    · exact Or.inl a
    · exact Or.inr (Or.inl a)
    · exact Or.inr (Or.inr (Or.inl a))
    · refine Or.inr (Or.inr (Or.inr (Or.inl ⟨a, f, m, b1, b2, ih _ _ _ _ ?_ b3, b4, b5⟩)))
      rcases hx.2 with z | ⟨z, _⟩ | ⟨z, _⟩ | ⟨_, f', z1, z2⟩ | ⟨z, _⟩
      · rw [a] at z; exact absurd z (by decide)
      · rw [a] at z; exact absurd z (by decide)
      · rw [a] at z; exact absurd z (by decide)
      · rw [nI_inj b1 (by have := xOK_lt z2; omega) (b2.symm.trans z1)]; exact z2
      · rw [a] at z; exact absurd z (by decide)
    · have : xOK N M nv r f ∧ xOK N M nv r g := by
        rcases hx.2 with z | ⟨z, _⟩ | ⟨z, _⟩ | ⟨z, _⟩ | ⟨_, _, f', g', z1, z2, z3, z4⟩
        · rw [a] at z; exact absurd z (by decide)
        · rw [a] at z; exact absurd z (by decide)
        · rw [a] at z; exact absurd z (by decide)
        · rw [a] at z; exact absurd z (by decide)
        · rw [nI_inj b1 (by have := xOK_lt z3; omega) (b3.symm.trans z1), nI_inj b2 (by have := xOK_lt z4; omega) (b4.symm.trans z2)]; exact ⟨z3, z4⟩
      exact Or.inr (Or.inr (Or.inr (Or.inr ⟨a, f, g, m, m2, o, b1, b2, b3, b4, ih _ _ _ _ this.1 b5, ih _ _ _ _ this.2 b6, b7, b8, b9⟩)))
theorem chl_cg (hM : M < 2 ^ 20) (h : agN M N N') : ∀ (r : Nat) (x : Int32), chOK N M r x → chl N' r x = chl N r x ∧ chOK N' M r x := by
  intro r
  induction r with
  | zero => intro x h; exact h.elim
  | succ r ih =>
    intro x hx
    rcases hx with hx | ⟨a, h1, h2, h3⟩
    · refine ⟨?_, Or.inl hx⟩
      subst hx
      rfl
    · have e5 := h 255 a (by omega) (by omega) h2
      have ei : ix x = a := by rw [h1]; exact nI_clamp (by omega)
      refine ⟨?_, Or.inr ⟨a, h1, h2, ?_⟩⟩
      · unfold chl
        rw [ei, e5, (ih _ h3).1]
      · rw [e5]; exact (ih _ h3).2
theorem vA_cg (h : agN M N N') {a : Nat} (hv : vA N M nv ns np a) : vA N' M nv ns np a := by
  have ha := hv.1
  refine ⟨ha, ?_⟩
  rw [h 251 a (by omega) (by omega) ha, h 252 a (by omega) (by omega) ha, h 253 a (by omega) (by omega) ha, h 254 a (by omega) (by omega) ha, h 257 a (by omega) (by omega) ha, h 258 a (by omega) (by omega) ha]
  rcases hv.2 with ⟨a1, e, j, a2, a3, a4⟩ | ⟨a1, a2, a3⟩ | ⟨a1, e, a2, a3⟩ | a1 | a1 | a1 | a1 | ⟨a1, e, a2, a3⟩
  · exact Or.inl ⟨a1, e, j, a2, xOK_cg h _ _ a3, a4⟩
  · refine Or.inr (Or.inl ⟨a1, ?_, a3⟩)
    rcases a2 with z | ⟨e, z1, z2⟩
    · exact Or.inl z
    · exact Or.inr ⟨e, z1, xOK_cg h _ _ z2⟩
  · exact Or.inr (Or.inr (Or.inl ⟨a1, e, a2, xOK_cg h _ _ a3⟩))
  · exact Or.inr (Or.inr (Or.inr (Or.inl a1)))
  · exact Or.inr (Or.inr (Or.inr (Or.inr (Or.inl a1))))
  · exact Or.inr (Or.inr (Or.inr (Or.inr (Or.inr (Or.inl a1)))))
  · exact Or.inr (Or.inr (Or.inr (Or.inr (Or.inr (Or.inr (Or.inl a1))))))
  · exact Or.inr (Or.inr (Or.inr (Or.inr (Or.inr (Or.inr (Or.inr ⟨a1, e, a2, xOK_cg h _ _ a3⟩))))))
/-- the expression of an act -/
theorem vA_x (hM : M < 2 ^ 20) {a e : Nat} (hv : vA N M nv ns np a) (he : e < 2 ^ 20) : (N 251 a = 10 ∨ N 251 a = 11 ∨ N 251 a = 12 → N 253 a = nI e → xOK N M nv ED e) ∧ (N 251 a = 17 → N 252 a = nI e → xOK N M nv ED e) := by
  have key : ∀ e', xOK N M nv ED e' → nI e = nI e' → xOK N M nv ED e := fun e' z1 z2 => by rw [nI_inj he (by have := xOK_lt z1; omega) z2]; exact z1
  rcases hv.2 with ⟨a1, e', j, a2, a3, a4⟩ | ⟨a1, a2, a3⟩ | ⟨a1, e', a2, a3⟩ | a1 | ⟨a1, _⟩ | ⟨a1, _⟩ | a1 | ⟨a1, e', a2, a3⟩
  · exact ⟨fun _ z => key e' a3 (z.symm.trans a2), fun z => by rw [a1] at z; exact absurd z (by decide)⟩
  · refine ⟨fun _ z => ?_, fun z => by rw [a1] at z; exact absurd z (by decide)⟩
    rcases a2 with y | ⟨e', y1, y2⟩
    · rw [z, ← m1e] at y; exact absurd y (mI_ne (by omega) (by omega) (by omega))
    · exact key e' y2 (z.symm.trans y1)
  · exact ⟨fun _ z => key e' a3 (z.symm.trans a2), fun z => by rw [a1] at z; exact absurd z (by decide)⟩
  · exact ⟨fun z => by rw [a1] at z; exact absurd z (by decide), fun z => by rw [a1] at z; exact absurd z (by decide)⟩
  · exact ⟨fun z => by rw [a1] at z; exact absurd z (by decide), fun z => by rw [a1] at z; exact absurd z (by decide)⟩
  · exact ⟨fun z => by rw [a1] at z; exact absurd z (by decide), fun z => by rw [a1] at z; exact absurd z (by decide)⟩
  · exact ⟨fun z => by rw [a1] at z; exact absurd z (by decide), fun z => by rw [a1] at z; exact absurd z (by decide)⟩
  · exact ⟨fun z => by rw [a1] at z; exact absurd z (by decide), fun _ z => key e' a3 (z.symm.trans a2)⟩
theorem sA_cg (hM : M < 2 ^ 20) (h : agN M N N') {p a m : Nat} (hv : vA N M nv ns np a) (hs : sA cN rN N O G E nv ns np p a m) : sA cN rN N' O G E nv ns np p a m := by
  have ha := hv.1
  have hx := fun e he => vA_x (e := e) hM hv he
  have hE : ∀ p e q, xOK N M nv ED e → sE N O G nv ED p e q 64 → sE N' O G nv ED p e q 64 := fun p e q => sE_cg hM h ED p e q 64
  unfold sA
  rw [h 251 a (by omega) (by omega) ha, h 252 a (by omega) (by omega) ha, h 253 a (by omega) (by omega) ha, h 254 a (by omega) (by omega) ha, h 257 a (by omega) (by omega) ha, h 258 a (by omega) (by omega) ha]
  rcases hs with ⟨a1, m1, j, e, a2, a3, a4, a5⟩ | ⟨a1, m1, a2, a3, a4⟩ | ⟨a1, m1, e, a2, a3, a4, a5, a6, a7⟩ | a1 | a1 | a1 | a1 | ⟨a1, m1, e, a2, a3, a4, a5⟩
  · exact Or.inl ⟨a1, m1, j, e, a2, a3, hE _ _ _ ((hx e a2).1 (Or.inl a1) a3) a4, a5⟩
  · refine Or.inr (Or.inl ⟨a1, m1, ?_, a3, a4⟩)
    rcases a2 with z | ⟨e, z1, z2, z3⟩
    · exact Or.inl z
    · exact Or.inr ⟨e, z1, z2, hE _ _ _ ((hx e z1).1 (Or.inr (Or.inl a1)) z2) z3⟩
  · exact Or.inr (Or.inr (Or.inl ⟨a1, m1, e, a2, a3, hE _ _ _ ((hx e a2).1 (Or.inr (Or.inr a1)) a3) a4, a5, a6, a7⟩))
  · exact Or.inr (Or.inr (Or.inr (Or.inl a1)))
  · exact Or.inr (Or.inr (Or.inr (Or.inr (Or.inl a1))))
  · exact Or.inr (Or.inr (Or.inr (Or.inr (Or.inr (Or.inl a1)))))
  · exact Or.inr (Or.inr (Or.inr (Or.inr (Or.inr (Or.inr (Or.inl a1))))))
  · exact Or.inr (Or.inr (Or.inr (Or.inr (Or.inr (Or.inr (Or.inr ⟨a1, m1, e, a2, a3, hE _ _ _ ((hx e a2).2 a1 a3) a4, a5⟩))))))
theorem vK_cg (hM : M < 2 ^ 20) (h : agN M N N') {b : Nat} (hv : vK N M b) : vK N' M b ∧ acts N' b = acts N b := by
  have e := h 252 b (by omega) (by omega) hv.1
  obtain ⟨c1, c2⟩ := chl_cg hM h 2000 _ hv.2
  exact ⟨⟨hv.1, by rw [e]; exact c2⟩, by unfold acts; rw [e]; exact c1⟩
theorem vA_18 {a : Nat} (hv : vA N M nv ns np a) : ¬ N 251 a = 18 := by
  intro z
  rcases hv.2 with ⟨y, _⟩ | ⟨y, _⟩ | ⟨y, _⟩ | y | ⟨y, _⟩ | ⟨y, _⟩ | y | ⟨y, _⟩ <;> (rw [y] at z; exact absurd z (by decide))
theorem vB_cg (hM : M < 2 ^ 20) (h : agN M N N') : ∀ (r : Nat) (as : List Nat), vB N M nv ns np r as → vB N' M nv ns np r as := by
  intro r
  induction r with
  | zero => intro as h; exact h
  | succ r ih =>
    intro as hv
    cases as with
    | nil => trivial
    | cons a as =>
      refine ⟨ih as hv.1, ?_⟩
      rcases hv.2 with z | ⟨z1, z2, e, f, z3, z4, z5, z6, z7, z8⟩
      · exact Or.inl (vA_cg h z)
      · rw [h 251 a (by omega) (by omega) z1, h 252 a (by omega) (by omega) z1, h 253 a (by omega) (by omega) z1, h 254 a (by omega) (by omega) z1]
        obtain ⟨k1, k2⟩ := vK_cg hM h z6
        refine Or.inr ⟨z1, z2, e, f, z3, xOK_cg h _ _ z4, z5, k1, by rw [k2]; exact ih _ z7, ?_⟩
        rcases z8 with z | ⟨g, y1, y2, y3⟩
        · exact Or.inl z
        · obtain ⟨j1, j2⟩ := vK_cg hM h y2
          exact Or.inr ⟨g, y1, j1, by rw [j2]; exact ih _ y3⟩
theorem nB_cg (hM : M < 2 ^ 20) (h : agN M N N') : ∀ (r g : Nat) (as : List Nat), vB N M nv ns np r as → nB N g r as → nB N' g r as := by
  intro r
  induction r with
  | zero => intro g as _ h; exact h
  | succ r ih =>
    intro g as hv hn
    cases as with
    | nil => trivial
    | cons a as =>
      refine ⟨ih g as hv.1 hn.1, ?_⟩
      rcases hv.2 with z | ⟨z1, z2, e, f, z3, z4, z5, z6, z7, z8⟩
      · rw [h 251 a (by omega) (by omega) z.1]
        exact fun y => absurd y (vA_18 z)
      · rw [h 251 a (by omega) (by omega) z1, h 253 a (by omega) (by omega) z1, h 254 a (by omega) (by omega) z1]
        intro y
        obtain ⟨g', g1, g2, g3⟩ := hn.2 y
        have ef : ix (N 253 a) = f := by rw [z5]; exact nI_clamp (by have := z6.1; omega)
        rw [ef] at g2 ⊢
        refine ⟨g', g1, by rw [(vK_cg hM h z6).2]; exact ih _ _ z7 g2, fun y2 => ?_⟩
        rcases z8 with z | ⟨w, y1', y2', y3'⟩
        · rw [z] at y2; exact absurd (by decide) y2
        · have eg : ix (N 254 a) = w := by rw [y1']; exact nI_clamp (by have := y2'.1; omega)
          have g3' := g3 y2
          rw [eg] at g3' ⊢
          rw [(vK_cg hM h y2').2]
          exact ih _ _ y3' g3'
theorem sB_cg (hM : M < 2 ^ 20) (h : agN M N N') : ∀ (r p : Nat) (as : List Nat) (q : Nat), vB N M nv ns np r as → sB cN rN N O G E nv ns np r p as q → sB cN rN N' O G E nv ns np r p as q := by
  intro r
  induction r with
  | zero => intro p as q _ h; exact h
  | succ r ih =>
    intro p as q hv hs
    cases as with
    | nil => exact hs
    | cons a as =>
      obtain ⟨m, h1, h2⟩ := hs
      refine ⟨m, ih _ _ _ hv.1 h1, ?_⟩
      rcases hv.2 with z | ⟨z1, z2, e, f, z3, z4, z5, z6, z7, z8⟩
      · rcases h2 with h2 | ⟨y, _⟩
        · exact Or.inl (sA_cg hM h z h2)
        · exact absurd y (vA_18 z)
      · rcases h2 with h2 | ⟨a1, m1, m2, e', f', a2, a3, a4, a5, a6, a7, a8, a9⟩
        · exfalso
          rcases h2 with ⟨y, _⟩ | ⟨y, _⟩ | ⟨y, _⟩ | ⟨y, _⟩ | ⟨y, _⟩ | ⟨y, _⟩ | ⟨y, _⟩ | ⟨y, _⟩ <;> (rw [y] at z2; exact absurd z2 (by decide))
        · have ee : e' = e := nI_inj a2 (by have := xOK_lt z4; omega) (a4.symm.trans z3)
          have ef : f' = f := nI_inj a3 (by have := z6.1; omega) (a5.symm.trans z5)
          subst ee; subst ef
          refine Or.inr ?_
          rw [h 251 a (by omega) (by omega) z1, h 252 a (by omega) (by omega) z1, h 253 a (by omega) (by omega) z1, h 254 a (by omega) (by omega) z1]
          refine ⟨a1, m1, m2, e', f', a2, a3, a4, a5, sE_cg hM h _ _ _ _ _ z4 a6, a7, by rw [(vK_cg hM h z6).2]; exact ih _ _ _ z7 a8, ?_⟩
          rcases a9 with z | ⟨g, y1, y2, y3, y4, y5, y6⟩
          · exact Or.inl z
          · refine Or.inr ⟨g, y1, y2, y3, y4, ?_, y6⟩
            rcases z8 with z | ⟨w, w1, w2, w3⟩
            · rw [y2, ← m1e] at z; exact absurd z (mI_ne (by omega) (by omega) (by omega))
            · have eg : g = w := nI_inj y1 (by have := w2.1; omega) (y2.symm.trans w1)
              subst eg
              rw [(vK_cg hM h w2).2]
              exact ih _ _ _ w3 y5
theorem sD_cg (hM : M < 2 ^ 20) (h : agN M N N') {p b : Nat} (hk : vK N M b) (hv : vB N M nv ns np RD (acts N b)) (hs : sD cN rN N O G E nv ns np L p b) : sD cN rN N' O G E nv ns np L p b := by
  obtain ⟨q, h1, h2⟩ := hs
  exact ⟨q, by rw [(vK_cg hM h hk).2]; exact sB_cg hM h _ _ _ _ hv h1, h2⟩
/-- a body of a plan -/
theorem bd_cg (hM : M < 2 ^ 20) (h : agN M N N') {x x' p : Nat} {y : Int32} (h1 : y = nI x) (h2 : vK N M x) (h3 : vB N M nv ns np RD (acts N x)) (k1 : x' < 2 ^ 20) (k2 : y = nI x') (k3 : sD cN rN N O G E nv ns np L p x') : sD cN rN N' O G E nv ns np L p x' := by
  have : x' = x := nI_inj k1 (by have := h2.1; omega) (k2.symm.trans h1)
  subst this
  exact sD_cg hM h h2 h3 k3
theorem vC_cg (hM : M < 2 ^ 20) (h : agN M N N') {c : Nat} (hv : vC N M nv ns np c) : vC N' M nv ns np c := by
  have hc := hv.1
  have body : ∀ x, vK N M x → vB N M nv ns np RD (acts N x) → nB N 9 RD (acts N x) → vK N' M x ∧ vB N' M nv ns np RD (acts N' x) ∧ nB N' 9 RD (acts N' x) := fun x b1 b2 b3 => by
    obtain ⟨k1, k2⟩ := vK_cg hM h b1
    rw [k2]
    exact ⟨k1, vB_cg hM h _ _ b2, nB_cg hM h _ _ _ b2 b3⟩
  refine ⟨hc, ?_⟩
  rw [h 251 c (by omega) (by omega) hc, h 252 c (by omega) (by omega) hc, h 253 c (by omega) (by omega) hc, h 254 c (by omega) (by omega) hc, h 258 c (by omega) (by omega) hc]
  rcases hv.2 with ⟨a, b, x, c1, c2, c3, c4⟩ | a | ⟨a, x, c1, c2, c3, c4⟩ | ⟨a, ⟨e, b1, b2⟩, x, c1, c2, c3, c4⟩
  · exact Or.inl ⟨a, b, x, c1, body x c2 c3 c4⟩
  · exact Or.inr (Or.inl a)
  · exact Or.inr (Or.inr (Or.inl ⟨a, x, c1, body x c2 c3 c4⟩))
  · exact Or.inr (Or.inr (Or.inr ⟨a, ⟨e, b1, xOK_cg h _ _ b2⟩, x, c1, body x c2 c3 c4⟩))
theorem kC_cg (hM : M < 2 ^ 20) (h : agN M N N') {i c : Nat} (hv : vC N M nv ns np c) (hs : kC cN rN N O G E nv ns np P L I i c) : kC cN rN N' O G E nv ns np P L I i c := by
  have hc := hv.1
  have hb : N 251 c = 35 ∨ (N 251 c = 37 → ∃ e, N 252 c = nI e ∧ xOK N M nv ED e) ∧ ∃ x, N 254 c = nI x ∧ vK N M x ∧ vB N M nv ns np RD (acts N x) := by
    rcases hv.2 with ⟨a, b, x, c1, c2, c3, c4⟩ | a | ⟨a, x, c1, c2, c3, c4⟩ | ⟨a, b, x, c1, c2, c3, c4⟩
    · exact Or.inr ⟨fun z => by rcases a with a | a <;> (rw [a] at z; exact absurd z (by decide)), x, c1, c2, c3⟩
    · exact Or.inl a
    · exact Or.inr ⟨fun z => by rw [a] at z; exact absurd z (by decide), x, c1, c2, c3⟩
    · exact Or.inr ⟨fun _ => b, x, c1, c2, c3⟩
  unfold kC
  rw [h 251 c (by omega) (by omega) hc, h 252 c (by omega) (by omega) hc, h 253 c (by omega) (by omega) hc, h 254 c (by omega) (by omega) hc, h 258 c (by omega) (by omega) hc]
  rcases hs with ⟨a1, a2, a3, a4, p, x, a5, a6, a7, a8⟩ | ⟨a1, a2, a3, a4, p, x, a5, a6, a7, a8⟩ | a1 | ⟨a1, a2, a3, a4, p, x, a5, a6, a7, a8⟩ | ⟨a1, a2, a3, ⟨p', e, q, b1, b2, b3, b4, b5⟩, p, x, a5, a6, a7, a8⟩
  · rcases hb with z | ⟨_, y, z1, z2, z3⟩
    · rw [a1] at z; exact absurd z (by decide)
    · exact Or.inl ⟨a1, a2, a3, a4, p, x, a5, a6, a7, bd_cg hM h z1 z2 z3 a5 a6 a8⟩
  · rcases hb with z | ⟨_, y, z1, z2, z3⟩
    · rw [a1] at z; exact absurd z (by decide)
    · exact Or.inr (Or.inl ⟨a1, a2, a3, a4, p, x, a5, a6, a7, bd_cg hM h z1 z2 z3 a5 a6 a8⟩)
  · exact Or.inr (Or.inr (Or.inl a1))
  · rcases hb with z | ⟨_, y, z1, z2, z3⟩
    · rw [a1] at z; exact absurd z (by decide)
    · exact Or.inr (Or.inr (Or.inr (Or.inl ⟨a1, a2, a3, a4, p, x, a5, a6, a7, bd_cg hM h z1 z2 z3 a5 a6 a8⟩)))
  · rcases hb with z | ⟨he, y, z1, z2, z3⟩
    · rw [a1] at z; exact absurd z (by decide)
    · obtain ⟨e', w1, w2⟩ := he a1
      have ee : e = e' := nI_inj b1 (by have := xOK_lt w2; omega) (b2.symm.trans w1)
      subst ee
      exact Or.inr (Or.inr (Or.inr (Or.inr ⟨a1, a2, a3, ⟨p', e, q, b1, b2, b3, sE_cg hM h _ _ _ _ _ w2 b4, b5⟩, p, x, a5, a6, a7, bd_cg hM h z1 z2 z3 a5 a6 a8⟩)))
/-- rows of a process -/
theorem pr_cg (hM : M < 2 ^ 20) (h : agN M N N') (h9 : ∀ i, N' 259 i = N 259 i) {p : Nat} (hv : vP N M np p) : pnd N' p = pnd N p ∧ lets N' p = lets N p ∧ sts N' p = sts N p ∧ ∀ s, s < (sts N p).length → cls N' p s = cls N p s := by
  obtain ⟨a1, a2, a3, a4, a5, a6, a7, a8, a9⟩ := hv
  have e1 : pnd N' p = pnd N p := by unfold pnd; rw [h9]
  have e2 : lets N' p = lets N p := by unfold lets; rw [e1, h 253 _ (by omega) (by omega) a1]; exact (chl_cg hM h _ _ a4).1
  have e3 : sts N' p = sts N p := by unfold sts; rw [e1, h 254 _ (by omega) (by omega) a1]; exact (chl_cg hM h _ _ a6).1
  refine ⟨e1, e2, e3, fun s hs => ?_⟩
  have hy := List.getElem?_eq_getElem hs
  obtain ⟨b1, b2, _⟩ := a9 s _ hy
  unfold cls
  rw [e3, List.getD_eq_getElem?_getD, hy]
  show chl N' 9 (N' 253 ((sts N p)[s])) = chl N 9 (N 253 ((sts N p)[s]))
  rw [h 253 _ (by omega) (by omega) b1]
  exact (chl_cg hM h _ _ b2).1
theorem plan_cg (h : agN M N N') (h9 : ∀ i, N' 259 i = N 259 i) (h34 : N' 241 34 = N 241 34) (hv : vN N M np) (hp : plC cN rN N O G E np P L I) : vN N' M np ∧ plC cN rN N' O G E np P L I := by
  have hM := hv.2.2.1
  refine ⟨⟨hv.1, h34.trans hv.2.1, hM, fun p hpp => ?_⟩, hp.1, hp.2.1, hp.2.2.1, fun p hpp => ?_⟩
  · obtain ⟨a1, a2, a3, a4, a5, a6, a7, ⟨x, a8, a9, a10, a11⟩, a12⟩ := hv.2.2.2 p hpp
    obtain ⟨e1, e2, e3, e4⟩ := pr_cg hM h h9 (hv.2.2.2 p hpp)
    obtain ⟨k1, k2⟩ := vK_cg hM h a9
    unfold vP
    rw [e1, e2, e3, h9, h 257 _ (by omega) (by omega) a1, h 253 _ (by omega) (by omega) a1, h 254 _ (by omega) (by omega) a1, h 258 _ (by omega) (by omega) a1]
    refine ⟨a1, a2, a3, (chl_cg hM h _ _ a4).2, a5, (chl_cg hM h _ _ a6).2, a7, ⟨x, a8, k1, by rw [k2]; exact vB_cg hM h _ _ a10, by rw [k2]; exact nB_cg hM h _ _ _ a10 a11⟩, fun s y hy => ?_⟩
    obtain ⟨b1, b2, b3, b4⟩ := a12 s y hy
    rw [e4 s (lt_of_some hy), h 253 y (by omega) (by omega) b1]
    exact ⟨b1, (chl_cg hM h _ _ b2).2, b3, fun j c hc => vC_cg hM h (b4 j c hc)⟩
  · obtain ⟨v1, v2, v3, v4, v5, v6, v7, ⟨xv, v8, v9, v10, v11⟩, v12⟩ := hv.2.2.2 p hpp
    obtain ⟨e1, e2, e3, e4⟩ := pr_cg hM h h9 (hv.2.2.2 p hpp)
    obtain ⟨a1, a2, a3, a4, a5, a6, a7, a8, a9, a10, ⟨q, x, b1, b2, b3, b4⟩, a12⟩ := hp.2.2.2 p hpp
    unfold kP
    rw [e1, e2, e3, h9, h 252 _ (by omega) (by omega) v1, h 257 _ (by omega) (by omega) v1, h 258 _ (by omega) (by omega) v1]
    refine ⟨a1, a2, a3, a4, a5, a6, fun j c hc => ?_, a8, a9, fun j c hc => ?_, ⟨q, x, b1, b2, b3, bd_cg hM h v8 v9 v10 b1 b2 b4⟩, fun s hs => ?_⟩
    · have hcM : c < M := chl_lt (by omega) _ _ v4 c (List.mem_of_getElem? hc)
      rw [h 252 c (by omega) (by omega) hcM, h 253 c (by omega) (by omega) hcM]
      exact a7 j c hc
    · rw [h 252 c (by omega) (by omega) (v12 j c hc).1]
      exact a10 j c hc
    · obtain ⟨c1, c2, c3⟩ := a12 s hs
      rw [e4 s hs]
      refine ⟨c1, c2, fun j c hc => ?_⟩
      have hy := List.getElem?_eq_getElem hs
      exact kC_cg hM h ((v12 s _ hy).2.2.2 j c hc) (c3 j c hc)
end PCG
