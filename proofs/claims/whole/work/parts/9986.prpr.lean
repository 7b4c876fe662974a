/-! processes, states and clauses of the reference -/
section PR
variable (t : Nat → Int32) (N : Nat) (I : Nat → Nat → Int32) (nn pr : Nat)
/-- the block x, with all below it up to hi, is the body o -/
def bkR (hi x : Nat) (o : Nat × List oT) : Prop := x < hi ∧ I 251 x = nI 19 ∧ ∃ as l tk, o.2 = l ++ [oz pr 28 tk] ∧ chn I (I 252 x) as ∧ (∀ y, y ∈ as → y < hi) ∧ as.length + x + 1 ≤ hi ∧ bR t N I nn pr RD 7 (x + 1) as o.1 l ∧ ∀ y, y ∈ l → y.2.2.2 < tk
/-- the clause c, with all below it up to hi -/
def clR (hi c : Nat) (q : qCl) : Prop := c < hi ∧ I 256 c = nI (tpos t N q.1) ∧ (
  ((KK t N q.1 = 5 ∧ I 251 c = nI 33 ∨ KK t N q.1 = 6 ∧ I 251 c = nI 34) ∧ nmA t N I nn (I 252 c) (q.1 + 1) ∧ I 257 c = nI (tpos t N (q.1 + 1)) ∧ (match q.2.1 with | none => I 253 c = mI 1 ∧ I 258 c = mI 1 | some v => nmA t N I nn (I 253 c) v ∧ I 258 c = nI (tpos t N v) ∧ q.1 + 1 < v ∧ ∀ y, y ∈ q.2.2.2.2 → v < y.2.2.2) ∧ ∃ x, c < x ∧ I 254 c = nI x ∧ bkR t N I nn pr hi x q.2.2.2) ∨
  (KK t N q.1 = 7 ∧ I 251 c = nI 35 ∧ nmA t N I nn (I 252 c) (q.1 + 1) ∧ I 257 c = nI (tpos t N (q.1 + 1)) ∧ I 258 c = mI 1 ∧ I 254 c = mI 1 ∧ q.2.1 = none) ∨
  (KK t N q.1 = 9 ∧ I 251 c = nI 36 ∧ I 252 c = mI 1 ∧ I 258 c = mI 1 ∧ q.2.1 = none ∧ ∃ x, c < x ∧ I 254 c = nI x ∧ bkR t N I nn pr hi x q.2.2.2) ∨
  (KK t N q.1 = 8 ∧ I 251 c = nI 37 ∧ I 258 c = mI 1 ∧ q.2.1 = none ∧ ∃ x, c < x ∧ I 254 c = nI x ∧ bkR t N I nn pr hi x q.2.2.2 ∧ ∃ e l tk, q.2.2.1.2 = l ++ [oz pr 28 tk] ∧ c < e ∧ e < x ∧ I 252 c = nI e ∧ xR t N I nn pr (c + 1) ED e l 64 ∧ (∀ y, y ∈ l → y.2.2.2 < tk) ∧ ∀ y, y ∈ q.2.2.2.2 → tk < y.2.2.2))
def clsR : Nat → List Nat → List qCl → Nat → Prop
  | lo, [], [], hi => lo ≤ hi
  | lo, c :: cs, q :: qs, hi => ∃ k, lo ≤ c ∧ clR t N I nn pr k c q ∧ clsR k cs qs hi
  | _, _, _, _ => False
/-- the state s -/
def stR (hi s : Nat) (q : qSt) : Prop := s < hi ∧ I 251 s = nI 32 ∧ nmA t N I nn (I 252 s) q.1 ∧ I 256 s = nI (tpos t N q.1) ∧ ∃ cs, chn I (I 253 s) cs ∧ clsR t N I nn pr (s + 1) cs q.2 hi
def stsR : Nat → List Nat → List qSt → Nat → Prop
  | lo, [], [], hi => lo ≤ hi
  | lo, s :: ss, q :: qs, hi => ∃ k, lo ≤ s ∧ stR t N I nn pr k s q ∧ stsR k ss qs hi
  | _, _, _, _ => False
def ltsR : Nat → List Nat → List Nat → Nat → Prop
  | lo, [], [], hi => lo ≤ hi
  | lo, v :: vs, q :: qs, hi => lo ≤ v ∧ v < hi ∧ I 251 v = nI 31 ∧ nmA t N I nn (I 252 v) q ∧ KK t N (q + 2) = 27 ∧ I 253 v = tkNu t N (tpos t N (q + 2)) ∧ I 256 v = nI (tpos t N q) ∧ ltsR (v + 1) vs qs hi
  | _, _, _, _ => False
/-- the process p -/
def prR (hi p : Nat) (q : qPr) : Prop := p < hi ∧ I 251 p = nI 30 ∧ nmA t N I nn (I 252 p) q.1 ∧ I 256 p = nI (tpos t N q.1) ∧ KK t N (q.1 + 2) = 27 ∧ I 257 p = tkNu t N (tpos t N (q.1 + 2)) ∧ tkNu t N (tpos t N (q.1 + 2)) ≤ nI 3 ∧
  ∃ ls x ss k, chn I (I 253 p) ls ∧ ltsR t N I nn (p + 1) ls q.2.1 x ∧ I 258 p = nI x ∧ bkR t N I nn pr k x q.2.2.1 ∧ chn I (I 254 p) ss ∧ stsR t N I nn pr k ss q.2.2.2 hi
end PR
section PRL
variable {t : Nat → Int32} {N : Nat} {I I' : Nat → Nat → Int32} {nn nn' pr : Nat}
theorem bkR_st {lo hi hi' x : Nat} {o : Nat × List oT} (hf : ∀ c i, 251 ≤ c → c ≤ 258 → lo ≤ i → i < hi → I' c i = I c i) (hn : ∀ u, u < nn → rnm I' u = rnm I u) (hnn : nn ≤ nn') (hlo : lo ≤ x) (hh : hi ≤ hi') (h : bkR t N I nn pr hi x o) : bkR t N I' nn' pr hi' x o := by
  obtain ⟨h1, h2, as, l, tk, h3, h4, h5, h5', h6, h7⟩ := h
  have hge := bR_ge _ _ _ _ _ _ h6
  refine ⟨by omega, (hf 251 x (by omega) (by omega) hlo h1).trans h2, as, l, tk, h3, ?_, fun y hy => by have := h5 y hy; omega, by omega, ?_, h7⟩
  · rw [hf 252 x (by omega) (by omega) hlo h1]
    exact chn_st as _ (fun a ha => hf 255 a (by omega) (by omega) (by have := hge a ha; omega) (h5 a ha)) h4
  · exact bR_st _ _ _ hi hi as _ _ (fun c i c1 c2 c3 c4 c5 => hf c i c1 c2 (by omega) c4) (fun a ha => ⟨by have := h5 a ha; omega, h5 a ha⟩) hn hnn h6
theorem clR_st {hi c : Nat} {q : qCl} (hf : ∀ k i, 251 ≤ k → k ≤ 258 → c ≤ i → i < hi → ¬ (k = 255 ∧ i = c) → I' k i = I k i) (hn : ∀ u, u < nn → rnm I' u = rnm I u) (hnn : nn ≤ nn') (h : clR t N I nn pr hi c q) : clR t N I' nn' pr hi c q := by
  obtain ⟨h1, h2, h⟩ := h
  have f : ∀ k, 251 ≤ k → k ≤ 258 → k ≠ 255 → I' k c = I k c := fun k a b e => hf k c a b (Nat.le_refl _) h1 (by omega)
  have f1 := f 251 (by omega) (by omega) (by omega)
  have f2 := f 252 (by omega) (by omega) (by omega)
  have f3 := f 253 (by omega) (by omega) (by omega)
  have f4 := f 254 (by omega) (by omega) (by omega)
  have f6 := f 256 (by omega) (by omega) (by omega)
  have f7 := f 257 (by omega) (by omega) (by omega)
  have f8 := f 258 (by omega) (by omega) (by omega)
  have hb : ∀ (x : Nat) (o : Nat × List oT), c < x → bkR t N I nn pr hi x o → bkR t N I' nn' pr hi x o := fun x o hx h => bkR_st (lo := c + 1) (fun k i a b e g => hf k i a b (by omega) g (by omega)) hn hnn (by omega) (Nat.le_refl _) h
  refine ⟨h1, f6.trans h2, ?_⟩
  rw [f1, f2, f3, f4, f7, f8]
  rcases h with ⟨a1, a2, a3, a4, x, a5, a6, a7⟩ | ⟨a1, a2, a3, a4⟩ | ⟨a1, a2, a3, a4, a5, x, a6, a7, a8⟩ | ⟨a1, a2, a3, a4, x, a6, a7, a8, e, l, tk, b1, b2, b3, b4, b5, b6⟩
  · refine Or.inl ⟨a1, nmA_st hn hnn a2, a3, ?_, x, a5, a6, hb x _ a5 a7⟩
    cases hq : q.2.1 with
    | none => rw [hq] at a4; exact a4
    | some v => rw [hq] at a4; exact ⟨nmA_st hn hnn a4.1, a4.2⟩
  · exact Or.inr (Or.inl ⟨a1, a2, nmA_st hn hnn a3, a4⟩)
  · exact Or.inr (Or.inr (Or.inl ⟨a1, a2, a3, a4, a5, x, a6, a7, hb x _ a6 a8⟩))
  · have hx8 := a8.1
    exact Or.inr (Or.inr (Or.inr ⟨a1, a2, a3, a4, x, a6, a7, hb x _ a6 a8, e, l, tk, b1, b2, b3, b4, xR_st ED e l 64 (fun k i c1 c2 c3 c4 c5 => hf k i c1 (by omega) (by omega) (by omega) (by omega)) hn hnn b5, b6⟩))
theorem clsR_ge : ∀ (cs : List Nat) (qs : List qCl) (lo hi : Nat), clsR t N I nn pr lo cs qs hi → lo ≤ hi ∧ ∀ c, c ∈ cs → lo ≤ c ∧ c < hi := by
  intro cs
  induction cs with
  | nil =>
    intro qs lo hi h
    cases qs with
    | nil => exact ⟨h, fun c hc => by cases hc⟩
    | cons q qs => exact h.elim
  | cons c cs ih =>
    intro qs lo hi h
    cases qs with
    | nil => exact h.elim
    | cons q qs =>
      obtain ⟨k, h1, h2, h3⟩ := h
      obtain ⟨i1, i2⟩ := ih qs k hi h3
      have := h2.1
      refine ⟨by omega, fun y hy => ?_⟩
      rcases List.mem_cons.mp hy with e | e
      · rw [e]; omega
      · have := i2 y e; omega
theorem clsR_st : ∀ (cs : List Nat) (qs : List qCl) (lo hi : Nat), (∀ k i, 251 ≤ k → k ≤ 258 → lo ≤ i → i < hi → ¬ (k = 255 ∧ i ∈ cs) → I' k i = I k i) → (∀ u, u < nn → rnm I' u = rnm I u) → nn ≤ nn' → clsR t N I nn pr lo cs qs hi → clsR t N I' nn' pr lo cs qs hi := by
  intro cs
  induction cs with
  | nil =>
    intro qs lo hi _ _ _ h
    cases qs with
    | nil => exact h
    | cons q qs => exact h.elim
  | cons c cs ih =>
    intro qs lo hi hf hn hnn h
    cases qs with
    | nil => exact h.elim
    | cons q qs =>
      obtain ⟨k, h1, h2, h3⟩ := h
      obtain ⟨i1, i2⟩ := clsR_ge _ _ _ _ h3
      have h21 := h2.1
      refine ⟨k, h1, clR_st (fun k' i a b e g n => hf k' i a b (by omega) (by omega) (fun z => ?_)) hn hnn h2, ih qs k hi (fun k' i a b e g n => hf k' i a b (by omega) g (fun z => ?_)) hn hnn h3⟩
      · rcases List.mem_cons.mp z.2 with e' | e'
        · exact n ⟨z.1, e'⟩
        · have := i2 i e'; omega
      · rcases List.mem_cons.mp z.2 with e' | e'
        · omega
        · exact n ⟨z.1, e'⟩
/-- a clause more -/
theorem clsR_app : ∀ (cs : List Nat) (qs : List qCl) (lo h1 h2 c : Nat) (q : qCl), clsR t N I nn pr lo cs qs h1 → h1 ≤ c → clR t N I nn pr h2 c q → clsR t N I nn pr lo (cs ++ [c]) (qs ++ [q]) h2 := by
  intro cs
  induction cs with
  | nil =>
    intro qs lo h1 h2 c q h hc hq
    cases qs with
    | nil =>
      have h : lo ≤ h1 := h
      exact ⟨h2, by omega, hq, Nat.le_refl _⟩
    | cons q qs => exact h.elim
  | cons a cs ih =>
    intro qs lo h1 h2 c q h hc hq
    cases qs with
    | nil => exact h.elim
    | cons q0 qs =>
      obtain ⟨k, a1, a2, a3⟩ := h
      exact ⟨k, a1, a2, ih qs k h1 h2 c q a3 hc hq⟩
theorem clsR_mono : ∀ (cs : List Nat) (qs : List qCl) (lo h1 h2 : Nat), h1 ≤ h2 → clsR t N I nn pr lo cs qs h1 → clsR t N I nn pr lo cs qs h2 := by
  intro cs
  induction cs with
  | nil =>
    intro qs lo h1 h2 hh h
    cases qs with
    | nil => exact Nat.le_trans h hh
    | cons q qs => exact h.elim
  | cons a cs ih =>
    intro qs lo h1 h2 hh h
    cases qs with
    | nil => exact h.elim
    | cons q0 qs =>
      obtain ⟨k, a1, a2, a3⟩ := h
      exact ⟨k, a1, a2, ih qs k h1 h2 hh a3⟩
theorem stR_st {hi s : Nat} {q : qSt} (hf : ∀ k i, 251 ≤ k → k ≤ 258 → s ≤ i → i < hi → ¬ (k = 255 ∧ i = s) → I' k i = I k i) (hn : ∀ u, u < nn → rnm I' u = rnm I u) (hnn : nn ≤ nn') (h : stR t N I nn pr hi s q) : stR t N I' nn' pr hi s q := by
  obtain ⟨h1, h2, h3, h4, cs, h5, h6⟩ := h
  obtain ⟨g1, g2⟩ := clsR_ge _ _ _ _ h6
  have f : ∀ k, 251 ≤ k → k ≤ 258 → k ≠ 255 → I' k s = I k s := fun k a b e => hf k s a b (Nat.le_refl _) h1 (by omega)
  refine ⟨h1, (f 251 (by omega) (by omega) (by omega)).trans h2, ?_, (f 256 (by omega) (by omega) (by omega)).trans h4, cs, ?_, clsR_st cs q.2 _ hi (fun k i a b e g n => hf k i a b (by omega) g (by omega)) hn hnn h6⟩
  · rw [f 252 (by omega) (by omega) (by omega)]; exact nmA_st hn hnn h3
  · rw [f 253 (by omega) (by omega) (by omega)]
    exact chn_st cs _ (fun a ha => hf 255 a (by omega) (by omega) (by have := g2 a ha; omega) (g2 a ha).2 (by have := g2 a ha; omega)) h5
theorem stsR_ge : ∀ (ss : List Nat) (qs : List qSt) (lo hi : Nat), stsR t N I nn pr lo ss qs hi → lo ≤ hi ∧ ∀ c, c ∈ ss → lo ≤ c ∧ c < hi := by
  intro cs
  induction cs with
  | nil =>
    intro qs lo hi h
    cases qs with
    | nil => exact ⟨h, fun c hc => by cases hc⟩
    | cons q qs => exact h.elim
  | cons c cs ih =>
    intro qs lo hi h
    cases qs with
    | nil => exact h.elim
    | cons q qs =>
      obtain ⟨k, h1, h2, h3⟩ := h
      obtain ⟨i1, i2⟩ := ih qs k hi h3
      have := h2.1
      refine ⟨by omega, fun y hy => ?_⟩
      rcases List.mem_cons.mp hy with e | e
      · rw [e]; omega
      · have := i2 y e; omega
theorem stsR_st : ∀ (cs : List Nat) (qs : List qSt) (lo hi : Nat), (∀ k i, 251 ≤ k → k ≤ 258 → lo ≤ i → i < hi → ¬ (k = 255 ∧ i ∈ cs) → I' k i = I k i) → (∀ u, u < nn → rnm I' u = rnm I u) → nn ≤ nn' → stsR t N I nn pr lo cs qs hi → stsR t N I' nn' pr lo cs qs hi := by
  intro cs
  induction cs with
  | nil =>
    intro qs lo hi _ _ _ h
    cases qs with
    | nil => exact h
    | cons q qs => exact h.elim
  | cons c cs ih =>
    intro qs lo hi hf hn hnn h
    cases qs with
    | nil => exact h.elim
    | cons q qs =>
      obtain ⟨k, h1, h2, h3⟩ := h
      obtain ⟨i1, i2⟩ := stsR_ge _ _ _ _ h3
      have h21 := h2.1
      refine ⟨k, h1, stR_st (fun k' i a b e g n => hf k' i a b (by omega) (by omega) (fun z => ?_)) hn hnn h2, ih qs k hi (fun k' i a b e g n => hf k' i a b (by omega) g (fun z => ?_)) hn hnn h3⟩
      · rcases List.mem_cons.mp z.2 with e' | e'
        · exact n ⟨z.1, e'⟩
        · have := i2 i e'; omega
      · rcases List.mem_cons.mp z.2 with e' | e'
        · omega
        · exact n ⟨z.1, e'⟩
theorem stsR_app : ∀ (cs : List Nat) (qs : List qSt) (lo h1 h2 c : Nat) (q : qSt), stsR t N I nn pr lo cs qs h1 → h1 ≤ c → stR t N I nn pr h2 c q → stsR t N I nn pr lo (cs ++ [c]) (qs ++ [q]) h2 := by
  intro cs
  induction cs with
  | nil =>
    intro qs lo h1 h2 c q h hc hq
    cases qs with
    | nil =>
      have h : lo ≤ h1 := h
      exact ⟨h2, by omega, hq, Nat.le_refl _⟩
    | cons q qs => exact h.elim
  | cons a cs ih =>
    intro qs lo h1 h2 c q h hc hq
    cases qs with
    | nil => exact h.elim
    | cons q0 qs =>
      obtain ⟨k, a1, a2, a3⟩ := h
      exact ⟨k, a1, a2, ih qs k h1 h2 c q a3 hc hq⟩
theorem stsR_mono : ∀ (cs : List Nat) (qs : List qSt) (lo h1 h2 : Nat), h1 ≤ h2 → stsR t N I nn pr lo cs qs h1 → stsR t N I nn pr lo cs qs h2 := by
  intro cs
  induction cs with
  | nil =>
    intro qs lo h1 h2 hh h
    cases qs with
    | nil => exact Nat.le_trans h hh
    | cons q qs => exact h.elim
  | cons a cs ih =>
    intro qs lo h1 h2 hh h
    cases qs with
    | nil => exact h.elim
    | cons q0 qs =>
      obtain ⟨k, a1, a2, a3⟩ := h
      exact ⟨k, a1, a2, ih qs k h1 h2 hh a3⟩
theorem ltsR_ge : ∀ (vs : List Nat) (qs : List Nat) (lo hi : Nat), ltsR t N I nn lo vs qs hi → lo ≤ hi ∧ ∀ c, c ∈ vs → lo ≤ c ∧ c < hi := by
  intro cs
  induction cs with
  | nil =>
    intro qs lo hi h
    cases qs with
    | nil => exact ⟨h, fun c hc => by cases hc⟩
    | cons q qs => exact h.elim
  | cons c cs ih =>
    intro qs lo hi h
    cases qs with
    | nil => exact h.elim
    | cons q qs =>
      obtain ⟨h1, h2, _, _, _, _, _, h3⟩ := h
      obtain ⟨i1, i2⟩ := ih qs (c + 1) hi h3
      refine ⟨by omega, fun y hy => ?_⟩
      rcases List.mem_cons.mp hy with e | e
      · rw [e]; omega
      · have := i2 y e; omega
theorem ltsR_st : ∀ (vs : List Nat) (qs : List Nat) (lo hi : Nat), (∀ k i, 251 ≤ k → k ≤ 258 → k ≠ 255 → lo ≤ i → i < hi → I' k i = I k i) → (∀ u, u < nn → rnm I' u = rnm I u) → nn ≤ nn' → ltsR t N I nn lo vs qs hi → ltsR t N I' nn' lo vs qs hi := by
  intro vs
  induction vs with
  | nil =>
    intro qs lo hi _ _ _ h
    cases qs with
    | nil => exact h
    | cons q qs => exact h.elim
  | cons v vs ih =>
    intro qs lo hi hf hn hnn h
    cases qs with
    | nil => exact h.elim
    | cons q qs =>
      obtain ⟨h1, h2, h3, h4, h5, h6, h7, h8⟩ := h
      refine ⟨h1, h2, (hf 251 v (by omega) (by omega) (by omega) h1 h2).trans h3, ?_, h5, (hf 253 v (by omega) (by omega) (by omega) h1 h2).trans h6, (hf 256 v (by omega) (by omega) (by omega) h1 h2).trans h7, ih qs (v + 1) hi (fun k i a b e g n => hf k i a b e (by omega) n) hn hnn h8⟩
      rw [hf 252 v (by omega) (by omega) (by omega) h1 h2]
      exact nmA_st hn hnn h4
theorem ltsR_app : ∀ (vs : List Nat) (qs : List Nat) (lo h1 h2 v q : Nat), ltsR t N I nn lo vs qs h1 → h1 ≤ v → v < h2 → I 251 v = nI 31 → nmA t N I nn (I 252 v) q → KK t N (q + 2) = 27 → I 253 v = tkNu t N (tpos t N (q + 2)) → I 256 v = nI (tpos t N q) → ltsR t N I nn lo (vs ++ [v]) (qs ++ [q]) h2 := by
  intro vs
  induction vs with
  | nil =>
    intro qs lo h1 h2 v q h a1 a2 a3 a4 a5 a6 a7
    cases qs with
    | nil =>
      have h : lo ≤ h1 := h
      exact ⟨by omega, a2, a3, a4, a5, a6, a7, by show v + 1 ≤ h2; omega⟩
    | cons q qs => exact h.elim
  | cons w vs ih =>
    intro qs lo h1 h2 v q h a1 a2 a3 a4 a5 a6 a7
    cases qs with
    | nil => exact h.elim
    | cons q0 qs =>
      have hg := ltsR_ge _ _ _ _ h
      obtain ⟨b1, b2, b3, b4, b5, b6, b7, b8⟩ := h
      exact ⟨b1, by omega, b3, b4, b5, b6, b7, ih qs (w + 1) h1 h2 v q b8 a1 a2 a3 a4 a5 a6 a7⟩
end PRL
