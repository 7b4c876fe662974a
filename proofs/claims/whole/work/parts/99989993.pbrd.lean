/-! the class's plan is the reference's: clauses -/
section BCL
variable {t : Nat → Int32} {N m pr : Nat} {F : List qPr} {V O Gc Ec : Nat → Int32} {I : Nat → Nat → Int32} {nn M : Nat} {α : Type} {cN rN : Int32 → α} {G : Int32 → Int32} {q : qPr} {C : List oT}
/-- all code stands, looked up; nothing is unknown -/
def cAl (t : Nat → Int32) (N : Nat) (F : List qPr) (V O Gc Ec : Nat → Int32) (C : List oT) : Prop := ∀ k x, C[k]? = some x → O k = nI x.1 ∧ Gc k = lkA (eqY t N) F V x ∧ Ec k = lkE (eqY t N) F V x ∧ ukO (eqY t N) F x = none
theorem cdA_slc {o : Nat × List oT} (hC : cAl t N F V O Gc Ec C) (h : slc C o) (hop : opL (KK t N) m pr o.2) : cdA t N m pr F V O Gc Ec o.1 o.2 ∧ o.1 + o.2.length ≤ C.length := by
  obtain ⟨pre, post, h1, h2⟩ := h
  refine ⟨fun k x hk => ?_, ?_⟩
  · have hx : C[o.1 + k]? = some x := by
      rw [h1, h2, List.append_assoc]
      exact some_ap2 (some_ap hk)
    obtain ⟨c1, c2, c3, c4⟩ := hC _ _ hx
    obtain ⟨d1, d2⟩ := hop x (List.mem_of_getElem? hk)
    exact ⟨c1, c2, c3, c4, d1, d2⟩
  · rw [h1, h2]
    simp only [List.length_append]
    omega
theorem fI_cg {β : Type} {f g : β → Bool} {l : List β} (h : ∀ x, x ∈ l → f x = g x) : l.findIdx? f = l.findIdx? g := by
  induction l with
  | nil => rfl
  | cons a l ih =>
    rw [List.findIdx?_cons, List.findIdx?_cons, h a (List.mem_cons_self ..), ih (fun x hx => h x (List.mem_cons_of_mem _ hx))]
variable {P : Nat} {Ic : Nat → Nat → Int32}
theorem clRl_kC (hb : bEn t N m pr F V I nn cN rN G q) (hC : cAl t N F V O Gc Ec C) (hM : M ≤ 2000) {hi c i : Nat} {c' : qCl} (hh : hi ≤ M) (hcv : cV (KK t N) m C pr c') (hmC : mC (KK t N) V P Ic q.2.1 i c') (hEV : ∀ x y, nmT (KK t N) m x → nmT (KK t N) m y → eqV V x y = eqY t N x y) (hlet : ∀ v, v ∈ q.2.1 → KK t N v = 26 ∧ v ≤ m) (hx : clRl t N I nn pr G F hi c c') : kC cN rN I O Gc Ec q.2.1.length q.2.2.2.length F.length P C.length Ic i c ∧ vC I M q.2.1.length q.2.2.2.length F.length c := by
  obtain ⟨hc, hx⟩ := hx
  obtain ⟨m1, m2, m3, m4, m5, m6⟩ := hmC
  obtain ⟨v1, v2, v3, v4, v5, v6, v7⟩ := hcv
  have hb' := hb
  obtain ⟨hp, hN, hq, hG, hU, hnm⟩ := hb'
  have hcM : c < M := by omega
  rcases hx with ⟨k, b1, b2, x, b3, b4, b5⟩ | ⟨k0, k, b1, b2, b3, b4⟩ | ⟨k0, k, b1, b2, b3, x, b4, b5, b6⟩ | ⟨k0, k, b1, b2, x, b3, b4, b5, e, l, tk, c1, c2, c3, c4, c5, c6⟩
  · have k7 : KK t N c'.1 ≤ 6 := by rcases k with ⟨k, _⟩ | ⟨k, _⟩ <;> omega
    obtain ⟨s1, s2⟩ := v7 (by omega)
    obtain ⟨d1, d2⟩ := cdA_slc hC s1 s2
    obtain ⟨e1, e2, e3, e4⟩ := bkRl_sD hb hM hh b5 d1 d2
    have hn : cN (Ic (P + 19) i) = rN (I 252 c) := by
      rw [m3, if_pos (by omega)]
      exact hnm _ _ (v4 (by omega)).2 b1
    have h22 := m6 (by omega)
    have hxM := e2.1
    have hv : ((I 258 c = -1 ∧ Ic (P + 20) i = -1) ∨ ∃ y j, y < 2 ^ 20 ∧ I 258 c = nI y ∧ j < q.2.1.length ∧ I 253 c = nI j ∧ Ic (P + 20) i = nI j) := by
      cases hv : c'.2.1 with
      | none =>
        rw [hv] at b2 m4
        exact Or.inl ⟨Eq.trans b2 m1e, Eq.trans m4 m1e⟩
      | some v =>
        rw [hv] at b2 m4
        obtain ⟨z1, j, z2, z3⟩ := b2
        have hpos := tpos_N (t := t) (N := N) (j := v)
        have e1 : fdVar (eqY t N) F pr v = q.2.1.findIdx? (fun y => eqY t N y v) := by unfold fdVar; rw [hq]
        rw [e1] at z2
        refine Or.inr ⟨_, j, by omega, z1, fI_lt z2, z3, ?_⟩
        have m4' : Ic (P + 20) i = inO (q.2.1.findIdx? (fun x => eqV V x v)) := m4
        rw [m4', fI_cg (g := fun y => eqY t N y v) (fun y hy => hEV y v (hlet y hy) (v5 v hv)), z2]
        rfl
    have hv2 : (I 258 c = -1 ∨ ∃ y j, y < 2 ^ 20 ∧ I 258 c = nI y ∧ j < q.2.1.length ∧ I 253 c = nI j) := by
      rcases hv with ⟨z, _⟩ | ⟨y, j, z1, z2, z3, z4, _⟩
      · exact Or.inl z
      · exact Or.inr ⟨y, j, z1, z2, z3, z4⟩
    rcases k with ⟨k, kk⟩ | ⟨k, kk⟩
    · rw [k] at m2
      exact ⟨Or.inl ⟨kk.trans LI33.symm, m2, hn, hv, _, x, by omega, b4, h22, e1⟩, hcM, Or.inl ⟨Or.inl (kk.trans LI33.symm), hv2, x, b4, e2, e3, e4⟩⟩
    · rw [k] at m2
      exact ⟨Or.inr (Or.inl ⟨kk.trans LI34.symm, m2, hn, hv, _, x, by omega, b4, h22, e1⟩), hcM, Or.inl ⟨Or.inr (kk.trans LI34.symm), hv2, x, b4, e2, e3, e4⟩⟩
  · rw [k0] at m2
    refine ⟨Or.inr (Or.inr (Or.inl ⟨k.trans LI35.symm, m2, ?_⟩)), hcM, Or.inr (Or.inl (k.trans LI35.symm))⟩
    rw [m3, if_pos (by omega)]
    exact hnm _ _ (v4 (by omega)).2 b1
  · obtain ⟨s1, s2⟩ := v7 (by omega)
    obtain ⟨d1, d2⟩ := cdA_slc hC s1 s2
    obtain ⟨e1, e2, e3, e4⟩ := bkRl_sD hb hM hh b6 d1 d2
    have hxM := e2.1
    rw [if_neg (by omega)] at m3
    rw [b3] at m4
    rw [k0] at m2
    exact ⟨Or.inr (Or.inr (Or.inr (Or.inl ⟨k.trans LI36.symm, m2, m3.trans m1e, Eq.trans m4 m1e, _, x, by omega, b5, m6 (by omega), e1⟩))), hcM, Or.inr (Or.inr (Or.inl ⟨k.trans LI36.symm, x, b5, e2, e3, e4⟩))⟩
  · obtain ⟨s1, s2⟩ := v7 (by omega)
    obtain ⟨d1, d2⟩ := cdA_slc hC s1 s2
    obtain ⟨e1, e2, e3, e4⟩ := bkRl_sD hb hM hh b5 d1 d2
    obtain ⟨w1, w2⟩ := v6 k0
    obtain ⟨y1, y2⟩ := cdA_slc hC w1 w2
    have hxM := e2.1
    rw [if_neg (by omega)] at m3
    rw [k0] at m2
    rw [c1] at y1
    obtain ⟨x1, x2⟩ := xR_sE (M := M) hp (by omega) hq hG hU ED e l 64 c'.2.2.1.1 (by omega) c5 c6 (cdA_l y1)
    have o1 := (cdA_1 (cdA_r y1)).1
    rw [c1, List.length_append] at y2
    simp only [List.length_cons, List.length_nil] at y2
    exact ⟨Or.inr (Or.inr (Or.inr (Or.inr ⟨k.trans LI37.symm, m2, m3.trans m1e, ⟨_, e, _, by omega, c4, m5 k0, x1, by omega, o1⟩, _, x, by omega, b4, m6 (by omega), e1⟩))), hcM, Or.inr (Or.inr (Or.inr ⟨k.trans LI37.symm, ⟨e, c4, x2⟩, x, b4, e2, e3, e4⟩))⟩
/-- clauses, one by one -/
theorem clsRl_at : ∀ (cs : List Nat) (qs : List qCl) (lo hi : Nat), clsRl t N I nn pr G F lo cs qs hi → cs.length = qs.length ∧ ∀ (j c : Nat), cs[j]? = some c → ∃ c' k, qs[j]? = some c' ∧ k ≤ hi ∧ clRl t N I nn pr G F k c c' := by
  intro cs
  induction cs with
  | nil =>
    intro qs lo hi h
    cases qs with
    | nil => exact ⟨rfl, fun j c hc => by simp at hc⟩
    | cons q qs => exact h.elim
  | cons c cs ih =>
    intro qs lo hi h
    cases qs with
    | nil => exact h.elim
    | cons q qs =>
      obtain ⟨k, h1, h2, h3⟩ := h
      obtain ⟨i1, i2⟩ := ih qs k hi h3
      have hk := (clsRl_ge _ _ _ _ h3).1
      refine ⟨by simp [i1], fun j c0 hc => ?_⟩
      cases j with
      | zero =>
        have e : c = c0 := by simpa using hc
        subst e
        exact ⟨q, k, rfl, hk, h2⟩
      | succ j => exact i2 j c0 (by simpa using hc)
theorem stsRl_at : ∀ (cs : List Nat) (qs : List qSt) (lo hi : Nat), stsRl t N I nn pr G F lo cs qs hi → cs.length = qs.length ∧ ∀ (j c : Nat), cs[j]? = some c → ∃ c' k, qs[j]? = some c' ∧ k ≤ hi ∧ stRl t N I nn pr G F k c c' := by
  intro cs
  induction cs with
  | nil =>
    intro qs lo hi h
    cases qs with
    | nil => exact ⟨rfl, fun j c hc => by simp at hc⟩
    | cons q qs => exact h.elim
  | cons c cs ih =>
    intro qs lo hi h
    cases qs with
    | nil => exact h.elim
    | cons q qs =>
      obtain ⟨k, h1, h2, h3⟩ := h
      obtain ⟨i1, i2⟩ := ih qs k hi h3
      have hk := (stsRl_ge _ _ _ _ h3).1
      refine ⟨by simp [i1], fun j c0 hc => ?_⟩
      cases j with
      | zero =>
        have e : c = c0 := by simpa using hc
        subst e
        exact ⟨q, k, rfl, hk, h2⟩
      | succ j => exact i2 j c0 (by simpa using hc)
theorem ltsR_at : ∀ (cs : List Nat) (qs : List Nat) (lo hi : Nat), ltsR t N I nn lo cs qs hi → cs.length = qs.length ∧ ∀ (j c : Nat), cs[j]? = some c → ∃ v, qs[j]? = some v ∧ nmA t N I nn (I 252 c) v ∧ KK t N (v + 2) = 27 ∧ I 253 c = tkNu t N (tpos t N (v + 2)) := by
  intro cs
  induction cs with
  | nil =>
    intro qs lo hi h
    cases qs with
    | nil => exact ⟨rfl, fun j c hc => by simp at hc⟩
    | cons q qs => exact h.elim
  | cons c cs ih =>
    intro qs lo hi h
    cases qs with
    | nil => exact h.elim
    | cons q qs =>
      obtain ⟨k1, k2, k3, k4, k5, k6, k7, k8⟩ := h
      obtain ⟨i1, i2⟩ := ih qs _ hi k8
      refine ⟨by simp [i1], fun j c0 hc => ?_⟩
      cases j with
      | zero =>
        have e : c = c0 := by simpa using hc
        subst e
        exact ⟨q, rfl, k4, k5, k6⟩
      | succ j => exact i2 j c0 (by simpa using hc)
theorem prsRl_at : ∀ (cs : List Nat) (qs : List qPr) (i lo hi : Nat), prsRl t N I nn F i lo cs qs hi → cs.length = qs.length ∧ ∀ (j c : Nat), cs[j]? = some c → ∃ c' k, qs[j]? = some c' ∧ k ≤ hi ∧ prRl t N I nn (min (i + j) 5) F k c c' := by
  intro cs
  induction cs with
  | nil =>
    intro qs i lo hi h
    cases qs with
    | nil => exact ⟨rfl, fun j c hc => by simp at hc⟩
    | cons q qs => exact h.elim
  | cons c cs ih =>
    intro qs i lo hi h
    cases qs with
    | nil => exact h.elim
    | cons q qs =>
      obtain ⟨k, h1, h2, h3⟩ := h
      obtain ⟨i1, i2⟩ := ih qs (i + 1) k hi h3
      have hk := (prsRl_gel _ _ _ _ _ h3).1
      refine ⟨by simp [i1], fun j c0 hc => ?_⟩
      cases j with
      | zero =>
        have e : c = c0 := by simpa using hc
        subst e
        exact ⟨q, k, rfl, hk, h2⟩
      | succ j =>
        obtain ⟨c', k', z1, z2, z3⟩ := i2 j c0 (by simpa using hc)
        refine ⟨c', k', by simpa using z1, z2, ?_⟩
        rw [show i + (j + 1) = i + 1 + j by omega]
        exact z3
end BCL
