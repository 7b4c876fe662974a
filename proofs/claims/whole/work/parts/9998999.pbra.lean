/-! the class's code is the reference's nodes: expressions -/
theorem m1e : mI 1 = (-1 : Int32) := by decide
theorem some_ap {β : Type} {l1 l2 : List β} {k : Nat} {x : β} (h : l1[k]? = some x) : (l1 ++ l2)[k]? = some x := by
  have hk : k < l1.length := by
    rcases Nat.lt_or_ge k l1.length with q | q
    · exact q
    · rw [List.getElem?_eq_none q] at h; cases h
  rw [List.getElem?_append_left hk]; exact h
theorem some_ap2 {β : Type} {l1 l2 : List β} {k : Nat} {x : β} (h : l2[k]? = some x) : (l1 ++ l2)[l1.length + k]? = some x := by
  rw [List.getElem?_append_right (by omega), show l1.length + k - l1.length = k by omega]; exact h
section BRX
variable (t : Nat → Int32) (N m pr : Nat) (F : List qPr) (V O Gc Ec : Nat → Int32)
/-- the code l stands at p, looked up -/
def cdA (p : Nat) (l : List oT) : Prop := ∀ k x, l[k]? = some x → O (p + k) = nI x.1 ∧ Gc (p + k) = lkA (eqY t N) F V x ∧ Ec (p + k) = lkE (eqY t N) F V x ∧ ukO (eqY t N) F x = none ∧ opV (KK t N) pr x ∧ x.2.2.2 ≤ m
end BRX
section BRY
variable {t : Nat → Int32} {N m pr : Nat} {F : List qPr} {V O Gc Ec : Nat → Int32} {I : Nat → Nat → Int32} {nn M : Nat}
theorem cdA_l {p : Nat} {l1 l2 : List oT} (h : cdA t N m pr F V O Gc Ec p (l1 ++ l2)) : cdA t N m pr F V O Gc Ec p l1 := fun k x hk => h k x (some_ap hk)
theorem cdA_r {p : Nat} {l1 l2 : List oT} (h : cdA t N m pr F V O Gc Ec p (l1 ++ l2)) : cdA t N m pr F V O Gc Ec (p + l1.length) l2 := fun k x hk => by
  have := h (l1.length + k) x (some_ap2 hk)
  rw [← Nat.add_assoc] at this
  exact this
theorem cdA_1 {p : Nat} {x : oT} {l : List oT} (h : cdA t N m pr F V O Gc Ec p (x :: l)) : O p = nI x.1 ∧ Gc p = lkA (eqY t N) F V x ∧ Ec p = lkE (eqY t N) F V x ∧ ukO (eqY t N) F x = none ∧ opV (KK t N) pr x ∧ x.2.2.2 ≤ m := h 0 x rfl
theorem fdV_s {q : qPr} {j : Nat} (hp : pr < 2 ^ 31) (hq : F[pr]? = some q) : fdVar (eqY t N) F (prO (.inl (nI pr))) j = q.2.1.findIdx? (fun y => eqY t N y j) := by
  unfold fdVar prO
  show (match F[ix (nI pr)]? with | some c => c.2.1.findIdx? (fun x => eqY t N x j) | none => none) = _
  rw [nI_clampx hp, hq]
theorem fdS_s {q : qPr} {j : Nat} (hp : pr < 2 ^ 31) (hq : F[pr]? = some q) : fdSta (eqY t N) F (prO (.inl (nI pr))) j = q.2.2.2.findIdx? (fun y => eqY t N y.1 j) := by
  unfold fdSta prO
  show (match F[ix (nI pr)]? with | some c => c.2.2.2.findIdx? (fun (x : qSt) => eqY t N x.1 j) | none => none) = _
  rw [nI_clampx hp, hq]
theorem fI_lt {β : Type} {f : β → Bool} {l : List β} {i : Nat} (h : l.findIdx? f = some i) : i < l.length := by
  obtain ⟨h1, _⟩ := List.findIdx?_eq_some_iff_getElem.mp h
  exact h1
/-- what an op that looks up a variable leaves -/
theorem lk_var {q : qPr} {op j : Nat} (ho : op = 1 ∨ op = 13) (hp : pr < 2 ^ 31) (hq : F[pr]? = some q) (hu : ukO (eqY t N) F (op, .inr j, .inl (nI pr), j) = none) : ∃ i, i < q.2.1.length ∧ q.2.1.findIdx? (fun y => eqY t N y j) = some i ∧ lkA (eqY t N) F V (op, .inr j, .inl (nI pr), j) = nI i := by
  have e : lkO (eqY t N) F (op, .inr j, .inl (nI pr), j) = some (q.2.1.findIdx? (fun y => eqY t N y j)) := by
    unfold lkO
    rw [if_pos ho]
    exact congrArg some (fdV_s hp hq)
  unfold ukO at hu
  rw [e] at hu
  cases hf : q.2.1.findIdx? (fun y => eqY t N y j) with
  | none => rw [hf] at hu; cases hu
  | some i =>
    refine ⟨i, fI_lt hf, rfl, ?_⟩
    unfold lkA
    rw [e, hf, if_neg (by show ¬ op = 19; omega)]
    rfl
theorem lk_no {op : Nat} {a c : oA} {tk : Nat} (h1 : op ≠ 1) (h2 : op ≠ 13) (h3 : op ≠ 22) (h4 : op ≠ 23) : lkA (eqY t N) F V (op, a, c, tk) = aV V a := by
  unfold lkA
  by_cases h : op = 19
  · rw [if_pos h]
  · rw [if_neg h]
    have : lkO (eqY t N) F (op, a, c, tk) = none := by
      unfold lkO
      rw [if_neg (by show ¬ (op = 1 ∨ op = 13); omega), if_neg h, if_neg h3, if_neg h4]
    rw [this]
theorem xR_sE {G : Int32 → Int32} {q : qPr} {lo : Nat} (hp : pr < 2 ^ 31) (hM : M ≤ 2 ^ 20) (hq : F[pr]? = some q) (hG : ∀ x j, nmA t N I nn x j → G x = inO (q.2.1.findIdx? (fun y => eqY t N y j))) (hU : ∀ j, j ≤ m → KK t N j = 27 → V j = tkNu t N (tpos t N j)) : ∀ (r e : Nat) (l : List oT) (s p : Nat), e < M → xR t N I nn pr lo r e l s → xLk G I r e → cdA t N m pr F V O Gc Ec p l → sE I O Gc q.2.1.length r p e (p + l.length) s ∧ xOK I M q.2.1.length r e := by
  intro r
  induction r with
  | zero => intro e l s p _ h; exact h.elim
  | succ r ih =>
    intro e l s p he hx hl hc
    obtain ⟨h0, hle, hx⟩ := hx
    obtain ⟨k1, k2, k3⟩ := hl
    rcases hx with ⟨a, j, b1, b2, b3⟩ | ⟨a, j, w, b1, b2, b3, b4, b5, b6⟩ | ⟨a, j, o, b1, b2⟩ | ⟨a, f, l1, tk, b1, b2, b3, b4⟩ | ⟨a, f, g, l1, l2, o, tk, c, mid, b1, b2, b3, b4, b5, b6, b7, b8, b9, b10, b11⟩
    · subst b1
      obtain ⟨c1, c2, c3, c4, c5, c6⟩ := cdA_1 hc
      refine ⟨⟨h0, Or.inl ⟨a.trans LI0.symm, c1, ?_, rfl⟩⟩, he, Or.inl (a.trans LI0.symm)⟩
      rw [c2, lk_no (by omega) (by omega) (by omega) (by omega), b3]
      exact hU j c6 b2
    · subst b1
      obtain ⟨c1, c2, c3, c4, c5, c6⟩ := cdA_1 hc
      obtain ⟨i, i1, i2, i3⟩ := lk_var (V := V) (Or.inl rfl) hp hq c4
      have e3 : I 253 e = nI i := by
        rw [k1 a, hG _ j ⟨b2, w, b3, b4, b5⟩, i2]; rfl
      exact ⟨⟨h0, Or.inr (Or.inl ⟨a.trans LI1.symm, c1, ⟨i, i1, e3, c2.trans i3⟩, rfl⟩)⟩, he, Or.inr (Or.inl ⟨a.trans LI1.symm, i, i1, e3⟩)⟩
    · subst b1
      obtain ⟨c1, c2, c3, c4, c5, c6⟩ := cdA_1 hc
      refine ⟨⟨h0, Or.inr (Or.inr (Or.inl ⟨a.trans LI2.symm, ?_, rfl⟩))⟩, he, Or.inr (Or.inr (Or.inl ⟨a.trans LI2.symm, ?_⟩))⟩
      · simp only at c1
        rcases b2 with ⟨z, y⟩ | ⟨z, y⟩ | ⟨z, y⟩ | ⟨z, y⟩ | ⟨z, y⟩ <;> subst z
        · exact Or.inl ⟨y.trans LI23.symm, c1⟩
        · exact Or.inr (Or.inl ⟨y.trans LI19.symm, c1⟩)
        · exact Or.inr (Or.inr (Or.inl ⟨y.trans LI18.symm, c1⟩))
        · exact Or.inr (Or.inr (Or.inr (Or.inl ⟨y.trans LI20.symm, c1⟩)))
        · exact Or.inr (Or.inr (Or.inr (Or.inr ⟨y.trans LI21.symm, c1⟩)))
      · rcases b2 with ⟨z, y⟩ | ⟨z, y⟩ | ⟨z, y⟩ | ⟨z, y⟩ | ⟨z, y⟩
        · exact Or.inr (Or.inr (Or.inr (Or.inr (y.trans LI23.symm))))
        · exact Or.inr (Or.inl (y.trans LI19.symm))
        · exact Or.inl (y.trans LI18.symm)
        · exact Or.inr (Or.inr (Or.inl (y.trans LI20.symm)))
        · exact Or.inr (Or.inr (Or.inr (Or.inl (y.trans LI21.symm))))
    · subst b3
      have k2' := k2 a
      rw [b2, nI_clampx (by omega)] at k2'
      obtain ⟨i1, i2⟩ := ih f l1 s p (by omega) b4 k2' (cdA_l hc)
      have c1 := (cdA_1 (cdA_r hc)).1
      refine ⟨⟨h0, Or.inr (Or.inr (Or.inr (Or.inl ⟨a.trans LI3.symm, f, p + l1.length, by omega, b2, i1, c1, ?_⟩)))⟩, he, Or.inr (Or.inr (Or.inr (Or.inl ⟨a.trans LI3.symm, f, b2, i2⟩)))⟩
      rw [List.length_append]; rfl
    · subst b6
      have k3' := k3 a
      rw [b3, b4, nI_clampx (by omega), nI_clampx (by omega)] at k3'
      have hc1 := cdA_l hc
      obtain ⟨i1, i2⟩ := ih f l1 s p (by omega) b7 k3'.1 (cdA_l hc1)
      obtain ⟨j1, j2⟩ := ih g l2 (s - 1) _ (by omega) b8 k3'.2 (cdA_r hc1)
      have c1 := (cdA_1 (cdA_r hc)).1
      rw [List.length_append, ← Nat.add_assoc] at c1
      refine ⟨⟨h0, Or.inr (Or.inr (Or.inr (Or.inr ⟨a.trans LI4.symm, f, g, p + l1.length, p + l1.length + l2.length, o, by omega, by omega, b3, b4, i1, j1, c1, ?_, ?_⟩)))⟩, he, Or.inr (Or.inr (Or.inr (Or.inr ⟨a.trans LI4.symm, ?_, f, g, b3, b4, i2, j2⟩)))⟩
      · rcases b9 with ⟨z, y⟩ | ⟨z, y⟩ | ⟨z, y⟩ | ⟨z, y⟩ | ⟨z, y⟩ <;> subst z
        · exact Or.inl ⟨b5.trans LI43.symm, y⟩
        · exact Or.inr (Or.inl ⟨b5.trans LI45.symm, y⟩)
        · exact Or.inr (Or.inr (Or.inl ⟨b5.trans LI42.symm, y⟩))
        · exact Or.inr (Or.inr (Or.inr (Or.inl ⟨b5.trans LI300.symm, y⟩)))
        · exact Or.inr (Or.inr (Or.inr (Or.inr ⟨b5.trans LI60.symm, y⟩)))
      · rw [List.length_append, List.length_append]; simp only [List.length_cons, List.length_nil]; omega
      · rcases b9 with ⟨z, y⟩ | ⟨z, y⟩ | ⟨z, y⟩ | ⟨z, y⟩ | ⟨z, y⟩ <;> subst z
        · exact Or.inr (Or.inl (b5.trans LI43.symm))
        · exact Or.inr (Or.inr (Or.inl (b5.trans LI45.symm)))
        · exact Or.inl (b5.trans LI42.symm)
        · exact Or.inr (Or.inr (Or.inr (Or.inr (b5.trans LI300.symm))))
        · exact Or.inr (Or.inr (Or.inr (Or.inl (b5.trans LI60.symm))))
end BRY
