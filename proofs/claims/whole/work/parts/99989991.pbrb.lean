/-! the class's code is the reference's nodes: acts and blocks -/
section BRZ
variable {t : Nat → Int32} {N m pr : Nat} {F : List qPr} {V O Gc Ec : Nat → Int32} {I : Nat → Nat → Int32} {nn M : Nat} {α : Type} {cN rN : Int32 → α} {G : Int32 → Int32} {q : qPr}
theorem chl_chn : ∀ (as : List Nat) (r : Nat) (x : Int32), as.length ≤ r → (∀ a, a ∈ as → a < 2 ^ 31) → chn I x as → chl I r x = as := by
  intro as
  induction as with
  | nil =>
    intro r x _ _ h
    cases r with
    | zero => rfl
    | succ r =>
      have hx : x = mI 1 := h
      show (if x < 0 then [] else ix x :: chl I r (I 255 (ix x))) = []
      rw [hx, if_pos (by decide)]
  | cons a as ih =>
    intro r x hr ha h
    cases r with
    | zero => simp at hr
    | succ r =>
      obtain ⟨h1, h2⟩ := h
      have := ha a (List.mem_cons_self ..)
      show (if x < 0 then [] else ix x :: chl I r (I 255 (ix x))) = a :: as
      rw [h1, LI0, if_neg (by rw [nI_ltI (by omega) (by omega)]; omega), nI_clampx (by omega), ih r _ (by simpa using hr) (fun b hb => ha b (List.mem_cons_of_mem _ hb)) h2]
theorem chOK_chn : ∀ (as : List Nat) (r : Nat) (x : Int32), as.length < r → (∀ a, a ∈ as → a < M) → chn I x as → chOK I M r x := by
  intro as
  induction as with
  | nil =>
    intro r x hr _ h
    cases r with
    | zero => cases hr
    | succ r => exact Or.inl (Eq.trans h m1e)
  | cons a as ih =>
    intro r x hr ha h
    cases r with
    | zero => cases hr
    | succ r =>
      exact Or.inr ⟨a, h.1, ha a (List.mem_cons_self ..), ih r _ (by simpa using hr) (fun b hb => ha b (List.mem_cons_of_mem _ hb)) h.2⟩
theorem bRl_len : ∀ (as : List Nat) (r g lo : Nat) (L : Nat) (l : List oT) (hi : Nat), lo ≤ hi → (∀ a, a ∈ as → a < hi) → bRl t N I nn pr G F r g lo as L l → as.length + lo ≤ hi := by
  intro as
  induction as with
  | nil => intro r g lo L l hi h1 _ _; simpa using h1
  | cons a as ih =>
    intro r g lo L l hi h1 ha h
    cases r with
    | zero => exact h.elim
    | succ r =>
      obtain ⟨l1, l2, _, h2, h3, _⟩ := h
      have := ha a (List.mem_cons_self ..)
      have := ih r g (a + 1) _ l2 hi (by omega) (fun b hb => ha b (List.mem_cons_of_mem _ hb)) h3
      simp only [List.length_cons]
      omega
/-- what there is to read acts by -/
def bEn (t : Nat → Int32) (N m pr : Nat) (F : List qPr) (V : Nat → Int32) (I : Nat → Nat → Int32) (nn : Nat) (cN rN : Int32 → α) (G : Int32 → Int32) (q : qPr) : Prop := pr < 2 ^ 31 ∧ N ≤ 2000 ∧ F[pr]? = some q ∧ (∀ x j, nmA t N I nn x j → G x = inO (q.2.1.findIdx? (fun y => eqY t N y j))) ∧ (∀ j, j ≤ m → KK t N j = 27 → V j = tkNu t N (tpos t N j)) ∧ ∀ j x, j ≤ m → nmA t N I nn x j → cN (V j) = rN x
theorem aRl_sA (hb : bEn t N m pr F V I nn cN rN G q) (hM : M ≤ 2 ^ 18) {lo a p : Nat} {l : List oT} (ha : a < M) (hx : aRl t N I nn pr G F lo a l) (hc : cdA t N m pr F V O Gc Ec p l) : sA cN rN I O Gc Ec q.2.1.length q.2.2.2.length F.length p a (p + l.length) ∧ vA I M q.2.1.length q.2.2.2.length F.length a := by
  obtain ⟨hp, hN, hq, hG, hU, hnm⟩ := hb
  have hE : ∀ (e : Nat) (l1 : List oT) (p : Nat), e < a → xR t N I nn pr lo ED e l1 64 → xLk G I ED e → cdA t N m pr F V O Gc Ec p l1 → sE I O Gc q.2.1.length ED p e (p + l1.length) 64 ∧ xOK I M q.2.1.length ED e := fun e l1 p he h1 h2 h3 => xR_sE hp (by omega) hq hG hU ED e l1 64 p (by omega) h1 h2 h3
  rcases hx with ⟨k, j, e, l1, b1, b2, ⟨i, b3, b3'⟩, b4, b5, b6, b7⟩ | ⟨k, sg, jt, op, l1, b1, b2, b3, b4⟩ | ⟨k, j, e, tk, l1, b1, b2, b3, b4, b5, b6⟩ | ⟨k, k0, k1, j, b1, b2, b3, b4⟩ | ⟨k, tk, b1⟩ | ⟨k, e, tk, l1, b1, b2, b3, b4, b5⟩
  · subst b1
    obtain ⟨i1, i2⟩ := hE e l1 p b4 b6 b7 (cdA_l hc)
    obtain ⟨c1, c2, c3, c4, c5, c6⟩ := cdA_1 (cdA_r hc)
    obtain ⟨i', j1, j2, j3⟩ := lk_var (V := V) (Or.inr rfl) hp hq c4
    have hi : i' = i := by
      have e1 : fdVar (eqY t N) F pr j = q.2.1.findIdx? (fun y => eqY t N y j) := by unfold fdVar; rw [hq]
      rw [e1, j2] at b3
      cases b3; rfl
    subst hi
    refine ⟨Or.inl ⟨k.trans LI10.symm, p + l1.length, i', e, by omega, b5, i1, c1, c2.trans j3, b3', j1, ?_⟩, ha, Or.inl ⟨k.trans LI10.symm, e, i', b5, i2, b3', j1⟩⟩
    rw [List.length_append]; rfl
  · subst b1
    obtain ⟨c1, c2, c3, c4, c5, c6⟩ := cdA_1 (cdA_r hc)
    have c5' := c5.2.2.2.2
    simp only at c1 c5' c6
    have hop : 14 ≤ op ∧ op ≤ 19 := by
      rcases b4 with ⟨z, _⟩ | ⟨_, ⟨z, _⟩ | ⟨z, _⟩ | ⟨z, _⟩ | ⟨z, _⟩ | ⟨z, _⟩⟩ <;> omega
    obtain ⟨t1, y1, y2, y3⟩ := c5' (by omega)
    have hsg : sg = t1 := Sum.inr.inj y1
    subst hsg
    have hn : cN (Gc (p + l1.length)) = rN (I 252 a) := by
      rw [c2, lk_no (by omega) (by omega) (by omega) (by omega)]
      exact hnm sg _ (by omega) b2
    have hlen : p + (l1 ++ [(op, Sum.inr sg, Sum.inr jt, jt)] : List oT).length = p + l1.length + 1 := by rw [List.length_append]; rfl
    have hE1 : ((I 253 a = -1 ∧ O p = nI 0 ∧ Gc p = 0 ∧ p + l1.length = p + 1) ∨ ∃ e, e < 2 ^ 20 ∧ I 253 a = nI e ∧ sE I O Gc q.2.1.length ED p e (p + l1.length) 64) ∧ (I 253 a = -1 ∨ ∃ e, I 253 a = nI e ∧ xOK I M q.2.1.length ED e) := by
      rcases b3 with ⟨b3, tk, b3'⟩ | ⟨e, g1, g2, g3, g4⟩
      · subst b3'
        obtain ⟨d1, d2, d3, d4, d5, d6⟩ := cdA_1 (cdA_l hc)
        refine ⟨Or.inl ⟨b3.trans m1e, d1, ?_, rfl⟩, Or.inl (b3.trans m1e)⟩
        rw [d2]
        show lkA (eqY t N) F V (0, _, _, _) = _
        rw [lk_no (by omega) (by omega) (by omega) (by omega)]
        rfl
      · obtain ⟨i1, i2⟩ := hE e l1 p g1 g3 g4 (cdA_l hc)
        exact ⟨Or.inr ⟨e, by omega, g2, i1⟩, Or.inr ⟨e, g2, i2⟩⟩
    have hpos := tpos_N (t := t) (N := N) (j := jt)
    have hE2 : ((∃ y t, y < 2 ^ 20 ∧ I 258 a = nI y ∧ t < F.length ∧ I 257 a = nI t ∧ Ec (p + l1.length) = nI t ∧ O (p + l1.length) = nI 19) ∨
     (I 258 a = -1 ∧ ((I 254 a = 22 ∧ O (p + l1.length) = nI 14) ∨ (I 254 a = 18 ∧ O (p + l1.length) = nI 15) ∨ (I 254 a = 19 ∧ O (p + l1.length) = nI 16) ∨ (I 254 a = 20 ∧ O (p + l1.length) = nI 17) ∨ (I 254 a = 21 ∧ O (p + l1.length) = nI 18)))) := by
      rcases b4 with ⟨z, z1, i, z2, z3⟩ | ⟨z1, z2⟩
      · subst z
        refine Or.inl ⟨_, i, by omega, z1, fI_lt z2, z3, ?_, c1⟩
        rw [c3]
        unfold lkE
        rw [if_pos rfl]
        have : lkO (eqY t N) F (19, .inr sg, .inr jt, jt) = some (some i) := by
          unfold lkO
          rw [if_neg (by show ¬ (19 = 1 ∨ 19 = 13); omega), if_pos rfl]
          exact congrArg some z2
        rw [this]
        rfl
      · refine Or.inr ⟨z1.trans m1e, ?_⟩
        rcases z2 with ⟨z, y⟩ | ⟨z, y⟩ | ⟨z, y⟩ | ⟨z, y⟩ | ⟨z, y⟩ <;> subst z
        · exact Or.inl ⟨y.trans LI22.symm, c1⟩
        · exact Or.inr (Or.inl ⟨y.trans LI18.symm, c1⟩)
        · exact Or.inr (Or.inr (Or.inl ⟨y.trans LI19.symm, c1⟩))
        · exact Or.inr (Or.inr (Or.inr (Or.inl ⟨y.trans LI20.symm, c1⟩)))
        · exact Or.inr (Or.inr (Or.inr (Or.inr ⟨y.trans LI21.symm, c1⟩)))
    refine ⟨Or.inr (Or.inl ⟨k.trans LI11.symm, p + l1.length, hE1.1, hn, hlen, hE2⟩), ha, Or.inr (Or.inl ⟨k.trans LI11.symm, hE1.2, ?_⟩)⟩
    rcases hE2 with ⟨y, t, z1, z2, z3, z4, _, _⟩ | ⟨z1, z2⟩
    · exact Or.inl ⟨y, t, z1, z2, z3, z4⟩
    · refine Or.inr ⟨z1, ?_⟩
      rcases z2 with ⟨z, _⟩ | ⟨z, _⟩ | ⟨z, _⟩ | ⟨z, _⟩ | ⟨z, _⟩
      · exact Or.inl z
      · exact Or.inr (Or.inl z)
      · exact Or.inr (Or.inr (Or.inl z))
      · exact Or.inr (Or.inr (Or.inr (Or.inl z)))
      · exact Or.inr (Or.inr (Or.inr (Or.inr z)))
  · subst b1
    obtain ⟨i1, i2⟩ := hE e l1 p b3 b5 b6 (cdA_l hc)
    obtain ⟨c1, c2, c3, c4, c5, c6⟩ := cdA_1 (cdA_r hc)
    obtain ⟨t1, y1, y2, y3⟩ := c5.2.2.2.2 (by show 14 ≤ 20 ∧ 20 ≤ 21; omega)
    have hsg : j = t1 := Sum.inr.inj y1
    subst hsg
    simp only at y3 c6
    refine ⟨Or.inr (Or.inr (Or.inl ⟨k.trans LI12.symm, p + l1.length, e, by omega, b4, i1, c1, ?_, ?_⟩)), ha, Or.inr (Or.inr (Or.inl ⟨k.trans LI12.symm, e, b4, i2⟩))⟩
    · rw [c2, lk_no (by omega) (by omega) (by omega) (by omega)]
      exact hnm j _ (by omega) b2
    · rw [List.length_append]; rfl
  · subst b1
    obtain ⟨c1, c2, c3, c4, c5, c6⟩ := cdA_1 hc
    rcases k0 with z | z | z <;> subst z
    · refine ⟨Or.inr (Or.inr (Or.inr (Or.inl ⟨k1.trans LI13.symm, c1, ?_, rfl⟩))), ha, Or.inr (Or.inr (Or.inr (Or.inl (k1.trans LI13.symm))))⟩
      rw [c2, lk_no (by omega) (by omega) (by omega) (by omega)]
      exact hnm j _ c6 b2
    · obtain ⟨i, z2, z3⟩ := b3 rfl
      have hg : Gc p = nI i := by
        rw [c2]
        unfold lkA
        have : lkO (eqY t N) F (14 + 8, .inr j, .inl (nI pr), j) = some (some i) := by
          unfold lkO
          rw [if_neg (by show ¬ (14 + 8 = 1 ∨ 14 + 8 = 13); omega), if_neg (by show ¬ (14 + 8 = 19); omega), if_pos rfl]
          exact congrArg some z2
        rw [this, if_neg (by show ¬ (14 + 8 = 19); omega)]
        rfl
      exact ⟨Or.inr (Or.inr (Or.inr (Or.inr (Or.inl ⟨k1.trans LI14.symm, c1, ⟨i, fI_lt z2, z3, hg⟩, rfl⟩)))), ha, Or.inr (Or.inr (Or.inr (Or.inr (Or.inl ⟨k1.trans LI14.symm, i, fI_lt z2, z3⟩))))⟩
    · obtain ⟨i, z2, z3⟩ := b4 rfl
      have e1 : fdSta (eqY t N) F pr j = q.2.2.2.findIdx? (fun y => eqY t N y.1 j) := by unfold fdSta; rw [hq]
      have hi : i < q.2.2.2.length := by rw [e1] at z2; exact fI_lt z2
      have hg : Gc p = nI i := by
        rw [c2]
        unfold lkA
        have : lkO (eqY t N) F (15 + 8, .inr j, .inl (nI pr), j) = some (some i) := by
          unfold lkO
          rw [if_neg (by show ¬ (15 + 8 = 1 ∨ 15 + 8 = 13); omega), if_neg (by show ¬ (15 + 8 = 19); omega), if_neg (by show ¬ (15 + 8 = 22); omega), if_pos rfl]
          refine congrArg some ?_
          rw [fdS_s hp hq]
          rw [e1] at z2
          exact z2
        rw [this, if_neg (by show ¬ (15 + 8 = 19); omega)]
        rfl
      exact ⟨Or.inr (Or.inr (Or.inr (Or.inr (Or.inr (Or.inl ⟨k1.trans LI15.symm, c1, ⟨i, hi, z3, hg⟩, rfl⟩))))), ha, Or.inr (Or.inr (Or.inr (Or.inr (Or.inr (Or.inl ⟨k1.trans LI15.symm, i, hi, z3⟩)))))⟩
  · subst b1
    obtain ⟨c1, c2, c3, c4, c5, c6⟩ := cdA_1 hc
    exact ⟨Or.inr (Or.inr (Or.inr (Or.inr (Or.inr (Or.inr (Or.inl ⟨k.trans LI16.symm, c1, rfl⟩)))))), ha, Or.inr (Or.inr (Or.inr (Or.inr (Or.inr (Or.inr (Or.inl (k.trans LI16.symm)))))))⟩
  · subst b1
    obtain ⟨i1, i2⟩ := hE e l1 p b2 b4 b5 (cdA_l hc)
    obtain ⟨c1, c2, c3, c4, c5, c6⟩ := cdA_1 (cdA_r hc)
    refine ⟨Or.inr (Or.inr (Or.inr (Or.inr (Or.inr (Or.inr (Or.inr ⟨k.trans LI17.symm, p + l1.length, e, by omega, b3, i1, c1, ?_⟩)))))), ha, Or.inr (Or.inr (Or.inr (Or.inr (Or.inr (Or.inr (Or.inr ⟨k.trans LI17.symm, e, b3, i2⟩))))))⟩
    rw [List.length_append]; rfl
end BRZ
