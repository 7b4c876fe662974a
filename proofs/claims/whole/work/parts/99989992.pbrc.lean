/-! the class's code is the reference's nodes: blocks -/
section BSB
variable {t : Nat → Int32} {N m pr : Nat} {F : List qPr} {V O Gc Ec : Nat → Int32} {I : Nat → Nat → Int32} {nn M : Nat} {α : Type} {cN rN : Int32 → α} {G : Int32 → Int32} {q : qPr}
theorem acts_chn {f : Nat} {as : List Nat} (hl : as.length < 2000) (hM : M ≤ 2 ^ 18) (ha : ∀ a, a ∈ as → a < M) (h : chn I (I 252 f) as) : acts I f = as := chl_chn as 2000 _ (by omega) (fun a hx => by have := ha a hx; omega) h
theorem bRl_sB (hb : bEn t N m pr F V I nn cN rN G q) (hM : M ≤ 2000) : ∀ (r g lo : Nat) (as : List Nat) (L : Nat) (l : List oT), (∀ a, a ∈ as → a < M) → bRl t N I nn pr G F r g lo as L l → cdA t N m pr F V O Gc Ec L l → sB cN rN I O Gc Ec q.2.1.length q.2.2.2.length F.length r L as (L + l.length) ∧ vB I M q.2.1.length q.2.2.2.length F.length r as ∧ nB I g r as := by
  intro r
  induction r with
  | zero => intro g lo as L l _ h; exact h.elim
  | succ r ih =>
    intro g lo as L l has hx hc
    cases as with
    | nil =>
      have hl : l = [] := hx
      subst hl
      exact ⟨rfl, trivial, trivial⟩
    | cons a as =>
      obtain ⟨l1, l2, h1, h2, h3, h4⟩ := hx
      subst h1
      have ha := has a (List.mem_cons_self ..)
      obtain ⟨i1, i2, i3⟩ := ih g (a + 1) as (L + l1.length) l2 (fun x hx => has x (List.mem_cons_of_mem _ hx)) h3 (cdA_r hc)
      rw [Nat.add_assoc, ← List.length_append] at i1
      rcases h4 with h4 | ⟨k, g', e, f, le, lb, tk, as1, b1, b2, b3, ⟨b4, b4'⟩, b5, b6, b7, b8, b9, b10, b11, b12⟩
      · obtain ⟨j1, j2⟩ := aRl_sA hb (by omega) ha h4 (cdA_l hc)
        refine ⟨⟨L + l1.length, i1, Or.inl j1⟩, ⟨i2, Or.inl j2⟩, i3, fun z => ?_⟩
        exfalso
        rcases j2.2 with ⟨y, _⟩ | ⟨y, _⟩ | ⟨y, _⟩ | y | ⟨y, _⟩ | ⟨y, _⟩ | y | ⟨y, _⟩ <;> (rw [y] at z; exact absurd z (by decide))
      · have hc1 := cdA_l hc
        have hlen1 : as1.length < 2000 := by
          have := bRl_len as1 _ _ _ _ _ M (by omega) (fun x hx => by have := b10 x hx; omega) b11
          omega
        have ac1 : acts I f = as1 := acts_chn (M := M) hlen1 (by omega) (fun x hx => by have := b10 x hx; omega) b9
        have hk1 : vK I M f := ⟨by omega, chOK_chn as1 2000 _ hlen1 (fun x hx => by have := b10 x hx; omega) b9⟩
        have hxi : ix (I 253 a) = f := by rw [b7]; exact nI_clampx (by omega)
        rcases b12 with ⟨c1, c2⟩ | ⟨w, lc, tk2, as2, c1, c2, c3, c4, c5, c6, c7, c8, c9⟩
        · subst c2
          have hce := cdA_l (cdA_l hc1)
          have hcj := cdA_1 (cdA_r (cdA_l hc1))
          have hcb := cdA_r hc1
          rw [List.length_append, ← Nat.add_assoc] at hcb
          obtain ⟨e1, e2⟩ := xR_sE (M := M) hb.1 (by omega) hb.2.2.1 hb.2.2.2.1 hb.2.2.2.2.1 ED e le 64 L (by omega) b4 b4' hce
          obtain ⟨f1, f2, f3⟩ := ih g' (f + 1) as1 _ lb (fun x hx => by have := b10 x hx; omega) b11 hcb
          have hg : Gc (L + le.length) = nI (L + le.length + 1 + lb.length) := by
            rw [hcj.2.1, lk_no (by omega) (by omega) (by omega) (by omega)]; rfl
          refine ⟨⟨L + (le ++ [(26, Sum.inl (nI (L + le.length + 1 + lb.length)), Sum.inl (nI pr), tk)] ++ lb : List oT).length, i1, Or.inr ⟨k.trans LI18.symm, L + le.length, L + le.length + 1 + lb.length, e, f, by omega, by omega, b3, b7, e1, hcj.1, by rw [ac1]; exact f1, Or.inl ⟨c1.trans m1e, hg, ?_⟩⟩⟩, ⟨i2, Or.inr ⟨ha, k.trans LI18.symm, e, f, b3, e2, b7, hk1, by rw [ac1]; exact f2, Or.inl (c1.trans m1e)⟩⟩, i3, fun _ => ⟨g', b1, by rw [hxi, ac1]; exact f3, fun z => absurd (by rw [c1]; decide) z⟩⟩
          rw [List.length_append, List.length_append]; simp only [List.length_cons, List.length_nil]; omega
        · subst c9
          have hce := cdA_l (cdA_l (cdA_l (cdA_l hc1)))
          have hcj := cdA_1 (cdA_r (cdA_l (cdA_l (cdA_l hc1))))
          have hcb := cdA_r (cdA_l (cdA_l hc1))
          have hcj2 := cdA_1 (cdA_r (cdA_l hc1))
          have hcc := cdA_r hc1
          simp only [List.length_append, List.length_cons, List.length_nil] at hcb hcj2 hcc
          rw [show L + (le.length + (0 + 1)) = L + le.length + 1 by omega] at hcb
          rw [show L + (le.length + (0 + 1) + lb.length) = L + le.length + 1 + lb.length by omega] at hcj2
          rw [show L + (le.length + (0 + 1) + lb.length + (0 + 1)) = L + le.length + 1 + lb.length + 1 by omega] at hcc
          obtain ⟨e1, e2⟩ := xR_sE (M := M) hb.1 (by omega) hb.2.2.1 hb.2.2.2.1 hb.2.2.2.2.1 ED e le 64 L (by omega) b4 b4' hce
          obtain ⟨f1, f2, f3⟩ := ih g' (f + 1) as1 _ lb (fun x hx => by have := b10 x hx; omega) b11 hcb
          obtain ⟨d1, d2, d3⟩ := ih g' (w + 1) as2 _ lc (fun x hx => by have := c7 x hx; omega) c8 hcc
          have hlen2 : as2.length < 2000 := by
            have := bRl_len as2 _ _ _ _ _ M (by omega) (fun x hx => by have := c7 x hx; omega) c8
            omega
          have ac2 : acts I w = as2 := acts_chn (M := M) hlen2 (by omega) (fun x hx => by have := c7 x hx; omega) c6
          have hk2 : vK I M w := ⟨by omega, chOK_chn as2 2000 _ hlen2 (fun x hx => by have := c7 x hx; omega) c6⟩
          have hxi2 : ix (I 254 a) = w := by rw [c1]; exact nI_clampx (by omega)
          have hg : Gc (L + le.length) = nI (L + le.length + 1 + lb.length + 1) := by
            rw [hcj.2.1, lk_no (by omega) (by omega) (by omega) (by omega)]; rfl
          have hg2 : Gc (L + le.length + 1 + lb.length) = nI (L + le.length + 1 + lb.length + 1 + lc.length) := by
            rw [hcj2.2.1, lk_no (by omega) (by omega) (by omega) (by omega)]; rfl
          have hm : L + (le ++ [(26, Sum.inl (nI (L + le.length + 1 + lb.length + 1)), Sum.inl (nI pr), tk)] ++ lb ++ [(27, Sum.inl (nI (L + le.length + 1 + lb.length + 1 + lc.length)), Sum.inl (nI pr), tk2)] ++ lc : List oT).length = L + le.length + 1 + lb.length + 1 + lc.length := by
            simp only [List.length_append, List.length_cons, List.length_nil]; omega
          refine ⟨⟨_, i1, Or.inr ⟨k.trans LI18.symm, L + le.length, L + le.length + 1 + lb.length, e, f, by omega, by omega, b3, b7, e1, hcj.1, by rw [ac1]; exact f1, Or.inr ⟨w, by omega, c1, hcj2.1, hg, ?_, ?_⟩⟩⟩, ⟨i2, Or.inr ⟨ha, k.trans LI18.symm, e, f, b3, e2, b7, hk1, by rw [ac1]; exact f2, Or.inr ⟨w, c1, hk2, by rw [ac2]; exact d2⟩⟩⟩, i3, fun _ => ⟨g', b1, by rw [hxi, ac1]; exact f3, fun _ => by rw [hxi2, ac2]; exact d3⟩⟩
          · rw [ac2, hm]; exact d1
          · rw [hm]; exact hg2
theorem nB_mono : ∀ (r g g' : Nat) (as : List Nat), g ≤ g' → nB I g r as → nB I g' r as := by
  intro r
  induction r with
  | zero => intro g g' as _ h; exact h
  | succ r ih =>
    intro g g' as hg h
    cases as with
    | nil => trivial
    | cons a as =>
      obtain ⟨h1, h2⟩ := h
      refine ⟨ih g g' as hg h1, fun z => ?_⟩
      obtain ⟨g1, e, h3, h4⟩ := h2 z
      exact ⟨g' - 1, by omega, ih g1 _ _ (by omega) h3, fun y => ih g1 _ _ (by omega) (h4 y)⟩
/-- a body -/
theorem bkRl_sD (hb : bEn t N m pr F V I nn cN rN G q) (hM : M ≤ 2000) {hi x L : Nat} {o : Nat × List oT} (hh : hi ≤ M) (hx : bkRl t N I nn pr G F hi x o) (hc : cdA t N m pr F V O Gc Ec o.1 o.2) (hL : o.1 + o.2.length ≤ L) : sD cN rN I O Gc Ec q.2.1.length q.2.2.2.length F.length L o.1 x ∧ vK I M x ∧ vB I M q.2.1.length q.2.2.2.length F.length RD (acts I x) ∧ nB I 9 RD (acts I x) := by
  obtain ⟨h1, h2, as, l, tk, h3, h4, h5, h6⟩ := hx
  have hlen : as.length < 2000 := by
    have := bRl_len as _ _ _ _ _ hi (by omega) h5 h6
    omega
  have ac : acts I x = as := acts_chn (M := M) hlen (by omega) (fun y hy => by have := h5 y hy; omega) h4
  rw [h3] at hc
  obtain ⟨i1, i2, i3⟩ := bRl_sB hb hM _ _ _ as o.1 l (fun y hy => by have := h5 y hy; omega) h6 (cdA_l hc)
  have c1 := (cdA_1 (cdA_r hc)).1
  rw [h3, List.length_append] at hL
  simp only [List.length_cons, List.length_nil] at hL
  refine ⟨⟨o.1 + l.length, by rw [ac]; exact i1, by omega, c1⟩, ⟨by omega, chOK_chn as 2000 _ hlen (fun y hy => by have := h5 y hy; omega) h4⟩, by rw [ac]; exact i2, by rw [ac]; exact nB_mono _ 7 9 _ (by omega) i3⟩
end BSB
