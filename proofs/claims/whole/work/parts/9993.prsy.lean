/-! the reference reads all -/
section RSY
variable {A : Nat → Nat} {d b : Nat} {h : Nat → Option jC} {J : Nat → Nat → Int64} {R : Nat → Nat → Nat} {t : Nat → Int32} {N m B0 M0 : Nat}
theorem prR_st {I I' : Nat → Nat → Int32} {nn nn' pr hi p : Nat} {q : qPr} (hf : ∀ k i, 251 ≤ k → k ≤ 258 → p ≤ i → i < hi → ¬ (k = 255 ∧ i = p) → I' k i = I k i) (hn : ∀ u, u < nn → rnm I' u = rnm I u) (hnn : nn ≤ nn') (h : prR t N I nn pr hi p q) : prR t N I' nn' pr hi p q := by
  obtain ⟨h1, h2, h3, h4, h5, h6, h7, ls, x, ss, k, a1, a2, a3, a4, a6, a5⟩ := h
  obtain ⟨g1, g2⟩ := ltsR_ge _ _ _ _ a2
  obtain ⟨u1, u3⟩ := stsR_ge _ _ _ _ a5
  have a41 := a4.1
  have f : ∀ c, 251 ≤ c → c ≤ 258 → c ≠ 255 → I' c p = I c p := fun c e1 e2 e3 => hf c p e1 e2 (Nat.le_refl _) h1 (by omega)
  refine ⟨h1, (f 251 (by omega) (by omega) (by omega)).trans h2, ?_, (f 256 (by omega) (by omega) (by omega)).trans h4, h5, (f 257 (by omega) (by omega) (by omega)).trans h6, h7, ls, x, ss, k, ?_, ?_, (f 258 (by omega) (by omega) (by omega)).trans a3, ?_, ?_, ?_⟩
  · rw [f 252 (by omega) (by omega) (by omega)]; exact nmA_st hn hnn h3
  · rw [f 253 (by omega) (by omega) (by omega)]
    exact chn_st ls _ (fun a ha => by have := g2 a ha; exact hf 255 a (by omega) (by omega) (by omega) (by omega) (by omega)) a1
  · exact ltsR_st ls _ _ _ (fun c i e1 e2 e3 e4 e5 => hf c i e1 e2 (by omega) (by omega) (by omega)) hn hnn a2
  · exact bkR_st (lo := x) (fun c i e1 e2 e3 e4 => hf c i e1 e2 (by omega) (by omega) (by omega)) hn hnn (Nat.le_refl _) (Nat.le_refl _) a4
  · rw [f 254 (by omega) (by omega) (by omega)]
    exact chn_st ss _ (fun a ha => by have := u3 a ha; exact hf 255 a (by omega) (by omega) (by omega) (by omega) (by omega)) a6
  · exact stsR_st ss _ _ _ (fun c i e1 e2 e3 e4 e5 => hf c i e1 e2 (by omega) e4 (by omega)) hn hnn a5
/-- the processes from number i on -/
def prsR (t : Nat → Int32) (N : Nat) (I : Nat → Nat → Int32) (nn : Nat) : Nat → Nat → List Nat → List qPr → Nat → Prop
  | _, lo, [], [], hi => lo ≤ hi
  | i, lo, p :: ps, q :: qs, hi => ∃ k, lo ≤ p ∧ prR t N I nn (min i 5) k p q ∧ prsR t N I nn (i + 1) k ps qs hi
  | _, _, _, _, _ => False
theorem prsR_ge {I : Nat → Nat → Int32} {nn : Nat} : ∀ (ss : List Nat) (qs : List qPr) (i lo hi : Nat), prsR t N I nn i lo ss qs hi → lo ≤ hi ∧ ∀ c, c ∈ ss → lo ≤ c ∧ c < hi := by
  intro cs
  induction cs with
  | nil =>
    intro qs i lo hi h
    cases qs with
    | nil => exact ⟨h, fun c hc => by cases hc⟩
    | cons q qs => exact h.elim
  | cons c cs ih =>
    intro qs i lo hi h
    cases qs with
    | nil => exact h.elim
    | cons q qs =>
      obtain ⟨k, h1, h2, h3⟩ := h
      obtain ⟨i1, i2⟩ := ih qs (i + 1) k hi h3
      have := h2.1
      refine ⟨by omega, fun y hy => ?_⟩
      rcases List.mem_cons.mp hy with e | e
      · rw [e]; omega
      · have := i2 y e; omega
theorem prsR_st {I I' : Nat → Nat → Int32} {nn nn' : Nat} : ∀ (cs : List Nat) (qs : List qPr) (n lo hi : Nat), (∀ k i, 251 ≤ k → k ≤ 258 → lo ≤ i → i < hi → ¬ (k = 255 ∧ i ∈ cs) → I' k i = I k i) → (∀ u, u < nn → rnm I' u = rnm I u) → nn ≤ nn' → prsR t N I nn n lo cs qs hi → prsR t N I' nn' n lo cs qs hi := by
  intro cs
  induction cs with
  | nil =>
    intro qs n lo hi _ _ _ h
    cases qs with
    | nil => exact h
    | cons q qs => exact h.elim
  | cons c cs ih =>
    intro qs n lo hi hf hn hnn h
    cases qs with
    | nil => exact h.elim
    | cons q qs =>
      obtain ⟨k, h1, h2, h3⟩ := h
      obtain ⟨i1, i2⟩ := prsR_ge _ _ _ _ _ h3
      have h21 := h2.1
      refine ⟨k, h1, prR_st (fun k' i a b e g n => hf k' i a b (by omega) (by omega) (fun z => ?_)) hn hnn h2, ih qs (n + 1) k hi (fun k' i a b e g n => hf k' i a b (by omega) g (fun z => ?_)) hn hnn h3⟩
      · rcases List.mem_cons.mp z.2 with e' | e'
        · exact n ⟨z.1, e'⟩
        · have := i2 i e'; omega
      · rcases List.mem_cons.mp z.2 with e' | e'
        · omega
        · exact n ⟨z.1, e'⟩
theorem prsR_app {I : Nat → Nat → Int32} {nn : Nat} : ∀ (cs : List Nat) (qs : List qPr) (i lo h1 h2 c : Nat) (q : qPr), prsR t N I nn i lo cs qs h1 → h1 ≤ c → prR t N I nn (min (i + qs.length) 5) h2 c q → prsR t N I nn i lo (cs ++ [c]) (qs ++ [q]) h2 := by
  intro cs
  induction cs with
  | nil =>
    intro qs i lo h1 h2 c q h hc hq
    cases qs with
    | nil =>
      have h : lo ≤ h1 := h
      exact ⟨h2, by omega, hq, Nat.le_refl _⟩
    | cons q qs => exact h.elim
  | cons a cs ih =>
    intro qs i lo h1 h2 c q h hc hq
    cases qs with
    | nil => exact h.elim
    | cons q0 qs =>
      obtain ⟨k, a1, a2, a3⟩ := h
      refine ⟨k, a1, a2, ih qs (i + 1) k h1 h2 c q a3 hc ?_⟩
      rw [List.length_cons] at hq
      rw [show i + 1 + qs.length = i + (qs.length + 1) by omega]
      exact hq
theorem prsR_inc {I : Nat → Nat → Int32} {nn : Nat} : ∀ (cs : List Nat) (qs : List qPr) (i lo hi a : Nat), prsR t N I nn i lo (cs ++ [a]) qs hi → ∀ y, y ∈ cs → y < a := by
  intro cs
  induction cs with
  | nil => intro qs i lo hi a _ y hy; cases hy
  | cons c cs ih =>
    intro qs i lo hi a h y hy
    cases qs with
    | nil => exact h.elim
    | cons q qs =>
      obtain ⟨k, _, h2, h3⟩ := h
      rcases List.mem_cons.mp hy with e | e
      · have := (prsR_ge _ _ _ _ _ h3).2 a (List.mem_append_right _ List.mem_cons_self)
        have := h2.1
        omega
      · exact ih qs (i + 1) k hi a h3 y e
/-- the first token -/
theorem rTok0 (hc : rCx A t N m B0 M0) {z : rZ} {dp : Nat} (hB : rB t N m B0 M0 z) (h15 : z.2.1 241 15 = nI 0) (h30 : z.2.1 241 30 = nI dp) (hnb : z.2.2.2.2.1 ≤ B0) (hM : z.2.2.2.2.2 ≤ M0) : ∃ z', jcall A jcode (d + 6) 185 [.ref (b + 241)] (HZ h b J R z) = some (.inl none, HZ h b J R z') ∧ rQ t N m B0 M0 0 dp z' ∧ rSt z z' ∧ z'.2.2.2.2.2 = z.2.2.2.2.2 := by
  obtain ⟨X, I, n, nn, nb, M⟩ := z
  obtain ⟨b1, b2, b3, b4, b5, b6, b7, b8⟩ := hB
  obtain ⟨hA, hN, hk, hB0, hM0⟩ := hc
  simp only at b1 b2 b3 b4 b5 b6 b7 b8 h15 h30 hM hnb ⊢
  obtain ⟨X', I', n', nn', nb', e, r1, r2, r3, r4, r5, r6, r7, r8, r9, r10, r11⟩ := rToken (d := d) (A := A) (b := b) (h := h) (J := J) (R := R) (X := X) (I := I) (n := n) (t := t) hA hN b1 b2 h15 (Nat.zero_le _) b3 (by omega)
  have hsk : sk t N 0 = tpos t N 0 := rfl
  rw [hsk] at r1 r2
  refine ⟨(X', I', n', nn', nb', M), e, ⟨⟨?_, ?_, r3, r11 b4, ?_, ?_, cp_fX r9 b7, b8⟩, r1, ?_, ?_, Nat.zero_le _, by show M ≤ M0 + 0; omega⟩, ⟨fun c i c1 c2 c3 => r8 c i c1 (by omega), r4, r7, r10, (r9 206 (by omega)).1, Nat.le_refl _⟩, rfl⟩
  · show I' 241 14 = nI N
    rw [r8 _ _ (by omega) (by omega)]; exact b1
  · show I' 249 = t
    rw [← b2]
    funext i
    exact r8 _ _ (by omega) (by omega)
  · show nb' ≤ B0 + N + 12
    omega
  · show I' 241 29 = nI M
    rw [r8 _ _ (by omega) (by omega)]; exact b6
  · intro hne
    have hne' : ¬ tkK t N (tpos t N 0) = nI 28 := fun z => hne (by
      have := KK_e (t := t) (N := N) (j := 0)
      have hlt := okK_lt this.1
      have e2 := this.2.symm.trans z
      rw [nI_eq (by omega) (by omega)] at e2
      exact e2)
    obtain ⟨q1, q2⟩ := r2 hne'
    refine ⟨q1, ?_⟩
    show nb' ≤ B0 + tkX t N (tpos t N 0)
    omega
  · show I' 241 30 = nI dp
    rw [r8 _ _ (by omega) (by omega)]; exact h30
theorem r204l (hc : rCx A t N m B0 M0) {z0 : rZ} : ∀ (n r : Nat) (z : rZ) (j : Nat) (C : List oT) (Q : List qPr) (ps : List Nat) (c : qPr) (s : qSt) (fst lst : Int32) (v3 : Option Value), m < n + j → m + 1 ≤ r + j → rQ t N m B0 M0 j 0 z → rSt z0 z → prsR t N z.2.1 z.2.2.2.1 0 z0.2.2.2.2.2 ps Q z.2.2.2.2.2 → chn z.2.1 fst ps → lsA ps lst → (∃ z' j' C', pG (KK t N) (fun j => tkNu t N (tpos t N j)) r 0 j C Q c s = (none, j', C') ∧ M204 A (d + 62) 18 [some (.ref (b + 241)), some (.int fst), some (.int lst), v3] [] (HZ h b J R z) = some (.inr 11, HZ h b J R z') ∧ rF t N m B0 M0 j' z' ∧ rSt z0 z') ∨ ∃ z' j' C' Q' ps' f, pG (KK t N) (fun j => tkNu t N (tpos t N j)) r 0 j C Q c s = (some Q', j', C') ∧ M204 A (d + 62) 18 [some (.ref (b + 241)), some (.int fst), some (.int lst), v3] [] (HZ h b J R z) = some (.inl (some (.int f)), HZ h b J R z') ∧ rQ t N m B0 M0 j' 0 z' ∧ KK t N j' = 29 ∧ rSt z0 z' ∧ prsR t N z'.2.1 z'.2.2.2.1 0 z0.2.2.2.2.2 ps' Q' z'.2.2.2.2.2 ∧ chn z'.2.1 f ps' := by
  intro n
  induction n with
  | zero =>
    intro r z j C Q ps c s fst lst v3 hn hr hq
    have := hq.2.2.2.2.1
    omega
  | succ n ih =>
    intro r z j C Q ps c s fst lst v3 hn hr hq hst hI hch hls
    have hMm := hq.1.2.2.2.2.2.2.2
    have hcx := hc.2.2.2.2
    have hk1 := hc.2.2.1.1
    have hj := hq.2.2.2.2.1
    have hk := okK_lt (KK_e (t := t) (N := N) (j := j)).1
    have s16 := (rTk_k hq.2.1).2.1
    by_cases hK : KK t N j = 29
    · obtain ⟨r, rfl⟩ : ∃ r', r = r' + 1 := ⟨r - 1, by omega⟩
      rw [(kcd_0 _ hk).mpr hK] at s16
      refine Or.inr ⟨z, j, C, Q, ps, fst, ?_, ?_, hq, hK, hst, hI, hch⟩
      · show (if KK t N j = 29 then (some Q, j, C) else _) = _
        rw [if_pos hK]
      · simp (disch := omega) [r204_0, r204_1, r204_2, r204_5, r204_6, r204_7, r204_10, r204_11, r204_14, r204_15, r204_16, r204_17, r204_19, r204_22, r204_25, r204_26, r204_29, r204_30, r204_31, r204_34, r204_35, r204_36, r204_39, r204_40, r204_43, r204_44, r204_45, r204_46, r204_47, r204_48, r204_51, r204_52, g241, p241_15, ty12_15, p241_30, ty12_30, qa185, qo185, vf12_16, qa205, qo205, vf12_25, t241_25, g255, p255, r204_18, List.getElem?_cons_zero, List.getElem?_cons_succ, List.length_cons, List.length_nil, ag_nx, ag_dn, ag_no, ag_if, jbr1, jbr2, jc1, jc2, jnul, jld, jsto, jstoL, jst1, jst2, jkill, jinc, jbI, jbL, jbS, juI, jl2i, jcmp, jisR, jisI, jisL, jret, jretv, jfits, jdup, jdup2, jpop, jmm, jcat, Value.category, jinv, jrcv, jthr, jhd, jput, jget, jlen, jald, jast, jaast, jgI, jgL, jgB, jtab, jlku, jacp, vf20, vf21, vf22, vf23, vf24, u2_s, u2_k, u2_i, uc_s, uc_k, uc_c, u2_c, LI0, LI1, LI2, LI3, LI4, LI5, LI6, LI7, LI8, LI9, LI10, LI11, LI12, LI13, LI14, LI15, LI16, LI17, LI18, LI19, LI20, LI21, LI22, LI23, LI24, LI25, LI26, LI27, LI28, LI29, LI30, LI31, LI32, LI33, LI34, LI35, LI36, LI37, LI40, LI42, LI43, LI45, LI48, LI60, LI61, LI64, LI80, LI300, LI400, LI1000, LI2000, LI2001, LI2047, LI2048, LI100000, LI1000000, LI38, LI39, LI41, LI44, LI46, LI47, LI49, LI50, LI51, LI52, LI53, LI54, LI55, LI56, LI57, LI58, LI59, LI62, LI63, LI65, LI66, LI67, LI68, LI69, LI70, LI71, LI72, LI73, LI74, LI75, LI76, LI77, LI78, LI79, LI81, LI82, LI83, LI84, LI85, LI86, LI87, LI88, LI89, LI90, LI91, LI92, LI93, LI94, LI95, LI96, LI97, LI98, LI99, LI100, LI101, LI102, LI103, LI104, LI105, LI106, LI107, LI108, LI109, LI110, LI111, LI112, LI113, LI114, LI115, LI116, LI117, LI118, LI119, LI120, LI121, LI122, LI123, LI124, LI125, LI126, LI127, LI255, LI256, LI999, LI1001, LI1002, LI1600, LI4096, LI1000001, LI2042, LM, nI_clamp, nI_pos', nI_lt, nI_nlt, nI_le, nI_ge, nI_ne, nI_add, nI_sub, mI_lt, mI_le, mI_nlt, mI_nle, mI_ne, mI_ne', mI_nem, s16]
    · have hne : ¬ kcd (KK t N j) = nI 0 := fun z => hK ((kcd_0 _ hk).mp z)
      rcases r205 (d := d) (A := A) (b := b) (h := h) (J := J) (R := R) (Q := Q) (c0 := c) (s0 := s) (C := C) hc hr hq hK with ⟨z1, j1, C1, a1, e1, F1, st1⟩ | ⟨z1, r1, j1, C1, q, s1, a1, e1, hr1, q1, st1, hj1, hn1, hsr, h255⟩
      · rw [a1]
        refine Or.inl ⟨z1, j1, C1, rfl, ?_, F1, rSt_trans hst st1⟩
        simp (disch := omega) [r204_0, r204_1, r204_2, r204_5, r204_6, r204_7, r204_10, r204_11, r204_14, r204_15, r204_16, r204_17, r204_19, r204_22, r204_25, r204_26, r204_29, r204_30, r204_31, r204_34, r204_35, r204_36, r204_39, r204_40, r204_43, r204_44, r204_45, r204_46, r204_47, r204_48, r204_51, r204_52, g241, p241_15, ty12_15, p241_30, ty12_30, qa185, qo185, vf12_16, qa205, qo205, vf12_25, t241_25, g255, p255, r204_18, List.getElem?_cons_zero, List.getElem?_cons_succ, List.length_cons, List.length_nil, ag_nx, ag_dn, ag_no, ag_if, jbr1, jbr2, jc1, jc2, jnul, jld, jsto, jstoL, jst1, jst2, jkill, jinc, jbI, jbL, jbS, juI, jl2i, jcmp, jisR, jisI, jisL, jret, jretv, jfits, jdup, jdup2, jpop, jmm, jcat, Value.category, jinv, jrcv, jthr, jhd, jput, jget, jlen, jald, jast, jaast, jgI, jgL, jgB, jtab, jlku, jacp, vf20, vf21, vf22, vf23, vf24, u2_s, u2_k, u2_i, uc_s, uc_k, uc_c, u2_c, LI0, LI1, LI2, LI3, LI4, LI5, LI6, LI7, LI8, LI9, LI10, LI11, LI12, LI13, LI14, LI15, LI16, LI17, LI18, LI19, LI20, LI21, LI22, LI23, LI24, LI25, LI26, LI27, LI28, LI29, LI30, LI31, LI32, LI33, LI34, LI35, LI36, LI37, LI40, LI42, LI43, LI45, LI48, LI60, LI61, LI64, LI80, LI300, LI400, LI1000, LI2000, LI2001, LI2047, LI2048, LI100000, LI1000000, LI38, LI39, LI41, LI44, LI46, LI47, LI49, LI50, LI51, LI52, LI53, LI54, LI55, LI56, LI57, LI58, LI59, LI62, LI63, LI65, LI66, LI67, LI68, LI69, LI70, LI71, LI72, LI73, LI74, LI75, LI76, LI77, LI78, LI79, LI81, LI82, LI83, LI84, LI85, LI86, LI87, LI88, LI89, LI90, LI91, LI92, LI93, LI94, LI95, LI96, LI97, LI98, LI99, LI100, LI101, LI102, LI103, LI104, LI105, LI106, LI107, LI108, LI109, LI110, LI111, LI112, LI113, LI114, LI115, LI116, LI117, LI118, LI119, LI120, LI121, LI122, LI123, LI124, LI125, LI126, LI127, LI255, LI256, LI999, LI1001, LI1002, LI1600, LI4096, LI1000001, LI2042, LM, nI_clamp, nI_pos', nI_lt, nI_nlt, nI_le, nI_ge, nI_ne, nI_add, nI_sub, mI_lt, mI_le, mI_nlt, mI_nle, mI_ne, mI_ne', mI_nem, s16, hne, e1]
      · rw [a1]
        have hq1j := q1.2.2.2.2.1
        have hm1 := hsr.1
        have hI1 := prsR_st (I' := z1.2.1) ps Q _ _ _ (fun k i a b e g _ => st1.1 k i (by omega) (by omega) (by omega)) st1.2.2.1 st1.2.1 hI
        obtain ⟨g1, g2⟩ := prsR_ge _ _ _ _ _ hI1
        have hch1 : chn z1.2.1 fst ps := chn_st ps _ (fun a ha => by have := g2 a ha; exact st1.1 255 a (by omega) (by omega) (by omega)) hch
        obtain ⟨cap, c1, c2, c3, c4⟩ := q1.1.2.2.2.2.2.2.1
        have hpr : prR t N z1.2.1 z1.2.2.2.1 (min (0 + Q.length) 5) z1.2.2.2.2.2 z.2.2.2.2.2 q := by rw [Nat.zero_add]; exact hsr
        rcases hls with ⟨p1, p2⟩ | ⟨ps', a, p1, p2⟩
        · have hf : fst = mI 1 := by rw [p1] at hch1; exact hch1
          have e18 : M204 A (d + 62) 18 [some (.ref (b + 241)), some (.int fst), some (.int lst), v3] [] (HZ h b J R z) = M204 A (d + 62) 18 [some (.ref (b + 241)), some (.int (nI z.2.2.2.2.2)), some (.int (nI z.2.2.2.2.2)), some (.int (nI z.2.2.2.2.2))] [] (HZ h b J R z1) := by
            rw [hf]
            simp (disch := omega) [r204_0, r204_1, r204_2, r204_5, r204_6, r204_7, r204_10, r204_11, r204_14, r204_15, r204_16, r204_17, r204_19, r204_22, r204_25, r204_26, r204_29, r204_30, r204_31, r204_34, r204_35, r204_36, r204_39, r204_40, r204_43, r204_44, r204_45, r204_46, r204_47, r204_48, r204_51, r204_52, g241, p241_15, ty12_15, p241_30, ty12_30, qa185, qo185, vf12_16, qa205, qo205, vf12_25, t241_25, g255, p255, r204_18, List.getElem?_cons_zero, List.getElem?_cons_succ, List.length_cons, List.length_nil, ag_nx, ag_dn, ag_no, ag_if, jbr1, jbr2, jc1, jc2, jnul, jld, jsto, jstoL, jst1, jst2, jkill, jinc, jbI, jbL, jbS, juI, jl2i, jcmp, jisR, jisI, jisL, jret, jretv, jfits, jdup, jdup2, jpop, jmm, jcat, Value.category, jinv, jrcv, jthr, jhd, jput, jget, jlen, jald, jast, jaast, jgI, jgL, jgB, jtab, jlku, jacp, vf20, vf21, vf22, vf23, vf24, u2_s, u2_k, u2_i, uc_s, uc_k, uc_c, u2_c, LI0, LI1, LI2, LI3, LI4, LI5, LI6, LI7, LI8, LI9, LI10, LI11, LI12, LI13, LI14, LI15, LI16, LI17, LI18, LI19, LI20, LI21, LI22, LI23, LI24, LI25, LI26, LI27, LI28, LI29, LI30, LI31, LI32, LI33, LI34, LI35, LI36, LI37, LI40, LI42, LI43, LI45, LI48, LI60, LI61, LI64, LI80, LI300, LI400, LI1000, LI2000, LI2001, LI2047, LI2048, LI100000, LI1000000, LI38, LI39, LI41, LI44, LI46, LI47, LI49, LI50, LI51, LI52, LI53, LI54, LI55, LI56, LI57, LI58, LI59, LI62, LI63, LI65, LI66, LI67, LI68, LI69, LI70, LI71, LI72, LI73, LI74, LI75, LI76, LI77, LI78, LI79, LI81, LI82, LI83, LI84, LI85, LI86, LI87, LI88, LI89, LI90, LI91, LI92, LI93, LI94, LI95, LI96, LI97, LI98, LI99, LI100, LI101, LI102, LI103, LI104, LI105, LI106, LI107, LI108, LI109, LI110, LI111, LI112, LI113, LI114, LI115, LI116, LI117, LI118, LI119, LI120, LI121, LI122, LI123, LI124, LI125, LI126, LI127, LI255, LI256, LI999, LI1001, LI1002, LI1600, LI4096, LI1000001, LI2042, LM, nI_clamp, nI_pos', nI_lt, nI_nlt, nI_le, nI_ge, nI_ne, nI_add, nI_sub, mI_lt, mI_le, mI_nlt, mI_nle, mI_ne, mI_ne', mI_nem, s16, hne, e1]
          rw [e18]
          exact ih r1 z1 j1 C1 (Q ++ [q]) (ps ++ [z.2.2.2.2.2]) q s1 _ _ _ (by omega) hr1 q1 (rSt_trans hst st1) (prsR_app _ _ _ _ _ _ _ _ hI1 (Nat.le_refl _) hpr) (by rw [p1]; exact ⟨rfl, h255⟩) lsA_app
        · have ha := g2 a (by rw [p1]; exact List.mem_append_right _ List.mem_cons_self)
          have hin := prsR_inc ps' Q 0 _ _ a (p1 ▸ hI1)
          have h2 : a < cp z1.1 255 := by rw [c1 255 (by omega) (by omega)]; omega
          obtain ⟨f, hf, hfb⟩ : ∃ f, fst = nI f ∧ f < 2 ^ 20 := by
            cases ps with
            | nil => rw [p1] at hch1; cases ps' <;> cases p1
            | cons y ys => exact ⟨y, hch1.1, by have := g2 y List.mem_cons_self; omega⟩
          have e18 : M204 A (d + 62) 18 [some (.ref (b + 241)), some (.int fst), some (.int lst), v3] [] (HZ h b J R z) = M204 A (d + 62) 18 [some (.ref (b + 241)), some (.int fst), some (.int (nI z.2.2.2.2.2)), some (.int (nI z.2.2.2.2.2))] [] (HZ h b J R (z1.1, u2 z1.2.1 255 a (nI z.2.2.2.2.2), z1.2.2)) := by
            rw [hf, p2]
            simp (disch := omega) [r204_0, r204_1, r204_2, r204_5, r204_6, r204_7, r204_10, r204_11, r204_14, r204_15, r204_16, r204_17, r204_19, r204_22, r204_25, r204_26, r204_29, r204_30, r204_31, r204_34, r204_35, r204_36, r204_39, r204_40, r204_43, r204_44, r204_45, r204_46, r204_47, r204_48, r204_51, r204_52, g241, p241_15, ty12_15, p241_30, ty12_30, qa185, qo185, vf12_16, qa205, qo205, vf12_25, t241_25, g255, p255, r204_18, List.getElem?_cons_zero, List.getElem?_cons_succ, List.length_cons, List.length_nil, ag_nx, ag_dn, ag_no, ag_if, jbr1, jbr2, jc1, jc2, jnul, jld, jsto, jstoL, jst1, jst2, jkill, jinc, jbI, jbL, jbS, juI, jl2i, jcmp, jisR, jisI, jisL, jret, jretv, jfits, jdup, jdup2, jpop, jmm, jcat, Value.category, jinv, jrcv, jthr, jhd, jput, jget, jlen, jald, jast, jaast, jgI, jgL, jgB, jtab, jlku, jacp, vf20, vf21, vf22, vf23, vf24, u2_s, u2_k, u2_i, uc_s, uc_k, uc_c, u2_c, LI0, LI1, LI2, LI3, LI4, LI5, LI6, LI7, LI8, LI9, LI10, LI11, LI12, LI13, LI14, LI15, LI16, LI17, LI18, LI19, LI20, LI21, LI22, LI23, LI24, LI25, LI26, LI27, LI28, LI29, LI30, LI31, LI32, LI33, LI34, LI35, LI36, LI37, LI40, LI42, LI43, LI45, LI48, LI60, LI61, LI64, LI80, LI300, LI400, LI1000, LI2000, LI2001, LI2047, LI2048, LI100000, LI1000000, LI38, LI39, LI41, LI44, LI46, LI47, LI49, LI50, LI51, LI52, LI53, LI54, LI55, LI56, LI57, LI58, LI59, LI62, LI63, LI65, LI66, LI67, LI68, LI69, LI70, LI71, LI72, LI73, LI74, LI75, LI76, LI77, LI78, LI79, LI81, LI82, LI83, LI84, LI85, LI86, LI87, LI88, LI89, LI90, LI91, LI92, LI93, LI94, LI95, LI96, LI97, LI98, LI99, LI100, LI101, LI102, LI103, LI104, LI105, LI106, LI107, LI108, LI109, LI110, LI111, LI112, LI113, LI114, LI115, LI116, LI117, LI118, LI119, LI120, LI121, LI122, LI123, LI124, LI125, LI126, LI127, LI255, LI256, LI999, LI1001, LI1002, LI1600, LI4096, LI1000001, LI2042, LM, nI_clamp, nI_pos', nI_lt, nI_nlt, nI_le, nI_ge, nI_ne, nI_add, nI_sub, mI_lt, mI_le, mI_nlt, mI_nle, mI_ne, mI_ne', mI_nem, s16, hne, e1, h2]
          rw [e18]
          have hf2 : ∀ k i, ¬ (k = 255 ∧ i = a) → u2 z1.2.1 255 a (nI z.2.2.2.2.2) k i = z1.2.1 k i := fun c y e => by unfold u2; rw [if_neg e]
          have hI2 := prsR_st (I := z1.2.1) (I' := u2 z1.2.1 255 a (nI z.2.2.2.2.2)) (nn := z1.2.2.2.1) (nn' := z1.2.2.2.1) ps Q _ _ _ (fun k i e1 e2 e3 e4 e5 => hf2 k i (fun e => e5 ⟨e.1, by rw [e.2, p1]; exact List.mem_append_right _ List.mem_cons_self⟩)) (fun u hu => rnm_n (by omega)) (Nat.le_refl _) hI1
          have hpr2 := prR_st (I := z1.2.1) (I' := u2 z1.2.1 255 a (nI z.2.2.2.2.2)) (nn := z1.2.2.2.1) (nn' := z1.2.2.2.1) (fun k i e1 e2 e3 e4 e5 => hf2 k i (by omega)) (fun u hu => rnm_n (by omega)) (Nat.le_refl _) hpr
          refine ih r1 (z1.1, u2 z1.2.1 255 a (nI z.2.2.2.2.2), z1.2.2) j1 C1 (Q ++ [q]) (ps ++ [z.2.2.2.2.2]) q s1 _ _ _ (by omega) hr1 (rQ_n q1 (by omega)) (rSt_n (rSt_trans hst st1) (by omega) ha.1) (prsR_app _ _ _ _ _ _ _ _ hI2 (Nat.le_refl _) hpr2) ?_ lsA_app
          rw [p1] at hch1 ⊢
          exact chn_app ps' _ (fun y h1 => by have := hin y h1; omega) h255 (by omega) hch1
/-- all is read -/
theorem r204 (hc : rCx A t N m B0 M0) {z : rZ} {r : Nat} {c : qPr} {s : qSt} (hB : rB t N m B0 M0 z) (hnb : z.2.2.2.2.1 ≤ B0) (hM : z.2.2.2.2.2 ≤ M0) (hr : m + 1 ≤ r) : (∃ z' j' C', pG (KK t N) (fun j => tkNu t N (tpos t N j)) r 0 0 [] [] c s = (none, j', C') ∧ jcall A jcode (d + 63) 204 [.ref (b + 241)] (HZ h b J R z) = some (.inr 11, HZ h b J R z') ∧ rF t N m B0 M0 j' z' ∧ rSt z z') ∨ ∃ z' j' C' Q' ps' f, pG (KK t N) (fun j => tkNu t N (tpos t N j)) r 0 0 [] [] c s = (some Q', j', C') ∧ jcall A jcode (d + 63) 204 [.ref (b + 241)] (HZ h b J R z) = some (.inl (some (.int f)), HZ h b J R z') ∧ rQ t N m B0 M0 j' 0 z' ∧ KK t N j' = 29 ∧ rSt z z' ∧ prsR t N z'.2.1 z'.2.2.2.1 0 z.2.2.2.2.2 ps' Q' z'.2.2.2.2.2 ∧ chn z'.2.1 f ps' := by
  obtain ⟨X, I, n, nn, nb, M⟩ := z
  obtain ⟨z1, hz1⟩ : ∃ z1 : rZ, z1 = (X, u2 (u2 I 241 15 (nI 0)) 241 30 (nI 0), n, nn, nb, M) := ⟨_, rfl⟩
  obtain ⟨b1, b2, b3, b4, b5, b6, b7, b8⟩ := hB
  simp only at b1 b2 b3 b4 b5 b6 b7 b8 hnb hM
  have hB1 : rB t N m B0 M0 z1 := by
    rw [hz1]
    refine ⟨?_, ?_, rNm_u (by omega) (rNm_u (by omega) b3), b4, b5, ?_, b7, b8⟩
    · show u2 (u2 I 241 15 (nI 0)) 241 30 (nI 0) 241 14 = _
      rw [u2_i (by omega), u2_i (by omega)]; exact b1
    · show u2 (u2 I 241 15 (nI 0)) 241 30 (nI 0) 249 = _
      rw [← b2]; funext i
      rw [u2_k (by omega), u2_k (by omega)]
    · show u2 (u2 I 241 15 (nI 0)) 241 30 (nI 0) 241 29 = _
      rw [u2_i (by omega), u2_i (by omega)]; exact b6
  have st01 : rSt (X, I, n, nn, nb, M) z1 := by
    rw [hz1]
    exact ⟨fun c i c1 c2 c3 => by show u2 (u2 I 241 15 (nI 0)) 241 30 (nI 0) c i = I c i; unfold u2; rw [if_neg (by omega), if_neg (by omega)], Nat.le_refl _, fun u hu => rnm_u.trans rnm_u, gro_refl, rfl, Nat.le_refl _⟩
  obtain ⟨z2, e2, q2, st2, n2⟩ := rTok0 (d := d + 56) (A := A) (b := b) (h := h) (J := J) (R := R) hc hB1 (by rw [hz1]; show u2 (u2 I 241 15 (nI 0)) 241 30 (nI 0) 241 15 = _; rw [u2_i (by omega)]; exact u2_s) (by rw [hz1]; show u2 (u2 I 241 15 (nI 0)) 241 30 (nI 0) 241 30 = nI 0; exact u2_s : z1.2.1 241 30 = nI 0) (by rw [hz1]; exact hnb) (by rw [hz1]; exact hM)
  have e18 : jcall A jcode (d + 63) 204 [.ref (b + 241)] (HZ h b J R (X, I, n, nn, nb, M)) = M204 A (d + 62) 18 [some (.ref (b + 241)), some (.int (mI 1)), some (.int (mI 1)), none] [] (HZ h b J R z2) := by
    rw [hz1] at e2
    simp (disch := omega) [je204, r204_0, r204_1, r204_2, r204_5, r204_6, r204_7, r204_10, r204_11, r204_14, r204_15, r204_16, r204_17, r204_19, r204_22, r204_25, r204_26, r204_29, r204_30, r204_31, r204_34, r204_35, r204_36, r204_39, r204_40, r204_43, r204_44, r204_45, r204_46, r204_47, r204_48, r204_51, r204_52, g241, p241_15, ty12_15, p241_30, ty12_30, qa185, qo185, vf12_16, qa205, qo205, vf12_25, t241_25, g255, p255, List.getElem?_cons_zero, List.getElem?_cons_succ, List.length_cons, List.length_nil, ag_nx, ag_dn, ag_no, ag_if, jbr1, jbr2, jc1, jc2, jnul, jld, jsto, jstoL, jst1, jst2, jkill, jinc, jbI, jbL, jbS, juI, jl2i, jcmp, jisR, jisI, jisL, jret, jretv, jfits, jdup, jdup2, jpop, jmm, jcat, Value.category, jinv, jrcv, jthr, jhd, jput, jget, jlen, jald, jast, jaast, jgI, jgL, jgB, jtab, jlku, jacp, vf20, vf21, vf22, vf23, vf24, u2_s, u2_k, u2_i, uc_s, uc_k, uc_c, u2_c, LI0, LI1, LI2, LI3, LI4, LI5, LI6, LI7, LI8, LI9, LI10, LI11, LI12, LI13, LI14, LI15, LI16, LI17, LI18, LI19, LI20, LI21, LI22, LI23, LI24, LI25, LI26, LI27, LI28, LI29, LI30, LI31, LI32, LI33, LI34, LI35, LI36, LI37, LI40, LI42, LI43, LI45, LI48, LI60, LI61, LI64, LI80, LI300, LI400, LI1000, LI2000, LI2001, LI2047, LI2048, LI100000, LI1000000, LI38, LI39, LI41, LI44, LI46, LI47, LI49, LI50, LI51, LI52, LI53, LI54, LI55, LI56, LI57, LI58, LI59, LI62, LI63, LI65, LI66, LI67, LI68, LI69, LI70, LI71, LI72, LI73, LI74, LI75, LI76, LI77, LI78, LI79, LI81, LI82, LI83, LI84, LI85, LI86, LI87, LI88, LI89, LI90, LI91, LI92, LI93, LI94, LI95, LI96, LI97, LI98, LI99, LI100, LI101, LI102, LI103, LI104, LI105, LI106, LI107, LI108, LI109, LI110, LI111, LI112, LI113, LI114, LI115, LI116, LI117, LI118, LI119, LI120, LI121, LI122, LI123, LI124, LI125, LI126, LI127, LI255, LI256, LI999, LI1001, LI1002, LI1600, LI4096, LI1000001, LI2042, LM, nI_clamp, nI_pos', nI_lt, nI_nlt, nI_le, nI_ge, nI_ne, nI_add, nI_sub, mI_lt, mI_le, mI_nlt, mI_nle, mI_ne, mI_ne', mI_nem, e2]
  rw [e18]
  have n2' : z2.2.2.2.2.2 = M := by rw [n2, hz1]
  exact r204l (d := d) (A := A) (b := b) (h := h) (J := J) (R := R) hc (z0 := (X, I, n, nn, nb, M)) (m + 1) r z2 0 [] [] [] c s (mI 1) (mI 1) none (by omega) (by omega) q2 (rSt_trans st01 st2) (by show M ≤ _; omega) rfl (Or.inl ⟨rfl, rfl⟩)
end RSY
