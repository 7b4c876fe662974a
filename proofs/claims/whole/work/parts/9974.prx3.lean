/-! the reference reads expressions -/
def Yn (t : Nat → Int32) (N j : Nat) : Int64 × Int32 := (tkH t N (tpos t N j), tkD t N (tpos t N j))
/-- node e, with all below it from lo on, is the code l; r deep; s values at most are on the stack -/
def xR (t : Nat → Int32) (N : Nat) (I : Nat → Nat → Int32) (nn pr lo : Nat) : Nat → Nat → List oT → Nat → Prop
  | 0, _, _, _ => False
  | r + 1, e, l, s => 0 < s ∧ lo ≤ e ∧ (
      (I 251 e = nI 0 ∧ ∃ j, l = [(0, .inr j, .inl (nI pr), j)] ∧ KK t N j = 27 ∧ I 252 e = tkNu t N (tpos t N j)) ∨
      (I 251 e = nI 1 ∧ ∃ j w, l = [(1, .inr j, .inl (nI pr), j)] ∧ KK t N j = 26 ∧ w < nn ∧ I 252 e = nI w ∧ rnm I w = Yn t N j ∧ I 256 e = nI (tpos t N j)) ∨
      (I 251 e = nI 2 ∧ ∃ j o, l = [(o, .inr j, .inl (nI pr), j)] ∧ ((o = 2 ∧ I 252 e = nI 23) ∨ (o = 3 ∧ I 252 e = nI 19) ∨ (o = 4 ∧ I 252 e = nI 18) ∨ (o = 5 ∧ I 252 e = nI 20) ∨ (o = 6 ∧ I 252 e = nI 21))) ∨
      (I 251 e = nI 3 ∧ ∃ f l1 tk, f < e ∧ I 252 e = nI f ∧ l = l1 ++ [oz pr 7 tk] ∧ xR t N I nn pr lo r f l1 s) ∨
      (I 251 e = nI 4 ∧ ∃ f g l1 l2 o tk c mid, f < e ∧ g < e ∧ I 253 e = nI f ∧ I 254 e = nI g ∧ I 252 e = nI c ∧ l = l1 ++ l2 ++ [oz pr o tk] ∧ xR t N I nn pr lo r f l1 s ∧ xR t N I nn pr lo r g l2 (s - 1) ∧ ((c = 43 ∧ o = 8) ∨ (c = 45 ∧ o = 9) ∨ (c = 42 ∧ o = 10) ∨ (c = 300 ∧ o = 11) ∨ (c = 60 ∧ o = 12)) ∧ (∀ x, x ∈ l1 → x.2.2.2 < mid) ∧ ∀ x, x ∈ l2 → mid ≤ x.2.2.2))
section XRL
variable {t : Nat → Int32} {N : Nat} {I I' : Nat → Nat → Int32} {nn nn' pr lo : Nat}
theorem xR_lo : ∀ {r e : Nat} {l : List oT} {s : Nat}, xR t N I nn pr lo r e l s → lo ≤ e := by
  intro r e l s h
  cases r with
  | zero => exact h.elim
  | succ r => exact h.2.1
theorem xR_st : ∀ (r e : Nat) (l : List oT) (s : Nat), (∀ c i, 251 ≤ c → c ≤ 256 → c ≠ 255 → lo ≤ i → i ≤ e → I' c i = I c i) → (∀ u, u < nn → rnm I' u = rnm I u) → nn ≤ nn' → xR t N I nn pr lo r e l s → xR t N I' nn' pr lo r e l s := by
  intro r
  induction r with
  | zero => intro e l s _ _ _ h; exact h
  | succ r ih =>
    intro e l s hf hn hnn h
    obtain ⟨h0, hlo, h⟩ := h
    have f1 := hf 251 e (by omega) (by omega) (by omega) hlo (Nat.le_refl _)
    have f2 := hf 252 e (by omega) (by omega) (by omega) hlo (Nat.le_refl _)
    have f3 := hf 253 e (by omega) (by omega) (by omega) hlo (Nat.le_refl _)
    have f4 := hf 254 e (by omega) (by omega) (by omega) hlo (Nat.le_refl _)
    have f6 := hf 256 e (by omega) (by omega) (by omega) hlo (Nat.le_refl _)
    refine ⟨h0, hlo, ?_⟩
    rcases h with ⟨a, j, b1, b2, b3⟩ | ⟨a, j, w, b1, b2, b3, b4, b5, b6⟩ | ⟨a, j, o, b1, b2⟩ | ⟨a, f, l1, tk, b1, b2, b3, b4⟩ | ⟨a, f, g, l1, l2, o, tk, c, mid, b1, b2, b3, b4, b5, b6, b7, b8, b9, b10, b11⟩
    · exact Or.inl ⟨f1.trans a, j, b1, b2, f2.trans b3⟩
    · exact Or.inr (Or.inl ⟨f1.trans a, j, w, b1, b2, by omega, f2.trans b4, (hn w b3).trans b5, f6.trans b6⟩)
    · refine Or.inr (Or.inr (Or.inl ⟨f1.trans a, j, o, b1, ?_⟩))
      rw [f2]; exact b2
    · exact Or.inr (Or.inr (Or.inr (Or.inl ⟨f1.trans a, f, l1, tk, b1, f2.trans b2, b3, ih f l1 s (fun c i c1 c2 c3 c4 c5 => hf c i c1 c2 c3 c4 (by omega)) hn hnn b4⟩)))
    · exact Or.inr (Or.inr (Or.inr (Or.inr ⟨f1.trans a, f, g, l1, l2, o, tk, c, mid, b1, b2, f3.trans b3, f4.trans b4, f2.trans b5, b6, ih f l1 s (fun c i c1 c2 c3 c4 c5 => hf c i c1 c2 c3 c4 (by omega)) hn hnn b7, ih g l2 (s - 1) (fun c i c1 c2 c3 c4 c5 => hf c i c1 c2 c3 c4 (by omega)) hn hnn b8, b9, b10, b11⟩)))
theorem xR_mono : ∀ (r r' e : Nat) (l : List oT) (s s' lo' : Nat), r ≤ r' → s ≤ s' → lo' ≤ lo → xR t N I nn pr lo r e l s → xR t N I nn pr lo' r' e l s' := by
  intro r
  induction r with
  | zero => intro r' e l s s' lo' _ _ _ h; exact h.elim
  | succ r ih =>
    intro r' e l s s' lo' hr hs hl h
    obtain ⟨r2, hr2⟩ : ∃ r2, r' = r2 + 1 := ⟨r' - 1, by omega⟩
    subst hr2
    obtain ⟨h0, hlo, h⟩ := h
    refine ⟨by omega, by omega, ?_⟩
    rcases h with a | a | a | ⟨a, f, l1, tk, b1, b2, b3, b4⟩ | ⟨a, f, g, l1, l2, o, tk, c, mid, b1, b2, b3, b4, b5, b6, b7, b8, b9⟩
    · exact Or.inl a
    · exact Or.inr (Or.inl a)
    · exact Or.inr (Or.inr (Or.inl a))
    · exact Or.inr (Or.inr (Or.inr (Or.inl ⟨a, f, l1, tk, b1, b2, b3, ih r2 f l1 s s' lo' (by omega) hs hl b4⟩)))
    · exact Or.inr (Or.inr (Or.inr (Or.inr ⟨a, f, g, l1, l2, o, tk, c, mid, b1, b2, b3, b4, b5, b6, ih r2 f l1 s s' lo' (by omega) hs hl b7, ih r2 g l2 (s - 1) (s' - 1) lo' (by omega) (by omega) hl b8, b9⟩)))
end XRL
/-- what an expression of the kind k leaves, at level g -/
def QX (t : Nat → Int32) (N pr g k : Nat) (z z' : rZ) (e j j' : Nat) (l : List oT) : Prop := xR t N z'.2.1 z'.2.2.2.1 pr z.2.2.2.2.2 ((j' - j + 1) / 2 + g) e l (3 * g + k) ∧ e < z'.2.2.2.2.2
/-- a method of the reference reads what S says -/
def rCl (A : Nat → Nat) (h : Nat → Option jC) (b : Nat) (J : Nat → Nat → Int64) (R : Nat → Nat → Nat) (t : Nat → Int32) (N m B0 M0 D mt dp : Nat) (S : Nat → pR) (Q : rZ → rZ → Nat → Nat → Nat → List oT → Prop) : Prop :=
  ∀ (d : Nat) (z : rZ) (j : Nat), rQ t N m B0 M0 j dp z → (∃ z' j', S j = (none, j') ∧ jcall A jcode (d + D) mt [.ref (b + 241)] (HZ h b J R z) = some (.inr 11, HZ h b J R z') ∧ rF t N m B0 M0 j' z' ∧ rSt z z') ∨ ∃ z' l j' e, S j = (some l, j') ∧ jcall A jcode (d + D) mt [.ref (b + 241)] (HZ h b J R z) = some (.inl (some (.int (nI e))), HZ h b J R z') ∧ rQ t N m B0 M0 j' dp z' ∧ rSt z z' ∧ j < j' ∧ z'.2.2.2.2.2 ≤ z.2.2.2.2.2 + (j' - j) ∧ Q z z' e j j' l
theorem rCl_up {A : Nat → Nat} {h : Nat → Option jC} {b : Nat} {J : Nat → Nat → Int64} {R : Nat → Nat → Nat} {t : Nat → Int32} {N m B0 M0 D D' mt dp : Nat} {S : Nat → pR} {Q : rZ → rZ → Nat → Nat → Nat → List oT → Prop} (hD : D ≤ D') (hc : rCl A h b J R t N m B0 M0 D mt dp S Q) : rCl A h b J R t N m B0 M0 D' mt dp S Q := by
  intro d z j hq
  have := hc (d + (D' - D)) z j hq
  rw [show d + (D' - D) + D = d + D' by omega] at this
  exact this
theorem xR_z {t : Nat → Int32} {N pr lo r e : Nat} {l : List oT} {s : Nat} {z z' : rZ} (hs : rSt z z') (he : e < z.2.2.2.2.2) (h : xR t N z.2.1 z.2.2.2.1 pr lo r e l s) : xR t N z'.2.1 z'.2.2.2.1 pr lo r e l s := xR_st r e l s (fun c i c1 c2 c3 c4 c5 => hs.1 c i (by omega) (by omega) (by omega)) hs.2.2.1 hs.2.1 h
section REX
variable {A : Nat → Nat} {d b : Nat} {h : Nat → Option jC} {J : Nat → Nat → Int64} {R : Nat → Nat → Nat} {t : Nat → Int32} {N m B0 M0 : Nat} {S : Nat → pR} {g dp D pr : Nat}
/-- two parts and a sign between them -/
theorem xR_two {z z1 z2 : rZ} {lo r1 r2 r e e2 j : Nat} {l l1 : List oT} {s c o tk : Nat} {fr : Int32} (h1 : xR t N z.2.1 z.2.2.2.1 pr lo r1 e l s) (he : e < z.2.2.2.2.2) (hs1 : rSt z z1) (h2 : xR t N z1.2.1 z1.2.2.2.1 pr z.2.2.2.2.2 r2 e2 l1 (s - 1)) (he2 : e2 < z1.2.2.2.2.2) (hs2 : rSt z1 z2) (hnd : nd8 z2.2.1 z1.2.2.2.2.2 (nI 4) (nI c) (nI e) (nI e2) fr) (hlo : lo ≤ z.2.2.2.2.2) (hr1 : r1 < r) (hr2 : r2 < r) (hco : (c = 43 ∧ o = 8) ∨ (c = 45 ∧ o = 9) ∨ (c = 42 ∧ o = 10) ∨ (c = 300 ∧ o = 11) ∨ (c = 60 ∧ o = 12)) (hl : ∀ x, x ∈ l → x.2.2.2 < j) (hl1 : ∀ x, x ∈ l1 → j ≤ x.2.2.2) : xR t N z2.2.1 z2.2.2.2.1 pr lo r z1.2.2.2.2.2 (l ++ l1 ++ [oz pr o tk]) s := by
  obtain ⟨r', hr'⟩ : ∃ r', r = r' + 1 := ⟨r - 1, by omega⟩
  subst hr'
  obtain ⟨d1, d2, d3, d4, _⟩ := hnd
  have hM := hs1.2.2.2.2.2
  have hs0 : 0 < s := by
    cases r1 with
    | zero => exact h1.elim
    | succ r => exact h1.1
  refine ⟨hs0, by omega, Or.inr (Or.inr (Or.inr (Or.inr ⟨d1, e, e2, l, l1, o, tk, c, j, by omega, he2, d3, d4, d2, rfl, ?_, ?_, hco, hl, hl1⟩)))⟩
  · exact xR_mono r1 r' e l s s lo (by omega) (Nat.le_refl _) (Nat.le_refl _) (xR_z (rSt_trans hs1 hs2) he h1)
  · exact xR_mono r2 r' e2 l1 (s - 1) (s - 1) lo (by omega) (Nat.le_refl _) hlo (xR_z hs2 he2 h2)
theorem r197l (hc : rCx A t N m B0 M0) (hSo : ∀ j, j ≤ m → pOK m j (S j)) (hS : rCl A h b J R t N m B0 M0 (D + 6) 198 dp S (QX t N pr g 1)) {z0 : rZ} {j0 : Nat} : ∀ (r : Nat) (z : rZ) (j : Nat) (l : List oT) (a : Nat) (c2 c3 : Option Value), m < r + j → j0 < j → rQ t N m B0 M0 j dp z → rSt z0 z → z.2.2.2.2.2 ≤ z0.2.2.2.2.2 + (j - j0) → xR t N z.2.1 z.2.2.2.1 pr z0.2.2.2.2.2 ((j - j0 + 1) / 2 + g) a l (3 * g + 2) → a < z.2.2.2.2.2 → (∀ x, x ∈ l → x.2.2.2 < j) → (∃ z' j', xPl (KK t N) pr S r l j = (none, j') ∧ M197 A (d + (D + 6)) 5 [some (.ref (b + 241)), some (.int (nI a)), c2, c3] [] (HZ h b J R z) = some (.inr 11, HZ h b J R z') ∧ rF t N m B0 M0 j' z' ∧ rSt z0 z') ∨ ∃ z' l' j' e, xPl (KK t N) pr S r l j = (some l', j') ∧ M197 A (d + (D + 6)) 5 [some (.ref (b + 241)), some (.int (nI a)), c2, c3] [] (HZ h b J R z) = some (.inl (some (.int (nI e))), HZ h b J R z') ∧ rQ t N m B0 M0 j' dp z' ∧ rSt z0 z' ∧ j0 < j' ∧ z'.2.2.2.2.2 ≤ z0.2.2.2.2.2 + (j' - j0) ∧ QX t N pr g 2 z0 z' e j0 j' l' := by
  intro r
  induction r with
  | zero =>
    intro z j l a c2 c3 hr hj0 hq
    have := hq.2.2.2.2.1
    omega
  | succ r ih =>
    intro z j l a c2 c3 hr hj0 hq hst hnz hx ha hl
    have e186 := r186 (d := d + D + 5) (A := A) (b := b) (h := h) (J := J) (R := R) (k0 := 42) hq (by omega) (by omega)
    rw [show d + D + 5 + 1 = d + (D + 6) from rfl, show wcd 42 = nI 42 by decide] at e186
    unfold xPl
    by_cases hK : KK t N j = 42
    · rw [if_pos hK]
      rw [if_pos hK] at e186
      have s18 := (rTk_k hq.2.1).1
      obtain ⟨z1, e1, q1, st1, n1, f1⟩ := rTok (d := d + D) (A := A) (b := b) (h := h) (J := J) (R := R) hc hq (by omega) (by omega)
      rw [show d + D + 6 = d + (D + 6) from rfl] at e1
      have hj1 := q1.2.2.2.2.1
      rcases hS d z1 (j + 1) q1 with ⟨z2, j2, a2, e2, F2, st2⟩ | ⟨z2, l2, j2, ee, a2, e2, q2, st2, hj2, hn2, x2, he2⟩
      · refine Or.inl ⟨z2, j2, pB_n a2, ?_, F2, rSt_trans hst (rSt_trans st1 st2)⟩
        rw [r197_5]
        simp (disch := omega) [r197_0, r197_1, r197_4, r197_6, r197_8, r197_11, r197_14, r197_15, r197_18, r197_19, r197_20, r197_23, r197_24, r197_27, r197_28, r197_29, r197_30, r197_32, r197_33, r197_34, r197_35, r197_38, r197_39, r197_42, r197_43, qa198, qo198, g241, qa186, qo186, vf12_18, qa185, qo185, qa193, qo193, List.getElem?_cons_zero, List.getElem?_cons_succ, List.length_cons, List.length_nil, ag_nx, ag_dn, ag_no, ag_if, jbr1, jbr2, jc1, jc2, jnul, jld, jsto, jstoL, jst1, jst2, jkill, jinc, jbI, jbL, jbS, juI, jl2i, jcmp, jisR, jisI, jisL, jret, jretv, jfits, jdup, jdup2, jpop, jmm, jcat, Value.category, jinv, jrcv, jthr, jhd, jput, jget, jlen, jald, jast, jaast, jgI, jgL, jgB, jtab, jlku, jacp, vf20, vf21, vf22, vf23, vf24, u2_s, u2_k, u2_i, uc_s, uc_k, uc_c, u2_c, LI0, LI1, LI2, LI3, LI4, LI5, LI6, LI7, LI8, LI9, LI10, LI11, LI12, LI13, LI14, LI15, LI16, LI17, LI18, LI19, LI20, LI21, LI22, LI23, LI24, LI25, LI26, LI27, LI28, LI29, LI30, LI31, LI32, LI33, LI34, LI35, LI36, LI37, LI40, LI42, LI43, LI45, LI48, LI60, LI61, LI64, LI80, LI300, LI400, LI1000, LI2000, LI2001, LI2047, LI2048, LI100000, LI1000000, LI38, LI39, LI41, LI44, LI46, LI47, LI49, LI50, LI51, LI52, LI53, LI54, LI55, LI56, LI57, LI58, LI59, LI62, LI63, LI65, LI66, LI67, LI68, LI69, LI70, LI71, LI72, LI73, LI74, LI75, LI76, LI77, LI78, LI79, LI81, LI82, LI83, LI84, LI85, LI86, LI87, LI88, LI89, LI90, LI91, LI92, LI93, LI94, LI95, LI96, LI97, LI98, LI99, LI100, LI101, LI102, LI103, LI104, LI105, LI106, LI107, LI108, LI109, LI110, LI111, LI112, LI113, LI114, LI115, LI116, LI117, LI118, LI119, LI120, LI121, LI122, LI123, LI124, LI125, LI126, LI127, LI255, LI256, LI999, LI1001, LI1002, LI1600, LI4096, LI1000001, LI2042, LM, nI_clamp, nI_pos', nI_lt, nI_nlt, nI_le, nI_ge, nI_ne, nI_add, nI_sub, mI_lt, mI_le, mI_nlt, mI_nle, mI_ne, mI_ne', mI_nem, e186, s18, e1, e2]
      · have o2 := hSo (j + 1) hj1
        rw [a2] at o2
        obtain ⟨o21, o22, o23⟩ := o2
        obtain ⟨o24, o25⟩ := o23 l2 rfl
        simp only at o21 o22 o24 o25
        have hM2 := q1.2.2.2.2.2
        have hMz := hq.2.2.2.2.2
        have hMM : z2.2.2.2.2.2 < M0 + j2 := by omega
        obtain ⟨z3, e3, q3, st3, n3, _, d3, f3⟩ := rNode (d := d + D + 4) (A := A) (b := b) (h := h) (J := J) (R := R) (k := nI 4) (x1 := nI 42) (x2 := nI a) (x3 := nI ee) (fr := nI (tpos t N j)) hc q2 hMM
        rw [show d + D + 4 + 2 = d + (D + 6) from rfl] at e3
        rw [pB_s a2]
        have hx' : xR t N z1.2.1 z1.2.2.2.1 pr z0.2.2.2.2.2 ((j - j0 + 1) / 2 + g) a l (3 * g + 2) := xR_z st1 ha hx
        have ha1 : a < z1.2.2.2.2.2 := by rw [n1]; exact ha
        have hlo : z0.2.2.2.2.2 ≤ z1.2.2.2.2.2 := (rSt_trans hst st1).2.2.2.2.2
        have x3 := xR_two (z := z1) (z1 := z2) (z2 := z3) (lo := z0.2.2.2.2.2) (r := (j2 - j0 + 1) / 2 + g) (j := j + 1) (o := 10) (tk := j2 - 1) hx' ha1 st2 (xR_mono _ _ _ _ _ (3 * g + 2 - 1) _ (Nat.le_refl _) (by omega) (Nat.le_refl _) x2) he2 st3 d3 hlo (by omega) (by omega) (by omega) (fun x hx => by have := hl x hx; omega) (fun x hx => (o25 x hx).1)
        have := ih z3 j2 (l ++ l2 ++ [oz pr 10 (j2 - 1)]) z2.2.2.2.2.2 (some (.int (nI (tpos t N j)))) (some (.int (nI ee))) (by omega) (by omega) q3 (rSt_trans hst (rSt_trans st1 (rSt_trans st2 st3))) (by omega) x3 (by rw [n3]; omega) (fun x hx => by
          simp only [List.mem_append, List.mem_cons, List.not_mem_nil, or_false] at hx
          rcases hx with (hx | hx) | hx
          · have := hl x hx; omega
          · exact (o25 x hx).2
          · rw [hx]; show j2 - 1 < j2; omega)
        have eL : M197 A (d + (D + 6)) 5 [some (.ref (b + 241)), some (.int (nI a)), c2, c3] [] (HZ h b J R z) = M197 A (d + (D + 6)) 5 [some (.ref (b + 241)), some (.int (nI z2.2.2.2.2.2)), some (.int (nI (tpos t N j))), some (.int (nI ee))] [] (HZ h b J R z3) := by
          rw [r197_5]
          simp (disch := omega) [r197_0, r197_1, r197_4, r197_6, r197_8, r197_11, r197_14, r197_15, r197_18, r197_19, r197_20, r197_23, r197_24, r197_27, r197_28, r197_29, r197_30, r197_32, r197_33, r197_34, r197_35, r197_38, r197_39, r197_42, r197_43, qa198, qo198, g241, qa186, qo186, vf12_18, qa185, qo185, qa193, qo193, List.getElem?_cons_zero, List.getElem?_cons_succ, List.length_cons, List.length_nil, ag_nx, ag_dn, ag_no, ag_if, jbr1, jbr2, jc1, jc2, jnul, jld, jsto, jstoL, jst1, jst2, jkill, jinc, jbI, jbL, jbS, juI, jl2i, jcmp, jisR, jisI, jisL, jret, jretv, jfits, jdup, jdup2, jpop, jmm, jcat, Value.category, jinv, jrcv, jthr, jhd, jput, jget, jlen, jald, jast, jaast, jgI, jgL, jgB, jtab, jlku, jacp, vf20, vf21, vf22, vf23, vf24, u2_s, u2_k, u2_i, uc_s, uc_k, uc_c, u2_c, LI0, LI1, LI2, LI3, LI4, LI5, LI6, LI7, LI8, LI9, LI10, LI11, LI12, LI13, LI14, LI15, LI16, LI17, LI18, LI19, LI20, LI21, LI22, LI23, LI24, LI25, LI26, LI27, LI28, LI29, LI30, LI31, LI32, LI33, LI34, LI35, LI36, LI37, LI40, LI42, LI43, LI45, LI48, LI60, LI61, LI64, LI80, LI300, LI400, LI1000, LI2000, LI2001, LI2047, LI2048, LI100000, LI1000000, LI38, LI39, LI41, LI44, LI46, LI47, LI49, LI50, LI51, LI52, LI53, LI54, LI55, LI56, LI57, LI58, LI59, LI62, LI63, LI65, LI66, LI67, LI68, LI69, LI70, LI71, LI72, LI73, LI74, LI75, LI76, LI77, LI78, LI79, LI81, LI82, LI83, LI84, LI85, LI86, LI87, LI88, LI89, LI90, LI91, LI92, LI93, LI94, LI95, LI96, LI97, LI98, LI99, LI100, LI101, LI102, LI103, LI104, LI105, LI106, LI107, LI108, LI109, LI110, LI111, LI112, LI113, LI114, LI115, LI116, LI117, LI118, LI119, LI120, LI121, LI122, LI123, LI124, LI125, LI126, LI127, LI255, LI256, LI999, LI1001, LI1002, LI1600, LI4096, LI1000001, LI2042, LM, nI_clamp, nI_pos', nI_lt, nI_nlt, nI_le, nI_ge, nI_ne, nI_add, nI_sub, mI_lt, mI_le, mI_nlt, mI_nle, mI_ne, mI_ne', mI_nem, e186, s18, e1, e2, e3]
        rw [eL]
        exact this
    · rw [if_neg hK]
      rw [if_neg hK] at e186
      refine Or.inr ⟨z, l, j, a, rfl, ?_, hq, hst, hj0, hnz, hx, ha⟩
      rw [r197_5]
      simp (disch := omega) [r197_0, r197_1, r197_4, r197_6, r197_8, r197_11, r197_14, r197_15, r197_18, r197_19, r197_20, r197_23, r197_24, r197_27, r197_28, r197_29, r197_30, r197_32, r197_33, r197_34, r197_35, r197_38, r197_39, r197_42, r197_43, qa198, qo198, g241, qa186, qo186, vf12_18, qa185, qo185, qa193, qo193, List.getElem?_cons_zero, List.getElem?_cons_succ, List.length_cons, List.length_nil, ag_nx, ag_dn, ag_no, ag_if, jbr1, jbr2, jc1, jc2, jnul, jld, jsto, jstoL, jst1, jst2, jkill, jinc, jbI, jbL, jbS, juI, jl2i, jcmp, jisR, jisI, jisL, jret, jretv, jfits, jdup, jdup2, jpop, jmm, jcat, Value.category, jinv, jrcv, jthr, jhd, jput, jget, jlen, jald, jast, jaast, jgI, jgL, jgB, jtab, jlku, jacp, vf20, vf21, vf22, vf23, vf24, u2_s, u2_k, u2_i, uc_s, uc_k, uc_c, u2_c, LI0, LI1, LI2, LI3, LI4, LI5, LI6, LI7, LI8, LI9, LI10, LI11, LI12, LI13, LI14, LI15, LI16, LI17, LI18, LI19, LI20, LI21, LI22, LI23, LI24, LI25, LI26, LI27, LI28, LI29, LI30, LI31, LI32, LI33, LI34, LI35, LI36, LI37, LI40, LI42, LI43, LI45, LI48, LI60, LI61, LI64, LI80, LI300, LI400, LI1000, LI2000, LI2001, LI2047, LI2048, LI100000, LI1000000, LI38, LI39, LI41, LI44, LI46, LI47, LI49, LI50, LI51, LI52, LI53, LI54, LI55, LI56, LI57, LI58, LI59, LI62, LI63, LI65, LI66, LI67, LI68, LI69, LI70, LI71, LI72, LI73, LI74, LI75, LI76, LI77, LI78, LI79, LI81, LI82, LI83, LI84, LI85, LI86, LI87, LI88, LI89, LI90, LI91, LI92, LI93, LI94, LI95, LI96, LI97, LI98, LI99, LI100, LI101, LI102, LI103, LI104, LI105, LI106, LI107, LI108, LI109, LI110, LI111, LI112, LI113, LI114, LI115, LI116, LI117, LI118, LI119, LI120, LI121, LI122, LI123, LI124, LI125, LI126, LI127, LI255, LI256, LI999, LI1001, LI1002, LI1600, LI4096, LI1000001, LI2042, LM, nI_clamp, nI_pos', nI_lt, nI_nlt, nI_le, nI_ge, nI_ne, nI_add, nI_sub, mI_lt, mI_le, mI_nlt, mI_nle, mI_ne, mI_ne', mI_nem, e186]
end REX
