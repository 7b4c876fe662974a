/-! the reference reads a state -/
section RST
variable {A : Nat → Nat} {d b : Nat} {h : Nat → Option jC} {J : Nat → Nat → Int64} {R : Nat → Nat → Nat} {t : Nat → Int32} {N m B0 M0 : Nat} {pr : Nat}
theorem clsR_inc {I : Nat → Nat → Int32} {nn : Nat} : ∀ (cs : List Nat) (qs : List qCl) (lo hi a : Nat), clsR t N I nn pr lo (cs ++ [a]) qs hi → ∀ y, y ∈ cs → y < a := by
  intro cs
  induction cs with
  | nil => intro qs lo hi a _ y hy; cases hy
  | cons c cs ih =>
    intro qs lo hi a h y hy
    cases qs with
    | nil => exact h.elim
    | cons q qs =>
      obtain ⟨k, _, h2, h3⟩ := h
      rcases List.mem_cons.mp hy with e | e
      · have := (clsR_ge _ _ _ _ h3).2 a (List.mem_append_right _ List.mem_cons_self)
        have := h2.1
        omega
      · exact ih qs k hi a h3 y e
theorem stsR_inc {I : Nat → Nat → Int32} {nn : Nat} : ∀ (cs : List Nat) (qs : List qSt) (lo hi a : Nat), stsR t N I nn pr lo (cs ++ [a]) qs hi → ∀ y, y ∈ cs → y < a := by
  intro cs
  induction cs with
  | nil => intro qs lo hi a _ y hy; cases hy
  | cons c cs ih =>
    intro qs lo hi a h y hy
    cases qs with
    | nil => exact h.elim
    | cons q qs =>
      obtain ⟨k, _, h2, h3⟩ := h
      rcases List.mem_cons.mp hy with e | e
      · have := (stsR_ge _ _ _ _ h3).2 a (List.mem_append_right _ List.mem_cons_self)
        have := h2.1
        omega
      · exact ih qs k hi a h3 y e
theorem ltsR_inc {I : Nat → Nat → Int32} {nn : Nat} : ∀ (cs : List Nat) (qs : List Nat) (lo hi a : Nat), ltsR t N I nn lo (cs ++ [a]) qs hi → ∀ y, y ∈ cs → y < a := by
  intro cs
  induction cs with
  | nil => intro qs lo hi a _ y hy; cases hy
  | cons c cs ih =>
    intro qs lo hi a h y hy
    cases qs with
    | nil => exact h.elim
    | cons q qs =>
      obtain ⟨_, _, _, _, _, _, _, h3⟩ := h
      rcases List.mem_cons.mp hy with e | e
      · have := (ltsR_ge _ _ _ _ h3).2 a (List.mem_append_right _ List.mem_cons_self)
        omega
      · exact ih qs (c + 1) hi a h3 y e
/-- a node more at the end of a chain -/
theorem lnk {I : Nat → Nat → Int32} {hd p c : Nat} {as : List Nat} {lst : Int32} (hl : lsA as lst) (h : chn I (I hd p) as) (hi : ∀ as' a, as = as' ++ [a] → ∀ y, y ∈ as' → y < a) (hb : ∀ y, y ∈ as → y < c) (hc : I 255 c = mI 1) (hh : hd ≠ 255) : (as = [] ∧ lst = mI 1 ∧ chn (u2 I hd p (nI c)) (u2 I hd p (nI c) hd p) (as ++ [c])) ∨ ∃ a, a ∈ as ∧ lst = nI a ∧ chn (u2 I 255 a (nI c)) (u2 I 255 a (nI c) hd p) (as ++ [c]) := by
  rcases hl with ⟨e1, e2⟩ | ⟨as', a, e1, e2⟩
  · refine Or.inl ⟨e1, e2, ?_⟩
    rw [e1, u2_s]
    refine ⟨rfl, ?_⟩
    rw [u2_k (by omega)]
    exact hc
  · refine Or.inr ⟨a, by rw [e1]; exact List.mem_append_right _ List.mem_cons_self, e2, ?_⟩
    have ha := hb a (by rw [e1]; exact List.mem_append_right _ List.mem_cons_self)
    have hy := hi as' a e1
    rw [u2_k hh, e1]
    rw [e1] at h
    exact chn_app as' _ (fun y h1 => by have := hy y h1; omega) hc (by omega) h
theorem lsA_app {as : List Nat} {c : Nat} : lsA (as ++ [c]) (nI c) := Or.inr ⟨as, c, rfl, rfl⟩
/-- a state as far as it is read -/
def stI (t : Nat → Int32) (N pr s jn : Nat) (z : rZ) (cs : List Nat) (qs : List qCl) : Prop := s < z.2.2.2.2.2 ∧ z.2.1 251 s = nI 32 ∧ nmA t N z.2.1 z.2.2.2.1 (z.2.1 252 s) jn ∧ z.2.1 256 s = nI (tpos t N jn) ∧ z.2.1 255 s = mI 1 ∧ chn z.2.1 (z.2.1 253 s) cs ∧ clsR t N z.2.1 z.2.2.2.1 pr (s + 1) cs qs z.2.2.2.2.2
theorem stI_z {s jn : Nat} {z z' : rZ} {cs : List Nat} {qs : List qCl} (hs : rSt z z') (h : stI t N pr s jn z cs qs) : s < z'.2.2.2.2.2 ∧ z'.2.1 251 s = nI 32 ∧ nmA t N z'.2.1 z'.2.2.2.1 (z'.2.1 252 s) jn ∧ z'.2.1 256 s = nI (tpos t N jn) ∧ z'.2.1 255 s = mI 1 ∧ chn z'.2.1 (z'.2.1 253 s) cs ∧ clsR t N z'.2.1 z'.2.2.2.1 pr (s + 1) cs qs z.2.2.2.2.2 := by
  obtain ⟨h1, h2, h3, h4, h5, h6, h7⟩ := h
  have hm := hs.2.2.2.2.2
  obtain ⟨g1, g2⟩ := clsR_ge _ _ _ _ h7
  have f : ∀ k i, 251 ≤ k → k ≤ 258 → i < z.2.2.2.2.2 → z'.2.1 k i = z.2.1 k i := fun k i a b e => hs.1 k i (by omega) (by omega) (by omega)
  refine ⟨by omega, (f 251 s (by omega) (by omega) h1).trans h2, ?_, (f 256 s (by omega) (by omega) h1).trans h4, (f 255 s (by omega) (by omega) h1).trans h5, ?_, clsR_st cs qs _ _ (fun k i a b e g n => f k i a b g) hs.2.2.1 hs.2.1 h7⟩
  · rw [f 252 s (by omega) (by omega) h1]; exact nmA_z hs h3
  · rw [f 253 s (by omega) (by omega) h1]
    exact chn_st cs _ (fun a ha => f 255 a (by omega) (by omega) (g2 a ha).2) h6
theorem r206l (hc : rCx A t N m B0 M0) {U : Nat → Int32} {z0 : rZ} {j0 jn : Nat} {Q : List qPr} {c0 : qPr} {v1 : Option Value} : ∀ (r : Nat) (z : rZ) (j : Nat) (C : List oT) (qs : List qCl) (cs : List Nat) (lst : Int32) (v4 : Option Value), m + 1 ≤ r + j → rQ t N m B0 M0 j 0 z → rSt z0 z → z.2.2.2.2.2 ≤ z0.2.2.2.2.2 + (j - j0) → j0 ≤ j → stI t N (nPr Q) z0.2.2.2.2.2 jn z cs qs → lsA cs lst → (∃ z' j' C', pG (KK t N) U r 2 j C Q c0 (jn, qs) = (none, j', C') ∧ M206 A (d + 60) 31 [some (.ref (b + 241)), v1, some (.int (nI z0.2.2.2.2.2)), some (.int lst), v4] [] (HZ h b J R z) = some (.inr 11, HZ h b J R z') ∧ rF t N m B0 M0 j' z' ∧ rSt z0 z') ∨ ∃ z' r' j' C' q, pG (KK t N) U r 2 j C Q c0 (jn, qs) = pG (KK t N) U r' 1 j' C' Q (c0.1, c0.2.1, c0.2.2.1, c0.2.2.2 ++ [q]) q ∧ M206 A (d + 60) 31 [some (.ref (b + 241)), v1, some (.int (nI z0.2.2.2.2.2)), some (.int lst), v4] [] (HZ h b J R z) = some (.inl (some (.int (nI z0.2.2.2.2.2))), HZ h b J R z') ∧ m + 1 ≤ r' + j' ∧ rQ t N m B0 M0 j' 0 z' ∧ rSt z0 z' ∧ j0 < j' ∧ z'.2.2.2.2.2 ≤ z0.2.2.2.2.2 + (j' - j0) ∧ stR t N z'.2.1 z'.2.2.2.1 (nPr Q) z'.2.2.2.2.2 z0.2.2.2.2.2 q ∧ z'.2.1 255 z0.2.2.2.2.2 = mI 1 := by
  intro r
  induction r with
  | zero =>
    intro z j C qs cs lst v4 hr hq
    have := hq.2.2.2.2.1
    omega
  | succ r ih =>
    intro z j C qs cs lst v4 hr hq hst hnz hj0 hI hls
    have hMm := hq.1.2.2.2.2.2.2.2
    have hcx := hc.2.2.2.2
    have hk1 := hc.2.2.1.1
    have hj := hq.2.2.2.2.1
    have e186 := r186 (d := d + 59) (A := A) (b := b) (h := h) (J := J) (R := R) (k0 := 125) hq (by omega) (by omega)
    rw [show wcd 125 = nI 125 by decide] at e186
    show (∃ z' j' C', (if KK t N j = 125 then pG (KK t N) U r 1 (j + 1) C Q (c0.1, c0.2.1, c0.2.2.1, c0.2.2.2 ++ [(jn, qs)]) (jn, qs) else (match pCs (KK t N) (nPr Q) C j with
      | (none, j', C') => (none, j', C')
      | (some cl, j', C') => pG (KK t N) U r 2 j' C' Q c0 (jn, qs ++ [cl]))) = (none, j', C') ∧ _) ∨ ∃ z' r' j' C' q, (if KK t N j = 125 then pG (KK t N) U r 1 (j + 1) C Q (c0.1, c0.2.1, c0.2.2.1, c0.2.2.2 ++ [(jn, qs)]) (jn, qs) else (match pCs (KK t N) (nPr Q) C j with
      | (none, j', C') => (none, j', C')
      | (some cl, j', C') => pG (KK t N) U r 2 j' C' Q c0 (jn, qs ++ [cl]))) = pG (KK t N) U r' 1 j' C' Q (c0.1, c0.2.1, c0.2.2.1, c0.2.2.2 ++ [q]) q ∧ _
    by_cases hK : KK t N j = 125
    · rw [if_pos hK]
      rw [if_pos hK] at e186
      obtain ⟨z1, e1, q1, st1, n1, f1, _⟩ := rTok (d := d + 54) (A := A) (b := b) (h := h) (J := J) (R := R) hc hq (by omega) (by omega)
      obtain ⟨k1, k2, k3, k4, k5, k6, k7⟩ := stI_z st1 hI
      refine Or.inr ⟨z1, r, j + 1, C, (jn, qs), rfl, ?_, by omega, q1, rSt_trans hst st1, by omega, by omega, ⟨k1, k2, k3, k4, cs, k6, clsR_mono _ _ _ _ _ (by omega) k7⟩, k5⟩
      simp (disch := omega) [r206_0, r206_1, r206_4, r206_5, r206_8, r206_9, r206_10, r206_12, r206_13, r206_14, r206_15, r206_16, r206_19, r206_22, r206_23, r206_24, r206_26, r206_29, r206_30, r206_32, r206_34, r206_37, r206_40, r206_41, r206_44, r206_46, r206_47, r206_50, r206_51, r206_54, r206_55, r206_57, r206_58, r206_61, r206_62, r206_65, r206_66, r206_68, r206_69, r206_71, r206_72, r206_75, r206_76, r206_79, r206_80, qa185, qo185, g241, qa192, qo192, vf12_20, qa193, qo193, qa190, qo190, qa186, qo186, qa207, qo207, vf12_23, t241_23, g253, p253, vf12_25, t241_25, g255, p255, r206_31, List.getElem?_cons_zero, List.getElem?_cons_succ, List.length_cons, List.length_nil, ag_nx, ag_dn, ag_no, ag_if, jbr1, jbr2, jc1, jc2, jnul, jld, jsto, jstoL, jst1, jst2, jkill, jinc, jbI, jbL, jbS, juI, jl2i, jcmp, jisR, jisI, jisL, jret, jretv, jfits, jdup, jdup2, jpop, jmm, jcat, Value.category, jinv, jrcv, jthr, jhd, jput, jget, jlen, jald, jast, jaast, jgI, jgL, jgB, jtab, jlku, jacp, vf20, vf21, vf22, vf23, vf24, u2_s, u2_k, u2_i, uc_s, uc_k, uc_c, u2_c, LI0, LI1, LI2, LI3, LI4, LI5, LI6, LI7, LI8, LI9, LI10, LI11, LI12, LI13, LI14, LI15, LI16, LI17, LI18, LI19, LI20, LI21, LI22, LI23, LI24, LI25, LI26, LI27, LI28, LI29, LI30, LI31, LI32, LI33, LI34, LI35, LI36, LI37, LI40, LI42, LI43, LI45, LI48, LI60, LI61, LI64, LI80, LI300, LI400, LI1000, LI2000, LI2001, LI2047, LI2048, LI100000, LI1000000, LI38, LI39, LI41, LI44, LI46, LI47, LI49, LI50, LI51, LI52, LI53, LI54, LI55, LI56, LI57, LI58, LI59, LI62, LI63, LI65, LI66, LI67, LI68, LI69, LI70, LI71, LI72, LI73, LI74, LI75, LI76, LI77, LI78, LI79, LI81, LI82, LI83, LI84, LI85, LI86, LI87, LI88, LI89, LI90, LI91, LI92, LI93, LI94, LI95, LI96, LI97, LI98, LI99, LI100, LI101, LI102, LI103, LI104, LI105, LI106, LI107, LI108, LI109, LI110, LI111, LI112, LI113, LI114, LI115, LI116, LI117, LI118, LI119, LI120, LI121, LI122, LI123, LI124, LI125, LI126, LI127, LI255, LI256, LI999, LI1001, LI1002, LI1600, LI4096, LI1000001, LI2042, LM, nI_clamp, nI_pos', nI_lt, nI_nlt, nI_le, nI_ge, nI_ne, nI_add, nI_sub, mI_lt, mI_le, mI_nlt, mI_nle, mI_ne, mI_ne', mI_nem, e186, e1]
    · rw [if_neg hK]
      rw [if_neg hK] at e186
      rcases r207 (d := d) (A := A) (b := b) (h := h) (J := J) (R := R) (pr := nPr Q) (C := C) hc hq with ⟨z1, j1, C1, a1, e1, F1, st1⟩ | ⟨z1, q, j1, C1, a1, e1, q1, st1, hj1, hn1, hcl, h255⟩
      · rw [a1]
        refine Or.inl ⟨z1, j1, C1, rfl, ?_, F1, rSt_trans hst st1⟩
        simp (disch := omega) [r206_0, r206_1, r206_4, r206_5, r206_8, r206_9, r206_10, r206_12, r206_13, r206_14, r206_15, r206_16, r206_19, r206_22, r206_23, r206_24, r206_26, r206_29, r206_30, r206_32, r206_34, r206_37, r206_40, r206_41, r206_44, r206_46, r206_47, r206_50, r206_51, r206_54, r206_55, r206_57, r206_58, r206_61, r206_62, r206_65, r206_66, r206_68, r206_69, r206_71, r206_72, r206_75, r206_76, r206_79, r206_80, qa185, qo185, g241, qa192, qo192, vf12_20, qa193, qo193, qa190, qo190, qa186, qo186, qa207, qo207, vf12_23, t241_23, g253, p253, vf12_25, t241_25, g255, p255, r206_31, List.getElem?_cons_zero, List.getElem?_cons_succ, List.length_cons, List.length_nil, ag_nx, ag_dn, ag_no, ag_if, jbr1, jbr2, jc1, jc2, jnul, jld, jsto, jstoL, jst1, jst2, jkill, jinc, jbI, jbL, jbS, juI, jl2i, jcmp, jisR, jisI, jisL, jret, jretv, jfits, jdup, jdup2, jpop, jmm, jcat, Value.category, jinv, jrcv, jthr, jhd, jput, jget, jlen, jald, jast, jaast, jgI, jgL, jgB, jtab, jlku, jacp, vf20, vf21, vf22, vf23, vf24, u2_s, u2_k, u2_i, uc_s, uc_k, uc_c, u2_c, LI0, LI1, LI2, LI3, LI4, LI5, LI6, LI7, LI8, LI9, LI10, LI11, LI12, LI13, LI14, LI15, LI16, LI17, LI18, LI19, LI20, LI21, LI22, LI23, LI24, LI25, LI26, LI27, LI28, LI29, LI30, LI31, LI32, LI33, LI34, LI35, LI36, LI37, LI40, LI42, LI43, LI45, LI48, LI60, LI61, LI64, LI80, LI300, LI400, LI1000, LI2000, LI2001, LI2047, LI2048, LI100000, LI1000000, LI38, LI39, LI41, LI44, LI46, LI47, LI49, LI50, LI51, LI52, LI53, LI54, LI55, LI56, LI57, LI58, LI59, LI62, LI63, LI65, LI66, LI67, LI68, LI69, LI70, LI71, LI72, LI73, LI74, LI75, LI76, LI77, LI78, LI79, LI81, LI82, LI83, LI84, LI85, LI86, LI87, LI88, LI89, LI90, LI91, LI92, LI93, LI94, LI95, LI96, LI97, LI98, LI99, LI100, LI101, LI102, LI103, LI104, LI105, LI106, LI107, LI108, LI109, LI110, LI111, LI112, LI113, LI114, LI115, LI116, LI117, LI118, LI119, LI120, LI121, LI122, LI123, LI124, LI125, LI126, LI127, LI255, LI256, LI999, LI1001, LI1002, LI1600, LI4096, LI1000001, LI2042, LM, nI_clamp, nI_pos', nI_lt, nI_nlt, nI_le, nI_ge, nI_ne, nI_add, nI_sub, mI_lt, mI_le, mI_nlt, mI_nle, mI_ne, mI_ne', mI_nem, e186, e1]
      · rw [a1]
        simp only
        have hq1j := q1.2.2.2.2.1
        obtain ⟨k1, k2, k3, k4, k5, k6, k7⟩ := stI_z st1 hI
        obtain ⟨g1, g2⟩ := clsR_ge _ _ _ _ k7
        obtain ⟨cap, c1, c2, c3, c4⟩ := q1.1.2.2.2.2.2.2.1
        have hm1 := hcl.1
        have hs0 := hI.1
        have STEP : ∃ k i, 251 ≤ k ∧ k ≤ 258 ∧ ((k = 253 ∧ i = z0.2.2.2.2.2) ∨ (k = 255 ∧ i ∈ cs)) ∧ M206 A (d + 60) 31 [some (.ref (b + 241)), v1, some (.int (nI z0.2.2.2.2.2)), some (.int lst), v4] [] (HZ h b J R z) = M206 A (d + 60) 31 [some (.ref (b + 241)), v1, some (.int (nI z0.2.2.2.2.2)), some (.int (nI z.2.2.2.2.2)), some (.int (nI z.2.2.2.2.2))] [] (HZ h b J R (z1.1, u2 z1.2.1 k i (nI z.2.2.2.2.2), z1.2.2)) ∧ chn (u2 z1.2.1 k i (nI z.2.2.2.2.2)) (u2 z1.2.1 k i (nI z.2.2.2.2.2) 253 z0.2.2.2.2.2) (cs ++ [z.2.2.2.2.2]) := by
          rcases lnk (hd := 253) hls k6 (fun as' a e y hy => clsR_inc as' qs _ _ a (e ▸ k7) y hy) (fun y hy => (g2 y hy).2) h255 (by omega) with ⟨p1, p2, p3⟩ | ⟨a, p1, p2, p3⟩
          · refine ⟨253, z0.2.2.2.2.2, by omega, by omega, Or.inl ⟨rfl, rfl⟩, ?_, p3⟩
            have h253 : z0.2.2.2.2.2 < cp z1.1 253 := by rw [c1 253 (by omega) (by omega)]; omega
            rw [p2]
            simp (disch := omega) [r206_0, r206_1, r206_4, r206_5, r206_8, r206_9, r206_10, r206_12, r206_13, r206_14, r206_15, r206_16, r206_19, r206_22, r206_23, r206_24, r206_26, r206_29, r206_30, r206_32, r206_34, r206_37, r206_40, r206_41, r206_44, r206_46, r206_47, r206_50, r206_51, r206_54, r206_55, r206_57, r206_58, r206_61, r206_62, r206_65, r206_66, r206_68, r206_69, r206_71, r206_72, r206_75, r206_76, r206_79, r206_80, qa185, qo185, g241, qa192, qo192, vf12_20, qa193, qo193, qa190, qo190, qa186, qo186, qa207, qo207, vf12_23, t241_23, g253, p253, vf12_25, t241_25, g255, p255, r206_31, List.getElem?_cons_zero, List.getElem?_cons_succ, List.length_cons, List.length_nil, ag_nx, ag_dn, ag_no, ag_if, jbr1, jbr2, jc1, jc2, jnul, jld, jsto, jstoL, jst1, jst2, jkill, jinc, jbI, jbL, jbS, juI, jl2i, jcmp, jisR, jisI, jisL, jret, jretv, jfits, jdup, jdup2, jpop, jmm, jcat, Value.category, jinv, jrcv, jthr, jhd, jput, jget, jlen, jald, jast, jaast, jgI, jgL, jgB, jtab, jlku, jacp, vf20, vf21, vf22, vf23, vf24, u2_s, u2_k, u2_i, uc_s, uc_k, uc_c, u2_c, LI0, LI1, LI2, LI3, LI4, LI5, LI6, LI7, LI8, LI9, LI10, LI11, LI12, LI13, LI14, LI15, LI16, LI17, LI18, LI19, LI20, LI21, LI22, LI23, LI24, LI25, LI26, LI27, LI28, LI29, LI30, LI31, LI32, LI33, LI34, LI35, LI36, LI37, LI40, LI42, LI43, LI45, LI48, LI60, LI61, LI64, LI80, LI300, LI400, LI1000, LI2000, LI2001, LI2047, LI2048, LI100000, LI1000000, LI38, LI39, LI41, LI44, LI46, LI47, LI49, LI50, LI51, LI52, LI53, LI54, LI55, LI56, LI57, LI58, LI59, LI62, LI63, LI65, LI66, LI67, LI68, LI69, LI70, LI71, LI72, LI73, LI74, LI75, LI76, LI77, LI78, LI79, LI81, LI82, LI83, LI84, LI85, LI86, LI87, LI88, LI89, LI90, LI91, LI92, LI93, LI94, LI95, LI96, LI97, LI98, LI99, LI100, LI101, LI102, LI103, LI104, LI105, LI106, LI107, LI108, LI109, LI110, LI111, LI112, LI113, LI114, LI115, LI116, LI117, LI118, LI119, LI120, LI121, LI122, LI123, LI124, LI125, LI126, LI127, LI255, LI256, LI999, LI1001, LI1002, LI1600, LI4096, LI1000001, LI2042, LM, nI_clamp, nI_pos', nI_lt, nI_nlt, nI_le, nI_ge, nI_ne, nI_add, nI_sub, mI_lt, mI_le, mI_nlt, mI_nle, mI_ne, mI_ne', mI_nem, e186, e1, h253]
          · refine ⟨255, a, by omega, by omega, Or.inr ⟨rfl, p1⟩, ?_, p3⟩
            have ha := g2 a p1
            have h2 : a < cp z1.1 255 := by rw [c1 255 (by omega) (by omega)]; omega
            rw [p2]
            simp (disch := omega) [r206_0, r206_1, r206_4, r206_5, r206_8, r206_9, r206_10, r206_12, r206_13, r206_14, r206_15, r206_16, r206_19, r206_22, r206_23, r206_24, r206_26, r206_29, r206_30, r206_32, r206_34, r206_37, r206_40, r206_41, r206_44, r206_46, r206_47, r206_50, r206_51, r206_54, r206_55, r206_57, r206_58, r206_61, r206_62, r206_65, r206_66, r206_68, r206_69, r206_71, r206_72, r206_75, r206_76, r206_79, r206_80, qa185, qo185, g241, qa192, qo192, vf12_20, qa193, qo193, qa190, qo190, qa186, qo186, qa207, qo207, vf12_23, t241_23, g253, p253, vf12_25, t241_25, g255, p255, r206_31, List.getElem?_cons_zero, List.getElem?_cons_succ, List.length_cons, List.length_nil, ag_nx, ag_dn, ag_no, ag_if, jbr1, jbr2, jc1, jc2, jnul, jld, jsto, jstoL, jst1, jst2, jkill, jinc, jbI, jbL, jbS, juI, jl2i, jcmp, jisR, jisI, jisL, jret, jretv, jfits, jdup, jdup2, jpop, jmm, jcat, Value.category, jinv, jrcv, jthr, jhd, jput, jget, jlen, jald, jast, jaast, jgI, jgL, jgB, jtab, jlku, jacp, vf20, vf21, vf22, vf23, vf24, u2_s, u2_k, u2_i, uc_s, uc_k, uc_c, u2_c, LI0, LI1, LI2, LI3, LI4, LI5, LI6, LI7, LI8, LI9, LI10, LI11, LI12, LI13, LI14, LI15, LI16, LI17, LI18, LI19, LI20, LI21, LI22, LI23, LI24, LI25, LI26, LI27, LI28, LI29, LI30, LI31, LI32, LI33, LI34, LI35, LI36, LI37, LI40, LI42, LI43, LI45, LI48, LI60, LI61, LI64, LI80, LI300, LI400, LI1000, LI2000, LI2001, LI2047, LI2048, LI100000, LI1000000, LI38, LI39, LI41, LI44, LI46, LI47, LI49, LI50, LI51, LI52, LI53, LI54, LI55, LI56, LI57, LI58, LI59, LI62, LI63, LI65, LI66, LI67, LI68, LI69, LI70, LI71, LI72, LI73, LI74, LI75, LI76, LI77, LI78, LI79, LI81, LI82, LI83, LI84, LI85, LI86, LI87, LI88, LI89, LI90, LI91, LI92, LI93, LI94, LI95, LI96, LI97, LI98, LI99, LI100, LI101, LI102, LI103, LI104, LI105, LI106, LI107, LI108, LI109, LI110, LI111, LI112, LI113, LI114, LI115, LI116, LI117, LI118, LI119, LI120, LI121, LI122, LI123, LI124, LI125, LI126, LI127, LI255, LI256, LI999, LI1001, LI1002, LI1600, LI4096, LI1000001, LI2042, LM, nI_clamp, nI_pos', nI_lt, nI_nlt, nI_le, nI_ge, nI_ne, nI_add, nI_sub, mI_lt, mI_le, mI_nlt, mI_nle, mI_ne, mI_ne', mI_nem, e186, e1, h2]
        obtain ⟨k, i, b1, b2, b3, b4, b5⟩ := STEP
        have hi : z0.2.2.2.2.2 ≤ i ∧ i < z.2.2.2.2.2 := by
          rcases b3 with ⟨_, e⟩ | ⟨_, e⟩
          · omega
          · have := g2 i e; omega
        rw [b4]
        have hf : ∀ k' i', ¬ (k' = k ∧ i' = i) → u2 z1.2.1 k i (nI z.2.2.2.2.2) k' i' = z1.2.1 k' i' := fun k' i' e => by unfold u2; rw [if_neg e]
        have hs : ∀ k', 251 ≤ k' → k' ≤ 258 → k' ≠ 253 → u2 z1.2.1 k i (nI z.2.2.2.2.2) k' z0.2.2.2.2.2 = z1.2.1 k' z0.2.2.2.2.2 := fun k' e1 e2 e3 => hf k' _ (fun e => by
          rcases b3 with ⟨e4, _⟩ | ⟨_, e4⟩
          · omega
          · have := g2 i e4; omega)
        have hI2 : stI t N (nPr Q) z0.2.2.2.2.2 jn (z1.1, u2 z1.2.1 k i (nI z.2.2.2.2.2), z1.2.2) (cs ++ [z.2.2.2.2.2]) (qs ++ [q]) := by
          refine ⟨by show _ < z1.2.2.2.2.2; omega, (hs 251 (by omega) (by omega) (by omega)).trans k2, ?_, (hs 256 (by omega) (by omega) (by omega)).trans k4, (hs 255 (by omega) (by omega) (by omega)).trans k5, b5, clsR_app cs qs _ z.2.2.2.2.2 z1.2.2.2.2.2 _ q ?_ (Nat.le_refl _) ?_⟩
          · show nmA t N (u2 z1.2.1 k i (nI z.2.2.2.2.2)) z1.2.2.2.1 (u2 z1.2.1 k i (nI z.2.2.2.2.2) 252 z0.2.2.2.2.2) jn
            rw [hs 252 (by omega) (by omega) (by omega)]
            exact nmA_st (I := z1.2.1) (fun u hu => rnm_n (by omega)) (Nat.le_refl _) k3
          · refine clsR_st (I := z1.2.1) (nn := z1.2.2.2.1) cs qs _ _ (fun k' i' e1 e2 e3 e4 e5 => hf k' i' (fun e => ?_)) (fun u hu => rnm_n (by omega)) (Nat.le_refl _) k7
            rcases b3 with ⟨_, e6⟩ | ⟨e6, e7⟩
            · omega
            · exact e5 ⟨by omega, e.2 ▸ e7⟩
          · exact clR_st (I := z1.2.1) (nn := z1.2.2.2.1) (fun k' i' e1 e2 e3 e4 e5 => hf k' i' (by omega)) (fun u hu => rnm_n (by omega)) (Nat.le_refl _) hcl
        exact ih _ j1 C1 (qs ++ [q]) _ (nI z.2.2.2.2.2) _ (by omega) (rQ_n q1 ⟨b1, b2⟩) (rSt_n (rSt_trans hst st1) ⟨b1, b2⟩ hi.1) (by show z1.2.2.2.2.2 ≤ _; omega) (by omega) hI2 lsA_app
/-- a state: K j = 4 -/
theorem r206 (hc : rCx A t N m B0 M0) {U : Nat → Int32} {Q : List qPr} {c0 : qPr} {s0 : qSt} {r : Nat} {z : rZ} {j : Nat} {C : List oT} (hr : m + 1 ≤ r + j) (hq : rQ t N m B0 M0 j 0 z) (hK : KK t N j = 4) : (∃ z' j' C', pG (KK t N) U r 1 j C Q c0 s0 = (none, j', C') ∧ jcall A jcode (d + 61) 206 [.ref (b + 241)] (HZ h b J R z) = some (.inr 11, HZ h b J R z') ∧ rF t N m B0 M0 j' z' ∧ rSt z z') ∨ ∃ z' r' j' C' q, pG (KK t N) U r 1 j C Q c0 s0 = pG (KK t N) U r' 1 j' C' Q (c0.1, c0.2.1, c0.2.2.1, c0.2.2.2 ++ [q]) q ∧ jcall A jcode (d + 61) 206 [.ref (b + 241)] (HZ h b J R z) = some (.inl (some (.int (nI z.2.2.2.2.2))), HZ h b J R z') ∧ m + 1 ≤ r' + j' ∧ rQ t N m B0 M0 j' 0 z' ∧ rSt z z' ∧ j < j' ∧ z'.2.2.2.2.2 ≤ z.2.2.2.2.2 + (j' - j) ∧ stR t N z'.2.1 z'.2.2.2.1 (nPr Q) z'.2.2.2.2.2 z.2.2.2.2.2 q ∧ z'.2.1 255 z.2.2.2.2.2 = mI 1 := by
  have hMz := hq.2.2.2.2.2
  have hMm := hq.1.2.2.2.2.2.2.2
  have hcx := hc.2.2.2.2
  have hk1 := hc.2.2.1.1
  have hj := hq.2.2.2.2.1
  cases r with
  | zero => omega
  | succ r =>
    have hG : pG (KK t N) U (r + 1) 1 j C Q c0 s0 = (if KK t N (j + 1) = 26 then (if KK t N (j + 2) = 123 then pG (KK t N) U r 2 (j + 3) C Q c0 (j + 1, []) else (none, j + 2, C)) else (none, j + 1, C)) := by
      show (if KK t N j = 125 then pG (KK t N) U r 0 (j + 1) C (Q ++ [c0]) c0 s0 else if KK t N j = 4 then (if KK t N (j + 1) = 26 then (if KK t N (j + 2) = 123 then pG (KK t N) U r 2 (j + 3) C Q c0 (j + 1, []) else (none, j + 2, C)) else (none, j + 1, C)) else (none, j, C)) = _
      rw [if_neg (by omega), if_pos hK]
    rw [hG]
    obtain ⟨z1, e1, q1, st1, n1, f1, _⟩ := rTok (d := d + 54) (A := A) (b := b) (h := h) (J := J) (R := R) hc hq (by omega) (by omega)
    rcases r192 (d := d + 52) (A := A) (b := b) (h := h) (J := J) (R := R) hc q1 with ⟨hK1, z2, w, e2, q2, st2, n2, w1, w2, w3, f2, _⟩ | ⟨hK1, z2, e2, F2, st2⟩
    · rw [if_pos hK1]
      obtain ⟨z3, e3, q3, st3, n3, nn3, d3, f3⟩ := rNode (d := d + 58) (A := A) (b := b) (h := h) (J := J) (R := R) (k := nI 32) (x1 := nI w) (x2 := mI 1) (x3 := mI 1) (fr := nI (tpos t N (j + 1))) hc q2 (by omega)
      have hn : z2.2.2.2.2.2 = z.2.2.2.2.2 := by omega
      rw [hn] at e3 n3 d3
      rcases r190 (d := d + 52) (A := A) (b := b) (h := h) (J := J) (R := R) (k0 := 123) hc q3 (by omega) (by omega) with ⟨hK2, z4, e4, q4, st4, n4, f4⟩ | ⟨hK2, z4, e4, F4, st4⟩
      · rw [if_pos hK2]
        rw [show wcd 123 = nI 123 by decide] at e4
        have e31 : jcall A jcode (d + 61) 206 [.ref (b + 241)] (HZ h b J R z) = M206 A (d + 60) 31 [some (.ref (b + 241)), some (.int (nI w)), some (.int (nI z.2.2.2.2.2)), some (.int (mI 1)), none] [] (HZ h b J R z4) := by
          simp (disch := omega) [je206, r206_0, r206_1, r206_4, r206_5, r206_8, r206_9, r206_10, r206_12, r206_13, r206_14, r206_15, r206_16, r206_19, r206_22, r206_23, r206_24, r206_26, r206_29, r206_30, r206_32, r206_34, r206_37, r206_40, r206_41, r206_44, r206_46, r206_47, r206_50, r206_51, r206_54, r206_55, r206_57, r206_58, r206_61, r206_62, r206_65, r206_66, r206_68, r206_69, r206_71, r206_72, r206_75, r206_76, r206_79, r206_80, qa185, qo185, g241, qa192, qo192, vf12_20, qa193, qo193, qa190, qo190, qa186, qo186, qa207, qo207, vf12_23, t241_23, g253, p253, vf12_25, t241_25, g255, p255, List.getElem?_cons_zero, List.getElem?_cons_succ, List.length_cons, List.length_nil, ag_nx, ag_dn, ag_no, ag_if, jbr1, jbr2, jc1, jc2, jnul, jld, jsto, jstoL, jst1, jst2, jkill, jinc, jbI, jbL, jbS, juI, jl2i, jcmp, jisR, jisI, jisL, jret, jretv, jfits, jdup, jdup2, jpop, jmm, jcat, Value.category, jinv, jrcv, jthr, jhd, jput, jget, jlen, jald, jast, jaast, jgI, jgL, jgB, jtab, jlku, jacp, vf20, vf21, vf22, vf23, vf24, u2_s, u2_k, u2_i, uc_s, uc_k, uc_c, u2_c, LI0, LI1, LI2, LI3, LI4, LI5, LI6, LI7, LI8, LI9, LI10, LI11, LI12, LI13, LI14, LI15, LI16, LI17, LI18, LI19, LI20, LI21, LI22, LI23, LI24, LI25, LI26, LI27, LI28, LI29, LI30, LI31, LI32, LI33, LI34, LI35, LI36, LI37, LI40, LI42, LI43, LI45, LI48, LI60, LI61, LI64, LI80, LI300, LI400, LI1000, LI2000, LI2001, LI2047, LI2048, LI100000, LI1000000, LI38, LI39, LI41, LI44, LI46, LI47, LI49, LI50, LI51, LI52, LI53, LI54, LI55, LI56, LI57, LI58, LI59, LI62, LI63, LI65, LI66, LI67, LI68, LI69, LI70, LI71, LI72, LI73, LI74, LI75, LI76, LI77, LI78, LI79, LI81, LI82, LI83, LI84, LI85, LI86, LI87, LI88, LI89, LI90, LI91, LI92, LI93, LI94, LI95, LI96, LI97, LI98, LI99, LI100, LI101, LI102, LI103, LI104, LI105, LI106, LI107, LI108, LI109, LI110, LI111, LI112, LI113, LI114, LI115, LI116, LI117, LI118, LI119, LI120, LI121, LI122, LI123, LI124, LI125, LI126, LI127, LI255, LI256, LI999, LI1001, LI1002, LI1600, LI4096, LI1000001, LI2042, LM, nI_clamp, nI_pos', nI_lt, nI_nlt, nI_le, nI_ge, nI_ne, nI_add, nI_sub, mI_lt, mI_le, mI_nlt, mI_nle, mI_ne, mI_ne', mI_nem, e1, e2, w3, e3, e4]
        rw [e31]
        have hI : stI t N (nPr Q) z.2.2.2.2.2 (j + 1) z4 [] [] := by
          refine ⟨by omega, ?_, ?_, ?_, ?_, ?_, ?_⟩
          · rw [f4 _ _ (by omega) (by omega)]; exact d3.1
          · rw [f4 _ _ (by omega) (by omega), d3.2.1]; exact nmA_z (rSt_trans st3 st4) ⟨hK1, w, w1, rfl, w2⟩
          · rw [f4 _ _ (by omega) (by omega)]; exact d3.2.2.2.2.2.1
          · rw [f4 _ _ (by omega) (by omega)]; exact d3.2.2.2.2.1
          · rw [f4 _ _ (by omega) (by omega), d3.2.2.1]; rfl
          · show _ + 1 ≤ _; omega
        have st04 := rSt_trans st1 (rSt_trans st2 (rSt_trans st3 st4))
        exact r206l (d := d) (A := A) (b := b) (h := h) (J := J) (R := R) hc (z0 := z) (j0 := j) (jn := j + 1) r z4 (j + 3) C [] [] (mI 1) none (by omega) q4 st04 (by omega) (by omega) hI (Or.inl ⟨rfl, rfl⟩)
      · rw [if_neg hK2]
        rw [show wcd 123 = nI 123 by decide] at e4
        refine Or.inl ⟨z4, j + 2, C, rfl, ?_, F4, rSt_trans st1 (rSt_trans st2 (rSt_trans st3 st4))⟩
        simp (disch := omega) [je206, r206_0, r206_1, r206_4, r206_5, r206_8, r206_9, r206_10, r206_12, r206_13, r206_14, r206_15, r206_16, r206_19, r206_22, r206_23, r206_24, r206_26, r206_29, r206_30, r206_31, r206_32, r206_34, r206_37, r206_40, r206_41, r206_44, r206_46, r206_47, r206_50, r206_51, r206_54, r206_55, r206_57, r206_58, r206_61, r206_62, r206_65, r206_66, r206_68, r206_69, r206_71, r206_72, r206_75, r206_76, r206_79, r206_80, qa185, qo185, g241, qa192, qo192, vf12_20, qa193, qo193, qa190, qo190, qa186, qo186, qa207, qo207, vf12_23, t241_23, g253, p253, vf12_25, t241_25, g255, p255, List.getElem?_cons_zero, List.getElem?_cons_succ, List.length_cons, List.length_nil, ag_nx, ag_dn, ag_no, ag_if, jbr1, jbr2, jc1, jc2, jnul, jld, jsto, jstoL, jst1, jst2, jkill, jinc, jbI, jbL, jbS, juI, jl2i, jcmp, jisR, jisI, jisL, jret, jretv, jfits, jdup, jdup2, jpop, jmm, jcat, Value.category, jinv, jrcv, jthr, jhd, jput, jget, jlen, jald, jast, jaast, jgI, jgL, jgB, jtab, jlku, jacp, vf20, vf21, vf22, vf23, vf24, u2_s, u2_k, u2_i, uc_s, uc_k, uc_c, u2_c, LI0, LI1, LI2, LI3, LI4, LI5, LI6, LI7, LI8, LI9, LI10, LI11, LI12, LI13, LI14, LI15, LI16, LI17, LI18, LI19, LI20, LI21, LI22, LI23, LI24, LI25, LI26, LI27, LI28, LI29, LI30, LI31, LI32, LI33, LI34, LI35, LI36, LI37, LI40, LI42, LI43, LI45, LI48, LI60, LI61, LI64, LI80, LI300, LI400, LI1000, LI2000, LI2001, LI2047, LI2048, LI100000, LI1000000, LI38, LI39, LI41, LI44, LI46, LI47, LI49, LI50, LI51, LI52, LI53, LI54, LI55, LI56, LI57, LI58, LI59, LI62, LI63, LI65, LI66, LI67, LI68, LI69, LI70, LI71, LI72, LI73, LI74, LI75, LI76, LI77, LI78, LI79, LI81, LI82, LI83, LI84, LI85, LI86, LI87, LI88, LI89, LI90, LI91, LI92, LI93, LI94, LI95, LI96, LI97, LI98, LI99, LI100, LI101, LI102, LI103, LI104, LI105, LI106, LI107, LI108, LI109, LI110, LI111, LI112, LI113, LI114, LI115, LI116, LI117, LI118, LI119, LI120, LI121, LI122, LI123, LI124, LI125, LI126, LI127, LI255, LI256, LI999, LI1001, LI1002, LI1600, LI4096, LI1000001, LI2042, LM, nI_clamp, nI_pos', nI_lt, nI_nlt, nI_le, nI_ge, nI_ne, nI_add, nI_sub, mI_lt, mI_le, mI_nlt, mI_nle, mI_ne, mI_ne', mI_nem, e1, e2, w3, e3, e4]
    · rw [if_neg hK1]
      refine Or.inl ⟨z2, j + 1, C, rfl, ?_, F2, rSt_trans st1 st2⟩
      simp (disch := omega) [je206, r206_0, r206_1, r206_4, r206_5, r206_8, r206_9, r206_10, r206_12, r206_13, r206_14, r206_15, r206_16, r206_19, r206_22, r206_23, r206_24, r206_26, r206_29, r206_30, r206_31, r206_32, r206_34, r206_37, r206_40, r206_41, r206_44, r206_46, r206_47, r206_50, r206_51, r206_54, r206_55, r206_57, r206_58, r206_61, r206_62, r206_65, r206_66, r206_68, r206_69, r206_71, r206_72, r206_75, r206_76, r206_79, r206_80, qa185, qo185, g241, qa192, qo192, vf12_20, qa193, qo193, qa190, qo190, qa186, qo186, qa207, qo207, vf12_23, t241_23, g253, p253, vf12_25, t241_25, g255, p255, List.getElem?_cons_zero, List.getElem?_cons_succ, List.length_cons, List.length_nil, ag_nx, ag_dn, ag_no, ag_if, jbr1, jbr2, jc1, jc2, jnul, jld, jsto, jstoL, jst1, jst2, jkill, jinc, jbI, jbL, jbS, juI, jl2i, jcmp, jisR, jisI, jisL, jret, jretv, jfits, jdup, jdup2, jpop, jmm, jcat, Value.category, jinv, jrcv, jthr, jhd, jput, jget, jlen, jald, jast, jaast, jgI, jgL, jgB, jtab, jlku, jacp, vf20, vf21, vf22, vf23, vf24, u2_s, u2_k, u2_i, uc_s, uc_k, uc_c, u2_c, LI0, LI1, LI2, LI3, LI4, LI5, LI6, LI7, LI8, LI9, LI10, LI11, LI12, LI13, LI14, LI15, LI16, LI17, LI18, LI19, LI20, LI21, LI22, LI23, LI24, LI25, LI26, LI27, LI28, LI29, LI30, LI31, LI32, LI33, LI34, LI35, LI36, LI37, LI40, LI42, LI43, LI45, LI48, LI60, LI61, LI64, LI80, LI300, LI400, LI1000, LI2000, LI2001, LI2047, LI2048, LI100000, LI1000000, LI38, LI39, LI41, LI44, LI46, LI47, LI49, LI50, LI51, LI52, LI53, LI54, LI55, LI56, LI57, LI58, LI59, LI62, LI63, LI65, LI66, LI67, LI68, LI69, LI70, LI71, LI72, LI73, LI74, LI75, LI76, LI77, LI78, LI79, LI81, LI82, LI83, LI84, LI85, LI86, LI87, LI88, LI89, LI90, LI91, LI92, LI93, LI94, LI95, LI96, LI97, LI98, LI99, LI100, LI101, LI102, LI103, LI104, LI105, LI106, LI107, LI108, LI109, LI110, LI111, LI112, LI113, LI114, LI115, LI116, LI117, LI118, LI119, LI120, LI121, LI122, LI123, LI124, LI125, LI126, LI127, LI255, LI256, LI999, LI1001, LI1002, LI1600, LI4096, LI1000001, LI2042, LM, nI_clamp, nI_pos', nI_lt, nI_nlt, nI_le, nI_ge, nI_ne, nI_add, nI_sub, mI_lt, mI_le, mI_nlt, mI_nle, mI_ne, mI_ne', mI_nem, e1, e2]
end RST
