/-! what is read is as the checks want it; checkNames whole -/
section RLM
variable {A : Nat → Nat} {d b n : Nat} {h : Nat → Option jC} {X : jXX} {J : Nat → Nat → Int64} {R : Nat → Nat → Nat} {t : Nat → Int32} {N M nn : Nat} {fp : Int32} {ps : List Nat} {F : List qPr}
theorem ltsR_pw {I : Nat → Nat → Int32} : ∀ (cs : List Nat) (qs : List Nat) (lo hi : Nat), ltsR t N I nn lo cs qs hi → cs.Pairwise (· < ·) := by
  intro cs
  induction cs with
  | nil => intro qs  lo hi _; exact List.Pairwise.nil
  | cons c cs ih =>
    intro qs  lo hi h
    cases qs with
    | nil => exact h.elim
    | cons q qs =>
      obtain ⟨h1, _, _, _, _, _, _, h3⟩ := h
      refine List.pairwise_cons.mpr ⟨fun y hy => ?_, ih qs  _ hi h3⟩
      have := (ltsR_ge _ _ _ _ h3).2 y hy
      omega
theorem clsR_pw {I : Nat → Nat → Int32} {pr : Nat} : ∀ (cs : List Nat) (qs : List qCl) (lo hi : Nat), clsR t N I nn pr lo cs qs hi → cs.Pairwise (· < ·) := by
  intro cs
  induction cs with
  | nil => intro qs  lo hi _; exact List.Pairwise.nil
  | cons c cs ih =>
    intro qs  lo hi h
    cases qs with
    | nil => exact h.elim
    | cons q qs =>
      obtain ⟨k, h1, h2, h3⟩ := h
      refine List.pairwise_cons.mpr ⟨fun y hy => ?_, ih qs  _ hi h3⟩
      have := (clsR_ge _ _ _ _ h3).2 y hy
      have := h2.1
      omega
theorem stsR_pw {I : Nat → Nat → Int32} {pr : Nat} : ∀ (cs : List Nat) (qs : List qSt) (lo hi : Nat), stsR t N I nn pr lo cs qs hi → cs.Pairwise (· < ·) := by
  intro cs
  induction cs with
  | nil => intro qs  lo hi _; exact List.Pairwise.nil
  | cons c cs ih =>
    intro qs  lo hi h
    cases qs with
    | nil => exact h.elim
    | cons q qs =>
      obtain ⟨k, h1, h2, h3⟩ := h
      refine List.pairwise_cons.mpr ⟨fun y hy => ?_, ih qs  _ hi h3⟩
      have := (stsR_ge _ _ _ _ h3).2 y hy
      have := h2.1
      omega
theorem prsR_pw {I : Nat → Nat → Int32} : ∀ (cs : List Nat) (qs : List qPr) (i : Nat) (lo hi : Nat), prsR t N I nn i lo cs qs hi → cs.Pairwise (· < ·) := by
  intro cs
  induction cs with
  | nil => intro qs i lo hi _; exact List.Pairwise.nil
  | cons c cs ih =>
    intro qs i lo hi h
    cases qs with
    | nil => exact h.elim
    | cons q qs =>
      obtain ⟨k, h1, h2, h3⟩ := h
      refine List.pairwise_cons.mpr ⟨fun y hy => ?_, ih qs (i + 1) _ hi h3⟩
      have := (prsR_ge _ _ _ _ _ h3).2 y hy
      have := h2.1
      omega

theorem stL_of {I : Nat → Nat → Int32} {pr : Nat} : ∀ (cs : List Nat) (qs : List qSt) (lo hi : Nat), hi ≤ M → stsR t N I nn pr lo cs qs hi → stL t N I nn M cs qs := by
  intro cs
  induction cs with
  | nil => intro qs lo hi _ h; cases qs with | nil => trivial | cons q qs => exact h.elim
  | cons c cs ih =>
    intro qs lo hi hh h
    cases qs with
    | nil => exact h.elim
    | cons q qs =>
      obtain ⟨k, h1, ⟨s1, s2, s3, s4, ds, s5, s6⟩, h3⟩ := h
      have g := (stsR_ge _ _ _ _ h3).1
      exact ⟨⟨s3, s4, ds, s5, fun v hv => by have := (clsR_ge _ _ _ _ s6).2 v hv; omega, clsR_pw _ _ _ _ s6, clL_of _ _ _ _ s6⟩, ih qs k hi hh h3⟩
theorem prL_of {I : Nat → Nat → Int32} : ∀ (cs : List Nat) (qs : List qPr) (i lo hi : Nat), hi ≤ M → prsR t N I nn i lo cs qs hi → prL t N I nn M cs qs := by
  intro cs
  induction cs with
  | nil => intro qs i lo hi _ h; cases qs with | nil => trivial | cons q qs => exact h.elim
  | cons c cs ih =>
    intro qs i lo hi hh h
    cases qs with
    | nil => exact h.elim
    | cons q qs =>
      obtain ⟨k2, h1, ⟨p1, p2, p3, p4, p5, p6, p7, ls, x, ss, k, a1, a2, a3, a4, a5, a6⟩, h3⟩ := h
      have g := (prsR_ge _ _ _ _ _ h3).1
      have a41 := a4.1
      have w1 := (stsR_ge _ _ _ _ a6).1
      exact ⟨⟨p3, p4, ls, ss, a1, fun v hv => by have := (ltsR_ge _ _ _ _ a2).2 v hv; omega, ltsR_pw _ _ _ _ a2, (nmL_lt _ _ _ _ a2).1, a5, fun v hv => by have := (stsR_ge _ _ _ _ a6).2 v hv; omega, stsR_pw _ _ _ _ a6, stL_of _ _ _ _ (by omega) a6⟩, ih qs (i + 1) k2 hi hh h3⟩
theorem prsR_len {I : Nat → Nat → Int32} : ∀ (cs : List Nat) (qs : List qPr) (i lo hi : Nat), prsR t N I nn i lo cs qs hi → cs.length + lo ≤ hi := by
  intro cs
  induction cs with
  | nil => intro qs i lo hi h; cases qs with | nil => have : lo ≤ hi := h; simpa using this | cons q qs => exact h.elim
  | cons c cs ih =>
    intro qs i lo hi h
    cases qs with
    | nil => exact h.elim
    | cons q qs =>
      obtain ⟨k, h1, h2, h3⟩ := h
      have := ih qs (i + 1) k hi h3
      have := h2.1
      rw [List.length_cons]
      omega
/-- names are looked up: all -/
theorem r214 (hcap : ∀ k, 251 ≤ k → k ≤ 258 → M ≤ cp X k) (hM : M ≤ 2 ^ 18) (hnn : nn ≤ 2 ^ 20) (hN : N ≤ 2000) (hF6 : F.length ≤ 6) {I : Nat → Nat → Int32} {lo hi : Nat} (hinj : ∀ w w', w < nn → w' < nn → rnm I w = rnm I w' → w = w') (hr : prsR t N I nn 0 lo ps F hi) (hch : chn I fp ps) (hor : ordO (F.flatMap (prU t N F))) (hhi : hi ≤ M) : ∃ I', (∀ c i, ¬ ((c = 253 ∨ c = 254 ∨ c = 257) ∧ lo ≤ i ∧ i < hi) → ¬ (c = 241 ∧ (i = 31 ∨ i = 32)) → I' c i = I c i) ∧ ((∃ u, lsO u (F.flatMap (prU t N F)).flatten ∧ jcall A jcode (d + ED + 12) 214 [.ref (b + 241), .int fp] (jH h b X I J R n) = some (.inr 11, jH h b X (u2 I' 241 2 (nI (tpos t N u))) J R n)) ∨ (nnO (F.flatMap (prU t N F)).flatten ∧ jcall A jcode (d + ED + 12) 214 [.ref (b + 241), .int fp] (jH h b X I J R n) = some (.inl none, (jH h b X I' J R n)) ∧ prsRl t N I' nn F 0 lo ps F hi)) := by
  obtain ⟨I0, hI0⟩ : ∃ I0, I0 = u2 I 241 31 fp := ⟨_, rfl⟩
  have o0 : ∀ c i, ¬ (c = 241 ∧ i = 31) → I0 c i = I c i := fun c i hc => by rw [hI0]; unfold u2; rw [if_neg hc]
  have r0 : ∀ u, rnm I0 u = rnm I u := fun u => rnm_e (fun c i c1 c2 => o0 c i (by omega))
  have hr0 : prsR t N I0 nn ([] : List qPr).length lo ps F hi := prsR_st ps F _ _ _ (fun c i c1 c2 c3 c4 c5 => o0 c i (by omega)) (fun u _ => r0 u) (Nat.le_refl _) hr
  have hL := prL_nm _ _ (prL_of (M := M) ps F _ lo hi hhi hr0)
  have hlen := prsR_len _ _ _ _ _ hr
  have hE : gEn t N I0 nn M fp ps F := ⟨fun w w' a1 a2 a3 => hinj w w' a1 a2 (by rw [r0, r0] at a3; exact a3), by rw [hI0]; exact u2_s, chn_st ps _ (fun a _ => o0 _ _ (by omega)) hch, fun v hv => by have := (prsR_ge _ _ _ _ _ hr).2 v hv; omega, hL, by omega⟩
  obtain ⟨I', f1, hq⟩ := r214p (A := A) (b := b) (n := n) (h := h) (J := J) (R := R) (d := d) hcap hM hnn hN hF6 ps F [] lo hi I0 fp none none rfl hr0 (chn_st ps _ (fun a _ => o0 _ _ (by omega)) hch) hor hhi hE
  have e7 : jcall A jcode (d + ED + 12) 214 [.ref (b + 241), .int fp] (jH h b X I J R n) = M214 A (d + ED + 11) 7 [some (.ref (b + 241)), some (.int fp), some (.int fp), none, none] [] (jH h b X I0 J R n) := by
    rw [hI0, show d + ED + 12 = d + ED + 11 + 1 by omega]
    simp (disch := omega) [je214, r214_0, r214_1, r214_2, r214_5, r214_6, r214_8, r214_11, r214_12, r214_13, r214_16, r214_17, r214_18, r214_21, r214_22, r214_23, r214_26, r214_27, r214_30, r214_31, r214_32, r214_33, r214_34, r214_37, r214_38, r214_41, r214_42, r214_43, r214_45, r214_47, r214_50, r214_51, r214_54, r214_56, r214_57, r214_60, r214_61, r214_64, r214_66, r214_67, r214_68, r214_71, r214_72, r214_73, r214_74, r214_77, r214_79, r214_80, r214_81, r214_84, r214_86, r214_87, r214_90, r214_91, r214_92, r214_95, r214_97, r214_98, r214_100, r214_103, r214_104, r214_105, r214_108, r214_110, r214_111, r214_114, r214_115, r214_118, r214_120, r214_121, r214_124, r214_125, r214_126, r214_129, r214_131, r214_132, r214_135, r214_136, r214_139, r214_141, r214_142, r214_144, r214_147, r214_148, r214_151, r214_152, r214_153, r214_154, r214_157, r214_158, r214_161, r214_162, r214_163, r214_164, r214_167, g241, p241_31, ty12_31, p241_32, ty12_32, vf12_28, t241_28, g258, p258, qa215, qo215, vf12_24, t241_24, g254, p254, vf12_23, t241_23, g253, p253, qa213, qo213, vf12_21, t241_21, g251, p251, vf12_22, t241_22, g252, p252, qa216, qo216, vf12_25, t241_25, g255, p255, List.getElem?_cons_zero, List.getElem?_cons_succ, List.length_cons, List.length_nil, ag_nx, ag_dn, ag_no, ag_if, jbr1, jbr2, jc1, jc2, jnul, jld, jsto, jstoL, jst1, jst2, jkill, jinc, jbI, jbL, jbS, juI, jl2i, jcmp, jisR, jisI, jisL, jret, jretv, jfits, jdup, jdup2, jpop, jmm, jcat, Value.category, jinv, jrcv, jthr, jhd, jput, jget, jlen, jald, jast, jaast, jgI, jgL, jgB, jtab, jlku, jacp, vf20, vf21, vf22, vf23, vf24, u2_s, u2_k, u2_i, uc_s, uc_k, uc_c, u2_c, LI0, LI1, LI2, LI3, LI4, LI5, LI6, LI7, LI8, LI9, LI10, LI11, LI12, LI13, LI14, LI15, LI16, LI17, LI18, LI19, LI20, LI21, LI22, LI23, LI24, LI25, LI26, LI27, LI28, LI29, LI30, LI31, LI32, LI33, LI34, LI35, LI36, LI37, LI40, LI42, LI43, LI45, LI48, LI60, LI61, LI64, LI80, LI300, LI400, LI1000, LI2000, LI2001, LI2047, LI2048, LI100000, LI1000000, LI38, LI39, LI41, LI44, LI46, LI47, LI49, LI50, LI51, LI52, LI53, LI54, LI55, LI56, LI57, LI58, LI59, LI62, LI63, LI65, LI66, LI67, LI68, LI69, LI70, LI71, LI72, LI73, LI74, LI75, LI76, LI77, LI78, LI79, LI81, LI82, LI83, LI84, LI85, LI86, LI87, LI88, LI89, LI90, LI91, LI92, LI93, LI94, LI95, LI96, LI97, LI98, LI99, LI100, LI101, LI102, LI103, LI104, LI105, LI106, LI107, LI108, LI109, LI110, LI111, LI112, LI113, LI114, LI115, LI116, LI117, LI118, LI119, LI120, LI121, LI122, LI123, LI124, LI125, LI126, LI127, LI255, LI256, LI999, LI1001, LI1002, LI1600, LI4096, LI1000001, LI2042, LM, nI_clamp, nI_pos', nI_lt, nI_nlt, nI_le, nI_ge, nI_ne, nI_add, nI_sub, mI_lt, mI_le, mI_nlt, mI_nle, mI_ne, mI_ne', mI_nem]
  rw [e7]
  exact ⟨I', fun c i a1 a2 => (f1 c i a1 (by omega)).trans (o0 c i (by omega)), hq⟩
end RLM
