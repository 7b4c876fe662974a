/-! names are looked up: the states of a process -/
section RLJ
variable {A : Nat → Nat} {d b n : Nat} {h : Nat → Option jC} {X : jXX} {J : Nat → Nat → Int64} {R : Nat → Nat → Nat} {t : Nat → Int32} {N M nn pr p : Nat} {fp : Int32} {ls ss ps : List Nat} {F : List qPr} {c0 : qPr} {G : Int32 → Int32} {v1 : Option Value}
theorem clsRl_ge {I : Nat → Nat → Int32} : ∀ (cs : List Nat) (qs : List qCl) (lo hi : Nat), clsRl t N I nn pr G F lo cs qs hi → lo ≤ hi ∧ ∀ c, c ∈ cs → lo ≤ c ∧ c < hi := by
  intro cs
  induction cs with
  | nil =>
    intro qs lo hi h
    cases qs with
    | nil => exact ⟨h, fun c hc => by cases hc⟩
    | cons q qs => exact h.elim
  | cons c cs ih =>
    intro qs lo hi h
    cases qs with
    | nil => exact h.elim
    | cons q qs =>
      obtain ⟨k, h1, h2, h3⟩ := h
      obtain ⟨i1, i2⟩ := ih qs k hi h3
      have := h2.1
      refine ⟨by omega, fun y hy => ?_⟩
      rcases List.mem_cons.mp hy with e | e
      · rw [e]; omega
      · have := i2 y e; omega
theorem clsRl_st {I I' : Nat → Nat → Int32} : ∀ (cs : List Nat) (qs : List qCl) (lo hi : Nat), hi ≤ 2 ^ 20 → (∀ k i, 251 ≤ k → k ≤ 258 → lo ≤ i → i < hi → I' k i = I k i) → (∀ u, u < nn → rnm I' u = rnm I u) → clsRl t N I nn pr G F lo cs qs hi → clsRl t N I' nn pr G F lo cs qs hi := by
  intro cs
  induction cs with
  | nil =>
    intro qs lo hi _ _ _ h
    cases qs with
    | nil => exact h
    | cons q qs => exact h.elim
  | cons c cs ih =>
    intro qs lo hi hh hf hn h
    cases qs with
    | nil => exact h.elim
    | cons q qs =>
      obtain ⟨k, h1, h2, h3⟩ := h
      obtain ⟨i1, i2⟩ := clsRl_ge _ _ _ _ h3
      have h21 := h2.1
      exact ⟨k, h1, clRl_st (by omega) (fun k' i a b e g n => hf k' i a b (by omega) (by omega)) hn h2, ih qs k hi hh (fun k' i a b e g => hf k' i a b (by omega) g) hn h3⟩
/-- a state whose names are looked up -/
def stRl (t : Nat → Int32) (N : Nat) (I : Nat → Nat → Int32) (nn pr : Nat) (G : Int32 → Int32) (F : List qPr) (hi s : Nat) (q : qSt) : Prop := s < hi ∧ I 251 s = nI 32 ∧ nmA t N I nn (I 252 s) q.1 ∧ ∃ cs, chn I (I 253 s) cs ∧ clsRl t N I nn pr G F (s + 1) cs q.2 hi
def stsRl (t : Nat → Int32) (N : Nat) (I : Nat → Nat → Int32) (nn pr : Nat) (G : Int32 → Int32) (F : List qPr) : Nat → List Nat → List qSt → Nat → Prop
  | lo, [], [], hi => lo ≤ hi
  | lo, s :: ss, q :: qs, hi => ∃ k, lo ≤ s ∧ stRl t N I nn pr G F k s q ∧ stsRl t N I nn pr G F k ss qs hi
  | _, _, _, _ => False
theorem stRl_st {I I' : Nat → Nat → Int32} {hi s : Nat} {q : qSt} (hh : hi ≤ 2 ^ 20) (hf : ∀ k i, 251 ≤ k → k ≤ 258 → s ≤ i → i < hi → I' k i = I k i) (hn : ∀ u, u < nn → rnm I' u = rnm I u) (h : stRl t N I nn pr G F hi s q) : stRl t N I' nn pr G F hi s q := by
  obtain ⟨h1, h2, h3, cs, h4, h5⟩ := h
  obtain ⟨g1, g2⟩ := clsRl_ge _ _ _ _ h5
  refine ⟨h1, (hf _ _ (by omega) (by omega) (Nat.le_refl _) h1).trans h2, ?_, cs, ?_, clsRl_st cs q.2 _ hi hh (fun k i a b e g => hf k i a b (by omega) g) hn h5⟩
  · rw [hf 252 s (by omega) (by omega) (Nat.le_refl _) h1]; exact nmA_st hn (Nat.le_refl _) h3
  · rw [hf 253 s (by omega) (by omega) (Nat.le_refl _) h1]
    exact chn_st cs _ (fun a ha => hf 255 a (by omega) (by omega) (by have := g2 a ha; omega) (g2 a ha).2) h4
theorem lsO_2 {L L' : List (List (Option Nat))} {u : Nat} (h : lsO u L.flatten) (ho : ordO (L ++ L')) : lsO u (L ++ L').flatten := by
  rw [List.flatten_append]
  refine ⟨List.mem_append_left _ h.1, fun v hv => ?_⟩
  rcases List.mem_append.mp hv with e | e
  · exact h.2 v e
  · obtain ⟨s, hs, hu⟩ := List.mem_flatten.mp h.1
    obtain ⟨s', hs', hv⟩ := List.mem_flatten.mp e
    exact Nat.le_of_lt ((List.pairwise_append.mp ho).2.2 s hs s' hs' u v hu hv)
theorem r214s (hcap : ∀ k, 251 ≤ k → k ≤ 258 → M ≤ cp X k) (hM : M ≤ 2 ^ 18) (hnn : nn ≤ 2 ^ 20) (hF : F[pr]? = some c0) (hpr : pr < 6) (hN : N ≤ 2000) : ∀ (ns : List Nat) (qs : List qSt) (lo hi : Nat) (I : Nat → Nat → Int32) (x : Int32) (v4 : Option Value), stsR t N I nn pr lo ns qs hi → chn I x ns → ordO (qs.flatMap (fun s => s.2.map (clU t N F c0.2.1))) → hi ≤ M → p < lo → lEn t N I nn M p fp ls ss ps c0 F G → ∃ I', fA lo hi I I' ∧ ((∃ u, lsO u (qs.flatMap (fun s => s.2.map (clU t N F c0.2.1))).flatten ∧ M214 A (d + ED + 11) 33 [some (.ref (b + 241)), v1, some (.int (nI p)), some (.int x), v4] [] (jH h b X I J R n) = some (.inr 11, jH h b X (u2 I' 241 2 (nI (tpos t N u))) J R n)) ∨ (nnO (qs.flatMap (fun s => s.2.map (clU t N F c0.2.1))).flatten ∧ (∃ v4', M214 A (d + ED + 11) 33 [some (.ref (b + 241)), v1, some (.int (nI p)), some (.int x), v4] [] (jH h b X I J R n) = M214 A (d + ED + 11) 157 [some (.ref (b + 241)), v1, some (.int (nI p)), some (.int (mI 1)), v4'] [] (jH h b X I' J R n)) ∧ stsRl t N I' nn pr G F lo ns qs hi)) := by
  intro ns
  induction ns with
  | nil =>
    intro qs lo hi I x v4 hr hch _ _ _ _
    cases qs with
    | cons q qs => exact hr.elim
    | nil =>
      have hx : x = mI 1 := hch
      refine ⟨I, fA_refl, Or.inr ⟨fun o ho => (by cases ho), ⟨v4, ?_⟩, hr⟩⟩
      rw [hx]
      conv => lhs; rw [r214_33]
      simp (disch := omega) [r214_0, r214_1, r214_2, r214_5, r214_6, r214_7, r214_8, r214_11, r214_12, r214_13, r214_16, r214_17, r214_18, r214_21, r214_22, r214_23, r214_26, r214_27, r214_30, r214_31, r214_32, r214_34, r214_37, r214_38, r214_41, r214_42, r214_43, r214_45, r214_47, r214_50, r214_51, r214_54, r214_56, r214_57, r214_60, r214_61, r214_64, r214_66, r214_67, r214_68, r214_71, r214_72, r214_73, r214_74, r214_77, r214_79, r214_80, r214_81, r214_84, r214_86, r214_87, r214_90, r214_91, r214_92, r214_95, r214_97, r214_98, r214_100, r214_103, r214_104, r214_105, r214_108, r214_110, r214_111, r214_114, r214_115, r214_118, r214_120, r214_121, r214_124, r214_125, r214_126, r214_129, r214_131, r214_132, r214_135, r214_136, r214_139, r214_141, r214_142, r214_144, r214_147, r214_148, r214_151, r214_152, r214_153, r214_154, r214_158, r214_161, r214_162, r214_163, r214_164, r214_167, g241, p241_31, ty12_31, p241_32, ty12_32, vf12_28, t241_28, g258, p258, qa215, qo215, vf12_24, t241_24, g254, p254, vf12_23, t241_23, g253, p253, qa213, qo213, vf12_21, t241_21, g251, p251, vf12_22, t241_22, g252, p252, qa216, qo216, vf12_25, t241_25, g255, p255, List.getElem?_cons_zero, List.getElem?_cons_succ, List.length_cons, List.length_nil, ag_nx, ag_dn, ag_no, ag_if, jbr1, jbr2, jc1, jc2, jnul, jld, jsto, jstoL, jst1, jst2, jkill, jinc, jbI, jbL, jbS, juI, jl2i, jcmp, jisR, jisI, jisL, jret, jretv, jfits, jdup, jdup2, jpop, jmm, jcat, Value.category, jinv, jrcv, jthr, jhd, jput, jget, jlen, jald, jast, jaast, jgI, jgL, jgB, jtab, jlku, jacp, vf20, vf21, vf22, vf23, vf24, u2_s, u2_k, u2_i, uc_s, uc_k, uc_c, u2_c, LI0, LI1, LI2, LI3, LI4, LI5, LI6, LI7, LI8, LI9, LI10, LI11, LI12, LI13, LI14, LI15, LI16, LI17, LI18, LI19, LI20, LI21, LI22, LI23, LI24, LI25, LI26, LI27, LI28, LI29, LI30, LI31, LI32, LI33, LI34, LI35, LI36, LI37, LI40, LI42, LI43, LI45, LI48, LI60, LI61, LI64, LI80, LI300, LI400, LI1000, LI2000, LI2001, LI2047, LI2048, LI100000, LI1000000, LI38, LI39, LI41, LI44, LI46, LI47, LI49, LI50, LI51, LI52, LI53, LI54, LI55, LI56, LI57, LI58, LI59, LI62, LI63, LI65, LI66, LI67, LI68, LI69, LI70, LI71, LI72, LI73, LI74, LI75, LI76, LI77, LI78, LI79, LI81, LI82, LI83, LI84, LI85, LI86, LI87, LI88, LI89, LI90, LI91, LI92, LI93, LI94, LI95, LI96, LI97, LI98, LI99, LI100, LI101, LI102, LI103, LI104, LI105, LI106, LI107, LI108, LI109, LI110, LI111, LI112, LI113, LI114, LI115, LI116, LI117, LI118, LI119, LI120, LI121, LI122, LI123, LI124, LI125, LI126, LI127, LI255, LI256, LI999, LI1001, LI1002, LI1600, LI4096, LI1000001, LI2042, LM, nI_clamp, nI_pos', nI_lt, nI_nlt, nI_le, nI_ge, nI_ne, nI_add, nI_sub, mI_lt, mI_le, mI_nlt, mI_nle, mI_ne, mI_ne', mI_nem]
  | cons s ns ih =>
    intro qs lo hi I x v4 hr hch hor hhi hp hE
    cases qs with
    | nil => exact hr.elim
    | cons q qs =>
      obtain ⟨k, k1, ⟨s1, s2, s3, s4, cs, s5, s6⟩, k3⟩ := hr
      obtain ⟨g1, g2⟩ := stsR_ge _ _ _ _ k3
      have h5 : s < cp X 255 := Nat.lt_of_lt_of_le (by omega : s < M) (hcap 255 (by omega) (by omega))
      have h3 : s < cp X 253 := Nat.lt_of_lt_of_le (by omega : s < M) (hcap 253 (by omega) (by omega))
      rw [List.flatMap_cons] at hor ⊢
      have e45 : M214 A (d + ED + 11) 33 [some (.ref (b + 241)), v1, some (.int (nI p)), some (.int (nI s)), v4] [] (jH h b X I J R n) = M214 A (d + ED + 11) 45 [some (.ref (b + 241)), v1, some (.int (nI p)), some (.int (nI s)), some (.int (I 253 s))] [] (jH h b X I J R n) := by
        conv => lhs; rw [r214_33]
        simp (disch := omega) [r214_0, r214_1, r214_2, r214_5, r214_6, r214_7, r214_8, r214_11, r214_12, r214_13, r214_16, r214_17, r214_18, r214_21, r214_22, r214_23, r214_26, r214_27, r214_30, r214_31, r214_32, r214_34, r214_37, r214_38, r214_41, r214_42, r214_43, r214_47, r214_50, r214_51, r214_54, r214_56, r214_57, r214_60, r214_61, r214_64, r214_66, r214_67, r214_68, r214_71, r214_72, r214_73, r214_74, r214_77, r214_79, r214_80, r214_81, r214_84, r214_86, r214_87, r214_90, r214_91, r214_92, r214_95, r214_97, r214_98, r214_100, r214_103, r214_104, r214_105, r214_108, r214_110, r214_111, r214_114, r214_115, r214_118, r214_120, r214_121, r214_124, r214_125, r214_126, r214_129, r214_131, r214_132, r214_135, r214_136, r214_139, r214_141, r214_142, r214_144, r214_147, r214_148, r214_151, r214_152, r214_153, r214_154, r214_157, r214_158, r214_161, r214_162, r214_163, r214_164, r214_167, g241, p241_31, ty12_31, p241_32, ty12_32, vf12_28, t241_28, g258, p258, qa215, qo215, vf12_24, t241_24, g254, p254, vf12_23, t241_23, g253, p253, qa213, qo213, vf12_21, t241_21, g251, p251, vf12_22, t241_22, g252, p252, qa216, qo216, vf12_25, t241_25, g255, p255, List.getElem?_cons_zero, List.getElem?_cons_succ, List.length_cons, List.length_nil, ag_nx, ag_dn, ag_no, ag_if, jbr1, jbr2, jc1, jc2, jnul, jld, jsto, jstoL, jst1, jst2, jkill, jinc, jbI, jbL, jbS, juI, jl2i, jcmp, jisR, jisI, jisL, jret, jretv, jfits, jdup, jdup2, jpop, jmm, jcat, Value.category, jinv, jrcv, jthr, jhd, jput, jget, jlen, jald, jast, jaast, jgI, jgL, jgB, jtab, jlku, jacp, vf20, vf21, vf22, vf23, vf24, u2_s, u2_k, u2_i, uc_s, uc_k, uc_c, u2_c, LI0, LI1, LI2, LI3, LI4, LI5, LI6, LI7, LI8, LI9, LI10, LI11, LI12, LI13, LI14, LI15, LI16, LI17, LI18, LI19, LI20, LI21, LI22, LI23, LI24, LI25, LI26, LI27, LI28, LI29, LI30, LI31, LI32, LI33, LI34, LI35, LI36, LI37, LI40, LI42, LI43, LI45, LI48, LI60, LI61, LI64, LI80, LI300, LI400, LI1000, LI2000, LI2001, LI2047, LI2048, LI100000, LI1000000, LI38, LI39, LI41, LI44, LI46, LI47, LI49, LI50, LI51, LI52, LI53, LI54, LI55, LI56, LI57, LI58, LI59, LI62, LI63, LI65, LI66, LI67, LI68, LI69, LI70, LI71, LI72, LI73, LI74, LI75, LI76, LI77, LI78, LI79, LI81, LI82, LI83, LI84, LI85, LI86, LI87, LI88, LI89, LI90, LI91, LI92, LI93, LI94, LI95, LI96, LI97, LI98, LI99, LI100, LI101, LI102, LI103, LI104, LI105, LI106, LI107, LI108, LI109, LI110, LI111, LI112, LI113, LI114, LI115, LI116, LI117, LI118, LI119, LI120, LI121, LI122, LI123, LI124, LI125, LI126, LI127, LI255, LI256, LI999, LI1001, LI1002, LI1600, LI4096, LI1000001, LI2042, LM, nI_clamp, nI_pos', nI_lt, nI_nlt, nI_le, nI_ge, nI_ne, nI_add, nI_sub, mI_lt, mI_le, mI_nlt, mI_nle, mI_ne, mI_ne', mI_nem, h3]
      rw [show x = nI s from hch.1, e45]
      obtain ⟨I1, f1, hr1⟩ := r214l (A := A) (b := b) (n := n) (h := h) (J := J) (R := R) (d := d) (v1 := v1) (y3 := nI s) hcap hM hnn hF hpr hN cs q.2 (s + 1) k I (I 253 s) s6 s5 (List.pairwise_append.mp hor).1 (by omega) (by omega) hE
      rcases hr1 with ⟨u, r1, r2⟩ | ⟨r1, r2, r3⟩
      · exact ⟨I1, fA_mono f1 (by omega) g1, Or.inl ⟨u, lsO_2 r1 hor, r2⟩⟩
      · have o1 : ∀ y i, k ≤ i → I1 y i = I y i := fun y i hi => f1 y i (by omega)
        have hb1 : stsR t N I1 nn pr k ns qs hi := stsR_st ns qs k hi (fun y i _ _ e _ _ => o1 y i e) (fun u _ => fA_rnm f1) (Nat.le_refl _) k3
        have hch1 : chn I1 (I1 255 s) ns := by
          rw [f1 255 s (by omega)]
          exact chn_st ns _ (fun y hy => f1 _ _ (by omega)) hch.2
        obtain ⟨I2, f2, hr2⟩ := ih qs k hi I1 (I1 255 s) (some (.int (mI 1))) hb1 hch1 (List.pairwise_append.mp hor).2.1 hhi (by omega) (lEn_fA f1 (by omega) hE)
        have e33 : M214 A (d + ED + 11) 147 [some (.ref (b + 241)), v1, some (.int (nI p)), some (.int (nI s)), some (.int (mI 1))] [] (jH h b X I1 J R n) = M214 A (d + ED + 11) 33 [some (.ref (b + 241)), v1, some (.int (nI p)), some (.int (I1 255 s)), some (.int (mI 1))] [] (jH h b X I1 J R n) := by
          conv => lhs; rw [r214_147]
          simp (disch := omega) [r214_0, r214_1, r214_2, r214_5, r214_6, r214_7, r214_8, r214_11, r214_12, r214_13, r214_16, r214_17, r214_18, r214_21, r214_22, r214_23, r214_26, r214_27, r214_30, r214_31, r214_32, r214_34, r214_37, r214_38, r214_41, r214_42, r214_43, r214_45, r214_47, r214_50, r214_51, r214_54, r214_56, r214_57, r214_60, r214_61, r214_64, r214_66, r214_67, r214_68, r214_71, r214_72, r214_73, r214_74, r214_77, r214_79, r214_80, r214_81, r214_84, r214_86, r214_87, r214_90, r214_91, r214_92, r214_95, r214_97, r214_98, r214_100, r214_103, r214_104, r214_105, r214_108, r214_110, r214_111, r214_114, r214_115, r214_118, r214_120, r214_121, r214_124, r214_125, r214_126, r214_129, r214_131, r214_132, r214_135, r214_136, r214_139, r214_141, r214_142, r214_144, r214_148, r214_151, r214_152, r214_153, r214_154, r214_157, r214_158, r214_161, r214_162, r214_163, r214_164, r214_167, g241, p241_31, ty12_31, p241_32, ty12_32, vf12_28, t241_28, g258, p258, qa215, qo215, vf12_24, t241_24, g254, p254, vf12_23, t241_23, g253, p253, qa213, qo213, vf12_21, t241_21, g251, p251, vf12_22, t241_22, g252, p252, qa216, qo216, vf12_25, t241_25, g255, p255, List.getElem?_cons_zero, List.getElem?_cons_succ, List.length_cons, List.length_nil, ag_nx, ag_dn, ag_no, ag_if, jbr1, jbr2, jc1, jc2, jnul, jld, jsto, jstoL, jst1, jst2, jkill, jinc, jbI, jbL, jbS, juI, jl2i, jcmp, jisR, jisI, jisL, jret, jretv, jfits, jdup, jdup2, jpop, jmm, jcat, Value.category, jinv, jrcv, jthr, jhd, jput, jget, jlen, jald, jast, jaast, jgI, jgL, jgB, jtab, jlku, jacp, vf20, vf21, vf22, vf23, vf24, u2_s, u2_k, u2_i, uc_s, uc_k, uc_c, u2_c, LI0, LI1, LI2, LI3, LI4, LI5, LI6, LI7, LI8, LI9, LI10, LI11, LI12, LI13, LI14, LI15, LI16, LI17, LI18, LI19, LI20, LI21, LI22, LI23, LI24, LI25, LI26, LI27, LI28, LI29, LI30, LI31, LI32, LI33, LI34, LI35, LI36, LI37, LI40, LI42, LI43, LI45, LI48, LI60, LI61, LI64, LI80, LI300, LI400, LI1000, LI2000, LI2001, LI2047, LI2048, LI100000, LI1000000, LI38, LI39, LI41, LI44, LI46, LI47, LI49, LI50, LI51, LI52, LI53, LI54, LI55, LI56, LI57, LI58, LI59, LI62, LI63, LI65, LI66, LI67, LI68, LI69, LI70, LI71, LI72, LI73, LI74, LI75, LI76, LI77, LI78, LI79, LI81, LI82, LI83, LI84, LI85, LI86, LI87, LI88, LI89, LI90, LI91, LI92, LI93, LI94, LI95, LI96, LI97, LI98, LI99, LI100, LI101, LI102, LI103, LI104, LI105, LI106, LI107, LI108, LI109, LI110, LI111, LI112, LI113, LI114, LI115, LI116, LI117, LI118, LI119, LI120, LI121, LI122, LI123, LI124, LI125, LI126, LI127, LI255, LI256, LI999, LI1001, LI1002, LI1600, LI4096, LI1000001, LI2042, LM, nI_clamp, nI_pos', nI_lt, nI_nlt, nI_le, nI_ge, nI_ne, nI_add, nI_sub, mI_lt, mI_le, mI_nlt, mI_nle, mI_ne, mI_ne', mI_nem, h5]
        refine ⟨I2, fA_trans (fA_mono f1 (by omega) g1) (fA_mono f2 (by omega) (Nat.le_refl _)), ?_⟩
        rw [r2, e33, List.flatten_append]
        have os : ∀ c, I1 c s = I c s := fun c => f1 c s (by omega)
        have S1 : stRl t N I1 nn pr G F k s q := ⟨s1, (os 251).trans s2, by rw [os]; exact nmA_st (fun u _ => fA_rnm f1) (Nat.le_refl _) s3, cs, by rw [os]; exact chn_st cs _ (fun y hy => f1 _ _ (by omega)) s5, r3⟩
        rcases hr2 with ⟨u, r4, r5⟩ | ⟨r4, r5, r6⟩
        · exact Or.inl ⟨u, lsO_r r1 r4, r5⟩
        · exact Or.inr ⟨nnO_app r1 r4, r5, k, k1, stRl_st (by omega) (fun y i _ _ _ e => f2 y i (by omega)) (fun u _ => fA_rnm f2) S1, r6⟩
end RLJ
