/-! names are looked up: the clauses of a state -/
section RLI
variable {A : Nat → Nat} {d b n : Nat} {h : Nat → Option jC} {X : jXX} {J : Nat → Nat → Int64} {R : Nat → Nat → Nat} {t : Nat → Int32} {N M nn pr p : Nat} {fp : Int32} {ls ss ps : List Nat} {F : List qPr} {c0 : qPr} {G : Int32 → Int32} {v1 : Option Value} {y3 : Int32}
theorem bkRl_st {I I' : Nat → Nat → Int32} {hi x : Nat} {o : Nat × List oT} (hh : hi ≤ 2 ^ 20) (hf : ∀ c i, 251 ≤ c → c ≤ 258 → x ≤ i → i < hi → I' c i = I c i) (hn : ∀ u, u < nn → rnm I' u = rnm I u) (h : bkRl t N I nn pr G F hi x o) : bkRl t N I' nn pr G F hi x o := by
  obtain ⟨h1, h2, as, l, tk, h3, h4, h5, h6⟩ := h
  have hge := bRl_ge _ _ _ _ _ _ h6
  refine ⟨h1, (hf 251 x (by omega) (by omega) (Nat.le_refl _) h1).trans h2, as, l, tk, h3, ?_, h5, ?_⟩
  · rw [hf 252 x (by omega) (by omega) (Nat.le_refl _) h1]
    exact chn_st as _ (fun a ha => hf 255 a (by omega) (by omega) (by have := hge a ha; omega) (h5 a ha)) h4
  · exact bRl_st _ _ _ hi as _ _ hh (fun c i c1 c2 c3 c4 => hf c i c1 c2 (by omega) c4) h5 hn h6
theorem clRl_st {I I' : Nat → Nat → Int32} {hi c : Nat} {q : qCl} (hh : hi ≤ 2 ^ 20) (hf : ∀ k i, 251 ≤ k → k ≤ 258 → c ≤ i → i < hi → ¬ (k = 255 ∧ i = c) → I' k i = I k i) (hn : ∀ u, u < nn → rnm I' u = rnm I u) (h : clRl t N I nn pr G F hi c q) : clRl t N I' nn pr G F hi c q := by
  obtain ⟨h1, h⟩ := h
  have f : ∀ k, 251 ≤ k → k ≤ 258 → k ≠ 255 → I' k c = I k c := fun k a b e => hf k c a b (Nat.le_refl _) h1 (by omega)
  have f1 := f 251 (by omega) (by omega) (by omega)
  have f2 := f 252 (by omega) (by omega) (by omega)
  have f3 := f 253 (by omega) (by omega) (by omega)
  have f4 := f 254 (by omega) (by omega) (by omega)
  have f8 := f 258 (by omega) (by omega) (by omega)
  have hb : ∀ (x : Nat) (o : Nat × List oT), c < x → bkRl t N I nn pr G F hi x o → bkRl t N I' nn pr G F hi x o := fun x o hx h => bkRl_st hh (fun k i a b e g => hf k i a b (by omega) g (by omega)) hn h
  have hm : ∀ {x : Int32} {j : Nat}, nmA t N I nn x j → nmA t N I' nn x j := fun h => nmA_st hn (Nat.le_refl _) h
  refine ⟨h1, ?_⟩
  rw [f1, f2, f3, f4, f8]
  rcases h with ⟨a1, a2, a3, x, a5, a6, a7⟩ | ⟨a1, a2, a3, a4⟩ | ⟨a1, a2, a3, a4, a5, x, a6, a7, a8⟩ | ⟨a1, a2, a3, a4, x, a6, a7, a8, e, l, tk, b1, b2, b3, b4, b5, b6⟩
  · exact Or.inl ⟨a1, hm a2, a3, x, a5, a6, hb x _ a5 a7⟩
  · exact Or.inr (Or.inl ⟨a1, a2, hm a3, a4⟩)
  · exact Or.inr (Or.inr (Or.inl ⟨a1, a2, a3, a4, a5, x, a6, a7, hb x _ a6 a8⟩))
  · have hx8 := a8.1
    have hx : ∀ k i, 251 ≤ k → k ≤ 256 → k ≠ 255 → c + 1 ≤ i → i ≤ e → I' k i = I k i := fun k i c1 c2 c3 c4 c5 => hf k i c1 (by omega) (by omega) (by omega) (by omega)
    exact Or.inr (Or.inr (Or.inr ⟨a1, a2, a3, a4, x, a6, a7, hb x _ a6 a8, e, l, tk, b1, b2, b3, b4, xR_st ED e l 64 hx hn (Nat.le_refl _) b5, xLk_st ED e l 64 (by omega) hx b5 b6⟩))
def clsRl (t : Nat → Int32) (N : Nat) (I : Nat → Nat → Int32) (nn pr : Nat) (G : Int32 → Int32) (F : List qPr) : Nat → List Nat → List qCl → Nat → Prop
  | lo, [], [], hi => lo ≤ hi
  | lo, c :: cs, q :: qs, hi => ∃ k, lo ≤ c ∧ clRl t N I nn pr G F k c q ∧ clsRl t N I nn pr G F k cs qs hi
  | _, _, _, _ => False
/-- every one ahead is less -/
def ordO (LL : List (List (Option Nat))) : Prop := LL.Pairwise (fun s s' => ∀ u v, some u ∈ s → some v ∈ s' → u < v)
theorem lsO_l {L : List (Option Nat)} {LL : List (List (Option Nat))} {u : Nat} (h : lsO u L) (ho : ordO (L :: LL)) : lsO u (L ++ LL.flatten) := by
  refine ⟨List.mem_append_left _ h.1, fun v hv => ?_⟩
  rcases List.mem_append.mp hv with e | e
  · exact h.2 v e
  · obtain ⟨s, hs, hv⟩ := List.mem_flatten.mp e
    exact Nat.le_of_lt ((List.pairwise_cons.mp ho).1 s hs u v h.1 hv)
theorem lsO_r {L L' : List (Option Nat)} {u : Nat} (h : nnO L) (h' : lsO u L') : lsO u (L ++ L') := by
  refine ⟨List.mem_append_right _ h'.1, fun v hv => ?_⟩
  rcases List.mem_append.mp hv with e | e
  · have := h _ e; cases this
  · exact h'.2 v e
theorem nnO_app {L L' : List (Option Nat)} (h : nnO L) (h' : nnO L') : nnO (L ++ L') := fun o ho => by
  rcases List.mem_append.mp ho with e | e
  · exact h o e
  · exact h' o e
theorem r214l (hcap : ∀ k, 251 ≤ k → k ≤ 258 → M ≤ cp X k) (hM : M ≤ 2 ^ 18) (hnn : nn ≤ 2 ^ 20) (hF : F[pr]? = some c0) (hpr : pr < 6) (hN : N ≤ 2000) : ∀ (cs : List Nat) (qs : List qCl) (lo hi : Nat) (I : Nat → Nat → Int32) (x : Int32), clsR t N I nn pr lo cs qs hi → chn I x cs → ordO (qs.map (clU t N F c0.2.1)) → hi ≤ M → p < lo → lEn t N I nn M p fp ls ss ps c0 F G → ∃ I', fA lo hi I I' ∧ ((∃ u, lsO u (qs.map (clU t N F c0.2.1)).flatten ∧ M214 A (d + ED + 11) 45 [some (.ref (b + 241)), v1, some (.int (nI p)), some (.int y3), some (.int x)] [] (jH h b X I J R n) = some (.inr 11, jH h b X (u2 I' 241 2 (nI (tpos t N u))) J R n)) ∨ (nnO (qs.map (clU t N F c0.2.1)).flatten ∧ M214 A (d + ED + 11) 45 [some (.ref (b + 241)), v1, some (.int (nI p)), some (.int y3), some (.int x)] [] (jH h b X I J R n) = M214 A (d + ED + 11) 147 [some (.ref (b + 241)), v1, some (.int (nI p)), some (.int y3), some (.int (mI 1))] [] (jH h b X I' J R n) ∧ clsRl t N I' nn pr G F lo cs qs hi)) := by
  intro cs
  induction cs with
  | nil =>
    intro qs lo hi I x hr hch _ _ _ _
    cases qs with
    | cons q qs => exact hr.elim
    | nil =>
      have hx : x = mI 1 := hch
      refine ⟨I, fA_refl, Or.inr ⟨fun o ho => (by cases ho), ?_, hr⟩⟩
      rw [hx]
      conv => lhs; rw [r214_45]
      simp (disch := omega) [r214_0, r214_1, r214_2, r214_5, r214_6, r214_7, r214_8, r214_11, r214_12, r214_13, r214_16, r214_17, r214_18, r214_21, r214_22, r214_23, r214_26, r214_27, r214_30, r214_31, r214_32, r214_33, r214_34, r214_37, r214_38, r214_41, r214_42, r214_43, r214_47, r214_50, r214_51, r214_54, r214_56, r214_57, r214_60, r214_61, r214_64, r214_66, r214_67, r214_68, r214_71, r214_72, r214_73, r214_74, r214_77, r214_79, r214_80, r214_81, r214_84, r214_86, r214_87, r214_90, r214_91, r214_92, r214_95, r214_97, r214_98, r214_100, r214_103, r214_104, r214_105, r214_108, r214_110, r214_111, r214_114, r214_115, r214_118, r214_120, r214_121, r214_124, r214_125, r214_126, r214_129, r214_131, r214_132, r214_135, r214_136, r214_139, r214_141, r214_142, r214_144, r214_148, r214_151, r214_152, r214_153, r214_154, r214_157, r214_158, r214_161, r214_162, r214_163, r214_164, r214_167, g241, p241_31, ty12_31, p241_32, ty12_32, vf12_28, t241_28, g258, p258, qa215, qo215, vf12_24, t241_24, g254, p254, vf12_23, t241_23, g253, p253, qa213, qo213, vf12_21, t241_21, g251, p251, vf12_22, t241_22, g252, p252, qa216, qo216, vf12_25, t241_25, g255, p255, List.getElem?_cons_zero, List.getElem?_cons_succ, List.length_cons, List.length_nil, ag_nx, ag_dn, ag_no, ag_if, jbr1, jbr2, jc1, jc2, jnul, jld, jsto, jstoL, jst1, jst2, jkill, jinc, jbI, jbL, jbS, juI, jl2i, jcmp, jisR, jisI, jisL, jret, jretv, jfits, jdup, jdup2, jpop, jmm, jcat, Value.category, jinv, jrcv, jthr, jhd, jput, jget, jlen, jald, jast, jaast, jgI, jgL, jgB, jtab, jlku, jacp, vf20, vf21, vf22, vf23, vf24, u2_s, u2_k, u2_i, uc_s, uc_k, uc_c, u2_c, LI0, LI1, LI2, LI3, LI4, LI5, LI6, LI7, LI8, LI9, LI10, LI11, LI12, LI13, LI14, LI15, LI16, LI17, LI18, LI19, LI20, LI21, LI22, LI23, LI24, LI25, LI26, LI27, LI28, LI29, LI30, LI31, LI32, LI33, LI34, LI35, LI36, LI37, LI40, LI42, LI43, LI45, LI48, LI60, LI61, LI64, LI80, LI300, LI400, LI1000, LI2000, LI2001, LI2047, LI2048, LI100000, LI1000000, LI38, LI39, LI41, LI44, LI46, LI47, LI49, LI50, LI51, LI52, LI53, LI54, LI55, LI56, LI57, LI58, LI59, LI62, LI63, LI65, LI66, LI67, LI68, LI69, LI70, LI71, LI72, LI73, LI74, LI75, LI76, LI77, LI78, LI79, LI81, LI82, LI83, LI84, LI85, LI86, LI87, LI88, LI89, LI90, LI91, LI92, LI93, LI94, LI95, LI96, LI97, LI98, LI99, LI100, LI101, LI102, LI103, LI104, LI105, LI106, LI107, LI108, LI109, LI110, LI111, LI112, LI113, LI114, LI115, LI116, LI117, LI118, LI119, LI120, LI121, LI122, LI123, LI124, LI125, LI126, LI127, LI255, LI256, LI999, LI1001, LI1002, LI1600, LI4096, LI1000001, LI2042, LM, nI_clamp, nI_pos', nI_lt, nI_nlt, nI_le, nI_ge, nI_ne, nI_add, nI_sub, mI_lt, mI_le, mI_nlt, mI_nle, mI_ne, mI_ne', mI_nem]
  | cons c cs ih =>
    intro qs lo hi I x hr hch hor hhi hp hE
    cases qs with
    | nil => exact hr.elim
    | cons q qs =>
      obtain ⟨k, k1, k2, k3⟩ := hr
      obtain ⟨g1, g2⟩ := clsR_ge _ _ _ _ k3
      have hck := k2.1
      have h5 : c < cp X 255 := Nat.lt_of_lt_of_le (by omega : c < M) (hcap 255 (by omega) (by omega))
      have e50 : M214 A (d + ED + 11) 45 [some (.ref (b + 241)), v1, some (.int (nI p)), some (.int y3), some (.int (nI c))] [] (jH h b X I J R n) = M214 A (d + ED + 11) 50 [some (.ref (b + 241)), v1, some (.int (nI p)), some (.int y3), some (.int (nI c))] [] (jH h b X I J R n) := by
        conv => lhs; rw [r214_45]
        simp (disch := omega) [r214_0, r214_1, r214_2, r214_5, r214_6, r214_7, r214_8, r214_11, r214_12, r214_13, r214_16, r214_17, r214_18, r214_21, r214_22, r214_23, r214_26, r214_27, r214_30, r214_31, r214_32, r214_33, r214_34, r214_37, r214_38, r214_41, r214_42, r214_43, r214_47, r214_51, r214_54, r214_56, r214_57, r214_60, r214_61, r214_64, r214_66, r214_67, r214_68, r214_71, r214_72, r214_73, r214_74, r214_77, r214_79, r214_80, r214_81, r214_84, r214_86, r214_87, r214_90, r214_91, r214_92, r214_95, r214_97, r214_98, r214_100, r214_103, r214_104, r214_105, r214_108, r214_110, r214_111, r214_114, r214_115, r214_118, r214_120, r214_121, r214_124, r214_125, r214_126, r214_129, r214_131, r214_132, r214_135, r214_136, r214_139, r214_141, r214_142, r214_144, r214_147, r214_148, r214_151, r214_152, r214_153, r214_154, r214_157, r214_158, r214_161, r214_162, r214_163, r214_164, r214_167, g241, p241_31, ty12_31, p241_32, ty12_32, vf12_28, t241_28, g258, p258, qa215, qo215, vf12_24, t241_24, g254, p254, vf12_23, t241_23, g253, p253, qa213, qo213, vf12_21, t241_21, g251, p251, vf12_22, t241_22, g252, p252, qa216, qo216, vf12_25, t241_25, g255, p255, List.getElem?_cons_zero, List.getElem?_cons_succ, List.length_cons, List.length_nil, ag_nx, ag_dn, ag_no, ag_if, jbr1, jbr2, jc1, jc2, jnul, jld, jsto, jstoL, jst1, jst2, jkill, jinc, jbI, jbL, jbS, juI, jl2i, jcmp, jisR, jisI, jisL, jret, jretv, jfits, jdup, jdup2, jpop, jmm, jcat, Value.category, jinv, jrcv, jthr, jhd, jput, jget, jlen, jald, jast, jaast, jgI, jgL, jgB, jtab, jlku, jacp, vf20, vf21, vf22, vf23, vf24, u2_s, u2_k, u2_i, uc_s, uc_k, uc_c, u2_c, LI0, LI1, LI2, LI3, LI4, LI5, LI6, LI7, LI8, LI9, LI10, LI11, LI12, LI13, LI14, LI15, LI16, LI17, LI18, LI19, LI20, LI21, LI22, LI23, LI24, LI25, LI26, LI27, LI28, LI29, LI30, LI31, LI32, LI33, LI34, LI35, LI36, LI37, LI40, LI42, LI43, LI45, LI48, LI60, LI61, LI64, LI80, LI300, LI400, LI1000, LI2000, LI2001, LI2047, LI2048, LI100000, LI1000000, LI38, LI39, LI41, LI44, LI46, LI47, LI49, LI50, LI51, LI52, LI53, LI54, LI55, LI56, LI57, LI58, LI59, LI62, LI63, LI65, LI66, LI67, LI68, LI69, LI70, LI71, LI72, LI73, LI74, LI75, LI76, LI77, LI78, LI79, LI81, LI82, LI83, LI84, LI85, LI86, LI87, LI88, LI89, LI90, LI91, LI92, LI93, LI94, LI95, LI96, LI97, LI98, LI99, LI100, LI101, LI102, LI103, LI104, LI105, LI106, LI107, LI108, LI109, LI110, LI111, LI112, LI113, LI114, LI115, LI116, LI117, LI118, LI119, LI120, LI121, LI122, LI123, LI124, LI125, LI126, LI127, LI255, LI256, LI999, LI1001, LI1002, LI1600, LI4096, LI1000001, LI2042, LM, nI_clamp, nI_pos', nI_lt, nI_nlt, nI_le, nI_ge, nI_ne, nI_add, nI_sub, mI_lt, mI_le, mI_nlt, mI_nle, mI_ne, mI_ne', mI_nem]
      rw [show x = nI c from hch.1, e50]
      obtain ⟨I1, f1, hr1⟩ := r214c (A := A) (b := b) (n := n) (h := h) (J := J) (R := R) (d := d) (v1 := v1) (y3 := y3) hcap hM hnn hF hpr hN k2 (by omega) (by omega) hE
      rcases hr1 with ⟨u, r1, r2⟩ | ⟨r1, r2, r3⟩
      · exact ⟨I1, fA_mono f1 k1 g1, Or.inl ⟨u, lsO_l r1 hor, r2⟩⟩
      · have o1 : ∀ y i, k ≤ i → I1 y i = I y i := fun y i hi => f1 y i (by omega)
        have hb1 : clsR t N I1 nn pr k cs qs hi := clsR_st cs qs k hi (fun y i _ _ e _ _ => o1 y i e) (fun u _ => fA_rnm f1) (Nat.le_refl _) k3
        have hch1 : chn I1 (I1 255 c) cs := by
          rw [f1 255 c (by omega)]
          exact chn_st cs _ (fun y hy => f1 _ _ (by omega)) hch.2
        obtain ⟨I2, f2, hr2⟩ := ih qs k hi I1 (I1 255 c) hb1 hch1 (List.pairwise_cons.mp hor).2 hhi (by omega) (lEn_fA f1 (by omega) hE)
        have e45 : M214 A (d + ED + 11) 135 [some (.ref (b + 241)), v1, some (.int (nI p)), some (.int y3), some (.int (nI c))] [] (jH h b X I1 J R n) = M214 A (d + ED + 11) 45 [some (.ref (b + 241)), v1, some (.int (nI p)), some (.int y3), some (.int (I1 255 c))] [] (jH h b X I1 J R n) := by
          conv => lhs; rw [r214_135]
          simp (disch := omega) [r214_0, r214_1, r214_2, r214_5, r214_6, r214_7, r214_8, r214_11, r214_12, r214_13, r214_16, r214_17, r214_18, r214_21, r214_22, r214_23, r214_26, r214_27, r214_30, r214_31, r214_32, r214_33, r214_34, r214_37, r214_38, r214_41, r214_42, r214_43, r214_47, r214_50, r214_51, r214_54, r214_56, r214_57, r214_60, r214_61, r214_64, r214_66, r214_67, r214_68, r214_71, r214_72, r214_73, r214_74, r214_77, r214_79, r214_80, r214_81, r214_84, r214_86, r214_87, r214_90, r214_91, r214_92, r214_95, r214_97, r214_98, r214_100, r214_103, r214_104, r214_105, r214_108, r214_110, r214_111, r214_114, r214_115, r214_118, r214_120, r214_121, r214_124, r214_125, r214_126, r214_129, r214_131, r214_132, r214_136, r214_139, r214_141, r214_142, r214_144, r214_147, r214_148, r214_151, r214_152, r214_153, r214_154, r214_157, r214_158, r214_161, r214_162, r214_163, r214_164, r214_167, g241, p241_31, ty12_31, p241_32, ty12_32, vf12_28, t241_28, g258, p258, qa215, qo215, vf12_24, t241_24, g254, p254, vf12_23, t241_23, g253, p253, qa213, qo213, vf12_21, t241_21, g251, p251, vf12_22, t241_22, g252, p252, qa216, qo216, vf12_25, t241_25, g255, p255, List.getElem?_cons_zero, List.getElem?_cons_succ, List.length_cons, List.length_nil, ag_nx, ag_dn, ag_no, ag_if, jbr1, jbr2, jc1, jc2, jnul, jld, jsto, jstoL, jst1, jst2, jkill, jinc, jbI, jbL, jbS, juI, jl2i, jcmp, jisR, jisI, jisL, jret, jretv, jfits, jdup, jdup2, jpop, jmm, jcat, Value.category, jinv, jrcv, jthr, jhd, jput, jget, jlen, jald, jast, jaast, jgI, jgL, jgB, jtab, jlku, jacp, vf20, vf21, vf22, vf23, vf24, u2_s, u2_k, u2_i, uc_s, uc_k, uc_c, u2_c, LI0, LI1, LI2, LI3, LI4, LI5, LI6, LI7, LI8, LI9, LI10, LI11, LI12, LI13, LI14, LI15, LI16, LI17, LI18, LI19, LI20, LI21, LI22, LI23, LI24, LI25, LI26, LI27, LI28, LI29, LI30, LI31, LI32, LI33, LI34, LI35, LI36, LI37, LI40, LI42, LI43, LI45, LI48, LI60, LI61, LI64, LI80, LI300, LI400, LI1000, LI2000, LI2001, LI2047, LI2048, LI100000, LI1000000, LI38, LI39, LI41, LI44, LI46, LI47, LI49, LI50, LI51, LI52, LI53, LI54, LI55, LI56, LI57, LI58, LI59, LI62, LI63, LI65, LI66, LI67, LI68, LI69, LI70, LI71, LI72, LI73, LI74, LI75, LI76, LI77, LI78, LI79, LI81, LI82, LI83, LI84, LI85, LI86, LI87, LI88, LI89, LI90, LI91, LI92, LI93, LI94, LI95, LI96, LI97, LI98, LI99, LI100, LI101, LI102, LI103, LI104, LI105, LI106, LI107, LI108, LI109, LI110, LI111, LI112, LI113, LI114, LI115, LI116, LI117, LI118, LI119, LI120, LI121, LI122, LI123, LI124, LI125, LI126, LI127, LI255, LI256, LI999, LI1001, LI1002, LI1600, LI4096, LI1000001, LI2042, LM, nI_clamp, nI_pos', nI_lt, nI_nlt, nI_le, nI_ge, nI_ne, nI_add, nI_sub, mI_lt, mI_le, mI_nlt, mI_nle, mI_ne, mI_ne', mI_nem, h5]
        refine ⟨I2, fA_trans (fA_mono f1 k1 g1) (fA_mono f2 (by omega) (Nat.le_refl _)), ?_⟩
        rw [r2, e45]
        rcases hr2 with ⟨u, r4, r5⟩ | ⟨r4, r5, r6⟩
        · exact Or.inl ⟨u, lsO_r r1 r4, r5⟩
        · exact Or.inr ⟨nnO_app r1 r4, r5, k, k1, clRl_st (by omega) (fun y i _ _ _ e _ => f2 y i (by omega)) (fun u _ => fA_rnm f2) r3, r6⟩
end RLI
