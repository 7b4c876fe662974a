/-! the reference reads simple parts, brackets -/
section RSI
variable {A : Nat → Nat} {d b : Nat} {h : Nat → Option jC} {J : Nat → Nat → Int64} {R : Nat → Nat → Nat} {t : Nat → Int32} {N m B0 M0 : Nat} {g dp D pr : Nat}
/-- one token -/
theorem rAtom (hc : rCx A t N m B0 M0) {z : rZ} {j : Nat} (hq : rQ t N m B0 M0 j dp z) (h40 : KK t N j ≠ 40) (h45 : KK t N j ≠ 45) : (∃ z' j', xA (KK t N) pr j = (none, j') ∧ jcall A jcode (d + D + 10) 198 [.ref (b + 241)] (HZ h b J R z) = some (.inr 11, HZ h b J R z') ∧ rF t N m B0 M0 j' z' ∧ rSt z z') ∨ ∃ z' l j' e, xA (KK t N) pr j = (some l, j') ∧ jcall A jcode (d + D + 10) 198 [.ref (b + 241)] (HZ h b J R z) = some (.inl (some (.int (nI e))), HZ h b J R z') ∧ rQ t N m B0 M0 j' dp z' ∧ rSt z z' ∧ j < j' ∧ z'.2.2.2.2.2 ≤ z.2.2.2.2.2 + (j' - j) ∧ QX t N pr g 1 z z' e j j' l := by
  have hk := okK_lt (KK_e (t := t) (N := N) (j := j)).1
  have hT := rTk_k hq.2.1
  have s16 := hT.2.1
  have s18 := hT.1
  have hj := hq.2.2.2.2.1
  have hMz := hq.2.2.2.2.2
  have hjm := hc.2.2.1.2.1 j hj
  have w25 := r187 (d := d + D + 8) (A := A) (b := b) (h := h) (J := J) (R := R) (k0 := 25) hq (by omega) (by omega)
  rw [show wcd 25 = nI 23 by decide] at w25
  have w21 := r187 (d := d + D + 8) (A := A) (b := b) (h := h) (J := J) (R := R) (k0 := 21) hq (by omega) (by omega)
  rw [show wcd 21 = nI 19 by decide] at w21
  have w20 := r187 (d := d + D + 8) (A := A) (b := b) (h := h) (J := J) (R := R) (k0 := 20) hq (by omega) (by omega)
  rw [show wcd 20 = nI 18 by decide] at w20
  have w22 := r187 (d := d + D + 8) (A := A) (b := b) (h := h) (J := J) (R := R) (k0 := 22) hq (by omega) (by omega)
  rw [show wcd 22 = nI 20 by decide] at w22
  have w23 := r187 (d := d + D + 8) (A := A) (b := b) (h := h) (J := J) (R := R) (k0 := 23) hq (by omega) (by omega)
  rw [show wcd 23 = nI 21 by decide] at w23
  have p40 := r186 (d := d + D + 8) (A := A) (b := b) (h := h) (J := J) (R := R) (k0 := 40) hq (by omega) (by omega)
  rw [show wcd 40 = nI 40 by decide, if_neg h40] at p40
  have p45 := r186 (d := d + D + 8) (A := A) (b := b) (h := h) (J := J) (R := R) (k0 := 45) hq (by omega) (by omega)
  rw [show wcd 45 = nI 45 by decide, if_neg h45] at p45
  cases hop : aop (KK t N j) with
  | none =>
    have hno : KK t N j ≠ 27 ∧ KK t N j ≠ 26 ∧ KK t N j ≠ 25 ∧ KK t N j ≠ 21 ∧ KK t N j ≠ 20 ∧ KK t N j ≠ 22 ∧ KK t N j ≠ 23 := by
      refine ⟨?_, ?_, ?_, ?_, ?_, ?_, ?_⟩ <;> intro e <;> rw [e] at hop <;> simp [aop] at hop
    obtain ⟨h27, h26, h25, h21, h20, h22, h23⟩ := hno
    rw [if_neg h25] at w25
    rw [if_neg h21] at w21
    rw [if_neg h20] at w20
    rw [if_neg h22] at w22
    rw [if_neg h23] at w23
    have n3 : ¬ kcd (KK t N j) = nI 3 := fun z => h27 ((kcd_3 _ hk).mp z)
    have n1 : ¬ kcd (KK t N j) = nI 1 := fun z => h26 ((kcd_1 _ hk).mp z)
    obtain ⟨z', e, q1, q2, q3⟩ := r177 (d := d + D + 8) (A := A) (b := b) (h := h) (J := J) (R := R) hq
    refine Or.inl ⟨z', j, by unfold xA; rw [hop], ?_, q1, q2⟩
    simp (disch := omega) [je198, r198_0, r198_1, r198_4, r198_5, r198_6, r198_9, r198_10, r198_11, r198_14, r198_15, r198_18, r198_19, r198_22, r198_23, r198_26, r198_27, r198_30, r198_31, r198_34, r198_35, r198_38, r198_39, r198_40, r198_41, r198_44, r198_45, r198_46, r198_47, r198_48, r198_49, r198_50, r198_53, r198_54, r198_55, r198_57, r198_60, r198_63, r198_64, r198_66, r198_69, r198_72, r198_73, r198_75, r198_78, r198_81, r198_82, r198_84, r198_87, r198_90, r198_91, r198_93, r198_96, r198_99, r198_100, r198_103, r198_104, r198_105, r198_106, r198_107, r198_108, r198_109, r198_112, r198_113, r198_114, r198_116, r198_119, r198_122, r198_123, r198_126, r198_127, r198_130, r198_131, r198_134, r198_135, r198_136, r198_138, r198_141, r198_142, r198_143, r198_146, r198_147, r198_148, r198_151, r198_152, r198_153, r198_154, r198_156, r198_159, r198_162, r198_163, r198_164, r198_167, r198_170, r198_171, r198_172, r198_175, r198_176, r198_179, r198_180, r198_183, r198_184, r198_185, r198_186, r198_189, r198_190, r198_191, r198_194, r198_195, r198_196, r198_197, r198_198, r198_199, r198_200, r198_203, g241, vf12_18, vf12_17, vf12_16, qa185, qo185, qa193, qo193, qa187, qo187, qa186, qo186, qa194, qo194, qa195, qo195, qa190, qo190, vf12_30, p241_30, ty12_30, qa177, qo177, qa198, qo198, List.getElem?_cons_zero, List.getElem?_cons_succ, List.length_cons, List.length_nil, ag_nx, ag_dn, ag_no, ag_if, jbr1, jbr2, jc1, jc2, jnul, jld, jsto, jstoL, jst1, jst2, jkill, jinc, jbI, jbL, jbS, juI, jl2i, jcmp, jisR, jisI, jisL, jret, jretv, jfits, jdup, jdup2, jpop, jmm, jcat, Value.category, jinv, jrcv, jthr, jhd, jput, jget, jlen, jald, jast, jaast, jgI, jgL, jgB, jtab, jlku, jacp, vf20, vf21, vf22, vf23, vf24, u2_s, u2_k, u2_i, uc_s, uc_k, uc_c, u2_c, LI0, LI1, LI2, LI3, LI4, LI5, LI6, LI7, LI8, LI9, LI10, LI11, LI12, LI13, LI14, LI15, LI16, LI17, LI18, LI19, LI20, LI21, LI22, LI23, LI24, LI25, LI26, LI27, LI28, LI29, LI30, LI31, LI32, LI33, LI34, LI35, LI36, LI37, LI40, LI42, LI43, LI45, LI48, LI60, LI61, LI64, LI80, LI300, LI400, LI1000, LI2000, LI2001, LI2047, LI2048, LI100000, LI1000000, LI38, LI39, LI41, LI44, LI46, LI47, LI49, LI50, LI51, LI52, LI53, LI54, LI55, LI56, LI57, LI58, LI59, LI62, LI63, LI65, LI66, LI67, LI68, LI69, LI70, LI71, LI72, LI73, LI74, LI75, LI76, LI77, LI78, LI79, LI81, LI82, LI83, LI84, LI85, LI86, LI87, LI88, LI89, LI90, LI91, LI92, LI93, LI94, LI95, LI96, LI97, LI98, LI99, LI100, LI101, LI102, LI103, LI104, LI105, LI106, LI107, LI108, LI109, LI110, LI111, LI112, LI113, LI114, LI115, LI116, LI117, LI118, LI119, LI120, LI121, LI122, LI123, LI124, LI125, LI126, LI127, LI255, LI256, LI999, LI1001, LI1002, LI1600, LI4096, LI1000001, LI2042, LM, nI_clamp, nI_pos', nI_lt, nI_nlt, nI_le, nI_ge, nI_ne, nI_add, nI_sub, mI_lt, mI_le, mI_nlt, mI_nle, mI_ne, mI_ne', mI_nem, s16, n3, n1, w25, w21, w20, w22, w23, p40, p45, e, jath, g242]
  | some op =>
    have hne : KK t N j ≠ 28 ∧ KK t N j ≠ 29 := by
      constructor <;> intro e <;> rw [e] at hop <;> simp [aop] at hop
    obtain ⟨z1, e1, q1, st1, n1', f1⟩ := rTok (d := d + D + 3) (A := A) (b := b) (h := h) (J := J) (R := R) hc hq hne.1 hne.2
    have hjm' := hjm hne.2
    have hks : KK t N j = 27 ∨ KK t N j = 26 ∨ KK t N j = 25 ∨ KK t N j = 21 ∨ KK t N j = 20 ∨ KK t N j = 22 ∨ KK t N j = 23 := by
      unfold aop at hop
      by_cases z1 : KK t N j = 27
      · exact Or.inl z1
      by_cases z2 : KK t N j = 26
      · exact Or.inr (Or.inl z2)
      by_cases z3 : KK t N j = 25
      · exact Or.inr (Or.inr (Or.inl z3))
      by_cases z4 : KK t N j = 21
      · exact Or.inr (Or.inr (Or.inr (Or.inl z4)))
      by_cases z5 : KK t N j = 20
      · exact Or.inr (Or.inr (Or.inr (Or.inr (Or.inl z5))))
      by_cases z6 : KK t N j = 22
      · exact Or.inr (Or.inr (Or.inr (Or.inr (Or.inr (Or.inl z6)))))
      by_cases z7 : KK t N j = 23
      · exact Or.inr (Or.inr (Or.inr (Or.inr (Or.inr (Or.inr z7)))))
      rw [if_neg z1, if_neg z2, if_neg z3, if_neg z4, if_neg z5, if_neg z6, if_neg z7] at hop
      cases hop
    clear hop
    rcases hks with hK | hK | hK | hK | hK | hK | hK
    · -- a number
      rw [(kcd_3 _ hk).mpr hK] at s16
      have s17 := hT.2.2.2.1 hK
      obtain ⟨z2, e2, q2, st2, n2, nn2, d2, f2⟩ := rNode (d := d + D + 7) (A := A) (b := b) (h := h) (J := J) (R := R) (k := nI 0) (x1 := tkNu t N (tpos t N j)) (x2 := mI 1) (x3 := mI 1) (fr := nI (tpos t N j)) hc q1 (by omega)
      have hop : aop (KK t N j) = some 0 := by rw [hK]; rfl
      refine Or.inr ⟨z2, [(0, .inr j, .inl (nI pr), j)], j + 1, z1.2.2.2.2.2, by unfold xA; rw [hop], ?_, q2, rSt_trans st1 st2, by omega, by omega, ?_, by rw [n2]; omega⟩
      · simp (disch := omega) [je198, r198_0, r198_1, r198_4, r198_5, r198_6, r198_9, r198_10, r198_11, r198_14, r198_15, r198_18, r198_19, r198_22, r198_23, r198_26, r198_27, r198_30, r198_31, r198_34, r198_35, r198_38, r198_39, r198_40, r198_41, r198_44, r198_45, r198_46, r198_47, r198_48, r198_49, r198_50, r198_53, r198_54, r198_55, r198_57, r198_60, r198_63, r198_64, r198_66, r198_69, r198_72, r198_73, r198_75, r198_78, r198_81, r198_82, r198_84, r198_87, r198_90, r198_91, r198_93, r198_96, r198_99, r198_100, r198_103, r198_104, r198_105, r198_106, r198_107, r198_108, r198_109, r198_112, r198_113, r198_114, r198_116, r198_119, r198_122, r198_123, r198_126, r198_127, r198_130, r198_131, r198_134, r198_135, r198_136, r198_138, r198_141, r198_142, r198_143, r198_146, r198_147, r198_148, r198_151, r198_152, r198_153, r198_154, r198_156, r198_159, r198_162, r198_163, r198_164, r198_167, r198_170, r198_171, r198_172, r198_175, r198_176, r198_179, r198_180, r198_183, r198_184, r198_185, r198_186, r198_189, r198_190, r198_191, r198_194, r198_195, r198_196, r198_197, r198_198, r198_199, r198_200, r198_203, g241, vf12_18, vf12_17, vf12_16, qa185, qo185, qa193, qo193, qa187, qo187, qa186, qo186, qa194, qo194, qa195, qo195, qa190, qo190, vf12_30, p241_30, ty12_30, qa177, qo177, qa198, qo198, List.getElem?_cons_zero, List.getElem?_cons_succ, List.length_cons, List.length_nil, ag_nx, ag_dn, ag_no, ag_if, jbr1, jbr2, jc1, jc2, jnul, jld, jsto, jstoL, jst1, jst2, jkill, jinc, jbI, jbL, jbS, juI, jl2i, jcmp, jisR, jisI, jisL, jret, jretv, jfits, jdup, jdup2, jpop, jmm, jcat, Value.category, jinv, jrcv, jthr, jhd, jput, jget, jlen, jald, jast, jaast, jgI, jgL, jgB, jtab, jlku, jacp, vf20, vf21, vf22, vf23, vf24, u2_s, u2_k, u2_i, uc_s, uc_k, uc_c, u2_c, LI0, LI1, LI2, LI3, LI4, LI5, LI6, LI7, LI8, LI9, LI10, LI11, LI12, LI13, LI14, LI15, LI16, LI17, LI18, LI19, LI20, LI21, LI22, LI23, LI24, LI25, LI26, LI27, LI28, LI29, LI30, LI31, LI32, LI33, LI34, LI35, LI36, LI37, LI40, LI42, LI43, LI45, LI48, LI60, LI61, LI64, LI80, LI300, LI400, LI1000, LI2000, LI2001, LI2047, LI2048, LI100000, LI1000000, LI38, LI39, LI41, LI44, LI46, LI47, LI49, LI50, LI51, LI52, LI53, LI54, LI55, LI56, LI57, LI58, LI59, LI62, LI63, LI65, LI66, LI67, LI68, LI69, LI70, LI71, LI72, LI73, LI74, LI75, LI76, LI77, LI78, LI79, LI81, LI82, LI83, LI84, LI85, LI86, LI87, LI88, LI89, LI90, LI91, LI92, LI93, LI94, LI95, LI96, LI97, LI98, LI99, LI100, LI101, LI102, LI103, LI104, LI105, LI106, LI107, LI108, LI109, LI110, LI111, LI112, LI113, LI114, LI115, LI116, LI117, LI118, LI119, LI120, LI121, LI122, LI123, LI124, LI125, LI126, LI127, LI255, LI256, LI999, LI1001, LI1002, LI1600, LI4096, LI1000001, LI2042, LM, nI_clamp, nI_pos', nI_lt, nI_nlt, nI_le, nI_ge, nI_ne, nI_add, nI_sub, mI_lt, mI_le, mI_nlt, mI_nle, mI_ne, mI_ne', mI_nem, s16, s17, s18, e1, e2]
      · obtain ⟨x, hx⟩ : ∃ x, (j + 1 - j + 1) / 2 + g = x + 1 := ⟨(j + 1 - j + 1) / 2 + g - 1, by omega⟩
        rw [hx]
        exact ⟨by omega, by omega, Or.inl ⟨d2.1, j, rfl, hK, d2.2.1⟩⟩
    · -- a name
      rw [(kcd_1 _ hk).mpr hK] at s16
      obtain ⟨w, v1, v2, v3⟩ := hT.2.2.1 hK
      obtain ⟨z2, e2, q2, st2, n2, nn2, d2, f2⟩ := rNode (d := d + D + 7) (A := A) (b := b) (h := h) (J := J) (R := R) (k := nI 1) (x1 := nI w) (x2 := mI 1) (x3 := mI 1) (fr := nI (tpos t N j)) hc q1 (by omega)
      have hop : aop (KK t N j) = some 1 := by rw [hK]; rfl
      have hst := rSt_trans st1 st2
      refine Or.inr ⟨z2, [(1, .inr j, .inl (nI pr), j)], j + 1, z1.2.2.2.2.2, by unfold xA; rw [hop], ?_, q2, hst, by omega, by omega, ?_, by rw [n2]; omega⟩
      · simp (disch := omega) [je198, r198_0, r198_1, r198_4, r198_5, r198_6, r198_9, r198_10, r198_11, r198_14, r198_15, r198_18, r198_19, r198_22, r198_23, r198_26, r198_27, r198_30, r198_31, r198_34, r198_35, r198_38, r198_39, r198_40, r198_41, r198_44, r198_45, r198_46, r198_47, r198_48, r198_49, r198_50, r198_53, r198_54, r198_55, r198_57, r198_60, r198_63, r198_64, r198_66, r198_69, r198_72, r198_73, r198_75, r198_78, r198_81, r198_82, r198_84, r198_87, r198_90, r198_91, r198_93, r198_96, r198_99, r198_100, r198_103, r198_104, r198_105, r198_106, r198_107, r198_108, r198_109, r198_112, r198_113, r198_114, r198_116, r198_119, r198_122, r198_123, r198_126, r198_127, r198_130, r198_131, r198_134, r198_135, r198_136, r198_138, r198_141, r198_142, r198_143, r198_146, r198_147, r198_148, r198_151, r198_152, r198_153, r198_154, r198_156, r198_159, r198_162, r198_163, r198_164, r198_167, r198_170, r198_171, r198_172, r198_175, r198_176, r198_179, r198_180, r198_183, r198_184, r198_185, r198_186, r198_189, r198_190, r198_191, r198_194, r198_195, r198_196, r198_197, r198_198, r198_199, r198_200, r198_203, g241, vf12_18, vf12_17, vf12_16, qa185, qo185, qa193, qo193, qa187, qo187, qa186, qo186, qa194, qo194, qa195, qo195, qa190, qo190, vf12_30, p241_30, ty12_30, qa177, qo177, qa198, qo198, List.getElem?_cons_zero, List.getElem?_cons_succ, List.length_cons, List.length_nil, ag_nx, ag_dn, ag_no, ag_if, jbr1, jbr2, jc1, jc2, jnul, jld, jsto, jstoL, jst1, jst2, jkill, jinc, jbI, jbL, jbS, juI, jl2i, jcmp, jisR, jisI, jisL, jret, jretv, jfits, jdup, jdup2, jpop, jmm, jcat, Value.category, jinv, jrcv, jthr, jhd, jput, jget, jlen, jald, jast, jaast, jgI, jgL, jgB, jtab, jlku, jacp, vf20, vf21, vf22, vf23, vf24, u2_s, u2_k, u2_i, uc_s, uc_k, uc_c, u2_c, LI0, LI1, LI2, LI3, LI4, LI5, LI6, LI7, LI8, LI9, LI10, LI11, LI12, LI13, LI14, LI15, LI16, LI17, LI18, LI19, LI20, LI21, LI22, LI23, LI24, LI25, LI26, LI27, LI28, LI29, LI30, LI31, LI32, LI33, LI34, LI35, LI36, LI37, LI40, LI42, LI43, LI45, LI48, LI60, LI61, LI64, LI80, LI300, LI400, LI1000, LI2000, LI2001, LI2047, LI2048, LI100000, LI1000000, LI38, LI39, LI41, LI44, LI46, LI47, LI49, LI50, LI51, LI52, LI53, LI54, LI55, LI56, LI57, LI58, LI59, LI62, LI63, LI65, LI66, LI67, LI68, LI69, LI70, LI71, LI72, LI73, LI74, LI75, LI76, LI77, LI78, LI79, LI81, LI82, LI83, LI84, LI85, LI86, LI87, LI88, LI89, LI90, LI91, LI92, LI93, LI94, LI95, LI96, LI97, LI98, LI99, LI100, LI101, LI102, LI103, LI104, LI105, LI106, LI107, LI108, LI109, LI110, LI111, LI112, LI113, LI114, LI115, LI116, LI117, LI118, LI119, LI120, LI121, LI122, LI123, LI124, LI125, LI126, LI127, LI255, LI256, LI999, LI1001, LI1002, LI1600, LI4096, LI1000001, LI2042, LM, nI_clamp, nI_pos', nI_lt, nI_nlt, nI_le, nI_ge, nI_ne, nI_add, nI_sub, mI_lt, mI_le, mI_nlt, mI_nle, mI_ne, mI_ne', mI_nem, s16, v2, s18, e1, e2]
      · obtain ⟨x, hx⟩ : ∃ x, (j + 1 - j + 1) / 2 + g = x + 1 := ⟨(j + 1 - j + 1) / 2 + g - 1, by omega⟩
        rw [hx]
        have hlt : w < z2.2.2.2.1 := Nat.lt_of_lt_of_le v1 hst.2.1
        exact ⟨by omega, by omega, Or.inr (Or.inl ⟨d2.1, j, w, rfl, hK, hlt, d2.2.1, (hst.2.2.1 w v1).trans v3, d2.2.2.2.2.2.1⟩)⟩
    · -- word
      rw [if_pos hK] at w25
      have s17 := hT.2.2.2.2 (by omega)
      rw [hK, show wcd 25 = nI 23 by decide] at s17
      have n3 : ¬ kcd (KK t N j) = nI 3 := fun z => absurd ((kcd_3 _ hk).mp z) (by omega)
      have n1 : ¬ kcd (KK t N j) = nI 1 := fun z => absurd ((kcd_1 _ hk).mp z) (by omega)
      obtain ⟨z2, e2, q2, st2, n2, nn2, d2, f2⟩ := rNode (d := d + D + 7) (A := A) (b := b) (h := h) (J := J) (R := R) (k := nI 2) (x1 := nI 23) (x2 := mI 1) (x3 := mI 1) (fr := nI (tpos t N j)) hc q1 (by omega)
      have hop : aop (KK t N j) = some 2 := by rw [hK]; rfl
      refine Or.inr ⟨z2, [(2, .inr j, .inl (nI pr), j)], j + 1, z1.2.2.2.2.2, by unfold xA; rw [hop], ?_, q2, rSt_trans st1 st2, by omega, by omega, ?_, by rw [n2]; omega⟩
      · simp (disch := omega) [je198, r198_0, r198_1, r198_4, r198_5, r198_6, r198_9, r198_10, r198_11, r198_14, r198_15, r198_18, r198_19, r198_22, r198_23, r198_26, r198_27, r198_30, r198_31, r198_34, r198_35, r198_38, r198_39, r198_40, r198_41, r198_44, r198_45, r198_46, r198_47, r198_48, r198_49, r198_50, r198_53, r198_54, r198_55, r198_57, r198_60, r198_63, r198_64, r198_66, r198_69, r198_72, r198_73, r198_75, r198_78, r198_81, r198_82, r198_84, r198_87, r198_90, r198_91, r198_93, r198_96, r198_99, r198_100, r198_103, r198_104, r198_105, r198_106, r198_107, r198_108, r198_109, r198_112, r198_113, r198_114, r198_116, r198_119, r198_122, r198_123, r198_126, r198_127, r198_130, r198_131, r198_134, r198_135, r198_136, r198_138, r198_141, r198_142, r198_143, r198_146, r198_147, r198_148, r198_151, r198_152, r198_153, r198_154, r198_156, r198_159, r198_162, r198_163, r198_164, r198_167, r198_170, r198_171, r198_172, r198_175, r198_176, r198_179, r198_180, r198_183, r198_184, r198_185, r198_186, r198_189, r198_190, r198_191, r198_194, r198_195, r198_196, r198_197, r198_198, r198_199, r198_200, r198_203, g241, vf12_18, vf12_17, vf12_16, qa185, qo185, qa193, qo193, qa187, qo187, qa186, qo186, qa194, qo194, qa195, qo195, qa190, qo190, vf12_30, p241_30, ty12_30, qa177, qo177, qa198, qo198, List.getElem?_cons_zero, List.getElem?_cons_succ, List.length_cons, List.length_nil, ag_nx, ag_dn, ag_no, ag_if, jbr1, jbr2, jc1, jc2, jnul, jld, jsto, jstoL, jst1, jst2, jkill, jinc, jbI, jbL, jbS, juI, jl2i, jcmp, jisR, jisI, jisL, jret, jretv, jfits, jdup, jdup2, jpop, jmm, jcat, Value.category, jinv, jrcv, jthr, jhd, jput, jget, jlen, jald, jast, jaast, jgI, jgL, jgB, jtab, jlku, jacp, vf20, vf21, vf22, vf23, vf24, u2_s, u2_k, u2_i, uc_s, uc_k, uc_c, u2_c, LI0, LI1, LI2, LI3, LI4, LI5, LI6, LI7, LI8, LI9, LI10, LI11, LI12, LI13, LI14, LI15, LI16, LI17, LI18, LI19, LI20, LI21, LI22, LI23, LI24, LI25, LI26, LI27, LI28, LI29, LI30, LI31, LI32, LI33, LI34, LI35, LI36, LI37, LI40, LI42, LI43, LI45, LI48, LI60, LI61, LI64, LI80, LI300, LI400, LI1000, LI2000, LI2001, LI2047, LI2048, LI100000, LI1000000, LI38, LI39, LI41, LI44, LI46, LI47, LI49, LI50, LI51, LI52, LI53, LI54, LI55, LI56, LI57, LI58, LI59, LI62, LI63, LI65, LI66, LI67, LI68, LI69, LI70, LI71, LI72, LI73, LI74, LI75, LI76, LI77, LI78, LI79, LI81, LI82, LI83, LI84, LI85, LI86, LI87, LI88, LI89, LI90, LI91, LI92, LI93, LI94, LI95, LI96, LI97, LI98, LI99, LI100, LI101, LI102, LI103, LI104, LI105, LI106, LI107, LI108, LI109, LI110, LI111, LI112, LI113, LI114, LI115, LI116, LI117, LI118, LI119, LI120, LI121, LI122, LI123, LI124, LI125, LI126, LI127, LI255, LI256, LI999, LI1001, LI1002, LI1600, LI4096, LI1000001, LI2042, LM, nI_clamp, nI_pos', nI_lt, nI_nlt, nI_le, nI_ge, nI_ne, nI_add, nI_sub, mI_lt, mI_le, mI_nlt, mI_nle, mI_ne, mI_ne', mI_nem, s16, n3, n1, s17, s18, w25, e1, e2]
      · obtain ⟨x, hx⟩ : ∃ x, (j + 1 - j + 1) / 2 + g = x + 1 := ⟨(j + 1 - j + 1) / 2 + g - 1, by omega⟩
        rw [hx]
        exact ⟨by omega, by omega, Or.inr (Or.inr (Or.inl ⟨d2.1, j, 2, rfl, by rw [d2.2.1]; simp⟩))⟩
    · -- word
      rw [if_pos hK] at w21
      rw [if_neg (by omega)] at w25
      have s17 := hT.2.2.2.2 (by omega)
      rw [hK, show wcd 21 = nI 19 by decide] at s17
      have n3 : ¬ kcd (KK t N j) = nI 3 := fun z => absurd ((kcd_3 _ hk).mp z) (by omega)
      have n1 : ¬ kcd (KK t N j) = nI 1 := fun z => absurd ((kcd_1 _ hk).mp z) (by omega)
      obtain ⟨z2, e2, q2, st2, n2, nn2, d2, f2⟩ := rNode (d := d + D + 7) (A := A) (b := b) (h := h) (J := J) (R := R) (k := nI 2) (x1 := nI 19) (x2 := mI 1) (x3 := mI 1) (fr := nI (tpos t N j)) hc q1 (by omega)
      have hop : aop (KK t N j) = some 3 := by rw [hK]; rfl
      refine Or.inr ⟨z2, [(3, .inr j, .inl (nI pr), j)], j + 1, z1.2.2.2.2.2, by unfold xA; rw [hop], ?_, q2, rSt_trans st1 st2, by omega, by omega, ?_, by rw [n2]; omega⟩
      · simp (disch := omega) [je198, r198_0, r198_1, r198_4, r198_5, r198_6, r198_9, r198_10, r198_11, r198_14, r198_15, r198_18, r198_19, r198_22, r198_23, r198_26, r198_27, r198_30, r198_31, r198_34, r198_35, r198_38, r198_39, r198_40, r198_41, r198_44, r198_45, r198_46, r198_47, r198_48, r198_49, r198_50, r198_53, r198_54, r198_55, r198_57, r198_60, r198_63, r198_64, r198_66, r198_69, r198_72, r198_73, r198_75, r198_78, r198_81, r198_82, r198_84, r198_87, r198_90, r198_91, r198_93, r198_96, r198_99, r198_100, r198_103, r198_104, r198_105, r198_106, r198_107, r198_108, r198_109, r198_112, r198_113, r198_114, r198_116, r198_119, r198_122, r198_123, r198_126, r198_127, r198_130, r198_131, r198_134, r198_135, r198_136, r198_138, r198_141, r198_142, r198_143, r198_146, r198_147, r198_148, r198_151, r198_152, r198_153, r198_154, r198_156, r198_159, r198_162, r198_163, r198_164, r198_167, r198_170, r198_171, r198_172, r198_175, r198_176, r198_179, r198_180, r198_183, r198_184, r198_185, r198_186, r198_189, r198_190, r198_191, r198_194, r198_195, r198_196, r198_197, r198_198, r198_199, r198_200, r198_203, g241, vf12_18, vf12_17, vf12_16, qa185, qo185, qa193, qo193, qa187, qo187, qa186, qo186, qa194, qo194, qa195, qo195, qa190, qo190, vf12_30, p241_30, ty12_30, qa177, qo177, qa198, qo198, List.getElem?_cons_zero, List.getElem?_cons_succ, List.length_cons, List.length_nil, ag_nx, ag_dn, ag_no, ag_if, jbr1, jbr2, jc1, jc2, jnul, jld, jsto, jstoL, jst1, jst2, jkill, jinc, jbI, jbL, jbS, juI, jl2i, jcmp, jisR, jisI, jisL, jret, jretv, jfits, jdup, jdup2, jpop, jmm, jcat, Value.category, jinv, jrcv, jthr, jhd, jput, jget, jlen, jald, jast, jaast, jgI, jgL, jgB, jtab, jlku, jacp, vf20, vf21, vf22, vf23, vf24, u2_s, u2_k, u2_i, uc_s, uc_k, uc_c, u2_c, LI0, LI1, LI2, LI3, LI4, LI5, LI6, LI7, LI8, LI9, LI10, LI11, LI12, LI13, LI14, LI15, LI16, LI17, LI18, LI19, LI20, LI21, LI22, LI23, LI24, LI25, LI26, LI27, LI28, LI29, LI30, LI31, LI32, LI33, LI34, LI35, LI36, LI37, LI40, LI42, LI43, LI45, LI48, LI60, LI61, LI64, LI80, LI300, LI400, LI1000, LI2000, LI2001, LI2047, LI2048, LI100000, LI1000000, LI38, LI39, LI41, LI44, LI46, LI47, LI49, LI50, LI51, LI52, LI53, LI54, LI55, LI56, LI57, LI58, LI59, LI62, LI63, LI65, LI66, LI67, LI68, LI69, LI70, LI71, LI72, LI73, LI74, LI75, LI76, LI77, LI78, LI79, LI81, LI82, LI83, LI84, LI85, LI86, LI87, LI88, LI89, LI90, LI91, LI92, LI93, LI94, LI95, LI96, LI97, LI98, LI99, LI100, LI101, LI102, LI103, LI104, LI105, LI106, LI107, LI108, LI109, LI110, LI111, LI112, LI113, LI114, LI115, LI116, LI117, LI118, LI119, LI120, LI121, LI122, LI123, LI124, LI125, LI126, LI127, LI255, LI256, LI999, LI1001, LI1002, LI1600, LI4096, LI1000001, LI2042, LM, nI_clamp, nI_pos', nI_lt, nI_nlt, nI_le, nI_ge, nI_ne, nI_add, nI_sub, mI_lt, mI_le, mI_nlt, mI_nle, mI_ne, mI_ne', mI_nem, s16, n3, n1, s17, s18, w25, w21, e1, e2]
      · obtain ⟨x, hx⟩ : ∃ x, (j + 1 - j + 1) / 2 + g = x + 1 := ⟨(j + 1 - j + 1) / 2 + g - 1, by omega⟩
        rw [hx]
        exact ⟨by omega, by omega, Or.inr (Or.inr (Or.inl ⟨d2.1, j, 3, rfl, by rw [d2.2.1]; simp⟩))⟩
    · -- word
      rw [if_pos hK] at w20
      rw [if_neg (by omega)] at w25
      rw [if_neg (by omega)] at w21
      have s17 := hT.2.2.2.2 (by omega)
      rw [hK, show wcd 20 = nI 18 by decide] at s17
      have n3 : ¬ kcd (KK t N j) = nI 3 := fun z => absurd ((kcd_3 _ hk).mp z) (by omega)
      have n1 : ¬ kcd (KK t N j) = nI 1 := fun z => absurd ((kcd_1 _ hk).mp z) (by omega)
      obtain ⟨z2, e2, q2, st2, n2, nn2, d2, f2⟩ := rNode (d := d + D + 7) (A := A) (b := b) (h := h) (J := J) (R := R) (k := nI 2) (x1 := nI 18) (x2 := mI 1) (x3 := mI 1) (fr := nI (tpos t N j)) hc q1 (by omega)
      have hop : aop (KK t N j) = some 4 := by rw [hK]; rfl
      refine Or.inr ⟨z2, [(4, .inr j, .inl (nI pr), j)], j + 1, z1.2.2.2.2.2, by unfold xA; rw [hop], ?_, q2, rSt_trans st1 st2, by omega, by omega, ?_, by rw [n2]; omega⟩
      · simp (disch := omega) [je198, r198_0, r198_1, r198_4, r198_5, r198_6, r198_9, r198_10, r198_11, r198_14, r198_15, r198_18, r198_19, r198_22, r198_23, r198_26, r198_27, r198_30, r198_31, r198_34, r198_35, r198_38, r198_39, r198_40, r198_41, r198_44, r198_45, r198_46, r198_47, r198_48, r198_49, r198_50, r198_53, r198_54, r198_55, r198_57, r198_60, r198_63, r198_64, r198_66, r198_69, r198_72, r198_73, r198_75, r198_78, r198_81, r198_82, r198_84, r198_87, r198_90, r198_91, r198_93, r198_96, r198_99, r198_100, r198_103, r198_104, r198_105, r198_106, r198_107, r198_108, r198_109, r198_112, r198_113, r198_114, r198_116, r198_119, r198_122, r198_123, r198_126, r198_127, r198_130, r198_131, r198_134, r198_135, r198_136, r198_138, r198_141, r198_142, r198_143, r198_146, r198_147, r198_148, r198_151, r198_152, r198_153, r198_154, r198_156, r198_159, r198_162, r198_163, r198_164, r198_167, r198_170, r198_171, r198_172, r198_175, r198_176, r198_179, r198_180, r198_183, r198_184, r198_185, r198_186, r198_189, r198_190, r198_191, r198_194, r198_195, r198_196, r198_197, r198_198, r198_199, r198_200, r198_203, g241, vf12_18, vf12_17, vf12_16, qa185, qo185, qa193, qo193, qa187, qo187, qa186, qo186, qa194, qo194, qa195, qo195, qa190, qo190, vf12_30, p241_30, ty12_30, qa177, qo177, qa198, qo198, List.getElem?_cons_zero, List.getElem?_cons_succ, List.length_cons, List.length_nil, ag_nx, ag_dn, ag_no, ag_if, jbr1, jbr2, jc1, jc2, jnul, jld, jsto, jstoL, jst1, jst2, jkill, jinc, jbI, jbL, jbS, juI, jl2i, jcmp, jisR, jisI, jisL, jret, jretv, jfits, jdup, jdup2, jpop, jmm, jcat, Value.category, jinv, jrcv, jthr, jhd, jput, jget, jlen, jald, jast, jaast, jgI, jgL, jgB, jtab, jlku, jacp, vf20, vf21, vf22, vf23, vf24, u2_s, u2_k, u2_i, uc_s, uc_k, uc_c, u2_c, LI0, LI1, LI2, LI3, LI4, LI5, LI6, LI7, LI8, LI9, LI10, LI11, LI12, LI13, LI14, LI15, LI16, LI17, LI18, LI19, LI20, LI21, LI22, LI23, LI24, LI25, LI26, LI27, LI28, LI29, LI30, LI31, LI32, LI33, LI34, LI35, LI36, LI37, LI40, LI42, LI43, LI45, LI48, LI60, LI61, LI64, LI80, LI300, LI400, LI1000, LI2000, LI2001, LI2047, LI2048, LI100000, LI1000000, LI38, LI39, LI41, LI44, LI46, LI47, LI49, LI50, LI51, LI52, LI53, LI54, LI55, LI56, LI57, LI58, LI59, LI62, LI63, LI65, LI66, LI67, LI68, LI69, LI70, LI71, LI72, LI73, LI74, LI75, LI76, LI77, LI78, LI79, LI81, LI82, LI83, LI84, LI85, LI86, LI87, LI88, LI89, LI90, LI91, LI92, LI93, LI94, LI95, LI96, LI97, LI98, LI99, LI100, LI101, LI102, LI103, LI104, LI105, LI106, LI107, LI108, LI109, LI110, LI111, LI112, LI113, LI114, LI115, LI116, LI117, LI118, LI119, LI120, LI121, LI122, LI123, LI124, LI125, LI126, LI127, LI255, LI256, LI999, LI1001, LI1002, LI1600, LI4096, LI1000001, LI2042, LM, nI_clamp, nI_pos', nI_lt, nI_nlt, nI_le, nI_ge, nI_ne, nI_add, nI_sub, mI_lt, mI_le, mI_nlt, mI_nle, mI_ne, mI_ne', mI_nem, s16, n3, n1, s17, s18, w25, w21, w20, e1, e2]
      · obtain ⟨x, hx⟩ : ∃ x, (j + 1 - j + 1) / 2 + g = x + 1 := ⟨(j + 1 - j + 1) / 2 + g - 1, by omega⟩
        rw [hx]
        exact ⟨by omega, by omega, Or.inr (Or.inr (Or.inl ⟨d2.1, j, 4, rfl, by rw [d2.2.1]; simp⟩))⟩
    · -- word
      rw [if_pos hK] at w22
      rw [if_neg (by omega)] at w25
      rw [if_neg (by omega)] at w21
      rw [if_neg (by omega)] at w20
      have s17 := hT.2.2.2.2 (by omega)
      rw [hK, show wcd 22 = nI 20 by decide] at s17
      have n3 : ¬ kcd (KK t N j) = nI 3 := fun z => absurd ((kcd_3 _ hk).mp z) (by omega)
      have n1 : ¬ kcd (KK t N j) = nI 1 := fun z => absurd ((kcd_1 _ hk).mp z) (by omega)
      obtain ⟨z2, e2, q2, st2, n2, nn2, d2, f2⟩ := rNode (d := d + D + 7) (A := A) (b := b) (h := h) (J := J) (R := R) (k := nI 2) (x1 := nI 20) (x2 := mI 1) (x3 := mI 1) (fr := nI (tpos t N j)) hc q1 (by omega)
      have hop : aop (KK t N j) = some 5 := by rw [hK]; rfl
      refine Or.inr ⟨z2, [(5, .inr j, .inl (nI pr), j)], j + 1, z1.2.2.2.2.2, by unfold xA; rw [hop], ?_, q2, rSt_trans st1 st2, by omega, by omega, ?_, by rw [n2]; omega⟩
      · simp (disch := omega) [je198, r198_0, r198_1, r198_4, r198_5, r198_6, r198_9, r198_10, r198_11, r198_14, r198_15, r198_18, r198_19, r198_22, r198_23, r198_26, r198_27, r198_30, r198_31, r198_34, r198_35, r198_38, r198_39, r198_40, r198_41, r198_44, r198_45, r198_46, r198_47, r198_48, r198_49, r198_50, r198_53, r198_54, r198_55, r198_57, r198_60, r198_63, r198_64, r198_66, r198_69, r198_72, r198_73, r198_75, r198_78, r198_81, r198_82, r198_84, r198_87, r198_90, r198_91, r198_93, r198_96, r198_99, r198_100, r198_103, r198_104, r198_105, r198_106, r198_107, r198_108, r198_109, r198_112, r198_113, r198_114, r198_116, r198_119, r198_122, r198_123, r198_126, r198_127, r198_130, r198_131, r198_134, r198_135, r198_136, r198_138, r198_141, r198_142, r198_143, r198_146, r198_147, r198_148, r198_151, r198_152, r198_153, r198_154, r198_156, r198_159, r198_162, r198_163, r198_164, r198_167, r198_170, r198_171, r198_172, r198_175, r198_176, r198_179, r198_180, r198_183, r198_184, r198_185, r198_186, r198_189, r198_190, r198_191, r198_194, r198_195, r198_196, r198_197, r198_198, r198_199, r198_200, r198_203, g241, vf12_18, vf12_17, vf12_16, qa185, qo185, qa193, qo193, qa187, qo187, qa186, qo186, qa194, qo194, qa195, qo195, qa190, qo190, vf12_30, p241_30, ty12_30, qa177, qo177, qa198, qo198, List.getElem?_cons_zero, List.getElem?_cons_succ, List.length_cons, List.length_nil, ag_nx, ag_dn, ag_no, ag_if, jbr1, jbr2, jc1, jc2, jnul, jld, jsto, jstoL, jst1, jst2, jkill, jinc, jbI, jbL, jbS, juI, jl2i, jcmp, jisR, jisI, jisL, jret, jretv, jfits, jdup, jdup2, jpop, jmm, jcat, Value.category, jinv, jrcv, jthr, jhd, jput, jget, jlen, jald, jast, jaast, jgI, jgL, jgB, jtab, jlku, jacp, vf20, vf21, vf22, vf23, vf24, u2_s, u2_k, u2_i, uc_s, uc_k, uc_c, u2_c, LI0, LI1, LI2, LI3, LI4, LI5, LI6, LI7, LI8, LI9, LI10, LI11, LI12, LI13, LI14, LI15, LI16, LI17, LI18, LI19, LI20, LI21, LI22, LI23, LI24, LI25, LI26, LI27, LI28, LI29, LI30, LI31, LI32, LI33, LI34, LI35, LI36, LI37, LI40, LI42, LI43, LI45, LI48, LI60, LI61, LI64, LI80, LI300, LI400, LI1000, LI2000, LI2001, LI2047, LI2048, LI100000, LI1000000, LI38, LI39, LI41, LI44, LI46, LI47, LI49, LI50, LI51, LI52, LI53, LI54, LI55, LI56, LI57, LI58, LI59, LI62, LI63, LI65, LI66, LI67, LI68, LI69, LI70, LI71, LI72, LI73, LI74, LI75, LI76, LI77, LI78, LI79, LI81, LI82, LI83, LI84, LI85, LI86, LI87, LI88, LI89, LI90, LI91, LI92, LI93, LI94, LI95, LI96, LI97, LI98, LI99, LI100, LI101, LI102, LI103, LI104, LI105, LI106, LI107, LI108, LI109, LI110, LI111, LI112, LI113, LI114, LI115, LI116, LI117, LI118, LI119, LI120, LI121, LI122, LI123, LI124, LI125, LI126, LI127, LI255, LI256, LI999, LI1001, LI1002, LI1600, LI4096, LI1000001, LI2042, LM, nI_clamp, nI_pos', nI_lt, nI_nlt, nI_le, nI_ge, nI_ne, nI_add, nI_sub, mI_lt, mI_le, mI_nlt, mI_nle, mI_ne, mI_ne', mI_nem, s16, n3, n1, s17, s18, w25, w21, w20, w22, e1, e2]
      · obtain ⟨x, hx⟩ : ∃ x, (j + 1 - j + 1) / 2 + g = x + 1 := ⟨(j + 1 - j + 1) / 2 + g - 1, by omega⟩
        rw [hx]
        exact ⟨by omega, by omega, Or.inr (Or.inr (Or.inl ⟨d2.1, j, 5, rfl, by rw [d2.2.1]; simp⟩))⟩
    · -- word
      rw [if_pos hK] at w23
      rw [if_neg (by omega)] at w25
      rw [if_neg (by omega)] at w21
      rw [if_neg (by omega)] at w20
      rw [if_neg (by omega)] at w22
      have s17 := hT.2.2.2.2 (by omega)
      rw [hK, show wcd 23 = nI 21 by decide] at s17
      have n3 : ¬ kcd (KK t N j) = nI 3 := fun z => absurd ((kcd_3 _ hk).mp z) (by omega)
      have n1 : ¬ kcd (KK t N j) = nI 1 := fun z => absurd ((kcd_1 _ hk).mp z) (by omega)
      obtain ⟨z2, e2, q2, st2, n2, nn2, d2, f2⟩ := rNode (d := d + D + 7) (A := A) (b := b) (h := h) (J := J) (R := R) (k := nI 2) (x1 := nI 21) (x2 := mI 1) (x3 := mI 1) (fr := nI (tpos t N j)) hc q1 (by omega)
      have hop : aop (KK t N j) = some 6 := by rw [hK]; rfl
      refine Or.inr ⟨z2, [(6, .inr j, .inl (nI pr), j)], j + 1, z1.2.2.2.2.2, by unfold xA; rw [hop], ?_, q2, rSt_trans st1 st2, by omega, by omega, ?_, by rw [n2]; omega⟩
      · simp (disch := omega) [je198, r198_0, r198_1, r198_4, r198_5, r198_6, r198_9, r198_10, r198_11, r198_14, r198_15, r198_18, r198_19, r198_22, r198_23, r198_26, r198_27, r198_30, r198_31, r198_34, r198_35, r198_38, r198_39, r198_40, r198_41, r198_44, r198_45, r198_46, r198_47, r198_48, r198_49, r198_50, r198_53, r198_54, r198_55, r198_57, r198_60, r198_63, r198_64, r198_66, r198_69, r198_72, r198_73, r198_75, r198_78, r198_81, r198_82, r198_84, r198_87, r198_90, r198_91, r198_93, r198_96, r198_99, r198_100, r198_103, r198_104, r198_105, r198_106, r198_107, r198_108, r198_109, r198_112, r198_113, r198_114, r198_116, r198_119, r198_122, r198_123, r198_126, r198_127, r198_130, r198_131, r198_134, r198_135, r198_136, r198_138, r198_141, r198_142, r198_143, r198_146, r198_147, r198_148, r198_151, r198_152, r198_153, r198_154, r198_156, r198_159, r198_162, r198_163, r198_164, r198_167, r198_170, r198_171, r198_172, r198_175, r198_176, r198_179, r198_180, r198_183, r198_184, r198_185, r198_186, r198_189, r198_190, r198_191, r198_194, r198_195, r198_196, r198_197, r198_198, r198_199, r198_200, r198_203, g241, vf12_18, vf12_17, vf12_16, qa185, qo185, qa193, qo193, qa187, qo187, qa186, qo186, qa194, qo194, qa195, qo195, qa190, qo190, vf12_30, p241_30, ty12_30, qa177, qo177, qa198, qo198, List.getElem?_cons_zero, List.getElem?_cons_succ, List.length_cons, List.length_nil, ag_nx, ag_dn, ag_no, ag_if, jbr1, jbr2, jc1, jc2, jnul, jld, jsto, jstoL, jst1, jst2, jkill, jinc, jbI, jbL, jbS, juI, jl2i, jcmp, jisR, jisI, jisL, jret, jretv, jfits, jdup, jdup2, jpop, jmm, jcat, Value.category, jinv, jrcv, jthr, jhd, jput, jget, jlen, jald, jast, jaast, jgI, jgL, jgB, jtab, jlku, jacp, vf20, vf21, vf22, vf23, vf24, u2_s, u2_k, u2_i, uc_s, uc_k, uc_c, u2_c, LI0, LI1, LI2, LI3, LI4, LI5, LI6, LI7, LI8, LI9, LI10, LI11, LI12, LI13, LI14, LI15, LI16, LI17, LI18, LI19, LI20, LI21, LI22, LI23, LI24, LI25, LI26, LI27, LI28, LI29, LI30, LI31, LI32, LI33, LI34, LI35, LI36, LI37, LI40, LI42, LI43, LI45, LI48, LI60, LI61, LI64, LI80, LI300, LI400, LI1000, LI2000, LI2001, LI2047, LI2048, LI100000, LI1000000, LI38, LI39, LI41, LI44, LI46, LI47, LI49, LI50, LI51, LI52, LI53, LI54, LI55, LI56, LI57, LI58, LI59, LI62, LI63, LI65, LI66, LI67, LI68, LI69, LI70, LI71, LI72, LI73, LI74, LI75, LI76, LI77, LI78, LI79, LI81, LI82, LI83, LI84, LI85, LI86, LI87, LI88, LI89, LI90, LI91, LI92, LI93, LI94, LI95, LI96, LI97, LI98, LI99, LI100, LI101, LI102, LI103, LI104, LI105, LI106, LI107, LI108, LI109, LI110, LI111, LI112, LI113, LI114, LI115, LI116, LI117, LI118, LI119, LI120, LI121, LI122, LI123, LI124, LI125, LI126, LI127, LI255, LI256, LI999, LI1001, LI1002, LI1600, LI4096, LI1000001, LI2042, LM, nI_clamp, nI_pos', nI_lt, nI_nlt, nI_le, nI_ge, nI_ne, nI_add, nI_sub, mI_lt, mI_le, mI_nlt, mI_nle, mI_ne, mI_ne', mI_nem, s16, n3, n1, s17, s18, w25, w21, w20, w22, w23, e1, e2]
      · obtain ⟨x, hx⟩ : ∃ x, (j + 1 - j + 1) / 2 + g = x + 1 := ⟨(j + 1 - j + 1) / 2 + g - 1, by omega⟩
        rw [hx]
        exact ⟨by omega, by omega, Or.inr (Or.inr (Or.inl ⟨d2.1, j, 6, rfl, by rw [d2.2.1]; simp⟩))⟩
/-- a bracket that is open: token j is '(' -/
theorem rParen (hc : rCx A t N m B0 M0) (hg : g < 8) (hE : rCl A h b J R t N m B0 M0 (D + 8) 195 (8 - g) (xE (KK t N) pr (xS (KK t N) pr g)) (QX t N pr g 4)) {z : rZ} {j : Nat} (hq : rQ t N m B0 M0 j (7 - g) z) (hK : KK t N j = 40) : (∃ z', jcall A jcode (d + (D + 8)) 194 [.ref (b + 241)] (HZ h b J R z) = some (.inl none, HZ h b J R z') ∧ ∃ z1, jcall A jcode (d + (D + 8)) 185 [.ref (b + 241)] (HZ h b J R z') = some (.inl none, HZ h b J R z1) ∧ ((∃ z2 j2, pB (xE (KK t N) pr (xS (KK t N) pr g) (j + 1)) (fun l j1 => pN (KK t N) 41 l j1) = (none, j2) ∧ rF t N m B0 M0 j2 z2 ∧ rSt z z2 ∧ (jcall A jcode (d + (D + 8)) 195 [.ref (b + 241)] (HZ h b J R z1) = some (.inr 11, HZ h b J R z2) ∨ ∃ z3 e, jcall A jcode (d + (D + 8)) 195 [.ref (b + 241)] (HZ h b J R z1) = some (.inl (some (.int (nI e))), HZ h b J R z3) ∧ jcall A jcode (d + (D + 8)) 190 [.ref (b + 241), .int (nI 41)] (HZ h b J R z3) = some (.inr 11, HZ h b J R z2))) ∨
    ∃ z2 z3 l j2 e, pB (xE (KK t N) pr (xS (KK t N) pr g) (j + 1)) (fun l j1 => pN (KK t N) 41 l j1) = (some l, j2) ∧ jcall A jcode (d + (D + 8)) 195 [.ref (b + 241)] (HZ h b J R z1) = some (.inl (some (.int (nI e))), HZ h b J R z2) ∧ jcall A jcode (d + (D + 8)) 190 [.ref (b + 241), .int (nI 41)] (HZ h b J R z2) = some (.inl none, HZ h b J R z3) ∧ rQ t N m B0 M0 j2 (8 - g) z3 ∧ rSt z z3 ∧ j + 1 < j2 ∧ z3.2.2.2.2.2 ≤ z.2.2.2.2.2 + (j2 - j) ∧ xR t N z3.2.1 z3.2.2.2.1 pr z.2.2.2.2.2 ((j2 - j + 1) / 2 + g) e l (3 * g + 4) ∧ e < z3.2.2.2.2.2)) := by
  have hj := hq.2.2.2.2.1
  rcases r194 (d := d + D + 6) (A := A) (b := b) (h := h) (J := J) (R := R) hq (by omega) with ⟨_, z', e0, q0, st0, _⟩ | ⟨h8, _⟩
  · refine ⟨z', e0, ?_⟩
    rw [show 7 - g + 1 = 8 - g by omega] at q0
    obtain ⟨z1, e1, q1, st1, n1, f1⟩ := rTok (d := d + D + 2) (A := A) (b := b) (h := h) (J := J) (R := R) hc q0 (by omega) (by omega)
    refine ⟨z1, e1, ?_⟩
    have hn0 : z'.2.2.2.2.2 = z.2.2.2.2.2 := by
      rename_i hz'
      rw [hz']
    rcases hE d z1 (j + 1) q1 with ⟨z2, j2, a2, e2, F2, st2⟩ | ⟨z2, l2, j2, e, a2, e2, q2, st2, hj2, hn2, x2, he2⟩
    · exact Or.inl ⟨z2, j2, pB_n a2, F2, rSt_trans st0 (rSt_trans st1 st2), Or.inl e2⟩
    · rw [pB_s a2]
      unfold pN
      rcases r190 (d := d + D) (A := A) (b := b) (h := h) (J := J) (R := R) (k0 := 41) hc q2 (by omega) (by omega) with ⟨hK2, z3, e3, q3, st3, n3, f3⟩ | ⟨hK2, z3, e3, F3, st3⟩
      · rw [if_pos hK2]
        rw [show wcd 41 = nI 41 by decide] at e3
        refine Or.inr ⟨z2, z3, l2, j2 + 1, e, rfl, e2, e3, q3, rSt_trans st0 (rSt_trans st1 (rSt_trans st2 st3)), by omega, by omega, ?_, by rw [n3]; exact he2⟩
        exact xR_mono _ _ _ _ _ _ _ (by omega) (Nat.le_refl _) (by omega) (xR_z st3 he2 x2)
      · rw [if_neg hK2]
        rw [show wcd 41 = nI 41 by decide] at e3
        exact Or.inl ⟨z3, j2, rfl, F3, rSt_trans st0 (rSt_trans st1 (rSt_trans st2 st3)), Or.inr ⟨z2, e, e2, e3⟩⟩
  · omega
end RSI
