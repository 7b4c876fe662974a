/-! walk: unlay, whole -/
section RG3
variable {A : Nat → Nat} {d b n : Nat} {h : Nat → Option jC} {X : jXX} {J : Nat → Nat → Int64} {R : Nat → Nat → Nat} {rN : Int32 → Nm} {r : Nat} {now : Int32} {l : Bool}
theorem r266k {M g0 : Nat} (hM : M ≤ 8) (hg0 : g0 + 370 ≤ 435870) {D : Nat → Int32} : ∀ (t k : Nat) (I : Nat → Nat → Int32) (c3 c4 : Option Value), k + t = M → I 241 36 = nI M → I 241 38 = now → I 241 82 = nI (g0 + 2 + 46 * k) → I 282 = D → ∃ I' c3' c4', M266 A (d + 1) 46 [some (.ref (b + 241)), some (.int (nI r)), some (.int (nI (k))), c3, c4] [] (jH h b X I J R n) = M266 A (d + 1) 270 [some (.ref (b + 241)), some (.int (nI r)), some (.int (nI (M))), c3', c4'] [] (jH h b X I' J R n) ∧ onU k I I' ∧ ∀ j, k ≤ j → j < M → uI D (g0 + 2 + 46 * j) j now I' := by
  intro t
  induction t with
  | zero =>
    intro k I c3 c4 hk h36 h38 h82 hD
    have hk' : k = M := by omega
    subst hk'
    refine ⟨I, c3, c4, ?_, ⟨fun _ _ _ _ => rfl, fun _ => rfl, fun _ _ _ _ _ => rfl, fun _ _ => rfl, fun _ _ _ _ _ => rfl, fun _ _ _ _ _ => rfl⟩, fun j h1 h2 => by omega⟩
    conv => lhs; rw [r266_46]
    simp (disch := omega) [r266_0, r266_1, r266_2, r266_5, r266_6, r266_9, r266_10, r266_11, r266_14, r266_15, r266_18, r266_21, r266_22, r266_23, r266_24, r266_25, r266_28, r266_29, r266_30, r266_33, r266_36, r266_37, r266_38, r266_41, r266_44, r266_45, r266_47, r266_48, r266_51, r266_54, r266_55, r266_58, r266_59, r266_60, r266_63, r266_64, r266_65, r266_68, r266_69, r266_70, r266_73, r266_74, r266_75, r266_78, r266_79, r266_80, r266_83, r266_84, r266_85, r266_88, r266_89, r266_90, r266_93, r266_94, r266_95, r266_98, r266_99, r266_100, r266_103, r266_104, r266_105, r266_108, r266_109, r266_110, r266_113, r266_114, r266_115, r266_116, r266_117, r266_119, r266_122, r266_123, r266_126, r266_127, r266_129, r266_130, r266_131, r266_132, r266_133, r266_136, r266_137, r266_140, r266_143, r266_144, r266_147, r266_148, r266_149, r266_152, r266_153, r266_154, r266_155, r266_156, r266_158, r266_161, r266_162, r266_164, r266_165, r266_166, r266_167, r266_169, r266_170, r266_173, r266_175, r266_176, r266_179, r266_180, r266_181, r266_184, r266_186, r266_187, r266_190, r266_191, r266_192, r266_195, r266_197, r266_198, r266_201, r266_202, r266_205, r266_208, r266_209, r266_212, r266_213, r266_214, r266_217, r266_218, r266_219, r266_220, r266_221, r266_222, r266_225, r266_226, r266_229, r266_230, r266_231, r266_232, r266_233, r266_234, r266_235, r266_238, r266_239, r266_240, r266_243, r266_244, r266_245, r266_246, r266_247, r266_248, r266_249, r266_252, r266_253, r266_256, r266_257, r266_258, r266_261, r266_264, r266_267, r266_271, r266_272, r266_275, r266_276, r266_279, r266_280, r266_283, r266_284, r266_285, r266_286, r266_288, r266_291, r266_292, r266_295, r266_296, r266_297, r266_300, r266_301, r266_304, r266_307, g241, p241_82, ty12_82, vf12_75, t241_75, g282, p282, vf12_82, p241_38, ty12_38, qa265, qo265, p241_36, ty12_36, p241_37, ty12_37, vf12_36, vf12_42, t241_42, g260, p260, vf12_43, t241_43, g261, p261, vf12_44, t241_44, g262, p262, vf12_45, t241_45, g263, p263, vf12_46, t241_46, g264, p264, vf12_47, t241_47, g265, p265, vf12_48, t241_48, g266, p266, vf12_49, t241_49, g267, p267, vf12_50, t241_50, g268, p268, vf12_51, t241_51, g269, p269, vf12_52, t241_52, g270, p270, vf12_54, t241_54, g272, p272, vf12_55, t241_55, g273, p273, vf12_56, t241_56, g274, p274, vf12_38, vf12_53, t241_53, g271, p271, List.getElem?_cons_zero, List.getElem?_cons_succ, List.length_cons, List.length_nil, ag_nx, ag_dn, ag_no, ag_if, jbr1, jbr2, jc1, jc2, jnul, jld, jsto, jstoL, jst1, jst2, jkill, jinc, jbI, jbL, jbS, juI, jl2i, jcmp, jisR, jisI, jisL, jret, jretv, jfits, jdup, jdup2, jpop, jmm, jcat, Value.category, jinv, jrcv, jthr, jhd, jput, jget, jlen, jald, jast, jaast, jgI, jgL, jgB, jtab, jlku, jacp, vf20, vf21, vf22, vf23, vf24, u2_s, u2_k, u2_i, uc_s, uc_k, uc_c, u2_c, LI0, LI1, LI2, LI3, LI4, LI5, LI6, LI7, LI8, LI9, LI10, LI11, LI12, LI13, LI14, LI15, LI16, LI17, LI18, LI19, LI20, LI21, LI22, LI23, LI24, LI25, LI26, LI27, LI28, LI29, LI30, LI31, LI32, LI33, LI34, LI35, LI36, LI37, LI40, LI42, LI43, LI45, LI48, LI60, LI61, LI64, LI80, LI300, LI400, LI1000, LI2000, LI2001, LI2047, LI2048, LI100000, LI1000000, LM, nI_clamp, nI_pos', nI_lt, nI_nlt, nI_le, nI_ge, nI_ne, nI_add, nI_sub, mI_lt, mI_le, mI_nlt, mI_nle, mI_ne, mI_ne', mI_nem, LI370, LI435, LI64, LI31, LI61, h36]
  | succ t ih =>
    intro k I c3 c4 hk h36 h38 h82 hD
    obtain ⟨I1, c4', e1, q1, o1, w1⟩ := r266i (d := d) (A := A) (b := b) (h := h) (X := X) (J := J) (R := R) (n := n) (r := r) (c3 := c3) (c4 := c4) (k := k) (by omega) h38 (by omega) h82 h36 hM (by omega)
    have y1 : I1 282 = D := by rw [← hD]; funext j; exact o1.1 _ _ (by omega) (by omega)
    obtain ⟨I2, d3, d4, e2, o2, w2⟩ := ih (k + 1) I1 (some (.int (nI 4))) c4' (by omega) (by rw [o1.1 _ _ (by omega) (by omega)]; exact h36) (by rw [o1.1 _ _ (by omega) (by omega)]; exact h38) (by rw [q1]; congr 1) y1
    refine ⟨I2, d3, d4, e1.trans e2, onU_trans o1 o2, fun j h1 h2 => ?_⟩
    by_cases c : j = k
    · subst c
      rw [hD] at w1
      exact uI_fr w1 o2 (by omega)
    · exact w2 j (by omega) h2
theorem r266o {g : Nat} (hg : g + 64 ≤ 435870) {c3 c4 : Option Value} : ∀ (t i : Nat) (I : Nat → Nat → Int32), i + t = 64 → I 241 82 = nI (g + i) → ∃ I', M266 A (d + 1) 285 [some (.ref (b + 241)), some (.int (nI r)), some (.int (nI (i))), c3, c4] [] (jH h b X I J R n) = some (.inl none, jH h b X I' J R n) ∧ (∀ c j, c ≠ 271 → ¬ (c = 241 ∧ j = 82) → I' c j = I c j) ∧ (∀ j, j < i → I' 271 j = I 271 j) ∧ ∀ j, i ≤ j → j < 64 → I' 271 j = I 282 (g + j) := by
  intro t
  induction t with
  | zero =>
    intro i I hi h82
    have : i = 64 := by omega
    subst this
    refine ⟨I, ?_, fun _ _ _ _ => rfl, fun _ _ => rfl, fun j h1 h2 => by omega⟩
    conv => lhs; rw [r266_285]
    simp (disch := omega) [r266_0, r266_1, r266_2, r266_5, r266_6, r266_9, r266_10, r266_11, r266_14, r266_15, r266_18, r266_21, r266_22, r266_23, r266_24, r266_25, r266_28, r266_29, r266_30, r266_33, r266_36, r266_37, r266_38, r266_41, r266_44, r266_45, r266_46, r266_47, r266_48, r266_51, r266_54, r266_55, r266_58, r266_59, r266_60, r266_63, r266_64, r266_65, r266_68, r266_69, r266_70, r266_73, r266_74, r266_75, r266_78, r266_79, r266_80, r266_83, r266_84, r266_85, r266_88, r266_89, r266_90, r266_93, r266_94, r266_95, r266_98, r266_99, r266_100, r266_103, r266_104, r266_105, r266_108, r266_109, r266_110, r266_113, r266_114, r266_115, r266_116, r266_117, r266_119, r266_122, r266_123, r266_126, r266_127, r266_129, r266_130, r266_131, r266_132, r266_133, r266_136, r266_137, r266_140, r266_143, r266_144, r266_147, r266_148, r266_149, r266_152, r266_153, r266_154, r266_155, r266_156, r266_158, r266_161, r266_162, r266_164, r266_165, r266_166, r266_167, r266_169, r266_170, r266_173, r266_175, r266_176, r266_179, r266_180, r266_181, r266_184, r266_186, r266_187, r266_190, r266_191, r266_192, r266_195, r266_197, r266_198, r266_201, r266_202, r266_205, r266_208, r266_209, r266_212, r266_213, r266_214, r266_217, r266_218, r266_219, r266_220, r266_221, r266_222, r266_225, r266_226, r266_229, r266_230, r266_231, r266_232, r266_233, r266_234, r266_235, r266_238, r266_239, r266_240, r266_243, r266_244, r266_245, r266_246, r266_247, r266_248, r266_249, r266_252, r266_253, r266_256, r266_257, r266_258, r266_261, r266_264, r266_267, r266_270, r266_271, r266_272, r266_275, r266_276, r266_279, r266_280, r266_283, r266_284, r266_286, r266_288, r266_291, r266_292, r266_295, r266_296, r266_297, r266_300, r266_301, r266_304, r266_307, g241, p241_82, ty12_82, vf12_75, t241_75, g282, p282, vf12_82, p241_38, ty12_38, qa265, qo265, p241_36, ty12_36, p241_37, ty12_37, vf12_36, vf12_42, t241_42, g260, p260, vf12_43, t241_43, g261, p261, vf12_44, t241_44, g262, p262, vf12_45, t241_45, g263, p263, vf12_46, t241_46, g264, p264, vf12_47, t241_47, g265, p265, vf12_48, t241_48, g266, p266, vf12_49, t241_49, g267, p267, vf12_50, t241_50, g268, p268, vf12_51, t241_51, g269, p269, vf12_52, t241_52, g270, p270, vf12_54, t241_54, g272, p272, vf12_55, t241_55, g273, p273, vf12_56, t241_56, g274, p274, vf12_38, vf12_53, t241_53, g271, p271, List.getElem?_cons_zero, List.getElem?_cons_succ, List.length_cons, List.length_nil, ag_nx, ag_dn, ag_no, ag_if, jbr1, jbr2, jc1, jc2, jnul, jld, jsto, jstoL, jst1, jst2, jkill, jinc, jbI, jbL, jbS, juI, jl2i, jcmp, jisR, jisI, jisL, jret, jretv, jfits, jdup, jdup2, jpop, jmm, jcat, Value.category, jinv, jrcv, jthr, jhd, jput, jget, jlen, jald, jast, jaast, jgI, jgL, jgB, jtab, jlku, jacp, vf20, vf21, vf22, vf23, vf24, u2_s, u2_k, u2_i, uc_s, uc_k, uc_c, u2_c, LI0, LI1, LI2, LI3, LI4, LI5, LI6, LI7, LI8, LI9, LI10, LI11, LI12, LI13, LI14, LI15, LI16, LI17, LI18, LI19, LI20, LI21, LI22, LI23, LI24, LI25, LI26, LI27, LI28, LI29, LI30, LI31, LI32, LI33, LI34, LI35, LI36, LI37, LI40, LI42, LI43, LI45, LI48, LI60, LI61, LI64, LI80, LI300, LI400, LI1000, LI2000, LI2001, LI2047, LI2048, LI100000, LI1000000, LM, nI_clamp, nI_pos', nI_lt, nI_nlt, nI_le, nI_ge, nI_ne, nI_add, nI_sub, mI_lt, mI_le, mI_nlt, mI_nle, mI_ne, mI_ne', mI_nem, LI370, LI435, LI64, LI31, LI61]
  | succ t ih =>
    intro i I hi h82
    have e := r265 (d := d) (A := A) (b := b) (h := h) (X := X) (J := J) (R := R) (n := n) h82 (by omega)
    obtain ⟨I', e1, o1, p1, w1⟩ := ih (i + 1) (gs I (g + i) 271 i (I 282 (g + i))) (by omega) (gs_c (by omega))
    refine ⟨I', ?_, fun c j h1 h2 => (o1 c j h1 h2).trans ?_, fun j hj => by rw [p1 j (by omega), gs_i (by omega) (by omega)], fun j h1 h2 => ?_⟩
    · unfold gs at e1
      conv => lhs; rw [r266_285]
      simp (disch := omega) [r266_0, r266_1, r266_2, r266_5, r266_6, r266_9, r266_10, r266_11, r266_14, r266_15, r266_18, r266_21, r266_22, r266_23, r266_24, r266_25, r266_28, r266_29, r266_30, r266_33, r266_36, r266_37, r266_38, r266_41, r266_44, r266_45, r266_46, r266_47, r266_48, r266_51, r266_54, r266_55, r266_58, r266_59, r266_60, r266_63, r266_64, r266_65, r266_68, r266_69, r266_70, r266_73, r266_74, r266_75, r266_78, r266_79, r266_80, r266_83, r266_84, r266_85, r266_88, r266_89, r266_90, r266_93, r266_94, r266_95, r266_98, r266_99, r266_100, r266_103, r266_104, r266_105, r266_108, r266_109, r266_110, r266_113, r266_114, r266_115, r266_116, r266_117, r266_119, r266_122, r266_123, r266_126, r266_127, r266_129, r266_130, r266_131, r266_132, r266_133, r266_136, r266_137, r266_140, r266_143, r266_144, r266_147, r266_148, r266_149, r266_152, r266_153, r266_154, r266_155, r266_156, r266_158, r266_161, r266_162, r266_164, r266_165, r266_166, r266_167, r266_169, r266_170, r266_173, r266_175, r266_176, r266_179, r266_180, r266_181, r266_184, r266_186, r266_187, r266_190, r266_191, r266_192, r266_195, r266_197, r266_198, r266_201, r266_202, r266_205, r266_208, r266_209, r266_212, r266_213, r266_214, r266_217, r266_218, r266_219, r266_220, r266_221, r266_222, r266_225, r266_226, r266_229, r266_230, r266_231, r266_232, r266_233, r266_234, r266_235, r266_238, r266_239, r266_240, r266_243, r266_244, r266_245, r266_246, r266_247, r266_248, r266_249, r266_252, r266_253, r266_256, r266_257, r266_258, r266_261, r266_264, r266_267, r266_270, r266_271, r266_272, r266_275, r266_276, r266_279, r266_280, r266_283, r266_284, r266_286, r266_288, r266_291, r266_292, r266_295, r266_296, r266_297, r266_300, r266_301, r266_304, r266_307, g241, p241_82, ty12_82, vf12_75, t241_75, g282, p282, vf12_82, p241_38, ty12_38, qa265, qo265, p241_36, ty12_36, p241_37, ty12_37, vf12_36, vf12_42, t241_42, g260, p260, vf12_43, t241_43, g261, p261, vf12_44, t241_44, g262, p262, vf12_45, t241_45, g263, p263, vf12_46, t241_46, g264, p264, vf12_47, t241_47, g265, p265, vf12_48, t241_48, g266, p266, vf12_49, t241_49, g267, p267, vf12_50, t241_50, g268, p268, vf12_51, t241_51, g269, p269, vf12_52, t241_52, g270, p270, vf12_54, t241_54, g272, p272, vf12_55, t241_55, g273, p273, vf12_56, t241_56, g274, p274, vf12_38, vf12_53, t241_53, g271, p271, List.getElem?_cons_zero, List.getElem?_cons_succ, List.length_cons, List.length_nil, ag_nx, ag_dn, ag_no, ag_if, jbr1, jbr2, jc1, jc2, jnul, jld, jsto, jstoL, jst1, jst2, jkill, jinc, jbI, jbL, jbS, juI, jl2i, jcmp, jisR, jisI, jisL, jret, jretv, jfits, jdup, jdup2, jpop, jmm, jcat, Value.category, jinv, jrcv, jthr, jhd, jput, jget, jlen, jald, jast, jaast, jgI, jgL, jgB, jtab, jlku, jacp, vf20, vf21, vf22, vf23, vf24, u2_s, u2_k, u2_i, uc_s, uc_k, uc_c, u2_c, LI0, LI1, LI2, LI3, LI4, LI5, LI6, LI7, LI8, LI9, LI10, LI11, LI12, LI13, LI14, LI15, LI16, LI17, LI18, LI19, LI20, LI21, LI22, LI23, LI24, LI25, LI26, LI27, LI28, LI29, LI30, LI31, LI32, LI33, LI34, LI35, LI36, LI37, LI40, LI42, LI43, LI45, LI48, LI60, LI61, LI64, LI80, LI300, LI400, LI1000, LI2000, LI2001, LI2047, LI2048, LI100000, LI1000000, LM, nI_clamp, nI_pos', nI_lt, nI_nlt, nI_le, nI_ge, nI_ne, nI_add, nI_sub, mI_lt, mI_le, mI_nlt, mI_nle, mI_ne, mI_ne', mI_nem, LI370, LI435, LI64, LI31, LI61, show i < 64 by omega, e, e1]
    · unfold gs
      simp only [u2_ap]
      rw [if_neg (fun z => h1 z.1), if_neg h2]
    · by_cases c : j = i
      · subst c
        rw [p1 _ (by omega), gs_s]
      · rw [w1 j (by omega) h2, gs_k (by omega) (by omega)]
/-- an instance out of a row -/
theorem uI_iR {D : Nat → Int32} {g k : Nat} {I : Nat → Nat → Int32} {a : aI Nm} (hv : a.2.1.length ≤ 6) (hQ : a.2.2.1.length ≤ 8) (hT : a.2.2.2.length ≤ 4) (hu : uI D g k now I) (hq : qI rN D g now a) : ∃ a', iR rN I k a' ∧ eI a' = eI a ∧ ((∀ (i : Nat) (s : aS Nm), a.2.2.1[i]? = some s → s.2.2.2 = oR (I 271 (8 * k + i))) → a' = a) := by
  obtain ⟨⟨a0, a1, a2, a3, a4, a5⟩, ub, uc', ue, uf, ui⟩ := hu
  obtain ⟨h1, ⟨h2, h2'⟩, h3, ⟨h4, h4'⟩, h5, h6, h6'⟩ := hq
  have hq4 : ∀ i s, a.2.2.1[i]? = some s → eS s = (rN (I 268 (8 * k + i)), I 269 (8 * k + i), I 270 (8 * k + i), 0) := fun i s hs => by
    have hl := lt_of_some hs
    obtain ⟨b1, b2, b3⟩ := ue i (by omega)
    have : (a.2.2.1.map eS)[i]? = some (eS s) := by rw [List.getElem?_map, hs]; rfl
    rw [h4, rl_at hl] at this
    rw [b1, b2, b3]
    exact (Option.some.inj this).symm
  have heS : (rl (fun i => (rN (I 268 (8 * k + i)), I 269 (8 * k + i), I 270 (8 * k + i), oR (I 271 (8 * k + i)))) a.2.2.1.length).map eS = a.2.2.1.map eS := by
    rw [rl_mapf]
    symm
    apply rl_ext (by rw [List.length_map])
    intro i hl
    have hs := List.getElem?_eq_getElem hl
    rw [List.getElem?_map, hs]
    show some (eS _) = _
    rw [hq4 i _ hs]
    rfl
  refine ⟨(a.1, a.2.1, rl (fun i => (rN (I 268 (8 * k + i)), I 269 (8 * k + i), I 270 (8 * k + i), oR (I 271 (8 * k + i)))) a.2.2.1.length, a.2.2.2), ⟨?_, ⟨?_, ?_⟩, ?_, ?_, ?_, ?_⟩, ?_, fun ho => ?_⟩
  · show a.1 = _
    rw [h1, a0, a1, a2, a3, a4, a5]
  · show a.2.1 = rl _ a.2.1.length
    refine h2.trans (rl_congr fun i hl => ?_)
    rw [ub i (by omega)]
  · intro j hj hj6
    have hj' : a.2.1.length ≤ j := hj
    rw [ub j hj6]
    exact h2' j hj' hj6
  · show _ = nI (rl _ _).length
    rw [rl_len, uc', h3]
  · show rl _ _ = rl _ (rl _ _).length
    rw [rl_len]
  · show _ = nI a.2.2.2.length
    rw [uf, h5]
  · show a.2.2.2 = rl _ a.2.2.2.length
    refine h6.trans (rl_congr fun i hl => ?_)
    obtain ⟨b1, b2⟩ := ui i (by omega)
    rw [b1, b2]
  · show (a.1, a.2.1, (rl _ _).map eS, a.2.2.2) = (a.1, a.2.1, a.2.2.1.map eS, a.2.2.2)
    rw [heS]
  · show (a.1, a.2.1, rl _ _, a.2.2.2) = a
    have : rl (fun i => (rN (I 268 (8 * k + i)), I 269 (8 * k + i), I 270 (8 * k + i), oR (I 271 (8 * k + i)))) a.2.2.1.length = a.2.2.1 := by
      symm
      apply rl_ext rfl
      intro i hl
      have hs := List.getElem?_eq_getElem hl
      rw [hs]
      have e := hq4 i _ hs
      have o := ho i _ hs
      have e1 := congrArg (fun z : aS Nm => z.1) e
      have e2 := congrArg (fun z : aS Nm => z.2.1) e
      have e3 := congrArg (fun z : aS Nm => z.2.2.1) e
      congr 1
      simp only [eS] at e1 e2 e3
      rw [← e1, ← e2, ← e3, ← o]
    rw [this]
theorem ex_list {P : Nat → aI Nm → aI Nm → Prop} : ∀ (L : List (aI Nm)) (k : Nat), (∀ j a, L[j]? = some a → ∃ a', P (k + j) a a') → ∃ L' : List (aI Nm), L'.length = L.length ∧ ∀ (j : Nat) a a', L[j]? = some a → L'[j]? = some a' → P (k + j) a a' := by
  intro L
  induction L with
  | nil => intro k _; exact ⟨[], rfl, fun j a a' hj => by simp at hj⟩
  | cons a L ih =>
    intro k h
    obtain ⟨a', h1⟩ := h 0 a rfl
    obtain ⟨L', h2, h3⟩ := ih (k + 1) (fun j c hj => by
      have := h (j + 1) c (by simpa using hj)
      rw [show k + 1 + j = k + (j + 1) by omega]
      exact this)
    refine ⟨a' :: L', by simp [h2], fun j c c' hc hc' => ?_⟩
    cases j with
    | zero =>
      have e1 : a = c := by simpa using hc
      have e2 : a' = c' := by simpa using hc'
      rw [← e1, ← e2]
      exact h1
    | succ j =>
      have := h3 j c c' (by simpa using hc) (by simpa using hc')
      rw [show k + 1 + j = k + (j + 1) by omega] at this
      exact this
/-- nothing but the instances, their number, ids and time, and the cursor -/
def fU (I I' : Nat → Nat → Int32) : Prop := ∀ c j, ¬ (260 ≤ c ∧ c ≤ 274) → ¬ (c = 241 ∧ (j = 36 ∨ j = 37 ∨ j = 38 ∨ j = 82)) → I' c j = I c j
/-- unlay -/
theorem r266 {I : Nat → Nat → Int32} {W0 V : aW Nm} (hr : r ≤ 1001) (hW : wR rN I l W0) (hq : qW rN (I 282) (435 * r) V) (ok : okL V.1) (l8 : V.1.length ≤ 8) : ∃ I' as', jcall A jcode (d + 2) 266 [.ref (b + 241), .int (nI r)] (jH h b X I J R n) = some (.inl none, jH h b X I' J R n) ∧ wR rN I' l (as', (V.2.1.1, V.2.1.2.1, W0.2.1.2.2), W0.2.2.1, W0.2.2.2) ∧ as'.map eI = V.1.map eI ∧ fU I I' ∧ ((∀ (k : Nat) a, V.1[k]? = some a → ∀ (i : Nat) (s : aS Nm), a.2.2.1[i]? = some s → s.2.2.2 = oR (I 282 (435 * r + 370 + (8 * k + i)))) → as' = V.1) := by
  obtain ⟨q1, q2, q3, q4, q5⟩ := hq
  obtain ⟨S, hS⟩ : ∃ S, S = u2 (u2 (u2 (u2 (u2 (u2 I 241 82 (nI (435 * r))) 241 38 V.2.1.2.1) 241 82 (nI (435 * r + 1))) 241 36 (nI V.1.length)) 241 82 (nI (435 * r + 1 + 1))) 241 37 V.2.1.1 := ⟨_, rfl⟩
  have e1 := r265 (d := d) (A := A) (b := b) (h := h) (X := X) (J := J) (R := R) (n := n) (I := u2 (u2 I 241 82 (nI (435 * r))) 241 38 V.2.1.2.1) (q := 435 * r) (by rw [u2_i (by omega), u2_s]) (by omega)
  have e2 := r265 (d := d) (A := A) (b := b) (h := h) (X := X) (J := J) (R := R) (n := n) (I := u2 (u2 (u2 (u2 I 241 82 (nI (435 * r))) 241 38 V.2.1.2.1) 241 82 (nI (435 * r + 1))) 241 36 (nI V.1.length)) (q := 435 * r + 1) (by rw [u2_i (by omega), u2_s]) (by omega)
  have y1 : (u2 (u2 I 241 82 (nI (435 * r))) 241 38 V.2.1.2.1) 282 (435 * r) = nI V.1.length := by rw [u2_k (by omega), u2_k (by omega)]; exact q1
  have y2 : (u2 (u2 (u2 (u2 I 241 82 (nI (435 * r))) 241 38 V.2.1.2.1) 241 82 (nI (435 * r + 1))) 241 36 (nI V.1.length)) 282 (435 * r + 1) = V.2.1.1 := by rw [u2_k (by omega), u2_k (by omega), u2_k (by omega), u2_k (by omega)]; exact q2
  rw [y1] at e1
  rw [y2] at e2
  have s282 : S 282 = I 282 := by funext j; rw [hS]; simp (disch := omega) [u2_k]
  obtain ⟨I1, d3, d4, f1, o1, w1⟩ := r266k (d := d) (A := A) (b := b) (h := h) (X := X) (J := J) (R := R) (n := n) (r := r) (now := V.2.1.2.1) (M := V.1.length) (g0 := 435 * r) (D := I 282) l8 (by omega) V.1.length 0 S none none (by omega) (by rw [hS]; simp (disch := omega) [u2_i, u2_s]) (by rw [hS]; simp (disch := omega) [u2_i, u2_s]) (by rw [hS]; simp (disch := omega) [u2_i, u2_s]) s282
  have z282 : ∀ j, I1 282 j = I 282 j := fun j => by rw [o1.1 _ _ (by omega) (by omega), s282]
  obtain ⟨I2, f2, o2, _, w2⟩ := r266o (d := d) (A := A) (b := b) (h := h) (X := X) (J := J) (R := R) (n := n) (r := r) (g := 435 * r + 370) (c3 := d3) (c4 := d4) (by omega) 64 0 (u2 I1 241 82 (nI (435 * r + 370))) (by omega) (by rw [u2_s])
  have x271 : ∀ j, j < 64 → I2 271 j = I 282 (435 * r + 370 + j) := fun j hj => by rw [w2 j (by omega) hj, u2_k (by omega), z282]
  have x1 : ∀ c j, c ≠ 271 → c ≠ 241 → I2 c j = I1 c j := fun c j h1 h2 => by rw [o2 c j h1 (fun z => h2 z.1), u2_k h2]
  have xf : ∀ j, j ≠ 82 → I2 241 j = I1 241 j := fun j h1 => by rw [o2 241 j (by omega) (by omega), u2_i h1]
  have xS : ∀ j, j ≠ 82 → I2 241 j = S 241 j := fun j h1 => by rw [xf j h1, o1.1 _ _ (by omega) (by omega)]
  have xSo : ∀ j, j ≠ 82 → j ≠ 36 → j ≠ 37 → j ≠ 38 → I2 241 j = I 241 j := fun j h1 h2 h3 h4 => by rw [xS j h1, hS]; simp (disch := omega) [u2_i]
  have uu : ∀ k, k < V.1.length → uI (I 282) (435 * r + 2 + 46 * k) k V.2.1.2.1 I2 := fun k hk => by
    obtain ⟨⟨a0, a1, a2, a3, a4, a5⟩, ub, uc', ue, uf, ui⟩ := w1 k (by omega) hk
    refine ⟨⟨?_, ?_, ?_, ?_, ?_, ?_⟩, fun j hj => ?_, ?_, fun m hm => ?_, ?_, fun m hm => ?_⟩
    · rw [x1 _ _ (by omega) (by omega)]; exact a0
    · rw [x1 _ _ (by omega) (by omega)]; exact a1
    · rw [x1 _ _ (by omega) (by omega)]; exact a2
    · rw [x1 _ _ (by omega) (by omega)]; exact a3
    · rw [x1 _ _ (by omega) (by omega)]; exact a4
    · rw [x1 _ _ (by omega) (by omega)]; exact a5
    · rw [x1 _ _ (by omega) (by omega)]; exact ub j hj
    · rw [x1 _ _ (by omega) (by omega)]; exact uc'
    · rw [x1 268 _ (by omega) (by omega), x1 269 _ (by omega) (by omega), x1 270 _ (by omega) (by omega)]; exact ue m hm
    · rw [x1 _ _ (by omega) (by omega)]; exact uf
    · rw [x1 273 _ (by omega) (by omega), x1 274 _ (by omega) (by omega)]; exact ui m hm
  obtain ⟨as', hl', hP⟩ := ex_list (P := fun k a a' => iR rN I2 k a' ∧ eI a' = eI a ∧ ((∀ (i : Nat) (s : aS Nm), a.2.2.1[i]? = some s → s.2.2.2 = oR (I2 271 (8 * k + i))) → a' = a)) V.1 0 (fun j a hj => by
    rw [Nat.zero_add]
    obtain ⟨b1, b2, b3, _⟩ := ok j a hj
    exact uI_iR b1 b2 b3 (uu j (lt_of_some hj)) (q3 j a hj))
  refine ⟨I2, as', ?_, ⟨⟨by show as'.length ≤ 8; omega, ?_, fun k a hk => ?_⟩, ?_, ?_, ?_, ?_⟩, ?_, fun c j h1 h2 => ?_, fun ho => ?_⟩
  · rw [hS] at f1
    have y0 : I 282 (435 * r + 434) = V.2.1.2.1 := q5
    simp (disch := omega) [je266, r266_0, r266_1, r266_2, r266_5, r266_6, r266_9, r266_10, r266_11, r266_14, r266_15, r266_18, r266_21, r266_22, r266_23, r266_24, r266_25, r266_28, r266_29, r266_30, r266_33, r266_36, r266_37, r266_38, r266_41, r266_44, r266_45, r266_47, r266_48, r266_51, r266_54, r266_55, r266_58, r266_59, r266_60, r266_63, r266_64, r266_65, r266_68, r266_69, r266_70, r266_73, r266_74, r266_75, r266_78, r266_79, r266_80, r266_83, r266_84, r266_85, r266_88, r266_89, r266_90, r266_93, r266_94, r266_95, r266_98, r266_99, r266_100, r266_103, r266_104, r266_105, r266_108, r266_109, r266_110, r266_113, r266_114, r266_115, r266_116, r266_117, r266_119, r266_122, r266_123, r266_126, r266_127, r266_129, r266_130, r266_131, r266_132, r266_133, r266_136, r266_137, r266_140, r266_143, r266_144, r266_147, r266_148, r266_149, r266_152, r266_153, r266_154, r266_155, r266_156, r266_158, r266_161, r266_162, r266_164, r266_165, r266_166, r266_167, r266_169, r266_170, r266_173, r266_175, r266_176, r266_179, r266_180, r266_181, r266_184, r266_186, r266_187, r266_190, r266_191, r266_192, r266_195, r266_197, r266_198, r266_201, r266_202, r266_205, r266_208, r266_209, r266_212, r266_213, r266_214, r266_217, r266_218, r266_219, r266_220, r266_221, r266_222, r266_225, r266_226, r266_229, r266_230, r266_231, r266_232, r266_233, r266_234, r266_235, r266_238, r266_239, r266_240, r266_243, r266_244, r266_245, r266_246, r266_247, r266_248, r266_249, r266_252, r266_253, r266_256, r266_257, r266_258, r266_261, r266_264, r266_267, r266_270, r266_271, r266_272, r266_275, r266_276, r266_279, r266_280, r266_283, r266_284, r266_286, r266_288, r266_291, r266_292, r266_295, r266_296, r266_297, r266_300, r266_301, r266_304, r266_307, g241, p241_82, ty12_82, vf12_75, t241_75, g282, p282, vf12_82, p241_38, ty12_38, qa265, qo265, p241_36, ty12_36, p241_37, ty12_37, vf12_36, vf12_42, t241_42, g260, p260, vf12_43, t241_43, g261, p261, vf12_44, t241_44, g262, p262, vf12_45, t241_45, g263, p263, vf12_46, t241_46, g264, p264, vf12_47, t241_47, g265, p265, vf12_48, t241_48, g266, p266, vf12_49, t241_49, g267, p267, vf12_50, t241_50, g268, p268, vf12_51, t241_51, g269, p269, vf12_52, t241_52, g270, p270, vf12_54, t241_54, g272, p272, vf12_55, t241_55, g273, p273, vf12_56, t241_56, g274, p274, vf12_38, vf12_53, t241_53, g271, p271, List.getElem?_cons_zero, List.getElem?_cons_succ, List.length_cons, List.length_nil, ag_nx, ag_dn, ag_no, ag_if, jbr1, jbr2, jc1, jc2, jnul, jld, jsto, jstoL, jst1, jst2, jkill, jinc, jbI, jbL, jbS, juI, jl2i, jcmp, jisR, jisI, jisL, jret, jretv, jfits, jdup, jdup2, jpop, jmm, jcat, Value.category, jinv, jrcv, jthr, jhd, jput, jget, jlen, jald, jast, jaast, jgI, jgL, jgB, jtab, jlku, jacp, vf20, vf21, vf22, vf23, vf24, u2_s, u2_k, u2_i, uc_s, uc_k, uc_c, u2_c, LI0, LI1, LI2, LI3, LI4, LI5, LI6, LI7, LI8, LI9, LI10, LI11, LI12, LI13, LI14, LI15, LI16, LI17, LI18, LI19, LI20, LI21, LI22, LI23, LI24, LI25, LI26, LI27, LI28, LI29, LI30, LI31, LI32, LI33, LI34, LI35, LI36, LI37, LI40, LI42, LI43, LI45, LI48, LI60, LI61, LI64, LI80, LI300, LI400, LI1000, LI2000, LI2001, LI2047, LI2048, LI100000, LI1000000, LM, nI_clamp, nI_pos', nI_lt, nI_nlt, nI_le, nI_ge, nI_ne, nI_add, nI_sub, mI_lt, mI_le, mI_nlt, mI_nle, mI_ne, mI_ne', mI_nem, LI370, LI435, LI64, LI31, LI61, nI_mul, Nat.mul_comm r 435, e1, e2, f1, f2, y0, show 435 * r + 434 < 435870 by omega]
  · show I2 241 36 = nI as'.length
    rw [xS _ (by omega), hS, hl']
    simp (disch := omega) [u2_i, u2_s]
  · have hkl : k < as'.length := lt_of_some hk
    have hv := List.getElem?_eq_getElem (show k < V.1.length by omega)
    have := hP k _ a hv hk
    rw [Nat.zero_add] at this
    exact this.1
  · rw [xS _ (by omega), hS]
    simp (disch := omega) [u2_i, u2_s]
  · rw [xS _ (by omega), hS]
    simp (disch := omega) [u2_i, u2_s]
  · intro hl
    obtain ⟨b1, b2, b3, b4, b5, b6, b7, b8⟩ := hW.2.2.2.1 hl
    have er : eR rN I2 = eR rN I := by
      funext i
      unfold eR
      have z : ∀ c, 275 ≤ c → c ≤ 281 → I2 c i = I c i := fun c h1 h2 => by rw [x1 c i (by omega) (by omega), o1.1 _ _ (by omega) (by omega), hS]; simp (disch := omega) [u2_k]
      rw [z 275 (by omega) (by omega), z 276 (by omega) (by omega), z 277 (by omega) (by omega), z 278 (by omega) (by omega), z 279 (by omega) (by omega), z 280 (by omega) (by omega), z 281 (by omega) (by omega)]
    exact ⟨by rw [xSo _ (by omega) (by omega) (by omega) (by omega)]; exact b1, by rw [xSo _ (by omega) (by omega) (by omega) (by omega)]; exact b2, by rw [xSo _ (by omega) (by omega) (by omega) (by omega)]; exact b3, by rw [xSo _ (by omega) (by omega) (by omega) (by omega)]; exact b4, b5, by rw [xSo _ (by omega) (by omega) (by omega) (by omega)]; exact b6, by rw [er]; exact b7, by rw [xSo _ (by omega) (by omega) (by omega) (by omega)]; exact b8⟩
  · intro hl
    obtain ⟨b1, b2, b3, b4⟩ := hW.2.2.2.2 hl
    refine ⟨by rw [xSo _ (by omega) (by omega) (by omega) (by omega)]; exact b1, by rw [xSo _ (by omega) (by omega) (by omega) (by omega)]; exact b2, by rw [xSo _ (by omega) (by omega) (by omega) (by omega)]; exact b3, ?_⟩
    have : tQ rN I2 W0.2.1 W0.2.2.1 := tQ_fr (fun c i h1 h2 => by rw [x1 c i (by omega) (by omega), o1.1 _ _ (by omega) (by omega), hS]; simp (disch := omega) [u2_k]) (fun i h1 => xSo i (by omega) (by omega) (by omega) (by omega)) b4
    exact this
  · apply List.ext_getElem?
    intro k
    rw [List.getElem?_map, List.getElem?_map]
    rcases Nat.lt_or_ge k V.1.length with c | c
    · have hv := List.getElem?_eq_getElem c
      have ha := List.getElem?_eq_getElem (show k < as'.length by omega)
      have := (hP k _ _ hv ha).2.1
      rw [hv, ha]
      exact congrArg some this
    · rw [List.getElem?_eq_none c, List.getElem?_eq_none (show as'.length ≤ k by omega)]
  · by_cases c4 : c = 241
    · subst c4
      exact xSo j (by omega) (by omega) (by omega) (by omega)
    · rw [x1 c j (by omega) c4, o1.1 _ _ h1 (by omega), hS]
      simp (disch := omega) [u2_k]
  · apply List.ext_getElem?
    intro k
    rcases Nat.lt_or_ge k V.1.length with c | c
    · have hv := List.getElem?_eq_getElem c
      have ha := List.getElem?_eq_getElem (show k < as'.length by omega)
      have := (hP k _ _ hv ha).2.2
      rw [hv, ha]
      refine congrArg some (this (fun i s hs => ?_))
      have hil := lt_of_some hs
      obtain ⟨b1, b2, b3, _⟩ := ok k _ hv
      rw [Nat.zero_add, x271 _ (by omega)]
      exact ho k _ hv i s hs
    · rw [List.getElem?_eq_none c, List.getElem?_eq_none (show as'.length ≤ k by omega)]
end RG3
