/-! the class does acts: next, stop, the end -/
section CX2
variable {A : Nat → Nat} {d b n w P p k : Nat} {h : Nat → Option jC} {X : jXX} {I : Nat → Nat → Int32} {J : Nat → Nat → Int64} {R : Nat → Nat → Nat} {cN rN : Int32 → Nm} {a : aI Nm} {W : aW Nm} {N : Nat → Nat → Int32} {O G E : Nat → Int32} {np L : Nat} {x2 : Int32}
theorem iC_state {p0 : Nat} {v : Int32} (hA : iC cN I p0 a) : iC cN (u2 I p0 2 v) p0 ((a.1.1, a.1.2.1, v, a.1.2.2.2), a.2) := by
  obtain ⟨h1, h2, h3, h4, h5, h6⟩ := hA
  refine ⟨?_, ?_, ?_, ?_, ?_, ?_⟩
  · rw [h1]
    simp (disch := omega) [u2_i, u2_s]
  · refine h2.trans (rl_congr fun j hj => ?_)
    simp (disch := omega) [u2_k]
  · rw [u2_i (by omega)]; exact h3
  · refine h4.trans (rl_congr fun j hj => ?_)
    simp (disch := omega) [u2_k]
  · rw [u2_i (by omega)]; exact h5
  · refine h6.trans (rl_congr fun j hj => ?_)
    simp (disch := omega) [u2_k]
theorem xNext {m s : Nat} (hw : isW w) (hP : isP P) (hR : R w 0 = P) (hj : ∀ x y, cN x = cN y → x = y) (hpl : plC cN rN N O G E np P L I) (hW : wC cN I R w W) (hk : W.1[k]? = some a) (ho : O m = nI 23) (hg : G m = nI s) (hm : m < L) : ∃ I', (∀ st c6 c7 c8, st ≤ m → M128 A d 19 [some (.ref (b + w)), some (.ref (b + R (w + 8) k)), some (.int x2), some (.ref (b + (P + 4))), some (.int (nI m)), some (.int (nI st)), c6, c7, c8] [] (jH h b X I J R n) = some (.inl none, jH h b X I' J R n)) ∧ wC cN I' R w (aPut k ((a.1.1, a.1.2.1, nI s, a.1.2.2.2), a.2) W) ∧ fC w I I' := by
  have w1 := isW_e hw
  have k8 := wA_lt hW.1 hk
  have hi := wA_I hw hW.1 k k8
  have hr := okS_r hW.1.1 k8
  obtain ⟨h1, h2, g5, g6, g7⟩ := rdO hpl.2.2.1 ho
  rw [hg] at g6
  obtain ⟨wp, fp, gp⟩ := wC_put (I' := u2 I (R (w + 8) k) 2 (nI s)) hw hW (lt_of_some hk) (fun c i hc => by rw [u2_k (by omega)]) (iC_state (hW.1.2.2.2 k a hk))
  refine ⟨_, fun st c6 c7 c8 hs => ?_, wp, fp⟩
  rw [r128_19]
  simp (disch := omega) [r128_0, r128_1, r128_4, r128_7, r128_8, r128_9, r128_11, r128_12, r128_13, r128_16, r128_17, r128_21, r128_24, r128_27, r128_29, r128_32, r128_34, r128_35, r128_38, r128_41, r128_43, r128_46, r128_49, r128_50, r128_53, r128_55, r128_56, r128_58, r128_59, r128_62, r128_64, r128_65, r128_67, r128_68, r128_71, r128_73, r128_74, r128_76, r128_79, r128_81, r128_160, r128_161, r128_163, r128_164, r128_167, r128_170, r128_173, r128_174, r128_177, r128_178, r128_179, r128_182, r128_184, r128_185, r128_188, r128_189, r128_192, r128_193, r128_196, r128_199, r128_200, r128_201, r128_202, r128_203, r128_206, r128_209, r128_211, r128_214, r128_217, r128_218, r128_219, r128_220, r128_222, r128_225, r128_228, r128_229, r128_230, r128_231, r128_232, r128_235, r128_238, r128_240, r128_243, r128_246, r128_247, r128_248, r128_249, r128_250, r128_253, r128_256, r128_258, r128_261, r128_264, r128_265, r128_266, r128_267, r128_269, r128_272, r128_274, r128_277, r128_280, r128_281, r128_282, r128_284, r128_285, r128_288, r128_291, r128_294, r128_295, r128_297, r128_300, r128_303, r128_304, r128_305, r128_307, r128_310, r128_313, r128_314, r128_317, r128_319, r128_320, r128_323, r128_324, r128_325, r128_328, r128_329, r128_332, r128_334, r128_337, r128_340, r128_341, r128_344, r128_347, r128_349, r128_352, r128_354, r128_356, r128_359, r128_361, r128_363, r128_366, r128_367, r128_369, r128_372, r128_373, r128_374, r128_375, r128_378, r128_379, r128_380, r128_383, r128_386, r128_387, r128_388, r128_391, r128_392, r128_393, r128_394, r128_396, r128_398, r128_401, r128_404, r128_407, gW0 hw, vf9_0, tW0_0 hw, gP0 hP, vf5_2, tP0_2 hP, pW0_10 hw, ty9_10, gP4 hP, vf1_4, vf1_0, tP4_0 hP, gP5 hP, vf1_1, tP4_1 hP, gP6 hP, vf1_2, tP4_2 hP, gP7 hP, qa131, qo131, qa17, qo17, gI0 hi, vf9_1, tW0_1 hw, vf2_0, vf2_1, qa102, qo102, gW1 hw, vf2_4, qa116, qo116, qa133, qo133, vf2_3, vf2_5, qa132, qo132, qa135, qo135, qa23, qo23, qa136, qo136, pI0_2 hi, ty2_2, qa138, qo138, vf2_2, qa129, qo129, List.getElem?_cons_zero, List.getElem?_cons_succ, List.length_cons, List.length_nil, ag_nx, ag_dn, ag_no, ag_if, jbr1, jbr2, jc1, jc2, jnul, jld, jsto, jstoL, jst1, jst2, jkill, jinc, jbI, jbL, jbS, juI, jl2i, jcmp, jisR, jisI, jisL, jret, jretv, jfits, jdup, jdup2, jpop, jmm, jcat, Value.category, jinv, jrcv, jthr, jhd, jput, jget, jlen, jald, jast, jaast, jgI, jgL, jgB, jtab, jlku, jacp, vf20, vf21, vf22, vf23, vf24, u2_s, u2_k, u2_i, uc_s, uc_k, uc_c, u2_c, LI0, LI1, LI2, LI3, LI4, LI5, LI6, LI7, LI8, LI9, LI10, LI11, LI12, LI13, LI14, LI15, LI16, LI17, LI18, LI19, LI20, LI21, LI22, LI23, LI24, LI25, LI26, LI27, LI28, LI29, LI30, LI31, LI32, LI33, LI34, LI35, LI36, LI37, LI40, LI42, LI43, LI45, LI48, LI60, LI61, LI64, LI80, LI300, LI400, LI1000, LI2000, LI2001, LI2047, LI2048, LI100000, LI1000000, LM, nI_clamp, nI_pos', nI_lt, nI_nlt, nI_le, nI_ge, nI_ne, nI_add, nI_sub, mI_lt, mI_le, mI_nlt, mI_nle, mI_ne, mI_ne', mI_nem, nI_toInt, h1, LI2048, g5, g6, g7, show m < 2048 by omega]
theorem xStop {m : Nat} (hm1 : cN (-1) = rN (-1)) (hw : isW w) (hP : isP P) (hR : R w 0 = P) (hj : ∀ x y, cN x = cN y → x = y) (hpl : plC cN rN N O G E np P L I) (hW : wC cN I R w W) (hk : W.1[k]? = some a) (hd : ∀ j c, j < k → W.1[j]? = some c → ¬ c.1.1 = a.1.1) (ho : O m = nI 24 ∨ O m = nI 28 ∧ a.1.2.2.1 = -1) (hm : m < L) : ∃ I' R', (∀ st c6 c7 c8, st ≤ m → M128 A (d + 2) 19 [some (.ref (b + w)), some (.ref (b + R (w + 8) k)), some (.int x2), some (.ref (b + (P + 4))), some (.int (nI m)), some (.int (nI st)), c6, c7, c8] [] (jH h b X I J R n) = some (.inl none, jH h b X I' J R' n)) ∧ wC cN I' R' w (aGone rN (decide (w = 57)) k W) ∧ fC w I I' ∧ ∀ c j, c ≠ w + 8 → R' c j = R c j := by
  have w1 := isW_e hw
  have k8 := wA_lt hW.1 hk
  have hi := wA_I hw hW.1 k k8
  have hr := okS_r hW.1.1 k8
  obtain ⟨i0, i1, i2, _⟩ := iC_01 (hW.1.2.2.2 k a hk)
  obtain ⟨I1, R1, e1, wa, fa, ra⟩ := cStop (d := d) (A := A) (b := b) (h := h) (X := X) (J := J) (n := n) hm1 hw hW hk hd
  refine ⟨I1, R1, fun st c6 c7 c8 hs => ?_, wa, fa, ra⟩
  rw [r128_19]
  rcases ho with ho | ⟨ho, hst⟩
  · obtain ⟨h1, h2, g5, g6, g7⟩ := rdO hpl.2.2.1 ho
    simp (disch := omega) [r128_0, r128_1, r128_4, r128_7, r128_8, r128_9, r128_11, r128_12, r128_13, r128_16, r128_17, r128_21, r128_24, r128_27, r128_29, r128_32, r128_34, r128_35, r128_38, r128_41, r128_43, r128_46, r128_49, r128_50, r128_53, r128_55, r128_56, r128_58, r128_59, r128_62, r128_64, r128_65, r128_67, r128_68, r128_71, r128_73, r128_74, r128_76, r128_79, r128_81, r128_160, r128_161, r128_163, r128_164, r128_167, r128_170, r128_173, r128_174, r128_177, r128_178, r128_179, r128_182, r128_184, r128_185, r128_188, r128_189, r128_192, r128_193, r128_196, r128_199, r128_200, r128_201, r128_202, r128_203, r128_206, r128_209, r128_211, r128_214, r128_217, r128_218, r128_219, r128_220, r128_222, r128_225, r128_228, r128_229, r128_230, r128_231, r128_232, r128_235, r128_238, r128_240, r128_243, r128_246, r128_247, r128_248, r128_249, r128_250, r128_253, r128_256, r128_258, r128_261, r128_264, r128_265, r128_266, r128_267, r128_269, r128_272, r128_274, r128_277, r128_280, r128_281, r128_282, r128_284, r128_285, r128_288, r128_291, r128_294, r128_295, r128_297, r128_300, r128_303, r128_304, r128_305, r128_307, r128_310, r128_313, r128_314, r128_317, r128_319, r128_320, r128_323, r128_324, r128_325, r128_328, r128_329, r128_332, r128_334, r128_337, r128_340, r128_341, r128_344, r128_347, r128_349, r128_352, r128_354, r128_356, r128_359, r128_361, r128_363, r128_366, r128_367, r128_369, r128_372, r128_373, r128_374, r128_375, r128_378, r128_379, r128_380, r128_383, r128_386, r128_387, r128_388, r128_391, r128_392, r128_393, r128_394, r128_396, r128_398, r128_401, r128_404, r128_407, gW0 hw, vf9_0, tW0_0 hw, gP0 hP, vf5_2, tP0_2 hP, pW0_10 hw, ty9_10, gP4 hP, vf1_4, vf1_0, tP4_0 hP, gP5 hP, vf1_1, tP4_1 hP, gP6 hP, vf1_2, tP4_2 hP, gP7 hP, qa131, qo131, qa17, qo17, gI0 hi, vf9_1, tW0_1 hw, vf2_0, vf2_1, qa102, qo102, gW1 hw, vf2_4, qa116, qo116, qa133, qo133, vf2_3, vf2_5, qa132, qo132, qa135, qo135, qa23, qo23, qa136, qo136, pI0_2 hi, ty2_2, qa138, qo138, vf2_2, qa129, qo129, List.getElem?_cons_zero, List.getElem?_cons_succ, List.length_cons, List.length_nil, ag_nx, ag_dn, ag_no, ag_if, jbr1, jbr2, jc1, jc2, jnul, jld, jsto, jstoL, jst1, jst2, jkill, jinc, jbI, jbL, jbS, juI, jl2i, jcmp, jisR, jisI, jisL, jret, jretv, jfits, jdup, jdup2, jpop, jmm, jcat, Value.category, jinv, jrcv, jthr, jhd, jput, jget, jlen, jald, jast, jaast, jgI, jgL, jgB, jtab, jlku, jacp, vf20, vf21, vf22, vf23, vf24, u2_s, u2_k, u2_i, uc_s, uc_k, uc_c, u2_c, LI0, LI1, LI2, LI3, LI4, LI5, LI6, LI7, LI8, LI9, LI10, LI11, LI12, LI13, LI14, LI15, LI16, LI17, LI18, LI19, LI20, LI21, LI22, LI23, LI24, LI25, LI26, LI27, LI28, LI29, LI30, LI31, LI32, LI33, LI34, LI35, LI36, LI37, LI40, LI42, LI43, LI45, LI48, LI60, LI61, LI64, LI80, LI300, LI400, LI1000, LI2000, LI2001, LI2047, LI2048, LI100000, LI1000000, LM, nI_clamp, nI_pos', nI_lt, nI_nlt, nI_le, nI_ge, nI_ne, nI_add, nI_sub, mI_lt, mI_le, mI_nlt, mI_nle, mI_ne, mI_ne', mI_nem, nI_toInt, h1, LI2048, g5, g6, g7, e1, show m < 2048 by omega]
  · obtain ⟨h1, h2, g5, g6, g7⟩ := rdO hpl.2.2.1 ho
    have z : I (R (w + 8) k) 2 = mI 1 := i2.trans hst
    simp (disch := omega) [r128_0, r128_1, r128_4, r128_7, r128_8, r128_9, r128_11, r128_12, r128_13, r128_16, r128_17, r128_21, r128_24, r128_27, r128_29, r128_32, r128_34, r128_35, r128_38, r128_41, r128_43, r128_46, r128_49, r128_50, r128_53, r128_55, r128_56, r128_58, r128_59, r128_62, r128_64, r128_65, r128_67, r128_68, r128_71, r128_73, r128_74, r128_76, r128_79, r128_81, r128_160, r128_161, r128_163, r128_164, r128_167, r128_170, r128_173, r128_174, r128_177, r128_178, r128_179, r128_182, r128_184, r128_185, r128_188, r128_189, r128_192, r128_193, r128_196, r128_199, r128_200, r128_201, r128_202, r128_203, r128_206, r128_209, r128_211, r128_214, r128_217, r128_218, r128_219, r128_220, r128_222, r128_225, r128_228, r128_229, r128_230, r128_231, r128_232, r128_235, r128_238, r128_240, r128_243, r128_246, r128_247, r128_248, r128_249, r128_250, r128_253, r128_256, r128_258, r128_261, r128_264, r128_265, r128_266, r128_267, r128_269, r128_272, r128_274, r128_277, r128_280, r128_281, r128_282, r128_284, r128_285, r128_288, r128_291, r128_294, r128_295, r128_297, r128_300, r128_303, r128_304, r128_305, r128_307, r128_310, r128_313, r128_314, r128_317, r128_319, r128_320, r128_323, r128_324, r128_325, r128_328, r128_329, r128_332, r128_334, r128_337, r128_340, r128_341, r128_344, r128_347, r128_349, r128_352, r128_354, r128_356, r128_359, r128_361, r128_363, r128_366, r128_367, r128_369, r128_372, r128_373, r128_374, r128_375, r128_378, r128_379, r128_380, r128_383, r128_386, r128_387, r128_388, r128_391, r128_392, r128_393, r128_394, r128_396, r128_398, r128_401, r128_404, r128_407, gW0 hw, vf9_0, tW0_0 hw, gP0 hP, vf5_2, tP0_2 hP, pW0_10 hw, ty9_10, gP4 hP, vf1_4, vf1_0, tP4_0 hP, gP5 hP, vf1_1, tP4_1 hP, gP6 hP, vf1_2, tP4_2 hP, gP7 hP, qa131, qo131, qa17, qo17, gI0 hi, vf9_1, tW0_1 hw, vf2_0, vf2_1, qa102, qo102, gW1 hw, vf2_4, qa116, qo116, qa133, qo133, vf2_3, vf2_5, qa132, qo132, qa135, qo135, qa23, qo23, qa136, qo136, pI0_2 hi, ty2_2, qa138, qo138, vf2_2, qa129, qo129, List.getElem?_cons_zero, List.getElem?_cons_succ, List.length_cons, List.length_nil, ag_nx, ag_dn, ag_no, ag_if, jbr1, jbr2, jc1, jc2, jnul, jld, jsto, jstoL, jst1, jst2, jkill, jinc, jbI, jbL, jbS, juI, jl2i, jcmp, jisR, jisI, jisL, jret, jretv, jfits, jdup, jdup2, jpop, jmm, jcat, Value.category, jinv, jrcv, jthr, jhd, jput, jget, jlen, jald, jast, jaast, jgI, jgL, jgB, jtab, jlku, jacp, vf20, vf21, vf22, vf23, vf24, u2_s, u2_k, u2_i, uc_s, uc_k, uc_c, u2_c, LI0, LI1, LI2, LI3, LI4, LI5, LI6, LI7, LI8, LI9, LI10, LI11, LI12, LI13, LI14, LI15, LI16, LI17, LI18, LI19, LI20, LI21, LI22, LI23, LI24, LI25, LI26, LI27, LI28, LI29, LI30, LI31, LI32, LI33, LI34, LI35, LI36, LI37, LI40, LI42, LI43, LI45, LI48, LI60, LI61, LI64, LI80, LI300, LI400, LI1000, LI2000, LI2001, LI2047, LI2048, LI100000, LI1000000, LM, nI_clamp, nI_pos', nI_lt, nI_nlt, nI_le, nI_ge, nI_ne, nI_add, nI_sub, mI_lt, mI_le, mI_nlt, mI_nle, mI_ne, mI_ne', mI_nem, nI_toInt, h1, LI2048, g5, g6, g7, e1, z, show m < 2048 by omega]
theorem xEnd {m s : Nat} (hw : isW w) (hP : isP P) (hR : R w 0 = P) (hj : ∀ x y, cN x = cN y → x = y) (hpl : plC cN rN N O G E np P L I) (hW : wC cN I R w W) (hk : W.1[k]? = some a) (ho : O m = nI 28) (hst : a.1.2.2.1 = nI s) (hs8 : s < 8) (hm : m < L) : ∀ st c6 c7 c8, st ≤ m → M128 A d 19 [some (.ref (b + w)), some (.ref (b + R (w + 8) k)), some (.int x2), some (.ref (b + (P + 4))), some (.int (nI m)), some (.int (nI st)), c6, c7, c8] [] (jH h b X I J R n) = some (.inl none, jH h b X I J R n) := by
  intro st c6 c7 c8 hs
  have w1 := isW_e hw
  have k8 := wA_lt hW.1 hk
  have hi := wA_I hw hW.1 k k8
  have hr := okS_r hW.1.1 k8
  obtain ⟨h1, h2, g5, g6, g7⟩ := rdO hpl.2.2.1 ho
  obtain ⟨i0, i1, i2, _⟩ := iC_01 (hW.1.2.2.2 k a hk)
  have z : I (R (w + 8) k) 2 = nI s := i2.trans hst
  rw [r128_19]
  simp (disch := omega) [r128_0, r128_1, r128_4, r128_7, r128_8, r128_9, r128_11, r128_12, r128_13, r128_16, r128_17, r128_21, r128_24, r128_27, r128_29, r128_32, r128_34, r128_35, r128_38, r128_41, r128_43, r128_46, r128_49, r128_50, r128_53, r128_55, r128_56, r128_58, r128_59, r128_62, r128_64, r128_65, r128_67, r128_68, r128_71, r128_73, r128_74, r128_76, r128_79, r128_81, r128_160, r128_161, r128_163, r128_164, r128_167, r128_170, r128_173, r128_174, r128_177, r128_178, r128_179, r128_182, r128_184, r128_185, r128_188, r128_189, r128_192, r128_193, r128_196, r128_199, r128_200, r128_201, r128_202, r128_203, r128_206, r128_209, r128_211, r128_214, r128_217, r128_218, r128_219, r128_220, r128_222, r128_225, r128_228, r128_229, r128_230, r128_231, r128_232, r128_235, r128_238, r128_240, r128_243, r128_246, r128_247, r128_248, r128_249, r128_250, r128_253, r128_256, r128_258, r128_261, r128_264, r128_265, r128_266, r128_267, r128_269, r128_272, r128_274, r128_277, r128_280, r128_281, r128_282, r128_284, r128_285, r128_288, r128_291, r128_294, r128_295, r128_297, r128_300, r128_303, r128_304, r128_305, r128_307, r128_310, r128_313, r128_314, r128_317, r128_319, r128_320, r128_323, r128_324, r128_325, r128_328, r128_329, r128_332, r128_334, r128_337, r128_340, r128_341, r128_344, r128_347, r128_349, r128_352, r128_354, r128_356, r128_359, r128_361, r128_363, r128_366, r128_367, r128_369, r128_372, r128_373, r128_374, r128_375, r128_378, r128_379, r128_380, r128_383, r128_386, r128_387, r128_388, r128_391, r128_392, r128_393, r128_394, r128_396, r128_398, r128_401, r128_404, r128_407, gW0 hw, vf9_0, tW0_0 hw, gP0 hP, vf5_2, tP0_2 hP, pW0_10 hw, ty9_10, gP4 hP, vf1_4, vf1_0, tP4_0 hP, gP5 hP, vf1_1, tP4_1 hP, gP6 hP, vf1_2, tP4_2 hP, gP7 hP, qa131, qo131, qa17, qo17, gI0 hi, vf9_1, tW0_1 hw, vf2_0, vf2_1, qa102, qo102, gW1 hw, vf2_4, qa116, qo116, qa133, qo133, vf2_3, vf2_5, qa132, qo132, qa135, qo135, qa23, qo23, qa136, qo136, pI0_2 hi, ty2_2, qa138, qo138, vf2_2, qa129, qo129, List.getElem?_cons_zero, List.getElem?_cons_succ, List.length_cons, List.length_nil, ag_nx, ag_dn, ag_no, ag_if, jbr1, jbr2, jc1, jc2, jnul, jld, jsto, jstoL, jst1, jst2, jkill, jinc, jbI, jbL, jbS, juI, jl2i, jcmp, jisR, jisI, jisL, jret, jretv, jfits, jdup, jdup2, jpop, jmm, jcat, Value.category, jinv, jrcv, jthr, jhd, jput, jget, jlen, jald, jast, jaast, jgI, jgL, jgB, jtab, jlku, jacp, vf20, vf21, vf22, vf23, vf24, u2_s, u2_k, u2_i, uc_s, uc_k, uc_c, u2_c, LI0, LI1, LI2, LI3, LI4, LI5, LI6, LI7, LI8, LI9, LI10, LI11, LI12, LI13, LI14, LI15, LI16, LI17, LI18, LI19, LI20, LI21, LI22, LI23, LI24, LI25, LI26, LI27, LI28, LI29, LI30, LI31, LI32, LI33, LI34, LI35, LI36, LI37, LI40, LI42, LI43, LI45, LI48, LI60, LI61, LI64, LI80, LI300, LI400, LI1000, LI2000, LI2001, LI2047, LI2048, LI100000, LI1000000, LM, nI_clamp, nI_pos', nI_lt, nI_nlt, nI_le, nI_ge, nI_ne, nI_add, nI_sub, mI_lt, mI_le, mI_nlt, mI_nle, mI_ne, mI_ne', mI_nem, nI_toInt, h1, LI2048, g5, g6, g7, z, show m < 2048 by omega]
end CX2
/-- what a run of acts comes to, at the class -/
def oC (A : Nat → Nat) (h : Nat → Option jC) (d b w k P : Nat) (X : jXX) (J : Nat → Nat → Int64) (R : Nat → Nat → Nat) (n : Nat) (x2 : Int32) (cN rN : Int32 → Nm) (p : Nat) (I : Nat → Nat → Int32) (q : Nat) (z : Int32 × aW Nm) : Prop :=
  (z.1 = 0 ∧ ∃ I', K128 A h d b w (R (w + 8) k) P X J R n x2 p I q I' ∧ wC cN I' R w z.2 ∧ (∀ c i, c < w ∨ w + 73 < c → I' c i = I c i) ∧ I' w 10 = nI 0) ∨
  (z.1 = 1 ∧ ∃ I', (∀ st c6 c7 c8, st ≤ p → M128 A d 19 [some (.ref (b + w)), some (.ref (b + R (w + 8) k)), some (.int x2), some (.ref (b + (P + 4))), some (.int (nI p)), some (.int (nI st)), c6, c7, c8] [] (jH h b X I J R n) = some (.inl none, jH h b X I' J R n)) ∧ wC cN I' R w z.2 ∧ (∀ c i, c < w ∨ w + 73 < c → I' c i = I c i)) ∨
  (z.1 = 2 ∧ ∃ I' R', (∀ st c6 c7 c8, st ≤ p → M128 A d 19 [some (.ref (b + w)), some (.ref (b + R (w + 8) k)), some (.int x2), some (.ref (b + (P + 4))), some (.int (nI p)), some (.int (nI st)), c6, c7, c8] [] (jH h b X I J R n) = some (.inl none, jH h b X I' J R' n)) ∧ wC cN I' R' w (aGone rN (decide (w = 57)) k z.2) ∧ (∀ c i, c < w ∨ w + 73 < c → I' c i = I c i) ∧ ∀ c j, c ≠ w + 8 → R' c j = R c j)
section CX3
variable {A : Nat → Nat} {d b n w P p k : Nat} {h : Nat → Option jC} {X : jXX} {I : Nat → Nat → Int32} {J : Nat → Nat → Int64} {R : Nat → Nat → Nat} {cN rN : Int32 → Nm} {a : aI Nm} {W : aW Nm} {N : Nat → Nat → Int32} {O G E : Nat → Int32} {np L : Nat} {x2 : Int32}
/-- first from p on to m, then what is left -/
theorem oC_pre {m q : Nat} {I1 : Nat → Nat → Int32} {z : Int32 × aW Nm} (h1 : K128 A h d b w (R (w + 8) k) P X J R n x2 p I m I1) (hf : ∀ c i, c < w ∨ w + 73 < c → I1 c i = I c i) (h2 : oC A h d b w k P X J R n x2 cN rN m I1 q z) : oC A h d b w k P X J R n x2 cN rN p I q z := by
  rcases h2 with ⟨hz, I', k2, w2, f2, t2⟩ | ⟨hz, I', k2, w2, f2⟩ | ⟨hz, I', R', k2, w2, f2, r2⟩
  · exact Or.inl ⟨hz, I', K_tr h1 k2, w2, fun c i hc => (f2 c i hc).trans (hf c i hc), t2⟩
  · refine Or.inr (Or.inl ⟨hz, I', fun st c6 c7 c8 hs => ?_, w2, fun c i hc => (f2 c i hc).trans (hf c i hc)⟩)
    obtain ⟨st1, d6, d7, d8, hs1, e1⟩ := h1 st c6 c7 c8 hs
    rw [e1]
    exact k2 st1 d6 d7 d8 hs1
  · refine Or.inr (Or.inr ⟨hz, I', R', fun st c6 c7 c8 hs => ?_, w2, fun c i hc => (f2 c i hc).trans (hf c i hc), r2⟩)
    obtain ⟨st1, d6, d7, d8, hs1, e1⟩ := h1 st c6 c7 c8 hs
    rw [e1]
    exact k2 st1 d6 d7 d8 hs1
theorem sB_le {nv ns : Nat} : ∀ {r p as q}, sB cN rN N O G E nv ns np r p as q → p ≤ q := by
  intro r
  induction r with
  | zero => intro p as q h; exact h.elim
  | succ r ih =>
    intro p as q h
    cases as with
    | nil => exact Nat.le_of_eq h
    | cons c as =>
      obtain ⟨m, h1, h2⟩ := h
      have hm := ih h1
      rcases h2 with h2 | ⟨_, m1, m2, e, f, _, _, _, _, xe, _, hb, h3⟩
      · have : p < m := by
          rcases h2 with ⟨_, m1, j, e, _, _, xe, _, _, _, _, h⟩ | ⟨_, m1, hv, _, h, _⟩ | ⟨_, m1, e, _, _, xe, _, _, h⟩ | ⟨_, _, _, h⟩ | ⟨_, _, _, h⟩ | ⟨_, _, _, h⟩ | ⟨_, _, h⟩ | ⟨_, m1, e, _, _, xe, _, h⟩
          · have := sE_lt xe; omega
          · rcases hv with ⟨_, _, _, h5⟩ | ⟨e, _, _, xe⟩
            · omega
            · have := sE_lt xe; omega
          · have := sE_lt xe; omega
          · omega
          · omega
          · omega
          · omega
          · have := sE_lt xe; omega
        omega
      · have a1 := sE_lt xe
        have a2 := ih hb
        rcases h3 with ⟨_, _, h4⟩ | ⟨g, _, _, _, _, hg, _⟩
        · omega
        · have a3 := ih hg
          omega
end CX3
