/-! the reference does acts -/
section RAC
variable {A : Nat → Nat} {d b n : Nat} {h : Nat → Option jC} {X : jXX} {I : Nat → Nat → Int32} {J : Nat → Nat → Int64} {R : Nat → Nat → Nat} {k : Nat} {rN : Int32 → Nm} {l : Bool} {W : aW Nm} {a : aI Nm} {N : Nat → Nat → Int32} {M np p : Nat}
theorem rSend {c : Nat} (hj : ∀ x y, rN x = rN y → x = y) (hpl : plR X I N M) (hW : wR rN I l W) (ok : okL W.1) (hk : W.1[k]? = some a) (hc : c < M) (hv : N 253 c = -1 ∨ ∃ e, N 253 c = nI e ∧ xOK N M a.2.1.length ED e) (hg : (∃ y t, y < 2 ^ 20 ∧ N 258 c = nI y ∧ t < np ∧ N 257 c = nI t) ∨ (N 258 c = -1 ∧ (N 254 c = 22 ∨ N 254 c = 18 ∨ N 254 c = 19 ∨ N 254 c = 20 ∨ N 254 c = 21))) :
    ∃ I', jcall A jcode (d + 3 + ED) 231 [.ref (b + 241), .int (nI k), .int (nI c)] (jH h b X I J R n) = some (.inl none, jH h b X I' J R n) ∧ wR rN I' l (match aGoal N W k c with
      | none => aAdd l (0, a.1.1, rN (N 252 c), if N 253 c < 0 then 0 else aVal N W k (N 253 c), some (a.1.2.1, -1)) W
      | some to => aTo l k (rN (N 252 c)) (if N 253 c < 0 then 0 else aVal N W k (N 253 c)) to W) ∧ fR I I' := by
  have hM := hpl.2.2
  have m2 := hpl.2.1 252 (by omega) (by omega)
  have m3 := hpl.2.1 253 (by omega) (by omega)
  have m4 := hpl.2.1 254 (by omega) (by omega)
  have m8 := hpl.2.1 258 (by omega) (by omega)
  have n2 : I 252 c = N 252 c := hpl.1 252 c (by omega) (by omega) (by omega)
  have n3 : I 253 c = N 253 c := hpl.1 253 c (by omega) (by omega) (by omega)
  have n4 : I 254 c = N 254 c := hpl.1 254 c (by omega) (by omega) (by omega)
  have n8 : I 258 c = N 258 c := hpl.1 258 c (by omega) (by omega) (by omega)
  have hl8 := hW.1.1
  have k8 : k < 8 := by have := lt_of_some hk; omega
  have hA := hW.1.2.2 k a hk
  have hat := aAt_of hk
  have hm : I 241 36 = nI W.1.length := hW.1.2.1
  obtain ⟨v, hvv⟩ : ∃ v, v = (if N 253 c < 0 then 0 else aVal N W k (N 253 c)) := ⟨_, rfl⟩
  rw [← hvv]
  have hd : d + 3 + ED = d + 2 + ED + 1 := by omega
  have s1 : jcall A jcode (d + 3 + ED) 231 [.ref (b + 241), .int (nI k), .int (nI c)] (jH h b X I J R n) = M231 A (d + 2 + ED) 36 [some (.ref (b + 241)), some (.int (nI k)), some (.int (nI c)), some (.int v), some (.int (N 252 c)), some (.int (mI 1)), none, none] [] (jH h b X I J R n) := by
    rw [hd]
    rcases hv with hv | ⟨e, he, xe⟩
    · rw [if_pos (by rw [hv]; decide)] at hvv
      rw [show (-1 : Int32) = mI 1 from rfl] at hv
      rw [LI0] at hvv
      subst hvv
      simp (disch := omega) [je231, r231_0, r231_1, r231_4, r231_5, r231_6, r231_9, r231_10, r231_13, r231_14, r231_15, r231_16, r231_19, r231_20, r231_21, r231_24, r231_25, r231_26, r231_29, r231_30, r231_31, r231_33, r231_34, r231_37, r231_40, r231_41, r231_42, r231_45, r231_46, r231_49, r231_50, r231_51, r231_53, r231_55, r231_58, r231_59, r231_62, r231_64, r231_65, r231_66, r231_69, r231_70, r231_71, r231_74, r231_76, r231_78, r231_81, r231_84, r231_87, r231_88, r231_91, r231_92, r231_93, r231_95, r231_98, r231_99, r231_100, r231_101, r231_102, r231_105, r231_106, r231_107, r231_110, r231_113, r231_115, r231_116, r231_119, r231_120, r231_121, r231_124, r231_125, r231_128, r231_129, r231_130, r231_132, r231_135, r231_136, r231_139, r231_140, r231_142, r231_143, r231_146, r231_148, r231_149, r231_150, r231_151, r231_154, r231_155, r231_156, r231_158, r231_159, r231_160, r231_163, r231_164, r231_165, r231_167, r231_170, r231_172, r231_175, r231_177, r231_180, r231_181, r231_184, r231_185, r231_188, r231_190, r231_191, r231_194, r231_196, r231_199, r231_201, r231_204, r231_205, r231_207, r231_209, r231_210, r231_211, r231_214, r231_215, r231_216, r231_217, r231_220, r231_221, r231_222, r231_225, r231_228, r231_229, r231_230, r231_233, r231_236, r231_238, r231_241, r231_244, r231_245, r231_248, r231_250, r231_251, r231_252, r231_253, r231_254, r231_257, r231_258, r231_259, r231_261, r231_262, r231_265, g241, vf12_23, t241_23, g253, p253, qa228, qo228, vf12_22, t241_22, g252, p252, vf12_28, t241_28, g258, p258, vf12_36, vf12_43, t241_43, g261, p261, vf12_27, t241_27, g257, p257, vf12_24, t241_24, g254, p254, qa229, qo229, qa220, qo220, vf12_64, vf12_42, t241_42, g260, p260, qa218, qo218, qa226, qo226, vf12_66, vf12_63, t241_63, g281, p281, qa219, qo219, List.getElem?_cons_zero, List.getElem?_cons_succ, List.length_cons, List.length_nil, ag_nx, ag_dn, ag_no, ag_if, jbr1, jbr2, jc1, jc2, jnul, jld, jsto, jstoL, jst1, jst2, jkill, jinc, jbI, jbL, jbS, juI, jl2i, jcmp, jisR, jisI, jisL, jret, jretv, jfits, jdup, jdup2, jpop, jmm, jcat, Value.category, jinv, jrcv, jthr, jhd, jput, jget, jlen, jald, jast, jaast, jgI, jgL, jgB, jtab, jlku, jacp, vf20, vf21, vf22, vf23, vf24, u2_s, u2_k, u2_i, uc_s, uc_k, uc_c, u2_c, LI0, LI1, LI2, LI3, LI4, LI5, LI6, LI7, LI8, LI9, LI10, LI11, LI12, LI13, LI14, LI15, LI16, LI17, LI18, LI19, LI20, LI21, LI22, LI23, LI24, LI25, LI26, LI27, LI28, LI29, LI30, LI31, LI32, LI33, LI34, LI35, LI36, LI37, LI40, LI42, LI43, LI45, LI48, LI60, LI61, LI64, LI80, LI300, LI400, LI1000, LI2000, LI2001, LI2047, LI2048, LI100000, LI1000000, LM, nI_clamp, nI_pos', nI_lt, nI_nlt, nI_le, nI_ge, nI_ne, nI_add, nI_sub, mI_lt, mI_le, mI_nlt, mI_nle, mI_ne, mI_ne', mI_nem, n2, n3, m2, m3, hv, hc]
    · have hel := xOK_lt xe
      have ev := rEval (d := d + 1) (A := A) (b := b) (h := h) (X := X) (J := J) (R := R) (n := n) hpl hA k8 (ok k a hk).1 hW.2.2.1 ED e xe
      have hx : v = evl N W.2.1.2.1 a ED e := by
        rw [hvv, if_neg (by rw [he]; exact nI_pos (by omega)), aVal, hat, he]
        rw [show ix (nI e) = e from nI_clamp (by omega)]
      rw [hx]
      simp (disch := omega) [je231, r231_0, r231_1, r231_4, r231_5, r231_6, r231_9, r231_10, r231_13, r231_14, r231_15, r231_16, r231_19, r231_20, r231_21, r231_24, r231_25, r231_26, r231_29, r231_30, r231_31, r231_33, r231_34, r231_37, r231_40, r231_41, r231_42, r231_45, r231_46, r231_49, r231_50, r231_51, r231_53, r231_55, r231_58, r231_59, r231_62, r231_64, r231_65, r231_66, r231_69, r231_70, r231_71, r231_74, r231_76, r231_78, r231_81, r231_84, r231_87, r231_88, r231_91, r231_92, r231_93, r231_95, r231_98, r231_99, r231_100, r231_101, r231_102, r231_105, r231_106, r231_107, r231_110, r231_113, r231_115, r231_116, r231_119, r231_120, r231_121, r231_124, r231_125, r231_128, r231_129, r231_130, r231_132, r231_135, r231_136, r231_139, r231_140, r231_142, r231_143, r231_146, r231_148, r231_149, r231_150, r231_151, r231_154, r231_155, r231_156, r231_158, r231_159, r231_160, r231_163, r231_164, r231_165, r231_167, r231_170, r231_172, r231_175, r231_177, r231_180, r231_181, r231_184, r231_185, r231_188, r231_190, r231_191, r231_194, r231_196, r231_199, r231_201, r231_204, r231_205, r231_207, r231_209, r231_210, r231_211, r231_214, r231_215, r231_216, r231_217, r231_220, r231_221, r231_222, r231_225, r231_228, r231_229, r231_230, r231_233, r231_236, r231_238, r231_241, r231_244, r231_245, r231_248, r231_250, r231_251, r231_252, r231_253, r231_254, r231_257, r231_258, r231_259, r231_261, r231_262, r231_265, g241, vf12_23, t241_23, g253, p253, qa228, qo228, vf12_22, t241_22, g252, p252, vf12_28, t241_28, g258, p258, vf12_36, vf12_43, t241_43, g261, p261, vf12_27, t241_27, g257, p257, vf12_24, t241_24, g254, p254, qa229, qo229, qa220, qo220, vf12_64, vf12_42, t241_42, g260, p260, qa218, qo218, qa226, qo226, vf12_66, vf12_63, t241_63, g281, p281, qa219, qo219, List.getElem?_cons_zero, List.getElem?_cons_succ, List.length_cons, List.length_nil, ag_nx, ag_dn, ag_no, ag_if, jbr1, jbr2, jc1, jc2, jnul, jld, jsto, jstoL, jst1, jst2, jkill, jinc, jbI, jbL, jbS, juI, jl2i, jcmp, jisR, jisI, jisL, jret, jretv, jfits, jdup, jdup2, jpop, jmm, jcat, Value.category, jinv, jrcv, jthr, jhd, jput, jget, jlen, jald, jast, jaast, jgI, jgL, jgB, jtab, jlku, jacp, vf20, vf21, vf22, vf23, vf24, u2_s, u2_k, u2_i, uc_s, uc_k, uc_c, u2_c, LI0, LI1, LI2, LI3, LI4, LI5, LI6, LI7, LI8, LI9, LI10, LI11, LI12, LI13, LI14, LI15, LI16, LI17, LI18, LI19, LI20, LI21, LI22, LI23, LI24, LI25, LI26, LI27, LI28, LI29, LI30, LI31, LI32, LI33, LI34, LI35, LI36, LI37, LI40, LI42, LI43, LI45, LI48, LI60, LI61, LI64, LI80, LI300, LI400, LI1000, LI2000, LI2001, LI2047, LI2048, LI100000, LI1000000, LM, nI_clamp, nI_pos', nI_lt, nI_nlt, nI_le, nI_ge, nI_ne, nI_add, nI_sub, mI_lt, mI_le, mI_nlt, mI_nle, mI_ne, mI_ne', mI_nem, n2, n3, m2, m3, he, ev, hc]
  have hd2 : d + 2 + ED = d + 1200 + 2 := by unfold ED; omega
  rcases hg with ⟨y, t, hy, h258, ht, h257⟩ | ⟨h258, hw⟩
  · have hgo : aGoal N W k c = some (aLeast W (nI t)) := by
      unfold aGoal
      rw [if_pos (by rw [h258]; exact nI_pos' (by omega)), h257]
    have hfd : fdx (I 261) (nI t) W.1.length 0 = aLeast W (nI t) := by
      rw [fdx_idx (f := fun a : aI Nm => a.1.2.1) W.1 0 (fun j a hj' => by
        have := (hW.1.2.2 j a hj').1
        simp [this])]
      unfold aLeast
      simp
    have el := r231l (d := d + 2 + ED) (A := A) (b := b) (h := h) (X := X) (J := J) (R := R) (n := n) (k := k) (v := v) (x := N 252 c) hpl hc hl8 h257 W.1.length none (Nat.le_refl _)
    rw [Nat.sub_self, hfd] at el
    have el0 : inO (fdx (I 261) (nI t) 0 W.1.length) = mI 1 := rfl
    rw [el0] at el
    obtain ⟨I3, e3, w3, f3⟩ := rSnd3 (d := d + 1200) (A := A) (b := b) (h := h) (X := X) (J := J) (R := R) (n := n) (c := c) (v := v) (x := N 252 c) (to := aLeast W (nI t)) (o := false) (c6 := some (.int (mI 1))) hj hpl hW ok hk hc (fun j hj' => (List.findIdx?_eq_some_iff_getElem.mp hj').1) (Or.inr ⟨rfl, Or.inl ⟨y, hy, h258⟩⟩)
    rw [← hd2] at e3
    rw [hgo]
    refine ⟨I3, ?_, w3, f3⟩
    rw [s1, r231_36]
    simp only [LI0, LI1, LI2, LI3, LI4, LI5, LI6, LI7, LI8, LI9, LI10, LI11, LI12, LI13, LI14, LI15, LI16, LI17, LI18, LI19, LI20, LI21, LI22, LI23, LI24, LI25, LI26, LI27, LI28, LI29, LI30, LI31, LI32, LI33, LI34, LI35, LI36, LI37, LI40, LI42, LI43, LI45, LI48, LI60, LI61, LI64, LI80, LI300, LI400, LI1000, LI2000, LI2001, LI2047, LI2048, LI100000, LI1000000, LM] at el
    simp (disch := omega) [r231_0, r231_1, r231_4, r231_5, r231_6, r231_9, r231_10, r231_13, r231_14, r231_15, r231_16, r231_19, r231_20, r231_21, r231_24, r231_25, r231_26, r231_29, r231_30, r231_31, r231_33, r231_34, r231_37, r231_40, r231_41, r231_42, r231_45, r231_46, r231_49, r231_50, r231_51, r231_55, r231_58, r231_59, r231_62, r231_64, r231_65, r231_66, r231_69, r231_70, r231_71, r231_74, r231_76, r231_78, r231_81, r231_87, r231_88, r231_91, r231_92, r231_93, r231_95, r231_98, r231_99, r231_100, r231_101, r231_102, r231_105, r231_106, r231_107, r231_110, r231_113, r231_115, r231_116, r231_119, r231_120, r231_121, r231_124, r231_125, r231_128, r231_129, r231_130, r231_132, r231_135, r231_136, r231_139, r231_140, r231_142, r231_143, r231_146, r231_148, r231_149, r231_150, r231_151, r231_154, r231_155, r231_156, r231_158, r231_159, r231_160, r231_163, r231_164, r231_165, r231_167, r231_170, r231_172, r231_175, r231_177, r231_180, r231_181, r231_184, r231_185, r231_188, r231_190, r231_191, r231_194, r231_196, r231_199, r231_201, r231_204, r231_205, r231_207, r231_209, r231_210, r231_211, r231_214, r231_215, r231_216, r231_217, r231_220, r231_221, r231_222, r231_225, r231_228, r231_229, r231_230, r231_233, r231_236, r231_238, r231_241, r231_244, r231_245, r231_248, r231_250, r231_251, r231_252, r231_253, r231_254, r231_257, r231_258, r231_259, r231_261, r231_262, r231_265, g241, vf12_23, t241_23, g253, p253, qa228, qo228, vf12_22, t241_22, g252, p252, vf12_28, t241_28, g258, p258, vf12_36, vf12_43, t241_43, g261, p261, vf12_27, t241_27, g257, p257, vf12_24, t241_24, g254, p254, qa229, qo229, qa220, qo220, vf12_64, vf12_42, t241_42, g260, p260, qa218, qo218, qa226, qo226, vf12_66, vf12_63, t241_63, g281, p281, qa219, qo219, List.getElem?_cons_zero, List.getElem?_cons_succ, List.length_cons, List.length_nil, ag_nx, ag_dn, ag_no, ag_if, jbr1, jbr2, jc1, jc2, jnul, jld, jsto, jstoL, jst1, jst2, jkill, jinc, jbI, jbL, jbS, juI, jl2i, jcmp, jisR, jisI, jisL, jret, jretv, jfits, jdup, jdup2, jpop, jmm, jcat, Value.category, jinv, jrcv, jthr, jhd, jput, jget, jlen, jald, jast, jaast, jgI, jgL, jgB, jtab, jlku, jacp, vf20, vf21, vf22, vf23, vf24, u2_s, u2_k, u2_i, uc_s, uc_k, uc_c, u2_c, LI0, LI1, LI2, LI3, LI4, LI5, LI6, LI7, LI8, LI9, LI10, LI11, LI12, LI13, LI14, LI15, LI16, LI17, LI18, LI19, LI20, LI21, LI22, LI23, LI24, LI25, LI26, LI27, LI28, LI29, LI30, LI31, LI32, LI33, LI34, LI35, LI36, LI37, LI40, LI42, LI43, LI45, LI48, LI60, LI61, LI64, LI80, LI300, LI400, LI1000, LI2000, LI2001, LI2047, LI2048, LI100000, LI1000000, LM, nI_clamp, nI_pos', nI_lt, nI_nlt, nI_le, nI_ge, nI_ne, nI_add, nI_sub, mI_lt, mI_le, mI_nlt, mI_nle, mI_ne, mI_ne', mI_nem, n8, m8, h258, hm, hc, el]
    rw [r231_84]
    simp (disch := omega) [List.getElem?_cons_zero, List.getElem?_cons_succ, List.length_cons, List.length_nil, ag_nx, ag_dn, ag_no, ag_if, jbr1, jbr2, jc1, jc2, jnul, jld, jsto, jstoL, jst1, jst2, jkill, jinc, jbI, jbL, jbS, juI, jl2i, jcmp, jisR, jisI, jisL, jret, jretv, jfits, jdup, jdup2, jpop, jmm, jcat, Value.category, jinv, jrcv, jthr, jhd, jput, jget, jlen, jald, jast, jaast, jgI, jgL, jgB, jtab, jlku, jacp, vf20, vf21, vf22, vf23, vf24, u2_s, u2_k, u2_i, uc_s, uc_k, uc_c, u2_c, LI0, LI1, LI2, LI3, LI4, LI5, LI6, LI7, LI8, LI9, LI10, LI11, LI12, LI13, LI14, LI15, LI16, LI17, LI18, LI19, LI20, LI21, LI22, LI23, LI24, LI25, LI26, LI27, LI28, LI29, LI30, LI31, LI32, LI33, LI34, LI35, LI36, LI37, LI40, LI42, LI43, LI45, LI48, LI60, LI61, LI64, LI80, LI300, LI400, LI1000, LI2000, LI2001, LI2047, LI2048, LI100000, LI1000000, LM, nI_clamp, nI_pos', nI_lt, nI_nlt, nI_le, nI_ge, nI_ne, nI_add, nI_sub, mI_lt, mI_le, mI_nlt, mI_nle, mI_ne, mI_ne', mI_nem, e3]
  · have hneg : ¬ 0 ≤ N 258 c := by rw [h258]; decide
    have h258' : N 258 c = mI 1 := h258
    by_cases h22 : N 254 c = 22
    · have hgo : aGoal N W k c = none := by
        unfold aGoal
        rw [if_neg hneg, if_pos h22]
      obtain ⟨I3, e3, w3, f3⟩ := rSnd3 (d := d + 1200) (A := A) (b := b) (h := h) (X := X) (J := J) (R := R) (n := n) (c := c) (v := v) (x := N 252 c) (to := none) (o := true) (c6 := none) hj hpl hW ok hk hc (fun j hj' => by cases hj') (Or.inl ⟨rfl, rfl, h258, h22⟩)
      rw [← hd2] at e3
      rw [hgo]
      refine ⟨I3, ?_, w3, f3⟩
      rw [show inO (none : Option Nat) = mI 1 from rfl] at e3
      rw [LI22] at h22
      rw [s1, r231_36]
      simp (disch := omega) [r231_0, r231_1, r231_4, r231_5, r231_6, r231_9, r231_10, r231_13, r231_14, r231_15, r231_16, r231_19, r231_20, r231_21, r231_24, r231_25, r231_26, r231_29, r231_30, r231_31, r231_33, r231_34, r231_37, r231_40, r231_41, r231_42, r231_45, r231_46, r231_49, r231_50, r231_51, r231_53, r231_55, r231_58, r231_59, r231_62, r231_64, r231_65, r231_66, r231_69, r231_70, r231_71, r231_74, r231_76, r231_78, r231_81, r231_84, r231_87, r231_88, r231_91, r231_92, r231_93, r231_95, r231_98, r231_99, r231_100, r231_101, r231_102, r231_105, r231_106, r231_107, r231_110, r231_113, r231_116, r231_119, r231_120, r231_121, r231_124, r231_125, r231_128, r231_129, r231_130, r231_132, r231_135, r231_136, r231_139, r231_140, r231_142, r231_143, r231_146, r231_148, r231_149, r231_150, r231_151, r231_154, r231_155, r231_156, r231_158, r231_159, r231_160, r231_163, r231_164, r231_165, r231_167, r231_170, r231_172, r231_175, r231_177, r231_180, r231_181, r231_184, r231_185, r231_188, r231_190, r231_191, r231_194, r231_196, r231_199, r231_201, r231_204, r231_205, r231_207, r231_209, r231_210, r231_211, r231_214, r231_215, r231_216, r231_217, r231_220, r231_221, r231_222, r231_225, r231_228, r231_229, r231_230, r231_233, r231_236, r231_238, r231_241, r231_244, r231_245, r231_248, r231_250, r231_251, r231_252, r231_253, r231_254, r231_257, r231_258, r231_259, r231_261, r231_262, r231_265, g241, vf12_23, t241_23, g253, p253, qa228, qo228, vf12_22, t241_22, g252, p252, vf12_28, t241_28, g258, p258, vf12_36, vf12_43, t241_43, g261, p261, vf12_27, t241_27, g257, p257, vf12_24, t241_24, g254, p254, qa229, qo229, qa220, qo220, vf12_64, vf12_42, t241_42, g260, p260, qa218, qo218, qa226, qo226, vf12_66, vf12_63, t241_63, g281, p281, qa219, qo219, List.getElem?_cons_zero, List.getElem?_cons_succ, List.length_cons, List.length_nil, ag_nx, ag_dn, ag_no, ag_if, jbr1, jbr2, jc1, jc2, jnul, jld, jsto, jstoL, jst1, jst2, jkill, jinc, jbI, jbL, jbS, juI, jl2i, jcmp, jisR, jisI, jisL, jret, jretv, jfits, jdup, jdup2, jpop, jmm, jcat, Value.category, jinv, jrcv, jthr, jhd, jput, jget, jlen, jald, jast, jaast, jgI, jgL, jgB, jtab, jlku, jacp, vf20, vf21, vf22, vf23, vf24, u2_s, u2_k, u2_i, uc_s, uc_k, uc_c, u2_c, LI0, LI1, LI2, LI3, LI4, LI5, LI6, LI7, LI8, LI9, LI10, LI11, LI12, LI13, LI14, LI15, LI16, LI17, LI18, LI19, LI20, LI21, LI22, LI23, LI24, LI25, LI26, LI27, LI28, LI29, LI30, LI31, LI32, LI33, LI34, LI35, LI36, LI37, LI40, LI42, LI43, LI45, LI48, LI60, LI61, LI64, LI80, LI300, LI400, LI1000, LI2000, LI2001, LI2047, LI2048, LI100000, LI1000000, LM, nI_clamp, nI_pos', nI_lt, nI_nlt, nI_le, nI_ge, nI_ne, nI_add, nI_sub, mI_lt, mI_le, mI_nlt, mI_nle, mI_ne, mI_ne', mI_nem, n8, m8, n4, m4, h258', h22, hc, e3]
    · obtain ⟨w, hwl, hw2⟩ : ∃ w : Nat, (w = 18 ∨ w = 19 ∨ w = 20 ∨ w = 21) ∧ N 254 c = nI w := by
        rcases hw with h | h | h | h | h
        · exact absurd h h22
        · exact ⟨18, by omega, h⟩
        · exact ⟨19, by omega, h⟩
        · exact ⟨20, by omega, h⟩
        · exact ⟨21, by omega, h⟩
      have hgo : aGoal N W k c = some (aSlot W (idOf a (nI w))) := by
        unfold aGoal
        rw [if_neg hneg, if_neg h22, hat, hw2]
      have e229 := r229 (d := d + 1 + ED) (A := A) (b := b) (h := h) (X := X) (J := J) (R := R) (n := n) (I := I) (k := k) (x := nI w) k8
      have hid : (if nI w = 19 then I 260 k else if nI w = 18 then I 264 k else if nI w = 20 then I 263 k else I 265 k) = idOf a (nI w) := by
        obtain ⟨i0, _, _, i3, i4, i5⟩ := iR_01 hA
        unfold idOf
        rw [i0, i3, i4, i5]
      rw [hid] at e229
      have e220 := rSlot (d := d + 1 + ED) (A := A) (b := b) (h := h) (X := X) (J := J) (R := R) (n := n) (x := idOf a (nI w)) hW
      obtain ⟨I3, e3, w3, f3⟩ := rSnd3 (d := d + 1200) (A := A) (b := b) (h := h) (X := X) (J := J) (R := R) (n := n) (c := c) (v := v) (x := N 252 c) (to := aSlot W (idOf a (nI w))) (o := false) (c6 := none) hj hpl hW ok hk hc (fun j hj' => (List.findIdx?_eq_some_iff_getElem.mp hj').1) (Or.inr ⟨rfl, Or.inr ⟨h258, w, by omega, hw2⟩⟩)
      rw [← hd2] at e3
      rw [hgo]
      refine ⟨I3, ?_, w3, f3⟩
      rw [s1, r231_36]
      rw [show d + 1 + ED + 1 = d + 2 + ED by omega] at e229 e220
      simp (disch := omega) [r231_0, r231_1, r231_4, r231_5, r231_6, r231_9, r231_10, r231_13, r231_14, r231_15, r231_16, r231_19, r231_20, r231_21, r231_24, r231_25, r231_26, r231_29, r231_30, r231_31, r231_33, r231_34, r231_37, r231_40, r231_41, r231_42, r231_45, r231_46, r231_49, r231_50, r231_51, r231_53, r231_55, r231_58, r231_59, r231_62, r231_64, r231_65, r231_66, r231_69, r231_70, r231_71, r231_74, r231_76, r231_78, r231_81, r231_84, r231_87, r231_88, r231_91, r231_92, r231_93, r231_95, r231_98, r231_99, r231_100, r231_101, r231_102, r231_105, r231_106, r231_107, r231_110, r231_113, r231_116, r231_119, r231_120, r231_121, r231_124, r231_125, r231_128, r231_129, r231_130, r231_132, r231_135, r231_136, r231_139, r231_140, r231_142, r231_143, r231_146, r231_148, r231_149, r231_150, r231_151, r231_154, r231_155, r231_156, r231_158, r231_159, r231_160, r231_163, r231_164, r231_165, r231_167, r231_170, r231_172, r231_175, r231_177, r231_180, r231_181, r231_184, r231_185, r231_188, r231_190, r231_191, r231_194, r231_196, r231_199, r231_201, r231_204, r231_205, r231_207, r231_209, r231_210, r231_211, r231_214, r231_215, r231_216, r231_217, r231_220, r231_221, r231_222, r231_225, r231_228, r231_229, r231_230, r231_233, r231_236, r231_238, r231_241, r231_244, r231_245, r231_248, r231_250, r231_251, r231_252, r231_253, r231_254, r231_257, r231_258, r231_259, r231_261, r231_262, r231_265, g241, vf12_23, t241_23, g253, p253, qa228, qo228, vf12_22, t241_22, g252, p252, vf12_28, t241_28, g258, p258, vf12_36, vf12_43, t241_43, g261, p261, vf12_27, t241_27, g257, p257, vf12_24, t241_24, g254, p254, qa229, qo229, qa220, qo220, vf12_64, vf12_42, t241_42, g260, p260, qa218, qo218, qa226, qo226, vf12_66, vf12_63, t241_63, g281, p281, qa219, qo219, List.getElem?_cons_zero, List.getElem?_cons_succ, List.length_cons, List.length_nil, ag_nx, ag_dn, ag_no, ag_if, jbr1, jbr2, jc1, jc2, jnul, jld, jsto, jstoL, jst1, jst2, jkill, jinc, jbI, jbL, jbS, juI, jl2i, jcmp, jisR, jisI, jisL, jret, jretv, jfits, jdup, jdup2, jpop, jmm, jcat, Value.category, jinv, jrcv, jthr, jhd, jput, jget, jlen, jald, jast, jaast, jgI, jgL, jgB, jtab, jlku, jacp, vf20, vf21, vf22, vf23, vf24, u2_s, u2_k, u2_i, uc_s, uc_k, uc_c, u2_c, LI0, LI1, LI2, LI3, LI4, LI5, LI6, LI7, LI8, LI9, LI10, LI11, LI12, LI13, LI14, LI15, LI16, LI17, LI18, LI19, LI20, LI21, LI22, LI23, LI24, LI25, LI26, LI27, LI28, LI29, LI30, LI31, LI32, LI33, LI34, LI35, LI36, LI37, LI40, LI42, LI43, LI45, LI48, LI60, LI61, LI64, LI80, LI300, LI400, LI1000, LI2000, LI2001, LI2047, LI2048, LI100000, LI1000000, LM, nI_clamp, nI_pos', nI_lt, nI_nlt, nI_le, nI_ge, nI_ne, nI_add, nI_sub, mI_lt, mI_le, mI_nlt, mI_nle, mI_ne, mI_ne', mI_nem, n8, m8, n4, m4, h258', hw2, hc, e229, e220, e3]
theorem iR_varset {j : Nat} {v : Int32} (hA : iR rN I k a) (hj : j < a.2.1.length) : iR rN (u2 I 266 (6 * k + j) v) k (a.1, a.2.1.set j v, a.2.2) := by
  obtain ⟨h1, h2, h3, h4, h5, h6⟩ := hA
  refine ⟨?_, ?_, ?_, ?_, ?_, ?_⟩
  · rw [h1]
    simp (disch := omega) [u2_k]
  · constructor
    · show a.2.1.set j v = rl _ (a.2.1.set j v).length
      rw [List.length_set, rl_set (f := fun j => I 266 (6 * k + j)) hj (fun i hi hne => by rw [u2_i (by omega)]), ← h2.1, u2_s]
    · intro i hi hi6
      have hi' : (a.2.1.set j v).length ≤ i := hi
      rw [List.length_set] at hi'
      rw [u2_i (by omega)]
      exact h2.2 i hi' hi6
  · rw [u2_k (by omega)]; exact h3
  · refine h4.trans (rl_congr fun j hj => ?_)
    simp (disch := omega) [u2_k]
  · rw [u2_k (by omega)]; exact h5
  · refine h6.trans (rl_congr fun j hj => ?_)
    simp (disch := omega) [u2_k]
theorem onR_v {j : Nat} {v : Int32} (hj : j < 6) : onR k I (u2 I 266 (6 * k + j) v) :=
  ⟨fun c' i h' => u2_k (by omega), fun c' j a1 a2 a3 => u2_k (by omega), fun j' a1 => u2_i (by omega), fun c' j a1 a2 a3 => u2_k (by omega), fun c' j a1 a2 a3 => u2_k (by omega)⟩
theorem iR_state {v : Int32} (hA : iR rN I k a) : iR rN (u2 I 262 k v) k ((a.1.1, a.1.2.1, v, a.1.2.2.2), a.2) := by
  obtain ⟨h1, h2, h3, h4, h5, h6⟩ := hA
  refine ⟨?_, ?_, ?_, ?_, ?_, ?_⟩
  · rw [h1]
    simp (disch := omega) [u2_k, u2_s]
  · refine ⟨h2.1.trans (rl_congr fun j hj => ?_), fun j hj hj6 => Eq.trans ?_ (h2.2 j hj hj6)⟩
    · simp (disch := omega) [u2_k]
    · simp (disch := omega) [u2_k]
  · rw [u2_k (by omega)]; exact h3
  · refine h4.trans (rl_congr fun j hj => ?_)
    simp (disch := omega) [u2_k]
  · rw [u2_k (by omega)]; exact h5
  · refine h6.trans (rl_congr fun j hj => ?_)
    simp (disch := omega) [u2_k]
end RAC
