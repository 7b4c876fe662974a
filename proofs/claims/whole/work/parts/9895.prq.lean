/-! the reference: what a turn would be, the whole of it -/
section RPM
variable {A : Nat → Nat} {d b n : Nat} {h : Nat → Option jC} {X : jXX} {I : Nat → Nat → Int32} {J : Nat → Nat → Int64} {R : Nat → Nat → Nat} {k : Nat} {rN : Int32 → Nm} {l : Bool} {W : aW Nm} {a : aI Nm} {N : Nat → Nat → Int32} {M np p s : Nat}
theorem onP_trans {I I1 I2 : Nat → Nat → Int32} (h : onP I I1) (h2 : onP I1 I2) : onP I I2 := ⟨fun c i hc => (h2.1 c i hc).trans (h.1 c i hc), fun i hi => (h2.2 i hi).trans (h.2 i hi)⟩
theorem onP_u {i : Nat} {v : Int32} (hi : 69 ≤ i ∧ i ≤ 71) : onP I (u2 I 241 i v) := ⟨fun c j hc => u2_k hc, fun j hj => u2_i (by omega)⟩
theorem iR_onP {I' : Nat → Nat → Int32} (ho : onP I I') (hA : iR rN I k a) : iR rN I' k a :=
  iR_fr (fun c h1 h2 => ho.1 c _ (by omega)) (fun j => Or.inl (ho.1 266 _ (by omega))) (fun c j h1 h2 => Or.inl (ho.1 c _ (by omega))) (fun c j h1 h2 => Or.inl (ho.1 c _ (by omega))) hA
theorem plR_onP {I' : Nat → Nat → Int32} (ho : onP I I') (h : plR X I N M) : plR X I' N M := plR_fr (fun c i h1 h2 => ho.1 c i (by omega)) h
theorem wR_onP {I' : Nat → Nat → Int32} (ho : onP I I') (h : wR rN I l W) : wR rN I' l W := ⟨wB_fr (fun c i h1 h2 => ho.1 c i (by omega)) (ho.2 36 (by omega)) h.1, tR_fr (fun c i h1 h2 => ho.1 c i (by omega)) (fun i h1 h2 => ho.2 i (by omega)) h.2⟩
theorem rPlan {now : Int32} (hj : ∀ x y, rN x = rN y → x = y) (hpl : plR X I N M) (hvN : vN N M np) (hA : iR rN I k a) (k8 : k < 8) (hok : okI N np a) (hn : I 241 38 = now) :
    ∃ I', jcall A jcode (d + 2 + ED) 238 [.ref (b + 241), .int (nI k)] (jH h b X I J R n) = some (.inl none, jH h b X I' J R n) ∧ onP I I' ∧ I' 241 69 = (aPlan rN N now a).1 ∧ I' 241 70 = inO (aPlan rN N now a).2.1 ∧ I' 241 71 = ndO (cls N (ix a.1.2.1) (ix a.1.2.2.1)) (aPlan rN N now a).2.2 := by
  obtain ⟨p, hp, hpr, hv, hst, hQ, hT⟩ := hok
  have n6 := hvN.1
  have hM := hvN.2.2.1
  have vp := hvN.2.2.2 p hp
  have hpx : ix a.1.2.1 = p := by rw [hpr]; exact nI_clamp (by omega)
  obtain ⟨I1, hI1⟩ : ∃ I1, I1 = u2 (u2 (u2 I 241 70 (mI 1)) 241 71 (mI 1)) 241 69 (nI 1) := ⟨_, rfl⟩
  have o1 : onP I I1 := by rw [hI1]; exact onP_trans (onP_trans (onP_u (by omega)) (onP_u (by omega))) (onP_u (by omega))
  have t69 : I1 241 69 = nI 1 := by rw [hI1, u2_s]
  have t70 : I1 241 70 = mI 1 := by rw [hI1, u2_i (by omega), u2_i (by omega), u2_s]
  have t71 : I1 241 71 = mI 1 := by rw [hI1, u2_i (by omega), u2_s]
  have hA1 := iR_onP o1 hA
  have pl1 := plR_onP o1 hpl
  obtain ⟨_, i1, i2, _⟩ := iR_01 hA
  have hd : d + 1199 + 2 = d + 1 + ED := by unfold ED; omega
  have hd1 : d + 2 + ED = d + 1 + ED + 1 := by omega
  have z2 : I 262 k = a.1.2.2.1 := i2
  rw [hd1]
  rcases hst with hst | ⟨s, hs, hst⟩
  · have hpa : aPlan rN N now a = (1, none, none) := by
      unfold aPlan
      rw [if_pos (by rw [hst]; decide)]
    have z3 : I 262 k = mI 1 := z2.trans hst
    refine ⟨I1, ?_, o1, ?_, ?_, ?_⟩
    · rw [hI1]
      simp (disch := omega) [je238, r238_0, r238_1, r238_2, r238_5, r238_6, r238_7, r238_10, r238_11, r238_12, r238_15, r238_16, r238_19, r238_20, r238_21, r238_24, r238_25, r238_26, r238_27, r238_28, r238_29, r238_32, r238_33, r238_34, r238_37, r238_38, r238_39, r238_41, r238_42, r238_45, r238_46, r238_48, r238_49, r238_50, r238_51, r238_52, r238_55, r238_56, r238_57, r238_60, r238_63, r238_64, r238_65, r238_68, r238_69, r238_70, r238_73, r238_74, r238_75, r238_78, r238_79, r238_82, r238_85, r238_86, r238_87, r238_88, r238_89, r238_92, r238_93, r238_94, r238_97, r238_98, r238_101, r238_102, r238_104, r238_105, r238_106, r238_107, r238_108, r238_109, r238_110, r238_111, r238_113, r238_114, r238_117, r238_120, r238_123, r238_124, r238_125, r238_128, r238_129, r238_130, r238_131, r238_133, r238_134, r238_137, r238_140, r238_141, r238_142, r238_145, r238_146, r238_149, r238_152, r238_153, r238_154, r238_155, r238_156, r238_158, r238_159, r238_162, r238_165, r238_166, r238_167, r238_170, r238_173, r238_174, r238_177, r238_178, r238_181, r238_182, r238_185, r238_188, r238_189, r238_191, r238_194, r238_195, r238_198, r238_199, r238_200, r238_203, r238_204, r238_205, r238_206, r238_209, r238_210, r238_211, r238_214, r238_215, r238_216, r238_217, r238_220, r238_221, r238_224, r238_225, r238_226, r238_228, r238_231, r238_232, r238_233, r238_234, r238_237, r238_238, r238_239, r238_242, r238_245, r238_248, r238_249, r238_250, r238_253, r238_254, r238_255, r238_258, r238_259, r238_260, r238_261, r238_264, r238_265, r238_266, r238_269, g241, p241_70, ty12_70, p241_71, ty12_71, p241_69, ty12_69, vf12_44, t241_44, g262, vf12_49, t241_49, g267, vf12_50, t241_50, g268, qa237, qo237, vf12_71, vf12_23, t241_23, g253, vf12_43, t241_43, g261, qa217, qo217, vf12_21, t241_21, g251, vf12_22, t241_22, g252, qa228, qo228, vf12_25, t241_25, g255, List.getElem?_cons_zero, List.getElem?_cons_succ, List.length_cons, List.length_nil, ag_nx, ag_dn, ag_no, ag_if, jbr1, jbr2, jc1, jc2, jnul, jld, jsto, jstoL, jst1, jst2, jkill, jinc, jbI, jbL, jbS, juI, jl2i, jcmp, jisR, jisI, jisL, jret, jretv, jfits, jdup, jdup2, jpop, jmm, jcat, Value.category, jinv, jrcv, jthr, jhd, jput, jget, jlen, jald, jast, jaast, jgI, jgL, jgB, jtab, jlku, jacp, vf20, vf21, vf22, vf23, vf24, u2_s, u2_k, u2_i, uc_s, uc_k, uc_c, u2_c, LI0, LI1, LI2, LI3, LI4, LI5, LI6, LI7, LI8, LI9, LI10, LI11, LI12, LI13, LI14, LI15, LI16, LI17, LI18, LI19, LI20, LI21, LI22, LI23, LI24, LI25, LI26, LI27, LI28, LI29, LI30, LI31, LI32, LI33, LI34, LI35, LI36, LI37, LI40, LI42, LI43, LI45, LI48, LI60, LI61, LI64, LI80, LI300, LI400, LI1000, LI2000, LI2001, LI2047, LI2048, LI100000, LI1000000, LM, nI_clamp, nI_pos', nI_lt, nI_nlt, nI_le, nI_ge, nI_ne, nI_add, nI_sub, mI_lt, mI_le, mI_nlt, mI_nle, mI_ne, mI_ne', mI_nem, z3, k8]
    · rw [hpa, t69]; rfl
    · rw [hpa, t70]; rfl
    · rw [hpa, t71]; rfl
  · have s8 := vp.2.2.2.2.2.2.1
    have hsx : ix a.1.2.2.1 = s := by rw [hst]; exact nI_clamp (by omega)
    have hnn : ¬ a.1.2.2.1 < 0 := by rw [hst]; exact nI_pos (by omega)
    have z3 : I 262 k = nI s := z2.trans hst
    have hq1 : I1 267 k = nI a.2.2.1.length := hA1.2.2.1
    have hnm : ∀ j q, a.2.2.1[j]? = some q → rN (I1 268 (8 * k + (0 + j))) = q.1 := by
      intro j q hq
      rw [hA1.2.2.2.1] at hq
      rw [Nat.zero_add]
      rcases Nat.lt_or_ge j a.2.2.1.length with hj' | hj'
      · rw [rl_at hj'] at hq
        cases hq
        rfl
      · rw [rl_no hj'] at hq
        cases hq
    obtain ⟨pa, pb⟩ := r238a (d := d + 1199) (A := A) (b := b) (h := h) (X := X) (J := J) (R := R) (n := n) hj pl1 hvN hA1 k8 hp hpr hs hst hq1 hQ a.2.2.1 0 none (by omega) hnm
    rw [hpx, hsx]
    have en : ∀ r, M238 A (d + 1 + ED) 27 [some (.ref (b + 241)), some (.int (nI k)), some (.int (nI 0)), none] [] (jH h b X I1 J R n) = r → jcall A jcode (d + 1 + ED + 1) 238 [.ref (b + 241), .int (nI k)] (jH h b X I J R n) = r := by
      intro r hr
      rw [hI1] at hr
      simp (disch := omega) [je238, r238_0, r238_1, r238_2, r238_5, r238_6, r238_7, r238_10, r238_11, r238_12, r238_15, r238_16, r238_19, r238_20, r238_21, r238_25, r238_26, g241, p241_70, ty12_70, p241_71, ty12_71, p241_69, ty12_69, vf12_44, t241_44, g262, vf12_49, t241_49, g267, vf12_50, t241_50, g268, qa237, qo237, vf12_71, vf12_23, t241_23, g253, vf12_43, t241_43, g261, qa217, qo217, vf12_21, t241_21, g251, vf12_22, t241_22, g252, qa228, qo228, vf12_25, t241_25, g255, List.getElem?_cons_zero, List.getElem?_cons_succ, List.length_cons, List.length_nil, ag_nx, ag_dn, ag_no, ag_if, jbr1, jbr2, jc1, jc2, jnul, jld, jsto, jstoL, jst1, jst2, jkill, jinc, jbI, jbL, jbS, juI, jl2i, jcmp, jisR, jisI, jisL, jret, jretv, jfits, jdup, jdup2, jpop, jmm, jcat, Value.category, jinv, jrcv, jthr, jhd, jput, jget, jlen, jald, jast, jaast, jgI, jgL, jgB, jtab, jlku, jacp, vf20, vf21, vf22, vf23, vf24, u2_s, u2_k, u2_i, uc_s, uc_k, uc_c, u2_c, LI0, LI1, LI2, LI3, LI4, LI5, LI6, LI7, LI8, LI9, LI10, LI11, LI12, LI13, LI14, LI15, LI16, LI17, LI18, LI19, LI20, LI21, LI22, LI23, LI24, LI25, LI26, LI27, LI28, LI29, LI30, LI31, LI32, LI33, LI34, LI35, LI36, LI37, LI40, LI42, LI43, LI45, LI48, LI60, LI61, LI64, LI80, LI300, LI400, LI1000, LI2000, LI2001, LI2047, LI2048, LI100000, LI1000000, LM, nI_clamp, nI_pos', nI_lt, nI_nlt, nI_le, nI_ge, nI_ne, nI_add, nI_sub, mI_lt, mI_le, mI_nlt, mI_nle, mI_ne, mI_ne', mI_nem, z3, k8, hr]
    rw [hd] at pa
    rw [hd] at pb
    cases hpri : aPri rN N p s a.2.2.1 0 with
    | some kc =>
      obtain ⟨i, c⟩ := kc
      have hpa : aPlan rN N now a = (2, some i, some c) := by
        unfold aPlan
        rw [if_neg hnn, hpx, hsx, hpri]
      refine ⟨_, en _ (pa i c hpri), onP_trans (onP_trans (onP_trans o1 (onP_u (by omega))) (onP_u (by omega))) (onP_u (by omega)), ?_, ?_, ?_⟩
      · rw [hpa, u2_i (by omega), u2_i (by omega), u2_s]; rfl
      · rw [hpa, u2_i (by omega), u2_s]; rfl
      · rw [hpa, u2_s]; rfl
    | none =>
      obtain ⟨c3, eb⟩ := pb hpri
      obtain ⟨sa, sb⟩ := r238b (d := d + 1199) (A := A) (b := b) (h := h) (X := X) (J := J) (R := R) (n := n) hj pl1 hvN hA1 k8 hp hpr hs hst hq1 hQ a.2.2.1 0 c3 (by omega) hnm
      rw [hd] at sa
      rw [hd] at sb
      have e85 : M238 A (d + 1 + ED) 85 [some (.ref (b + 241)), some (.int (nI k)), some (.int (nI a.2.2.1.length)), c3] [] (jH h b X I1 J R n) = M238 A (d + 1 + ED) 87 [some (.ref (b + 241)), some (.int (nI k)), some (.int (nI 0)), c3] [] (jH h b X I1 J R n) := by
        rw [r238_85]
        simp (disch := omega) [r238_86, List.getElem?_cons_zero, List.getElem?_cons_succ, List.length_cons, List.length_nil, ag_nx, ag_dn, ag_no, ag_if, jbr1, jbr2, jc1, jc2, jnul, jld, jsto, jstoL, jst1, jst2, jkill, jinc, jbI, jbL, jbS, juI, jl2i, jcmp, jisR, jisI, jisL, jret, jretv, jfits, jdup, jdup2, jpop, jmm, jcat, Value.category, jinv, jrcv, jthr, jhd, jput, jget, jlen, jald, jast, jaast, jgI, jgL, jgB, jtab, jlku, jacp, vf20, vf21, vf22, vf23, vf24, u2_s, u2_k, u2_i, uc_s, uc_k, uc_c, u2_c, LI0, LI1, LI2, LI3, LI4, LI5, LI6, LI7, LI8, LI9, LI10, LI11, LI12, LI13, LI14, LI15, LI16, LI17, LI18, LI19, LI20, LI21, LI22, LI23, LI24, LI25, LI26, LI27, LI28, LI29, LI30, LI31, LI32, LI33, LI34, LI35, LI36, LI37, LI40, LI42, LI43, LI45, LI48, LI60, LI61, LI64, LI80, LI300, LI400, LI1000, LI2000, LI2001, LI2047, LI2048, LI100000, LI1000000, LM, nI_clamp, nI_pos', nI_lt, nI_nlt, nI_le, nI_ge, nI_ne, nI_add, nI_sub, mI_lt, mI_le, mI_nlt, mI_nle, mI_ne, mI_ne', mI_nem]
      cases hsig : aSig rN N p s a.2.2.1 0 with
      | some kq =>
        obtain ⟨i, q⟩ := kq
        obtain ⟨hiQ, hnq, e123⟩ := sa i q hsig
        have tot := fun r hr => en r ((eb.trans (e85.trans e123)).trans hr)
        have oa := onP_trans o1 (onP_u (I := I1) (i := 70) (v := nI i) (by omega))
        have ef := rFcl (d := d + 1199) (A := A) (b := b) (h := h) (X := X) (J := J) (R := R) (n := n) (kd := 33) (x := I1 268 (8 * k + i)) hj (plR_onP oa hpl) hvN (iR_onP oa hA) k8 hp hpr hs hst (by omega)
        rw [hnq, show nI 33 = (33 : Int32) by decide, hd] at ef
        cases h33 : fcl rN N p s 33 q.1 with
        | some c =>
          have hpa : aPlan rN N now a = (3, some i, some c) := by
            unfold aPlan
            rw [if_neg hnn, hpx, hsx, hpri]
            simp only
            rw [hsig]
            simp only
            rw [h33]
          rw [h33] at ef
          obtain ⟨y, hy⟩ : ∃ y, (sts N p)[s]? = some y := ⟨_, List.getElem?_eq_getElem hs⟩
          obtain ⟨y1, y2, y3, y4⟩ := vp.2.2.2.2.2.2.2.2 s y hy
          have hcm : (cls N p s).getD c 0 < M := getD_lt (by rw [cls_at hy]; exact chl_lt (by omega) 9 _ y2) (fcl_lt h33)
          rw [hpa]
          simp only [ndO] at ef ⊢
          simp only [LI0, LI1, LI2, LI3, LI4, LI5, LI6, LI7, LI8, LI9, LI10, LI11, LI12, LI13, LI14, LI15, LI16, LI17, LI18, LI19, LI20, LI21, LI22, LI23, LI24, LI25, LI26, LI27, LI28, LI29, LI30, LI31, LI32, LI33, LI34, LI35, LI36, LI37, LI40, LI42, LI43, LI45, LI48, LI60, LI61, LI64, LI80, LI300, LI400, LI1000, LI2000, LI2001, LI2047, LI2048, LI100000, LI1000000, LM] at ef
          generalize (cls N p s).getD c 0 = cn at ef hcm ⊢
          refine ⟨u2 (u2 (u2 I1 241 70 (nI i)) 241 71 (nI cn)) 241 69 (nI 3), tot _ ?_, onP_trans (onP_trans oa (onP_u (by omega))) (onP_u (by omega)), ?_, ?_, ?_⟩
          · rw [r238_123]
            simp (disch := omega) [r238_0, r238_1, r238_2, r238_5, r238_6, r238_7, r238_10, r238_11, r238_12, r238_15, r238_16, r238_19, r238_20, r238_21, r238_24, r238_25, r238_26, r238_27, r238_28, r238_29, r238_32, r238_33, r238_34, r238_37, r238_38, r238_39, r238_41, r238_42, r238_45, r238_46, r238_48, r238_49, r238_50, r238_51, r238_52, r238_55, r238_56, r238_57, r238_60, r238_63, r238_64, r238_65, r238_68, r238_69, r238_70, r238_73, r238_74, r238_75, r238_78, r238_79, r238_82, r238_85, r238_86, r238_87, r238_88, r238_89, r238_92, r238_93, r238_94, r238_97, r238_98, r238_101, r238_102, r238_104, r238_105, r238_106, r238_107, r238_108, r238_109, r238_110, r238_111, r238_113, r238_114, r238_117, r238_120, r238_124, r238_125, r238_128, r238_129, r238_130, r238_131, r238_133, r238_134, r238_137, r238_140, r238_141, r238_142, r238_145, r238_146, r238_149, r238_152, r238_153, r238_154, r238_155, r238_156, r238_158, r238_159, r238_162, r238_165, r238_166, r238_167, r238_170, r238_173, r238_174, r238_177, r238_178, r238_181, r238_182, r238_185, r238_188, r238_189, r238_191, r238_194, r238_195, r238_198, r238_199, r238_200, r238_203, r238_204, r238_205, r238_206, r238_209, r238_210, r238_211, r238_214, r238_215, r238_216, r238_217, r238_220, r238_221, r238_224, r238_225, r238_226, r238_228, r238_231, r238_232, r238_233, r238_234, r238_237, r238_238, r238_239, r238_242, r238_245, r238_248, r238_249, r238_250, r238_253, r238_254, r238_255, r238_258, r238_259, r238_260, r238_261, r238_264, r238_265, r238_266, r238_269, g241, p241_70, ty12_70, p241_71, ty12_71, p241_69, ty12_69, vf12_44, t241_44, g262, vf12_49, t241_49, g267, vf12_50, t241_50, g268, qa237, qo237, vf12_71, vf12_23, t241_23, g253, vf12_43, t241_43, g261, qa217, qo217, vf12_21, t241_21, g251, vf12_22, t241_22, g252, qa228, qo228, vf12_25, t241_25, g255, List.getElem?_cons_zero, List.getElem?_cons_succ, List.length_cons, List.length_nil, ag_nx, ag_dn, ag_no, ag_if, jbr1, jbr2, jc1, jc2, jnul, jld, jsto, jstoL, jst1, jst2, jkill, jinc, jbI, jbL, jbS, juI, jl2i, jcmp, jisR, jisI, jisL, jret, jretv, jfits, jdup, jdup2, jpop, jmm, jcat, Value.category, jinv, jrcv, jthr, jhd, jput, jget, jlen, jald, jast, jaast, jgI, jgL, jgB, jtab, jlku, jacp, vf20, vf21, vf22, vf23, vf24, u2_s, u2_k, u2_i, uc_s, uc_k, uc_c, u2_c, LI0, LI1, LI2, LI3, LI4, LI5, LI6, LI7, LI8, LI9, LI10, LI11, LI12, LI13, LI14, LI15, LI16, LI17, LI18, LI19, LI20, LI21, LI22, LI23, LI24, LI25, LI26, LI27, LI28, LI29, LI30, LI31, LI32, LI33, LI34, LI35, LI36, LI37, LI40, LI42, LI43, LI45, LI48, LI60, LI61, LI64, LI80, LI300, LI400, LI1000, LI2000, LI2001, LI2047, LI2048, LI100000, LI1000000, LM, nI_clamp, nI_pos', nI_lt, nI_nlt, nI_le, nI_ge, nI_ne, nI_add, nI_sub, mI_lt, mI_le, mI_nlt, mI_nle, mI_ne, mI_ne', mI_nem, ef]
          · rw [u2_s]; rfl
          · rw [u2_i (by omega), u2_i (by omega), u2_s]; rfl
          · rw [u2_i (by omega), u2_s]
        | none =>
          rw [h33] at ef
          simp only [ndO] at ef
          simp only [LI0, LI1, LI2, LI3, LI4, LI5, LI6, LI7, LI8, LI9, LI10, LI11, LI12, LI13, LI14, LI15, LI16, LI17, LI18, LI19, LI20, LI21, LI22, LI23, LI24, LI25, LI26, LI27, LI28, LI29, LI30, LI31, LI32, LI33, LI34, LI35, LI36, LI37, LI40, LI42, LI43, LI45, LI48, LI60, LI61, LI64, LI80, LI300, LI400, LI1000, LI2000, LI2001, LI2047, LI2048, LI100000, LI1000000, LM] at ef
          have ob := onP_trans (onP_trans oa (onP_u (I := u2 I1 241 70 (nI i)) (i := 71) (v := mI 1) (by omega))) (onP_u (I := u2 (u2 I1 241 70 (nI i)) 241 71 (mI 1)) (i := 69) (v := nI 3) (by omega))
          have eg := rFcl (d := d + 1199) (A := A) (b := b) (h := h) (X := X) (J := J) (R := R) (n := n) (kd := 36) (x := I1 268 (8 * k + i)) hj (plR_onP ob hpl) hvN (iR_onP ob hA) k8 hp hpr hs hst (by omega)
          rw [hnq, show nI 36 = (36 : Int32) by decide, hd] at eg
          cases h36 : fcl rN N p s 36 q.1 with
          | some c =>
            have hpa : aPlan rN N now a = (4, some i, some c) := by
              unfold aPlan
              rw [if_neg hnn, hpx, hsx, hpri]
              simp only
              rw [hsig]
              simp only
              rw [h33]
              simp only
              rw [h36]
            rw [h36] at eg
            obtain ⟨y, hy⟩ : ∃ y, (sts N p)[s]? = some y := ⟨_, List.getElem?_eq_getElem hs⟩
            obtain ⟨y1, y2, y3, y4⟩ := vp.2.2.2.2.2.2.2.2 s y hy
            have hcm : (cls N p s).getD c 0 < M := getD_lt (by rw [cls_at hy]; exact chl_lt (by omega) 9 _ y2) (fcl_lt h36)
            rw [hpa]
            simp only [ndO] at eg ⊢
            simp only [LI0, LI1, LI2, LI3, LI4, LI5, LI6, LI7, LI8, LI9, LI10, LI11, LI12, LI13, LI14, LI15, LI16, LI17, LI18, LI19, LI20, LI21, LI22, LI23, LI24, LI25, LI26, LI27, LI28, LI29, LI30, LI31, LI32, LI33, LI34, LI35, LI36, LI37, LI40, LI42, LI43, LI45, LI48, LI60, LI61, LI64, LI80, LI300, LI400, LI1000, LI2000, LI2001, LI2047, LI2048, LI100000, LI1000000, LM] at eg
            generalize (cls N p s).getD c 0 = cn at eg hcm ⊢
            refine ⟨u2 (u2 (u2 (u2 (u2 I1 241 70 (nI i)) 241 71 (mI 1)) 241 69 (nI 3)) 241 71 (nI cn)) 241 69 (nI 4), tot _ ?_, onP_trans (onP_trans ob (onP_u (by omega))) (onP_u (by omega)), ?_, ?_, ?_⟩
            · rw [r238_123]
              simp (disch := omega) [r238_0, r238_1, r238_2, r238_5, r238_6, r238_7, r238_10, r238_11, r238_12, r238_15, r238_16, r238_19, r238_20, r238_21, r238_24, r238_25, r238_26, r238_27, r238_28, r238_29, r238_32, r238_33, r238_34, r238_37, r238_38, r238_39, r238_41, r238_42, r238_45, r238_46, r238_48, r238_49, r238_50, r238_51, r238_52, r238_55, r238_56, r238_57, r238_60, r238_63, r238_64, r238_65, r238_68, r238_69, r238_70, r238_73, r238_74, r238_75, r238_78, r238_79, r238_82, r238_85, r238_86, r238_87, r238_88, r238_89, r238_92, r238_93, r238_94, r238_97, r238_98, r238_101, r238_102, r238_104, r238_105, r238_106, r238_107, r238_108, r238_109, r238_110, r238_111, r238_113, r238_114, r238_117, r238_120, r238_124, r238_125, r238_128, r238_129, r238_130, r238_131, r238_133, r238_134, r238_137, r238_140, r238_141, r238_142, r238_145, r238_146, r238_149, r238_152, r238_153, r238_154, r238_155, r238_156, r238_158, r238_159, r238_162, r238_165, r238_166, r238_167, r238_170, r238_173, r238_174, r238_177, r238_178, r238_181, r238_182, r238_185, r238_188, r238_189, r238_191, r238_194, r238_195, r238_198, r238_199, r238_200, r238_203, r238_204, r238_205, r238_206, r238_209, r238_210, r238_211, r238_214, r238_215, r238_216, r238_217, r238_220, r238_221, r238_224, r238_225, r238_226, r238_228, r238_231, r238_232, r238_233, r238_234, r238_237, r238_238, r238_239, r238_242, r238_245, r238_248, r238_249, r238_250, r238_253, r238_254, r238_255, r238_258, r238_259, r238_260, r238_261, r238_264, r238_265, r238_266, r238_269, g241, p241_70, ty12_70, p241_71, ty12_71, p241_69, ty12_69, vf12_44, t241_44, g262, vf12_49, t241_49, g267, vf12_50, t241_50, g268, qa237, qo237, vf12_71, vf12_23, t241_23, g253, vf12_43, t241_43, g261, qa217, qo217, vf12_21, t241_21, g251, vf12_22, t241_22, g252, qa228, qo228, vf12_25, t241_25, g255, List.getElem?_cons_zero, List.getElem?_cons_succ, List.length_cons, List.length_nil, ag_nx, ag_dn, ag_no, ag_if, jbr1, jbr2, jc1, jc2, jnul, jld, jsto, jstoL, jst1, jst2, jkill, jinc, jbI, jbL, jbS, juI, jl2i, jcmp, jisR, jisI, jisL, jret, jretv, jfits, jdup, jdup2, jpop, jmm, jcat, Value.category, jinv, jrcv, jthr, jhd, jput, jget, jlen, jald, jast, jaast, jgI, jgL, jgB, jtab, jlku, jacp, vf20, vf21, vf22, vf23, vf24, u2_s, u2_k, u2_i, uc_s, uc_k, uc_c, u2_c, LI0, LI1, LI2, LI3, LI4, LI5, LI6, LI7, LI8, LI9, LI10, LI11, LI12, LI13, LI14, LI15, LI16, LI17, LI18, LI19, LI20, LI21, LI22, LI23, LI24, LI25, LI26, LI27, LI28, LI29, LI30, LI31, LI32, LI33, LI34, LI35, LI36, LI37, LI40, LI42, LI43, LI45, LI48, LI60, LI61, LI64, LI80, LI300, LI400, LI1000, LI2000, LI2001, LI2047, LI2048, LI100000, LI1000000, LM, nI_clamp, nI_pos', nI_lt, nI_nlt, nI_le, nI_ge, nI_ne, nI_add, nI_sub, mI_lt, mI_le, mI_nlt, mI_nle, mI_ne, mI_ne', mI_nem, ef, eg]
            · rw [u2_s]; rfl
            · rw [u2_i (by omega), u2_i (by omega), u2_i (by omega), u2_i (by omega), u2_s]; rfl
            · rw [u2_i (by omega), u2_s]
          | none =>
            have hpa : aPlan rN N now a = (5, some i, none) := by
              unfold aPlan
              rw [if_neg hnn, hpx, hsx, hpri]
              simp only
              rw [hsig]
              simp only
              rw [h33]
              simp only
              rw [h36]
            rw [h36] at eg
            rw [hpa]
            simp only [ndO] at eg ⊢
            simp only [LI0, LI1, LI2, LI3, LI4, LI5, LI6, LI7, LI8, LI9, LI10, LI11, LI12, LI13, LI14, LI15, LI16, LI17, LI18, LI19, LI20, LI21, LI22, LI23, LI24, LI25, LI26, LI27, LI28, LI29, LI30, LI31, LI32, LI33, LI34, LI35, LI36, LI37, LI40, LI42, LI43, LI45, LI48, LI60, LI61, LI64, LI80, LI300, LI400, LI1000, LI2000, LI2001, LI2047, LI2048, LI100000, LI1000000, LM] at eg
            refine ⟨u2 (u2 (u2 (u2 (u2 I1 241 70 (nI i)) 241 71 (mI 1)) 241 69 (nI 3)) 241 71 (mI 1)) 241 69 (nI 5), tot _ ?_, onP_trans (onP_trans ob (onP_u (by omega))) (onP_u (by omega)), ?_, ?_, ?_⟩
            · rw [r238_123]
              simp (disch := omega) [r238_0, r238_1, r238_2, r238_5, r238_6, r238_7, r238_10, r238_11, r238_12, r238_15, r238_16, r238_19, r238_20, r238_21, r238_24, r238_25, r238_26, r238_27, r238_28, r238_29, r238_32, r238_33, r238_34, r238_37, r238_38, r238_39, r238_41, r238_42, r238_45, r238_46, r238_48, r238_49, r238_50, r238_51, r238_52, r238_55, r238_56, r238_57, r238_60, r238_63, r238_64, r238_65, r238_68, r238_69, r238_70, r238_73, r238_74, r238_75, r238_78, r238_79, r238_82, r238_85, r238_86, r238_87, r238_88, r238_89, r238_92, r238_93, r238_94, r238_97, r238_98, r238_101, r238_102, r238_104, r238_105, r238_106, r238_107, r238_108, r238_109, r238_110, r238_111, r238_113, r238_114, r238_117, r238_120, r238_124, r238_125, r238_128, r238_129, r238_130, r238_131, r238_133, r238_134, r238_137, r238_140, r238_141, r238_142, r238_145, r238_146, r238_149, r238_152, r238_153, r238_154, r238_155, r238_156, r238_158, r238_159, r238_162, r238_165, r238_166, r238_167, r238_170, r238_173, r238_174, r238_177, r238_178, r238_181, r238_182, r238_185, r238_188, r238_189, r238_191, r238_194, r238_195, r238_198, r238_199, r238_200, r238_203, r238_204, r238_205, r238_206, r238_209, r238_210, r238_211, r238_214, r238_215, r238_216, r238_217, r238_220, r238_221, r238_224, r238_225, r238_226, r238_228, r238_231, r238_232, r238_233, r238_234, r238_237, r238_238, r238_239, r238_242, r238_245, r238_248, r238_249, r238_250, r238_253, r238_254, r238_255, r238_258, r238_259, r238_260, r238_261, r238_264, r238_265, r238_266, r238_269, g241, p241_70, ty12_70, p241_71, ty12_71, p241_69, ty12_69, vf12_44, t241_44, g262, vf12_49, t241_49, g267, vf12_50, t241_50, g268, qa237, qo237, vf12_71, vf12_23, t241_23, g253, vf12_43, t241_43, g261, qa217, qo217, vf12_21, t241_21, g251, vf12_22, t241_22, g252, qa228, qo228, vf12_25, t241_25, g255, List.getElem?_cons_zero, List.getElem?_cons_succ, List.length_cons, List.length_nil, ag_nx, ag_dn, ag_no, ag_if, jbr1, jbr2, jc1, jc2, jnul, jld, jsto, jstoL, jst1, jst2, jkill, jinc, jbI, jbL, jbS, juI, jl2i, jcmp, jisR, jisI, jisL, jret, jretv, jfits, jdup, jdup2, jpop, jmm, jcat, Value.category, jinv, jrcv, jthr, jhd, jput, jget, jlen, jald, jast, jaast, jgI, jgL, jgB, jtab, jlku, jacp, vf20, vf21, vf22, vf23, vf24, u2_s, u2_k, u2_i, uc_s, uc_k, uc_c, u2_c, LI0, LI1, LI2, LI3, LI4, LI5, LI6, LI7, LI8, LI9, LI10, LI11, LI12, LI13, LI14, LI15, LI16, LI17, LI18, LI19, LI20, LI21, LI22, LI23, LI24, LI25, LI26, LI27, LI28, LI29, LI30, LI31, LI32, LI33, LI34, LI35, LI36, LI37, LI40, LI42, LI43, LI45, LI48, LI60, LI61, LI64, LI80, LI300, LI400, LI1000, LI2000, LI2001, LI2047, LI2048, LI100000, LI1000000, LM, nI_clamp, nI_pos', nI_lt, nI_nlt, nI_le, nI_ge, nI_ne, nI_add, nI_sub, mI_lt, mI_le, mI_nlt, mI_nle, mI_ne, mI_ne', mI_nem, ef, eg]
            · rw [u2_s]; rfl
            · rw [u2_i (by omega), u2_i (by omega), u2_i (by omega), u2_i (by omega), u2_s]; rfl
            · rw [u2_i (by omega), u2_s]; rfl
      | none =>
        obtain ⟨c3', e188⟩ := sb hsig
        have tot := fun r hr => en r ((eb.trans (e85.trans e188)).trans hr)
        have oa := onP_trans o1 (onP_u (I := I1) (i := 69) (v := nI 6) (by omega))
        obtain ⟨y, hy⟩ : ∃ y, (sts N p)[s]? = some y := ⟨_, List.getElem?_eq_getElem hs⟩
        obtain ⟨y1, y2, y3, y4⟩ := vp.2.2.2.2.2.2.2.2 s y hy
        have e217 := r217 (d := d + ED) (A := A) (b := b) (h := h) (X := X) (J := J) (R := R) (n := n) (plR_onP oa hpl) hvN hp hy
        have e216 := r238c (d := d) (A := A) (b := b) (h := h) (X := X) (J := J) (R := R) (n := n) (now := now) (plR_onP oa hpl) (iR_onP oa hA) k8 (by have := vp.2.2.2.2.1; omega) ((oa.2 38 (by omega)).trans hn) 9 (N 253 y) c3' y2 (fun c hc h37 => by
          rw [← cls_at hy] at hc
          obtain ⟨j, hj'⟩ := List.mem_iff_getElem?.mp hc
          rcases (y4 j c hj').2 with ⟨h, _⟩ | h | ⟨h, _⟩ | ⟨_, h, _⟩
          · rcases h with h | h <;> (rw [h] at h37; exact absurd h37 (by decide))
          · rw [h] at h37; exact absurd h37 (by decide)
          · rw [h] at h37; exact absurd h37 (by decide)
          · rw [hv]; exact h)
        rw [← cls_at hy] at e216
        have m3 := hpl.2.1 253 (by omega) (by omega)
        have p3 : (u2 I1 241 69 (nI 6)) 253 y = N 253 y := (plR_onP oa hpl).1 253 _ (by omega) (by omega) (by omega)
        rw [u2_k (by omega)] at p3
        have j1 : I1 261 k = nI p := (o1.1 _ _ (by omega)).trans (i1.trans hpr)
        have j2 : I1 262 k = nI s := (o1.1 _ _ (by omega)).trans z3
        rw [show d + ED + 1 = d + 1 + ED by omega] at e217
        have hmt : aPlan rN N now a = (match (cls N p s).findIdx? (wPr N now a) with | some c => (6, none, some c) | none => (0, none, none)) := by
          unfold aPlan
          rw [if_neg hnn, hpx, hsx, hpri]
          simp only
          rw [hsig]
          rfl
        have main : jcall A jcode (d + 1 + ED + 1) 238 [.ref (b + 241), .int (nI k)] (jH h b X I J R n) = some (.inl none, jH h b X (pSt (u2 I1 241 69 (nI 6)) (cls N p s) ((cls N p s).findIdx? (wPr N now a))) J R n) := by
          refine tot _ ?_
          rw [r238_188]
          simp (disch := omega) [r238_0, r238_1, r238_2, r238_5, r238_6, r238_7, r238_10, r238_11, r238_12, r238_15, r238_16, r238_19, r238_20, r238_21, r238_24, r238_25, r238_26, r238_27, r238_28, r238_29, r238_32, r238_33, r238_34, r238_37, r238_38, r238_39, r238_41, r238_42, r238_45, r238_46, r238_48, r238_49, r238_50, r238_51, r238_52, r238_55, r238_56, r238_57, r238_60, r238_63, r238_64, r238_65, r238_68, r238_69, r238_70, r238_73, r238_74, r238_75, r238_78, r238_79, r238_82, r238_85, r238_86, r238_87, r238_88, r238_89, r238_92, r238_93, r238_94, r238_97, r238_98, r238_101, r238_102, r238_104, r238_105, r238_106, r238_107, r238_108, r238_109, r238_110, r238_111, r238_113, r238_114, r238_117, r238_120, r238_123, r238_124, r238_125, r238_128, r238_129, r238_130, r238_131, r238_133, r238_134, r238_137, r238_140, r238_141, r238_142, r238_145, r238_146, r238_149, r238_152, r238_153, r238_154, r238_155, r238_156, r238_158, r238_159, r238_162, r238_165, r238_166, r238_167, r238_170, r238_173, r238_174, r238_177, r238_178, r238_181, r238_182, r238_185, r238_189, r238_191, r238_194, r238_195, r238_198, r238_199, r238_200, r238_203, r238_204, r238_205, r238_206, r238_209, r238_210, r238_211, r238_214, r238_215, r238_217, r238_220, r238_221, r238_224, r238_225, r238_226, r238_228, r238_231, r238_232, r238_233, r238_234, r238_237, r238_238, r238_239, r238_242, r238_245, r238_248, r238_249, r238_250, r238_253, r238_254, r238_255, r238_258, r238_259, r238_260, r238_261, r238_264, r238_265, r238_266, r238_269, g241, p241_70, ty12_70, p241_71, ty12_71, p241_69, ty12_69, vf12_44, t241_44, g262, vf12_49, t241_49, g267, vf12_50, t241_50, g268, qa237, qo237, vf12_71, vf12_23, t241_23, g253, vf12_43, t241_43, g261, qa217, qo217, vf12_21, t241_21, g251, vf12_22, t241_22, g252, qa228, qo228, vf12_25, t241_25, g255, List.getElem?_cons_zero, List.getElem?_cons_succ, List.length_cons, List.length_nil, ag_nx, ag_dn, ag_no, ag_if, jbr1, jbr2, jc1, jc2, jnul, jld, jsto, jstoL, jst1, jst2, jkill, jinc, jbI, jbL, jbS, juI, jl2i, jcmp, jisR, jisI, jisL, jret, jretv, jfits, jdup, jdup2, jpop, jmm, jcat, Value.category, jinv, jrcv, jthr, jhd, jput, jget, jlen, jald, jast, jaast, jgI, jgL, jgB, jtab, jlku, jacp, vf20, vf21, vf22, vf23, vf24, u2_s, u2_k, u2_i, uc_s, uc_k, uc_c, u2_c, LI0, LI1, LI2, LI3, LI4, LI5, LI6, LI7, LI8, LI9, LI10, LI11, LI12, LI13, LI14, LI15, LI16, LI17, LI18, LI19, LI20, LI21, LI22, LI23, LI24, LI25, LI26, LI27, LI28, LI29, LI30, LI31, LI32, LI33, LI34, LI35, LI36, LI37, LI40, LI42, LI43, LI45, LI48, LI60, LI61, LI64, LI80, LI300, LI400, LI1000, LI2000, LI2001, LI2047, LI2048, LI100000, LI1000000, LM, nI_clamp, nI_pos', nI_lt, nI_nlt, nI_le, nI_ge, nI_ne, nI_add, nI_sub, mI_lt, mI_le, mI_nlt, mI_nle, mI_ne, mI_ne', mI_nem, j1, j2, e217, p3, m3, e216, k8, y1]
        cases hwn : (cls N p s).findIdx? (wPr N now a) with
        | some c =>
          have hpa : aPlan rN N now a = (6, none, some c) := by rw [hmt, hwn]
          rw [hwn] at main
          refine ⟨_, main, onP_trans oa (onP_u (by omega)), ?_, ?_, ?_⟩
          · rw [hpa]
            show u2 _ 241 71 _ 241 69 = _
            rw [u2_i (by omega), u2_s]; rfl
          · rw [hpa]
            show u2 _ 241 71 _ 241 70 = _
            rw [u2_i (by omega), u2_i (by omega), t70]; rfl
          · rw [hpa]
            show u2 _ 241 71 _ 241 71 = _
            rw [u2_s]; rfl
        | none =>
          have hpa : aPlan rN N now a = (0, none, none) := by rw [hmt, hwn]
          rw [hwn] at main
          refine ⟨_, main, onP_trans oa (onP_u (by omega)), ?_, ?_, ?_⟩
          · rw [hpa]
            show u2 _ 241 69 _ 241 69 = _
            rw [u2_s]
          · rw [hpa]
            show u2 _ 241 69 _ 241 70 = _
            rw [u2_i (by omega), u2_i (by omega), t70]; rfl
          · rw [hpa]
            show u2 _ 241 69 _ 241 71 = _
            rw [u2_i (by omega), u2_i (by omega), t71]; rfl
end RPM
