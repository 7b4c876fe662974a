/-! the class chooses, in the words that both sides share -/
section CE
variable {A : Nat → Nat} {d b n w P p s : Nat} {h : Nat → Option jC} {X : jXX} {I : Nat → Nat → Int32} {J : Nat → Nat → Int64} {R : Nat → Nat → Nat} {cN rN : Int32 → Nm} {N : Nat → Nat → Int32} {O G E : Nat → Int32} {np L : Nat}
theorem cChoose {p0 : Nat} {a : aI Nm} {now : Int32} (hw : isW w) (hi : isI p0) (hP : isP P) (hR : R w 0 = P) (hj : ∀ x y, cN x = cN y → x = y) (hm : ∀ z, rN z = cN (-1) → z = -1) (hr : w + 9 ≤ p0 ∧ p0 ≤ w + 65) (hpl : plC cN rN N O G E np P L I) (hA : iC cN I p0 a) (hok : okI N np a) (hn : I w 5 = now) :
    ∃ I', jcall A jcode (d + 4) 123 [.ref (b + w), .ref (b + p0)] (jH h b X I J R n) = some (.inl (some (.int (aPlan rN N now a).1)), jH h b X I' J R n) ∧ onT w I I' ∧ I' w 11 = inO (aPlan rN N now a).2.1 ∧ I' w 12 = clO ((ix a.1.2.1 * 8 + ix a.1.2.2.1) * 8) (aPlan rN N now a).2.2 := by
  obtain ⟨p, hp, h1, hv, hst, hQ, hT⟩ := hok
  have n6 := hpl.1
  have hp6 : p < 6 := by omega
  have kp := hpl.2.2.2 p hp
  have s8 : (sts N p).length ≤ 8 := kp.2.2.2.2.2.2.2.1
  have hpx : ix a.1.2.1 = p := by rw [h1]; exact nI_clamp (by omega)
  obtain ⟨i0, i1, i2, _⟩ := iC_01 hA
  have w1 := isW_e hw
  have ho1 : onT w I (u2 (u2 I w 11 (mI 1)) w 12 (mI 1)) := fun c i a1 a2 => by rw [u2_ap, if_neg (by omega), u2_ap, if_neg (by omega)]
  have hpl1 := plC_on hw hP ho1 hpl
  have hA1 := iC_on hr ho1 hA
  have z2 : I p0 2 = a.1.2.2.1 := i2
  have z1 : I p0 1 = nI p := i1.trans h1
  rcases hst with hst | ⟨s, hs, hst⟩
  · have hpa : aPlan rN N now a = (1, none, none) := by
      unfold aPlan
      rw [if_pos (by rw [hst]; decide)]
    have z3 : I p0 2 = mI 1 := z2.trans hst
    refine ⟨_, ?_, ho1, ?_, ?_⟩
    · rw [hpa]
      simp (disch := omega) [je123, r123_0, r123_1, r123_2, r123_5, r123_6, r123_7, r123_10, r123_11, r123_14, r123_17, r123_18, r123_19, r123_20, r123_21, r123_24, r123_27, r123_28, r123_29, r123_30, r123_31, r123_34, r123_35, r123_36, r123_39, r123_40, r123_41, r123_42, r123_45, r123_46, r123_49, r123_50, r123_53, r123_56, r123_57, r123_58, r123_61, r123_62, r123_65, r123_66, r123_69, r123_72, r123_74, r123_75, r123_77, r123_79, r123_80, r123_82, r123_83, r123_86, r123_87, r123_90, r123_93, r123_95, r123_96, r123_98, r123_101, r123_102, r123_103, r123_104, r123_107, r123_110, r123_112, r123_113, r123_116, r123_119, r123_120, r123_122, r123_125, r123_127, r123_128, r123_131, r123_134, r123_135, gW0 hw, pW0_11 hw, ty9_11, pW0_12 hw, ty9_12, gI0 hi, vf2_2, qa124, qo124, qa125, qo125, vf9_0, tW0_0 hw, vf2_1, qa76, qo76, gP0 hP, qa77, qo77, vf5_13, tP0_13 hP, gP18 hP, vf5_16, tP0_16 hP, gP21 hP, qa127, qo127, List.getElem?_cons_zero, List.getElem?_cons_succ, List.length_cons, List.length_nil, ag_nx, ag_dn, ag_no, ag_if, jbr1, jbr2, jc1, jc2, jnul, jld, jsto, jstoL, jst1, jst2, jkill, jinc, jbI, jbL, jbS, juI, jl2i, jcmp, jisR, jisI, jisL, jret, jretv, jfits, jdup, jdup2, jpop, jmm, jcat, Value.category, jinv, jrcv, jthr, jhd, jput, jget, jlen, jald, jast, jaast, jgI, jgL, jgB, jtab, jlku, jacp, vf20, vf21, vf22, vf23, vf24, u2_s, u2_k, u2_i, uc_s, uc_k, uc_c, u2_c, LI0, LI1, LI2, LI3, LI4, LI5, LI6, LI7, LI8, LI9, LI10, LI11, LI12, LI13, LI14, LI15, LI16, LI17, LI18, LI19, LI20, LI21, LI22, LI23, LI24, LI25, LI26, LI27, LI28, LI29, LI30, LI31, LI32, LI33, LI34, LI35, LI36, LI37, LI40, LI42, LI43, LI45, LI48, LI60, LI61, LI64, LI80, LI300, LI400, LI1000, LI2000, LI2001, LI2047, LI2048, LI100000, LI1000000, LM, nI_clamp, nI_pos', nI_lt, nI_nlt, nI_le, nI_ge, nI_ne, nI_add, nI_sub, mI_lt, mI_le, mI_nlt, mI_nle, mI_ne, mI_ne', mI_nem, z3]
    · rw [hpa, u2_i (by omega), u2_s]
      rfl
    · rw [hpa, u2_s]
      rfl
  · have hsx : ix a.1.2.2.1 = s := by rw [hst]; exact nI_clamp (by omega)
    have hnn : ¬ a.1.2.2.1 < 0 := by rw [hst]; exact nI_pos (by omega)
    have z3 : I p0 2 = nI s := z2.trans hst
    have e124 := c124 (d := d + 1) (A := A) (b := b) (h := h) (X := X) (J := J) (R := R) (n := n) hw hi hP hR hj hpl1 hp hs hA1 h1 hst hQ
    have e125 := c125 (d := d + 1) (A := A) (b := b) (h := h) (X := X) (J := J) (R := R) (n := n) hw hi hP hR hj hm hpl1 hp hs hA1 h1 hst hQ hr
    have c8 := (kp.2.2.2.2.2.2.2.2.2.2.2 s hs).1
    have cc := (kp.2.2.2.2.2.2.2.2.2.2.2 s hs).2.1
    have w2 := isP_e hP
    rw [hpx, hsx]
    cases hpri : aPri rN N p s a.2.2.1 0 with
    | some kc =>
      obtain ⟨k, c⟩ := kc
      have hpa : aPlan rN N now a = (2, some k, some c) := by
        unfold aPlan
        rw [if_neg hnn, hpx, hsx, hpri]
      rw [hpri] at e124
      simp only at e124
      simp only [LI0, LI1, LI2, LI3, LI4, LI5, LI6, LI7, LI8, LI9, LI10, LI11, LI12, LI13, LI14, LI15, LI16, LI17, LI18, LI19, LI20, LI21, LI22, LI23, LI24, LI25, LI26, LI27, LI28, LI29, LI30, LI31, LI32, LI33, LI34, LI35, LI36, LI37, LI40, LI42, LI43, LI45, LI48, LI60, LI61, LI64, LI80, LI300, LI400, LI1000, LI2000, LI2001, LI2047, LI2048, LI100000, LI1000000, LM] at e124
      refine ⟨u2 (u2 (u2 (u2 I w 11 (mI 1)) w 12 (mI 1)) w 11 (nI k)) w 12 (nI ((p * 8 + s) * 8 + c)), ?_, fun c' i a1 a2 => ?_, ?_, ?_⟩
      · rw [hpa]
        simp (disch := omega) [je123, r123_0, r123_1, r123_2, r123_5, r123_6, r123_7, r123_10, r123_11, r123_14, r123_17, r123_18, r123_19, r123_20, r123_21, r123_24, r123_27, r123_28, r123_29, r123_30, r123_31, r123_34, r123_35, r123_36, r123_39, r123_40, r123_41, r123_42, r123_45, r123_46, r123_49, r123_50, r123_53, r123_56, r123_57, r123_58, r123_61, r123_62, r123_65, r123_66, r123_69, r123_72, r123_74, r123_75, r123_77, r123_79, r123_80, r123_82, r123_83, r123_86, r123_87, r123_90, r123_93, r123_95, r123_96, r123_98, r123_101, r123_102, r123_103, r123_104, r123_107, r123_110, r123_112, r123_113, r123_116, r123_119, r123_120, r123_122, r123_125, r123_127, r123_128, r123_131, r123_134, r123_135, gW0 hw, pW0_11 hw, ty9_11, pW0_12 hw, ty9_12, gI0 hi, vf2_2, qa124, qo124, qa125, qo125, vf9_0, tW0_0 hw, vf2_1, qa76, qo76, gP0 hP, qa77, qo77, vf5_13, tP0_13 hP, gP18 hP, vf5_16, tP0_16 hP, gP21 hP, qa127, qo127, List.getElem?_cons_zero, List.getElem?_cons_succ, List.length_cons, List.length_nil, ag_nx, ag_dn, ag_no, ag_if, jbr1, jbr2, jc1, jc2, jnul, jld, jsto, jstoL, jst1, jst2, jkill, jinc, jbI, jbL, jbS, juI, jl2i, jcmp, jisR, jisI, jisL, jret, jretv, jfits, jdup, jdup2, jpop, jmm, jcat, Value.category, jinv, jrcv, jthr, jhd, jput, jget, jlen, jald, jast, jaast, jgI, jgL, jgB, jtab, jlku, jacp, vf20, vf21, vf22, vf23, vf24, u2_s, u2_k, u2_i, uc_s, uc_k, uc_c, u2_c, LI0, LI1, LI2, LI3, LI4, LI5, LI6, LI7, LI8, LI9, LI10, LI11, LI12, LI13, LI14, LI15, LI16, LI17, LI18, LI19, LI20, LI21, LI22, LI23, LI24, LI25, LI26, LI27, LI28, LI29, LI30, LI31, LI32, LI33, LI34, LI35, LI36, LI37, LI40, LI42, LI43, LI45, LI48, LI60, LI61, LI64, LI80, LI300, LI400, LI1000, LI2000, LI2001, LI2047, LI2048, LI100000, LI1000000, LM, nI_clamp, nI_pos', nI_lt, nI_nlt, nI_le, nI_ge, nI_ne, nI_add, nI_sub, mI_lt, mI_le, mI_nlt, mI_nle, mI_ne, mI_ne', mI_nem, z3, e124]
      · rw [u2_ap, if_neg (by omega), u2_ap, if_neg (by omega), u2_ap, if_neg (by omega), u2_ap, if_neg (by omega)]
      · rw [hpa, u2_i (by omega), u2_s]
        rfl
      · rw [hpa, u2_s]
        rfl
    | none =>
      rw [hpri] at e124
      simp only at e124
      simp only [LI0, LI1, LI2, LI3, LI4, LI5, LI6, LI7, LI8, LI9, LI10, LI11, LI12, LI13, LI14, LI15, LI16, LI17, LI18, LI19, LI20, LI21, LI22, LI23, LI24, LI25, LI26, LI27, LI28, LI29, LI30, LI31, LI32, LI33, LI34, LI35, LI36, LI37, LI40, LI42, LI43, LI45, LI48, LI60, LI61, LI64, LI80, LI300, LI400, LI1000, LI2000, LI2001, LI2047, LI2048, LI100000, LI1000000, LM] at e124
      cases hsig : aSig rN N p s a.2.2.1 0 with
      | some kq =>
        obtain ⟨k, q⟩ := kq
        rw [hsig] at e125
        simp only at e125
        cases h33 : fcl rN N p s 33 q.1 with
        | some c =>
          have hpa : aPlan rN N now a = (3, some k, some c) := by
            unfold aPlan
            rw [if_neg hnn, hpx, hsx, hpri]
            simp only
            rw [hsig]
            simp only
            rw [h33]
          rw [h33] at e125
          simp only at e125
          simp only [LI0, LI1, LI2, LI3, LI4, LI5, LI6, LI7, LI8, LI9, LI10, LI11, LI12, LI13, LI14, LI15, LI16, LI17, LI18, LI19, LI20, LI21, LI22, LI23, LI24, LI25, LI26, LI27, LI28, LI29, LI30, LI31, LI32, LI33, LI34, LI35, LI36, LI37, LI40, LI42, LI43, LI45, LI48, LI60, LI61, LI64, LI80, LI300, LI400, LI1000, LI2000, LI2001, LI2047, LI2048, LI100000, LI1000000, LM] at e125
          refine ⟨u2 (u2 (u2 (u2 I w 11 (mI 1)) w 12 (mI 1)) w 11 (nI k)) w 12 (nI ((p * 8 + s) * 8 + c)), ?_, fun c' i a1 a2 => ?_, ?_, ?_⟩
          · rw [hpa]
            simp (disch := omega) [je123, r123_0, r123_1, r123_2, r123_5, r123_6, r123_7, r123_10, r123_11, r123_14, r123_17, r123_18, r123_19, r123_20, r123_21, r123_24, r123_27, r123_28, r123_29, r123_30, r123_31, r123_34, r123_35, r123_36, r123_39, r123_40, r123_41, r123_42, r123_45, r123_46, r123_49, r123_50, r123_53, r123_56, r123_57, r123_58, r123_61, r123_62, r123_65, r123_66, r123_69, r123_72, r123_74, r123_75, r123_77, r123_79, r123_80, r123_82, r123_83, r123_86, r123_87, r123_90, r123_93, r123_95, r123_96, r123_98, r123_101, r123_102, r123_103, r123_104, r123_107, r123_110, r123_112, r123_113, r123_116, r123_119, r123_120, r123_122, r123_125, r123_127, r123_128, r123_131, r123_134, r123_135, gW0 hw, pW0_11 hw, ty9_11, pW0_12 hw, ty9_12, gI0 hi, vf2_2, qa124, qo124, qa125, qo125, vf9_0, tW0_0 hw, vf2_1, qa76, qo76, gP0 hP, qa77, qo77, vf5_13, tP0_13 hP, gP18 hP, vf5_16, tP0_16 hP, gP21 hP, qa127, qo127, List.getElem?_cons_zero, List.getElem?_cons_succ, List.length_cons, List.length_nil, ag_nx, ag_dn, ag_no, ag_if, jbr1, jbr2, jc1, jc2, jnul, jld, jsto, jstoL, jst1, jst2, jkill, jinc, jbI, jbL, jbS, juI, jl2i, jcmp, jisR, jisI, jisL, jret, jretv, jfits, jdup, jdup2, jpop, jmm, jcat, Value.category, jinv, jrcv, jthr, jhd, jput, jget, jlen, jald, jast, jaast, jgI, jgL, jgB, jtab, jlku, jacp, vf20, vf21, vf22, vf23, vf24, u2_s, u2_k, u2_i, uc_s, uc_k, uc_c, u2_c, LI0, LI1, LI2, LI3, LI4, LI5, LI6, LI7, LI8, LI9, LI10, LI11, LI12, LI13, LI14, LI15, LI16, LI17, LI18, LI19, LI20, LI21, LI22, LI23, LI24, LI25, LI26, LI27, LI28, LI29, LI30, LI31, LI32, LI33, LI34, LI35, LI36, LI37, LI40, LI42, LI43, LI45, LI48, LI60, LI61, LI64, LI80, LI300, LI400, LI1000, LI2000, LI2001, LI2047, LI2048, LI100000, LI1000000, LM, nI_clamp, nI_pos', nI_lt, nI_nlt, nI_le, nI_ge, nI_ne, nI_add, nI_sub, mI_lt, mI_le, mI_nlt, mI_nle, mI_ne, mI_ne', mI_nem, z3, e124, e125]
          · rw [u2_ap, if_neg (by omega), u2_ap, if_neg (by omega), u2_ap, if_neg (by omega), u2_ap, if_neg (by omega)]
          · rw [hpa, u2_i (by omega), u2_s]
            rfl
          · rw [hpa, u2_s]
            rfl
        | none =>
          rw [h33] at e125
          simp only at e125
          cases h36 : fcl rN N p s 36 q.1 with
          | some c =>
            have hpa : aPlan rN N now a = (4, some k, some c) := by
              unfold aPlan
              rw [if_neg hnn, hpx, hsx, hpri]
              simp only
              rw [hsig]
              simp only
              rw [h33]
              simp only
              rw [h36]
            rw [h36] at e125
            simp only at e125
            simp only [LI0, LI1, LI2, LI3, LI4, LI5, LI6, LI7, LI8, LI9, LI10, LI11, LI12, LI13, LI14, LI15, LI16, LI17, LI18, LI19, LI20, LI21, LI22, LI23, LI24, LI25, LI26, LI27, LI28, LI29, LI30, LI31, LI32, LI33, LI34, LI35, LI36, LI37, LI40, LI42, LI43, LI45, LI48, LI60, LI61, LI64, LI80, LI300, LI400, LI1000, LI2000, LI2001, LI2047, LI2048, LI100000, LI1000000, LM] at e125
            refine ⟨u2 (u2 (u2 (u2 (u2 I w 11 (mI 1)) w 12 (mI 1)) w 11 (nI k)) w 12 (mI 1)) w 12 (nI ((p * 8 + s) * 8 + c)), ?_, fun c' i a1 a2 => ?_, ?_, ?_⟩
            · rw [hpa]
              simp (disch := omega) [je123, r123_0, r123_1, r123_2, r123_5, r123_6, r123_7, r123_10, r123_11, r123_14, r123_17, r123_18, r123_19, r123_20, r123_21, r123_24, r123_27, r123_28, r123_29, r123_30, r123_31, r123_34, r123_35, r123_36, r123_39, r123_40, r123_41, r123_42, r123_45, r123_46, r123_49, r123_50, r123_53, r123_56, r123_57, r123_58, r123_61, r123_62, r123_65, r123_66, r123_69, r123_72, r123_74, r123_75, r123_77, r123_79, r123_80, r123_82, r123_83, r123_86, r123_87, r123_90, r123_93, r123_95, r123_96, r123_98, r123_101, r123_102, r123_103, r123_104, r123_107, r123_110, r123_112, r123_113, r123_116, r123_119, r123_120, r123_122, r123_125, r123_127, r123_128, r123_131, r123_134, r123_135, gW0 hw, pW0_11 hw, ty9_11, pW0_12 hw, ty9_12, gI0 hi, vf2_2, qa124, qo124, qa125, qo125, vf9_0, tW0_0 hw, vf2_1, qa76, qo76, gP0 hP, qa77, qo77, vf5_13, tP0_13 hP, gP18 hP, vf5_16, tP0_16 hP, gP21 hP, qa127, qo127, List.getElem?_cons_zero, List.getElem?_cons_succ, List.length_cons, List.length_nil, ag_nx, ag_dn, ag_no, ag_if, jbr1, jbr2, jc1, jc2, jnul, jld, jsto, jstoL, jst1, jst2, jkill, jinc, jbI, jbL, jbS, juI, jl2i, jcmp, jisR, jisI, jisL, jret, jretv, jfits, jdup, jdup2, jpop, jmm, jcat, Value.category, jinv, jrcv, jthr, jhd, jput, jget, jlen, jald, jast, jaast, jgI, jgL, jgB, jtab, jlku, jacp, vf20, vf21, vf22, vf23, vf24, u2_s, u2_k, u2_i, uc_s, uc_k, uc_c, u2_c, LI0, LI1, LI2, LI3, LI4, LI5, LI6, LI7, LI8, LI9, LI10, LI11, LI12, LI13, LI14, LI15, LI16, LI17, LI18, LI19, LI20, LI21, LI22, LI23, LI24, LI25, LI26, LI27, LI28, LI29, LI30, LI31, LI32, LI33, LI34, LI35, LI36, LI37, LI40, LI42, LI43, LI45, LI48, LI60, LI61, LI64, LI80, LI300, LI400, LI1000, LI2000, LI2001, LI2047, LI2048, LI100000, LI1000000, LM, nI_clamp, nI_pos', nI_lt, nI_nlt, nI_le, nI_ge, nI_ne, nI_add, nI_sub, mI_lt, mI_le, mI_nlt, mI_nle, mI_ne, mI_ne', mI_nem, z3, e124, e125]
            · rw [u2_ap, if_neg (by omega), u2_ap, if_neg (by omega), u2_ap, if_neg (by omega), u2_ap, if_neg (by omega), u2_ap, if_neg (by omega)]
            · rw [hpa, u2_i (by omega), u2_i (by omega), u2_s]
              rfl
            · rw [hpa, u2_s]
              rfl
          | none =>
            have hpa : aPlan rN N now a = (5, some k, none) := by
              unfold aPlan
              rw [if_neg hnn, hpx, hsx, hpri]
              simp only
              rw [hsig]
              simp only
              rw [h33]
              simp only
              rw [h36]
            rw [h36] at e125
            simp only at e125
            simp only [LI0, LI1, LI2, LI3, LI4, LI5, LI6, LI7, LI8, LI9, LI10, LI11, LI12, LI13, LI14, LI15, LI16, LI17, LI18, LI19, LI20, LI21, LI22, LI23, LI24, LI25, LI26, LI27, LI28, LI29, LI30, LI31, LI32, LI33, LI34, LI35, LI36, LI37, LI40, LI42, LI43, LI45, LI48, LI60, LI61, LI64, LI80, LI300, LI400, LI1000, LI2000, LI2001, LI2047, LI2048, LI100000, LI1000000, LM] at e125
            refine ⟨u2 (u2 (u2 (u2 (u2 I w 11 (mI 1)) w 12 (mI 1)) w 11 (nI k)) w 12 (mI 1)) w 12 (mI 1), ?_, fun c' i a1 a2 => ?_, ?_, ?_⟩
            · rw [hpa]
              simp (disch := omega) [je123, r123_0, r123_1, r123_2, r123_5, r123_6, r123_7, r123_10, r123_11, r123_14, r123_17, r123_18, r123_19, r123_20, r123_21, r123_24, r123_27, r123_28, r123_29, r123_30, r123_31, r123_34, r123_35, r123_36, r123_39, r123_40, r123_41, r123_42, r123_45, r123_46, r123_49, r123_50, r123_53, r123_56, r123_57, r123_58, r123_61, r123_62, r123_65, r123_66, r123_69, r123_72, r123_74, r123_75, r123_77, r123_79, r123_80, r123_82, r123_83, r123_86, r123_87, r123_90, r123_93, r123_95, r123_96, r123_98, r123_101, r123_102, r123_103, r123_104, r123_107, r123_110, r123_112, r123_113, r123_116, r123_119, r123_120, r123_122, r123_125, r123_127, r123_128, r123_131, r123_134, r123_135, gW0 hw, pW0_11 hw, ty9_11, pW0_12 hw, ty9_12, gI0 hi, vf2_2, qa124, qo124, qa125, qo125, vf9_0, tW0_0 hw, vf2_1, qa76, qo76, gP0 hP, qa77, qo77, vf5_13, tP0_13 hP, gP18 hP, vf5_16, tP0_16 hP, gP21 hP, qa127, qo127, List.getElem?_cons_zero, List.getElem?_cons_succ, List.length_cons, List.length_nil, ag_nx, ag_dn, ag_no, ag_if, jbr1, jbr2, jc1, jc2, jnul, jld, jsto, jstoL, jst1, jst2, jkill, jinc, jbI, jbL, jbS, juI, jl2i, jcmp, jisR, jisI, jisL, jret, jretv, jfits, jdup, jdup2, jpop, jmm, jcat, Value.category, jinv, jrcv, jthr, jhd, jput, jget, jlen, jald, jast, jaast, jgI, jgL, jgB, jtab, jlku, jacp, vf20, vf21, vf22, vf23, vf24, u2_s, u2_k, u2_i, uc_s, uc_k, uc_c, u2_c, LI0, LI1, LI2, LI3, LI4, LI5, LI6, LI7, LI8, LI9, LI10, LI11, LI12, LI13, LI14, LI15, LI16, LI17, LI18, LI19, LI20, LI21, LI22, LI23, LI24, LI25, LI26, LI27, LI28, LI29, LI30, LI31, LI32, LI33, LI34, LI35, LI36, LI37, LI40, LI42, LI43, LI45, LI48, LI60, LI61, LI64, LI80, LI300, LI400, LI1000, LI2000, LI2001, LI2047, LI2048, LI100000, LI1000000, LM, nI_clamp, nI_pos', nI_lt, nI_nlt, nI_le, nI_ge, nI_ne, nI_add, nI_sub, mI_lt, mI_le, mI_nlt, mI_nle, mI_ne, mI_ne', mI_nem, z3, e124, e125]
            · rw [u2_ap, if_neg (by omega), u2_ap, if_neg (by omega), u2_ap, if_neg (by omega), u2_ap, if_neg (by omega), u2_ap, if_neg (by omega)]
            · rw [hpa, u2_i (by omega), u2_i (by omega), u2_s]
              rfl
            · rw [hpa, u2_s]
              rfl
      | none =>
        rw [hsig] at e125
        simp only at e125
        simp only [LI0, LI1, LI2, LI3, LI4, LI5, LI6, LI7, LI8, LI9, LI10, LI11, LI12, LI13, LI14, LI15, LI16, LI17, LI18, LI19, LI20, LI21, LI22, LI23, LI24, LI25, LI26, LI27, LI28, LI29, LI30, LI31, LI32, LI33, LI34, LI35, LI36, LI37, LI40, LI42, LI43, LI45, LI48, LI60, LI61, LI64, LI80, LI300, LI400, LI1000, LI2000, LI2001, LI2047, LI2048, LI100000, LI1000000, LM] at e125
        have e76 := c76 (d := d + 2) (A := A) (b := b) (h := h) (X := X) (J := J) (R := R) (n := n) (I := u2 (u2 I w 11 (mI 1)) w 12 (mI 1)) (p := p) (s := s) hP
        have e77 := c77 (d := d + 2) (A := A) (b := b) (h := h) (X := X) (J := J) (R := R) (n := n) (I := u2 (u2 I w 11 (mI 1)) w 12 (mI 1)) (p := p) (s := s) (c := (cls N p s).length) hP hp6 (by omega) (by rw [u2_k (by omega), u2_k (by omega)]; exact cc) c8
        obtain ⟨I', ho, e9⟩ := c123w (d := d) (A := A) (b := b) (h := h) (X := X) (J := J) (R := R) (n := n) (a := a) (now := now) (c2 := some (.int (nI 0))) hw hi hP hR hp hs hv hr hpl1 hA1 (by rw [u2_i (by omega), u2_i (by omega)]; exact hn)
        have hmt : aPlan rN N now a = (match (cls N p s).findIdx? (wPr N now a) with | some c => (6, none, some c) | none => (0, none, none)) := by
          unfold aPlan
          rw [if_neg hnn, hpx, hsx, hpri]
          simp only
          rw [hsig]
          rfl
        have ho11 : I' w 11 = mI 1 := by rw [ho w 11 (by omega) (by omega), u2_i (by omega), u2_s]
        have ho12 : I' w 12 = mI 1 := by rw [ho w 12 (by omega) (by omega), u2_s]
        cases hwn : (cls N p s).findIdx? (wPr N now a) with
        | some c =>
          have hpa : aPlan rN N now a = (6, none, some c) := by rw [hmt, hwn]
          rw [hwn] at e9
          simp only [wK, wSt] at e9
          simp only [LI0, LI1, LI2, LI3, LI4, LI5, LI6, LI7, LI8, LI9, LI10, LI11, LI12, LI13, LI14, LI15, LI16, LI17, LI18, LI19, LI20, LI21, LI22, LI23, LI24, LI25, LI26, LI27, LI28, LI29, LI30, LI31, LI32, LI33, LI34, LI35, LI36, LI37, LI40, LI42, LI43, LI45, LI48, LI60, LI61, LI64, LI80, LI300, LI400, LI1000, LI2000, LI2001, LI2047, LI2048, LI100000, LI1000000, LM] at e9
          refine ⟨u2 I' w 12 (nI ((p * 8 + s) * 8 + c)), ?_, fun c' i a1 a2 => ?_, ?_, ?_⟩
          · rw [hpa]
            simp (disch := omega) [je123, r123_0, r123_1, r123_2, r123_5, r123_6, r123_7, r123_10, r123_11, r123_14, r123_17, r123_18, r123_19, r123_20, r123_21, r123_24, r123_27, r123_28, r123_29, r123_30, r123_31, r123_34, r123_35, r123_36, r123_39, r123_40, r123_41, r123_42, r123_45, r123_46, r123_49, r123_50, r123_53, r123_56, r123_57, r123_58, r123_61, r123_62, r123_65, r123_66, r123_69, r123_72, r123_74, r123_75, r123_79, r123_80, r123_82, r123_83, r123_86, r123_87, r123_90, r123_93, r123_95, r123_96, r123_98, r123_101, r123_102, r123_103, r123_104, r123_107, r123_110, r123_112, r123_113, r123_116, r123_119, r123_120, r123_122, r123_125, r123_127, r123_128, r123_131, r123_134, r123_135, gW0 hw, pW0_11 hw, ty9_11, pW0_12 hw, ty9_12, gI0 hi, vf2_2, qa124, qo124, qa125, qo125, vf9_0, tW0_0 hw, vf2_1, qa76, qo76, gP0 hP, qa77, qo77, vf5_13, tP0_13 hP, gP18 hP, vf5_16, tP0_16 hP, gP21 hP, qa127, qo127, List.getElem?_cons_zero, List.getElem?_cons_succ, List.length_cons, List.length_nil, ag_nx, ag_dn, ag_no, ag_if, jbr1, jbr2, jc1, jc2, jnul, jld, jsto, jstoL, jst1, jst2, jkill, jinc, jbI, jbL, jbS, juI, jl2i, jcmp, jisR, jisI, jisL, jret, jretv, jfits, jdup, jdup2, jpop, jmm, jcat, Value.category, jinv, jrcv, jthr, jhd, jput, jget, jlen, jald, jast, jaast, jgI, jgL, jgB, jtab, jlku, jacp, vf20, vf21, vf22, vf23, vf24, u2_s, u2_k, u2_i, uc_s, uc_k, uc_c, u2_c, LI0, LI1, LI2, LI3, LI4, LI5, LI6, LI7, LI8, LI9, LI10, LI11, LI12, LI13, LI14, LI15, LI16, LI17, LI18, LI19, LI20, LI21, LI22, LI23, LI24, LI25, LI26, LI27, LI28, LI29, LI30, LI31, LI32, LI33, LI34, LI35, LI36, LI37, LI40, LI42, LI43, LI45, LI48, LI60, LI61, LI64, LI80, LI300, LI400, LI1000, LI2000, LI2001, LI2047, LI2048, LI100000, LI1000000, LM, nI_clamp, nI_pos', nI_lt, nI_nlt, nI_le, nI_ge, nI_ne, nI_add, nI_sub, mI_lt, mI_le, mI_nlt, mI_nle, mI_ne, mI_ne', mI_nem, hR, z1, z3, e124, e125, e76, e77, e9]
          · rw [u2_ap, if_neg (by omega), ho c' i a1 (by omega)]
            exact ho1 c' i a1 a2
          · rw [hpa, u2_i (by omega), ho11]
            rfl
          · rw [hpa, u2_s]
            rfl
        | none =>
          have hpa : aPlan rN N now a = (0, none, none) := by rw [hmt, hwn]
          rw [hwn] at e9
          simp only [wK, wSt] at e9
          simp only [LI0, LI1, LI2, LI3, LI4, LI5, LI6, LI7, LI8, LI9, LI10, LI11, LI12, LI13, LI14, LI15, LI16, LI17, LI18, LI19, LI20, LI21, LI22, LI23, LI24, LI25, LI26, LI27, LI28, LI29, LI30, LI31, LI32, LI33, LI34, LI35, LI36, LI37, LI40, LI42, LI43, LI45, LI48, LI60, LI61, LI64, LI80, LI300, LI400, LI1000, LI2000, LI2001, LI2047, LI2048, LI100000, LI1000000, LM] at e9
          refine ⟨I', ?_, fun c' i a1 a2 => ?_, ?_, ?_⟩
          · rw [hpa]
            simp (disch := omega) [je123, r123_0, r123_1, r123_2, r123_5, r123_6, r123_7, r123_10, r123_11, r123_14, r123_17, r123_18, r123_19, r123_20, r123_21, r123_24, r123_27, r123_28, r123_29, r123_30, r123_31, r123_34, r123_35, r123_36, r123_39, r123_40, r123_41, r123_42, r123_45, r123_46, r123_49, r123_50, r123_53, r123_56, r123_57, r123_58, r123_61, r123_62, r123_65, r123_66, r123_69, r123_72, r123_74, r123_75, r123_79, r123_80, r123_82, r123_83, r123_86, r123_87, r123_90, r123_93, r123_95, r123_96, r123_98, r123_101, r123_102, r123_103, r123_104, r123_107, r123_110, r123_112, r123_113, r123_116, r123_119, r123_120, r123_122, r123_125, r123_127, r123_128, r123_131, r123_134, r123_135, gW0 hw, pW0_11 hw, ty9_11, pW0_12 hw, ty9_12, gI0 hi, vf2_2, qa124, qo124, qa125, qo125, vf9_0, tW0_0 hw, vf2_1, qa76, qo76, gP0 hP, qa77, qo77, vf5_13, tP0_13 hP, gP18 hP, vf5_16, tP0_16 hP, gP21 hP, qa127, qo127, List.getElem?_cons_zero, List.getElem?_cons_succ, List.length_cons, List.length_nil, ag_nx, ag_dn, ag_no, ag_if, jbr1, jbr2, jc1, jc2, jnul, jld, jsto, jstoL, jst1, jst2, jkill, jinc, jbI, jbL, jbS, juI, jl2i, jcmp, jisR, jisI, jisL, jret, jretv, jfits, jdup, jdup2, jpop, jmm, jcat, Value.category, jinv, jrcv, jthr, jhd, jput, jget, jlen, jald, jast, jaast, jgI, jgL, jgB, jtab, jlku, jacp, vf20, vf21, vf22, vf23, vf24, u2_s, u2_k, u2_i, uc_s, uc_k, uc_c, u2_c, LI0, LI1, LI2, LI3, LI4, LI5, LI6, LI7, LI8, LI9, LI10, LI11, LI12, LI13, LI14, LI15, LI16, LI17, LI18, LI19, LI20, LI21, LI22, LI23, LI24, LI25, LI26, LI27, LI28, LI29, LI30, LI31, LI32, LI33, LI34, LI35, LI36, LI37, LI40, LI42, LI43, LI45, LI48, LI60, LI61, LI64, LI80, LI300, LI400, LI1000, LI2000, LI2001, LI2047, LI2048, LI100000, LI1000000, LM, nI_clamp, nI_pos', nI_lt, nI_nlt, nI_le, nI_ge, nI_ne, nI_add, nI_sub, mI_lt, mI_le, mI_nlt, mI_nle, mI_ne, mI_ne', mI_nem, hR, z1, z3, e124, e125, e76, e77, e9]
          · rw [ho c' i a1 (by omega)]
            exact ho1 c' i a1 a2
          · rw [hpa, ho11]
            rfl
          · rw [hpa, ho12]
            rfl
end CE
