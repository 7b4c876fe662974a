/-! the class: make and stop -/
section CN
variable {A : Nat → Nat} {d b n w P p : Nat} {h : Nat → Option jC} {X : jXX} {I : Nat → Nat → Int32} {J : Nat → Nat → Int64} {R : Nat → Nat → Nat} {cN rN : Int32 → Nm} {a : aI Nm} {W : aW Nm} {N : Nat → Nat → Int32} {O G E : Nat → Int32} {np L : Nat}
theorem c136l {p0 m : Nat} {x : Int32} (hP : isP P) (hw : isW w) (hm : I w 3 = nI m) (h8 : m ≤ 8) (hs : ∀ k, k < 8 → isI (R (w + 8) k)) : ∀ r k c, k + r = m → c ≤ k → M136 A d 5 [some (.ref (b + w)), some (.ref (b + p0)), some (.int x), some (.int (nI c)), some (.int (nI k))] [] (jH h b X I J R n) = M136 A d 44 [some (.ref (b + w)), some (.ref (b + p0)), some (.int x), some (.int (nI (cnx (fun k => I (R (w + 8) k) 1) x r k c))), some (.int (nI m))] [] (jH h b X I J R n) := by
  intro r
  induction r with
  | zero =>
    intro k c hk hc
    have hi := hs 0 (by omega)
    have : k = m := by omega
    subst this
    rw [r136_5]
    simp (disch := omega) [r136_7, r136_8, r136_11, gW0 hw, vf9_3, List.getElem?_cons_zero, List.getElem?_cons_succ, List.length_cons, List.length_nil, ag_nx, ag_dn, ag_no, ag_if, jbr1, jbr2, jc1, jc2, jnul, jld, jsto, jstoL, jst1, jst2, jkill, jinc, jbI, jbL, jbS, juI, jl2i, jcmp, jisR, jisI, jisL, jret, jretv, jfits, jdup, jdup2, jpop, jmm, jcat, Value.category, jinv, jrcv, jthr, jhd, jput, jget, jlen, jald, jast, jaast, jgI, jgL, jgB, jtab, jlku, jacp, vf20, vf21, vf22, vf23, vf24, u2_s, u2_k, u2_i, uc_s, uc_k, uc_c, u2_c, LI0, LI1, LI2, LI3, LI4, LI5, LI6, LI7, LI8, LI9, LI10, LI11, LI12, LI13, LI14, LI15, LI16, LI17, LI18, LI19, LI20, LI21, LI22, LI23, LI24, LI25, LI26, LI27, LI28, LI29, LI30, LI31, LI32, LI33, LI34, LI35, LI36, LI37, LI40, LI42, LI43, LI45, LI48, LI60, LI61, LI64, LI80, LI300, LI400, LI1000, LI2000, LI2001, LI2047, LI2048, LI100000, LI1000000, LM, nI_clamp, nI_pos', nI_lt, nI_nlt, nI_le, nI_ge, nI_ne, nI_add, nI_sub, mI_lt, mI_le, mI_nlt, mI_nle, mI_ne, mI_ne', mI_nem, hm, cnx]
  | succ r ih =>
    intro k c hk hc
    have hi := hs k (by omega)
    have e1 := ih (k + 1) (c + 1) (by omega) (by omega)
    have e0 := ih (k + 1) c (by omega) (by omega)
    rw [r136_5]
    by_cases hd : I (R (w + 8) k) 1 = x
    · simp (disch := omega) [r136_0, r136_1, r136_2, r136_3, r136_7, r136_8, r136_11, r136_14, r136_16, r136_18, r136_21, r136_22, r136_25, r136_27, r136_28, r136_31, r136_32, r136_35, r136_38, r136_41, r136_45, r136_48, r136_50, r136_53, r136_54, r136_55, r136_58, r136_59, r136_60, r136_63, r136_64, r136_65, r136_68, r136_69, r136_72, r136_73, r136_76, r136_77, r136_80, r136_81, r136_82, r136_83, r136_86, r136_89, r136_90, r136_91, r136_92, r136_95, r136_98, gW0 hw, vf9_3, vf9_2, tW0_2 hw, gW8 hw, gI0 hi, vf2_1, pI0_5 hi, ty2_5, vf2_0, vf9_0, tW0_0 hw, qa80, qo80, gP0 hP, qa134, qo134, vf9_4, qa137, qo137, List.getElem?_cons_zero, List.getElem?_cons_succ, List.length_cons, List.length_nil, ag_nx, ag_dn, ag_no, ag_if, jbr1, jbr2, jc1, jc2, jnul, jld, jsto, jstoL, jst1, jst2, jkill, jinc, jbI, jbL, jbS, juI, jl2i, jcmp, jisR, jisI, jisL, jret, jretv, jfits, jdup, jdup2, jpop, jmm, jcat, Value.category, jinv, jrcv, jthr, jhd, jput, jget, jlen, jald, jast, jaast, jgI, jgL, jgB, jtab, jlku, jacp, vf20, vf21, vf22, vf23, vf24, u2_s, u2_k, u2_i, uc_s, uc_k, uc_c, u2_c, LI0, LI1, LI2, LI3, LI4, LI5, LI6, LI7, LI8, LI9, LI10, LI11, LI12, LI13, LI14, LI15, LI16, LI17, LI18, LI19, LI20, LI21, LI22, LI23, LI24, LI25, LI26, LI27, LI28, LI29, LI30, LI31, LI32, LI33, LI34, LI35, LI36, LI37, LI40, LI42, LI43, LI45, LI48, LI60, LI61, LI64, LI80, LI300, LI400, LI1000, LI2000, LI2001, LI2047, LI2048, LI100000, LI1000000, LM, nI_clamp, nI_pos', nI_lt, nI_nlt, nI_le, nI_ge, nI_ne, nI_add, nI_sub, mI_lt, mI_le, mI_nlt, mI_nle, mI_ne, mI_ne', mI_nem, hm, cnx, hd, e1, show k < 8 by omega]
    · simp (disch := omega) [r136_0, r136_1, r136_2, r136_3, r136_7, r136_8, r136_11, r136_14, r136_16, r136_18, r136_21, r136_22, r136_25, r136_27, r136_28, r136_31, r136_32, r136_35, r136_38, r136_41, r136_45, r136_48, r136_50, r136_53, r136_54, r136_55, r136_58, r136_59, r136_60, r136_63, r136_64, r136_65, r136_68, r136_69, r136_72, r136_73, r136_76, r136_77, r136_80, r136_81, r136_82, r136_83, r136_86, r136_89, r136_90, r136_91, r136_92, r136_95, r136_98, gW0 hw, vf9_3, vf9_2, tW0_2 hw, gW8 hw, gI0 hi, vf2_1, pI0_5 hi, ty2_5, vf2_0, vf9_0, tW0_0 hw, qa80, qo80, gP0 hP, qa134, qo134, vf9_4, qa137, qo137, List.getElem?_cons_zero, List.getElem?_cons_succ, List.length_cons, List.length_nil, ag_nx, ag_dn, ag_no, ag_if, jbr1, jbr2, jc1, jc2, jnul, jld, jsto, jstoL, jst1, jst2, jkill, jinc, jbI, jbL, jbS, juI, jl2i, jcmp, jisR, jisI, jisL, jret, jretv, jfits, jdup, jdup2, jpop, jmm, jcat, Value.category, jinv, jrcv, jthr, jhd, jput, jget, jlen, jald, jast, jaast, jgI, jgL, jgB, jtab, jlku, jacp, vf20, vf21, vf22, vf23, vf24, u2_s, u2_k, u2_i, uc_s, uc_k, uc_c, u2_c, LI0, LI1, LI2, LI3, LI4, LI5, LI6, LI7, LI8, LI9, LI10, LI11, LI12, LI13, LI14, LI15, LI16, LI17, LI18, LI19, LI20, LI21, LI22, LI23, LI24, LI25, LI26, LI27, LI28, LI29, LI30, LI31, LI32, LI33, LI34, LI35, LI36, LI37, LI40, LI42, LI43, LI45, LI48, LI60, LI61, LI64, LI80, LI300, LI400, LI1000, LI2000, LI2001, LI2047, LI2048, LI100000, LI1000000, LM, nI_clamp, nI_pos', nI_lt, nI_nlt, nI_le, nI_ge, nI_ne, nI_add, nI_sub, mI_lt, mI_le, mI_nlt, mI_nle, mI_ne, mI_ne', mI_nem, hm, cnx, hd, e0, show k < 8 by omega]
theorem iC_child {p0 : Nat} {v : Int32} (hA : iC cN I p0 a) : iC cN (u2 I p0 5 v) p0 ((a.1.1, a.1.2.1, a.1.2.2.1, a.1.2.2.2.1, a.1.2.2.2.2.1, v), a.2) := by
  obtain ⟨h1, h2, h3, h4, h5, h6⟩ := hA
  refine ⟨?_, ?_, ?_, ?_, ?_, ?_⟩
  · rw [h1]
    simp (disch := omega) [u2_i, u2_s]
  · refine h2.trans (rl_congr fun j hj => ?_)
    simp (disch := omega) [u2_k]
  · rw [u2_i (by omega)]; exact h3
  · refine h4.trans (rl_congr fun j hj => ?_)
    simp (disch := omega) [u2_k]
  · rw [u2_i (by omega)]; exact h5
  · refine h6.trans (rl_congr fun j hj => ?_)
    simp (disch := omega) [u2_k]
theorem cMake {k : Nat} (hw : isW w) (hP : isP P) (hR : R w 0 = P) (hpl : plC cN rN N O G E np P L I) (hW : wC cN I R w W) (hk : W.1[k]? = some a) (hp : p < np) (h4 : aMany W (nI p) ≤ 4) : ∃ I', jcall A jcode (d + 3) 136 [.ref (b + w), .ref (b + R (w + 8) k), .int (nI p)] (jH h b X I J R n) = some (.inl none, jH h b X I' J R n) ∧ wC cN I' R w (aMake rN N (decide (w = 57)) k p W) ∧ fC w I I' := by
  have w1 := isW_e hw
  have w2 := isP_e hP
  have n6 := hpl.1
  have k8 := wA_lt hW.1 hk
  have hkl := lt_of_some hk
  have hi := wA_I hw hW.1 k k8
  have hr := okS_r hW.1.1 k8
  have hA := hW.1.2.2.2 k a hk
  obtain ⟨i0, _⟩ := iC_01 hA
  have em := c136l (d := d + 2) (A := A) (b := b) (h := h) (X := X) (J := J) (R := R) (n := n) (p0 := R (w + 8) k) (x := nI p) hP hw hW.1.2.2.1 hW.1.2.1 (wA_I hw hW.1) W.1.length 0 0 (by omega) (by omega)
  rw [cnx_cnt (f := fun a : aI Nm => a.1.2.1) W.1 0 0 (fun j a hj => by
    have := (hW.1.2.2.2 j a hj).1
    simp [this])] at em
  rw [Nat.zero_add] at em
  change _ = M136 A (d + 2) 44 [_, _, _, some (.int (nI (aMany W (nI p)))), _] [] _ at em
  have h3 : I w 3 = nI W.1.length := hW.1.2.2.1
  have hl8 := hW.1.2.1
  have hon : ∀ v, onI (R (w + 8) k) I (u2 I (R (w + 8) k) 5 v) := fun v c i hc => by rw [u2_k (by omega)]
  by_cases hc : W.1.length = 8 ∨ aMany W (nI p) = 4
  · obtain ⟨wp, fp, gp⟩ := wC_put hw hW hkl (hon (mI 1)) (iC_child hA)
    have e80 := c80 (d := d + 1) (A := A) (b := b) (h := h) (X := X) (J := J) (R := R) (n := n) (I := u2 I (R (w + 8) k) 5 (mI 1)) (p := p) hP (by omega)
    rw [u2_k (by omega)] at e80
    obtain ⟨I2, e2, wl, f2, _⟩ := cLose (d := d) (A := A) (b := b) (h := h) (X := X) (J := J) (n := n) (id := a.1.1) (x := I (P + 9) p) (v := 0) hw wp
    simp only [LI0, LI1, LI2, LI3, LI4, LI5, LI6, LI7, LI8, LI9, LI10, LI11, LI12, LI13, LI14, LI15, LI16, LI17, LI18, LI19, LI20, LI21, LI22, LI23, LI24, LI25, LI26, LI27, LI28, LI29, LI30, LI31, LI32, LI33, LI34, LI35, LI36, LI37, LI40, LI42, LI43, LI45, LI48, LI60, LI61, LI64, LI80, LI300, LI400, LI1000, LI2000, LI2001, LI2047, LI2048, LI100000, LI1000000, LM] at e2
    refine ⟨I2, ?_, ?_, fC_trans fp f2⟩
    · by_cases h88 : W.1.length = 8
      · rw [h88] at em h3
        simp (disch := omega) [je136, r136_0, r136_1, r136_2, r136_3, r136_7, r136_8, r136_11, r136_14, r136_16, r136_18, r136_21, r136_22, r136_25, r136_27, r136_28, r136_31, r136_32, r136_35, r136_38, r136_41, r136_44, r136_45, r136_48, r136_50, r136_53, r136_54, r136_55, r136_58, r136_59, r136_60, r136_63, r136_64, r136_65, r136_68, r136_69, r136_72, r136_73, r136_76, r136_77, r136_80, r136_81, r136_82, r136_83, r136_86, r136_89, r136_90, r136_91, r136_92, r136_95, r136_98, gW0 hw, vf9_3, vf9_2, tW0_2 hw, gW8 hw, gI0 hi, vf2_1, pI0_5 hi, ty2_5, vf2_0, vf9_0, tW0_0 hw, qa80, qo80, gP0 hP, qa134, qo134, vf9_4, qa137, qo137, List.getElem?_cons_zero, List.getElem?_cons_succ, List.length_cons, List.length_nil, ag_nx, ag_dn, ag_no, ag_if, jbr1, jbr2, jc1, jc2, jnul, jld, jsto, jstoL, jst1, jst2, jkill, jinc, jbI, jbL, jbS, juI, jl2i, jcmp, jisR, jisI, jisL, jret, jretv, jfits, jdup, jdup2, jpop, jmm, jcat, Value.category, jinv, jrcv, jthr, jhd, jput, jget, jlen, jald, jast, jaast, jgI, jgL, jgB, jtab, jlku, jacp, vf20, vf21, vf22, vf23, vf24, u2_s, u2_k, u2_i, uc_s, uc_k, uc_c, u2_c, LI0, LI1, LI2, LI3, LI4, LI5, LI6, LI7, LI8, LI9, LI10, LI11, LI12, LI13, LI14, LI15, LI16, LI17, LI18, LI19, LI20, LI21, LI22, LI23, LI24, LI25, LI26, LI27, LI28, LI29, LI30, LI31, LI32, LI33, LI34, LI35, LI36, LI37, LI40, LI42, LI43, LI45, LI48, LI60, LI61, LI64, LI80, LI300, LI400, LI1000, LI2000, LI2001, LI2047, LI2048, LI100000, LI1000000, LM, nI_clamp, nI_pos', nI_lt, nI_nlt, nI_le, nI_ge, nI_ne, nI_add, nI_sub, mI_lt, mI_le, mI_nlt, mI_nle, mI_ne, mI_ne', mI_nem, hR, em, h3, e80, e2, i0]
      · have h44 : aMany W (nI p) = 4 := hc.resolve_left h88
        rw [h44] at em
        simp (disch := omega) [je136, r136_0, r136_1, r136_2, r136_3, r136_7, r136_8, r136_11, r136_14, r136_16, r136_18, r136_21, r136_22, r136_25, r136_27, r136_28, r136_31, r136_32, r136_35, r136_38, r136_41, r136_44, r136_45, r136_48, r136_50, r136_53, r136_54, r136_55, r136_58, r136_59, r136_60, r136_63, r136_64, r136_65, r136_68, r136_69, r136_72, r136_73, r136_76, r136_77, r136_80, r136_81, r136_82, r136_83, r136_86, r136_89, r136_90, r136_91, r136_92, r136_95, r136_98, gW0 hw, vf9_3, vf9_2, tW0_2 hw, gW8 hw, gI0 hi, vf2_1, pI0_5 hi, ty2_5, vf2_0, vf9_0, tW0_0 hw, qa80, qo80, gP0 hP, qa134, qo134, vf9_4, qa137, qo137, List.getElem?_cons_zero, List.getElem?_cons_succ, List.length_cons, List.length_nil, ag_nx, ag_dn, ag_no, ag_if, jbr1, jbr2, jc1, jc2, jnul, jld, jsto, jstoL, jst1, jst2, jkill, jinc, jbI, jbL, jbS, juI, jl2i, jcmp, jisR, jisI, jisL, jret, jretv, jfits, jdup, jdup2, jpop, jmm, jcat, Value.category, jinv, jrcv, jthr, jhd, jput, jget, jlen, jald, jast, jaast, jgI, jgL, jgB, jtab, jlku, jacp, vf20, vf21, vf22, vf23, vf24, u2_s, u2_k, u2_i, uc_s, uc_k, uc_c, u2_c, LI0, LI1, LI2, LI3, LI4, LI5, LI6, LI7, LI8, LI9, LI10, LI11, LI12, LI13, LI14, LI15, LI16, LI17, LI18, LI19, LI20, LI21, LI22, LI23, LI24, LI25, LI26, LI27, LI28, LI29, LI30, LI31, LI32, LI33, LI34, LI35, LI36, LI37, LI40, LI42, LI43, LI45, LI48, LI60, LI61, LI64, LI80, LI300, LI400, LI1000, LI2000, LI2001, LI2047, LI2048, LI100000, LI1000000, LM, nI_clamp, nI_pos', nI_lt, nI_nlt, nI_le, nI_ge, nI_ne, nI_add, nI_sub, mI_lt, mI_le, mI_nlt, mI_nle, mI_ne, mI_ne', mI_nem, hR, em, h3, e80, e2, i0]
    · unfold aMake
      rw [if_pos hc, aAt_of hk]
      have kn := (hpl.2.2.2 p hp).2.2.1
      rw [kn] at wl
      exact wl
  · have h88 : W.1.length < 8 := by omega
    have h44 : aMany W (nI p) < 4 := by omega
    obtain ⟨wp, fp, gp⟩ := wC_put hw hW hkl (hon (I w 4)) (iC_child hA)
    have hpl2 : plC cN rN N O G E np P L (u2 I (R (w + 8) k) 5 (I w 4)) := plC_fr (fun c j a1 a2 => by rw [u2_k (by omega)]) hpl
    obtain ⟨I2, e2, wl, f2⟩ := cCreate (d := d) (A := A) (b := b) (h := h) (X := X) (J := J) (n := n) (mk := a.1.1) hw hP hR hpl2 wp (by simp [aPut]; exact h88) hp
    refine ⟨I2, ?_, ?_, fC_trans fp f2⟩
    · simp (disch := omega) [je136, r136_0, r136_1, r136_2, r136_3, r136_7, r136_8, r136_11, r136_14, r136_16, r136_18, r136_21, r136_22, r136_25, r136_27, r136_28, r136_31, r136_32, r136_35, r136_38, r136_41, r136_44, r136_45, r136_48, r136_50, r136_53, r136_54, r136_55, r136_58, r136_59, r136_60, r136_63, r136_64, r136_65, r136_68, r136_69, r136_72, r136_73, r136_76, r136_77, r136_80, r136_81, r136_82, r136_83, r136_86, r136_89, r136_90, r136_91, r136_92, r136_95, r136_98, gW0 hw, vf9_3, vf9_2, tW0_2 hw, gW8 hw, gI0 hi, vf2_1, pI0_5 hi, ty2_5, vf2_0, vf9_0, tW0_0 hw, qa80, qo80, gP0 hP, qa134, qo134, vf9_4, qa137, qo137, List.getElem?_cons_zero, List.getElem?_cons_succ, List.length_cons, List.length_nil, ag_nx, ag_dn, ag_no, ag_if, jbr1, jbr2, jc1, jc2, jnul, jld, jsto, jstoL, jst1, jst2, jkill, jinc, jbI, jbL, jbS, juI, jl2i, jcmp, jisR, jisI, jisL, jret, jretv, jfits, jdup, jdup2, jpop, jmm, jcat, Value.category, jinv, jrcv, jthr, jhd, jput, jget, jlen, jald, jast, jaast, jgI, jgL, jgB, jtab, jlku, jacp, vf20, vf21, vf22, vf23, vf24, u2_s, u2_k, u2_i, uc_s, uc_k, uc_c, u2_c, LI0, LI1, LI2, LI3, LI4, LI5, LI6, LI7, LI8, LI9, LI10, LI11, LI12, LI13, LI14, LI15, LI16, LI17, LI18, LI19, LI20, LI21, LI22, LI23, LI24, LI25, LI26, LI27, LI28, LI29, LI30, LI31, LI32, LI33, LI34, LI35, LI36, LI37, LI40, LI42, LI43, LI45, LI48, LI60, LI61, LI64, LI80, LI300, LI400, LI1000, LI2000, LI2001, LI2047, LI2048, LI100000, LI1000000, LM, nI_clamp, nI_pos', nI_lt, nI_nlt, nI_le, nI_ge, nI_ne, nI_add, nI_sub, mI_lt, mI_le, mI_nlt, mI_nle, mI_ne, mI_ne', mI_nem, hR, em, h3, e2, i0]
    · unfold aMake
      rw [if_neg hc, aAt_of hk]
      have hg : I w 4 = W.2.1.1 := hW.2.1
      rw [hg] at wl
      exact wl
/-- where the instance with that id is -/
theorem c138a {p0 m k : Nat} (hw : isW w) (hi : isI p0) (hm : I w 3 = nI m) (h8 : m ≤ 8) (hs : ∀ k, k < 8 → isI (R (w + 8) k)) (hk : k < m) (he : R (w + 8) k = p0) (hne : ∀ j, j < k → ¬ I (R (w + 8) j) 0 = I p0 0) : ∀ r i, i + r = k → ∀ c3, M138 A d 22 [some (.ref (b + w)), some (.ref (b + p0)), some (.int (nI i)), c3] [] (jH h b X I J R n) = M138 A d 58 [some (.ref (b + w)), some (.ref (b + p0)), some (.int (nI k)), c3] [] (jH h b X I J R n) := by
  intro r
  induction r with
  | zero =>
    intro i hi' c3
    have : i = k := by omega
    subst this
    have hj := hs i (by omega)
    rw [r138_22]
    simp (disch := omega) [r138_0, r138_1, r138_4, r138_5, r138_6, r138_9, r138_10, r138_11, r138_12, r138_15, r138_17, r138_20, r138_21, r138_23, r138_24, r138_27, r138_30, r138_31, r138_33, r138_36, r138_37, r138_40, r138_41, r138_42, r138_45, r138_46, r138_49, r138_52, r138_55, r138_59, r138_60, r138_63, r138_66, r138_67, r138_70, r138_72, r138_75, r138_76, r138_77, r138_78, r138_79, r138_80, r138_81, r138_82, r138_85, r138_88, r138_89, r138_92, r138_93, r138_94, r138_97, r138_98, r138_99, r138_100, r138_101, r138_102, r138_105, r138_108, r138_109, r138_110, r138_113, r138_114, r138_115, r138_118, r138_119, r138_122, r138_123, r138_126, r138_127, r138_128, gW0 hw, vf9_1, tW0_1 hw, gI0 hi, vf2_0, vf2_1, qa102, qo102, gW1 hw, vf9_3, vf9_2, tW0_2 hw, gW8 hw, pW8 hw, pW0_3 hw, ty9_3, gI0 hj, List.getElem?_cons_zero, List.getElem?_cons_succ, List.length_cons, List.length_nil, ag_nx, ag_dn, ag_no, ag_if, jbr1, jbr2, jc1, jc2, jnul, jld, jsto, jstoL, jst1, jst2, jkill, jinc, jbI, jbL, jbS, juI, jl2i, jcmp, jisR, jisI, jisL, jret, jretv, jfits, jdup, jdup2, jpop, jmm, jcat, Value.category, jinv, jrcv, jthr, jhd, jput, jget, jlen, jald, jast, jaast, jgI, jgL, jgB, jtab, jlku, jacp, vf20, vf21, vf22, vf23, vf24, u2_s, u2_k, u2_i, uc_s, uc_k, uc_c, u2_c, LI0, LI1, LI2, LI3, LI4, LI5, LI6, LI7, LI8, LI9, LI10, LI11, LI12, LI13, LI14, LI15, LI16, LI17, LI18, LI19, LI20, LI21, LI22, LI23, LI24, LI25, LI26, LI27, LI28, LI29, LI30, LI31, LI32, LI33, LI34, LI35, LI36, LI37, LI40, LI42, LI43, LI45, LI48, LI60, LI61, LI64, LI80, LI300, LI400, LI1000, LI2000, LI2001, LI2047, LI2048, LI100000, LI1000000, LM, nI_clamp, nI_pos', nI_lt, nI_nlt, nI_le, nI_ge, nI_ne, nI_add, nI_sub, mI_lt, mI_le, mI_nlt, mI_nle, mI_ne, mI_ne', mI_nem, hm, he, show i < 8 by omega]
  | succ r ih =>
    intro i hi' c3
    have hj := hs i (by omega)
    have e := ih (i + 1) (by omega) c3
    have hn := hne i (by omega)
    rw [r138_22]
    simp (disch := omega) [r138_0, r138_1, r138_4, r138_5, r138_6, r138_9, r138_10, r138_11, r138_12, r138_15, r138_17, r138_20, r138_21, r138_23, r138_24, r138_27, r138_30, r138_31, r138_33, r138_36, r138_37, r138_40, r138_41, r138_42, r138_45, r138_46, r138_49, r138_52, r138_55, r138_59, r138_60, r138_63, r138_66, r138_67, r138_70, r138_72, r138_75, r138_76, r138_77, r138_78, r138_79, r138_80, r138_81, r138_82, r138_85, r138_88, r138_89, r138_92, r138_93, r138_94, r138_97, r138_98, r138_99, r138_100, r138_101, r138_102, r138_105, r138_108, r138_109, r138_110, r138_113, r138_114, r138_115, r138_118, r138_119, r138_122, r138_123, r138_126, r138_127, r138_128, gW0 hw, vf9_1, tW0_1 hw, gI0 hi, vf2_0, vf2_1, qa102, qo102, gW1 hw, vf9_3, vf9_2, tW0_2 hw, gW8 hw, pW8 hw, pW0_3 hw, ty9_3, gI0 hj, List.getElem?_cons_zero, List.getElem?_cons_succ, List.length_cons, List.length_nil, ag_nx, ag_dn, ag_no, ag_if, jbr1, jbr2, jc1, jc2, jnul, jld, jsto, jstoL, jst1, jst2, jkill, jinc, jbI, jbL, jbS, juI, jl2i, jcmp, jisR, jisI, jisL, jret, jretv, jfits, jdup, jdup2, jpop, jmm, jcat, Value.category, jinv, jrcv, jthr, jhd, jput, jget, jlen, jald, jast, jaast, jgI, jgL, jgB, jtab, jlku, jacp, vf20, vf21, vf22, vf23, vf24, u2_s, u2_k, u2_i, uc_s, uc_k, uc_c, u2_c, LI0, LI1, LI2, LI3, LI4, LI5, LI6, LI7, LI8, LI9, LI10, LI11, LI12, LI13, LI14, LI15, LI16, LI17, LI18, LI19, LI20, LI21, LI22, LI23, LI24, LI25, LI26, LI27, LI28, LI29, LI30, LI31, LI32, LI33, LI34, LI35, LI36, LI37, LI40, LI42, LI43, LI45, LI48, LI60, LI61, LI64, LI80, LI300, LI400, LI1000, LI2000, LI2001, LI2047, LI2048, LI100000, LI1000000, LM, nI_clamp, nI_pos', nI_lt, nI_nlt, nI_le, nI_ge, nI_ne, nI_add, nI_sub, mI_lt, mI_le, mI_nlt, mI_nle, mI_ne, mI_ne', mI_nem, hm, hn, e, show i < 8 by omega]
/-- the slots behind come nearer -/
theorem c138b {p0 m : Nat} {c2 : Int32} (hw : isW w) (hm : I w 3 = nI m) (h8 : m ≤ 8) : ∀ r i (R : Nat → Nat → Nat), (∀ k, k < 8 → isI (R (w + 8) k)) → i + r + 1 = m → ∃ R', M138 A d 78 [some (.ref (b + w)), some (.ref (b + p0)), some (.int c2), some (.int (nI i))] [] (jH h b X I J R n) = M138 A d 108 [some (.ref (b + w)), some (.ref (b + p0)), some (.int c2), some (.int (nI (m - 1)))] [] (jH h b X I J R' n) ∧ (∀ c j, c ≠ w + 8 → R' c j = R c j) ∧ ∀ j, R' (w + 8) j = if i ≤ j ∧ j + 1 < m then R (w + 8) (j + 1) else R (w + 8) j := by
  intro r
  induction r with
  | zero =>
    intro i R hs him
    have hi := hs 0 (by omega)
    refine ⟨R, ?_, fun _ _ _ => rfl, fun j => by rw [if_neg (by omega)]⟩
    have : i = m - 1 := by omega
    subst this
    rw [r138_78]
    simp (disch := omega) [r138_0, r138_1, r138_4, r138_5, r138_6, r138_9, r138_10, r138_11, r138_12, r138_15, r138_17, r138_20, r138_21, r138_22, r138_23, r138_24, r138_27, r138_30, r138_31, r138_33, r138_36, r138_37, r138_40, r138_41, r138_42, r138_45, r138_46, r138_49, r138_52, r138_55, r138_58, r138_59, r138_60, r138_63, r138_66, r138_67, r138_70, r138_72, r138_75, r138_76, r138_77, r138_79, r138_80, r138_81, r138_82, r138_85, r138_88, r138_89, r138_92, r138_93, r138_94, r138_97, r138_98, r138_99, r138_100, r138_101, r138_102, r138_105, r138_109, r138_110, r138_113, r138_114, r138_115, r138_118, r138_119, r138_122, r138_123, r138_126, r138_127, r138_128, gW0 hw, vf9_1, tW0_1 hw, gI0 hi, vf2_0, vf2_1, qa102, qo102, gW1 hw, vf9_3, vf9_2, tW0_2 hw, gW8 hw, pW8 hw, pW0_3 hw, ty9_3, List.getElem?_cons_zero, List.getElem?_cons_succ, List.length_cons, List.length_nil, ag_nx, ag_dn, ag_no, ag_if, jbr1, jbr2, jc1, jc2, jnul, jld, jsto, jstoL, jst1, jst2, jkill, jinc, jbI, jbL, jbS, juI, jl2i, jcmp, jisR, jisI, jisL, jret, jretv, jfits, jdup, jdup2, jpop, jmm, jcat, Value.category, jinv, jrcv, jthr, jhd, jput, jget, jlen, jald, jast, jaast, jgI, jgL, jgB, jtab, jlku, jacp, vf20, vf21, vf22, vf23, vf24, u2_s, u2_k, u2_i, uc_s, uc_k, uc_c, u2_c, LI0, LI1, LI2, LI3, LI4, LI5, LI6, LI7, LI8, LI9, LI10, LI11, LI12, LI13, LI14, LI15, LI16, LI17, LI18, LI19, LI20, LI21, LI22, LI23, LI24, LI25, LI26, LI27, LI28, LI29, LI30, LI31, LI32, LI33, LI34, LI35, LI36, LI37, LI40, LI42, LI43, LI45, LI48, LI60, LI61, LI64, LI80, LI300, LI400, LI1000, LI2000, LI2001, LI2047, LI2048, LI100000, LI1000000, LM, nI_clamp, nI_pos', nI_lt, nI_nlt, nI_le, nI_ge, nI_ne, nI_add, nI_sub, mI_lt, mI_le, mI_nlt, mI_nle, mI_ne, mI_ne', mI_nem, hm]
  | succ r ih =>
    intro i R hs him
    have hi := hs (i + 1) (by omega)
    have hs' : ∀ k, k < 8 → isI (u2 R (w + 8) i (R (w + 8) (i + 1)) (w + 8) k) := by
      intro k hk
      by_cases e : k = i
      · subst e; rw [u2_s]; exact hi
      · rw [u2_i e]; exact hs k hk
    obtain ⟨R', e, f1, f2⟩ := ih (i + 1) (u2 R (w + 8) i (R (w + 8) (i + 1))) hs' (by omega)
    refine ⟨R', ?_, fun c j hc => (f1 c j hc).trans (u2_k hc), fun j => ?_⟩
    · rw [r138_78]
      simp (disch := omega) [r138_0, r138_1, r138_4, r138_5, r138_6, r138_9, r138_10, r138_11, r138_12, r138_15, r138_17, r138_20, r138_21, r138_22, r138_23, r138_24, r138_27, r138_30, r138_31, r138_33, r138_36, r138_37, r138_40, r138_41, r138_42, r138_45, r138_46, r138_49, r138_52, r138_55, r138_58, r138_59, r138_60, r138_63, r138_66, r138_67, r138_70, r138_72, r138_75, r138_76, r138_77, r138_79, r138_80, r138_81, r138_82, r138_85, r138_88, r138_89, r138_92, r138_93, r138_94, r138_97, r138_98, r138_99, r138_100, r138_101, r138_102, r138_105, r138_109, r138_110, r138_113, r138_114, r138_115, r138_118, r138_119, r138_122, r138_123, r138_126, r138_127, r138_128, gW0 hw, vf9_1, tW0_1 hw, gI0 hi, vf2_0, vf2_1, qa102, qo102, gW1 hw, vf9_3, vf9_2, tW0_2 hw, gW8 hw, pW8 hw, pW0_3 hw, ty9_3, List.getElem?_cons_zero, List.getElem?_cons_succ, List.length_cons, List.length_nil, ag_nx, ag_dn, ag_no, ag_if, jbr1, jbr2, jc1, jc2, jnul, jld, jsto, jstoL, jst1, jst2, jkill, jinc, jbI, jbL, jbS, juI, jl2i, jcmp, jisR, jisI, jisL, jret, jretv, jfits, jdup, jdup2, jpop, jmm, jcat, Value.category, jinv, jrcv, jthr, jhd, jput, jget, jlen, jald, jast, jaast, jgI, jgL, jgB, jtab, jlku, jacp, vf20, vf21, vf22, vf23, vf24, u2_s, u2_k, u2_i, uc_s, uc_k, uc_c, u2_c, LI0, LI1, LI2, LI3, LI4, LI5, LI6, LI7, LI8, LI9, LI10, LI11, LI12, LI13, LI14, LI15, LI16, LI17, LI18, LI19, LI20, LI21, LI22, LI23, LI24, LI25, LI26, LI27, LI28, LI29, LI30, LI31, LI32, LI33, LI34, LI35, LI36, LI37, LI40, LI42, LI43, LI45, LI48, LI60, LI61, LI64, LI80, LI300, LI400, LI1000, LI2000, LI2001, LI2047, LI2048, LI100000, LI1000000, LM, nI_clamp, nI_pos', nI_lt, nI_nlt, nI_le, nI_ge, nI_ne, nI_add, nI_sub, mI_lt, mI_le, mI_nlt, mI_nle, mI_ne, mI_ne', mI_nem, hm, e, show i < 8 by omega, show i + 1 < 8 by omega]
    · rw [f2 j]
      by_cases c1 : j = i
      · subst c1
        rw [if_neg (by omega), u2_s, if_pos (by omega)]
      · by_cases c2 : i + 1 ≤ j ∧ j + 1 < m
        · rw [if_pos c2, if_pos (by omega), u2_i (by omega)]
        · rw [if_neg c2, if_neg (by omega), u2_i c1]
theorem okS_rot {R' : Nat → Nat → Nat} {k m : Nat} (h : okS R w) (hk : k < m) (hm : m ≤ 8) (hR : ∀ j, R' (w + 8) j = if j = m - 1 then R (w + 8) k else if k ≤ j ∧ j + 1 < m then R (w + 8) (j + 1) else R (w + 8) j) : okS R' w := by
  constructor
  · intro j hj
    rw [hR j]
    by_cases c1 : j = m - 1
    · rw [if_pos c1]; exact h.1 k (by omega)
    · rw [if_neg c1]
      by_cases c2 : k ≤ j ∧ j + 1 < m
      · rw [if_pos c2]; exact h.1 (j + 1) (by omega)
      · rw [if_neg c2]; exact h.1 j hj
  · intro j j' hj hj' he
    rw [hR j, hR j'] at he
    by_cases a1 : j = m - 1
    · rw [if_pos a1] at he
      by_cases b1 : j' = m - 1
      · omega
      · rw [if_neg b1] at he
        by_cases b2 : k ≤ j' ∧ j' + 1 < m
        · rw [if_pos b2] at he
          have := h.2 k (j' + 1) (by omega) (by omega) he
          omega
        · rw [if_neg b2] at he
          have := h.2 k j' (by omega) (by omega) he
          omega
    · rw [if_neg a1] at he
      by_cases a2 : k ≤ j ∧ j + 1 < m
      · rw [if_pos a2] at he
        by_cases b1 : j' = m - 1
        · rw [if_pos b1] at he
          have := h.2 (j + 1) k (by omega) (by omega) he
          omega
        · rw [if_neg b1] at he
          by_cases b2 : k ≤ j' ∧ j' + 1 < m
          · rw [if_pos b2] at he
            have := h.2 (j + 1) (j' + 1) (by omega) (by omega) he
            omega
          · rw [if_neg b2] at he
            have := h.2 (j + 1) j' (by omega) (by omega) he
            omega
      · rw [if_neg a2] at he
        by_cases b1 : j' = m - 1
        · rw [if_pos b1] at he
          have := h.2 j k (by omega) (by omega) he
          omega
        · rw [if_neg b1] at he
          by_cases b2 : k ≤ j' ∧ j' + 1 < m
          · rw [if_pos b2] at he
            have := h.2 j (j' + 1) (by omega) (by omega) he
            omega
          · rw [if_neg b2] at he
            exact h.2 j j' (by omega) (by omega) he
theorem wA_gone {I' : Nat → Nat → Int32} {R' : Nat → Nat → Nat} {k : Nat} {L : List (aI Nm)} (h : wA cN I R w L) (hk : k < L.length) (hR : ∀ j, R' (w + 8) j = if j = L.length - 1 then R (w + 8) k else if k ≤ j ∧ j + 1 < L.length then R (w + 8) (j + 1) else R (w + 8) j) (hi : ∀ c i, w + 9 ≤ c → c ≤ w + 72 → I' c i = I c i) (h3 : I' w 3 = nI (L.length - 1)) : wA cN I' R' w (L.eraseIdx k) := by
  have hl : (L.eraseIdx k).length = L.length - 1 := by rw [List.length_eraseIdx, if_pos hk]
  have hL8 := h.2.1
  refine ⟨okS_rot h.1 hk h.2.1 hR, by omega, by rw [hl]; exact h3, fun j c hj => ?_⟩
  have hjl := lt_of_some hj
  rw [List.getElem?_eraseIdx] at hj
  rw [hR j, if_neg (by omega)]
  by_cases c1 : j < k
  · rw [if_pos c1] at hj
    rw [if_neg (by omega)]
    have hr := okS_r h.1 (show j < 8 by omega)
    exact iC_fr (fun c i h1 h2 => hi c i (by omega) (by omega)) (h.2.2.2 j c hj)
  · rw [if_neg c1] at hj
    have hj2 := lt_of_some hj
    rw [if_pos (by omega)]
    have hr := okS_r h.1 (show j + 1 < 8 by omega)
    exact iC_fr (fun c i h1 h2 => hi c i (by omega) (by omega)) (h.2.2.2 (j + 1) c hj)
theorem cStop {k : Nat} (hm1 : cN (-1) = rN (-1)) (hw : isW w) (hW : wC cN I R w W) (hk : W.1[k]? = some a) (hd : ∀ j c, j < k → W.1[j]? = some c → ¬ c.1.1 = a.1.1) : ∃ I' R', jcall A jcode (d + 2) 138 [.ref (b + w), .ref (b + R (w + 8) k)] (jH h b X I J R n) = some (.inl none, jH h b X I' J R' n) ∧ wC cN I' R' w (aGone rN (decide (w = 57)) k W) ∧ fC w I I' ∧ ∀ c j, c ≠ w + 8 → R' c j = R c j := by
  have w1 := isW_e hw
  have k8 := wA_lt hW.1 hk
  have hkl := lt_of_some hk
  have hs := wA_I hw hW.1
  have hi := hs k k8
  have hr := okS_r hW.1.1 k8
  have hA := hW.1.2.2.2 k a hk
  obtain ⟨i0, i1, _⟩ := iC_01 hA
  have hl8 := hW.1.2.1
  obtain ⟨I1, e1, wa, f1, g1, g2⟩ := cAdd (d := d) (A := A) (b := b) (h := h) (X := X) (J := J) (n := n) (kd := 5) (id := a.1.1) (x := -1) (v := 0) (o := a.1.2.1) (pe := -2) hw hW
  have h3 : I1 w 3 = nI W.1.length := wa.1.2.2.1
  have j0 : I1 (R (w + 8) k) 0 = a.1.1 := (g1 _ _ (by omega) (by omega)).trans i0
  have ea := c138a (d := d + 1) (A := A) (b := b) (h := h) (X := X) (J := J) (n := n) (I := I1) hw hi h3 hl8 hs hkl rfl (fun j hj => by
    obtain ⟨c, hc⟩ : ∃ c, W.1[j]? = some c := ⟨_, List.getElem?_eq_getElem (by omega)⟩
    have hrj := okS_r hW.1.1 (show j < 8 by omega)
    rw [j0, g1 _ _ (by omega) (by omega), (iC_01 (hW.1.2.2.2 j c hc)).1]
    exact hd j c hj hc) k 0 (by omega) none
  obtain ⟨R1, eb, q1, q2⟩ := c138b (d := d + 1) (A := A) (b := b) (h := h) (X := X) (J := J) (n := n) (I := I1) (p0 := R (w + 8) k) (c2 := nI k) hw h3 hl8 (W.1.length - 1 - k) k R hs (by omega)
  have hR2 : ∀ j, (u2 R1 (w + 8) (W.1.length - 1) (R (w + 8) k)) (w + 8) j = if j = W.1.length - 1 then R (w + 8) k else if k ≤ j ∧ j + 1 < W.1.length then R (w + 8) (j + 1) else R (w + 8) j := by
    intro j
    by_cases c1 : j = W.1.length - 1
    · rw [if_pos c1, c1, u2_s]
    · rw [if_neg c1, u2_i c1, q2 j]
  refine ⟨u2 I1 w 3 (nI (W.1.length - 1)), u2 R1 (w + 8) (W.1.length - 1) (R (w + 8) k), ?_, ⟨?_, ?_⟩, ⟨fun c i hc => ?_, ?_⟩, fun c j hc => ?_⟩
  · simp only [LI0, LI1, LI2, LI3, LI4, LI5, LI6, LI7, LI8, LI9, LI10, LI11, LI12, LI13, LI14, LI15, LI16, LI17, LI18, LI19, LI20, LI21, LI22, LI23, LI24, LI25, LI26, LI27, LI28, LI29, LI30, LI31, LI32, LI33, LI34, LI35, LI36, LI37, LI40, LI42, LI43, LI45, LI48, LI60, LI61, LI64, LI80, LI300, LI400, LI1000, LI2000, LI2001, LI2047, LI2048, LI100000, LI1000000, LM] at e1
    simp (disch := omega) [je138, r138_0, r138_1, r138_4, r138_5, r138_6, r138_9, r138_10, r138_11, r138_12, r138_15, r138_17, r138_20, r138_21, r138_23, r138_24, r138_27, r138_30, r138_31, r138_33, r138_36, r138_37, r138_40, r138_41, r138_42, r138_45, r138_46, r138_49, r138_52, r138_55, r138_58, r138_59, r138_60, r138_63, r138_66, r138_67, r138_70, r138_72, r138_75, r138_76, r138_77, r138_79, r138_80, r138_81, r138_82, r138_85, r138_88, r138_89, r138_92, r138_93, r138_94, r138_97, r138_98, r138_99, r138_100, r138_101, r138_102, r138_105, r138_108, r138_109, r138_110, r138_113, r138_114, r138_115, r138_118, r138_119, r138_122, r138_123, r138_126, r138_127, r138_128, gW0 hw, vf9_1, tW0_1 hw, gI0 hi, vf2_0, vf2_1, qa102, qo102, gW1 hw, vf9_3, vf9_2, tW0_2 hw, gW8 hw, pW8 hw, pW0_3 hw, ty9_3, List.getElem?_cons_zero, List.getElem?_cons_succ, List.length_cons, List.length_nil, ag_nx, ag_dn, ag_no, ag_if, jbr1, jbr2, jc1, jc2, jnul, jld, jsto, jstoL, jst1, jst2, jkill, jinc, jbI, jbL, jbS, juI, jl2i, jcmp, jisR, jisI, jisL, jret, jretv, jfits, jdup, jdup2, jpop, jmm, jcat, Value.category, jinv, jrcv, jthr, jhd, jput, jget, jlen, jald, jast, jaast, jgI, jgL, jgB, jtab, jlku, jacp, vf20, vf21, vf22, vf23, vf24, u2_s, u2_k, u2_i, uc_s, uc_k, uc_c, u2_c, LI0, LI1, LI2, LI3, LI4, LI5, LI6, LI7, LI8, LI9, LI10, LI11, LI12, LI13, LI14, LI15, LI16, LI17, LI18, LI19, LI20, LI21, LI22, LI23, LI24, LI25, LI26, LI27, LI28, LI29, LI30, LI31, LI32, LI33, LI34, LI35, LI36, LI37, LI40, LI42, LI43, LI45, LI48, LI60, LI61, LI64, LI80, LI300, LI400, LI1000, LI2000, LI2001, LI2047, LI2048, LI100000, LI1000000, LM, nI_clamp, nI_pos', nI_lt, nI_nlt, nI_le, nI_ge, nI_ne, nI_add, nI_sub, mI_lt, mI_le, mI_nlt, mI_nle, mI_ne, mI_ne', mI_nem, e1, i0, i1, ea, eb, h3, hkl, show k < W.1.length by omega, show W.1.length - 1 < 8 by omega]
  · refine wA_gone (I' := u2 I1 w 3 (nI (W.1.length - 1))) hW.1 hkl hR2 (fun c i a1 a2 => ?_) u2_s
    rw [u2_k (by omega)]
    exact g1 c i a1 a2
  · have hx : ¬ (((5 : Int32) = 0 ∨ (5 : Int32) = 1) ∧ ¬ (-2 : Int32) = -2) := by simp
    rw [if_neg hx, hm1] at wa
    have ht := tC_fr (I' := u2 I1 w 3 (nI (W.1.length - 1))) (fun c i a1 a2 => by rw [u2_k (by omega)]) (fun i a1 a2 => by rw [u2_i (by omega)]) wa.2
    unfold aGone
    rw [aAt_of hk]
    exact ht
  · rw [u2_k (by omega)]
    exact f1.1 c i hc
  · rw [u2_i (by omega)]
    exact f1.2
  · rw [u2_k hc]
    exact q1 c j hc
end CN
