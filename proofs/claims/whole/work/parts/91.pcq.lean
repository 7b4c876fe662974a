/-! the class: timers are set and reset; instances are made -/
section CQ
variable {A : Nat → Nat} {d b n w P p : Nat} {h : Nat → Option jC} {X : jXX} {I : Nat → Nat → Int32} {J : Nat → Nat → Int64} {R : Nat → Nat → Nat} {cN rN : Int32 → Nm} {a : aI Nm} {W : aW Nm}
theorem aTm_lt {x : Nm} {i : Nat} (h : aTm x a = some i) : i < a.2.2.2.length := by
  unfold aTm at h
  exact (List.findIdx?_eq_some_iff_getElem.mp h).1
theorem iReset {x : Int32} (hi : isI p) (hj : ∀ x y, cN x = cN y → x = y) (hA : iC cN I p a) (hQ : a.2.2.1.length ≤ 8) (hT : a.2.2.2.length ≤ 4) : ∃ I', jcall A jcode (d + 2) 23 [.ref (b + p), .int x] (jH h b X I J R n) = some (.inl none, jH h b X I' J R n) ∧ iC cN I' p (aReset (cN x) a) ∧ onI p I I' := by
  have e0 := cTm (d := d) (A := A) (b := b) (h' := h) (X := X) (J := J) (R := R) (n := n) (x := x) hi hj hA hT
  cases ht : aTm (cN x) a with
  | none =>
    rw [ht] at e0
    simp only [inO] at e0
    simp only [LI0, LI1, LI2, LI3, LI4, LI5, LI6, LI7, LI8, LI9, LI10, LI11, LI12, LI13, LI14, LI15, LI16, LI17, LI18, LI19, LI20, LI21, LI22, LI23, LI24, LI25, LI26, LI27, LI28, LI29, LI30, LI31, LI32, LI33, LI34, LI35, LI36, LI37, LI40, LI42, LI43, LI45, LI48, LI60, LI61, LI64, LI80, LI300, LI400, LI1000, LI2000, LI2001, LI2047, LI2048, LI100000, LI1000000, LM] at e0
    have e1 := c22n (d := d) (A := A) (b := b) (h := h) (X := X) (J := J) (R := R) (n := n) (I := I) hi
    simp only [LI0, LI1, LI2, LI3, LI4, LI5, LI6, LI7, LI8, LI9, LI10, LI11, LI12, LI13, LI14, LI15, LI16, LI17, LI18, LI19, LI20, LI21, LI22, LI23, LI24, LI25, LI26, LI27, LI28, LI29, LI30, LI31, LI32, LI33, LI34, LI35, LI36, LI37, LI40, LI42, LI43, LI45, LI48, LI60, LI61, LI64, LI80, LI300, LI400, LI1000, LI2000, LI2001, LI2047, LI2048, LI100000, LI1000000, LM] at e1
    obtain ⟨I2, e2, hA2, o2⟩ := c23l (d := d) (A := A) (b := b) (h' := h) (X := X) (J := J) (R := R) (n := n) (x := x) hi hj a.2.2.1.length I a hA hQ (by omega)
    rw [cln_all] at hA2
    refine ⟨I2, ?_, ?_, o2⟩
    · simp only [LI0, LI1, LI2, LI3, LI4, LI5, LI6, LI7, LI8, LI9, LI10, LI11, LI12, LI13, LI14, LI15, LI16, LI17, LI18, LI19, LI20, LI21, LI22, LI23, LI24, LI25, LI26, LI27, LI28, LI29, LI30, LI31, LI32, LI33, LI34, LI35, LI36, LI37, LI40, LI42, LI43, LI45, LI48, LI60, LI61, LI64, LI80, LI300, LI400, LI1000, LI2000, LI2001, LI2047, LI2048, LI100000, LI1000000, LM] at e2
      by_cases h8 : a.2.2.1.length = 8
      · rw [h8] at e2
        simp (disch := omega) [je23, r23_0, r23_1, r23_2, r23_3, r23_6, r23_9, r23_10, r23_13, r23_15, r23_18, r23_19, r23_20, r23_22, r23_25, r23_26, r23_29, r23_30, r23_31, r23_32, r23_35, r23_36, r23_39, r23_40, r23_41, r23_42, r23_45, r23_48, r23_49, r23_50, r23_53, r23_56, r23_59, qa20, qo20, gI0 hi, qa22, qo22, vf2_7, vf2_8, tI0_8 hi, gI2 hi, vf2_10, tI0_10 hi, gI4 hi, vf2_0, qa19, qo19, List.getElem?_cons_zero, List.getElem?_cons_succ, List.length_cons, List.length_nil, ag_nx, ag_dn, ag_no, ag_if, jbr1, jbr2, jc1, jc2, jnul, jld, jsto, jstoL, jst1, jst2, jkill, jinc, jbI, jbL, jbS, juI, jl2i, jcmp, jisR, jisI, jisL, jret, jretv, jfits, jdup, jdup2, jpop, jmm, jcat, Value.category, jinv, jrcv, jthr, jhd, jput, jget, jlen, jald, jast, jaast, jgI, jgL, jgB, jtab, jlku, jacp, vf20, vf21, vf22, vf23, vf24, u2_s, u2_k, u2_i, uc_s, uc_k, uc_c, u2_c, LI0, LI1, LI2, LI3, LI4, LI5, LI6, LI7, LI8, LI9, LI10, LI11, LI12, LI13, LI14, LI15, LI16, LI17, LI18, LI19, LI20, LI21, LI22, LI23, LI24, LI25, LI26, LI27, LI28, LI29, LI30, LI31, LI32, LI33, LI34, LI35, LI36, LI37, LI40, LI42, LI43, LI45, LI48, LI60, LI61, LI64, LI80, LI300, LI400, LI1000, LI2000, LI2001, LI2047, LI2048, LI100000, LI1000000, LM, nI_clamp, nI_pos', nI_lt, nI_nlt, nI_le, nI_ge, nI_ne, nI_add, nI_sub, mI_lt, mI_le, mI_nlt, mI_nle, mI_ne, mI_ne', mI_nem, e0, e1, hA.2.2.1, h8]
        simpa (disch := omega) [LI0, LI1, LI2, LI3, LI4, LI5, LI6, LI7, LI8, LI9, LI10, LI11, LI12, LI13, LI14, LI15, LI16, LI17, LI18, LI19, LI20, LI21, LI22, LI23, LI24, LI25, LI26, LI27, LI28, LI29, LI30, LI31, LI32, LI33, LI34, LI35, LI36, LI37, LI40, LI42, LI43, LI45, LI48, LI60, LI61, LI64, LI80, LI300, LI400, LI1000, LI2000, LI2001, LI2047, LI2048, LI100000, LI1000000, LM, nI_clamp, nI_pos', nI_lt, nI_nlt, nI_le, nI_ge, nI_ne, nI_add, nI_sub, mI_lt, mI_le, mI_nlt, mI_nle, mI_ne, mI_ne', mI_nem] using e2
      · simp (disch := omega) [je23, r23_0, r23_1, r23_2, r23_3, r23_6, r23_9, r23_10, r23_13, r23_15, r23_18, r23_19, r23_20, r23_22, r23_25, r23_26, r23_29, r23_30, r23_31, r23_32, r23_35, r23_36, r23_39, r23_40, r23_41, r23_42, r23_45, r23_48, r23_49, r23_50, r23_53, r23_56, r23_59, qa20, qo20, gI0 hi, qa22, qo22, vf2_7, vf2_8, tI0_8 hi, gI2 hi, vf2_10, tI0_10 hi, gI4 hi, vf2_0, qa19, qo19, List.getElem?_cons_zero, List.getElem?_cons_succ, List.length_cons, List.length_nil, ag_nx, ag_dn, ag_no, ag_if, jbr1, jbr2, jc1, jc2, jnul, jld, jsto, jstoL, jst1, jst2, jkill, jinc, jbI, jbL, jbS, juI, jl2i, jcmp, jisR, jisI, jisL, jret, jretv, jfits, jdup, jdup2, jpop, jmm, jcat, Value.category, jinv, jrcv, jthr, jhd, jput, jget, jlen, jald, jast, jaast, jgI, jgL, jgB, jtab, jlku, jacp, vf20, vf21, vf22, vf23, vf24, u2_s, u2_k, u2_i, uc_s, uc_k, uc_c, u2_c, LI0, LI1, LI2, LI3, LI4, LI5, LI6, LI7, LI8, LI9, LI10, LI11, LI12, LI13, LI14, LI15, LI16, LI17, LI18, LI19, LI20, LI21, LI22, LI23, LI24, LI25, LI26, LI27, LI28, LI29, LI30, LI31, LI32, LI33, LI34, LI35, LI36, LI37, LI40, LI42, LI43, LI45, LI48, LI60, LI61, LI64, LI80, LI300, LI400, LI1000, LI2000, LI2001, LI2047, LI2048, LI100000, LI1000000, LM, nI_clamp, nI_pos', nI_lt, nI_nlt, nI_le, nI_ge, nI_ne, nI_add, nI_sub, mI_lt, mI_le, mI_nlt, mI_nle, mI_ne, mI_ne', mI_nem, e0, e1, hA.2.2.1]
        exact e2
    · unfold aReset aClean
      rw [ht]
      exact hA2
  | some i =>
    have hil := aTm_lt ht
    rw [ht] at e0
    simp only [inO] at e0
    obtain ⟨I1, e1, hA1, o1⟩ := cDropT (d := d) (A := A) (b := b) (h' := h) (X := X) (J := J) (R := R) (n := n) (i := i) hi hA hT hil
    obtain ⟨I2, e2, hA2, o2⟩ := c23l (d := d) (A := A) (b := b) (h' := h) (X := X) (J := J) (R := R) (n := n) (x := x) hi hj a.2.2.1.length I1 (aDropT i a) hA1 hQ (Nat.le_refl _)
    have hq1 : I1 p 7 = nI a.2.2.1.length := hA1.2.2.1
    refine ⟨I2, ?_, ?_, fun c j hc => (o2 c j hc).trans (o1 c j hc)⟩
    · simp only [LI0, LI1, LI2, LI3, LI4, LI5, LI6, LI7, LI8, LI9, LI10, LI11, LI12, LI13, LI14, LI15, LI16, LI17, LI18, LI19, LI20, LI21, LI22, LI23, LI24, LI25, LI26, LI27, LI28, LI29, LI30, LI31, LI32, LI33, LI34, LI35, LI36, LI37, LI40, LI42, LI43, LI45, LI48, LI60, LI61, LI64, LI80, LI300, LI400, LI1000, LI2000, LI2001, LI2047, LI2048, LI100000, LI1000000, LM] at e2
      by_cases h8 : a.2.2.1.length = 8
      · rw [h8] at e2
        simp (disch := omega) [je23, r23_0, r23_1, r23_2, r23_3, r23_6, r23_9, r23_10, r23_13, r23_15, r23_18, r23_19, r23_20, r23_22, r23_25, r23_26, r23_29, r23_30, r23_31, r23_32, r23_35, r23_36, r23_39, r23_40, r23_41, r23_42, r23_45, r23_48, r23_49, r23_50, r23_53, r23_56, r23_59, qa20, qo20, gI0 hi, qa22, qo22, vf2_7, vf2_8, tI0_8 hi, gI2 hi, vf2_10, tI0_10 hi, gI4 hi, vf2_0, qa19, qo19, List.getElem?_cons_zero, List.getElem?_cons_succ, List.length_cons, List.length_nil, ag_nx, ag_dn, ag_no, ag_if, jbr1, jbr2, jc1, jc2, jnul, jld, jsto, jstoL, jst1, jst2, jkill, jinc, jbI, jbL, jbS, juI, jl2i, jcmp, jisR, jisI, jisL, jret, jretv, jfits, jdup, jdup2, jpop, jmm, jcat, Value.category, jinv, jrcv, jthr, jhd, jput, jget, jlen, jald, jast, jaast, jgI, jgL, jgB, jtab, jlku, jacp, vf20, vf21, vf22, vf23, vf24, u2_s, u2_k, u2_i, uc_s, uc_k, uc_c, u2_c, LI0, LI1, LI2, LI3, LI4, LI5, LI6, LI7, LI8, LI9, LI10, LI11, LI12, LI13, LI14, LI15, LI16, LI17, LI18, LI19, LI20, LI21, LI22, LI23, LI24, LI25, LI26, LI27, LI28, LI29, LI30, LI31, LI32, LI33, LI34, LI35, LI36, LI37, LI40, LI42, LI43, LI45, LI48, LI60, LI61, LI64, LI80, LI300, LI400, LI1000, LI2000, LI2001, LI2047, LI2048, LI100000, LI1000000, LM, nI_clamp, nI_pos', nI_lt, nI_nlt, nI_le, nI_ge, nI_ne, nI_add, nI_sub, mI_lt, mI_le, mI_nlt, mI_nle, mI_ne, mI_ne', mI_nem, e0, e1, hq1, h8]
        simpa (disch := omega) [LI0, LI1, LI2, LI3, LI4, LI5, LI6, LI7, LI8, LI9, LI10, LI11, LI12, LI13, LI14, LI15, LI16, LI17, LI18, LI19, LI20, LI21, LI22, LI23, LI24, LI25, LI26, LI27, LI28, LI29, LI30, LI31, LI32, LI33, LI34, LI35, LI36, LI37, LI40, LI42, LI43, LI45, LI48, LI60, LI61, LI64, LI80, LI300, LI400, LI1000, LI2000, LI2001, LI2047, LI2048, LI100000, LI1000000, LM, nI_clamp, nI_pos', nI_lt, nI_nlt, nI_le, nI_ge, nI_ne, nI_add, nI_sub, mI_lt, mI_le, mI_nlt, mI_nle, mI_ne, mI_ne', mI_nem] using e2
      · simp (disch := omega) [je23, r23_0, r23_1, r23_2, r23_3, r23_6, r23_9, r23_10, r23_13, r23_15, r23_18, r23_19, r23_20, r23_22, r23_25, r23_26, r23_29, r23_30, r23_31, r23_32, r23_35, r23_36, r23_39, r23_40, r23_41, r23_42, r23_45, r23_48, r23_49, r23_50, r23_53, r23_56, r23_59, qa20, qo20, gI0 hi, qa22, qo22, vf2_7, vf2_8, tI0_8 hi, gI2 hi, vf2_10, tI0_10 hi, gI4 hi, vf2_0, qa19, qo19, List.getElem?_cons_zero, List.getElem?_cons_succ, List.length_cons, List.length_nil, ag_nx, ag_dn, ag_no, ag_if, jbr1, jbr2, jc1, jc2, jnul, jld, jsto, jstoL, jst1, jst2, jkill, jinc, jbI, jbL, jbS, juI, jl2i, jcmp, jisR, jisI, jisL, jret, jretv, jfits, jdup, jdup2, jpop, jmm, jcat, Value.category, jinv, jrcv, jthr, jhd, jput, jget, jlen, jald, jast, jaast, jgI, jgL, jgB, jtab, jlku, jacp, vf20, vf21, vf22, vf23, vf24, u2_s, u2_k, u2_i, uc_s, uc_k, uc_c, u2_c, LI0, LI1, LI2, LI3, LI4, LI5, LI6, LI7, LI8, LI9, LI10, LI11, LI12, LI13, LI14, LI15, LI16, LI17, LI18, LI19, LI20, LI21, LI22, LI23, LI24, LI25, LI26, LI27, LI28, LI29, LI30, LI31, LI32, LI33, LI34, LI35, LI36, LI37, LI40, LI42, LI43, LI45, LI48, LI60, LI61, LI64, LI80, LI300, LI400, LI1000, LI2000, LI2001, LI2047, LI2048, LI100000, LI1000000, LM, nI_clamp, nI_pos', nI_lt, nI_nlt, nI_le, nI_ge, nI_ne, nI_add, nI_sub, mI_lt, mI_le, mI_nlt, mI_nle, mI_ne, mI_ne', mI_nem, e0, e1, hq1]
        exact e2
    · unfold aReset aClean
      rw [ht]
      simp only
      have hA3 : iC cN I2 p ((aDropT i a).1, (aDropT i a).2.1, cln (fun s => !(decide (s.1 = cN x) && decide (s.2.2.1 = (aDropT i a).1.1))) (aDropT i a).2.2.1.length (aDropT i a).2.2.1, (aDropT i a).2.2.2) := hA2
      rw [cln_all] at hA3
      exact hA3
theorem wC_put {k : Nat} {a' : aI Nm} {I' : Nat → Nat → Int32} (hw : isW w) (hW : wC cN I R w W) (hk : k < W.1.length) (ho : onI (R (w + 8) k) I I') (ha : iC cN I' (R (w + 8) k) a') : wC cN I' R w (aPut k a' W) ∧ fC w I I' ∧ ∀ i, I' w i = I w i := by
  have k8 : k < 8 := by have := hW.1.2.1; omega
  have hr := okS_r hW.1.1 k8
  refine ⟨⟨wA_put hW.1 hk (fun c i h1 h2 h3 => ho c i h3) (ho w 3 (by omega)) ha, tC_fr (fun c i h1 h2 => ho c i (by omega)) (fun i h1 h2 => ho w i (by omega)) hW.2⟩, ⟨fun c i hc => ho c i (by omega), ho w 10 (by omega)⟩, fun i => ho w i (by omega)⟩
theorem cReset {k : Nat} {x : Int32} (hw : isW w) (hj : ∀ x y, cN x = cN y → x = y) (hW : wC cN I R w W) (ok : okL W.1) (hk : W.1[k]? = some a) : ∃ I', jcall A jcode (d + 2) 23 [.ref (b + R (w + 8) k), .int x] (jH h b X I J R n) = some (.inl none, jH h b X I' J R n) ∧ wC cN I' R w (aPut k (aReset (cN x) a) W) ∧ fC w I I' ∧ ∀ i, I' w i = I w i := by
  have k8 := wA_lt hW.1 hk
  obtain ⟨o1, o2, o3, _⟩ := ok k a hk
  obtain ⟨I1, e1, hA1, on1⟩ := iReset (d := d) (A := A) (b := b) (h := h) (X := X) (J := J) (R := R) (n := n) (x := x) (wA_I hw hW.1 k k8) hj (hW.1.2.2.2 k a hk) o2 o3
  obtain ⟨w1, f1, g1⟩ := wC_put hw hW (lt_of_some hk) on1 hA1
  exact ⟨I1, e1, w1, f1, g1⟩
theorem iC_addT {x v : Int32} (hA : iC cN I p a) : iC cN (u2 (u2 (u2 I (p + 6) a.2.2.2.length x) (p + 7) a.2.2.2.length v) p 12 (nI (a.2.2.2.length + 1))) p (a.1, a.2.1, a.2.2.1, a.2.2.2 ++ [(cN x, v)]) := by
  obtain ⟨h1, h2, h3, h4, h5, h6⟩ := hA
  refine ⟨?_, ?_, ?_, ?_, ?_, ?_⟩
  · simp (disch := omega) [u2_k, u2_i, h1]
  · refine h2.trans (rl_congr fun j hj => ?_)
    simp (disch := omega) [u2_k]
  · simp (disch := omega) [u2_k, u2_i, h3]
  · refine h4.trans (rl_congr fun j hj => ?_)
    simp (disch := omega) [u2_k]
  · simp [u2_s]
  · show a.2.2.2 ++ _ = rl _ (a.2.2.2 ++ [_]).length
    rw [List.length_append]
    show _ = rl _ (a.2.2.2.length + 1)
    rw [rl_push]
    congr 1
    · refine h6.trans (rl_congr fun j hj => ?_)
      simp (disch := omega) [u2_k, u2_i]
    · simp (disch := omega) [u2_k, u2_s]
theorem aWait_c (v : Int32) : (if (0 : Int32) < (if (1000000 : Int32) < v then 1000000 else v) then (if (1000000 : Int32) < v then 1000000 else v) else 0) = aWait v := by
  unfold aWait
  by_cases h1 : (1000000 : Int32) < v
  · have h2 : ¬ v < 1 := by
      rw [Int32.lt_iff_toInt_lt] at h1 ⊢
      have e1 : (1000000 : Int32).toInt = 1000000 := by decide
      have e2 : (1 : Int32).toInt = 1 := by decide
      omega
    rw [if_pos h1, if_pos (by decide), if_neg h2]
  · rw [if_neg h1]
    by_cases h3 : v < 1
    · rw [if_pos h3]
      have h4 : ¬ (0 : Int32) < v := by
        rw [Int32.lt_iff_toInt_lt] at h3 ⊢
        have e1 : (0 : Int32).toInt = 0 := by decide
        have e2 : (1 : Int32).toInt = 1 := by decide
        omega
      rw [if_neg h4]
    · rw [if_neg h3]
      have h4 : (0 : Int32) < v := by
        rw [Int32.lt_iff_toInt_lt] at h3 ⊢
        have e1 : (0 : Int32).toInt = 0 := by decide
        have e2 : (1 : Int32).toInt = 1 := by decide
        omega
      rw [if_pos h4]
theorem aPut_put {k : Nat} {a a' : aI Nm} : aPut k a' (aPut k a W) = aPut k a' W := by
  unfold aPut
  simp
theorem aPut_at {k : Nat} {a : aI Nm} (hk : k < W.1.length) : (aPut k a W).1[k]? = some a := by
  unfold aPut
  simp [hk]
theorem aPut_self {k : Nat} (hk : W.1[k]? = some a) : aPut k a W = W := by
  unfold aPut
  have e : W.1.set k a = W.1 := by
    apply List.ext_getElem?
    intro i
    rw [List.getElem?_set]
    by_cases e : k = i
    · subst e
      rw [if_pos rfl, if_pos (lt_of_some hk), hk]
    · rw [if_neg e]
  rw [e]
theorem cSet {k : Nat} {x v : Int32} (hw : isW w) (hj : ∀ x y, cN x = cN y → x = y) (hW : wC cN I R w W) (ok : okL W.1) (hk : W.1[k]? = some a) : ∃ I', jcall A jcode (d + 3) 135 [.ref (b + w), .ref (b + R (w + 8) k), .int x, .int v] (jH h b X I J R n) = some (.inl none, jH h b X I' J R n) ∧ wC cN I' R w (aSetT (decide (w = 57)) k (cN x) v W) ∧ fC w I I' := by
  have k8 := wA_lt hW.1 hk
  have hkl := lt_of_some hk
  have hi := wA_I hw hW.1 k k8
  have hr := okS_r hW.1.1 k8
  obtain ⟨o1, o2, o3, _⟩ := ok k a hk
  have hA := hW.1.2.2.2 k a hk
  have e0 := cTm (d := d + 1) (A := A) (b := b) (h' := h) (X := X) (J := J) (R := R) (n := n) (x := x) hi hj hA o3
  -- what is there once it is reset
  obtain ⟨I1, a1, hp, wa1, oo1, ea1, ll1⟩ : ∃ I1 a1, (∀ (c4 : Option Value) (L : Int32 → jL), M135 A (d + 2) 5 [some (.ref (b + w)), some (.ref (b + R (w + 8) k)), some (.int x), some (.int v), c4] [.int (inO (aTm (cN x) a))] (jH h b X I J R n) = M135 A (d + 2) 13 [some (.ref (b + w)), some (.ref (b + R (w + 8) k)), some (.int x), some (.int v), c4] [] (jH h b X I1 J R n)) ∧ iC cN I1 (R (w + 8) k) a1 ∧ onI (R (w + 8) k) I I1 ∧ a1 = (if (aTm (cN x) a).isSome = true then aReset (cN x) a else a) ∧ a1.2.2.2.length ≤ 4 := by
    cases ht : aTm (cN x) a with
    | none =>
      refine ⟨I, a, fun c4 L => ?_, hA, fun _ _ _ => rfl, rfl, o3⟩
      rw [r135_5]
      simp (disch := omega) [r135_0, r135_1, r135_2, r135_5, r135_8, r135_9, r135_10, r135_14, r135_17, r135_18, r135_19, r135_22, r135_25, r135_28, r135_29, r135_31, r135_32, r135_33, r135_35, r135_38, r135_41, r135_42, r135_43, r135_46, r135_47, r135_48, r135_51, qa20, qo20, gI0 hi, qa23, qo23, gW0 hw, vf9_5, qa21, qo21, vf2_0, qa134, qo134, List.getElem?_cons_zero, List.getElem?_cons_succ, List.length_cons, List.length_nil, ag_nx, ag_dn, ag_no, ag_if, jbr1, jbr2, jc1, jc2, jnul, jld, jsto, jstoL, jst1, jst2, jkill, jinc, jbI, jbL, jbS, juI, jl2i, jcmp, jisR, jisI, jisL, jret, jretv, jfits, jdup, jdup2, jpop, jmm, jcat, Value.category, jinv, jrcv, jthr, jhd, jput, jget, jlen, jald, jast, jaast, jgI, jgL, jgB, jtab, jlku, jacp, vf20, vf21, vf22, vf23, vf24, u2_s, u2_k, u2_i, uc_s, uc_k, uc_c, u2_c, LI0, LI1, LI2, LI3, LI4, LI5, LI6, LI7, LI8, LI9, LI10, LI11, LI12, LI13, LI14, LI15, LI16, LI17, LI18, LI19, LI20, LI21, LI22, LI23, LI24, LI25, LI26, LI27, LI28, LI29, LI30, LI31, LI32, LI33, LI34, LI35, LI36, LI37, LI40, LI42, LI43, LI45, LI48, LI60, LI61, LI64, LI80, LI300, LI400, LI1000, LI2000, LI2001, LI2047, LI2048, LI100000, LI1000000, LM, nI_clamp, nI_pos', nI_lt, nI_nlt, nI_le, nI_ge, nI_ne, nI_add, nI_sub, mI_lt, mI_le, mI_nlt, mI_nle, mI_ne, mI_ne', mI_nem, inO]
    | some i =>
      have hil := aTm_lt ht
      obtain ⟨I1, e1, hA1, on1⟩ := iReset (d := d) (A := A) (b := b) (h := h) (X := X) (J := J) (R := R) (n := n) (x := x) hi hj hA o2 o3
      refine ⟨I1, _, fun c4 L => ?_, hA1, on1, rfl, ?_⟩
      · rw [r135_5]
        simp (disch := omega) [r135_0, r135_1, r135_2, r135_5, r135_8, r135_9, r135_10, r135_14, r135_17, r135_18, r135_19, r135_22, r135_25, r135_28, r135_29, r135_31, r135_32, r135_33, r135_35, r135_38, r135_41, r135_42, r135_43, r135_46, r135_47, r135_48, r135_51, qa20, qo20, gI0 hi, qa23, qo23, gW0 hw, vf9_5, qa21, qo21, vf2_0, qa134, qo134, List.getElem?_cons_zero, List.getElem?_cons_succ, List.length_cons, List.length_nil, ag_nx, ag_dn, ag_no, ag_if, jbr1, jbr2, jc1, jc2, jnul, jld, jsto, jstoL, jst1, jst2, jkill, jinc, jbI, jbL, jbS, juI, jl2i, jcmp, jisR, jisI, jisL, jret, jretv, jfits, jdup, jdup2, jpop, jmm, jcat, Value.category, jinv, jrcv, jthr, jhd, jput, jget, jlen, jald, jast, jaast, jgI, jgL, jgB, jtab, jlku, jacp, vf20, vf21, vf22, vf23, vf24, u2_s, u2_k, u2_i, uc_s, uc_k, uc_c, u2_c, LI0, LI1, LI2, LI3, LI4, LI5, LI6, LI7, LI8, LI9, LI10, LI11, LI12, LI13, LI14, LI15, LI16, LI17, LI18, LI19, LI20, LI21, LI22, LI23, LI24, LI25, LI26, LI27, LI28, LI29, LI30, LI31, LI32, LI33, LI34, LI35, LI36, LI37, LI40, LI42, LI43, LI45, LI48, LI60, LI61, LI64, LI80, LI300, LI400, LI1000, LI2000, LI2001, LI2047, LI2048, LI100000, LI1000000, LM, nI_clamp, nI_pos', nI_lt, nI_nlt, nI_le, nI_ge, nI_ne, nI_add, nI_sub, mI_lt, mI_le, mI_nlt, mI_nle, mI_ne, mI_ne', mI_nem, inO, e1]
      · unfold aReset
        rw [ht]
        show (a.2.2.2.eraseIdx i).length ≤ 4
        rw [List.length_eraseIdx, if_pos hil]
        omega
  have hp' := hp none (fun _ => [])
  obtain ⟨w1, f1, g1⟩ := wC_put hw hW hkl oo1 wa1
  have hk1 : (aPut k a1 W).1[k]? = some a1 := aPut_at hkl
  have h5 : I1 w 5 = W.2.1.2.1 := (g1 5).trans hW.2.2.1
  have hmx : ∀ (y : Int32), I1 w 5 = y → M135 A (d + 2) 13 [some (.ref (b + w)), some (.ref (b + R (w + 8) k)), some (.int x), some (.int v), none] [] (jH h b X I1 J R n) = M135 A (d + 2) 31 [some (.ref (b + w)), some (.ref (b + R (w + 8) k)), some (.int x), some (.int v), some (.int (y + aWait v))] [] (jH h b X I1 J R n) := by
    intro y hy
    have ew := aWait_c v
    simp only [LI0, LI1, LI2, LI3, LI4, LI5, LI6, LI7, LI8, LI9, LI10, LI11, LI12, LI13, LI14, LI15, LI16, LI17, LI18, LI19, LI20, LI21, LI22, LI23, LI24, LI25, LI26, LI27, LI28, LI29, LI30, LI31, LI32, LI33, LI34, LI35, LI36, LI37, LI40, LI42, LI43, LI45, LI48, LI60, LI61, LI64, LI80, LI300, LI400, LI1000, LI2000, LI2001, LI2047, LI2048, LI100000, LI1000000, LM] at ew
    rw [← ew, r135_13]
    by_cases c1 : nI 1000000 < v
    · simp (disch := omega) [r135_0, r135_1, r135_2, r135_5, r135_8, r135_9, r135_10, r135_14, r135_17, r135_18, r135_19, r135_22, r135_25, r135_28, r135_29, r135_32, r135_33, r135_35, r135_38, r135_41, r135_42, r135_43, r135_46, r135_47, r135_48, r135_51, qa20, qo20, gI0 hi, qa23, qo23, gW0 hw, vf9_5, qa21, qo21, vf2_0, qa134, qo134, List.getElem?_cons_zero, List.getElem?_cons_succ, List.length_cons, List.length_nil, ag_nx, ag_dn, ag_no, ag_if, jbr1, jbr2, jc1, jc2, jnul, jld, jsto, jstoL, jst1, jst2, jkill, jinc, jbI, jbL, jbS, juI, jl2i, jcmp, jisR, jisI, jisL, jret, jretv, jfits, jdup, jdup2, jpop, jmm, jcat, Value.category, jinv, jrcv, jthr, jhd, jput, jget, jlen, jald, jast, jaast, jgI, jgL, jgB, jtab, jlku, jacp, vf20, vf21, vf22, vf23, vf24, u2_s, u2_k, u2_i, uc_s, uc_k, uc_c, u2_c, LI0, LI1, LI2, LI3, LI4, LI5, LI6, LI7, LI8, LI9, LI10, LI11, LI12, LI13, LI14, LI15, LI16, LI17, LI18, LI19, LI20, LI21, LI22, LI23, LI24, LI25, LI26, LI27, LI28, LI29, LI30, LI31, LI32, LI33, LI34, LI35, LI36, LI37, LI40, LI42, LI43, LI45, LI48, LI60, LI61, LI64, LI80, LI300, LI400, LI1000, LI2000, LI2001, LI2047, LI2048, LI100000, LI1000000, LM, nI_clamp, nI_pos', nI_lt, nI_nlt, nI_le, nI_ge, nI_ne, nI_add, nI_sub, mI_lt, mI_le, mI_nlt, mI_nle, mI_ne, mI_ne', mI_nem, hy, c1]
    · by_cases c2 : nI 0 < v
      · simp (disch := omega) [r135_0, r135_1, r135_2, r135_5, r135_8, r135_9, r135_10, r135_14, r135_17, r135_18, r135_19, r135_22, r135_25, r135_28, r135_29, r135_32, r135_33, r135_35, r135_38, r135_41, r135_42, r135_43, r135_46, r135_47, r135_48, r135_51, qa20, qo20, gI0 hi, qa23, qo23, gW0 hw, vf9_5, qa21, qo21, vf2_0, qa134, qo134, List.getElem?_cons_zero, List.getElem?_cons_succ, List.length_cons, List.length_nil, ag_nx, ag_dn, ag_no, ag_if, jbr1, jbr2, jc1, jc2, jnul, jld, jsto, jstoL, jst1, jst2, jkill, jinc, jbI, jbL, jbS, juI, jl2i, jcmp, jisR, jisI, jisL, jret, jretv, jfits, jdup, jdup2, jpop, jmm, jcat, Value.category, jinv, jrcv, jthr, jhd, jput, jget, jlen, jald, jast, jaast, jgI, jgL, jgB, jtab, jlku, jacp, vf20, vf21, vf22, vf23, vf24, u2_s, u2_k, u2_i, uc_s, uc_k, uc_c, u2_c, LI0, LI1, LI2, LI3, LI4, LI5, LI6, LI7, LI8, LI9, LI10, LI11, LI12, LI13, LI14, LI15, LI16, LI17, LI18, LI19, LI20, LI21, LI22, LI23, LI24, LI25, LI26, LI27, LI28, LI29, LI30, LI31, LI32, LI33, LI34, LI35, LI36, LI37, LI40, LI42, LI43, LI45, LI48, LI60, LI61, LI64, LI80, LI300, LI400, LI1000, LI2000, LI2001, LI2047, LI2048, LI100000, LI1000000, LM, nI_clamp, nI_pos', nI_lt, nI_nlt, nI_le, nI_ge, nI_ne, nI_add, nI_sub, mI_lt, mI_le, mI_nlt, mI_nle, mI_ne, mI_ne', mI_nem, hy, c1, c2]
      · simp (disch := omega) [r135_0, r135_1, r135_2, r135_5, r135_8, r135_9, r135_10, r135_14, r135_17, r135_18, r135_19, r135_22, r135_25, r135_28, r135_29, r135_32, r135_33, r135_35, r135_38, r135_41, r135_42, r135_43, r135_46, r135_47, r135_48, r135_51, qa20, qo20, gI0 hi, qa23, qo23, gW0 hw, vf9_5, qa21, qo21, vf2_0, qa134, qo134, List.getElem?_cons_zero, List.getElem?_cons_succ, List.length_cons, List.length_nil, ag_nx, ag_dn, ag_no, ag_if, jbr1, jbr2, jc1, jc2, jnul, jld, jsto, jstoL, jst1, jst2, jkill, jinc, jbI, jbL, jbS, juI, jl2i, jcmp, jisR, jisI, jisL, jret, jretv, jfits, jdup, jdup2, jpop, jmm, jcat, Value.category, jinv, jrcv, jthr, jhd, jput, jget, jlen, jald, jast, jaast, jgI, jgL, jgB, jtab, jlku, jacp, vf20, vf21, vf22, vf23, vf24, u2_s, u2_k, u2_i, uc_s, uc_k, uc_c, u2_c, LI0, LI1, LI2, LI3, LI4, LI5, LI6, LI7, LI8, LI9, LI10, LI11, LI12, LI13, LI14, LI15, LI16, LI17, LI18, LI19, LI20, LI21, LI22, LI23, LI24, LI25, LI26, LI27, LI28, LI29, LI30, LI31, LI32, LI33, LI34, LI35, LI36, LI37, LI40, LI42, LI43, LI45, LI48, LI60, LI61, LI64, LI80, LI300, LI400, LI1000, LI2000, LI2001, LI2047, LI2048, LI100000, LI1000000, LM, nI_clamp, nI_pos', nI_lt, nI_nlt, nI_le, nI_ge, nI_ne, nI_add, nI_sub, mI_lt, mI_le, mI_nlt, mI_nle, mI_ne, mI_ne', mI_nem, hy, c1, c2]
  have hm5 := hmx _ h5
  have hat : aAt W k = a := aAt_of hk
  have hen : jcall A jcode (d + 3) 135 [.ref (b + w), .ref (b + R (w + 8) k), .int x, .int v] (jH h b X I J R n) = M135 A (d + 2) 31 [some (.ref (b + w)), some (.ref (b + R (w + 8) k)), some (.int x), some (.int v), some (.int (W.2.1.2.1 + aWait v))] [] (jH h b X I1 J R n) := by
    rw [← hm5, ← hp']
    simp (disch := omega) [je135, r135_0, r135_1, r135_2, List.getElem?_cons_zero, List.getElem?_cons_succ, List.length_cons, List.length_nil, ag_nx, ag_dn, ag_no, ag_if, jbr1, jbr2, jc1, jc2, jnul, jld, jsto, jstoL, jst1, jst2, jkill, jinc, jbI, jbL, jbS, juI, jl2i, jcmp, jisR, jisI, jisL, jret, jretv, jfits, jdup, jdup2, jpop, jmm, jcat, Value.category, jinv, jrcv, jthr, jhd, jput, jget, jlen, jald, jast, jaast, jgI, jgL, jgB, jtab, jlku, jacp, vf20, vf21, vf22, vf23, vf24, u2_s, u2_k, u2_i, uc_s, uc_k, uc_c, u2_c, LI0, LI1, LI2, LI3, LI4, LI5, LI6, LI7, LI8, LI9, LI10, LI11, LI12, LI13, LI14, LI15, LI16, LI17, LI18, LI19, LI20, LI21, LI22, LI23, LI24, LI25, LI26, LI27, LI28, LI29, LI30, LI31, LI32, LI33, LI34, LI35, LI36, LI37, LI40, LI42, LI43, LI45, LI48, LI60, LI61, LI64, LI80, LI300, LI400, LI1000, LI2000, LI2001, LI2047, LI2048, LI100000, LI1000000, LM, nI_clamp, nI_pos', nI_lt, nI_nlt, nI_le, nI_ge, nI_ne, nI_add, nI_sub, mI_lt, mI_le, mI_nlt, mI_nle, mI_ne, mI_ne', mI_nem, qa20, qo20, gI0 hi, qa23, qo23, gW0 hw, vf9_5, qa21, qo21, vf2_0, qa134, qo134, e0]
  rw [hen]
  by_cases hc : a1.2.2.2.length < 4
  · have e1 := c21 (d := d + 1) (A := A) (b := b) (h := h) (X := X) (J := J) (R := R) (n := n) (I := I1) (x := x) (v := W.2.1.2.1 + aWait v) hi wa1.2.2.2.2.1 hc
    obtain ⟨w2, f2, g2⟩ := wC_put (I' := u2 (u2 (u2 I1 (R (w + 8) k + 6) a1.2.2.2.length x) (R (w + 8) k + 7) a1.2.2.2.length (W.2.1.2.1 + aWait v)) (R (w + 8) k) 12 (nI (a1.2.2.2.length + 1))) hw w1 (by rw [show (aPut k a1 W).1.length = W.1.length by simp [aPut]]; exact hkl) (fun c i hc => by simp (disch := omega) [u2_k]) (iC_addT wa1)
    simp only [LI0, LI1, LI2, LI3, LI4, LI5, LI6, LI7, LI8, LI9, LI10, LI11, LI12, LI13, LI14, LI15, LI16, LI17, LI18, LI19, LI20, LI21, LI22, LI23, LI24, LI25, LI26, LI27, LI28, LI29, LI30, LI31, LI32, LI33, LI34, LI35, LI36, LI37, LI40, LI42, LI43, LI45, LI48, LI60, LI61, LI64, LI80, LI300, LI400, LI1000, LI2000, LI2001, LI2047, LI2048, LI100000, LI1000000, LM] at e1
    refine ⟨_, ?_, ?_, fC_trans f1 f2⟩
    · rw [r135_31]
      simp (disch := omega) [r135_0, r135_1, r135_2, r135_5, r135_8, r135_9, r135_10, r135_13, r135_14, r135_17, r135_18, r135_19, r135_22, r135_25, r135_28, r135_29, r135_32, r135_33, r135_35, r135_38, r135_41, r135_42, r135_43, r135_46, r135_47, r135_48, r135_51, qa20, qo20, gI0 hi, qa23, qo23, gW0 hw, vf9_5, qa21, qo21, vf2_0, qa134, qo134, List.getElem?_cons_zero, List.getElem?_cons_succ, List.length_cons, List.length_nil, ag_nx, ag_dn, ag_no, ag_if, jbr1, jbr2, jc1, jc2, jnul, jld, jsto, jstoL, jst1, jst2, jkill, jinc, jbI, jbL, jbS, juI, jl2i, jcmp, jisR, jisI, jisL, jret, jretv, jfits, jdup, jdup2, jpop, jmm, jcat, Value.category, jinv, jrcv, jthr, jhd, jput, jget, jlen, jald, jast, jaast, jgI, jgL, jgB, jtab, jlku, jacp, vf20, vf21, vf22, vf23, vf24, u2_s, u2_k, u2_i, uc_s, uc_k, uc_c, u2_c, LI0, LI1, LI2, LI3, LI4, LI5, LI6, LI7, LI8, LI9, LI10, LI11, LI12, LI13, LI14, LI15, LI16, LI17, LI18, LI19, LI20, LI21, LI22, LI23, LI24, LI25, LI26, LI27, LI28, LI29, LI30, LI31, LI32, LI33, LI34, LI35, LI36, LI37, LI40, LI42, LI43, LI45, LI48, LI60, LI61, LI64, LI80, LI300, LI400, LI1000, LI2000, LI2001, LI2047, LI2048, LI100000, LI1000000, LM, nI_clamp, nI_pos', nI_lt, nI_nlt, nI_le, nI_ge, nI_ne, nI_add, nI_sub, mI_lt, mI_le, mI_nlt, mI_nle, mI_ne, mI_ne', mI_nem, e1]
    · rw [aPut_put] at w2
      unfold aSetT
      rw [hat, ← ea1]
      simp only [hc, if_true]
      exact w2
  · have h4 : a1.2.2.2.length = 4 := by omega
    have e1 := c21n (d := d + 1) (A := A) (b := b) (h := h) (X := X) (J := J) (R := R) (n := n) (I := I1) (x := x) (v := W.2.1.2.1 + aWait v) hi (by rw [wa1.2.2.2.2.1, h4])
    obtain ⟨I2, e2, w2, f2, _⟩ := cLose (d := d) (A := A) (b := b) (h := h) (X := X) (J := J) (n := n) (id := a1.1.1) (x := x) (v := 0) hw w1
    obtain ⟨i0, _⟩ := iC_01 wa1
    simp only [LI0, LI1, LI2, LI3, LI4, LI5, LI6, LI7, LI8, LI9, LI10, LI11, LI12, LI13, LI14, LI15, LI16, LI17, LI18, LI19, LI20, LI21, LI22, LI23, LI24, LI25, LI26, LI27, LI28, LI29, LI30, LI31, LI32, LI33, LI34, LI35, LI36, LI37, LI40, LI42, LI43, LI45, LI48, LI60, LI61, LI64, LI80, LI300, LI400, LI1000, LI2000, LI2001, LI2047, LI2048, LI100000, LI1000000, LM] at e1 e2
    refine ⟨I2, ?_, ?_, fC_trans f1 f2⟩
    · rw [r135_31]
      simp (disch := omega) [r135_0, r135_1, r135_2, r135_5, r135_8, r135_9, r135_10, r135_13, r135_14, r135_17, r135_18, r135_19, r135_22, r135_25, r135_28, r135_29, r135_32, r135_33, r135_35, r135_38, r135_41, r135_42, r135_43, r135_46, r135_47, r135_48, r135_51, qa20, qo20, gI0 hi, qa23, qo23, gW0 hw, vf9_5, qa21, qo21, vf2_0, qa134, qo134, List.getElem?_cons_zero, List.getElem?_cons_succ, List.length_cons, List.length_nil, ag_nx, ag_dn, ag_no, ag_if, jbr1, jbr2, jc1, jc2, jnul, jld, jsto, jstoL, jst1, jst2, jkill, jinc, jbI, jbL, jbS, juI, jl2i, jcmp, jisR, jisI, jisL, jret, jretv, jfits, jdup, jdup2, jpop, jmm, jcat, Value.category, jinv, jrcv, jthr, jhd, jput, jget, jlen, jald, jast, jaast, jgI, jgL, jgB, jtab, jlku, jacp, vf20, vf21, vf22, vf23, vf24, u2_s, u2_k, u2_i, uc_s, uc_k, uc_c, u2_c, LI0, LI1, LI2, LI3, LI4, LI5, LI6, LI7, LI8, LI9, LI10, LI11, LI12, LI13, LI14, LI15, LI16, LI17, LI18, LI19, LI20, LI21, LI22, LI23, LI24, LI25, LI26, LI27, LI28, LI29, LI30, LI31, LI32, LI33, LI34, LI35, LI36, LI37, LI40, LI42, LI43, LI45, LI48, LI60, LI61, LI64, LI80, LI300, LI400, LI1000, LI2000, LI2001, LI2047, LI2048, LI100000, LI1000000, LM, nI_clamp, nI_pos', nI_lt, nI_nlt, nI_le, nI_ge, nI_ne, nI_add, nI_sub, mI_lt, mI_le, mI_nlt, mI_nle, mI_ne, mI_ne', mI_nem, e1, e2, i0]
    · unfold aSetT
      rw [hat, ← ea1]
      simp only [hc, if_false]
      exact w2
end CQ
