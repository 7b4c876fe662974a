/-! the reference: timers are set and reset -/
section RT
variable {A : Nat → Nat} {d b n : Nat} {h : Nat → Option jC} {X : jXX} {I : Nat → Nat → Int32} {J : Nat → Nat → Int64} {R : Nat → Nat → Nat} {k : Nat} {rN : Int32 → Nm} {l : Bool} {W : aW Nm} {a : aI Nm}
theorem r232l {t : Nat} {x : Int32} (hk : k < 8) (ht : I 272 k = nI t) (h4 : t ≤ 4) : ∀ r i, i + r = t → M232 A d 2 [some (.ref (b + 241)), some (.int (nI k)), some (.int x), some (.int (nI i))] [] (jH h b X I J R n) = some (.inl (some (.int (inO (fdx (fun i => I 273 (4 * k + i)) x r i)))), jH h b X I J R n) := by
  intro r
  induction r with
  | zero =>
    intro i hi
    rw [r232_2]
    simp (disch := omega) [r232_0, r232_1, r232_3, r232_4, r232_7, r232_8, r232_9, r232_12, r232_13, r232_16, r232_17, r232_18, r232_19, r232_20, r232_21, r232_22, r232_23, r232_26, r232_27, r232_28, r232_31, r232_34, r232_35, g241, vf12_54, t241_54, g272, vf12_55, t241_55, g273, List.getElem?_cons_zero, List.getElem?_cons_succ, List.length_cons, List.length_nil, ag_nx, ag_dn, ag_no, ag_if, jbr1, jbr2, jc1, jc2, jnul, jld, jsto, jstoL, jst1, jst2, jkill, jinc, jbI, jbL, jbS, juI, jl2i, jcmp, jisR, jisI, jisL, jret, jretv, jfits, jdup, jdup2, jpop, jmm, jcat, Value.category, jinv, jrcv, jthr, jhd, jput, jget, jlen, jald, jast, jaast, jgI, jgL, jgB, jtab, jlku, jacp, vf20, vf21, vf22, vf23, vf24, u2_s, u2_k, u2_i, uc_s, uc_k, uc_c, u2_c, LI0, LI1, LI2, LI3, LI4, LI5, LI6, LI7, LI8, LI9, LI10, LI11, LI12, LI13, LI14, LI15, LI16, LI17, LI18, LI19, LI20, LI21, LI22, LI23, LI24, LI25, LI26, LI27, LI28, LI29, LI30, LI31, LI32, LI33, LI34, LI35, LI36, LI37, LI40, LI42, LI43, LI45, LI48, LI60, LI61, LI64, LI80, LI300, LI400, LI1000, LI2000, LI2001, LI2047, LI2048, LI100000, LI1000000, LM, nI_clamp, nI_pos', nI_lt, nI_nlt, nI_le, nI_ge, nI_ne, nI_add, nI_sub, mI_lt, mI_le, mI_nlt, mI_nle, mI_ne, mI_ne', mI_nem, ht, hk, fdx, inO, hi]
  | succ r ih =>
    intro i hi
    have e := ih (i + 1) (by omega)
    rw [r232_2]
    by_cases hc : I 273 (4 * k + i) = x
    · simp (disch := omega) [r232_0, r232_1, r232_3, r232_4, r232_7, r232_8, r232_9, r232_12, r232_13, r232_16, r232_17, r232_18, r232_19, r232_20, r232_21, r232_22, r232_23, r232_26, r232_27, r232_28, r232_31, r232_34, r232_35, g241, vf12_54, t241_54, g272, vf12_55, t241_55, g273, List.getElem?_cons_zero, List.getElem?_cons_succ, List.length_cons, List.length_nil, ag_nx, ag_dn, ag_no, ag_if, jbr1, jbr2, jc1, jc2, jnul, jld, jsto, jstoL, jst1, jst2, jkill, jinc, jbI, jbL, jbS, juI, jl2i, jcmp, jisR, jisI, jisL, jret, jretv, jfits, jdup, jdup2, jpop, jmm, jcat, Value.category, jinv, jrcv, jthr, jhd, jput, jget, jlen, jald, jast, jaast, jgI, jgL, jgB, jtab, jlku, jacp, vf20, vf21, vf22, vf23, vf24, u2_s, u2_k, u2_i, uc_s, uc_k, uc_c, u2_c, LI0, LI1, LI2, LI3, LI4, LI5, LI6, LI7, LI8, LI9, LI10, LI11, LI12, LI13, LI14, LI15, LI16, LI17, LI18, LI19, LI20, LI21, LI22, LI23, LI24, LI25, LI26, LI27, LI28, LI29, LI30, LI31, LI32, LI33, LI34, LI35, LI36, LI37, LI40, LI42, LI43, LI45, LI48, LI60, LI61, LI64, LI80, LI300, LI400, LI1000, LI2000, LI2001, LI2047, LI2048, LI100000, LI1000000, LM, nI_clamp, nI_pos', nI_lt, nI_nlt, nI_le, nI_ge, nI_ne, nI_add, nI_sub, mI_lt, mI_le, mI_nlt, mI_nle, mI_ne, mI_ne', mI_nem, ht, hk, nI_mul, Nat.mul_comm k 4, fdx, inO, hc, show 4 * k + i < 32 by omega]
    · simp (disch := omega) [r232_0, r232_1, r232_3, r232_4, r232_7, r232_8, r232_9, r232_12, r232_13, r232_16, r232_17, r232_18, r232_19, r232_20, r232_21, r232_22, r232_23, r232_26, r232_27, r232_28, r232_31, r232_34, r232_35, g241, vf12_54, t241_54, g272, vf12_55, t241_55, g273, List.getElem?_cons_zero, List.getElem?_cons_succ, List.length_cons, List.length_nil, ag_nx, ag_dn, ag_no, ag_if, jbr1, jbr2, jc1, jc2, jnul, jld, jsto, jstoL, jst1, jst2, jkill, jinc, jbI, jbL, jbS, juI, jl2i, jcmp, jisR, jisI, jisL, jret, jretv, jfits, jdup, jdup2, jpop, jmm, jcat, Value.category, jinv, jrcv, jthr, jhd, jput, jget, jlen, jald, jast, jaast, jgI, jgL, jgB, jtab, jlku, jacp, vf20, vf21, vf22, vf23, vf24, u2_s, u2_k, u2_i, uc_s, uc_k, uc_c, u2_c, LI0, LI1, LI2, LI3, LI4, LI5, LI6, LI7, LI8, LI9, LI10, LI11, LI12, LI13, LI14, LI15, LI16, LI17, LI18, LI19, LI20, LI21, LI22, LI23, LI24, LI25, LI26, LI27, LI28, LI29, LI30, LI31, LI32, LI33, LI34, LI35, LI36, LI37, LI40, LI42, LI43, LI45, LI48, LI60, LI61, LI64, LI80, LI300, LI400, LI1000, LI2000, LI2001, LI2047, LI2048, LI100000, LI1000000, LM, nI_clamp, nI_pos', nI_lt, nI_nlt, nI_le, nI_ge, nI_ne, nI_add, nI_sub, mI_lt, mI_le, mI_nlt, mI_nle, mI_ne, mI_ne', mI_nem, ht, hk, nI_mul, Nat.mul_comm k 4, fdx, inO, hc, e, show 4 * k + i < 32 by omega]
theorem rTm {x : Int32} (k8 : k < 8) (hj : ∀ x y, rN x = rN y → x = y) (hA : iR rN I k a) (hT : a.2.2.2.length ≤ 4) : jcall A jcode (d + 1) 232 [.ref (b + 241), .int (nI k), .int x] (jH h b X I J R n) = some (.inl (some (.int (inO (aTm (rN x) a)))), jH h b X I J R n) := by
  have e := r232l (d := d) (A := A) (b := b) (h := h) (X := X) (J := J) (R := R) (n := n) (x := x) k8 hA.2.2.2.2.1 hT a.2.2.2.length 0 (by omega)
  rw [fdx_inj (f := fun t : Nm × Int32 => t.1) hj a.2.2.2 0 (fun j t ht => by
    rw [hA.2.2.2.2.2] at ht
    rw [Nat.zero_add]
    rcases Nat.lt_or_ge j a.2.2.2.length with hj' | hj'
    · rw [rl_at hj'] at ht
      cases ht
      rfl
    · rw [rl_no hj'] at ht
      cases ht)] at e
  have e' : jcall A jcode (d + 1) 232 [.ref (b + 241), .int (nI k), .int x] (jH h b X I J R n) = some (.inl (some (.int (inO ((a.2.2.2.findIdx? (fun t => decide (t.1 = rN x))).map (fun j => 0 + j))))), jH h b X I J R n) := by
    simp (disch := omega) [je232, r232_0, r232_1, List.getElem?_cons_zero, List.getElem?_cons_succ, List.length_cons, List.length_nil, ag_nx, ag_dn, ag_no, ag_if, jbr1, jbr2, jc1, jc2, jnul, jld, jsto, jstoL, jst1, jst2, jkill, jinc, jbI, jbL, jbS, juI, jl2i, jcmp, jisR, jisI, jisL, jret, jretv, jfits, jdup, jdup2, jpop, jmm, jcat, Value.category, jinv, jrcv, jthr, jhd, jput, jget, jlen, jald, jast, jaast, jgI, jgL, jgB, jtab, jlku, jacp, vf20, vf21, vf22, vf23, vf24, u2_s, u2_k, u2_i, uc_s, uc_k, uc_c, u2_c, LI0, LI1, LI2, LI3, LI4, LI5, LI6, LI7, LI8, LI9, LI10, LI11, LI12, LI13, LI14, LI15, LI16, LI17, LI18, LI19, LI20, LI21, LI22, LI23, LI24, LI25, LI26, LI27, LI28, LI29, LI30, LI31, LI32, LI33, LI34, LI35, LI36, LI37, LI40, LI42, LI43, LI45, LI48, LI60, LI61, LI64, LI80, LI300, LI400, LI1000, LI2000, LI2001, LI2047, LI2048, LI100000, LI1000000, LM, nI_clamp, nI_pos', nI_lt, nI_nlt, nI_le, nI_ge, nI_ne, nI_add, nI_sub, mI_lt, mI_le, mI_nlt, mI_nle, mI_ne, mI_ne', mI_nem, e]
  simpa [aTm] using e'
theorem r234l {x c3 : Int32} (k8 : k < 8) (hj : ∀ x y, rN x = rN y → x = y) : ∀ (i : Nat) (I : Nat → Nat → Int32) (a : aI Nm), iR rN I k a → a.2.2.1.length ≤ 8 → i ≤ a.2.2.1.length → ∃ I', M234 A (d + 2) 27 [some (.ref (b + 241)), some (.int (nI k)), some (.int x), some (.int c3), some (.int (nI i - 1))] [] (jH h b X I J R n) = some (.inl none, jH h b X I' J R n) ∧ iR rN I' k (a.1, a.2.1, cln (fun s => !(decide (s.1 = rN x) && decide (s.2.2.1 = a.1.1))) i a.2.2.1, a.2.2.2) ∧ onR k I I' := by
  intro i
  induction i with
  | zero =>
    intro I a hA hQ hil
    refine ⟨I, ?_, hA, onR_refl⟩
    have hz : nI 0 - 1 = mI 1 := by decide
    rw [hz, r234_27]
    simp (disch := omega) [r234_0, r234_1, r234_2, r234_3, r234_6, r234_7, r234_8, r234_11, r234_12, r234_13, r234_14, r234_17, r234_18, r234_21, r234_22, r234_23, r234_24, r234_25, r234_29, r234_32, r234_33, r234_36, r234_37, r234_39, r234_40, r234_42, r234_43, r234_44, r234_45, r234_48, r234_49, r234_52, r234_53, r234_55, r234_56, r234_58, r234_59, r234_60, r234_61, r234_64, r234_65, r234_66, r234_69, r234_70, r234_71, r234_73, r234_76, r234_79, r234_82, qa232, qo232, g241, qa233, qo233, vf12_49, t241_49, g267, vf12_50, t241_50, g268, vf12_52, t241_52, g270, vf12_42, t241_42, g260, qa225, qo225, List.getElem?_cons_zero, List.getElem?_cons_succ, List.length_cons, List.length_nil, ag_nx, ag_dn, ag_no, ag_if, jbr1, jbr2, jc1, jc2, jnul, jld, jsto, jstoL, jst1, jst2, jkill, jinc, jbI, jbL, jbS, juI, jl2i, jcmp, jisR, jisI, jisL, jret, jretv, jfits, jdup, jdup2, jpop, jmm, jcat, Value.category, jinv, jrcv, jthr, jhd, jput, jget, jlen, jald, jast, jaast, jgI, jgL, jgB, jtab, jlku, jacp, vf20, vf21, vf22, vf23, vf24, u2_s, u2_k, u2_i, uc_s, uc_k, uc_c, u2_c, LI0, LI1, LI2, LI3, LI4, LI5, LI6, LI7, LI8, LI9, LI10, LI11, LI12, LI13, LI14, LI15, LI16, LI17, LI18, LI19, LI20, LI21, LI22, LI23, LI24, LI25, LI26, LI27, LI28, LI29, LI30, LI31, LI32, LI33, LI34, LI35, LI36, LI37, LI40, LI42, LI43, LI45, LI48, LI60, LI61, LI64, LI80, LI300, LI400, LI1000, LI2000, LI2001, LI2047, LI2048, LI100000, LI1000000, LM, nI_clamp, nI_pos', nI_lt, nI_nlt, nI_le, nI_ge, nI_ne, nI_add, nI_sub, mI_lt, mI_le, mI_nlt, mI_nle, mI_ne, mI_ne', mI_nem]
  | succ i ih =>
    intro I a hA hQ hil
    have hz : nI (i + 1) - 1 = nI i := nI_pred i
    rw [hz]
    have hs : a.2.2.1[i]? = some (rN (I 268 (8 * k + i)), I 269 (8 * k + i), I 270 (8 * k + i), oR (I 271 (8 * k + i))) := by
      rw [hA.2.2.2.1, rl_at (by omega)]
    obtain ⟨i0, _⟩ := iR_01 hA
    have hstep : nI i + Int32.ofInt (-1) = nI i - 1 := by
      rw [Int32.sub_eq_add_neg]
      rfl
    unfold cln
    rw [hs]
    simp only
    by_cases hc : I 268 (8 * k + i) = x ∧ I 270 (8 * k + i) = I 260 k
    · obtain ⟨hc1, hc2⟩ := hc
      have hf : ¬ (!(decide (rN (I 268 (8 * k + i)) = rN x) && decide (I 270 (8 * k + i) = a.1.1))) = true := by simp [hc1, hc2, i0]
      rw [if_neg hf]
      obtain ⟨I1, e1, hA1, o1⟩ := rDrop (d := d) (A := A) (b := b) (h := h) (X := X) (J := J) (R := R) (n := n) (i := i) k8 hA hQ (by omega)
      have hl1 : (aDrop i a).2.2.1.length = a.2.2.1.length - 1 := by
        show (a.2.2.1.eraseIdx i).length = _
        rw [List.length_eraseIdx, if_pos (by omega)]
      obtain ⟨I2, e2, hA2, o2⟩ := ih I1 (aDrop i a) hA1 (by omega) (by omega)
      refine ⟨I2, ?_, hA2, onR_trans o1 o2⟩
      rw [r234_27]
      rw [← hstep] at e2
      simp (disch := omega) [r234_0, r234_1, r234_2, r234_3, r234_6, r234_7, r234_8, r234_11, r234_12, r234_13, r234_14, r234_17, r234_18, r234_21, r234_22, r234_23, r234_24, r234_25, r234_29, r234_32, r234_33, r234_36, r234_37, r234_39, r234_40, r234_42, r234_43, r234_44, r234_45, r234_48, r234_49, r234_52, r234_53, r234_55, r234_56, r234_58, r234_59, r234_60, r234_61, r234_64, r234_65, r234_66, r234_69, r234_70, r234_71, r234_73, r234_76, r234_79, r234_82, qa232, qo232, g241, qa233, qo233, vf12_49, t241_49, g267, vf12_50, t241_50, g268, vf12_52, t241_52, g270, vf12_42, t241_42, g260, qa225, qo225, List.getElem?_cons_zero, List.getElem?_cons_succ, List.length_cons, List.length_nil, ag_nx, ag_dn, ag_no, ag_if, jbr1, jbr2, jc1, jc2, jnul, jld, jsto, jstoL, jst1, jst2, jkill, jinc, jbI, jbL, jbS, juI, jl2i, jcmp, jisR, jisI, jisL, jret, jretv, jfits, jdup, jdup2, jpop, jmm, jcat, Value.category, jinv, jrcv, jthr, jhd, jput, jget, jlen, jald, jast, jaast, jgI, jgL, jgB, jtab, jlku, jacp, vf20, vf21, vf22, vf23, vf24, u2_s, u2_k, u2_i, uc_s, uc_k, uc_c, u2_c, LI0, LI1, LI2, LI3, LI4, LI5, LI6, LI7, LI8, LI9, LI10, LI11, LI12, LI13, LI14, LI15, LI16, LI17, LI18, LI19, LI20, LI21, LI22, LI23, LI24, LI25, LI26, LI27, LI28, LI29, LI30, LI31, LI32, LI33, LI34, LI35, LI36, LI37, LI40, LI42, LI43, LI45, LI48, LI60, LI61, LI64, LI80, LI300, LI400, LI1000, LI2000, LI2001, LI2047, LI2048, LI100000, LI1000000, LM, nI_clamp, nI_pos', nI_lt, nI_nlt, nI_le, nI_ge, nI_ne, nI_add, nI_sub, mI_lt, mI_le, mI_nlt, mI_nle, mI_ne, mI_ne', mI_nem, nI_mul, Nat.mul_comm k 8, hc1, hc2, e1, k8, show 8 * k + i < 64 by omega]
      simpa (disch := omega) [LI0, LI1, LI2, LI3, LI4, LI5, LI6, LI7, LI8, LI9, LI10, LI11, LI12, LI13, LI14, LI15, LI16, LI17, LI18, LI19, LI20, LI21, LI22, LI23, LI24, LI25, LI26, LI27, LI28, LI29, LI30, LI31, LI32, LI33, LI34, LI35, LI36, LI37, LI40, LI42, LI43, LI45, LI48, LI60, LI61, LI64, LI80, LI300, LI400, LI1000, LI2000, LI2001, LI2047, LI2048, LI100000, LI1000000, LM, nI_clamp, nI_pos', nI_lt, nI_nlt, nI_le, nI_ge, nI_ne, nI_add, nI_sub, mI_lt, mI_le, mI_nlt, mI_nle, mI_ne, mI_ne', mI_nem] using e2
    · have hf : (!(decide (rN (I 268 (8 * k + i)) = rN x) && decide (I 270 (8 * k + i) = a.1.1))) = true := by
        by_cases h1 : I 268 (8 * k + i) = x
        · have h2 : ¬ I 270 (8 * k + i) = I 260 k := fun z => hc ⟨h1, z⟩
          rw [i0] at h2
          simp [h2]
        · have h1' : ¬ rN (I 268 (8 * k + i)) = rN x := fun z => h1 (hj _ _ z)
          simp [h1']
      rw [if_pos hf]
      obtain ⟨I2, e2, hA2, o2⟩ := ih I a hA hQ (by omega)
      refine ⟨I2, ?_, hA2, o2⟩
      rw [r234_27]
      rw [← hstep] at e2
      by_cases h1 : I 268 (8 * k + i) = x
      · have h2 : ¬ I 270 (8 * k + i) = I 260 k := fun z => hc ⟨h1, z⟩
        simp (disch := omega) [r234_0, r234_1, r234_2, r234_3, r234_6, r234_7, r234_8, r234_11, r234_12, r234_13, r234_14, r234_17, r234_18, r234_21, r234_22, r234_23, r234_24, r234_25, r234_29, r234_32, r234_33, r234_36, r234_37, r234_39, r234_40, r234_42, r234_43, r234_44, r234_45, r234_48, r234_49, r234_52, r234_53, r234_55, r234_56, r234_58, r234_59, r234_60, r234_61, r234_64, r234_65, r234_66, r234_69, r234_70, r234_71, r234_73, r234_76, r234_79, r234_82, qa232, qo232, g241, qa233, qo233, vf12_49, t241_49, g267, vf12_50, t241_50, g268, vf12_52, t241_52, g270, vf12_42, t241_42, g260, qa225, qo225, List.getElem?_cons_zero, List.getElem?_cons_succ, List.length_cons, List.length_nil, ag_nx, ag_dn, ag_no, ag_if, jbr1, jbr2, jc1, jc2, jnul, jld, jsto, jstoL, jst1, jst2, jkill, jinc, jbI, jbL, jbS, juI, jl2i, jcmp, jisR, jisI, jisL, jret, jretv, jfits, jdup, jdup2, jpop, jmm, jcat, Value.category, jinv, jrcv, jthr, jhd, jput, jget, jlen, jald, jast, jaast, jgI, jgL, jgB, jtab, jlku, jacp, vf20, vf21, vf22, vf23, vf24, u2_s, u2_k, u2_i, uc_s, uc_k, uc_c, u2_c, LI0, LI1, LI2, LI3, LI4, LI5, LI6, LI7, LI8, LI9, LI10, LI11, LI12, LI13, LI14, LI15, LI16, LI17, LI18, LI19, LI20, LI21, LI22, LI23, LI24, LI25, LI26, LI27, LI28, LI29, LI30, LI31, LI32, LI33, LI34, LI35, LI36, LI37, LI40, LI42, LI43, LI45, LI48, LI60, LI61, LI64, LI80, LI300, LI400, LI1000, LI2000, LI2001, LI2047, LI2048, LI100000, LI1000000, LM, nI_clamp, nI_pos', nI_lt, nI_nlt, nI_le, nI_ge, nI_ne, nI_add, nI_sub, mI_lt, mI_le, mI_nlt, mI_nle, mI_ne, mI_ne', mI_nem, nI_mul, Nat.mul_comm k 8, h1, h2, k8, show 8 * k + i < 64 by omega]
        simpa (disch := omega) [LI0, LI1, LI2, LI3, LI4, LI5, LI6, LI7, LI8, LI9, LI10, LI11, LI12, LI13, LI14, LI15, LI16, LI17, LI18, LI19, LI20, LI21, LI22, LI23, LI24, LI25, LI26, LI27, LI28, LI29, LI30, LI31, LI32, LI33, LI34, LI35, LI36, LI37, LI40, LI42, LI43, LI45, LI48, LI60, LI61, LI64, LI80, LI300, LI400, LI1000, LI2000, LI2001, LI2047, LI2048, LI100000, LI1000000, LM, nI_clamp, nI_pos', nI_lt, nI_nlt, nI_le, nI_ge, nI_ne, nI_add, nI_sub, mI_lt, mI_le, mI_nlt, mI_nle, mI_ne, mI_ne', mI_nem] using e2
      · simp (disch := omega) [r234_0, r234_1, r234_2, r234_3, r234_6, r234_7, r234_8, r234_11, r234_12, r234_13, r234_14, r234_17, r234_18, r234_21, r234_22, r234_23, r234_24, r234_25, r234_29, r234_32, r234_33, r234_36, r234_37, r234_39, r234_40, r234_42, r234_43, r234_44, r234_45, r234_48, r234_49, r234_52, r234_53, r234_55, r234_56, r234_58, r234_59, r234_60, r234_61, r234_64, r234_65, r234_66, r234_69, r234_70, r234_71, r234_73, r234_76, r234_79, r234_82, qa232, qo232, g241, qa233, qo233, vf12_49, t241_49, g267, vf12_50, t241_50, g268, vf12_52, t241_52, g270, vf12_42, t241_42, g260, qa225, qo225, List.getElem?_cons_zero, List.getElem?_cons_succ, List.length_cons, List.length_nil, ag_nx, ag_dn, ag_no, ag_if, jbr1, jbr2, jc1, jc2, jnul, jld, jsto, jstoL, jst1, jst2, jkill, jinc, jbI, jbL, jbS, juI, jl2i, jcmp, jisR, jisI, jisL, jret, jretv, jfits, jdup, jdup2, jpop, jmm, jcat, Value.category, jinv, jrcv, jthr, jhd, jput, jget, jlen, jald, jast, jaast, jgI, jgL, jgB, jtab, jlku, jacp, vf20, vf21, vf22, vf23, vf24, u2_s, u2_k, u2_i, uc_s, uc_k, uc_c, u2_c, LI0, LI1, LI2, LI3, LI4, LI5, LI6, LI7, LI8, LI9, LI10, LI11, LI12, LI13, LI14, LI15, LI16, LI17, LI18, LI19, LI20, LI21, LI22, LI23, LI24, LI25, LI26, LI27, LI28, LI29, LI30, LI31, LI32, LI33, LI34, LI35, LI36, LI37, LI40, LI42, LI43, LI45, LI48, LI60, LI61, LI64, LI80, LI300, LI400, LI1000, LI2000, LI2001, LI2047, LI2048, LI100000, LI1000000, LM, nI_clamp, nI_pos', nI_lt, nI_nlt, nI_le, nI_ge, nI_ne, nI_add, nI_sub, mI_lt, mI_le, mI_nlt, mI_nle, mI_ne, mI_ne', mI_nem, nI_mul, Nat.mul_comm k 8, h1, k8, show 8 * k + i < 64 by omega]
        simpa (disch := omega) [LI0, LI1, LI2, LI3, LI4, LI5, LI6, LI7, LI8, LI9, LI10, LI11, LI12, LI13, LI14, LI15, LI16, LI17, LI18, LI19, LI20, LI21, LI22, LI23, LI24, LI25, LI26, LI27, LI28, LI29, LI30, LI31, LI32, LI33, LI34, LI35, LI36, LI37, LI40, LI42, LI43, LI45, LI48, LI60, LI61, LI64, LI80, LI300, LI400, LI1000, LI2000, LI2001, LI2047, LI2048, LI100000, LI1000000, LM, nI_clamp, nI_pos', nI_lt, nI_nlt, nI_le, nI_ge, nI_ne, nI_add, nI_sub, mI_lt, mI_le, mI_nlt, mI_nle, mI_ne, mI_ne', mI_nem] using e2
theorem rReset {x : Int32} (k8 : k < 8) (hj : ∀ x y, rN x = rN y → x = y) (hA : iR rN I k a) (hQ : a.2.2.1.length ≤ 8) (hT : a.2.2.2.length ≤ 4) : ∃ I', jcall A jcode (d + 3) 234 [.ref (b + 241), .int (nI k), .int x] (jH h b X I J R n) = some (.inl none, jH h b X I' J R n) ∧ iR rN I' k (aReset (rN x) a) ∧ onR k I I' := by
  have e0 := rTm (d := d + 1) (A := A) (b := b) (h := h) (X := X) (J := J) (R := R) (n := n) (x := x) k8 hj hA hT
  cases ht : aTm (rN x) a with
  | none =>
    rw [ht] at e0
    simp only [inO] at e0
    simp only [LI0, LI1, LI2, LI3, LI4, LI5, LI6, LI7, LI8, LI9, LI10, LI11, LI12, LI13, LI14, LI15, LI16, LI17, LI18, LI19, LI20, LI21, LI22, LI23, LI24, LI25, LI26, LI27, LI28, LI29, LI30, LI31, LI32, LI33, LI34, LI35, LI36, LI37, LI40, LI42, LI43, LI45, LI48, LI60, LI61, LI64, LI80, LI300, LI400, LI1000, LI2000, LI2001, LI2047, LI2048, LI100000, LI1000000, LM] at e0
    obtain ⟨I2, e2, hA2, o2⟩ := r234l (d := d) (A := A) (b := b) (h := h) (X := X) (J := J) (R := R) (n := n) (x := x) (c3 := mI 1) k8 hj a.2.2.1.length I a hA hQ (by omega)
    rw [cln_all] at hA2
    refine ⟨I2, ?_, ?_, o2⟩
    · simp only [LI0, LI1, LI2, LI3, LI4, LI5, LI6, LI7, LI8, LI9, LI10, LI11, LI12, LI13, LI14, LI15, LI16, LI17, LI18, LI19, LI20, LI21, LI22, LI23, LI24, LI25, LI26, LI27, LI28, LI29, LI30, LI31, LI32, LI33, LI34, LI35, LI36, LI37, LI40, LI42, LI43, LI45, LI48, LI60, LI61, LI64, LI80, LI300, LI400, LI1000, LI2000, LI2001, LI2047, LI2048, LI100000, LI1000000, LM] at e2
      simp (disch := omega) [je234, r234_0, r234_1, r234_2, r234_3, r234_6, r234_7, r234_8, r234_11, r234_12, r234_13, r234_14, r234_17, r234_18, r234_21, r234_22, r234_23, r234_24, r234_25, r234_29, r234_32, r234_33, r234_36, r234_37, r234_39, r234_40, r234_42, r234_43, r234_44, r234_45, r234_48, r234_49, r234_52, r234_53, r234_55, r234_56, r234_58, r234_59, r234_60, r234_61, r234_64, r234_65, r234_66, r234_69, r234_70, r234_71, r234_73, r234_76, r234_79, r234_82, qa232, qo232, g241, qa233, qo233, vf12_49, t241_49, g267, vf12_50, t241_50, g268, vf12_52, t241_52, g270, vf12_42, t241_42, g260, qa225, qo225, List.getElem?_cons_zero, List.getElem?_cons_succ, List.length_cons, List.length_nil, ag_nx, ag_dn, ag_no, ag_if, jbr1, jbr2, jc1, jc2, jnul, jld, jsto, jstoL, jst1, jst2, jkill, jinc, jbI, jbL, jbS, juI, jl2i, jcmp, jisR, jisI, jisL, jret, jretv, jfits, jdup, jdup2, jpop, jmm, jcat, Value.category, jinv, jrcv, jthr, jhd, jput, jget, jlen, jald, jast, jaast, jgI, jgL, jgB, jtab, jlku, jacp, vf20, vf21, vf22, vf23, vf24, u2_s, u2_k, u2_i, uc_s, uc_k, uc_c, u2_c, LI0, LI1, LI2, LI3, LI4, LI5, LI6, LI7, LI8, LI9, LI10, LI11, LI12, LI13, LI14, LI15, LI16, LI17, LI18, LI19, LI20, LI21, LI22, LI23, LI24, LI25, LI26, LI27, LI28, LI29, LI30, LI31, LI32, LI33, LI34, LI35, LI36, LI37, LI40, LI42, LI43, LI45, LI48, LI60, LI61, LI64, LI80, LI300, LI400, LI1000, LI2000, LI2001, LI2047, LI2048, LI100000, LI1000000, LM, nI_clamp, nI_pos', nI_lt, nI_nlt, nI_le, nI_ge, nI_ne, nI_add, nI_sub, mI_lt, mI_le, mI_nlt, mI_nle, mI_ne, mI_ne', mI_nem, e0, hA.2.2.1, k8]
      exact e2
    · unfold aReset aClean
      rw [ht]
      exact hA2
  | some i =>
    have hil := aTm_lt ht
    rw [ht] at e0
    simp only [inO] at e0
    obtain ⟨I1, e1, hA1, o1⟩ := rDropT (d := d) (A := A) (b := b) (h := h) (X := X) (J := J) (R := R) (n := n) (i := i) k8 hA hT hil
    obtain ⟨I2, e2, hA2, o2⟩ := r234l (d := d) (A := A) (b := b) (h := h) (X := X) (J := J) (R := R) (n := n) (x := x) (c3 := nI i) k8 hj a.2.2.1.length I1 (aDropT i a) hA1 hQ (Nat.le_refl _)
    have hq1 : I1 267 k = nI a.2.2.1.length := hA1.2.2.1
    refine ⟨I2, ?_, ?_, onR_trans o1 o2⟩
    · simp only [LI0, LI1, LI2, LI3, LI4, LI5, LI6, LI7, LI8, LI9, LI10, LI11, LI12, LI13, LI14, LI15, LI16, LI17, LI18, LI19, LI20, LI21, LI22, LI23, LI24, LI25, LI26, LI27, LI28, LI29, LI30, LI31, LI32, LI33, LI34, LI35, LI36, LI37, LI40, LI42, LI43, LI45, LI48, LI60, LI61, LI64, LI80, LI300, LI400, LI1000, LI2000, LI2001, LI2047, LI2048, LI100000, LI1000000, LM] at e2
      simp (disch := omega) [je234, r234_0, r234_1, r234_2, r234_3, r234_6, r234_7, r234_8, r234_11, r234_12, r234_13, r234_14, r234_17, r234_18, r234_21, r234_22, r234_23, r234_24, r234_25, r234_29, r234_32, r234_33, r234_36, r234_37, r234_39, r234_40, r234_42, r234_43, r234_44, r234_45, r234_48, r234_49, r234_52, r234_53, r234_55, r234_56, r234_58, r234_59, r234_60, r234_61, r234_64, r234_65, r234_66, r234_69, r234_70, r234_71, r234_73, r234_76, r234_79, r234_82, qa232, qo232, g241, qa233, qo233, vf12_49, t241_49, g267, vf12_50, t241_50, g268, vf12_52, t241_52, g270, vf12_42, t241_42, g260, qa225, qo225, List.getElem?_cons_zero, List.getElem?_cons_succ, List.length_cons, List.length_nil, ag_nx, ag_dn, ag_no, ag_if, jbr1, jbr2, jc1, jc2, jnul, jld, jsto, jstoL, jst1, jst2, jkill, jinc, jbI, jbL, jbS, juI, jl2i, jcmp, jisR, jisI, jisL, jret, jretv, jfits, jdup, jdup2, jpop, jmm, jcat, Value.category, jinv, jrcv, jthr, jhd, jput, jget, jlen, jald, jast, jaast, jgI, jgL, jgB, jtab, jlku, jacp, vf20, vf21, vf22, vf23, vf24, u2_s, u2_k, u2_i, uc_s, uc_k, uc_c, u2_c, LI0, LI1, LI2, LI3, LI4, LI5, LI6, LI7, LI8, LI9, LI10, LI11, LI12, LI13, LI14, LI15, LI16, LI17, LI18, LI19, LI20, LI21, LI22, LI23, LI24, LI25, LI26, LI27, LI28, LI29, LI30, LI31, LI32, LI33, LI34, LI35, LI36, LI37, LI40, LI42, LI43, LI45, LI48, LI60, LI61, LI64, LI80, LI300, LI400, LI1000, LI2000, LI2001, LI2047, LI2048, LI100000, LI1000000, LM, nI_clamp, nI_pos', nI_lt, nI_nlt, nI_le, nI_ge, nI_ne, nI_add, nI_sub, mI_lt, mI_le, mI_nlt, mI_nle, mI_ne, mI_ne', mI_nem, e0, e1, hq1, k8]
      exact e2
    · unfold aReset aClean
      rw [ht]
      simp only
      have hA3 : iR rN I2 k ((aDropT i a).1, (aDropT i a).2.1, cln (fun s => !(decide (s.1 = rN x) && decide (s.2.2.1 = (aDropT i a).1.1))) (aDropT i a).2.2.1.length (aDropT i a).2.2.1, (aDropT i a).2.2.2) := hA2
      rw [cln_all] at hA3
      exact hA3
theorem iR_addT {x v : Int32} (hA : iR rN I k a) : iR rN (u2 (u2 (u2 I 273 (4 * k + a.2.2.2.length) x) 274 (4 * k + a.2.2.2.length) v) 272 k (nI (a.2.2.2.length + 1))) k (a.1, a.2.1, a.2.2.1, a.2.2.2 ++ [(rN x, v)]) := by
  obtain ⟨h1, h2, h3, h4, h5, h6⟩ := hA
  refine ⟨?_, ?_, ?_, ?_, ?_, ?_⟩
  · simp (disch := omega) [u2_k, h1]
  · refine ⟨h2.1.trans (rl_congr fun j hj => ?_), fun j hj hj6 => Eq.trans ?_ (h2.2 j hj hj6)⟩
    · simp (disch := omega) [u2_k]
    · simp (disch := omega) [u2_k]
  · simp (disch := omega) [u2_k, h3]
  · refine h4.trans (rl_congr fun j hj => ?_)
    simp (disch := omega) [u2_k]
  · simp [u2_s]
  · show a.2.2.2 ++ _ = rl _ (a.2.2.2 ++ [_]).length
    rw [List.length_append]
    show _ = rl _ (a.2.2.2.length + 1)
    rw [rl_push]
    congr 1
    · refine h6.trans (rl_congr fun j hj => ?_)
      simp (disch := omega) [u2_k, u2_i]
    · simp (disch := omega) [u2_k, u2_s]
theorem rSetT {x v : Int32} (hj : ∀ x y, rN x = rN y → x = y) (hW : wR rN I l W) (ok : okL W.1) (hk : W.1[k]? = some a) : ∃ I', jcall A jcode (d + 4) 235 [.ref (b + 241), .int (nI k), .int x, .int v] (jH h b X I J R n) = some (.inl none, jH h b X I' J R n) ∧ wR rN I' l (aSetT l k (rN x) v W) ∧ fR I I' := by
  have hkl := lt_of_some hk
  have k8 : k < 8 := by have := hW.1.1; omega
  obtain ⟨o1, o2, o3, _⟩ := ok k a hk
  have hA := hW.1.2.2 k a hk
  have e0 := rTm (d := d + 2) (A := A) (b := b) (h := h) (X := X) (J := J) (R := R) (n := n) (x := x) k8 hj hA o3
  obtain ⟨I1, a1, hp, wa1, oo1, ea1, ll1⟩ : ∃ I1 a1, M235 A (d + 3) 6 [some (.ref (b + 241)), some (.int (nI k)), some (.int x), some (.int v)] [.int (inO (aTm (rN x) a))] (jH h b X I J R n) = M235 A (d + 3) 15 [some (.ref (b + 241)), some (.int (nI k)), some (.int x), some (.int v)] [] (jH h b X I1 J R n) ∧ iR rN I1 k a1 ∧ onR k I I1 ∧ a1 = (if (aTm (rN x) a).isSome = true then aReset (rN x) a else a) ∧ a1.2.2.2.length ≤ 4 := by
    cases ht : aTm (rN x) a with
    | none =>
      refine ⟨I, a, ?_, hA, onR_refl, rfl, o3⟩
      rw [r235_6]
      simp (disch := omega) [r235_0, r235_1, r235_2, r235_3, r235_6, r235_9, r235_10, r235_11, r235_12, r235_16, r235_19, r235_20, r235_21, r235_22, r235_25, r235_26, r235_27, r235_30, r235_31, r235_32, r235_33, r235_34, r235_37, r235_38, r235_39, r235_42, r235_43, r235_44, r235_45, r235_46, r235_49, r235_50, r235_51, r235_52, r235_53, r235_54, r235_55, r235_58, r235_59, r235_60, r235_61, r235_62, r235_65, r235_66, r235_67, r235_68, r235_69, r235_72, r235_73, r235_74, r235_77, r235_78, r235_81, r235_82, r235_84, r235_87, r235_88, r235_89, r235_90, r235_93, r235_94, r235_95, r235_96, r235_97, r235_98, r235_99, qa232, qo232, g241, qa234, qo234, vf12_54, t241_54, g272, p272, vf12_42, t241_42, g260, p260, qa219, qo219, vf12_55, t241_55, g273, p273, vf12_56, t241_56, g274, p274, vf12_38, List.getElem?_cons_zero, List.getElem?_cons_succ, List.length_cons, List.length_nil, ag_nx, ag_dn, ag_no, ag_if, jbr1, jbr2, jc1, jc2, jnul, jld, jsto, jstoL, jst1, jst2, jkill, jinc, jbI, jbL, jbS, juI, jl2i, jcmp, jisR, jisI, jisL, jret, jretv, jfits, jdup, jdup2, jpop, jmm, jcat, Value.category, jinv, jrcv, jthr, jhd, jput, jget, jlen, jald, jast, jaast, jgI, jgL, jgB, jtab, jlku, jacp, vf20, vf21, vf22, vf23, vf24, u2_s, u2_k, u2_i, uc_s, uc_k, uc_c, u2_c, LI0, LI1, LI2, LI3, LI4, LI5, LI6, LI7, LI8, LI9, LI10, LI11, LI12, LI13, LI14, LI15, LI16, LI17, LI18, LI19, LI20, LI21, LI22, LI23, LI24, LI25, LI26, LI27, LI28, LI29, LI30, LI31, LI32, LI33, LI34, LI35, LI36, LI37, LI40, LI42, LI43, LI45, LI48, LI60, LI61, LI64, LI80, LI300, LI400, LI1000, LI2000, LI2001, LI2047, LI2048, LI100000, LI1000000, LM, nI_clamp, nI_pos', nI_lt, nI_nlt, nI_le, nI_ge, nI_ne, nI_add, nI_sub, mI_lt, mI_le, mI_nlt, mI_nle, mI_ne, mI_ne', mI_nem, inO]
    | some i =>
      have hil := aTm_lt ht
      obtain ⟨I1, e1, hA1, on1⟩ := rReset (d := d) (A := A) (b := b) (h := h) (X := X) (J := J) (R := R) (n := n) (x := x) k8 hj hA o2 o3
      refine ⟨I1, _, ?_, hA1, on1, rfl, ?_⟩
      · rw [r235_6]
        simp (disch := omega) [r235_0, r235_1, r235_2, r235_3, r235_6, r235_9, r235_10, r235_11, r235_12, r235_16, r235_19, r235_20, r235_21, r235_22, r235_25, r235_26, r235_27, r235_30, r235_31, r235_32, r235_33, r235_34, r235_37, r235_38, r235_39, r235_42, r235_43, r235_44, r235_45, r235_46, r235_49, r235_50, r235_51, r235_52, r235_53, r235_54, r235_55, r235_58, r235_59, r235_60, r235_61, r235_62, r235_65, r235_66, r235_67, r235_68, r235_69, r235_72, r235_73, r235_74, r235_77, r235_78, r235_81, r235_82, r235_84, r235_87, r235_88, r235_89, r235_90, r235_93, r235_94, r235_95, r235_96, r235_97, r235_98, r235_99, qa232, qo232, g241, qa234, qo234, vf12_54, t241_54, g272, p272, vf12_42, t241_42, g260, p260, qa219, qo219, vf12_55, t241_55, g273, p273, vf12_56, t241_56, g274, p274, vf12_38, List.getElem?_cons_zero, List.getElem?_cons_succ, List.length_cons, List.length_nil, ag_nx, ag_dn, ag_no, ag_if, jbr1, jbr2, jc1, jc2, jnul, jld, jsto, jstoL, jst1, jst2, jkill, jinc, jbI, jbL, jbS, juI, jl2i, jcmp, jisR, jisI, jisL, jret, jretv, jfits, jdup, jdup2, jpop, jmm, jcat, Value.category, jinv, jrcv, jthr, jhd, jput, jget, jlen, jald, jast, jaast, jgI, jgL, jgB, jtab, jlku, jacp, vf20, vf21, vf22, vf23, vf24, u2_s, u2_k, u2_i, uc_s, uc_k, uc_c, u2_c, LI0, LI1, LI2, LI3, LI4, LI5, LI6, LI7, LI8, LI9, LI10, LI11, LI12, LI13, LI14, LI15, LI16, LI17, LI18, LI19, LI20, LI21, LI22, LI23, LI24, LI25, LI26, LI27, LI28, LI29, LI30, LI31, LI32, LI33, LI34, LI35, LI36, LI37, LI40, LI42, LI43, LI45, LI48, LI60, LI61, LI64, LI80, LI300, LI400, LI1000, LI2000, LI2001, LI2047, LI2048, LI100000, LI1000000, LM, nI_clamp, nI_pos', nI_lt, nI_nlt, nI_le, nI_ge, nI_ne, nI_add, nI_sub, mI_lt, mI_le, mI_nlt, mI_nle, mI_ne, mI_ne', mI_nem, inO, e1]
      · unfold aReset
        rw [ht]
        show (a.2.2.2.eraseIdx i).length ≤ 4
        rw [List.length_eraseIdx, if_pos hil]
        omega
  obtain ⟨w1, f1, g1⟩ := wR_put hW ok hkl oo1 wa1
  have h5 : I1 241 38 = W.2.1.2.1 := (g1 38).trans hW.2.2.1
  have hat : aAt W k = a := aAt_of hk
  have hen : jcall A jcode (d + 4) 235 [.ref (b + 241), .int (nI k), .int x, .int v] (jH h b X I J R n) = M235 A (d + 3) 15 [some (.ref (b + 241)), some (.int (nI k)), some (.int x), some (.int v)] [] (jH h b X I1 J R n) := by
    rw [← hp]
    simp (disch := omega) [je235, r235_0, r235_1, r235_2, r235_3, List.getElem?_cons_zero, List.getElem?_cons_succ, List.length_cons, List.length_nil, ag_nx, ag_dn, ag_no, ag_if, jbr1, jbr2, jc1, jc2, jnul, jld, jsto, jstoL, jst1, jst2, jkill, jinc, jbI, jbL, jbS, juI, jl2i, jcmp, jisR, jisI, jisL, jret, jretv, jfits, jdup, jdup2, jpop, jmm, jcat, Value.category, jinv, jrcv, jthr, jhd, jput, jget, jlen, jald, jast, jaast, jgI, jgL, jgB, jtab, jlku, jacp, vf20, vf21, vf22, vf23, vf24, u2_s, u2_k, u2_i, uc_s, uc_k, uc_c, u2_c, LI0, LI1, LI2, LI3, LI4, LI5, LI6, LI7, LI8, LI9, LI10, LI11, LI12, LI13, LI14, LI15, LI16, LI17, LI18, LI19, LI20, LI21, LI22, LI23, LI24, LI25, LI26, LI27, LI28, LI29, LI30, LI31, LI32, LI33, LI34, LI35, LI36, LI37, LI40, LI42, LI43, LI45, LI48, LI60, LI61, LI64, LI80, LI300, LI400, LI1000, LI2000, LI2001, LI2047, LI2048, LI100000, LI1000000, LM, nI_clamp, nI_pos', nI_lt, nI_nlt, nI_le, nI_ge, nI_ne, nI_add, nI_sub, mI_lt, mI_le, mI_nlt, mI_nle, mI_ne, mI_ne', mI_nem, qa232, qo232, g241, qa234, qo234, vf12_54, t241_54, g272, p272, vf12_42, t241_42, g260, p260, qa219, qo219, vf12_55, t241_55, g273, p273, vf12_56, t241_56, g274, p274, vf12_38, e0]
  rw [hen]
  have okW1 : okL (aPut k a1 W).1 := by
    intro j c hj'
    unfold aPut at hj'
    simp only at hj'
    rw [List.getElem?_set] at hj'
    by_cases e : k = j
    · subst e
      rw [if_pos rfl, if_pos hkl] at hj'
      cases hj'
      obtain ⟨q1, q2, q3, q4⟩ := ok k a hk
      rw [ea1]
      split
      · refine ⟨?_, ?_, by rw [← if_pos (c := (aTm (rN x) a).isSome = true) (by assumption) (t := aReset (rN x) a) (e := a), ← ea1]; exact ll1, ?_⟩
        · unfold aReset
          cases aTm (rN x) a <;> exact q1
        · unfold aReset
          cases aTm (rN x) a with
          | none => exact Nat.le_trans (List.length_filter_le _ _) q2
          | some i => exact Nat.le_trans (List.length_filter_le _ _) q2
        · rw [reset_1]; exact q4
      · exact ⟨q1, q2, q3, q4⟩
    · rw [if_neg e] at hj'
      exact ok j c hj'
  by_cases hc : a1.2.2.2.length < 4
  · obtain ⟨w2, f2, g2⟩ := wR_put (I' := u2 (u2 (u2 I1 273 (4 * k + a1.2.2.2.length) x) 274 (4 * k + a1.2.2.2.length) (W.2.1.2.1 + aWait v)) 272 k (nI (a1.2.2.2.length + 1))) w1 okW1 (by simp [aPut]; exact hkl) ⟨fun c i hc => by simp (disch := omega) [u2_k], fun c j a1 a2 a3 => by
      by_cases e : c = 272
      · subst e; simp (disch := omega) [u2_k, u2_i, a3]
      · simp (disch := omega) [u2_k], fun j a1 => by simp (disch := omega) [u2_k], fun c j a1 a2 a3 => by simp (disch := omega) [u2_k], fun c j b1 b2 b3 => by
      rw [u2_k (by omega), u2_ap, if_neg (by omega), u2_ap, if_neg (by omega)]⟩ (iR_addT wa1)
    refine ⟨_, ?_, ?_, fR_trans f1 f2⟩
    · have ew : (if v < 1 then (0 : Int32) else if (1000000 : Int32) < v then 1000000 else v) = aWait v := rfl
      simp only [LI0, LI1, LI2, LI3, LI4, LI5, LI6, LI7, LI8, LI9, LI10, LI11, LI12, LI13, LI14, LI15, LI16, LI17, LI18, LI19, LI20, LI21, LI22, LI23, LI24, LI25, LI26, LI27, LI28, LI29, LI30, LI31, LI32, LI33, LI34, LI35, LI36, LI37, LI40, LI42, LI43, LI45, LI48, LI60, LI61, LI64, LI80, LI300, LI400, LI1000, LI2000, LI2001, LI2047, LI2048, LI100000, LI1000000, LM] at ew
      have hn4 : I1 272 k = nI a1.2.2.2.length := wa1.2.2.2.2.1
      rw [← ew, r235_15]
      by_cases c1 : nI 1 ≤ v
      · have c1' : ¬ v < nI 1 := Int32.not_lt.mpr c1
        by_cases c2 : nI 1000000 < v
        · simp (disch := omega) [r235_0, r235_1, r235_2, r235_3, r235_6, r235_9, r235_10, r235_11, r235_12, r235_16, r235_19, r235_20, r235_21, r235_22, r235_25, r235_26, r235_27, r235_30, r235_31, r235_32, r235_33, r235_34, r235_37, r235_38, r235_39, r235_42, r235_43, r235_44, r235_45, r235_46, r235_49, r235_50, r235_51, r235_52, r235_53, r235_54, r235_55, r235_58, r235_59, r235_60, r235_61, r235_62, r235_65, r235_66, r235_67, r235_68, r235_69, r235_72, r235_73, r235_74, r235_77, r235_78, r235_81, r235_82, r235_84, r235_87, r235_88, r235_89, r235_90, r235_93, r235_94, r235_95, r235_96, r235_97, r235_98, r235_99, qa232, qo232, g241, qa234, qo234, vf12_54, t241_54, g272, p272, vf12_42, t241_42, g260, p260, qa219, qo219, vf12_55, t241_55, g273, p273, vf12_56, t241_56, g274, p274, vf12_38, List.getElem?_cons_zero, List.getElem?_cons_succ, List.length_cons, List.length_nil, ag_nx, ag_dn, ag_no, ag_if, jbr1, jbr2, jc1, jc2, jnul, jld, jsto, jstoL, jst1, jst2, jkill, jinc, jbI, jbL, jbS, juI, jl2i, jcmp, jisR, jisI, jisL, jret, jretv, jfits, jdup, jdup2, jpop, jmm, jcat, Value.category, jinv, jrcv, jthr, jhd, jput, jget, jlen, jald, jast, jaast, jgI, jgL, jgB, jtab, jlku, jacp, vf20, vf21, vf22, vf23, vf24, u2_s, u2_k, u2_i, uc_s, uc_k, uc_c, u2_c, LI0, LI1, LI2, LI3, LI4, LI5, LI6, LI7, LI8, LI9, LI10, LI11, LI12, LI13, LI14, LI15, LI16, LI17, LI18, LI19, LI20, LI21, LI22, LI23, LI24, LI25, LI26, LI27, LI28, LI29, LI30, LI31, LI32, LI33, LI34, LI35, LI36, LI37, LI40, LI42, LI43, LI45, LI48, LI60, LI61, LI64, LI80, LI300, LI400, LI1000, LI2000, LI2001, LI2047, LI2048, LI100000, LI1000000, LM, nI_clamp, nI_pos', nI_lt, nI_nlt, nI_le, nI_ge, nI_ne, nI_add, nI_sub, mI_lt, mI_le, mI_nlt, mI_nle, mI_ne, mI_ne', mI_nem, nI_mul, Nat.mul_comm k 4, hn4, h5, c1, c1', c2, k8, show 4 * k + a1.2.2.2.length < 32 by omega]
        · simp (disch := omega) [r235_0, r235_1, r235_2, r235_3, r235_6, r235_9, r235_10, r235_11, r235_12, r235_16, r235_19, r235_20, r235_21, r235_22, r235_25, r235_26, r235_27, r235_30, r235_31, r235_32, r235_33, r235_34, r235_37, r235_38, r235_39, r235_42, r235_43, r235_44, r235_45, r235_46, r235_49, r235_50, r235_51, r235_52, r235_53, r235_54, r235_55, r235_58, r235_59, r235_60, r235_61, r235_62, r235_65, r235_66, r235_67, r235_68, r235_69, r235_72, r235_73, r235_74, r235_77, r235_78, r235_81, r235_82, r235_84, r235_87, r235_88, r235_89, r235_90, r235_93, r235_94, r235_95, r235_96, r235_97, r235_98, r235_99, qa232, qo232, g241, qa234, qo234, vf12_54, t241_54, g272, p272, vf12_42, t241_42, g260, p260, qa219, qo219, vf12_55, t241_55, g273, p273, vf12_56, t241_56, g274, p274, vf12_38, List.getElem?_cons_zero, List.getElem?_cons_succ, List.length_cons, List.length_nil, ag_nx, ag_dn, ag_no, ag_if, jbr1, jbr2, jc1, jc2, jnul, jld, jsto, jstoL, jst1, jst2, jkill, jinc, jbI, jbL, jbS, juI, jl2i, jcmp, jisR, jisI, jisL, jret, jretv, jfits, jdup, jdup2, jpop, jmm, jcat, Value.category, jinv, jrcv, jthr, jhd, jput, jget, jlen, jald, jast, jaast, jgI, jgL, jgB, jtab, jlku, jacp, vf20, vf21, vf22, vf23, vf24, u2_s, u2_k, u2_i, uc_s, uc_k, uc_c, u2_c, LI0, LI1, LI2, LI3, LI4, LI5, LI6, LI7, LI8, LI9, LI10, LI11, LI12, LI13, LI14, LI15, LI16, LI17, LI18, LI19, LI20, LI21, LI22, LI23, LI24, LI25, LI26, LI27, LI28, LI29, LI30, LI31, LI32, LI33, LI34, LI35, LI36, LI37, LI40, LI42, LI43, LI45, LI48, LI60, LI61, LI64, LI80, LI300, LI400, LI1000, LI2000, LI2001, LI2047, LI2048, LI100000, LI1000000, LM, nI_clamp, nI_pos', nI_lt, nI_nlt, nI_le, nI_ge, nI_ne, nI_add, nI_sub, mI_lt, mI_le, mI_nlt, mI_nle, mI_ne, mI_ne', mI_nem, nI_mul, Nat.mul_comm k 4, hn4, h5, c1, c1', c2, k8, show 4 * k + a1.2.2.2.length < 32 by omega]
      · have c1' : v < nI 1 := Int32.not_le.mp c1
        simp (disch := omega) [r235_0, r235_1, r235_2, r235_3, r235_6, r235_9, r235_10, r235_11, r235_12, r235_16, r235_19, r235_20, r235_21, r235_22, r235_25, r235_26, r235_27, r235_30, r235_31, r235_32, r235_33, r235_34, r235_37, r235_38, r235_39, r235_42, r235_43, r235_44, r235_45, r235_46, r235_49, r235_50, r235_51, r235_52, r235_53, r235_54, r235_55, r235_58, r235_59, r235_60, r235_61, r235_62, r235_65, r235_66, r235_67, r235_68, r235_69, r235_72, r235_73, r235_74, r235_77, r235_78, r235_81, r235_82, r235_84, r235_87, r235_88, r235_89, r235_90, r235_93, r235_94, r235_95, r235_96, r235_97, r235_98, r235_99, qa232, qo232, g241, qa234, qo234, vf12_54, t241_54, g272, p272, vf12_42, t241_42, g260, p260, qa219, qo219, vf12_55, t241_55, g273, p273, vf12_56, t241_56, g274, p274, vf12_38, List.getElem?_cons_zero, List.getElem?_cons_succ, List.length_cons, List.length_nil, ag_nx, ag_dn, ag_no, ag_if, jbr1, jbr2, jc1, jc2, jnul, jld, jsto, jstoL, jst1, jst2, jkill, jinc, jbI, jbL, jbS, juI, jl2i, jcmp, jisR, jisI, jisL, jret, jretv, jfits, jdup, jdup2, jpop, jmm, jcat, Value.category, jinv, jrcv, jthr, jhd, jput, jget, jlen, jald, jast, jaast, jgI, jgL, jgB, jtab, jlku, jacp, vf20, vf21, vf22, vf23, vf24, u2_s, u2_k, u2_i, uc_s, uc_k, uc_c, u2_c, LI0, LI1, LI2, LI3, LI4, LI5, LI6, LI7, LI8, LI9, LI10, LI11, LI12, LI13, LI14, LI15, LI16, LI17, LI18, LI19, LI20, LI21, LI22, LI23, LI24, LI25, LI26, LI27, LI28, LI29, LI30, LI31, LI32, LI33, LI34, LI35, LI36, LI37, LI40, LI42, LI43, LI45, LI48, LI60, LI61, LI64, LI80, LI300, LI400, LI1000, LI2000, LI2001, LI2047, LI2048, LI100000, LI1000000, LM, nI_clamp, nI_pos', nI_lt, nI_nlt, nI_le, nI_ge, nI_ne, nI_add, nI_sub, mI_lt, mI_le, mI_nlt, mI_nle, mI_ne, mI_ne', mI_nem, nI_mul, Nat.mul_comm k 4, hn4, h5, c1, c1', k8, show 4 * k + a1.2.2.2.length < 32 by omega]
    · rw [aPut_put] at w2
      unfold aSetT
      rw [hat, ← ea1]
      simp only [hc, if_true]
      exact w2
  · have h4 : a1.2.2.2.length = 4 := by omega
    have hn4 : I1 272 k = nI 4 := by rw [wa1.2.2.2.2.1, h4]
    obtain ⟨I2, e2, w2, f2, _⟩ := rLose (d := d + 1) (A := A) (b := b) (h := h) (X := X) (J := J) (R := R) (n := n) (id := a1.1.1) (x := x) (v := 0) w1
    obtain ⟨i0, _⟩ := iR_01 wa1
    simp only [LI0, LI1, LI2, LI3, LI4, LI5, LI6, LI7, LI8, LI9, LI10, LI11, LI12, LI13, LI14, LI15, LI16, LI17, LI18, LI19, LI20, LI21, LI22, LI23, LI24, LI25, LI26, LI27, LI28, LI29, LI30, LI31, LI32, LI33, LI34, LI35, LI36, LI37, LI40, LI42, LI43, LI45, LI48, LI60, LI61, LI64, LI80, LI300, LI400, LI1000, LI2000, LI2001, LI2047, LI2048, LI100000, LI1000000, LM] at e2
    refine ⟨I2, ?_, ?_, fR_trans f1 f2⟩
    · rw [r235_15]
      simp (disch := omega) [r235_0, r235_1, r235_2, r235_3, r235_6, r235_9, r235_10, r235_11, r235_12, r235_16, r235_19, r235_20, r235_21, r235_22, r235_25, r235_26, r235_27, r235_30, r235_31, r235_32, r235_33, r235_34, r235_37, r235_38, r235_39, r235_42, r235_43, r235_44, r235_45, r235_46, r235_49, r235_50, r235_51, r235_52, r235_53, r235_54, r235_55, r235_58, r235_59, r235_60, r235_61, r235_62, r235_65, r235_66, r235_67, r235_68, r235_69, r235_72, r235_73, r235_74, r235_77, r235_78, r235_81, r235_82, r235_84, r235_87, r235_88, r235_89, r235_90, r235_93, r235_94, r235_95, r235_96, r235_97, r235_98, r235_99, qa232, qo232, g241, qa234, qo234, vf12_54, t241_54, g272, p272, vf12_42, t241_42, g260, p260, qa219, qo219, vf12_55, t241_55, g273, p273, vf12_56, t241_56, g274, p274, vf12_38, List.getElem?_cons_zero, List.getElem?_cons_succ, List.length_cons, List.length_nil, ag_nx, ag_dn, ag_no, ag_if, jbr1, jbr2, jc1, jc2, jnul, jld, jsto, jstoL, jst1, jst2, jkill, jinc, jbI, jbL, jbS, juI, jl2i, jcmp, jisR, jisI, jisL, jret, jretv, jfits, jdup, jdup2, jpop, jmm, jcat, Value.category, jinv, jrcv, jthr, jhd, jput, jget, jlen, jald, jast, jaast, jgI, jgL, jgB, jtab, jlku, jacp, vf20, vf21, vf22, vf23, vf24, u2_s, u2_k, u2_i, uc_s, uc_k, uc_c, u2_c, LI0, LI1, LI2, LI3, LI4, LI5, LI6, LI7, LI8, LI9, LI10, LI11, LI12, LI13, LI14, LI15, LI16, LI17, LI18, LI19, LI20, LI21, LI22, LI23, LI24, LI25, LI26, LI27, LI28, LI29, LI30, LI31, LI32, LI33, LI34, LI35, LI36, LI37, LI40, LI42, LI43, LI45, LI48, LI60, LI61, LI64, LI80, LI300, LI400, LI1000, LI2000, LI2001, LI2047, LI2048, LI100000, LI1000000, LM, nI_clamp, nI_pos', nI_lt, nI_nlt, nI_le, nI_ge, nI_ne, nI_add, nI_sub, mI_lt, mI_le, mI_nlt, mI_nle, mI_ne, mI_ne', mI_nem, hn4, e2, i0, k8]
    · unfold aSetT
      rw [hat, ← ea1]
      simp only [hc, if_false]
      exact w2
end RT
