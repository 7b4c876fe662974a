/-! the reference: a signal goes, a timer goes -/
section RS
variable {A : Nat → Nat} {d b n : Nat} {h : Nat → Option jC} {X : jXX} {I : Nat → Nat → Int32} {J : Nat → Nat → Int64} {R : Nat → Nat → Nat} {k : Nat} {rN : Int32 → Nm} {l : Bool} {W : aW Nm} {a : aI Nm}
theorem r224 {x y : Nat} (hx : x < 64) (hy : y < 64) : jcall A jcode (d + 1) 224 [.ref (b + 241), .int (nI x), .int (nI y)] (jH h b X I J R n) = some (.inl none, jH h b X (u2 (u2 (u2 (u2 I 268 y (I 268 x)) 269 y (I 269 x)) 270 y (I 270 x)) 271 y (I 271 x)) J R n) := by
  simp (disch := omega) [je224, r224_0, r224_1, r224_4, r224_5, r224_6, r224_9, r224_10, r224_11, r224_12, r224_13, r224_16, r224_17, r224_18, r224_21, r224_22, r224_23, r224_24, r224_25, r224_28, r224_29, r224_30, r224_33, r224_34, r224_35, r224_36, r224_37, r224_40, r224_41, r224_42, r224_45, r224_46, r224_47, r224_48, g241, vf12_50, t241_50, g268, p268, vf12_51, t241_51, g269, p269, vf12_52, t241_52, g270, p270, vf12_53, t241_53, g271, p271, List.getElem?_cons_zero, List.getElem?_cons_succ, List.length_cons, List.length_nil, ag_nx, ag_dn, ag_no, ag_if, jbr1, jbr2, jc1, jc2, jnul, jld, jsto, jstoL, jst1, jst2, jkill, jinc, jbI, jbL, jbS, juI, jl2i, jcmp, jisR, jisI, jisL, jret, jretv, jfits, jdup, jdup2, jpop, jmm, jcat, Value.category, jinv, jrcv, jthr, jhd, jput, jget, jlen, jald, jast, jaast, jgI, jgL, jgB, jtab, jlku, jacp, vf20, vf21, vf22, vf23, vf24, u2_s, u2_k, u2_i, uc_s, uc_k, uc_c, u2_c, LI0, LI1, LI2, LI3, LI4, LI5, LI6, LI7, LI8, LI9, LI10, LI11, LI12, LI13, LI14, LI15, LI16, LI17, LI18, LI19, LI20, LI21, LI22, LI23, LI24, LI25, LI26, LI27, LI28, LI29, LI30, LI31, LI32, LI33, LI34, LI35, LI36, LI37, LI40, LI42, LI43, LI45, LI48, LI60, LI61, LI64, LI80, LI300, LI400, LI1000, LI2000, LI2001, LI2047, LI2048, LI100000, LI1000000, LM, nI_clamp, nI_pos', nI_lt, nI_nlt, nI_le, nI_ge, nI_ne, nI_add, nI_sub, mI_lt, mI_le, mI_nlt, mI_nle, mI_ne, mI_ne', mI_nem, hx, hy]
theorem r225l {i0 : Int32} {Q : Nat} (hk : k < 8) (hQ : Q < 8) : ∀ (r i : Nat) (I : Nat → Nat → Int32), I 267 k = nI Q → i + r = Q → ∃ I', M225 A (d + 1) 12 [some (.ref (b + 241)), some (.int (nI k)), some (.int i0), some (.int (nI i))] [] (jH h b X I J R n) = some (.inl none, jH h b X I' J R n) ∧ (∀ c j, c < 268 ∨ 271 < c → I' c j = I c j) ∧ ∀ c j, 268 ≤ c → c ≤ 271 → I' c j = if 8 * k + i ≤ j ∧ j < 8 * k + Q then I c (j + 1) else I c j := by
  intro r
  induction r with
  | zero =>
    intro i I hq hir
    have : i = Q := by omega
    subst this
    refine ⟨I, ?_, fun _ _ _ => rfl, fun c j _ _ => by rw [if_neg (by omega)]⟩
    rw [r225_12]
    simp (disch := omega) [r225_0, r225_1, r225_4, r225_5, r225_6, r225_7, r225_8, r225_9, r225_10, r225_11, r225_13, r225_14, r225_17, r225_18, r225_19, r225_22, r225_23, r225_24, r225_26, r225_27, r225_28, r225_29, r225_30, r225_31, r225_32, r225_34, r225_35, r225_36, r225_37, r225_40, r225_43, r225_46, g241, vf12_49, t241_49, g267, p267, qa224, qo224, List.getElem?_cons_zero, List.getElem?_cons_succ, List.length_cons, List.length_nil, ag_nx, ag_dn, ag_no, ag_if, jbr1, jbr2, jc1, jc2, jnul, jld, jsto, jstoL, jst1, jst2, jkill, jinc, jbI, jbL, jbS, juI, jl2i, jcmp, jisR, jisI, jisL, jret, jretv, jfits, jdup, jdup2, jpop, jmm, jcat, Value.category, jinv, jrcv, jthr, jhd, jput, jget, jlen, jald, jast, jaast, jgI, jgL, jgB, jtab, jlku, jacp, vf20, vf21, vf22, vf23, vf24, u2_s, u2_k, u2_i, uc_s, uc_k, uc_c, u2_c, LI0, LI1, LI2, LI3, LI4, LI5, LI6, LI7, LI8, LI9, LI10, LI11, LI12, LI13, LI14, LI15, LI16, LI17, LI18, LI19, LI20, LI21, LI22, LI23, LI24, LI25, LI26, LI27, LI28, LI29, LI30, LI31, LI32, LI33, LI34, LI35, LI36, LI37, LI40, LI42, LI43, LI45, LI48, LI60, LI61, LI64, LI80, LI300, LI400, LI1000, LI2000, LI2001, LI2047, LI2048, LI100000, LI1000000, LM, nI_clamp, nI_pos', nI_lt, nI_nlt, nI_le, nI_ge, nI_ne, nI_add, nI_sub, mI_lt, mI_le, mI_nlt, mI_nle, mI_ne, mI_ne', mI_nem, hq, hk]
  | succ r ih =>
    intro i I hq hir
    have e1 := r224 (d := d) (A := A) (b := b) (h := h) (X := X) (J := J) (R := R) (n := n) (I := I) (x := 8 * k + i + 1) (y := 8 * k + i) (by omega) (by omega)
    obtain ⟨I', e2, f1, f2⟩ := ih (i + 1) (u2 (u2 (u2 (u2 I 268 (8 * k + i) (I 268 (8 * k + i + 1))) 269 (8 * k + i) (I 269 (8 * k + i + 1))) 270 (8 * k + i) (I 270 (8 * k + i + 1))) 271 (8 * k + i) (I 271 (8 * k + i + 1))) (by simp (disch := omega) [u2_k, hq]) (by omega)
    refine ⟨I', ?_, fun c j hc => (f1 c j hc).trans (by simp (disch := omega) [u2_k]), fun c j h1 h2 => ?_⟩
    · rw [r225_12]
      simp (disch := omega) [r225_0, r225_1, r225_4, r225_5, r225_6, r225_7, r225_8, r225_9, r225_10, r225_11, r225_13, r225_14, r225_17, r225_18, r225_19, r225_22, r225_23, r225_24, r225_26, r225_27, r225_28, r225_29, r225_30, r225_31, r225_32, r225_34, r225_35, r225_36, r225_37, r225_40, r225_43, r225_46, g241, vf12_49, t241_49, g267, p267, qa224, qo224, List.getElem?_cons_zero, List.getElem?_cons_succ, List.length_cons, List.length_nil, ag_nx, ag_dn, ag_no, ag_if, jbr1, jbr2, jc1, jc2, jnul, jld, jsto, jstoL, jst1, jst2, jkill, jinc, jbI, jbL, jbS, juI, jl2i, jcmp, jisR, jisI, jisL, jret, jretv, jfits, jdup, jdup2, jpop, jmm, jcat, Value.category, jinv, jrcv, jthr, jhd, jput, jget, jlen, jald, jast, jaast, jgI, jgL, jgB, jtab, jlku, jacp, vf20, vf21, vf22, vf23, vf24, u2_s, u2_k, u2_i, uc_s, uc_k, uc_c, u2_c, LI0, LI1, LI2, LI3, LI4, LI5, LI6, LI7, LI8, LI9, LI10, LI11, LI12, LI13, LI14, LI15, LI16, LI17, LI18, LI19, LI20, LI21, LI22, LI23, LI24, LI25, LI26, LI27, LI28, LI29, LI30, LI31, LI32, LI33, LI34, LI35, LI36, LI37, LI40, LI42, LI43, LI45, LI48, LI60, LI61, LI64, LI80, LI300, LI400, LI1000, LI2000, LI2001, LI2047, LI2048, LI100000, LI1000000, LM, nI_clamp, nI_pos', nI_lt, nI_nlt, nI_le, nI_ge, nI_ne, nI_add, nI_sub, mI_lt, mI_le, mI_nlt, mI_nle, mI_ne, mI_ne', mI_nem, hq, hk, nI_mul, Nat.mul_comm k 8, e1, e2]
    · rw [f2 c j h1 h2]
      have hv : ∀ j, (u2 (u2 (u2 (u2 I 268 (8 * k + i) (I 268 (8 * k + i + 1))) 269 (8 * k + i) (I 269 (8 * k + i + 1))) 270 (8 * k + i) (I 270 (8 * k + i + 1))) 271 (8 * k + i) (I 271 (8 * k + i + 1))) c j = if j = 8 * k + i then I c (8 * k + i + 1) else I c j := by
        intro j
        obtain rfl | rfl | rfl | rfl : c = 268 ∨ c = 269 ∨ c = 270 ∨ c = 271 := by omega
        · by_cases e : j = 8 * k + i
          · subst e; simp (disch := omega) [u2_k, u2_s]
          · simp (disch := omega) [u2_k, u2_i, e]
        · by_cases e : j = 8 * k + i
          · subst e; simp (disch := omega) [u2_k, u2_s]
          · simp (disch := omega) [u2_k, u2_i, e]
        · by_cases e : j = 8 * k + i
          · subst e; simp (disch := omega) [u2_k, u2_s]
          · simp (disch := omega) [u2_k, u2_i, e]
        · by_cases e : j = 8 * k + i
          · subst e; simp (disch := omega) [u2_s]
          · simp (disch := omega) [u2_k, u2_i, e]
      rw [hv, hv]
      by_cases c1 : 8 * k + (i + 1) ≤ j ∧ j < 8 * k + Q
      · rw [if_pos c1, if_neg (by omega), if_pos (by omega)]
      · rw [if_neg c1]
        by_cases c2 : j = 8 * k + i
        · rw [if_pos c2, if_pos (by omega), c2]
        · rw [if_neg c2, if_neg (by omega)]
/-- only what is the instance's at k has changed -/
def onR (k : Nat) (I I' : Nat → Nat → Int32) : Prop := (∀ c i, c < 260 ∨ 274 < c → I' c i = I c i) ∧ (∀ c j, 260 ≤ c → c ≤ 265 ∨ c = 267 ∨ c = 272 → j ≠ k → I' c j = I c j) ∧ (∀ j, j < 6 * k ∨ 6 * k + 6 ≤ j → I' 266 j = I 266 j) ∧ (∀ c j, 268 ≤ c → c ≤ 271 → j < 8 * k ∨ 8 * k + 8 ≤ j → I' c j = I c j) ∧ (∀ c j, 273 ≤ c → c ≤ 274 → j < 4 * k ∨ 4 * k + 4 ≤ j → I' c j = I c j)
theorem onR_trans {I I1 I2 : Nat → Nat → Int32} (h : onR k I I1) (h2 : onR k I1 I2) : onR k I I2 :=
  ⟨fun c i hc => (h2.1 c i hc).trans (h.1 c i hc), fun c j a1 a2 a3 => (h2.2.1 c j a1 a2 a3).trans (h.2.1 c j a1 a2 a3), fun j a1 => (h2.2.2.1 j a1).trans (h.2.2.1 j a1), fun c j a1 a2 a3 => (h2.2.2.2.1 c j a1 a2 a3).trans (h.2.2.2.1 c j a1 a2 a3), fun c j a1 a2 a3 => (h2.2.2.2.2 c j a1 a2 a3).trans (h.2.2.2.2 c j a1 a2 a3)⟩
theorem onR_refl : onR k I I := ⟨fun _ _ _ => rfl, fun _ _ _ _ _ => rfl, fun _ _ => rfl, fun _ _ _ _ _ => rfl, fun _ _ _ _ _ => rfl⟩
theorem wR_put {a' : aI Nm} {I' : Nat → Nat → Int32} (hW : wR rN I l W) (ok : okL W.1) (hk : k < W.1.length) (ho : onR k I I') (ha : iR rN I' k a') : wR rN I' l (aPut k a' W) ∧ fR I I' ∧ ∀ i, I' 241 i = I 241 i :=
  ⟨⟨wB_put hW.1 ok hk ho.2.1 ho.2.2.1 ho.2.2.2.1 ho.2.2.2.2 (ho.1 241 36 (by omega)) ha, tR_fr (fun c i h1 h2 => ho.1 c i (by omega)) (fun i h1 h2 => ho.1 241 i (by omega)) hW.2⟩, ⟨fun c i hc => ho.1 c i (by omega), fun i hi => ho.1 241 i (by omega), ho.1 241 66 (by omega)⟩, fun i => ho.1 241 i (by omega)⟩
theorem rDrop {i : Nat} (k8 : k < 8) (hA : iR rN I k a) (hQ : a.2.2.1.length ≤ 8) (hi : i < a.2.2.1.length) : ∃ I', jcall A jcode (d + 2) 225 [.ref (b + 241), .int (nI k), .int (nI i)] (jH h b X I J R n) = some (.inl none, jH h b X I' J R n) ∧ iR rN I' k (aDrop i a) ∧ onR k I I' := by
  obtain ⟨h1, h2, h3, h4, h5, h6⟩ := hA
  obtain ⟨I', e, f1, f2⟩ := r225l (d := d) (A := A) (b := b) (h := h) (X := X) (J := J) (R := R) (n := n) (k := k) (i0 := nI i) (Q := a.2.2.1.length - 1) k8 (by omega) (a.2.2.1.length - 1 - i) i (u2 I 267 k (nI (a.2.2.1.length - 1))) u2_s (by omega)
  have hl : (a.2.2.1.eraseIdx i).length = a.2.2.1.length - 1 := by rw [List.length_eraseIdx, if_pos hi]
  refine ⟨I', ?_, ⟨?_, ?_, ?_, ?_, ?_, ?_⟩, ⟨fun c j hc => ?_, fun c j a1 a2 a3 => ?_, fun j a1 => ?_, fun c j a1 a2 a3 => ?_, fun c j a1 a2 a3 => ?_⟩⟩
  · simp (disch := omega) [je225, r225_0, r225_1, r225_4, r225_5, r225_6, r225_7, r225_8, r225_9, r225_10, r225_11, r225_13, r225_14, r225_17, r225_18, r225_19, r225_22, r225_23, r225_24, r225_26, r225_27, r225_28, r225_29, r225_30, r225_31, r225_32, r225_34, r225_35, r225_36, r225_37, r225_40, r225_43, r225_46, g241, vf12_49, t241_49, g267, p267, qa224, qo224, List.getElem?_cons_zero, List.getElem?_cons_succ, List.length_cons, List.length_nil, ag_nx, ag_dn, ag_no, ag_if, jbr1, jbr2, jc1, jc2, jnul, jld, jsto, jstoL, jst1, jst2, jkill, jinc, jbI, jbL, jbS, juI, jl2i, jcmp, jisR, jisI, jisL, jret, jretv, jfits, jdup, jdup2, jpop, jmm, jcat, Value.category, jinv, jrcv, jthr, jhd, jput, jget, jlen, jald, jast, jaast, jgI, jgL, jgB, jtab, jlku, jacp, vf20, vf21, vf22, vf23, vf24, u2_s, u2_k, u2_i, uc_s, uc_k, uc_c, u2_c, LI0, LI1, LI2, LI3, LI4, LI5, LI6, LI7, LI8, LI9, LI10, LI11, LI12, LI13, LI14, LI15, LI16, LI17, LI18, LI19, LI20, LI21, LI22, LI23, LI24, LI25, LI26, LI27, LI28, LI29, LI30, LI31, LI32, LI33, LI34, LI35, LI36, LI37, LI40, LI42, LI43, LI45, LI48, LI60, LI61, LI64, LI80, LI300, LI400, LI1000, LI2000, LI2001, LI2047, LI2048, LI100000, LI1000000, LM, nI_clamp, nI_pos', nI_lt, nI_nlt, nI_le, nI_ge, nI_ne, nI_add, nI_sub, mI_lt, mI_le, mI_nlt, mI_nle, mI_ne, mI_ne', mI_nem, h3, k8, e]
  · show a.1 = _
    rw [h1]
    simp (disch := omega) [f1, u2_k]
  · refine ⟨h2.1.trans (rl_congr fun j hj => ?_), fun j hj hj6 => Eq.trans ?_ (h2.2 j hj hj6)⟩
    · rw [f1 _ _ (by omega), u2_k (by omega)]
    · rw [f1 _ _ (by omega), u2_k (by omega)]
  · show I' 267 k = nI (a.2.2.1.eraseIdx i).length
    rw [f1 _ _ (by omega), u2_s, hl]
  · show a.2.2.1.eraseIdx i = rl _ (a.2.2.1.eraseIdx i).length
    rw [hl, rl_erase (f := fun i => (rN (I 268 (8 * k + i)), I 269 (8 * k + i), I 270 (8 * k + i), oR (I 271 (8 * k + i)))) hi, ← h4]
    · intro j hj
      rw [f2 268 _ (by omega) (by omega), f2 269 _ (by omega) (by omega), f2 270 _ (by omega) (by omega), f2 271 _ (by omega) (by omega), if_neg (by omega), if_neg (by omega), if_neg (by omega), if_neg (by omega)]
      simp (disch := omega) [u2_k]
    · intro j hj hj2
      rw [f2 268 _ (by omega) (by omega), f2 269 _ (by omega) (by omega), f2 270 _ (by omega) (by omega), f2 271 _ (by omega) (by omega), if_pos (by omega), if_pos (by omega), if_pos (by omega), if_pos (by omega)]
      simp (disch := omega) [u2_k, Nat.add_assoc]
  · show I' 272 k = nI a.2.2.2.length
    rw [f1 _ _ (by omega), u2_k (by omega)]
    exact h5
  · refine h6.trans (rl_congr fun j hj => ?_)
    rw [f1 _ _ (by omega), f1 _ _ (by omega), u2_k (by omega), u2_k (by omega)]
  · rw [f1 _ _ (by omega), u2_k (by omega)]
  · rw [f1 _ _ (by omega)]
    by_cases hc : c = 267
    · subst hc; rw [u2_i a3]
    · rw [u2_k hc]
  · rw [f1 _ _ (by omega), u2_k (by omega)]
  · rw [f2 c j a1 a2, if_neg (by omega), u2_k (by omega)]
  · rw [f1 _ _ (by omega), u2_k (by omega)]
theorem r233l {i0 : Int32} {Q : Nat} (hk : k < 8) (hQ : Q < 4) : ∀ (r i : Nat) (I : Nat → Nat → Int32), I 272 k = nI Q → i + r = Q → ∃ I', M233 A (d + 1) 12 [some (.ref (b + 241)), some (.int (nI k)), some (.int i0), some (.int (nI i))] [] (jH h b X I J R n) = some (.inl none, jH h b X I' J R n) ∧ (∀ c j, c < 273 ∨ 274 < c → I' c j = I c j) ∧ ∀ c j, 273 ≤ c → c ≤ 274 → I' c j = if 4 * k + i ≤ j ∧ j < 4 * k + Q then I c (j + 1) else I c j := by
  intro r
  induction r with
  | zero =>
    intro i I hq hir
    have : i = Q := by omega
    subst this
    refine ⟨I, ?_, fun _ _ _ => rfl, fun c j _ _ => by rw [if_neg (by omega)]⟩
    rw [r233_12]
    simp (disch := omega) [r233_0, r233_1, r233_4, r233_5, r233_6, r233_7, r233_8, r233_9, r233_10, r233_11, r233_13, r233_14, r233_17, r233_18, r233_19, r233_22, r233_23, r233_26, r233_27, r233_28, r233_29, r233_30, r233_31, r233_32, r233_35, r233_36, r233_37, r233_38, r233_39, r233_40, r233_41, r233_42, r233_43, r233_44, r233_45, r233_48, r233_49, r233_50, r233_51, r233_52, r233_53, r233_54, r233_57, r233_58, r233_59, r233_60, r233_61, r233_62, r233_63, r233_64, r233_65, r233_66, r233_69, r233_72, g241, vf12_54, t241_54, g272, p272, vf12_55, t241_55, g273, p273, vf12_56, t241_56, g274, p274, List.getElem?_cons_zero, List.getElem?_cons_succ, List.length_cons, List.length_nil, ag_nx, ag_dn, ag_no, ag_if, jbr1, jbr2, jc1, jc2, jnul, jld, jsto, jstoL, jst1, jst2, jkill, jinc, jbI, jbL, jbS, juI, jl2i, jcmp, jisR, jisI, jisL, jret, jretv, jfits, jdup, jdup2, jpop, jmm, jcat, Value.category, jinv, jrcv, jthr, jhd, jput, jget, jlen, jald, jast, jaast, jgI, jgL, jgB, jtab, jlku, jacp, vf20, vf21, vf22, vf23, vf24, u2_s, u2_k, u2_i, uc_s, uc_k, uc_c, u2_c, LI0, LI1, LI2, LI3, LI4, LI5, LI6, LI7, LI8, LI9, LI10, LI11, LI12, LI13, LI14, LI15, LI16, LI17, LI18, LI19, LI20, LI21, LI22, LI23, LI24, LI25, LI26, LI27, LI28, LI29, LI30, LI31, LI32, LI33, LI34, LI35, LI36, LI37, LI40, LI42, LI43, LI45, LI48, LI60, LI61, LI64, LI80, LI300, LI400, LI1000, LI2000, LI2001, LI2047, LI2048, LI100000, LI1000000, LM, nI_clamp, nI_pos', nI_lt, nI_nlt, nI_le, nI_ge, nI_ne, nI_add, nI_sub, mI_lt, mI_le, mI_nlt, mI_nle, mI_ne, mI_ne', mI_nem, hq, hk]
  | succ r ih =>
    intro i I hq hir
    obtain ⟨I', e2, f1, f2⟩ := ih (i + 1) (u2 (u2 I 273 (4 * k + i) (I 273 (4 * k + i + 1))) 274 (4 * k + i) (I 274 (4 * k + i + 1))) (by simp (disch := omega) [u2_k, hq]) (by omega)
    refine ⟨I', ?_, fun c j hc => (f1 c j hc).trans (by simp (disch := omega) [u2_k]), fun c j h1 h2 => ?_⟩
    · rw [r233_12]
      simp (disch := omega) [r233_0, r233_1, r233_4, r233_5, r233_6, r233_7, r233_8, r233_9, r233_10, r233_11, r233_13, r233_14, r233_17, r233_18, r233_19, r233_22, r233_23, r233_26, r233_27, r233_28, r233_29, r233_30, r233_31, r233_32, r233_35, r233_36, r233_37, r233_38, r233_39, r233_40, r233_41, r233_42, r233_43, r233_44, r233_45, r233_48, r233_49, r233_50, r233_51, r233_52, r233_53, r233_54, r233_57, r233_58, r233_59, r233_60, r233_61, r233_62, r233_63, r233_64, r233_65, r233_66, r233_69, r233_72, g241, vf12_54, t241_54, g272, p272, vf12_55, t241_55, g273, p273, vf12_56, t241_56, g274, p274, List.getElem?_cons_zero, List.getElem?_cons_succ, List.length_cons, List.length_nil, ag_nx, ag_dn, ag_no, ag_if, jbr1, jbr2, jc1, jc2, jnul, jld, jsto, jstoL, jst1, jst2, jkill, jinc, jbI, jbL, jbS, juI, jl2i, jcmp, jisR, jisI, jisL, jret, jretv, jfits, jdup, jdup2, jpop, jmm, jcat, Value.category, jinv, jrcv, jthr, jhd, jput, jget, jlen, jald, jast, jaast, jgI, jgL, jgB, jtab, jlku, jacp, vf20, vf21, vf22, vf23, vf24, u2_s, u2_k, u2_i, uc_s, uc_k, uc_c, u2_c, LI0, LI1, LI2, LI3, LI4, LI5, LI6, LI7, LI8, LI9, LI10, LI11, LI12, LI13, LI14, LI15, LI16, LI17, LI18, LI19, LI20, LI21, LI22, LI23, LI24, LI25, LI26, LI27, LI28, LI29, LI30, LI31, LI32, LI33, LI34, LI35, LI36, LI37, LI40, LI42, LI43, LI45, LI48, LI60, LI61, LI64, LI80, LI300, LI400, LI1000, LI2000, LI2001, LI2047, LI2048, LI100000, LI1000000, LM, nI_clamp, nI_pos', nI_lt, nI_nlt, nI_le, nI_ge, nI_ne, nI_add, nI_sub, mI_lt, mI_le, mI_nlt, mI_nle, mI_ne, mI_ne', mI_nem, hq, hk, nI_mul, Nat.mul_comm k 4, e2, show 4 * k + i < 32 by omega, show 4 * k + i + 1 < 32 by omega]
    · rw [f2 c j h1 h2]
      have hv : ∀ j, (u2 (u2 I 273 (4 * k + i) (I 273 (4 * k + i + 1))) 274 (4 * k + i) (I 274 (4 * k + i + 1))) c j = if j = 4 * k + i then I c (4 * k + i + 1) else I c j := by
        intro j
        obtain rfl | rfl : c = 273 ∨ c = 274 := by omega
        · by_cases e : j = 4 * k + i
          · subst e; simp (disch := omega) [u2_k, u2_s]
          · simp (disch := omega) [u2_k, u2_i, e]
        · by_cases e : j = 4 * k + i
          · subst e; simp (disch := omega) [u2_s]
          · simp (disch := omega) [u2_k, u2_i, e]
      rw [hv, hv]
      by_cases c1 : 4 * k + (i + 1) ≤ j ∧ j < 4 * k + Q
      · rw [if_pos c1, if_neg (by omega), if_pos (by omega)]
      · rw [if_neg c1]
        by_cases c2 : j = 4 * k + i
        · rw [if_pos c2, if_pos (by omega), c2]
        · rw [if_neg c2, if_neg (by omega)]
theorem rDropT {i : Nat} (k8 : k < 8) (hA : iR rN I k a) (hT : a.2.2.2.length ≤ 4) (hi : i < a.2.2.2.length) : ∃ I', jcall A jcode (d + 2) 233 [.ref (b + 241), .int (nI k), .int (nI i)] (jH h b X I J R n) = some (.inl none, jH h b X I' J R n) ∧ iR rN I' k (aDropT i a) ∧ onR k I I' := by
  obtain ⟨h1, h2, h3, h4, h5, h6⟩ := hA
  obtain ⟨I', e, f1, f2⟩ := r233l (d := d) (A := A) (b := b) (h := h) (X := X) (J := J) (R := R) (n := n) (k := k) (i0 := nI i) (Q := a.2.2.2.length - 1) k8 (by omega) (a.2.2.2.length - 1 - i) i (u2 I 272 k (nI (a.2.2.2.length - 1))) u2_s (by omega)
  have hl : (a.2.2.2.eraseIdx i).length = a.2.2.2.length - 1 := by rw [List.length_eraseIdx, if_pos hi]
  refine ⟨I', ?_, ⟨?_, ?_, ?_, ?_, ?_, ?_⟩, ⟨fun c j hc => ?_, fun c j a1 a2 a3 => ?_, fun j a1 => ?_, fun c j a1 a2 a3 => ?_, fun c j a1 a2 a3 => ?_⟩⟩
  · simp (disch := omega) [je233, r233_0, r233_1, r233_4, r233_5, r233_6, r233_7, r233_8, r233_9, r233_10, r233_11, r233_13, r233_14, r233_17, r233_18, r233_19, r233_22, r233_23, r233_26, r233_27, r233_28, r233_29, r233_30, r233_31, r233_32, r233_35, r233_36, r233_37, r233_38, r233_39, r233_40, r233_41, r233_42, r233_43, r233_44, r233_45, r233_48, r233_49, r233_50, r233_51, r233_52, r233_53, r233_54, r233_57, r233_58, r233_59, r233_60, r233_61, r233_62, r233_63, r233_64, r233_65, r233_66, r233_69, r233_72, g241, vf12_54, t241_54, g272, p272, vf12_55, t241_55, g273, p273, vf12_56, t241_56, g274, p274, List.getElem?_cons_zero, List.getElem?_cons_succ, List.length_cons, List.length_nil, ag_nx, ag_dn, ag_no, ag_if, jbr1, jbr2, jc1, jc2, jnul, jld, jsto, jstoL, jst1, jst2, jkill, jinc, jbI, jbL, jbS, juI, jl2i, jcmp, jisR, jisI, jisL, jret, jretv, jfits, jdup, jdup2, jpop, jmm, jcat, Value.category, jinv, jrcv, jthr, jhd, jput, jget, jlen, jald, jast, jaast, jgI, jgL, jgB, jtab, jlku, jacp, vf20, vf21, vf22, vf23, vf24, u2_s, u2_k, u2_i, uc_s, uc_k, uc_c, u2_c, LI0, LI1, LI2, LI3, LI4, LI5, LI6, LI7, LI8, LI9, LI10, LI11, LI12, LI13, LI14, LI15, LI16, LI17, LI18, LI19, LI20, LI21, LI22, LI23, LI24, LI25, LI26, LI27, LI28, LI29, LI30, LI31, LI32, LI33, LI34, LI35, LI36, LI37, LI40, LI42, LI43, LI45, LI48, LI60, LI61, LI64, LI80, LI300, LI400, LI1000, LI2000, LI2001, LI2047, LI2048, LI100000, LI1000000, LM, nI_clamp, nI_pos', nI_lt, nI_nlt, nI_le, nI_ge, nI_ne, nI_add, nI_sub, mI_lt, mI_le, mI_nlt, mI_nle, mI_ne, mI_ne', mI_nem, h5, k8, e]
  · show a.1 = _
    rw [h1]
    simp (disch := omega) [f1, u2_k]
  · refine ⟨h2.1.trans (rl_congr fun j hj => ?_), fun j hj hj6 => Eq.trans ?_ (h2.2 j hj hj6)⟩
    · rw [f1 _ _ (by omega), u2_k (by omega)]
    · rw [f1 _ _ (by omega), u2_k (by omega)]
  · show I' 267 k = nI a.2.2.1.length
    rw [f1 _ _ (by omega), u2_k (by omega)]
    exact h3
  · refine h4.trans (rl_congr fun j hj => ?_)
    simp (disch := omega) [f1, u2_k]
  · show I' 272 k = nI (a.2.2.2.eraseIdx i).length
    rw [f1 _ _ (by omega), u2_s, hl]
  · show a.2.2.2.eraseIdx i = rl _ (a.2.2.2.eraseIdx i).length
    rw [hl, rl_erase (f := fun i => (rN (I 273 (4 * k + i)), I 274 (4 * k + i))) hi, ← h6]
    · intro j hj
      rw [f2 273 _ (by omega) (by omega), f2 274 _ (by omega) (by omega), if_neg (by omega), if_neg (by omega)]
      simp (disch := omega) [u2_k]
    · intro j hj hj2
      rw [f2 273 _ (by omega) (by omega), f2 274 _ (by omega) (by omega), if_pos (by omega), if_pos (by omega)]
      simp (disch := omega) [u2_k, Nat.add_assoc]
  · rw [f1 _ _ (by omega), u2_k (by omega)]
  · rw [f1 _ _ (by omega)]
    by_cases hc : c = 272
    · subst hc; rw [u2_i a3]
    · rw [u2_k hc]
  · rw [f1 _ _ (by omega), u2_k (by omega)]
  · rw [f1 _ _ (by omega), u2_k (by omega)]
  · rw [f2 c j a1 a2, if_neg (by omega), u2_k (by omega)]
end RS
