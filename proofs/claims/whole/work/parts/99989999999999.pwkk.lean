/-! walk: is a state looked for; the row is told -/
/-- deeds up to entry i -/
def bPt (E : List bE) : Nat → Nat → List Int32
  | 0, _ => []
  | r + 1, i => if i = 0 then [] else match E[i]? with
    | none => []
    | some x => bPt E r (ix x.2.1) ++ [x.2.2]
/-- each entry comes from an earlier one -/
def bOr (E : List bE) : Prop := ∀ (i : Nat) (x : bE), E[i]? = some x → 0 < i → ∃ j, j < i ∧ x.2.1 = nI j
theorem bPt_len {E : List bE} (hE : bOr E) (hl : E.length ≤ 1000) : ∀ (r i : Nat), i < E.length → (bPt E r i).length ≤ i := by
  intro r
  induction r with
  | zero => intro i _; exact Nat.zero_le _
  | succ r ih =>
    intro i hi
    unfold bPt
    by_cases c : i = 0
    · rw [if_pos c]; exact Nat.zero_le _
    · rw [if_neg c, List.getElem?_eq_getElem hi]
      obtain ⟨j, hj, e⟩ := hE i _ (List.getElem?_eq_getElem hi) (by omega)
      simp only
      rw [e, List.length_append, ix, nI_clamp (by omega)]
      have := ih j (by omega)
      simp only [List.length_cons, List.length_nil]
      omega
section CL
variable {A : Nat → Nat} {d b n : Nat} {h : Nat → Option jC} {X : jXX} {I : Nat → Nat → Int32} {J : Nat → Nat → Int64} {R : Nat → Nat → Nat} {cN rN : Int32 → Nm} {E : List bE} {F Z : Nat → Nat} {W : aW Nm} {N : Nat → Nat → Int32} {O G E' : Nat → Int32} {np P L B D wt : Nat}
/-- World.timeToGo -/
theorem c140 (hW : wC cN I R 132 W) (ok : okL W.1) (hD : D + 1000000 < 2 ^ 31 - 1) (hd : okD D W) : jcall A jcode (d + 3) 140 [.ref (b + 132)] (jH h b X I J R n) = some (.inl (some (.int (match aDue W.1 0 none with | none => mI 1 | some y => aUp W y.1))), jH h b X I J R n) := by
  have hw : isW 132 := by simp [isW]
  obtain ⟨h1, e1⟩ := cNext (A := A) (d := d) (b := b) (h := h) (X := X) (J := J) (n := n) hw hW ok hD hd
  have w5 : I 132 5 = W.2.1.2.1 := hW.2.2.1
  cases hy : aDue W.1 0 none with
  | none =>
    rw [hy] at e1
    simp only [ndS, Option.map_none, rfO] at e1
    have hq : isI 66 := by simp [isI]
    simp (disch := omega) [je140, r140_0, r140_1, r140_4, r140_5, r140_6, r140_9, r140_10, r140_13, r140_14, r140_15, r140_18, r140_19, r140_22, r140_23, r140_26, qa141, qo141, gW0 hw, qa142, vf9_5, List.getElem?_cons_zero, List.getElem?_cons_succ, List.length_cons, List.length_nil, ag_nx, ag_dn, ag_no, ag_if, jbr1, jbr2, jc1, jc2, jnul, jld, jsto, jstoL, jst1, jst2, jkill, jinc, jbI, jbL, jbS, juI, jl2i, jcmp, jisR, jisI, jisL, jret, jretv, jfits, jdup, jdup2, jpop, jmm, jcat, Value.category, jinv, jrcv, jthr, jhd, jput, jget, jlen, jald, jast, jaast, jgI, jgL, jgB, jtab, jlku, jacp, vf20, vf21, vf22, vf23, vf24, u2_s, u2_k, u2_i, uc_s, uc_k, uc_c, u2_c, LI0, LI1, LI2, LI3, LI4, LI5, LI6, LI7, LI8, LI9, LI10, LI11, LI12, LI13, LI14, LI15, LI16, LI17, LI18, LI19, LI20, LI21, LI22, LI23, LI24, LI25, LI26, LI27, LI28, LI29, LI30, LI31, LI32, LI33, LI34, LI35, LI36, LI37, LI40, LI42, LI43, LI45, LI48, LI60, LI61, LI64, LI80, LI300, LI400, LI1000, LI2000, LI2001, LI2047, LI2048, LI100000, LI1000000, LM, nI_clamp, nI_pos', nI_lt, nI_nlt, nI_le, nI_ge, nI_ne, nI_add, nI_sub, mI_lt, mI_le, mI_nlt, mI_nle, mI_ne, mI_ne', mI_nem, e1]
  | some y =>
    obtain ⟨a, ha, hne, y1, y2⟩ := h1 y hy
    rw [hy] at e1
    simp only [ndS, Option.map_some, rfO] at e1
    have k8 : y.2.1 < 8 := by have := lt_of_some ha; have := hW.1.2.1; omega
    have hq : isI (R (132 + 8) y.2.1) := wA_I hw hW.1 _ k8
    obtain ⟨o1, o2, o3, _⟩ := ok _ a ha
    have e2 := c142 (A := A) (d := d + 1) (b := b) (h := h) (X := X) (I := I) (J := J) (R := R) (n := n) hq (hW.1.2.2.2 _ a ha) o3 hne hD (hd.2 _ a ha)
    rw [← y1] at e2
    simp only
    unfold aUp
    have e0 : (0 : Int32) = nI 0 := LI0
    simp (disch := omega) [je140, r140_0, r140_1, r140_4, r140_5, r140_6, r140_9, r140_10, r140_13, r140_14, r140_15, r140_18, r140_19, r140_22, r140_23, r140_26, qa141, qo141, gW0 hw, qa142, vf9_5, List.getElem?_cons_zero, List.getElem?_cons_succ, List.length_cons, List.length_nil, ag_nx, ag_dn, ag_no, ag_if, jbr1, jbr2, jc1, jc2, jnul, jld, jsto, jstoL, jst1, jst2, jkill, jinc, jbI, jbL, jbS, juI, jl2i, jcmp, jisR, jisI, jisL, jret, jretv, jfits, jdup, jdup2, jpop, jmm, jcat, Value.category, jinv, jrcv, jthr, jhd, jput, jget, jlen, jald, jast, jaast, jgI, jgL, jgB, jtab, jlku, jacp, vf20, vf21, vf22, vf23, vf24, u2_s, u2_k, u2_i, uc_s, uc_k, uc_c, u2_c, LI0, LI1, LI2, LI3, LI4, LI5, LI6, LI7, LI8, LI9, LI10, LI11, LI12, LI13, LI14, LI15, LI16, LI17, LI18, LI19, LI20, LI21, LI22, LI23, LI24, LI25, LI26, LI27, LI28, LI29, LI30, LI31, LI32, LI33, LI34, LI35, LI36, LI37, LI40, LI42, LI43, LI45, LI48, LI60, LI61, LI64, LI80, LI300, LI400, LI1000, LI2000, LI2001, LI2047, LI2048, LI100000, LI1000000, LM, nI_clamp, nI_pos', nI_lt, nI_nlt, nI_le, nI_ge, nI_ne, nI_add, nI_sub, mI_lt, mI_le, mI_nlt, mI_nle, mI_ne, mI_ne', mI_nem, e1, e2, w5]
theorem c146l {p s : Int32} (hW : wC cN I R 132 W) : ∀ (as : List (aI Nm)) (k : Nat), k + as.length = W.1.length → (∀ j a, as[j]? = some a → W.1[k + j]? = some a) → M146 A d 2 [some (.ref (b + 132)), some (.int p), some (.int s), some (.int (nI k))] [] (jH h b X I J R n) = some (.inl (some (.int (if as.any (fun a => decide (a.1.2.1 = p) && decide (a.1.2.2.1 = s)) = true then nI 1 else nI 0))), jH h b X I J R n) := by
  have hw : isW 132 := by simp [isW]
  have l8 := hW.1.2.1
  have h3 : I 132 3 = nI W.1.length := hW.1.2.2.1
  intro as
  induction as with
  | nil =>
    intro k hk _
    have hk' : k = W.1.length := by simpa using hk
    subst hk'
    have hq : isI 66 := by simp [isI]
    conv => lhs; rw [r146_2]
    simp (disch := omega) [r146_0, r146_1, r146_3, r146_4, r146_7, r146_10, r146_11, r146_13, r146_16, r146_17, r146_20, r146_21, r146_22, r146_25, r146_26, r146_29, r146_30, r146_33, r146_34, r146_35, r146_38, r146_39, r146_42, r146_43, r146_44, r146_47, r146_50, r146_51, gW0 hw, vf9_3, vf9_2, tW0_2 hw, gW8 hw, gI0 hq, vf2_1, vf2_2, List.getElem?_cons_zero, List.getElem?_cons_succ, List.length_cons, List.length_nil, ag_nx, ag_dn, ag_no, ag_if, jbr1, jbr2, jc1, jc2, jnul, jld, jsto, jstoL, jst1, jst2, jkill, jinc, jbI, jbL, jbS, juI, jl2i, jcmp, jisR, jisI, jisL, jret, jretv, jfits, jdup, jdup2, jpop, jmm, jcat, Value.category, jinv, jrcv, jthr, jhd, jput, jget, jlen, jald, jast, jaast, jgI, jgL, jgB, jtab, jlku, jacp, vf20, vf21, vf22, vf23, vf24, u2_s, u2_k, u2_i, uc_s, uc_k, uc_c, u2_c, LI0, LI1, LI2, LI3, LI4, LI5, LI6, LI7, LI8, LI9, LI10, LI11, LI12, LI13, LI14, LI15, LI16, LI17, LI18, LI19, LI20, LI21, LI22, LI23, LI24, LI25, LI26, LI27, LI28, LI29, LI30, LI31, LI32, LI33, LI34, LI35, LI36, LI37, LI40, LI42, LI43, LI45, LI48, LI60, LI61, LI64, LI80, LI300, LI400, LI1000, LI2000, LI2001, LI2047, LI2048, LI100000, LI1000000, LM, nI_clamp, nI_pos', nI_lt, nI_nlt, nI_le, nI_ge, nI_ne, nI_add, nI_sub, mI_lt, mI_le, mI_nlt, mI_nle, mI_ne, mI_ne', mI_nem, h3]
  | cons a as ih =>
    intro k hk ha
    have hk' : k + (as.length + 1) = W.1.length := by simpa using hk
    have hka : W.1[k]? = some a := ha 0 a rfl
    have hq : isI (R (132 + 8) k) := wA_I hw hW.1 _ (by omega)
    have hq' : isI (R 140 k) := hq
    have hA := hW.1.2.2.2 k a hka
    have i1 : I (R 140 k) 1 = a.1.2.1 := by rw [hA.1]
    have i2 : I (R 140 k) 2 = a.1.2.2.1 := by rw [hA.1]
    have e1 := ih (k + 1) (by omega) (fun j c hj => by
      rw [show k + 1 + j = k + (j + 1) by omega]
      exact ha (j + 1) c (by simpa using hj))
    conv => lhs; rw [r146_2]
    by_cases c1 : a.1.2.1 = p
    · by_cases c2 : a.1.2.2.1 = s
      · rw [if_pos (by simp [c1, c2])]
        simp (disch := omega) [r146_0, r146_1, r146_3, r146_4, r146_7, r146_10, r146_11, r146_13, r146_16, r146_17, r146_20, r146_21, r146_22, r146_25, r146_26, r146_29, r146_30, r146_33, r146_34, r146_35, r146_38, r146_39, r146_42, r146_43, r146_44, r146_47, r146_50, r146_51, gW0 hw, vf9_3, vf9_2, tW0_2 hw, gW8 hw, gI0 hq, vf2_1, vf2_2, List.getElem?_cons_zero, List.getElem?_cons_succ, List.length_cons, List.length_nil, ag_nx, ag_dn, ag_no, ag_if, jbr1, jbr2, jc1, jc2, jnul, jld, jsto, jstoL, jst1, jst2, jkill, jinc, jbI, jbL, jbS, juI, jl2i, jcmp, jisR, jisI, jisL, jret, jretv, jfits, jdup, jdup2, jpop, jmm, jcat, Value.category, jinv, jrcv, jthr, jhd, jput, jget, jlen, jald, jast, jaast, jgI, jgL, jgB, jtab, jlku, jacp, vf20, vf21, vf22, vf23, vf24, u2_s, u2_k, u2_i, uc_s, uc_k, uc_c, u2_c, LI0, LI1, LI2, LI3, LI4, LI5, LI6, LI7, LI8, LI9, LI10, LI11, LI12, LI13, LI14, LI15, LI16, LI17, LI18, LI19, LI20, LI21, LI22, LI23, LI24, LI25, LI26, LI27, LI28, LI29, LI30, LI31, LI32, LI33, LI34, LI35, LI36, LI37, LI40, LI42, LI43, LI45, LI48, LI60, LI61, LI64, LI80, LI300, LI400, LI1000, LI2000, LI2001, LI2047, LI2048, LI100000, LI1000000, LM, nI_clamp, nI_pos', nI_lt, nI_nlt, nI_le, nI_ge, nI_ne, nI_add, nI_sub, mI_lt, mI_le, mI_nlt, mI_nle, mI_ne, mI_ne', mI_nem, h3, gW8 hw, show k < W.1.length by omega, show k < 8 by omega, i1, i2, c1, c2]
      · rw [show ((a :: as).any (fun a => decide (a.1.2.1 = p) && decide (a.1.2.2.1 = s))) = as.any (fun a => decide (a.1.2.1 = p) && decide (a.1.2.2.1 = s)) by simp [c2]]
        simp (disch := omega) [r146_0, r146_1, r146_3, r146_4, r146_7, r146_10, r146_11, r146_13, r146_16, r146_17, r146_20, r146_21, r146_22, r146_25, r146_26, r146_29, r146_30, r146_33, r146_34, r146_35, r146_38, r146_39, r146_42, r146_43, r146_44, r146_47, r146_50, r146_51, gW0 hw, vf9_3, vf9_2, tW0_2 hw, gW8 hw, gI0 hq, vf2_1, vf2_2, List.getElem?_cons_zero, List.getElem?_cons_succ, List.length_cons, List.length_nil, ag_nx, ag_dn, ag_no, ag_if, jbr1, jbr2, jc1, jc2, jnul, jld, jsto, jstoL, jst1, jst2, jkill, jinc, jbI, jbL, jbS, juI, jl2i, jcmp, jisR, jisI, jisL, jret, jretv, jfits, jdup, jdup2, jpop, jmm, jcat, Value.category, jinv, jrcv, jthr, jhd, jput, jget, jlen, jald, jast, jaast, jgI, jgL, jgB, jtab, jlku, jacp, vf20, vf21, vf22, vf23, vf24, u2_s, u2_k, u2_i, uc_s, uc_k, uc_c, u2_c, LI0, LI1, LI2, LI3, LI4, LI5, LI6, LI7, LI8, LI9, LI10, LI11, LI12, LI13, LI14, LI15, LI16, LI17, LI18, LI19, LI20, LI21, LI22, LI23, LI24, LI25, LI26, LI27, LI28, LI29, LI30, LI31, LI32, LI33, LI34, LI35, LI36, LI37, LI40, LI42, LI43, LI45, LI48, LI60, LI61, LI64, LI80, LI300, LI400, LI1000, LI2000, LI2001, LI2047, LI2048, LI100000, LI1000000, LM, nI_clamp, nI_pos', nI_lt, nI_nlt, nI_le, nI_ge, nI_ne, nI_add, nI_sub, mI_lt, mI_le, mI_nlt, mI_nle, mI_ne, mI_ne', mI_nem, h3, gW8 hw, show k < W.1.length by omega, show k < 8 by omega, i1, i2, c1, c2, e1]
    · rw [show ((a :: as).any (fun a => decide (a.1.2.1 = p) && decide (a.1.2.2.1 = s))) = as.any (fun a => decide (a.1.2.1 = p) && decide (a.1.2.2.1 = s)) by simp [c1]]
      simp (disch := omega) [r146_0, r146_1, r146_3, r146_4, r146_7, r146_10, r146_11, r146_13, r146_16, r146_17, r146_20, r146_21, r146_22, r146_25, r146_26, r146_29, r146_30, r146_33, r146_34, r146_35, r146_38, r146_39, r146_42, r146_43, r146_44, r146_47, r146_50, r146_51, gW0 hw, vf9_3, vf9_2, tW0_2 hw, gW8 hw, gI0 hq, vf2_1, vf2_2, List.getElem?_cons_zero, List.getElem?_cons_succ, List.length_cons, List.length_nil, ag_nx, ag_dn, ag_no, ag_if, jbr1, jbr2, jc1, jc2, jnul, jld, jsto, jstoL, jst1, jst2, jkill, jinc, jbI, jbL, jbS, juI, jl2i, jcmp, jisR, jisI, jisL, jret, jretv, jfits, jdup, jdup2, jpop, jmm, jcat, Value.category, jinv, jrcv, jthr, jhd, jput, jget, jlen, jald, jast, jaast, jgI, jgL, jgB, jtab, jlku, jacp, vf20, vf21, vf22, vf23, vf24, u2_s, u2_k, u2_i, uc_s, uc_k, uc_c, u2_c, LI0, LI1, LI2, LI3, LI4, LI5, LI6, LI7, LI8, LI9, LI10, LI11, LI12, LI13, LI14, LI15, LI16, LI17, LI18, LI19, LI20, LI21, LI22, LI23, LI24, LI25, LI26, LI27, LI28, LI29, LI30, LI31, LI32, LI33, LI34, LI35, LI36, LI37, LI40, LI42, LI43, LI45, LI48, LI60, LI61, LI64, LI80, LI300, LI400, LI1000, LI2000, LI2001, LI2047, LI2048, LI100000, LI1000000, LM, nI_clamp, nI_pos', nI_lt, nI_nlt, nI_le, nI_ge, nI_ne, nI_add, nI_sub, mI_lt, mI_le, mI_nlt, mI_nle, mI_ne, mI_ne', mI_nem, h3, gW8 hw, show k < W.1.length by omega, show k < 8 by omega, i1, i2, c1, e1]
/-- World.hasIn -/
theorem c146 {p s : Int32} (hW : wC cN I R 132 W) : jcall A jcode (d + 1) 146 [.ref (b + 132), .int p, .int s] (jH h b X I J R n) = some (.inl (some (.int (if W.1.any (fun a => decide (a.1.2.1 = p) && decide (a.1.2.2.1 = s)) = true then nI 1 else nI 0))), jH h b X I J R n) := by
  have e := c146l (A := A) (d := d) (b := b) (h := h) (X := X) (J := J) (n := n) (p := p) (s := s) hW W.1 0 (by omega) (fun j a hj => by rw [Nat.zero_add]; exact hj)
  have hw : isW 132 := by simp [isW]
  have hq : isI 66 := by simp [isI]
  simp (disch := omega) [je146, r146_0, r146_1, r146_3, r146_4, r146_7, r146_10, r146_11, r146_13, r146_16, r146_17, r146_20, r146_21, r146_22, r146_25, r146_26, r146_29, r146_30, r146_33, r146_34, r146_35, r146_38, r146_39, r146_42, r146_43, r146_44, r146_47, r146_50, r146_51, gW0 hw, vf9_3, vf9_2, tW0_2 hw, gW8 hw, gI0 hq, vf2_1, vf2_2, List.getElem?_cons_zero, List.getElem?_cons_succ, List.length_cons, List.length_nil, ag_nx, ag_dn, ag_no, ag_if, jbr1, jbr2, jc1, jc2, jnul, jld, jsto, jstoL, jst1, jst2, jkill, jinc, jbI, jbL, jbS, juI, jl2i, jcmp, jisR, jisI, jisL, jret, jretv, jfits, jdup, jdup2, jpop, jmm, jcat, Value.category, jinv, jrcv, jthr, jhd, jput, jget, jlen, jald, jast, jaast, jgI, jgL, jgB, jtab, jlku, jacp, vf20, vf21, vf22, vf23, vf24, u2_s, u2_k, u2_i, uc_s, uc_k, uc_c, u2_c, LI0, LI1, LI2, LI3, LI4, LI5, LI6, LI7, LI8, LI9, LI10, LI11, LI12, LI13, LI14, LI15, LI16, LI17, LI18, LI19, LI20, LI21, LI22, LI23, LI24, LI25, LI26, LI27, LI28, LI29, LI30, LI31, LI32, LI33, LI34, LI35, LI36, LI37, LI40, LI42, LI43, LI45, LI48, LI60, LI61, LI64, LI80, LI300, LI400, LI1000, LI2000, LI2001, LI2047, LI2048, LI100000, LI1000000, LM, nI_clamp, nI_pos', nI_lt, nI_nlt, nI_le, nI_ge, nI_ne, nI_add, nI_sub, mI_lt, mI_le, mI_nlt, mI_nle, mI_ne, mI_ne', mI_nem, e]
theorem c107l (hj : ∀ x y, cN x = cN y → x = y) (hm : ∀ z, rN z = cN (-1) → z = -1) (hP : isP P) (hR : R 132 0 = P) (hok : okW N np B W) : ∀ (as : List (aI Nm)) (k : Nat) (I : Nat → Nat → Int32), plC cN rN N O G E' np P L I → wC cN I R 132 W → k + as.length = W.1.length → (∀ j a, as[j]? = some a → W.1[k + j]? = some a) → ∃ I', M107 A (d + 4) 45 [some (.ref (b + 131)), some (.int (nI k))] [] (jH h b X I J R n) = some (.inl (some (.int (if as.all (fun a => decide ((aPlan rN N W.2.1.2.1 a).1 = 0)) = true then nI 1 else nI 0))), jH h b X I' J R n) ∧ onT 132 I I' := by
  have hw : isW 132 := by simp [isW]
  have hPe := isP_e hP
  intro as
  induction as with
  | nil =>
    intro k I hpl hW hk _
    have l8 := hW.1.2.1
    have h3 : I 132 3 = nI W.1.length := hW.1.2.2.1
    have hk' : k = W.1.length := by simpa using hk
    subst hk'
    have hq : isI 66 := by simp [isI]
    refine ⟨I, ?_, onT_refl⟩
    conv => lhs; rw [r107_45]
    simp (disch := omega) [r107_0, r107_1, r107_4, r107_5, r107_8, r107_9, r107_12, r107_13, r107_16, r107_17, r107_20, r107_23, r107_24, r107_25, r107_28, r107_31, r107_32, r107_35, r107_38, r107_41, r107_42, r107_43, r107_44, r107_46, r107_47, r107_50, r107_53, r107_56, r107_57, r107_59, r107_62, r107_63, r107_66, r107_67, r107_70, r107_73, r107_74, r107_75, r107_78, r107_81, r107_82, r107_83, r107_86, r107_89, r107_90, g131, vf8_10, vf8_0, t131_0, vf8_11, vf8_12, qa146, qo146, gW0 hw, qa140, qo140, vf9_3, vf9_2, tW0_2 hw, gW8 hw, qa123, qo123, List.getElem?_cons_zero, List.getElem?_cons_succ, List.length_cons, List.length_nil, ag_nx, ag_dn, ag_no, ag_if, jbr1, jbr2, jc1, jc2, jnul, jld, jsto, jstoL, jst1, jst2, jkill, jinc, jbI, jbL, jbS, juI, jl2i, jcmp, jisR, jisI, jisL, jret, jretv, jfits, jdup, jdup2, jpop, jmm, jcat, Value.category, jinv, jrcv, jthr, jhd, jput, jget, jlen, jald, jast, jaast, jgI, jgL, jgB, jtab, jlku, jacp, vf20, vf21, vf22, vf23, vf24, u2_s, u2_k, u2_i, uc_s, uc_k, uc_c, u2_c, LI0, LI1, LI2, LI3, LI4, LI5, LI6, LI7, LI8, LI9, LI10, LI11, LI12, LI13, LI14, LI15, LI16, LI17, LI18, LI19, LI20, LI21, LI22, LI23, LI24, LI25, LI26, LI27, LI28, LI29, LI30, LI31, LI32, LI33, LI34, LI35, LI36, LI37, LI40, LI42, LI43, LI45, LI48, LI60, LI61, LI64, LI80, LI300, LI400, LI1000, LI2000, LI2001, LI2047, LI2048, LI100000, LI1000000, LM, nI_clamp, nI_pos', nI_lt, nI_nlt, nI_le, nI_ge, nI_ne, nI_add, nI_sub, mI_lt, mI_le, mI_nlt, mI_nle, mI_ne, mI_ne', mI_nem, h3]
  | cons a as ih =>
    intro k I hpl hW hk ha
    have l8 := hW.1.2.1
    have h3 : I 132 3 = nI W.1.length := hW.1.2.2.1
    have hk' : k + (as.length + 1) = W.1.length := by simpa using hk
    have hka : W.1[k]? = some a := ha 0 a rfl
    have hq : isI (R (132 + 8) k) := wA_I hw hW.1 _ (by omega)
    have hA := hW.1.2.2.2 k a hka
    have hr := okS_r hW.1.1 (show k < 8 by omega)
    obtain ⟨I1, e1, o1, _⟩ := cChoose (A := A) (d := d) (b := b) (h := h) (X := X) (I := I) (J := J) (R := R) (n := n) (w := 132) (p0 := R (132 + 8) k) (a := a) (now := W.2.1.2.1) hw hq hP hR hj hm hr hpl hA (hok.2.1 k a hka) hW.2.2.1
    have e1' : jcall A jcode (d + 4) 123 [.ref (b + 132), .ref (b + R 140 k)] (jH h b X I J R n) = some (.inl (some (.int (aPlan rN N W.2.1.2.1 a).1)), jH h b X I1 J R n) := e1
    by_cases c : (aPlan rN N W.2.1.2.1 a).1 = 0
    · obtain ⟨I2, e2, o2⟩ := ih (k + 1) I1 (plC_fr (fun c i h1 h2 => o1 c i (by omega) (by omega)) hpl) (wC_onT hw o1 hW) (by omega) (fun j c hj => by
        rw [show k + 1 + j = k + (j + 1) by omega]
        exact ha (j + 1) c (by simpa using hj))
      refine ⟨I2, ?_, onT_trans o1 o2⟩
      rw [show ((a :: as).all (fun a => decide ((aPlan rN N W.2.1.2.1 a).1 = 0))) = as.all (fun a => decide ((aPlan rN N W.2.1.2.1 a).1 = 0)) by simp [c]]
      rw [c] at e1'
      simp only [LI0] at e1'
      conv => lhs; rw [r107_45]
      simp (disch := omega) [r107_0, r107_1, r107_4, r107_5, r107_8, r107_9, r107_12, r107_13, r107_16, r107_17, r107_20, r107_23, r107_24, r107_25, r107_28, r107_31, r107_32, r107_35, r107_38, r107_41, r107_42, r107_43, r107_44, r107_46, r107_47, r107_50, r107_53, r107_56, r107_57, r107_59, r107_62, r107_63, r107_66, r107_67, r107_70, r107_73, r107_74, r107_75, r107_78, r107_81, r107_82, r107_83, r107_86, r107_89, r107_90, g131, vf8_10, vf8_0, t131_0, vf8_11, vf8_12, qa146, qo146, gW0 hw, qa140, qo140, vf9_3, vf9_2, tW0_2 hw, gW8 hw, qa123, qo123, List.getElem?_cons_zero, List.getElem?_cons_succ, List.length_cons, List.length_nil, ag_nx, ag_dn, ag_no, ag_if, jbr1, jbr2, jc1, jc2, jnul, jld, jsto, jstoL, jst1, jst2, jkill, jinc, jbI, jbL, jbS, juI, jl2i, jcmp, jisR, jisI, jisL, jret, jretv, jfits, jdup, jdup2, jpop, jmm, jcat, Value.category, jinv, jrcv, jthr, jhd, jput, jget, jlen, jald, jast, jaast, jgI, jgL, jgB, jtab, jlku, jacp, vf20, vf21, vf22, vf23, vf24, u2_s, u2_k, u2_i, uc_s, uc_k, uc_c, u2_c, LI0, LI1, LI2, LI3, LI4, LI5, LI6, LI7, LI8, LI9, LI10, LI11, LI12, LI13, LI14, LI15, LI16, LI17, LI18, LI19, LI20, LI21, LI22, LI23, LI24, LI25, LI26, LI27, LI28, LI29, LI30, LI31, LI32, LI33, LI34, LI35, LI36, LI37, LI40, LI42, LI43, LI45, LI48, LI60, LI61, LI64, LI80, LI300, LI400, LI1000, LI2000, LI2001, LI2047, LI2048, LI100000, LI1000000, LM, nI_clamp, nI_pos', nI_lt, nI_nlt, nI_le, nI_ge, nI_ne, nI_add, nI_sub, mI_lt, mI_le, mI_nlt, mI_nle, mI_ne, mI_ne', mI_nem, h3, gW8 hw, show k < W.1.length by omega, show k < 8 by omega, e1', e2]
    · refine ⟨I1, ?_, o1⟩
      rw [if_neg (by simp [c])]
      have c' : ¬ (aPlan rN N W.2.1.2.1 a).1 = nI 0 := c
      conv => lhs; rw [r107_45]
      simp (disch := omega) [r107_0, r107_1, r107_4, r107_5, r107_8, r107_9, r107_12, r107_13, r107_16, r107_17, r107_20, r107_23, r107_24, r107_25, r107_28, r107_31, r107_32, r107_35, r107_38, r107_41, r107_42, r107_43, r107_44, r107_46, r107_47, r107_50, r107_53, r107_56, r107_57, r107_59, r107_62, r107_63, r107_66, r107_67, r107_70, r107_73, r107_74, r107_75, r107_78, r107_81, r107_82, r107_83, r107_86, r107_89, r107_90, g131, vf8_10, vf8_0, t131_0, vf8_11, vf8_12, qa146, qo146, gW0 hw, qa140, qo140, vf9_3, vf9_2, tW0_2 hw, gW8 hw, qa123, qo123, List.getElem?_cons_zero, List.getElem?_cons_succ, List.length_cons, List.length_nil, ag_nx, ag_dn, ag_no, ag_if, jbr1, jbr2, jc1, jc2, jnul, jld, jsto, jstoL, jst1, jst2, jkill, jinc, jbI, jbL, jbS, juI, jl2i, jcmp, jisR, jisI, jisL, jret, jretv, jfits, jdup, jdup2, jpop, jmm, jcat, Value.category, jinv, jrcv, jthr, jhd, jput, jget, jlen, jald, jast, jaast, jgI, jgL, jgB, jtab, jlku, jacp, vf20, vf21, vf22, vf23, vf24, u2_s, u2_k, u2_i, uc_s, uc_k, uc_c, u2_c, LI0, LI1, LI2, LI3, LI4, LI5, LI6, LI7, LI8, LI9, LI10, LI11, LI12, LI13, LI14, LI15, LI16, LI17, LI18, LI19, LI20, LI21, LI22, LI23, LI24, LI25, LI26, LI27, LI28, LI29, LI30, LI31, LI32, LI33, LI34, LI35, LI36, LI37, LI40, LI42, LI43, LI45, LI48, LI60, LI61, LI64, LI80, LI300, LI400, LI1000, LI2000, LI2001, LI2047, LI2048, LI100000, LI1000000, LM, nI_clamp, nI_pos', nI_lt, nI_nlt, nI_le, nI_ge, nI_ne, nI_add, nI_sub, mI_lt, mI_le, mI_nlt, mI_nle, mI_ne, mI_ne', mI_nem, h3, gW8 hw, show k < W.1.length by omega, show k < 8 by omega, e1', c']
/-- Walker.isLookedFor -/
theorem c107 {p s : Int32} (hj : ∀ x y, cN x = cN y → x = y) (hm : ∀ z, rN z = cN (-1) → z = -1) (hP : isP P) (hR : R 132 0 = P) (hpl : plC cN rN N O G E' np P L I) (hW : wC cN I R 132 W) (hok : okW N np B W) (hD : D + 1000000 < 2 ^ 31 - 1) (hd : okD D W) (hwt : wt ≤ 3) (h10 : I 131 10 = nI wt) (h11 : I 131 11 = p) (h12 : I 131 12 = s) : ∃ I', jcall A jcode (d + 5) 107 [.ref (b + 131)] (jH h b X I J R n) = some (.inl (some (.int (if bLk rN N wt p s W = true then nI 1 else nI 0))), jH h b X I' J R n) ∧ onT 132 I I' := by
  have hw : isW 132 := by simp [isW]
  have hPe := isP_e hP
  have hq : isI 66 := by simp [isI]
  have l6 : ∀ p, p < np → (lets N p).length ≤ 6 := fun p hp => (hpl.2.2.2 p hp).2.2.2.2.1
  have okl := okW_L hpl.1 l6 hok
  unfold bLk
  by_cases c3 : wt = 3
  · subst c3
    rw [if_pos rfl]
    refine ⟨I, ?_, onT_refl⟩
    have e := c146 (A := A) (d := d + 3) (b := b) (h := h) (X := X) (J := J) (n := n) (p := p) (s := s) hW
    cases hb : W.1.any (fun a => decide (a.1.2.1 = p) && decide (a.1.2.2.1 = s)) with
    | true =>
      rw [hb] at e
      simp (disch := omega) [je107, r107_0, r107_1, r107_4, r107_5, r107_8, r107_9, r107_12, r107_13, r107_16, r107_17, r107_20, r107_23, r107_24, r107_25, r107_28, r107_31, r107_32, r107_35, r107_38, r107_41, r107_42, r107_43, r107_44, r107_46, r107_47, r107_50, r107_53, r107_56, r107_57, r107_59, r107_62, r107_63, r107_66, r107_67, r107_70, r107_73, r107_74, r107_75, r107_78, r107_81, r107_82, r107_83, r107_86, r107_89, r107_90, g131, vf8_10, vf8_0, t131_0, vf8_11, vf8_12, qa146, qo146, gW0 hw, qa140, qo140, vf9_3, vf9_2, tW0_2 hw, gW8 hw, qa123, qo123, List.getElem?_cons_zero, List.getElem?_cons_succ, List.length_cons, List.length_nil, ag_nx, ag_dn, ag_no, ag_if, jbr1, jbr2, jc1, jc2, jnul, jld, jsto, jstoL, jst1, jst2, jkill, jinc, jbI, jbL, jbS, juI, jl2i, jcmp, jisR, jisI, jisL, jret, jretv, jfits, jdup, jdup2, jpop, jmm, jcat, Value.category, jinv, jrcv, jthr, jhd, jput, jget, jlen, jald, jast, jaast, jgI, jgL, jgB, jtab, jlku, jacp, vf20, vf21, vf22, vf23, vf24, u2_s, u2_k, u2_i, uc_s, uc_k, uc_c, u2_c, LI0, LI1, LI2, LI3, LI4, LI5, LI6, LI7, LI8, LI9, LI10, LI11, LI12, LI13, LI14, LI15, LI16, LI17, LI18, LI19, LI20, LI21, LI22, LI23, LI24, LI25, LI26, LI27, LI28, LI29, LI30, LI31, LI32, LI33, LI34, LI35, LI36, LI37, LI40, LI42, LI43, LI45, LI48, LI60, LI61, LI64, LI80, LI300, LI400, LI1000, LI2000, LI2001, LI2047, LI2048, LI100000, LI1000000, LM, nI_clamp, nI_pos', nI_lt, nI_nlt, nI_le, nI_ge, nI_ne, nI_add, nI_sub, mI_lt, mI_le, mI_nlt, mI_nle, mI_ne, mI_ne', mI_nem, h10, h11, h12, e]
    | false =>
      rw [hb] at e
      simp (disch := omega) [je107, r107_0, r107_1, r107_4, r107_5, r107_8, r107_9, r107_12, r107_13, r107_16, r107_17, r107_20, r107_23, r107_24, r107_25, r107_28, r107_31, r107_32, r107_35, r107_38, r107_41, r107_42, r107_43, r107_44, r107_46, r107_47, r107_50, r107_53, r107_56, r107_57, r107_59, r107_62, r107_63, r107_66, r107_67, r107_70, r107_73, r107_74, r107_75, r107_78, r107_81, r107_82, r107_83, r107_86, r107_89, r107_90, g131, vf8_10, vf8_0, t131_0, vf8_11, vf8_12, qa146, qo146, gW0 hw, qa140, qo140, vf9_3, vf9_2, tW0_2 hw, gW8 hw, qa123, qo123, List.getElem?_cons_zero, List.getElem?_cons_succ, List.length_cons, List.length_nil, ag_nx, ag_dn, ag_no, ag_if, jbr1, jbr2, jc1, jc2, jnul, jld, jsto, jstoL, jst1, jst2, jkill, jinc, jbI, jbL, jbS, juI, jl2i, jcmp, jisR, jisI, jisL, jret, jretv, jfits, jdup, jdup2, jpop, jmm, jcat, Value.category, jinv, jrcv, jthr, jhd, jput, jget, jlen, jald, jast, jaast, jgI, jgL, jgB, jtab, jlku, jacp, vf20, vf21, vf22, vf23, vf24, u2_s, u2_k, u2_i, uc_s, uc_k, uc_c, u2_c, LI0, LI1, LI2, LI3, LI4, LI5, LI6, LI7, LI8, LI9, LI10, LI11, LI12, LI13, LI14, LI15, LI16, LI17, LI18, LI19, LI20, LI21, LI22, LI23, LI24, LI25, LI26, LI27, LI28, LI29, LI30, LI31, LI32, LI33, LI34, LI35, LI36, LI37, LI40, LI42, LI43, LI45, LI48, LI60, LI61, LI64, LI80, LI300, LI400, LI1000, LI2000, LI2001, LI2047, LI2048, LI100000, LI1000000, LM, nI_clamp, nI_pos', nI_lt, nI_nlt, nI_le, nI_ge, nI_ne, nI_add, nI_sub, mI_lt, mI_le, mI_nlt, mI_nle, mI_ne, mI_ne', mI_nem, h10, h11, h12, e]
  rw [if_neg c3]
  by_cases c0 : wt = 0
  · subst c0
    rw [if_pos rfl]
    have e := c140 (A := A) (d := d + 1) (b := b) (h := h) (X := X) (J := J) (n := n) hW okl hD hd
    cases hy : aDue W.1 0 none with
    | some y =>
      rw [hy] at e
      simp only at e
      have hu : ¬ aUp W y.1 < nI 0 := by
        unfold aUp
        by_cases c : 0 < y.1 - W.2.1.2.1
        · rw [if_pos c]
          intro z
          exact Int32.lt_irrefl (i_lt_trans c z)
        · rw [if_neg c]
          exact fun z => Int32.lt_irrefl z
      refine ⟨I, ?_, onT_refl⟩
      simp (disch := omega) [je107, r107_0, r107_1, r107_4, r107_5, r107_8, r107_9, r107_12, r107_13, r107_16, r107_17, r107_20, r107_23, r107_24, r107_25, r107_28, r107_31, r107_32, r107_35, r107_38, r107_41, r107_42, r107_43, r107_44, r107_46, r107_47, r107_50, r107_53, r107_56, r107_57, r107_59, r107_62, r107_63, r107_66, r107_67, r107_70, r107_73, r107_74, r107_75, r107_78, r107_81, r107_82, r107_83, r107_86, r107_89, r107_90, g131, vf8_10, vf8_0, t131_0, vf8_11, vf8_12, qa146, qo146, gW0 hw, qa140, qo140, vf9_3, vf9_2, tW0_2 hw, gW8 hw, qa123, qo123, List.getElem?_cons_zero, List.getElem?_cons_succ, List.length_cons, List.length_nil, ag_nx, ag_dn, ag_no, ag_if, jbr1, jbr2, jc1, jc2, jnul, jld, jsto, jstoL, jst1, jst2, jkill, jinc, jbI, jbL, jbS, juI, jl2i, jcmp, jisR, jisI, jisL, jret, jretv, jfits, jdup, jdup2, jpop, jmm, jcat, Value.category, jinv, jrcv, jthr, jhd, jput, jget, jlen, jald, jast, jaast, jgI, jgL, jgB, jtab, jlku, jacp, vf20, vf21, vf22, vf23, vf24, u2_s, u2_k, u2_i, uc_s, uc_k, uc_c, u2_c, LI0, LI1, LI2, LI3, LI4, LI5, LI6, LI7, LI8, LI9, LI10, LI11, LI12, LI13, LI14, LI15, LI16, LI17, LI18, LI19, LI20, LI21, LI22, LI23, LI24, LI25, LI26, LI27, LI28, LI29, LI30, LI31, LI32, LI33, LI34, LI35, LI36, LI37, LI40, LI42, LI43, LI45, LI48, LI60, LI61, LI64, LI80, LI300, LI400, LI1000, LI2000, LI2001, LI2047, LI2048, LI100000, LI1000000, LM, nI_clamp, nI_pos', nI_lt, nI_nlt, nI_le, nI_ge, nI_ne, nI_add, nI_sub, mI_lt, mI_le, mI_nlt, mI_nle, mI_ne, mI_ne', mI_nem, h10, e, hu]
    | none =>
      rw [hy] at e
      simp only at e
      obtain ⟨I1, e1, o1⟩ := c107l (A := A) (d := d) (b := b) (h := h) (X := X) (J := J) (n := n) hj hm hP hR hok W.1 0 I hpl hW (by omega) (fun j a hj => by rw [Nat.zero_add]; exact hj)
      refine ⟨I1, ?_, o1⟩
      simp (disch := omega) [je107, r107_0, r107_1, r107_4, r107_5, r107_8, r107_9, r107_12, r107_13, r107_16, r107_17, r107_20, r107_23, r107_24, r107_25, r107_28, r107_31, r107_32, r107_35, r107_38, r107_41, r107_42, r107_43, r107_44, r107_46, r107_47, r107_50, r107_53, r107_56, r107_57, r107_59, r107_62, r107_63, r107_66, r107_67, r107_70, r107_73, r107_74, r107_75, r107_78, r107_81, r107_82, r107_83, r107_86, r107_89, r107_90, g131, vf8_10, vf8_0, t131_0, vf8_11, vf8_12, qa146, qo146, gW0 hw, qa140, qo140, vf9_3, vf9_2, tW0_2 hw, gW8 hw, qa123, qo123, List.getElem?_cons_zero, List.getElem?_cons_succ, List.length_cons, List.length_nil, ag_nx, ag_dn, ag_no, ag_if, jbr1, jbr2, jc1, jc2, jnul, jld, jsto, jstoL, jst1, jst2, jkill, jinc, jbI, jbL, jbS, juI, jl2i, jcmp, jisR, jisI, jisL, jret, jretv, jfits, jdup, jdup2, jpop, jmm, jcat, Value.category, jinv, jrcv, jthr, jhd, jput, jget, jlen, jald, jast, jaast, jgI, jgL, jgB, jtab, jlku, jacp, vf20, vf21, vf22, vf23, vf24, u2_s, u2_k, u2_i, uc_s, uc_k, uc_c, u2_c, LI0, LI1, LI2, LI3, LI4, LI5, LI6, LI7, LI8, LI9, LI10, LI11, LI12, LI13, LI14, LI15, LI16, LI17, LI18, LI19, LI20, LI21, LI22, LI23, LI24, LI25, LI26, LI27, LI28, LI29, LI30, LI31, LI32, LI33, LI34, LI35, LI36, LI37, LI40, LI42, LI43, LI45, LI48, LI60, LI61, LI64, LI80, LI300, LI400, LI1000, LI2000, LI2001, LI2047, LI2048, LI100000, LI1000000, LM, nI_clamp, nI_pos', nI_lt, nI_nlt, nI_le, nI_ge, nI_ne, nI_add, nI_sub, mI_lt, mI_le, mI_nlt, mI_nle, mI_ne, mI_ne', mI_nem, h10, e, e1]
      simp only [Option.isNone_none, Bool.true_and]
  · rw [if_neg c0]
    refine ⟨I, ?_, onT_refl⟩
    simp (disch := omega) [je107, r107_0, r107_1, r107_4, r107_5, r107_8, r107_9, r107_12, r107_13, r107_16, r107_17, r107_20, r107_23, r107_24, r107_25, r107_28, r107_31, r107_32, r107_35, r107_38, r107_41, r107_42, r107_43, r107_44, r107_46, r107_47, r107_50, r107_53, r107_56, r107_57, r107_59, r107_62, r107_63, r107_66, r107_67, r107_70, r107_73, r107_74, r107_75, r107_78, r107_81, r107_82, r107_83, r107_86, r107_89, r107_90, g131, vf8_10, vf8_0, t131_0, vf8_11, vf8_12, qa146, qo146, gW0 hw, qa140, qo140, vf9_3, vf9_2, tW0_2 hw, gW8 hw, qa123, qo123, List.getElem?_cons_zero, List.getElem?_cons_succ, List.length_cons, List.length_nil, ag_nx, ag_dn, ag_no, ag_if, jbr1, jbr2, jc1, jc2, jnul, jld, jsto, jstoL, jst1, jst2, jkill, jinc, jbI, jbL, jbS, juI, jl2i, jcmp, jisR, jisI, jisL, jret, jretv, jfits, jdup, jdup2, jpop, jmm, jcat, Value.category, jinv, jrcv, jthr, jhd, jput, jget, jlen, jald, jast, jaast, jgI, jgL, jgB, jtab, jlku, jacp, vf20, vf21, vf22, vf23, vf24, u2_s, u2_k, u2_i, uc_s, uc_k, uc_c, u2_c, LI0, LI1, LI2, LI3, LI4, LI5, LI6, LI7, LI8, LI9, LI10, LI11, LI12, LI13, LI14, LI15, LI16, LI17, LI18, LI19, LI20, LI21, LI22, LI23, LI24, LI25, LI26, LI27, LI28, LI29, LI30, LI31, LI32, LI33, LI34, LI35, LI36, LI37, LI40, LI42, LI43, LI45, LI48, LI60, LI61, LI64, LI80, LI300, LI400, LI1000, LI2000, LI2001, LI2047, LI2048, LI100000, LI1000000, LM, nI_clamp, nI_pos', nI_lt, nI_nlt, nI_le, nI_ge, nI_ne, nI_add, nI_sub, mI_lt, mI_le, mI_nlt, mI_nle, mI_ne, mI_ne', mI_nem, h10, c3, c0]
end CL
