/-! the reference: states and clauses -/
/-- the node at a place, or -1 -/
def ndO (L : List Nat) (o : Option Nat) : Int32 := match o with
  | some j => nI (L.getD j 0)
  | none => -1
def cPr (rN : Int32 → Nm) (N : Nat → Nat → Int32) (kd : Int32) (x : Nm) (c : Nat) : Bool := decide (N 251 c = kd) && (decide (kd = 36) || decide (rN (N 252 c) = x))
theorem fcl_c {rN : Int32 → Nm} {N : Nat → Nat → Int32} {p s : Nat} {kd : Int32} {x : Nm} : fcl rN N p s kd x = (cls N p s).findIdx? (cPr rN N kd x) := rfl
theorem ndO_map {c : Nat} {L : List Nat} {o : Option Nat} : ndO (c :: L) (o.map (fun i => i + 1)) = ndO L o := by
  cases o with
  | none => rfl
  | some j => rfl
theorem chl_m1 {N : Nat → Nat → Int32} {r : Nat} : chl N (r + 1) (-1) = [] := by
  simp only [chl]
  rw [if_pos (by decide)]
theorem chl_nI {N : Nat → Nat → Int32} {r c : Nat} (hc : c < 2 ^ 31) : chl N (r + 1) (nI c) = c :: chl N r (N 255 c) := by
  have hx : ix (nI c) = c := nI_clamp hc
  simp only [chl]
  rw [if_neg (nI_pos hc), hx]
section RCL
variable {A : Nat → Nat} {d b n : Nat} {h : Nat → Option jC} {X : jXX} {I : Nat → Nat → Int32} {J : Nat → Nat → Int64} {R : Nat → Nat → Nat} {k : Nat} {rN : Int32 → Nm} {l : Bool} {W : aW Nm} {a : aI Nm} {N : Nat → Nat → Int32} {M np p s : Nat}
theorem r217l {y : Nat} (hpl : plR X I N M) (hs : s < 8) : ∀ (r : Nat) (x : Int32) (i : Nat), chOK N M r x → i ≤ s → (chl N r x)[s - i]? = some y → M217 A d 15 [some (.ref (b + 241)), some (.int (nI p)), some (.int (nI s)), some (.int x), some (.int (nI i))] [] (jH h b X I J R n) = some (.inl (some (.int (nI y))), jH h b X I J R n) := by
  have hM := hpl.2.2
  have m5 := hpl.2.1 255 (by omega) (by omega)
  have n5 := fun i => hpl.1 255 i (by omega) (by omega) (by omega)
  intro r
  induction r with
  | zero => intro x i hc; exact hc.elim
  | succ r ih =>
    intro x i hc his hy
    rcases hc with hc | ⟨c, hc, hcM, hcr⟩
    · subst hc
      rw [chl_m1] at hy
      cases hy
    · subst hc
      rw [chl_nI (by omega)] at hy
      rw [r217_15]
      by_cases e : i = s
      · subst e
        rw [Nat.sub_self] at hy
        have : c = y := Option.some.inj hy
        subst this
        simp (disch := omega) [r217_0, r217_1, r217_4, r217_5, r217_8, r217_9, r217_10, r217_11, r217_12, r217_13, r217_17, r217_18, r217_21, r217_22, r217_25, r217_26, r217_27, r217_28, r217_31, r217_34, r217_35, g241, vf12_24, t241_24, g254, vf12_35, t241_35, g259, vf12_25, t241_25, g255, List.getElem?_cons_zero, List.getElem?_cons_succ, List.length_cons, List.length_nil, ag_nx, ag_dn, ag_no, ag_if, jbr1, jbr2, jc1, jc2, jnul, jld, jsto, jstoL, jst1, jst2, jkill, jinc, jbI, jbL, jbS, juI, jl2i, jcmp, jisR, jisI, jisL, jret, jretv, jfits, jdup, jdup2, jpop, jmm, jcat, Value.category, jinv, jrcv, jthr, jhd, jput, jget, jlen, jald, jast, jaast, jgI, jgL, jgB, jtab, jlku, jacp, vf20, vf21, vf22, vf23, vf24, u2_s, u2_k, u2_i, uc_s, uc_k, uc_c, u2_c, LI0, LI1, LI2, LI3, LI4, LI5, LI6, LI7, LI8, LI9, LI10, LI11, LI12, LI13, LI14, LI15, LI16, LI17, LI18, LI19, LI20, LI21, LI22, LI23, LI24, LI25, LI26, LI27, LI28, LI29, LI30, LI31, LI32, LI33, LI34, LI35, LI36, LI37, LI40, LI42, LI43, LI45, LI48, LI60, LI61, LI64, LI80, LI300, LI400, LI1000, LI2000, LI2001, LI2047, LI2048, LI100000, LI1000000, LM, nI_clamp, nI_pos', nI_lt, nI_nlt, nI_le, nI_ge, nI_ne, nI_add, nI_sub, mI_lt, mI_le, mI_nlt, mI_nle, mI_ne, mI_ne', mI_nem]
      · have hy' : (chl N r (N 255 c))[s - (i + 1)]? = some y := by
          rw [show s - i = (s - (i + 1)) + 1 by omega] at hy
          simpa using hy
        have e2 := ih (N 255 c) (i + 1) hcr (by omega) hy'
        simp (disch := omega) [r217_0, r217_1, r217_4, r217_5, r217_8, r217_9, r217_10, r217_11, r217_12, r217_13, r217_17, r217_18, r217_21, r217_22, r217_25, r217_26, r217_27, r217_28, r217_31, r217_34, r217_35, g241, vf12_24, t241_24, g254, vf12_35, t241_35, g259, vf12_25, t241_25, g255, List.getElem?_cons_zero, List.getElem?_cons_succ, List.length_cons, List.length_nil, ag_nx, ag_dn, ag_no, ag_if, jbr1, jbr2, jc1, jc2, jnul, jld, jsto, jstoL, jst1, jst2, jkill, jinc, jbI, jbL, jbS, juI, jl2i, jcmp, jisR, jisI, jisL, jret, jretv, jfits, jdup, jdup2, jpop, jmm, jcat, Value.category, jinv, jrcv, jthr, jhd, jput, jget, jlen, jald, jast, jaast, jgI, jgL, jgB, jtab, jlku, jacp, vf20, vf21, vf22, vf23, vf24, u2_s, u2_k, u2_i, uc_s, uc_k, uc_c, u2_c, LI0, LI1, LI2, LI3, LI4, LI5, LI6, LI7, LI8, LI9, LI10, LI11, LI12, LI13, LI14, LI15, LI16, LI17, LI18, LI19, LI20, LI21, LI22, LI23, LI24, LI25, LI26, LI27, LI28, LI29, LI30, LI31, LI32, LI33, LI34, LI35, LI36, LI37, LI40, LI42, LI43, LI45, LI48, LI60, LI61, LI64, LI80, LI300, LI400, LI1000, LI2000, LI2001, LI2047, LI2048, LI100000, LI1000000, LM, nI_clamp, nI_pos', nI_lt, nI_nlt, nI_le, nI_ge, nI_ne, nI_add, nI_sub, mI_lt, mI_le, mI_nlt, mI_nle, mI_ne, mI_ne', mI_nem, n5, m5, e2, hcM]
theorem r217 {y : Nat} (hpl : plR X I N M) (hvN : vN N M np) (hp : p < np) (hy : (sts N p)[s]? = some y) : jcall A jcode (d + 1) 217 [.ref (b + 241), .int (nI p), .int (nI s)] (jH h b X I J R n) = some (.inl (some (.int (nI y))), jH h b X I J R n) := by
  have hM := hpl.2.2
  have n6 := hvN.1
  obtain ⟨v1, v2, v3, v4, v5, v6, v7, v8⟩ := hvN.2.2.2 p hp
  have hsl := lt_of_some hy
  have e := r217l (d := d) (A := A) (b := b) (h := h) (X := X) (J := J) (R := R) (n := n) (p := p) (s := s) hpl (by omega) 9 (N 254 (pnd N p)) 0 v6 (by omega) hy
  have m4 := hpl.2.1 254 (by omega) (by omega)
  have p9 : I 259 p = nI (pnd N p) := by rw [hpl.1 259 p (by omega) (by omega) (by omega)]; exact v2
  have p4 : I 254 (pnd N p) = N 254 (pnd N p) := hpl.1 254 _ (by omega) (by omega) (by omega)
  simp (disch := omega) [je217, r217_0, r217_1, r217_4, r217_5, r217_8, r217_9, r217_10, r217_11, r217_12, r217_13, r217_17, r217_18, r217_21, r217_22, r217_25, r217_26, r217_27, r217_28, r217_31, r217_34, r217_35, g241, vf12_24, t241_24, g254, vf12_35, t241_35, g259, vf12_25, t241_25, g255, List.getElem?_cons_zero, List.getElem?_cons_succ, List.length_cons, List.length_nil, ag_nx, ag_dn, ag_no, ag_if, jbr1, jbr2, jc1, jc2, jnul, jld, jsto, jstoL, jst1, jst2, jkill, jinc, jbI, jbL, jbS, juI, jl2i, jcmp, jisR, jisI, jisL, jret, jretv, jfits, jdup, jdup2, jpop, jmm, jcat, Value.category, jinv, jrcv, jthr, jhd, jput, jget, jlen, jald, jast, jaast, jgI, jgL, jgB, jtab, jlku, jacp, vf20, vf21, vf22, vf23, vf24, u2_s, u2_k, u2_i, uc_s, uc_k, uc_c, u2_c, LI0, LI1, LI2, LI3, LI4, LI5, LI6, LI7, LI8, LI9, LI10, LI11, LI12, LI13, LI14, LI15, LI16, LI17, LI18, LI19, LI20, LI21, LI22, LI23, LI24, LI25, LI26, LI27, LI28, LI29, LI30, LI31, LI32, LI33, LI34, LI35, LI36, LI37, LI40, LI42, LI43, LI45, LI48, LI60, LI61, LI64, LI80, LI300, LI400, LI1000, LI2000, LI2001, LI2047, LI2048, LI100000, LI1000000, LM, nI_clamp, nI_pos', nI_lt, nI_nlt, nI_le, nI_ge, nI_ne, nI_add, nI_sub, mI_lt, mI_le, mI_nlt, mI_nle, mI_ne, mI_ne', mI_nem, p9, p4, m4, e, v1, show p < 6 by omega]
theorem r237l {kd : Nat} {x : Int32} (hj : ∀ x y, rN x = rN y → x = y) (hpl : plR X I N M) (hkd : kd < 100) : ∀ (r : Nat) (y : Int32), chOK N M r y → M237 A d 23 [some (.ref (b + 241)), some (.int (nI k)), some (.int (nI kd)), some (.int x), some (.int y)] [] (jH h b X I J R n) = some (.inl (some (.int (ndO (chl N r y) ((chl N r y).findIdx? (cPr rN N (nI kd) (rN x)))))), jH h b X I J R n) := by
  have hM := hpl.2.2
  have m1 := hpl.2.1 251 (by omega) (by omega)
  have m2 := hpl.2.1 252 (by omega) (by omega)
  have m5 := hpl.2.1 255 (by omega) (by omega)
  have n1 := fun i => hpl.1 251 i (by omega) (by omega) (by omega)
  have n2 := fun i => hpl.1 252 i (by omega) (by omega) (by omega)
  have n5 := fun i => hpl.1 255 i (by omega) (by omega) (by omega)
  intro r
  induction r with
  | zero => intro y hc; exact hc.elim
  | succ r ih =>
    intro y hc
    rcases hc with hc | ⟨c, hc, hcM, hcr⟩
    · subst hc
      rw [chl_m1, r237_23]
      simp (disch := omega) [r237_0, r237_1, r237_4, r237_5, r237_6, r237_9, r237_10, r237_11, r237_12, r237_15, r237_16, r237_17, r237_20, r237_21, r237_25, r237_28, r237_29, r237_32, r237_34, r237_35, r237_36, r237_39, r237_40, r237_42, r237_45, r237_46, r237_49, r237_51, r237_52, r237_53, r237_56, r237_58, r237_59, r237_60, r237_63, r237_65, r237_66, r237_68, r237_71, r237_72, g241, vf12_23, t241_23, g253, vf12_43, t241_43, g261, vf12_44, t241_44, g262, qa217, qo217, vf12_21, t241_21, g251, vf12_22, t241_22, g252, vf12_25, t241_25, g255, List.getElem?_cons_zero, List.getElem?_cons_succ, List.length_cons, List.length_nil, ag_nx, ag_dn, ag_no, ag_if, jbr1, jbr2, jc1, jc2, jnul, jld, jsto, jstoL, jst1, jst2, jkill, jinc, jbI, jbL, jbS, juI, jl2i, jcmp, jisR, jisI, jisL, jret, jretv, jfits, jdup, jdup2, jpop, jmm, jcat, Value.category, jinv, jrcv, jthr, jhd, jput, jget, jlen, jald, jast, jaast, jgI, jgL, jgB, jtab, jlku, jacp, vf20, vf21, vf22, vf23, vf24, u2_s, u2_k, u2_i, uc_s, uc_k, uc_c, u2_c, LI0, LI1, LI2, LI3, LI4, LI5, LI6, LI7, LI8, LI9, LI10, LI11, LI12, LI13, LI14, LI15, LI16, LI17, LI18, LI19, LI20, LI21, LI22, LI23, LI24, LI25, LI26, LI27, LI28, LI29, LI30, LI31, LI32, LI33, LI34, LI35, LI36, LI37, LI40, LI42, LI43, LI45, LI48, LI60, LI61, LI64, LI80, LI300, LI400, LI1000, LI2000, LI2001, LI2047, LI2048, LI100000, LI1000000, LM, nI_clamp, nI_pos', nI_lt, nI_nlt, nI_le, nI_ge, nI_ne, nI_add, nI_sub, mI_lt, mI_le, mI_nlt, mI_nle, mI_ne, mI_ne', mI_nem, ndO]
    · subst hc
      rw [chl_nI (by omega), List.findIdx?_cons]
      have e := ih (N 255 c) hcr
      rw [r237_23]
      by_cases h1 : N 251 c = nI kd
      · by_cases h2 : kd = 36
        · subst h2
          have hp : cPr rN N (nI 36) (rN x) c = true := by simp [cPr, h1, LI36]
          rw [if_pos hp]
          simp (disch := omega) [r237_0, r237_1, r237_4, r237_5, r237_6, r237_9, r237_10, r237_11, r237_12, r237_15, r237_16, r237_17, r237_20, r237_21, r237_25, r237_28, r237_29, r237_32, r237_34, r237_35, r237_36, r237_39, r237_40, r237_42, r237_45, r237_46, r237_49, r237_51, r237_52, r237_53, r237_56, r237_58, r237_59, r237_60, r237_63, r237_65, r237_66, r237_68, r237_71, r237_72, g241, vf12_23, t241_23, g253, vf12_43, t241_43, g261, vf12_44, t241_44, g262, qa217, qo217, vf12_21, t241_21, g251, vf12_22, t241_22, g252, vf12_25, t241_25, g255, List.getElem?_cons_zero, List.getElem?_cons_succ, List.length_cons, List.length_nil, ag_nx, ag_dn, ag_no, ag_if, jbr1, jbr2, jc1, jc2, jnul, jld, jsto, jstoL, jst1, jst2, jkill, jinc, jbI, jbL, jbS, juI, jl2i, jcmp, jisR, jisI, jisL, jret, jretv, jfits, jdup, jdup2, jpop, jmm, jcat, Value.category, jinv, jrcv, jthr, jhd, jput, jget, jlen, jald, jast, jaast, jgI, jgL, jgB, jtab, jlku, jacp, vf20, vf21, vf22, vf23, vf24, u2_s, u2_k, u2_i, uc_s, uc_k, uc_c, u2_c, LI0, LI1, LI2, LI3, LI4, LI5, LI6, LI7, LI8, LI9, LI10, LI11, LI12, LI13, LI14, LI15, LI16, LI17, LI18, LI19, LI20, LI21, LI22, LI23, LI24, LI25, LI26, LI27, LI28, LI29, LI30, LI31, LI32, LI33, LI34, LI35, LI36, LI37, LI40, LI42, LI43, LI45, LI48, LI60, LI61, LI64, LI80, LI300, LI400, LI1000, LI2000, LI2001, LI2047, LI2048, LI100000, LI1000000, LM, nI_clamp, nI_pos', nI_lt, nI_nlt, nI_le, nI_ge, nI_ne, nI_add, nI_sub, mI_lt, mI_le, mI_nlt, mI_nle, mI_ne, mI_ne', mI_nem, n1, n2, n5, m1, m2, m5, h1, hcM, ndO]
        · have h36 : ¬ nI kd = 36 := nI_ne (b := 36) h2 (by omega) (by omega)
          by_cases h3 : N 252 c = x
          · have hp : cPr rN N (nI kd) (rN x) c = true := by simp [cPr, h1, h3]
            rw [if_pos hp]
            simp (disch := omega) [r237_0, r237_1, r237_4, r237_5, r237_6, r237_9, r237_10, r237_11, r237_12, r237_15, r237_16, r237_17, r237_20, r237_21, r237_25, r237_28, r237_29, r237_32, r237_34, r237_35, r237_36, r237_39, r237_40, r237_42, r237_45, r237_46, r237_49, r237_51, r237_52, r237_53, r237_56, r237_58, r237_59, r237_60, r237_63, r237_65, r237_66, r237_68, r237_71, r237_72, g241, vf12_23, t241_23, g253, vf12_43, t241_43, g261, vf12_44, t241_44, g262, qa217, qo217, vf12_21, t241_21, g251, vf12_22, t241_22, g252, vf12_25, t241_25, g255, List.getElem?_cons_zero, List.getElem?_cons_succ, List.length_cons, List.length_nil, ag_nx, ag_dn, ag_no, ag_if, jbr1, jbr2, jc1, jc2, jnul, jld, jsto, jstoL, jst1, jst2, jkill, jinc, jbI, jbL, jbS, juI, jl2i, jcmp, jisR, jisI, jisL, jret, jretv, jfits, jdup, jdup2, jpop, jmm, jcat, Value.category, jinv, jrcv, jthr, jhd, jput, jget, jlen, jald, jast, jaast, jgI, jgL, jgB, jtab, jlku, jacp, vf20, vf21, vf22, vf23, vf24, u2_s, u2_k, u2_i, uc_s, uc_k, uc_c, u2_c, LI0, LI1, LI2, LI3, LI4, LI5, LI6, LI7, LI8, LI9, LI10, LI11, LI12, LI13, LI14, LI15, LI16, LI17, LI18, LI19, LI20, LI21, LI22, LI23, LI24, LI25, LI26, LI27, LI28, LI29, LI30, LI31, LI32, LI33, LI34, LI35, LI36, LI37, LI40, LI42, LI43, LI45, LI48, LI60, LI61, LI64, LI80, LI300, LI400, LI1000, LI2000, LI2001, LI2047, LI2048, LI100000, LI1000000, LM, nI_clamp, nI_pos', nI_lt, nI_nlt, nI_le, nI_ge, nI_ne, nI_add, nI_sub, mI_lt, mI_le, mI_nlt, mI_nle, mI_ne, mI_ne', mI_nem, n1, n2, n5, m1, m2, m5, h1, h3, hcM, ndO]
          · have h3' : ¬ rN (N 252 c) = rN x := fun z => h3 (hj _ _ z)
            have hp : ¬ cPr rN N (nI kd) (rN x) c = true := by simp [cPr, h36, h3']
            rw [if_neg hp, ndO_map]
            simp (disch := omega) [r237_0, r237_1, r237_4, r237_5, r237_6, r237_9, r237_10, r237_11, r237_12, r237_15, r237_16, r237_17, r237_20, r237_21, r237_25, r237_28, r237_29, r237_32, r237_34, r237_35, r237_36, r237_39, r237_40, r237_42, r237_45, r237_46, r237_49, r237_51, r237_52, r237_53, r237_56, r237_58, r237_59, r237_60, r237_63, r237_65, r237_66, r237_68, r237_71, r237_72, g241, vf12_23, t241_23, g253, vf12_43, t241_43, g261, vf12_44, t241_44, g262, qa217, qo217, vf12_21, t241_21, g251, vf12_22, t241_22, g252, vf12_25, t241_25, g255, List.getElem?_cons_zero, List.getElem?_cons_succ, List.length_cons, List.length_nil, ag_nx, ag_dn, ag_no, ag_if, jbr1, jbr2, jc1, jc2, jnul, jld, jsto, jstoL, jst1, jst2, jkill, jinc, jbI, jbL, jbS, juI, jl2i, jcmp, jisR, jisI, jisL, jret, jretv, jfits, jdup, jdup2, jpop, jmm, jcat, Value.category, jinv, jrcv, jthr, jhd, jput, jget, jlen, jald, jast, jaast, jgI, jgL, jgB, jtab, jlku, jacp, vf20, vf21, vf22, vf23, vf24, u2_s, u2_k, u2_i, uc_s, uc_k, uc_c, u2_c, LI0, LI1, LI2, LI3, LI4, LI5, LI6, LI7, LI8, LI9, LI10, LI11, LI12, LI13, LI14, LI15, LI16, LI17, LI18, LI19, LI20, LI21, LI22, LI23, LI24, LI25, LI26, LI27, LI28, LI29, LI30, LI31, LI32, LI33, LI34, LI35, LI36, LI37, LI40, LI42, LI43, LI45, LI48, LI60, LI61, LI64, LI80, LI300, LI400, LI1000, LI2000, LI2001, LI2047, LI2048, LI100000, LI1000000, LM, nI_clamp, nI_pos', nI_lt, nI_nlt, nI_le, nI_ge, nI_ne, nI_add, nI_sub, mI_lt, mI_le, mI_nlt, mI_nle, mI_ne, mI_ne', mI_nem, n1, n2, n5, m1, m2, m5, h1, h3, hcM, e]
      · have hp : ¬ cPr rN N (nI kd) (rN x) c = true := by simp [cPr, h1]
        rw [if_neg hp, ndO_map]
        simp (disch := omega) [r237_0, r237_1, r237_4, r237_5, r237_6, r237_9, r237_10, r237_11, r237_12, r237_15, r237_16, r237_17, r237_20, r237_21, r237_25, r237_28, r237_29, r237_32, r237_34, r237_35, r237_36, r237_39, r237_40, r237_42, r237_45, r237_46, r237_49, r237_51, r237_52, r237_53, r237_56, r237_58, r237_59, r237_60, r237_63, r237_65, r237_66, r237_68, r237_71, r237_72, g241, vf12_23, t241_23, g253, vf12_43, t241_43, g261, vf12_44, t241_44, g262, qa217, qo217, vf12_21, t241_21, g251, vf12_22, t241_22, g252, vf12_25, t241_25, g255, List.getElem?_cons_zero, List.getElem?_cons_succ, List.length_cons, List.length_nil, ag_nx, ag_dn, ag_no, ag_if, jbr1, jbr2, jc1, jc2, jnul, jld, jsto, jstoL, jst1, jst2, jkill, jinc, jbI, jbL, jbS, juI, jl2i, jcmp, jisR, jisI, jisL, jret, jretv, jfits, jdup, jdup2, jpop, jmm, jcat, Value.category, jinv, jrcv, jthr, jhd, jput, jget, jlen, jald, jast, jaast, jgI, jgL, jgB, jtab, jlku, jacp, vf20, vf21, vf22, vf23, vf24, u2_s, u2_k, u2_i, uc_s, uc_k, uc_c, u2_c, LI0, LI1, LI2, LI3, LI4, LI5, LI6, LI7, LI8, LI9, LI10, LI11, LI12, LI13, LI14, LI15, LI16, LI17, LI18, LI19, LI20, LI21, LI22, LI23, LI24, LI25, LI26, LI27, LI28, LI29, LI30, LI31, LI32, LI33, LI34, LI35, LI36, LI37, LI40, LI42, LI43, LI45, LI48, LI60, LI61, LI64, LI80, LI300, LI400, LI1000, LI2000, LI2001, LI2047, LI2048, LI100000, LI1000000, LM, nI_clamp, nI_pos', nI_lt, nI_nlt, nI_le, nI_ge, nI_ne, nI_add, nI_sub, mI_lt, mI_le, mI_nlt, mI_nle, mI_ne, mI_ne', mI_nem, n1, n2, n5, m1, m2, m5, h1, hcM, e]
theorem cls_at {y : Nat} (hy : (sts N p)[s]? = some y) : cls N p s = chl N 9 (N 253 y) := by
  unfold cls
  rw [List.getD_eq_getElem?_getD, hy]
  rfl
theorem rFcl {kd : Nat} {x : Int32} (hj : ∀ x y, rN x = rN y → x = y) (hpl : plR X I N M) (hvN : vN N M np) (hA : iR rN I k a) (k8 : k < 8) (hp : p < np) (hpr : a.1.2.1 = nI p) (hs : s < (sts N p).length) (hst : a.1.2.2.1 = nI s) (hkd : kd < 100) : jcall A jcode (d + 2) 237 [.ref (b + 241), .int (nI k), .int (nI kd), .int x] (jH h b X I J R n) = some (.inl (some (.int (ndO (cls N p s) (fcl rN N p s (nI kd) (rN x))))), jH h b X I J R n) := by
  have hM := hpl.2.2
  obtain ⟨y, hy⟩ : ∃ y, (sts N p)[s]? = some y := ⟨_, List.getElem?_eq_getElem hs⟩
  obtain ⟨y1, y2, y3, y4⟩ := (hvN.2.2.2 p hp).2.2.2.2.2.2.2.2 s y hy
  obtain ⟨_, i1, i2, _⟩ := iR_01 hA
  have e1 := r217 (d := d) (A := A) (b := b) (h := h) (X := X) (J := J) (R := R) (n := n) hpl hvN hp hy
  have e2 := r237l (d := d + 1) (A := A) (b := b) (h := h) (X := X) (J := J) (R := R) (n := n) (k := k) (x := x) hj hpl hkd 9 (N 253 y) y2
  have m3 := hpl.2.1 253 (by omega) (by omega)
  have p3 : I 253 y = N 253 y := hpl.1 253 _ (by omega) (by omega) (by omega)
  rw [fcl_c, cls_at hy]
  simp (disch := omega) [je237, r237_0, r237_1, r237_4, r237_5, r237_6, r237_9, r237_10, r237_11, r237_12, r237_15, r237_16, r237_17, r237_20, r237_21, r237_25, r237_28, r237_29, r237_32, r237_34, r237_35, r237_36, r237_39, r237_40, r237_42, r237_45, r237_46, r237_49, r237_51, r237_52, r237_53, r237_56, r237_58, r237_59, r237_60, r237_63, r237_65, r237_66, r237_68, r237_71, r237_72, g241, vf12_23, t241_23, g253, vf12_43, t241_43, g261, vf12_44, t241_44, g262, qa217, qo217, vf12_21, t241_21, g251, vf12_22, t241_22, g252, vf12_25, t241_25, g255, List.getElem?_cons_zero, List.getElem?_cons_succ, List.length_cons, List.length_nil, ag_nx, ag_dn, ag_no, ag_if, jbr1, jbr2, jc1, jc2, jnul, jld, jsto, jstoL, jst1, jst2, jkill, jinc, jbI, jbL, jbS, juI, jl2i, jcmp, jisR, jisI, jisL, jret, jretv, jfits, jdup, jdup2, jpop, jmm, jcat, Value.category, jinv, jrcv, jthr, jhd, jput, jget, jlen, jald, jast, jaast, jgI, jgL, jgB, jtab, jlku, jacp, vf20, vf21, vf22, vf23, vf24, u2_s, u2_k, u2_i, uc_s, uc_k, uc_c, u2_c, LI0, LI1, LI2, LI3, LI4, LI5, LI6, LI7, LI8, LI9, LI10, LI11, LI12, LI13, LI14, LI15, LI16, LI17, LI18, LI19, LI20, LI21, LI22, LI23, LI24, LI25, LI26, LI27, LI28, LI29, LI30, LI31, LI32, LI33, LI34, LI35, LI36, LI37, LI40, LI42, LI43, LI45, LI48, LI60, LI61, LI64, LI80, LI300, LI400, LI1000, LI2000, LI2001, LI2047, LI2048, LI100000, LI1000000, LM, nI_clamp, nI_pos', nI_lt, nI_nlt, nI_le, nI_ge, nI_ne, nI_add, nI_sub, mI_lt, mI_le, mI_nlt, mI_nle, mI_ne, mI_ne', mI_nem, i1.trans hpr, i2.trans hst, e1, p3, m3, e2, k8, y1]
end RCL
