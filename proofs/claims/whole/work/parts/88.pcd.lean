/-! the class chooses: the whole of it -/
theorem onS_refl {w : Nat} {I : Nat → Nat → Int32} : onS w I I := fun _ _ _ _ => rfl
theorem onS_trans {w : Nat} {I I1 I2 : Nat → Nat → Int32} (h : onS w I I1) (h2 : onS w I1 I2) : onS w I I2 := fun c i a b => (h2 c i a b).trans (h c i a b)
def inO' (o : Option Nat) : Int32 := match o with
  | some k => nI k
  | none => -1
/-- only the stack and what is chosen have changed -/
def onT (w : Nat) (I I' : Nat → Nat → Int32) : Prop := ∀ c i, c ≠ w + 73 → ¬ (c = w ∧ 10 ≤ i ∧ i ≤ 12) → I' c i = I c i
def wPr (N : Nat → Nat → Int32) (now : Int32) (a : aI Nm) (c : Nat) : Bool := decide (N 251 c = 37) && decide (¬ evl N now a ED (ix (N 252 c)) = 0)
def wK (o : Option Nat) : Int32 := match o with
  | some _ => 6
  | none => 0
def wSt (I : Nat → Nat → Int32) (w m : Nat) (o : Option Nat) : Nat → Nat → Int32 := match o with
  | some k => u2 I w 12 (nI (m + k))
  | none => I
theorem wK_map {o : Option Nat} : wK (o.map (fun i => i + 1)) = wK o := by cases o <;> rfl
theorem wSt_map {I : Nat → Nat → Int32} {w m : Nat} {o : Option Nat} : wSt I w m (o.map (fun i => i + 1)) = wSt I w (m + 1) o := by
  cases o with
  | none => rfl
  | some k =>
    show u2 I w 12 (nI (m + (k + 1))) = u2 I w 12 (nI (m + 1 + k))
    rw [show m + (k + 1) = m + 1 + k by omega]
section CD
variable {A : Nat → Nat} {d b n w P p s : Nat} {h : Nat → Option jC} {X : jXX} {I : Nat → Nat → Int32} {J : Nat → Nat → Int64} {R : Nat → Nat → Nat} {cN rN : Int32 → Nm} {N : Nat → Nat → Int32} {O G E : Nat → Int32} {np L : Nat}
theorem c125 {p0 : Nat} {a : aI Nm} (hw : isW w) (hi : isI p0) (hP : isP P) (hR : R w 0 = P) (hj : ∀ x y, cN x = cN y → x = y) (hm : ∀ z, rN z = cN (-1) → z = -1) (hpl : plC cN rN N O G E np P L I) (hp : p < np) (hs : s < (sts N p).length) (hA : iC cN I p0 a) (h1 : a.1.2.1 = nI p) (h2 : a.1.2.2.1 = nI s) (hQ : a.2.2.1.length ≤ 8) (hr : w + 9 ≤ p0 ∧ p0 ≤ w + 65) :
    jcall A jcode (d + 2) 125 [.ref (b + w), .ref (b + p0)] (jH h b X I J R n) = (match aSig rN N p s a.2.2.1 0 with
      | some (k, q) => (match fcl rN N p s 33 q.1 with
        | some c => some (.inl (some (.int 3)), jH h b X (u2 (u2 I w 11 (nI k)) w 12 (nI ((p * 8 + s) * 8 + c))) J R n)
        | none => (match fcl rN N p s 36 q.1 with
          | some c => some (.inl (some (.int 4)), jH h b X (u2 (u2 (u2 I w 11 (nI k)) w 12 (-1)) w 12 (nI ((p * 8 + s) * 8 + c))) J R n)
          | none => some (.inl (some (.int 5)), jH h b X (u2 (u2 (u2 I w 11 (nI k)) w 12 (-1)) w 12 (-1)) J R n)))
      | none => some (.inl (some (.int 0)), jH h b X I J R n)) := by
  obtain ⟨i0, i1, i2, _⟩ := iC_01 hA
  have e := c125l (d := d) (A := A) (b := b) (h := h) (X := X) (J := J) (R := R) (n := n) hw hi hP hR hj hm hpl hp hs (i1.trans h1) (i2.trans h2) hA.2.2.1 hQ hr a.2.2.1 0 none (by omega) (fun j q hq => by
    rw [hA.2.2.2.1] at hq
    rw [Nat.zero_add]
    rcases Nat.lt_or_ge j a.2.2.1.length with hj' | hj'
    · rw [rl_at hj'] at hq
      cases hq
      rfl
    · rw [rl_no hj'] at hq
      cases hq)
  simp only [LI0, LI1, LI2, LI3, LI4, LI5, LI6, LI7, LI8, LI9, LI10, LI11, LI12, LI13, LI14, LI15, LI16, LI17, LI18, LI19, LI20, LI21, LI22, LI23, LI24, LI25, LI26, LI27, LI28, LI29, LI30, LI31, LI32, LI33, LI34, LI35, LI36, LI37, LI40, LI42, LI43, LI45, LI48, LI60, LI61, LI64, LI80, LI300, LI400, LI1000, LI2000, LI2001, LI2047, LI2048, LI100000, LI1000000, LM] at e
  simp (disch := omega) [je125, r125_0, r125_1, List.getElem?_cons_zero, List.getElem?_cons_succ, List.length_cons, List.length_nil, ag_nx, ag_dn, ag_no, ag_if, jbr1, jbr2, jc1, jc2, jnul, jld, jsto, jstoL, jst1, jst2, jkill, jinc, jbI, jbL, jbS, juI, jl2i, jcmp, jisR, jisI, jisL, jret, jretv, jfits, jdup, jdup2, jpop, jmm, jcat, Value.category, jinv, jrcv, jthr, jhd, jput, jget, jlen, jald, jast, jaast, jgI, jgL, jgB, jtab, jlku, jacp, vf20, vf21, vf22, vf23, vf24, u2_s, u2_k, u2_i, uc_s, uc_k, uc_c, u2_c, LI0, LI1, LI2, LI3, LI4, LI5, LI6, LI7, LI8, LI9, LI10, LI11, LI12, LI13, LI14, LI15, LI16, LI17, LI18, LI19, LI20, LI21, LI22, LI23, LI24, LI25, LI26, LI27, LI28, LI29, LI30, LI31, LI32, LI33, LI34, LI35, LI36, LI37, LI40, LI42, LI43, LI45, LI48, LI60, LI61, LI64, LI80, LI300, LI400, LI1000, LI2000, LI2001, LI2047, LI2048, LI100000, LI1000000, LM, nI_clamp, nI_pos', nI_lt, nI_nlt, nI_le, nI_ge, nI_ne, nI_add, nI_sub, mI_lt, mI_le, mI_nlt, mI_nle, mI_ne, mI_ne', mI_nem, e]
  rfl
theorem plC_on {I1 : Nat → Nat → Int32} (hw : isW w) (hP : isP P) (ho : onT w I I1) (h : plC cN rN N O G E np P L I) : plC cN rN N O G E np P L I1 := by
  have w1 := isW_e hw
  have w2 := isP_e hP
  exact plC_fr (fun c j a1 a2 => ho c j (by omega) (by omega)) h
theorem iC_on {I1 : Nat → Nat → Int32} {p0 : Nat} {a : aI Nm} (hr : w + 9 ≤ p0 ∧ p0 ≤ w + 65) (ho : onT w I I1) (h : iC cN I p0 a) : iC cN I1 p0 a :=
  iC_fr (fun c i h1 h2 => ho c i (by omega) (by omega)) h
theorem onS_T {I1 : Nat → Nat → Int32} (h : onS w I I1) : onT w I I1 := fun c i a b => h c i a (by omega)
theorem c123l {p0 : Nat} {a : aI Nm} {now : Int32} {c2 : Option Value} (hw : isW w) (hi : isI p0) (hP : isP P) (hR : R w 0 = P) (hp : p < np) (hs : s < (sts N p).length) (h6 : np ≤ 6) (s8 : (sts N p).length ≤ 8) (c8 : (cls N p s).length ≤ 8) (hv : a.2.1.length = (lets N p).length) (hl6 : (lets N p).length ≤ 6) (hr : w + 9 ≤ p0 ∧ p0 ≤ w + 65) : ∀ (cs : List Nat) (j : Nat) (I : Nat → Nat → Int32), j + cs.length = (cls N p s).length → (∀ k, cs[k]? = (cls N p s)[j + k]?) → plC cN rN N O G E np P L I → iC cN I p0 a → I w 5 = now →
    ∃ I', onS w I I' ∧ M123 A (d + 3) 77 [some (.ref (b + w)), some (.ref (b + p0)), c2, some (.int (nI ((p * 8 + s) * 8))), some (.int (nI (cls N p s).length)), some (.int (nI ((p * 8 + s) * 8 + j)))] [] (jH h b X I J R n) =
      some (.inl (some (.int (wK (cs.findIdx? (wPr N now a))))), jH h b X (wSt I' w ((p * 8 + s) * 8 + j) (cs.findIdx? (wPr N now a))) J R n) := by
  intro cs
  induction cs with
  | nil =>
    intro j I hj' hcs hpl hA hn
    have hj2 : j = (cls N p s).length := by simpa using hj'
    refine ⟨I, onS_refl, ?_⟩
    rw [r123_77]
    simp (disch := omega) [r123_0, r123_1, r123_2, r123_5, r123_6, r123_7, r123_10, r123_11, r123_14, r123_17, r123_18, r123_19, r123_20, r123_21, r123_24, r123_27, r123_28, r123_29, r123_30, r123_31, r123_34, r123_35, r123_36, r123_39, r123_40, r123_41, r123_42, r123_45, r123_46, r123_49, r123_50, r123_53, r123_56, r123_57, r123_58, r123_61, r123_62, r123_65, r123_66, r123_69, r123_72, r123_74, r123_75, r123_79, r123_80, r123_82, r123_83, r123_86, r123_87, r123_90, r123_93, r123_95, r123_96, r123_98, r123_101, r123_102, r123_103, r123_104, r123_107, r123_110, r123_112, r123_113, r123_116, r123_119, r123_120, r123_122, r123_125, r123_127, r123_128, r123_131, r123_134, r123_135, gW0 hw, pW0_11 hw, ty9_11, pW0_12 hw, ty9_12, gI0 hi, vf2_2, qa124, qo124, qa125, qo125, vf9_0, tW0_0 hw, vf2_1, qa76, qo76, gP0 hP, qa77, qo77, vf5_13, tP0_13 hP, gP18 hP, vf5_16, tP0_16 hP, gP21 hP, qa127, qo127, List.getElem?_cons_zero, List.getElem?_cons_succ, List.length_cons, List.length_nil, ag_nx, ag_dn, ag_no, ag_if, jbr1, jbr2, jc1, jc2, jnul, jld, jsto, jstoL, jst1, jst2, jkill, jinc, jbI, jbL, jbS, juI, jl2i, jcmp, jisR, jisI, jisL, jret, jretv, jfits, jdup, jdup2, jpop, jmm, jcat, Value.category, jinv, jrcv, jthr, jhd, jput, jget, jlen, jald, jast, jaast, jgI, jgL, jgB, jtab, jlku, jacp, vf20, vf21, vf22, vf23, vf24, u2_s, u2_k, u2_i, uc_s, uc_k, uc_c, u2_c, LI0, LI1, LI2, LI3, LI4, LI5, LI6, LI7, LI8, LI9, LI10, LI11, LI12, LI13, LI14, LI15, LI16, LI17, LI18, LI19, LI20, LI21, LI22, LI23, LI24, LI25, LI26, LI27, LI28, LI29, LI30, LI31, LI32, LI33, LI34, LI35, LI36, LI37, LI40, LI42, LI43, LI45, LI48, LI60, LI61, LI64, LI80, LI300, LI400, LI1000, LI2000, LI2001, LI2047, LI2048, LI100000, LI1000000, LM, nI_clamp, nI_pos', nI_lt, nI_nlt, nI_le, nI_ge, nI_ne, nI_add, nI_sub, mI_lt, mI_le, mI_nlt, mI_nle, mI_ne, mI_ne', mI_nem, hj2, wK, wSt]
  | cons c cs ih =>
    intro j I hj' hcs hpl hA hn
    have hjl : j < (cls N p s).length := by simp at hj'; omega
    have hc : (cls N p s)[j]? = some c := by
      have := hcs 0
      simpa using this.symm
    have hk := ((hpl.2.2.2 p hp).2.2.2.2.2.2.2.2.2.2.2 s hs).2.2 j c hc
    have hrest : ∀ k, cs[k]? = (cls N p s)[j + 1 + k]? := fun k => by
      have := hcs (k + 1)
      rw [Nat.add_assoc, Nat.add_comm 1 k]
      simpa using this
    rw [List.findIdx?_cons]
    by_cases h37 : N 251 c = 37
    · rcases hk with ⟨k1, _⟩ | ⟨k1, _⟩ | ⟨k1, _⟩ | ⟨k1, _⟩ | ⟨k1, k2, k3, ⟨q1, e1, q2, he1, k4, k5, k6, k7, k8⟩, _⟩
      · rw [k1] at h37; exact absurd h37 (by decide)
      · rw [k1] at h37; exact absurd h37 (by decide)
      · rw [k1] at h37; exact absurd h37 (by decide)
      · rw [k1] at h37; exact absurd h37 (by decide)
      · rw [← hv] at k6
        obtain ⟨I1, e, ho⟩ := cTest (d := d) (A := A) (b := b) (h := h) (X := X) (J := J) (R := R) (n := n) (P := P) (a := a) (now := now) hw hP hi hr (by omega) k6 k7 k8 hpl.2.2.1 hA hn hR
        have hix : ix (N 252 c) = e1 := by rw [k4]; exact nI_clamp (by omega)
        by_cases hz : evl N now a ED e1 = 0
        · obtain ⟨I2, ho2, em⟩ := ih (j + 1) I1 (by simp at hj'; omega) hrest (plC_on hw hP (onS_T ho) hpl) (iC_on hr (onS_T ho) hA) ((ho w 5 (by omega) (by omega)).trans hn)
          refine ⟨I2, onS_trans ho ho2, ?_⟩
          have hpred : wPr N now a c = false := by simp [wPr, hix, hz]
          rw [hpred, if_neg (by decide), wK_map, wSt_map]
          rw [hz] at e
          rw [← Nat.add_assoc] at em
          simp only [LI0, LI1, LI2, LI3, LI4, LI5, LI6, LI7, LI8, LI9, LI10, LI11, LI12, LI13, LI14, LI15, LI16, LI17, LI18, LI19, LI20, LI21, LI22, LI23, LI24, LI25, LI26, LI27, LI28, LI29, LI30, LI31, LI32, LI33, LI34, LI35, LI36, LI37, LI40, LI42, LI43, LI45, LI48, LI60, LI61, LI64, LI80, LI300, LI400, LI1000, LI2000, LI2001, LI2047, LI2048, LI100000, LI1000000, LM] at e
          rw [r123_77]
          simp (disch := omega) [r123_0, r123_1, r123_2, r123_5, r123_6, r123_7, r123_10, r123_11, r123_14, r123_17, r123_18, r123_19, r123_20, r123_21, r123_24, r123_27, r123_28, r123_29, r123_30, r123_31, r123_34, r123_35, r123_36, r123_39, r123_40, r123_41, r123_42, r123_45, r123_46, r123_49, r123_50, r123_53, r123_56, r123_57, r123_58, r123_61, r123_62, r123_65, r123_66, r123_69, r123_72, r123_74, r123_75, r123_79, r123_80, r123_82, r123_83, r123_86, r123_87, r123_90, r123_93, r123_95, r123_96, r123_98, r123_101, r123_102, r123_103, r123_104, r123_107, r123_110, r123_112, r123_113, r123_116, r123_119, r123_120, r123_122, r123_125, r123_127, r123_128, r123_131, r123_134, r123_135, gW0 hw, pW0_11 hw, ty9_11, pW0_12 hw, ty9_12, gI0 hi, vf2_2, qa124, qo124, qa125, qo125, vf9_0, tW0_0 hw, vf2_1, qa76, qo76, gP0 hP, qa77, qo77, vf5_13, tP0_13 hP, gP18 hP, vf5_16, tP0_16 hP, gP21 hP, qa127, qo127, List.getElem?_cons_zero, List.getElem?_cons_succ, List.length_cons, List.length_nil, ag_nx, ag_dn, ag_no, ag_if, jbr1, jbr2, jc1, jc2, jnul, jld, jsto, jstoL, jst1, jst2, jkill, jinc, jbI, jbL, jbS, juI, jl2i, jcmp, jisR, jisI, jisL, jret, jretv, jfits, jdup, jdup2, jpop, jmm, jcat, Value.category, jinv, jrcv, jthr, jhd, jput, jget, jlen, jald, jast, jaast, jgI, jgL, jgB, jtab, jlku, jacp, vf20, vf21, vf22, vf23, vf24, u2_s, u2_k, u2_i, uc_s, uc_k, uc_c, u2_c, LI0, LI1, LI2, LI3, LI4, LI5, LI6, LI7, LI8, LI9, LI10, LI11, LI12, LI13, LI14, LI15, LI16, LI17, LI18, LI19, LI20, LI21, LI22, LI23, LI24, LI25, LI26, LI27, LI28, LI29, LI30, LI31, LI32, LI33, LI34, LI35, LI36, LI37, LI40, LI42, LI43, LI45, LI48, LI60, LI61, LI64, LI80, LI300, LI400, LI1000, LI2000, LI2001, LI2047, LI2048, LI100000, LI1000000, LM, nI_clamp, nI_pos', nI_lt, nI_nlt, nI_le, nI_ge, nI_ne, nI_add, nI_sub, mI_lt, mI_le, mI_nlt, mI_nle, mI_ne, mI_ne', mI_nem, hR, k2, k5, e, em, show (p * 8 + s) * 8 + j < 384 by omega]
        · have hpred : wPr N now a c = true := by simp [wPr, hix, hz, h37]
          refine ⟨I1, ho, ?_⟩
          rw [hpred, if_pos rfl]
          rw [LI0] at hz
          rw [r123_77]
          simp (disch := omega) [r123_0, r123_1, r123_2, r123_5, r123_6, r123_7, r123_10, r123_11, r123_14, r123_17, r123_18, r123_19, r123_20, r123_21, r123_24, r123_27, r123_28, r123_29, r123_30, r123_31, r123_34, r123_35, r123_36, r123_39, r123_40, r123_41, r123_42, r123_45, r123_46, r123_49, r123_50, r123_53, r123_56, r123_57, r123_58, r123_61, r123_62, r123_65, r123_66, r123_69, r123_72, r123_74, r123_75, r123_79, r123_80, r123_82, r123_83, r123_86, r123_87, r123_90, r123_93, r123_95, r123_96, r123_98, r123_101, r123_102, r123_103, r123_104, r123_107, r123_110, r123_112, r123_113, r123_116, r123_119, r123_120, r123_122, r123_125, r123_127, r123_128, r123_131, r123_134, r123_135, gW0 hw, pW0_11 hw, ty9_11, pW0_12 hw, ty9_12, gI0 hi, vf2_2, qa124, qo124, qa125, qo125, vf9_0, tW0_0 hw, vf2_1, qa76, qo76, gP0 hP, qa77, qo77, vf5_13, tP0_13 hP, gP18 hP, vf5_16, tP0_16 hP, gP21 hP, qa127, qo127, List.getElem?_cons_zero, List.getElem?_cons_succ, List.length_cons, List.length_nil, ag_nx, ag_dn, ag_no, ag_if, jbr1, jbr2, jc1, jc2, jnul, jld, jsto, jstoL, jst1, jst2, jkill, jinc, jbI, jbL, jbS, juI, jl2i, jcmp, jisR, jisI, jisL, jret, jretv, jfits, jdup, jdup2, jpop, jmm, jcat, Value.category, jinv, jrcv, jthr, jhd, jput, jget, jlen, jald, jast, jaast, jgI, jgL, jgB, jtab, jlku, jacp, vf20, vf21, vf22, vf23, vf24, u2_s, u2_k, u2_i, uc_s, uc_k, uc_c, u2_c, LI0, LI1, LI2, LI3, LI4, LI5, LI6, LI7, LI8, LI9, LI10, LI11, LI12, LI13, LI14, LI15, LI16, LI17, LI18, LI19, LI20, LI21, LI22, LI23, LI24, LI25, LI26, LI27, LI28, LI29, LI30, LI31, LI32, LI33, LI34, LI35, LI36, LI37, LI40, LI42, LI43, LI45, LI48, LI60, LI61, LI64, LI80, LI300, LI400, LI1000, LI2000, LI2001, LI2047, LI2048, LI100000, LI1000000, LM, nI_clamp, nI_pos', nI_lt, nI_nlt, nI_le, nI_ge, nI_ne, nI_add, nI_sub, mI_lt, mI_le, mI_nlt, mI_nle, mI_ne, mI_ne', mI_nem, hR, k2, k5, e, hz, wK, wSt, show (p * 8 + s) * 8 + j < 384 by omega]
    · obtain ⟨I2, ho2, em⟩ := ih (j + 1) I (by simp at hj'; omega) hrest hpl hA hn
      refine ⟨I2, ho2, ?_⟩
      have hpred : wPr N now a c = false := by simp [wPr, h37]
      rw [hpred, if_neg (by decide), wK_map, wSt_map]
      rw [← Nat.add_assoc] at em
      have hne : ∃ x, x < 10 ∧ x ≠ 8 ∧ I (P + 18) ((p * 8 + s) * 8 + j) = nI x := by
        rcases hk with ⟨k1, k2, _⟩ | ⟨k1, k2, _⟩ | ⟨k1, k2, _⟩ | ⟨k1, k2, _⟩ | ⟨k1, k2, _⟩
        · exact ⟨5, by omega, by omega, k2⟩
        · exact ⟨6, by omega, by omega, k2⟩
        · exact ⟨7, by omega, by omega, k2⟩
        · exact ⟨9, by omega, by omega, k2⟩
        · exact absurd k1 h37
      obtain ⟨x, x1, x2, x3⟩ := hne
      rw [r123_77]
      simp (disch := omega) [r123_0, r123_1, r123_2, r123_5, r123_6, r123_7, r123_10, r123_11, r123_14, r123_17, r123_18, r123_19, r123_20, r123_21, r123_24, r123_27, r123_28, r123_29, r123_30, r123_31, r123_34, r123_35, r123_36, r123_39, r123_40, r123_41, r123_42, r123_45, r123_46, r123_49, r123_50, r123_53, r123_56, r123_57, r123_58, r123_61, r123_62, r123_65, r123_66, r123_69, r123_72, r123_74, r123_75, r123_79, r123_80, r123_82, r123_83, r123_86, r123_87, r123_90, r123_93, r123_95, r123_96, r123_98, r123_101, r123_102, r123_103, r123_104, r123_107, r123_110, r123_112, r123_113, r123_116, r123_119, r123_120, r123_122, r123_125, r123_127, r123_128, r123_131, r123_134, r123_135, gW0 hw, pW0_11 hw, ty9_11, pW0_12 hw, ty9_12, gI0 hi, vf2_2, qa124, qo124, qa125, qo125, vf9_0, tW0_0 hw, vf2_1, qa76, qo76, gP0 hP, qa77, qo77, vf5_13, tP0_13 hP, gP18 hP, vf5_16, tP0_16 hP, gP21 hP, qa127, qo127, List.getElem?_cons_zero, List.getElem?_cons_succ, List.length_cons, List.length_nil, ag_nx, ag_dn, ag_no, ag_if, jbr1, jbr2, jc1, jc2, jnul, jld, jsto, jstoL, jst1, jst2, jkill, jinc, jbI, jbL, jbS, juI, jl2i, jcmp, jisR, jisI, jisL, jret, jretv, jfits, jdup, jdup2, jpop, jmm, jcat, Value.category, jinv, jrcv, jthr, jhd, jput, jget, jlen, jald, jast, jaast, jgI, jgL, jgB, jtab, jlku, jacp, vf20, vf21, vf22, vf23, vf24, u2_s, u2_k, u2_i, uc_s, uc_k, uc_c, u2_c, LI0, LI1, LI2, LI3, LI4, LI5, LI6, LI7, LI8, LI9, LI10, LI11, LI12, LI13, LI14, LI15, LI16, LI17, LI18, LI19, LI20, LI21, LI22, LI23, LI24, LI25, LI26, LI27, LI28, LI29, LI30, LI31, LI32, LI33, LI34, LI35, LI36, LI37, LI40, LI42, LI43, LI45, LI48, LI60, LI61, LI64, LI80, LI300, LI400, LI1000, LI2000, LI2001, LI2047, LI2048, LI100000, LI1000000, LM, nI_clamp, nI_pos', nI_lt, nI_nlt, nI_le, nI_ge, nI_ne, nI_add, nI_sub, mI_lt, mI_le, mI_nlt, mI_nle, mI_ne, mI_ne', mI_nem, hR, x3, em, show (p * 8 + s) * 8 + j < 384 by omega]
theorem c123w {p0 : Nat} {a : aI Nm} {now : Int32} {c2 : Option Value} (hw : isW w) (hi : isI p0) (hP : isP P) (hR : R w 0 = P) (hp : p < np) (hs : s < (sts N p).length) (hv : a.2.1.length = (lets N p).length) (hr : w + 9 ≤ p0 ∧ p0 ≤ w + 65) (hpl : plC cN rN N O G E np P L I) (hA : iC cN I p0 a) (hn : I w 5 = now) :
    ∃ I', onS w I I' ∧ M123 A (d + 3) 77 [some (.ref (b + w)), some (.ref (b + p0)), c2, some (.int (nI ((p * 8 + s) * 8))), some (.int (nI (cls N p s).length)), some (.int (nI ((p * 8 + s) * 8)))] [] (jH h b X I J R n) =
      some (.inl (some (.int (wK ((cls N p s).findIdx? (wPr N now a))))), jH h b X (wSt I' w ((p * 8 + s) * 8) ((cls N p s).findIdx? (wPr N now a))) J R n) := by
  have kp := hpl.2.2.2 p hp
  exact c123l (d := d) (A := A) (b := b) (h := h) (X := X) (J := J) (R := R) (n := n) (a := a) (now := now) (c2 := c2) hw hi hP hR hp hs hpl.1 kp.2.2.2.2.2.2.2.1 (kp.2.2.2.2.2.2.2.2.2.2.2 s hs).1 hv kp.2.2.2.2.1 hr (cls N p s) 0 I (by omega) (fun k => by rw [Nat.zero_add]) hpl hA hn
end CD
