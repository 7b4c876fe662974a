/-! the class chooses what a turn would be -/
/-- an instance of the plan -/
def okI {α : Type} (N : Nat → Nat → Int32) (np : Nat) (a : aI α) : Prop := ∃ p, p < np ∧ a.1.2.1 = nI p ∧ a.2.1.length = (lets N p).length ∧ (a.1.2.2.1 = -1 ∨ ∃ s, s < (sts N p).length ∧ a.1.2.2.1 = nI s) ∧ a.2.2.1.length ≤ 8 ∧ a.2.2.2.length ≤ 4
section CC
variable {A : Nat → Nat} {d b n w P p s : Nat} {h : Nat → Option jC} {X : jXX} {I : Nat → Nat → Int32} {J : Nat → Nat → Int64} {R : Nat → Nat → Nat} {cN rN : Int32 → Nm} {N : Nat → Nat → Int32} {O G E : Nat → Int32} {np L : Nat}
theorem cFcl {kd : Nat} {x : Int32} (hP : isP P) (hj : ∀ x y, cN x = cN y → x = y) (hpl : plC cN rN N O G E np P L I) (hp : p < np) (hs : s < (sts N p).length) (hk : kd = 5 ∨ kd = 6 ∨ kd = 7) : jcall A jcode (d + 1) 78 [.ref (b + P), .int (nI p), .int (nI s), .int (nI kd), .int x] (jH h b X I J R n) = some (.inl (some (.int (clO ((p * 8 + s) * 8) (fcl rN N p s (nI (kd + 28)) (cN x))))), jH h b X I J R n) := by
  have kp := hpl.2.2.2 p hp
  have n6 := hpl.1
  obtain ⟨_, _, _, _, _, _, _, s8, _, _, _, kc⟩ := kp
  obtain ⟨c8, hc, kk⟩ := kc s hs
  have e := c78 (d := d) (A := A) (b := b) (h := h) (X := X) (J := J) (R := R) (n := n) (kd := nI kd) (x := x) hP (show p < 6 by omega) (show s < 8 by omega) hc c8
  rw [fdP_idx (f := fun c => decide (N 251 c = nI (kd + 28)) && (decide (nI (kd + 28) = 36) || decide (rN (N 252 c) = cN x))) (cls N p s) 0 ?_] at e
  · simpa [fcl] using e
  · intro j c hjc
    have h36 : decide (nI (kd + 28) = (36 : Int32)) = false := by
      rcases hk with rfl | rfl | rfl <;> decide
    have sg : ∀ y, cN y = rN (N 252 c) → decide (y = x) = decide (rN (N 252 c) = cN x) := by
      intro y hy
      rw [← hy]
      by_cases hyx : y = x
      · simp [hyx]
      · have : ¬ cN y = cN x := fun z => hyx (hj _ _ z)
        simp [hyx, this]
    rw [Nat.zero_add, h36, Bool.false_or]
    rcases kk j c hjc with ⟨k1, k2, k3, _⟩ | ⟨k1, k2, k3, _⟩ | ⟨k1, k2, k3⟩ | ⟨k1, k2, _⟩ | ⟨k1, k2, _⟩
    · rw [k1, k2, sg _ k3]
      rcases hk with rfl | rfl | rfl
      · rfl
      · rfl
      · rfl
    · rw [k1, k2, sg _ k3]
      rcases hk with rfl | rfl | rfl
      · rfl
      · rfl
      · rfl
    · rw [k1, k2, sg _ k3]
      rcases hk with rfl | rfl | rfl
      · rfl
      · rfl
      · rfl
    · rw [k1, k2]
      rcases hk with rfl | rfl | rfl
      · rfl
      · rfl
      · rfl
    · rw [k1, k2]
      rcases hk with rfl | rfl | rfl
      · rfl
      · rfl
      · rfl
theorem cFany {x : Nm} (hP : isP P) (hm : ∀ z, rN z = cN (-1) → z = -1) (hpl : plC cN rN N O G E np P L I) (hp : p < np) (hs : s < (sts N p).length) : jcall A jcode (d + 1) 78 [.ref (b + P), .int (nI p), .int (nI s), .int (nI 9), .int (mI 1)] (jH h b X I J R n) = some (.inl (some (.int (clO ((p * 8 + s) * 8) (fcl rN N p s 36 x)))), jH h b X I J R n) := by
  have kp := hpl.2.2.2 p hp
  have n6 := hpl.1
  obtain ⟨_, _, _, _, _, _, _, s8, _, _, _, kc⟩ := kp
  obtain ⟨c8, hc, kk⟩ := kc s hs
  have e := c78 (d := d) (A := A) (b := b) (h := h) (X := X) (J := J) (R := R) (n := n) (kd := nI 9) (x := mI 1) hP (show p < 6 by omega) (show s < 8 by omega) hc c8
  rw [fdP_idx (f := fun c => decide (N 251 c = 36) && (decide ((36 : Int32) = 36) || decide (rN (N 252 c) = x))) (cls N p s) 0 ?_] at e
  · simpa [fcl] using e
  · intro j c hjc
    rw [Nat.zero_add]
    rcases kk j c hjc with ⟨k1, k2, _⟩ | ⟨k1, k2, _⟩ | ⟨k1, k2, _⟩ | ⟨k1, k2, k3, _⟩ | ⟨k1, k2, _⟩
    · rw [k1, k2]; rfl
    · rw [k1, k2]; rfl
    · rw [k1, k2]; rfl
    · rw [k1, k2, k3]; simp [mI, nI]
    · rw [k1, k2]; rfl
theorem c124l {p0 Q : Nat} (hw : isW w) (hi : isI p0) (hP : isP P) (hR : R w 0 = P) (hj : ∀ x y, cN x = cN y → x = y) (hpl : plC cN rN N O G E np P L I) (hp : p < np) (hs : s < (sts N p).length) (h1 : I p0 1 = nI p) (h2 : I p0 2 = nI s) (h7 : I p0 7 = nI Q) (hQ : Q ≤ 8) : ∀ (qs : List (aS Nm)) (i : Nat) (c3 : Option Value), i + qs.length = Q → (∀ j q, qs[j]? = some q → cN (I (p0 + 2) (i + j)) = q.1) →
    M124 A (d + 1) 2 [some (.ref (b + w)), some (.ref (b + p0)), some (.int (nI i)), c3] [] (jH h b X I J R n) = (match aPri rN N p s qs i with | some (k, c) => some (.inl (some (.int 1)), jH h b X (u2 (u2 I w 11 (nI k)) w 12 (nI ((p * 8 + s) * 8 + c))) J R n) | none => some (.inl (some (.int 0)), jH h b X I J R n)) := by
  intro qs
  induction qs with
  | nil =>
    intro i c3 hi' _
    have hi2 : i = Q := by simpa using hi'
    rw [r124_2]
    simp (disch := omega) [r124_0, r124_1, r124_3, r124_4, r124_7, r124_10, r124_11, r124_13, r124_16, r124_17, r124_20, r124_21, r124_24, r124_25, r124_28, r124_30, r124_31, r124_34, r124_35, r124_36, r124_39, r124_40, r124_41, r124_44, r124_45, r124_46, r124_49, r124_50, r124_51, r124_54, r124_55, r124_56, r124_59, r124_62, r124_63, gI0 hi, vf2_7, gW0 hw, vf9_0, tW0_0 hw, vf2_1, vf2_2, vf2_8, tI0_8 hi, gI2 hi, qa78, qo78, gP0 hP, pW0_11 hw, ty9_11, pW0_12 hw, ty9_12, List.getElem?_cons_zero, List.getElem?_cons_succ, List.length_cons, List.length_nil, ag_nx, ag_dn, ag_no, ag_if, jbr1, jbr2, jc1, jc2, jnul, jld, jsto, jstoL, jst1, jst2, jkill, jinc, jbI, jbL, jbS, juI, jl2i, jcmp, jisR, jisI, jisL, jret, jretv, jfits, jdup, jdup2, jpop, jmm, jcat, Value.category, jinv, jrcv, jthr, jhd, jput, jget, jlen, jald, jast, jaast, jgI, jgL, jgB, jtab, jlku, jacp, vf20, vf21, vf22, vf23, vf24, u2_s, u2_k, u2_i, uc_s, uc_k, uc_c, u2_c, LI0, LI1, LI2, LI3, LI4, LI5, LI6, LI7, LI8, LI9, LI10, LI11, LI12, LI13, LI14, LI15, LI16, LI17, LI18, LI19, LI20, LI21, LI22, LI23, LI24, LI25, LI26, LI27, LI28, LI29, LI30, LI31, LI32, LI33, LI34, LI35, LI36, LI37, LI40, LI42, LI43, LI45, LI48, LI60, LI61, LI64, LI80, LI300, LI400, LI1000, LI2000, LI2001, LI2047, LI2048, LI100000, LI1000000, LM, nI_clamp, nI_pos', nI_lt, nI_nlt, nI_le, nI_ge, nI_ne, nI_add, nI_sub, mI_lt, mI_le, mI_nlt, mI_nle, mI_ne, mI_ne', mI_nem, h7, aPri, hi2]
  | cons q qs ih =>
    intro i c3 hi' hq
    have hil : i < Q := by simp at hi'; omega
    have e0 : cN (I (p0 + 2) i) = q.1 := hq 0 q rfl
    have ef := cFcl (d := d) (A := A) (b := b) (h := h) (X := X) (J := J) (R := R) (n := n) (kd := 6) (x := I (p0 + 2) i) hP hj hpl hp hs (by omega)
    rw [e0] at ef
    have n6 := hpl.1
    have hp6 : p < 6 := by omega
    have s8 : (sts N p).length ≤ 8 := (hpl.2.2.2 p hp).2.2.2.2.2.2.2.1
    rw [r124_2]
    have hx : aPri rN N p s (q :: qs) i = match fcl rN N p s 34 q.1 with | some c => some (i, c) | none => aPri rN N p s qs (i + 1) := rfl
    rw [hx]
    have h34 : nI (6 + 28) = (34 : Int32) := by decide
    rw [h34] at ef
    cases hf : fcl rN N p s 34 q.1 with
    | some c =>
      rw [hf] at ef
      have hc8 : c < 8 := by
        have := (hpl.2.2.2 p hp).2.2.2.2.2.2.2.2.2.2.2 s hs
        have h3 : c < (cls N p s).length := by
          unfold fcl at hf
          exact (List.findIdx?_eq_some_iff_getElem.mp hf).1
        omega
      simp only [clO] at ef
      simp (disch := omega) [r124_0, r124_1, r124_3, r124_4, r124_7, r124_10, r124_11, r124_13, r124_16, r124_17, r124_20, r124_21, r124_24, r124_25, r124_28, r124_30, r124_31, r124_34, r124_35, r124_36, r124_39, r124_40, r124_41, r124_44, r124_45, r124_46, r124_49, r124_50, r124_51, r124_54, r124_55, r124_56, r124_59, r124_62, r124_63, gI0 hi, vf2_7, gW0 hw, vf9_0, tW0_0 hw, vf2_1, vf2_2, vf2_8, tI0_8 hi, gI2 hi, qa78, qo78, gP0 hP, pW0_11 hw, ty9_11, pW0_12 hw, ty9_12, List.getElem?_cons_zero, List.getElem?_cons_succ, List.length_cons, List.length_nil, ag_nx, ag_dn, ag_no, ag_if, jbr1, jbr2, jc1, jc2, jnul, jld, jsto, jstoL, jst1, jst2, jkill, jinc, jbI, jbL, jbS, juI, jl2i, jcmp, jisR, jisI, jisL, jret, jretv, jfits, jdup, jdup2, jpop, jmm, jcat, Value.category, jinv, jrcv, jthr, jhd, jput, jget, jlen, jald, jast, jaast, jgI, jgL, jgB, jtab, jlku, jacp, vf20, vf21, vf22, vf23, vf24, u2_s, u2_k, u2_i, uc_s, uc_k, uc_c, u2_c, LI0, LI1, LI2, LI3, LI4, LI5, LI6, LI7, LI8, LI9, LI10, LI11, LI12, LI13, LI14, LI15, LI16, LI17, LI18, LI19, LI20, LI21, LI22, LI23, LI24, LI25, LI26, LI27, LI28, LI29, LI30, LI31, LI32, LI33, LI34, LI35, LI36, LI37, LI40, LI42, LI43, LI45, LI48, LI60, LI61, LI64, LI80, LI300, LI400, LI1000, LI2000, LI2001, LI2047, LI2048, LI100000, LI1000000, LM, nI_clamp, nI_pos', nI_lt, nI_nlt, nI_le, nI_ge, nI_ne, nI_add, nI_sub, mI_lt, mI_le, mI_nlt, mI_nle, mI_ne, mI_ne', mI_nem, h7, h1, h2, hR, ef, show i < 8 by omega]
    | none =>
      rw [hf] at ef
      simp only [clO] at ef
      simp only [LI0, LI1, LI2, LI3, LI4, LI5, LI6, LI7, LI8, LI9, LI10, LI11, LI12, LI13, LI14, LI15, LI16, LI17, LI18, LI19, LI20, LI21, LI22, LI23, LI24, LI25, LI26, LI27, LI28, LI29, LI30, LI31, LI32, LI33, LI34, LI35, LI36, LI37, LI40, LI42, LI43, LI45, LI48, LI60, LI61, LI64, LI80, LI300, LI400, LI1000, LI2000, LI2001, LI2047, LI2048, LI100000, LI1000000, LM] at ef
      have e := ih (i + 1) (some (.int (mI 1))) (by simp at hi'; omega) (fun j q' hj' => by
        have := hq (j + 1) q' (by simpa using hj')
        rwa [Nat.add_assoc, Nat.add_comm 1 j])
      simp (disch := omega) [r124_0, r124_1, r124_3, r124_4, r124_7, r124_10, r124_11, r124_13, r124_16, r124_17, r124_20, r124_21, r124_24, r124_25, r124_28, r124_30, r124_31, r124_34, r124_35, r124_36, r124_39, r124_40, r124_41, r124_44, r124_45, r124_46, r124_49, r124_50, r124_51, r124_54, r124_55, r124_56, r124_59, r124_62, r124_63, gI0 hi, vf2_7, gW0 hw, vf9_0, tW0_0 hw, vf2_1, vf2_2, vf2_8, tI0_8 hi, gI2 hi, qa78, qo78, gP0 hP, pW0_11 hw, ty9_11, pW0_12 hw, ty9_12, List.getElem?_cons_zero, List.getElem?_cons_succ, List.length_cons, List.length_nil, ag_nx, ag_dn, ag_no, ag_if, jbr1, jbr2, jc1, jc2, jnul, jld, jsto, jstoL, jst1, jst2, jkill, jinc, jbI, jbL, jbS, juI, jl2i, jcmp, jisR, jisI, jisL, jret, jretv, jfits, jdup, jdup2, jpop, jmm, jcat, Value.category, jinv, jrcv, jthr, jhd, jput, jget, jlen, jald, jast, jaast, jgI, jgL, jgB, jtab, jlku, jacp, vf20, vf21, vf22, vf23, vf24, u2_s, u2_k, u2_i, uc_s, uc_k, uc_c, u2_c, LI0, LI1, LI2, LI3, LI4, LI5, LI6, LI7, LI8, LI9, LI10, LI11, LI12, LI13, LI14, LI15, LI16, LI17, LI18, LI19, LI20, LI21, LI22, LI23, LI24, LI25, LI26, LI27, LI28, LI29, LI30, LI31, LI32, LI33, LI34, LI35, LI36, LI37, LI40, LI42, LI43, LI45, LI48, LI60, LI61, LI64, LI80, LI300, LI400, LI1000, LI2000, LI2001, LI2047, LI2048, LI100000, LI1000000, LM, nI_clamp, nI_pos', nI_lt, nI_nlt, nI_le, nI_ge, nI_ne, nI_add, nI_sub, mI_lt, mI_le, mI_nlt, mI_nle, mI_ne, mI_ne', mI_nem, h7, h1, h2, hR, ef, e, show i < 8 by omega]
theorem fcl_lt {kd : Int32} {x : Nm} {c : Nat} (hf : fcl rN N p s kd x = some c) : c < (cls N p s).length := by
  unfold fcl at hf
  exact (List.findIdx?_eq_some_iff_getElem.mp hf).1
theorem c124 {p0 : Nat} {a : aI Nm} (hw : isW w) (hi : isI p0) (hP : isP P) (hR : R w 0 = P) (hj : ∀ x y, cN x = cN y → x = y) (hpl : plC cN rN N O G E np P L I) (hp : p < np) (hs : s < (sts N p).length) (hA : iC cN I p0 a) (h1 : a.1.2.1 = nI p) (h2 : a.1.2.2.1 = nI s) (hQ : a.2.2.1.length ≤ 8) :
    jcall A jcode (d + 2) 124 [.ref (b + w), .ref (b + p0)] (jH h b X I J R n) = (match aPri rN N p s a.2.2.1 0 with | some (k, c) => some (.inl (some (.int 1)), jH h b X (u2 (u2 I w 11 (nI k)) w 12 (nI ((p * 8 + s) * 8 + c))) J R n) | none => some (.inl (some (.int 0)), jH h b X I J R n)) := by
  obtain ⟨i0, i1, i2, _⟩ := iC_01 hA
  have e := c124l (d := d) (A := A) (b := b) (h := h) (X := X) (J := J) (R := R) (n := n) hw hi hP hR hj hpl hp hs (i1.trans h1) (i2.trans h2) hA.2.2.1 hQ a.2.2.1 0 none (by omega) (fun j q hq => by
    rw [hA.2.2.2.1] at hq
    rw [Nat.zero_add]
    rcases Nat.lt_or_ge j a.2.2.1.length with hj' | hj'
    · rw [rl_at hj'] at hq
      cases hq
      rfl
    · rw [rl_no hj'] at hq
      cases hq)
  simp (disch := omega) [je124, r124_0, r124_1, List.getElem?_cons_zero, List.getElem?_cons_succ, List.length_cons, List.length_nil, ag_nx, ag_dn, ag_no, ag_if, jbr1, jbr2, jc1, jc2, jnul, jld, jsto, jstoL, jst1, jst2, jkill, jinc, jbI, jbL, jbS, juI, jl2i, jcmp, jisR, jisI, jisL, jret, jretv, jfits, jdup, jdup2, jpop, jmm, jcat, Value.category, jinv, jrcv, jthr, jhd, jput, jget, jlen, jald, jast, jaast, jgI, jgL, jgB, jtab, jlku, jacp, vf20, vf21, vf22, vf23, vf24, u2_s, u2_k, u2_i, uc_s, uc_k, uc_c, u2_c, LI0, LI1, LI2, LI3, LI4, LI5, LI6, LI7, LI8, LI9, LI10, LI11, LI12, LI13, LI14, LI15, LI16, LI17, LI18, LI19, LI20, LI21, LI22, LI23, LI24, LI25, LI26, LI27, LI28, LI29, LI30, LI31, LI32, LI33, LI34, LI35, LI36, LI37, LI40, LI42, LI43, LI45, LI48, LI60, LI61, LI64, LI80, LI300, LI400, LI1000, LI2000, LI2001, LI2047, LI2048, LI100000, LI1000000, LM, nI_clamp, nI_pos', nI_lt, nI_nlt, nI_le, nI_ge, nI_ne, nI_add, nI_sub, mI_lt, mI_le, mI_nlt, mI_nle, mI_ne, mI_ne', mI_nem, e]
theorem c125l {p0 Q : Nat} (hw : isW w) (hi : isI p0) (hP : isP P) (hR : R w 0 = P) (hj : ∀ x y, cN x = cN y → x = y) (hm : ∀ z, rN z = cN (-1) → z = -1) (hpl : plC cN rN N O G E np P L I) (hp : p < np) (hs : s < (sts N p).length) (h1 : I p0 1 = nI p) (h2 : I p0 2 = nI s) (h7 : I p0 7 = nI Q) (hQ : Q ≤ 8) (hr : w + 9 ≤ p0 ∧ p0 ≤ w + 65) : ∀ (qs : List (aS Nm)) (i : Nat) (c3 : Option Value), i + qs.length = Q → (∀ j q, qs[j]? = some q → cN (I (p0 + 2) (i + j)) = q.1) →
    M125 A (d + 1) 2 [some (.ref (b + w)), some (.ref (b + p0)), some (.int (nI i)), c3] [] (jH h b X I J R n) = (match aSig rN N p s qs i with
      | some (k, q) => (match fcl rN N p s 33 q.1 with
        | some c => some (.inl (some (.int 3)), jH h b X (u2 (u2 I w 11 (nI k)) w 12 (nI ((p * 8 + s) * 8 + c))) J R n)
        | none => (match fcl rN N p s 36 q.1 with
          | some c => some (.inl (some (.int 4)), jH h b X (u2 (u2 (u2 I w 11 (nI k)) w 12 (-1)) w 12 (nI ((p * 8 + s) * 8 + c))) J R n)
          | none => some (.inl (some (.int 5)), jH h b X (u2 (u2 (u2 I w 11 (nI k)) w 12 (-1)) w 12 (-1)) J R n)))
      | none => some (.inl (some (.int 0)), jH h b X I J R n)) := by
  have n6 := hpl.1
  have hp6 : p < 6 := by omega
  have s8 : (sts N p).length ≤ 8 := (hpl.2.2.2 p hp).2.2.2.2.2.2.2.1
  have c8 := ((hpl.2.2.2 p hp).2.2.2.2.2.2.2.2.2.2.2 s hs).1
  have w1 := isW_e hw
  have w2 := isP_e hP
  have h33 : nI (5 + 28) = (33 : Int32) := by decide
  have h35 : nI (7 + 28) = (35 : Int32) := by decide
  intro qs
  induction qs with
  | nil =>
    intro i c3 hi' _
    have hi2 : i = Q := by simpa using hi'
    rw [r125_2]
    simp (disch := omega) [r125_0, r125_1, r125_3, r125_4, r125_7, r125_10, r125_11, r125_13, r125_16, r125_17, r125_20, r125_21, r125_22, r125_23, r125_24, r125_27, r125_28, r125_31, r125_32, r125_35, r125_37, r125_38, r125_41, r125_44, r125_47, r125_48, r125_49, r125_52, r125_53, r125_54, r125_57, r125_58, r125_61, r125_62, r125_65, r125_66, r125_67, r125_70, r125_73, r125_74, r125_77, r125_80, r125_81, r125_82, r125_83, r125_84, r125_87, r125_88, r125_91, r125_92, r125_95, r125_97, r125_98, r125_101, r125_104, r125_105, r125_108, r125_111, r125_112, r125_115, r125_116, r125_117, r125_120, r125_123, r125_124, gI0 hi, vf2_7, vf2_8, tI0_8 hi, gI2 hi, gW0 hw, vf9_0, tW0_0 hw, vf2_1, vf2_2, qa78, qo78, gP0 hP, pW0_11 hw, ty9_11, pW0_12 hw, ty9_12, vf9_12, List.getElem?_cons_zero, List.getElem?_cons_succ, List.length_cons, List.length_nil, ag_nx, ag_dn, ag_no, ag_if, jbr1, jbr2, jc1, jc2, jnul, jld, jsto, jstoL, jst1, jst2, jkill, jinc, jbI, jbL, jbS, juI, jl2i, jcmp, jisR, jisI, jisL, jret, jretv, jfits, jdup, jdup2, jpop, jmm, jcat, Value.category, jinv, jrcv, jthr, jhd, jput, jget, jlen, jald, jast, jaast, jgI, jgL, jgB, jtab, jlku, jacp, vf20, vf21, vf22, vf23, vf24, u2_s, u2_k, u2_i, uc_s, uc_k, uc_c, u2_c, LI0, LI1, LI2, LI3, LI4, LI5, LI6, LI7, LI8, LI9, LI10, LI11, LI12, LI13, LI14, LI15, LI16, LI17, LI18, LI19, LI20, LI21, LI22, LI23, LI24, LI25, LI26, LI27, LI28, LI29, LI30, LI31, LI32, LI33, LI34, LI35, LI36, LI37, LI40, LI42, LI43, LI45, LI48, LI60, LI61, LI64, LI80, LI300, LI400, LI1000, LI2000, LI2001, LI2047, LI2048, LI100000, LI1000000, LM, nI_clamp, nI_pos', nI_lt, nI_nlt, nI_le, nI_ge, nI_ne, nI_add, nI_sub, mI_lt, mI_le, mI_nlt, mI_nle, mI_ne, mI_ne', mI_nem, h7, aSig, hi2]
  | cons q qs ih =>
    intro i c3 hi' hq
    have hil : i < Q := by simp at hi'; omega
    have e0 : cN (I (p0 + 2) i) = q.1 := hq 0 q rfl
    have ef := cFcl (d := d) (A := A) (b := b) (h := h) (X := X) (J := J) (R := R) (n := n) (kd := 7) (x := I (p0 + 2) i) hP hj hpl hp hs (by omega)
    rw [e0, h35] at ef
    have hx : aSig rN N p s (q :: qs) i = match fcl rN N p s 35 q.1 with | some _ => aSig rN N p s qs (i + 1) | none => some (i, q) := rfl
    rw [r125_2, hx]
    cases hf : fcl rN N p s 35 q.1 with
    | some c =>
      rw [hf] at ef
      have hcl := fcl_lt hf
      simp only [clO] at ef
      have e := ih (i + 1) (some (.int (I (p0 + 2) i))) (by simp at hi'; omega) (fun j q' hj' => by
        have := hq (j + 1) q' (by simpa using hj')
        rwa [Nat.add_assoc, Nat.add_comm 1 j])
      simp (disch := omega) [r125_0, r125_1, r125_3, r125_4, r125_7, r125_10, r125_11, r125_13, r125_16, r125_17, r125_20, r125_21, r125_22, r125_23, r125_24, r125_27, r125_28, r125_31, r125_32, r125_35, r125_37, r125_38, r125_41, r125_44, r125_47, r125_48, r125_49, r125_52, r125_53, r125_54, r125_57, r125_58, r125_61, r125_62, r125_65, r125_66, r125_67, r125_70, r125_73, r125_74, r125_77, r125_80, r125_81, r125_82, r125_83, r125_84, r125_87, r125_88, r125_91, r125_92, r125_95, r125_97, r125_98, r125_101, r125_104, r125_105, r125_108, r125_111, r125_112, r125_115, r125_116, r125_117, r125_120, r125_123, r125_124, gI0 hi, vf2_7, vf2_8, tI0_8 hi, gI2 hi, gW0 hw, vf9_0, tW0_0 hw, vf2_1, vf2_2, qa78, qo78, gP0 hP, pW0_11 hw, ty9_11, pW0_12 hw, ty9_12, vf9_12, List.getElem?_cons_zero, List.getElem?_cons_succ, List.length_cons, List.length_nil, ag_nx, ag_dn, ag_no, ag_if, jbr1, jbr2, jc1, jc2, jnul, jld, jsto, jstoL, jst1, jst2, jkill, jinc, jbI, jbL, jbS, juI, jl2i, jcmp, jisR, jisI, jisL, jret, jretv, jfits, jdup, jdup2, jpop, jmm, jcat, Value.category, jinv, jrcv, jthr, jhd, jput, jget, jlen, jald, jast, jaast, jgI, jgL, jgB, jtab, jlku, jacp, vf20, vf21, vf22, vf23, vf24, u2_s, u2_k, u2_i, uc_s, uc_k, uc_c, u2_c, LI0, LI1, LI2, LI3, LI4, LI5, LI6, LI7, LI8, LI9, LI10, LI11, LI12, LI13, LI14, LI15, LI16, LI17, LI18, LI19, LI20, LI21, LI22, LI23, LI24, LI25, LI26, LI27, LI28, LI29, LI30, LI31, LI32, LI33, LI34, LI35, LI36, LI37, LI40, LI42, LI43, LI45, LI48, LI60, LI61, LI64, LI80, LI300, LI400, LI1000, LI2000, LI2001, LI2047, LI2048, LI100000, LI1000000, LM, nI_clamp, nI_pos', nI_lt, nI_nlt, nI_le, nI_ge, nI_ne, nI_add, nI_sub, mI_lt, mI_le, mI_nlt, mI_nle, mI_ne, mI_ne', mI_nem, h7, h1, h2, hR, ef, e, show i < 8 by omega]
    | none =>
      rw [hf] at ef
      simp only [clO] at ef
      have hp1 : plC cN rN N O G E np P L (u2 I w 11 (nI i)) := plC_fr (fun c j a1 a2 => by rw [u2_k (by omega)]) hpl
      have eg := cFcl (d := d) (A := A) (b := b) (h := h) (X := X) (J := J) (R := R) (n := n) (kd := 5) (x := I (p0 + 2) i) hP hj hp1 hp hs (by omega)
      rw [e0, h33] at eg
      simp only
      cases hg : fcl rN N p s 33 q.1 with
      | some c =>
        rw [hg] at eg
        have hcl := fcl_lt hg
        simp only [clO] at eg
        simp only [LI0, LI1, LI2, LI3, LI4, LI5, LI6, LI7, LI8, LI9, LI10, LI11, LI12, LI13, LI14, LI15, LI16, LI17, LI18, LI19, LI20, LI21, LI22, LI23, LI24, LI25, LI26, LI27, LI28, LI29, LI30, LI31, LI32, LI33, LI34, LI35, LI36, LI37, LI40, LI42, LI43, LI45, LI48, LI60, LI61, LI64, LI80, LI300, LI400, LI1000, LI2000, LI2001, LI2047, LI2048, LI100000, LI1000000, LM] at ef eg
        simp (disch := omega) [r125_0, r125_1, r125_3, r125_4, r125_7, r125_10, r125_11, r125_13, r125_16, r125_17, r125_20, r125_21, r125_22, r125_23, r125_24, r125_27, r125_28, r125_31, r125_32, r125_35, r125_37, r125_38, r125_41, r125_44, r125_47, r125_48, r125_49, r125_52, r125_53, r125_54, r125_57, r125_58, r125_61, r125_62, r125_65, r125_66, r125_67, r125_70, r125_73, r125_74, r125_77, r125_80, r125_81, r125_82, r125_83, r125_84, r125_87, r125_88, r125_91, r125_92, r125_95, r125_97, r125_98, r125_101, r125_104, r125_105, r125_108, r125_111, r125_112, r125_115, r125_116, r125_117, r125_120, r125_123, r125_124, gI0 hi, vf2_7, vf2_8, tI0_8 hi, gI2 hi, gW0 hw, vf9_0, tW0_0 hw, vf2_1, vf2_2, qa78, qo78, gP0 hP, pW0_11 hw, ty9_11, pW0_12 hw, ty9_12, vf9_12, List.getElem?_cons_zero, List.getElem?_cons_succ, List.length_cons, List.length_nil, ag_nx, ag_dn, ag_no, ag_if, jbr1, jbr2, jc1, jc2, jnul, jld, jsto, jstoL, jst1, jst2, jkill, jinc, jbI, jbL, jbS, juI, jl2i, jcmp, jisR, jisI, jisL, jret, jretv, jfits, jdup, jdup2, jpop, jmm, jcat, Value.category, jinv, jrcv, jthr, jhd, jput, jget, jlen, jald, jast, jaast, jgI, jgL, jgB, jtab, jlku, jacp, vf20, vf21, vf22, vf23, vf24, u2_s, u2_k, u2_i, uc_s, uc_k, uc_c, u2_c, LI0, LI1, LI2, LI3, LI4, LI5, LI6, LI7, LI8, LI9, LI10, LI11, LI12, LI13, LI14, LI15, LI16, LI17, LI18, LI19, LI20, LI21, LI22, LI23, LI24, LI25, LI26, LI27, LI28, LI29, LI30, LI31, LI32, LI33, LI34, LI35, LI36, LI37, LI40, LI42, LI43, LI45, LI48, LI60, LI61, LI64, LI80, LI300, LI400, LI1000, LI2000, LI2001, LI2047, LI2048, LI100000, LI1000000, LM, nI_clamp, nI_pos', nI_lt, nI_nlt, nI_le, nI_ge, nI_ne, nI_add, nI_sub, mI_lt, mI_le, mI_nlt, mI_nle, mI_ne, mI_ne', mI_nem, h7, h1, h2, hR, ef, eg, show i < 8 by omega]
      | none =>
        rw [hg] at eg
        simp only [clO] at eg
        have hp2 : plC cN rN N O G E np P L (u2 (u2 I w 11 (nI i)) w 12 (mI 1)) := plC_fr (fun c j a1 a2 => by rw [u2_k (by omega)]) hp1
        have eh := cFany (d := d) (A := A) (b := b) (h := h) (X := X) (J := J) (R := R) (n := n) (x := q.1) hP hm hp2 hp hs
        cases hh : fcl rN N p s 36 q.1 with
        | some c =>
          rw [hh] at eh
          have hcl := fcl_lt hh
          simp only [clO] at eh
          simp only [LI0, LI1, LI2, LI3, LI4, LI5, LI6, LI7, LI8, LI9, LI10, LI11, LI12, LI13, LI14, LI15, LI16, LI17, LI18, LI19, LI20, LI21, LI22, LI23, LI24, LI25, LI26, LI27, LI28, LI29, LI30, LI31, LI32, LI33, LI34, LI35, LI36, LI37, LI40, LI42, LI43, LI45, LI48, LI60, LI61, LI64, LI80, LI300, LI400, LI1000, LI2000, LI2001, LI2047, LI2048, LI100000, LI1000000, LM] at ef eg eh
          simp (disch := omega) [r125_0, r125_1, r125_3, r125_4, r125_7, r125_10, r125_11, r125_13, r125_16, r125_17, r125_20, r125_21, r125_22, r125_23, r125_24, r125_27, r125_28, r125_31, r125_32, r125_35, r125_37, r125_38, r125_41, r125_44, r125_47, r125_48, r125_49, r125_52, r125_53, r125_54, r125_57, r125_58, r125_61, r125_62, r125_65, r125_66, r125_67, r125_70, r125_73, r125_74, r125_77, r125_80, r125_81, r125_82, r125_83, r125_84, r125_87, r125_88, r125_91, r125_92, r125_95, r125_97, r125_98, r125_101, r125_104, r125_105, r125_108, r125_111, r125_112, r125_115, r125_116, r125_117, r125_120, r125_123, r125_124, gI0 hi, vf2_7, vf2_8, tI0_8 hi, gI2 hi, gW0 hw, vf9_0, tW0_0 hw, vf2_1, vf2_2, qa78, qo78, gP0 hP, pW0_11 hw, ty9_11, pW0_12 hw, ty9_12, vf9_12, List.getElem?_cons_zero, List.getElem?_cons_succ, List.length_cons, List.length_nil, ag_nx, ag_dn, ag_no, ag_if, jbr1, jbr2, jc1, jc2, jnul, jld, jsto, jstoL, jst1, jst2, jkill, jinc, jbI, jbL, jbS, juI, jl2i, jcmp, jisR, jisI, jisL, jret, jretv, jfits, jdup, jdup2, jpop, jmm, jcat, Value.category, jinv, jrcv, jthr, jhd, jput, jget, jlen, jald, jast, jaast, jgI, jgL, jgB, jtab, jlku, jacp, vf20, vf21, vf22, vf23, vf24, u2_s, u2_k, u2_i, uc_s, uc_k, uc_c, u2_c, LI0, LI1, LI2, LI3, LI4, LI5, LI6, LI7, LI8, LI9, LI10, LI11, LI12, LI13, LI14, LI15, LI16, LI17, LI18, LI19, LI20, LI21, LI22, LI23, LI24, LI25, LI26, LI27, LI28, LI29, LI30, LI31, LI32, LI33, LI34, LI35, LI36, LI37, LI40, LI42, LI43, LI45, LI48, LI60, LI61, LI64, LI80, LI300, LI400, LI1000, LI2000, LI2001, LI2047, LI2048, LI100000, LI1000000, LM, nI_clamp, nI_pos', nI_lt, nI_nlt, nI_le, nI_ge, nI_ne, nI_add, nI_sub, mI_lt, mI_le, mI_nlt, mI_nle, mI_ne, mI_ne', mI_nem, h7, h1, h2, hR, ef, eg, eh, show i < 8 by omega]
        | none =>
          rw [hh] at eh
          simp only [clO] at eh
          simp only [LI0, LI1, LI2, LI3, LI4, LI5, LI6, LI7, LI8, LI9, LI10, LI11, LI12, LI13, LI14, LI15, LI16, LI17, LI18, LI19, LI20, LI21, LI22, LI23, LI24, LI25, LI26, LI27, LI28, LI29, LI30, LI31, LI32, LI33, LI34, LI35, LI36, LI37, LI40, LI42, LI43, LI45, LI48, LI60, LI61, LI64, LI80, LI300, LI400, LI1000, LI2000, LI2001, LI2047, LI2048, LI100000, LI1000000, LM] at ef eg eh
          simp (disch := omega) [r125_0, r125_1, r125_3, r125_4, r125_7, r125_10, r125_11, r125_13, r125_16, r125_17, r125_20, r125_21, r125_22, r125_23, r125_24, r125_27, r125_28, r125_31, r125_32, r125_35, r125_37, r125_38, r125_41, r125_44, r125_47, r125_48, r125_49, r125_52, r125_53, r125_54, r125_57, r125_58, r125_61, r125_62, r125_65, r125_66, r125_67, r125_70, r125_73, r125_74, r125_77, r125_80, r125_81, r125_82, r125_83, r125_84, r125_87, r125_88, r125_91, r125_92, r125_95, r125_97, r125_98, r125_101, r125_104, r125_105, r125_108, r125_111, r125_112, r125_115, r125_116, r125_117, r125_120, r125_123, r125_124, gI0 hi, vf2_7, vf2_8, tI0_8 hi, gI2 hi, gW0 hw, vf9_0, tW0_0 hw, vf2_1, vf2_2, qa78, qo78, gP0 hP, pW0_11 hw, ty9_11, pW0_12 hw, ty9_12, vf9_12, List.getElem?_cons_zero, List.getElem?_cons_succ, List.length_cons, List.length_nil, ag_nx, ag_dn, ag_no, ag_if, jbr1, jbr2, jc1, jc2, jnul, jld, jsto, jstoL, jst1, jst2, jkill, jinc, jbI, jbL, jbS, juI, jl2i, jcmp, jisR, jisI, jisL, jret, jretv, jfits, jdup, jdup2, jpop, jmm, jcat, Value.category, jinv, jrcv, jthr, jhd, jput, jget, jlen, jald, jast, jaast, jgI, jgL, jgB, jtab, jlku, jacp, vf20, vf21, vf22, vf23, vf24, u2_s, u2_k, u2_i, uc_s, uc_k, uc_c, u2_c, LI0, LI1, LI2, LI3, LI4, LI5, LI6, LI7, LI8, LI9, LI10, LI11, LI12, LI13, LI14, LI15, LI16, LI17, LI18, LI19, LI20, LI21, LI22, LI23, LI24, LI25, LI26, LI27, LI28, LI29, LI30, LI31, LI32, LI33, LI34, LI35, LI36, LI37, LI40, LI42, LI43, LI45, LI48, LI60, LI61, LI64, LI80, LI300, LI400, LI1000, LI2000, LI2001, LI2047, LI2048, LI100000, LI1000000, LM, nI_clamp, nI_pos', nI_lt, nI_nlt, nI_le, nI_ge, nI_ne, nI_add, nI_sub, mI_lt, mI_le, mI_nlt, mI_nle, mI_ne, mI_ne', mI_nem, h7, h1, h2, hR, ef, eg, eh, show i < 8 by omega]
end CC
