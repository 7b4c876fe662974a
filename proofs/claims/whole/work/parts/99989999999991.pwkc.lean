/-! walk: worlds in a row, and out of it -/
theorem sz_46 {a : aI Nm} (hv : a.2.1.length ≤ 6) (hQ : a.2.2.1.length ≤ 8) (hT : a.2.2.2.length ≤ 4) : sz a ≤ 46 := by unfold sz; omega
section PKW
variable {A : Nat → Nat} {d b n : Nat} {h : Nat → Option jC} {X : jXX} {J : Nat → Nat → Int64} {R : Nat → Nat → Nat} {cN rN : Int32 → Nm} {w P np L : Nat} {now : Int32} {N : Nat → Nat → Int32} {O G E : Nat → Int32}
theorem okI_b {a : aI Nm} (h6 : ∀ p, p < np → (lets N p).length ≤ 6) (hok : okI N np a) : a.2.1.length ≤ 6 ∧ a.2.2.1.length ≤ 8 ∧ a.2.2.2.length ≤ 4 := by
  obtain ⟨p, hp, h1, h2, _, h3, h4⟩ := hok
  exact ⟨by rw [h2]; exact h6 p hp, h3, h4⟩
theorem c144l (hw : isW w) (hP : isP P) (hR : R w 0 = P) (hS : okS R w) {lv : Nat} (l8 : lv ≤ 8) : ∀ (as : List (aI Nm)) (k f : Nat) (I : Nat → Nat → Int32), plC cN rN N O G E np P L I → I w 3 = nI lv → I w 5 = now → k + as.length = lv → f ≤ 2 + 46 * k → (∀ j a, as[j]? = some a → iC cN I (R (w + 8) (k + j)) a ∧ okI N np a) → ∃ I', M144 A (d + 1) 28 [some (.ref (b + w)), some (.ref (b + 213)), some (.int (nI f)), some (.int (nI k))] [] (jH h b X I J R n) = some (.inl (some (.int (nI (f + szL as)))), jH h b X I' J R n) ∧ (∀ c j, c ≠ 213 → I' c j = I c j) ∧ (∀ j, j < f ∨ f + szL as ≤ j → I' 213 j = I 213 j) ∧ pkL cN (I' 213) now f as ∧ f + szL as ≤ 2 + 46 * lv := by
  have hwe := isW_e hw
  have hPe := isP_e hP
  intro as
  induction as with
  | nil =>
    intro k f I hpl h3 h5 hk hf ha
    have : k = lv := by simpa using hk
    subst this
    have hq : isI 66 := by simp [isI]
    refine ⟨I, ?_, fun _ _ _ => rfl, fun _ _ => rfl, trivial, hf⟩
    conv => lhs; rw [r144_28]
    simp (disch := omega) [r144_0, r144_1, r144_2, r144_5, r144_8, r144_9, r144_10, r144_11, r144_12, r144_13, r144_16, r144_17, r144_18, r144_19, r144_20, r144_23, r144_24, r144_25, r144_26, r144_27, r144_29, r144_30, r144_33, r144_36, r144_37, r144_39, r144_42, r144_43, r144_46, r144_47, r144_48, r144_49, r144_50, r144_51, r144_54, r144_55, r144_58, r144_59, r144_62, r144_63, r144_64, r144_67, r144_70, r144_73, r144_74, r144_77, r144_80, r144_81, gW0 hw, vf9_4, vf9_3, vf9_2, tW0_2 hw, gW8 hw, pW8 hw, vf9_5, vf9_0, tW0_0 hw, gI0 hq, vf2_1, qa79, qo79, gP0 hP, qa24, qo24, List.getElem?_cons_zero, List.getElem?_cons_succ, List.length_cons, List.length_nil, ag_nx, ag_dn, ag_no, ag_if, jbr1, jbr2, jc1, jc2, jnul, jld, jsto, jstoL, jst1, jst2, jkill, jinc, jbI, jbL, jbS, juI, jl2i, jcmp, jisR, jisI, jisL, jret, jretv, jfits, jdup, jdup2, jpop, jmm, jcat, Value.category, jinv, jrcv, jthr, jhd, jput, jget, jlen, jald, jast, jaast, jgI, jgL, jgB, jtab, jlku, jacp, vf20, vf21, vf22, vf23, vf24, u2_s, u2_k, u2_i, uc_s, uc_k, uc_c, u2_c, LI0, LI1, LI2, LI3, LI4, LI5, LI6, LI7, LI8, LI9, LI10, LI11, LI12, LI13, LI14, LI15, LI16, LI17, LI18, LI19, LI20, LI21, LI22, LI23, LI24, LI25, LI26, LI27, LI28, LI29, LI30, LI31, LI32, LI33, LI34, LI35, LI36, LI37, LI40, LI42, LI43, LI45, LI48, LI60, LI61, LI64, LI80, LI300, LI400, LI1000, LI2000, LI2001, LI2047, LI2048, LI100000, LI1000000, LM, nI_clamp, nI_pos', nI_lt, nI_nlt, nI_le, nI_ge, nI_ne, nI_add, nI_sub, mI_lt, mI_le, mI_nlt, mI_nle, mI_ne, mI_ne', mI_nem, LI46, LI370, LI370000, h3, szL]
  | cons a as ih =>
    intro k f I hpl h3 h5 hk hf ha
    have hk' : k + (as.length + 1) = lv := by simpa using hk
    have k8 : k < 8 := by omega
    obtain ⟨hA, hok⟩ := ha 0 a rfl
    rw [Nat.add_zero] at hA
    have h6 : ∀ p, p < np → (lets N p).length ≤ 6 := fun p hp => (hpl.2.2.2 p hp).2.2.2.2.1
    obtain ⟨b1, b2, b3⟩ := okI_b h6 hok
    have s46 := sz_46 b1 b2 b3
    obtain ⟨p, hp, g1, g2, _⟩ := hok
    have hq : isI (R (w + 8) k) := by
      obtain ⟨j, hj, e⟩ := hS.1 k k8
      rw [e]
      exact isI_of hw hj
    have hie := isI_e hq
    have n6 := hpl.1
    have i1 : I (R (w + 8) k) 1 = nI p := by rw [← g1, hA.1]; rfl
    have e79 := c79 (d := d) (A := A) (b := b) (h := h) (X := X) (J := J) (R := R) (n := n) (I := I) (p := p) (c := a.2.1.length) hP (by omega) (by rw [g2]; exact (hpl.2.2.2 p hp).2.2.2.2.2.1) b1
    obtain ⟨I1, e1, k1, q1, p1⟩ := c24 (d := d) (A := A) (b := b) (h := h) (X := X) (J := J) (R := R) (n := n) (now := now) (f := f) hq hA b1 b2 b3 (by omega)
    obtain ⟨I2, e2, k2, q2, p2, s2⟩ := ih (k + 1) (f + sz a) I1 (plC_fr (fun c i h1 h2 => k1 c i (by omega)) hpl) (by rw [k1 _ _ (by omega)]; exact h3) (by rw [k1 _ _ (by omega)]; exact h5) (by omega) (by omega) (fun j c hj => by
      have := ha (j + 1) c (by simpa using hj)
      rw [show k + 1 + j = k + (j + 1) by omega]
      refine ⟨iC_fr (fun c' i h1 h2 => k1 c' i ?_) this.1, this.2⟩
      have hkj : k + (j + 1) < 8 := by have := lt_of_some hj; omega
      obtain ⟨j', hj', e'⟩ := hS.1 _ hkj
      omega)
    have hs : szL (a :: as) = sz a + szL as := rfl
    refine ⟨I2, ?_, fun c j hc => (k2 c j hc).trans (k1 c j hc), fun j hj => ?_, ⟨pI_fr p1 (fun i hl => q2 _ (by omega)), p2⟩, by omega⟩
    · conv => lhs; rw [r144_28]
      rw [hs, ← Nat.add_assoc]
      simp (disch := omega) [r144_0, r144_1, r144_2, r144_5, r144_8, r144_9, r144_10, r144_11, r144_12, r144_13, r144_16, r144_17, r144_18, r144_19, r144_20, r144_23, r144_24, r144_25, r144_26, r144_27, r144_29, r144_30, r144_33, r144_36, r144_37, r144_39, r144_42, r144_43, r144_46, r144_47, r144_48, r144_49, r144_50, r144_51, r144_54, r144_55, r144_58, r144_59, r144_62, r144_63, r144_64, r144_67, r144_70, r144_73, r144_74, r144_77, r144_80, r144_81, gW0 hw, vf9_4, vf9_3, vf9_2, tW0_2 hw, gW8 hw, pW8 hw, vf9_5, vf9_0, tW0_0 hw, gI0 hq, vf2_1, qa79, qo79, gP0 hP, qa24, qo24, List.getElem?_cons_zero, List.getElem?_cons_succ, List.length_cons, List.length_nil, ag_nx, ag_dn, ag_no, ag_if, jbr1, jbr2, jc1, jc2, jnul, jld, jsto, jstoL, jst1, jst2, jkill, jinc, jbI, jbL, jbS, juI, jl2i, jcmp, jisR, jisI, jisL, jret, jretv, jfits, jdup, jdup2, jpop, jmm, jcat, Value.category, jinv, jrcv, jthr, jhd, jput, jget, jlen, jald, jast, jaast, jgI, jgL, jgB, jtab, jlku, jacp, vf20, vf21, vf22, vf23, vf24, u2_s, u2_k, u2_i, uc_s, uc_k, uc_c, u2_c, LI0, LI1, LI2, LI3, LI4, LI5, LI6, LI7, LI8, LI9, LI10, LI11, LI12, LI13, LI14, LI15, LI16, LI17, LI18, LI19, LI20, LI21, LI22, LI23, LI24, LI25, LI26, LI27, LI28, LI29, LI30, LI31, LI32, LI33, LI34, LI35, LI36, LI37, LI40, LI42, LI43, LI45, LI48, LI60, LI61, LI64, LI80, LI300, LI400, LI1000, LI2000, LI2001, LI2047, LI2048, LI100000, LI1000000, LM, nI_clamp, nI_pos', nI_lt, nI_nlt, nI_le, nI_ge, nI_ne, nI_add, nI_sub, mI_lt, mI_le, mI_nlt, mI_nle, mI_ne, mI_ne', mI_nem, LI46, LI370, LI370000, gW8 hw, h3, h5, hR, i1, e79, e1, e2, k8, show k < lv by omega]
    · rw [q2 j (by omega), q1 j (by omega)]
/-- World.pack -/
theorem c144 {W : aW Nm} {B : Nat} {I : Nat → Nat → Int32} (hw : isW w) (hP : isP P) (hR : R w 0 = P) (hpl : plC cN rN N O G E np P L I) (hW : wC cN I R w W) (hok : okW N np B W) : ∃ I', jcall A jcode (d + 2) 144 [.ref (b + w), .ref (b + 213)] (jH h b X I J R n) = some (.inl (some (.int (nI (2 + szL W.1)))), jH h b X I' J R n) ∧ (∀ c j, c ≠ 213 → I' c j = I c j) ∧ pW cN (I' 213) 0 W ∧ 2 + szL W.1 ≤ 370 := by
  have hwe := isW_e hw
  have hPe := isP_e hP
  obtain ⟨⟨hS, l8, h3, hI⟩, h4, h5, _⟩ := hW
  obtain ⟨I0, hI0⟩ : ∃ I0, I0 = u2 (u2 I 213 0 W.2.1.1) 213 1 (nI W.1.length) := ⟨_, rfl⟩
  have k0 : ∀ c j, c ≠ 213 → I0 c j = I c j := fun c j hc => by rw [hI0, u2_k hc, u2_k hc]
  obtain ⟨I1, e1, k1, q1, p1, s1⟩ := c144l (d := d) (now := W.2.1.2.1) (A := A) (b := b) (h := h) (X := X) (J := J) (R := R) (n := n) hw hP hR hS l8 W.1 0 2 I0 (plC_fr (fun c i h1 h2 => k0 c i (by omega)) hpl) (by rw [k0 _ _ (by omega)]; exact h3) (by rw [k0 _ _ (by omega)]; exact h5) (by omega) (by omega) (fun j a hj => by
    refine ⟨iC_fr (fun c' i h1 h2 => k0 c' i ?_) (by rw [Nat.zero_add]; exact hI j a hj), hok.2.1 j a hj⟩
    have hjl := lt_of_some hj
    obtain ⟨j', hj', e'⟩ := hS.1 (0 + j) (by omega)
    omega)
  refine ⟨I1, ?_, fun c j hc => (k1 c j hc).trans (k0 c j hc), ⟨?_, ?_, p1⟩, by omega⟩
  · rw [hI0] at e1
    have hq : isI 66 := by simp [isI]
    simp (disch := omega) [je144, r144_0, r144_1, r144_2, r144_5, r144_8, r144_9, r144_10, r144_11, r144_12, r144_13, r144_16, r144_17, r144_18, r144_19, r144_20, r144_23, r144_24, r144_25, r144_26, r144_27, r144_29, r144_30, r144_33, r144_36, r144_37, r144_39, r144_42, r144_43, r144_46, r144_47, r144_48, r144_49, r144_50, r144_51, r144_54, r144_55, r144_58, r144_59, r144_62, r144_63, r144_64, r144_67, r144_70, r144_73, r144_74, r144_77, r144_80, r144_81, gW0 hw, vf9_4, vf9_3, vf9_2, tW0_2 hw, gW8 hw, pW8 hw, vf9_5, vf9_0, tW0_0 hw, gI0 hq, vf2_1, qa79, qo79, gP0 hP, qa24, qo24, List.getElem?_cons_zero, List.getElem?_cons_succ, List.length_cons, List.length_nil, ag_nx, ag_dn, ag_no, ag_if, jbr1, jbr2, jc1, jc2, jnul, jld, jsto, jstoL, jst1, jst2, jkill, jinc, jbI, jbL, jbS, juI, jl2i, jcmp, jisR, jisI, jisL, jret, jretv, jfits, jdup, jdup2, jpop, jmm, jcat, Value.category, jinv, jrcv, jthr, jhd, jput, jget, jlen, jald, jast, jaast, jgI, jgL, jgB, jtab, jlku, jacp, vf20, vf21, vf22, vf23, vf24, u2_s, u2_k, u2_i, uc_s, uc_k, uc_c, u2_c, LI0, LI1, LI2, LI3, LI4, LI5, LI6, LI7, LI8, LI9, LI10, LI11, LI12, LI13, LI14, LI15, LI16, LI17, LI18, LI19, LI20, LI21, LI22, LI23, LI24, LI25, LI26, LI27, LI28, LI29, LI30, LI31, LI32, LI33, LI34, LI35, LI36, LI37, LI40, LI42, LI43, LI45, LI48, LI60, LI61, LI64, LI80, LI300, LI400, LI1000, LI2000, LI2001, LI2047, LI2048, LI100000, LI1000000, LM, nI_clamp, nI_pos', nI_lt, nI_nlt, nI_le, nI_ge, nI_ne, nI_add, nI_sub, mI_lt, mI_le, mI_nlt, mI_nle, mI_ne, mI_ne', mI_nem, LI46, LI370, LI370000, g213, p213, h3, h4, e1]
  · rw [q1 _ (by omega), hI0, u2_i (by omega), u2_s]
  · rw [q1 _ (by omega), hI0, u2_s]
end PKW
