/-! the class reads the head of a process -/
section OS
variable (K : Nat → Nat) (V : Nat → Int32) (m P : Nat) (I : Nat → Nat → Int32)
/-- F has been read, with the code C, up to token j -/
def oS (F : List qPr) (C : List oT) (j : Nat) : Prop := tkc K V m I ∧ I 3 6 = nI (m + 1) ∧ seg V P I 0 C ∧ I (P + 4) 4 = nI C.length ∧ I 56 3 = nI j ∧ C.length ≤ j ∧ j ≤ m ∧ oB P I ∧ I P 3 = nI (min F.length 6) ∧ I 56 5 = exI (exF K (eqV V) F) ∧ (∀ x, exF K (eqV V) F = some x → x < j) ∧ (exF K (eqV V) F = none → I 56 6 = exI (unF (eqV V) F) ∧ (∀ x, unF (eqV V) F = some x → x < j) ∧ mS K V P I F)
end OS
section CHD
variable {A : Nat → Nat} {d b n P m p : Nat} {h : Nat → Option jC} {X : jXX} {J : Nat → Nat → Int64} {R : Nat → Nat → Nat} {K : Nat → Nat} {V : Nat → Int32} {U : Nat → Int32}
theorem c43l (hk : kOK K m) (hP : isP P) (hR1 : R 56 1 = P) {I0 : Nat → Nat → Int32} {Q : List qPr} {a : Nat} {sb : Nat × List oT} (h7 : I0 56 7 = nI p) (hp : p < 6) (ht : tkc K V m I0) : ∀ (r c : Nat) (I1 : Nat → Nat → Int32) (vs : List Nat) (j : Nat), c + r = 2001 → c ≤ j → fL P p I0 I1 → I1 56 3 = nI j → j ≤ m → I1 56 5 = exI (exF K (eqV V) (Q ++ [(a, vs, sb, [])])) → (∀ x, exF K (eqV V) (Q ++ [(a, vs, sb, [])]) = some x → x < j) → (∃ k, k ≤ 6 ∧ I1 (P + 12) p = nI k) → (exF K (eqV V) (Q ++ [(a, vs, sb, [])]) = none → mL V P p I1 vs) →
    (∃ I' j', pLs K r vs j = (none, j') ∧ oF P I0 I' j' ∧ M43 A (d + 2) 65 [some (.ref (b + 56)), some (.int (nI c))] [] (jH h b X I1 J R n) = some (.inl (some (.int (nI 0))), jH h b X I' J R n)) ∨
    ∃ I' vs' j' c', pLs K r vs j = (some vs', j') ∧ fL P p I0 I' ∧ I' 56 3 = nI j' ∧ j ≤ j' ∧ j' ≤ m ∧ I' 56 5 = exI (exF K (eqV V) (Q ++ [(a, vs', sb, [])])) ∧ (∀ x, exF K (eqV V) (Q ++ [(a, vs', sb, [])]) = some x → x < j') ∧ (∃ k, k ≤ 6 ∧ I' (P + 12) p = nI k) ∧ (exF K (eqV V) (Q ++ [(a, vs', sb, [])]) = none → mL V P p I' vs') ∧ M43 A (d + 2) 65 [some (.ref (b + 56)), some (.int (nI c))] [] (jH h b X I1 J R n) = M43 A (d + 2) 95 [some (.ref (b + 56)), some (.int (nI c'))] [] (jH h b X I' J R n) := by
  have hpp := isP_e hP
  have hk1 := hk.1
  intro r
  induction r with
  | zero => intro c I1 vs j hc hcj; intros; exact absurd hc (by omega)
  | succ r ih =>
    intro c I1 vs j hc hcj hf ha hj h5 hex hkk hml
    have t1 : tkc K V m I1 := tkc_O hP (fL_O hf) ht
    have e38 := c38 (d := d + 1) (A := A) (b := b) (h := h) (X := X) (J := J) (R := R) (n := n) (I := I1) hk t1 ha hj
    have hKj := hk.2.2 j
    unfold pLs
    by_cases hK : K j = 2
    · rw [if_pos hK]
      rw [hK] at e38
      obtain ⟨k, hk6, hv⟩ := hkk
      have q7 : I1 56 7 = nI p := by rw [hf 56 7 (by omega) (by omega) (by omega)]; exact h7
      obtain ⟨I2, v, e46, hr⟩ := c46 (d := d) (A := A) (b := b) (h := h) (X := X) (J := J) (R := R) (n := n) (I := I1) hk hP hR1 t1 ha hj q7 hp hv hk6 h5 hex hK
      rcases hr with ⟨rfl, k1, k2, k3, k4, a2, x2, f2, n2, r2, s2, o2⟩ | ⟨j', rfl, hF, hw⟩
      · have hj4 := hk.2.1 (j + 4) (by
          have := hk.2.1 j hj (by rw [hK]; decide)
          have := hk.2.1 (j + 1) (by omega) (by rw [k1]; decide)
          have := hk.2.1 (j + 2) (by omega) (by rw [k2]; decide)
          have := hk.2.1 (j + 3) (by omega) (by rw [k3]; decide)
          omega) (by rw [k4]; decide)
        rw [if_pos k1, if_pos k2, if_pos k3, if_pos k4]
        have hex2 : exF K (eqV V) (Q ++ [(a, vs ++ [j + 1], sb, [])]) = (exF K (eqV V) (Q ++ [(a, vs, sb, [])])).or (if 6 ≤ k ∨ (List.range k).any (fun i => decide (I1 (P + 13) (p * 6 + i) = V (j + 1))) = true then some (j + 1) else none) := by
          rw [exF_let (sb := sb)]
          cases hx : exF K (eqV V) (Q ++ [(a, vs, sb, [])]) with
          | some y => rfl
          | none =>
            have hm := hml hx
            have hkl : k = vs.length := by
              have := hm.1.symm.trans hv
              rw [nI_eq (by have := hm.2.1; omega) (by omega)] at this
              exact this.symm
            subst hkl
            simp only [Option.none_or]
            unfold ckN
            rw [mL_any hm]
        have e43 : M43 A (d + 2) 65 [some (.ref (b + 56)), some (.int (nI c))] [] (jH h b X I1 J R n) = M43 A (d + 2) 65 [some (.ref (b + 56)), some (.int (nI (c + 1)))] [] (jH h b X I2 J R n) := by
          rw [r43_65]
          simp (disch := omega) [r43_0, r43_1, r43_2, r43_5, r43_8, r43_9, r43_11, r43_14, r43_17, r43_18, r43_19, r43_20, r43_21, r43_24, r43_27, r43_28, r43_30, r43_33, r43_36, r43_37, r43_40, r43_43, r43_44, r43_46, r43_49, r43_52, r43_53, r43_55, r43_58, r43_61, r43_62, r43_63, r43_64, r43_66, r43_69, r43_72, r43_73, r43_76, r43_77, r43_80, r43_81, r43_84, r43_87, r43_88, r43_89, r43_92, r43_96, r43_97, r43_100, r43_103, r43_104, r43_105, r43_106, r43_109, r43_112, r43_113, r43_116, r43_117, r43_120, r43_123, r43_124, r43_125, r43_126, r43_129, qa39, qo39, g56, qa40, qo40, qa44, qo44, qa45, qo45, qa38, qo38, qa46, qo46, vf4_1, t56_1, gP0 hP, vf5_6, tP0_6 hP, gP11 hP, pP11 hP, vf4_7, vf4_2, t56_2, gP4 hP, vf1_4, qa53, qo53, List.getElem?_cons_zero, List.getElem?_cons_succ, List.length_cons, List.length_nil, ag_nx, ag_dn, ag_no, ag_if, jbr1, jbr2, jc1, jc2, jnul, jld, jsto, jstoL, jst1, jst2, jkill, jinc, jbI, jbL, jbS, juI, jl2i, jcmp, jisR, jisI, jisL, jret, jretv, jfits, jdup, jdup2, jpop, jmm, jcat, Value.category, jinv, jrcv, jthr, jhd, jput, jget, jlen, jald, jast, jaast, jgI, jgL, jgB, jtab, jlku, jacp, vf20, vf21, vf22, vf23, vf24, u2_s, u2_k, u2_i, uc_s, uc_k, uc_c, u2_c, LI0, LI1, LI2, LI3, LI4, LI5, LI6, LI7, LI8, LI9, LI10, LI11, LI12, LI13, LI14, LI15, LI16, LI17, LI18, LI19, LI20, LI21, LI22, LI23, LI24, LI25, LI26, LI27, LI28, LI29, LI30, LI31, LI32, LI33, LI34, LI35, LI36, LI37, LI40, LI42, LI43, LI45, LI48, LI60, LI61, LI64, LI80, LI300, LI400, LI1000, LI2000, LI2001, LI2047, LI2048, LI100000, LI1000000, LI38, LI39, LI41, LI44, LI46, LI47, LI49, LI50, LI51, LI52, LI53, LI54, LI55, LI56, LI57, LI58, LI59, LI62, LI63, LI65, LI66, LI67, LI68, LI69, LI70, LI71, LI72, LI73, LI74, LI75, LI76, LI77, LI78, LI79, LI81, LI82, LI83, LI84, LI85, LI86, LI87, LI88, LI89, LI90, LI91, LI92, LI93, LI94, LI95, LI96, LI97, LI98, LI99, LI100, LI101, LI102, LI103, LI104, LI105, LI106, LI107, LI108, LI109, LI110, LI111, LI112, LI113, LI114, LI115, LI116, LI117, LI118, LI119, LI120, LI121, LI122, LI123, LI124, LI125, LI126, LI127, LI255, LI256, LI999, LI1001, LI1002, LI1600, LI4096, LI1000001, LI2042, LM, nI_clamp, nI_pos', nI_lt, nI_nlt, nI_le, nI_ge, nI_ne, nI_add, nI_sub, mI_lt, mI_le, mI_nlt, mI_nle, mI_ne, mI_ne', mI_nem, e38, e46, show c < 2001 by omega]
        rw [e43]
        have := ih (c + 1) I2 (vs ++ [j + 1]) (j + 5) (by omega) (by omega) (fL_trans hf f2) a2 (by omega) (by rw [x2, hex2]) (by
          intro x hx
          rw [hex2] at hx
          cases hy : exF K (eqV V) (Q ++ [(a, vs, sb, [])]) with
          | some y =>
            rw [hy] at hx
            simp at hx
            have := hex y hy
            omega
          | none =>
            rw [hy] at hx
            simp only [Option.none_or] at hx
            split at hx
            · cases hx; omega
            · cases hx) ⟨min k 5 + 1, by omega, n2⟩ (by
          intro hx
          rw [hex2] at hx
          have hy : exF K (eqV V) (Q ++ [(a, vs, sb, [])]) = none := by
            cases hy : exF K (eqV V) (Q ++ [(a, vs, sb, [])]) with
            | none => rfl
            | some y => rw [hy] at hx; simp at hx
          rw [hy] at hx
          simp only [Option.none_or] at hx
          have hm := hml hy
          have hkl : k = vs.length := by
            have := hm.1.symm.trans hv
            rw [nI_eq (by have := hm.2.1; omega) (by omega)] at this
            exact this.symm
          have hk5 : ¬ 6 ≤ k := by
            intro z
            rw [if_pos (Or.inl z)] at hx
            cases hx
          rw [show min k 5 = k by omega] at n2 r2 s2 o2
          refine ⟨by rw [n2, hkl]; simp, by simp; omega, fun i v hv => ?_⟩
          rcases Nat.lt_or_ge i vs.length with hi | hi
          · rw [List.getElem?_append_left hi] at hv
            have := o2 i (by omega)
            rw [this.1, this.2]
            exact hm.2.2 i v hv
          · rw [List.getElem?_append_right hi] at hv
            have hi0 : i - vs.length = 0 := by
              have := lt_some hv
              simp at this
              omega
            rw [hi0] at hv
            simp at hv
            have : i = k := by omega
            rw [this, ← hv]
            exact ⟨r2, s2⟩)
        rcases this with ⟨I', j', b1, b2, b3⟩ | ⟨I', vs', j', c', b1, b2, b3, b4, b5⟩
        · exact Or.inl ⟨I', j', b1, b2, b3⟩
        · exact Or.inr ⟨I', vs', j', c', b1, b2, b3, by omega, b5⟩
      · refine Or.inl ⟨I2, j', ?_, ⟨hF.1, fO_trans (fL_O hf) hF.2⟩, ?_⟩
        · rcases hw with ⟨k1, rfl⟩ | ⟨k1, k2, rfl⟩ | ⟨k1, k2, k3, rfl⟩ | ⟨k1, k2, k3, k4, rfl⟩
          · rw [if_neg k1]
          · rw [if_pos k1, if_neg k2]
          · rw [if_pos k1, if_pos k2, if_neg k3]
          · rw [if_pos k1, if_pos k2, if_pos k3, if_neg k4]
        · rw [r43_65]
          simp (disch := omega) [r43_0, r43_1, r43_2, r43_5, r43_8, r43_9, r43_11, r43_14, r43_17, r43_18, r43_19, r43_20, r43_21, r43_24, r43_27, r43_28, r43_30, r43_33, r43_36, r43_37, r43_40, r43_43, r43_44, r43_46, r43_49, r43_52, r43_53, r43_55, r43_58, r43_61, r43_62, r43_63, r43_64, r43_66, r43_69, r43_72, r43_73, r43_76, r43_77, r43_80, r43_81, r43_84, r43_87, r43_88, r43_89, r43_92, r43_96, r43_97, r43_100, r43_103, r43_104, r43_105, r43_106, r43_109, r43_112, r43_113, r43_116, r43_117, r43_120, r43_123, r43_124, r43_125, r43_126, r43_129, qa39, qo39, g56, qa40, qo40, qa44, qo44, qa45, qo45, qa38, qo38, qa46, qo46, vf4_1, t56_1, gP0 hP, vf5_6, tP0_6 hP, gP11 hP, pP11 hP, vf4_7, vf4_2, t56_2, gP4 hP, vf1_4, qa53, qo53, List.getElem?_cons_zero, List.getElem?_cons_succ, List.length_cons, List.length_nil, ag_nx, ag_dn, ag_no, ag_if, jbr1, jbr2, jc1, jc2, jnul, jld, jsto, jstoL, jst1, jst2, jkill, jinc, jbI, jbL, jbS, juI, jl2i, jcmp, jisR, jisI, jisL, jret, jretv, jfits, jdup, jdup2, jpop, jmm, jcat, Value.category, jinv, jrcv, jthr, jhd, jput, jget, jlen, jald, jast, jaast, jgI, jgL, jgB, jtab, jlku, jacp, vf20, vf21, vf22, vf23, vf24, u2_s, u2_k, u2_i, uc_s, uc_k, uc_c, u2_c, LI0, LI1, LI2, LI3, LI4, LI5, LI6, LI7, LI8, LI9, LI10, LI11, LI12, LI13, LI14, LI15, LI16, LI17, LI18, LI19, LI20, LI21, LI22, LI23, LI24, LI25, LI26, LI27, LI28, LI29, LI30, LI31, LI32, LI33, LI34, LI35, LI36, LI37, LI40, LI42, LI43, LI45, LI48, LI60, LI61, LI64, LI80, LI300, LI400, LI1000, LI2000, LI2001, LI2047, LI2048, LI100000, LI1000000, LI38, LI39, LI41, LI44, LI46, LI47, LI49, LI50, LI51, LI52, LI53, LI54, LI55, LI56, LI57, LI58, LI59, LI62, LI63, LI65, LI66, LI67, LI68, LI69, LI70, LI71, LI72, LI73, LI74, LI75, LI76, LI77, LI78, LI79, LI81, LI82, LI83, LI84, LI85, LI86, LI87, LI88, LI89, LI90, LI91, LI92, LI93, LI94, LI95, LI96, LI97, LI98, LI99, LI100, LI101, LI102, LI103, LI104, LI105, LI106, LI107, LI108, LI109, LI110, LI111, LI112, LI113, LI114, LI115, LI116, LI117, LI118, LI119, LI120, LI121, LI122, LI123, LI124, LI125, LI126, LI127, LI255, LI256, LI999, LI1001, LI1002, LI1600, LI4096, LI1000001, LI2042, LM, nI_clamp, nI_pos', nI_lt, nI_nlt, nI_le, nI_ge, nI_ne, nI_add, nI_sub, mI_lt, mI_le, mI_nlt, mI_nle, mI_ne, mI_ne', mI_nem, e38, e46, show c < 2001 by omega]
    · rw [if_neg hK]
      have hne : ¬ nI (K j) = nI 2 := nI_ne hK (by omega) (by omega)
      refine Or.inr ⟨I1, vs, j, c, rfl, hf, ha, Nat.le_refl _, hj, h5, hex, hkk, hml, ?_⟩
      rw [r43_65]
      simp (disch := omega) [r43_0, r43_1, r43_2, r43_5, r43_8, r43_9, r43_11, r43_14, r43_17, r43_18, r43_19, r43_20, r43_21, r43_24, r43_27, r43_28, r43_30, r43_33, r43_36, r43_37, r43_40, r43_43, r43_44, r43_46, r43_49, r43_52, r43_53, r43_55, r43_58, r43_61, r43_62, r43_63, r43_64, r43_66, r43_69, r43_72, r43_73, r43_76, r43_77, r43_80, r43_81, r43_84, r43_87, r43_88, r43_89, r43_92, r43_96, r43_97, r43_100, r43_103, r43_104, r43_105, r43_106, r43_109, r43_112, r43_113, r43_116, r43_117, r43_120, r43_123, r43_124, r43_125, r43_126, r43_129, qa39, qo39, g56, qa40, qo40, qa44, qo44, qa45, qo45, qa38, qo38, qa46, qo46, vf4_1, t56_1, gP0 hP, vf5_6, tP0_6 hP, gP11 hP, pP11 hP, vf4_7, vf4_2, t56_2, gP4 hP, vf1_4, qa53, qo53, List.getElem?_cons_zero, List.getElem?_cons_succ, List.length_cons, List.length_nil, ag_nx, ag_dn, ag_no, ag_if, jbr1, jbr2, jc1, jc2, jnul, jld, jsto, jstoL, jst1, jst2, jkill, jinc, jbI, jbL, jbS, juI, jl2i, jcmp, jisR, jisI, jisL, jret, jretv, jfits, jdup, jdup2, jpop, jmm, jcat, Value.category, jinv, jrcv, jthr, jhd, jput, jget, jlen, jald, jast, jaast, jgI, jgL, jgB, jtab, jlku, jacp, vf20, vf21, vf22, vf23, vf24, u2_s, u2_k, u2_i, uc_s, uc_k, uc_c, u2_c, LI0, LI1, LI2, LI3, LI4, LI5, LI6, LI7, LI8, LI9, LI10, LI11, LI12, LI13, LI14, LI15, LI16, LI17, LI18, LI19, LI20, LI21, LI22, LI23, LI24, LI25, LI26, LI27, LI28, LI29, LI30, LI31, LI32, LI33, LI34, LI35, LI36, LI37, LI40, LI42, LI43, LI45, LI48, LI60, LI61, LI64, LI80, LI300, LI400, LI1000, LI2000, LI2001, LI2047, LI2048, LI100000, LI1000000, LI38, LI39, LI41, LI44, LI46, LI47, LI49, LI50, LI51, LI52, LI53, LI54, LI55, LI56, LI57, LI58, LI59, LI62, LI63, LI65, LI66, LI67, LI68, LI69, LI70, LI71, LI72, LI73, LI74, LI75, LI76, LI77, LI78, LI79, LI81, LI82, LI83, LI84, LI85, LI86, LI87, LI88, LI89, LI90, LI91, LI92, LI93, LI94, LI95, LI96, LI97, LI98, LI99, LI100, LI101, LI102, LI103, LI104, LI105, LI106, LI107, LI108, LI109, LI110, LI111, LI112, LI113, LI114, LI115, LI116, LI117, LI118, LI119, LI120, LI121, LI122, LI123, LI124, LI125, LI126, LI127, LI255, LI256, LI999, LI1001, LI1002, LI1600, LI4096, LI1000001, LI2042, LM, nI_clamp, nI_pos', nI_lt, nI_nlt, nI_le, nI_ge, nI_ne, nI_add, nI_sub, mI_lt, mI_le, mI_nlt, mI_nle, mI_ne, mI_ne', mI_nem, e38, hne, show c < 2001 by omega]
end CHD
