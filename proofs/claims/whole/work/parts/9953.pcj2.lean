/-! the class reads the head of a state -/
section CST
variable {A : Nat → Nat} {d b n P m p : Nat} {h : Nat → Option jC} {X : jXX} {J : Nat → Nat → Int64} {R : Nat → Nat → Nat} {K : Nat → Nat} {V : Nat → Int32}
theorem c47 (hk : kOK K m) (hP : isP P) (hR1 : R 56 1 = P) {I : Nat → Nat → Int32} {j k : Nat} {e : Option Nat} (ht : tkc K V m I) (ha : I 56 3 = nI j) (hj : j ≤ m) (h7 : I 56 7 = nI p) (hp : p < 6) (hv : I (P + 15) p = nI k) (hk6 : k ≤ 8) (h5 : I 56 5 = exI e) (he : ∀ x, e = some x → x < j) :
    ∃ I' v, jcall A jcode (d + 2) 47 [.ref (b + 56)] (jH h b X I J R n) = some (.inl (some (.int v)), jH h b X I' J R n) ∧
    ((v = nI 1 ∧ K j = 4 ∧ K (j + 1) = 26 ∧ K (j + 2) = 123 ∧ I' 56 3 = nI (j + 3) ∧ I' 56 5 = exI (e.or (if 8 ≤ k ∨ (List.range k).any (fun i => decide (I (P + 16) (p * 8 + i) = V (j + 1))) = true then some (j + 1) else none)) ∧ I' 56 8 = nI (min k 7) ∧ I' (P + 15) p = nI (min k 7 + 1) ∧ I' (P + 16) (p * 8 + min k 7) = V (j + 1) ∧ ∀ c i, ¬ (c = 56 ∧ (i = 3 ∨ i = 5 ∨ i = 8)) → ¬ (c = P + 15 ∧ i = p) → ¬ (c = P + 16 ∧ i = p * 8 + min k 7) → I' c i = I c i) ∨
     ∃ j', v = nI 0 ∧ oF P I I' j' ∧ ((K j ≠ 4 ∧ j' = j) ∨ (K j = 4 ∧ K (j + 1) ≠ 26 ∧ j' = j + 1) ∨ (K j = 4 ∧ K (j + 1) = 26 ∧ K (j + 2) ≠ 123 ∧ j' = j + 2))) := by
  have hpp := isP_e hP
  have hk1 := hk.1
  by_cases hK : K j = 4
  · have hj1 := hk.2.1 j hj (by rw [hK]; decide)
    have e1 := c39y (d := d) (A := A) (b := b) (h := h) (X := X) (J := J) (R := R) (n := n) (I := I) hk ht ha hj hK
    have t1 : tkc K V m (u2 I 56 3 (nI (j + 1))) := tkc_u (by omega) ht
    by_cases hK1 : K (j + 1) = 26
    · have hj2 := hk.2.1 (j + 1) (by omega) (by rw [hK1]; decide)
      have e2 := c39y (d := d) (A := A) (b := b) (h := h) (X := X) (J := J) (R := R) (n := n) (I := u2 I 56 3 (nI (j + 1))) hk t1 u2_s (by omega) hK1
      have t2 : tkc K V m (u2 (u2 I 56 3 (nI (j + 1))) 56 3 (nI (j + 1 + 1))) := tkc_u (by omega) t1
      have e40 := c40 (d := d) (A := A) (b := b) (h := h) (X := X) (J := J) (R := R) (n := n) (I := u2 (u2 I 56 3 (nI (j + 1))) 56 3 (nI (j + 1 + 1))) (j := j + 1) hk t2 u2_s (by omega)
      have q12 : u2 (u2 I 56 3 (nI (j + 1))) 56 3 (nI (j + 1 + 1)) (P + 15) p = nI k := by rw [u2_k (by omega), u2_k (by omega)]; exact hv
      have e75 := c75 (d := d) (A := A) (b := b) (h := h) (X := X) (J := J) (R := R) (n := n) (I := u2 (u2 I 56 3 (nI (j + 1))) 56 3 (nI (j + 1 + 1))) (x := V (j + 1)) hP hp q12 hk6
      have q13 : (fun i => decide (u2 (u2 I 56 3 (nI (j + 1))) 56 3 (nI (j + 1 + 1)) (P + 16) (p * 8 + i) = V (j + 1))) = fun i => decide (I (P + 16) (p * 8 + i) = V (j + 1)) := by funext i; rw [u2_k (by omega), u2_k (by omega)]
      rw [q13] at e75
      obtain ⟨o, ho⟩ : ∃ o, o = fdP (fun i => decide (I (P + 16) (p * 8 + i) = V (j + 1))) k 0 := ⟨_, rfl⟩
      have hob := fun x (hx : o = some x) => fdP_b k 0 x (ho ▸ hx)
      have hany := fdP_any (q := fun i => decide (I (P + 16) (p * 8 + i) = V (j + 1))) k 0
      rw [← ho] at e75 hany
      simp only [Nat.zero_add] at hany
      have hlt := inO_lt (o := o) (fun x hx => by have := hob x hx; omega)
      obtain ⟨e', he'⟩ : ∃ e', e' = e.or (if 8 ≤ k ∨ (List.range k).any (fun i => decide (I (P + 16) (p * 8 + i) = V (j + 1))) = true then some (j + 1) else none) := ⟨_, rfl⟩
      have q5 : u2 (u2 I 56 3 (nI (j + 1))) 56 3 (nI (j + 1 + 1)) 56 5 = exI e := by rw [u2_i (by omega), u2_i (by omega)]; exact h5
      have e41 := c41 (d := d) (A := A) (b := b) (h := h) (X := X) (J := J) (R := R) (n := n) (I := u2 (u2 I 56 3 (nI (j + 1))) 56 3 (nI (j + 1 + 1))) (t := j + 1) q5 (fun x hx => by have := he x hx; omega)
      obtain ⟨I3, hI3⟩ : ∃ I3, I3 = u2 (u2 (u2 I 56 3 (nI (j + 1))) 56 3 (nI (j + 1 + 1))) 56 5 (exI e') := ⟨_, rfl⟩
      have eA : jcall A jcode (d + 2) 47 [.ref (b + 56)] (jH h b X I J R n) = M47 A (d + 1) 68 [some (.ref (b + 56)), some (.int (V (j + 1))), some (.int (nI k))] [] (jH h b X I3 J R n) := by
        rw [hI3]
        by_cases hc : 8 ≤ k ∨ (List.range k).any (fun i => decide (I (P + 16) (p * 8 + i) = V (j + 1))) = true
        · rw [if_pos hc] at he'
          rw [he']
          by_cases hn : o = none
          · have h6 : 8 ≤ k := by
              rcases hc with hc | hc
              · exact hc
              · rw [hn, hc] at hany; cases hany
            have := hlt.mpr hn
            simp (disch := omega) [je47, r47_0, r47_1, r47_2, r47_5, r47_8, r47_9, r47_11, r47_14, r47_17, r47_18, r47_19, r47_20, r47_23, r47_24, r47_25, r47_28, r47_31, r47_32, r47_35, r47_36, r47_37, r47_38, r47_41, r47_42, r47_45, r47_46, r47_49, r47_52, r47_53, r47_55, r47_58, r47_59, r47_60, r47_63, r47_64, r47_65, r47_69, r47_70, r47_72, r47_75, r47_78, r47_79, r47_82, r47_85, r47_86, r47_89, r47_91, r47_92, r47_93, r47_96, r47_97, r47_98, r47_99, r47_100, r47_103, r47_106, r47_107, r47_110, r47_111, r47_114, r47_115, r47_116, r47_117, r47_118, r47_120, r47_123, qa39, qo39, g56, qa40, qo40, vf4_1, t56_1, gP0 hP, vf5_10, tP0_10 hP, gP15 hP, pP15 hP, vf4_7, qa75, qo75, vf4_3, qa41, qo41, p56_8, ty4_8, vf5_11, tP0_11 hP, gP16 hP, pP16 hP, vf4_8, List.getElem?_cons_zero, List.getElem?_cons_succ, List.length_cons, List.length_nil, ag_nx, ag_dn, ag_no, ag_if, jbr1, jbr2, jc1, jc2, jnul, jld, jsto, jstoL, jst1, jst2, jkill, jinc, jbI, jbL, jbS, juI, jl2i, jcmp, jisR, jisI, jisL, jret, jretv, jfits, jdup, jdup2, jpop, jmm, jcat, Value.category, jinv, jrcv, jthr, jhd, jput, jget, jlen, jald, jast, jaast, jgI, jgL, jgB, jtab, jlku, jacp, vf20, vf21, vf22, vf23, vf24, u2_s, u2_k, u2_i, uc_s, uc_k, uc_c, u2_c, LI0, LI1, LI2, LI3, LI4, LI5, LI6, LI7, LI8, LI9, LI10, LI11, LI12, LI13, LI14, LI15, LI16, LI17, LI18, LI19, LI20, LI21, LI22, LI23, LI24, LI25, LI26, LI27, LI28, LI29, LI30, LI31, LI32, LI33, LI34, LI35, LI36, LI37, LI40, LI42, LI43, LI45, LI48, LI60, LI61, LI64, LI80, LI300, LI400, LI1000, LI2000, LI2001, LI2047, LI2048, LI100000, LI1000000, LI38, LI39, LI41, LI44, LI46, LI47, LI49, LI50, LI51, LI52, LI53, LI54, LI55, LI56, LI57, LI58, LI59, LI62, LI63, LI65, LI66, LI67, LI68, LI69, LI70, LI71, LI72, LI73, LI74, LI75, LI76, LI77, LI78, LI79, LI81, LI82, LI83, LI84, LI85, LI86, LI87, LI88, LI89, LI90, LI91, LI92, LI93, LI94, LI95, LI96, LI97, LI98, LI99, LI100, LI101, LI102, LI103, LI104, LI105, LI106, LI107, LI108, LI109, LI110, LI111, LI112, LI113, LI114, LI115, LI116, LI117, LI118, LI119, LI120, LI121, LI122, LI123, LI124, LI125, LI126, LI127, LI255, LI256, LI999, LI1001, LI1002, LI1600, LI4096, LI1000001, LI2042, LM, nI_clamp, nI_pos', nI_lt, nI_nlt, nI_le, nI_ge, nI_ne, nI_add, nI_sub, mI_lt, mI_le, mI_nlt, mI_nle, mI_ne, mI_ne', mI_nem, e1, e2, e40, hR1, h7, hv, hp, e75, this, Int32.not_le.mpr this, e41]
          · have h1 : ¬ inO o < nI 0 := fun z => hn (hlt.mp z)
            simp (disch := omega) [je47, r47_0, r47_1, r47_2, r47_5, r47_8, r47_9, r47_11, r47_14, r47_17, r47_18, r47_19, r47_20, r47_23, r47_24, r47_25, r47_28, r47_31, r47_32, r47_35, r47_36, r47_37, r47_38, r47_41, r47_42, r47_45, r47_46, r47_49, r47_52, r47_53, r47_55, r47_58, r47_59, r47_60, r47_63, r47_64, r47_65, r47_69, r47_70, r47_72, r47_75, r47_78, r47_79, r47_82, r47_85, r47_86, r47_89, r47_91, r47_92, r47_93, r47_96, r47_97, r47_98, r47_99, r47_100, r47_103, r47_106, r47_107, r47_110, r47_111, r47_114, r47_115, r47_116, r47_117, r47_118, r47_120, r47_123, qa39, qo39, g56, qa40, qo40, vf4_1, t56_1, gP0 hP, vf5_10, tP0_10 hP, gP15 hP, pP15 hP, vf4_7, qa75, qo75, vf4_3, qa41, qo41, p56_8, ty4_8, vf5_11, tP0_11 hP, gP16 hP, pP16 hP, vf4_8, List.getElem?_cons_zero, List.getElem?_cons_succ, List.length_cons, List.length_nil, ag_nx, ag_dn, ag_no, ag_if, jbr1, jbr2, jc1, jc2, jnul, jld, jsto, jstoL, jst1, jst2, jkill, jinc, jbI, jbL, jbS, juI, jl2i, jcmp, jisR, jisI, jisL, jret, jretv, jfits, jdup, jdup2, jpop, jmm, jcat, Value.category, jinv, jrcv, jthr, jhd, jput, jget, jlen, jald, jast, jaast, jgI, jgL, jgB, jtab, jlku, jacp, vf20, vf21, vf22, vf23, vf24, u2_s, u2_k, u2_i, uc_s, uc_k, uc_c, u2_c, LI0, LI1, LI2, LI3, LI4, LI5, LI6, LI7, LI8, LI9, LI10, LI11, LI12, LI13, LI14, LI15, LI16, LI17, LI18, LI19, LI20, LI21, LI22, LI23, LI24, LI25, LI26, LI27, LI28, LI29, LI30, LI31, LI32, LI33, LI34, LI35, LI36, LI37, LI40, LI42, LI43, LI45, LI48, LI60, LI61, LI64, LI80, LI300, LI400, LI1000, LI2000, LI2001, LI2047, LI2048, LI100000, LI1000000, LI38, LI39, LI41, LI44, LI46, LI47, LI49, LI50, LI51, LI52, LI53, LI54, LI55, LI56, LI57, LI58, LI59, LI62, LI63, LI65, LI66, LI67, LI68, LI69, LI70, LI71, LI72, LI73, LI74, LI75, LI76, LI77, LI78, LI79, LI81, LI82, LI83, LI84, LI85, LI86, LI87, LI88, LI89, LI90, LI91, LI92, LI93, LI94, LI95, LI96, LI97, LI98, LI99, LI100, LI101, LI102, LI103, LI104, LI105, LI106, LI107, LI108, LI109, LI110, LI111, LI112, LI113, LI114, LI115, LI116, LI117, LI118, LI119, LI120, LI121, LI122, LI123, LI124, LI125, LI126, LI127, LI255, LI256, LI999, LI1001, LI1002, LI1600, LI4096, LI1000001, LI2042, LM, nI_clamp, nI_pos', nI_lt, nI_nlt, nI_le, nI_ge, nI_ne, nI_add, nI_sub, mI_lt, mI_le, mI_nlt, mI_nle, mI_ne, mI_ne', mI_nem, e1, e2, e40, hR1, h7, hv, hp, e75, h1, Int32.not_lt.mp h1, e41]
        · rw [if_neg hc] at he'
          have hn : o = none := by
            cases o with
            | none => rfl
            | some x => rw [← hany] at hc; simp at hc
          have h6 : ¬ 8 ≤ k := fun z => hc (Or.inl z)
          have := hlt.mpr hn
          rw [he']
          simp only [Option.or_none]
          rw [u2_same q5]
          simp (disch := omega) [je47, r47_0, r47_1, r47_2, r47_5, r47_8, r47_9, r47_11, r47_14, r47_17, r47_18, r47_19, r47_20, r47_23, r47_24, r47_25, r47_28, r47_31, r47_32, r47_35, r47_36, r47_37, r47_38, r47_41, r47_42, r47_45, r47_46, r47_49, r47_52, r47_53, r47_55, r47_58, r47_59, r47_60, r47_63, r47_64, r47_65, r47_69, r47_70, r47_72, r47_75, r47_78, r47_79, r47_82, r47_85, r47_86, r47_89, r47_91, r47_92, r47_93, r47_96, r47_97, r47_98, r47_99, r47_100, r47_103, r47_106, r47_107, r47_110, r47_111, r47_114, r47_115, r47_116, r47_117, r47_118, r47_120, r47_123, qa39, qo39, g56, qa40, qo40, vf4_1, t56_1, gP0 hP, vf5_10, tP0_10 hP, gP15 hP, pP15 hP, vf4_7, qa75, qo75, vf4_3, qa41, qo41, p56_8, ty4_8, vf5_11, tP0_11 hP, gP16 hP, pP16 hP, vf4_8, List.getElem?_cons_zero, List.getElem?_cons_succ, List.length_cons, List.length_nil, ag_nx, ag_dn, ag_no, ag_if, jbr1, jbr2, jc1, jc2, jnul, jld, jsto, jstoL, jst1, jst2, jkill, jinc, jbI, jbL, jbS, juI, jl2i, jcmp, jisR, jisI, jisL, jret, jretv, jfits, jdup, jdup2, jpop, jmm, jcat, Value.category, jinv, jrcv, jthr, jhd, jput, jget, jlen, jald, jast, jaast, jgI, jgL, jgB, jtab, jlku, jacp, vf20, vf21, vf22, vf23, vf24, u2_s, u2_k, u2_i, uc_s, uc_k, uc_c, u2_c, LI0, LI1, LI2, LI3, LI4, LI5, LI6, LI7, LI8, LI9, LI10, LI11, LI12, LI13, LI14, LI15, LI16, LI17, LI18, LI19, LI20, LI21, LI22, LI23, LI24, LI25, LI26, LI27, LI28, LI29, LI30, LI31, LI32, LI33, LI34, LI35, LI36, LI37, LI40, LI42, LI43, LI45, LI48, LI60, LI61, LI64, LI80, LI300, LI400, LI1000, LI2000, LI2001, LI2047, LI2048, LI100000, LI1000000, LI38, LI39, LI41, LI44, LI46, LI47, LI49, LI50, LI51, LI52, LI53, LI54, LI55, LI56, LI57, LI58, LI59, LI62, LI63, LI65, LI66, LI67, LI68, LI69, LI70, LI71, LI72, LI73, LI74, LI75, LI76, LI77, LI78, LI79, LI81, LI82, LI83, LI84, LI85, LI86, LI87, LI88, LI89, LI90, LI91, LI92, LI93, LI94, LI95, LI96, LI97, LI98, LI99, LI100, LI101, LI102, LI103, LI104, LI105, LI106, LI107, LI108, LI109, LI110, LI111, LI112, LI113, LI114, LI115, LI116, LI117, LI118, LI119, LI120, LI121, LI122, LI123, LI124, LI125, LI126, LI127, LI255, LI256, LI999, LI1001, LI1002, LI1600, LI4096, LI1000001, LI2042, LM, nI_clamp, nI_pos', nI_lt, nI_nlt, nI_le, nI_ge, nI_ne, nI_add, nI_sub, mI_lt, mI_le, mI_nlt, mI_nle, mI_ne, mI_ne', mI_nem, e1, e2, e40, hR1, h7, hv, hp, e75, this, Int32.not_le.mpr this]
      rw [eA]
      have s3 : I3 56 7 = nI p := by rw [hI3, u2_i (by omega), u2_i (by omega), u2_i (by omega)]; exact h7
      obtain ⟨I7, hI7⟩ : ∃ I7, I7 = u2 (u2 (u2 I3 56 8 (nI (min k 7))) (P + 16) (p * 8 + min k 7) (V (j + 1))) (P + 15) p (nI (min k 7 + 1)) := ⟨_, rfl⟩
      have t7 : tkc K V m I7 := by rw [hI7]; exact tkc_u (by omega) (tkc_u (by omega) (tkc_u (by omega) (by rw [hI3]; exact tkc_u (by omega) t2)))
      have a7 : I7 56 3 = nI (j + 2) := by rw [hI7, u2_k (by omega), u2_k (by omega), u2_i (by omega), hI3, u2_i (by omega), u2_s]
      have eB : M47 A (d + 1) 68 [some (.ref (b + 56)), some (.int (V (j + 1))), some (.int (nI k))] [] (jH h b X I3 J R n) = M47 A (d + 1) 117 [some (.ref (b + 56)), some (.int (V (j + 1))), some (.int (nI k))] [] (jH h b X I7 J R n) := by
        have hmi : p * 8 + min k 7 < 48 := by omega
        rw [hI7]
        by_cases hk5 : k < 7
        · rw [show min k 7 = k by omega] at hmi ⊢
          simp (disch := omega) [r47_0, r47_1, r47_2, r47_5, r47_8, r47_9, r47_11, r47_14, r47_17, r47_18, r47_19, r47_20, r47_23, r47_24, r47_25, r47_28, r47_31, r47_32, r47_35, r47_36, r47_37, r47_38, r47_41, r47_42, r47_45, r47_46, r47_49, r47_52, r47_53, r47_55, r47_58, r47_59, r47_60, r47_63, r47_64, r47_65, r47_68, r47_69, r47_70, r47_72, r47_75, r47_78, r47_79, r47_82, r47_85, r47_86, r47_89, r47_91, r47_92, r47_93, r47_96, r47_97, r47_98, r47_99, r47_100, r47_103, r47_106, r47_107, r47_110, r47_111, r47_114, r47_115, r47_116, r47_118, r47_120, r47_123, qa39, qo39, g56, qa40, qo40, vf4_1, t56_1, gP0 hP, vf5_10, tP0_10 hP, gP15 hP, pP15 hP, vf4_7, qa75, qo75, vf4_3, qa41, qo41, p56_8, ty4_8, vf5_11, tP0_11 hP, gP16 hP, pP16 hP, vf4_8, List.getElem?_cons_zero, List.getElem?_cons_succ, List.length_cons, List.length_nil, ag_nx, ag_dn, ag_no, ag_if, jbr1, jbr2, jc1, jc2, jnul, jld, jsto, jstoL, jst1, jst2, jkill, jinc, jbI, jbL, jbS, juI, jl2i, jcmp, jisR, jisI, jisL, jret, jretv, jfits, jdup, jdup2, jpop, jmm, jcat, Value.category, jinv, jrcv, jthr, jhd, jput, jget, jlen, jald, jast, jaast, jgI, jgL, jgB, jtab, jlku, jacp, vf20, vf21, vf22, vf23, vf24, u2_s, u2_k, u2_i, uc_s, uc_k, uc_c, u2_c, LI0, LI1, LI2, LI3, LI4, LI5, LI6, LI7, LI8, LI9, LI10, LI11, LI12, LI13, LI14, LI15, LI16, LI17, LI18, LI19, LI20, LI21, LI22, LI23, LI24, LI25, LI26, LI27, LI28, LI29, LI30, LI31, LI32, LI33, LI34, LI35, LI36, LI37, LI40, LI42, LI43, LI45, LI48, LI60, LI61, LI64, LI80, LI300, LI400, LI1000, LI2000, LI2001, LI2047, LI2048, LI100000, LI1000000, LI38, LI39, LI41, LI44, LI46, LI47, LI49, LI50, LI51, LI52, LI53, LI54, LI55, LI56, LI57, LI58, LI59, LI62, LI63, LI65, LI66, LI67, LI68, LI69, LI70, LI71, LI72, LI73, LI74, LI75, LI76, LI77, LI78, LI79, LI81, LI82, LI83, LI84, LI85, LI86, LI87, LI88, LI89, LI90, LI91, LI92, LI93, LI94, LI95, LI96, LI97, LI98, LI99, LI100, LI101, LI102, LI103, LI104, LI105, LI106, LI107, LI108, LI109, LI110, LI111, LI112, LI113, LI114, LI115, LI116, LI117, LI118, LI119, LI120, LI121, LI122, LI123, LI124, LI125, LI126, LI127, LI255, LI256, LI999, LI1001, LI1002, LI1600, LI4096, LI1000001, LI2042, LM, nI_clamp, nI_pos', nI_lt, nI_nlt, nI_le, nI_ge, nI_ne, nI_add, nI_sub, mI_lt, mI_le, mI_nlt, mI_nle, mI_ne, mI_ne', mI_nem, nI_mul, hR1, s3, hp, hmi, hk5]
        · rw [show min k 7 = 7 by omega] at hmi ⊢
          by_cases hk55 : k = 7
          · subst hk55
            simp (disch := omega) [r47_0, r47_1, r47_2, r47_5, r47_8, r47_9, r47_11, r47_14, r47_17, r47_18, r47_19, r47_20, r47_23, r47_24, r47_25, r47_28, r47_31, r47_32, r47_35, r47_36, r47_37, r47_38, r47_41, r47_42, r47_45, r47_46, r47_49, r47_52, r47_53, r47_55, r47_58, r47_59, r47_60, r47_63, r47_64, r47_65, r47_68, r47_69, r47_70, r47_72, r47_75, r47_78, r47_79, r47_82, r47_85, r47_86, r47_89, r47_91, r47_92, r47_93, r47_96, r47_97, r47_98, r47_99, r47_100, r47_103, r47_106, r47_107, r47_110, r47_111, r47_114, r47_115, r47_116, r47_118, r47_120, r47_123, qa39, qo39, g56, qa40, qo40, vf4_1, t56_1, gP0 hP, vf5_10, tP0_10 hP, gP15 hP, pP15 hP, vf4_7, qa75, qo75, vf4_3, qa41, qo41, p56_8, ty4_8, vf5_11, tP0_11 hP, gP16 hP, pP16 hP, vf4_8, List.getElem?_cons_zero, List.getElem?_cons_succ, List.length_cons, List.length_nil, ag_nx, ag_dn, ag_no, ag_if, jbr1, jbr2, jc1, jc2, jnul, jld, jsto, jstoL, jst1, jst2, jkill, jinc, jbI, jbL, jbS, juI, jl2i, jcmp, jisR, jisI, jisL, jret, jretv, jfits, jdup, jdup2, jpop, jmm, jcat, Value.category, jinv, jrcv, jthr, jhd, jput, jget, jlen, jald, jast, jaast, jgI, jgL, jgB, jtab, jlku, jacp, vf20, vf21, vf22, vf23, vf24, u2_s, u2_k, u2_i, uc_s, uc_k, uc_c, u2_c, LI0, LI1, LI2, LI3, LI4, LI5, LI6, LI7, LI8, LI9, LI10, LI11, LI12, LI13, LI14, LI15, LI16, LI17, LI18, LI19, LI20, LI21, LI22, LI23, LI24, LI25, LI26, LI27, LI28, LI29, LI30, LI31, LI32, LI33, LI34, LI35, LI36, LI37, LI40, LI42, LI43, LI45, LI48, LI60, LI61, LI64, LI80, LI300, LI400, LI1000, LI2000, LI2001, LI2047, LI2048, LI100000, LI1000000, LI38, LI39, LI41, LI44, LI46, LI47, LI49, LI50, LI51, LI52, LI53, LI54, LI55, LI56, LI57, LI58, LI59, LI62, LI63, LI65, LI66, LI67, LI68, LI69, LI70, LI71, LI72, LI73, LI74, LI75, LI76, LI77, LI78, LI79, LI81, LI82, LI83, LI84, LI85, LI86, LI87, LI88, LI89, LI90, LI91, LI92, LI93, LI94, LI95, LI96, LI97, LI98, LI99, LI100, LI101, LI102, LI103, LI104, LI105, LI106, LI107, LI108, LI109, LI110, LI111, LI112, LI113, LI114, LI115, LI116, LI117, LI118, LI119, LI120, LI121, LI122, LI123, LI124, LI125, LI126, LI127, LI255, LI256, LI999, LI1001, LI1002, LI1600, LI4096, LI1000001, LI2042, LM, nI_clamp, nI_pos', nI_lt, nI_nlt, nI_le, nI_ge, nI_ne, nI_add, nI_sub, mI_lt, mI_le, mI_nlt, mI_nle, mI_ne, mI_ne', mI_nem, nI_mul, hR1, s3, hp, hmi]
          · have : k = 8 := by omega
            subst this
            simp (disch := omega) [r47_0, r47_1, r47_2, r47_5, r47_8, r47_9, r47_11, r47_14, r47_17, r47_18, r47_19, r47_20, r47_23, r47_24, r47_25, r47_28, r47_31, r47_32, r47_35, r47_36, r47_37, r47_38, r47_41, r47_42, r47_45, r47_46, r47_49, r47_52, r47_53, r47_55, r47_58, r47_59, r47_60, r47_63, r47_64, r47_65, r47_68, r47_69, r47_70, r47_72, r47_75, r47_78, r47_79, r47_82, r47_85, r47_86, r47_89, r47_91, r47_92, r47_93, r47_96, r47_97, r47_98, r47_99, r47_100, r47_103, r47_106, r47_107, r47_110, r47_111, r47_114, r47_115, r47_116, r47_118, r47_120, r47_123, qa39, qo39, g56, qa40, qo40, vf4_1, t56_1, gP0 hP, vf5_10, tP0_10 hP, gP15 hP, pP15 hP, vf4_7, qa75, qo75, vf4_3, qa41, qo41, p56_8, ty4_8, vf5_11, tP0_11 hP, gP16 hP, pP16 hP, vf4_8, List.getElem?_cons_zero, List.getElem?_cons_succ, List.length_cons, List.length_nil, ag_nx, ag_dn, ag_no, ag_if, jbr1, jbr2, jc1, jc2, jnul, jld, jsto, jstoL, jst1, jst2, jkill, jinc, jbI, jbL, jbS, juI, jl2i, jcmp, jisR, jisI, jisL, jret, jretv, jfits, jdup, jdup2, jpop, jmm, jcat, Value.category, jinv, jrcv, jthr, jhd, jput, jget, jlen, jald, jast, jaast, jgI, jgL, jgB, jtab, jlku, jacp, vf20, vf21, vf22, vf23, vf24, u2_s, u2_k, u2_i, uc_s, uc_k, uc_c, u2_c, LI0, LI1, LI2, LI3, LI4, LI5, LI6, LI7, LI8, LI9, LI10, LI11, LI12, LI13, LI14, LI15, LI16, LI17, LI18, LI19, LI20, LI21, LI22, LI23, LI24, LI25, LI26, LI27, LI28, LI29, LI30, LI31, LI32, LI33, LI34, LI35, LI36, LI37, LI40, LI42, LI43, LI45, LI48, LI60, LI61, LI64, LI80, LI300, LI400, LI1000, LI2000, LI2001, LI2047, LI2048, LI100000, LI1000000, LI38, LI39, LI41, LI44, LI46, LI47, LI49, LI50, LI51, LI52, LI53, LI54, LI55, LI56, LI57, LI58, LI59, LI62, LI63, LI65, LI66, LI67, LI68, LI69, LI70, LI71, LI72, LI73, LI74, LI75, LI76, LI77, LI78, LI79, LI81, LI82, LI83, LI84, LI85, LI86, LI87, LI88, LI89, LI90, LI91, LI92, LI93, LI94, LI95, LI96, LI97, LI98, LI99, LI100, LI101, LI102, LI103, LI104, LI105, LI106, LI107, LI108, LI109, LI110, LI111, LI112, LI113, LI114, LI115, LI116, LI117, LI118, LI119, LI120, LI121, LI122, LI123, LI124, LI125, LI126, LI127, LI255, LI256, LI999, LI1001, LI1002, LI1600, LI4096, LI1000001, LI2042, LM, nI_clamp, nI_pos', nI_lt, nI_nlt, nI_le, nI_ge, nI_ne, nI_add, nI_sub, mI_lt, mI_le, mI_nlt, mI_nle, mI_ne, mI_ne', mI_nem, nI_mul, hR1, s3, hp, hmi]
      rw [eB]
      have fI7 : ∀ c i, ¬ (c = 56 ∧ (i = 3 ∨ i = 5 ∨ i = 8)) → ¬ (c = P + 15 ∧ i = p) → ¬ (c = P + 16 ∧ i = p * 8 + min k 7) → I7 c i = I c i := fun c i b1 b2 b3 => by
        rw [hI7, hI3]
        simp only [u2_ap]; repeat (rw [if_neg (by omega)])
      by_cases hK4 : K (j + 2) = 123
      · have e5 := c39y (d := d) (A := A) (b := b) (h := h) (X := X) (J := J) (R := R) (n := n) (I := I7) hk t7 a7 (by omega) hK4
        refine ⟨u2 I7 56 3 (nI (j + 2 + 1)), nI 1, ?_, Or.inl ⟨rfl, hK, hK1, hK4, u2_s, ?_, ?_, ?_, ?_, ?_⟩⟩
        · simp (disch := omega) [r47_117, r47_118, r47_120, r47_123, qa39, qo39, g56, List.getElem?_cons_zero, List.getElem?_cons_succ, List.length_cons, List.length_nil, ag_nx, ag_dn, ag_no, ag_if, jbr1, jbr2, jc1, jc2, jnul, jld, jsto, jstoL, jst1, jst2, jkill, jinc, jbI, jbL, jbS, juI, jl2i, jcmp, jisR, jisI, jisL, jret, jretv, jfits, jdup, jdup2, jpop, jmm, jcat, Value.category, jinv, jrcv, jthr, jhd, jput, jget, jlen, jald, jast, jaast, jgI, jgL, jgB, jtab, jlku, jacp, vf20, vf21, vf22, vf23, vf24, u2_s, u2_k, u2_i, uc_s, uc_k, uc_c, u2_c, LI0, LI1, LI2, LI3, LI4, LI5, LI6, LI7, LI8, LI9, LI10, LI11, LI12, LI13, LI14, LI15, LI16, LI17, LI18, LI19, LI20, LI21, LI22, LI23, LI24, LI25, LI26, LI27, LI28, LI29, LI30, LI31, LI32, LI33, LI34, LI35, LI36, LI37, LI40, LI42, LI43, LI45, LI48, LI60, LI61, LI64, LI80, LI300, LI400, LI1000, LI2000, LI2001, LI2047, LI2048, LI100000, LI1000000, LI38, LI39, LI41, LI44, LI46, LI47, LI49, LI50, LI51, LI52, LI53, LI54, LI55, LI56, LI57, LI58, LI59, LI62, LI63, LI65, LI66, LI67, LI68, LI69, LI70, LI71, LI72, LI73, LI74, LI75, LI76, LI77, LI78, LI79, LI81, LI82, LI83, LI84, LI85, LI86, LI87, LI88, LI89, LI90, LI91, LI92, LI93, LI94, LI95, LI96, LI97, LI98, LI99, LI100, LI101, LI102, LI103, LI104, LI105, LI106, LI107, LI108, LI109, LI110, LI111, LI112, LI113, LI114, LI115, LI116, LI117, LI118, LI119, LI120, LI121, LI122, LI123, LI124, LI125, LI126, LI127, LI255, LI256, LI999, LI1001, LI1002, LI1600, LI4096, LI1000001, LI2042, LM, nI_clamp, nI_pos', nI_lt, nI_nlt, nI_le, nI_ge, nI_ne, nI_add, nI_sub, mI_lt, mI_le, mI_nlt, mI_nle, mI_ne, mI_ne', mI_nem, e5]
        · rw [u2_i (by omega), hI7, u2_k (by omega), u2_k (by omega), u2_i (by omega), hI3, u2_s, he']
        · rw [u2_i (by omega), hI7, u2_k (by omega), u2_k (by omega), u2_s]
        · rw [u2_k (by omega), hI7, u2_s]
        · rw [u2_k (by omega), hI7, u2_k (by omega), u2_s]
        · intro c i b1 b2 b3
          rw [← fI7 c i b1 b2 b3]
          simp only [u2_ap]; repeat (rw [if_neg (by omega)])
      · have e5 := c39n (d := d) (A := A) (b := b) (h := h) (X := X) (J := J) (R := R) (n := n) (I := I7) hk t7 a7 (by omega) (by omega) hK4
        refine ⟨I7, nI 0, ?_, Or.inr ⟨j + 2, rfl, ⟨a7, fun c i b1 b2 b3 => fI7 c i (by omega) (by omega) (by omega)⟩, Or.inr (Or.inr ⟨hK, hK1, hK4, rfl⟩)⟩⟩
        simp (disch := omega) [r47_117, r47_118, r47_120, r47_123, qa39, qo39, g56, List.getElem?_cons_zero, List.getElem?_cons_succ, List.length_cons, List.length_nil, ag_nx, ag_dn, ag_no, ag_if, jbr1, jbr2, jc1, jc2, jnul, jld, jsto, jstoL, jst1, jst2, jkill, jinc, jbI, jbL, jbS, juI, jl2i, jcmp, jisR, jisI, jisL, jret, jretv, jfits, jdup, jdup2, jpop, jmm, jcat, Value.category, jinv, jrcv, jthr, jhd, jput, jget, jlen, jald, jast, jaast, jgI, jgL, jgB, jtab, jlku, jacp, vf20, vf21, vf22, vf23, vf24, u2_s, u2_k, u2_i, uc_s, uc_k, uc_c, u2_c, LI0, LI1, LI2, LI3, LI4, LI5, LI6, LI7, LI8, LI9, LI10, LI11, LI12, LI13, LI14, LI15, LI16, LI17, LI18, LI19, LI20, LI21, LI22, LI23, LI24, LI25, LI26, LI27, LI28, LI29, LI30, LI31, LI32, LI33, LI34, LI35, LI36, LI37, LI40, LI42, LI43, LI45, LI48, LI60, LI61, LI64, LI80, LI300, LI400, LI1000, LI2000, LI2001, LI2047, LI2048, LI100000, LI1000000, LI38, LI39, LI41, LI44, LI46, LI47, LI49, LI50, LI51, LI52, LI53, LI54, LI55, LI56, LI57, LI58, LI59, LI62, LI63, LI65, LI66, LI67, LI68, LI69, LI70, LI71, LI72, LI73, LI74, LI75, LI76, LI77, LI78, LI79, LI81, LI82, LI83, LI84, LI85, LI86, LI87, LI88, LI89, LI90, LI91, LI92, LI93, LI94, LI95, LI96, LI97, LI98, LI99, LI100, LI101, LI102, LI103, LI104, LI105, LI106, LI107, LI108, LI109, LI110, LI111, LI112, LI113, LI114, LI115, LI116, LI117, LI118, LI119, LI120, LI121, LI122, LI123, LI124, LI125, LI126, LI127, LI255, LI256, LI999, LI1001, LI1002, LI1600, LI4096, LI1000001, LI2042, LM, nI_clamp, nI_pos', nI_lt, nI_nlt, nI_le, nI_ge, nI_ne, nI_add, nI_sub, mI_lt, mI_le, mI_nlt, mI_nle, mI_ne, mI_ne', mI_nem, e5]
    · have e2 := c39n (d := d) (A := A) (b := b) (h := h) (X := X) (J := J) (R := R) (n := n) (I := u2 I 56 3 (nI (j + 1))) hk t1 u2_s (by omega) (by omega) hK1
      refine ⟨u2 I 56 3 (nI (j + 1)), nI 0, ?_, Or.inr ⟨j + 1, rfl, ⟨u2_s, fun c i b1 b2 b3 => ?_⟩, Or.inr (Or.inl ⟨hK, hK1, rfl⟩)⟩⟩
      · simp (disch := omega) [je47, r47_0, r47_1, r47_2, r47_5, r47_8, r47_9, r47_11, r47_14, r47_17, r47_18, r47_19, r47_20, r47_23, r47_24, r47_25, r47_28, r47_31, r47_32, r47_35, r47_36, r47_37, r47_38, r47_41, r47_42, r47_45, r47_46, r47_49, r47_52, r47_53, r47_55, r47_58, r47_59, r47_60, r47_63, r47_64, r47_65, r47_68, r47_69, r47_70, r47_72, r47_75, r47_78, r47_79, r47_82, r47_85, r47_86, r47_89, r47_91, r47_92, r47_93, r47_96, r47_97, r47_98, r47_99, r47_100, r47_103, r47_106, r47_107, r47_110, r47_111, r47_114, r47_115, r47_116, r47_117, r47_118, r47_120, r47_123, qa39, qo39, g56, qa40, qo40, vf4_1, t56_1, gP0 hP, vf5_10, tP0_10 hP, gP15 hP, pP15 hP, vf4_7, qa75, qo75, vf4_3, qa41, qo41, p56_8, ty4_8, vf5_11, tP0_11 hP, gP16 hP, pP16 hP, vf4_8, List.getElem?_cons_zero, List.getElem?_cons_succ, List.length_cons, List.length_nil, ag_nx, ag_dn, ag_no, ag_if, jbr1, jbr2, jc1, jc2, jnul, jld, jsto, jstoL, jst1, jst2, jkill, jinc, jbI, jbL, jbS, juI, jl2i, jcmp, jisR, jisI, jisL, jret, jretv, jfits, jdup, jdup2, jpop, jmm, jcat, Value.category, jinv, jrcv, jthr, jhd, jput, jget, jlen, jald, jast, jaast, jgI, jgL, jgB, jtab, jlku, jacp, vf20, vf21, vf22, vf23, vf24, u2_s, u2_k, u2_i, uc_s, uc_k, uc_c, u2_c, LI0, LI1, LI2, LI3, LI4, LI5, LI6, LI7, LI8, LI9, LI10, LI11, LI12, LI13, LI14, LI15, LI16, LI17, LI18, LI19, LI20, LI21, LI22, LI23, LI24, LI25, LI26, LI27, LI28, LI29, LI30, LI31, LI32, LI33, LI34, LI35, LI36, LI37, LI40, LI42, LI43, LI45, LI48, LI60, LI61, LI64, LI80, LI300, LI400, LI1000, LI2000, LI2001, LI2047, LI2048, LI100000, LI1000000, LI38, LI39, LI41, LI44, LI46, LI47, LI49, LI50, LI51, LI52, LI53, LI54, LI55, LI56, LI57, LI58, LI59, LI62, LI63, LI65, LI66, LI67, LI68, LI69, LI70, LI71, LI72, LI73, LI74, LI75, LI76, LI77, LI78, LI79, LI81, LI82, LI83, LI84, LI85, LI86, LI87, LI88, LI89, LI90, LI91, LI92, LI93, LI94, LI95, LI96, LI97, LI98, LI99, LI100, LI101, LI102, LI103, LI104, LI105, LI106, LI107, LI108, LI109, LI110, LI111, LI112, LI113, LI114, LI115, LI116, LI117, LI118, LI119, LI120, LI121, LI122, LI123, LI124, LI125, LI126, LI127, LI255, LI256, LI999, LI1001, LI1002, LI1600, LI4096, LI1000001, LI2042, LM, nI_clamp, nI_pos', nI_lt, nI_nlt, nI_le, nI_ge, nI_ne, nI_add, nI_sub, mI_lt, mI_le, mI_nlt, mI_nle, mI_ne, mI_ne', mI_nem, e1, e2]
      · simp only [u2_ap]; repeat (rw [if_neg (by omega)])
  · have e1 := c39n (d := d) (A := A) (b := b) (h := h) (X := X) (J := J) (R := R) (n := n) (I := I) (k := 4) hk ht ha hj (by omega) hK
    refine ⟨I, nI 0, ?_, Or.inr ⟨j, rfl, ⟨ha, fO_refl⟩, Or.inl ⟨hK, rfl⟩⟩⟩
    simp (disch := omega) [je47, r47_0, r47_1, r47_2, r47_5, r47_8, r47_9, r47_11, r47_14, r47_17, r47_18, r47_19, r47_20, r47_23, r47_24, r47_25, r47_28, r47_31, r47_32, r47_35, r47_36, r47_37, r47_38, r47_41, r47_42, r47_45, r47_46, r47_49, r47_52, r47_53, r47_55, r47_58, r47_59, r47_60, r47_63, r47_64, r47_65, r47_68, r47_69, r47_70, r47_72, r47_75, r47_78, r47_79, r47_82, r47_85, r47_86, r47_89, r47_91, r47_92, r47_93, r47_96, r47_97, r47_98, r47_99, r47_100, r47_103, r47_106, r47_107, r47_110, r47_111, r47_114, r47_115, r47_116, r47_117, r47_118, r47_120, r47_123, qa39, qo39, g56, qa40, qo40, vf4_1, t56_1, gP0 hP, vf5_10, tP0_10 hP, gP15 hP, pP15 hP, vf4_7, qa75, qo75, vf4_3, qa41, qo41, p56_8, ty4_8, vf5_11, tP0_11 hP, gP16 hP, pP16 hP, vf4_8, List.getElem?_cons_zero, List.getElem?_cons_succ, List.length_cons, List.length_nil, ag_nx, ag_dn, ag_no, ag_if, jbr1, jbr2, jc1, jc2, jnul, jld, jsto, jstoL, jst1, jst2, jkill, jinc, jbI, jbL, jbS, juI, jl2i, jcmp, jisR, jisI, jisL, jret, jretv, jfits, jdup, jdup2, jpop, jmm, jcat, Value.category, jinv, jrcv, jthr, jhd, jput, jget, jlen, jald, jast, jaast, jgI, jgL, jgB, jtab, jlku, jacp, vf20, vf21, vf22, vf23, vf24, u2_s, u2_k, u2_i, uc_s, uc_k, uc_c, u2_c, LI0, LI1, LI2, LI3, LI4, LI5, LI6, LI7, LI8, LI9, LI10, LI11, LI12, LI13, LI14, LI15, LI16, LI17, LI18, LI19, LI20, LI21, LI22, LI23, LI24, LI25, LI26, LI27, LI28, LI29, LI30, LI31, LI32, LI33, LI34, LI35, LI36, LI37, LI40, LI42, LI43, LI45, LI48, LI60, LI61, LI64, LI80, LI300, LI400, LI1000, LI2000, LI2001, LI2047, LI2048, LI100000, LI1000000, LI38, LI39, LI41, LI44, LI46, LI47, LI49, LI50, LI51, LI52, LI53, LI54, LI55, LI56, LI57, LI58, LI59, LI62, LI63, LI65, LI66, LI67, LI68, LI69, LI70, LI71, LI72, LI73, LI74, LI75, LI76, LI77, LI78, LI79, LI81, LI82, LI83, LI84, LI85, LI86, LI87, LI88, LI89, LI90, LI91, LI92, LI93, LI94, LI95, LI96, LI97, LI98, LI99, LI100, LI101, LI102, LI103, LI104, LI105, LI106, LI107, LI108, LI109, LI110, LI111, LI112, LI113, LI114, LI115, LI116, LI117, LI118, LI119, LI120, LI121, LI122, LI123, LI124, LI125, LI126, LI127, LI255, LI256, LI999, LI1001, LI1002, LI1600, LI4096, LI1000001, LI2042, LM, nI_clamp, nI_pos', nI_lt, nI_nlt, nI_le, nI_ge, nI_ne, nI_add, nI_sub, mI_lt, mI_le, mI_nlt, mI_nle, mI_ne, mI_ne', mI_nem, e1]
/-- when nothing is too much, the process that is open is the last -/
theorem nPr_e {Q : List qPr} {c : qPr} {I : Nat → Nat → Int32} (hm : mS K V P I (Q ++ [c])) : nPr Q = Q.length ∧ Q.length < 6 := by
  have := hm.1
  rw [List.length_append] at this
  simp at this
  unfold nPr
  omega
theorem mS_last {Q : List qPr} {c : qPr} {I : Nat → Nat → Int32} (hm : mS K V P I (Q ++ [c])) : mP K V P I Q.length c := hm.2.1 Q.length c (by simp)
/-- only the last process has changed -/
theorem mS_upd {Q : List qPr} {c c' : qPr} {I I' : Nat → Nat → Int32} (hm : mS K V P I (Q ++ [c])) (hf : ∀ z i, P + 9 ≤ z → z ≤ P + 22 → pix P z i ≠ Q.length → I' z i = I z i) (hc : mP K V P I' Q.length c') : mS K V P I' (Q ++ [c']) := by
  obtain ⟨a1, a2, a3⟩ := hm
  rw [List.length_append] at a1 a3
  simp only [List.length_cons, List.length_nil] at a1 a3
  refine ⟨by rw [List.length_append]; exact a1, fun p x hx => ?_, fun p b1 b2 => ?_⟩
  · rcases Nat.lt_or_ge p Q.length with hpl | hpl
    · rw [List.getElem?_append_left hpl] at hx
      have := a2 p x (by rw [List.getElem?_append_left hpl]; exact hx)
      exact mP_fr (fun z i b1 b2 b3 => hf z i b1 b2 (by omega)) this
    · rw [List.getElem?_append_right hpl] at hx
      have hp0 := lt_some hx
      simp at hp0
      have hpe : p = Q.length := by omega
      rw [show p - Q.length = 0 by omega] at hx
      simp at hx
      subst hx
      rw [hpe]
      exact hc
  · rw [List.length_append] at b1
    simp only [List.length_cons, List.length_nil] at b1
    have hz := a3 p b1 b2
    refine ⟨?_, ?_, fun k hk => ?_⟩
    · rw [hf _ _ (by omega) (by omega) (by unfold pix; rw [if_neg (by omega), if_neg (by omega), if_neg (by omega)]; omega)]; exact hz.1
    · rw [hf _ _ (by omega) (by omega) (by unfold pix; rw [if_neg (by omega), if_neg (by omega), if_neg (by omega)]; omega)]; exact hz.2.1
    · rw [hf _ _ (by omega) (by omega) (by unfold pix; rw [if_neg (by omega), if_pos (by omega)]; omega)]; exact hz.2.2 k hk
theorem or_lt {o : Option Nat} {q : Prop} [Decidable q] {t j j' : Nat} (h : ∀ x, o = some x → x < j) (hj : j ≤ j') (ht : t < j') : ∀ x, o.or (if q then some t else none) = some x → x < j' := by
  intro x hx
  cases o with
  | some y => simp at hx; have := h y rfl; omega
  | none =>
    simp only [Option.none_or] at hx
    split at hx
    · cases hx; exact ht
    · cases hx
theorem or_no {o o' : Option Nat} (h : o.or o' = none) : o = none ∧ o' = none := by
  cases o with
  | none => exact ⟨rfl, h⟩
  | some y => simp at h
theorem cStR (hk : kOK K m) (hP : isP P) (hR1 : R 56 1 = P) {I : Nat → Nat → Int32} {Q : List qPr} {c : qPr} {C : List oT} {j : Nat} (hS : oS K V m P I (Q ++ [c]) C j) (h7 : I 56 7 = nI (nPr Q)) : ∃ I' v, jcall A jcode (d + 2) 47 [.ref (b + 56)] (jH h b X I J R n) = some (.inl (some (.int v)), jH h b X I' J R n) ∧
    ((v = nI 1 ∧ K j = 4 ∧ K (j + 1) = 26 ∧ K (j + 2) = 123 ∧ oS K V m P I' (Q ++ [(c.1, c.2.1, c.2.2.1, c.2.2.2 ++ [(j + 1, [])])]) C (j + 3) ∧ fO P I I' ∧ I' 56 7 = nI (nPr Q) ∧ I' 56 4 = I 56 4 ∧ ∃ t, t < 8 ∧ I' 56 8 = nI t ∧ (exF K (eqV V) (Q ++ [(c.1, c.2.1, c.2.2.1, c.2.2.2 ++ [(j + 1, [])])]) = none → t = c.2.2.2.length)) ∨
     ∃ j', v = nI 0 ∧ oF P I I' j' ∧ j' ≤ m ∧ ((K j ≠ 4 ∧ j' = j) ∨ (K j = 4 ∧ K (j + 1) ≠ 26 ∧ j' = j + 1) ∨ (K j = 4 ∧ K (j + 1) = 26 ∧ K (j + 2) ≠ 123 ∧ j' = j + 2))) := by
  have hpp := isP_e hP
  have hnp : nPr Q < 6 := by unfold nPr; omega
  obtain ⟨ht, hl, hsg, hcl, ha, hCj, hj, hB, h3, h5, hex, hno⟩ := hS
  obtain ⟨k, hk8, hkv⟩ := hB.2.1 (nPr Q) hnp
  obtain ⟨I', v, e, hr⟩ := c47 (d := d) (A := A) (b := b) (h := h) (X := X) (J := J) (R := R) (n := n) hk hP hR1 ht ha hj h7 hnp hkv hk8 h5 hex
  refine ⟨I', v, e, ?_⟩
  rcases hr with ⟨rfl, k0, k1, k2, a2, x2, s2, n2, r2, f2⟩ | ⟨j', rfl, hF, hw⟩
  · have hj0 := hk.2.1 j hj (by rw [k0]; decide)
    have hj1 := hk.2.1 (j + 1) (by omega) (by rw [k1]; decide)
    have hj2 := hk.2.1 (j + 2) (by omega) (by rw [k2]; decide)
    have hfO : fO P I I' := fun z i b1 b2 b3 => f2 z i (by omega) (by omega) (by omega)
    have hex2 : exF K (eqV V) (Q ++ [(c.1, c.2.1, c.2.2.1, c.2.2.2 ++ [(j + 1, [])])]) = (exF K (eqV V) (Q ++ [c])).or (if 8 ≤ k ∨ (List.range k).any (fun i => decide (I (P + 16) (nPr Q * 8 + i) = V (j + 1))) = true then some (j + 1) else none) := by
      rw [exF_st]
      cases hx : exF K (eqV V) (Q ++ [c]) with
      | some y => rfl
      | none =>
        have hm := (hno hx).2.2
        have hq := nPr_e hm
        obtain ⟨g1, g2, g3, g4, g5, g6, g7, g8⟩ := mS_last hm
        rw [hq.1] at hkv ⊢
        have hkl : k = c.2.2.2.length := by
          have := g5.symm.trans hkv
          rw [nI_eq (by omega) (by omega)] at this
          exact this.symm
        subst hkl
        simp only [Option.none_or]
        unfold ckN
        rw [List.length_map, List.any_map, any_rng (l := c.2.2.2) (f := (fun x => eqV V x (j + 1)) ∘ fun s => s.1) (fun i s hs => by
          rw [(g7 i s hs).1]
          rfl)]
    refine Or.inl ⟨rfl, k0, k1, k2, ⟨tkc_O hP hfO ht, ?_, ?_, ?_, a2, by omega, by omega, ?_, ?_, ?_, ?_, ?_⟩, hfO, ?_, ?_, min k 7, by omega, s2, ?_⟩
    · rw [f2 _ _ (by omega) (by omega) (by omega)]; exact hl
    · exact seg_fr (fun z i b1 b2 => f2 z i (by omega) (by omega) (by omega)) hsg
    · rw [f2 _ _ (by omega) (by omega) (by omega)]; exact hcl
    · obtain ⟨B1, B2, B3⟩ := hB
      refine ⟨fun p hp => ?_, fun p hp => ?_, fun q hq => ?_⟩
      · obtain ⟨k', z1, z2⟩ := B1 p hp
        exact ⟨k', z1, by rw [f2 _ _ (by omega) (by omega) (by omega)]; exact z2⟩
      · by_cases hpq : p = nPr Q
        · subst hpq
          exact ⟨min k 7 + 1, by omega, n2⟩
        · obtain ⟨k', z1, z2⟩ := B2 p hp
          exact ⟨k', z1, by rw [f2 _ _ (by omega) (by omega) (by omega)]; exact z2⟩
      · obtain ⟨k', z1, z2⟩ := B3 q hq
        exact ⟨k', z1, by rw [f2 _ _ (by omega) (by omega) (by omega)]; exact z2⟩
    · rw [f2 _ _ (by omega) (by omega) (by omega), h3]
      simp
    · rw [x2, hex2]
    · rw [hex2]
      exact or_lt hex (by omega) (by omega)
    · intro hx
      rw [hex2] at hx
      obtain ⟨hy, hz⟩ := or_no hx
      obtain ⟨hu, hul, hm⟩ := hno hy
      have hq := nPr_e hm
      have hml := mS_last hm
      obtain ⟨g1, g2, g3, g4, g5, g6, g7, g8⟩ := hml
      rw [hq.1] at hkv n2 r2 f2
      have hkl : k = c.2.2.2.length := by
        have := g5.symm.trans hkv
        rw [nI_eq (by omega) (by omega)] at this
        exact this.symm
      have hk7 : ¬ 8 ≤ k := by
        intro z
        rw [if_pos (Or.inl z)] at hz
        cases hz
      rw [show min k 7 = k by omega] at n2 r2 f2
      rw [unF_st]
      refine ⟨?_, fun x hx => by have := hul x hx; omega, mS_upd hm (fun z i b1 b2 b3 => ?_) ?_⟩
      · rw [f2 _ _ (by omega) (by omega) (by omega)]; exact hu
      · unfold pix at b3
        refine f2 z i (by omega) (fun zz => ?_) (fun zz => ?_)
        · rw [if_neg (by omega), if_neg (by omega), if_neg (by omega)] at b3; omega
        · rw [if_neg (by omega), if_pos (by omega)] at b3; omega
      · refine ⟨?_, ?_, ?_, mL_fr ?_ ?_ g4, ?_, ?_, ?_, ?_⟩
        · rw [f2 _ _ (by omega) (by omega) (by omega)]; exact g1
        · rw [f2 _ _ (by omega) (by omega) (by omega)]; exact g2
        · rw [f2 _ _ (by omega) (by omega) (by omega)]; exact g3
        · rw [f2 _ _ (by omega) (by omega) (by omega)]
        · intro z i b1 b2; rw [f2 _ _ (by omega) (by omega) (by omega)]
        · rw [n2, hkl]; simp
        · simp; omega
        · intro i s hs
          rcases Nat.lt_or_ge i c.2.2.2.length with hi | hi
          · rw [List.getElem?_append_left hi] at hs
            refine mQ_fr ?_ ?_ ?_ (g7 i s hs)
            · rw [f2 _ _ (by omega) (by omega) (by omega)]
            · rw [f2 _ _ (by omega) (by omega) (by omega)]
            · intro z i b1 b2 b3; rw [f2 _ _ (by omega) (by omega) (by omega)]
          · rw [List.getElem?_append_right hi] at hs
            have hp0 := lt_some hs
            simp at hp0
            rw [show i - c.2.2.2.length = 0 by omega] at hs
            simp at hs
            subst hs
            have : i = k := by omega
            rw [this]
            refine ⟨r2, ?_, by simp, fun i c hc => by simp at hc⟩
            rw [f2 _ _ (by omega) (by omega) (by omega)]
            exact g8 k (by omega) (by omega)
        · intro i b1 b2
          simp at b1
          rw [f2 _ _ (by omega) (by omega) (by omega)]
          exact g8 i (by omega) b2
    · rw [f2 _ _ (by omega) (by omega) (by omega)]; exact h7
    · rw [f2 _ _ (by omega) (by omega) (by omega)]
    · intro hx
      rw [hex2] at hx
      obtain ⟨hy, hz⟩ := or_no hx
      have hm := (hno hy).2.2
      have hq := nPr_e hm
      have g5 := (mS_last hm).2.2.2.2.1
      have g6 := (mS_last hm).2.2.2.2.2.1
      rw [hq.1] at hkv
      have hkl : k = c.2.2.2.length := by
        have := g5.symm.trans hkv
        rw [nI_eq (by omega) (by omega)] at this
        exact this.symm
      have hk7 : ¬ 8 ≤ k := by
        intro z
        rw [if_pos (Or.inl z)] at hz
        cases hz
      omega
  · refine Or.inr ⟨j', rfl, hF, ?_, hw⟩
    rcases hw with ⟨k0, rfl⟩ | ⟨k0, k1, rfl⟩ | ⟨k0, k1, k2, rfl⟩
    · exact hj
    · have hj0 := hk.2.1 j hj (by rw [k0]; decide); omega
    · have hj0 := hk.2.1 j hj (by rw [k0]; decide)
      have hj1 := hk.2.1 (j + 1) (by omega) (by rw [k1]; decide)
      omega
end CST
