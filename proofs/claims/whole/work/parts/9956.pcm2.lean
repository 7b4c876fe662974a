/-! the class reads a clause -/
section CCL
variable {A : Nat → Nat} {d b n P m p : Nat} {h : Nat → Option jC} {X : jXX} {J : Nat → Nat → Int64} {R : Nat → Nat → Nat} {K : Nat → Nat} {V : Nat → Int32}
theorem fdP_ix {β : Type} {f : β → Bool} {q : Nat → Bool} {l : List β} (h : ∀ i a, l[i]? = some a → q i = f a) : fdP q l.length 0 = l.findIdx? f := by
  rw [fdP_idx (f := f) l 0 (fun j a ha => by rw [Nat.zero_add]; exact h j a ha)]
  cases l.findIdx? f <;> simp
theorem hdE_ck {I : Nat → Nat → Int32} {lets : List Nat} {p t j : Nat} {s : qSt} (hK : 5 ≤ K j ∧ K j ≤ 9) (hs : mQ K V P I lets p t s) (h8 : s.2.length < 8) (hk : ∀ j, K j < 128) {io : Option Nat} {tb bb : Nat × List oT} : hdE K V P p t s.2.length j I = ckC K (eqV V) s.2 (j, io, tb, bb) := by
  obtain ⟨g1, g2, g3, g4⟩ := hs
  unfold hdE ckC
  simp only
  rw [if_neg (show ¬ 8 ≤ s.2.length by omega)]
  by_cases h9 : K j = 9
  · rw [if_pos h9, any_rng (l := s.2) (f := fun q => decide (K q.1 = 9)) (fun i c hc => by
      obtain ⟨m0, m1, m2, _⟩ := g4 i c hc
      rw [m1, m2]
      by_cases h : K c.1 = 9
      · rw [h]; simp
      · have := nI_ne h (by have := hk c.1; omega) (by omega : 9 < 2 ^ 31)
        simp [h, this])]
    by_cases ha : (s.2.any fun q => decide (K q.1 = 9)) = true
    · rw [if_pos ha, if_pos ⟨h9, ha⟩]
    · rw [if_neg ha, if_neg (fun z => ha z.2), if_neg (by omega)]
  · rw [if_neg h9, if_neg (fun z : K j = 9 ∧ _ => h9 z.1)]
    by_cases h88 : K j = 8
    · rw [if_pos h88, if_neg (by omega)]
    · rw [if_neg h88, any_rng (l := s.2) (f := fun q => decide (K q.1 ≤ 7) && eqV V (q.1 + 1) (j + 1)) (fun i c hc => by
        obtain ⟨m0, m1, m2, _⟩ := g4 i c hc
        rw [m1, m2]
        have hc128 := hk c.1
        by_cases h : K c.1 ≤ 7
        · rw [if_pos h]
          have : (decide (nI (K c.1) = nI 5) || decide (nI (K c.1) = nI 6) || decide (nI (K c.1) = nI 7)) = true := by
            rcases (show K c.1 = 5 ∨ K c.1 = 6 ∨ K c.1 = 7 by omega) with z | z | z <;> rw [z] <;> simp
          rw [this]
          simp [h, eqV]
        · have z5 := nI_ne (show K c.1 ≠ 5 by omega) (by omega) (by omega : 5 < 2 ^ 31)
          have z6 := nI_ne (show K c.1 ≠ 6 by omega) (by omega) (by omega : 6 < 2 ^ 31)
          have z7 := nI_ne (show K c.1 ≠ 7 by omega) (by omega) (by omega : 7 < 2 ^ 31)
          simp [h, z5, z6, z7])]
      by_cases ha : (s.2.any fun q => decide (K q.1 ≤ 7) && eqV V (q.1 + 1) (j + 1)) = true
      · rw [if_pos ha, if_pos ⟨by omega, ha⟩]
      · rw [if_neg ha, if_neg (fun z => ha z.2)]
/-- what stands of a clause behind its head -/
theorem cClR (hk : kOK K m) (hP : isP P) (hR1 : R 56 1 = P) (hR2 : R 56 2 = P + 4) {I : Nat → Nat → Int32} {Q : List qPr} {c : qPr} {s : qSt} {C : List oT} {j t : Nat} (hS : oS K V m P I (Q ++ [(c.1, c.2.1, c.2.2.1, c.2.2.2 ++ [s])]) C j) (h7 : I 56 7 = nI (nPr Q)) (h8 : I 56 8 = nI t) (ht8 : t < 8) (htc : exF K (eqV V) (Q ++ [(c.1, c.2.1, c.2.2.1, c.2.2.2 ++ [s])]) = none → t = c.2.2.2.length) : ∃ I' v, jcall A jcode (d + 67) 48 [.ref (b + 56)] (jH h b X I J R n) = some (.inl (some (.int v)), jH h b X I' J R n) ∧ oR2 K V m P I I' v j (pCs K (nPr Q) C j) (fun cl => Q ++ [(c.1, c.2.1, c.2.2.1, c.2.2.2 ++ [(s.1, s.2 ++ [cl])])]) (fun cl => I' 56 7 = nI (nPr Q) ∧ I' 56 8 = nI t ∧ I' 56 4 = I 56 4) := by
  have hpp := isP_e hP
  have hk1 := hk.1
  have hnp : nPr Q < 6 := by unfold nPr; omega
  obtain ⟨p, hpe⟩ : ∃ p, p = nPr Q := ⟨_, rfl⟩
  rw [← hpe] at h7 hnp ⊢
  obtain ⟨ht, hl, hsg, hcl, ha, hCj, hj, hB, h3, h5, hex, hno⟩ := hS
  obtain ⟨k, hk8, hkv⟩ := hB.2.2 (p * 8 + t) (by omega)
  obtain ⟨kv, hkv6, hkvv⟩ := hB.1 p hnp
  have e38 := c38 (d := d + 65) (A := A) (b := b) (h := h) (X := X) (J := J) (R := R) (n := n) (I := I) hk ht ha hj
  have hKj := hk.2.2 j
  rw [pCf_e]
  unfold pCf
  by_cases hK : 5 ≤ K j ∧ K j ≤ 9
  · rw [if_pos hK]
    have hj1 := hk.2.1 j hj (by omega)
    obtain ⟨e, hee⟩ : ∃ e, e = exF K (eqV V) (Q ++ [(c.1, c.2.1, c.2.2.1, c.2.2.2 ++ [s])]) := ⟨_, rfl⟩
    rw [← hee] at h5 hex hno htc
    have e77 := c77 (d := d + 65) (A := A) (b := b) (h := h) (X := X) (J := J) (R := R) (n := n) (I := I) hP hnp ht8 hkv hk8
    have e41 := c41 (d := d + 65) (A := A) (b := b) (h := h) (X := X) (J := J) (R := R) (n := n) (I := I) (t := j) h5 (fun x hx => by have := hex x hx; omega)
    obtain ⟨e1, he1⟩ : ∃ e1, e1 = e.or (if 8 ≤ k then some j else none) := ⟨_, rfl⟩
    obtain ⟨q, hqe⟩ : ∃ q, q = (p * 8 + t) * 8 + min k 7 := ⟨_, rfl⟩
    obtain ⟨I3, hI3⟩ : ∃ I3, I3 = u2 (u2 (u2 I 56 5 (exI e1)) 56 3 (nI (j + 1))) 56 9 (nI q) := ⟨_, rfl⟩
    have f3 : ∀ z i, ¬ (z = 56 ∧ (i = 3 ∨ i = 5 ∨ i = 9)) → I3 z i = I z i := fun z i b1 => by
      rw [hI3]
      simp only [u2_ap]; repeat (rw [if_neg (by omega)])
    have n5 : ¬ nI (K j) < nI 5 := nI_nlt (by omega) (by omega)
    have n9 : nI (K j) ≤ nI 9 := nI_le (by omega) (by omega)
    have e76 := fun I => c76 (d := d + 65) (A := A) (b := b) (h := h) (X := X) (J := J) (R := R) (n := n) (I := I) (p := p) (s := t) hP
    have eA : jcall A jcode (d + 67) 48 [.ref (b + 56)] (jH h b X I J R n) = M48 A (d + 66) 86 [some (.ref (b + 56)), some (.int (nI (K j))), some (.int (nI k)), some (.int (nI (min k 7))), none] [] (jH h b X I3 J R n) := by
      rw [hI3]
      by_cases h88 : 8 ≤ k
      · have hk88 : k = 8 := by omega
        subst hk88
        simp only [Nat.le_refl, if_true] at he1
        rw [he1]
        simp (disch := omega) [je48, r48_0, r48_1, r48_4, r48_5, r48_6, r48_7, r48_10, r48_11, r48_13, r48_16, r48_17, r48_18, r48_19, r48_22, r48_23, r48_26, r48_27, r48_30, r48_33, r48_34, r48_35, r48_37, r48_40, r48_41, r48_42, r48_45, r48_48, r48_49, r48_50, r48_53, r48_54, r48_55, r48_58, r48_59, r48_61, r48_64, r48_65, r48_66, r48_67, r48_70, r48_71, r48_74, r48_75, r48_78, r48_81, r48_82, r48_83, r48_87, r48_88, r48_91, r48_93, r48_94, r48_97, r48_100, r48_101, r48_104, r48_105, r48_106, r48_107, r48_110, r48_113, r48_114, r48_117, r48_119, r48_120, r48_121, r48_124, r48_125, r48_126, r48_127, r48_128, r48_129, r48_131, r48_134, r48_135, r48_137, r48_140, r48_142, r48_145, r48_146, r48_148, r48_151, r48_154, r48_155, r48_158, r48_159, r48_160, r48_161, r48_164, r48_167, r48_168, r48_171, r48_172, r48_175, r48_178, r48_179, r48_180, r48_181, r48_184, qa38, qo38, g56, vf4_1, t56_1, vf4_7, vf4_8, qa77, qo77, gP0 hP, vf4_3, qa41, qo41, p56_3, ty4_3, qa76, qo76, p56_9, ty4_9, qa49, qo49, vf5_13, tP0_13 hP, gP18 hP, pP18 hP, vf4_9, vf5_12, tP0_12 hP, gP17 hP, pP17 hP, qa39, qo39, vf5_17, tP0_17 hP, gP22 hP, pP22 hP, vf4_2, t56_2, gP4 hP, vf1_4, qa53, qo53, List.getElem?_cons_zero, List.getElem?_cons_succ, List.length_cons, List.length_nil, ag_nx, ag_dn, ag_no, ag_if, jbr1, jbr2, jc1, jc2, jnul, jld, jsto, jstoL, jst1, jst2, jkill, jinc, jbI, jbL, jbS, juI, jl2i, jcmp, jisR, jisI, jisL, jret, jretv, jfits, jdup, jdup2, jpop, jmm, jcat, Value.category, jinv, jrcv, jthr, jhd, jput, jget, jlen, jald, jast, jaast, jgI, jgL, jgB, jtab, jlku, jacp, vf20, vf21, vf22, vf23, vf24, u2_s, u2_k, u2_i, uc_s, uc_k, uc_c, u2_c, LI0, LI1, LI2, LI3, LI4, LI5, LI6, LI7, LI8, LI9, LI10, LI11, LI12, LI13, LI14, LI15, LI16, LI17, LI18, LI19, LI20, LI21, LI22, LI23, LI24, LI25, LI26, LI27, LI28, LI29, LI30, LI31, LI32, LI33, LI34, LI35, LI36, LI37, LI40, LI42, LI43, LI45, LI48, LI60, LI61, LI64, LI80, LI300, LI400, LI1000, LI2000, LI2001, LI2047, LI2048, LI100000, LI1000000, LI38, LI39, LI41, LI44, LI46, LI47, LI49, LI50, LI51, LI52, LI53, LI54, LI55, LI56, LI57, LI58, LI59, LI62, LI63, LI65, LI66, LI67, LI68, LI69, LI70, LI71, LI72, LI73, LI74, LI75, LI76, LI77, LI78, LI79, LI81, LI82, LI83, LI84, LI85, LI86, LI87, LI88, LI89, LI90, LI91, LI92, LI93, LI94, LI95, LI96, LI97, LI98, LI99, LI100, LI101, LI102, LI103, LI104, LI105, LI106, LI107, LI108, LI109, LI110, LI111, LI112, LI113, LI114, LI115, LI116, LI117, LI118, LI119, LI120, LI121, LI122, LI123, LI124, LI125, LI126, LI127, LI255, LI256, LI999, LI1001, LI1002, LI1600, LI4096, LI1000001, LI2042, LM, nI_clamp, nI_pos', nI_lt, nI_nlt, nI_le, nI_ge, nI_ne, nI_add, nI_sub, mI_lt, mI_le, mI_nlt, mI_nle, mI_ne, mI_ne', mI_nem, e38, n5, n9, hR1, h7, h8, e77, e41, ha, e76, hqe]
      · rw [if_neg h88, Option.or_none] at he1
        rw [he1, u2_same h5]
        by_cases hk7 : k = 7
        · subst hk7
          simp (disch := omega) [je48, r48_0, r48_1, r48_4, r48_5, r48_6, r48_7, r48_10, r48_11, r48_13, r48_16, r48_17, r48_18, r48_19, r48_22, r48_23, r48_26, r48_27, r48_30, r48_33, r48_34, r48_35, r48_37, r48_40, r48_41, r48_42, r48_45, r48_48, r48_49, r48_50, r48_53, r48_54, r48_55, r48_58, r48_59, r48_61, r48_64, r48_65, r48_66, r48_67, r48_70, r48_71, r48_74, r48_75, r48_78, r48_81, r48_82, r48_83, r48_87, r48_88, r48_91, r48_93, r48_94, r48_97, r48_100, r48_101, r48_104, r48_105, r48_106, r48_107, r48_110, r48_113, r48_114, r48_117, r48_119, r48_120, r48_121, r48_124, r48_125, r48_126, r48_127, r48_128, r48_129, r48_131, r48_134, r48_135, r48_137, r48_140, r48_142, r48_145, r48_146, r48_148, r48_151, r48_154, r48_155, r48_158, r48_159, r48_160, r48_161, r48_164, r48_167, r48_168, r48_171, r48_172, r48_175, r48_178, r48_179, r48_180, r48_181, r48_184, qa38, qo38, g56, vf4_1, t56_1, vf4_7, vf4_8, qa77, qo77, gP0 hP, vf4_3, qa41, qo41, p56_3, ty4_3, qa76, qo76, p56_9, ty4_9, qa49, qo49, vf5_13, tP0_13 hP, gP18 hP, pP18 hP, vf4_9, vf5_12, tP0_12 hP, gP17 hP, pP17 hP, qa39, qo39, vf5_17, tP0_17 hP, gP22 hP, pP22 hP, vf4_2, t56_2, gP4 hP, vf1_4, qa53, qo53, List.getElem?_cons_zero, List.getElem?_cons_succ, List.length_cons, List.length_nil, ag_nx, ag_dn, ag_no, ag_if, jbr1, jbr2, jc1, jc2, jnul, jld, jsto, jstoL, jst1, jst2, jkill, jinc, jbI, jbL, jbS, juI, jl2i, jcmp, jisR, jisI, jisL, jret, jretv, jfits, jdup, jdup2, jpop, jmm, jcat, Value.category, jinv, jrcv, jthr, jhd, jput, jget, jlen, jald, jast, jaast, jgI, jgL, jgB, jtab, jlku, jacp, vf20, vf21, vf22, vf23, vf24, u2_s, u2_k, u2_i, uc_s, uc_k, uc_c, u2_c, LI0, LI1, LI2, LI3, LI4, LI5, LI6, LI7, LI8, LI9, LI10, LI11, LI12, LI13, LI14, LI15, LI16, LI17, LI18, LI19, LI20, LI21, LI22, LI23, LI24, LI25, LI26, LI27, LI28, LI29, LI30, LI31, LI32, LI33, LI34, LI35, LI36, LI37, LI40, LI42, LI43, LI45, LI48, LI60, LI61, LI64, LI80, LI300, LI400, LI1000, LI2000, LI2001, LI2047, LI2048, LI100000, LI1000000, LI38, LI39, LI41, LI44, LI46, LI47, LI49, LI50, LI51, LI52, LI53, LI54, LI55, LI56, LI57, LI58, LI59, LI62, LI63, LI65, LI66, LI67, LI68, LI69, LI70, LI71, LI72, LI73, LI74, LI75, LI76, LI77, LI78, LI79, LI81, LI82, LI83, LI84, LI85, LI86, LI87, LI88, LI89, LI90, LI91, LI92, LI93, LI94, LI95, LI96, LI97, LI98, LI99, LI100, LI101, LI102, LI103, LI104, LI105, LI106, LI107, LI108, LI109, LI110, LI111, LI112, LI113, LI114, LI115, LI116, LI117, LI118, LI119, LI120, LI121, LI122, LI123, LI124, LI125, LI126, LI127, LI255, LI256, LI999, LI1001, LI1002, LI1600, LI4096, LI1000001, LI2042, LM, nI_clamp, nI_pos', nI_lt, nI_nlt, nI_le, nI_ge, nI_ne, nI_add, nI_sub, mI_lt, mI_le, mI_nlt, mI_nle, mI_ne, mI_ne', mI_nem, e38, n5, n9, hR1, h7, h8, e77, ha, e76, hqe]
        · have hm7 : min k 7 = k := by omega
          rw [hm7] at hqe ⊢
          simp (disch := omega) [je48, r48_0, r48_1, r48_4, r48_5, r48_6, r48_7, r48_10, r48_11, r48_13, r48_16, r48_17, r48_18, r48_19, r48_22, r48_23, r48_26, r48_27, r48_30, r48_33, r48_34, r48_35, r48_37, r48_40, r48_41, r48_42, r48_45, r48_48, r48_49, r48_50, r48_53, r48_54, r48_55, r48_58, r48_59, r48_61, r48_64, r48_65, r48_66, r48_67, r48_70, r48_71, r48_74, r48_75, r48_78, r48_81, r48_82, r48_83, r48_87, r48_88, r48_91, r48_93, r48_94, r48_97, r48_100, r48_101, r48_104, r48_105, r48_106, r48_107, r48_110, r48_113, r48_114, r48_117, r48_119, r48_120, r48_121, r48_124, r48_125, r48_126, r48_127, r48_128, r48_129, r48_131, r48_134, r48_135, r48_137, r48_140, r48_142, r48_145, r48_146, r48_148, r48_151, r48_154, r48_155, r48_158, r48_159, r48_160, r48_161, r48_164, r48_167, r48_168, r48_171, r48_172, r48_175, r48_178, r48_179, r48_180, r48_181, r48_184, qa38, qo38, g56, vf4_1, t56_1, vf4_7, vf4_8, qa77, qo77, gP0 hP, vf4_3, qa41, qo41, p56_3, ty4_3, qa76, qo76, p56_9, ty4_9, qa49, qo49, vf5_13, tP0_13 hP, gP18 hP, pP18 hP, vf4_9, vf5_12, tP0_12 hP, gP17 hP, pP17 hP, qa39, qo39, vf5_17, tP0_17 hP, gP22 hP, pP22 hP, vf4_2, t56_2, gP4 hP, vf1_4, qa53, qo53, List.getElem?_cons_zero, List.getElem?_cons_succ, List.length_cons, List.length_nil, ag_nx, ag_dn, ag_no, ag_if, jbr1, jbr2, jc1, jc2, jnul, jld, jsto, jstoL, jst1, jst2, jkill, jinc, jbI, jbL, jbS, juI, jl2i, jcmp, jisR, jisI, jisL, jret, jretv, jfits, jdup, jdup2, jpop, jmm, jcat, Value.category, jinv, jrcv, jthr, jhd, jput, jget, jlen, jald, jast, jaast, jgI, jgL, jgB, jtab, jlku, jacp, vf20, vf21, vf22, vf23, vf24, u2_s, u2_k, u2_i, uc_s, uc_k, uc_c, u2_c, LI0, LI1, LI2, LI3, LI4, LI5, LI6, LI7, LI8, LI9, LI10, LI11, LI12, LI13, LI14, LI15, LI16, LI17, LI18, LI19, LI20, LI21, LI22, LI23, LI24, LI25, LI26, LI27, LI28, LI29, LI30, LI31, LI32, LI33, LI34, LI35, LI36, LI37, LI40, LI42, LI43, LI45, LI48, LI60, LI61, LI64, LI80, LI300, LI400, LI1000, LI2000, LI2001, LI2047, LI2048, LI100000, LI1000000, LI38, LI39, LI41, LI44, LI46, LI47, LI49, LI50, LI51, LI52, LI53, LI54, LI55, LI56, LI57, LI58, LI59, LI62, LI63, LI65, LI66, LI67, LI68, LI69, LI70, LI71, LI72, LI73, LI74, LI75, LI76, LI77, LI78, LI79, LI81, LI82, LI83, LI84, LI85, LI86, LI87, LI88, LI89, LI90, LI91, LI92, LI93, LI94, LI95, LI96, LI97, LI98, LI99, LI100, LI101, LI102, LI103, LI104, LI105, LI106, LI107, LI108, LI109, LI110, LI111, LI112, LI113, LI114, LI115, LI116, LI117, LI118, LI119, LI120, LI121, LI122, LI123, LI124, LI125, LI126, LI127, LI255, LI256, LI999, LI1001, LI1002, LI1600, LI4096, LI1000001, LI2042, LM, nI_clamp, nI_pos', nI_lt, nI_nlt, nI_le, nI_ge, nI_ne, nI_add, nI_sub, mI_lt, mI_le, mI_nlt, mI_nle, mI_ne, mI_ne', mI_nem, e38, n5, n9, hR1, h7, h8, e77, ha, e76, hqe, show k < 7 by omega]
    rw [eA]
    have t3 : tkc K V m I3 := fun i hi => by rw [f3 5 i (by omega), f3 7 i (by omega)]; exact ht i hi
    have s35 : I3 56 5 = exI e1 := by rw [hI3, u2_i (by omega), u2_i (by omega), u2_s]
    have hlt1 : ∀ x, e1 = some x → x < j + 1 := by rw [he1]; exact or_lt hex (by omega) (by omega)
    have hq384 : q < 384 := by omega
    obtain ⟨I4, v4, e4, h4⟩ := c49 (d := d + 18) (A := A) (b := b) (h := h) (X := X) (J := J) (R := R) (n := n) (I := I3) (V := V) (p := p) (q := q) (t := t) (k := k) (kv := kv) (L := C.length) hk hP hR1 hR2 t3 (by rw [hI3, u2_i (by omega), u2_s]) hj1 (by rw [f3 _ _ (by omega)]; exact h7) hnp (by rw [f3 _ _ (by omega)]; exact h8) ht8 (by rw [hI3, u2_s]) hq384 (by omega) (by rw [f3 _ _ (by omega)]; exact hkv) hk8 (by rw [f3 _ _ (by omega)]; exact hkvv) hkv6 s35 (fun x hx => by have := hlt1 x hx; omega) (by rw [f3 _ _ (by omega)]; exact hcl) hCj hK
    rw [show d + 18 + 48 = d + 66 from rfl] at e4
    have fO3 : fO P I I3 := fun z i b1 b2 b3 => f3 z i (by omega)
    have hkj7 : ∀ {v : Int32}, v = nI 0 ∨ v = nI 1 → ∀ I4 : Nat → Nat → Int32, I4 56 7 = nI p → I4 56 8 = nI t → I4 56 9 = nI q → True := fun _ _ _ _ _ => trivial
    rcases h4 with ⟨io, l, j', b1, rfl, b2, b3, b4, g3, g5, g5', g19, g20, g6, gio, g21, g4, gs, gf⟩ | ⟨j', b1, rfl, hF, b2, hKp⟩
    · have s47 : I4 56 7 = nI p := by rw [gf _ _ (by omega) (by omega) (by omega) (by omega), f3 _ _ (by omega)]; exact h7
      have s48 : I4 56 8 = nI t := by rw [gf _ _ (by omega) (by omega) (by omega) (by omega), f3 _ _ (by omega)]; exact h8
      have s49 : I4 56 9 = nI q := by rw [gf _ _ (by omega) (by omega) (by omega) (by omega), hI3, u2_s]
      obtain ⟨I5, hI5⟩ : ∃ I5, I5 = u2 (u2 I4 (P + 18) q (nI (K j))) (P + 17) (p * 8 + t) (nI (min k 7 + 1)) := ⟨_, rfl⟩
      have f5 : ∀ z i, ¬ (z = P + 18 ∧ i = q) → ¬ (z = P + 17 ∧ i = p * 8 + t) → I5 z i = I4 z i := fun z i b1 b2 => by
        rw [hI5]
        simp only [u2_ap]; repeat (rw [if_neg (by omega)])
      have f5I : ∀ z i, ¬ (z = 56 ∧ (i = 3 ∨ i = 5 ∨ i = 6 ∨ i = 9)) → ¬ (z = P + 4 ∧ i = 4) → ¬ (P + 5 ≤ z ∧ z ≤ P + 8 ∧ C.length ≤ i) → ¬ (P + 18 ≤ z ∧ z ≤ P + 22 ∧ i = q) → ¬ (z = P + 17 ∧ i = p * 8 + t) → I5 z i = I z i := fun z i c1 c2 c3 c4 c5 => by
        rw [f5 z i (by omega) c5, gf z i (by omega) c2 c3 (by omega), f3 z i (by omega)]
      have t5 : tkc K V m I5 := fun i hi => by rw [f5I 5 i (by omega) (by omega) (by omega) (by omega) (by omega), f5I 7 i (by omega) (by omega) (by omega) (by omega) (by omega)]; exact ht i hi
      have a5 : I5 56 3 = nI j' := by rw [f5 _ _ (by omega) (by omega)]; exact g3
      have q18 : I5 (P + 18) q = nI (K j) := by rw [hI5, u2_k (by omega), u2_s]
      have q17 : I5 (P + 17) (p * 8 + t) = nI (min k 7 + 1) := by rw [hI5, u2_s]
      have s54 : I5 (P + 4) 4 = nI (C ++ l).length := by rw [f5 _ _ (by omega) (by omega), g4, List.length_append]
      have seg5 : seg V P I5 0 (C ++ l) := by
        refine seg_app ?_ ?_
        · intro i x hx
          have hi := lt_some hx
          have := hsg i x hx
          unfold sg1 at this ⊢
          rw [f5I _ _ (by omega) (by omega) (by omega) (by omega) (by omega), f5I _ _ (by omega) (by omega) (by omega) (by omega) (by omega), f5I _ _ (by omega) (by omega) (by omega) (by omega) (by omega), f5I _ _ (by omega) (by omega) (by omega) (by omega) (by omega)]
          exact this
        · rw [Nat.zero_add]
          exact seg_fr (fun z i c1 c2 => f5 z i (by omega) (by omega)) gs
      -- what holds behind it, whatever its body is
      have KEY : ∀ (I' : Nat → Nat → Int32) (cl : qCl) (C' : List oT) (jn : Nat), cl.1 = j → cl.2.1 = io → (K j = 8 → cl.2.2.1.1 = C.length) → (K j ≠ 7 → I' (P + 22) q = nI cl.2.2.2.1) → (∀ z i, ¬ (z = 56 ∧ i = 3) → ¬ (P + 4 ≤ z ∧ z ≤ P + 8) → ¬ (z = P + 22 ∧ i = q) → I' z i = I5 z i) → I' 56 3 = nI jn → j' ≤ jn → jn ≤ m → I' (P + 4) 4 = nI C'.length → seg V P I' 0 C' → C'.length ≤ jn → oS K V m P I' (Q ++ [(c.1, c.2.1, c.2.2.1, c.2.2.2 ++ [(s.1, s.2 ++ [cl])])]) C' jn ∧ fO P I I' ∧ I' 56 7 = nI p ∧ I' 56 8 = nI t ∧ I' 56 4 = I 56 4 := by
        intro I' cl C' jn c1 c2 c3 c4 f6 a6 hjn hjm l6 sg6 hC6
        have fI : ∀ z i, ¬ (z = 56 ∧ (i = 3 ∨ i = 5 ∨ i = 6 ∨ i = 9)) → ¬ (P + 4 ≤ z ∧ z ≤ P + 8) → ¬ (P + 18 ≤ z ∧ z ≤ P + 22 ∧ i = q) → ¬ (z = P + 17 ∧ i = p * 8 + t) → I' z i = I z i := fun z i d1 d2 d3 d4 => by
          rw [f6 z i (by omega) d2 (by omega), f5I z i d1 (by omega) (by omega) d3 d4]
        have fOI : fO P I I' := fun z i d1 d2 d3 => fI z i (by omega) (by omega) (by omega) (by omega)
        obtain ⟨clT, clI, clB⟩ := cl
        simp only at c1 c2 c3 c4
        subst c1
        subst c2
        have hex2 : exF K (eqV V) (Q ++ [(c.1, c.2.1, c.2.2.1, c.2.2.2 ++ [(s.1, s.2 ++ [(clT, clI, clB)])])]) = e.or (ckC K (eqV V) s.2 (clT, clI, clB)) := by rw [exF_cl, hee]
        -- when nothing was too much before
        have hrow : e = none → p = Q.length ∧ t = c.2.2.2.length ∧ mS K V P I (Q ++ [(c.1, c.2.1, c.2.2.1, c.2.2.2 ++ [s])]) ∧ k = s.2.length ∧ mQ K V P I c.2.1 p t s ∧ kv = c.2.1.length := by
          intro hen
          have hm := (hno hen).2.2
          have hq := nPr_e hm
          obtain ⟨m1, m2, m3, m4, m5, m6, m7, m8⟩ := mS_last hm
          have hte := htc hen
          have hmq := m7 c.2.2.2.length s (by simp)
          have hp2 : p = Q.length := hpe.trans hq.1
          rw [← hp2] at hmq m4
          rw [← hte] at hmq
          refine ⟨hp2, hte, hm, ?_, hmq, ?_⟩
          · have := hmq.2.1.symm.trans hkv
            rw [nI_eq (by have := hmq.2.2.1; omega) (by omega)] at this
            exact this.symm
          · have m41 : I (P + 12) p = nI c.2.1.length := m4.1
            have := m41.symm.trans hkvv
            rw [nI_eq (by have : c.2.1.length ≤ 6 := m4.2.1; omega) (by omega)] at this
            exact this.symm
        have x5 : I' 56 5 = exI (e.or (ckC K (eqV V) s.2 (clT, clI, clB))) := by
          rw [f6 _ _ (by omega) (by omega) (by omega), f5 _ _ (by omega) (by omega)]
          cases hen : e with
          | some x =>
            obtain ⟨e', z1, z2, z3⟩ := g5'
            rw [z1, z2 x (by rw [he1, hen]; rfl)]
            rfl
          | none =>
            obtain ⟨r1, r2, r3, r4, r5, r6⟩ := hrow hen
            simp only [Option.none_or]
            by_cases h88 : 8 ≤ k
            · obtain ⟨e', z1, z2, z3⟩ := g5'
              rw [z1, z2 clT (by rw [he1, hen, if_pos h88]; rfl)]
              unfold ckC
              rw [if_pos (by omega)]
            · rw [g5 (by omega), he1, hen, if_neg h88]
              simp only [Option.or_none, Option.none_or]
              have hq3 : hdE K V P p t k clT I3 = hdE K V P p t k clT I := by
                unfold hdE
                have : ∀ i, I3 (P + 18) i = I (P + 18) i ∧ I3 (P + 19) i = I (P + 19) i := fun i => ⟨f3 _ _ (by omega), f3 _ _ (by omega)⟩
                simp only [(this _).1, (this _).2]
              rw [hq3, r4, hdE_ck hK r5 (by omega) hk.2.2]
        refine ⟨⟨tkc_O hP fOI ht, ?_, sg6, l6, a6, hC6, hjm, ?_, ?_, by rw [hex2]; exact x5, ?_, ?_⟩, fOI, ?_, ?_, ?_⟩
        · rw [fI _ _ (by omega) (by omega) (by omega) (by omega)]; exact hl
        · obtain ⟨B1, B2, B3⟩ := hB
          refine ⟨fun z hz => ?_, fun z hz => ?_, fun z hz => ?_⟩
          · obtain ⟨k', z1, z2⟩ := B1 z hz
            exact ⟨k', z1, by rw [fI _ _ (by omega) (by omega) (by omega) (by omega)]; exact z2⟩
          · obtain ⟨k', z1, z2⟩ := B2 z hz
            exact ⟨k', z1, by rw [fI _ _ (by omega) (by omega) (by omega) (by omega)]; exact z2⟩
          · by_cases hzq : z = p * 8 + t
            · subst hzq
              exact ⟨min k 7 + 1, by omega, by rw [f6 _ _ (by omega) (by omega) (by omega)]; exact q17⟩
            · obtain ⟨k', z1, z2⟩ := B3 z hz
              exact ⟨k', z1, by rw [fI _ _ (by omega) (by omega) (by omega) (by omega)]; exact z2⟩
        · rw [fI _ _ (by omega) (by omega) (by omega) (by omega), h3]
          simp
        · intro x hx
          rw [hex2] at hx
          cases hen : e with
          | some y => rw [hen] at hx; simp at hx; have := hex y hen; omega
          | none =>
            rw [hen] at hx
            simp only [Option.none_or] at hx
            have hx2 : x = clT ∨ x = clT + 1 ∧ K clT ≤ 7 := by
              unfold ckC at hx
              simp only at hx
              split at hx
              · cases hx; exact Or.inl rfl
              · split at hx
                · cases hx; exact Or.inl rfl
                · split at hx
                  · next hz => cases hx; exact Or.inr ⟨rfl, hz.1⟩
                  · cases hx
            have hj2 : K clT ≤ 7 → clT + 1 < j' := by
              intro hz
              unfold pHc at b1
              rw [if_neg (by omega), if_neg (by omega)] at b1
              by_cases w1 : K (clT + 1) = 26
              · rw [if_pos w1] at b1
                by_cases w2 : K clT ≠ 7 ∧ K (clT + 2) = 40
                · rw [if_pos w2] at b1
                  by_cases w3 : K (clT + 3) = 26
                  · rw [if_pos w3] at b1
                    by_cases w4 : K (clT + 4) = 41
                    · rw [if_pos w4] at b1; cases b1; omega
                    · rw [if_neg w4] at b1; cases b1
                  · rw [if_neg w3] at b1; cases b1
                · rw [if_neg w2] at b1; cases b1; omega
              · rw [if_neg w1] at b1; cases b1
            rcases hx2 with hx2 | ⟨hx2, hx3⟩
            · omega
            · have := hj2 hx3; omega
        · intro hx
          rw [hex2] at hx
          obtain ⟨hen, hck⟩ := or_no hx
          obtain ⟨r1, r2, r3, r4, r5, r6⟩ := hrow hen
          obtain ⟨hu, hul, hm⟩ := hno hen
          have hml := mS_last hm
          obtain ⟨m1, m2, m3, m4, m5, m6, m7, m8⟩ := hml
          have hlk : s.2.length < 8 := by
            unfold ckC at hck
            rcases Nat.lt_or_ge s.2.length 8 with z | z
            · exact z
            · rw [if_pos z] at hck; cases hck
          have hmk : min k 7 = k := by omega
          have hinV : ∀ v, inV V P p kv v I3 = c.2.1.findIdx? (fun x => eqV V x v) := by
            intro v
            unfold inV
            rw [r6]
            refine fdP_ix (fun i a ha => ?_)
            rw [f3 _ _ (by omega), r1]
            rw [(m4.2.2 i a ha).1]
            rfl
          rw [unF_cl]
          refine ⟨?_, ?_, mS_upd hm (fun z i d1 d2 d3 => ?_) ?_⟩
          · rw [f6 _ _ (by omega) (by omega) (by omega), f5 _ _ (by omega) (by omega), g6]
            have hu3 : I3 56 6 = I 56 6 := f3 _ _ (by omega)
            rw [hu3, hu]
            unfold unC
            simp only
            cases clI with
            | none => simp
            | some v =>
              have hv := gio v rfl
              simp only
              rw [hinV v]
              have hany : (c.2.1.findIdx? (fun x => eqV V x v) = none) ↔ ¬ (c.2.1.any (fun x => eqV V x v) = true) := by
                rw [List.findIdx?_eq_none_iff, List.any_eq_true]
                constructor
                · rintro z ⟨x, z1, z2⟩
                  rw [z x z1] at z2; cases z2
                · intro z x z1
                  cases hz : eqV V x v with
                  | false => rfl
                  | true => exact absurd ⟨x, z1, hz⟩ z
              by_cases hf : c.2.1.any (fun x => eqV V x v) = true
              · rw [if_pos hf, if_neg (fun z => hany.mp z.1 hf), Option.or_none]
              · rw [if_neg hf]
                cases hun : unF (eqV V) (Q ++ [(c.1, c.2.1, c.2.2.1, c.2.2.2 ++ [s])]) with
                | none => rw [if_pos ⟨hany.mpr hf, Or.inl rfl⟩]; rfl
                | some y =>
                  have := hul y hun
                  rw [if_neg (fun z => by
                    rcases z.2 with z2 | z2
                    · exact absurd z2 (mI_ne (by omega) (by omega) (by omega))
                    · exact absurd z2 (nI_nlt (by omega) (by omega)))]
                  rfl
          · intro x hx
            cases hun : unF (eqV V) (Q ++ [(c.1, c.2.1, c.2.2.1, c.2.2.2 ++ [s])]) with
            | some y => rw [hun] at hx; simp at hx; have := hul y hun; omega
            | none =>
              rw [hun] at hx
              simp only [Option.none_or] at hx
              unfold unC at hx
              simp only at hx
              cases clI with
              | none => cases hx
              | some v =>
                have hv := gio v rfl
                simp only at hx
                split at hx
                · cases hx
                · cases hx; omega
          · unfold pix at d3
            refine fI z i (by omega) (by omega) (fun zz => ?_) (fun zz => ?_)
            · rw [if_neg (by omega), if_neg (by omega), if_pos (by omega)] at d3; omega
            · rw [if_neg (by omega), if_pos (by omega)] at d3; omega
          · rw [← r1]
            rw [← r1] at m1 m2 m3 m4 m5 m7 m8
            refine ⟨?_, ?_, ?_, mL_fr ?_ ?_ m4, ?_, ?_, ?_, ?_⟩
            · rw [fI _ _ (by omega) (by omega) (by omega) (by omega)]; exact m1
            · rw [fI _ _ (by omega) (by omega) (by omega) (by omega)]; exact m2
            · rw [fI _ _ (by omega) (by omega) (by omega) (by omega)]; exact m3
            · rw [fI _ _ (by omega) (by omega) (by omega) (by omega)]
            · intro z i d1 d2; rw [fI _ _ (by omega) (by omega) (by omega) (by omega)]
            · rw [fI _ _ (by omega) (by omega) (by omega) (by omega)]
              rw [m5]; simp
            · simpa using m6
            · intro i s' hs'
              rcases Nat.lt_or_ge i c.2.2.2.length with hi | hi
              · rw [List.getElem?_append_left hi] at hs'
                refine mQ_fr ?_ ?_ ?_ (m7 i s' (by rw [List.getElem?_append_left hi]; exact hs'))
                · rw [fI _ _ (by omega) (by omega) (by omega) (by omega)]
                · rw [fI _ _ (by omega) (by omega) (by omega) (by omega)]
                · intro z i' d1 d2 d3; rw [fI _ _ (by omega) (by omega) (by omega) (by omega)]
              · rw [List.getElem?_append_right hi] at hs'
                have hp0 := lt_some hs'
                simp at hp0
                rw [show i - c.2.2.2.length = 0 by omega] at hs'
                simp at hs'
                subst hs'
                have hit : i = t := by omega
                rw [hit]
                obtain ⟨w1, w2, w3, w4⟩ := r5
                refine ⟨?_, ?_, by simp; omega, fun i' c' hc' => ?_⟩
                · rw [fI _ _ (by omega) (by omega) (by omega) (by omega)]; exact w1
                · rw [f6 _ _ (by omega) (by omega) (by omega), q17, hmk, r4]; simp
                · rcases Nat.lt_or_ge i' s.2.length with hi' | hi'
                  · rw [List.getElem?_append_left hi'] at hc'
                    refine mC_fr (fun z d1 d2 => ?_) (w4 i' c' hc')
                    rw [fI _ _ (by omega) (by omega) (by omega) (by omega)]
                  · rw [List.getElem?_append_right hi'] at hc'
                    have hp1 := lt_some hc'
                    simp at hp1
                    rw [show i' - s.2.length = 0 by omega] at hc'
                    simp at hc'
                    subst hc'
                    have hiq : (p * 8 + t) * 8 + i' = q := by omega
                    rw [hiq]
                    refine ⟨hK, ?_, ?_, ?_, ?_, ?_⟩
                    · rw [f6 _ _ (by omega) (by omega) (by omega)]; exact q18
                    · rw [f6 _ _ (by omega) (by omega) (by omega), f5 _ _ (by omega) (by omega)]; exact g19
                    · rw [f6 _ _ (by omega) (by omega) (by omega), f5 _ _ (by omega) (by omega), g20]
                      cases clI with
                      | none => rfl
                      | some v => simp only; rw [hinV v]
                    · intro hz
                      rw [f6 _ _ (by omega) (by omega) (by omega), f5 _ _ (by omega) (by omega), g21 hz]
                      simp only
                      rw [c3 hz]
                    · intro hz
                      exact c4 hz
            · intro i d1 d2
              simp at d1
              rw [fI _ _ (by omega) (by omega) (by omega) (by omega)]
              exact m8 i (by simp; omega) d2
        · rw [fI _ _ (by omega) (by omega) (by omega) (by omega)]; exact h7
        · rw [fI _ _ (by omega) (by omega) (by omega) (by omega)]; exact h8
        · rw [fI _ _ (by omega) (by omega) (by omega) (by omega)]
      rw [b1]
      simp only
      by_cases h77 : K j = 7
      · rw [if_pos h77]
        have hl0 : l = [] := by
          unfold pHc at b1
          rw [if_neg (by omega), if_neg (by omega)] at b1
          by_cases w1 : K (j + 1) = 26
          · rw [if_pos w1, if_neg (fun z => z.1 h77)] at b1; cases b1; rfl
          · rw [if_neg w1] at b1; cases b1
        have hio : io = none := by
          unfold pHc at b1
          rw [if_neg (by omega), if_neg (by omega)] at b1
          by_cases w1 : K (j + 1) = 26
          · rw [if_pos w1, if_neg (fun z => z.1 h77)] at b1; cases b1; rfl
          · rw [if_neg w1] at b1; cases b1
        by_cases h59 : K j' = 59
        · rw [if_pos h59]
          have hj' := hk.2.1 j' b3 (by rw [h59]; decide)
          have e9 := c39y (d := d + 65) (A := A) (b := b) (h := h) (X := X) (J := J) (R := R) (n := n) (I := I5) hk t5 a5 b3 h59
          have := KEY (u2 I5 56 3 (nI (j' + 1))) (j, none, (0, []), (0, [])) C (j' + 1) rfl hio.symm (fun z => absurd z (by omega)) (fun z => absurd h77 z) (fun z i d1 d2 d3 => by simp only [u2_ap]; repeat (rw [if_neg (by omega)])) u2_s (by omega) (by omega) (by rw [u2_k (by omega), s54, hl0, List.append_nil]) (by rw [hl0, List.append_nil] at seg5; exact seg_u (by omega) seg5) (by omega)
          refine ⟨_, nI 1, ?_, Or.inr ⟨_, j' + 1, C, rfl, rfl, by omega, this.1, this.2.1, this.2.2⟩⟩
          rw [h77] at hI5 e4 ⊢
          simp (disch := omega) [r48_0, r48_1, r48_4, r48_5, r48_6, r48_7, r48_10, r48_11, r48_13, r48_16, r48_17, r48_18, r48_19, r48_22, r48_23, r48_26, r48_27, r48_30, r48_33, r48_34, r48_35, r48_37, r48_40, r48_41, r48_42, r48_45, r48_48, r48_49, r48_50, r48_53, r48_54, r48_55, r48_58, r48_59, r48_61, r48_64, r48_65, r48_66, r48_67, r48_70, r48_71, r48_74, r48_75, r48_78, r48_81, r48_82, r48_83, r48_86, r48_87, r48_88, r48_91, r48_93, r48_94, r48_97, r48_100, r48_101, r48_104, r48_105, r48_106, r48_107, r48_110, r48_113, r48_114, r48_117, r48_119, r48_120, r48_121, r48_124, r48_125, r48_126, r48_127, r48_128, r48_129, r48_131, r48_134, r48_135, r48_137, r48_140, r48_142, r48_145, r48_146, r48_148, r48_151, r48_154, r48_155, r48_158, r48_159, r48_160, r48_161, r48_164, r48_167, r48_168, r48_171, r48_172, r48_175, r48_178, r48_179, r48_180, r48_181, r48_184, qa38, qo38, g56, vf4_1, t56_1, vf4_7, vf4_8, qa77, qo77, gP0 hP, vf4_3, qa41, qo41, p56_3, ty4_3, qa76, qo76, p56_9, ty4_9, qa49, qo49, vf5_13, tP0_13 hP, gP18 hP, pP18 hP, vf4_9, vf5_12, tP0_12 hP, gP17 hP, pP17 hP, qa39, qo39, vf5_17, tP0_17 hP, gP22 hP, pP22 hP, vf4_2, t56_2, gP4 hP, vf1_4, qa53, qo53, List.getElem?_cons_zero, List.getElem?_cons_succ, List.length_cons, List.length_nil, ag_nx, ag_dn, ag_no, ag_if, jbr1, jbr2, jc1, jc2, jnul, jld, jsto, jstoL, jst1, jst2, jkill, jinc, jbI, jbL, jbS, juI, jl2i, jcmp, jisR, jisI, jisL, jret, jretv, jfits, jdup, jdup2, jpop, jmm, jcat, Value.category, jinv, jrcv, jthr, jhd, jput, jget, jlen, jald, jast, jaast, jgI, jgL, jgB, jtab, jlku, jacp, vf20, vf21, vf22, vf23, vf24, u2_s, u2_k, u2_i, uc_s, uc_k, uc_c, u2_c, LI0, LI1, LI2, LI3, LI4, LI5, LI6, LI7, LI8, LI9, LI10, LI11, LI12, LI13, LI14, LI15, LI16, LI17, LI18, LI19, LI20, LI21, LI22, LI23, LI24, LI25, LI26, LI27, LI28, LI29, LI30, LI31, LI32, LI33, LI34, LI35, LI36, LI37, LI40, LI42, LI43, LI45, LI48, LI60, LI61, LI64, LI80, LI300, LI400, LI1000, LI2000, LI2001, LI2047, LI2048, LI100000, LI1000000, LI38, LI39, LI41, LI44, LI46, LI47, LI49, LI50, LI51, LI52, LI53, LI54, LI55, LI56, LI57, LI58, LI59, LI62, LI63, LI65, LI66, LI67, LI68, LI69, LI70, LI71, LI72, LI73, LI74, LI75, LI76, LI77, LI78, LI79, LI81, LI82, LI83, LI84, LI85, LI86, LI87, LI88, LI89, LI90, LI91, LI92, LI93, LI94, LI95, LI96, LI97, LI98, LI99, LI100, LI101, LI102, LI103, LI104, LI105, LI106, LI107, LI108, LI109, LI110, LI111, LI112, LI113, LI114, LI115, LI116, LI117, LI118, LI119, LI120, LI121, LI122, LI123, LI124, LI125, LI126, LI127, LI255, LI256, LI999, LI1001, LI1002, LI1600, LI4096, LI1000001, LI2042, LM, nI_clamp, nI_pos', nI_lt, nI_nlt, nI_le, nI_ge, nI_ne, nI_add, nI_sub, mI_lt, mI_le, mI_nlt, mI_nle, mI_ne, mI_ne', mI_nem, nI_mul, e4, hR1, s47, s48, s49, hq384, show p * 8 + t < 48 by omega, ← hI5, e9]
        · rw [if_neg h59]
          have e9 := c39n (d := d + 65) (A := A) (b := b) (h := h) (X := X) (J := J) (R := R) (n := n) (I := I5) (k := 59) hk t5 a5 b3 (by omega) h59
          refine ⟨I5, nI 0, ?_, Or.inl ⟨j', C, rfl, rfl, ⟨a5, fun z i d1 d2 d3 => f5I z i (by omega) (by omega) (by omega) (by omega) (by omega)⟩, b3⟩⟩
          rw [h77] at hI5 e4 ⊢
          simp (disch := omega) [r48_0, r48_1, r48_4, r48_5, r48_6, r48_7, r48_10, r48_11, r48_13, r48_16, r48_17, r48_18, r48_19, r48_22, r48_23, r48_26, r48_27, r48_30, r48_33, r48_34, r48_35, r48_37, r48_40, r48_41, r48_42, r48_45, r48_48, r48_49, r48_50, r48_53, r48_54, r48_55, r48_58, r48_59, r48_61, r48_64, r48_65, r48_66, r48_67, r48_70, r48_71, r48_74, r48_75, r48_78, r48_81, r48_82, r48_83, r48_86, r48_87, r48_88, r48_91, r48_93, r48_94, r48_97, r48_100, r48_101, r48_104, r48_105, r48_106, r48_107, r48_110, r48_113, r48_114, r48_117, r48_119, r48_120, r48_121, r48_124, r48_125, r48_126, r48_127, r48_128, r48_129, r48_131, r48_134, r48_135, r48_137, r48_140, r48_142, r48_145, r48_146, r48_148, r48_151, r48_154, r48_155, r48_158, r48_159, r48_160, r48_161, r48_164, r48_167, r48_168, r48_171, r48_172, r48_175, r48_178, r48_179, r48_180, r48_181, r48_184, qa38, qo38, g56, vf4_1, t56_1, vf4_7, vf4_8, qa77, qo77, gP0 hP, vf4_3, qa41, qo41, p56_3, ty4_3, qa76, qo76, p56_9, ty4_9, qa49, qo49, vf5_13, tP0_13 hP, gP18 hP, pP18 hP, vf4_9, vf5_12, tP0_12 hP, gP17 hP, pP17 hP, qa39, qo39, vf5_17, tP0_17 hP, gP22 hP, pP22 hP, vf4_2, t56_2, gP4 hP, vf1_4, qa53, qo53, List.getElem?_cons_zero, List.getElem?_cons_succ, List.length_cons, List.length_nil, ag_nx, ag_dn, ag_no, ag_if, jbr1, jbr2, jc1, jc2, jnul, jld, jsto, jstoL, jst1, jst2, jkill, jinc, jbI, jbL, jbS, juI, jl2i, jcmp, jisR, jisI, jisL, jret, jretv, jfits, jdup, jdup2, jpop, jmm, jcat, Value.category, jinv, jrcv, jthr, jhd, jput, jget, jlen, jald, jast, jaast, jgI, jgL, jgB, jtab, jlku, jacp, vf20, vf21, vf22, vf23, vf24, u2_s, u2_k, u2_i, uc_s, uc_k, uc_c, u2_c, LI0, LI1, LI2, LI3, LI4, LI5, LI6, LI7, LI8, LI9, LI10, LI11, LI12, LI13, LI14, LI15, LI16, LI17, LI18, LI19, LI20, LI21, LI22, LI23, LI24, LI25, LI26, LI27, LI28, LI29, LI30, LI31, LI32, LI33, LI34, LI35, LI36, LI37, LI40, LI42, LI43, LI45, LI48, LI60, LI61, LI64, LI80, LI300, LI400, LI1000, LI2000, LI2001, LI2047, LI2048, LI100000, LI1000000, LI38, LI39, LI41, LI44, LI46, LI47, LI49, LI50, LI51, LI52, LI53, LI54, LI55, LI56, LI57, LI58, LI59, LI62, LI63, LI65, LI66, LI67, LI68, LI69, LI70, LI71, LI72, LI73, LI74, LI75, LI76, LI77, LI78, LI79, LI81, LI82, LI83, LI84, LI85, LI86, LI87, LI88, LI89, LI90, LI91, LI92, LI93, LI94, LI95, LI96, LI97, LI98, LI99, LI100, LI101, LI102, LI103, LI104, LI105, LI106, LI107, LI108, LI109, LI110, LI111, LI112, LI113, LI114, LI115, LI116, LI117, LI118, LI119, LI120, LI121, LI122, LI123, LI124, LI125, LI126, LI127, LI255, LI256, LI999, LI1001, LI1002, LI1600, LI4096, LI1000001, LI2042, LM, nI_clamp, nI_pos', nI_lt, nI_nlt, nI_le, nI_ge, nI_ne, nI_add, nI_sub, mI_lt, mI_le, mI_nlt, mI_nle, mI_ne, mI_ne', mI_nem, nI_mul, e4, hR1, s47, s48, s49, hq384, show p * 8 + t < 48 by omega, ← hI5, e9]
      · rw [if_neg h77]
        have n7 : ¬ nI (K j) = nI 7 := nI_ne h77 (by omega) (by omega)
        obtain ⟨LL, hLL⟩ : ∃ LL, LL = (C ++ l).length := ⟨_, rfl⟩
        rw [← hLL] at s54
        obtain ⟨I6, hI6⟩ : ∃ I6, I6 = u2 I5 (P + 22) q (nI LL) := ⟨_, rfl⟩
        have f6 : ∀ z i, ¬ (z = P + 22 ∧ i = q) → I6 z i = I5 z i := fun z i d1 => by
          rw [hI6]
          simp only [u2_ap]; repeat (rw [if_neg (by omega)])
        have s57 : I5 56 7 = nI p := by rw [f5 _ _ (by omega) (by omega)]; exact s47
        have s59 : I5 56 9 = nI q := by rw [f5 _ _ (by omega) (by omega)]; exact s49
        have X6 : cX K V m p I6 := ⟨by rw [hI6]; exact tkc_u (by omega) t5, by rw [f6 _ _ (by omega)]; exact s57⟩
        obtain ⟨I7, v7, e7, h7'⟩ := cBody (A := A) (b := b) (h := h) (X := X) (J := J) (R := R) (n := n) (V := V) (pr := p) hk hP hR2 d I6 LL j' X6 (by rw [f6 _ _ (by omega)]; exact a5) b3 (by rw [f6 _ _ (by omega)]; exact s54) (by rw [hLL, List.length_append]; omega)
        have o7 := bO_ok (pr := p) hk.2.1 (L := LL) b3
        have eC : M48 A (d + 66) 86 [some (.ref (b + 56)), some (.int (nI (K j))), some (.int (nI k)), some (.int (nI (min k 7))), none] [] (jH h b X I3 J R n) = some (.inl (some (.int v7)), jH h b X I7 J R n) := by
          rcases h7' with ⟨_, _, hv, _⟩ | ⟨_, _, _, hv, _⟩
          · subst hv
            simp (disch := omega) [r48_0, r48_1, r48_4, r48_5, r48_6, r48_7, r48_10, r48_11, r48_13, r48_16, r48_17, r48_18, r48_19, r48_22, r48_23, r48_26, r48_27, r48_30, r48_33, r48_34, r48_35, r48_37, r48_40, r48_41, r48_42, r48_45, r48_48, r48_49, r48_50, r48_53, r48_54, r48_55, r48_58, r48_59, r48_61, r48_64, r48_65, r48_66, r48_67, r48_70, r48_71, r48_74, r48_75, r48_78, r48_81, r48_82, r48_83, r48_86, r48_87, r48_88, r48_91, r48_93, r48_94, r48_97, r48_100, r48_101, r48_104, r48_105, r48_106, r48_107, r48_110, r48_113, r48_114, r48_117, r48_119, r48_120, r48_121, r48_124, r48_125, r48_126, r48_127, r48_128, r48_129, r48_131, r48_134, r48_135, r48_137, r48_140, r48_142, r48_145, r48_146, r48_148, r48_151, r48_154, r48_155, r48_158, r48_159, r48_160, r48_161, r48_164, r48_167, r48_168, r48_171, r48_172, r48_175, r48_178, r48_179, r48_180, r48_181, r48_184, qa38, qo38, g56, vf4_1, t56_1, vf4_7, vf4_8, qa77, qo77, gP0 hP, vf4_3, qa41, qo41, p56_3, ty4_3, qa76, qo76, p56_9, ty4_9, qa49, qo49, vf5_13, tP0_13 hP, gP18 hP, pP18 hP, vf4_9, vf5_12, tP0_12 hP, gP17 hP, pP17 hP, qa39, qo39, vf5_17, tP0_17 hP, gP22 hP, pP22 hP, vf4_2, t56_2, gP4 hP, vf1_4, qa53, qo53, List.getElem?_cons_zero, List.getElem?_cons_succ, List.length_cons, List.length_nil, ag_nx, ag_dn, ag_no, ag_if, jbr1, jbr2, jc1, jc2, jnul, jld, jsto, jstoL, jst1, jst2, jkill, jinc, jbI, jbL, jbS, juI, jl2i, jcmp, jisR, jisI, jisL, jret, jretv, jfits, jdup, jdup2, jpop, jmm, jcat, Value.category, jinv, jrcv, jthr, jhd, jput, jget, jlen, jald, jast, jaast, jgI, jgL, jgB, jtab, jlku, jacp, vf20, vf21, vf22, vf23, vf24, u2_s, u2_k, u2_i, uc_s, uc_k, uc_c, u2_c, LI0, LI1, LI2, LI3, LI4, LI5, LI6, LI7, LI8, LI9, LI10, LI11, LI12, LI13, LI14, LI15, LI16, LI17, LI18, LI19, LI20, LI21, LI22, LI23, LI24, LI25, LI26, LI27, LI28, LI29, LI30, LI31, LI32, LI33, LI34, LI35, LI36, LI37, LI40, LI42, LI43, LI45, LI48, LI60, LI61, LI64, LI80, LI300, LI400, LI1000, LI2000, LI2001, LI2047, LI2048, LI100000, LI1000000, LI38, LI39, LI41, LI44, LI46, LI47, LI49, LI50, LI51, LI52, LI53, LI54, LI55, LI56, LI57, LI58, LI59, LI62, LI63, LI65, LI66, LI67, LI68, LI69, LI70, LI71, LI72, LI73, LI74, LI75, LI76, LI77, LI78, LI79, LI81, LI82, LI83, LI84, LI85, LI86, LI87, LI88, LI89, LI90, LI91, LI92, LI93, LI94, LI95, LI96, LI97, LI98, LI99, LI100, LI101, LI102, LI103, LI104, LI105, LI106, LI107, LI108, LI109, LI110, LI111, LI112, LI113, LI114, LI115, LI116, LI117, LI118, LI119, LI120, LI121, LI122, LI123, LI124, LI125, LI126, LI127, LI255, LI256, LI999, LI1001, LI1002, LI1600, LI4096, LI1000001, LI2042, LM, nI_clamp, nI_pos', nI_lt, nI_nlt, nI_le, nI_ge, nI_ne, nI_add, nI_sub, mI_lt, mI_le, mI_nlt, mI_nle, mI_ne, mI_ne', mI_nem, nI_mul, e4, hR1, hR2, s47, s48, s49, hq384, show p * 8 + t < 48 by omega, ← hI5, n7, s59, s54, ← hI6, e7]
          · subst hv
            simp (disch := omega) [r48_0, r48_1, r48_4, r48_5, r48_6, r48_7, r48_10, r48_11, r48_13, r48_16, r48_17, r48_18, r48_19, r48_22, r48_23, r48_26, r48_27, r48_30, r48_33, r48_34, r48_35, r48_37, r48_40, r48_41, r48_42, r48_45, r48_48, r48_49, r48_50, r48_53, r48_54, r48_55, r48_58, r48_59, r48_61, r48_64, r48_65, r48_66, r48_67, r48_70, r48_71, r48_74, r48_75, r48_78, r48_81, r48_82, r48_83, r48_86, r48_87, r48_88, r48_91, r48_93, r48_94, r48_97, r48_100, r48_101, r48_104, r48_105, r48_106, r48_107, r48_110, r48_113, r48_114, r48_117, r48_119, r48_120, r48_121, r48_124, r48_125, r48_126, r48_127, r48_128, r48_129, r48_131, r48_134, r48_135, r48_137, r48_140, r48_142, r48_145, r48_146, r48_148, r48_151, r48_154, r48_155, r48_158, r48_159, r48_160, r48_161, r48_164, r48_167, r48_168, r48_171, r48_172, r48_175, r48_178, r48_179, r48_180, r48_181, r48_184, qa38, qo38, g56, vf4_1, t56_1, vf4_7, vf4_8, qa77, qo77, gP0 hP, vf4_3, qa41, qo41, p56_3, ty4_3, qa76, qo76, p56_9, ty4_9, qa49, qo49, vf5_13, tP0_13 hP, gP18 hP, pP18 hP, vf4_9, vf5_12, tP0_12 hP, gP17 hP, pP17 hP, qa39, qo39, vf5_17, tP0_17 hP, gP22 hP, pP22 hP, vf4_2, t56_2, gP4 hP, vf1_4, qa53, qo53, List.getElem?_cons_zero, List.getElem?_cons_succ, List.length_cons, List.length_nil, ag_nx, ag_dn, ag_no, ag_if, jbr1, jbr2, jc1, jc2, jnul, jld, jsto, jstoL, jst1, jst2, jkill, jinc, jbI, jbL, jbS, juI, jl2i, jcmp, jisR, jisI, jisL, jret, jretv, jfits, jdup, jdup2, jpop, jmm, jcat, Value.category, jinv, jrcv, jthr, jhd, jput, jget, jlen, jald, jast, jaast, jgI, jgL, jgB, jtab, jlku, jacp, vf20, vf21, vf22, vf23, vf24, u2_s, u2_k, u2_i, uc_s, uc_k, uc_c, u2_c, LI0, LI1, LI2, LI3, LI4, LI5, LI6, LI7, LI8, LI9, LI10, LI11, LI12, LI13, LI14, LI15, LI16, LI17, LI18, LI19, LI20, LI21, LI22, LI23, LI24, LI25, LI26, LI27, LI28, LI29, LI30, LI31, LI32, LI33, LI34, LI35, LI36, LI37, LI40, LI42, LI43, LI45, LI48, LI60, LI61, LI64, LI80, LI300, LI400, LI1000, LI2000, LI2001, LI2047, LI2048, LI100000, LI1000000, LI38, LI39, LI41, LI44, LI46, LI47, LI49, LI50, LI51, LI52, LI53, LI54, LI55, LI56, LI57, LI58, LI59, LI62, LI63, LI65, LI66, LI67, LI68, LI69, LI70, LI71, LI72, LI73, LI74, LI75, LI76, LI77, LI78, LI79, LI81, LI82, LI83, LI84, LI85, LI86, LI87, LI88, LI89, LI90, LI91, LI92, LI93, LI94, LI95, LI96, LI97, LI98, LI99, LI100, LI101, LI102, LI103, LI104, LI105, LI106, LI107, LI108, LI109, LI110, LI111, LI112, LI113, LI114, LI115, LI116, LI117, LI118, LI119, LI120, LI121, LI122, LI123, LI124, LI125, LI126, LI127, LI255, LI256, LI999, LI1001, LI1002, LI1600, LI4096, LI1000001, LI2042, LM, nI_clamp, nI_pos', nI_lt, nI_nlt, nI_le, nI_ge, nI_ne, nI_add, nI_sub, mI_lt, mI_le, mI_nlt, mI_nle, mI_ne, mI_ne', mI_nem, nI_mul, e4, hR1, hR2, s47, s48, s49, hq384, show p * 8 + t < 48 by omega, ← hI5, n7, s59, s54, ← hI6, e7]
        refine ⟨I7, v7, eC, ?_⟩
        unfold bodyR
        rw [← hLL]
        rcases h7' with ⟨j7, a7, rfl, h7'⟩ | ⟨l7, j7, a7, rfl, h7'⟩
        · replace a7 : bO K p LL j' = (none, j7) := a7
          rw [a7] at o7 ⊢
          exact Or.inl ⟨j7, _, rfl, rfl, ⟨h7'.1, fun z i d1 d2 d3 => by rw [h7'.2.1 z i (by omega) (by omega) (by omega), f6 _ _ (by omega), f5I _ _ (by omega) (by omega) (by omega) (by omega) (by omega)]⟩, o7.2.1⟩
        · replace a7 : bO K p LL j' = (some l7, j7) := a7
          rw [a7] at o7 ⊢
          obtain ⟨o1, o2, o3⟩ := o7
          have o4 := (o3 l7 rfl).1
          simp only at o1 o2 o4
          obtain ⟨w1, w2, w3, w4⟩ := h7'
          have := KEY I7 (j, io, (if K j = 8 then C.length else 0, l), (LL, l7)) (C ++ l ++ l7) j7 rfl rfl (fun z => if_pos z) (fun z => by rw [w2 _ _ (by omega) (by omega) (by omega), hI6, u2_s]) (fun z i d1 d2 d3 => by rw [w2 z i d1 (by omega) (by omega), f6 _ _ d3]) w1 (by omega) o2 (by rw [w3, List.length_append (as := C ++ l), hLL]) (seg_app (seg_f hP w2 (by omega) (seg_fr (fun z i d1 d2 => f6 z i (by omega)) seg5)) (by rw [Nat.zero_add, ← hLL]; exact w4)) (by rw [List.length_append (as := C ++ l), List.length_append]; rw [List.length_append] at hLL; omega)
          exact Or.inr ⟨_, j7, _, rfl, rfl, by omega, this.1, this.2.1, this.2.2⟩
    · rw [b1]
      have s47 : I4 56 7 = nI p := by rw [hKp 7 (by omega) (by omega), f3 _ _ (by omega)]; exact h7
      have s48 : I4 56 8 = nI t := by rw [hKp 8 (by omega) (by omega), f3 _ _ (by omega)]; exact h8
      have s49 : I4 56 9 = nI q := by rw [hKp 9 (by omega) (by omega), hI3, u2_s]
      refine ⟨u2 (u2 I4 (P + 18) q (nI (K j))) (P + 17) (p * 8 + t) (nI (min k 7 + 1)), nI 0, ?_, Or.inl ⟨j', C, rfl, rfl, ⟨?_, fun z i d1 d2 d3 => ?_⟩, b2⟩⟩
      · simp (disch := omega) [r48_0, r48_1, r48_4, r48_5, r48_6, r48_7, r48_10, r48_11, r48_13, r48_16, r48_17, r48_18, r48_19, r48_22, r48_23, r48_26, r48_27, r48_30, r48_33, r48_34, r48_35, r48_37, r48_40, r48_41, r48_42, r48_45, r48_48, r48_49, r48_50, r48_53, r48_54, r48_55, r48_58, r48_59, r48_61, r48_64, r48_65, r48_66, r48_67, r48_70, r48_71, r48_74, r48_75, r48_78, r48_81, r48_82, r48_83, r48_86, r48_87, r48_88, r48_91, r48_93, r48_94, r48_97, r48_100, r48_101, r48_104, r48_105, r48_106, r48_107, r48_110, r48_113, r48_114, r48_117, r48_119, r48_120, r48_121, r48_124, r48_125, r48_126, r48_127, r48_128, r48_129, r48_131, r48_134, r48_135, r48_137, r48_140, r48_142, r48_145, r48_146, r48_148, r48_151, r48_154, r48_155, r48_158, r48_159, r48_160, r48_161, r48_164, r48_167, r48_168, r48_171, r48_172, r48_175, r48_178, r48_179, r48_180, r48_181, r48_184, qa38, qo38, g56, vf4_1, t56_1, vf4_7, vf4_8, qa77, qo77, gP0 hP, vf4_3, qa41, qo41, p56_3, ty4_3, qa76, qo76, p56_9, ty4_9, qa49, qo49, vf5_13, tP0_13 hP, gP18 hP, pP18 hP, vf4_9, vf5_12, tP0_12 hP, gP17 hP, pP17 hP, qa39, qo39, vf5_17, tP0_17 hP, gP22 hP, pP22 hP, vf4_2, t56_2, gP4 hP, vf1_4, qa53, qo53, List.getElem?_cons_zero, List.getElem?_cons_succ, List.length_cons, List.length_nil, ag_nx, ag_dn, ag_no, ag_if, jbr1, jbr2, jc1, jc2, jnul, jld, jsto, jstoL, jst1, jst2, jkill, jinc, jbI, jbL, jbS, juI, jl2i, jcmp, jisR, jisI, jisL, jret, jretv, jfits, jdup, jdup2, jpop, jmm, jcat, Value.category, jinv, jrcv, jthr, jhd, jput, jget, jlen, jald, jast, jaast, jgI, jgL, jgB, jtab, jlku, jacp, vf20, vf21, vf22, vf23, vf24, u2_s, u2_k, u2_i, uc_s, uc_k, uc_c, u2_c, LI0, LI1, LI2, LI3, LI4, LI5, LI6, LI7, LI8, LI9, LI10, LI11, LI12, LI13, LI14, LI15, LI16, LI17, LI18, LI19, LI20, LI21, LI22, LI23, LI24, LI25, LI26, LI27, LI28, LI29, LI30, LI31, LI32, LI33, LI34, LI35, LI36, LI37, LI40, LI42, LI43, LI45, LI48, LI60, LI61, LI64, LI80, LI300, LI400, LI1000, LI2000, LI2001, LI2047, LI2048, LI100000, LI1000000, LI38, LI39, LI41, LI44, LI46, LI47, LI49, LI50, LI51, LI52, LI53, LI54, LI55, LI56, LI57, LI58, LI59, LI62, LI63, LI65, LI66, LI67, LI68, LI69, LI70, LI71, LI72, LI73, LI74, LI75, LI76, LI77, LI78, LI79, LI81, LI82, LI83, LI84, LI85, LI86, LI87, LI88, LI89, LI90, LI91, LI92, LI93, LI94, LI95, LI96, LI97, LI98, LI99, LI100, LI101, LI102, LI103, LI104, LI105, LI106, LI107, LI108, LI109, LI110, LI111, LI112, LI113, LI114, LI115, LI116, LI117, LI118, LI119, LI120, LI121, LI122, LI123, LI124, LI125, LI126, LI127, LI255, LI256, LI999, LI1001, LI1002, LI1600, LI4096, LI1000001, LI2042, LM, nI_clamp, nI_pos', nI_lt, nI_nlt, nI_le, nI_ge, nI_ne, nI_add, nI_sub, mI_lt, mI_le, mI_nlt, mI_nle, mI_ne, mI_ne', mI_nem, nI_mul, e4, hR1, s47, s48, s49, hq384, show p * 8 + t < 48 by omega]
      · rw [u2_k (by omega), u2_k (by omega)]; exact hF.1
      · rw [u2_k (by omega), u2_k (by omega), hF.2 z i d1 d2 d3, f3 _ _ (by omega)]
  · rw [if_neg hK]
    refine ⟨I, nI 0, ?_, Or.inl ⟨j, C, rfl, rfl, ⟨ha, fO_refl⟩, hj⟩⟩
    by_cases h5' : K j < 5
    · have : nI (K j) < nI 5 := nI_lt (by omega) (by omega)
      simp (disch := omega) [je48, r48_0, r48_1, r48_4, r48_5, r48_6, r48_7, r48_10, r48_11, r48_13, r48_16, r48_17, r48_18, r48_19, r48_22, r48_23, r48_26, r48_27, r48_30, r48_33, r48_34, r48_35, r48_37, r48_40, r48_41, r48_42, r48_45, r48_48, r48_49, r48_50, r48_53, r48_54, r48_55, r48_58, r48_59, r48_61, r48_64, r48_65, r48_66, r48_67, r48_70, r48_71, r48_74, r48_75, r48_78, r48_81, r48_82, r48_83, r48_86, r48_87, r48_88, r48_91, r48_93, r48_94, r48_97, r48_100, r48_101, r48_104, r48_105, r48_106, r48_107, r48_110, r48_113, r48_114, r48_117, r48_119, r48_120, r48_121, r48_124, r48_125, r48_126, r48_127, r48_128, r48_129, r48_131, r48_134, r48_135, r48_137, r48_140, r48_142, r48_145, r48_146, r48_148, r48_151, r48_154, r48_155, r48_158, r48_159, r48_160, r48_161, r48_164, r48_167, r48_168, r48_171, r48_172, r48_175, r48_178, r48_179, r48_180, r48_181, r48_184, qa38, qo38, g56, vf4_1, t56_1, vf4_7, vf4_8, qa77, qo77, gP0 hP, vf4_3, qa41, qo41, p56_3, ty4_3, qa76, qo76, p56_9, ty4_9, qa49, qo49, vf5_13, tP0_13 hP, gP18 hP, pP18 hP, vf4_9, vf5_12, tP0_12 hP, gP17 hP, pP17 hP, qa39, qo39, vf5_17, tP0_17 hP, gP22 hP, pP22 hP, vf4_2, t56_2, gP4 hP, vf1_4, qa53, qo53, List.getElem?_cons_zero, List.getElem?_cons_succ, List.length_cons, List.length_nil, ag_nx, ag_dn, ag_no, ag_if, jbr1, jbr2, jc1, jc2, jnul, jld, jsto, jstoL, jst1, jst2, jkill, jinc, jbI, jbL, jbS, juI, jl2i, jcmp, jisR, jisI, jisL, jret, jretv, jfits, jdup, jdup2, jpop, jmm, jcat, Value.category, jinv, jrcv, jthr, jhd, jput, jget, jlen, jald, jast, jaast, jgI, jgL, jgB, jtab, jlku, jacp, vf20, vf21, vf22, vf23, vf24, u2_s, u2_k, u2_i, uc_s, uc_k, uc_c, u2_c, LI0, LI1, LI2, LI3, LI4, LI5, LI6, LI7, LI8, LI9, LI10, LI11, LI12, LI13, LI14, LI15, LI16, LI17, LI18, LI19, LI20, LI21, LI22, LI23, LI24, LI25, LI26, LI27, LI28, LI29, LI30, LI31, LI32, LI33, LI34, LI35, LI36, LI37, LI40, LI42, LI43, LI45, LI48, LI60, LI61, LI64, LI80, LI300, LI400, LI1000, LI2000, LI2001, LI2047, LI2048, LI100000, LI1000000, LI38, LI39, LI41, LI44, LI46, LI47, LI49, LI50, LI51, LI52, LI53, LI54, LI55, LI56, LI57, LI58, LI59, LI62, LI63, LI65, LI66, LI67, LI68, LI69, LI70, LI71, LI72, LI73, LI74, LI75, LI76, LI77, LI78, LI79, LI81, LI82, LI83, LI84, LI85, LI86, LI87, LI88, LI89, LI90, LI91, LI92, LI93, LI94, LI95, LI96, LI97, LI98, LI99, LI100, LI101, LI102, LI103, LI104, LI105, LI106, LI107, LI108, LI109, LI110, LI111, LI112, LI113, LI114, LI115, LI116, LI117, LI118, LI119, LI120, LI121, LI122, LI123, LI124, LI125, LI126, LI127, LI255, LI256, LI999, LI1001, LI1002, LI1600, LI4096, LI1000001, LI2042, LM, nI_clamp, nI_pos', nI_lt, nI_nlt, nI_le, nI_ge, nI_ne, nI_add, nI_sub, mI_lt, mI_le, mI_nlt, mI_nle, mI_ne, mI_ne', mI_nem, e38, this]
    · have n5 : ¬ nI (K j) < nI 5 := nI_nlt (by omega) (by omega)
      have n9 : ¬ nI (K j) ≤ nI 9 := nI_ge (by omega) (by omega)
      simp (disch := omega) [je48, r48_0, r48_1, r48_4, r48_5, r48_6, r48_7, r48_10, r48_11, r48_13, r48_16, r48_17, r48_18, r48_19, r48_22, r48_23, r48_26, r48_27, r48_30, r48_33, r48_34, r48_35, r48_37, r48_40, r48_41, r48_42, r48_45, r48_48, r48_49, r48_50, r48_53, r48_54, r48_55, r48_58, r48_59, r48_61, r48_64, r48_65, r48_66, r48_67, r48_70, r48_71, r48_74, r48_75, r48_78, r48_81, r48_82, r48_83, r48_86, r48_87, r48_88, r48_91, r48_93, r48_94, r48_97, r48_100, r48_101, r48_104, r48_105, r48_106, r48_107, r48_110, r48_113, r48_114, r48_117, r48_119, r48_120, r48_121, r48_124, r48_125, r48_126, r48_127, r48_128, r48_129, r48_131, r48_134, r48_135, r48_137, r48_140, r48_142, r48_145, r48_146, r48_148, r48_151, r48_154, r48_155, r48_158, r48_159, r48_160, r48_161, r48_164, r48_167, r48_168, r48_171, r48_172, r48_175, r48_178, r48_179, r48_180, r48_181, r48_184, qa38, qo38, g56, vf4_1, t56_1, vf4_7, vf4_8, qa77, qo77, gP0 hP, vf4_3, qa41, qo41, p56_3, ty4_3, qa76, qo76, p56_9, ty4_9, qa49, qo49, vf5_13, tP0_13 hP, gP18 hP, pP18 hP, vf4_9, vf5_12, tP0_12 hP, gP17 hP, pP17 hP, qa39, qo39, vf5_17, tP0_17 hP, gP22 hP, pP22 hP, vf4_2, t56_2, gP4 hP, vf1_4, qa53, qo53, List.getElem?_cons_zero, List.getElem?_cons_succ, List.length_cons, List.length_nil, ag_nx, ag_dn, ag_no, ag_if, jbr1, jbr2, jc1, jc2, jnul, jld, jsto, jstoL, jst1, jst2, jkill, jinc, jbI, jbL, jbS, juI, jl2i, jcmp, jisR, jisI, jisL, jret, jretv, jfits, jdup, jdup2, jpop, jmm, jcat, Value.category, jinv, jrcv, jthr, jhd, jput, jget, jlen, jald, jast, jaast, jgI, jgL, jgB, jtab, jlku, jacp, vf20, vf21, vf22, vf23, vf24, u2_s, u2_k, u2_i, uc_s, uc_k, uc_c, u2_c, LI0, LI1, LI2, LI3, LI4, LI5, LI6, LI7, LI8, LI9, LI10, LI11, LI12, LI13, LI14, LI15, LI16, LI17, LI18, LI19, LI20, LI21, LI22, LI23, LI24, LI25, LI26, LI27, LI28, LI29, LI30, LI31, LI32, LI33, LI34, LI35, LI36, LI37, LI40, LI42, LI43, LI45, LI48, LI60, LI61, LI64, LI80, LI300, LI400, LI1000, LI2000, LI2001, LI2047, LI2048, LI100000, LI1000000, LI38, LI39, LI41, LI44, LI46, LI47, LI49, LI50, LI51, LI52, LI53, LI54, LI55, LI56, LI57, LI58, LI59, LI62, LI63, LI65, LI66, LI67, LI68, LI69, LI70, LI71, LI72, LI73, LI74, LI75, LI76, LI77, LI78, LI79, LI81, LI82, LI83, LI84, LI85, LI86, LI87, LI88, LI89, LI90, LI91, LI92, LI93, LI94, LI95, LI96, LI97, LI98, LI99, LI100, LI101, LI102, LI103, LI104, LI105, LI106, LI107, LI108, LI109, LI110, LI111, LI112, LI113, LI114, LI115, LI116, LI117, LI118, LI119, LI120, LI121, LI122, LI123, LI124, LI125, LI126, LI127, LI255, LI256, LI999, LI1001, LI1002, LI1600, LI4096, LI1000001, LI2042, LM, nI_clamp, nI_pos', nI_lt, nI_nlt, nI_le, nI_ge, nI_ne, nI_add, nI_sub, mI_lt, mI_le, mI_nlt, mI_nle, mI_ne, mI_ne', mI_nem, e38, n5, n9]
end CCL
