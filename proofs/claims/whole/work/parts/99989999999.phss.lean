/-! charts: the class reads all messages -/
section CHF
variable {A : Nat → Nat} {d b n C N m : Nat} {h : Nat → Option jC} {X : jXX} {R : Nat → Nat → Nat} {t : Nat → Int32}
theorem msS_r {K : Nat → Nat} {Y : Nat → Int64 × Int32} {j : Nat} {s s' : hS} (hk : ∀ j, j ≤ m → K j ≠ 29 → j < m) (hj : j ≤ m) (hm : msS K Y j s = .inr s') : j + 6 ≤ m := by
  unfold msS at hm
  split at hm
  · cases hm
  · rename_i h0
    split at hm
    · cases hm
    · split at hm
      · cases hm
      · rename_i h1
        split at hm
        · cases hm
        · rename_i h2
          split at hm
          · cases hm
          · split at hm
            · cases hm
            · split at hm
              · cases hm
              · rename_i h3
                split at hm
                · cases hm
                · rename_i h4
                  split at hm
                  · cases hm
                  · rename_i h5
                    have q0 := hk j hj (by omega)
                    have q1 := hk (j + 1) (by omega) (by omega)
                    have q2 := hk (j + 2) (by omega) (by omega)
                    have q3 := hk (j + 3) (by omega) (by omega)
                    have q4 := hk (j + 4) (by omega) (by omega)
                    have q5 := hk (j + 5) (by omega) (by omega)
                    omega
theorem c1l (hC' : isC C) (hN2 : N ≤ 2000) (hk : ∀ j, j ≤ m → KK t N j ≠ 29 → j < m) : ∀ (r j L : Nat) (s : hS) (I : Nat → Nat → Int32) (J : Nat → Nat → Int64) (c4 : Option Value), s.1.length + r = 40 → j ≤ m → L ≤ s.1.length + s.2.length → hC I J C s L → tkS t N I J m → ∃ I' J' L', fMs C I I' ∧ (∀ c i, c ≠ C + 2 → J' c i = J c i) ∧ I' (C + 1) 2 = nI L' ∧ L' ≤ 48 ∧ ((∃ e, e ≤ m ∧ chS (KK t N) (Yn t N) r j s = .inl e ∧ M1 A (d + 4) 22 [some (.ref (b + C)), some (.ref (b + 3)), some (.int (nI j)), some (.int (nI s.1.length)), c4] [] (jH h b X I J R n) = some (.inl (some (.int (nI (tpos t N e)))), (jH h b X I' J' R n))) ∨ ∃ s' c2 c3 c4', chS (KK t N) (Yn t N) r j s = .inr s' ∧ M1 A (d + 4) 22 [some (.ref (b + C)), some (.ref (b + 3)), some (.int (nI j)), some (.int (nI s.1.length)), c4] [] (jH h b X I J R n) = M1 A (d + 4) 83 [some (.ref (b + C)), some (.ref (b + 3)), c2, c3, c4'] [] (jH h b X I' J' R n) ∧ hC I' J' C s' L') := by
  have hC := hC'
  have hCe := isC_ee hC
  have K84 : ∀ (I' : Nat → Nat → Int32) (J' : Nat → Nat → Int64) (i : Nat), tkS t N I' J' m → i ≤ m → jcall A jcode (d + 4) 84 [.ref (b + 3), .int (nI i)] (jH h b X I' J' R n) = some (.inl (some (.int (nI (KK t N i)))), (jH h b X I' J' R n)) := fun I' J' i hT' hi => by
    have hm := hT'.2.1
    have := c84 (A := A) (d := d + 3) (b := b) (h := h) (X := X) (I := I') (J := J') (R := R) (n := n) (m := m) (j := i) hT'.1 (by omega) hi
    rw [(hT'.2.2.2.2 i hi).1, KK_e.2] at this
    exact this
  have K85 : ∀ (I' : Nat → Nat → Int32) (J' : Nat → Nat → Int64) (i : Nat), tkS t N I' J' m → i ≤ m → jcall A jcode (d + 4) 85 [.ref (b + 3), .int (nI i)] (jH h b X I' J' R n) = some (.inl (some (.int (nI (tpos t N i)))), (jH h b X I' J' R n)) := fun I' J' i hT' hi => by
    have hm := hT'.2.1
    have := c85 (A := A) (d := d + 3) (b := b) (h := h) (X := X) (I := I') (J := J') (R := R) (n := n) (m := m) (j := i) hT'.1 (by omega) hi
    rw [(hT'.2.2.2.2 i hi).2.1] at this
    exact this
  have ko : ∀ i, KK t N i < 128 := fun i => okK_lt (KK_e (t := t) (N := N) (j := i)).1
  intro r
  induction r with
  | zero =>
    intro j L s I J c4 hr hj hLb hs hT
    have e84 := K84 I J j hT hj
    have e40 : s.1.length = 40 := by omega
    have s8 := hs.2.2.2.1
    refine ⟨I, J, L, fun _ _ _ _ _ => rfl, fun _ _ _ => rfl, hs.1.1, by omega, ?_⟩
    rw [e40]
    by_cases k : KK t N j = 29
    · rw [k] at e84
      refine Or.inr ⟨s, some (.int (nI j)), some (.int (nI 40)), c4, by unfold chS; rw [if_pos k], ?_, hs⟩
      rw [r1_22]
      simp (disch := omega) [r1_23, r1_25, r1_67, r1_68, r1_69, r1_72, r1_74, qa84, qo84, g3, List.getElem?_cons_zero, List.getElem?_cons_succ, List.length_cons, List.length_nil, ag_nx, ag_dn, ag_no, ag_if, jbr1, jbr2, jc1, jc2, jnul, jld, jsto, jstoL, jst1, jst2, jkill, jinc, jbI, jbL, jbS, juI, jl2i, jcmp, jisR, jisI, jisL, jret, jretv, jfits, jdup, jdup2, jpop, jmm, jcat, Value.category, jinv, jrcv, jthr, jhd, jput, jget, jlen, jald, jast, jaast, jgI, jgL, jgB, jtab, jlku, jacp, vf20, vf21, vf22, vf23, vf24, u2_s, u2_k, u2_i, uc_s, uc_k, uc_c, u2_c, LI0, LI1, LI2, LI3, LI4, LI5, LI6, LI7, LI8, LI9, LI10, LI11, LI12, LI13, LI14, LI15, LI16, LI17, LI18, LI19, LI20, LI21, LI22, LI23, LI24, LI25, LI26, LI27, LI28, LI29, LI30, LI31, LI32, LI33, LI34, LI35, LI36, LI37, LI40, LI42, LI43, LI45, LI48, LI60, LI61, LI64, LI80, LI300, LI400, LI1000, LI2000, LI2001, LI2047, LI2048, LI100000, LI1000000, LI38, LI39, LI41, LI44, LI46, LI47, LI49, LI50, LI51, LI52, LI53, LI54, LI55, LI56, LI57, LI58, LI59, LI62, LI63, LI65, LI66, LI67, LI68, LI69, LI70, LI71, LI72, LI73, LI74, LI75, LI76, LI77, LI78, LI79, LI81, LI82, LI83, LI84, LI85, LI86, LI87, LI88, LI89, LI90, LI91, LI92, LI93, LI94, LI95, LI96, LI97, LI98, LI99, LI100, LI101, LI102, LI103, LI104, LI105, LI106, LI107, LI108, LI109, LI110, LI111, LI112, LI113, LI114, LI115, LI116, LI117, LI118, LI119, LI120, LI121, LI122, LI123, LI124, LI125, LI126, LI127, LI255, LI256, LI999, LI1001, LI1002, LI1600, LI4096, LI1000001, LI2042, LM, nI_clamp, nI_pos', nI_lt, nI_nlt, nI_le, nI_ge, nI_ne, nI_add, nI_sub, mI_lt, mI_le, mI_nlt, mI_nle, mI_ne, mI_ne', mI_nem, e84]
    · have e85 := K85 I J j hT hj
      have n29 : ¬ nI (KK t N j) = nI 29 := nI_ne k (by have := ko j; omega) (by omega)
      refine Or.inl ⟨j, hj, by unfold chS; rw [if_neg k], ?_⟩
      rw [r1_22]
      simp (disch := omega) [r1_23, r1_25, r1_67, r1_68, r1_69, r1_72, r1_74, r1_77, r1_78, r1_79, r1_82, qa84, qo84, qa85, qo85, g3, List.getElem?_cons_zero, List.getElem?_cons_succ, List.length_cons, List.length_nil, ag_nx, ag_dn, ag_no, ag_if, jbr1, jbr2, jc1, jc2, jnul, jld, jsto, jstoL, jst1, jst2, jkill, jinc, jbI, jbL, jbS, juI, jl2i, jcmp, jisR, jisI, jisL, jret, jretv, jfits, jdup, jdup2, jpop, jmm, jcat, Value.category, jinv, jrcv, jthr, jhd, jput, jget, jlen, jald, jast, jaast, jgI, jgL, jgB, jtab, jlku, jacp, vf20, vf21, vf22, vf23, vf24, u2_s, u2_k, u2_i, uc_s, uc_k, uc_c, u2_c, LI0, LI1, LI2, LI3, LI4, LI5, LI6, LI7, LI8, LI9, LI10, LI11, LI12, LI13, LI14, LI15, LI16, LI17, LI18, LI19, LI20, LI21, LI22, LI23, LI24, LI25, LI26, LI27, LI28, LI29, LI30, LI31, LI32, LI33, LI34, LI35, LI36, LI37, LI40, LI42, LI43, LI45, LI48, LI60, LI61, LI64, LI80, LI300, LI400, LI1000, LI2000, LI2001, LI2047, LI2048, LI100000, LI1000000, LI38, LI39, LI41, LI44, LI46, LI47, LI49, LI50, LI51, LI52, LI53, LI54, LI55, LI56, LI57, LI58, LI59, LI62, LI63, LI65, LI66, LI67, LI68, LI69, LI70, LI71, LI72, LI73, LI74, LI75, LI76, LI77, LI78, LI79, LI81, LI82, LI83, LI84, LI85, LI86, LI87, LI88, LI89, LI90, LI91, LI92, LI93, LI94, LI95, LI96, LI97, LI98, LI99, LI100, LI101, LI102, LI103, LI104, LI105, LI106, LI107, LI108, LI109, LI110, LI111, LI112, LI113, LI114, LI115, LI116, LI117, LI118, LI119, LI120, LI121, LI122, LI123, LI124, LI125, LI126, LI127, LI255, LI256, LI999, LI1001, LI1002, LI1600, LI4096, LI1000001, LI2042, LM, nI_clamp, nI_pos', nI_lt, nI_nlt, nI_le, nI_ge, nI_ne, nI_add, nI_sub, mI_lt, mI_le, mI_nlt, mI_nle, mI_ne, mI_ne', mI_nem, e84, n29, e85]
  | succ r ih =>
    intro j L s I J c4 hr hj hLb hs hT
    have e84 := K84 I J j hT hj
    have s8 := hs.2.2.2.1
    have l40 : ¬ nI 40 ≤ nI s.1.length := nI_ge (by omega) (by omega)
    by_cases k : KK t N j = 29
    · rw [k] at e84
      refine ⟨I, J, L, fun _ _ _ _ _ => rfl, fun _ _ _ => rfl, hs.1.1, by omega, Or.inr ⟨s, some (.int (nI j)), some (.int (nI s.1.length)), c4, by unfold chS; rw [if_pos k], ?_, hs⟩⟩
      rw [r1_22]
      simp (disch := omega) [r1_23, r1_25, r1_28, r1_29, r1_30, r1_33, r1_35, r1_67, r1_68, r1_69, r1_72, r1_74, qa84, qo84, g3, List.getElem?_cons_zero, List.getElem?_cons_succ, List.length_cons, List.length_nil, ag_nx, ag_dn, ag_no, ag_if, jbr1, jbr2, jc1, jc2, jnul, jld, jsto, jstoL, jst1, jst2, jkill, jinc, jbI, jbL, jbS, juI, jl2i, jcmp, jisR, jisI, jisL, jret, jretv, jfits, jdup, jdup2, jpop, jmm, jcat, Value.category, jinv, jrcv, jthr, jhd, jput, jget, jlen, jald, jast, jaast, jgI, jgL, jgB, jtab, jlku, jacp, vf20, vf21, vf22, vf23, vf24, u2_s, u2_k, u2_i, uc_s, uc_k, uc_c, u2_c, LI0, LI1, LI2, LI3, LI4, LI5, LI6, LI7, LI8, LI9, LI10, LI11, LI12, LI13, LI14, LI15, LI16, LI17, LI18, LI19, LI20, LI21, LI22, LI23, LI24, LI25, LI26, LI27, LI28, LI29, LI30, LI31, LI32, LI33, LI34, LI35, LI36, LI37, LI40, LI42, LI43, LI45, LI48, LI60, LI61, LI64, LI80, LI300, LI400, LI1000, LI2000, LI2001, LI2047, LI2048, LI100000, LI1000000, LI38, LI39, LI41, LI44, LI46, LI47, LI49, LI50, LI51, LI52, LI53, LI54, LI55, LI56, LI57, LI58, LI59, LI62, LI63, LI65, LI66, LI67, LI68, LI69, LI70, LI71, LI72, LI73, LI74, LI75, LI76, LI77, LI78, LI79, LI81, LI82, LI83, LI84, LI85, LI86, LI87, LI88, LI89, LI90, LI91, LI92, LI93, LI94, LI95, LI96, LI97, LI98, LI99, LI100, LI101, LI102, LI103, LI104, LI105, LI106, LI107, LI108, LI109, LI110, LI111, LI112, LI113, LI114, LI115, LI116, LI117, LI118, LI119, LI120, LI121, LI122, LI123, LI124, LI125, LI126, LI127, LI255, LI256, LI999, LI1001, LI1002, LI1600, LI4096, LI1000001, LI2042, LM, nI_clamp, nI_pos', nI_lt, nI_nlt, nI_le, nI_ge, nI_ne, nI_add, nI_sub, mI_lt, mI_le, mI_nlt, mI_nle, mI_ne, mI_ne', mI_nem, e84, l40]
    · have n29 : ¬ nI (KK t N j) = nI 29 := nI_ne k (by have := ko j; omega) (by omega)
      obtain ⟨I1, J1, v, L1, e2, f1, fj1, n1, n1', r1⟩ := c2 (A := A) (d := d) (b := b) (h := h) (X := X) (R := R) (n := n) hC hLb hs (by omega) hT hN2 hk hj
      have hT1 := tkS_fM hC hT f1 fj1
      rcases r1 with ⟨e, em, m1, rv⟩ | ⟨s', m1, rv, hs', hb', hl'⟩
      · subst rv
        have e85 := K85 I1 J1 e hT1 em
        have hen : ¬ nI e < nI 0 := by rw [nI_ltI (by have := hT.2.1; omega) (by omega)]; omega
        refine ⟨I1, J1, L1, f1, fj1, n1, n1', Or.inl ⟨e, em, by unfold chS; rw [if_neg k, m1], ?_⟩⟩
        rw [r1_22]
        simp (disch := omega) [r1_23, r1_25, r1_28, r1_29, r1_30, r1_33, r1_35, r1_38, r1_39, r1_40, r1_41, r1_44, r1_46, r1_48, r1_51, r1_52, r1_54, r1_57, qa84, qo84, qa85, qo85, qa2, qo2, g3, gC0 hC, List.getElem?_cons_zero, List.getElem?_cons_succ, List.length_cons, List.length_nil, ag_nx, ag_dn, ag_no, ag_if, jbr1, jbr2, jc1, jc2, jnul, jld, jsto, jstoL, jst1, jst2, jkill, jinc, jbI, jbL, jbS, juI, jl2i, jcmp, jisR, jisI, jisL, jret, jretv, jfits, jdup, jdup2, jpop, jmm, jcat, Value.category, jinv, jrcv, jthr, jhd, jput, jget, jlen, jald, jast, jaast, jgI, jgL, jgB, jtab, jlku, jacp, vf20, vf21, vf22, vf23, vf24, u2_s, u2_k, u2_i, uc_s, uc_k, uc_c, u2_c, LI0, LI1, LI2, LI3, LI4, LI5, LI6, LI7, LI8, LI9, LI10, LI11, LI12, LI13, LI14, LI15, LI16, LI17, LI18, LI19, LI20, LI21, LI22, LI23, LI24, LI25, LI26, LI27, LI28, LI29, LI30, LI31, LI32, LI33, LI34, LI35, LI36, LI37, LI40, LI42, LI43, LI45, LI48, LI60, LI61, LI64, LI80, LI300, LI400, LI1000, LI2000, LI2001, LI2047, LI2048, LI100000, LI1000000, LI38, LI39, LI41, LI44, LI46, LI47, LI49, LI50, LI51, LI52, LI53, LI54, LI55, LI56, LI57, LI58, LI59, LI62, LI63, LI65, LI66, LI67, LI68, LI69, LI70, LI71, LI72, LI73, LI74, LI75, LI76, LI77, LI78, LI79, LI81, LI82, LI83, LI84, LI85, LI86, LI87, LI88, LI89, LI90, LI91, LI92, LI93, LI94, LI95, LI96, LI97, LI98, LI99, LI100, LI101, LI102, LI103, LI104, LI105, LI106, LI107, LI108, LI109, LI110, LI111, LI112, LI113, LI114, LI115, LI116, LI117, LI118, LI119, LI120, LI121, LI122, LI123, LI124, LI125, LI126, LI127, LI255, LI256, LI999, LI1001, LI1002, LI1600, LI4096, LI1000001, LI2042, LM, nI_clamp, nI_pos', nI_lt, nI_nlt, nI_le, nI_ge, nI_ne, nI_add, nI_sub, mI_lt, mI_le, mI_nlt, mI_nle, mI_ne, mI_ne', mI_nem, e84, l40, n29, e2, hen, e85]
      · subst rv
        have hj6 := msS_r hk hj m1
        obtain ⟨I2, J2, L2, f2, fj2, n2, n2', r2⟩ := ih (j + 6) L1 s' I1 J1 (some (.int (mI 1))) (by omega) hj6 hb' hs' hT1
        rw [hl'] at r2
        have way : M1 A (d + 4) 22 [some (.ref (b + C)), some (.ref (b + 3)), some (.int (nI j)), some (.int (nI s.1.length)), c4] [] (jH h b X I J R n) = M1 A (d + 4) 22 [some (.ref (b + C)), some (.ref (b + 3)), some (.int (nI (j + 6))), some (.int (nI (s.1.length + 1))), some (.int (mI 1))] [] (jH h b X I1 J1 R n) := by
          conv => lhs; rw [r1_22]
          simp (disch := omega) [r1_23, r1_25, r1_28, r1_29, r1_30, r1_33, r1_35, r1_38, r1_39, r1_40, r1_41, r1_44, r1_46, r1_48, r1_58, r1_61, r1_64, qa84, qo84, qa2, qo2, g3, gC0 hC, List.getElem?_cons_zero, List.getElem?_cons_succ, List.length_cons, List.length_nil, ag_nx, ag_dn, ag_no, ag_if, jbr1, jbr2, jc1, jc2, jnul, jld, jsto, jstoL, jst1, jst2, jkill, jinc, jbI, jbL, jbS, juI, jl2i, jcmp, jisR, jisI, jisL, jret, jretv, jfits, jdup, jdup2, jpop, jmm, jcat, Value.category, jinv, jrcv, jthr, jhd, jput, jget, jlen, jald, jast, jaast, jgI, jgL, jgB, jtab, jlku, jacp, vf20, vf21, vf22, vf23, vf24, u2_s, u2_k, u2_i, uc_s, uc_k, uc_c, u2_c, LI0, LI1, LI2, LI3, LI4, LI5, LI6, LI7, LI8, LI9, LI10, LI11, LI12, LI13, LI14, LI15, LI16, LI17, LI18, LI19, LI20, LI21, LI22, LI23, LI24, LI25, LI26, LI27, LI28, LI29, LI30, LI31, LI32, LI33, LI34, LI35, LI36, LI37, LI40, LI42, LI43, LI45, LI48, LI60, LI61, LI64, LI80, LI300, LI400, LI1000, LI2000, LI2001, LI2047, LI2048, LI100000, LI1000000, LI38, LI39, LI41, LI44, LI46, LI47, LI49, LI50, LI51, LI52, LI53, LI54, LI55, LI56, LI57, LI58, LI59, LI62, LI63, LI65, LI66, LI67, LI68, LI69, LI70, LI71, LI72, LI73, LI74, LI75, LI76, LI77, LI78, LI79, LI81, LI82, LI83, LI84, LI85, LI86, LI87, LI88, LI89, LI90, LI91, LI92, LI93, LI94, LI95, LI96, LI97, LI98, LI99, LI100, LI101, LI102, LI103, LI104, LI105, LI106, LI107, LI108, LI109, LI110, LI111, LI112, LI113, LI114, LI115, LI116, LI117, LI118, LI119, LI120, LI121, LI122, LI123, LI124, LI125, LI126, LI127, LI255, LI256, LI999, LI1001, LI1002, LI1600, LI4096, LI1000001, LI2042, LM, nI_clamp, nI_pos', nI_lt, nI_nlt, nI_le, nI_ge, nI_ne, nI_add, nI_sub, mI_lt, mI_le, mI_nlt, mI_nle, mI_ne, mI_ne', mI_nem, e84, l40, n29, e2]
        refine ⟨I2, J2, L2, fMs_tr f1 f2, fun c i hc => (fj2 c i hc).trans (fj1 c i hc), n2, n2', ?_⟩
        rcases r2 with ⟨e, em, q1, q2⟩ | ⟨s'', c2, c3, c4', q1, q2, q3⟩
        · exact Or.inl ⟨e, em, by unfold chS; rw [if_neg k, m1]; exact q1, way.trans q2⟩
        · exact Or.inr ⟨s'', c2, c3, c4', by unfold chS; rw [if_neg k, m1]; exact q1, way.trans q2, q3⟩
/-- read, up to the races -/
theorem c1r {I : Nat → Nat → Int32} {J : Nat → Nat → Int64} {L0 : Nat} (hC' : isC C) (hL0 : L0 ≤ 48) (h0 : I (C + 1) 2 = nI L0) (hN2 : N ≤ 2000) (hT : tkS t N I J m) : ∃ I' J' L', fMs C I I' ∧ (∀ c i, c ≠ C + 2 → J' c i = J c i) ∧ I' (C + 1) 2 = nI L' ∧ L' ≤ 48 ∧ ((∃ e, e ≤ m ∧ chS (KK t N) (Yn t N) 40 0 ([], []) = .inl e ∧ jcall A jcode (d + 5) 1 [.ref (b + C), .ref (b + 3)] (jH h b X I J R n) = some (.inl (some (.int (nI (tpos t N e)))), (jH h b X I' J' R n))) ∨ ∃ s' c2 c3 c4', chS (KK t N) (Yn t N) 40 0 ([], []) = .inr s' ∧ jcall A jcode (d + 5) 1 [.ref (b + C), .ref (b + 3)] (jH h b X I J R n) = M1 A (d + 4) 83 [some (.ref (b + C)), some (.ref (b + 3)), c2, c3, c4'] [] (jH h b X I' J' R n) ∧ hC I' J' C s' L') := by
  have hC := hC'
  have hN := isC_N hC
  have hCe := isC_ee hC
  have e28 := c28 (A := A) (d := d + 3) (b := b) (h := h) (X := X) (J := J) (R := R) (n := n) (k := 0) hN h0 (by omega) (by omega)
  obtain ⟨I1, hI1⟩ : ∃ I1, I1 = u2 (u2 (u2 I (C + 1) 2 (nI 0)) C 2 (nI 0)) C 6 (nI 0) := ⟨_, rfl⟩
  have f1 : fMs C I I1 := fun c i h1 h2 h3 => by rw [hI1, u2_o _ _ (by omega), u2_o _ _ (by omega), u2_o _ _ (by omega)]
  have hs : hC_ I1 J C ([], []) 0 := by
    refine ⟨⟨by rw [hI1, u2_o _ _ (by omega), u2_o _ _ (by omega), u2_s], Nat.zero_le _, fun x y hx => by omega⟩, by rw [hI1, u2_s]; rfl, by rw [hI1, u2_i (by omega), u2_s]; rfl, by simp, by simp, List.nodup_nil, fun i m hm => by simp at hm, fun i l hl => by simp at hl⟩
  have hT1 := tkS_fM hC hT f1 (fun _ _ _ => rfl)
  have hk : ∀ j, j ≤ m → KK t N j ≠ 29 → j < m := (KK_ok hN2 hT.2.1 hT.2.2.1).2.1
  obtain ⟨I2, J2, L2, f2, fj2, n2, n2', r2⟩ := c1l (A := A) (d := d) (b := b) (h := h) (X := X) (R := R) (n := n) hC hN2 hk 40 0 0 ([], []) I1 J none rfl (by omega) (by omega) hs hT1
  have way : jcall A jcode (d + 5) 1 [.ref (b + C), .ref (b + 3)] (jH h b X I J R n) = M1 A (d + 4) 22 [some (.ref (b + C)), some (.ref (b + 3)), some (.int (nI 0)), some (.int (nI 0)), none] [] (jH h b X I1 J R n) := by
    rw [hI1]
    simp (disch := omega) [je1, r1_0, r1_1, r1_4, r1_5, r1_8, r1_9, r1_10, r1_13, r1_14, r1_15, r1_18, r1_19, r1_20, r1_21, gC0 hC, vf0_0, tC0_0 hC, qa28, qo28, gN0 hN, pC0_2 hC, ty0_2, pC0_6 hC, ty0_6, qa84, qo84, g3, qa2, qo2, qa85, qo85, qa6, qo6, List.getElem?_cons_zero, List.getElem?_cons_succ, List.length_cons, List.length_nil, ag_nx, ag_dn, ag_no, ag_if, jbr1, jbr2, jc1, jc2, jnul, jld, jsto, jstoL, jst1, jst2, jkill, jinc, jbI, jbL, jbS, juI, jl2i, jcmp, jisR, jisI, jisL, jret, jretv, jfits, jdup, jdup2, jpop, jmm, jcat, Value.category, jinv, jrcv, jthr, jhd, jput, jget, jlen, jald, jast, jaast, jgI, jgL, jgB, jtab, jlku, jacp, vf20, vf21, vf22, vf23, vf24, u2_s, u2_k, u2_i, uc_s, uc_k, uc_c, u2_c, LI0, LI1, LI2, LI3, LI4, LI5, LI6, LI7, LI8, LI9, LI10, LI11, LI12, LI13, LI14, LI15, LI16, LI17, LI18, LI19, LI20, LI21, LI22, LI23, LI24, LI25, LI26, LI27, LI28, LI29, LI30, LI31, LI32, LI33, LI34, LI35, LI36, LI37, LI40, LI42, LI43, LI45, LI48, LI60, LI61, LI64, LI80, LI300, LI400, LI1000, LI2000, LI2001, LI2047, LI2048, LI100000, LI1000000, LI38, LI39, LI41, LI44, LI46, LI47, LI49, LI50, LI51, LI52, LI53, LI54, LI55, LI56, LI57, LI58, LI59, LI62, LI63, LI65, LI66, LI67, LI68, LI69, LI70, LI71, LI72, LI73, LI74, LI75, LI76, LI77, LI78, LI79, LI81, LI82, LI83, LI84, LI85, LI86, LI87, LI88, LI89, LI90, LI91, LI92, LI93, LI94, LI95, LI96, LI97, LI98, LI99, LI100, LI101, LI102, LI103, LI104, LI105, LI106, LI107, LI108, LI109, LI110, LI111, LI112, LI113, LI114, LI115, LI116, LI117, LI118, LI119, LI120, LI121, LI122, LI123, LI124, LI125, LI126, LI127, LI255, LI256, LI999, LI1001, LI1002, LI1600, LI4096, LI1000001, LI2042, LM, nI_clamp, nI_pos', nI_lt, nI_nlt, nI_le, nI_ge, nI_ne, nI_add, nI_sub, mI_lt, mI_le, mI_nlt, mI_nle, mI_ne, mI_ne', mI_nem, e28]
  refine ⟨I2, J2, L2, fMs_tr f1 f2, fj2, n2, n2', ?_⟩
  rcases r2 with ⟨e, em, q1, q2⟩ | ⟨s'', c2, c3, c4', q1, q2, q3⟩
  · exact Or.inl ⟨e, em, q1, way.trans q2⟩
  · exact Or.inr ⟨s'', c2, c3, c4', q1, way.trans q2, q3⟩
end CHF
