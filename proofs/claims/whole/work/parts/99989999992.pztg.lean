/-! a name alone on the tape -/
section ZTG
variable {A : Nat → Nat} {d b n s0 Ls i c : Nat} {h : Nat → Option jC} {X : jXX} {I : Nat → Nat → Int32} {J : Nat → Nat → Int64} {R : Nat → Nat → Nat} {xs : Nat → Int32}
theorem c90 {t : Nat → Int32} {T m : Nat} (hT : tkS t T I J m) (hm : T ≤ 2000) : jcall A jcode (d + 2) 90 [.ref (b + 3)] (jH h b X I J R n) = some (.inl (some (.int (if KK t T 0 = 26 ∧ KK t T 1 = 29 then nI 1 else nI 0))), (jH h b X I J R n)) := by
  obtain ⟨a1, a2, a3, a4, a5⟩ := hT
  have k0 := (a5 0 (by omega)).1
  rw [(KK_e (t := t) (N := T) (j := 0)).2] at k0
  have o0 := okK_lt (KK_e (t := t) (N := T) (j := 0)).1
  have e0 := c84 (A := A) (d := d) (b := b) (h := h) (X := X) (I := I) (J := J) (R := R) (n := n) (m := m) (j := 0) a1 (by omega) (by omega)
  rw [k0] at e0
  by_cases h0 : KK t T 0 = 26
  · have hm1 : 1 ≤ m := by
      rcases Nat.eq_zero_or_pos m with q | q
      · exfalso
        subst q
        have k := (KK_e (t := t) (N := T) (j := 0)).2
        rw [a3, h0] at k
        unfold tkK at k
        rw [if_pos (Nat.le_refl _)] at k
        exact absurd k (by decide)
      · exact q
    have k1 := (a5 1 hm1).1
    rw [(KK_e (t := t) (N := T) (j := 1)).2] at k1
    have o1 := okK_lt (KK_e (t := t) (N := T) (j := 1)).1
    have e1 := c84 (A := A) (d := d) (b := b) (h := h) (X := X) (I := I) (J := J) (R := R) (n := n) (m := m) (j := 1) a1 (by omega) hm1
    rw [k1] at e1
    rw [h0] at e0
    by_cases h1 : KK t T 1 = 29
    · rw [if_pos ⟨h0, h1⟩]
      rw [h1] at e1
      simp (disch := omega) [je90, r90_0, r90_1, r90_2, r90_5, r90_7, r90_10, r90_11, r90_12, r90_15, r90_17, r90_20, r90_21, r90_24, r90_25, qa84, qo84, g3, List.getElem?_cons_zero, List.getElem?_cons_succ, List.length_cons, List.length_nil, ag_nx, ag_dn, ag_no, ag_if, jbr1, jbr2, jc1, jc2, jnul, jld, jsto, jstoL, jst1, jst2, jkill, jinc, jbI, jbL, jbS, juI, jl2i, jcmp, jisR, jisI, jisL, jret, jretv, jfits, jdup, jdup2, jpop, jmm, jcat, Value.category, jinv, jrcv, jthr, jhd, jput, jget, jlen, jald, jast, jaast, jgI, jgL, jgB, jtab, jlku, jacp, vf20, vf21, vf22, vf23, vf24, u2_s, u2_k, u2_i, uc_s, uc_k, uc_c, u2_c, LI0, LI1, LI2, LI3, LI4, LI5, LI6, LI7, LI8, LI9, LI10, LI11, LI12, LI13, LI14, LI15, LI16, LI17, LI18, LI19, LI20, LI21, LI22, LI23, LI24, LI25, LI26, LI27, LI28, LI29, LI30, LI31, LI32, LI33, LI34, LI35, LI36, LI37, LI40, LI42, LI43, LI45, LI48, LI60, LI61, LI64, LI80, LI300, LI400, LI1000, LI2000, LI2001, LI2047, LI2048, LI100000, LI1000000, LI38, LI39, LI41, LI44, LI46, LI47, LI49, LI50, LI51, LI52, LI53, LI54, LI55, LI56, LI57, LI58, LI59, LI62, LI63, LI65, LI66, LI67, LI68, LI69, LI70, LI71, LI72, LI73, LI74, LI75, LI76, LI77, LI78, LI79, LI81, LI82, LI83, LI84, LI85, LI86, LI87, LI88, LI89, LI90, LI91, LI92, LI93, LI94, LI95, LI96, LI97, LI98, LI99, LI100, LI101, LI102, LI103, LI104, LI105, LI106, LI107, LI108, LI109, LI110, LI111, LI112, LI113, LI114, LI115, LI116, LI117, LI118, LI119, LI120, LI121, LI122, LI123, LI124, LI125, LI126, LI127, LI255, LI256, LI999, LI1001, LI1002, LI1600, LI4096, LI1000001, LI2042, LM, nI_clamp, nI_pos', nI_lt, nI_nlt, nI_le, nI_ge, nI_ne, nI_add, nI_sub, mI_lt, mI_le, mI_nlt, mI_nle, mI_ne, mI_ne', mI_nem, e0, e1]
    · rw [if_neg (fun z => h1 z.2)]
      have n1 : ¬ nI (KK t T 1) = nI 29 := nI_ne h1 (by omega) (by omega)
      simp (disch := omega) [je90, r90_0, r90_1, r90_2, r90_5, r90_7, r90_10, r90_11, r90_12, r90_15, r90_17, r90_20, r90_21, r90_24, r90_25, qa84, qo84, g3, List.getElem?_cons_zero, List.getElem?_cons_succ, List.length_cons, List.length_nil, ag_nx, ag_dn, ag_no, ag_if, jbr1, jbr2, jc1, jc2, jnul, jld, jsto, jstoL, jst1, jst2, jkill, jinc, jbI, jbL, jbS, juI, jl2i, jcmp, jisR, jisI, jisL, jret, jretv, jfits, jdup, jdup2, jpop, jmm, jcat, Value.category, jinv, jrcv, jthr, jhd, jput, jget, jlen, jald, jast, jaast, jgI, jgL, jgB, jtab, jlku, jacp, vf20, vf21, vf22, vf23, vf24, u2_s, u2_k, u2_i, uc_s, uc_k, uc_c, u2_c, LI0, LI1, LI2, LI3, LI4, LI5, LI6, LI7, LI8, LI9, LI10, LI11, LI12, LI13, LI14, LI15, LI16, LI17, LI18, LI19, LI20, LI21, LI22, LI23, LI24, LI25, LI26, LI27, LI28, LI29, LI30, LI31, LI32, LI33, LI34, LI35, LI36, LI37, LI40, LI42, LI43, LI45, LI48, LI60, LI61, LI64, LI80, LI300, LI400, LI1000, LI2000, LI2001, LI2047, LI2048, LI100000, LI1000000, LI38, LI39, LI41, LI44, LI46, LI47, LI49, LI50, LI51, LI52, LI53, LI54, LI55, LI56, LI57, LI58, LI59, LI62, LI63, LI65, LI66, LI67, LI68, LI69, LI70, LI71, LI72, LI73, LI74, LI75, LI76, LI77, LI78, LI79, LI81, LI82, LI83, LI84, LI85, LI86, LI87, LI88, LI89, LI90, LI91, LI92, LI93, LI94, LI95, LI96, LI97, LI98, LI99, LI100, LI101, LI102, LI103, LI104, LI105, LI106, LI107, LI108, LI109, LI110, LI111, LI112, LI113, LI114, LI115, LI116, LI117, LI118, LI119, LI120, LI121, LI122, LI123, LI124, LI125, LI126, LI127, LI255, LI256, LI999, LI1001, LI1002, LI1600, LI4096, LI1000001, LI2042, LM, nI_clamp, nI_pos', nI_lt, nI_nlt, nI_le, nI_ge, nI_ne, nI_add, nI_sub, mI_lt, mI_le, mI_nlt, mI_nle, mI_ne, mI_ne', mI_nem, e0, e1, n1]
  · rw [if_neg (fun z => h0 z.1)]
    have n0 : ¬ nI (KK t T 0) = nI 26 := nI_ne h0 (by omega) (by omega)
    simp (disch := omega) [je90, r90_0, r90_1, r90_2, r90_5, r90_7, r90_10, r90_11, r90_12, r90_15, r90_17, r90_20, r90_21, r90_24, r90_25, qa84, qo84, g3, List.getElem?_cons_zero, List.getElem?_cons_succ, List.length_cons, List.length_nil, ag_nx, ag_dn, ag_no, ag_if, jbr1, jbr2, jc1, jc2, jnul, jld, jsto, jstoL, jst1, jst2, jkill, jinc, jbI, jbL, jbS, juI, jl2i, jcmp, jisR, jisI, jisL, jret, jretv, jfits, jdup, jdup2, jpop, jmm, jcat, Value.category, jinv, jrcv, jthr, jhd, jput, jget, jlen, jald, jast, jaast, jgI, jgL, jgB, jtab, jlku, jacp, vf20, vf21, vf22, vf23, vf24, u2_s, u2_k, u2_i, uc_s, uc_k, uc_c, u2_c, LI0, LI1, LI2, LI3, LI4, LI5, LI6, LI7, LI8, LI9, LI10, LI11, LI12, LI13, LI14, LI15, LI16, LI17, LI18, LI19, LI20, LI21, LI22, LI23, LI24, LI25, LI26, LI27, LI28, LI29, LI30, LI31, LI32, LI33, LI34, LI35, LI36, LI37, LI40, LI42, LI43, LI45, LI48, LI60, LI61, LI64, LI80, LI300, LI400, LI1000, LI2000, LI2001, LI2047, LI2048, LI100000, LI1000000, LI38, LI39, LI41, LI44, LI46, LI47, LI49, LI50, LI51, LI52, LI53, LI54, LI55, LI56, LI57, LI58, LI59, LI62, LI63, LI65, LI66, LI67, LI68, LI69, LI70, LI71, LI72, LI73, LI74, LI75, LI76, LI77, LI78, LI79, LI81, LI82, LI83, LI84, LI85, LI86, LI87, LI88, LI89, LI90, LI91, LI92, LI93, LI94, LI95, LI96, LI97, LI98, LI99, LI100, LI101, LI102, LI103, LI104, LI105, LI106, LI107, LI108, LI109, LI110, LI111, LI112, LI113, LI114, LI115, LI116, LI117, LI118, LI119, LI120, LI121, LI122, LI123, LI124, LI125, LI126, LI127, LI255, LI256, LI999, LI1001, LI1002, LI1600, LI4096, LI1000001, LI2042, LM, nI_clamp, nI_pos', nI_lt, nI_nlt, nI_le, nI_ge, nI_ne, nI_add, nI_sub, mI_lt, mI_le, mI_nlt, mI_nle, mI_ne, mI_ne', mI_nem, e0, n0]
theorem c87 {m : Nat} (hl : I 3 6 = nI (m + 1)) (hm : m ≤ 2000) {j : Nat} (hj : j ≤ m) : jcall A jcode (d + 1) 87 [.ref (b + 3), .int (nI j)] (jH h b X I J R n) = some (.inl (some (.long (J 8 j))), (jH h b X I J R n)) := by
  have j1 : ¬ nI j < nI 0 := by rw [nI_ltI (by omega) (by omega)]; omega
  have j2 : ¬ nI (m + 1) ≤ nI j := nI_ge (by omega) (by omega)
  have j3 : j < 2001 := by omega
  simp (disch := omega) [je87, r87_0, r87_1, r87_4, r87_5, r87_6, r87_9, r87_12, r87_13, r87_16, r87_17, r87_18, r87_21, r87_22, g3, vf6_6, vf6_4, t3_4, g8, List.getElem?_cons_zero, List.getElem?_cons_succ, List.length_cons, List.length_nil, ag_nx, ag_dn, ag_no, ag_if, jbr1, jbr2, jc1, jc2, jnul, jld, jsto, jstoL, jst1, jst2, jkill, jinc, jbI, jbL, jbS, juI, jl2i, jcmp, jisR, jisI, jisL, jret, jretv, jfits, jdup, jdup2, jpop, jmm, jcat, Value.category, jinv, jrcv, jthr, jhd, jput, jget, jlen, jald, jast, jaast, jgI, jgL, jgB, jtab, jlku, jacp, vf20, vf21, vf22, vf23, vf24, u2_s, u2_k, u2_i, uc_s, uc_k, uc_c, u2_c, LI0, LI1, LI2, LI3, LI4, LI5, LI6, LI7, LI8, LI9, LI10, LI11, LI12, LI13, LI14, LI15, LI16, LI17, LI18, LI19, LI20, LI21, LI22, LI23, LI24, LI25, LI26, LI27, LI28, LI29, LI30, LI31, LI32, LI33, LI34, LI35, LI36, LI37, LI40, LI42, LI43, LI45, LI48, LI60, LI61, LI64, LI80, LI300, LI400, LI1000, LI2000, LI2001, LI2047, LI2048, LI100000, LI1000000, LI38, LI39, LI41, LI44, LI46, LI47, LI49, LI50, LI51, LI52, LI53, LI54, LI55, LI56, LI57, LI58, LI59, LI62, LI63, LI65, LI66, LI67, LI68, LI69, LI70, LI71, LI72, LI73, LI74, LI75, LI76, LI77, LI78, LI79, LI81, LI82, LI83, LI84, LI85, LI86, LI87, LI88, LI89, LI90, LI91, LI92, LI93, LI94, LI95, LI96, LI97, LI98, LI99, LI100, LI101, LI102, LI103, LI104, LI105, LI106, LI107, LI108, LI109, LI110, LI111, LI112, LI113, LI114, LI115, LI116, LI117, LI118, LI119, LI120, LI121, LI122, LI123, LI124, LI125, LI126, LI127, LI255, LI256, LI999, LI1001, LI1002, LI1600, LI4096, LI1000001, LI2042, LM, nI_clamp, nI_pos', nI_lt, nI_nlt, nI_le, nI_ge, nI_ne, nI_add, nI_sub, mI_lt, mI_le, mI_nlt, mI_nle, mI_ne, mI_ne', mI_nem, hl, j1, j2, j3]
theorem c88 {m : Nat} (hl : I 3 6 = nI (m + 1)) (hm : m ≤ 2000) {j : Nat} (hj : j ≤ m) : jcall A jcode (d + 1) 88 [.ref (b + 3), .int (nI j)] (jH h b X I J R n) = some (.inl (some (.int (I 9 j))), (jH h b X I J R n)) := by
  have j1 : ¬ nI j < nI 0 := by rw [nI_ltI (by omega) (by omega)]; omega
  have j2 : ¬ nI (m + 1) ≤ nI j := nI_ge (by omega) (by omega)
  have j3 : j < 2001 := by omega
  simp (disch := omega) [je88, r88_0, r88_1, r88_4, r88_5, r88_6, r88_9, r88_12, r88_13, r88_16, r88_17, r88_18, r88_21, r88_22, g3, vf6_6, vf6_5, t3_5, g9, List.getElem?_cons_zero, List.getElem?_cons_succ, List.length_cons, List.length_nil, ag_nx, ag_dn, ag_no, ag_if, jbr1, jbr2, jc1, jc2, jnul, jld, jsto, jstoL, jst1, jst2, jkill, jinc, jbI, jbL, jbS, juI, jl2i, jcmp, jisR, jisI, jisL, jret, jretv, jfits, jdup, jdup2, jpop, jmm, jcat, Value.category, jinv, jrcv, jthr, jhd, jput, jget, jlen, jald, jast, jaast, jgI, jgL, jgB, jtab, jlku, jacp, vf20, vf21, vf22, vf23, vf24, u2_s, u2_k, u2_i, uc_s, uc_k, uc_c, u2_c, LI0, LI1, LI2, LI3, LI4, LI5, LI6, LI7, LI8, LI9, LI10, LI11, LI12, LI13, LI14, LI15, LI16, LI17, LI18, LI19, LI20, LI21, LI22, LI23, LI24, LI25, LI26, LI27, LI28, LI29, LI30, LI31, LI32, LI33, LI34, LI35, LI36, LI37, LI40, LI42, LI43, LI45, LI48, LI60, LI61, LI64, LI80, LI300, LI400, LI1000, LI2000, LI2001, LI2047, LI2048, LI100000, LI1000000, LI38, LI39, LI41, LI44, LI46, LI47, LI49, LI50, LI51, LI52, LI53, LI54, LI55, LI56, LI57, LI58, LI59, LI62, LI63, LI65, LI66, LI67, LI68, LI69, LI70, LI71, LI72, LI73, LI74, LI75, LI76, LI77, LI78, LI79, LI81, LI82, LI83, LI84, LI85, LI86, LI87, LI88, LI89, LI90, LI91, LI92, LI93, LI94, LI95, LI96, LI97, LI98, LI99, LI100, LI101, LI102, LI103, LI104, LI105, LI106, LI107, LI108, LI109, LI110, LI111, LI112, LI113, LI114, LI115, LI116, LI117, LI118, LI119, LI120, LI121, LI122, LI123, LI124, LI125, LI126, LI127, LI255, LI256, LI999, LI1001, LI1002, LI1600, LI4096, LI1000001, LI2042, LM, nI_clamp, nI_pos', nI_lt, nI_nlt, nI_le, nI_ge, nI_ne, nI_add, nI_sub, mI_lt, mI_le, mI_nlt, mI_nle, mI_ne, mI_ne', mI_nem, hl, j1, j2, j3]
/-- what a call that reads a name leaves of the reference -/
def rKn (X : jXX) (I : Nat → Nat → Int32) (n nn nb T : Nat) (X' : jXX) (I' : Nat → Nat → Int32) (n' nn' nb' : Nat) : Prop := rNm X' I' nn' nb' ∧ cpT X' nn' nb' ∧ nn ≤ nn' ∧ nb' ≤ nb + T + 12 ∧ (∀ u, u < nn → rnm I' u = rnm I u) ∧ gro X n X' n' ∧ fX X X' ∧ I' 241 13 = nI 0 ∧ ∀ c i, ¬ (c = 241 ∧ (i = 8 ∨ i = 9 ∨ (13 ≤ i ∧ i ≤ 18))) → ¬ (243 ≤ c ∧ c ≤ 247) → c ≠ 249 → I' c i = I c i
theorem r251 {T nn nb : Nat} (hA : jAp0 A) (hN : T ≤ 2000) (h13 : I 241 13 = nI T) (hb : ∀ i, i < T → (I 248 i).toInt8.toInt32 = I 248 i) (hnm : rNm X I nn nb) (hcT : cpT X nn nb) (hnb : nb ≤ 2 ^ 17) : ∃ X' I' n' nn' nb' v, jcall A jcode (d + 7) 251 [.ref (b + 241)] (jH h b X I J R n) = some (.inl (some (.int v)), (jH h b X' I' J R n')) ∧ rKn X I n nn nb T X' I' n' nn' nb' ∧ (KK (tpT I T) T 0 = 26 ∧ KK (tpT I T) T 1 = 29 → ∃ w, w < nn' ∧ v = nI w ∧ rnm I' w = Yn (tpT I T) T 0) ∧ (¬ (KK (tpT I T) T 0 = 26 ∧ KK (tpT I T) T 1 = 29) → v = mI 1) := by
  obtain ⟨t, ht⟩ : ∃ t, t = tpT I T := ⟨_, rfl⟩
  rw [← ht]
  obtain ⟨I1, e245, g1, g2, g3, g4⟩ := r245 (A := A) (d := d + 5) (b := b) (h := h) (X := X) (J := J) (R := R) (n := n) (I := I) hN h13 hb
  have h249 : I1 249 = t := by
    rw [ht]; funext i; unfold tpT
    by_cases hi : i < T
    · rw [if_pos hi, g4 i hi]
    · rw [if_neg hi, g1 249 i (by omega) (by omega)]
  obtain ⟨I2, hI2⟩ : ∃ I2, I2 = u2 I1 241 15 (nI 0) := ⟨_, rfl⟩
  have f2 : ∀ c i, ¬ (c = 241 ∧ i = 15) → I2 c i = I1 c i := fun c i hc => by rw [hI2]; exact u2_o _ _ hc
  have f12 : ∀ c i, c ≠ 249 → ¬ (c = 241 ∧ (13 ≤ i ∧ i ≤ 15)) → I2 c i = I c i := fun c i h1 h2 => by rw [f2 c i (by omega), g1 c i (by omega) (by omega)]
  have hnm2 : rNm X I2 nn nb := rNm_s hnm (fun c i c1 c2 => f12 c i (by omega) (by omega)) (f12 _ _ (by omega) (by omega)) (f12 _ _ (by omega) (by omega))
  obtain ⟨X3, I3, n3, nn3, nb3, e185, p1, p2, p3, p4, p5, p6, p7, p8, p9, p10, p11⟩ := rToken (A := A) (d := d) (b := b) (h := h) (X := X) (J := J) (R := R) (n := n) (t := t) (p := 0) hA hN ((f2 _ _ (by omega)).trans g3) (by rw [← h249]; exact funext fun i => f2 _ _ (by omega)) (by rw [hI2]; exact u2_s) (by omega) hnm2 (by omega)
  have etp : sk t T 0 = tpos t T 0 := rfl
  rw [etp] at p1 p2
  obtain ⟨q18, k, q1, q2, q3, q4, q5, q6⟩ := p1
  have hk0 : KK t T 0 = k := by unfold KK; rw [q2]; exact nI_clamp (by have := okK_lt q1; omega)
  have klt := okK_lt q1
  have f3 : ∀ c i, ¬ (c = 241 ∧ (i = 8 ∨ i = 9 ∨ (13 ≤ i ∧ i ≤ 18))) → ¬ (243 ≤ c ∧ c ≤ 247) → c ≠ 249 → I3 c i = I c i := fun c i h1 h2 h3 => by rw [p8 c i h2 (by omega), f12 c i h3 (by omega)]
  have z13 : I3 241 13 = nI 0 := by rw [p8 _ _ (by omega) (by omega), f2 _ _ (by omega)]; exact g2
  have rn3 : ∀ u, u < nn → rnm I3 u = rnm I u := fun u hu => (p7 u hu).trans (rnm_e (fun c i c1 c2 => f12 c i (by omega) (by omega)))
  by_cases h0 : k = 26
  · obtain ⟨w, w1, w2, w3⟩ := q4 h0
    have hx28 : ¬ tkK t T (tpos t T 0) = nI 28 := by rw [q2, h0]; decide
    obtain ⟨s1, s2⟩ := p2 hx28
    have hxN : tkX t T (tpos t T 0) ≤ T := (tkX_le tpos_N).2
    obtain ⟨X4, I4, n4, nn4, nb4, e185b, r1, r2, r3, r4, r5, r6, r7, r8, r9, r10, r11⟩ := rToken (A := A) (d := d) (b := b) (h := h) (X := X3) (J := J) (R := R) (n := n3) (t := t) (p := tkX t T (tpos t T 0)) hA hN (by rw [p8 _ _ (by omega) (by omega), f2 _ _ (by omega)]; exact g3) (by rw [← h249]; exact funext fun i => by rw [p8 _ _ (by omega) (by omega), f2 _ _ (by omega)]) s1 hxN p3 (by omega)
    have etp1 : sk t T (tkX t T (tpos t T 0)) = tpos t T 1 := rfl
    rw [etp1] at r1
    obtain ⟨q18', k', q1', q2', q3', _⟩ := r1
    have hk1 : KK t T 1 = k' := by unfold KK; rw [q2']; exact nI_clamp (by have := okK_lt q1'; omega)
    have klt' := okK_lt q1'
    have f4 : ∀ c i, ¬ (c = 241 ∧ (i = 8 ∨ i = 9 ∨ (13 ≤ i ∧ i ≤ 18))) → ¬ (243 ≤ c ∧ c ≤ 247) → c ≠ 249 → I4 c i = I c i := fun c i h1 h2 h3 => by rw [r8 c i h2 (by omega), f3 c i h1 h2 h3]
    have hkn : rKn X I n nn nb T X4 I4 n4 nn4 nb4 := ⟨r3, r11 (p11 hcT), by omega, by omega, fun u hu => (r7 u (by omega)).trans (rn3 u hu), gro_trans p10 r10, fun v hv => ⟨(r9 v hv).1.trans (p9 v hv).1, (r9 v hv).2.trans (p9 v hv).2⟩, by rw [r8 _ _ (by omega) (by omega)]; exact z13, f4⟩
    have k16 : I3 241 16 = nI 1 := by rw [q3, h0]; decide
    have hz := kcd_0 k' klt'
    refine ⟨X4, I4, n4, nn4, nb4, if k' = 29 then nI w else mI 1, ?_, hkn, fun hh => ?_, fun hh => ?_⟩
    · by_cases h1 : k' = 29
      · rw [if_pos h1]
        have k16' : I4 241 16 = nI 0 := by rw [q3']; exact hz.mpr h1
        rw [hI2] at e185
        simp (disch := omega) [je251, r251_0, r251_1, r251_4, r251_5, r251_6, r251_9, r251_10, r251_13, r251_14, r251_17, r251_18, r251_21, r251_22, r251_23, r251_24, r251_27, r251_28, r251_29, r251_32, r251_33, r251_36, r251_39, r251_40, r251_43, r251_44, qa245, qo245, g241, p241_15, ty12_15, qa185, qo185, vf12_16, vf12_17, List.getElem?_cons_zero, List.getElem?_cons_succ, List.length_cons, List.length_nil, ag_nx, ag_dn, ag_no, ag_if, jbr1, jbr2, jc1, jc2, jnul, jld, jsto, jstoL, jst1, jst2, jkill, jinc, jbI, jbL, jbS, juI, jl2i, jcmp, jisR, jisI, jisL, jret, jretv, jfits, jdup, jdup2, jpop, jmm, jcat, Value.category, jinv, jrcv, jthr, jhd, jput, jget, jlen, jald, jast, jaast, jgI, jgL, jgB, jtab, jlku, jacp, vf20, vf21, vf22, vf23, vf24, u2_s, u2_k, u2_i, uc_s, uc_k, uc_c, u2_c, LI0, LI1, LI2, LI3, LI4, LI5, LI6, LI7, LI8, LI9, LI10, LI11, LI12, LI13, LI14, LI15, LI16, LI17, LI18, LI19, LI20, LI21, LI22, LI23, LI24, LI25, LI26, LI27, LI28, LI29, LI30, LI31, LI32, LI33, LI34, LI35, LI36, LI37, LI40, LI42, LI43, LI45, LI48, LI60, LI61, LI64, LI80, LI300, LI400, LI1000, LI2000, LI2001, LI2047, LI2048, LI100000, LI1000000, LI38, LI39, LI41, LI44, LI46, LI47, LI49, LI50, LI51, LI52, LI53, LI54, LI55, LI56, LI57, LI58, LI59, LI62, LI63, LI65, LI66, LI67, LI68, LI69, LI70, LI71, LI72, LI73, LI74, LI75, LI76, LI77, LI78, LI79, LI81, LI82, LI83, LI84, LI85, LI86, LI87, LI88, LI89, LI90, LI91, LI92, LI93, LI94, LI95, LI96, LI97, LI98, LI99, LI100, LI101, LI102, LI103, LI104, LI105, LI106, LI107, LI108, LI109, LI110, LI111, LI112, LI113, LI114, LI115, LI116, LI117, LI118, LI119, LI120, LI121, LI122, LI123, LI124, LI125, LI126, LI127, LI255, LI256, LI999, LI1001, LI1002, LI1600, LI4096, LI1000001, LI2042, LM, nI_clamp, nI_pos', nI_lt, nI_nlt, nI_le, nI_ge, nI_ne, nI_add, nI_sub, mI_lt, mI_le, mI_nlt, mI_nle, mI_ne, mI_ne', mI_nem, e245, e185, k16, w2, e185b, k16']
      · rw [if_neg h1]
        have k16' : ¬ I4 241 16 = nI 0 := by rw [q3']; exact fun z => h1 (hz.mp z)
        rw [hI2] at e185
        simp (disch := omega) [je251, r251_0, r251_1, r251_4, r251_5, r251_6, r251_9, r251_10, r251_13, r251_14, r251_17, r251_18, r251_21, r251_22, r251_23, r251_24, r251_27, r251_28, r251_29, r251_32, r251_33, r251_36, r251_39, r251_40, r251_43, r251_44, qa245, qo245, g241, p241_15, ty12_15, qa185, qo185, vf12_16, vf12_17, List.getElem?_cons_zero, List.getElem?_cons_succ, List.length_cons, List.length_nil, ag_nx, ag_dn, ag_no, ag_if, jbr1, jbr2, jc1, jc2, jnul, jld, jsto, jstoL, jst1, jst2, jkill, jinc, jbI, jbL, jbS, juI, jl2i, jcmp, jisR, jisI, jisL, jret, jretv, jfits, jdup, jdup2, jpop, jmm, jcat, Value.category, jinv, jrcv, jthr, jhd, jput, jget, jlen, jald, jast, jaast, jgI, jgL, jgB, jtab, jlku, jacp, vf20, vf21, vf22, vf23, vf24, u2_s, u2_k, u2_i, uc_s, uc_k, uc_c, u2_c, LI0, LI1, LI2, LI3, LI4, LI5, LI6, LI7, LI8, LI9, LI10, LI11, LI12, LI13, LI14, LI15, LI16, LI17, LI18, LI19, LI20, LI21, LI22, LI23, LI24, LI25, LI26, LI27, LI28, LI29, LI30, LI31, LI32, LI33, LI34, LI35, LI36, LI37, LI40, LI42, LI43, LI45, LI48, LI60, LI61, LI64, LI80, LI300, LI400, LI1000, LI2000, LI2001, LI2047, LI2048, LI100000, LI1000000, LI38, LI39, LI41, LI44, LI46, LI47, LI49, LI50, LI51, LI52, LI53, LI54, LI55, LI56, LI57, LI58, LI59, LI62, LI63, LI65, LI66, LI67, LI68, LI69, LI70, LI71, LI72, LI73, LI74, LI75, LI76, LI77, LI78, LI79, LI81, LI82, LI83, LI84, LI85, LI86, LI87, LI88, LI89, LI90, LI91, LI92, LI93, LI94, LI95, LI96, LI97, LI98, LI99, LI100, LI101, LI102, LI103, LI104, LI105, LI106, LI107, LI108, LI109, LI110, LI111, LI112, LI113, LI114, LI115, LI116, LI117, LI118, LI119, LI120, LI121, LI122, LI123, LI124, LI125, LI126, LI127, LI255, LI256, LI999, LI1001, LI1002, LI1600, LI4096, LI1000001, LI2042, LM, nI_clamp, nI_pos', nI_lt, nI_nlt, nI_le, nI_ge, nI_ne, nI_add, nI_sub, mI_lt, mI_le, mI_nlt, mI_nle, mI_ne, mI_ne', mI_nem, e245, e185, k16, w2, e185b, k16']
    · have h1 : k' = 29 := by rw [← hk1]; exact hh.2
      rw [if_pos h1]
      exact ⟨w, by omega, rfl, (r7 w w1).trans w3⟩
    · have h1 : ¬ k' = 29 := fun z => hh ⟨hk0.trans h0, hk1.trans z⟩
      rw [if_neg h1]
  · have hkn : rKn X I n nn nb T X3 I3 n3 nn3 nb3 := ⟨p3, p11 hcT, p4, by omega, rn3, p10, p9, z13, f3⟩
    have k16 : ¬ I3 241 16 = nI 1 := by rw [q3]; exact fun z => h0 ((kcd_1 k klt).mp z)
    refine ⟨X3, I3, n3, nn3, nb3, mI 1, ?_, hkn, fun hh => absurd (hk0.symm.trans hh.1) h0, fun _ => rfl⟩
    rw [hI2] at e185
    simp (disch := omega) [je251, r251_0, r251_1, r251_4, r251_5, r251_6, r251_9, r251_10, r251_13, r251_14, r251_17, r251_18, r251_21, r251_22, r251_23, r251_24, r251_27, r251_28, r251_29, r251_32, r251_33, r251_36, r251_39, r251_40, r251_43, r251_44, qa245, qo245, g241, p241_15, ty12_15, qa185, qo185, vf12_16, vf12_17, List.getElem?_cons_zero, List.getElem?_cons_succ, List.length_cons, List.length_nil, ag_nx, ag_dn, ag_no, ag_if, jbr1, jbr2, jc1, jc2, jnul, jld, jsto, jstoL, jst1, jst2, jkill, jinc, jbI, jbL, jbS, juI, jl2i, jcmp, jisR, jisI, jisL, jret, jretv, jfits, jdup, jdup2, jpop, jmm, jcat, Value.category, jinv, jrcv, jthr, jhd, jput, jget, jlen, jald, jast, jaast, jgI, jgL, jgB, jtab, jlku, jacp, vf20, vf21, vf22, vf23, vf24, u2_s, u2_k, u2_i, uc_s, uc_k, uc_c, u2_c, LI0, LI1, LI2, LI3, LI4, LI5, LI6, LI7, LI8, LI9, LI10, LI11, LI12, LI13, LI14, LI15, LI16, LI17, LI18, LI19, LI20, LI21, LI22, LI23, LI24, LI25, LI26, LI27, LI28, LI29, LI30, LI31, LI32, LI33, LI34, LI35, LI36, LI37, LI40, LI42, LI43, LI45, LI48, LI60, LI61, LI64, LI80, LI300, LI400, LI1000, LI2000, LI2001, LI2047, LI2048, LI100000, LI1000000, LI38, LI39, LI41, LI44, LI46, LI47, LI49, LI50, LI51, LI52, LI53, LI54, LI55, LI56, LI57, LI58, LI59, LI62, LI63, LI65, LI66, LI67, LI68, LI69, LI70, LI71, LI72, LI73, LI74, LI75, LI76, LI77, LI78, LI79, LI81, LI82, LI83, LI84, LI85, LI86, LI87, LI88, LI89, LI90, LI91, LI92, LI93, LI94, LI95, LI96, LI97, LI98, LI99, LI100, LI101, LI102, LI103, LI104, LI105, LI106, LI107, LI108, LI109, LI110, LI111, LI112, LI113, LI114, LI115, LI116, LI117, LI118, LI119, LI120, LI121, LI122, LI123, LI124, LI125, LI126, LI127, LI255, LI256, LI999, LI1001, LI1002, LI1600, LI4096, LI1000001, LI2042, LM, nI_clamp, nI_pos', nI_lt, nI_nlt, nI_le, nI_ge, nI_ne, nI_add, nI_sub, mI_lt, mI_le, mI_nlt, mI_nle, mI_ne, mI_ne', mI_nem, e245, e185, k16]
/-- the class's cells of the tokens and the reference's names have changed -/
theorem Rel_N {X1 X' : jXX} {I' : Nat → Nat → Int32} {J' : Nat → Nat → Int64} {T nn nb M P P' L C C' n1 n' nn' nb' : Nat} (a1 : zT I T) (a2 : zO I) (a3 : zF I J R) (a4 : zN X I nn nb c T) (a5 : zM X I M) (a6 : zP I J R P P' L) (a7 : zS X I J R c P L nn M) (a8 : zK X I) (a9 : zC I J R nn C C') (a10 : zR X n c) (hX1 : ∀ v, cp X1 v = cp X v) (htp : tp X1 ≤ tp X + 1) (hn1 : n1 ≤ n + 6) (hg : gro X1 n1 X' n') (hfX : fX X1 X') (hrN : rNm X' I' nn' nb') (hcT : cpT X' nn' nb') (hnn : nn ≤ nn') (hnb : nb' ≤ nb + T + 12) (hrn : ∀ u, u < nn → rnm I' u = rnm I u) (z1 : I' 0 1 = nI 0) (z13 : I' 241 13 = nI 0) (hi : ∀ c i, ¬ (3 ≤ c ∧ c ≤ 9) → ¬ (c = 0 ∧ i = 1) → ¬ (c = 241 ∧ (i = 0 ∨ i = 8 ∨ i = 9 ∨ (13 ≤ i ∧ i ≤ 18))) → ¬ (243 ≤ c ∧ c ≤ 247) → c ≠ 249 → I' c i = I c i) (hJ : ∀ c i, c ≠ 8 → c ≠ 299 → J' c i = J c i) : Rel (c + 1) X' I' J' R n' := by
  have hP := a6.1
  have hC := a9.1
  have hcp : ∀ v, ¬ (243 ≤ v ∧ v ≤ 246) → cp X' v = cp X v := fun v hv => (hfX v hv).1.trans (hX1 v)
  have hsc : scp X1 = scp X := by unfold scp; simp only [hX1]
  refine ⟨0, nn', nb', M, P, P', L, C, C', ⟨by omega, z1, z13, fun i hl => ?_⟩, zO_fr a2 (fun c i hc => hi c i (by omega) (by omega) (by omega) (by omega) (by omega)), zF_fr a3 (hi _ _ (by omega) (by omega) (by omega) (by omega) (by omega)) (fun i => hJ _ _ (by omega) (by omega)) a3.2.2, ⟨hrN, hcT, by have := a4.2.2; omega⟩, zM_fr a5 (hi _ _ (by omega) (by omega) (by omega) (by omega) (by omega)) (fun v h1 h2 => hcp v (by omega)), zP_fr a6 (fun c i _ _ => hi c i (by omega) (by omega) (by omega) (by omega) (by omega)) (fun c i _ _ => hJ _ _ (by omega) (by omega)) (fun _ _ => rfl), ?_, zK_fr a8 (fun c i hc => hi c i (by omega) (by omega) (by omega) (by omega) (by omega)) (hcp _ (by omega)), zC_fr a9 (fun c i hc => hi c i (by omega) (by omega) (by omega) (by omega) (by omega)) (fun i => hJ _ _ (by omega) (by omega)) (fun _ _ => rfl) hnn hrn, ?_⟩
  · rw [hi 1 i (by omega) (by omega) (by omega) (by omega) (by omega), hi 248 i (by omega) (by omega) (by omega) (by omega) (by omega)]
    exact a1.2.2.2 i hl
  · have ec : cnm I' J' (P + 1) = cnm I J (P + 1) := funext fun x => by unfold cnm; rw [hi _ _ (by omega) (by omega) (by omega) (by omega) (by omega), hJ _ _ (by omega) (by omega)]
    have hle : ∀ k, leP (cNf (cnm I J (P + 1)) k) (rNf (rnm I) nn) (cNf (cnm I J (P + 1)) k) (rNf (rnm I') nn') := fun k => leP_f (Nat.le_refl _) (fun _ _ => rfl) hnn hrn
    have fw : ∀ c i, 57 ≤ c → c ≤ 130 → I' c i = I c i := fun c i h1 h2 => hi c i (by omega) (by omega) (by omega) (by omega) (by omega)
    have fr : ∀ c i, (260 ≤ c ∧ c ≤ 281) ∨ (c = 241 ∧ 36 ≤ i ∧ i ≤ 68) → I' c i = I c i := fun c i hc => hi c i (by omega) (by omega) (by omega) (by omega) (by omega)
    obtain ⟨a70, a7⟩ := a7
    refine ⟨a70, ?_⟩
    rw [ec]
    rcases a7 with ⟨s1, s2, s3, s4, s5⟩ | ⟨k, np, Lc, cap, B, D, N, O, G, E, W, b1, b2, b3, b4, b5, b6, b7, b8, b9, b10, b11, b12, b13, b14, b15, b16, b17⟩
    · have s4' := wC_fr57 (I' := I') (R' := R) s4 fw (fun _ => rfl)
      have s5' := wR_fr (I' := I') s5 fr
      refine Or.inl ⟨(hi _ _ (by omega) (by omega) (by omega) (by omega) (by omega)).trans s1, (hi _ _ (by omega) (by omega) (by omega) (by omega) (by omega)).trans s2, (hi _ _ (by omega) (by omega) (by omega) (by omega) (by omega)).trans s3, s4', ?_⟩
      obtain ⟨x1, x2, x3, x4, x5⟩ := s5'
      refine ⟨⟨x1.1, x1.2.1, fun k a hka => by simp [eW] at hka⟩, x2, x3, fun hl => ?_, fun hl => by cases hl⟩
      obtain ⟨y1, y2, y3, y4, y5, y6, _, y8⟩ := x4 hl
      exact ⟨y1, y2, y3, y4, y5, y6, rfl, y8⟩
    · have b12' := wC_fr57 (I' := I') (R' := R) b12 fw (fun _ => rfl)
      have b13' := wR_fr (I' := I') b13 fr
      obtain ⟨c12, c13⟩ := wCR_mo (hle L) b12' b13'
      refine Or.inr ⟨k, np, Lc, cap, B, D, N, O, G, E, W, ?_⟩
      unfold zY
      rw [ec]
      exact ⟨(hi _ _ (by omega) (by omega) (by omega) (by omega) (by omega)).trans b1, (hi _ _ (by omega) (by omega) (by omega) (by omega) (by omega)).trans b2, b3, b4, by omega, ⟨b6.1, vnm_fr b6.2 (fun c i hc => hi c i (by omega) (by omega) (by omega) (by omega) (by omega))⟩, (hi _ _ (by omega) (by omega) (by omega) (by omega) (by omega)).trans b7, plC_fr (fun c i h1 h2 => hi c i (by omega) (by omega) (by omega) (by omega) (by omega)) (plC_mo (hle k) b8), b9, ⟨fun c i h1 h2 h3 => (hi c i (by omega) (by omega) (by omega) (by omega) (by omega)).trans (b10.1 c i h1 h2 h3), fun v h1 h2 => (hcp v (by omega)).trans (b10.2.1 v h1 h2), b10.2.2⟩, (hi _ _ (by omega) (by omega) (by omega) (by omega) (by omega)).trans b11, c12, c13, b14, b15, by omega, by omega⟩
  · obtain ⟨z2, z3⟩ := a10
    obtain ⟨g1, g2, g3⟩ := hg
    exact ⟨by omega, by omega⟩
end ZTG
