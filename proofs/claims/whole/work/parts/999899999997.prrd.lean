/-! races: the reference, whole -/
section RRD
variable {A : Nat → Nat} {d b n : Nat} {h : Nat → Option jC} {X : jXX} {I : Nat → Nat → Int32} {J : Nat → Nat → Int64} {R : Nat → Nat → Nat} {ln : Nat → Nat} {m : Nat}
/-- all rows -/
theorem r279b : ∀ (r p : Nat) (I : Nat → Nat → Int32) (v3 v4 : Option Value), p + r = 2 * m → rLi I m ln → (∀ p' q, p' < p → q < 2 * m → I 295 (p' * 2 * 40 + q) = if eB ln p' q = true then nI 1 else nI 0) → ∃ I' v3' v4', M279 A (d + 1) 9 [some (.ref (b + 241)), some (.int (nI (2 * m))), some (.int (nI p)), v3, v4] [] (jH h b X I J R n) = M279 A (d + 1) 94 [some (.ref (b + 241)), some (.int (nI (2 * m))), some (.int (nI 0)), v3', v4'] [] (jH h b X I' J R n) ∧ fMx I I' ∧ mW I' (2 * m) (eB ln) := by
  intro r
  induction r with
  | zero =>
    intro p I v3 v4 hp hl hb
    have h40 := hl.1
    have : p = 2 * m := by omega
    subst this
    refine ⟨I, v3, v4, ?_, fun _ _ _ => rfl, hb⟩
    conv => lhs; rw [r279_9]
    simp (disch := omega) [r279_10, r279_11, r279_92, r279_93, g241, vf12_84, qa277, qo277, vf12_97, t241_97, g295, p295, qa278, qo278, p241_88, ty12_88, vf12_99, t241_99, g297, p297, vf12_88, vf12_100, t241_100, g298, p298, List.getElem?_cons_zero, List.getElem?_cons_succ, List.length_cons, List.length_nil, ag_nx, ag_dn, ag_no, ag_if, jbr1, jbr2, jc1, jc2, jnul, jld, jsto, jstoL, jst1, jst2, jkill, jinc, jbI, jbL, jbS, juI, jl2i, jcmp, jisR, jisI, jisL, jret, jretv, jfits, jdup, jdup2, jpop, jmm, jcat, Value.category, jinv, jrcv, jthr, jhd, jput, jget, jlen, jald, jast, jaast, jgI, jgL, jgB, jtab, jlku, jacp, vf20, vf21, vf22, vf23, vf24, u2_s, u2_k, u2_i, uc_s, uc_k, uc_c, u2_c, LI0, LI1, LI2, LI3, LI4, LI5, LI6, LI7, LI8, LI9, LI10, LI11, LI12, LI13, LI14, LI15, LI16, LI17, LI18, LI19, LI20, LI21, LI22, LI23, LI24, LI25, LI26, LI27, LI28, LI29, LI30, LI31, LI32, LI33, LI34, LI35, LI36, LI37, LI40, LI42, LI43, LI45, LI48, LI60, LI61, LI64, LI80, LI300, LI400, LI1000, LI2000, LI2001, LI2047, LI2048, LI100000, LI1000000, LI38, LI39, LI41, LI44, LI46, LI47, LI49, LI50, LI51, LI52, LI53, LI54, LI55, LI56, LI57, LI58, LI59, LI62, LI63, LI65, LI66, LI67, LI68, LI69, LI70, LI71, LI72, LI73, LI74, LI75, LI76, LI77, LI78, LI79, LI81, LI82, LI83, LI84, LI85, LI86, LI87, LI88, LI89, LI90, LI91, LI92, LI93, LI94, LI95, LI96, LI97, LI98, LI99, LI100, LI101, LI102, LI103, LI104, LI105, LI106, LI107, LI108, LI109, LI110, LI111, LI112, LI113, LI114, LI115, LI116, LI117, LI118, LI119, LI120, LI121, LI122, LI123, LI124, LI125, LI126, LI127, LI255, LI256, LI999, LI1001, LI1002, LI1600, LI4096, LI1000001, LI2042, LM, nI_clamp, nI_pos', nI_lt, nI_nlt, nI_le, nI_ge, nI_ne, nI_add, nI_sub, mI_lt, mI_le, mI_nlt, mI_nle, mI_ne, mI_ne', mI_nem]
  | succ r ih =>
    intro p I v3 v4 hp hl hb
    have h40 := hl.1
    obtain ⟨I1, x, w4, e1, f1, g1⟩ := r279a (A := A) (d := d) (b := b) (h := h) (X := X) (J := J) (R := R) (n := n) (show p < 2 * m by omega) (2 * m) 0 I v4 (by omega) hl
    have f1' : fMx I I1 := fun c i hc => f1 c i (by omega)
    obtain ⟨I2, y3, y4, e2, f2, g2⟩ := ih (p + 1) I1 (some (.int x)) w4 (by omega) (rLi_f hl f1') (fun p' q hp' hq => by
      by_cases hpp : p' = p
      · subst hpp
        exact g1 q (by omega) hq
      · rw [f1 295 _ (by omega)]
        exact hb p' q (by omega) hq)
    refine ⟨I2, y3, y4, ?_, fun c i hc => (f2 c i hc).trans (f1' c i hc), g2⟩
    rw [← e2, ← e1]
    conv => lhs; rw [r279_9]
    simp (disch := omega) [r279_10, r279_11, r279_14, r279_15, g241, vf12_84, qa277, qo277, vf12_97, t241_97, g295, p295, qa278, qo278, p241_88, ty12_88, vf12_99, t241_99, g297, p297, vf12_88, vf12_100, t241_100, g298, p298, List.getElem?_cons_zero, List.getElem?_cons_succ, List.length_cons, List.length_nil, ag_nx, ag_dn, ag_no, ag_if, jbr1, jbr2, jc1, jc2, jnul, jld, jsto, jstoL, jst1, jst2, jkill, jinc, jbI, jbL, jbS, juI, jl2i, jcmp, jisR, jisI, jisL, jret, jretv, jfits, jdup, jdup2, jpop, jmm, jcat, Value.category, jinv, jrcv, jthr, jhd, jput, jget, jlen, jald, jast, jaast, jgI, jgL, jgB, jtab, jlku, jacp, vf20, vf21, vf22, vf23, vf24, u2_s, u2_k, u2_i, uc_s, uc_k, uc_c, u2_c, LI0, LI1, LI2, LI3, LI4, LI5, LI6, LI7, LI8, LI9, LI10, LI11, LI12, LI13, LI14, LI15, LI16, LI17, LI18, LI19, LI20, LI21, LI22, LI23, LI24, LI25, LI26, LI27, LI28, LI29, LI30, LI31, LI32, LI33, LI34, LI35, LI36, LI37, LI40, LI42, LI43, LI45, LI48, LI60, LI61, LI64, LI80, LI300, LI400, LI1000, LI2000, LI2001, LI2047, LI2048, LI100000, LI1000000, LI38, LI39, LI41, LI44, LI46, LI47, LI49, LI50, LI51, LI52, LI53, LI54, LI55, LI56, LI57, LI58, LI59, LI62, LI63, LI65, LI66, LI67, LI68, LI69, LI70, LI71, LI72, LI73, LI74, LI75, LI76, LI77, LI78, LI79, LI81, LI82, LI83, LI84, LI85, LI86, LI87, LI88, LI89, LI90, LI91, LI92, LI93, LI94, LI95, LI96, LI97, LI98, LI99, LI100, LI101, LI102, LI103, LI104, LI105, LI106, LI107, LI108, LI109, LI110, LI111, LI112, LI113, LI114, LI115, LI116, LI117, LI118, LI119, LI120, LI121, LI122, LI123, LI124, LI125, LI126, LI127, LI255, LI256, LI999, LI1001, LI1002, LI1600, LI4096, LI1000001, LI2042, LM, nI_clamp, nI_pos', nI_lt, nI_nlt, nI_le, nI_ge, nI_ne, nI_add, nI_sub, mI_lt, mI_le, mI_nlt, mI_nle, mI_ne, mI_ne', mI_nem]
/-- paths, innermost -/
theorem r279c {k i : Nat} (h40 : m ≤ 40) (hk : k < 2 * m) (hi' : i < 2 * m) : ∀ (r j : Nat) (I : Nat → Nat → Int32) (W : Nat → Nat → Bool), j + r = 2 * m → mW I (2 * m) W → ∃ I' x, M279 A (d + 1) 109 [some (.ref (b + 241)), some (.int (nI (2 * m))), some (.int (nI k)), some (.int (nI i)), some (.int (nI j))] [] (jH h b X I J R n) = M279 A (d + 1) 101 [some (.ref (b + 241)), some (.int (nI (2 * m))), some (.int (nI k)), some (.int (nI (i + 1))), some (.int x)] [] (jH h b X I' J R n) ∧ fMx I I' ∧ mW I' (2 * m) (wIn k i r j W) := by
  intro r
  induction r with
  | zero =>
    intro j I W hj hW
    have : j = 2 * m := by omega
    subst this
    refine ⟨I, nI (2 * m), ?_, fun _ _ _ => rfl, hW⟩
    conv => lhs; rw [r279_109]
    simp (disch := omega) [r279_111, r279_112, r279_155, r279_158, g241, vf12_84, qa277, qo277, vf12_97, t241_97, g295, p295, qa278, qo278, p241_88, ty12_88, vf12_99, t241_99, g297, p297, vf12_88, vf12_100, t241_100, g298, p298, List.getElem?_cons_zero, List.getElem?_cons_succ, List.length_cons, List.length_nil, ag_nx, ag_dn, ag_no, ag_if, jbr1, jbr2, jc1, jc2, jnul, jld, jsto, jstoL, jst1, jst2, jkill, jinc, jbI, jbL, jbS, juI, jl2i, jcmp, jisR, jisI, jisL, jret, jretv, jfits, jdup, jdup2, jpop, jmm, jcat, Value.category, jinv, jrcv, jthr, jhd, jput, jget, jlen, jald, jast, jaast, jgI, jgL, jgB, jtab, jlku, jacp, vf20, vf21, vf22, vf23, vf24, u2_s, u2_k, u2_i, uc_s, uc_k, uc_c, u2_c, LI0, LI1, LI2, LI3, LI4, LI5, LI6, LI7, LI8, LI9, LI10, LI11, LI12, LI13, LI14, LI15, LI16, LI17, LI18, LI19, LI20, LI21, LI22, LI23, LI24, LI25, LI26, LI27, LI28, LI29, LI30, LI31, LI32, LI33, LI34, LI35, LI36, LI37, LI40, LI42, LI43, LI45, LI48, LI60, LI61, LI64, LI80, LI300, LI400, LI1000, LI2000, LI2001, LI2047, LI2048, LI100000, LI1000000, LI38, LI39, LI41, LI44, LI46, LI47, LI49, LI50, LI51, LI52, LI53, LI54, LI55, LI56, LI57, LI58, LI59, LI62, LI63, LI65, LI66, LI67, LI68, LI69, LI70, LI71, LI72, LI73, LI74, LI75, LI76, LI77, LI78, LI79, LI81, LI82, LI83, LI84, LI85, LI86, LI87, LI88, LI89, LI90, LI91, LI92, LI93, LI94, LI95, LI96, LI97, LI98, LI99, LI100, LI101, LI102, LI103, LI104, LI105, LI106, LI107, LI108, LI109, LI110, LI111, LI112, LI113, LI114, LI115, LI116, LI117, LI118, LI119, LI120, LI121, LI122, LI123, LI124, LI125, LI126, LI127, LI255, LI256, LI999, LI1001, LI1002, LI1600, LI4096, LI1000001, LI2042, LM, nI_clamp, nI_pos', nI_lt, nI_nlt, nI_le, nI_ge, nI_ne, nI_add, nI_sub, mI_lt, mI_le, mI_nlt, mI_nle, mI_ne, mI_ne', mI_nem]
  | succ r ih =>
    intro j I W hj hW
    have e1 := r278 (A := A) (d := d) (b := b) (h := h) (X := X) (J := J) (R := R) (n := n) hW (by omega) hi' hk
    have e2 := r278 (A := A) (d := d) (b := b) (h := h) (X := X) (J := J) (R := R) (n := n) hW (by omega) hk (show j < 2 * m by omega)
    have hx : i * 2 * 40 + j < 6400 := by omega
    have same : ¬ (W i k = true ∧ W k j = true) → mW I (2 * m) (stW W k i j) := by
      intro hno p q hp hq
      have : stW W k i j p q = W p q := by
        unfold stW
        split
        · rename_i hh
          obtain ⟨rfl, rfl⟩ := hh
          have : (W p k && W k q) = false := by
            cases h1 : W p k <;> cases h2 : W k q <;> simp_all
          rw [this, Bool.or_false]
        · rfl
      rw [this]
      exact hW p q hp hq
    by_cases h1 : W i k = true
    · rw [if_pos h1] at e1
      by_cases h2 : W k j = true
      · rw [if_pos h2] at e2
        have hW1 : mW (u2 I 295 (i * 2 * 40 + j) (nI 1)) (2 * m) (stW W k i j) := by
          intro p q hp hq
          unfold stW
          by_cases hh : p = i ∧ q = j
          · rw [if_pos hh, h1, h2]
            obtain ⟨rfl, rfl⟩ := hh
            rw [u2_s]
            simp
          · rw [if_neg hh, u2_o _ _ (by omega)]
            exact hW p q hp hq
        obtain ⟨I2, x, e3, f3, g3⟩ := ih (j + 1) (u2 I 295 (i * 2 * 40 + j) (nI 1)) _ (by omega) hW1
        refine ⟨I2, x, ?_, fun c i hc => (f3 c i hc).trans (u2_o _ _ (by omega)), g3⟩
        rw [← e3]
        conv => lhs; rw [r279_109]
        simp (disch := omega) [r279_111, r279_112, r279_115, r279_116, r279_117, r279_118, r279_121, r279_124, r279_125, r279_126, r279_128, r279_131, r279_134, r279_135, r279_138, r279_139, r279_140, r279_141, r279_143, r279_144, r279_146, r279_147, r279_148, r279_149, r279_152, g241, vf12_84, qa277, qo277, vf12_97, t241_97, g295, p295, qa278, qo278, p241_88, ty12_88, vf12_99, t241_99, g297, p297, vf12_88, vf12_100, t241_100, g298, p298, List.getElem?_cons_zero, List.getElem?_cons_succ, List.length_cons, List.length_nil, ag_nx, ag_dn, ag_no, ag_if, jbr1, jbr2, jc1, jc2, jnul, jld, jsto, jstoL, jst1, jst2, jkill, jinc, jbI, jbL, jbS, juI, jl2i, jcmp, jisR, jisI, jisL, jret, jretv, jfits, jdup, jdup2, jpop, jmm, jcat, Value.category, jinv, jrcv, jthr, jhd, jput, jget, jlen, jald, jast, jaast, jgI, jgL, jgB, jtab, jlku, jacp, vf20, vf21, vf22, vf23, vf24, u2_s, u2_k, u2_i, uc_s, uc_k, uc_c, u2_c, LI0, LI1, LI2, LI3, LI4, LI5, LI6, LI7, LI8, LI9, LI10, LI11, LI12, LI13, LI14, LI15, LI16, LI17, LI18, LI19, LI20, LI21, LI22, LI23, LI24, LI25, LI26, LI27, LI28, LI29, LI30, LI31, LI32, LI33, LI34, LI35, LI36, LI37, LI40, LI42, LI43, LI45, LI48, LI60, LI61, LI64, LI80, LI300, LI400, LI1000, LI2000, LI2001, LI2047, LI2048, LI100000, LI1000000, LI38, LI39, LI41, LI44, LI46, LI47, LI49, LI50, LI51, LI52, LI53, LI54, LI55, LI56, LI57, LI58, LI59, LI62, LI63, LI65, LI66, LI67, LI68, LI69, LI70, LI71, LI72, LI73, LI74, LI75, LI76, LI77, LI78, LI79, LI81, LI82, LI83, LI84, LI85, LI86, LI87, LI88, LI89, LI90, LI91, LI92, LI93, LI94, LI95, LI96, LI97, LI98, LI99, LI100, LI101, LI102, LI103, LI104, LI105, LI106, LI107, LI108, LI109, LI110, LI111, LI112, LI113, LI114, LI115, LI116, LI117, LI118, LI119, LI120, LI121, LI122, LI123, LI124, LI125, LI126, LI127, LI255, LI256, LI999, LI1001, LI1002, LI1600, LI4096, LI1000001, LI2042, LM, nI_clamp, nI_pos', nI_lt, nI_nlt, nI_le, nI_ge, nI_ne, nI_add, nI_sub, mI_lt, mI_le, mI_nlt, mI_nle, mI_ne, mI_ne', mI_nem, nI_mul, hx, e1, e2]
      · rw [if_neg h2] at e2
        obtain ⟨I2, x, e3, f3, g3⟩ := ih (j + 1) I _ (by omega) (same (fun z => h2 z.2))
        refine ⟨I2, x, ?_, f3, g3⟩
        rw [← e3]
        conv => lhs; rw [r279_109]
        simp (disch := omega) [r279_111, r279_112, r279_115, r279_116, r279_117, r279_118, r279_121, r279_124, r279_125, r279_126, r279_128, r279_131, r279_149, r279_152, g241, vf12_84, qa277, qo277, vf12_97, t241_97, g295, p295, qa278, qo278, p241_88, ty12_88, vf12_99, t241_99, g297, p297, vf12_88, vf12_100, t241_100, g298, p298, List.getElem?_cons_zero, List.getElem?_cons_succ, List.length_cons, List.length_nil, ag_nx, ag_dn, ag_no, ag_if, jbr1, jbr2, jc1, jc2, jnul, jld, jsto, jstoL, jst1, jst2, jkill, jinc, jbI, jbL, jbS, juI, jl2i, jcmp, jisR, jisI, jisL, jret, jretv, jfits, jdup, jdup2, jpop, jmm, jcat, Value.category, jinv, jrcv, jthr, jhd, jput, jget, jlen, jald, jast, jaast, jgI, jgL, jgB, jtab, jlku, jacp, vf20, vf21, vf22, vf23, vf24, u2_s, u2_k, u2_i, uc_s, uc_k, uc_c, u2_c, LI0, LI1, LI2, LI3, LI4, LI5, LI6, LI7, LI8, LI9, LI10, LI11, LI12, LI13, LI14, LI15, LI16, LI17, LI18, LI19, LI20, LI21, LI22, LI23, LI24, LI25, LI26, LI27, LI28, LI29, LI30, LI31, LI32, LI33, LI34, LI35, LI36, LI37, LI40, LI42, LI43, LI45, LI48, LI60, LI61, LI64, LI80, LI300, LI400, LI1000, LI2000, LI2001, LI2047, LI2048, LI100000, LI1000000, LI38, LI39, LI41, LI44, LI46, LI47, LI49, LI50, LI51, LI52, LI53, LI54, LI55, LI56, LI57, LI58, LI59, LI62, LI63, LI65, LI66, LI67, LI68, LI69, LI70, LI71, LI72, LI73, LI74, LI75, LI76, LI77, LI78, LI79, LI81, LI82, LI83, LI84, LI85, LI86, LI87, LI88, LI89, LI90, LI91, LI92, LI93, LI94, LI95, LI96, LI97, LI98, LI99, LI100, LI101, LI102, LI103, LI104, LI105, LI106, LI107, LI108, LI109, LI110, LI111, LI112, LI113, LI114, LI115, LI116, LI117, LI118, LI119, LI120, LI121, LI122, LI123, LI124, LI125, LI126, LI127, LI255, LI256, LI999, LI1001, LI1002, LI1600, LI4096, LI1000001, LI2042, LM, nI_clamp, nI_pos', nI_lt, nI_nlt, nI_le, nI_ge, nI_ne, nI_add, nI_sub, mI_lt, mI_le, mI_nlt, mI_nle, mI_ne, mI_ne', mI_nem, e1, e2]
    · rw [if_neg h1] at e1
      obtain ⟨I2, x, e3, f3, g3⟩ := ih (j + 1) I _ (by omega) (same (fun z => h1 z.1))
      refine ⟨I2, x, ?_, f3, g3⟩
      rw [← e3]
      conv => lhs; rw [r279_109]
      simp (disch := omega) [r279_111, r279_112, r279_115, r279_116, r279_117, r279_118, r279_121, r279_149, r279_152, g241, vf12_84, qa277, qo277, vf12_97, t241_97, g295, p295, qa278, qo278, p241_88, ty12_88, vf12_99, t241_99, g297, p297, vf12_88, vf12_100, t241_100, g298, p298, List.getElem?_cons_zero, List.getElem?_cons_succ, List.length_cons, List.length_nil, ag_nx, ag_dn, ag_no, ag_if, jbr1, jbr2, jc1, jc2, jnul, jld, jsto, jstoL, jst1, jst2, jkill, jinc, jbI, jbL, jbS, juI, jl2i, jcmp, jisR, jisI, jisL, jret, jretv, jfits, jdup, jdup2, jpop, jmm, jcat, Value.category, jinv, jrcv, jthr, jhd, jput, jget, jlen, jald, jast, jaast, jgI, jgL, jgB, jtab, jlku, jacp, vf20, vf21, vf22, vf23, vf24, u2_s, u2_k, u2_i, uc_s, uc_k, uc_c, u2_c, LI0, LI1, LI2, LI3, LI4, LI5, LI6, LI7, LI8, LI9, LI10, LI11, LI12, LI13, LI14, LI15, LI16, LI17, LI18, LI19, LI20, LI21, LI22, LI23, LI24, LI25, LI26, LI27, LI28, LI29, LI30, LI31, LI32, LI33, LI34, LI35, LI36, LI37, LI40, LI42, LI43, LI45, LI48, LI60, LI61, LI64, LI80, LI300, LI400, LI1000, LI2000, LI2001, LI2047, LI2048, LI100000, LI1000000, LI38, LI39, LI41, LI44, LI46, LI47, LI49, LI50, LI51, LI52, LI53, LI54, LI55, LI56, LI57, LI58, LI59, LI62, LI63, LI65, LI66, LI67, LI68, LI69, LI70, LI71, LI72, LI73, LI74, LI75, LI76, LI77, LI78, LI79, LI81, LI82, LI83, LI84, LI85, LI86, LI87, LI88, LI89, LI90, LI91, LI92, LI93, LI94, LI95, LI96, LI97, LI98, LI99, LI100, LI101, LI102, LI103, LI104, LI105, LI106, LI107, LI108, LI109, LI110, LI111, LI112, LI113, LI114, LI115, LI116, LI117, LI118, LI119, LI120, LI121, LI122, LI123, LI124, LI125, LI126, LI127, LI255, LI256, LI999, LI1001, LI1002, LI1600, LI4096, LI1000001, LI2042, LM, nI_clamp, nI_pos', nI_lt, nI_nlt, nI_le, nI_ge, nI_ne, nI_add, nI_sub, mI_lt, mI_le, mI_nlt, mI_nle, mI_ne, mI_ne', mI_nem, e1]
theorem r279d {k : Nat} (h40 : m ≤ 40) (hk : k < 2 * m) : ∀ (r i : Nat) (I : Nat → Nat → Int32) (W : Nat → Nat → Bool) (v4 : Option Value), i + r = 2 * m → mW I (2 * m) W → ∃ I' x v4', M279 A (d + 1) 101 [some (.ref (b + 241)), some (.int (nI (2 * m))), some (.int (nI k)), some (.int (nI i)), v4] [] (jH h b X I J R n) = M279 A (d + 1) 94 [some (.ref (b + 241)), some (.int (nI (2 * m))), some (.int (nI (k + 1))), some (.int x), v4'] [] (jH h b X I' J R n) ∧ fMx I I' ∧ mW I' (2 * m) (wMd (2 * m) k r i W) := by
  intro r
  induction r with
  | zero =>
    intro i I W v4 hi' hW
    have : i = 2 * m := by omega
    subst this
    refine ⟨I, nI (2 * m), v4, ?_, fun _ _ _ => rfl, hW⟩
    conv => lhs; rw [r279_101]
    simp (disch := omega) [r279_102, r279_103, r279_161, r279_164, g241, vf12_84, qa277, qo277, vf12_97, t241_97, g295, p295, qa278, qo278, p241_88, ty12_88, vf12_99, t241_99, g297, p297, vf12_88, vf12_100, t241_100, g298, p298, List.getElem?_cons_zero, List.getElem?_cons_succ, List.length_cons, List.length_nil, ag_nx, ag_dn, ag_no, ag_if, jbr1, jbr2, jc1, jc2, jnul, jld, jsto, jstoL, jst1, jst2, jkill, jinc, jbI, jbL, jbS, juI, jl2i, jcmp, jisR, jisI, jisL, jret, jretv, jfits, jdup, jdup2, jpop, jmm, jcat, Value.category, jinv, jrcv, jthr, jhd, jput, jget, jlen, jald, jast, jaast, jgI, jgL, jgB, jtab, jlku, jacp, vf20, vf21, vf22, vf23, vf24, u2_s, u2_k, u2_i, uc_s, uc_k, uc_c, u2_c, LI0, LI1, LI2, LI3, LI4, LI5, LI6, LI7, LI8, LI9, LI10, LI11, LI12, LI13, LI14, LI15, LI16, LI17, LI18, LI19, LI20, LI21, LI22, LI23, LI24, LI25, LI26, LI27, LI28, LI29, LI30, LI31, LI32, LI33, LI34, LI35, LI36, LI37, LI40, LI42, LI43, LI45, LI48, LI60, LI61, LI64, LI80, LI300, LI400, LI1000, LI2000, LI2001, LI2047, LI2048, LI100000, LI1000000, LI38, LI39, LI41, LI44, LI46, LI47, LI49, LI50, LI51, LI52, LI53, LI54, LI55, LI56, LI57, LI58, LI59, LI62, LI63, LI65, LI66, LI67, LI68, LI69, LI70, LI71, LI72, LI73, LI74, LI75, LI76, LI77, LI78, LI79, LI81, LI82, LI83, LI84, LI85, LI86, LI87, LI88, LI89, LI90, LI91, LI92, LI93, LI94, LI95, LI96, LI97, LI98, LI99, LI100, LI101, LI102, LI103, LI104, LI105, LI106, LI107, LI108, LI109, LI110, LI111, LI112, LI113, LI114, LI115, LI116, LI117, LI118, LI119, LI120, LI121, LI122, LI123, LI124, LI125, LI126, LI127, LI255, LI256, LI999, LI1001, LI1002, LI1600, LI4096, LI1000001, LI2042, LM, nI_clamp, nI_pos', nI_lt, nI_nlt, nI_le, nI_ge, nI_ne, nI_add, nI_sub, mI_lt, mI_le, mI_nlt, mI_nle, mI_ne, mI_ne', mI_nem]
  | succ r ih =>
    intro i I W v4 hi' hW
    obtain ⟨I1, x, e1, f1, g1⟩ := r279c (A := A) (d := d) (b := b) (h := h) (X := X) (J := J) (R := R) (n := n) h40 hk (show i < 2 * m by omega) (2 * m) 0 I W (by omega) hW
    obtain ⟨I2, y, w, e2, f2, g2⟩ := ih (i + 1) I1 _ (some (.int x)) (by omega) g1
    refine ⟨I2, y, w, ?_, fun c i hc => (f2 c i hc).trans (f1 c i hc), g2⟩
    rw [← e2, ← e1]
    conv => lhs; rw [r279_101]
    simp (disch := omega) [r279_102, r279_103, r279_106, r279_107, g241, vf12_84, qa277, qo277, vf12_97, t241_97, g295, p295, qa278, qo278, p241_88, ty12_88, vf12_99, t241_99, g297, p297, vf12_88, vf12_100, t241_100, g298, p298, List.getElem?_cons_zero, List.getElem?_cons_succ, List.length_cons, List.length_nil, ag_nx, ag_dn, ag_no, ag_if, jbr1, jbr2, jc1, jc2, jnul, jld, jsto, jstoL, jst1, jst2, jkill, jinc, jbI, jbL, jbS, juI, jl2i, jcmp, jisR, jisI, jisL, jret, jretv, jfits, jdup, jdup2, jpop, jmm, jcat, Value.category, jinv, jrcv, jthr, jhd, jput, jget, jlen, jald, jast, jaast, jgI, jgL, jgB, jtab, jlku, jacp, vf20, vf21, vf22, vf23, vf24, u2_s, u2_k, u2_i, uc_s, uc_k, uc_c, u2_c, LI0, LI1, LI2, LI3, LI4, LI5, LI6, LI7, LI8, LI9, LI10, LI11, LI12, LI13, LI14, LI15, LI16, LI17, LI18, LI19, LI20, LI21, LI22, LI23, LI24, LI25, LI26, LI27, LI28, LI29, LI30, LI31, LI32, LI33, LI34, LI35, LI36, LI37, LI40, LI42, LI43, LI45, LI48, LI60, LI61, LI64, LI80, LI300, LI400, LI1000, LI2000, LI2001, LI2047, LI2048, LI100000, LI1000000, LI38, LI39, LI41, LI44, LI46, LI47, LI49, LI50, LI51, LI52, LI53, LI54, LI55, LI56, LI57, LI58, LI59, LI62, LI63, LI65, LI66, LI67, LI68, LI69, LI70, LI71, LI72, LI73, LI74, LI75, LI76, LI77, LI78, LI79, LI81, LI82, LI83, LI84, LI85, LI86, LI87, LI88, LI89, LI90, LI91, LI92, LI93, LI94, LI95, LI96, LI97, LI98, LI99, LI100, LI101, LI102, LI103, LI104, LI105, LI106, LI107, LI108, LI109, LI110, LI111, LI112, LI113, LI114, LI115, LI116, LI117, LI118, LI119, LI120, LI121, LI122, LI123, LI124, LI125, LI126, LI127, LI255, LI256, LI999, LI1001, LI1002, LI1600, LI4096, LI1000001, LI2042, LM, nI_clamp, nI_pos', nI_lt, nI_nlt, nI_le, nI_ge, nI_ne, nI_add, nI_sub, mI_lt, mI_le, mI_nlt, mI_nle, mI_ne, mI_ne', mI_nem]
theorem r279e (h40 : m ≤ 40) : ∀ (r k : Nat) (I : Nat → Nat → Int32) (W : Nat → Nat → Bool) (v3 v4 : Option Value), k + r = 2 * m → mW I (2 * m) W → ∃ I' v3' v4', M279 A (d + 1) 94 [some (.ref (b + 241)), some (.int (nI (2 * m))), some (.int (nI k)), v3, v4] [] (jH h b X I J R n) = M279 A (d + 1) 167 [some (.ref (b + 241)), some (.int (nI (2 * m))), some (.int (nI (2 * m))), v3', v4'] [] (jH h b X I' J R n) ∧ fMx I I' ∧ mW I' (2 * m) (wOu (2 * m) r k W) := by
  intro r
  induction r with
  | zero =>
    intro k I W v3 v4 hk hW
    have : k = 2 * m := by omega
    subst this
    refine ⟨I, v3, v4, ?_, fun _ _ _ => rfl, hW⟩
    conv => lhs; rw [r279_94]
    simp (disch := omega) [r279_95, r279_96, g241, vf12_84, qa277, qo277, vf12_97, t241_97, g295, p295, qa278, qo278, p241_88, ty12_88, vf12_99, t241_99, g297, p297, vf12_88, vf12_100, t241_100, g298, p298, List.getElem?_cons_zero, List.getElem?_cons_succ, List.length_cons, List.length_nil, ag_nx, ag_dn, ag_no, ag_if, jbr1, jbr2, jc1, jc2, jnul, jld, jsto, jstoL, jst1, jst2, jkill, jinc, jbI, jbL, jbS, juI, jl2i, jcmp, jisR, jisI, jisL, jret, jretv, jfits, jdup, jdup2, jpop, jmm, jcat, Value.category, jinv, jrcv, jthr, jhd, jput, jget, jlen, jald, jast, jaast, jgI, jgL, jgB, jtab, jlku, jacp, vf20, vf21, vf22, vf23, vf24, u2_s, u2_k, u2_i, uc_s, uc_k, uc_c, u2_c, LI0, LI1, LI2, LI3, LI4, LI5, LI6, LI7, LI8, LI9, LI10, LI11, LI12, LI13, LI14, LI15, LI16, LI17, LI18, LI19, LI20, LI21, LI22, LI23, LI24, LI25, LI26, LI27, LI28, LI29, LI30, LI31, LI32, LI33, LI34, LI35, LI36, LI37, LI40, LI42, LI43, LI45, LI48, LI60, LI61, LI64, LI80, LI300, LI400, LI1000, LI2000, LI2001, LI2047, LI2048, LI100000, LI1000000, LI38, LI39, LI41, LI44, LI46, LI47, LI49, LI50, LI51, LI52, LI53, LI54, LI55, LI56, LI57, LI58, LI59, LI62, LI63, LI65, LI66, LI67, LI68, LI69, LI70, LI71, LI72, LI73, LI74, LI75, LI76, LI77, LI78, LI79, LI81, LI82, LI83, LI84, LI85, LI86, LI87, LI88, LI89, LI90, LI91, LI92, LI93, LI94, LI95, LI96, LI97, LI98, LI99, LI100, LI101, LI102, LI103, LI104, LI105, LI106, LI107, LI108, LI109, LI110, LI111, LI112, LI113, LI114, LI115, LI116, LI117, LI118, LI119, LI120, LI121, LI122, LI123, LI124, LI125, LI126, LI127, LI255, LI256, LI999, LI1001, LI1002, LI1600, LI4096, LI1000001, LI2042, LM, nI_clamp, nI_pos', nI_lt, nI_nlt, nI_le, nI_ge, nI_ne, nI_add, nI_sub, mI_lt, mI_le, mI_nlt, mI_nle, mI_ne, mI_ne', mI_nem]
  | succ r ih =>
    intro k I W v3 v4 hk hW
    obtain ⟨I1, x, w, e1, f1, g1⟩ := r279d (A := A) (d := d) (b := b) (h := h) (X := X) (J := J) (R := R) (n := n) h40 (show k < 2 * m by omega) (2 * m) 0 I W v4 (by omega) hW
    obtain ⟨I2, y3, y4, e2, f2, g2⟩ := ih (k + 1) I1 _ (some (.int x)) w (by omega) g1
    refine ⟨I2, y3, y4, ?_, fun c i hc => (f2 c i hc).trans (f1 c i hc), g2⟩
    rw [← e2, ← e1]
    conv => lhs; rw [r279_94]
    simp (disch := omega) [r279_95, r279_96, r279_99, r279_100, g241, vf12_84, qa277, qo277, vf12_97, t241_97, g295, p295, qa278, qo278, p241_88, ty12_88, vf12_99, t241_99, g297, p297, vf12_88, vf12_100, t241_100, g298, p298, List.getElem?_cons_zero, List.getElem?_cons_succ, List.length_cons, List.length_nil, ag_nx, ag_dn, ag_no, ag_if, jbr1, jbr2, jc1, jc2, jnul, jld, jsto, jstoL, jst1, jst2, jkill, jinc, jbI, jbL, jbS, juI, jl2i, jcmp, jisR, jisI, jisL, jret, jretv, jfits, jdup, jdup2, jpop, jmm, jcat, Value.category, jinv, jrcv, jthr, jhd, jput, jget, jlen, jald, jast, jaast, jgI, jgL, jgB, jtab, jlku, jacp, vf20, vf21, vf22, vf23, vf24, u2_s, u2_k, u2_i, uc_s, uc_k, uc_c, u2_c, LI0, LI1, LI2, LI3, LI4, LI5, LI6, LI7, LI8, LI9, LI10, LI11, LI12, LI13, LI14, LI15, LI16, LI17, LI18, LI19, LI20, LI21, LI22, LI23, LI24, LI25, LI26, LI27, LI28, LI29, LI30, LI31, LI32, LI33, LI34, LI35, LI36, LI37, LI40, LI42, LI43, LI45, LI48, LI60, LI61, LI64, LI80, LI300, LI400, LI1000, LI2000, LI2001, LI2047, LI2048, LI100000, LI1000000, LI38, LI39, LI41, LI44, LI46, LI47, LI49, LI50, LI51, LI52, LI53, LI54, LI55, LI56, LI57, LI58, LI59, LI62, LI63, LI65, LI66, LI67, LI68, LI69, LI70, LI71, LI72, LI73, LI74, LI75, LI76, LI77, LI78, LI79, LI81, LI82, LI83, LI84, LI85, LI86, LI87, LI88, LI89, LI90, LI91, LI92, LI93, LI94, LI95, LI96, LI97, LI98, LI99, LI100, LI101, LI102, LI103, LI104, LI105, LI106, LI107, LI108, LI109, LI110, LI111, LI112, LI113, LI114, LI115, LI116, LI117, LI118, LI119, LI120, LI121, LI122, LI123, LI124, LI125, LI126, LI127, LI255, LI256, LI999, LI1001, LI1002, LI1600, LI4096, LI1000001, LI2042, LM, nI_clamp, nI_pos', nI_lt, nI_nlt, nI_le, nI_ge, nI_ne, nI_add, nI_sub, mI_lt, mI_le, mI_nlt, mI_nle, mI_ne, mI_ne', mI_nem]
/-- the rows of races -/
def rRa (I : Nat → Nat → Int32) (l : List (Nat × Nat)) : Prop := I 241 88 = nI l.length ∧ ∀ (i : Nat) r, l[i]? = some r → I 297 i = nI r.1 ∧ I 298 i = nI r.2
def fRr (I I' : Nat → Nat → Int32) : Prop := ∀ c i, ¬ (c = 241 ∧ i = 88) → c ≠ 297 → c ≠ 298 → I' c i = I c i
theorem rLi_r {I' : Nat → Nat → Int32} (hl : rLi I m ln) (hf : fRr I I') : rLi I' m ln := by
  refine ⟨hl.1, hl.2.1, fun e he => ?_⟩
  rw [hf 287 _ (by omega) (by omega) (by omega), hf 288 _ (by omega) (by omega) (by omega)]
  exact hl.2.2 e he
theorem mW_r {I' : Nat → Nat → Int32} {N : Nat} {W : Nat → Nat → Bool} (hl : mW I N W) (hf : fRr I I') : mW I' N W := fun p q hp hq => (hf _ _ (by omega) (by omega) (by omega)).trans (hl p q hp hq)
theorem rRa_a {l : List (Nat × Nat)} {p q : Nat} (hl : rRa I l) : rRa (u2 (u2 (u2 I 297 l.length (nI p)) 298 l.length (nI q)) 241 88 (nI (l.length + 1))) (l ++ [(p, q)]) := by
  refine ⟨by rw [u2_s]; simp, fun i r hr => ?_⟩
  by_cases hi : i < l.length
  · rw [List.getElem?_append_left hi] at hr
    obtain ⟨x1, x2⟩ := hl.2 i r hr
    rw [u2_o _ _ (by omega), u2_o _ _ (by omega), u2_o _ _ (by omega), u2_o _ _ (by omega), u2_o _ _ (by omega), u2_o _ _ (by omega)]
    exact ⟨x1, x2⟩
  · rw [List.getElem?_append_right (by omega)] at hr
    by_cases h0 : i - l.length = 0
    · have : i = l.length := by omega
      subst this
      rw [h0] at hr
      simp only [List.getElem?_cons_zero, Option.some.injEq] at hr
      subst hr
      rw [u2_o _ _ (by omega), u2_o _ _ (by omega), u2_s, u2_o _ _ (by omega), u2_s]
      exact ⟨rfl, rfl⟩
    · rw [List.getElem?_eq_none (by simp; omega)] at hr
      cases hr
theorem r279f {p : Nat} {W : Nat → Nat → Bool} (hp : p < 2 * m) : ∀ (r q : Nat) (I : Nat → Nat → Int32) (l : List (Nat × Nat)) (v4 : Option Value), q + r = 2 * m → rLi I m ln → mW I (2 * m) W → rRa I l → l.length + r ≤ 3160 → ∃ I' x, M279 A (d + 1) 183 [some (.ref (b + 241)), some (.int (nI (2 * m))), some (.int (nI p)), some (.int (nI q)), v4] [] (jH h b X I J R n) = M279 A (d + 1) 174 [some (.ref (b + 241)), some (.int (nI (2 * m))), some (.int (nI (p + 1))), some (.int x), v4] [] (jH h b X I' J R n) ∧ fRr I I' ∧ rRa I' (l ++ rcI W ln p r q) := by
  intro r
  induction r with
  | zero =>
    intro q I l v4 hq hl hW hr _
    have h40 := hl.1
    have : q = 2 * m := by omega
    subst this
    refine ⟨I, nI (2 * m), ?_, fun _ _ _ _ _ => rfl, by unfold rcI; rw [List.append_nil]; exact hr⟩
    conv => lhs; rw [r279_183]
    simp (disch := omega) [r279_184, r279_185, r279_255, r279_258, g241, vf12_84, qa277, qo277, vf12_97, t241_97, g295, p295, qa278, qo278, p241_88, ty12_88, vf12_99, t241_99, g297, p297, vf12_88, vf12_100, t241_100, g298, p298, List.getElem?_cons_zero, List.getElem?_cons_succ, List.length_cons, List.length_nil, ag_nx, ag_dn, ag_no, ag_if, jbr1, jbr2, jc1, jc2, jnul, jld, jsto, jstoL, jst1, jst2, jkill, jinc, jbI, jbL, jbS, juI, jl2i, jcmp, jisR, jisI, jisL, jret, jretv, jfits, jdup, jdup2, jpop, jmm, jcat, Value.category, jinv, jrcv, jthr, jhd, jput, jget, jlen, jald, jast, jaast, jgI, jgL, jgB, jtab, jlku, jacp, vf20, vf21, vf22, vf23, vf24, u2_s, u2_k, u2_i, uc_s, uc_k, uc_c, u2_c, LI0, LI1, LI2, LI3, LI4, LI5, LI6, LI7, LI8, LI9, LI10, LI11, LI12, LI13, LI14, LI15, LI16, LI17, LI18, LI19, LI20, LI21, LI22, LI23, LI24, LI25, LI26, LI27, LI28, LI29, LI30, LI31, LI32, LI33, LI34, LI35, LI36, LI37, LI40, LI42, LI43, LI45, LI48, LI60, LI61, LI64, LI80, LI300, LI400, LI1000, LI2000, LI2001, LI2047, LI2048, LI100000, LI1000000, LI38, LI39, LI41, LI44, LI46, LI47, LI49, LI50, LI51, LI52, LI53, LI54, LI55, LI56, LI57, LI58, LI59, LI62, LI63, LI65, LI66, LI67, LI68, LI69, LI70, LI71, LI72, LI73, LI74, LI75, LI76, LI77, LI78, LI79, LI81, LI82, LI83, LI84, LI85, LI86, LI87, LI88, LI89, LI90, LI91, LI92, LI93, LI94, LI95, LI96, LI97, LI98, LI99, LI100, LI101, LI102, LI103, LI104, LI105, LI106, LI107, LI108, LI109, LI110, LI111, LI112, LI113, LI114, LI115, LI116, LI117, LI118, LI119, LI120, LI121, LI122, LI123, LI124, LI125, LI126, LI127, LI255, LI256, LI999, LI1001, LI1002, LI1600, LI4096, LI1000001, LI2042, LM, nI_clamp, nI_pos', nI_lt, nI_nlt, nI_le, nI_ge, nI_ne, nI_add, nI_sub, mI_lt, mI_le, mI_nlt, mI_nle, mI_ne, mI_ne', mI_nem]
  | succ r ih =>
    intro q I l v4 hq hl hW hr hlen
    have h40 := hl.1
    have hln := hl.2.1
    have q80 : q < 80 := by omega
    have s2 := dv2 q q80
    have a2 := rm2 q q80
    have e5 := r277 (A := A) (d := d) (b := b) (h := h) (X := X) (J := J) (R := R) (n := n) (e := p) hl hp
    have e5' := r277 (A := A) (d := d) (b := b) (h := h) (X := X) (J := J) (R := R) (n := n) (e := q) hl (by omega)
    have e8 := r278 (A := A) (d := d) (b := b) (h := h) (X := X) (J := J) (R := R) (n := n) hW (by omega) hp (show q < 2 * m by omega)
    by_cases hF : q % 2 = 1 ∧ ln p = ln q ∧ W p q = false
    · obtain ⟨h1, h2, h3⟩ := hF
      rw [h3, if_neg (by decide)] at e8
      rw [h2] at e5
      rw [h1] at a2
      have h12 := hr.1
      have l64 : l.length < 6400 := by omega
      obtain ⟨I1, hI1⟩ : ∃ I1, I1 = u2 (u2 (u2 I 297 l.length (nI p)) 298 l.length (nI q)) 241 88 (nI (l.length + 1)) := ⟨_, rfl⟩
      have f1 : fRr I I1 := fun c i z1 z2 z3 => by rw [hI1, u2_o _ _ (by omega), u2_o _ _ (by omega), u2_o _ _ (by omega)]
      obtain ⟨I', x, e1, e2, e3⟩ := ih (q + 1) I1 (l ++ [(p, q)]) v4 (by omega) (rLi_r hl f1) (mW_r hW f1) (by rw [hI1]; exact rRa_a hr) (by simp; omega)
      refine ⟨I', x, ?_, fun c i z1 z2 z3 => (e2 c i z1 z2 z3).trans (f1 c i z1 z2 z3), ?_⟩
      · rw [← e1, hI1]
        conv => lhs; rw [r279_183]
        simp (disch := omega) [r279_184, r279_185, r279_188, r279_189, r279_190, r279_191, r279_194, r279_195, r279_196, r279_199, r279_200, r279_201, r279_204, r279_207, r279_208, r279_209, r279_210, r279_213, r279_219, r279_220, r279_223, r279_224, r279_227, r279_228, r279_229, r279_230, r279_233, r279_234, r279_237, r279_238, r279_239, r279_240, r279_241, r279_244, r279_245, r279_246, r279_249, r279_252, g241, vf12_84, qa277, qo277, vf12_97, t241_97, g295, p295, qa278, qo278, p241_88, ty12_88, vf12_99, t241_99, g297, p297, vf12_88, vf12_100, t241_100, g298, p298, List.getElem?_cons_zero, List.getElem?_cons_succ, List.length_cons, List.length_nil, ag_nx, ag_dn, ag_no, ag_if, jbr1, jbr2, jc1, jc2, jnul, jld, jsto, jstoL, jst1, jst2, jkill, jinc, jbI, jbL, jbS, juI, jl2i, jcmp, jisR, jisI, jisL, jret, jretv, jfits, jdup, jdup2, jpop, jmm, jcat, Value.category, jinv, jrcv, jthr, jhd, jput, jget, jlen, jald, jast, jaast, jgI, jgL, jgB, jtab, jlku, jacp, vf20, vf21, vf22, vf23, vf24, u2_s, u2_k, u2_i, uc_s, uc_k, uc_c, u2_c, LI0, LI1, LI2, LI3, LI4, LI5, LI6, LI7, LI8, LI9, LI10, LI11, LI12, LI13, LI14, LI15, LI16, LI17, LI18, LI19, LI20, LI21, LI22, LI23, LI24, LI25, LI26, LI27, LI28, LI29, LI30, LI31, LI32, LI33, LI34, LI35, LI36, LI37, LI40, LI42, LI43, LI45, LI48, LI60, LI61, LI64, LI80, LI300, LI400, LI1000, LI2000, LI2001, LI2047, LI2048, LI100000, LI1000000, LI38, LI39, LI41, LI44, LI46, LI47, LI49, LI50, LI51, LI52, LI53, LI54, LI55, LI56, LI57, LI58, LI59, LI62, LI63, LI65, LI66, LI67, LI68, LI69, LI70, LI71, LI72, LI73, LI74, LI75, LI76, LI77, LI78, LI79, LI81, LI82, LI83, LI84, LI85, LI86, LI87, LI88, LI89, LI90, LI91, LI92, LI93, LI94, LI95, LI96, LI97, LI98, LI99, LI100, LI101, LI102, LI103, LI104, LI105, LI106, LI107, LI108, LI109, LI110, LI111, LI112, LI113, LI114, LI115, LI116, LI117, LI118, LI119, LI120, LI121, LI122, LI123, LI124, LI125, LI126, LI127, LI255, LI256, LI999, LI1001, LI1002, LI1600, LI4096, LI1000001, LI2042, LM, nI_clamp, nI_pos', nI_lt, nI_nlt, nI_le, nI_ge, nI_ne, nI_add, nI_sub, mI_lt, mI_le, mI_nlt, mI_nle, mI_ne, mI_ne', mI_nem, jdiv, nI_mul, s2, a2, e5, e5', e8, h12, l64]
      · unfold rcI
        rw [if_pos ⟨h1, h2, h3⟩, ← List.append_assoc]
        exact e3
    · obtain ⟨I', x, e1, e2, e3⟩ := ih (q + 1) I l v4 (by omega) hl hW hr (by omega)
      have w : M279 A (d + 1) 183 [some (.ref (b + 241)), some (.int (nI (2 * m))), some (.int (nI p)), some (.int (nI q)), v4] [] (jH h b X I J R n) = M279 A (d + 1) 183 [some (.ref (b + 241)), some (.int (nI (2 * m))), some (.int (nI p)), some (.int (nI (q + 1))), v4] [] (jH h b X I J R n) := by
        conv => lhs; rw [r279_183]
        by_cases h1 : q % 2 = 1
        · rw [h1] at a2
          by_cases h2 : ln p = ln q
          · have h3 : W p q = true := by
              cases hh : W p q
              · exact absurd ⟨h1, h2, hh⟩ hF
              · rfl
            rw [h3, if_pos rfl] at e8
            rw [h2] at e5
            simp (disch := omega) [r279_184, r279_185, r279_188, r279_189, r279_190, r279_191, r279_194, r279_195, r279_196, r279_199, r279_200, r279_201, r279_204, r279_207, r279_208, r279_209, r279_210, r279_213, r279_216, r279_249, r279_252, g241, vf12_84, qa277, qo277, vf12_97, t241_97, g295, p295, qa278, qo278, p241_88, ty12_88, vf12_99, t241_99, g297, p297, vf12_88, vf12_100, t241_100, g298, p298, List.getElem?_cons_zero, List.getElem?_cons_succ, List.length_cons, List.length_nil, ag_nx, ag_dn, ag_no, ag_if, jbr1, jbr2, jc1, jc2, jnul, jld, jsto, jstoL, jst1, jst2, jkill, jinc, jbI, jbL, jbS, juI, jl2i, jcmp, jisR, jisI, jisL, jret, jretv, jfits, jdup, jdup2, jpop, jmm, jcat, Value.category, jinv, jrcv, jthr, jhd, jput, jget, jlen, jald, jast, jaast, jgI, jgL, jgB, jtab, jlku, jacp, vf20, vf21, vf22, vf23, vf24, u2_s, u2_k, u2_i, uc_s, uc_k, uc_c, u2_c, LI0, LI1, LI2, LI3, LI4, LI5, LI6, LI7, LI8, LI9, LI10, LI11, LI12, LI13, LI14, LI15, LI16, LI17, LI18, LI19, LI20, LI21, LI22, LI23, LI24, LI25, LI26, LI27, LI28, LI29, LI30, LI31, LI32, LI33, LI34, LI35, LI36, LI37, LI40, LI42, LI43, LI45, LI48, LI60, LI61, LI64, LI80, LI300, LI400, LI1000, LI2000, LI2001, LI2047, LI2048, LI100000, LI1000000, LI38, LI39, LI41, LI44, LI46, LI47, LI49, LI50, LI51, LI52, LI53, LI54, LI55, LI56, LI57, LI58, LI59, LI62, LI63, LI65, LI66, LI67, LI68, LI69, LI70, LI71, LI72, LI73, LI74, LI75, LI76, LI77, LI78, LI79, LI81, LI82, LI83, LI84, LI85, LI86, LI87, LI88, LI89, LI90, LI91, LI92, LI93, LI94, LI95, LI96, LI97, LI98, LI99, LI100, LI101, LI102, LI103, LI104, LI105, LI106, LI107, LI108, LI109, LI110, LI111, LI112, LI113, LI114, LI115, LI116, LI117, LI118, LI119, LI120, LI121, LI122, LI123, LI124, LI125, LI126, LI127, LI255, LI256, LI999, LI1001, LI1002, LI1600, LI4096, LI1000001, LI2042, LM, nI_clamp, nI_pos', nI_lt, nI_nlt, nI_le, nI_ge, nI_ne, nI_add, nI_sub, mI_lt, mI_le, mI_nlt, mI_nle, mI_ne, mI_ne', mI_nem, jdiv, nI_mul, s2, a2, e5, e5', e8]
          · have ne := nIne (a := ln p) (c := ln q) (by have := hln p; omega) (by have := hln q; omega) h2
            simp (disch := omega) [r279_184, r279_185, r279_188, r279_189, r279_190, r279_191, r279_194, r279_195, r279_196, r279_199, r279_200, r279_201, r279_204, r279_249, r279_252, g241, vf12_84, qa277, qo277, vf12_97, t241_97, g295, p295, qa278, qo278, p241_88, ty12_88, vf12_99, t241_99, g297, p297, vf12_88, vf12_100, t241_100, g298, p298, List.getElem?_cons_zero, List.getElem?_cons_succ, List.length_cons, List.length_nil, ag_nx, ag_dn, ag_no, ag_if, jbr1, jbr2, jc1, jc2, jnul, jld, jsto, jstoL, jst1, jst2, jkill, jinc, jbI, jbL, jbS, juI, jl2i, jcmp, jisR, jisI, jisL, jret, jretv, jfits, jdup, jdup2, jpop, jmm, jcat, Value.category, jinv, jrcv, jthr, jhd, jput, jget, jlen, jald, jast, jaast, jgI, jgL, jgB, jtab, jlku, jacp, vf20, vf21, vf22, vf23, vf24, u2_s, u2_k, u2_i, uc_s, uc_k, uc_c, u2_c, LI0, LI1, LI2, LI3, LI4, LI5, LI6, LI7, LI8, LI9, LI10, LI11, LI12, LI13, LI14, LI15, LI16, LI17, LI18, LI19, LI20, LI21, LI22, LI23, LI24, LI25, LI26, LI27, LI28, LI29, LI30, LI31, LI32, LI33, LI34, LI35, LI36, LI37, LI40, LI42, LI43, LI45, LI48, LI60, LI61, LI64, LI80, LI300, LI400, LI1000, LI2000, LI2001, LI2047, LI2048, LI100000, LI1000000, LI38, LI39, LI41, LI44, LI46, LI47, LI49, LI50, LI51, LI52, LI53, LI54, LI55, LI56, LI57, LI58, LI59, LI62, LI63, LI65, LI66, LI67, LI68, LI69, LI70, LI71, LI72, LI73, LI74, LI75, LI76, LI77, LI78, LI79, LI81, LI82, LI83, LI84, LI85, LI86, LI87, LI88, LI89, LI90, LI91, LI92, LI93, LI94, LI95, LI96, LI97, LI98, LI99, LI100, LI101, LI102, LI103, LI104, LI105, LI106, LI107, LI108, LI109, LI110, LI111, LI112, LI113, LI114, LI115, LI116, LI117, LI118, LI119, LI120, LI121, LI122, LI123, LI124, LI125, LI126, LI127, LI255, LI256, LI999, LI1001, LI1002, LI1600, LI4096, LI1000001, LI2042, LM, nI_clamp, nI_pos', nI_lt, nI_nlt, nI_le, nI_ge, nI_ne, nI_add, nI_sub, mI_lt, mI_le, mI_nlt, mI_nle, mI_ne, mI_ne', mI_nem, jdiv, nI_mul, s2, a2, e5, e5', ne]
        · rw [show q % 2 = 0 by omega] at a2
          simp (disch := omega) [r279_184, r279_185, r279_188, r279_189, r279_190, r279_191, r279_249, r279_252, g241, vf12_84, qa277, qo277, vf12_97, t241_97, g295, p295, qa278, qo278, p241_88, ty12_88, vf12_99, t241_99, g297, p297, vf12_88, vf12_100, t241_100, g298, p298, List.getElem?_cons_zero, List.getElem?_cons_succ, List.length_cons, List.length_nil, ag_nx, ag_dn, ag_no, ag_if, jbr1, jbr2, jc1, jc2, jnul, jld, jsto, jstoL, jst1, jst2, jkill, jinc, jbI, jbL, jbS, juI, jl2i, jcmp, jisR, jisI, jisL, jret, jretv, jfits, jdup, jdup2, jpop, jmm, jcat, Value.category, jinv, jrcv, jthr, jhd, jput, jget, jlen, jald, jast, jaast, jgI, jgL, jgB, jtab, jlku, jacp, vf20, vf21, vf22, vf23, vf24, u2_s, u2_k, u2_i, uc_s, uc_k, uc_c, u2_c, LI0, LI1, LI2, LI3, LI4, LI5, LI6, LI7, LI8, LI9, LI10, LI11, LI12, LI13, LI14, LI15, LI16, LI17, LI18, LI19, LI20, LI21, LI22, LI23, LI24, LI25, LI26, LI27, LI28, LI29, LI30, LI31, LI32, LI33, LI34, LI35, LI36, LI37, LI40, LI42, LI43, LI45, LI48, LI60, LI61, LI64, LI80, LI300, LI400, LI1000, LI2000, LI2001, LI2047, LI2048, LI100000, LI1000000, LI38, LI39, LI41, LI44, LI46, LI47, LI49, LI50, LI51, LI52, LI53, LI54, LI55, LI56, LI57, LI58, LI59, LI62, LI63, LI65, LI66, LI67, LI68, LI69, LI70, LI71, LI72, LI73, LI74, LI75, LI76, LI77, LI78, LI79, LI81, LI82, LI83, LI84, LI85, LI86, LI87, LI88, LI89, LI90, LI91, LI92, LI93, LI94, LI95, LI96, LI97, LI98, LI99, LI100, LI101, LI102, LI103, LI104, LI105, LI106, LI107, LI108, LI109, LI110, LI111, LI112, LI113, LI114, LI115, LI116, LI117, LI118, LI119, LI120, LI121, LI122, LI123, LI124, LI125, LI126, LI127, LI255, LI256, LI999, LI1001, LI1002, LI1600, LI4096, LI1000001, LI2042, LM, nI_clamp, nI_pos', nI_lt, nI_nlt, nI_le, nI_ge, nI_ne, nI_add, nI_sub, mI_lt, mI_le, mI_nlt, mI_nle, mI_ne, mI_ne', mI_nem, jdiv, nI_mul, s2, a2]
      refine ⟨I', x, w.trans e1, e2, ?_⟩
      unfold rcI
      rw [if_neg hF, List.nil_append]
      exact e3
theorem r279g {W : Nat → Nat → Bool} : ∀ (r p : Nat) (I : Nat → Nat → Int32) (l : List (Nat × Nat)) (v3 v4 : Option Value), p + r = 2 * m → rLi I m ln → mW I (2 * m) W → rRa I l → l.length + tr r ≤ 3160 → ∃ I', M279 A (d + 1) 174 [some (.ref (b + 241)), some (.int (nI (2 * m))), some (.int (nI p)), v3, v4] [] (jH h b X I J R n) = some (.inl none, (jH h b X I' J R n)) ∧ fRr I I' ∧ rRa I' (l ++ rcO W ln (2 * m) r p) := by
  intro r
  induction r with
  | zero =>
    intro p I l v3 v4 hp hl hW hr _
    have h40 := hl.1
    have : p = 2 * m := by omega
    subst this
    refine ⟨I, ?_, fun _ _ _ _ _ => rfl, by unfold rcO; rw [List.append_nil]; exact hr⟩
    rw [r279_174]
    simp (disch := omega) [r279_175, r279_176, r279_261, g241, vf12_84, qa277, qo277, vf12_97, t241_97, g295, p295, qa278, qo278, p241_88, ty12_88, vf12_99, t241_99, g297, p297, vf12_88, vf12_100, t241_100, g298, p298, List.getElem?_cons_zero, List.getElem?_cons_succ, List.length_cons, List.length_nil, ag_nx, ag_dn, ag_no, ag_if, jbr1, jbr2, jc1, jc2, jnul, jld, jsto, jstoL, jst1, jst2, jkill, jinc, jbI, jbL, jbS, juI, jl2i, jcmp, jisR, jisI, jisL, jret, jretv, jfits, jdup, jdup2, jpop, jmm, jcat, Value.category, jinv, jrcv, jthr, jhd, jput, jget, jlen, jald, jast, jaast, jgI, jgL, jgB, jtab, jlku, jacp, vf20, vf21, vf22, vf23, vf24, u2_s, u2_k, u2_i, uc_s, uc_k, uc_c, u2_c, LI0, LI1, LI2, LI3, LI4, LI5, LI6, LI7, LI8, LI9, LI10, LI11, LI12, LI13, LI14, LI15, LI16, LI17, LI18, LI19, LI20, LI21, LI22, LI23, LI24, LI25, LI26, LI27, LI28, LI29, LI30, LI31, LI32, LI33, LI34, LI35, LI36, LI37, LI40, LI42, LI43, LI45, LI48, LI60, LI61, LI64, LI80, LI300, LI400, LI1000, LI2000, LI2001, LI2047, LI2048, LI100000, LI1000000, LI38, LI39, LI41, LI44, LI46, LI47, LI49, LI50, LI51, LI52, LI53, LI54, LI55, LI56, LI57, LI58, LI59, LI62, LI63, LI65, LI66, LI67, LI68, LI69, LI70, LI71, LI72, LI73, LI74, LI75, LI76, LI77, LI78, LI79, LI81, LI82, LI83, LI84, LI85, LI86, LI87, LI88, LI89, LI90, LI91, LI92, LI93, LI94, LI95, LI96, LI97, LI98, LI99, LI100, LI101, LI102, LI103, LI104, LI105, LI106, LI107, LI108, LI109, LI110, LI111, LI112, LI113, LI114, LI115, LI116, LI117, LI118, LI119, LI120, LI121, LI122, LI123, LI124, LI125, LI126, LI127, LI255, LI256, LI999, LI1001, LI1002, LI1600, LI4096, LI1000001, LI2042, LM, nI_clamp, nI_pos', nI_lt, nI_nlt, nI_le, nI_ge, nI_ne, nI_add, nI_sub, mI_lt, mI_le, mI_nlt, mI_nle, mI_ne, mI_ne', mI_nem]
  | succ r ih =>
    intro p I l v3 v4 hp hl hW hr hlen
    have h40 := hl.1
    have htr : tr (r + 1) = tr r + r := rfl
    have hir : 2 * m - (p + 1) = r := by omega
    obtain ⟨I1, x, e1, f1, r1⟩ := r279f (A := A) (d := d) (b := b) (h := h) (X := X) (J := J) (R := R) (n := n) (show p < 2 * m by omega) r (p + 1) I l v4 (by omega) hl hW hr (by omega)
    have hll := rcI_l (bf := W) (ln := ln) (p := p) r (p + 1)
    obtain ⟨I2, e2, f2, r2⟩ := ih (p + 1) I1 _ (some (.int x)) v4 (by omega) (rLi_r hl f1) (mW_r hW f1) r1 (by rw [List.length_append]; omega)
    refine ⟨I2, ?_, fun c i z1 z2 z3 => (f2 c i z1 z2 z3).trans (f1 c i z1 z2 z3), ?_⟩
    · rw [← e2, ← e1]
      conv => lhs; rw [r279_174]
      simp (disch := omega) [r279_175, r279_176, r279_179, r279_180, r279_181, r279_182, g241, vf12_84, qa277, qo277, vf12_97, t241_97, g295, p295, qa278, qo278, p241_88, ty12_88, vf12_99, t241_99, g297, p297, vf12_88, vf12_100, t241_100, g298, p298, List.getElem?_cons_zero, List.getElem?_cons_succ, List.length_cons, List.length_nil, ag_nx, ag_dn, ag_no, ag_if, jbr1, jbr2, jc1, jc2, jnul, jld, jsto, jstoL, jst1, jst2, jkill, jinc, jbI, jbL, jbS, juI, jl2i, jcmp, jisR, jisI, jisL, jret, jretv, jfits, jdup, jdup2, jpop, jmm, jcat, Value.category, jinv, jrcv, jthr, jhd, jput, jget, jlen, jald, jast, jaast, jgI, jgL, jgB, jtab, jlku, jacp, vf20, vf21, vf22, vf23, vf24, u2_s, u2_k, u2_i, uc_s, uc_k, uc_c, u2_c, LI0, LI1, LI2, LI3, LI4, LI5, LI6, LI7, LI8, LI9, LI10, LI11, LI12, LI13, LI14, LI15, LI16, LI17, LI18, LI19, LI20, LI21, LI22, LI23, LI24, LI25, LI26, LI27, LI28, LI29, LI30, LI31, LI32, LI33, LI34, LI35, LI36, LI37, LI40, LI42, LI43, LI45, LI48, LI60, LI61, LI64, LI80, LI300, LI400, LI1000, LI2000, LI2001, LI2047, LI2048, LI100000, LI1000000, LI38, LI39, LI41, LI44, LI46, LI47, LI49, LI50, LI51, LI52, LI53, LI54, LI55, LI56, LI57, LI58, LI59, LI62, LI63, LI65, LI66, LI67, LI68, LI69, LI70, LI71, LI72, LI73, LI74, LI75, LI76, LI77, LI78, LI79, LI81, LI82, LI83, LI84, LI85, LI86, LI87, LI88, LI89, LI90, LI91, LI92, LI93, LI94, LI95, LI96, LI97, LI98, LI99, LI100, LI101, LI102, LI103, LI104, LI105, LI106, LI107, LI108, LI109, LI110, LI111, LI112, LI113, LI114, LI115, LI116, LI117, LI118, LI119, LI120, LI121, LI122, LI123, LI124, LI125, LI126, LI127, LI255, LI256, LI999, LI1001, LI1002, LI1600, LI4096, LI1000001, LI2042, LM, nI_clamp, nI_pos', nI_lt, nI_nlt, nI_le, nI_ge, nI_ne, nI_add, nI_sub, mI_lt, mI_le, mI_nlt, mI_nle, mI_ne, mI_ne', mI_nem]
    · unfold rcO
      rw [hir, ← List.append_assoc]
      exact r2
/-- findRaces -/
theorem r279 (hl : rLi I m ln) (h84 : I 241 84 = nI m) : ∃ I' W, jcall A jcode (d + 2) 279 [.ref (b + 241)] (jH h b X I J R n) = some (.inl none, (jH h b X I' J R n)) ∧ (∀ c i, ¬ (c = 241 ∧ i = 88) → c ≠ 295 → c ≠ 297 → c ≠ 298 → I' c i = I c i) ∧ (∀ p q, p < 2 * m → q < 2 * m → (W p q = true ↔ bP ln (2 * m) p q)) ∧ rRa I' (rcO W ln (2 * m) (2 * m) 0) := by
  have h40 := hl.1
  obtain ⟨I1, x3, x4, e1, f1, g1⟩ := r279b (A := A) (d := d) (b := b) (h := h) (X := X) (J := J) (R := R) (n := n) (2 * m) 0 I none none (by omega) hl (fun p' q hp' => by omega)
  obtain ⟨I2, y3, y4, e2, f2, g2⟩ := r279e (A := A) (d := d) (b := b) (h := h) (X := X) (J := J) (R := R) (n := n) h40 (2 * m) 0 I1 (eB ln) x3 x4 (by omega) g1
  have l2 := rLi_f (rLi_f hl f1) f2
  have f3 : fRr I2 (u2 I2 241 88 (nI 0)) := fun c i z1 z2 z3 => u2_o _ _ (by omega)
  have r0 : rRa (u2 I2 241 88 (nI 0)) [] := ⟨u2_s, fun i r hr => by simp at hr⟩
  have t80 := tr_80 (2 * m) (by omega)
  obtain ⟨I4, e4, f4, r4⟩ := r279g (A := A) (d := d) (b := b) (h := h) (X := X) (J := J) (R := R) (n := n) (2 * m) 0 (u2 I2 241 88 (nI 0)) [] y3 y4 (by omega) (rLi_r l2 f3) (mW_r g2 f3) r0 (by simpa using t80)
  refine ⟨I4, wOu (2 * m) (2 * m) 0 (eB ln), ?_, fun c i z1 z2 z3 z4 => (f4 c i z1 z3 z4).trans ((f3 c i z1 z3 z4).trans ((f2 c i z2).trans (f1 c i z2))), fun p q hp hq => wOu_b (fun _ _ _ _ => rfl) p q hp hq, by simpa using r4⟩
  have w1 : jcall A jcode (d + 2) 279 [.ref (b + 241)] (jH h b X I J R n) = M279 A (d + 1) 9 [some (.ref (b + 241)), some (.int (nI (2 * m))), some (.int (nI 0)), none, none] [] (jH h b X I J R n) := by
    simp (disch := omega) [je279, r279_0, r279_1, r279_2, r279_5, r279_6, r279_7, r279_8, g241, vf12_84, qa277, qo277, vf12_97, t241_97, g295, p295, qa278, qo278, p241_88, ty12_88, vf12_99, t241_99, g297, p297, vf12_88, vf12_100, t241_100, g298, p298, List.getElem?_cons_zero, List.getElem?_cons_succ, List.length_cons, List.length_nil, ag_nx, ag_dn, ag_no, ag_if, jbr1, jbr2, jc1, jc2, jnul, jld, jsto, jstoL, jst1, jst2, jkill, jinc, jbI, jbL, jbS, juI, jl2i, jcmp, jisR, jisI, jisL, jret, jretv, jfits, jdup, jdup2, jpop, jmm, jcat, Value.category, jinv, jrcv, jthr, jhd, jput, jget, jlen, jald, jast, jaast, jgI, jgL, jgB, jtab, jlku, jacp, vf20, vf21, vf22, vf23, vf24, u2_s, u2_k, u2_i, uc_s, uc_k, uc_c, u2_c, LI0, LI1, LI2, LI3, LI4, LI5, LI6, LI7, LI8, LI9, LI10, LI11, LI12, LI13, LI14, LI15, LI16, LI17, LI18, LI19, LI20, LI21, LI22, LI23, LI24, LI25, LI26, LI27, LI28, LI29, LI30, LI31, LI32, LI33, LI34, LI35, LI36, LI37, LI40, LI42, LI43, LI45, LI48, LI60, LI61, LI64, LI80, LI300, LI400, LI1000, LI2000, LI2001, LI2047, LI2048, LI100000, LI1000000, LI38, LI39, LI41, LI44, LI46, LI47, LI49, LI50, LI51, LI52, LI53, LI54, LI55, LI56, LI57, LI58, LI59, LI62, LI63, LI65, LI66, LI67, LI68, LI69, LI70, LI71, LI72, LI73, LI74, LI75, LI76, LI77, LI78, LI79, LI81, LI82, LI83, LI84, LI85, LI86, LI87, LI88, LI89, LI90, LI91, LI92, LI93, LI94, LI95, LI96, LI97, LI98, LI99, LI100, LI101, LI102, LI103, LI104, LI105, LI106, LI107, LI108, LI109, LI110, LI111, LI112, LI113, LI114, LI115, LI116, LI117, LI118, LI119, LI120, LI121, LI122, LI123, LI124, LI125, LI126, LI127, LI255, LI256, LI999, LI1001, LI1002, LI1600, LI4096, LI1000001, LI2042, LM, nI_clamp, nI_pos', nI_lt, nI_nlt, nI_le, nI_ge, nI_ne, nI_add, nI_sub, mI_lt, mI_le, mI_nlt, mI_nle, mI_ne, mI_ne', mI_nem, nI_mul, h84]
  rw [w1, e1, e2, ← e4, r279_167]
  simp (disch := omega) [r279_168, r279_169, r279_172, r279_173, g241, vf12_84, qa277, qo277, vf12_97, t241_97, g295, p295, qa278, qo278, p241_88, ty12_88, vf12_99, t241_99, g297, p297, vf12_88, vf12_100, t241_100, g298, p298, List.getElem?_cons_zero, List.getElem?_cons_succ, List.length_cons, List.length_nil, ag_nx, ag_dn, ag_no, ag_if, jbr1, jbr2, jc1, jc2, jnul, jld, jsto, jstoL, jst1, jst2, jkill, jinc, jbI, jbL, jbS, juI, jl2i, jcmp, jisR, jisI, jisL, jret, jretv, jfits, jdup, jdup2, jpop, jmm, jcat, Value.category, jinv, jrcv, jthr, jhd, jput, jget, jlen, jald, jast, jaast, jgI, jgL, jgB, jtab, jlku, jacp, vf20, vf21, vf22, vf23, vf24, u2_s, u2_k, u2_i, uc_s, uc_k, uc_c, u2_c, LI0, LI1, LI2, LI3, LI4, LI5, LI6, LI7, LI8, LI9, LI10, LI11, LI12, LI13, LI14, LI15, LI16, LI17, LI18, LI19, LI20, LI21, LI22, LI23, LI24, LI25, LI26, LI27, LI28, LI29, LI30, LI31, LI32, LI33, LI34, LI35, LI36, LI37, LI40, LI42, LI43, LI45, LI48, LI60, LI61, LI64, LI80, LI300, LI400, LI1000, LI2000, LI2001, LI2047, LI2048, LI100000, LI1000000, LI38, LI39, LI41, LI44, LI46, LI47, LI49, LI50, LI51, LI52, LI53, LI54, LI55, LI56, LI57, LI58, LI59, LI62, LI63, LI65, LI66, LI67, LI68, LI69, LI70, LI71, LI72, LI73, LI74, LI75, LI76, LI77, LI78, LI79, LI81, LI82, LI83, LI84, LI85, LI86, LI87, LI88, LI89, LI90, LI91, LI92, LI93, LI94, LI95, LI96, LI97, LI98, LI99, LI100, LI101, LI102, LI103, LI104, LI105, LI106, LI107, LI108, LI109, LI110, LI111, LI112, LI113, LI114, LI115, LI116, LI117, LI118, LI119, LI120, LI121, LI122, LI123, LI124, LI125, LI126, LI127, LI255, LI256, LI999, LI1001, LI1002, LI1600, LI4096, LI1000001, LI2042, LM, nI_clamp, nI_pos', nI_lt, nI_nlt, nI_le, nI_ge, nI_ne, nI_add, nI_sub, mI_lt, mI_le, mI_nlt, mI_nle, mI_ne, mI_ne', mI_nem]
end RRD
