/-! the reference makes a node -/
section RAD
variable {A : Nat → Nat} {d b : Nat} {h : Nat → Option jC} {J : Nat → Nat → Int64} {R : Nat → Nat → Nat} {t : Nat → Int32} {N m B0 M0 : Nat} {X : jXX} {I : Nat → Nat → Int32} {n c : Nat} {k x1 x2 x3 fr : Int32}
/-- longer rows of nodes -/
theorem r193g (a1 : ∀ v, 251 ≤ v → v ≤ 258 → cp X v = c) (hc0 : 0 < c) (hc : c ≤ 2 ^ 19) (hM : I 241 29 = nI c) : ∃ X' I' n', jcall A jcode (d + 2) 193 [.ref (b + 241), .int k, .int x1, .int x2, .int x3, .int fr] (jH h b X I J R n) = M193 A (d + 1) 100 [some (.ref (b + 241)), some (.int k), some (.int x1), some (.int x2), some (.int x3), some (.int fr)] [] (jH h b X' I' J R n') ∧ (∀ v, 251 ≤ v → v ≤ 258 → cp X' v = 2 * c) ∧ (∀ v, v < 251 ∨ 258 < v → cp X' v = cp X v) ∧ (∀ v i, ¬ (251 ≤ v ∧ v ≤ 258 ∧ c ≤ i) → I' v i = I v i) ∧ gro X n X' n' := by
  have l1 := rLonger20 (d := d) (A := A) (b := b) (h := h) (J := J) (R := R) (X := X) (I := I) (n := n) (v := 251) (cap := c) (by decide) (by decide) (by exact a1 251 (by omega) (by omega)) (by omega)
  obtain ⟨X1, hX1⟩ : ∃ Y, Y = xgr X 251 (I 251) (2 * c) (by decide) := ⟨_, rfl⟩
  obtain ⟨I1, hI1⟩ : ∃ Y, Y = uc I 251 (gR I 251 c) := ⟨_, rfl⟩
  have s1 : M193 A (d + 1) 12 [some (.ref (b + 241)), some (.int k), some (.int x1), some (.int x2), some (.int x3), some (.int fr)] [] (jH h b X I J R (n)) = M193 A (d + 1) 23 [some (.ref (b + 241)), some (.int k), some (.int x1), some (.int x2), some (.int x3), some (.int fr)] [] (jH h b X1 I1 J R (n + 2 * c)) := by
      rw [gR_e] at l1
      rw [r193_12, hX1, hI1]
      simp (disch := omega) [r193_13, r193_14, r193_17, r193_20, g241, vf12_21, t241_21, g251, qa178, List.getElem?_cons_zero, List.getElem?_cons_succ, List.length_cons, List.length_nil, ag_nx, ag_dn, ag_no, ag_if, jbr1, jbr2, jc1, jc2, jnul, jld, jsto, jstoL, jst1, jst2, jkill, jinc, jbI, jbL, jbS, juI, jl2i, jcmp, jisR, jisI, jisL, jret, jretv, jfits, jdup, jdup2, jpop, jmm, jcat, Value.category, jinv, jrcv, jthr, jhd, jput, jget, jlen, jald, jast, jaast, jgI, jgL, jgB, jtab, jlku, jacp, vf20, vf21, vf22, vf23, vf24, u2_s, u2_k, u2_i, uc_s, uc_k, uc_c, u2_c, LI0, LI1, LI2, LI3, LI4, LI5, LI6, LI7, LI8, LI9, LI10, LI11, LI12, LI13, LI14, LI15, LI16, LI17, LI18, LI19, LI20, LI21, LI22, LI23, LI24, LI25, LI26, LI27, LI28, LI29, LI30, LI31, LI32, LI33, LI34, LI35, LI36, LI37, LI40, LI42, LI43, LI45, LI48, LI60, LI61, LI64, LI80, LI300, LI400, LI1000, LI2000, LI2001, LI2047, LI2048, LI100000, LI1000000, LI38, LI39, LI41, LI44, LI46, LI47, LI49, LI50, LI51, LI52, LI53, LI54, LI55, LI56, LI57, LI58, LI59, LI62, LI63, LI65, LI66, LI67, LI68, LI69, LI70, LI71, LI72, LI73, LI74, LI75, LI76, LI77, LI78, LI79, LI81, LI82, LI83, LI84, LI85, LI86, LI87, LI88, LI89, LI90, LI91, LI92, LI93, LI94, LI95, LI96, LI97, LI98, LI99, LI100, LI101, LI102, LI103, LI104, LI105, LI106, LI107, LI108, LI109, LI110, LI111, LI112, LI113, LI114, LI115, LI116, LI117, LI118, LI119, LI120, LI121, LI122, LI123, LI124, LI125, LI126, LI127, LI255, LI256, LI999, LI1001, LI1002, LI1600, LI4096, LI1000001, LI2042, LM, nI_clamp, nI_pos', nI_lt, nI_nlt, nI_le, nI_ge, nI_ne, nI_add, nI_sub, mI_lt, mI_le, mI_nlt, mI_nle, mI_ne, mI_ne', mI_nem, l1, gr251, ty12_21]
  have c1 : cp X1 251 = 2 * c := by rw [hX1, xgr_cp, if_pos rfl]
  have d1 : ∀ v, v ≠ 251 → cp X1 v = cp X v := fun v hv => by rw [hX1, xgr_cp, if_neg hv]
  have p1 : ∀ v, v < 251 ∨ 251 < v → cp X1 v = cp X v := fun v hv => by rw [d1 v (by omega)]
  have i1 : ∀ v, v ≠ 251 → I1 v = I v := fun v hv => by rw [hI1, uc_ne hv]
  have y1 : ∀ i, i < c → I1 251 i = I 251 i := fun i hi => by
      rw [hI1, uc_at]
      unfold gR
      rw [if_pos hi]
  have o1 : gro X (n) X1 (n + 2 * c) := by rw [hX1]; exact gro_x scp251 (by rw [a1 251 (by omega) (by omega)]; omega) (by rw [a1 251 (by omega) (by omega)]; omega)
  have l2 := rLonger20 (d := d) (A := A) (b := b) (h := h) (J := J) (R := R) (X := X1) (I := I1) (n := n + 2 * c) (v := 252) (cap := c) (by decide) (by decide) (by rw [p1 252 (by omega)]; exact a1 252 (by omega) (by omega)) (by omega)
  obtain ⟨X2, hX2⟩ : ∃ Y, Y = xgr X1 252 (I1 252) (2 * c) (by decide) := ⟨_, rfl⟩
  obtain ⟨I2, hI2⟩ : ∃ Y, Y = uc I1 252 (gR I1 252 c) := ⟨_, rfl⟩
  have s2 : M193 A (d + 1) 23 [some (.ref (b + 241)), some (.int k), some (.int x1), some (.int x2), some (.int x3), some (.int fr)] [] (jH h b X1 I1 J R (n + 2 * c)) = M193 A (d + 1) 34 [some (.ref (b + 241)), some (.int k), some (.int x1), some (.int x2), some (.int x3), some (.int fr)] [] (jH h b X2 I2 J R (n + 2 * c + 2 * c)) := by
      rw [gR_e] at l2
      rw [r193_23, hX2, hI2]
      simp (disch := omega) [r193_24, r193_25, r193_28, r193_31, g241, vf12_22, t241_22, g252, qa178, List.getElem?_cons_zero, List.getElem?_cons_succ, List.length_cons, List.length_nil, ag_nx, ag_dn, ag_no, ag_if, jbr1, jbr2, jc1, jc2, jnul, jld, jsto, jstoL, jst1, jst2, jkill, jinc, jbI, jbL, jbS, juI, jl2i, jcmp, jisR, jisI, jisL, jret, jretv, jfits, jdup, jdup2, jpop, jmm, jcat, Value.category, jinv, jrcv, jthr, jhd, jput, jget, jlen, jald, jast, jaast, jgI, jgL, jgB, jtab, jlku, jacp, vf20, vf21, vf22, vf23, vf24, u2_s, u2_k, u2_i, uc_s, uc_k, uc_c, u2_c, LI0, LI1, LI2, LI3, LI4, LI5, LI6, LI7, LI8, LI9, LI10, LI11, LI12, LI13, LI14, LI15, LI16, LI17, LI18, LI19, LI20, LI21, LI22, LI23, LI24, LI25, LI26, LI27, LI28, LI29, LI30, LI31, LI32, LI33, LI34, LI35, LI36, LI37, LI40, LI42, LI43, LI45, LI48, LI60, LI61, LI64, LI80, LI300, LI400, LI1000, LI2000, LI2001, LI2047, LI2048, LI100000, LI1000000, LI38, LI39, LI41, LI44, LI46, LI47, LI49, LI50, LI51, LI52, LI53, LI54, LI55, LI56, LI57, LI58, LI59, LI62, LI63, LI65, LI66, LI67, LI68, LI69, LI70, LI71, LI72, LI73, LI74, LI75, LI76, LI77, LI78, LI79, LI81, LI82, LI83, LI84, LI85, LI86, LI87, LI88, LI89, LI90, LI91, LI92, LI93, LI94, LI95, LI96, LI97, LI98, LI99, LI100, LI101, LI102, LI103, LI104, LI105, LI106, LI107, LI108, LI109, LI110, LI111, LI112, LI113, LI114, LI115, LI116, LI117, LI118, LI119, LI120, LI121, LI122, LI123, LI124, LI125, LI126, LI127, LI255, LI256, LI999, LI1001, LI1002, LI1600, LI4096, LI1000001, LI2042, LM, nI_clamp, nI_pos', nI_lt, nI_nlt, nI_le, nI_ge, nI_ne, nI_add, nI_sub, mI_lt, mI_le, mI_nlt, mI_nle, mI_ne, mI_ne', mI_nem, l2, gr252, ty12_22]
  have c2 : cp X2 252 = 2 * c := by rw [hX2, xgr_cp, if_pos rfl]
  have d2 : ∀ v, v ≠ 252 → cp X2 v = cp X1 v := fun v hv => by rw [hX2, xgr_cp, if_neg hv]
  have p2 : ∀ v, v < 251 ∨ 252 < v → cp X2 v = cp X v := fun v hv => by rw [d2 v (by omega), p1 v (by omega)]
  have i2 : ∀ v, v ≠ 252 → I2 v = I1 v := fun v hv => by rw [hI2, uc_ne hv]
  have y2 : ∀ i, i < c → I2 252 i = I1 252 i := fun i hi => by
      rw [hI2, uc_at]
      unfold gR
      rw [if_pos hi]
  have o2 : gro X1 (n + 2 * c) X2 (n + 2 * c + 2 * c) := by rw [hX2]; exact gro_x scp252 (by rw [p1 _ (by omega), a1 _ (by omega) (by omega)]; omega) (by rw [p1 _ (by omega), a1 _ (by omega) (by omega)]; omega)
  have l3 := rLonger20 (d := d) (A := A) (b := b) (h := h) (J := J) (R := R) (X := X2) (I := I2) (n := n + 2 * c + 2 * c) (v := 253) (cap := c) (by decide) (by decide) (by rw [p2 253 (by omega)]; exact a1 253 (by omega) (by omega)) (by omega)
  obtain ⟨X3, hX3⟩ : ∃ Y, Y = xgr X2 253 (I2 253) (2 * c) (by decide) := ⟨_, rfl⟩
  obtain ⟨I3, hI3⟩ : ∃ Y, Y = uc I2 253 (gR I2 253 c) := ⟨_, rfl⟩
  have s3 : M193 A (d + 1) 34 [some (.ref (b + 241)), some (.int k), some (.int x1), some (.int x2), some (.int x3), some (.int fr)] [] (jH h b X2 I2 J R (n + 2 * c + 2 * c)) = M193 A (d + 1) 45 [some (.ref (b + 241)), some (.int k), some (.int x1), some (.int x2), some (.int x3), some (.int fr)] [] (jH h b X3 I3 J R (n + 2 * c + 2 * c + 2 * c)) := by
      rw [gR_e] at l3
      rw [r193_34, hX3, hI3]
      simp (disch := omega) [r193_35, r193_36, r193_39, r193_42, g241, vf12_23, t241_23, g253, qa178, List.getElem?_cons_zero, List.getElem?_cons_succ, List.length_cons, List.length_nil, ag_nx, ag_dn, ag_no, ag_if, jbr1, jbr2, jc1, jc2, jnul, jld, jsto, jstoL, jst1, jst2, jkill, jinc, jbI, jbL, jbS, juI, jl2i, jcmp, jisR, jisI, jisL, jret, jretv, jfits, jdup, jdup2, jpop, jmm, jcat, Value.category, jinv, jrcv, jthr, jhd, jput, jget, jlen, jald, jast, jaast, jgI, jgL, jgB, jtab, jlku, jacp, vf20, vf21, vf22, vf23, vf24, u2_s, u2_k, u2_i, uc_s, uc_k, uc_c, u2_c, LI0, LI1, LI2, LI3, LI4, LI5, LI6, LI7, LI8, LI9, LI10, LI11, LI12, LI13, LI14, LI15, LI16, LI17, LI18, LI19, LI20, LI21, LI22, LI23, LI24, LI25, LI26, LI27, LI28, LI29, LI30, LI31, LI32, LI33, LI34, LI35, LI36, LI37, LI40, LI42, LI43, LI45, LI48, LI60, LI61, LI64, LI80, LI300, LI400, LI1000, LI2000, LI2001, LI2047, LI2048, LI100000, LI1000000, LI38, LI39, LI41, LI44, LI46, LI47, LI49, LI50, LI51, LI52, LI53, LI54, LI55, LI56, LI57, LI58, LI59, LI62, LI63, LI65, LI66, LI67, LI68, LI69, LI70, LI71, LI72, LI73, LI74, LI75, LI76, LI77, LI78, LI79, LI81, LI82, LI83, LI84, LI85, LI86, LI87, LI88, LI89, LI90, LI91, LI92, LI93, LI94, LI95, LI96, LI97, LI98, LI99, LI100, LI101, LI102, LI103, LI104, LI105, LI106, LI107, LI108, LI109, LI110, LI111, LI112, LI113, LI114, LI115, LI116, LI117, LI118, LI119, LI120, LI121, LI122, LI123, LI124, LI125, LI126, LI127, LI255, LI256, LI999, LI1001, LI1002, LI1600, LI4096, LI1000001, LI2042, LM, nI_clamp, nI_pos', nI_lt, nI_nlt, nI_le, nI_ge, nI_ne, nI_add, nI_sub, mI_lt, mI_le, mI_nlt, mI_nle, mI_ne, mI_ne', mI_nem, l3, gr253, ty12_23]
  have c3 : cp X3 253 = 2 * c := by rw [hX3, xgr_cp, if_pos rfl]
  have d3 : ∀ v, v ≠ 253 → cp X3 v = cp X2 v := fun v hv => by rw [hX3, xgr_cp, if_neg hv]
  have p3 : ∀ v, v < 251 ∨ 253 < v → cp X3 v = cp X v := fun v hv => by rw [d3 v (by omega), p2 v (by omega)]
  have i3 : ∀ v, v ≠ 253 → I3 v = I2 v := fun v hv => by rw [hI3, uc_ne hv]
  have y3 : ∀ i, i < c → I3 253 i = I2 253 i := fun i hi => by
      rw [hI3, uc_at]
      unfold gR
      rw [if_pos hi]
  have o3 : gro X2 (n + 2 * c + 2 * c) X3 (n + 2 * c + 2 * c + 2 * c) := by rw [hX3]; exact gro_x scp253 (by rw [p2 _ (by omega), a1 _ (by omega) (by omega)]; omega) (by rw [p2 _ (by omega), a1 _ (by omega) (by omega)]; omega)
  have l4 := rLonger20 (d := d) (A := A) (b := b) (h := h) (J := J) (R := R) (X := X3) (I := I3) (n := n + 2 * c + 2 * c + 2 * c) (v := 254) (cap := c) (by decide) (by decide) (by rw [p3 254 (by omega)]; exact a1 254 (by omega) (by omega)) (by omega)
  obtain ⟨X4, hX4⟩ : ∃ Y, Y = xgr X3 254 (I3 254) (2 * c) (by decide) := ⟨_, rfl⟩
  obtain ⟨I4, hI4⟩ : ∃ Y, Y = uc I3 254 (gR I3 254 c) := ⟨_, rfl⟩
  have s4 : M193 A (d + 1) 45 [some (.ref (b + 241)), some (.int k), some (.int x1), some (.int x2), some (.int x3), some (.int fr)] [] (jH h b X3 I3 J R (n + 2 * c + 2 * c + 2 * c)) = M193 A (d + 1) 56 [some (.ref (b + 241)), some (.int k), some (.int x1), some (.int x2), some (.int x3), some (.int fr)] [] (jH h b X4 I4 J R (n + 2 * c + 2 * c + 2 * c + 2 * c)) := by
      rw [gR_e] at l4
      rw [r193_45, hX4, hI4]
      simp (disch := omega) [r193_46, r193_47, r193_50, r193_53, g241, vf12_24, t241_24, g254, qa178, List.getElem?_cons_zero, List.getElem?_cons_succ, List.length_cons, List.length_nil, ag_nx, ag_dn, ag_no, ag_if, jbr1, jbr2, jc1, jc2, jnul, jld, jsto, jstoL, jst1, jst2, jkill, jinc, jbI, jbL, jbS, juI, jl2i, jcmp, jisR, jisI, jisL, jret, jretv, jfits, jdup, jdup2, jpop, jmm, jcat, Value.category, jinv, jrcv, jthr, jhd, jput, jget, jlen, jald, jast, jaast, jgI, jgL, jgB, jtab, jlku, jacp, vf20, vf21, vf22, vf23, vf24, u2_s, u2_k, u2_i, uc_s, uc_k, uc_c, u2_c, LI0, LI1, LI2, LI3, LI4, LI5, LI6, LI7, LI8, LI9, LI10, LI11, LI12, LI13, LI14, LI15, LI16, LI17, LI18, LI19, LI20, LI21, LI22, LI23, LI24, LI25, LI26, LI27, LI28, LI29, LI30, LI31, LI32, LI33, LI34, LI35, LI36, LI37, LI40, LI42, LI43, LI45, LI48, LI60, LI61, LI64, LI80, LI300, LI400, LI1000, LI2000, LI2001, LI2047, LI2048, LI100000, LI1000000, LI38, LI39, LI41, LI44, LI46, LI47, LI49, LI50, LI51, LI52, LI53, LI54, LI55, LI56, LI57, LI58, LI59, LI62, LI63, LI65, LI66, LI67, LI68, LI69, LI70, LI71, LI72, LI73, LI74, LI75, LI76, LI77, LI78, LI79, LI81, LI82, LI83, LI84, LI85, LI86, LI87, LI88, LI89, LI90, LI91, LI92, LI93, LI94, LI95, LI96, LI97, LI98, LI99, LI100, LI101, LI102, LI103, LI104, LI105, LI106, LI107, LI108, LI109, LI110, LI111, LI112, LI113, LI114, LI115, LI116, LI117, LI118, LI119, LI120, LI121, LI122, LI123, LI124, LI125, LI126, LI127, LI255, LI256, LI999, LI1001, LI1002, LI1600, LI4096, LI1000001, LI2042, LM, nI_clamp, nI_pos', nI_lt, nI_nlt, nI_le, nI_ge, nI_ne, nI_add, nI_sub, mI_lt, mI_le, mI_nlt, mI_nle, mI_ne, mI_ne', mI_nem, l4, gr254, ty12_24]
  have c4 : cp X4 254 = 2 * c := by rw [hX4, xgr_cp, if_pos rfl]
  have d4 : ∀ v, v ≠ 254 → cp X4 v = cp X3 v := fun v hv => by rw [hX4, xgr_cp, if_neg hv]
  have p4 : ∀ v, v < 251 ∨ 254 < v → cp X4 v = cp X v := fun v hv => by rw [d4 v (by omega), p3 v (by omega)]
  have i4 : ∀ v, v ≠ 254 → I4 v = I3 v := fun v hv => by rw [hI4, uc_ne hv]
  have y4 : ∀ i, i < c → I4 254 i = I3 254 i := fun i hi => by
      rw [hI4, uc_at]
      unfold gR
      rw [if_pos hi]
  have o4 : gro X3 (n + 2 * c + 2 * c + 2 * c) X4 (n + 2 * c + 2 * c + 2 * c + 2 * c) := by rw [hX4]; exact gro_x scp254 (by rw [p3 _ (by omega), a1 _ (by omega) (by omega)]; omega) (by rw [p3 _ (by omega), a1 _ (by omega) (by omega)]; omega)
  have l5 := rLonger20 (d := d) (A := A) (b := b) (h := h) (J := J) (R := R) (X := X4) (I := I4) (n := n + 2 * c + 2 * c + 2 * c + 2 * c) (v := 255) (cap := c) (by decide) (by decide) (by rw [p4 255 (by omega)]; exact a1 255 (by omega) (by omega)) (by omega)
  obtain ⟨X5, hX5⟩ : ∃ Y, Y = xgr X4 255 (I4 255) (2 * c) (by decide) := ⟨_, rfl⟩
  obtain ⟨I5, hI5⟩ : ∃ Y, Y = uc I4 255 (gR I4 255 c) := ⟨_, rfl⟩
  have s5 : M193 A (d + 1) 56 [some (.ref (b + 241)), some (.int k), some (.int x1), some (.int x2), some (.int x3), some (.int fr)] [] (jH h b X4 I4 J R (n + 2 * c + 2 * c + 2 * c + 2 * c)) = M193 A (d + 1) 67 [some (.ref (b + 241)), some (.int k), some (.int x1), some (.int x2), some (.int x3), some (.int fr)] [] (jH h b X5 I5 J R (n + 2 * c + 2 * c + 2 * c + 2 * c + 2 * c)) := by
      rw [gR_e] at l5
      rw [r193_56, hX5, hI5]
      simp (disch := omega) [r193_57, r193_58, r193_61, r193_64, g241, vf12_25, t241_25, g255, qa178, List.getElem?_cons_zero, List.getElem?_cons_succ, List.length_cons, List.length_nil, ag_nx, ag_dn, ag_no, ag_if, jbr1, jbr2, jc1, jc2, jnul, jld, jsto, jstoL, jst1, jst2, jkill, jinc, jbI, jbL, jbS, juI, jl2i, jcmp, jisR, jisI, jisL, jret, jretv, jfits, jdup, jdup2, jpop, jmm, jcat, Value.category, jinv, jrcv, jthr, jhd, jput, jget, jlen, jald, jast, jaast, jgI, jgL, jgB, jtab, jlku, jacp, vf20, vf21, vf22, vf23, vf24, u2_s, u2_k, u2_i, uc_s, uc_k, uc_c, u2_c, LI0, LI1, LI2, LI3, LI4, LI5, LI6, LI7, LI8, LI9, LI10, LI11, LI12, LI13, LI14, LI15, LI16, LI17, LI18, LI19, LI20, LI21, LI22, LI23, LI24, LI25, LI26, LI27, LI28, LI29, LI30, LI31, LI32, LI33, LI34, LI35, LI36, LI37, LI40, LI42, LI43, LI45, LI48, LI60, LI61, LI64, LI80, LI300, LI400, LI1000, LI2000, LI2001, LI2047, LI2048, LI100000, LI1000000, LI38, LI39, LI41, LI44, LI46, LI47, LI49, LI50, LI51, LI52, LI53, LI54, LI55, LI56, LI57, LI58, LI59, LI62, LI63, LI65, LI66, LI67, LI68, LI69, LI70, LI71, LI72, LI73, LI74, LI75, LI76, LI77, LI78, LI79, LI81, LI82, LI83, LI84, LI85, LI86, LI87, LI88, LI89, LI90, LI91, LI92, LI93, LI94, LI95, LI96, LI97, LI98, LI99, LI100, LI101, LI102, LI103, LI104, LI105, LI106, LI107, LI108, LI109, LI110, LI111, LI112, LI113, LI114, LI115, LI116, LI117, LI118, LI119, LI120, LI121, LI122, LI123, LI124, LI125, LI126, LI127, LI255, LI256, LI999, LI1001, LI1002, LI1600, LI4096, LI1000001, LI2042, LM, nI_clamp, nI_pos', nI_lt, nI_nlt, nI_le, nI_ge, nI_ne, nI_add, nI_sub, mI_lt, mI_le, mI_nlt, mI_nle, mI_ne, mI_ne', mI_nem, l5, gr255, ty12_25]
  have c5 : cp X5 255 = 2 * c := by rw [hX5, xgr_cp, if_pos rfl]
  have d5 : ∀ v, v ≠ 255 → cp X5 v = cp X4 v := fun v hv => by rw [hX5, xgr_cp, if_neg hv]
  have p5 : ∀ v, v < 251 ∨ 255 < v → cp X5 v = cp X v := fun v hv => by rw [d5 v (by omega), p4 v (by omega)]
  have i5 : ∀ v, v ≠ 255 → I5 v = I4 v := fun v hv => by rw [hI5, uc_ne hv]
  have y5 : ∀ i, i < c → I5 255 i = I4 255 i := fun i hi => by
      rw [hI5, uc_at]
      unfold gR
      rw [if_pos hi]
  have o5 : gro X4 (n + 2 * c + 2 * c + 2 * c + 2 * c) X5 (n + 2 * c + 2 * c + 2 * c + 2 * c + 2 * c) := by rw [hX5]; exact gro_x scp255 (by rw [p4 _ (by omega), a1 _ (by omega) (by omega)]; omega) (by rw [p4 _ (by omega), a1 _ (by omega) (by omega)]; omega)
  have l6 := rLonger20 (d := d) (A := A) (b := b) (h := h) (J := J) (R := R) (X := X5) (I := I5) (n := n + 2 * c + 2 * c + 2 * c + 2 * c + 2 * c) (v := 256) (cap := c) (by decide) (by decide) (by rw [p5 256 (by omega)]; exact a1 256 (by omega) (by omega)) (by omega)
  obtain ⟨X6, hX6⟩ : ∃ Y, Y = xgr X5 256 (I5 256) (2 * c) (by decide) := ⟨_, rfl⟩
  obtain ⟨I6, hI6⟩ : ∃ Y, Y = uc I5 256 (gR I5 256 c) := ⟨_, rfl⟩
  have s6 : M193 A (d + 1) 67 [some (.ref (b + 241)), some (.int k), some (.int x1), some (.int x2), some (.int x3), some (.int fr)] [] (jH h b X5 I5 J R (n + 2 * c + 2 * c + 2 * c + 2 * c + 2 * c)) = M193 A (d + 1) 78 [some (.ref (b + 241)), some (.int k), some (.int x1), some (.int x2), some (.int x3), some (.int fr)] [] (jH h b X6 I6 J R (n + 2 * c + 2 * c + 2 * c + 2 * c + 2 * c + 2 * c)) := by
      rw [gR_e] at l6
      rw [r193_67, hX6, hI6]
      simp (disch := omega) [r193_68, r193_69, r193_72, r193_75, g241, vf12_26, t241_26, g256, qa178, List.getElem?_cons_zero, List.getElem?_cons_succ, List.length_cons, List.length_nil, ag_nx, ag_dn, ag_no, ag_if, jbr1, jbr2, jc1, jc2, jnul, jld, jsto, jstoL, jst1, jst2, jkill, jinc, jbI, jbL, jbS, juI, jl2i, jcmp, jisR, jisI, jisL, jret, jretv, jfits, jdup, jdup2, jpop, jmm, jcat, Value.category, jinv, jrcv, jthr, jhd, jput, jget, jlen, jald, jast, jaast, jgI, jgL, jgB, jtab, jlku, jacp, vf20, vf21, vf22, vf23, vf24, u2_s, u2_k, u2_i, uc_s, uc_k, uc_c, u2_c, LI0, LI1, LI2, LI3, LI4, LI5, LI6, LI7, LI8, LI9, LI10, LI11, LI12, LI13, LI14, LI15, LI16, LI17, LI18, LI19, LI20, LI21, LI22, LI23, LI24, LI25, LI26, LI27, LI28, LI29, LI30, LI31, LI32, LI33, LI34, LI35, LI36, LI37, LI40, LI42, LI43, LI45, LI48, LI60, LI61, LI64, LI80, LI300, LI400, LI1000, LI2000, LI2001, LI2047, LI2048, LI100000, LI1000000, LI38, LI39, LI41, LI44, LI46, LI47, LI49, LI50, LI51, LI52, LI53, LI54, LI55, LI56, LI57, LI58, LI59, LI62, LI63, LI65, LI66, LI67, LI68, LI69, LI70, LI71, LI72, LI73, LI74, LI75, LI76, LI77, LI78, LI79, LI81, LI82, LI83, LI84, LI85, LI86, LI87, LI88, LI89, LI90, LI91, LI92, LI93, LI94, LI95, LI96, LI97, LI98, LI99, LI100, LI101, LI102, LI103, LI104, LI105, LI106, LI107, LI108, LI109, LI110, LI111, LI112, LI113, LI114, LI115, LI116, LI117, LI118, LI119, LI120, LI121, LI122, LI123, LI124, LI125, LI126, LI127, LI255, LI256, LI999, LI1001, LI1002, LI1600, LI4096, LI1000001, LI2042, LM, nI_clamp, nI_pos', nI_lt, nI_nlt, nI_le, nI_ge, nI_ne, nI_add, nI_sub, mI_lt, mI_le, mI_nlt, mI_nle, mI_ne, mI_ne', mI_nem, l6, gr256, ty12_26]
  have c6 : cp X6 256 = 2 * c := by rw [hX6, xgr_cp, if_pos rfl]
  have d6 : ∀ v, v ≠ 256 → cp X6 v = cp X5 v := fun v hv => by rw [hX6, xgr_cp, if_neg hv]
  have p6 : ∀ v, v < 251 ∨ 256 < v → cp X6 v = cp X v := fun v hv => by rw [d6 v (by omega), p5 v (by omega)]
  have i6 : ∀ v, v ≠ 256 → I6 v = I5 v := fun v hv => by rw [hI6, uc_ne hv]
  have y6 : ∀ i, i < c → I6 256 i = I5 256 i := fun i hi => by
      rw [hI6, uc_at]
      unfold gR
      rw [if_pos hi]
  have o6 : gro X5 (n + 2 * c + 2 * c + 2 * c + 2 * c + 2 * c) X6 (n + 2 * c + 2 * c + 2 * c + 2 * c + 2 * c + 2 * c) := by rw [hX6]; exact gro_x scp256 (by rw [p5 _ (by omega), a1 _ (by omega) (by omega)]; omega) (by rw [p5 _ (by omega), a1 _ (by omega) (by omega)]; omega)
  have l7 := rLonger20 (d := d) (A := A) (b := b) (h := h) (J := J) (R := R) (X := X6) (I := I6) (n := n + 2 * c + 2 * c + 2 * c + 2 * c + 2 * c + 2 * c) (v := 257) (cap := c) (by decide) (by decide) (by rw [p6 257 (by omega)]; exact a1 257 (by omega) (by omega)) (by omega)
  obtain ⟨X7, hX7⟩ : ∃ Y, Y = xgr X6 257 (I6 257) (2 * c) (by decide) := ⟨_, rfl⟩
  obtain ⟨I7, hI7⟩ : ∃ Y, Y = uc I6 257 (gR I6 257 c) := ⟨_, rfl⟩
  have s7 : M193 A (d + 1) 78 [some (.ref (b + 241)), some (.int k), some (.int x1), some (.int x2), some (.int x3), some (.int fr)] [] (jH h b X6 I6 J R (n + 2 * c + 2 * c + 2 * c + 2 * c + 2 * c + 2 * c)) = M193 A (d + 1) 89 [some (.ref (b + 241)), some (.int k), some (.int x1), some (.int x2), some (.int x3), some (.int fr)] [] (jH h b X7 I7 J R (n + 2 * c + 2 * c + 2 * c + 2 * c + 2 * c + 2 * c + 2 * c)) := by
      rw [gR_e] at l7
      rw [r193_78, hX7, hI7]
      simp (disch := omega) [r193_79, r193_80, r193_83, r193_86, g241, vf12_27, t241_27, g257, qa178, List.getElem?_cons_zero, List.getElem?_cons_succ, List.length_cons, List.length_nil, ag_nx, ag_dn, ag_no, ag_if, jbr1, jbr2, jc1, jc2, jnul, jld, jsto, jstoL, jst1, jst2, jkill, jinc, jbI, jbL, jbS, juI, jl2i, jcmp, jisR, jisI, jisL, jret, jretv, jfits, jdup, jdup2, jpop, jmm, jcat, Value.category, jinv, jrcv, jthr, jhd, jput, jget, jlen, jald, jast, jaast, jgI, jgL, jgB, jtab, jlku, jacp, vf20, vf21, vf22, vf23, vf24, u2_s, u2_k, u2_i, uc_s, uc_k, uc_c, u2_c, LI0, LI1, LI2, LI3, LI4, LI5, LI6, LI7, LI8, LI9, LI10, LI11, LI12, LI13, LI14, LI15, LI16, LI17, LI18, LI19, LI20, LI21, LI22, LI23, LI24, LI25, LI26, LI27, LI28, LI29, LI30, LI31, LI32, LI33, LI34, LI35, LI36, LI37, LI40, LI42, LI43, LI45, LI48, LI60, LI61, LI64, LI80, LI300, LI400, LI1000, LI2000, LI2001, LI2047, LI2048, LI100000, LI1000000, LI38, LI39, LI41, LI44, LI46, LI47, LI49, LI50, LI51, LI52, LI53, LI54, LI55, LI56, LI57, LI58, LI59, LI62, LI63, LI65, LI66, LI67, LI68, LI69, LI70, LI71, LI72, LI73, LI74, LI75, LI76, LI77, LI78, LI79, LI81, LI82, LI83, LI84, LI85, LI86, LI87, LI88, LI89, LI90, LI91, LI92, LI93, LI94, LI95, LI96, LI97, LI98, LI99, LI100, LI101, LI102, LI103, LI104, LI105, LI106, LI107, LI108, LI109, LI110, LI111, LI112, LI113, LI114, LI115, LI116, LI117, LI118, LI119, LI120, LI121, LI122, LI123, LI124, LI125, LI126, LI127, LI255, LI256, LI999, LI1001, LI1002, LI1600, LI4096, LI1000001, LI2042, LM, nI_clamp, nI_pos', nI_lt, nI_nlt, nI_le, nI_ge, nI_ne, nI_add, nI_sub, mI_lt, mI_le, mI_nlt, mI_nle, mI_ne, mI_ne', mI_nem, l7, gr257, ty12_27]
  have c7 : cp X7 257 = 2 * c := by rw [hX7, xgr_cp, if_pos rfl]
  have d7 : ∀ v, v ≠ 257 → cp X7 v = cp X6 v := fun v hv => by rw [hX7, xgr_cp, if_neg hv]
  have p7 : ∀ v, v < 251 ∨ 257 < v → cp X7 v = cp X v := fun v hv => by rw [d7 v (by omega), p6 v (by omega)]
  have i7 : ∀ v, v ≠ 257 → I7 v = I6 v := fun v hv => by rw [hI7, uc_ne hv]
  have y7 : ∀ i, i < c → I7 257 i = I6 257 i := fun i hi => by
      rw [hI7, uc_at]
      unfold gR
      rw [if_pos hi]
  have o7 : gro X6 (n + 2 * c + 2 * c + 2 * c + 2 * c + 2 * c + 2 * c) X7 (n + 2 * c + 2 * c + 2 * c + 2 * c + 2 * c + 2 * c + 2 * c) := by rw [hX7]; exact gro_x scp257 (by rw [p6 _ (by omega), a1 _ (by omega) (by omega)]; omega) (by rw [p6 _ (by omega), a1 _ (by omega) (by omega)]; omega)
  have l8 := rLonger20 (d := d) (A := A) (b := b) (h := h) (J := J) (R := R) (X := X7) (I := I7) (n := n + 2 * c + 2 * c + 2 * c + 2 * c + 2 * c + 2 * c + 2 * c) (v := 258) (cap := c) (by decide) (by decide) (by rw [p7 258 (by omega)]; exact a1 258 (by omega) (by omega)) (by omega)
  obtain ⟨X8, hX8⟩ : ∃ Y, Y = xgr X7 258 (I7 258) (2 * c) (by decide) := ⟨_, rfl⟩
  obtain ⟨I8, hI8⟩ : ∃ Y, Y = uc I7 258 (gR I7 258 c) := ⟨_, rfl⟩
  have s8 : M193 A (d + 1) 89 [some (.ref (b + 241)), some (.int k), some (.int x1), some (.int x2), some (.int x3), some (.int fr)] [] (jH h b X7 I7 J R (n + 2 * c + 2 * c + 2 * c + 2 * c + 2 * c + 2 * c + 2 * c)) = M193 A (d + 1) 100 [some (.ref (b + 241)), some (.int k), some (.int x1), some (.int x2), some (.int x3), some (.int fr)] [] (jH h b X8 I8 J R (n + 2 * c + 2 * c + 2 * c + 2 * c + 2 * c + 2 * c + 2 * c + 2 * c)) := by
      rw [gR_e] at l8
      rw [r193_89, hX8, hI8]
      simp (disch := omega) [r193_90, r193_91, r193_94, r193_97, g241, vf12_28, t241_28, g258, qa178, List.getElem?_cons_zero, List.getElem?_cons_succ, List.length_cons, List.length_nil, ag_nx, ag_dn, ag_no, ag_if, jbr1, jbr2, jc1, jc2, jnul, jld, jsto, jstoL, jst1, jst2, jkill, jinc, jbI, jbL, jbS, juI, jl2i, jcmp, jisR, jisI, jisL, jret, jretv, jfits, jdup, jdup2, jpop, jmm, jcat, Value.category, jinv, jrcv, jthr, jhd, jput, jget, jlen, jald, jast, jaast, jgI, jgL, jgB, jtab, jlku, jacp, vf20, vf21, vf22, vf23, vf24, u2_s, u2_k, u2_i, uc_s, uc_k, uc_c, u2_c, LI0, LI1, LI2, LI3, LI4, LI5, LI6, LI7, LI8, LI9, LI10, LI11, LI12, LI13, LI14, LI15, LI16, LI17, LI18, LI19, LI20, LI21, LI22, LI23, LI24, LI25, LI26, LI27, LI28, LI29, LI30, LI31, LI32, LI33, LI34, LI35, LI36, LI37, LI40, LI42, LI43, LI45, LI48, LI60, LI61, LI64, LI80, LI300, LI400, LI1000, LI2000, LI2001, LI2047, LI2048, LI100000, LI1000000, LI38, LI39, LI41, LI44, LI46, LI47, LI49, LI50, LI51, LI52, LI53, LI54, LI55, LI56, LI57, LI58, LI59, LI62, LI63, LI65, LI66, LI67, LI68, LI69, LI70, LI71, LI72, LI73, LI74, LI75, LI76, LI77, LI78, LI79, LI81, LI82, LI83, LI84, LI85, LI86, LI87, LI88, LI89, LI90, LI91, LI92, LI93, LI94, LI95, LI96, LI97, LI98, LI99, LI100, LI101, LI102, LI103, LI104, LI105, LI106, LI107, LI108, LI109, LI110, LI111, LI112, LI113, LI114, LI115, LI116, LI117, LI118, LI119, LI120, LI121, LI122, LI123, LI124, LI125, LI126, LI127, LI255, LI256, LI999, LI1001, LI1002, LI1600, LI4096, LI1000001, LI2042, LM, nI_clamp, nI_pos', nI_lt, nI_nlt, nI_le, nI_ge, nI_ne, nI_add, nI_sub, mI_lt, mI_le, mI_nlt, mI_nle, mI_ne, mI_ne', mI_nem, l8, gr258, ty12_28]
  have c8 : cp X8 258 = 2 * c := by rw [hX8, xgr_cp, if_pos rfl]
  have d8 : ∀ v, v ≠ 258 → cp X8 v = cp X7 v := fun v hv => by rw [hX8, xgr_cp, if_neg hv]
  have p8 : ∀ v, v < 251 ∨ 258 < v → cp X8 v = cp X v := fun v hv => by rw [d8 v (by omega), p7 v (by omega)]
  have i8 : ∀ v, v ≠ 258 → I8 v = I7 v := fun v hv => by rw [hI8, uc_ne hv]
  have y8 : ∀ i, i < c → I8 258 i = I7 258 i := fun i hi => by
      rw [hI8, uc_at]
      unfold gR
      rw [if_pos hi]
  have o8 : gro X7 (n + 2 * c + 2 * c + 2 * c + 2 * c + 2 * c + 2 * c + 2 * c) X8 (n + 2 * c + 2 * c + 2 * c + 2 * c + 2 * c + 2 * c + 2 * c + 2 * c) := by rw [hX8]; exact gro_x scp258 (by rw [p7 _ (by omega), a1 _ (by omega) (by omega)]; omega) (by rw [p7 _ (by omega), a1 _ (by omega) (by omega)]; omega)
  have e0 : jcall A jcode (d + 2) 193 [.ref (b + 241), .int k, .int x1, .int x2, .int x3, .int fr] (jH h b X I J R n) = M193 A (d + 1) 12 [some (.ref (b + 241)), some (.int k), some (.int x1), some (.int x2), some (.int x3), some (.int fr)] [] (jH h b X I J R n) := by
    have := a1 251 (by omega) (by omega)
    simp (disch := omega) [je193, r193_0, r193_1, r193_4, r193_5, r193_8, r193_9, g241, vf12_29, vf12_21, t241_21, g251, List.getElem?_cons_zero, List.getElem?_cons_succ, List.length_cons, List.length_nil, ag_nx, ag_dn, ag_no, ag_if, jbr1, jbr2, jc1, jc2, jnul, jld, jsto, jstoL, jst1, jst2, jkill, jinc, jbI, jbL, jbS, juI, jl2i, jcmp, jisR, jisI, jisL, jret, jretv, jfits, jdup, jdup2, jpop, jmm, jcat, Value.category, jinv, jrcv, jthr, jhd, jput, jget, jlen, jald, jast, jaast, jgI, jgL, jgB, jtab, jlku, jacp, vf20, vf21, vf22, vf23, vf24, u2_s, u2_k, u2_i, uc_s, uc_k, uc_c, u2_c, LI0, LI1, LI2, LI3, LI4, LI5, LI6, LI7, LI8, LI9, LI10, LI11, LI12, LI13, LI14, LI15, LI16, LI17, LI18, LI19, LI20, LI21, LI22, LI23, LI24, LI25, LI26, LI27, LI28, LI29, LI30, LI31, LI32, LI33, LI34, LI35, LI36, LI37, LI40, LI42, LI43, LI45, LI48, LI60, LI61, LI64, LI80, LI300, LI400, LI1000, LI2000, LI2001, LI2047, LI2048, LI100000, LI1000000, LI38, LI39, LI41, LI44, LI46, LI47, LI49, LI50, LI51, LI52, LI53, LI54, LI55, LI56, LI57, LI58, LI59, LI62, LI63, LI65, LI66, LI67, LI68, LI69, LI70, LI71, LI72, LI73, LI74, LI75, LI76, LI77, LI78, LI79, LI81, LI82, LI83, LI84, LI85, LI86, LI87, LI88, LI89, LI90, LI91, LI92, LI93, LI94, LI95, LI96, LI97, LI98, LI99, LI100, LI101, LI102, LI103, LI104, LI105, LI106, LI107, LI108, LI109, LI110, LI111, LI112, LI113, LI114, LI115, LI116, LI117, LI118, LI119, LI120, LI121, LI122, LI123, LI124, LI125, LI126, LI127, LI255, LI256, LI999, LI1001, LI1002, LI1600, LI4096, LI1000001, LI2042, LM, nI_clamp, nI_pos', nI_lt, nI_nlt, nI_le, nI_ge, nI_ne, nI_add, nI_sub, mI_lt, mI_le, mI_nlt, mI_nle, mI_ne, mI_ne', mI_nem, hM, this]
  refine ⟨X8, I8, n + 2 * c + 2 * c + 2 * c + 2 * c + 2 * c + 2 * c + 2 * c + 2 * c, by rw [e0, s1, s2, s3, s4, s5, s6, s7, s8], fun v h1 h2 => ?_, fun v hv => ?_, fun v i hv => ?_, ?_⟩
  · rcases (show v = 251 ∨ v = 252 ∨ v = 253 ∨ v = 254 ∨ v = 255 ∨ v = 256 ∨ v = 257 ∨ v = 258 by omega) with rfl | rfl | rfl | rfl | rfl | rfl | rfl | rfl
    · rw [d8 _ (by omega), d7 _ (by omega), d6 _ (by omega), d5 _ (by omega), d4 _ (by omega), d3 _ (by omega), d2 _ (by omega)]; exact c1
    · rw [d8 _ (by omega), d7 _ (by omega), d6 _ (by omega), d5 _ (by omega), d4 _ (by omega), d3 _ (by omega)]; exact c2
    · rw [d8 _ (by omega), d7 _ (by omega), d6 _ (by omega), d5 _ (by omega), d4 _ (by omega)]; exact c3
    · rw [d8 _ (by omega), d7 _ (by omega), d6 _ (by omega), d5 _ (by omega)]; exact c4
    · rw [d8 _ (by omega), d7 _ (by omega), d6 _ (by omega)]; exact c5
    · rw [d8 _ (by omega), d7 _ (by omega)]; exact c6
    · rw [d8 _ (by omega)]; exact c7
    · exact c8
  · rcases hv with hv | hv
    · exact p8 v (Or.inl hv)
    · exact p8 v (Or.inr hv)
  · have st : ∀ (k : Nat) (P Q : Nat → Nat → Int32), (∀ v, v ≠ k → P v = Q v) → (∀ i, i < c → P k i = Q k i) → ∀ v i, (v = k → i < c) → P v i = Q v i := fun k P Q h1 h2 v i h3 => by
      by_cases e : v = k
      · subst e; exact h2 i (h3 rfl)
      · rw [h1 v e]
    rw [st 258 I8 I7 i8 y8 v i (by omega), st 257 I7 I6 i7 y7 v i (by omega), st 256 I6 I5 i6 y6 v i (by omega), st 255 I5 I4 i5 y5 v i (by omega), st 254 I4 I3 i4 y4 v i (by omega), st 253 I3 I2 i3 y3 v i (by omega), st 252 I2 I1 i2 y2 v i (by omega), st 251 I1 I i1 y1 v i (by omega)]
  · exact gro_trans (gro_trans (gro_trans (gro_trans (gro_trans (gro_trans (gro_trans o1 o2) o3) o4) o5) o6) o7) o8
end RAD
