/-! the reference: a longer row -/
section RLO
variable {A : Nat → Nat} {d b n : Nat} {h : Nat → Option jC} {X : jXX} {I : Nat → Nat → Int32} {J : Nat → Nat → Int64} {R : Nat → Nat → Nat}
theorem r178l {v cap N : Nat} (hv : gw v = true) (ht : gtag v = 20) (hc : cp X v = cap) (hcap : cap ≤ 2 ^ 20) : ∀ r k, k + r = cap → M178 A d 9 [some (.ref (b + ad X v)), some (.ref (b + tp X)), some (.int (nI k))] [] (jH h b (xad X (20, 2 * cap, fun i => .int (if i < k then I v i else nI 0))) I J R N) = some (.inl (some (.ref (b + tp X))), jH h b (xad X (20, 2 * cap, fun i => .int (if i < cap then I v i else nI 0))) I J R N) := by
  have ga : ∀ c, (jH h b (xad X c) I J R N).1 (b + ad X v) = some (20, cap, fun i => .int (I v i)) := fun c => by
    have := H_ad (h := h) (b := b) (X := xad X c) (I := I) (J := J) (R := R) (n := N) hv
    rw [ht] at this
    rw [show cp (xad X c) v = cap from hc] at this
    exact this
  intro r
  induction r with
  | zero =>
    intro k hk
    have : k = cap := by omega
    subst this
    rw [r178_9]
    simp (disch := omega) [r178_10, r178_11, r178_12, r178_27, r178_28, List.getElem?_cons_zero, List.getElem?_cons_succ, List.length_cons, List.length_nil, ag_nx, ag_dn, ag_no, ag_if, jbr1, jbr2, jc1, jc2, jnul, jld, jsto, jstoL, jst1, jst2, jkill, jinc, jbI, jbL, jbS, juI, jl2i, jcmp, jisR, jisI, jisL, jret, jretv, jfits, jdup, jdup2, jpop, jmm, jcat, Value.category, jinv, jrcv, jthr, jhd, jput, jget, jlen, jald, jast, jaast, jgI, jgL, jgB, jtab, jlku, jacp, vf20, vf21, vf22, vf23, vf24, u2_s, u2_k, u2_i, uc_s, uc_k, uc_c, u2_c, LI0, LI1, LI2, LI3, LI4, LI5, LI6, LI7, LI8, LI9, LI10, LI11, LI12, LI13, LI14, LI15, LI16, LI17, LI18, LI19, LI20, LI21, LI22, LI23, LI24, LI25, LI26, LI27, LI28, LI29, LI30, LI31, LI32, LI33, LI34, LI35, LI36, LI37, LI40, LI42, LI43, LI45, LI48, LI60, LI61, LI64, LI80, LI300, LI400, LI1000, LI2000, LI2001, LI2047, LI2048, LI100000, LI1000000, LI38, LI39, LI41, LI44, LI46, LI47, LI49, LI50, LI51, LI52, LI53, LI54, LI55, LI56, LI57, LI58, LI59, LI62, LI63, LI65, LI66, LI67, LI68, LI69, LI70, LI71, LI72, LI73, LI74, LI75, LI76, LI77, LI78, LI79, LI81, LI82, LI83, LI84, LI85, LI86, LI87, LI88, LI89, LI90, LI91, LI92, LI93, LI94, LI95, LI96, LI97, LI98, LI99, LI100, LI101, LI102, LI103, LI104, LI105, LI106, LI107, LI108, LI109, LI110, LI111, LI112, LI113, LI114, LI115, LI116, LI117, LI118, LI119, LI120, LI121, LI122, LI123, LI124, LI125, LI126, LI127, LI255, LI256, LI999, LI1001, LI1002, LI1600, LI4096, LI1000001, LI2042, LM, nI_clamp, nI_pos', nI_lt, nI_nlt, nI_le, nI_ge, nI_ne, nI_add, nI_sub, mI_lt, mI_le, mI_nlt, mI_nle, mI_ne, mI_ne', mI_nem, ga]
  | succ r ih =>
    intro k hk
    have e := ih (k + 1) (by omega)
    have eu : updV (fun i => Value.int (if i < k then I v i else nI 0)) k (.int (I v k)) = fun i => Value.int (if i < k + 1 then I v i else nI 0) := by
      funext i
      unfold updV
      by_cases hi : i = k
      · subst hi
        rw [if_pos rfl, if_pos (by omega)]
      · rw [if_neg hi]
        show Value.int (if i < k then I v i else nI 0) = _
        by_cases h1 : i < k
        · rw [if_pos h1, if_pos (by omega)]
        · rw [if_neg h1, if_neg (by omega)]
    rw [← e, r178_9]
    simp (disch := omega) [r178_10, r178_11, r178_12, r178_15, r178_16, r178_17, r178_18, r178_19, r178_20, r178_21, r178_24, List.getElem?_cons_zero, List.getElem?_cons_succ, List.length_cons, List.length_nil, ag_nx, ag_dn, ag_no, ag_if, jbr1, jbr2, jc1, jc2, jnul, jld, jsto, jstoL, jst1, jst2, jkill, jinc, jbI, jbL, jbS, juI, jl2i, jcmp, jisR, jisI, jisL, jret, jretv, jfits, jdup, jdup2, jpop, jmm, jcat, Value.category, jinv, jrcv, jthr, jhd, jput, jget, jlen, jald, jast, jaast, jgI, jgL, jgB, jtab, jlku, jacp, vf20, vf21, vf22, vf23, vf24, u2_s, u2_k, u2_i, uc_s, uc_k, uc_c, u2_c, LI0, LI1, LI2, LI3, LI4, LI5, LI6, LI7, LI8, LI9, LI10, LI11, LI12, LI13, LI14, LI15, LI16, LI17, LI18, LI19, LI20, LI21, LI22, LI23, LI24, LI25, LI26, LI27, LI28, LI29, LI30, LI31, LI32, LI33, LI34, LI35, LI36, LI37, LI40, LI42, LI43, LI45, LI48, LI60, LI61, LI64, LI80, LI300, LI400, LI1000, LI2000, LI2001, LI2047, LI2048, LI100000, LI1000000, LI38, LI39, LI41, LI44, LI46, LI47, LI49, LI50, LI51, LI52, LI53, LI54, LI55, LI56, LI57, LI58, LI59, LI62, LI63, LI65, LI66, LI67, LI68, LI69, LI70, LI71, LI72, LI73, LI74, LI75, LI76, LI77, LI78, LI79, LI81, LI82, LI83, LI84, LI85, LI86, LI87, LI88, LI89, LI90, LI91, LI92, LI93, LI94, LI95, LI96, LI97, LI98, LI99, LI100, LI101, LI102, LI103, LI104, LI105, LI106, LI107, LI108, LI109, LI110, LI111, LI112, LI113, LI114, LI115, LI116, LI117, LI118, LI119, LI120, LI121, LI122, LI123, LI124, LI125, LI126, LI127, LI255, LI256, LI999, LI1001, LI1002, LI1600, LI4096, LI1000001, LI2042, LM, nI_clamp, nI_pos', nI_lt, nI_nlt, nI_le, nI_ge, nI_ne, nI_add, nI_sub, mI_lt, mI_le, mI_nlt, mI_nle, mI_ne, mI_ne', mI_nem, ga, H_last, H_lset, eu, show k < cap by omega, show k < 2 * cap by omega]
theorem rLonger20 {v cap : Nat} (hv : gw v = true) (ht : gtag v = 20) (hc : cp X v = cap) (hcap : cap ≤ 2 ^ 20) : jcall A jcode (d + 1) 178 [.ref (b + ad X v)] (jH h b X I J R n) = some (.inl (some (.ref (b + tp X))), jH h b (xad X (20, 2 * cap, fun i => .int (if i < cap then I v i else nI 0))) I J R (n + 2 * cap)) := by
  have ga : (jH h b X I J R n).1 (b + ad X v) = some (20, cap, fun i => .int (I v i)) := by
    have := H_ad (h := h) (b := b) (X := X) (I := I) (J := J) (R := R) (n := n) hv
    rw [ht, hc] at this
    exact this
  have e := r178l (d := d) (A := A) (b := b) (h := h) (X := X) (I := I) (J := J) (R := R) (N := n + 2 * cap) hv ht hc hcap cap 0 (by omega)
  rw [← e]
  have e0 : (fun i => Value.int (if i < 0 then I v i else nI 0)) = fun _ => Value.int (nI 0) := by
    funext i
    rw [if_neg (by omega)]
  rw [e0]
  have ed : (defaultValue (jAt 20)) = Value.int (nI 0) := by decide
  have en : nI 2 * nI cap = nI (2 * cap) := nI_mul _ _
  simp (disch := omega) [je178, r178_0, r178_1, r178_2, r178_3, r178_4, r178_6, r178_7, r178_8, List.getElem?_cons_zero, List.getElem?_cons_succ, List.length_cons, List.length_nil, ag_nx, ag_dn, ag_no, ag_if, jbr1, jbr2, jc1, jc2, jnul, jld, jsto, jstoL, jst1, jst2, jkill, jinc, jbI, jbL, jbS, juI, jl2i, jcmp, jisR, jisI, jisL, jret, jretv, jfits, jdup, jdup2, jpop, jmm, jcat, Value.category, jinv, jrcv, jthr, jhd, jput, jget, jlen, jald, jast, jaast, jgI, jgL, jgB, jtab, jlku, jacp, vf20, vf21, vf22, vf23, vf24, u2_s, u2_k, u2_i, uc_s, uc_k, uc_c, u2_c, LI0, LI1, LI2, LI3, LI4, LI5, LI6, LI7, LI8, LI9, LI10, LI11, LI12, LI13, LI14, LI15, LI16, LI17, LI18, LI19, LI20, LI21, LI22, LI23, LI24, LI25, LI26, LI27, LI28, LI29, LI30, LI31, LI32, LI33, LI34, LI35, LI36, LI37, LI40, LI42, LI43, LI45, LI48, LI60, LI61, LI64, LI80, LI300, LI400, LI1000, LI2000, LI2001, LI2047, LI2048, LI100000, LI1000000, LI38, LI39, LI41, LI44, LI46, LI47, LI49, LI50, LI51, LI52, LI53, LI54, LI55, LI56, LI57, LI58, LI59, LI62, LI63, LI65, LI66, LI67, LI68, LI69, LI70, LI71, LI72, LI73, LI74, LI75, LI76, LI77, LI78, LI79, LI81, LI82, LI83, LI84, LI85, LI86, LI87, LI88, LI89, LI90, LI91, LI92, LI93, LI94, LI95, LI96, LI97, LI98, LI99, LI100, LI101, LI102, LI103, LI104, LI105, LI106, LI107, LI108, LI109, LI110, LI111, LI112, LI113, LI114, LI115, LI116, LI117, LI118, LI119, LI120, LI121, LI122, LI123, LI124, LI125, LI126, LI127, LI255, LI256, LI999, LI1001, LI1002, LI1600, LI4096, LI1000001, LI2042, LM, nI_clamp, nI_pos', nI_lt, nI_nlt, nI_le, nI_ge, nI_ne, nI_add, nI_sub, mI_lt, mI_le, mI_nlt, mI_nle, mI_ne, mI_ne', mI_nem, ga, jnewa, H_new, H_top, en, ed, show 2 * cap ≤ 60000000 by omega]
theorem r179l {v cap N : Nat} (hv : gw v = true) (ht : gtag v = 22) (hc : cp X v = cap) (hcap : cap ≤ 2 ^ 20) (hb : ∀ i, i < cap → (I v i).toInt8.toInt32 = I v i) : ∀ r k, k + r = cap → M179 A d 9 [some (.ref (b + ad X v)), some (.ref (b + tp X)), some (.int (nI k))] [] (jH h b (xad X (22, 2 * cap, fun i => .int (if i < k then I v i else nI 0))) I J R N) = some (.inl (some (.ref (b + tp X))), jH h b (xad X (22, 2 * cap, fun i => .int (if i < cap then I v i else nI 0))) I J R N) := by
  have ga : ∀ c, (jH h b (xad X c) I J R N).1 (b + ad X v) = some (22, cap, fun i => .int (I v i)) := fun c => by
    have := H_ad (h := h) (b := b) (X := xad X c) (I := I) (J := J) (R := R) (n := N) hv
    rw [ht] at this
    rw [show cp (xad X c) v = cap from hc] at this
    exact this
  intro r
  induction r with
  | zero =>
    intro k hk
    have : k = cap := by omega
    subst this
    rw [r179_9]
    simp (disch := omega) [r179_10, r179_11, r179_12, r179_27, r179_28, List.getElem?_cons_zero, List.getElem?_cons_succ, List.length_cons, List.length_nil, ag_nx, ag_dn, ag_no, ag_if, jbr1, jbr2, jc1, jc2, jnul, jld, jsto, jstoL, jst1, jst2, jkill, jinc, jbI, jbL, jbS, juI, jl2i, jcmp, jisR, jisI, jisL, jret, jretv, jfits, jdup, jdup2, jpop, jmm, jcat, Value.category, jinv, jrcv, jthr, jhd, jput, jget, jlen, jald, jast, jaast, jgI, jgL, jgB, jtab, jlku, jacp, vf20, vf21, vf22, vf23, vf24, u2_s, u2_k, u2_i, uc_s, uc_k, uc_c, u2_c, LI0, LI1, LI2, LI3, LI4, LI5, LI6, LI7, LI8, LI9, LI10, LI11, LI12, LI13, LI14, LI15, LI16, LI17, LI18, LI19, LI20, LI21, LI22, LI23, LI24, LI25, LI26, LI27, LI28, LI29, LI30, LI31, LI32, LI33, LI34, LI35, LI36, LI37, LI40, LI42, LI43, LI45, LI48, LI60, LI61, LI64, LI80, LI300, LI400, LI1000, LI2000, LI2001, LI2047, LI2048, LI100000, LI1000000, LI38, LI39, LI41, LI44, LI46, LI47, LI49, LI50, LI51, LI52, LI53, LI54, LI55, LI56, LI57, LI58, LI59, LI62, LI63, LI65, LI66, LI67, LI68, LI69, LI70, LI71, LI72, LI73, LI74, LI75, LI76, LI77, LI78, LI79, LI81, LI82, LI83, LI84, LI85, LI86, LI87, LI88, LI89, LI90, LI91, LI92, LI93, LI94, LI95, LI96, LI97, LI98, LI99, LI100, LI101, LI102, LI103, LI104, LI105, LI106, LI107, LI108, LI109, LI110, LI111, LI112, LI113, LI114, LI115, LI116, LI117, LI118, LI119, LI120, LI121, LI122, LI123, LI124, LI125, LI126, LI127, LI255, LI256, LI999, LI1001, LI1002, LI1600, LI4096, LI1000001, LI2042, LM, nI_clamp, nI_pos', nI_lt, nI_nlt, nI_le, nI_ge, nI_ne, nI_add, nI_sub, mI_lt, mI_le, mI_nlt, mI_nle, mI_ne, mI_ne', mI_nem, ga]
  | succ r ih =>
    intro k hk
    have e := ih (k + 1) (by omega)
    have eu : updV (fun i => Value.int (if i < k then I v i else nI 0)) k (.int (I v k)) = fun i => Value.int (if i < k + 1 then I v i else nI 0) := by
      funext i
      unfold updV
      by_cases hi : i = k
      · subst hi
        rw [if_pos rfl, if_pos (by omega)]
      · rw [if_neg hi]
        show Value.int (if i < k then I v i else nI 0) = _
        by_cases h1 : i < k
        · rw [if_pos h1, if_pos (by omega)]
        · rw [if_neg h1, if_neg (by omega)]
    rw [← e, r179_9]
    simp (disch := omega) [r179_10, r179_11, r179_12, r179_15, r179_16, r179_17, r179_18, r179_19, r179_20, r179_21, r179_24, List.getElem?_cons_zero, List.getElem?_cons_succ, List.length_cons, List.length_nil, ag_nx, ag_dn, ag_no, ag_if, jbr1, jbr2, jc1, jc2, jnul, jld, jsto, jstoL, jst1, jst2, jkill, jinc, jbI, jbL, jbS, juI, jl2i, jcmp, jisR, jisI, jisL, jret, jretv, jfits, jdup, jdup2, jpop, jmm, jcat, Value.category, jinv, jrcv, jthr, jhd, jput, jget, jlen, jald, jast, jaast, jgI, jgL, jgB, jtab, jlku, jacp, vf20, vf21, vf22, vf23, vf24, u2_s, u2_k, u2_i, uc_s, uc_k, uc_c, u2_c, LI0, LI1, LI2, LI3, LI4, LI5, LI6, LI7, LI8, LI9, LI10, LI11, LI12, LI13, LI14, LI15, LI16, LI17, LI18, LI19, LI20, LI21, LI22, LI23, LI24, LI25, LI26, LI27, LI28, LI29, LI30, LI31, LI32, LI33, LI34, LI35, LI36, LI37, LI40, LI42, LI43, LI45, LI48, LI60, LI61, LI64, LI80, LI300, LI400, LI1000, LI2000, LI2001, LI2047, LI2048, LI100000, LI1000000, LI38, LI39, LI41, LI44, LI46, LI47, LI49, LI50, LI51, LI52, LI53, LI54, LI55, LI56, LI57, LI58, LI59, LI62, LI63, LI65, LI66, LI67, LI68, LI69, LI70, LI71, LI72, LI73, LI74, LI75, LI76, LI77, LI78, LI79, LI81, LI82, LI83, LI84, LI85, LI86, LI87, LI88, LI89, LI90, LI91, LI92, LI93, LI94, LI95, LI96, LI97, LI98, LI99, LI100, LI101, LI102, LI103, LI104, LI105, LI106, LI107, LI108, LI109, LI110, LI111, LI112, LI113, LI114, LI115, LI116, LI117, LI118, LI119, LI120, LI121, LI122, LI123, LI124, LI125, LI126, LI127, LI255, LI256, LI999, LI1001, LI1002, LI1600, LI4096, LI1000001, LI2042, LM, nI_clamp, nI_pos', nI_lt, nI_nlt, nI_le, nI_ge, nI_ne, nI_add, nI_sub, mI_lt, mI_le, mI_nlt, mI_nle, mI_ne, mI_ne', mI_nem, ga, H_last, H_lset, hb k (by omega), eu, show k < cap by omega, show k < 2 * cap by omega]
theorem rLonger22 {v cap : Nat} (hv : gw v = true) (ht : gtag v = 22) (hc : cp X v = cap) (hcap : cap ≤ 2 ^ 20) (hb : ∀ i, i < cap → (I v i).toInt8.toInt32 = I v i) : jcall A jcode (d + 1) 179 [.ref (b + ad X v)] (jH h b X I J R n) = some (.inl (some (.ref (b + tp X))), jH h b (xad X (22, 2 * cap, fun i => .int (if i < cap then I v i else nI 0))) I J R (n + 2 * cap)) := by
  have ga : (jH h b X I J R n).1 (b + ad X v) = some (22, cap, fun i => .int (I v i)) := by
    have := H_ad (h := h) (b := b) (X := X) (I := I) (J := J) (R := R) (n := n) hv
    rw [ht, hc] at this
    exact this
  have e := r179l (d := d) (A := A) (b := b) (h := h) (X := X) (I := I) (J := J) (R := R) (N := n + 2 * cap) hv ht hc hcap hb cap 0 (by omega)
  rw [← e]
  have e0 : (fun i => Value.int (if i < 0 then I v i else nI 0)) = fun _ => Value.int (nI 0) := by
    funext i
    rw [if_neg (by omega)]
  rw [e0]
  have ed : (defaultValue (jAt 22)) = Value.int (nI 0) := by decide
  have en : nI 2 * nI cap = nI (2 * cap) := nI_mul _ _
  simp (disch := omega) [je179, r179_0, r179_1, r179_2, r179_3, r179_4, r179_6, r179_7, r179_8, List.getElem?_cons_zero, List.getElem?_cons_succ, List.length_cons, List.length_nil, ag_nx, ag_dn, ag_no, ag_if, jbr1, jbr2, jc1, jc2, jnul, jld, jsto, jstoL, jst1, jst2, jkill, jinc, jbI, jbL, jbS, juI, jl2i, jcmp, jisR, jisI, jisL, jret, jretv, jfits, jdup, jdup2, jpop, jmm, jcat, Value.category, jinv, jrcv, jthr, jhd, jput, jget, jlen, jald, jast, jaast, jgI, jgL, jgB, jtab, jlku, jacp, vf20, vf21, vf22, vf23, vf24, u2_s, u2_k, u2_i, uc_s, uc_k, uc_c, u2_c, LI0, LI1, LI2, LI3, LI4, LI5, LI6, LI7, LI8, LI9, LI10, LI11, LI12, LI13, LI14, LI15, LI16, LI17, LI18, LI19, LI20, LI21, LI22, LI23, LI24, LI25, LI26, LI27, LI28, LI29, LI30, LI31, LI32, LI33, LI34, LI35, LI36, LI37, LI40, LI42, LI43, LI45, LI48, LI60, LI61, LI64, LI80, LI300, LI400, LI1000, LI2000, LI2001, LI2047, LI2048, LI100000, LI1000000, LI38, LI39, LI41, LI44, LI46, LI47, LI49, LI50, LI51, LI52, LI53, LI54, LI55, LI56, LI57, LI58, LI59, LI62, LI63, LI65, LI66, LI67, LI68, LI69, LI70, LI71, LI72, LI73, LI74, LI75, LI76, LI77, LI78, LI79, LI81, LI82, LI83, LI84, LI85, LI86, LI87, LI88, LI89, LI90, LI91, LI92, LI93, LI94, LI95, LI96, LI97, LI98, LI99, LI100, LI101, LI102, LI103, LI104, LI105, LI106, LI107, LI108, LI109, LI110, LI111, LI112, LI113, LI114, LI115, LI116, LI117, LI118, LI119, LI120, LI121, LI122, LI123, LI124, LI125, LI126, LI127, LI255, LI256, LI999, LI1001, LI1002, LI1600, LI4096, LI1000001, LI2042, LM, nI_clamp, nI_pos', nI_lt, nI_nlt, nI_le, nI_ge, nI_ne, nI_add, nI_sub, mI_lt, mI_le, mI_nlt, mI_nle, mI_ne, mI_ne', mI_nem, ga, jnewa, H_new, H_top, en, ed, show 2 * cap ≤ 60000000 by omega]
end RLO
