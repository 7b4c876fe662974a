/-! steps: begin -/
section ZSV
variable {A : Nat → Nat} {d b n s0 Ls i c : Nat} {h : Nat → Option jC} {X : jXX} {I : Nat → Nat → Int32} {J : Nat → Nat → Int64} {R : Nat → Nat → Nat} {xs : Nat → Int32}
/-- the plan's own names may be cut -/
theorem plC_fr' {cN rN : Int32 → Nm} {N : Nat → Nat → Int32} {O G E : Nat → Int32} {np P L : Nat} {I I' : Nat → Nat → Int32} (hP : isP P) (hi : ∀ c i, P ≤ c → c ≤ P + 22 → c ≠ P + 1 → I' c i = I c i) (h : plC cN rN N O G E np P L I) : plC cN rN N O G E np P L I' := by
  have e : ∀ j, j ≤ 22 → j ≠ 1 → I' (P + j) = I (P + j) := fun j hj hj1 => funext fun i => hi _ _ (by omega) (by omega) (by omega)
  have e0 : I' P = I P := e 0 (by omega) (by omega)
  unfold plC kP kC cdC at h ⊢
  rw [e0, e 4 (by omega) (by omega), e 5 (by omega) (by omega), e 6 (by omega) (by omega), e 7 (by omega) (by omega), e 9 (by omega) (by omega), e 10 (by omega) (by omega), e 11 (by omega) (by omega), e 12 (by omega) (by omega), e 13 (by omega) (by omega), e 14 (by omega) (by omega), e 15 (by omega) (by omega), e 16 (by omega) (by omega), e 17 (by omega) (by omega), e 18 (by omega) (by omega), e 19 (by omega) (by omega), e 20 (by omega) (by omega), e 21 (by omega) (by omega), e 22 (by omega) (by omega)]
  exact h
theorem st_3 (hs0 : s0 < b) (hs : h s0 = some (25, Ls, fun j => .int (xs j))) (hL : Ls ≤ 3072) (hi : i + 6 ≤ Ls) (hc : c < 600) (hR : Rel c X I J R n) (hk : xs i &&& 31 = nI 3) : stp A d b s0 i h c X I J R n := by
  intro x5 x6 x7
  have hR' := hR
  obtain ⟨T, nn, nb, M, P, P', L, C, C', a1, a2, a3, a4, a5, a6, ⟨a70, a7⟩, a8, a9, a10⟩ := hR'
  have hw := isW_57
  have hq : isI 66 := by unfold isI; simp
  rcases a7 with ⟨s1, s2, s3, s4, s5⟩ | ⟨k, np, Lc, cap, B, D, N, O, G, E, W, a7⟩
  · have e171 := c171n (A := A) (d := d + 1398) (b := b) (h := h) (X := X) (J := J) (R := R) (n := n) s1
    have e1 : jcall A jcode (d + 1400) 151 [.ref b] (jH h b X I J R n) = some (.inr 43, (jH h b (xad X (jE 43)) I J R (n + 6))) := by
      simp (disch := omega) [je151, r151_0, r151_1, r151_4, r151_5, r151_8, r151_9, r151_12, r151_15, r151_16, r151_19, r151_22, qa171, qo171, g0z, vf10_6, t0_6, vf10_8, t0_8, qa115, qo115, gW0 hw, vf9_3, List.getElem?_cons_zero, List.getElem?_cons_succ, List.length_cons, List.length_nil, ag_nx, ag_dn, ag_no, ag_if, jbr1, jbr2, jc1, jc2, jnul, jld, jsto, jstoL, jst1, jst2, jkill, jinc, jbI, jbL, jbS, juI, jl2i, jcmp, jisR, jisI, jisL, jret, jretv, jfits, jdup, jdup2, jpop, jmm, jcat, Value.category, jinv, jrcv, jthr, jhd, jput, jget, jlen, jald, jast, jaast, jgI, jgL, jgB, jtab, jlku, jacp, vf20, vf21, vf22, vf23, vf24, u2_s, u2_k, u2_i, uc_s, uc_k, uc_c, u2_c, LI0, LI1, LI2, LI3, LI4, LI5, LI6, LI7, LI8, LI9, LI10, LI11, LI12, LI13, LI14, LI15, LI16, LI17, LI18, LI19, LI20, LI21, LI22, LI23, LI24, LI25, LI26, LI27, LI28, LI29, LI30, LI31, LI32, LI33, LI34, LI35, LI36, LI37, LI40, LI42, LI43, LI45, LI48, LI60, LI61, LI64, LI80, LI300, LI400, LI1000, LI2000, LI2001, LI2047, LI2048, LI100000, LI1000000, LI38, LI39, LI41, LI44, LI46, LI47, LI49, LI50, LI51, LI52, LI53, LI54, LI55, LI56, LI57, LI58, LI59, LI62, LI63, LI65, LI66, LI67, LI68, LI69, LI70, LI71, LI72, LI73, LI74, LI75, LI76, LI77, LI78, LI79, LI81, LI82, LI83, LI84, LI85, LI86, LI87, LI88, LI89, LI90, LI91, LI92, LI93, LI94, LI95, LI96, LI97, LI98, LI99, LI100, LI101, LI102, LI103, LI104, LI105, LI106, LI107, LI108, LI109, LI110, LI111, LI112, LI113, LI114, LI115, LI116, LI117, LI118, LI119, LI120, LI121, LI122, LI123, LI124, LI125, LI126, LI127, LI255, LI256, LI999, LI1001, LI1002, LI1600, LI4096, LI1000001, LI2042, LM, nI_clamp, nI_pos', nI_lt, nI_nlt, nI_le, nI_ge, nI_ne, nI_add, nI_sub, mI_lt, mI_le, mI_nlt, mI_nle, mI_ne, mI_ne', mI_nem, e171]
    have e176 := r176 (A := A) (d := d + 1399) (b := b) (h := h) (X := xad X (jE 43)) (I := I) (J := J) (R := R) (n := n + 6) (k := 1) (by omega)
    have e2 : jcall A jcode (d + 1401) 250 [.ref (b + 241)] (jH h b (xad X (jE 43)) I J R (n + 6)) = some (.inl (some (.int (nI 0))), (jH h b (xad X (jE 43)) (u2 I 241 0 (nI 1)) J R (n + 6))) := by
      simp (disch := omega) [je250, r250_0, r250_1, r250_2, r250_5, r250_8, r250_9, r250_12, r250_13, r250_16, r250_19, r250_20, r250_21, r250_22, r250_25, r250_26, r250_29, g241, vf12_33, qa176, qo176, qa227, qo227, vf12_36, List.getElem?_cons_zero, List.getElem?_cons_succ, List.length_cons, List.length_nil, ag_nx, ag_dn, ag_no, ag_if, jbr1, jbr2, jc1, jc2, jnul, jld, jsto, jstoL, jst1, jst2, jkill, jinc, jbI, jbL, jbS, juI, jl2i, jcmp, jisR, jisI, jisL, jret, jretv, jfits, jdup, jdup2, jpop, jmm, jcat, Value.category, jinv, jrcv, jthr, jhd, jput, jget, jlen, jald, jast, jaast, jgI, jgL, jgB, jtab, jlku, jacp, vf20, vf21, vf22, vf23, vf24, u2_s, u2_k, u2_i, uc_s, uc_k, uc_c, u2_c, LI0, LI1, LI2, LI3, LI4, LI5, LI6, LI7, LI8, LI9, LI10, LI11, LI12, LI13, LI14, LI15, LI16, LI17, LI18, LI19, LI20, LI21, LI22, LI23, LI24, LI25, LI26, LI27, LI28, LI29, LI30, LI31, LI32, LI33, LI34, LI35, LI36, LI37, LI40, LI42, LI43, LI45, LI48, LI60, LI61, LI64, LI80, LI300, LI400, LI1000, LI2000, LI2001, LI2047, LI2048, LI100000, LI1000000, LI38, LI39, LI41, LI44, LI46, LI47, LI49, LI50, LI51, LI52, LI53, LI54, LI55, LI56, LI57, LI58, LI59, LI62, LI63, LI65, LI66, LI67, LI68, LI69, LI70, LI71, LI72, LI73, LI74, LI75, LI76, LI77, LI78, LI79, LI81, LI82, LI83, LI84, LI85, LI86, LI87, LI88, LI89, LI90, LI91, LI92, LI93, LI94, LI95, LI96, LI97, LI98, LI99, LI100, LI101, LI102, LI103, LI104, LI105, LI106, LI107, LI108, LI109, LI110, LI111, LI112, LI113, LI114, LI115, LI116, LI117, LI118, LI119, LI120, LI121, LI122, LI123, LI124, LI125, LI126, LI127, LI255, LI256, LI999, LI1001, LI1002, LI1600, LI4096, LI1000001, LI2042, LM, nI_clamp, nI_pos', nI_lt, nI_nlt, nI_le, nI_ge, nI_ne, nI_add, nI_sub, mI_lt, mI_le, mI_nlt, mI_nle, mI_ne, mI_ne', mI_nem, s2, e176]
    exact ⟨_, _, _, _, _, _, _, _, (lwD_3 hs0 hs hL hi hk).trans (lw3_1 hs0 hs hL hi e1 e2 u2_s), Rel_ex hR⟩
  · obtain ⟨hP, hP', hj⟩ := lkS_ok a6
    have hcap := zY_cap a5 a7
    have a7' := a7
    have hPe := isP_e hP
    obtain ⟨b1, b2, b3, b4, b5, b6, b7, b8, b9, b10, b11, b12, b13, b14, b15, b16, b17⟩ := a7'
    have hrj := rNm_i a4.1
    have e171 := c171y (A := A) (d := d + 1398) (b := b) (h := h) (X := X) (J := J) (R := R) (n := n) b1
    obtain ⟨I1, eT, w1, w2, w3, _⟩ := c115 (A := A) (d := d + 1396) (b := b) (h := h) (X := X) (J := J) (n := n) hP b9 b8 a6.2.2.2.1.1 (by have := a6.2.2.2.1.2.1; have := (sN_c (isP_N hP)).1; omega) b4 b7 a70
    have hRe : u2 R 57 0 P = R := by
      funext c j
      by_cases e : c = 57 ∧ j = 0
      · rw [e.1, e.2, u2_s, b3]
      · unfold u2; rw [if_neg e]
    rw [hRe] at eT w1
    obtain ⟨v, hv⟩ : ∃ v, v = nI (aBegin (rNf (rnm I) nn) N np).1.length := ⟨_, rfl⟩
    have v1 : I1 57 3 = v := by rw [hv]; exact w1.1.2.2.1
    have R8 := a6.2.1
    have e1 : jcall A jcode (d + 1400) 151 [.ref b] (jH h b X I J R n) = some (.inl (some (.int v)), (jH h b X I1 J R n)) := by
      simp (disch := omega) [je151, r151_0, r151_1, r151_4, r151_5, r151_8, r151_9, r151_12, r151_15, r151_16, r151_19, r151_22, qa171, qo171, g0z, vf10_6, t0_6, vf10_8, t0_8, qa115, qo115, gW0 hw, vf9_3, List.getElem?_cons_zero, List.getElem?_cons_succ, List.length_cons, List.length_nil, ag_nx, ag_dn, ag_no, ag_if, jbr1, jbr2, jc1, jc2, jnul, jld, jsto, jstoL, jst1, jst2, jkill, jinc, jbI, jbL, jbS, juI, jl2i, jcmp, jisR, jisI, jisL, jret, jretv, jfits, jdup, jdup2, jpop, jmm, jcat, Value.category, jinv, jrcv, jthr, jhd, jput, jget, jlen, jald, jast, jaast, jgI, jgL, jgB, jtab, jlku, jacp, vf20, vf21, vf22, vf23, vf24, u2_s, u2_k, u2_i, uc_s, uc_k, uc_c, u2_c, LI0, LI1, LI2, LI3, LI4, LI5, LI6, LI7, LI8, LI9, LI10, LI11, LI12, LI13, LI14, LI15, LI16, LI17, LI18, LI19, LI20, LI21, LI22, LI23, LI24, LI25, LI26, LI27, LI28, LI29, LI30, LI31, LI32, LI33, LI34, LI35, LI36, LI37, LI40, LI42, LI43, LI45, LI48, LI60, LI61, LI64, LI80, LI300, LI400, LI1000, LI2000, LI2001, LI2047, LI2048, LI100000, LI1000000, LI38, LI39, LI41, LI44, LI46, LI47, LI49, LI50, LI51, LI52, LI53, LI54, LI55, LI56, LI57, LI58, LI59, LI62, LI63, LI65, LI66, LI67, LI68, LI69, LI70, LI71, LI72, LI73, LI74, LI75, LI76, LI77, LI78, LI79, LI81, LI82, LI83, LI84, LI85, LI86, LI87, LI88, LI89, LI90, LI91, LI92, LI93, LI94, LI95, LI96, LI97, LI98, LI99, LI100, LI101, LI102, LI103, LI104, LI105, LI106, LI107, LI108, LI109, LI110, LI111, LI112, LI113, LI114, LI115, LI116, LI117, LI118, LI119, LI120, LI121, LI122, LI123, LI124, LI125, LI126, LI127, LI255, LI256, LI999, LI1001, LI1002, LI1600, LI4096, LI1000001, LI2042, LM, nI_clamp, nI_pos', nI_lt, nI_nlt, nI_le, nI_ge, nI_ne, nI_add, nI_sub, mI_lt, mI_le, mI_nlt, mI_nle, mI_ne, mI_ne', mI_nem, e171, R8, eT, v1]
    obtain ⟨J1, hJ1⟩ : ∃ J1, J1 = u2 J 299 0 v.toInt64 := ⟨_, rfl⟩
    have f1 : ∀ c i, c < 57 ∨ 130 < c → ¬ (c = P + 1 ∧ i = 2) → I1 c i = I c i := w2
    have hpl' : plR X (u2 I1 241 0 (nI 0)) N cap := ⟨fun c i h1 h2 h3 => by rw [u2_o _ _ (by omega), f1 _ _ (by omega) (by omega)]; exact b10.1 c i h1 h2 h3, b10.2⟩
    obtain ⟨I2, eR, w4, w5⟩ := r227 (A := A) (d := d + 1397) (b := b) (h := h) (X := X) (J := J1) (R := R) (n := n) (rN := rNf (rnm I) nn) (I := u2 I1 241 0 (nI 0)) hcap.2.2 (by rw [u2_o _ _ (by omega), f1 _ _ (by omega) (by omega)]; exact b11) hpl' (by rw [u2_o _ _ (by omega), f1 _ _ (by omega) (by omega)]; exact a3.2.1)
    have e176 := r176 (A := A) (d := d + 1399) (b := b) (h := h) (X := X) (I := I1) (J := J1) (R := R) (n := n) (k := 0) (by omega)
    have v2 : I2 241 36 = v := by rw [hv]; exact w4.1.2.1
    have e2 : jcall A jcode (d + 1401) 250 [.ref (b + 241)] (jH h b X I1 J1 R n) = some (.inl (some (.int v)), (jH h b X I2 J1 R n)) := by
      have i33 : I1 241 33 = nI 1 := (f1 _ _ (by omega) (by omega)).trans b2
      simp (disch := omega) [je250, r250_0, r250_1, r250_2, r250_5, r250_8, r250_9, r250_12, r250_13, r250_16, r250_19, r250_20, r250_21, r250_22, r250_25, r250_26, r250_29, g241, vf12_33, qa176, qo176, qa227, qo227, vf12_36, List.getElem?_cons_zero, List.getElem?_cons_succ, List.length_cons, List.length_nil, ag_nx, ag_dn, ag_no, ag_if, jbr1, jbr2, jc1, jc2, jnul, jld, jsto, jstoL, jst1, jst2, jkill, jinc, jbI, jbL, jbS, juI, jl2i, jcmp, jisR, jisI, jisL, jret, jretv, jfits, jdup, jdup2, jpop, jmm, jcat, Value.category, jinv, jrcv, jthr, jhd, jput, jget, jlen, jald, jast, jaast, jgI, jgL, jgB, jtab, jlku, jacp, vf20, vf21, vf22, vf23, vf24, u2_s, u2_k, u2_i, uc_s, uc_k, uc_c, u2_c, LI0, LI1, LI2, LI3, LI4, LI5, LI6, LI7, LI8, LI9, LI10, LI11, LI12, LI13, LI14, LI15, LI16, LI17, LI18, LI19, LI20, LI21, LI22, LI23, LI24, LI25, LI26, LI27, LI28, LI29, LI30, LI31, LI32, LI33, LI34, LI35, LI36, LI37, LI40, LI42, LI43, LI45, LI48, LI60, LI61, LI64, LI80, LI300, LI400, LI1000, LI2000, LI2001, LI2047, LI2048, LI100000, LI1000000, LI38, LI39, LI41, LI44, LI46, LI47, LI49, LI50, LI51, LI52, LI53, LI54, LI55, LI56, LI57, LI58, LI59, LI62, LI63, LI65, LI66, LI67, LI68, LI69, LI70, LI71, LI72, LI73, LI74, LI75, LI76, LI77, LI78, LI79, LI81, LI82, LI83, LI84, LI85, LI86, LI87, LI88, LI89, LI90, LI91, LI92, LI93, LI94, LI95, LI96, LI97, LI98, LI99, LI100, LI101, LI102, LI103, LI104, LI105, LI106, LI107, LI108, LI109, LI110, LI111, LI112, LI113, LI114, LI115, LI116, LI117, LI118, LI119, LI120, LI121, LI122, LI123, LI124, LI125, LI126, LI127, LI255, LI256, LI999, LI1001, LI1002, LI1600, LI4096, LI1000001, LI2042, LM, nI_clamp, nI_pos', nI_lt, nI_nlt, nI_le, nI_ge, nI_ne, nI_add, nI_sub, mI_lt, mI_le, mI_nlt, mI_nle, mI_ne, mI_ne', mI_nem, i33, e176, eR, v2]
    rw [hJ1] at e2
    have h0 : I2 241 0 = nI 0 := by rw [w5.2.1 0 (by omega)]; exact u2_s
    refine ⟨_, _, _, _, _, _, _, _, (lwD_3 hs0 hs hL hi hk).trans (lw3_0 hs0 hs hL hi e1 e2 h0 u2_s), ?_⟩
    have hall : ∀ c i, ¬ (57 ≤ c ∧ c ≤ 130) → ¬ (260 ≤ c ∧ c ≤ 281) → ¬ (c = 241 ∧ (i = 0 ∨ (36 ≤ i ∧ i ≤ 74))) → ¬ (c = P + 1 ∧ i = 2) → I2 c i = I c i := fun c i h1 h2 h3 h4 => by
      by_cases e : c = 241
      · subst e; rw [w5.2.1 i (by omega), u2_o _ _ (by omega), f1 _ _ (by omega) (by omega)]
      · rw [w5.1 c i (by omega), u2_o _ _ (by omega), f1 c i (by omega) h4]
    have w1' : wC (cNf (cnm I J (P + 1)) k) I2 R 57 (aBegin (rNf (rnm I) nn) N np) := wC_fr57 w1 (fun c i h1 h2 => by rw [w5.1 c i (by omega), u2_o _ _ (by omega)]) (fun _ => rfl)
    obtain ⟨k1, k2⟩ := ok_begin (rN := rNf (rnm I) nn) (D := 0) hcap.2.2
    have hJo : ∀ c i, c ≠ 299 → u2 J 299 0 v.toInt64 c i = J c i := u2_oJ
    have ec : cnm I2 (u2 J 299 0 v.toInt64) (P + 1) = cnm I J (P + 1) := funext fun x => by unfold cnm; rw [hall _ _ (by omega) (by omega) (by omega) (by omega), hJo _ _ (by omega)]
    have er : rnm I2 = rnm I := funext fun u => rnm_e (fun c i c1 c2 => hall c i (by omega) (by omega) (by omega) (by omega))
    have hPP := a6.1
    have hCC := a9.1
    obtain ⟨p1, p2, p3, p4, L', p5⟩ := a6
    refine ⟨T, nn, nb, M, P, P', k, C, C', zT_fr a1 (fun c i hc => hall c i (by omega) (by omega) (by omega) (by omega)), zO_fr a2 (fun c i hc => hall c i (by omega) (by omega) (by omega) (by omega)), zF_fr a3 (by rw [w5.2.2, u2_o _ _ (by omega), f1 _ _ (by omega) (by omega)]) (fun i => hJo _ _ (by omega)) a3.2.2, zN_fr a4 (fun c i hc => hall c i (by omega) (by omega) (by omega) (by omega)) (fun _ _ _ => rfl), zM_fr a5 (hall _ _ (by omega) (by omega) (by omega) (by omega)) (fun _ _ _ => rfl), ⟨p1, p2, p3, ⟨?_, by have := p4.2.1; omega, fun x y hx hy => ?_⟩, L', cNm_fr p5 (hall _ _ (by omega) (by omega) (by omega) (by omega)) (fun i => hall _ _ (by omega) (by omega) (by omega) (by omega)) (fun i => hJo _ _ (by omega))⟩, ⟨a70, Or.inr ⟨k, np, Lc, cap, 0, 0, N, O, G, E, aBegin (rNf (rnm I) nn) N np, ?_⟩⟩, zK_fr a8 (fun c i hc => hall c i (by omega) (by omega) (by omega) (by omega)) rfl, zC_fr a9 (fun c i hc => hall c i (by omega) (by omega) (by omega) (by omega)) (fun i => hJo _ _ (by omega)) (fun _ _ => rfl) (Nat.le_refl _) (fun u _ => by rw [er]), zR_fr a10 (Nat.le_succ _) rfl (Nat.le_add_right _ _)⟩
    · rw [w5.1 _ _ (by omega), u2_o _ _ (by omega)]; exact w3
    · rw [ec]; exact p4.2.2 x y (by omega) (by omega)
    · unfold zY
      rw [ec, er]
      refine ⟨(hall _ _ (by omega) (by omega) (by omega) (by omega)).trans b1, (hall _ _ (by omega) (by omega) (by omega) (by omega)).trans b2, b3, Nat.le_refl _, by have := b6.1; omega, ⟨b6.1, vnm_fr b6.2 (fun c i hc => hall c i (by omega) (by omega) (by omega) (by omega))⟩, (hall _ _ (by omega) (by omega) (by omega) (by omega)).trans b7, ?_, b9, ⟨fun c i h1 h2 h3 => (hall c i (by omega) (by omega) (by omega) (by omega)).trans (b10.1 c i h1 h2 h3), b10.2⟩, (hall _ _ (by omega) (by omega) (by omega) (by omega)).trans b11, w1', w4, k1, ⟨k2, qq_begin⟩, by omega, by omega⟩
      exact plC_fr' hP (fun c i h1 h2 h3 => hall c i (by omega) (by omega) (by omega) (by omega)) b8
end ZSV
