/-! steps: fits -/
section ZTJ
variable {A : Nat → Nat} {d b n s0 Ls i c : Nat} {h : Nat → Option jC} {X : jXX} {I : Nat → Nat → Int32} {J : Nat → Nat → Int64} {R : Nat → Nat → Nat} {xs : Nat → Int32}
theorem cr_inr {D D' : Nat → Int64 × Int32} {k L : Nat} {x z : Int32} {w : Bool × Int32} (h1 : cNf D k x = .inr w) (h2 : rNf D' L z = .inr w) : x = mI 1 ∧ z = mI 1 := by
  unfold cNf at h1
  unfold rNf at h2
  by_cases hx : x = mI 1
  · rw [if_pos hx] at h1
    have hw : w = (false, mI 1) := (Sum.inr.inj h1).symm
    refine ⟨hx, ?_⟩
    by_cases hz : z = mI 1
    · exact hz
    · rw [if_neg hz] at h2
      split at h2
      · cases h2
      · rw [hw] at h2
        exact congrArg Prod.snd (Sum.inr.inj h2)
  · rw [if_neg hx] at h1
    split at h1
    · cases h1
    · have hw : w = (true, x) := (Sum.inr.inj h1).symm
      rw [hw] at h2
      split at h2
      · have := congrArg Prod.fst (Sum.inr.inj h2); cases this
      · split at h2
        · cases h2
        · have := congrArg Prod.fst (Sum.inr.inj h2); cases this
theorem st_16 (hs0 : s0 < b) (hs_ : h s0 = some (25, Ls, fun j => .int (xs j))) (hL : Ls ≤ 3072) (hi : i + 6 ≤ Ls) (hc : c < 600) (hR : Rel c X I J R n) (hk : xs i &&& 31 = nI 16) : stp A d b s0 i h c X I J R n := by
  intro x5 x6 x7
  have hR' := hR
  obtain ⟨T, nn, nb, M, P, P', L, C, C', a1, a2, a3, a4, a5, a6, ⟨a70, a7⟩, a8, a9, a10⟩ := hR'
  have hw := isW_57
  have hq : isI 66 := by unfold isI; simp
  have hC : isC C := zC_C a9
  have R11 := a9.2.1
  obtain ⟨hP, hP', hj⟩ := lkS_ok a6
  have hPe := isP_e hP
  have hCe := isC_ee hC
  have R8 := a6.2.1
  rcases a7 with ⟨s1, s2, s3, s4, s5⟩ | ⟨k, np, Lc, cap, B, D, N, O, G, E, W, a7⟩
  · have e171 := c171n (A := A) (d := d + 1398) (b := b) (h := h) (X := X) (J := J) (R := R) (n := n) s1
    have e1 : jcall A jcode (d + 1400) 164 [.ref b] (jH h b X I J R n) = some (.inr 43, (jH h b (xad X (jE 43)) I J R (n + 6))) := by
      simp (disch := omega) [je164, r164_0, r164_1, r164_4, r164_5, r164_8, r164_9, r164_12, r164_13, r164_16, r164_19, r164_20, r164_23, r164_26, qa171, qo171, g0z, qa172, qo172, vf10_11, t0_11, vf10_6, t0_6, gW0 hw, vf9_1, tW0_1 hw, vf10_8, t0_8, qa9, qo9, gC0 hC, List.getElem?_cons_zero, List.getElem?_cons_succ, List.length_cons, List.length_nil, ag_nx, ag_dn, ag_no, ag_if, jbr1, jbr2, jc1, jc2, jnul, jld, jsto, jstoL, jst1, jst2, jkill, jinc, jbI, jbL, jbS, juI, jl2i, jcmp, jisR, jisI, jisL, jret, jretv, jfits, jdup, jdup2, jpop, jmm, jcat, Value.category, jinv, jrcv, jthr, jhd, jput, jget, jlen, jald, jast, jaast, jgI, jgL, jgB, jtab, jlku, jacp, vf20, vf21, vf22, vf23, vf24, u2_s, u2_k, u2_i, uc_s, uc_k, uc_c, u2_c, LI0, LI1, LI2, LI3, LI4, LI5, LI6, LI7, LI8, LI9, LI10, LI11, LI12, LI13, LI14, LI15, LI16, LI17, LI18, LI19, LI20, LI21, LI22, LI23, LI24, LI25, LI26, LI27, LI28, LI29, LI30, LI31, LI32, LI33, LI34, LI35, LI36, LI37, LI40, LI42, LI43, LI45, LI48, LI60, LI61, LI64, LI80, LI300, LI400, LI1000, LI2000, LI2001, LI2047, LI2048, LI100000, LI1000000, LI38, LI39, LI41, LI44, LI46, LI47, LI49, LI50, LI51, LI52, LI53, LI54, LI55, LI56, LI57, LI58, LI59, LI62, LI63, LI65, LI66, LI67, LI68, LI69, LI70, LI71, LI72, LI73, LI74, LI75, LI76, LI77, LI78, LI79, LI81, LI82, LI83, LI84, LI85, LI86, LI87, LI88, LI89, LI90, LI91, LI92, LI93, LI94, LI95, LI96, LI97, LI98, LI99, LI100, LI101, LI102, LI103, LI104, LI105, LI106, LI107, LI108, LI109, LI110, LI111, LI112, LI113, LI114, LI115, LI116, LI117, LI118, LI119, LI120, LI121, LI122, LI123, LI124, LI125, LI126, LI127, LI255, LI256, LI999, LI1001, LI1002, LI1600, LI4096, LI1000001, LI2042, LM, nI_clamp, nI_pos', nI_lt, nI_nlt, nI_le, nI_ge, nI_ne, nI_add, nI_sub, mI_lt, mI_le, mI_nlt, mI_nle, mI_ne, mI_ne', mI_nem, e171]
    have e176 := r176 (A := A) (d := d + 1399) (b := b) (h := h) (X := xad X (jE 43)) (I := I) (J := J) (R := R) (n := n + 6) (k := 1) (by omega)
    have e2 : jcall A jcode (d + 1401) 285 [.ref (b + 241)] (jH h b (xad X (jE 43)) I J R (n + 6)) = some (.inl (some (.int (nI 0))), (jH h b (xad X (jE 43)) (u2 I 241 0 (nI 1)) J R (n + 6))) := by
      simp (disch := omega) [je285, r285_0, r285_1, r285_2, r285_5, r285_8, r285_9, r285_12, r285_15, r285_16, r285_19, r285_20, r285_23, r285_26, r285_27, r285_28, r285_29, r285_32, r285_35, r285_36, r285_37, r285_38, r285_39, r285_40, r285_41, r285_44, r285_45, r285_48, r285_49, r285_52, r285_53, r285_54, r285_55, r285_58, r285_61, r285_62, r285_63, r285_64, r285_65, r285_68, r285_71, r285_72, r285_75, r285_76, r285_77, r285_78, r285_81, r285_82, r285_85, r285_86, r285_87, r285_90, r285_91, r285_94, r285_95, r285_96, r285_98, r285_101, r285_104, r285_105, r285_106, r285_109, r285_112, r285_113, r285_114, r285_117, r285_120, r285_121, r285_122, r285_123, r285_124, r285_125, r285_128, r285_129, r285_132, r285_133, r285_136, r285_137, r285_138, r285_141, r285_142, r285_143, r285_146, r285_149, r285_150, g241, vf12_33, vf12_83, qa176, qo176, vf12_65, vf12_98, t241_98, g296, p296, vf12_64, vf12_57, t241_57, g275, p275, vf12_63, t241_63, g281, p281, vf12_62, t241_62, g280, p280, qa284, qo284, vf12_84, List.getElem?_cons_zero, List.getElem?_cons_succ, List.length_cons, List.length_nil, ag_nx, ag_dn, ag_no, ag_if, jbr1, jbr2, jc1, jc2, jnul, jld, jsto, jstoL, jst1, jst2, jkill, jinc, jbI, jbL, jbS, juI, jl2i, jcmp, jisR, jisI, jisL, jret, jretv, jfits, jdup, jdup2, jpop, jmm, jcat, Value.category, jinv, jrcv, jthr, jhd, jput, jget, jlen, jald, jast, jaast, jgI, jgL, jgB, jtab, jlku, jacp, vf20, vf21, vf22, vf23, vf24, u2_s, u2_k, u2_i, uc_s, uc_k, uc_c, u2_c, LI0, LI1, LI2, LI3, LI4, LI5, LI6, LI7, LI8, LI9, LI10, LI11, LI12, LI13, LI14, LI15, LI16, LI17, LI18, LI19, LI20, LI21, LI22, LI23, LI24, LI25, LI26, LI27, LI28, LI29, LI30, LI31, LI32, LI33, LI34, LI35, LI36, LI37, LI40, LI42, LI43, LI45, LI48, LI60, LI61, LI64, LI80, LI300, LI400, LI1000, LI2000, LI2001, LI2047, LI2048, LI100000, LI1000000, LI38, LI39, LI41, LI44, LI46, LI47, LI49, LI50, LI51, LI52, LI53, LI54, LI55, LI56, LI57, LI58, LI59, LI62, LI63, LI65, LI66, LI67, LI68, LI69, LI70, LI71, LI72, LI73, LI74, LI75, LI76, LI77, LI78, LI79, LI81, LI82, LI83, LI84, LI85, LI86, LI87, LI88, LI89, LI90, LI91, LI92, LI93, LI94, LI95, LI96, LI97, LI98, LI99, LI100, LI101, LI102, LI103, LI104, LI105, LI106, LI107, LI108, LI109, LI110, LI111, LI112, LI113, LI114, LI115, LI116, LI117, LI118, LI119, LI120, LI121, LI122, LI123, LI124, LI125, LI126, LI127, LI255, LI256, LI999, LI1001, LI1002, LI1600, LI4096, LI1000001, LI2042, LM, nI_clamp, nI_pos', nI_lt, nI_nlt, nI_le, nI_ge, nI_ne, nI_add, nI_sub, mI_lt, mI_le, mI_nlt, mI_nle, mI_ne, mI_ne', mI_nem, s2, e176]
    exact ⟨_, _, _, _, _, _, _, _, (lwD_16 hs0 hs_ hL hi hk).trans (lw16_1 hs0 hs_ hL hi e1 e2 u2_s), Rel_ex hR⟩
  have hcap := zY_cap a5 a7
  have a7' := a7
  obtain ⟨b1, b2, b3, b4, b5, b6, b7, b8, b9, b10, b11, b12, b13, b14, b15, b16, b17⟩ := a7'
  have e171 := c171y (A := A) (d := d + 1398) (b := b) (h := h) (X := X) (J := J) (R := R) (n := n) b1
  rcases a9.2.2.2.2 with ⟨u1, u2', u3, u4⟩ | ⟨u1, u2', u3⟩
  · have e172 := c172n (A := A) (d := d + 1398) (b := b) (h := h) (X := X) (J := J) (R := R) (n := n) u1
    have e1 : jcall A jcode (d + 1400) 164 [.ref b] (jH h b X I J R n) = some (.inr 43, (jH h b (xad X (jE 43)) I J R (n + 6))) := by
      simp (disch := omega) [je164, r164_0, r164_1, r164_4, r164_5, r164_8, r164_9, r164_12, r164_13, r164_16, r164_19, r164_20, r164_23, r164_26, qa171, qo171, g0z, qa172, qo172, vf10_11, t0_11, vf10_6, t0_6, gW0 hw, vf9_1, tW0_1 hw, vf10_8, t0_8, qa9, qo9, gC0 hC, List.getElem?_cons_zero, List.getElem?_cons_succ, List.length_cons, List.length_nil, ag_nx, ag_dn, ag_no, ag_if, jbr1, jbr2, jc1, jc2, jnul, jld, jsto, jstoL, jst1, jst2, jkill, jinc, jbI, jbL, jbS, juI, jl2i, jcmp, jisR, jisI, jisL, jret, jretv, jfits, jdup, jdup2, jpop, jmm, jcat, Value.category, jinv, jrcv, jthr, jhd, jput, jget, jlen, jald, jast, jaast, jgI, jgL, jgB, jtab, jlku, jacp, vf20, vf21, vf22, vf23, vf24, u2_s, u2_k, u2_i, uc_s, uc_k, uc_c, u2_c, LI0, LI1, LI2, LI3, LI4, LI5, LI6, LI7, LI8, LI9, LI10, LI11, LI12, LI13, LI14, LI15, LI16, LI17, LI18, LI19, LI20, LI21, LI22, LI23, LI24, LI25, LI26, LI27, LI28, LI29, LI30, LI31, LI32, LI33, LI34, LI35, LI36, LI37, LI40, LI42, LI43, LI45, LI48, LI60, LI61, LI64, LI80, LI300, LI400, LI1000, LI2000, LI2001, LI2047, LI2048, LI100000, LI1000000, LI38, LI39, LI41, LI44, LI46, LI47, LI49, LI50, LI51, LI52, LI53, LI54, LI55, LI56, LI57, LI58, LI59, LI62, LI63, LI65, LI66, LI67, LI68, LI69, LI70, LI71, LI72, LI73, LI74, LI75, LI76, LI77, LI78, LI79, LI81, LI82, LI83, LI84, LI85, LI86, LI87, LI88, LI89, LI90, LI91, LI92, LI93, LI94, LI95, LI96, LI97, LI98, LI99, LI100, LI101, LI102, LI103, LI104, LI105, LI106, LI107, LI108, LI109, LI110, LI111, LI112, LI113, LI114, LI115, LI116, LI117, LI118, LI119, LI120, LI121, LI122, LI123, LI124, LI125, LI126, LI127, LI255, LI256, LI999, LI1001, LI1002, LI1600, LI4096, LI1000001, LI2042, LM, nI_clamp, nI_pos', nI_lt, nI_nlt, nI_le, nI_ge, nI_ne, nI_add, nI_sub, mI_lt, mI_le, mI_nlt, mI_nle, mI_ne, mI_ne', mI_nem, e171, e172]
    have e176 := r176 (A := A) (d := d + 1399) (b := b) (h := h) (X := xad X (jE 43)) (I := I) (J := J) (R := R) (n := n + 6) (k := 1) (by omega)
    have e2 : jcall A jcode (d + 1401) 285 [.ref (b + 241)] (jH h b (xad X (jE 43)) I J R (n + 6)) = some (.inl (some (.int (nI 0))), (jH h b (xad X (jE 43)) (u2 I 241 0 (nI 1)) J R (n + 6))) := by
      simp (disch := omega) [je285, r285_0, r285_1, r285_2, r285_5, r285_8, r285_9, r285_12, r285_15, r285_16, r285_19, r285_20, r285_23, r285_26, r285_27, r285_28, r285_29, r285_32, r285_35, r285_36, r285_37, r285_38, r285_39, r285_40, r285_41, r285_44, r285_45, r285_48, r285_49, r285_52, r285_53, r285_54, r285_55, r285_58, r285_61, r285_62, r285_63, r285_64, r285_65, r285_68, r285_71, r285_72, r285_75, r285_76, r285_77, r285_78, r285_81, r285_82, r285_85, r285_86, r285_87, r285_90, r285_91, r285_94, r285_95, r285_96, r285_98, r285_101, r285_104, r285_105, r285_106, r285_109, r285_112, r285_113, r285_114, r285_117, r285_120, r285_121, r285_122, r285_123, r285_124, r285_125, r285_128, r285_129, r285_132, r285_133, r285_136, r285_137, r285_138, r285_141, r285_142, r285_143, r285_146, r285_149, r285_150, g241, vf12_33, vf12_83, qa176, qo176, vf12_65, vf12_98, t241_98, g296, p296, vf12_64, vf12_57, t241_57, g275, p275, vf12_63, t241_63, g281, p281, vf12_62, t241_62, g280, p280, qa284, qo284, vf12_84, List.getElem?_cons_zero, List.getElem?_cons_succ, List.length_cons, List.length_nil, ag_nx, ag_dn, ag_no, ag_if, jbr1, jbr2, jc1, jc2, jnul, jld, jsto, jstoL, jst1, jst2, jkill, jinc, jbI, jbL, jbS, juI, jl2i, jcmp, jisR, jisI, jisL, jret, jretv, jfits, jdup, jdup2, jpop, jmm, jcat, Value.category, jinv, jrcv, jthr, jhd, jput, jget, jlen, jald, jast, jaast, jgI, jgL, jgB, jtab, jlku, jacp, vf20, vf21, vf22, vf23, vf24, u2_s, u2_k, u2_i, uc_s, uc_k, uc_c, u2_c, LI0, LI1, LI2, LI3, LI4, LI5, LI6, LI7, LI8, LI9, LI10, LI11, LI12, LI13, LI14, LI15, LI16, LI17, LI18, LI19, LI20, LI21, LI22, LI23, LI24, LI25, LI26, LI27, LI28, LI29, LI30, LI31, LI32, LI33, LI34, LI35, LI36, LI37, LI40, LI42, LI43, LI45, LI48, LI60, LI61, LI64, LI80, LI300, LI400, LI1000, LI2000, LI2001, LI2047, LI2048, LI100000, LI1000000, LI38, LI39, LI41, LI44, LI46, LI47, LI49, LI50, LI51, LI52, LI53, LI54, LI55, LI56, LI57, LI58, LI59, LI62, LI63, LI65, LI66, LI67, LI68, LI69, LI70, LI71, LI72, LI73, LI74, LI75, LI76, LI77, LI78, LI79, LI81, LI82, LI83, LI84, LI85, LI86, LI87, LI88, LI89, LI90, LI91, LI92, LI93, LI94, LI95, LI96, LI97, LI98, LI99, LI100, LI101, LI102, LI103, LI104, LI105, LI106, LI107, LI108, LI109, LI110, LI111, LI112, LI113, LI114, LI115, LI116, LI117, LI118, LI119, LI120, LI121, LI122, LI123, LI124, LI125, LI126, LI127, LI255, LI256, LI999, LI1001, LI1002, LI1600, LI4096, LI1000001, LI2042, LM, nI_clamp, nI_pos', nI_lt, nI_nlt, nI_le, nI_ge, nI_ne, nI_add, nI_sub, mI_lt, mI_le, mI_nlt, mI_nle, mI_ne, mI_ne', mI_nem, b2, u2', e176]
    exact ⟨_, _, _, _, _, _, _, _, (lwD_16 hs0 hs_ hL hi hk).trans (lw16_1 hs0 hs_ hL hi e1 e2 u2_s), Rel_ex hR⟩
  have e172 := c172y (A := A) (d := d + 1398) (b := b) (h := h) (X := X) (J := J) (R := R) (n := n) u1
  obtain ⟨ms, ls, rs, Lh, y1, y2, y3, y4, y5, y6, d1, d2, d3, d4, d5, d6, d7, d8, d9⟩ := u3
  have hs : hC_ I J C (ms, ls) Lh := ⟨y4, d1, d2, y2, y1, y6, fun i m hm => (by obtain ⟨q1, q2, q3, q4, q5, q6, q7, q8⟩ := d7 i m hm; exact ⟨q1, q2, q3, q4, q7⟩), fun i l hl => (d8 i l hl).1⟩
  have hst : rHst I nn (ms, ls) := ⟨d4, d5, y2, y1, y6, fun i m hm => (by obtain ⟨q1, q2, q3, q4, q5, q6, q7, q8⟩ := d7 i m hm; exact ⟨q1, q2, q5, q6, q8⟩), fun i l hl => (d8 i l hl).2⟩
  obtain ⟨nf, hnf⟩ : ∃ nf : Nat → Nm, nf = fun p => rNf (rnm I) nn (N 252 (pnd N p)) := ⟨_, rfl⟩
  have hLL : L < 2 ^ 20 := by omega
  have hnn : nn ≤ 2 ^ 20 := by obtain ⟨_, _, x3, _, _, _, _, _, x9, _⟩ := a4.1; have := a4.2.2; omega
  have hinj : ∀ w w', w < nn → w' < nn → rnm I w = rnm I w' → w = w' := a4.1.2.2.2.2.2.2.2.2.2.2.2.2.1
  have hpl := b8.2.2.2
  have hpF : pF I J P L np nf := by
    refine ⟨a6.2.2.2.1, b9.1, fun p hp => ?_⟩
    have e3 := (hpl p hp).2.2.1
    refine ⟨fun y hy => ?_, fun z hz => ?_⟩
    · rw [hnf] at hy
      rw [show rNf (rnm I) nn (N 252 (pnd N p)) = .inl y from hy] at e3
      obtain ⟨q1, q2, q3⟩ := cNf_l e3
      exact ⟨_, by omega, q2, q3⟩
    · rw [hnf] at hz
      have hz' : rNf (rnm I) nn (N 252 (pnd N p)) = .inr z := hz
      rw [hz'] at e3
      exact (cr_inr e3 hz').1
  have hrP : rPn X I nn np nf := by
    refine ⟨b9.1, fun p hp => ?_⟩
    have e3 := (hpl p hp).2.2.1
    have vp := hcap.2.2.2.2.2 p hp
    have i9 : I 259 p = nI (pnd N p) := (b10.1 259 p (by omega) (by omega) (by omega)).trans vp.2.1
    have i2 : I 252 (pnd N p) = N 252 (pnd N p) := b10.1 252 _ (by omega) (by omega) (by omega)
    refine ⟨pnd N p, i9, by rw [b10.2.1 252 (by omega) (by omega)]; exact vp.1, by have := vp.1; omega, fun y hy => ?_, fun z hz => ?_⟩
    · rw [hnf] at hy
      rw [i2]
      obtain ⟨q1, q2, q3⟩ := rNf_l (show rNf (rnm I) nn (N 252 (pnd N p)) = .inl y from hy)
      exact ⟨_, q1, q2, q3⟩
    · rw [hnf] at hz
      have hz' : rNf (rnm I) nn (N 252 (pnd N p)) = .inr z := hz
      rw [hz'] at e3
      rw [i2]
      exact (cr_inr e3 hz').2
  obtain ⟨_, _, tl, _⟩ := b12.2
  obtain ⟨_, _, _, t4, t6, tT, t7⟩ := tl rfl
  obtain ⟨I1, e9, f1⟩ := c9 (A := A) (d := d + 1394) (b := b) (h := h) (X := X) (J := J) (R := R) (n := n) (s := (ms, ls)) (nf := nf) (T := W.2.2.1) hC hP hs y5 hLL hpF t4 b15.2.2 t6 t7 tT
  obtain ⟨v, hv⟩ : ∃ v, v = (if ftF ms ls (lbP nf) W.2.2.1 = true then nI 1 else nI 0) := ⟨_, rfl⟩
  replace e9 : jcall A jcode (d + 1399) 9 [.ref (b + C), .ref (b + 58), .ref (b + P)] (jH h b X I J R n) = some (.inl (some (.int v)), (jH h b X I1 J R n)) := by rw [hv]; exact e9
  have v01 : v = nI 0 ∨ v = nI 1 := by rw [hv]; split; exact Or.inr rfl; exact Or.inl rfl
  have hN := isP_N hP
  have e1 : jcall A jcode (d + 1400) 164 [.ref b] (jH h b X I J R n) = some (.inl (some (.int v)), (jH h b X I1 J R n)) := by
    rcases v01 with hv0 | hv0 <;> (rw [hv0] at e9 ⊢; simp (disch := omega) [je164, r164_0, r164_1, r164_4, r164_5, r164_8, r164_9, r164_12, r164_13, r164_16, r164_19, r164_20, r164_23, r164_26, qa171, qo171, g0z, qa172, qo172, vf10_11, t0_11, vf10_6, t0_6, gW0 hw, vf9_1, tW0_1 hw, vf10_8, t0_8, qa9, qo9, gC0 hC, List.getElem?_cons_zero, List.getElem?_cons_succ, List.length_cons, List.length_nil, ag_nx, ag_dn, ag_no, ag_if, jbr1, jbr2, jc1, jc2, jnul, jld, jsto, jstoL, jst1, jst2, jkill, jinc, jbI, jbL, jbS, juI, jl2i, jcmp, jisR, jisI, jisL, jret, jretv, jfits, jdup, jdup2, jpop, jmm, jcat, Value.category, jinv, jrcv, jthr, jhd, jput, jget, jlen, jald, jast, jaast, jgI, jgL, jgB, jtab, jlku, jacp, vf20, vf21, vf22, vf23, vf24, u2_s, u2_k, u2_i, uc_s, uc_k, uc_c, u2_c, LI0, LI1, LI2, LI3, LI4, LI5, LI6, LI7, LI8, LI9, LI10, LI11, LI12, LI13, LI14, LI15, LI16, LI17, LI18, LI19, LI20, LI21, LI22, LI23, LI24, LI25, LI26, LI27, LI28, LI29, LI30, LI31, LI32, LI33, LI34, LI35, LI36, LI37, LI40, LI42, LI43, LI45, LI48, LI60, LI61, LI64, LI80, LI300, LI400, LI1000, LI2000, LI2001, LI2047, LI2048, LI100000, LI1000000, LI38, LI39, LI41, LI44, LI46, LI47, LI49, LI50, LI51, LI52, LI53, LI54, LI55, LI56, LI57, LI58, LI59, LI62, LI63, LI65, LI66, LI67, LI68, LI69, LI70, LI71, LI72, LI73, LI74, LI75, LI76, LI77, LI78, LI79, LI81, LI82, LI83, LI84, LI85, LI86, LI87, LI88, LI89, LI90, LI91, LI92, LI93, LI94, LI95, LI96, LI97, LI98, LI99, LI100, LI101, LI102, LI103, LI104, LI105, LI106, LI107, LI108, LI109, LI110, LI111, LI112, LI113, LI114, LI115, LI116, LI117, LI118, LI119, LI120, LI121, LI122, LI123, LI124, LI125, LI126, LI127, LI255, LI256, LI999, LI1001, LI1002, LI1600, LI4096, LI1000001, LI2042, LM, nI_clamp, nI_pos', nI_lt, nI_nlt, nI_le, nI_ge, nI_ne, nI_add, nI_sub, mI_lt, mI_le, mI_nlt, mI_nle, mI_ne, mI_ne', mI_nem, e171, e172, R11, R8, e9])
  obtain ⟨J1, hJ1⟩ : ∃ J1, J1 = u2 J 299 0 (if v = nI 0 then 0 else 1) := ⟨_, rfl⟩
  obtain ⟨I2, hI2⟩ : ∃ I2, I2 = u2 I1 241 0 (nI 0) := ⟨_, rfl⟩
  have f2 : ∀ c i, c ≠ C + 10 → ¬ (c = 241 ∧ i = 0) → I2 c i = I c i := fun c i h1 h2 => by rw [hI2, u2_o _ _ h2, f1 c i h1]
  have er2 : rnm I2 = rnm I := funext fun u => rnm_e (fun c i c1 c2 => f2 c i (by omega) (by omega))
  have hst2 : rHst I2 nn (ms, ls) := by
    obtain ⟨q1, q2, q3, q4, q5, q6, q7⟩ := hst
    refine ⟨(f2 _ _ (by omega) (by omega)).trans q1, (f2 _ _ (by omega) (by omega)).trans q2, q3, q4, q5, fun i x hx => ?_, fun i l hl => ?_⟩
    · rw [f2 287 _ (by omega) (by omega), f2 288 _ (by omega) (by omega), f2 289 _ (by omega) (by omega)]
      obtain ⟨w1, w2, w3, w4, w5⟩ := q6 i x hx
      exact ⟨w1, w2, w3, w4, rLn_mo (Nat.le_refl _) (fun u _ => by rw [er2]) w5⟩
    · rw [f2 293 _ (by omega) (by omega)]
      exact rLn_mo (Nat.le_refl _) (fun u _ => by rw [er2]) (q7 i l hl)
  have hrP2 : rPn X I2 nn np nf := by
    refine ⟨hrP.1, fun p hp1 => ?_⟩
    obtain ⟨q, q1, q2, q3, q4, q5⟩ := hrP.2 p hp1
    refine ⟨q, (f2 _ _ (by omega) (by omega)).trans q1, q2, q3, fun y hy => ?_, fun z hz => (f2 _ _ (by omega) (by omega)).trans (q5 z hz)⟩
    rw [f2 252 _ (by omega) (by omega)]
    exact rLn_mo (Nat.le_refl _) (fun u _ => by rw [er2]) (q4 y hy)
  have b13' := wR_fr (I' := I2) b13 (fun c i hc => f2 c i (by omega) (by omega))
  obtain ⟨_, _, tl2, _⟩ := b13'.2
  obtain ⟨_, _, _, _, r4, r6, rT, r7⟩ := tl2 rfl
  obtain ⟨I3, e285, f3⟩ := r285 (A := A) (d := d + 1397) (b := b) (h := h) (X := X) (J := J1) (R := R) (n := n) (I := I2) (s := (ms, ls)) (nf := nf) (T := W.2.2.1) hnn (by rw [er2]; exact hinj) hst2 hrP2 r4 b15.2.2 r6 r7 (by rw [er2]; exact rT)
  replace e285 : M285 A (d + 1400) 28 [some (.ref (b + 241)), none] [] (jH h b X I2 J1 R n) = some (.inl (some (.int v)), (jH h b X I3 J1 R n)) := by rw [hv]; exact e285
  have e176 := r176 (A := A) (d := d + 1399) (b := b) (h := h) (X := X) (I := I1) (J := J1) (R := R) (n := n) (k := 0) (by omega)
  have e2 : jcall A jcode (d + 1401) 285 [.ref (b + 241)] (jH h b X I1 J1 R n) = some (.inl (some (.int v)), (jH h b X I3 J1 R n)) := by
    have i33 : I1 241 33 = nI 1 := (f1 _ _ (by omega)).trans b2
    have i83 : I1 241 83 = nI 1 := (f1 _ _ (by omega)).trans u2'
    rw [← e285, hI2]
    simp (disch := omega) [je285, r285_0, r285_1, r285_2, r285_5, r285_8, r285_9, r285_12, r285_15, r285_16, r285_19, r285_20, r285_23, g241, vf12_33, vf12_83, qa176, qo176, vf12_65, vf12_98, t241_98, g296, p296, vf12_64, vf12_57, t241_57, g275, p275, vf12_63, t241_63, g281, p281, vf12_62, t241_62, g280, p280, qa284, qo284, vf12_84, List.getElem?_cons_zero, List.getElem?_cons_succ, List.length_cons, List.length_nil, ag_nx, ag_dn, ag_no, ag_if, jbr1, jbr2, jc1, jc2, jnul, jld, jsto, jstoL, jst1, jst2, jkill, jinc, jbI, jbL, jbS, juI, jl2i, jcmp, jisR, jisI, jisL, jret, jretv, jfits, jdup, jdup2, jpop, jmm, jcat, Value.category, jinv, jrcv, jthr, jhd, jput, jget, jlen, jald, jast, jaast, jgI, jgL, jgB, jtab, jlku, jacp, vf20, vf21, vf22, vf23, vf24, u2_s, u2_k, u2_i, uc_s, uc_k, uc_c, u2_c, LI0, LI1, LI2, LI3, LI4, LI5, LI6, LI7, LI8, LI9, LI10, LI11, LI12, LI13, LI14, LI15, LI16, LI17, LI18, LI19, LI20, LI21, LI22, LI23, LI24, LI25, LI26, LI27, LI28, LI29, LI30, LI31, LI32, LI33, LI34, LI35, LI36, LI37, LI40, LI42, LI43, LI45, LI48, LI60, LI61, LI64, LI80, LI300, LI400, LI1000, LI2000, LI2001, LI2047, LI2048, LI100000, LI1000000, LI38, LI39, LI41, LI44, LI46, LI47, LI49, LI50, LI51, LI52, LI53, LI54, LI55, LI56, LI57, LI58, LI59, LI62, LI63, LI65, LI66, LI67, LI68, LI69, LI70, LI71, LI72, LI73, LI74, LI75, LI76, LI77, LI78, LI79, LI81, LI82, LI83, LI84, LI85, LI86, LI87, LI88, LI89, LI90, LI91, LI92, LI93, LI94, LI95, LI96, LI97, LI98, LI99, LI100, LI101, LI102, LI103, LI104, LI105, LI106, LI107, LI108, LI109, LI110, LI111, LI112, LI113, LI114, LI115, LI116, LI117, LI118, LI119, LI120, LI121, LI122, LI123, LI124, LI125, LI126, LI127, LI255, LI256, LI999, LI1001, LI1002, LI1600, LI4096, LI1000001, LI2042, LM, nI_clamp, nI_pos', nI_lt, nI_nlt, nI_le, nI_ge, nI_ne, nI_add, nI_sub, mI_lt, mI_le, mI_nlt, mI_nle, mI_ne, mI_ne', mI_nem, i33, i83, e176]
  rw [hJ1] at e2
  have f4 : ∀ c i, c ≠ C + 10 → c ≠ 296 → ¬ (c = 241 ∧ i = 0) → I3 c i = I c i := fun c i h1 h2 h3 => by rw [f3 c i h2, f2 c i h1 h3]
  have h0 : I3 241 0 = nI 0 := by rw [f3 _ _ (by omega), hI2, u2_s]
  refine ⟨_, _, _, _, _, _, _, _, (lwD_16 hs0 hs_ hL hi hk).trans (lw16_0 hs0 hs_ hL hi e1 e2 h0 u2_s), ?_⟩
  have hPP := a6.1
  have hCC := a9.1
  have hJo : ∀ c i, c ≠ 299 → u2 J 299 0 (if v = nI 0 then 0 else 1) c i = J c i := u2_oJ
  exact ⟨T, nn, nb, M, P, P', L, C, C', zT_fr a1 (fun c i hc => f4 c i (by omega) (by omega) (by omega)), zO_fr a2 (fun c i hc => f4 c i (by omega) (by omega) (by omega)), zF_fr a3 (f4 _ _ (by omega) (by omega) (by omega)) (fun i => hJo _ _ (by omega)) a3.2.2, zN_fr a4 (fun c i hc => f4 c i (by omega) (by omega) (by omega)) (fun v _ _ => rfl), zM_fr a5 (f4 _ _ (by omega) (by omega) (by omega)) (fun v _ _ => rfl), zP_fr a6 (fun c i _ _ => f4 c i (by omega) (by omega) (by omega)) (fun c i _ _ => hJo _ _ (by omega)) (fun _ _ => rfl), zS_fr hPP ⟨a70, Or.inr ⟨k, np, Lc, cap, B, D, N, O, G, E, W, a7⟩⟩ (fun c i hc => f4 c i (by omega) (by omega) (by omega)) (fun i => hJo _ _ (by omega)) (fun _ => rfl) rfl (fun v _ _ => rfl), zK_fr a8 (fun c i hc => f4 c i (by omega) (by omega) (by omega)) rfl, zC_fr a9 (fun c i hc => f4 c i (by omega) (by omega) (by omega)) (fun i => hJo _ _ (by omega)) (fun _ _ => rfl) (Nat.le_refl _) (fun u _ => rnm_e (fun c i c1 c2 => f4 c i (by omega) (by omega) (by omega))), zR_fr a10 (by omega) rfl (by omega)⟩
end ZTJ
