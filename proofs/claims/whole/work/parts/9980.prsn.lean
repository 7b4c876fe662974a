/-! the reference reads send -/
section RSN
variable {A : Nat → Nat} {d b : Nat} {h : Nat → Option jC} {J : Nat → Nat → Int64} {R : Nat → Nat → Nat} {t : Nat → Int32} {N m B0 M0 : Nat} {g dp D pr : Nat}
/-- where it goes -/
def tgR (t : Nat → Int32) (N : Nat) (z : rZ) (s j op : Nat) : Prop := (op = 19 ∧ z.2.1 258 s = nI (tpos t N j) ∧ nmA t N z.2.1 z.2.2.2.1 (z.2.1 257 s) j) ∨ (z.2.1 258 s = mI 1 ∧ ((op = 14 ∧ z.2.1 254 s = nI 22) ∨ (op = 15 ∧ z.2.1 254 s = nI 18) ∨ (op = 16 ∧ z.2.1 254 s = nI 19) ∨ (op = 17 ∧ z.2.1 254 s = nI 20) ∨ (op = 18 ∧ z.2.1 254 s = nI 21)))
theorem r203t (hc : rCx A t N m B0 M0) {z0 z : rZ} {j s w sg : Nat} {ev fr : Int32} {l : List oT} (hq : rQ t N m B0 M0 j dp z) (hst : rSt z0 z) (hs0 : z0.2.2.2.2.2 ≤ s) (hs : s < z.2.2.2.2.2) (h8 : z.2.1 258 s = mI 1) : (∃ z' j', aT (KK t N) sg l j = (none, j') ∧ M203 A (d + D + 8) 39 [some (.ref (b + 241)), some (.int fr), some (.int (nI w)), some (.int ev), some (.int (nI s))] [] (HZ h b J R z) = some (.inr 11, HZ h b J R z') ∧ rF t N m B0 M0 j' z' ∧ rSt z0 z') ∨ ∃ z' j', aT (KK t N) sg l j = (some (l ++ [((top0 (KK t N j)).getD 0, .inr sg, .inr j, j)]), j') ∧ M203 A (d + D + 8) 39 [some (.ref (b + 241)), some (.int fr), some (.int (nI w)), some (.int ev), some (.int (nI s))] [] (HZ h b J R z) = some (.inl (some (.int (nI s))), HZ h b J R z') ∧ rQ t N m B0 M0 j' dp z' ∧ rSt z0 z' ∧ z'.2.2.2.2.2 = z.2.2.2.2.2 ∧ j + 2 ≤ j' ∧ (∀ c i, 251 ≤ c → c ≤ 258 → (i = s → c ≠ 254 ∧ c ≠ 257 ∧ c ≠ 258) → i < z.2.2.2.2.2 → z'.2.1 c i = z.2.1 c i) ∧ (∃ op, (top0 (KK t N j)).getD 0 = op ∧ tgR t N z' s j op) ∧ (z.2.2.2.1 ≤ z'.2.2.2.1 ∧ ∀ u, u < z.2.2.2.1 → rnm z'.2.1 u = rnm z.2.1 u) := by
  have hk := okK_lt (KK_e (t := t) (N := N) (j := j)).1
  have hT := rTk_k hq.2.1
  have s16 := hT.2.1
  have s18 := hT.1
  have hj := hq.2.2.2.2.1
  have hMm := hq.1.2.2.2.2.2.2.2
  have hcx := hc.2.2.2.2
  have hk1 := hc.2.2.1.1
  obtain ⟨cap, hc1, hc2, hc3, hc4⟩ := hq.1.2.2.2.2.2.2.1
  have h254 : s < cp z.1 254 := by rw [hc1 254 (by omega) (by omega)]; omega
  have h257 : s < cp z.1 257 := by rw [hc1 257 (by omega) (by omega)]; omega
  have h258 : s < cp z.1 258 := by rw [hc1 258 (by omega) (by omega)]; omega
  have hs31 : s < 2 ^ 31 := by omega
  by_cases hK26 : KK t N j = 26
  · have ho : top0 (KK t N j) = some 19 := by rw [hK26]; rfl
    rw [(kcd_1 _ hk).mpr hK26] at s16
    have hq1 : rQ t N m B0 M0 j dp (z.1, u2 z.2.1 258 s (nI (tpos t N j)), z.2.2) := rQ_n hq (by omega)
    rcases r192 (d := d + D) (A := A) (b := b) (h := h) (J := J) (R := R) hc hq1 with ⟨_, z2, w2, e2, q2, st2, n2, v1, v2, v3, f2, had⟩ | ⟨hn, _⟩
    · have had7 : ad z2.1 257 = ad z.1 257 := had 257 (by omega) (by omega)
      have n2' : z2.2.2.2.2.2 = z.2.2.2.2.2 := n2
      have hcp2 : s < cp z2.1 257 := by
        obtain ⟨cap2, x1, x2, _⟩ := q2.1.2.2.2.2.2.2.1
        rw [x1 257 (by omega) (by omega)]
        omega
      have q3 : rQ t N m B0 M0 (j + 1) dp (z2.1, u2 z2.2.1 257 s (nI w2), z2.2.2) := rQ_n q2 (by omega)
      have st3 : rSt z0 (z2.1, u2 z2.2.1 257 s (nI w2), z2.2.2) := rSt_n (rSt_trans (rSt_n hst (by omega) hs0) st2) (by omega) hs0
      have g2 : ∀ c i, 251 ≤ c → c ≤ 258 → ¬ (c = 258 ∧ i = s) → z2.2.1 c i = z.2.1 c i := fun c i c1 c2 c3 => by
        rw [f2 c i (by omega) (by omega)]
        show u2 z.2.1 258 s (nI (tpos t N j)) c i = _
        unfold u2
        rw [if_neg (by omega)]
      have g8 : z2.2.1 258 s = nI (tpos t N j) := by
        rw [f2 258 s (by omega) (by omega)]
        show u2 z.2.1 258 s (nI (tpos t N j)) 258 s = _
        exact u2_s
      have eA : M203 A (d + D + 8) 39 [some (.ref (b + 241)), some (.int fr), some (.int (nI w)), some (.int ev), some (.int (nI s))] [] (HZ h b J R z) = M203 A (d + D + 8) 144 [some (.ref (b + 241)), some (.int fr), some (.int (nI w)), some (.int ev), some (.int (nI s))] [] (HZ h b J R (z2.1, u2 z2.2.1 257 s (nI w2), z2.2.2)) := by
        have p7 : jset (jH h b z2.1 z2.2.1 J R z2.2.2.1) (b + ad z.1 257) (20, cp z2.1 257, updV (vf b 20 z2.1 z2.2.1 J R 257) s (.int (nI w2))) = jH h b z2.1 (u2 z2.2.1 257 s (nI w2)) J R z2.2.2.1 := by rw [← had7]; exact p257
        have g7 : (jH h b z2.1 z2.2.1 J R z2.2.2.1).1 (b + ad z.1 257) = some (20, cp z2.1 257, vf b 20 z2.1 z2.2.1 J R 257) := by rw [← had7]; exact g257
        simp (disch := omega) [r203_0, r203_1, r203_4, r203_5, r203_6, r203_7, r203_8, r203_10, r203_13, r203_16, r203_17, r203_20, r203_21, r203_22, r203_24, r203_27, r203_28, r203_30, r203_31, r203_32, r203_33, r203_34, r203_37, r203_40, r203_43, r203_44, r203_47, r203_48, r203_51, r203_53, r203_54, r203_57, r203_58, r203_59, r203_62, r203_64, r203_65, r203_68, r203_69, r203_72, r203_73, r203_75, r203_78, r203_81, r203_82, r203_84, r203_87, r203_90, r203_91, r203_93, r203_96, r203_99, r203_100, r203_102, r203_105, r203_108, r203_109, r203_111, r203_114, r203_117, r203_118, r203_121, r203_123, r203_124, r203_127, r203_128, r203_129, r203_132, r203_135, r203_136, r203_137, r203_140, r203_143, r203_145, r203_147, r203_150, r203_152, qa192, qo192, g241, qa186, qo186, qa200, qo200, qa191, qo191, qa193, qo193, vf12_16, vf12_28, t241_28, g258, p258, vf12_18, vf12_27, t241_27, g257, p257, qa187, qo187, vf12_24, t241_24, g254, p254, vf12_17, qa185, qo185, qa177, qo177, qa190, qo190, r203_39, List.getElem?_cons_zero, List.getElem?_cons_succ, List.length_cons, List.length_nil, ag_nx, ag_dn, ag_no, ag_if, jbr1, jbr2, jc1, jc2, jnul, jld, jsto, jstoL, jst1, jst2, jkill, jinc, jbI, jbL, jbS, juI, jl2i, jcmp, jisR, jisI, jisL, jret, jretv, jfits, jdup, jdup2, jpop, jmm, jcat, Value.category, jinv, jrcv, jthr, jhd, jput, jget, jlen, jald, jast, jaast, jgI, jgL, jgB, jtab, jlku, jacp, vf20, vf21, vf22, vf23, vf24, u2_s, u2_k, u2_i, uc_s, uc_k, uc_c, u2_c, LI0, LI1, LI2, LI3, LI4, LI5, LI6, LI7, LI8, LI9, LI10, LI11, LI12, LI13, LI14, LI15, LI16, LI17, LI18, LI19, LI20, LI21, LI22, LI23, LI24, LI25, LI26, LI27, LI28, LI29, LI30, LI31, LI32, LI33, LI34, LI35, LI36, LI37, LI40, LI42, LI43, LI45, LI48, LI60, LI61, LI64, LI80, LI300, LI400, LI1000, LI2000, LI2001, LI2047, LI2048, LI100000, LI1000000, LI38, LI39, LI41, LI44, LI46, LI47, LI49, LI50, LI51, LI52, LI53, LI54, LI55, LI56, LI57, LI58, LI59, LI62, LI63, LI65, LI66, LI67, LI68, LI69, LI70, LI71, LI72, LI73, LI74, LI75, LI76, LI77, LI78, LI79, LI81, LI82, LI83, LI84, LI85, LI86, LI87, LI88, LI89, LI90, LI91, LI92, LI93, LI94, LI95, LI96, LI97, LI98, LI99, LI100, LI101, LI102, LI103, LI104, LI105, LI106, LI107, LI108, LI109, LI110, LI111, LI112, LI113, LI114, LI115, LI116, LI117, LI118, LI119, LI120, LI121, LI122, LI123, LI124, LI125, LI126, LI127, LI255, LI256, LI999, LI1001, LI1002, LI1600, LI4096, LI1000001, LI2042, LM, nI_clamp, nI_pos', nI_lt, nI_nlt, nI_le, nI_ge, nI_ne, nI_add, nI_sub, mI_lt, mI_le, mI_nlt, mI_nle, mI_ne, mI_ne', mI_nem, s16, s18, h258, e2, g7, p7, hcp2]
      rw [eA]
      unfold aT
      rw [ho]
      unfold pN
      simp only
      rcases r190 (d := d + D) (A := A) (b := b) (h := h) (J := J) (R := R) (k0 := 59) hc q3 (by omega) (by omega) with ⟨hK2, z4, e4, q4, st4, n4, f4⟩ | ⟨hK2, z4, e4, F4, st4⟩
      · rw [if_pos hK2]
        rw [show wcd 59 = nI 59 by decide] at e4
        have n4' : z4.2.2.2.2.2 = z2.2.2.2.2.2 := n4
        have h4 : ∀ c i, 251 ≤ c → c ≤ 258 → z4.2.1 c i = u2 z2.2.1 257 s (nI w2) c i := fun c i c1 c2 => f4 c i (by omega) (by omega)
        refine Or.inr ⟨z4, j + 2, rfl, ?_, q4, rSt_trans st3 st4, by omega, by omega, fun c i c1 c2 c3 c4 => ?_, ⟨19, rfl, Or.inl ⟨rfl, ?_, ?_⟩⟩, ⟨Nat.le_trans st2.2.1 st4.2.1, fun u hu => ((st4.2.2.1 u (Nat.lt_of_lt_of_le hu st2.2.1)).trans (rnm_n (by omega))).trans ((st2.2.2.1 u hu).trans (rnm_n (by omega)))⟩⟩
        · rw [r203_144]
          simp (disch := omega) [r203_145, r203_147, r203_150, r203_152, qa190, qo190, g241, List.getElem?_cons_zero, List.getElem?_cons_succ, List.length_cons, List.length_nil, ag_nx, ag_dn, ag_no, ag_if, jbr1, jbr2, jc1, jc2, jnul, jld, jsto, jstoL, jst1, jst2, jkill, jinc, jbI, jbL, jbS, juI, jl2i, jcmp, jisR, jisI, jisL, jret, jretv, jfits, jdup, jdup2, jpop, jmm, jcat, Value.category, jinv, jrcv, jthr, jhd, jput, jget, jlen, jald, jast, jaast, jgI, jgL, jgB, jtab, jlku, jacp, vf20, vf21, vf22, vf23, vf24, u2_s, u2_k, u2_i, uc_s, uc_k, uc_c, u2_c, LI0, LI1, LI2, LI3, LI4, LI5, LI6, LI7, LI8, LI9, LI10, LI11, LI12, LI13, LI14, LI15, LI16, LI17, LI18, LI19, LI20, LI21, LI22, LI23, LI24, LI25, LI26, LI27, LI28, LI29, LI30, LI31, LI32, LI33, LI34, LI35, LI36, LI37, LI40, LI42, LI43, LI45, LI48, LI60, LI61, LI64, LI80, LI300, LI400, LI1000, LI2000, LI2001, LI2047, LI2048, LI100000, LI1000000, LI38, LI39, LI41, LI44, LI46, LI47, LI49, LI50, LI51, LI52, LI53, LI54, LI55, LI56, LI57, LI58, LI59, LI62, LI63, LI65, LI66, LI67, LI68, LI69, LI70, LI71, LI72, LI73, LI74, LI75, LI76, LI77, LI78, LI79, LI81, LI82, LI83, LI84, LI85, LI86, LI87, LI88, LI89, LI90, LI91, LI92, LI93, LI94, LI95, LI96, LI97, LI98, LI99, LI100, LI101, LI102, LI103, LI104, LI105, LI106, LI107, LI108, LI109, LI110, LI111, LI112, LI113, LI114, LI115, LI116, LI117, LI118, LI119, LI120, LI121, LI122, LI123, LI124, LI125, LI126, LI127, LI255, LI256, LI999, LI1001, LI1002, LI1600, LI4096, LI1000001, LI2042, LM, nI_clamp, nI_pos', nI_lt, nI_nlt, nI_le, nI_ge, nI_ne, nI_add, nI_sub, mI_lt, mI_le, mI_nlt, mI_nle, mI_ne, mI_ne', mI_nem, e4]
        · rw [h4 c i c1 c2, ← g2 c i c1 c2 (by omega)]
          unfold u2
          rw [if_neg (by omega)]
        · rw [h4 _ _ (by omega) (by omega), u2_k (by omega)]; exact g8
        · rw [h4 _ _ (by omega) (by omega), u2_s]
          refine nmA_z st4 ⟨hK26, w2, v1, rfl, ?_⟩
          exact (rnm_n (by omega)).trans v2
      · rw [if_neg hK2]
        rw [show wcd 59 = nI 59 by decide] at e4
        refine Or.inl ⟨z4, j + 1, rfl, ?_, F4, rSt_trans st3 st4⟩
        rw [r203_144]
        simp (disch := omega) [r203_145, r203_147, r203_150, r203_152, qa190, qo190, g241, List.getElem?_cons_zero, List.getElem?_cons_succ, List.length_cons, List.length_nil, ag_nx, ag_dn, ag_no, ag_if, jbr1, jbr2, jc1, jc2, jnul, jld, jsto, jstoL, jst1, jst2, jkill, jinc, jbI, jbL, jbS, juI, jl2i, jcmp, jisR, jisI, jisL, jret, jretv, jfits, jdup, jdup2, jpop, jmm, jcat, Value.category, jinv, jrcv, jthr, jhd, jput, jget, jlen, jald, jast, jaast, jgI, jgL, jgB, jtab, jlku, jacp, vf20, vf21, vf22, vf23, vf24, u2_s, u2_k, u2_i, uc_s, uc_k, uc_c, u2_c, LI0, LI1, LI2, LI3, LI4, LI5, LI6, LI7, LI8, LI9, LI10, LI11, LI12, LI13, LI14, LI15, LI16, LI17, LI18, LI19, LI20, LI21, LI22, LI23, LI24, LI25, LI26, LI27, LI28, LI29, LI30, LI31, LI32, LI33, LI34, LI35, LI36, LI37, LI40, LI42, LI43, LI45, LI48, LI60, LI61, LI64, LI80, LI300, LI400, LI1000, LI2000, LI2001, LI2047, LI2048, LI100000, LI1000000, LI38, LI39, LI41, LI44, LI46, LI47, LI49, LI50, LI51, LI52, LI53, LI54, LI55, LI56, LI57, LI58, LI59, LI62, LI63, LI65, LI66, LI67, LI68, LI69, LI70, LI71, LI72, LI73, LI74, LI75, LI76, LI77, LI78, LI79, LI81, LI82, LI83, LI84, LI85, LI86, LI87, LI88, LI89, LI90, LI91, LI92, LI93, LI94, LI95, LI96, LI97, LI98, LI99, LI100, LI101, LI102, LI103, LI104, LI105, LI106, LI107, LI108, LI109, LI110, LI111, LI112, LI113, LI114, LI115, LI116, LI117, LI118, LI119, LI120, LI121, LI122, LI123, LI124, LI125, LI126, LI127, LI255, LI256, LI999, LI1001, LI1002, LI1600, LI4096, LI1000001, LI2042, LM, nI_clamp, nI_pos', nI_lt, nI_nlt, nI_le, nI_ge, nI_ne, nI_add, nI_sub, mI_lt, mI_le, mI_nlt, mI_nle, mI_ne, mI_ne', mI_nem, e4]
    · exact absurd hK26 hn
  · have nk : ¬ kcd (KK t N j) = nI 1 := fun z => hK26 ((kcd_1 _ hk).mp z)
    have w20 := r187 (d := d + D + 7) (A := A) (b := b) (h := h) (J := J) (R := R) (k0 := 20) hq (by omega) (by omega)
    rw [show wcd 20 = nI 18 by decide] at w20
    have w21 := r187 (d := d + D + 7) (A := A) (b := b) (h := h) (J := J) (R := R) (k0 := 21) hq (by omega) (by omega)
    rw [show wcd 21 = nI 19 by decide] at w21
    have w22 := r187 (d := d + D + 7) (A := A) (b := b) (h := h) (J := J) (R := R) (k0 := 22) hq (by omega) (by omega)
    rw [show wcd 22 = nI 20 by decide] at w22
    have w23 := r187 (d := d + D + 7) (A := A) (b := b) (h := h) (J := J) (R := R) (k0 := 23) hq (by omega) (by omega)
    rw [show wcd 23 = nI 21 by decide] at w23
    have w24 := r187 (d := d + D + 7) (A := A) (b := b) (h := h) (J := J) (R := R) (k0 := 24) hq (by omega) (by omega)
    rw [show wcd 24 = nI 22 by decide] at w24
    by_cases hKs : KK t N j = 20 ∨ KK t N j = 21 ∨ KK t N j = 22 ∨ KK t N j = 23 ∨ KK t N j = 24
    · rcases hKs with hK | hK | hK | hK | hK
      · rw [if_pos hK] at w20
        have s17 := hT.2.2.2.2 (by omega)
        rw [hK, show wcd 20 = nI 18 by decide] at s17
        have ho : top0 (KK t N j) = some 15 := by rw [hK]; rfl
        have hq1 : rQ t N m B0 M0 j dp (z.1, u2 z.2.1 254 s (nI 18), z.2.2) := rQ_n hq (by omega)
        obtain ⟨z2, e2, q2, st2, n2, f2, _⟩ := rTok (d := d + D + 2) (A := A) (b := b) (h := h) (J := J) (R := R) hc hq1 (by omega) (by omega)
        have n2' : z2.2.2.2.2.2 = z.2.2.2.2.2 := n2
        have g2 : ∀ c i, 251 ≤ c → c ≤ 258 → ¬ (c = 254 ∧ i = s) → z2.2.1 c i = z.2.1 c i := fun c i c1 c2 c3 => by
          rw [f2 c i (by omega) (by omega)]
          show u2 z.2.1 254 s (nI 18) c i = _
          unfold u2
          rw [if_neg (by omega)]
        have g4 : z2.2.1 254 s = nI 18 := by
          rw [f2 254 s (by omega) (by omega)]
          show u2 z.2.1 254 s (nI 18) 254 s = _
          exact u2_s
        unfold aT
        rw [ho]
        unfold pN
        simp only
        rcases r190 (d := d + D) (A := A) (b := b) (h := h) (J := J) (R := R) (k0 := 59) hc q2 (by omega) (by omega) with ⟨hK2, z3, e3, q3, st3, n3, f3⟩ | ⟨hK2, z3, e3, F3, st3⟩
        · rw [if_pos hK2]
          rw [show wcd 59 = nI 59 by decide] at e3
          refine Or.inr ⟨z3, j + 2, rfl, ?_, q3, rSt_trans (rSt_n hst (by omega) hs0) (rSt_trans st2 st3), ?_, by omega, fun c i c1 c2 c3 c4 => ?_, ⟨15, rfl, Or.inr ⟨?_, ?_⟩⟩, ⟨Nat.le_trans st2.2.1 st3.2.1, fun u hu => ((st3.2.2.1 u (Nat.lt_of_lt_of_le hu st2.2.1)).trans (st2.2.2.1 u hu)).trans (rnm_n (by omega))⟩⟩
          · simp (disch := omega) [r203_0, r203_1, r203_4, r203_5, r203_6, r203_7, r203_8, r203_10, r203_13, r203_16, r203_17, r203_20, r203_21, r203_22, r203_24, r203_27, r203_28, r203_30, r203_31, r203_32, r203_33, r203_34, r203_37, r203_40, r203_43, r203_44, r203_47, r203_48, r203_51, r203_53, r203_54, r203_57, r203_58, r203_59, r203_62, r203_64, r203_65, r203_68, r203_69, r203_72, r203_73, r203_75, r203_78, r203_81, r203_82, r203_84, r203_87, r203_90, r203_91, r203_93, r203_96, r203_99, r203_100, r203_102, r203_105, r203_108, r203_109, r203_111, r203_114, r203_117, r203_118, r203_121, r203_123, r203_124, r203_127, r203_128, r203_129, r203_132, r203_135, r203_136, r203_137, r203_140, r203_143, r203_144, r203_145, r203_147, r203_150, r203_152, qa192, qo192, g241, qa186, qo186, qa200, qo200, qa191, qo191, qa193, qo193, vf12_16, vf12_28, t241_28, g258, p258, vf12_18, vf12_27, t241_27, g257, p257, qa187, qo187, vf12_24, t241_24, g254, p254, vf12_17, qa185, qo185, qa177, qo177, qa190, qo190, r203_39, List.getElem?_cons_zero, List.getElem?_cons_succ, List.length_cons, List.length_nil, ag_nx, ag_dn, ag_no, ag_if, jbr1, jbr2, jc1, jc2, jnul, jld, jsto, jstoL, jst1, jst2, jkill, jinc, jbI, jbL, jbS, juI, jl2i, jcmp, jisR, jisI, jisL, jret, jretv, jfits, jdup, jdup2, jpop, jmm, jcat, Value.category, jinv, jrcv, jthr, jhd, jput, jget, jlen, jald, jast, jaast, jgI, jgL, jgB, jtab, jlku, jacp, vf20, vf21, vf22, vf23, vf24, u2_s, u2_k, u2_i, uc_s, uc_k, uc_c, u2_c, LI0, LI1, LI2, LI3, LI4, LI5, LI6, LI7, LI8, LI9, LI10, LI11, LI12, LI13, LI14, LI15, LI16, LI17, LI18, LI19, LI20, LI21, LI22, LI23, LI24, LI25, LI26, LI27, LI28, LI29, LI30, LI31, LI32, LI33, LI34, LI35, LI36, LI37, LI40, LI42, LI43, LI45, LI48, LI60, LI61, LI64, LI80, LI300, LI400, LI1000, LI2000, LI2001, LI2047, LI2048, LI100000, LI1000000, LI38, LI39, LI41, LI44, LI46, LI47, LI49, LI50, LI51, LI52, LI53, LI54, LI55, LI56, LI57, LI58, LI59, LI62, LI63, LI65, LI66, LI67, LI68, LI69, LI70, LI71, LI72, LI73, LI74, LI75, LI76, LI77, LI78, LI79, LI81, LI82, LI83, LI84, LI85, LI86, LI87, LI88, LI89, LI90, LI91, LI92, LI93, LI94, LI95, LI96, LI97, LI98, LI99, LI100, LI101, LI102, LI103, LI104, LI105, LI106, LI107, LI108, LI109, LI110, LI111, LI112, LI113, LI114, LI115, LI116, LI117, LI118, LI119, LI120, LI121, LI122, LI123, LI124, LI125, LI126, LI127, LI255, LI256, LI999, LI1001, LI1002, LI1600, LI4096, LI1000001, LI2042, LM, nI_clamp, nI_pos', nI_lt, nI_nlt, nI_le, nI_ge, nI_ne, nI_add, nI_sub, mI_lt, mI_le, mI_nlt, mI_nle, mI_ne, mI_ne', mI_nem, s16, nk, w20, s17, h254, e2, e3]
          · show z3.2.2.2.2.2 = _
            omega
          · rw [f3 c i (by omega) (by omega)]
            exact g2 c i c1 c2 (by omega)
          · rw [f3 _ _ (by omega) (by omega), g2 _ _ (by omega) (by omega) (by omega)]; exact h8
          · rw [f3 _ _ (by omega) (by omega), g4]; simp
        · rw [if_neg hK2]
          rw [show wcd 59 = nI 59 by decide] at e3
          refine Or.inl ⟨z3, j + 1, rfl, ?_, F3, rSt_trans (rSt_n hst (by omega) hs0) (rSt_trans st2 st3)⟩
          simp (disch := omega) [r203_0, r203_1, r203_4, r203_5, r203_6, r203_7, r203_8, r203_10, r203_13, r203_16, r203_17, r203_20, r203_21, r203_22, r203_24, r203_27, r203_28, r203_30, r203_31, r203_32, r203_33, r203_34, r203_37, r203_40, r203_43, r203_44, r203_47, r203_48, r203_51, r203_53, r203_54, r203_57, r203_58, r203_59, r203_62, r203_64, r203_65, r203_68, r203_69, r203_72, r203_73, r203_75, r203_78, r203_81, r203_82, r203_84, r203_87, r203_90, r203_91, r203_93, r203_96, r203_99, r203_100, r203_102, r203_105, r203_108, r203_109, r203_111, r203_114, r203_117, r203_118, r203_121, r203_123, r203_124, r203_127, r203_128, r203_129, r203_132, r203_135, r203_136, r203_137, r203_140, r203_143, r203_144, r203_145, r203_147, r203_150, r203_152, qa192, qo192, g241, qa186, qo186, qa200, qo200, qa191, qo191, qa193, qo193, vf12_16, vf12_28, t241_28, g258, p258, vf12_18, vf12_27, t241_27, g257, p257, qa187, qo187, vf12_24, t241_24, g254, p254, vf12_17, qa185, qo185, qa177, qo177, qa190, qo190, r203_39, List.getElem?_cons_zero, List.getElem?_cons_succ, List.length_cons, List.length_nil, ag_nx, ag_dn, ag_no, ag_if, jbr1, jbr2, jc1, jc2, jnul, jld, jsto, jstoL, jst1, jst2, jkill, jinc, jbI, jbL, jbS, juI, jl2i, jcmp, jisR, jisI, jisL, jret, jretv, jfits, jdup, jdup2, jpop, jmm, jcat, Value.category, jinv, jrcv, jthr, jhd, jput, jget, jlen, jald, jast, jaast, jgI, jgL, jgB, jtab, jlku, jacp, vf20, vf21, vf22, vf23, vf24, u2_s, u2_k, u2_i, uc_s, uc_k, uc_c, u2_c, LI0, LI1, LI2, LI3, LI4, LI5, LI6, LI7, LI8, LI9, LI10, LI11, LI12, LI13, LI14, LI15, LI16, LI17, LI18, LI19, LI20, LI21, LI22, LI23, LI24, LI25, LI26, LI27, LI28, LI29, LI30, LI31, LI32, LI33, LI34, LI35, LI36, LI37, LI40, LI42, LI43, LI45, LI48, LI60, LI61, LI64, LI80, LI300, LI400, LI1000, LI2000, LI2001, LI2047, LI2048, LI100000, LI1000000, LI38, LI39, LI41, LI44, LI46, LI47, LI49, LI50, LI51, LI52, LI53, LI54, LI55, LI56, LI57, LI58, LI59, LI62, LI63, LI65, LI66, LI67, LI68, LI69, LI70, LI71, LI72, LI73, LI74, LI75, LI76, LI77, LI78, LI79, LI81, LI82, LI83, LI84, LI85, LI86, LI87, LI88, LI89, LI90, LI91, LI92, LI93, LI94, LI95, LI96, LI97, LI98, LI99, LI100, LI101, LI102, LI103, LI104, LI105, LI106, LI107, LI108, LI109, LI110, LI111, LI112, LI113, LI114, LI115, LI116, LI117, LI118, LI119, LI120, LI121, LI122, LI123, LI124, LI125, LI126, LI127, LI255, LI256, LI999, LI1001, LI1002, LI1600, LI4096, LI1000001, LI2042, LM, nI_clamp, nI_pos', nI_lt, nI_nlt, nI_le, nI_ge, nI_ne, nI_add, nI_sub, mI_lt, mI_le, mI_nlt, mI_nle, mI_ne, mI_ne', mI_nem, s16, nk, w20, s17, h254, e2, e3]
      · rw [if_pos hK] at w21
        rw [if_neg (by omega)] at w20
        have s17 := hT.2.2.2.2 (by omega)
        rw [hK, show wcd 21 = nI 19 by decide] at s17
        have ho : top0 (KK t N j) = some 16 := by rw [hK]; rfl
        have hq1 : rQ t N m B0 M0 j dp (z.1, u2 z.2.1 254 s (nI 19), z.2.2) := rQ_n hq (by omega)
        obtain ⟨z2, e2, q2, st2, n2, f2, _⟩ := rTok (d := d + D + 2) (A := A) (b := b) (h := h) (J := J) (R := R) hc hq1 (by omega) (by omega)
        have n2' : z2.2.2.2.2.2 = z.2.2.2.2.2 := n2
        have g2 : ∀ c i, 251 ≤ c → c ≤ 258 → ¬ (c = 254 ∧ i = s) → z2.2.1 c i = z.2.1 c i := fun c i c1 c2 c3 => by
          rw [f2 c i (by omega) (by omega)]
          show u2 z.2.1 254 s (nI 19) c i = _
          unfold u2
          rw [if_neg (by omega)]
        have g4 : z2.2.1 254 s = nI 19 := by
          rw [f2 254 s (by omega) (by omega)]
          show u2 z.2.1 254 s (nI 19) 254 s = _
          exact u2_s
        unfold aT
        rw [ho]
        unfold pN
        simp only
        rcases r190 (d := d + D) (A := A) (b := b) (h := h) (J := J) (R := R) (k0 := 59) hc q2 (by omega) (by omega) with ⟨hK2, z3, e3, q3, st3, n3, f3⟩ | ⟨hK2, z3, e3, F3, st3⟩
        · rw [if_pos hK2]
          rw [show wcd 59 = nI 59 by decide] at e3
          refine Or.inr ⟨z3, j + 2, rfl, ?_, q3, rSt_trans (rSt_n hst (by omega) hs0) (rSt_trans st2 st3), ?_, by omega, fun c i c1 c2 c3 c4 => ?_, ⟨16, rfl, Or.inr ⟨?_, ?_⟩⟩, ⟨Nat.le_trans st2.2.1 st3.2.1, fun u hu => ((st3.2.2.1 u (Nat.lt_of_lt_of_le hu st2.2.1)).trans (st2.2.2.1 u hu)).trans (rnm_n (by omega))⟩⟩
          · simp (disch := omega) [r203_0, r203_1, r203_4, r203_5, r203_6, r203_7, r203_8, r203_10, r203_13, r203_16, r203_17, r203_20, r203_21, r203_22, r203_24, r203_27, r203_28, r203_30, r203_31, r203_32, r203_33, r203_34, r203_37, r203_40, r203_43, r203_44, r203_47, r203_48, r203_51, r203_53, r203_54, r203_57, r203_58, r203_59, r203_62, r203_64, r203_65, r203_68, r203_69, r203_72, r203_73, r203_75, r203_78, r203_81, r203_82, r203_84, r203_87, r203_90, r203_91, r203_93, r203_96, r203_99, r203_100, r203_102, r203_105, r203_108, r203_109, r203_111, r203_114, r203_117, r203_118, r203_121, r203_123, r203_124, r203_127, r203_128, r203_129, r203_132, r203_135, r203_136, r203_137, r203_140, r203_143, r203_144, r203_145, r203_147, r203_150, r203_152, qa192, qo192, g241, qa186, qo186, qa200, qo200, qa191, qo191, qa193, qo193, vf12_16, vf12_28, t241_28, g258, p258, vf12_18, vf12_27, t241_27, g257, p257, qa187, qo187, vf12_24, t241_24, g254, p254, vf12_17, qa185, qo185, qa177, qo177, qa190, qo190, r203_39, List.getElem?_cons_zero, List.getElem?_cons_succ, List.length_cons, List.length_nil, ag_nx, ag_dn, ag_no, ag_if, jbr1, jbr2, jc1, jc2, jnul, jld, jsto, jstoL, jst1, jst2, jkill, jinc, jbI, jbL, jbS, juI, jl2i, jcmp, jisR, jisI, jisL, jret, jretv, jfits, jdup, jdup2, jpop, jmm, jcat, Value.category, jinv, jrcv, jthr, jhd, jput, jget, jlen, jald, jast, jaast, jgI, jgL, jgB, jtab, jlku, jacp, vf20, vf21, vf22, vf23, vf24, u2_s, u2_k, u2_i, uc_s, uc_k, uc_c, u2_c, LI0, LI1, LI2, LI3, LI4, LI5, LI6, LI7, LI8, LI9, LI10, LI11, LI12, LI13, LI14, LI15, LI16, LI17, LI18, LI19, LI20, LI21, LI22, LI23, LI24, LI25, LI26, LI27, LI28, LI29, LI30, LI31, LI32, LI33, LI34, LI35, LI36, LI37, LI40, LI42, LI43, LI45, LI48, LI60, LI61, LI64, LI80, LI300, LI400, LI1000, LI2000, LI2001, LI2047, LI2048, LI100000, LI1000000, LI38, LI39, LI41, LI44, LI46, LI47, LI49, LI50, LI51, LI52, LI53, LI54, LI55, LI56, LI57, LI58, LI59, LI62, LI63, LI65, LI66, LI67, LI68, LI69, LI70, LI71, LI72, LI73, LI74, LI75, LI76, LI77, LI78, LI79, LI81, LI82, LI83, LI84, LI85, LI86, LI87, LI88, LI89, LI90, LI91, LI92, LI93, LI94, LI95, LI96, LI97, LI98, LI99, LI100, LI101, LI102, LI103, LI104, LI105, LI106, LI107, LI108, LI109, LI110, LI111, LI112, LI113, LI114, LI115, LI116, LI117, LI118, LI119, LI120, LI121, LI122, LI123, LI124, LI125, LI126, LI127, LI255, LI256, LI999, LI1001, LI1002, LI1600, LI4096, LI1000001, LI2042, LM, nI_clamp, nI_pos', nI_lt, nI_nlt, nI_le, nI_ge, nI_ne, nI_add, nI_sub, mI_lt, mI_le, mI_nlt, mI_nle, mI_ne, mI_ne', mI_nem, s16, nk, w20, w21, s17, h254, e2, e3]
          · show z3.2.2.2.2.2 = _
            omega
          · rw [f3 c i (by omega) (by omega)]
            exact g2 c i c1 c2 (by omega)
          · rw [f3 _ _ (by omega) (by omega), g2 _ _ (by omega) (by omega) (by omega)]; exact h8
          · rw [f3 _ _ (by omega) (by omega), g4]; simp
        · rw [if_neg hK2]
          rw [show wcd 59 = nI 59 by decide] at e3
          refine Or.inl ⟨z3, j + 1, rfl, ?_, F3, rSt_trans (rSt_n hst (by omega) hs0) (rSt_trans st2 st3)⟩
          simp (disch := omega) [r203_0, r203_1, r203_4, r203_5, r203_6, r203_7, r203_8, r203_10, r203_13, r203_16, r203_17, r203_20, r203_21, r203_22, r203_24, r203_27, r203_28, r203_30, r203_31, r203_32, r203_33, r203_34, r203_37, r203_40, r203_43, r203_44, r203_47, r203_48, r203_51, r203_53, r203_54, r203_57, r203_58, r203_59, r203_62, r203_64, r203_65, r203_68, r203_69, r203_72, r203_73, r203_75, r203_78, r203_81, r203_82, r203_84, r203_87, r203_90, r203_91, r203_93, r203_96, r203_99, r203_100, r203_102, r203_105, r203_108, r203_109, r203_111, r203_114, r203_117, r203_118, r203_121, r203_123, r203_124, r203_127, r203_128, r203_129, r203_132, r203_135, r203_136, r203_137, r203_140, r203_143, r203_144, r203_145, r203_147, r203_150, r203_152, qa192, qo192, g241, qa186, qo186, qa200, qo200, qa191, qo191, qa193, qo193, vf12_16, vf12_28, t241_28, g258, p258, vf12_18, vf12_27, t241_27, g257, p257, qa187, qo187, vf12_24, t241_24, g254, p254, vf12_17, qa185, qo185, qa177, qo177, qa190, qo190, r203_39, List.getElem?_cons_zero, List.getElem?_cons_succ, List.length_cons, List.length_nil, ag_nx, ag_dn, ag_no, ag_if, jbr1, jbr2, jc1, jc2, jnul, jld, jsto, jstoL, jst1, jst2, jkill, jinc, jbI, jbL, jbS, juI, jl2i, jcmp, jisR, jisI, jisL, jret, jretv, jfits, jdup, jdup2, jpop, jmm, jcat, Value.category, jinv, jrcv, jthr, jhd, jput, jget, jlen, jald, jast, jaast, jgI, jgL, jgB, jtab, jlku, jacp, vf20, vf21, vf22, vf23, vf24, u2_s, u2_k, u2_i, uc_s, uc_k, uc_c, u2_c, LI0, LI1, LI2, LI3, LI4, LI5, LI6, LI7, LI8, LI9, LI10, LI11, LI12, LI13, LI14, LI15, LI16, LI17, LI18, LI19, LI20, LI21, LI22, LI23, LI24, LI25, LI26, LI27, LI28, LI29, LI30, LI31, LI32, LI33, LI34, LI35, LI36, LI37, LI40, LI42, LI43, LI45, LI48, LI60, LI61, LI64, LI80, LI300, LI400, LI1000, LI2000, LI2001, LI2047, LI2048, LI100000, LI1000000, LI38, LI39, LI41, LI44, LI46, LI47, LI49, LI50, LI51, LI52, LI53, LI54, LI55, LI56, LI57, LI58, LI59, LI62, LI63, LI65, LI66, LI67, LI68, LI69, LI70, LI71, LI72, LI73, LI74, LI75, LI76, LI77, LI78, LI79, LI81, LI82, LI83, LI84, LI85, LI86, LI87, LI88, LI89, LI90, LI91, LI92, LI93, LI94, LI95, LI96, LI97, LI98, LI99, LI100, LI101, LI102, LI103, LI104, LI105, LI106, LI107, LI108, LI109, LI110, LI111, LI112, LI113, LI114, LI115, LI116, LI117, LI118, LI119, LI120, LI121, LI122, LI123, LI124, LI125, LI126, LI127, LI255, LI256, LI999, LI1001, LI1002, LI1600, LI4096, LI1000001, LI2042, LM, nI_clamp, nI_pos', nI_lt, nI_nlt, nI_le, nI_ge, nI_ne, nI_add, nI_sub, mI_lt, mI_le, mI_nlt, mI_nle, mI_ne, mI_ne', mI_nem, s16, nk, w20, w21, s17, h254, e2, e3]
      · rw [if_pos hK] at w22
        rw [if_neg (by omega)] at w20
        rw [if_neg (by omega)] at w21
        have s17 := hT.2.2.2.2 (by omega)
        rw [hK, show wcd 22 = nI 20 by decide] at s17
        have ho : top0 (KK t N j) = some 17 := by rw [hK]; rfl
        have hq1 : rQ t N m B0 M0 j dp (z.1, u2 z.2.1 254 s (nI 20), z.2.2) := rQ_n hq (by omega)
        obtain ⟨z2, e2, q2, st2, n2, f2, _⟩ := rTok (d := d + D + 2) (A := A) (b := b) (h := h) (J := J) (R := R) hc hq1 (by omega) (by omega)
        have n2' : z2.2.2.2.2.2 = z.2.2.2.2.2 := n2
        have g2 : ∀ c i, 251 ≤ c → c ≤ 258 → ¬ (c = 254 ∧ i = s) → z2.2.1 c i = z.2.1 c i := fun c i c1 c2 c3 => by
          rw [f2 c i (by omega) (by omega)]
          show u2 z.2.1 254 s (nI 20) c i = _
          unfold u2
          rw [if_neg (by omega)]
        have g4 : z2.2.1 254 s = nI 20 := by
          rw [f2 254 s (by omega) (by omega)]
          show u2 z.2.1 254 s (nI 20) 254 s = _
          exact u2_s
        unfold aT
        rw [ho]
        unfold pN
        simp only
        rcases r190 (d := d + D) (A := A) (b := b) (h := h) (J := J) (R := R) (k0 := 59) hc q2 (by omega) (by omega) with ⟨hK2, z3, e3, q3, st3, n3, f3⟩ | ⟨hK2, z3, e3, F3, st3⟩
        · rw [if_pos hK2]
          rw [show wcd 59 = nI 59 by decide] at e3
          refine Or.inr ⟨z3, j + 2, rfl, ?_, q3, rSt_trans (rSt_n hst (by omega) hs0) (rSt_trans st2 st3), ?_, by omega, fun c i c1 c2 c3 c4 => ?_, ⟨17, rfl, Or.inr ⟨?_, ?_⟩⟩, ⟨Nat.le_trans st2.2.1 st3.2.1, fun u hu => ((st3.2.2.1 u (Nat.lt_of_lt_of_le hu st2.2.1)).trans (st2.2.2.1 u hu)).trans (rnm_n (by omega))⟩⟩
          · simp (disch := omega) [r203_0, r203_1, r203_4, r203_5, r203_6, r203_7, r203_8, r203_10, r203_13, r203_16, r203_17, r203_20, r203_21, r203_22, r203_24, r203_27, r203_28, r203_30, r203_31, r203_32, r203_33, r203_34, r203_37, r203_40, r203_43, r203_44, r203_47, r203_48, r203_51, r203_53, r203_54, r203_57, r203_58, r203_59, r203_62, r203_64, r203_65, r203_68, r203_69, r203_72, r203_73, r203_75, r203_78, r203_81, r203_82, r203_84, r203_87, r203_90, r203_91, r203_93, r203_96, r203_99, r203_100, r203_102, r203_105, r203_108, r203_109, r203_111, r203_114, r203_117, r203_118, r203_121, r203_123, r203_124, r203_127, r203_128, r203_129, r203_132, r203_135, r203_136, r203_137, r203_140, r203_143, r203_144, r203_145, r203_147, r203_150, r203_152, qa192, qo192, g241, qa186, qo186, qa200, qo200, qa191, qo191, qa193, qo193, vf12_16, vf12_28, t241_28, g258, p258, vf12_18, vf12_27, t241_27, g257, p257, qa187, qo187, vf12_24, t241_24, g254, p254, vf12_17, qa185, qo185, qa177, qo177, qa190, qo190, r203_39, List.getElem?_cons_zero, List.getElem?_cons_succ, List.length_cons, List.length_nil, ag_nx, ag_dn, ag_no, ag_if, jbr1, jbr2, jc1, jc2, jnul, jld, jsto, jstoL, jst1, jst2, jkill, jinc, jbI, jbL, jbS, juI, jl2i, jcmp, jisR, jisI, jisL, jret, jretv, jfits, jdup, jdup2, jpop, jmm, jcat, Value.category, jinv, jrcv, jthr, jhd, jput, jget, jlen, jald, jast, jaast, jgI, jgL, jgB, jtab, jlku, jacp, vf20, vf21, vf22, vf23, vf24, u2_s, u2_k, u2_i, uc_s, uc_k, uc_c, u2_c, LI0, LI1, LI2, LI3, LI4, LI5, LI6, LI7, LI8, LI9, LI10, LI11, LI12, LI13, LI14, LI15, LI16, LI17, LI18, LI19, LI20, LI21, LI22, LI23, LI24, LI25, LI26, LI27, LI28, LI29, LI30, LI31, LI32, LI33, LI34, LI35, LI36, LI37, LI40, LI42, LI43, LI45, LI48, LI60, LI61, LI64, LI80, LI300, LI400, LI1000, LI2000, LI2001, LI2047, LI2048, LI100000, LI1000000, LI38, LI39, LI41, LI44, LI46, LI47, LI49, LI50, LI51, LI52, LI53, LI54, LI55, LI56, LI57, LI58, LI59, LI62, LI63, LI65, LI66, LI67, LI68, LI69, LI70, LI71, LI72, LI73, LI74, LI75, LI76, LI77, LI78, LI79, LI81, LI82, LI83, LI84, LI85, LI86, LI87, LI88, LI89, LI90, LI91, LI92, LI93, LI94, LI95, LI96, LI97, LI98, LI99, LI100, LI101, LI102, LI103, LI104, LI105, LI106, LI107, LI108, LI109, LI110, LI111, LI112, LI113, LI114, LI115, LI116, LI117, LI118, LI119, LI120, LI121, LI122, LI123, LI124, LI125, LI126, LI127, LI255, LI256, LI999, LI1001, LI1002, LI1600, LI4096, LI1000001, LI2042, LM, nI_clamp, nI_pos', nI_lt, nI_nlt, nI_le, nI_ge, nI_ne, nI_add, nI_sub, mI_lt, mI_le, mI_nlt, mI_nle, mI_ne, mI_ne', mI_nem, s16, nk, w20, w21, w22, s17, h254, e2, e3]
          · show z3.2.2.2.2.2 = _
            omega
          · rw [f3 c i (by omega) (by omega)]
            exact g2 c i c1 c2 (by omega)
          · rw [f3 _ _ (by omega) (by omega), g2 _ _ (by omega) (by omega) (by omega)]; exact h8
          · rw [f3 _ _ (by omega) (by omega), g4]; simp
        · rw [if_neg hK2]
          rw [show wcd 59 = nI 59 by decide] at e3
          refine Or.inl ⟨z3, j + 1, rfl, ?_, F3, rSt_trans (rSt_n hst (by omega) hs0) (rSt_trans st2 st3)⟩
          simp (disch := omega) [r203_0, r203_1, r203_4, r203_5, r203_6, r203_7, r203_8, r203_10, r203_13, r203_16, r203_17, r203_20, r203_21, r203_22, r203_24, r203_27, r203_28, r203_30, r203_31, r203_32, r203_33, r203_34, r203_37, r203_40, r203_43, r203_44, r203_47, r203_48, r203_51, r203_53, r203_54, r203_57, r203_58, r203_59, r203_62, r203_64, r203_65, r203_68, r203_69, r203_72, r203_73, r203_75, r203_78, r203_81, r203_82, r203_84, r203_87, r203_90, r203_91, r203_93, r203_96, r203_99, r203_100, r203_102, r203_105, r203_108, r203_109, r203_111, r203_114, r203_117, r203_118, r203_121, r203_123, r203_124, r203_127, r203_128, r203_129, r203_132, r203_135, r203_136, r203_137, r203_140, r203_143, r203_144, r203_145, r203_147, r203_150, r203_152, qa192, qo192, g241, qa186, qo186, qa200, qo200, qa191, qo191, qa193, qo193, vf12_16, vf12_28, t241_28, g258, p258, vf12_18, vf12_27, t241_27, g257, p257, qa187, qo187, vf12_24, t241_24, g254, p254, vf12_17, qa185, qo185, qa177, qo177, qa190, qo190, r203_39, List.getElem?_cons_zero, List.getElem?_cons_succ, List.length_cons, List.length_nil, ag_nx, ag_dn, ag_no, ag_if, jbr1, jbr2, jc1, jc2, jnul, jld, jsto, jstoL, jst1, jst2, jkill, jinc, jbI, jbL, jbS, juI, jl2i, jcmp, jisR, jisI, jisL, jret, jretv, jfits, jdup, jdup2, jpop, jmm, jcat, Value.category, jinv, jrcv, jthr, jhd, jput, jget, jlen, jald, jast, jaast, jgI, jgL, jgB, jtab, jlku, jacp, vf20, vf21, vf22, vf23, vf24, u2_s, u2_k, u2_i, uc_s, uc_k, uc_c, u2_c, LI0, LI1, LI2, LI3, LI4, LI5, LI6, LI7, LI8, LI9, LI10, LI11, LI12, LI13, LI14, LI15, LI16, LI17, LI18, LI19, LI20, LI21, LI22, LI23, LI24, LI25, LI26, LI27, LI28, LI29, LI30, LI31, LI32, LI33, LI34, LI35, LI36, LI37, LI40, LI42, LI43, LI45, LI48, LI60, LI61, LI64, LI80, LI300, LI400, LI1000, LI2000, LI2001, LI2047, LI2048, LI100000, LI1000000, LI38, LI39, LI41, LI44, LI46, LI47, LI49, LI50, LI51, LI52, LI53, LI54, LI55, LI56, LI57, LI58, LI59, LI62, LI63, LI65, LI66, LI67, LI68, LI69, LI70, LI71, LI72, LI73, LI74, LI75, LI76, LI77, LI78, LI79, LI81, LI82, LI83, LI84, LI85, LI86, LI87, LI88, LI89, LI90, LI91, LI92, LI93, LI94, LI95, LI96, LI97, LI98, LI99, LI100, LI101, LI102, LI103, LI104, LI105, LI106, LI107, LI108, LI109, LI110, LI111, LI112, LI113, LI114, LI115, LI116, LI117, LI118, LI119, LI120, LI121, LI122, LI123, LI124, LI125, LI126, LI127, LI255, LI256, LI999, LI1001, LI1002, LI1600, LI4096, LI1000001, LI2042, LM, nI_clamp, nI_pos', nI_lt, nI_nlt, nI_le, nI_ge, nI_ne, nI_add, nI_sub, mI_lt, mI_le, mI_nlt, mI_nle, mI_ne, mI_ne', mI_nem, s16, nk, w20, w21, w22, s17, h254, e2, e3]
      · rw [if_pos hK] at w23
        rw [if_neg (by omega)] at w20
        rw [if_neg (by omega)] at w21
        rw [if_neg (by omega)] at w22
        have s17 := hT.2.2.2.2 (by omega)
        rw [hK, show wcd 23 = nI 21 by decide] at s17
        have ho : top0 (KK t N j) = some 18 := by rw [hK]; rfl
        have hq1 : rQ t N m B0 M0 j dp (z.1, u2 z.2.1 254 s (nI 21), z.2.2) := rQ_n hq (by omega)
        obtain ⟨z2, e2, q2, st2, n2, f2, _⟩ := rTok (d := d + D + 2) (A := A) (b := b) (h := h) (J := J) (R := R) hc hq1 (by omega) (by omega)
        have n2' : z2.2.2.2.2.2 = z.2.2.2.2.2 := n2
        have g2 : ∀ c i, 251 ≤ c → c ≤ 258 → ¬ (c = 254 ∧ i = s) → z2.2.1 c i = z.2.1 c i := fun c i c1 c2 c3 => by
          rw [f2 c i (by omega) (by omega)]
          show u2 z.2.1 254 s (nI 21) c i = _
          unfold u2
          rw [if_neg (by omega)]
        have g4 : z2.2.1 254 s = nI 21 := by
          rw [f2 254 s (by omega) (by omega)]
          show u2 z.2.1 254 s (nI 21) 254 s = _
          exact u2_s
        unfold aT
        rw [ho]
        unfold pN
        simp only
        rcases r190 (d := d + D) (A := A) (b := b) (h := h) (J := J) (R := R) (k0 := 59) hc q2 (by omega) (by omega) with ⟨hK2, z3, e3, q3, st3, n3, f3⟩ | ⟨hK2, z3, e3, F3, st3⟩
        · rw [if_pos hK2]
          rw [show wcd 59 = nI 59 by decide] at e3
          refine Or.inr ⟨z3, j + 2, rfl, ?_, q3, rSt_trans (rSt_n hst (by omega) hs0) (rSt_trans st2 st3), ?_, by omega, fun c i c1 c2 c3 c4 => ?_, ⟨18, rfl, Or.inr ⟨?_, ?_⟩⟩, ⟨Nat.le_trans st2.2.1 st3.2.1, fun u hu => ((st3.2.2.1 u (Nat.lt_of_lt_of_le hu st2.2.1)).trans (st2.2.2.1 u hu)).trans (rnm_n (by omega))⟩⟩
          · simp (disch := omega) [r203_0, r203_1, r203_4, r203_5, r203_6, r203_7, r203_8, r203_10, r203_13, r203_16, r203_17, r203_20, r203_21, r203_22, r203_24, r203_27, r203_28, r203_30, r203_31, r203_32, r203_33, r203_34, r203_37, r203_40, r203_43, r203_44, r203_47, r203_48, r203_51, r203_53, r203_54, r203_57, r203_58, r203_59, r203_62, r203_64, r203_65, r203_68, r203_69, r203_72, r203_73, r203_75, r203_78, r203_81, r203_82, r203_84, r203_87, r203_90, r203_91, r203_93, r203_96, r203_99, r203_100, r203_102, r203_105, r203_108, r203_109, r203_111, r203_114, r203_117, r203_118, r203_121, r203_123, r203_124, r203_127, r203_128, r203_129, r203_132, r203_135, r203_136, r203_137, r203_140, r203_143, r203_144, r203_145, r203_147, r203_150, r203_152, qa192, qo192, g241, qa186, qo186, qa200, qo200, qa191, qo191, qa193, qo193, vf12_16, vf12_28, t241_28, g258, p258, vf12_18, vf12_27, t241_27, g257, p257, qa187, qo187, vf12_24, t241_24, g254, p254, vf12_17, qa185, qo185, qa177, qo177, qa190, qo190, r203_39, List.getElem?_cons_zero, List.getElem?_cons_succ, List.length_cons, List.length_nil, ag_nx, ag_dn, ag_no, ag_if, jbr1, jbr2, jc1, jc2, jnul, jld, jsto, jstoL, jst1, jst2, jkill, jinc, jbI, jbL, jbS, juI, jl2i, jcmp, jisR, jisI, jisL, jret, jretv, jfits, jdup, jdup2, jpop, jmm, jcat, Value.category, jinv, jrcv, jthr, jhd, jput, jget, jlen, jald, jast, jaast, jgI, jgL, jgB, jtab, jlku, jacp, vf20, vf21, vf22, vf23, vf24, u2_s, u2_k, u2_i, uc_s, uc_k, uc_c, u2_c, LI0, LI1, LI2, LI3, LI4, LI5, LI6, LI7, LI8, LI9, LI10, LI11, LI12, LI13, LI14, LI15, LI16, LI17, LI18, LI19, LI20, LI21, LI22, LI23, LI24, LI25, LI26, LI27, LI28, LI29, LI30, LI31, LI32, LI33, LI34, LI35, LI36, LI37, LI40, LI42, LI43, LI45, LI48, LI60, LI61, LI64, LI80, LI300, LI400, LI1000, LI2000, LI2001, LI2047, LI2048, LI100000, LI1000000, LI38, LI39, LI41, LI44, LI46, LI47, LI49, LI50, LI51, LI52, LI53, LI54, LI55, LI56, LI57, LI58, LI59, LI62, LI63, LI65, LI66, LI67, LI68, LI69, LI70, LI71, LI72, LI73, LI74, LI75, LI76, LI77, LI78, LI79, LI81, LI82, LI83, LI84, LI85, LI86, LI87, LI88, LI89, LI90, LI91, LI92, LI93, LI94, LI95, LI96, LI97, LI98, LI99, LI100, LI101, LI102, LI103, LI104, LI105, LI106, LI107, LI108, LI109, LI110, LI111, LI112, LI113, LI114, LI115, LI116, LI117, LI118, LI119, LI120, LI121, LI122, LI123, LI124, LI125, LI126, LI127, LI255, LI256, LI999, LI1001, LI1002, LI1600, LI4096, LI1000001, LI2042, LM, nI_clamp, nI_pos', nI_lt, nI_nlt, nI_le, nI_ge, nI_ne, nI_add, nI_sub, mI_lt, mI_le, mI_nlt, mI_nle, mI_ne, mI_ne', mI_nem, s16, nk, w20, w21, w22, w23, s17, h254, e2, e3]
          · show z3.2.2.2.2.2 = _
            omega
          · rw [f3 c i (by omega) (by omega)]
            exact g2 c i c1 c2 (by omega)
          · rw [f3 _ _ (by omega) (by omega), g2 _ _ (by omega) (by omega) (by omega)]; exact h8
          · rw [f3 _ _ (by omega) (by omega), g4]; simp
        · rw [if_neg hK2]
          rw [show wcd 59 = nI 59 by decide] at e3
          refine Or.inl ⟨z3, j + 1, rfl, ?_, F3, rSt_trans (rSt_n hst (by omega) hs0) (rSt_trans st2 st3)⟩
          simp (disch := omega) [r203_0, r203_1, r203_4, r203_5, r203_6, r203_7, r203_8, r203_10, r203_13, r203_16, r203_17, r203_20, r203_21, r203_22, r203_24, r203_27, r203_28, r203_30, r203_31, r203_32, r203_33, r203_34, r203_37, r203_40, r203_43, r203_44, r203_47, r203_48, r203_51, r203_53, r203_54, r203_57, r203_58, r203_59, r203_62, r203_64, r203_65, r203_68, r203_69, r203_72, r203_73, r203_75, r203_78, r203_81, r203_82, r203_84, r203_87, r203_90, r203_91, r203_93, r203_96, r203_99, r203_100, r203_102, r203_105, r203_108, r203_109, r203_111, r203_114, r203_117, r203_118, r203_121, r203_123, r203_124, r203_127, r203_128, r203_129, r203_132, r203_135, r203_136, r203_137, r203_140, r203_143, r203_144, r203_145, r203_147, r203_150, r203_152, qa192, qo192, g241, qa186, qo186, qa200, qo200, qa191, qo191, qa193, qo193, vf12_16, vf12_28, t241_28, g258, p258, vf12_18, vf12_27, t241_27, g257, p257, qa187, qo187, vf12_24, t241_24, g254, p254, vf12_17, qa185, qo185, qa177, qo177, qa190, qo190, r203_39, List.getElem?_cons_zero, List.getElem?_cons_succ, List.length_cons, List.length_nil, ag_nx, ag_dn, ag_no, ag_if, jbr1, jbr2, jc1, jc2, jnul, jld, jsto, jstoL, jst1, jst2, jkill, jinc, jbI, jbL, jbS, juI, jl2i, jcmp, jisR, jisI, jisL, jret, jretv, jfits, jdup, jdup2, jpop, jmm, jcat, Value.category, jinv, jrcv, jthr, jhd, jput, jget, jlen, jald, jast, jaast, jgI, jgL, jgB, jtab, jlku, jacp, vf20, vf21, vf22, vf23, vf24, u2_s, u2_k, u2_i, uc_s, uc_k, uc_c, u2_c, LI0, LI1, LI2, LI3, LI4, LI5, LI6, LI7, LI8, LI9, LI10, LI11, LI12, LI13, LI14, LI15, LI16, LI17, LI18, LI19, LI20, LI21, LI22, LI23, LI24, LI25, LI26, LI27, LI28, LI29, LI30, LI31, LI32, LI33, LI34, LI35, LI36, LI37, LI40, LI42, LI43, LI45, LI48, LI60, LI61, LI64, LI80, LI300, LI400, LI1000, LI2000, LI2001, LI2047, LI2048, LI100000, LI1000000, LI38, LI39, LI41, LI44, LI46, LI47, LI49, LI50, LI51, LI52, LI53, LI54, LI55, LI56, LI57, LI58, LI59, LI62, LI63, LI65, LI66, LI67, LI68, LI69, LI70, LI71, LI72, LI73, LI74, LI75, LI76, LI77, LI78, LI79, LI81, LI82, LI83, LI84, LI85, LI86, LI87, LI88, LI89, LI90, LI91, LI92, LI93, LI94, LI95, LI96, LI97, LI98, LI99, LI100, LI101, LI102, LI103, LI104, LI105, LI106, LI107, LI108, LI109, LI110, LI111, LI112, LI113, LI114, LI115, LI116, LI117, LI118, LI119, LI120, LI121, LI122, LI123, LI124, LI125, LI126, LI127, LI255, LI256, LI999, LI1001, LI1002, LI1600, LI4096, LI1000001, LI2042, LM, nI_clamp, nI_pos', nI_lt, nI_nlt, nI_le, nI_ge, nI_ne, nI_add, nI_sub, mI_lt, mI_le, mI_nlt, mI_nle, mI_ne, mI_ne', mI_nem, s16, nk, w20, w21, w22, w23, s17, h254, e2, e3]
      · rw [if_pos hK] at w24
        rw [if_neg (by omega)] at w20
        rw [if_neg (by omega)] at w21
        rw [if_neg (by omega)] at w22
        rw [if_neg (by omega)] at w23
        have s17 := hT.2.2.2.2 (by omega)
        rw [hK, show wcd 24 = nI 22 by decide] at s17
        have ho : top0 (KK t N j) = some 14 := by rw [hK]; rfl
        have hq1 : rQ t N m B0 M0 j dp (z.1, u2 z.2.1 254 s (nI 22), z.2.2) := rQ_n hq (by omega)
        obtain ⟨z2, e2, q2, st2, n2, f2, _⟩ := rTok (d := d + D + 2) (A := A) (b := b) (h := h) (J := J) (R := R) hc hq1 (by omega) (by omega)
        have n2' : z2.2.2.2.2.2 = z.2.2.2.2.2 := n2
        have g2 : ∀ c i, 251 ≤ c → c ≤ 258 → ¬ (c = 254 ∧ i = s) → z2.2.1 c i = z.2.1 c i := fun c i c1 c2 c3 => by
          rw [f2 c i (by omega) (by omega)]
          show u2 z.2.1 254 s (nI 22) c i = _
          unfold u2
          rw [if_neg (by omega)]
        have g4 : z2.2.1 254 s = nI 22 := by
          rw [f2 254 s (by omega) (by omega)]
          show u2 z.2.1 254 s (nI 22) 254 s = _
          exact u2_s
        unfold aT
        rw [ho]
        unfold pN
        simp only
        rcases r190 (d := d + D) (A := A) (b := b) (h := h) (J := J) (R := R) (k0 := 59) hc q2 (by omega) (by omega) with ⟨hK2, z3, e3, q3, st3, n3, f3⟩ | ⟨hK2, z3, e3, F3, st3⟩
        · rw [if_pos hK2]
          rw [show wcd 59 = nI 59 by decide] at e3
          refine Or.inr ⟨z3, j + 2, rfl, ?_, q3, rSt_trans (rSt_n hst (by omega) hs0) (rSt_trans st2 st3), ?_, by omega, fun c i c1 c2 c3 c4 => ?_, ⟨14, rfl, Or.inr ⟨?_, ?_⟩⟩, ⟨Nat.le_trans st2.2.1 st3.2.1, fun u hu => ((st3.2.2.1 u (Nat.lt_of_lt_of_le hu st2.2.1)).trans (st2.2.2.1 u hu)).trans (rnm_n (by omega))⟩⟩
          · simp (disch := omega) [r203_0, r203_1, r203_4, r203_5, r203_6, r203_7, r203_8, r203_10, r203_13, r203_16, r203_17, r203_20, r203_21, r203_22, r203_24, r203_27, r203_28, r203_30, r203_31, r203_32, r203_33, r203_34, r203_37, r203_40, r203_43, r203_44, r203_47, r203_48, r203_51, r203_53, r203_54, r203_57, r203_58, r203_59, r203_62, r203_64, r203_65, r203_68, r203_69, r203_72, r203_73, r203_75, r203_78, r203_81, r203_82, r203_84, r203_87, r203_90, r203_91, r203_93, r203_96, r203_99, r203_100, r203_102, r203_105, r203_108, r203_109, r203_111, r203_114, r203_117, r203_118, r203_121, r203_123, r203_124, r203_127, r203_128, r203_129, r203_132, r203_135, r203_136, r203_137, r203_140, r203_143, r203_144, r203_145, r203_147, r203_150, r203_152, qa192, qo192, g241, qa186, qo186, qa200, qo200, qa191, qo191, qa193, qo193, vf12_16, vf12_28, t241_28, g258, p258, vf12_18, vf12_27, t241_27, g257, p257, qa187, qo187, vf12_24, t241_24, g254, p254, vf12_17, qa185, qo185, qa177, qo177, qa190, qo190, r203_39, List.getElem?_cons_zero, List.getElem?_cons_succ, List.length_cons, List.length_nil, ag_nx, ag_dn, ag_no, ag_if, jbr1, jbr2, jc1, jc2, jnul, jld, jsto, jstoL, jst1, jst2, jkill, jinc, jbI, jbL, jbS, juI, jl2i, jcmp, jisR, jisI, jisL, jret, jretv, jfits, jdup, jdup2, jpop, jmm, jcat, Value.category, jinv, jrcv, jthr, jhd, jput, jget, jlen, jald, jast, jaast, jgI, jgL, jgB, jtab, jlku, jacp, vf20, vf21, vf22, vf23, vf24, u2_s, u2_k, u2_i, uc_s, uc_k, uc_c, u2_c, LI0, LI1, LI2, LI3, LI4, LI5, LI6, LI7, LI8, LI9, LI10, LI11, LI12, LI13, LI14, LI15, LI16, LI17, LI18, LI19, LI20, LI21, LI22, LI23, LI24, LI25, LI26, LI27, LI28, LI29, LI30, LI31, LI32, LI33, LI34, LI35, LI36, LI37, LI40, LI42, LI43, LI45, LI48, LI60, LI61, LI64, LI80, LI300, LI400, LI1000, LI2000, LI2001, LI2047, LI2048, LI100000, LI1000000, LI38, LI39, LI41, LI44, LI46, LI47, LI49, LI50, LI51, LI52, LI53, LI54, LI55, LI56, LI57, LI58, LI59, LI62, LI63, LI65, LI66, LI67, LI68, LI69, LI70, LI71, LI72, LI73, LI74, LI75, LI76, LI77, LI78, LI79, LI81, LI82, LI83, LI84, LI85, LI86, LI87, LI88, LI89, LI90, LI91, LI92, LI93, LI94, LI95, LI96, LI97, LI98, LI99, LI100, LI101, LI102, LI103, LI104, LI105, LI106, LI107, LI108, LI109, LI110, LI111, LI112, LI113, LI114, LI115, LI116, LI117, LI118, LI119, LI120, LI121, LI122, LI123, LI124, LI125, LI126, LI127, LI255, LI256, LI999, LI1001, LI1002, LI1600, LI4096, LI1000001, LI2042, LM, nI_clamp, nI_pos', nI_lt, nI_nlt, nI_le, nI_ge, nI_ne, nI_add, nI_sub, mI_lt, mI_le, mI_nlt, mI_nle, mI_ne, mI_ne', mI_nem, s16, nk, w20, w21, w22, w23, w24, s17, h254, e2, e3]
          · show z3.2.2.2.2.2 = _
            omega
          · rw [f3 c i (by omega) (by omega)]
            exact g2 c i c1 c2 (by omega)
          · rw [f3 _ _ (by omega) (by omega), g2 _ _ (by omega) (by omega) (by omega)]; exact h8
          · rw [f3 _ _ (by omega) (by omega), g4]; simp
        · rw [if_neg hK2]
          rw [show wcd 59 = nI 59 by decide] at e3
          refine Or.inl ⟨z3, j + 1, rfl, ?_, F3, rSt_trans (rSt_n hst (by omega) hs0) (rSt_trans st2 st3)⟩
          simp (disch := omega) [r203_0, r203_1, r203_4, r203_5, r203_6, r203_7, r203_8, r203_10, r203_13, r203_16, r203_17, r203_20, r203_21, r203_22, r203_24, r203_27, r203_28, r203_30, r203_31, r203_32, r203_33, r203_34, r203_37, r203_40, r203_43, r203_44, r203_47, r203_48, r203_51, r203_53, r203_54, r203_57, r203_58, r203_59, r203_62, r203_64, r203_65, r203_68, r203_69, r203_72, r203_73, r203_75, r203_78, r203_81, r203_82, r203_84, r203_87, r203_90, r203_91, r203_93, r203_96, r203_99, r203_100, r203_102, r203_105, r203_108, r203_109, r203_111, r203_114, r203_117, r203_118, r203_121, r203_123, r203_124, r203_127, r203_128, r203_129, r203_132, r203_135, r203_136, r203_137, r203_140, r203_143, r203_144, r203_145, r203_147, r203_150, r203_152, qa192, qo192, g241, qa186, qo186, qa200, qo200, qa191, qo191, qa193, qo193, vf12_16, vf12_28, t241_28, g258, p258, vf12_18, vf12_27, t241_27, g257, p257, qa187, qo187, vf12_24, t241_24, g254, p254, vf12_17, qa185, qo185, qa177, qo177, qa190, qo190, r203_39, List.getElem?_cons_zero, List.getElem?_cons_succ, List.length_cons, List.length_nil, ag_nx, ag_dn, ag_no, ag_if, jbr1, jbr2, jc1, jc2, jnul, jld, jsto, jstoL, jst1, jst2, jkill, jinc, jbI, jbL, jbS, juI, jl2i, jcmp, jisR, jisI, jisL, jret, jretv, jfits, jdup, jdup2, jpop, jmm, jcat, Value.category, jinv, jrcv, jthr, jhd, jput, jget, jlen, jald, jast, jaast, jgI, jgL, jgB, jtab, jlku, jacp, vf20, vf21, vf22, vf23, vf24, u2_s, u2_k, u2_i, uc_s, uc_k, uc_c, u2_c, LI0, LI1, LI2, LI3, LI4, LI5, LI6, LI7, LI8, LI9, LI10, LI11, LI12, LI13, LI14, LI15, LI16, LI17, LI18, LI19, LI20, LI21, LI22, LI23, LI24, LI25, LI26, LI27, LI28, LI29, LI30, LI31, LI32, LI33, LI34, LI35, LI36, LI37, LI40, LI42, LI43, LI45, LI48, LI60, LI61, LI64, LI80, LI300, LI400, LI1000, LI2000, LI2001, LI2047, LI2048, LI100000, LI1000000, LI38, LI39, LI41, LI44, LI46, LI47, LI49, LI50, LI51, LI52, LI53, LI54, LI55, LI56, LI57, LI58, LI59, LI62, LI63, LI65, LI66, LI67, LI68, LI69, LI70, LI71, LI72, LI73, LI74, LI75, LI76, LI77, LI78, LI79, LI81, LI82, LI83, LI84, LI85, LI86, LI87, LI88, LI89, LI90, LI91, LI92, LI93, LI94, LI95, LI96, LI97, LI98, LI99, LI100, LI101, LI102, LI103, LI104, LI105, LI106, LI107, LI108, LI109, LI110, LI111, LI112, LI113, LI114, LI115, LI116, LI117, LI118, LI119, LI120, LI121, LI122, LI123, LI124, LI125, LI126, LI127, LI255, LI256, LI999, LI1001, LI1002, LI1600, LI4096, LI1000001, LI2042, LM, nI_clamp, nI_pos', nI_lt, nI_nlt, nI_le, nI_ge, nI_ne, nI_add, nI_sub, mI_lt, mI_le, mI_nlt, mI_nle, mI_ne, mI_ne', mI_nem, s16, nk, w20, w21, w22, w23, w24, s17, h254, e2, e3]
    · have ho : top0 (KK t N j) = none := by
        unfold top0
        rw [if_neg (by omega), if_neg (by omega), if_neg (by omega), if_neg (by omega), if_neg (by omega), if_neg (by omega)]
      rw [if_neg (by omega)] at w20
      rw [if_neg (by omega)] at w21
      rw [if_neg (by omega)] at w22
      rw [if_neg (by omega)] at w23
      rw [if_neg (by omega)] at w24
      obtain ⟨z', e, q1, q2, q3⟩ := r177 (d := d + D + 7) (A := A) (b := b) (h := h) (J := J) (R := R) hq
      refine Or.inl ⟨z', j, by unfold aT; rw [ho], ?_, q1, rSt_trans hst q2⟩
      simp (disch := omega) [r203_0, r203_1, r203_4, r203_5, r203_6, r203_7, r203_8, r203_10, r203_13, r203_16, r203_17, r203_20, r203_21, r203_22, r203_24, r203_27, r203_28, r203_30, r203_31, r203_32, r203_33, r203_34, r203_37, r203_40, r203_43, r203_44, r203_47, r203_48, r203_51, r203_53, r203_54, r203_57, r203_58, r203_59, r203_62, r203_64, r203_65, r203_68, r203_69, r203_72, r203_73, r203_75, r203_78, r203_81, r203_82, r203_84, r203_87, r203_90, r203_91, r203_93, r203_96, r203_99, r203_100, r203_102, r203_105, r203_108, r203_109, r203_111, r203_114, r203_117, r203_118, r203_121, r203_123, r203_124, r203_127, r203_128, r203_129, r203_132, r203_135, r203_136, r203_137, r203_140, r203_143, r203_144, r203_145, r203_147, r203_150, r203_152, qa192, qo192, g241, qa186, qo186, qa200, qo200, qa191, qo191, qa193, qo193, vf12_16, vf12_28, t241_28, g258, p258, vf12_18, vf12_27, t241_27, g257, p257, qa187, qo187, vf12_24, t241_24, g254, p254, vf12_17, qa185, qo185, qa177, qo177, qa190, qo190, r203_39, List.getElem?_cons_zero, List.getElem?_cons_succ, List.length_cons, List.length_nil, ag_nx, ag_dn, ag_no, ag_if, jbr1, jbr2, jc1, jc2, jnul, jld, jsto, jstoL, jst1, jst2, jkill, jinc, jbI, jbL, jbS, juI, jl2i, jcmp, jisR, jisI, jisL, jret, jretv, jfits, jdup, jdup2, jpop, jmm, jcat, Value.category, jinv, jrcv, jthr, jhd, jput, jget, jlen, jald, jast, jaast, jgI, jgL, jgB, jtab, jlku, jacp, vf20, vf21, vf22, vf23, vf24, u2_s, u2_k, u2_i, uc_s, uc_k, uc_c, u2_c, LI0, LI1, LI2, LI3, LI4, LI5, LI6, LI7, LI8, LI9, LI10, LI11, LI12, LI13, LI14, LI15, LI16, LI17, LI18, LI19, LI20, LI21, LI22, LI23, LI24, LI25, LI26, LI27, LI28, LI29, LI30, LI31, LI32, LI33, LI34, LI35, LI36, LI37, LI40, LI42, LI43, LI45, LI48, LI60, LI61, LI64, LI80, LI300, LI400, LI1000, LI2000, LI2001, LI2047, LI2048, LI100000, LI1000000, LI38, LI39, LI41, LI44, LI46, LI47, LI49, LI50, LI51, LI52, LI53, LI54, LI55, LI56, LI57, LI58, LI59, LI62, LI63, LI65, LI66, LI67, LI68, LI69, LI70, LI71, LI72, LI73, LI74, LI75, LI76, LI77, LI78, LI79, LI81, LI82, LI83, LI84, LI85, LI86, LI87, LI88, LI89, LI90, LI91, LI92, LI93, LI94, LI95, LI96, LI97, LI98, LI99, LI100, LI101, LI102, LI103, LI104, LI105, LI106, LI107, LI108, LI109, LI110, LI111, LI112, LI113, LI114, LI115, LI116, LI117, LI118, LI119, LI120, LI121, LI122, LI123, LI124, LI125, LI126, LI127, LI255, LI256, LI999, LI1001, LI1002, LI1600, LI4096, LI1000001, LI2042, LM, nI_clamp, nI_pos', nI_lt, nI_nlt, nI_le, nI_ge, nI_ne, nI_add, nI_sub, mI_lt, mI_le, mI_nlt, mI_nle, mI_ne, mI_ne', mI_nem, s16, nk, w20, w21, w22, w23, w24, e, jath, g242]
end RSN
