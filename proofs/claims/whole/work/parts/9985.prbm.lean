/-! the reference reads blocks: all of it -/
section RBM
variable {A : Nat → Nat} {d b : Nat} {h : Nat → Option jC} {J : Nat → Nat → Int64} {R : Nat → Nat → Nat} {t : Nat → Int32} {N m B0 M0 : Nat} {g dp D pr x : Nat}
theorem rBk_up {D' : Nat} {B : Nat → Nat → pR} (hD : D ≤ D') (hB : rBk A h b J R t N m B0 M0 pr D dp g B) : rBk A h b J R t N m B0 M0 pr D' dp g B := by
  intro d z j L hq hm
  have := hB (d + (D' - D)) z j L hq hm
  rw [show d + (D' - D) + D = d + D' by omega] at this
  exact this
/-- a block, however deep -/
theorem r199b (hc : rCx A t N m B0 M0) (hg : g < 8) {Ac : Nat → Nat → pR} (hA : rAk A h b J R t N m B0 M0 pr (D + 8) (8 - g) g Ac) (hAo : ∀ L j, j ≤ m → pOK m j (Ac L j)) {z : rZ} {j L : Nat} (hq : rQ t N m B0 M0 j (7 - g) z) : (KK t N j ≠ 123 ∧ ∃ z', jcall A jcode (d + (D + 9)) 199 [.ref (b + 241)] (HZ h b J R z) = some (.inr 11, HZ h b J R z') ∧ rF t N m B0 M0 j z' ∧ rSt z z') ∨ (KK t N j = 123 ∧ ((∃ z' j', bL (KK t N) Ac L 2001 [] (j + 1) = (none, j') ∧ jcall A jcode (d + (D + 9)) 199 [.ref (b + 241)] (HZ h b J R z) = some (.inr 11, HZ h b J R z') ∧ rF t N m B0 M0 j' z' ∧ rSt z z') ∨ ∃ z' l j', bL (KK t N) Ac L 2001 [] (j + 1) = (some l, j') ∧ KK t N j' = 125 ∧ jcall A jcode (d + (D + 9)) 199 [.ref (b + 241)] (HZ h b J R z) = some (.inl (some (.int (nI z.2.2.2.2.2))), HZ h b J R z') ∧ rQ t N m B0 M0 (j' + 1) (7 - g) z' ∧ rSt z z' ∧ j < j' ∧ z'.2.2.2.2.2 ≤ z.2.2.2.2.2 + (j' + 1 - j) ∧ QB t N pr g z z' z.2.2.2.2.2 L l)) := by
  have hT := rTk_k hq.2.1
  have s18 := hT.1
  have hMz := hq.2.2.2.2.2
  have hk1 := hc.2.2.1.1
  have e186 := r186 (d := d + D + 7) (A := A) (b := b) (h := h) (J := J) (R := R) (k0 := 123) hq (by omega) (by omega)
  rw [show d + D + 7 + 1 = d + (D + 8) from rfl, show wcd 123 = nI 123 by decide] at e186
  rw [show d + (D + 9) = d + (D + 8) + 1 from rfl]
  by_cases hK : KK t N j = 123
  · refine Or.inr ⟨hK, ?_⟩
    rw [if_pos hK] at e186
    rcases r194 (d := d + D + 6) (A := A) (b := b) (h := h) (J := J) (R := R) hq (by omega) with ⟨_, z1, e1, q1, st1, hz1⟩ | ⟨h8, _⟩
    · rw [show 7 - g + 1 = 8 - g by omega] at q1
      rw [show d + D + 6 + 2 = d + (D + 8) from rfl] at e1
      have n1 : z1.2.2.2.2.2 = z.2.2.2.2.2 := by rw [hz1]
      obtain ⟨z2, e2, q2, st2, n2, f2, _⟩ := rTok (d := d + D + 2) (A := A) (b := b) (h := h) (J := J) (R := R) hc q1 (by omega) (by omega)
      rw [show d + D + 2 + 6 = d + (D + 8) from rfl] at e2
      obtain ⟨z3, e3, q3, st3, n3, nn3, d3, f3⟩ := rNode (d := d + D + 6) (A := A) (b := b) (h := h) (J := J) (R := R) (k := nI 19) (x1 := mI 1) (x2 := nI 0) (x3 := nI 0) (fr := nI (tpos t N j)) hc q2 (by omega)
      rw [show d + D + 6 + 2 = d + (D + 8) from rfl] at e3
      have hn : z2.2.2.2.2.2 = z.2.2.2.2.2 := by omega
      rw [hn] at e3 d3 n3
      have hst3 := rSt_trans st1 (rSt_trans st2 st3)
      have hbk : bkI t N pr g z.2.2.2.2.2 L z3 [] [] := by
        refine ⟨by omega, d3.1, ?_, (fun y hy => by cases hy), by simp only [List.length_nil]; omega, ?_⟩
        · rw [d3.2.1]; rfl
        · rw [n3, show z.2.2.2.2.2 + 1 - z.2.2.2.2.2 = 0 + 1 by omega]
          rfl
      have e44 : jcall A jcode (d + (D + 8) + 1) 199 [.ref (b + 241)] (HZ h b J R z) = M199 A (d + (D + 8)) 44 [some (.ref (b + 241)), some (.int (nI (tpos t N j))), some (.int (nI z.2.2.2.2.2)), some (.int (mI 1)), none] [] (HZ h b J R z3) := by
        simp (disch := omega) [je199, r199_0, r199_1, r199_4, r199_5, r199_6, r199_8, r199_11, r199_14, r199_15, r199_16, r199_19, r199_22, r199_23, r199_24, r199_27, r199_28, r199_31, r199_32, r199_34, r199_35, r199_36, r199_37, r199_38, r199_41, r199_42, r199_43, r199_45, r199_47, r199_50, r199_53, r199_54, r199_57, r199_59, r199_60, r199_63, r199_64, r199_67, r199_68, r199_70, r199_71, r199_74, r199_75, r199_78, r199_79, r199_81, r199_82, r199_84, r199_85, r199_88, r199_89, r199_92, r199_93, r199_94, r199_97, r199_98, r199_99, r199_102, r199_103, g241, vf12_18, qa186, qo186, qa177, qo177, qa194, qo194, qa185, qo185, qa193, qo193, qa201, qo201, vf12_22, t241_22, g252, p252, vf12_25, t241_25, g255, p255, vf12_30, p241_30, ty12_30, List.getElem?_cons_zero, List.getElem?_cons_succ, List.length_cons, List.length_nil, ag_nx, ag_dn, ag_no, ag_if, jbr1, jbr2, jc1, jc2, jnul, jld, jsto, jstoL, jst1, jst2, jkill, jinc, jbI, jbL, jbS, juI, jl2i, jcmp, jisR, jisI, jisL, jret, jretv, jfits, jdup, jdup2, jpop, jmm, jcat, Value.category, jinv, jrcv, jthr, jhd, jput, jget, jlen, jald, jast, jaast, jgI, jgL, jgB, jtab, jlku, jacp, vf20, vf21, vf22, vf23, vf24, u2_s, u2_k, u2_i, uc_s, uc_k, uc_c, u2_c, LI0, LI1, LI2, LI3, LI4, LI5, LI6, LI7, LI8, LI9, LI10, LI11, LI12, LI13, LI14, LI15, LI16, LI17, LI18, LI19, LI20, LI21, LI22, LI23, LI24, LI25, LI26, LI27, LI28, LI29, LI30, LI31, LI32, LI33, LI34, LI35, LI36, LI37, LI40, LI42, LI43, LI45, LI48, LI60, LI61, LI64, LI80, LI300, LI400, LI1000, LI2000, LI2001, LI2047, LI2048, LI100000, LI1000000, LI38, LI39, LI41, LI44, LI46, LI47, LI49, LI50, LI51, LI52, LI53, LI54, LI55, LI56, LI57, LI58, LI59, LI62, LI63, LI65, LI66, LI67, LI68, LI69, LI70, LI71, LI72, LI73, LI74, LI75, LI76, LI77, LI78, LI79, LI81, LI82, LI83, LI84, LI85, LI86, LI87, LI88, LI89, LI90, LI91, LI92, LI93, LI94, LI95, LI96, LI97, LI98, LI99, LI100, LI101, LI102, LI103, LI104, LI105, LI106, LI107, LI108, LI109, LI110, LI111, LI112, LI113, LI114, LI115, LI116, LI117, LI118, LI119, LI120, LI121, LI122, LI123, LI124, LI125, LI126, LI127, LI255, LI256, LI999, LI1001, LI1002, LI1600, LI4096, LI1000001, LI2042, LM, nI_clamp, nI_pos', nI_lt, nI_nlt, nI_le, nI_ge, nI_ne, nI_add, nI_sub, mI_lt, mI_le, mI_nlt, mI_nle, mI_ne, mI_ne', mI_nem, s18, e186, e1, e2, e3]
      rw [e44]
      rcases r199l (d := d) (A := A) (b := b) (h := h) (J := J) (R := R) hc hA hAo (z0 := z) (j0 := j) (L := L) (fr := nI (tpos t N j)) 2001 z3 (j + 1) [] [] (mI 1) none (by omega) q3 hst3 (by omega) (by omega) hbk (Or.inl ⟨rfl, rfl⟩) (fun y hy => by cases hy) with ⟨z', j', b1, b2, b3, b4⟩ | ⟨z4, l, j', as, lst, c4, b1, b2, b3, q4, st4, hn4, hj4, hb4⟩
      · exact Or.inl ⟨z', j', b1, b2, b3, b4⟩
      · obtain ⟨z5, e5, q5, st5, n5, f5, _⟩ := rTok (d := d + D + 2) (A := A) (b := b) (h := h) (J := J) (R := R) hc q4 (by omega) (by omega)
        rw [show d + D + 2 + 6 = d + (D + 8) from rfl] at e5
        have s30 := q5.2.2.2.1
        have ol := bL_ok hc.2.2.1.2.1 hAo (L := L) (j0 := j + 1) 2001 [] (j + 1) (Nat.le_refl _) q2.2.2.2.2.1 (by simp) (by simp)
        rw [b1] at ol
        have ol1 := ol.1
        simp only at ol1
        have hst5 : rSt z4 (z5.1, u2 z5.2.1 241 30 (nI (7 - g)), z5.2.2) := rSt_trans st5 (rSt_u (by omega))
        have f6 : ∀ c i, 251 ≤ c → c ≤ 258 → u2 z5.2.1 241 30 (nI (7 - g)) c i = z4.2.1 c i := fun c i c1 c2 => by
          rw [u2_k (by omega)]
          exact f5 c i (by omega) (by omega)
        obtain ⟨k1, k2, k3, k4, k5, k6⟩ := hb4
        refine Or.inr ⟨(z5.1, u2 z5.2.1 241 30 (nI (7 - g)), z5.2.2), l, j', b1, b2, ?_, rQ_u q5 (by omega) u2_s, rSt_trans st4 hst5, by omega, by show z5.2.2.2.2.2 ≤ _; omega, rfl, by show _ < z5.2.2.2.2.2; omega, ?_, as, ?_, fun y hy => by show y < z5.2.2.2.2.2; have := k4 y hy; omega, ?_⟩
        · rw [b3, show 7 - g = 8 - g - 1 by omega]
          simp (disch := omega) [r199_0, r199_1, r199_4, r199_5, r199_6, r199_8, r199_11, r199_14, r199_15, r199_16, r199_19, r199_22, r199_23, r199_24, r199_27, r199_28, r199_31, r199_32, r199_34, r199_35, r199_36, r199_37, r199_38, r199_41, r199_42, r199_43, r199_45, r199_47, r199_50, r199_53, r199_54, r199_57, r199_59, r199_60, r199_63, r199_64, r199_67, r199_68, r199_70, r199_71, r199_74, r199_75, r199_78, r199_79, r199_81, r199_82, r199_84, r199_85, r199_88, r199_89, r199_92, r199_93, r199_94, r199_97, r199_98, r199_99, r199_102, r199_103, g241, vf12_18, qa186, qo186, qa177, qo177, qa194, qo194, qa185, qo185, qa193, qo193, qa201, qo201, vf12_22, t241_22, g252, p252, vf12_25, t241_25, g255, p255, vf12_30, p241_30, ty12_30, List.getElem?_cons_zero, List.getElem?_cons_succ, List.length_cons, List.length_nil, ag_nx, ag_dn, ag_no, ag_if, jbr1, jbr2, jc1, jc2, jnul, jld, jsto, jstoL, jst1, jst2, jkill, jinc, jbI, jbL, jbS, juI, jl2i, jcmp, jisR, jisI, jisL, jret, jretv, jfits, jdup, jdup2, jpop, jmm, jcat, Value.category, jinv, jrcv, jthr, jhd, jput, jget, jlen, jald, jast, jaast, jgI, jgL, jgB, jtab, jlku, jacp, vf20, vf21, vf22, vf23, vf24, u2_s, u2_k, u2_i, uc_s, uc_k, uc_c, u2_c, LI0, LI1, LI2, LI3, LI4, LI5, LI6, LI7, LI8, LI9, LI10, LI11, LI12, LI13, LI14, LI15, LI16, LI17, LI18, LI19, LI20, LI21, LI22, LI23, LI24, LI25, LI26, LI27, LI28, LI29, LI30, LI31, LI32, LI33, LI34, LI35, LI36, LI37, LI40, LI42, LI43, LI45, LI48, LI60, LI61, LI64, LI80, LI300, LI400, LI1000, LI2000, LI2001, LI2047, LI2048, LI100000, LI1000000, LI38, LI39, LI41, LI44, LI46, LI47, LI49, LI50, LI51, LI52, LI53, LI54, LI55, LI56, LI57, LI58, LI59, LI62, LI63, LI65, LI66, LI67, LI68, LI69, LI70, LI71, LI72, LI73, LI74, LI75, LI76, LI77, LI78, LI79, LI81, LI82, LI83, LI84, LI85, LI86, LI87, LI88, LI89, LI90, LI91, LI92, LI93, LI94, LI95, LI96, LI97, LI98, LI99, LI100, LI101, LI102, LI103, LI104, LI105, LI106, LI107, LI108, LI109, LI110, LI111, LI112, LI113, LI114, LI115, LI116, LI117, LI118, LI119, LI120, LI121, LI122, LI123, LI124, LI125, LI126, LI127, LI255, LI256, LI999, LI1001, LI1002, LI1600, LI4096, LI1000001, LI2042, LM, nI_clamp, nI_pos', nI_lt, nI_nlt, nI_le, nI_ge, nI_ne, nI_add, nI_sub, mI_lt, mI_le, mI_nlt, mI_nle, mI_ne, mI_ne', mI_nem, e5, s30]
        · show u2 z5.2.1 241 30 (nI (7 - g)) 251 _ = _
          rw [f6 _ _ (by omega) (by omega)]; exact k2
        · show chn (u2 z5.2.1 241 30 (nI (7 - g))) (u2 z5.2.1 241 30 (nI (7 - g)) 252 _) as
          rw [f6 _ _ (by omega) (by omega)]
          exact chn_st as _ (fun y hy => f6 _ _ (by omega) (by omega)) k3
        · have : z5.2.2.2.2.2 - z.2.2.2.2.2 = z4.2.2.2.2.2 - z.2.2.2.2.2 := by omega
          show bR t N (u2 z5.2.1 241 30 (nI (7 - g))) z5.2.2.2.1 pr (z5.2.2.2.2.2 - z.2.2.2.2.2) g _ as L l
          rw [this]
          exact bR_st _ _ _ z4.2.2.2.2.2 z4.2.2.2.2.2 as _ _ (fun c i c1 c2 c3 c4 c5 => f6 c i c1 c2) (fun y hy => ⟨by have := k4 y hy; omega, k4 y hy⟩) hst5.2.2.1 hst5.2.1 k6
    · omega
  · refine Or.inl ⟨hK, ?_⟩
    rw [if_neg hK] at e186
    obtain ⟨z', e, q1, q2, q3⟩ := r177 (d := d + D + 7) (A := A) (b := b) (h := h) (J := J) (R := R) hq
    rw [show d + D + 7 + 1 = d + (D + 8) from rfl] at e
    refine ⟨z', ?_, q1, q2⟩
    simp (disch := omega) [je199, r199_0, r199_1, r199_4, r199_5, r199_6, r199_8, r199_11, r199_14, r199_15, r199_16, r199_19, r199_22, r199_23, r199_24, r199_27, r199_28, r199_31, r199_32, r199_34, r199_35, r199_36, r199_37, r199_38, r199_41, r199_42, r199_43, r199_44, r199_45, r199_47, r199_50, r199_53, r199_54, r199_57, r199_59, r199_60, r199_63, r199_64, r199_67, r199_68, r199_70, r199_71, r199_74, r199_75, r199_78, r199_79, r199_81, r199_82, r199_84, r199_85, r199_88, r199_89, r199_92, r199_93, r199_94, r199_97, r199_98, r199_99, r199_102, r199_103, g241, vf12_18, qa186, qo186, qa177, qo177, qa194, qo194, qa185, qo185, qa193, qo193, qa201, qo201, vf12_22, t241_22, g252, p252, vf12_25, t241_25, g255, p255, vf12_30, p241_30, ty12_30, List.getElem?_cons_zero, List.getElem?_cons_succ, List.length_cons, List.length_nil, ag_nx, ag_dn, ag_no, ag_if, jbr1, jbr2, jc1, jc2, jnul, jld, jsto, jstoL, jst1, jst2, jkill, jinc, jbI, jbL, jbS, juI, jl2i, jcmp, jisR, jisI, jisL, jret, jretv, jfits, jdup, jdup2, jpop, jmm, jcat, Value.category, jinv, jrcv, jthr, jhd, jput, jget, jlen, jald, jast, jaast, jgI, jgL, jgB, jtab, jlku, jacp, vf20, vf21, vf22, vf23, vf24, u2_s, u2_k, u2_i, uc_s, uc_k, uc_c, u2_c, LI0, LI1, LI2, LI3, LI4, LI5, LI6, LI7, LI8, LI9, LI10, LI11, LI12, LI13, LI14, LI15, LI16, LI17, LI18, LI19, LI20, LI21, LI22, LI23, LI24, LI25, LI26, LI27, LI28, LI29, LI30, LI31, LI32, LI33, LI34, LI35, LI36, LI37, LI40, LI42, LI43, LI45, LI48, LI60, LI61, LI64, LI80, LI300, LI400, LI1000, LI2000, LI2001, LI2047, LI2048, LI100000, LI1000000, LI38, LI39, LI41, LI44, LI46, LI47, LI49, LI50, LI51, LI52, LI53, LI54, LI55, LI56, LI57, LI58, LI59, LI62, LI63, LI65, LI66, LI67, LI68, LI69, LI70, LI71, LI72, LI73, LI74, LI75, LI76, LI77, LI78, LI79, LI81, LI82, LI83, LI84, LI85, LI86, LI87, LI88, LI89, LI90, LI91, LI92, LI93, LI94, LI95, LI96, LI97, LI98, LI99, LI100, LI101, LI102, LI103, LI104, LI105, LI106, LI107, LI108, LI109, LI110, LI111, LI112, LI113, LI114, LI115, LI116, LI117, LI118, LI119, LI120, LI121, LI122, LI123, LI124, LI125, LI126, LI127, LI255, LI256, LI999, LI1001, LI1002, LI1600, LI4096, LI1000001, LI2042, LM, nI_clamp, nI_pos', nI_lt, nI_nlt, nI_le, nI_ge, nI_ne, nI_add, nI_sub, mI_lt, mI_le, mI_nlt, mI_nle, mI_ne, mI_ne', mI_nem, e186, e, jath, g242]
theorem rBlk (hc : rCx A t N m B0 M0) (hg : g < 8) {Ac : Nat → Nat → pR} (hA : rAk A h b J R t N m B0 M0 pr (D + 8) (8 - g) g Ac) (hAo : ∀ L j, j ≤ m → pOK m j (Ac L j)) : rBk A h b J R t N m B0 M0 pr (D + 9) (7 - g) g (bI0 (KK t N) Ac) := by
  intro d z j L hq _
  unfold bI0
  rcases r199b (d := d) (A := A) (b := b) (h := h) (J := J) (R := R) hc hg hA hAo (L := L) hq with ⟨hK, z', e, F, st⟩ | ⟨hK, hr⟩
  · rw [if_neg hK]
    exact Or.inl ⟨z', j, rfl, e, F, st⟩
  · rw [if_pos hK]
    rcases hr with ⟨z', j', b1, b2, b3, b4⟩ | ⟨z', l, j', b1, b2, b3, b4, b5, b6, b7, b8⟩
    · exact Or.inl ⟨z', j', pB_n b1, b2, b3, b4⟩
    · refine Or.inr ⟨z', l, j' + 1, _, ?_, b3, b4, b5, by omega, b7, b8⟩
      rw [pB_s b1]
      unfold pN
      rw [if_pos b2]
theorem rAc0 (hc : rCx A t N m B0 M0) : rAk A h b J R t N m B0 M0 pr (4 * 0 + 15) (8 - 0) 0 (aA (KK t N) pr 0) := by
  intro d z j L hq
  show (∃ z' j', a1 (KK t N) pr 0 (fun _ j => (none, j)) L j = (none, j') ∧ _) ∨ ∃ z' l0 j' e, a1 (KK t N) pr 0 (fun _ j => (none, j)) L j = (some l0, j') ∧ _
  unfold a1
  rw [show d + (4 * 0 + 15) = d + 0 + 4 * 0 + 14 + 1 from rfl]
  by_cases k26 : KK t N j = 26
  · rw [if_pos k26]; exact r201a (d := d) (x := 0) (g := 0) (A := A) (b := b) (h := h) (J := J) (R := R) (pr := pr) (L := L) hc (by omega) hq k26
  rw [if_neg k26]
  by_cases k10 : KK t N j = 10
  · rw [if_pos k10]; exact r201b (d := d) (x := 0) (g := 0) (A := A) (b := b) (h := h) (J := J) (R := R) (pr := pr) (L := L) hc (by omega) hq k10
  rw [if_neg k10]
  by_cases k12 : KK t N j = 12
  · rw [if_pos k12]; exact r201c (d := d) (x := 0) (g := 0) (A := A) (b := b) (h := h) (J := J) (R := R) (pr := pr) (L := L) hc (by omega) hq k12
  rw [if_neg k12]
  by_cases k13 : KK t N j = 13
  · rw [if_pos (Or.inl k13 : KK t N j = 13 ∨ KK t N j = 14 ∨ KK t N j = 15)]; rw [k13]; exact r201d (d := d) (x := 0) (g := 0) (A := A) (b := b) (h := h) (J := J) (R := R) (pr := pr) (L := L) hc (by omega) hq k13
  by_cases k14 : KK t N j = 14
  · rw [if_pos (Or.inr (Or.inl k14) : KK t N j = 13 ∨ KK t N j = 14 ∨ KK t N j = 15)]; rw [k14]; exact r201e (d := d) (x := 0) (g := 0) (A := A) (b := b) (h := h) (J := J) (R := R) (pr := pr) (L := L) hc (by omega) hq k14
  by_cases k15 : KK t N j = 15
  · rw [if_pos (Or.inr (Or.inr k15) : KK t N j = 13 ∨ KK t N j = 14 ∨ KK t N j = 15)]; rw [k15]; exact r201f (d := d) (x := 0) (g := 0) (A := A) (b := b) (h := h) (J := J) (R := R) (pr := pr) (L := L) hc (by omega) hq k15
  rw [if_neg (show ¬ (KK t N j = 13 ∨ KK t N j = 14 ∨ KK t N j = 15) by omega)]
  by_cases k16 : KK t N j = 16
  · rw [if_pos k16]; exact r201g (d := d) (x := 0) (g := 0) (A := A) (b := b) (h := h) (J := J) (R := R) (pr := pr) (L := L) hc (by omega) hq k16
  rw [if_neg k16]
  by_cases k17 : KK t N j = 17
  · rw [if_pos k17]; exact r201h (d := d) (x := 0) (g := 0) (A := A) (b := b) (h := h) (J := J) (R := R) (pr := pr) (L := L) hc (by omega) hq k17
  rw [if_neg k17]
  by_cases k18 : KK t N j = 18
  · rw [if_pos k18]
    obtain ⟨z', e, F, st⟩ := r201w (d := d) (x := 0) (A := A) (b := b) (h := h) (J := J) (R := R) hc hq k18
    exact Or.inl ⟨z', j + 1, rfl, e, F, st⟩
  · rw [if_neg k18]
    obtain ⟨z', e, F, st⟩ := r201z (d := d) (x := 0) (g := 0) (A := A) (b := b) (h := h) (J := J) (R := R) hc hq k26 k10 k12 k13 k14 k15 k16 k17 k18
    exact Or.inl ⟨z', j, rfl, e, F, st⟩
theorem rAcS (hc : rCx A t N m B0 M0) (hg : g + 1 ≤ 8) {B : Nat → Nat → pR} (hB : rBk A h b J R t N m B0 M0 pr (0 + 4 * (g + 1) + 14) (8 - (g + 1)) g B) (hBo : ∀ L j, j ≤ m → pOK m j (B L j)) : rAk A h b J R t N m B0 M0 pr (4 * (g + 1) + 15) (8 - (g + 1)) (g + 1) (fun L j => a1 (KK t N) pr (g + 1) B L j) := by
  intro d z j L hq
  show (∃ z' j', a1 (KK t N) pr (g + 1) B L j = (none, j') ∧ _) ∨ ∃ z' l0 j' e, a1 (KK t N) pr (g + 1) B L j = (some l0, j') ∧ _
  unfold a1
  rw [show d + (4 * (g + 1) + 15) = d + 0 + 4 * (g + 1) + 14 + 1 by omega]
  by_cases k26 : KK t N j = 26
  · rw [if_pos k26]; exact r201a (g := g + 1) hc (by omega) hq k26
  rw [if_neg k26]
  by_cases k10 : KK t N j = 10
  · rw [if_pos k10]; exact r201b (g := g + 1) hc (by omega) hq k10
  rw [if_neg k10]
  by_cases k12 : KK t N j = 12
  · rw [if_pos k12]; exact r201c (g := g + 1) hc (by omega) hq k12
  rw [if_neg k12]
  by_cases k13 : KK t N j = 13
  · rw [if_pos (Or.inl k13 : KK t N j = 13 ∨ KK t N j = 14 ∨ KK t N j = 15)]; rw [k13]; exact r201d (g := g + 1) hc (by omega) hq k13
  by_cases k14 : KK t N j = 14
  · rw [if_pos (Or.inr (Or.inl k14) : KK t N j = 13 ∨ KK t N j = 14 ∨ KK t N j = 15)]; rw [k14]; exact r201e (g := g + 1) hc (by omega) hq k14
  by_cases k15 : KK t N j = 15
  · rw [if_pos (Or.inr (Or.inr k15) : KK t N j = 13 ∨ KK t N j = 14 ∨ KK t N j = 15)]; rw [k15]; exact r201f (g := g + 1) hc (by omega) hq k15
  rw [if_neg (show ¬ (KK t N j = 13 ∨ KK t N j = 14 ∨ KK t N j = 15) by omega)]
  by_cases k16 : KK t N j = 16
  · rw [if_pos k16]; exact r201g (g := g + 1) hc (by omega) hq k16
  rw [if_neg k16]
  by_cases k17 : KK t N j = 17
  · rw [if_pos k17]; exact r201h (g := g + 1) hc (by omega) hq k17
  rw [if_neg k17]
  by_cases k18 : KK t N j = 18
  · rw [if_pos k18]
    exact r201i (x := 0) hc hg hB hBo hq k18
  · rw [if_neg k18]
    obtain ⟨z', e, F, st⟩ := r201z (d := d) (x := 0) (g := g + 1) (A := A) (b := b) (h := h) (J := J) (R := R) hc hq k26 k10 k12 k13 k14 k15 k16 k17 k18
    exact Or.inl ⟨z', j, rfl, e, F, st⟩
theorem rActs (hc : rCx A t N m B0 M0) : ∀ g, g ≤ 7 → rAk A h b J R t N m B0 M0 pr (4 * g + 15) (8 - g) g (aA (KK t N) pr g) := by
  intro g
  induction g with
  | zero => intro _; exact rAc0 hc
  | succ g ih =>
    intro hg
    have h1 := rBlk (D := 4 * g + 7) hc (by omega) (ih (by omega)) (aA_ok hc.2.2.1.2.1 g)
    rw [show 7 - g = 8 - (g + 1) by omega] at h1
    exact rAcS hc (by omega) (rBk_up (by omega) h1) (fun L j hj => bI0_ok hc.2.2.1.2.1 (aA_ok hc.2.2.1.2.1 g) hj)
/-- a whole body -/
theorem rBodyW (hc : rCx A t N m B0 M0) {z : rZ} {j L : Nat} (hq : rQ t N m B0 M0 j 0 z) : (∃ z' j', bO (KK t N) pr L j = (none, j') ∧ jcall A jcode (d + 44) 199 [.ref (b + 241)] (HZ h b J R z) = some (.inr 11, HZ h b J R z') ∧ rF t N m B0 M0 j' z' ∧ rSt z z') ∨ ∃ z' l j' tk, bO (KK t N) pr L j = (some (l ++ [oz pr 28 tk]), j') ∧ jcall A jcode (d + 44) 199 [.ref (b + 241)] (HZ h b J R z) = some (.inl (some (.int (nI z.2.2.2.2.2))), HZ h b J R z') ∧ rQ t N m B0 M0 j' 0 z' ∧ rSt z z' ∧ j < j' ∧ z'.2.2.2.2.2 ≤ z.2.2.2.2.2 + (j' - j) ∧ QB t N pr 7 z z' z.2.2.2.2.2 L l ∧ j' = tk + 1 ∧ j < tk ∧ ∀ y, y ∈ l → j < y.2.2.2 ∧ y.2.2.2 < tk := by
  unfold bO
  rcases r199b (d := d) (D := 35) (g := 7) (A := A) (b := b) (h := h) (J := J) (R := R) hc (by omega) (rActs hc 7 (by omega)) (aA_ok (pr := pr) hc.2.2.1.2.1 7) (L := L) hq with ⟨hK, z', e, F, st⟩ | ⟨hK, hr⟩
  · rw [if_neg hK]
    exact Or.inl ⟨z', j, rfl, e, F, st⟩
  · rw [if_pos hK]
    rcases hr with ⟨z', j', b1, b2, b3, b4⟩ | ⟨z', l, j', b1, b2, b3, b4, b5, b6, b7, b8⟩
    · exact Or.inl ⟨z', j', pB_n b1, b2, b3, b4⟩
    · have hj := hq.2.2.2.2.1
      have hj1 := hc.2.2.1.2.1 j hj (by rw [hK]; decide)
      have ol := bL_ok hc.2.2.1.2.1 (aA_ok (pr := pr) hc.2.2.1.2.1 7) (L := L) (j0 := j + 1) 2001 [] (j + 1) (Nat.le_refl _) (by omega) (by simp) (by simp)
      rw [b1] at ol
      have ol2 := (ol.2.2 l rfl).2
      simp only at ol2
      refine Or.inr ⟨z', l, j' + 1, j', ?_, b3, b4, b5, by omega, b7, b8, rfl, by have := ol.1; simp only at this; omega, fun y hy => by have := ol2 y hy; omega⟩
      rw [pB_s b1]
      unfold pN
      rw [if_pos b2]
end RBM
