/-! end, in any state -/
set_option maxRecDepth 100000 in
theorem st1 {A : Nat → Nat} {d b n s0 L i t : Nat} {h : Nat → Option jC} {l : List jC} {xs : Nat → Int32} {x5 x6 x7 : Option Value} {G F : List Value} {O : Nat → Int64} (hs0 : s0 < b) (hs : h s0 = some (25, L, fun j => .int (xs j))) (hL : L ≤ 3072) (hi : i + 6 ≤ L) (hl : 300 ≤ l.length) (ht : t ≤ 2000)
    (h0 : ob l 0 10 G) (g1 : fg G 1 = some (.int (nI t))) (h2 : ob l 241 12 F) (m1 : fg F 13 = some (.int (nI t))) (fo : lg l 299 = some (21, 1, fun i => .long (O i))) :
    ∃ l' n' y5 y6, ML A (d + 60) 240 (LL s0 b i x5 x6 x7) [] (jB h b l n) = ML A (d + 60) 1284 (LL s0 b i y5 y6 x7) [] (jB h b l' n') ∧ n' ≤ n + 6 ∧ l'.length ≤ l.length + 1 ∧ kp [0, 241, 299] l l' ∧
      ∃ (t' : Nat) (O' : Nat → Int64) (v : Int32), t' ≤ 2000 ∧ ob l' 0 10 (G.set 1 (.int (nI t'))) ∧ ob l' 241 12 ((F.set 0 (.int v)).set 13 (.int (nI t'))) ∧ lg l' 299 = some (21, 1, fun i => .long (O' i)) := by
  have i1 : nI i + 1 = nI (i + 1) := nI_add i 1
  have i2 : nI i + 2 = nI (i + 2) := nI_add i 2
  have i3 : nI i + 3 = nI (i + 3) := nI_add i 3
  have i4 : nI i + 4 = nI (i + 4) := nI_add i 4
  have i5 : nI i + 5 = nI (i + 5) := nI_add i 5
  have j1 : (nI (i + 1)).toNatClampNeg = i + 1 := nI_clamp (by omega)
  have j2 : (nI (i + 2)).toNatClampNeg = i + 2 := nI_clamp (by omega)
  have j3 : (nI (i + 3)).toNatClampNeg = i + 3 := nI_clamp (by omega)
  have j4 : (nI (i + 4)).toNatClampNeg = i + 4 := nI_clamp (by omega)
  have j5 : (nI (i + 5)).toNatClampNeg = i + 5 := nI_clamp (by omega)
  have p1 : 0 ≤ nI (i + 1) := nI_pos' (by omega)
  have p2 : 0 ≤ nI (i + 2) := nI_pos' (by omega)
  have p3 : 0 ≤ nI (i + 3) := nI_pos' (by omega)
  have p4 : 0 ≤ nI (i + 4) := nI_pos' (by omega)
  have p5 : 0 ≤ nI (i + 5) := nI_pos' (by omega)
  have z1 : i + 1 < L := by omega
  have z2 : i + 2 < L := by omega
  have z3 : i + 3 < L := by omega
  have z4 : i + 4 < L := by omega
  have z5 : i + 5 < L := by omega
  have hG : G.length = 14 := h0.2
  have hF : F.length = 101 := h2.2
  have w0 : lg l 0 = some (10, 14, jfl9 (jdf 10) G) := h0.1
  have w1 : lg l 241 = some (12, 101, jfl9 (jdf 12) F) := h2.1
  have u0 : 0 < l.length := by omega
  have u1 : 241 < l.length := by omega
  have u2 : 299 < l.length := by omega
  have v0 : 0 < l.length + 1 := by omega
  have v1 : 241 < l.length + 1 := by omega
  by_cases q0 : 0 ≤ xs (i + 1) ∧ xs (i + 1) ≤ nI t
  · obtain ⟨q0, q1⟩ := q0
    obtain ⟨k, hk, hx⟩ := nI_of2 (M := nI t) (n := t) (nI_toInt (by omega)) (Int32.not_lt.mpr q0) q1
    have q2 : ¬ xs (i + 1) < 0 := Int32.not_lt.mpr q0
    refine ⟨((l.set 0 (10, 14, jfl9 (jdf 10) (G.set 1 (.int (nI k))))).set 299 (21, 1, fun i => .long (up O 0 (nI k).toInt64 i))).set 241 (12, 101, jfl9 (jdf 12) ((F.set 0 (.int 0)).set 13 (.int (nI k)))), n, some (.int 0), some (.int (nI k)), ?_, by omega, by simp, ⟨by simp, fun k hk hk2 => ?_⟩, k, up O 0 (nI k).toInt64, 0, by omega, ⟨?_, ?_⟩, ⟨?_, ?_⟩, ?_⟩
    · rw [hx] at q1 q2
      simp [rL_240, rL_241, rL_242, rL_244, rL_245, rL_246, rL_247, rL_248, rL_251, rL_253, rL_254, rL_255, rL_257, rL_258, rL_259, rL_260, rL_263, rL_265, rL_266, rL_269, rL_271, rL_274, rL_275, rL_276, rL_278, rL_281, rL_282, rL_283, rL_284, rL_286, rL_287, rL_288, rL_291, rL_292, rL_293, ag_nx, ag_dn, ag_no, ag_if, jbr1, jbr2, jc1, jc2, jnul, jld, jsto, jstoL, jst1, jst2, jkill, jinc, jbI, jbL, jbS, juI, jl2i, jcmp, jisR, jisI, jisL, jgtx, jtln, jtch, jret, jretv, jdup, jpop, jobj, jmm, jcat, Value.category, jinv, jrcv, jthr, jhd, jnewa, jnewc, jput, jget, B_getL, B_getL0, B_set, B_set0, B_new, B_top, fl_upd, fl_fg, fg_set, Nat.add_assoc, jlen, jald, jast, jgI, jgL, jgB, jtnew, fits_i, fits_l, fits_r, fits_o, fits_z0, fits_z1, fits_n, fits_m, lg_set, List.length_set, updI, updL, jthr, jhd, jtab, LL, jtnew, je293, r293_0, r293_1, r293_2, r293_3, r293_4, r293_7, r293_8, r293_9, r293_12, r293_13, r293_14, r293_15, r293_16, pna293, pow293, ph293_12, je149, r149_0, r149_1, r149_4, r149_5, r149_6, r149_9, r149_12, r149_22, r149_23, r149_24, r149_27, r149_28, pna149, pow149, ty10_1, je244, r244_0, r244_1, r244_2, r244_5, r244_6, r244_7, r244_10, r244_13, r244_14, r244_17, r244_18, r244_21, r244_24, r244_25, r244_26, r244_27, r244_28, r244_31, r244_32, pna244, pow244, ty12_13, je176, r176_0, r176_1, r176_2, r176_5, r176_6, r176_9, r176_10, r176_13, r176_14, pna176, pow176, ty12_0, je175, r175_0, r175_1, r175_4, pna175, pow175, B_low hs0, hs, i1, i2, i3, i4, i5, j1, j2, j3, j4, j5, p1, p2, p3, p4, p5, z1, z2, z3, z4, z5, hx, q1, q2, w0, w1, fo, g1, m1, hG, hF, u0, u1, u2, cmp_self, up]
    · simp only [List.mem_cons, List.not_mem_nil, or_false, not_or] at hk2
      simp [lg_set, Ne.symm hk2.1, Ne.symm hk2.2.1, Ne.symm hk2.2.2]
    · simp [lg_set, u0]; rfl
    · simp [hG]; rfl
    · simp [lg_set, u1]; rfl
    · simp [hF]; rfl
    · simp [lg_set, u2]
  · have e8 : G.set 1 (.int (nI t)) = G := fg_same g1
    have e9 : (F.set 0 (Value.int 1)).set 13 (.int (nI t)) = F.set 0 (.int 1) := fg_same (by simp [fg_set, m1])
    refine ⟨(l ++ [(42, 0, fun _ => Value.null)]).set 241 (12, 101, jfl9 (jdf 12) (F.set 0 (.int 1))), n + 6, some (.int 1), some (.int 0), ?_, by omega, by simp, ⟨by simp, fun k hk hk2 => ?_⟩, t, O, 1, ht, ?_, ?_, ?_⟩
    · by_cases q2 : xs (i + 1) < 0
      · simp [rL_240, rL_241, rL_242, rL_244, rL_245, rL_246, rL_247, rL_248, rL_251, rL_253, rL_254, rL_255, rL_257, rL_258, rL_259, rL_260, rL_263, rL_265, rL_266, rL_269, rL_271, rL_274, rL_275, rL_276, rL_278, rL_281, rL_282, rL_283, rL_284, rL_286, rL_287, rL_288, rL_291, rL_292, rL_293, ag_nx, ag_dn, ag_no, ag_if, jbr1, jbr2, jc1, jc2, jnul, jld, jsto, jstoL, jst1, jst2, jkill, jinc, jbI, jbL, jbS, juI, jl2i, jcmp, jisR, jisI, jisL, jgtx, jtln, jtch, jret, jretv, jdup, jpop, jobj, jmm, jcat, Value.category, jinv, jrcv, jthr, jhd, jnewa, jnewc, jput, jget, B_getL, B_getL0, B_set, B_set0, B_new, B_top, fl_upd, fl_fg, fg_set, Nat.add_assoc, jlen, jald, jast, jgI, jgL, jgB, jtnew, fits_i, fits_l, fits_r, fits_o, fits_z0, fits_z1, fits_n, fits_m, lg_set, List.length_set, updI, updL, jthr, jhd, jtab, LL, jtnew, je293, r293_0, r293_1, r293_2, r293_3, r293_4, r293_7, r293_8, r293_9, r293_12, r293_13, r293_14, r293_15, r293_16, pna293, pow293, ph293_12, je149, r149_0, r149_1, r149_4, r149_5, r149_6, r149_9, r149_12, r149_22, r149_23, r149_24, r149_27, r149_28, pna149, pow149, ty10_1, je244, r244_0, r244_1, r244_2, r244_5, r244_6, r244_7, r244_10, r244_13, r244_14, r244_17, r244_18, r244_21, r244_24, r244_25, r244_26, r244_27, r244_28, r244_31, r244_32, pna244, pow244, ty12_13, je176, r176_0, r176_1, r176_2, r176_5, r176_6, r176_9, r176_10, r176_13, r176_14, pna176, pow176, ty12_0, je175, r175_0, r175_1, r175_4, pna175, pow175, lg_app, B_low hs0, hs, i1, i2, i3, i4, i5, j1, j2, j3, j4, j5, p1, p2, p3, p4, p5, z1, z2, z3, z4, z5, q2, w0, w1, fo, g1, m1, hG, hF, u0, u1, u2, v0, v1]
      · have q3 : ¬ xs (i + 1) ≤ nI t := fun h9 => q0 ⟨Int32.not_lt.mp q2, h9⟩
        simp [rL_240, rL_241, rL_242, rL_244, rL_245, rL_246, rL_247, rL_248, rL_251, rL_253, rL_254, rL_255, rL_257, rL_258, rL_259, rL_260, rL_263, rL_265, rL_266, rL_269, rL_271, rL_274, rL_275, rL_276, rL_278, rL_281, rL_282, rL_283, rL_284, rL_286, rL_287, rL_288, rL_291, rL_292, rL_293, ag_nx, ag_dn, ag_no, ag_if, jbr1, jbr2, jc1, jc2, jnul, jld, jsto, jstoL, jst1, jst2, jkill, jinc, jbI, jbL, jbS, juI, jl2i, jcmp, jisR, jisI, jisL, jgtx, jtln, jtch, jret, jretv, jdup, jpop, jobj, jmm, jcat, Value.category, jinv, jrcv, jthr, jhd, jnewa, jnewc, jput, jget, B_getL, B_getL0, B_set, B_set0, B_new, B_top, fl_upd, fl_fg, fg_set, Nat.add_assoc, jlen, jald, jast, jgI, jgL, jgB, jtnew, fits_i, fits_l, fits_r, fits_o, fits_z0, fits_z1, fits_n, fits_m, lg_set, List.length_set, updI, updL, jthr, jhd, jtab, LL, jtnew, je293, r293_0, r293_1, r293_2, r293_3, r293_4, r293_7, r293_8, r293_9, r293_12, r293_13, r293_14, r293_15, r293_16, pna293, pow293, ph293_12, je149, r149_0, r149_1, r149_4, r149_5, r149_6, r149_9, r149_12, r149_22, r149_23, r149_24, r149_27, r149_28, pna149, pow149, ty10_1, je244, r244_0, r244_1, r244_2, r244_5, r244_6, r244_7, r244_10, r244_13, r244_14, r244_17, r244_18, r244_21, r244_24, r244_25, r244_26, r244_27, r244_28, r244_31, r244_32, pna244, pow244, ty12_13, je176, r176_0, r176_1, r176_2, r176_5, r176_6, r176_9, r176_10, r176_13, r176_14, pna176, pow176, ty12_0, je175, r175_0, r175_1, r175_4, pna175, pow175, lg_app, B_low hs0, hs, i1, i2, i3, i4, i5, j1, j2, j3, j4, j5, p1, p2, p3, p4, p5, z1, z2, z3, z4, z5, q2, q3, w0, w1, fo, g1, m1, hG, hF, u0, u1, u2, v0, v1]
    · simp only [List.mem_cons, List.not_mem_nil, or_false, not_or] at hk2
      rw [lg_set, if_neg (Ne.symm hk2.2.1), lg_app, if_pos hk]
    · rw [e8]
      exact ⟨by rw [lg_set, if_neg (by decide), lg_app, if_pos (by omega)]; exact h0.1, h0.2⟩
    · rw [e9]
      exact ob_set (by simp; omega) (by simp [hF]; rfl)
    · rw [lg_set, if_neg (by decide), lg_app, if_pos (by omega)]; exact fo
