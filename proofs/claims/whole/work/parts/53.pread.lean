/-! calls that only read, in any state -/
/-- what such a call leaves: what was thrown is told, out is written, or an exception is made -/
def ro (A : Nat → Nat) (d b s0 i : Nat) (h : Nat → Option jC) (l : List jC) (n : Nat) (F : List Value) (M : Option (jO × jS)) : Prop := ∃ l' n' y5 y6 y7, M = ML A (d + 60) 1284 (LL s0 b i y5 y6 y7) [] (jB h b l' n') ∧ n' ≤ n + 6 ∧ l'.length ≤ l.length + 1 ∧ kp [241, 299] l l' ∧ ∃ (O' : Nat → Int64) (v : Int32), ob l' 241 12 (F.set 0 (.int v)) ∧ lg l' 299 = some (21, 1, fun i => .long (O' i))
theorem ro_ok {A : Nat → Nat} {d b s0 i n : Nat} {h : Nat → Option jC} {l : List jC} {F : List Value} {M : Option (jO × jS)} {O : Nat → Int64} {y5 y6 y7 : Option Value} (hl : 300 ≤ l.length) (h2 : ob l 241 12 F) (e : M = ML A (d + 60) 1284 (LL s0 b i y5 y6 y7) [] (jB h b ((l.set 299 (21, 1, fun i => .long (O i))).set 241 (12, 101, jfl9 (jdf 12) (F.set 0 (.int 0)))) n)) : ro A d b s0 i h l n F M := by
  have hF : F.length = 101 := h2.2
  refine ⟨_, n, y5, y6, y7, e, by omega, by simp, ⟨by simp, fun k hk hk2 => ?_⟩, O, 0, ob_set (by simp; omega) (by simp [hF]; rfl), ?_⟩
  · simp only [List.mem_cons, List.not_mem_nil, or_false, not_or] at hk2
    simp [lg_set, Ne.symm hk2.1, Ne.symm hk2.2]
  · simp [lg_set, show 299 < l.length by omega]
theorem ro_ex {A : Nat → Nat} {d b s0 i n E : Nat} {h : Nat → Option jC} {l : List jC} {F : List Value} {M : Option (jO × jS)} {O : Nat → Int64} {y5 y6 y7 : Option Value} {v : Int32} (hl : 300 ≤ l.length) (h2 : ob l 241 12 F) (fo : lg l 299 = some (21, 1, fun i => .long (O i))) (e : M = ML A (d + 60) 1284 (LL s0 b i y5 y6 y7) [] (jB h b ((l ++ [(E, 0, fun _ => Value.null)]).set 241 (12, 101, jfl9 (jdf 12) (F.set 0 (.int v)))) (n + 6))) : ro A d b s0 i h l n F M := by
  have hF : F.length = 101 := h2.2
  refine ⟨_, n + 6, y5, y6, y7, e, by omega, by simp, ⟨by simp, fun k hk hk2 => ?_⟩, O, v, ob_set (by simp; omega) (by simp [hF]; rfl), ?_⟩
  · simp only [List.mem_cons, List.not_mem_nil, or_false, not_or] at hk2
    rw [lg_set, if_neg (Ne.symm hk2.1), lg_app, if_pos hk]
  · rw [lg_set, if_neg (by decide), lg_app, if_pos (by omega)]; exact fo
set_option maxRecDepth 100000 in
theorem st14 {A : Nat → Nat} {d b n s0 L i : Nat} {h : Nat → Option jC} {l : List jC} {xs : Nat → Int32} {x5 x6 x7 : Option Value} {G F : List Value} {O : Nat → Int64} (hs0 : s0 < b) (hs : h s0 = some (25, L, fun j => .int (xs j))) (hL : L ≤ 3072) (hi : i + 6 ≤ L) (hl : 300 ≤ l.length) (h0 : ob l 0 10 G) (h2 : ob l 241 12 F) (fo : lg l 299 = some (21, 1, fun i => .long (O i))) {W : List Value} {r : Nat} {R R' : Nat → Int32} (g7 : fg G 7 = some (.ref (b + 131))) (hw : ob l 131 8 W) (w13 : fg W 13 = some (.ref (b + 214))) (w14 : fg W 14 = some (.int (nI r))) (hr : r ≤ 1000) (f214 : lg l 214 = some (20, 1000, fun i => .int (R i))) (m79 : fg F 79 = some (.ref (b + 286))) (m81 : fg F 81 = some (.int (nI r))) (fw : lg l 286 = some (20, 1002, fun i => .int (R' i))) (hRR : ∀ k, k < r → R k = R' k) : ro A d b s0 i h l n F (ML A (d + 60) 996 (LL s0 b i x5 x6 x7) [] (jB h b l n)) := by
  have i1 : nI i + 1 = nI (i + 1) := nI_add i 1
  have i2 : nI i + 2 = nI (i + 2) := nI_add i 2
  have i3 : nI i + 3 = nI (i + 3) := nI_add i 3
  have i4 : nI i + 4 = nI (i + 4) := nI_add i 4
  have i5 : nI i + 5 = nI (i + 5) := nI_add i 5
  have j1 : (nI (i + 1)).toNatClampNeg = i + 1 := nI_clamp (by omega)
  have j2 : (nI (i + 2)).toNatClampNeg = i + 2 := nI_clamp (by omega)
  have j3 : (nI (i + 3)).toNatClampNeg = i + 3 := nI_clamp (by omega)
  have j4 : (nI (i + 4)).toNatClampNeg = i + 4 := nI_clamp (by omega)
  have j5 : (nI (i + 5)).toNatClampNeg = i + 5 := nI_clamp (by omega)
  have p1 : 0 ≤ nI (i + 1) := nI_pos' (by omega)
  have p2 : 0 ≤ nI (i + 2) := nI_pos' (by omega)
  have p3 : 0 ≤ nI (i + 3) := nI_pos' (by omega)
  have p4 : 0 ≤ nI (i + 4) := nI_pos' (by omega)
  have p5 : 0 ≤ nI (i + 5) := nI_pos' (by omega)
  have z1 : i + 1 < L := by omega
  have z2 : i + 2 < L := by omega
  have z3 : i + 3 < L := by omega
  have z4 : i + 4 < L := by omega
  have z5 : i + 5 < L := by omega
  have hF : F.length = 101 := h2.2
  have w0 : lg l 0 = some (10, 14, jfl9 (jdf 10) G) := h0.1
  have w1 : lg l 241 = some (12, 101, jfl9 (jdf 12) F) := h2.1
  have u0 : 0 < l.length := by omega
  have u1 : 241 < l.length := by omega
  have u2 : 299 < l.length := by omega
  have v0 : 0 < l.length + 1 := by omega
  have v1 : 241 < l.length + 1 := by omega
  have w2 : lg l 131 = some (8, 16, jfl9 (jdf 8) W) := hw.1
  by_cases q0 : xs (i + 1) < 0
  · exact ro_ex hl h2 fo (E := 41) (v := 1) (y5 := some (.int 1)) (y6 := some (.int 0)) (y7 := x7) (by simp [rL_996, rL_997, rL_998, rL_1000, rL_1001, rL_1002, rL_1003, rL_1004, rL_1007, rL_1009, rL_1010, rL_1011, rL_1013, rL_1014, rL_1015, rL_1016, rL_1019, rL_1021, rL_1022, rL_1025, rL_1027, rL_1030, rL_1031, rL_1032, rL_1034, rL_1037, rL_1038, rL_1039, rL_1040, rL_1042, rL_1043, rL_1044, rL_1047, rL_1048, rL_1049, ag_nx, ag_dn, ag_no, ag_if, jbr1, jbr2, jc1, jc2, jnul, jld, jsto, jstoL, jst1, jst2, jkill, jinc, jbI, jbL, jbS, juI, jl2i, jcmp, jisR, jisI, jisL, jgtx, jtln, jtch, jret, jretv, jdup, jpop, jobj, jmm, jcat, Value.category, jinv, jrcv, jthr, jhd, jnewa, jnewc, jput, jget, B_getL, B_getL0, B_set, B_set0, B_new, B_top, fl_upd, fl_fg, fg_set, Nat.add_assoc, jlen, jald, jast, jgI, jgL, jgB, jtnew, fits_i, fits_l, fits_r, fits_o, fits_z0, fits_z1, fits_n, fits_m, lg_set, List.length_set, updI, updL, jthr, jhd, jtab, LL, jtnew, je305, r305_0, r305_1, r305_2, r305_3, r305_4, r305_7, r305_8, r305_9, r305_12, r305_13, r305_14, r305_15, r305_16, pna305, pow305, ph305_12, je162, r162_0, r162_1, r162_4, r162_5, r162_6, r162_9, r162_12, r162_15, r162_26, r162_27, r162_30, r162_33, r162_34, r162_35, pna162, pow162, je274, r274_0, r274_1, r274_2, r274_5, r274_6, r274_7, r274_10, r274_13, r274_14, r274_17, r274_18, r274_21, r274_24, r274_25, r274_26, r274_27, r274_30, r274_31, r274_32, pna274, pow274, je176, r176_0, r176_1, r176_2, r176_5, r176_6, r176_9, r176_10, r176_13, r176_14, pna176, pow176, ty12_0, je175, r175_0, r175_1, r175_4, pna175, pow175, lg_app, B_low hs0, hs, i1, i2, i3, i4, i5, j1, j2, j3, j4, j5, p1, p2, p3, p4, p5, z1, z2, z3, z4, z5, w0, w1, fo, hF, u0, u1, u2, v0, v1, cmp_self, up, g7, w2, w13, w14, m79, m81, q0])
  by_cases q1 : xs (i + 1) < nI r
  · obtain ⟨k, hk, hx⟩ := nI_of q0
    have hkr : k < r := by
      rw [hx, nI_ltI hk (by omega)] at q1
      exact q1
    have k3 : (nI k).toNatClampNeg = k := nI_clamp (by omega)
    have k4 : 0 ≤ nI k := nI_pos' (by omega)
    have k5 : k < 1000 := by omega
    have k6 : k < 1002 := by omega
    have k7 := hRR k hkr
    rw [hx] at q0 q1
    exact ro_ok hl h2 (O := up O 0 (R' k).toInt64) (y5 := some (.int 0)) (y6 := some (.int (R' k))) (y7 := x7) (by simp [rL_996, rL_997, rL_998, rL_1000, rL_1001, rL_1002, rL_1003, rL_1004, rL_1007, rL_1009, rL_1010, rL_1011, rL_1013, rL_1014, rL_1015, rL_1016, rL_1019, rL_1021, rL_1022, rL_1025, rL_1027, rL_1030, rL_1031, rL_1032, rL_1034, rL_1037, rL_1038, rL_1039, rL_1040, rL_1042, rL_1043, rL_1044, rL_1047, rL_1048, rL_1049, ag_nx, ag_dn, ag_no, ag_if, jbr1, jbr2, jc1, jc2, jnul, jld, jsto, jstoL, jst1, jst2, jkill, jinc, jbI, jbL, jbS, juI, jl2i, jcmp, jisR, jisI, jisL, jgtx, jtln, jtch, jret, jretv, jdup, jpop, jobj, jmm, jcat, Value.category, jinv, jrcv, jthr, jhd, jnewa, jnewc, jput, jget, B_getL, B_getL0, B_set, B_set0, B_new, B_top, fl_upd, fl_fg, fg_set, Nat.add_assoc, jlen, jald, jast, jgI, jgL, jgB, jtnew, fits_i, fits_l, fits_r, fits_o, fits_z0, fits_z1, fits_n, fits_m, lg_set, List.length_set, updI, updL, jthr, jhd, jtab, LL, jtnew, je305, r305_0, r305_1, r305_2, r305_3, r305_4, r305_7, r305_8, r305_9, r305_12, r305_13, r305_14, r305_15, r305_16, pna305, pow305, ph305_12, je162, r162_0, r162_1, r162_4, r162_5, r162_6, r162_9, r162_12, r162_15, r162_26, r162_27, r162_30, r162_33, r162_34, r162_35, pna162, pow162, je274, r274_0, r274_1, r274_2, r274_5, r274_6, r274_7, r274_10, r274_13, r274_14, r274_17, r274_18, r274_21, r274_24, r274_25, r274_26, r274_27, r274_30, r274_31, r274_32, pna274, pow274, je176, r176_0, r176_1, r176_2, r176_5, r176_6, r176_9, r176_10, r176_13, r176_14, pna176, pow176, ty12_0, je175, r175_0, r175_1, r175_4, pna175, pow175, lg_app, B_low hs0, hs, i1, i2, i3, i4, i5, j1, j2, j3, j4, j5, p1, p2, p3, p4, p5, z1, z2, z3, z4, z5, w0, w1, fo, hF, u0, u1, u2, v0, v1, cmp_self, up, g7, w2, w13, w14, m79, m81, f214, fw, hx, q0, q1, k3, k4, k5, k6, k7])
  · exact ro_ex hl h2 fo (E := 41) (v := 1) (y5 := some (.int 1)) (y6 := some (.int 0)) (y7 := x7) (by simp [rL_996, rL_997, rL_998, rL_1000, rL_1001, rL_1002, rL_1003, rL_1004, rL_1007, rL_1009, rL_1010, rL_1011, rL_1013, rL_1014, rL_1015, rL_1016, rL_1019, rL_1021, rL_1022, rL_1025, rL_1027, rL_1030, rL_1031, rL_1032, rL_1034, rL_1037, rL_1038, rL_1039, rL_1040, rL_1042, rL_1043, rL_1044, rL_1047, rL_1048, rL_1049, ag_nx, ag_dn, ag_no, ag_if, jbr1, jbr2, jc1, jc2, jnul, jld, jsto, jstoL, jst1, jst2, jkill, jinc, jbI, jbL, jbS, juI, jl2i, jcmp, jisR, jisI, jisL, jgtx, jtln, jtch, jret, jretv, jdup, jpop, jobj, jmm, jcat, Value.category, jinv, jrcv, jthr, jhd, jnewa, jnewc, jput, jget, B_getL, B_getL0, B_set, B_set0, B_new, B_top, fl_upd, fl_fg, fg_set, Nat.add_assoc, jlen, jald, jast, jgI, jgL, jgB, jtnew, fits_i, fits_l, fits_r, fits_o, fits_z0, fits_z1, fits_n, fits_m, lg_set, List.length_set, updI, updL, jthr, jhd, jtab, LL, jtnew, je305, r305_0, r305_1, r305_2, r305_3, r305_4, r305_7, r305_8, r305_9, r305_12, r305_13, r305_14, r305_15, r305_16, pna305, pow305, ph305_12, je162, r162_0, r162_1, r162_4, r162_5, r162_6, r162_9, r162_12, r162_15, r162_26, r162_27, r162_30, r162_33, r162_34, r162_35, pna162, pow162, je274, r274_0, r274_1, r274_2, r274_5, r274_6, r274_7, r274_10, r274_13, r274_14, r274_17, r274_18, r274_21, r274_24, r274_25, r274_26, r274_27, r274_30, r274_31, r274_32, pna274, pow274, je176, r176_0, r176_1, r176_2, r176_5, r176_6, r176_9, r176_10, r176_13, r176_14, pna176, pow176, ty12_0, je175, r175_0, r175_1, r175_4, pna175, pow175, lg_app, B_low hs0, hs, i1, i2, i3, i4, i5, j1, j2, j3, j4, j5, p1, p2, p3, p4, p5, z1, z2, z3, z4, z5, w0, w1, fo, hF, u0, u1, u2, v0, v1, cmp_self, up, g7, w2, w13, w14, m79, m81, q0, q1])
