/-! event: no name -/
theorem s259n {A : Nat → Nat} {d b n : Nat} {h : Nat → Option jC} {l : List jC} {F : List Value} (hl : 300 ≤ l.length) (h0 : ob l 241 12 F) : jcall A jcode (d + 1) 259 [.ref (b + 241), .int (-1)] (jB h b l n) = some (.inl (some (.int 0)), jB h b (l.set 241 (12, 101, jfl9 (jdf 12) (F.set 19 (.int 0)))) n) := by
  have hF : F.length = 101 := h0.2
  have w0 : lg l 241 = some (12, 101, jfl9 (jdf 12) F) := h0.1
  have u1 : 241 < l.length := by omega
  have q : ¬ (0 : Int32) ≤ -1 := by decide
  simp [je259, r259_0, r259_1, r259_2, r259_5, r259_6, r259_9, r259_10, r259_13, r259_14, r259_15, r259_18, r259_19, r259_20, r259_21, r259_22, r259_25, r259_28, r259_29, r259_32, r259_33, r259_34, r259_37, r259_38, r259_41, r259_42, r259_43, r259_44, r259_45, r259_46, r259_47, r259_50, r259_53, r259_54, r259_57, ag_nx, ag_dn, ag_no, ag_if, jbr1, jbr2, jc1, jc2, jnul, jld, jsto, jstoL, jst1, jst2, jkill, jinc, jbI, jbL, jbS, juI, jl2i, jcmp, jisR, jisI, jisL, jgtx, jtln, jtch, jret, jretv, jdup, jpop, jobj, jmm, jcat, Value.category, jinv, jrcv, jthr, jhd, jnewa, jnewc, jput, jget, B_getL, B_getL0, B_set, B_set0, B_new, B_top, fl_upd, fl_fg, fg_set, Nat.add_assoc, jlen, jald, jast, jgI, jgL, jgB, jtnew, fits_i, fits_l, fits_r, fits_o, fits_z0, fits_z1, fits_n, fits_m, lg_set, List.length_set, updI, updL, jthr, jhd, jtab, LL, jtnew, ty12_19, w0, hF, u1, q]
set_option maxRecDepth 100000 in
set_option maxHeartbeats 4000000 in
theorem st11m {A : Nat → Nat} {d b n s0 L i : Nat} {h : Nat → Option jC} {l : List jC} {xs : Nat → Int32} {x5 x6 x7 : Option Value} {G F : List Value} {O : Nat → Int64} (hs0 : s0 < b) (hs : h s0 = some (25, L, fun j => .int (xs j))) (hL : L ≤ 3072) (hi : i + 6 ≤ L) (hl : 300 ≤ l.length) (h0 : ob l 0 10 G) (h2 : ob l 241 12 F) (fo : lg l 299 = some (21, 1, fun i => .long (O i))) {W Tr Pl Nm : List Value} {e k pl u : Nat} {Nc Nv : Nat → Int32} (h3 : xs (i + 2) = 3) (hx1 : xs (i + 1) = nI k) (hke : k < e) (he : e ≤ 400) (g2 : fg G 2 = some (.ref (b + 2))) (g6 : fg G 6 = some (.ref (b + 57))) (g8 : fg G 8 = some (.ref (b + pl))) (g10 : fg G 10 = some (.int 1)) (hW : ob l 57 9 W) (W1 : fg W 1 = some (.ref (b + 58))) (hT : ob l 58 7 Tr) (T2 : fg Tr 2 = some (.ref (b + 61))) (T6 : fg Tr 6 = some (.int (nI e))) (f61 : lg l 61 = some (20, 400, fun i => .int (Nc i)))
    (m33 : fg F 33 = some (.int 1)) (m64 : fg F 64 = some (.int (nI e))) (m59 : fg F 59 = some (.ref (b + 277))) (f277 : lg l 277 = some (20, 400, fun i => .int (Nv i)))
    (hpl : ob l pl 5 Pl) (p0 : fg Pl 0 = some (.ref (b + u))) (hNm : ob l u 3 Nm) (hNc : Nc k = -1) (hNv : Nv k = -1) :
    ∃ l' y5 y6, ML A (d + 60) 793 (LL s0 b i x5 x6 x7) [] (jB h b l n) = ML A (d + 60) 1284 (LL s0 b i y5 y6 x7) [] (jB h b l' n) ∧ l'.length = l.length ∧ kp [0, 241, 299] l l' ∧ ob l' 0 10 (G.set 3 (.int 0)) ∧ ob l' 241 12 ((F.set 0 (.int 0)).set 19 (.int 0)) ∧ ∃ O' : Nat → Int64, lg l' 299 = some (21, 1, fun i => .long (O' i)) := by
  have i1 : nI i + 1 = nI (i + 1) := nI_add i 1
  have i2 : nI i + 2 = nI (i + 2) := nI_add i 2
  have i3 : nI i + 3 = nI (i + 3) := nI_add i 3
  have i4 : nI i + 4 = nI (i + 4) := nI_add i 4
  have i5 : nI i + 5 = nI (i + 5) := nI_add i 5
  have j1 : (nI (i + 1)).toNatClampNeg = i + 1 := nI_clamp (by omega)
  have j2 : (nI (i + 2)).toNatClampNeg = i + 2 := nI_clamp (by omega)
  have j3 : (nI (i + 3)).toNatClampNeg = i + 3 := nI_clamp (by omega)
  have j4 : (nI (i + 4)).toNatClampNeg = i + 4 := nI_clamp (by omega)
  have j5 : (nI (i + 5)).toNatClampNeg = i + 5 := nI_clamp (by omega)
  have p1 : 0 ≤ nI (i + 1) := nI_pos' (by omega)
  have p2 : 0 ≤ nI (i + 2) := nI_pos' (by omega)
  have p3 : 0 ≤ nI (i + 3) := nI_pos' (by omega)
  have p4 : 0 ≤ nI (i + 4) := nI_pos' (by omega)
  have p5 : 0 ≤ nI (i + 5) := nI_pos' (by omega)
  have z1 : i + 1 < L := by omega
  have z2 : i + 2 < L := by omega
  have z3 : i + 3 < L := by omega
  have z4 : i + 4 < L := by omega
  have z5 : i + 5 < L := by omega
  have hF : F.length = 101 := h2.2
  have w0 : lg l 0 = some (10, 14, jfl9 (jdf 10) G) := h0.1
  have w1 : lg l 241 = some (12, 101, jfl9 (jdf 12) F) := h2.1
  have u0 : 0 < l.length := by omega
  have u1 : 241 < l.length := by omega
  have u2 : 299 < l.length := by omega
  have v0 : 0 < l.length + 1 := by omega
  have v1 : 241 < l.length + 1 := by omega
  have hG : G.length = 14 := h0.2
  have w57 : lg l 57 = some (9, 13, jfl9 (jdf 9) W) := hW.1
  have w58 : lg l 58 = some (7, 8, jfl9 (jdf 7) Tr) := hT.1
  have k3 : (nI k).toNatClampNeg = k := nI_clamp (by omega)
  have k4 : 0 ≤ nI k := nI_pos' (by omega)
  have k5 : k < 400 := by omega
  have q2 : ¬ nI k < 0 := nI_pos (by omega)
  have q3 : nI k < nI e := nI_lt hke (by omega)
  have a1 := s170n (A := A) (d := d + 56) (n := n) (h := h) h0 g2 g8 hpl p0 hl hNm
  have a2 := s259n (A := A) (d := d + 58) (b := b) (n := n) (h := h) (F := F.set 0 (.int 0)) (l := ((l.set 0 (10, 14, jfl9 (jdf 10) (G.set 3 (.int 0)))).set 299 (21, 1, fun i => .long (up O 0 0 i))).set 241 (12, 101, jfl9 (jdf 12) (F.set 0 (.int 0)))) (by simp; omega) (ob_set (by simp; omega) (by simp [hF]; rfl))
  simp only [List.set_set, up] at a2
  refine ⟨((l.set 0 (10, 14, jfl9 (jdf 10) (G.set 3 (.int 0)))).set 299 (21, 1, fun i => .long (up O 0 0 i))).set 241 (12, 101, jfl9 (jdf 12) ((F.set 0 (.int 0)).set 19 (.int 0))), some (.int 0), some (.int 0), ?_, by simp, ⟨by simp, fun q hq hq2 => ?_⟩, ⟨?_, ?_⟩, ⟨?_, ?_⟩, up O 0 0, ?_⟩
  · simp [rL_793, rL_794, rL_795, rL_797, rL_798, rL_799, rL_800, rL_801, rL_803, rL_804, rL_805, rL_806, rL_807, rL_810, rL_812, rL_813, rL_814, rL_816, rL_817, rL_818, rL_819, rL_820, rL_822, rL_823, rL_824, rL_825, rL_828, rL_830, rL_831, rL_834, rL_836, rL_839, rL_840, rL_841, rL_843, rL_846, rL_847, rL_848, rL_849, rL_851, rL_852, rL_853, rL_856, rL_857, rL_858, ag_nx, ag_dn, ag_no, ag_if, jbr1, jbr2, jc1, jc2, jnul, jld, jsto, jstoL, jst1, jst2, jkill, jinc, jbI, jbL, jbS, juI, jl2i, jcmp, jisR, jisI, jisL, jgtx, jtln, jtch, jret, jretv, jdup, jpop, jobj, jmm, jcat, Value.category, jinv, jrcv, jthr, jhd, jnewa, jnewc, jput, jget, B_getL, B_getL0, B_set, B_set0, B_new, B_top, fl_upd, fl_fg, fg_set, Nat.add_assoc, jlen, jald, jast, jgI, jgL, jgB, jtnew, fits_i, fits_l, fits_r, fits_o, fits_z0, fits_z1, fits_n, fits_m, lg_set, List.length_set, updI, updL, jthr, jhd, jtab, LL, jtnew, je302, r302_0, r302_1, r302_2, r302_3, r302_4, r302_5, r302_8, r302_9, r302_10, r302_13, r302_15, r302_16, r302_17, r302_19, r302_20, r302_21, r302_23, r302_24, r302_25, r302_26, pna302, pow302, ph302_13, ph302_17, ph302_21, je159, r159_0, r159_1, r159_4, r159_5, r159_6, r159_9, r159_19, r159_20, r159_23, r159_24, r159_27, r159_30, r159_31, r159_32, r159_35, r159_36, r159_37, r159_40, r159_43, r159_53, r159_54, r159_80, r159_81, r159_84, r159_85, r159_86, r159_87, r159_88, r159_91, r159_92, r159_93, r159_94, r159_95, r159_98, r159_99, r159_100, r159_101, r159_102, r159_103, r159_106, r159_107, r159_108, r159_111, pna159, pow159, je171, r171_0, r171_1, r171_4, r171_7, r171_18, pna171, pow171, je261, r261_0, r261_1, r261_2, r261_5, r261_6, r261_7, r261_10, r261_11, r261_14, r261_15, r261_18, r261_21, r261_22, r261_25, r261_26, r261_29, r261_30, r261_31, r261_34, r261_37, r261_38, r261_41, r261_42, r261_45, r261_48, r261_49, r261_50, r261_51, r261_54, r261_55, r261_58, r261_59, r261_60, r261_63, r261_64, r261_65, r261_68, r261_69, r261_72, r261_73, r261_74, r261_77, r261_78, r261_79, r261_82, r261_83, r261_86, r261_87, r261_88, r261_91, r261_92, r261_93, r261_96, r261_97, r261_98, r261_101, pna261, pow261, je176, r176_0, r176_1, r176_2, r176_5, r176_6, r176_9, r176_10, r176_13, r176_14, pna176, pow176, ty12_0, je175, r175_0, r175_1, r175_4, pna175, pow175, lg_app, B_low hs0, hs, i1, i2, i3, i4, i5, j1, j2, j3, j4, j5, p1, p2, p3, p4, p5, z1, z2, z3, z4, z5, w0, w1, fo, hF, u0, u1, u2, v0, v1, cmp_self, up, h3, hx1, g6, g10, w57, w58, W1, T2, T6, f61, m33, m64, m59, f277, k3, k4, k5, q2, q3, hNc, hNv, a1, a2, hG, pna170, pow170, pna259, pow259]
  · simp only [List.mem_cons, List.not_mem_nil, or_false, not_or] at hq2
    simp [lg_set, Ne.symm hq2.1, Ne.symm hq2.2.1, Ne.symm hq2.2.2]
  · simp [lg_set, u0]; rfl
  · simp [hG]; rfl
  · simp [lg_set, u1]; rfl
  · simp [hF]; rfl
  · simp [lg_set, u2]
