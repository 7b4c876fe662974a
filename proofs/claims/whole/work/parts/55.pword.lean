/-! word, in any state -/
def wd (B : Nat → Int32) (o : Nat) : Nat → Nat → Int64 → Int64
  | 0, _, v => v
  | r + 1, k, v => wd B o r (k + 1) ((v <<< (8 &&& 63)) ||| (if k < o then (B k).toInt64 &&& 255 else 0))
theorem wd_eq {B B' : Nat → Int32} {o : Nat} (hB : ∀ k, k < o → B k = B' k) : ∀ (r k : Nat) (v : Int64), wd B o r k v = wd B' o r k v := by
  intro r
  induction r with
  | zero => intro k v; rfl
  | succ r ih =>
    intro k v
    unfold wd
    by_cases hk : k < o
    · rw [if_pos hk, if_pos hk, hB k hk, ih]
    · rw [if_neg hk, if_neg hk, ih]
theorem l160 {A : Nat → Nat} {d b n i o : Nat} {h : Nat → Option jC} {l : List jC} {G : List Value} {B : Nat → Int32} (h0 : ob l 0 10 G) (g2 : fg G 2 = some (.ref (b + 2))) (g3 : fg G 3 = some (.int (nI o))) (ho : o ≤ 12) (f2 : lg l 2 = some (22, 12, fun i => .int (B i))) (hi : i < 100) : ∀ (r j : Nat) (v : Int64) (c5 : Option Value), j + r = 8 → M160 A d 27 [some (.ref b), some (.int (nI i)), some (.long v), none, some (.int (nI j)), c5] [] (jB h b l n) = some (.inl (some (.long (wd B o r (i + j) v))), jB h b l n) := by
  have w0 : lg l 0 = some (10, 14, jfl9 (jdf 10) G) := h0.1
  intro r
  induction r with
  | zero =>
    intro j v c5 hj
    have h1 : (8 : Int32) ≤ nI j := by rw [nI8]; exact nI_le (by omega) (by omega)
    rw [r160_27]
    simp [r160_0, r160_1, r160_4, r160_5, r160_6, r160_9, r160_12, r160_22, r160_23, r160_24, r160_25, r160_29, r160_31, r160_34, r160_35, r160_37, r160_38, r160_40, r160_41, r160_43, r160_44, r160_46, r160_47, r160_50, r160_53, r160_54, r160_57, r160_59, r160_60, r160_63, r160_64, r160_67, r160_68, r160_69, r160_70, r160_71, r160_74, r160_77, r160_78, ag_nx, ag_dn, ag_no, ag_if, jbr1, jbr2, jc1, jc2, jnul, jld, jsto, jstoL, jst1, jst2, jkill, jinc, jbI, jbL, jbS, juI, jl2i, jcmp, jisR, jisI, jisL, jgtx, jtln, jtch, jret, jretv, jdup, jpop, jobj, jmm, jcat, Value.category, jinv, jrcv, jthr, jhd, jnewa, jnewc, jput, jget, B_getL, B_getL0, B_set, B_set0, B_new, B_top, fl_upd, fl_fg, fg_set, Nat.add_assoc, jlen, jald, jast, jgI, jgL, jgB, jtnew, fits_i, fits_l, fits_r, fits_o, fits_z0, fits_z1, fits_n, fits_m, lg_set, List.length_set, updI, updL, jthr, jhd, jtab, LL, jtnew, h1, wd]
  | succ r ih =>
    intro j v c5 hj
    have h1 : ¬ (8 : Int32) ≤ nI j := by rw [nI8]; exact nI_ge (by omega) (by omega)
    have e1 : nI i + nI j = nI (i + j) := nI_add i j
    have e := fun z c => ih (j + 1) z c (by omega)
    have k3 : (nI (i + j)).toNatClampNeg = i + j := nI_clamp (by omega)
    have k4 : 0 ≤ nI (i + j) := nI_pos' (by omega)
    rw [r160_27]
    by_cases hc : i + j < o
    · have h2 : ¬ nI o ≤ nI (i + j) := nI_ge hc (by omega)
      have k5 : i + j < 12 := by omega
      simp [r160_0, r160_1, r160_4, r160_5, r160_6, r160_9, r160_12, r160_22, r160_23, r160_24, r160_25, r160_29, r160_31, r160_34, r160_35, r160_37, r160_38, r160_40, r160_41, r160_43, r160_44, r160_46, r160_47, r160_50, r160_53, r160_54, r160_57, r160_59, r160_60, r160_63, r160_64, r160_67, r160_68, r160_69, r160_70, r160_71, r160_74, r160_77, r160_78, ag_nx, ag_dn, ag_no, ag_if, jbr1, jbr2, jc1, jc2, jnul, jld, jsto, jstoL, jst1, jst2, jkill, jinc, jbI, jbL, jbS, juI, jl2i, jcmp, jisR, jisI, jisL, jgtx, jtln, jtch, jret, jretv, jdup, jpop, jobj, jmm, jcat, Value.category, jinv, jrcv, jthr, jhd, jnewa, jnewc, jput, jget, B_getL, B_getL0, B_set, B_set0, B_new, B_top, fl_upd, fl_fg, fg_set, Nat.add_assoc, jlen, jald, jast, jgI, jgL, jgB, jtnew, fits_i, fits_l, fits_r, fits_o, fits_z0, fits_z1, fits_n, fits_m, lg_set, List.length_set, updI, updL, jthr, jhd, jtab, LL, jtnew, h1, h2, w0, g2, g3, f2, e1, k3, k4, k5, hc, nI_1, e, wd]
    · have h2 : nI o ≤ nI (i + j) := nI_le (by omega) (by omega)
      simp [r160_0, r160_1, r160_4, r160_5, r160_6, r160_9, r160_12, r160_22, r160_23, r160_24, r160_25, r160_29, r160_31, r160_34, r160_35, r160_37, r160_38, r160_40, r160_41, r160_43, r160_44, r160_46, r160_47, r160_50, r160_53, r160_54, r160_57, r160_59, r160_60, r160_63, r160_64, r160_67, r160_68, r160_69, r160_70, r160_71, r160_74, r160_77, r160_78, ag_nx, ag_dn, ag_no, ag_if, jbr1, jbr2, jc1, jc2, jnul, jld, jsto, jstoL, jst1, jst2, jkill, jinc, jbI, jbL, jbS, juI, jl2i, jcmp, jisR, jisI, jisL, jgtx, jtln, jtch, jret, jretv, jdup, jpop, jobj, jmm, jcat, Value.category, jinv, jrcv, jthr, jhd, jnewa, jnewc, jput, jget, B_getL, B_getL0, B_set, B_set0, B_new, B_top, fl_upd, fl_fg, fg_set, Nat.add_assoc, jlen, jald, jast, jgI, jgL, jgB, jtnew, fits_i, fits_l, fits_r, fits_o, fits_z0, fits_z1, fits_n, fits_m, lg_set, List.length_set, updI, updL, jthr, jhd, jtab, LL, jtnew, h1, h2, w0, g2, g3, f2, e1, hc, nI_1, e, wd]
theorem l262 {A : Nat → Nat} {d b n i o : Nat} {h : Nat → Option jC} {l : List jC} {F : List Value} {B : Nat → Int32} (h0 : ob l 241 12 F) (g2 : fg F 12 = some (.ref (b + 250))) (g3 : fg F 19 = some (.int (nI o))) (ho : o ≤ 12) (f2 : lg l 250 = some (22, 16, fun i => .int (B i))) (hi : i < 100) : ∀ (r k : Nat) (v : Int64), k + r = i + 8 → M262 A d 31 [some (.ref (b + 241)), some (.int (nI i)), some (.long v), none, some (.int (nI k))] [] (jB h b l n) = some (.inl (some (.long (wd B o r k v))), jB h b l n) := by
  have w0 : lg l 241 = some (12, 101, jfl9 (jdf 12) F) := h0.1
  have e8 : nI i + 8 = nI (i + 8) := nI_add i 8
  have z255 : lN 255 = 255 := by decide
  intro r
  induction r with
  | zero =>
    intro k v hk
    have h1 : nI (i + 8) ≤ nI k := nI_le (by omega) (by omega)
    rw [r262_31]
    simp [r262_0, r262_1, r262_2, r262_5, r262_6, r262_7, r262_10, r262_13, r262_14, r262_17, r262_18, r262_21, r262_24, r262_25, r262_26, r262_27, r262_28, r262_29, r262_33, r262_34, r262_36, r262_37, r262_40, r262_41, r262_43, r262_44, r262_46, r262_47, r262_50, r262_53, r262_54, r262_57, r262_59, r262_60, r262_61, r262_64, r262_65, r262_68, r262_69, r262_70, r262_71, r262_74, r262_77, r262_78, ag_nx, ag_dn, ag_no, ag_if, jbr1, jbr2, jc1, jc2, jnul, jld, jsto, jstoL, jst1, jst2, jkill, jinc, jbI, jbL, jbS, juI, jl2i, jcmp, jisR, jisI, jisL, jgtx, jtln, jtch, jret, jretv, jdup, jpop, jobj, jmm, jcat, Value.category, jinv, jrcv, jthr, jhd, jnewa, jnewc, jput, jget, B_getL, B_getL0, B_set, B_set0, B_new, B_top, fl_upd, fl_fg, fg_set, Nat.add_assoc, jlen, jald, jast, jgI, jgL, jgB, jtnew, fits_i, fits_l, fits_r, fits_o, fits_z0, fits_z1, fits_n, fits_m, lg_set, List.length_set, updI, updL, jthr, jhd, jtab, LL, jtnew, h1, e8, wd]
  | succ r ih =>
    intro k v hk
    have h1 : ¬ nI (i + 8) ≤ nI k := nI_ge (by omega) (by omega)
    have e := fun z => ih (k + 1) z (by omega)
    have k3 : (nI k).toNatClampNeg = k := nI_clamp (by omega)
    have k4 : 0 ≤ nI k := nI_pos' (by omega)
    rw [r262_31]
    by_cases hc : k < o
    · have h2 : ¬ nI o ≤ nI k := nI_ge hc (by omega)
      have k5 : k < 16 := by omega
      simp [r262_0, r262_1, r262_2, r262_5, r262_6, r262_7, r262_10, r262_13, r262_14, r262_17, r262_18, r262_21, r262_24, r262_25, r262_26, r262_27, r262_28, r262_29, r262_33, r262_34, r262_36, r262_37, r262_40, r262_41, r262_43, r262_44, r262_46, r262_47, r262_50, r262_53, r262_54, r262_57, r262_59, r262_60, r262_61, r262_64, r262_65, r262_68, r262_69, r262_70, r262_71, r262_74, r262_77, r262_78, ag_nx, ag_dn, ag_no, ag_if, jbr1, jbr2, jc1, jc2, jnul, jld, jsto, jstoL, jst1, jst2, jkill, jinc, jbI, jbL, jbS, juI, jl2i, jcmp, jisR, jisI, jisL, jgtx, jtln, jtch, jret, jretv, jdup, jpop, jobj, jmm, jcat, Value.category, jinv, jrcv, jthr, jhd, jnewa, jnewc, jput, jget, B_getL, B_getL0, B_set, B_set0, B_new, B_top, fl_upd, fl_fg, fg_set, Nat.add_assoc, jlen, jald, jast, jgI, jgL, jgB, jtnew, fits_i, fits_l, fits_r, fits_o, fits_z0, fits_z1, fits_n, fits_m, lg_set, List.length_set, updI, updL, jthr, jhd, jtab, LL, jtnew, h1, h2, w0, g2, g3, f2, e8, k3, k4, k5, hc, nI_1, e, wd, z255]
    · have h2 : nI o ≤ nI k := nI_le (by omega) (by omega)
      simp [r262_0, r262_1, r262_2, r262_5, r262_6, r262_7, r262_10, r262_13, r262_14, r262_17, r262_18, r262_21, r262_24, r262_25, r262_26, r262_27, r262_28, r262_29, r262_33, r262_34, r262_36, r262_37, r262_40, r262_41, r262_43, r262_44, r262_46, r262_47, r262_50, r262_53, r262_54, r262_57, r262_59, r262_60, r262_61, r262_64, r262_65, r262_68, r262_69, r262_70, r262_71, r262_74, r262_77, r262_78, ag_nx, ag_dn, ag_no, ag_if, jbr1, jbr2, jc1, jc2, jnul, jld, jsto, jstoL, jst1, jst2, jkill, jinc, jbI, jbL, jbS, juI, jl2i, jcmp, jisR, jisI, jisL, jgtx, jtln, jtch, jret, jretv, jdup, jpop, jobj, jmm, jcat, Value.category, jinv, jrcv, jthr, jhd, jnewa, jnewc, jput, jget, B_getL, B_getL0, B_set, B_set0, B_new, B_top, fl_upd, fl_fg, fg_set, Nat.add_assoc, jlen, jald, jast, jgI, jgL, jgB, jtnew, fits_i, fits_l, fits_r, fits_o, fits_z0, fits_z1, fits_n, fits_m, lg_set, List.length_set, updI, updL, jthr, jhd, jtab, LL, jtnew, h1, h2, w0, g2, g3, f2, e8, hc, nI_1, e, wd, z255]
theorem s160 {A : Nat → Nat} {d b n i o : Nat} {h : Nat → Option jC} {l : List jC} {G : List Value} {B : Nat → Int32} (h0 : ob l 0 10 G) (g2 : fg G 2 = some (.ref (b + 2))) (g3 : fg G 3 = some (.int (nI o))) (ho : o ≤ 12) (f2 : lg l 2 = some (22, 12, fun i => .int (B i))) (hi : i < o) : jcall A jcode (d + 1) 160 [.ref b, .int (nI i)] (jB h b l n) = some (.inl (some (.long (wd B o 8 i 0))), jB h b l n) := by
  have e := l160 (A := A) (d := d) (n := n) (h := h) h0 g2 g3 ho f2 (show i < 100 by omega) 8 0 0 none (by omega)
  have w0 : lg l 0 = some (10, 14, jfl9 (jdf 10) G) := h0.1
  have i0 : nI 0 = 0 := by decide
  have q0 : ¬ nI i < 0 := nI_pos (by omega)
  have q1 : nI i < nI o := nI_lt hi (by omega)
  rw [i0, Nat.add_zero] at e
  simp [je160, r160_0, r160_1, r160_4, r160_5, r160_6, r160_9, r160_22, r160_23, r160_24, r160_25, ag_nx, ag_dn, ag_no, ag_if, jbr1, jbr2, jc1, jc2, jnul, jld, jsto, jstoL, jst1, jst2, jkill, jinc, jbI, jbL, jbS, juI, jl2i, jcmp, jisR, jisI, jisL, jgtx, jtln, jtch, jret, jretv, jdup, jpop, jobj, jmm, jcat, Value.category, jinv, jrcv, jthr, jhd, jnewa, jnewc, jput, jget, B_getL, B_getL0, B_set, B_set0, B_new, B_top, fl_upd, fl_fg, fg_set, Nat.add_assoc, jlen, jald, jast, jgI, jgL, jgB, jtnew, fits_i, fits_l, fits_r, fits_o, fits_z0, fits_z1, fits_n, fits_m, lg_set, List.length_set, updI, updL, jthr, jhd, jtab, LL, jtnew, w0, g3, q0, q1, e]
theorem s262 {A : Nat → Nat} {d b n i o : Nat} {h : Nat → Option jC} {l : List jC} {F : List Value} {B : Nat → Int32} (hl : 300 ≤ l.length) (h0 : ob l 241 12 F) (g2 : fg F 12 = some (.ref (b + 250))) (g3 : fg F 19 = some (.int (nI o))) (ho : o ≤ 12) (f2 : lg l 250 = some (22, 16, fun i => .int (B i))) (hi : i < o) : jcall A jcode (d + 2) 262 [.ref (b + 241), .int (nI i)] (jB h b l n) = some (.inl (some (.long (wd B o 8 i 0))), jB h b (l.set 241 (12, 101, jfl9 (jdf 12) (F.set 0 (.int 0)))) n) := by
  have hF : F.length = 101 := h0.2
  have a0 := s176 (A := A) (d := d) (b := b) (n := n) (h := h) (w := 0) hl h0
  rw [if_pos rfl] at a0
  have e := l262 (A := A) (d := d + 1) (b := b) (i := i) (o := o) (B := B) (n := n) (h := h) (l := l.set 241 (12, 101, jfl9 (jdf 12) (F.set 0 (.int 0)))) (ob_set (by omega) (by simp [hF]; rfl)) (by simp [fg_set, g2]) (by simp [fg_set, g3]) ho (by rw [lg_set, if_neg (by decide)]; exact f2) (show i < 100 by omega) 8 i 0 (by omega)
  have w0 : lg l 241 = some (12, 101, jfl9 (jdf 12) F) := h0.1
  have q0 : ¬ nI i < 0 := nI_pos (by omega)
  have q1 : nI i < nI o := nI_lt hi (by omega)
  simp [je262, r262_0, r262_1, r262_2, r262_5, r262_6, r262_7, r262_10, r262_17, r262_18, r262_21, r262_26, r262_27, r262_28, r262_29, ag_nx, ag_dn, ag_no, ag_if, jbr1, jbr2, jc1, jc2, jnul, jld, jsto, jstoL, jst1, jst2, jkill, jinc, jbI, jbL, jbS, juI, jl2i, jcmp, jisR, jisI, jisL, jgtx, jtln, jtch, jret, jretv, jdup, jpop, jobj, jmm, jcat, Value.category, jinv, jrcv, jthr, jhd, jnewa, jnewc, jput, jget, B_getL, B_getL0, B_set, B_set0, B_new, B_top, fl_upd, fl_fg, fg_set, Nat.add_assoc, jlen, jald, jast, jgI, jgL, jgB, jtnew, fits_i, fits_l, fits_r, fits_o, fits_z0, fits_z1, fits_n, fits_m, lg_set, List.length_set, updI, updL, jthr, jhd, jtab, LL, jtnew, w0, g3, q0, q1, a0, e, na176, ow176]
set_option maxRecDepth 100000 in
theorem st12 {A : Nat → Nat} {d b n s0 L i : Nat} {h : Nat → Option jC} {l : List jC} {xs : Nat → Int32} {x5 x6 x7 : Option Value} {G F : List Value} {O : Nat → Int64} (hs0 : s0 < b) (hs : h s0 = some (25, L, fun j => .int (xs j))) (hL : L ≤ 3072) (hi : i + 6 ≤ L) (hl : 300 ≤ l.length) (h0 : ob l 0 10 G) (h2 : ob l 241 12 F) (fo : lg l 299 = some (21, 1, fun i => .long (O i))) {o : Nat} {B B' : Nat → Int32} (g2 : fg G 2 = some (.ref (b + 2))) (g3 : fg G 3 = some (.int (nI o))) (ho : o ≤ 12) (f2 : lg l 2 = some (22, 12, fun i => .int (B i))) (m12 : fg F 12 = some (.ref (b + 250))) (m19 : fg F 19 = some (.int (nI o))) (f250 : lg l 250 = some (22, 16, fun i => .int (B' i))) (hB : ∀ k, k < o → B k = B' k) : ro A d b s0 i h l n F (ML A (d + 60) 861 (LL s0 b i x5 x6 x7) [] (jB h b l n)) := by
  have i1 : nI i + 1 = nI (i + 1) := nI_add i 1
  have i2 : nI i + 2 = nI (i + 2) := nI_add i 2
  have i3 : nI i + 3 = nI (i + 3) := nI_add i 3
  have i4 : nI i + 4 = nI (i + 4) := nI_add i 4
  have i5 : nI i + 5 = nI (i + 5) := nI_add i 5
  have j1 : (nI (i + 1)).toNatClampNeg = i + 1 := nI_clamp (by omega)
  have j2 : (nI (i + 2)).toNatClampNeg = i + 2 := nI_clamp (by omega)
  have j3 : (nI (i + 3)).toNatClampNeg = i + 3 := nI_clamp (by omega)
  have j4 : (nI (i + 4)).toNatClampNeg = i + 4 := nI_clamp (by omega)
  have j5 : (nI (i + 5)).toNatClampNeg = i + 5 := nI_clamp (by omega)
  have p1 : 0 ≤ nI (i + 1) := nI_pos' (by omega)
  have p2 : 0 ≤ nI (i + 2) := nI_pos' (by omega)
  have p3 : 0 ≤ nI (i + 3) := nI_pos' (by omega)
  have p4 : 0 ≤ nI (i + 4) := nI_pos' (by omega)
  have p5 : 0 ≤ nI (i + 5) := nI_pos' (by omega)
  have z1 : i + 1 < L := by omega
  have z2 : i + 2 < L := by omega
  have z3 : i + 3 < L := by omega
  have z4 : i + 4 < L := by omega
  have z5 : i + 5 < L := by omega
  have hF : F.length = 101 := h2.2
  have w0 : lg l 0 = some (10, 14, jfl9 (jdf 10) G) := h0.1
  have w1 : lg l 241 = some (12, 101, jfl9 (jdf 12) F) := h2.1
  have u0 : 0 < l.length := by omega
  have u1 : 241 < l.length := by omega
  have u2 : 299 < l.length := by omega
  have v0 : 0 < l.length + 1 := by omega
  have v1 : 241 < l.length + 1 := by omega
  by_cases q0 : xs (i + 1) < 0
  · exact ro_ex hl h2 fo (E := 41) (v := 1) (y5 := some (.int 1)) (y6 := some (.long 0)) (y7 := none) (by simp [rL_861, rL_862, rL_863, rL_865, rL_866, rL_867, rL_868, rL_869, rL_872, rL_874, rL_875, rL_876, rL_878, rL_879, rL_880, rL_881, rL_884, rL_886, rL_887, rL_890, rL_892, rL_895, rL_896, rL_897, rL_899, rL_902, rL_903, rL_904, rL_905, rL_907, rL_908, rL_911, rL_912, rL_913, ag_nx, ag_dn, ag_no, ag_if, jbr1, jbr2, jc1, jc2, jnul, jld, jsto, jstoL, jst1, jst2, jkill, jinc, jbI, jbL, jbS, juI, jl2i, jcmp, jisR, jisI, jisL, jgtx, jtln, jtch, jret, jretv, jdup, jpop, jobj, jmm, jcat, Value.category, jinv, jrcv, jthr, jhd, jnewa, jnewc, jput, jget, B_getL, B_getL0, B_set, B_set0, B_new, B_top, fl_upd, fl_fg, fg_set, Nat.add_assoc, jlen, jald, jast, jgI, jgL, jgB, jtnew, fits_i, fits_l, fits_r, fits_o, fits_z0, fits_z1, fits_n, fits_m, lg_set, List.length_set, updI, updL, jthr, jhd, jtab, LL, jtnew, je303, r303_0, r303_1, r303_2, r303_3, r303_4, r303_7, r303_8, r303_11, r303_12, r303_13, r303_14, r303_15, pna303, pow303, ph303_11, je160, r160_0, r160_1, r160_4, r160_5, r160_6, r160_9, r160_12, r160_22, r160_23, r160_24, r160_25, r160_27, r160_29, r160_31, r160_34, r160_35, r160_37, r160_38, r160_40, r160_41, r160_43, r160_44, r160_46, r160_47, r160_50, r160_53, r160_54, r160_57, r160_59, r160_60, r160_63, r160_64, r160_67, r160_68, r160_69, r160_70, r160_71, r160_74, r160_77, r160_78, pna160, pow160, je262, r262_0, r262_1, r262_2, r262_5, r262_6, r262_7, r262_10, r262_13, r262_14, r262_17, r262_18, r262_21, r262_24, r262_25, r262_26, r262_27, r262_28, r262_29, r262_31, r262_33, r262_34, r262_36, r262_37, r262_40, r262_41, r262_43, r262_44, r262_46, r262_47, r262_50, r262_53, r262_54, r262_57, r262_59, r262_60, r262_61, r262_64, r262_65, r262_68, r262_69, r262_70, r262_71, r262_74, r262_77, r262_78, pna262, pow262, je176, r176_0, r176_1, r176_2, r176_5, r176_6, r176_9, r176_10, r176_13, r176_14, pna176, pow176, ty12_0, je175, r175_0, r175_1, r175_4, pna175, pow175, lg_app, B_low hs0, hs, i1, i2, i3, i4, i5, j1, j2, j3, j4, j5, p1, p2, p3, p4, p5, z1, z2, z3, z4, z5, w0, w1, fo, hF, u0, u1, u2, v0, v1, cmp_self, up, g3, m19, q0])
  by_cases q1 : xs (i + 1) < nI o
  · obtain ⟨k, hk, hx⟩ := nI_of q0
    have hkr : k < o := by
      rw [hx, nI_ltI hk (by omega)] at q1
      exact q1
    have a1 := s160 (A := A) (d := d + 58) (n := n) (h := h) h0 g2 g3 ho f2 hkr
    have hw := wd_eq hB 8 k 0
    rw [hw] at a1
    have h2b : ob (l.set 299 (21, 1, fun i => .long (up O 0 (wd B' o 8 k 0) i))) 241 12 F := ⟨by rw [lg_set, if_neg (by decide)]; exact h2.1, h2.2⟩
    have a2 := s262 (A := A) (d := d + 58) (n := n) (h := h) (l := l.set 299 (21, 1, fun i => .long (up O 0 (wd B' o 8 k 0) i))) (by simp; omega) h2b m12 m19 ho (by rw [lg_set, if_neg (by decide)]; exact f250) hkr
    simp only [up] at a2
    exact ro_ok hl h2 (O := up O 0 (wd B' o 8 k 0)) (y5 := some (.int 0)) (y6 := some (.long (wd B' o 8 k 0))) (y7 := none) (by simp [rL_861, rL_862, rL_863, rL_865, rL_866, rL_867, rL_868, rL_869, rL_872, rL_874, rL_875, rL_876, rL_878, rL_879, rL_880, rL_881, rL_884, rL_886, rL_887, rL_890, rL_892, rL_895, rL_896, rL_897, rL_899, rL_902, rL_903, rL_904, rL_905, rL_907, rL_908, rL_911, rL_912, rL_913, ag_nx, ag_dn, ag_no, ag_if, jbr1, jbr2, jc1, jc2, jnul, jld, jsto, jstoL, jst1, jst2, jkill, jinc, jbI, jbL, jbS, juI, jl2i, jcmp, jisR, jisI, jisL, jgtx, jtln, jtch, jret, jretv, jdup, jpop, jobj, jmm, jcat, Value.category, jinv, jrcv, jthr, jhd, jnewa, jnewc, jput, jget, B_getL, B_getL0, B_set, B_set0, B_new, B_top, fl_upd, fl_fg, fg_set, Nat.add_assoc, jlen, jald, jast, jgI, jgL, jgB, jtnew, fits_i, fits_l, fits_r, fits_o, fits_z0, fits_z1, fits_n, fits_m, lg_set, List.length_set, updI, updL, jthr, jhd, jtab, LL, jtnew, je303, r303_0, r303_1, r303_2, r303_3, r303_4, r303_7, r303_8, r303_11, r303_12, r303_13, r303_14, r303_15, pna303, pow303, pna160, pow160, pna262, pow262, pna175, pow175, je175, r175_0, r175_1, r175_4, lg_app, B_low hs0, hs, i1, i2, i3, i4, i5, j1, j2, j3, j4, j5, p1, p2, p3, p4, p5, z1, z2, z3, z4, z5, w0, w1, fo, hF, u0, u1, u2, v0, v1, cmp_self, up, hx, a1, a2])
  · exact ro_ex hl h2 fo (E := 41) (v := 1) (y5 := some (.int 1)) (y6 := some (.long 0)) (y7 := none) (by simp [rL_861, rL_862, rL_863, rL_865, rL_866, rL_867, rL_868, rL_869, rL_872, rL_874, rL_875, rL_876, rL_878, rL_879, rL_880, rL_881, rL_884, rL_886, rL_887, rL_890, rL_892, rL_895, rL_896, rL_897, rL_899, rL_902, rL_903, rL_904, rL_905, rL_907, rL_908, rL_911, rL_912, rL_913, ag_nx, ag_dn, ag_no, ag_if, jbr1, jbr2, jc1, jc2, jnul, jld, jsto, jstoL, jst1, jst2, jkill, jinc, jbI, jbL, jbS, juI, jl2i, jcmp, jisR, jisI, jisL, jgtx, jtln, jtch, jret, jretv, jdup, jpop, jobj, jmm, jcat, Value.category, jinv, jrcv, jthr, jhd, jnewa, jnewc, jput, jget, B_getL, B_getL0, B_set, B_set0, B_new, B_top, fl_upd, fl_fg, fg_set, Nat.add_assoc, jlen, jald, jast, jgI, jgL, jgB, jtnew, fits_i, fits_l, fits_r, fits_o, fits_z0, fits_z1, fits_n, fits_m, lg_set, List.length_set, updI, updL, jthr, jhd, jtab, LL, jtnew, je303, r303_0, r303_1, r303_2, r303_3, r303_4, r303_7, r303_8, r303_11, r303_12, r303_13, r303_14, r303_15, pna303, pow303, ph303_11, je160, r160_0, r160_1, r160_4, r160_5, r160_6, r160_9, r160_12, r160_22, r160_23, r160_24, r160_25, r160_27, r160_29, r160_31, r160_34, r160_35, r160_37, r160_38, r160_40, r160_41, r160_43, r160_44, r160_46, r160_47, r160_50, r160_53, r160_54, r160_57, r160_59, r160_60, r160_63, r160_64, r160_67, r160_68, r160_69, r160_70, r160_71, r160_74, r160_77, r160_78, pna160, pow160, je262, r262_0, r262_1, r262_2, r262_5, r262_6, r262_7, r262_10, r262_13, r262_14, r262_17, r262_18, r262_21, r262_24, r262_25, r262_26, r262_27, r262_28, r262_29, r262_31, r262_33, r262_34, r262_36, r262_37, r262_40, r262_41, r262_43, r262_44, r262_46, r262_47, r262_50, r262_53, r262_54, r262_57, r262_59, r262_60, r262_61, r262_64, r262_65, r262_68, r262_69, r262_70, r262_71, r262_74, r262_77, r262_78, pna262, pow262, je176, r176_0, r176_1, r176_2, r176_5, r176_6, r176_9, r176_10, r176_13, r176_14, pna176, pow176, ty12_0, je175, r175_0, r175_1, r175_4, pna175, pow175, lg_app, B_low hs0, hs, i1, i2, i3, i4, i5, j1, j2, j3, j4, j5, p1, p2, p3, p4, p5, z1, z2, z3, z4, z5, w0, w1, fo, hF, u0, u1, u2, v0, v1, cmp_self, up, g3, m19, q0, q1])
