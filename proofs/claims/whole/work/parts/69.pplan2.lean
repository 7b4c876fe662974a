/-! a plan: variables and states by their names -/
theorem l74 {A : Nat → Nat} {d b n pl cx px q : Nat} {h : Nat → Option jC} {l : List jC} {Pl : List Value} {C : Nat → Nat} {D : Nat → Int32} {x : Int32} (h0 : ob l pl 5 Pl) (pc : fg Pl 7 = some (.ref (b + cx))) (pn : fg Pl 8 = some (.ref (b + px))) (hq : q < 6) (hm : C q ≤ 6) (fc : lg l cx = some (20, 6, fun i => .int (nI (C i)))) (f : lg l px = some (20, 36, fun i => .int (D i))) : ∀ (r k : Nat), k + r = C q → M74 A d 14 [some (.ref (b + pl)), some (.int (nI q)), some (.int x), some (.int (nI k))] [] (jB h b l n) = some (.inl (some (.int (inO (fdx (fun j => D (q * 6 + j)) x r k)))), jB h b l n) := by
  have w0 : lg l pl = some (5, 18, jfl9 (jdf 5) Pl) := h0.1
  have i6 : (6 : Int32) = nI 6 := by decide
  have q3 : (nI q).toNatClampNeg = q := nI_clamp (by omega)
  have q4 : 0 ≤ nI q := nI_pos' (by omega)
  intro r
  induction r with
  | zero =>
    intro k hk
    have h1 : nI (C q) ≤ nI k := nI_le (by omega) (by omega)
    rw [r74_14]
    simp [r74_0, r74_1, r74_4, r74_5, r74_7, r74_10, r74_11, r74_12, r74_13, r74_15, r74_16, r74_19, r74_20, r74_21, r74_24, r74_25, r74_27, r74_30, r74_31, r74_34, r74_35, r74_37, r74_38, r74_39, r74_40, r74_41, r74_42, r74_45, r74_46, r74_47, r74_50, r74_53, r74_54, ag_nx, ag_dn, ag_no, ag_if, jbr1, jbr2, jc1, jc2, jnul, jld, jsto, jstoL, jst1, jst2, jkill, jinc, jbI, jbL, jbS, juI, jl2i, jcmp, jisR, jisI, jisL, jgtx, jtln, jtch, jret, jretv, jdup, jpop, jobj, jmm, jcat, Value.category, jinv, jrcv, jthr, jhd, jnewa, jnewc, jput, jget, B_getL, B_getL0, B_set, B_set0, B_new, B_top, fl_upd, fl_fg, fg_set, Nat.add_assoc, jlen, jald, jast, jgI, jgL, jgB, jtnew, fits_i, fits_l, fits_r, fits_o, fits_z0, fits_z1, fits_n, fits_m, lg_set, List.length_set, updI, updL, jthr, jhd, jtab, LL, jtnew, w0, pc, fc, q3, q4, hq, h1, fdx, inO]
  | succ r ih =>
    intro k hk
    have h1 : ¬ nI (C q) ≤ nI k := nI_ge (by omega) (by omega)
    have h2 : ¬ (6 : Int32) ≤ nI k := by rw [i6]; exact nI_ge (by omega) (by omega)
    have y1 : nI q * 6 + nI k = nI (q * 6 + k) := by
      rw [i6, ← nI_add]
      congr 1
      exact (Int32.ofNat_mul q 6).symm
    have k3 : (nI (q * 6 + k)).toNatClampNeg = q * 6 + k := nI_clamp (by omega)
    have k4 : 0 ≤ nI (q * 6 + k) := nI_pos' (by omega)
    have k5 : q * 6 + k < 36 := by omega
    have e := ih (k + 1) (by omega)
    rw [r74_14]
    by_cases hc : D (q * 6 + k) = x
    · simp [r74_0, r74_1, r74_4, r74_5, r74_7, r74_10, r74_11, r74_12, r74_13, r74_15, r74_16, r74_19, r74_20, r74_21, r74_24, r74_25, r74_27, r74_30, r74_31, r74_34, r74_35, r74_37, r74_38, r74_39, r74_40, r74_41, r74_42, r74_45, r74_46, r74_47, r74_50, r74_53, r74_54, ag_nx, ag_dn, ag_no, ag_if, jbr1, jbr2, jc1, jc2, jnul, jld, jsto, jstoL, jst1, jst2, jkill, jinc, jbI, jbL, jbS, juI, jl2i, jcmp, jisR, jisI, jisL, jgtx, jtln, jtch, jret, jretv, jdup, jpop, jobj, jmm, jcat, Value.category, jinv, jrcv, jthr, jhd, jnewa, jnewc, jput, jget, B_getL, B_getL0, B_set, B_set0, B_new, B_top, fl_upd, fl_fg, fg_set, Nat.add_assoc, jlen, jald, jast, jgI, jgL, jgB, jtnew, fits_i, fits_l, fits_r, fits_o, fits_z0, fits_z1, fits_n, fits_m, lg_set, List.length_set, updI, updL, jthr, jhd, jtab, LL, jtnew, w0, pc, pn, fc, f, q3, q4, hq, h1, h2, y1, k3, k4, k5, fdx, hc, inO]
    · simp [r74_0, r74_1, r74_4, r74_5, r74_7, r74_10, r74_11, r74_12, r74_13, r74_15, r74_16, r74_19, r74_20, r74_21, r74_24, r74_25, r74_27, r74_30, r74_31, r74_34, r74_35, r74_37, r74_38, r74_39, r74_40, r74_41, r74_42, r74_45, r74_46, r74_47, r74_50, r74_53, r74_54, ag_nx, ag_dn, ag_no, ag_if, jbr1, jbr2, jc1, jc2, jnul, jld, jsto, jstoL, jst1, jst2, jkill, jinc, jbI, jbL, jbS, juI, jl2i, jcmp, jisR, jisI, jisL, jgtx, jtln, jtch, jret, jretv, jdup, jpop, jobj, jmm, jcat, Value.category, jinv, jrcv, jthr, jhd, jnewa, jnewc, jput, jget, B_getL, B_getL0, B_set, B_set0, B_new, B_top, fl_upd, fl_fg, fg_set, Nat.add_assoc, jlen, jald, jast, jgI, jgL, jgB, jtnew, fits_i, fits_l, fits_r, fits_o, fits_z0, fits_z1, fits_n, fits_m, lg_set, List.length_set, updI, updL, jthr, jhd, jtab, LL, jtnew, w0, pc, pn, fc, f, q3, q4, hq, h1, h2, y1, k3, k4, k5, fdx, hc, nI_1, e]
theorem s74 {A : Nat → Nat} {d b n pl cx px q : Nat} {h : Nat → Option jC} {l : List jC} {Pl : List Value} {C : Nat → Nat} {D : Nat → Int32} {x : Int32} (h0 : ob l pl 5 Pl) (pc : fg Pl 7 = some (.ref (b + cx))) (pn : fg Pl 8 = some (.ref (b + px))) (hq : q < 6) (hm : C q ≤ 6) (fc : lg l cx = some (20, 6, fun i => .int (nI (C i)))) (f : lg l px = some (20, 36, fun i => .int (D i))) : jcall A jcode (d + 1) 74 [.ref (b + pl), .int (nI q), .int x] (jB h b l n) = some (.inl (some (.int (inO (fdx (fun j => D (q * 6 + j)) x (C q) 0)))), jB h b l n) := by
  have e := l74 (A := A) (d := d) (n := n) (h := h) (x := x) h0 pc pn hq hm fc f (C q) 0 (by omega)
  have i0 : nI 0 = 0 := by decide
  have z1 : ¬ nI q < 0 := nI_pos (by omega)
  have z2 : nI q < 6 := by rw [show (6 : Int32) = nI 6 by decide]; exact nI_lt hq (by omega)
  rw [i0] at e
  simp [je74, r74_0, r74_1, r74_4, r74_5, r74_7, r74_12, r74_13, ag_nx, ag_dn, ag_no, ag_if, jbr1, jbr2, jc1, jc2, jnul, jld, jsto, jstoL, jst1, jst2, jkill, jinc, jbI, jbL, jbS, juI, jl2i, jcmp, jisR, jisI, jisL, jgtx, jtln, jtch, jret, jretv, jdup, jpop, jobj, jmm, jcat, Value.category, jinv, jrcv, jthr, jhd, jnewa, jnewc, jput, jget, B_getL, B_getL0, B_set, B_set0, B_new, B_top, fl_upd, fl_fg, fg_set, Nat.add_assoc, jlen, jald, jast, jgI, jgL, jgB, jtnew, fits_i, fits_l, fits_r, fits_o, fits_z0, fits_z1, fits_n, fits_m, lg_set, List.length_set, updI, updL, jthr, jhd, jtab, LL, jtnew, z1, z2, e]
theorem l75 {A : Nat → Nat} {d b n pl cx px q : Nat} {h : Nat → Option jC} {l : List jC} {Pl : List Value} {C : Nat → Nat} {D : Nat → Int32} {x : Int32} (h0 : ob l pl 5 Pl) (pc : fg Pl 10 = some (.ref (b + cx))) (pn : fg Pl 11 = some (.ref (b + px))) (hq : q < 6) (hm : C q ≤ 8) (fc : lg l cx = some (20, 6, fun i => .int (nI (C i)))) (f : lg l px = some (20, 48, fun i => .int (D i))) : ∀ (r k : Nat), k + r = C q → M75 A d 14 [some (.ref (b + pl)), some (.int (nI q)), some (.int x), some (.int (nI k))] [] (jB h b l n) = some (.inl (some (.int (inO (fdx (fun j => D (q * 8 + j)) x r k)))), jB h b l n) := by
  have w0 : lg l pl = some (5, 18, jfl9 (jdf 5) Pl) := h0.1
  have i6 : (8 : Int32) = nI 8 := by decide
  have q3 : (nI q).toNatClampNeg = q := nI_clamp (by omega)
  have q4 : 0 ≤ nI q := nI_pos' (by omega)
  intro r
  induction r with
  | zero =>
    intro k hk
    have h1 : nI (C q) ≤ nI k := nI_le (by omega) (by omega)
    rw [r75_14]
    simp [r75_0, r75_1, r75_4, r75_5, r75_7, r75_10, r75_11, r75_12, r75_13, r75_15, r75_16, r75_19, r75_20, r75_21, r75_24, r75_25, r75_27, r75_30, r75_31, r75_34, r75_35, r75_37, r75_38, r75_39, r75_40, r75_41, r75_42, r75_45, r75_46, r75_47, r75_50, r75_53, r75_54, ag_nx, ag_dn, ag_no, ag_if, jbr1, jbr2, jc1, jc2, jnul, jld, jsto, jstoL, jst1, jst2, jkill, jinc, jbI, jbL, jbS, juI, jl2i, jcmp, jisR, jisI, jisL, jgtx, jtln, jtch, jret, jretv, jdup, jpop, jobj, jmm, jcat, Value.category, jinv, jrcv, jthr, jhd, jnewa, jnewc, jput, jget, B_getL, B_getL0, B_set, B_set0, B_new, B_top, fl_upd, fl_fg, fg_set, Nat.add_assoc, jlen, jald, jast, jgI, jgL, jgB, jtnew, fits_i, fits_l, fits_r, fits_o, fits_z0, fits_z1, fits_n, fits_m, lg_set, List.length_set, updI, updL, jthr, jhd, jtab, LL, jtnew, w0, pc, fc, q3, q4, hq, h1, fdx, inO]
  | succ r ih =>
    intro k hk
    have h1 : ¬ nI (C q) ≤ nI k := nI_ge (by omega) (by omega)
    have h2 : ¬ (8 : Int32) ≤ nI k := by rw [i6]; exact nI_ge (by omega) (by omega)
    have y1 : nI q * 8 + nI k = nI (q * 8 + k) := by
      rw [i6, ← nI_add]
      congr 1
      exact (Int32.ofNat_mul q 8).symm
    have k3 : (nI (q * 8 + k)).toNatClampNeg = q * 8 + k := nI_clamp (by omega)
    have k4 : 0 ≤ nI (q * 8 + k) := nI_pos' (by omega)
    have k5 : q * 8 + k < 48 := by omega
    have e := ih (k + 1) (by omega)
    rw [r75_14]
    by_cases hc : D (q * 8 + k) = x
    · simp [r75_0, r75_1, r75_4, r75_5, r75_7, r75_10, r75_11, r75_12, r75_13, r75_15, r75_16, r75_19, r75_20, r75_21, r75_24, r75_25, r75_27, r75_30, r75_31, r75_34, r75_35, r75_37, r75_38, r75_39, r75_40, r75_41, r75_42, r75_45, r75_46, r75_47, r75_50, r75_53, r75_54, ag_nx, ag_dn, ag_no, ag_if, jbr1, jbr2, jc1, jc2, jnul, jld, jsto, jstoL, jst1, jst2, jkill, jinc, jbI, jbL, jbS, juI, jl2i, jcmp, jisR, jisI, jisL, jgtx, jtln, jtch, jret, jretv, jdup, jpop, jobj, jmm, jcat, Value.category, jinv, jrcv, jthr, jhd, jnewa, jnewc, jput, jget, B_getL, B_getL0, B_set, B_set0, B_new, B_top, fl_upd, fl_fg, fg_set, Nat.add_assoc, jlen, jald, jast, jgI, jgL, jgB, jtnew, fits_i, fits_l, fits_r, fits_o, fits_z0, fits_z1, fits_n, fits_m, lg_set, List.length_set, updI, updL, jthr, jhd, jtab, LL, jtnew, w0, pc, pn, fc, f, q3, q4, hq, h1, h2, y1, k3, k4, k5, fdx, hc, inO]
    · simp [r75_0, r75_1, r75_4, r75_5, r75_7, r75_10, r75_11, r75_12, r75_13, r75_15, r75_16, r75_19, r75_20, r75_21, r75_24, r75_25, r75_27, r75_30, r75_31, r75_34, r75_35, r75_37, r75_38, r75_39, r75_40, r75_41, r75_42, r75_45, r75_46, r75_47, r75_50, r75_53, r75_54, ag_nx, ag_dn, ag_no, ag_if, jbr1, jbr2, jc1, jc2, jnul, jld, jsto, jstoL, jst1, jst2, jkill, jinc, jbI, jbL, jbS, juI, jl2i, jcmp, jisR, jisI, jisL, jgtx, jtln, jtch, jret, jretv, jdup, jpop, jobj, jmm, jcat, Value.category, jinv, jrcv, jthr, jhd, jnewa, jnewc, jput, jget, B_getL, B_getL0, B_set, B_set0, B_new, B_top, fl_upd, fl_fg, fg_set, Nat.add_assoc, jlen, jald, jast, jgI, jgL, jgB, jtnew, fits_i, fits_l, fits_r, fits_o, fits_z0, fits_z1, fits_n, fits_m, lg_set, List.length_set, updI, updL, jthr, jhd, jtab, LL, jtnew, w0, pc, pn, fc, f, q3, q4, hq, h1, h2, y1, k3, k4, k5, fdx, hc, nI_1, e]
theorem s75 {A : Nat → Nat} {d b n pl cx px q : Nat} {h : Nat → Option jC} {l : List jC} {Pl : List Value} {C : Nat → Nat} {D : Nat → Int32} {x : Int32} (h0 : ob l pl 5 Pl) (pc : fg Pl 10 = some (.ref (b + cx))) (pn : fg Pl 11 = some (.ref (b + px))) (hq : q < 6) (hm : C q ≤ 8) (fc : lg l cx = some (20, 6, fun i => .int (nI (C i)))) (f : lg l px = some (20, 48, fun i => .int (D i))) : jcall A jcode (d + 1) 75 [.ref (b + pl), .int (nI q), .int x] (jB h b l n) = some (.inl (some (.int (inO (fdx (fun j => D (q * 8 + j)) x (C q) 0)))), jB h b l n) := by
  have e := l75 (A := A) (d := d) (n := n) (h := h) (x := x) h0 pc pn hq hm fc f (C q) 0 (by omega)
  have i0 : nI 0 = 0 := by decide
  have z1 : ¬ nI q < 0 := nI_pos (by omega)
  have z2 : nI q < 6 := by rw [show (6 : Int32) = nI 6 by decide]; exact nI_lt hq (by omega)
  rw [i0] at e
  simp [je75, r75_0, r75_1, r75_4, r75_5, r75_7, r75_12, r75_13, ag_nx, ag_dn, ag_no, ag_if, jbr1, jbr2, jc1, jc2, jnul, jld, jsto, jstoL, jst1, jst2, jkill, jinc, jbI, jbL, jbS, juI, jl2i, jcmp, jisR, jisI, jisL, jgtx, jtln, jtch, jret, jretv, jdup, jpop, jobj, jmm, jcat, Value.category, jinv, jrcv, jthr, jhd, jnewa, jnewc, jput, jget, B_getL, B_getL0, B_set, B_set0, B_new, B_top, fl_upd, fl_fg, fg_set, Nat.add_assoc, jlen, jald, jast, jgI, jgL, jgB, jtnew, fits_i, fits_l, fits_r, fits_o, fits_z0, fits_z1, fits_n, fits_m, lg_set, List.length_set, updI, updL, jthr, jhd, jtab, LL, jtnew, z1, z2, e]
