/-! a plan: looking for names -/
theorem l73 {A : Nat → Nat} {d b n pl px m : Nat} {h : Nat → Option jC} {l : List jC} {Pl : List Value} {D : Nat → Int32} {x : Int32} (h0 : ob l pl 5 Pl) (p3 : fg Pl 3 = some (.int (nI m))) (p4 : fg Pl 4 = some (.ref (b + px))) (hm : m ≤ 6) (f : lg l px = some (20, 6, fun i => .int (D i))) : ∀ (r k : Nat), k + r = m → M73 A d 2 [some (.ref (b + pl)), some (.int x), some (.int (nI k))] [] (jB h b l n) = some (.inl (some (.int (inO (fdx D x r k)))), jB h b l n) := by
  have w0 : lg l pl = some (5, 18, jfl9 (jdf 5) Pl) := h0.1
  have i6 : (6 : Int32) = nI 6 := by decide
  intro r
  induction r with
  | zero =>
    intro k hk
    have h1 : nI m ≤ nI k := nI_le (by omega) (by omega)
    rw [r73_2]
    simp [r73_0, r73_1, r73_3, r73_4, r73_7, r73_10, r73_11, r73_13, r73_16, r73_17, r73_20, r73_21, r73_22, r73_23, r73_26, r73_27, r73_28, r73_31, r73_34, r73_35, ag_nx, ag_dn, ag_no, ag_if, jbr1, jbr2, jc1, jc2, jnul, jld, jsto, jstoL, jst1, jst2, jkill, jinc, jbI, jbL, jbS, juI, jl2i, jcmp, jisR, jisI, jisL, jgtx, jtln, jtch, jret, jretv, jdup, jpop, jobj, jmm, jcat, Value.category, jinv, jrcv, jthr, jhd, jnewa, jnewc, jput, jget, B_getL, B_getL0, B_set, B_set0, B_new, B_top, fl_upd, fl_fg, fg_set, Nat.add_assoc, jlen, jald, jast, jgI, jgL, jgB, jtnew, fits_i, fits_l, fits_r, fits_o, fits_z0, fits_z1, fits_n, fits_m, lg_set, List.length_set, updI, updL, jthr, jhd, jtab, LL, jtnew, w0, p3, h1, fdx, inO]
  | succ r ih =>
    intro k hk
    have h1 : ¬ nI m ≤ nI k := nI_ge (by omega) (by omega)
    have h2 : ¬ (6 : Int32) ≤ nI k := by rw [i6]; exact nI_ge (by omega) (by omega)
    have k3 : (nI k).toNatClampNeg = k := nI_clamp (by omega)
    have k4 : 0 ≤ nI k := nI_pos' (by omega)
    have k5 : k < 6 := by omega
    have e := ih (k + 1) (by omega)
    rw [r73_2]
    by_cases hc : D k = x
    · simp [r73_0, r73_1, r73_3, r73_4, r73_7, r73_10, r73_11, r73_13, r73_16, r73_17, r73_20, r73_21, r73_22, r73_23, r73_26, r73_27, r73_28, r73_31, r73_34, r73_35, ag_nx, ag_dn, ag_no, ag_if, jbr1, jbr2, jc1, jc2, jnul, jld, jsto, jstoL, jst1, jst2, jkill, jinc, jbI, jbL, jbS, juI, jl2i, jcmp, jisR, jisI, jisL, jgtx, jtln, jtch, jret, jretv, jdup, jpop, jobj, jmm, jcat, Value.category, jinv, jrcv, jthr, jhd, jnewa, jnewc, jput, jget, B_getL, B_getL0, B_set, B_set0, B_new, B_top, fl_upd, fl_fg, fg_set, Nat.add_assoc, jlen, jald, jast, jgI, jgL, jgB, jtnew, fits_i, fits_l, fits_r, fits_o, fits_z0, fits_z1, fits_n, fits_m, lg_set, List.length_set, updI, updL, jthr, jhd, jtab, LL, jtnew, w0, p3, p4, f, h1, h2, k3, k4, k5, fdx, hc, inO]
    · simp [r73_0, r73_1, r73_3, r73_4, r73_7, r73_10, r73_11, r73_13, r73_16, r73_17, r73_20, r73_21, r73_22, r73_23, r73_26, r73_27, r73_28, r73_31, r73_34, r73_35, ag_nx, ag_dn, ag_no, ag_if, jbr1, jbr2, jc1, jc2, jnul, jld, jsto, jstoL, jst1, jst2, jkill, jinc, jbI, jbL, jbS, juI, jl2i, jcmp, jisR, jisI, jisL, jgtx, jtln, jtch, jret, jretv, jdup, jpop, jobj, jmm, jcat, Value.category, jinv, jrcv, jthr, jhd, jnewa, jnewc, jput, jget, B_getL, B_getL0, B_set, B_set0, B_new, B_top, fl_upd, fl_fg, fg_set, Nat.add_assoc, jlen, jald, jast, jgI, jgL, jgB, jtnew, fits_i, fits_l, fits_r, fits_o, fits_z0, fits_z1, fits_n, fits_m, lg_set, List.length_set, updI, updL, jthr, jhd, jtab, LL, jtnew, w0, p3, p4, f, h1, h2, k3, k4, k5, fdx, hc, nI_1, e]
theorem s73 {A : Nat → Nat} {d b n pl px m : Nat} {h : Nat → Option jC} {l : List jC} {Pl : List Value} {D : Nat → Int32} {x : Int32} (h0 : ob l pl 5 Pl) (p3 : fg Pl 3 = some (.int (nI m))) (p4 : fg Pl 4 = some (.ref (b + px))) (hm : m ≤ 6) (f : lg l px = some (20, 6, fun i => .int (D i))) : jcall A jcode (d + 1) 73 [.ref (b + pl), .int x] (jB h b l n) = some (.inl (some (.int (inO (fdx D x m 0)))), jB h b l n) := by
  have e := l73 (A := A) (d := d) (n := n) (h := h) (x := x) h0 p3 p4 hm f m 0 (by omega)
  have i0 : nI 0 = 0 := by decide
  rw [i0] at e
  simp [je73, r73_0, r73_1, ag_nx, ag_dn, ag_no, ag_if, jbr1, jbr2, jc1, jc2, jnul, jld, jsto, jstoL, jst1, jst2, jkill, jinc, jbI, jbL, jbS, juI, jl2i, jcmp, jisR, jisI, jisL, jgtx, jtln, jtch, jret, jretv, jdup, jpop, jobj, jmm, jcat, Value.category, jinv, jrcv, jthr, jhd, jnewa, jnewc, jput, jget, B_getL, B_getL0, B_set, B_set0, B_new, B_top, fl_upd, fl_fg, fg_set, Nat.add_assoc, jlen, jald, jast, jgI, jgL, jgB, jtnew, fits_i, fits_l, fits_r, fits_o, fits_z0, fits_z1, fits_n, fits_m, lg_set, List.length_set, updI, updL, jthr, jhd, jtab, LL, jtnew, e]
