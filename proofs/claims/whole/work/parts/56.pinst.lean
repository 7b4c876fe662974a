/-! instances by their ids -/
def fdx (D : Nat → Int32) (x : Int32) : Nat → Nat → Option Nat
  | 0, _ => none
  | r + 1, k => if D k = x then some k else fdx D x r (k + 1)
theorem fdx_lt {D : Nat → Int32} {x : Int32} : ∀ (r k j : Nat), fdx D x r k = some j → k ≤ j ∧ j < k + r ∧ D j = x := by
  intro r
  induction r with
  | zero => intro k j h; cases h
  | succ r ih =>
    intro k j h
    unfold fdx at h
    split at h
    · next e => cases h; exact ⟨by omega, by omega, e⟩
    · obtain ⟨h1, h2, h3⟩ := ih (k + 1) j h
      exact ⟨by omega, by omega, h3⟩
theorem fdx_eq {D D' : Nat → Int32} {x : Int32} : ∀ (r k : Nat), (∀ j, j < k + r → D j = D' j) → fdx D x r k = fdx D' x r k := by
  intro r
  induction r with
  | zero => intro k _; rfl
  | succ r ih =>
    intro k h
    unfold fdx
    rw [h k (by omega), ih (k + 1) (fun j hj => h j (by omega))]
def rfO (b : Nat) (p : Nat → Nat) (o : Option Nat) : Value := match o with
  | some k => .ref (b + p k)
  | none => .null
def inO (o : Option Nat) : Int32 := match o with
  | some k => nI k
  | none => -1
/-- the world's instances: m of them live, at places p, with ids D -/
def isIn (b : Nat) (l : List jC) (W : List Value) (m : Nat) (p : Nat → Nat) (D : Nat → Int32) : Prop := ob l 57 9 W ∧ fg W 2 = some (.ref (b + 65)) ∧ fg W 3 = some (.int (nI m)) ∧ m ≤ 8 ∧ (∃ Sl : Nat → Value, lg l 65 = some (24, 8, Sl) ∧ ∀ k, k < m → Sl k = .ref (b + p k)) ∧ ∀ k, k < m → ∃ I, ob l (p k) 2 I ∧ fg I 0 = some (.int (D k))
theorem l116 {A : Nat → Nat} {d b n m : Nat} {h : Nat → Option jC} {l : List jC} {W : List Value} {p : Nat → Nat} {D : Nat → Int32} {x : Int32} (hw : isIn b l W m p D) : ∀ (r k : Nat), k + r = m → M116 A d 2 [some (.ref (b + 57)), some (.int x), some (.int (nI k))] [] (jB h b l n) = some (.inl (some (rfO b p (fdx D x r k))), jB h b l n) := by
  obtain ⟨h0, g2, g3, hm, ⟨Sl, fs, hSl⟩, hI⟩ := hw
  have w0 : lg l 57 = some (9, 13, jfl9 (jdf 9) W) := h0.1
  intro r
  induction r with
  | zero =>
    intro k hk
    have h1 : nI m ≤ nI k := nI_le (by omega) (by omega)
    rw [r116_2]
    simp [r116_0, r116_1, r116_3, r116_4, r116_7, r116_10, r116_11, r116_13, r116_16, r116_17, r116_20, r116_21, r116_22, r116_25, r116_26, r116_29, r116_30, r116_33, r116_34, r116_35, r116_36, r116_39, r116_42, r116_43, ag_nx, ag_dn, ag_no, ag_if, jbr1, jbr2, jc1, jc2, jnul, jld, jsto, jstoL, jst1, jst2, jkill, jinc, jbI, jbL, jbS, juI, jl2i, jcmp, jisR, jisI, jisL, jgtx, jtln, jtch, jret, jretv, jdup, jpop, jobj, jmm, jcat, Value.category, jinv, jrcv, jthr, jhd, jnewa, jnewc, jput, jget, B_getL, B_getL0, B_set, B_set0, B_new, B_top, fl_upd, fl_fg, fg_set, Nat.add_assoc, jlen, jald, jast, jgI, jgL, jgB, jtnew, fits_i, fits_l, fits_r, fits_o, fits_z0, fits_z1, fits_n, fits_m, lg_set, List.length_set, updI, updL, jthr, jhd, jtab, LL, jtnew, w0, g3, h1, fdx, rfO]
  | succ r ih =>
    intro k hk
    have h1 : ¬ nI m ≤ nI k := nI_ge (by omega) (by omega)
    have h2 : ¬ (8 : Int32) ≤ nI k := by rw [nI8]; exact nI_ge (by omega) (by omega)
    have k3 : (nI k).toNatClampNeg = k := nI_clamp (by omega)
    have k4 : 0 ≤ nI k := nI_pos' (by omega)
    have k5 : k < 8 := by omega
    have e := ih (k + 1) (by omega)
    obtain ⟨I, hI1, hI2⟩ := hI k (by omega)
    have wI : lg l (p k) = some (2, 15, jfl9 (jdf 2) I) := hI1.1
    have hS := hSl k (by omega)
    rw [r116_2]
    by_cases hc : D k = x
    · simp [r116_0, r116_1, r116_3, r116_4, r116_7, r116_10, r116_11, r116_13, r116_16, r116_17, r116_20, r116_21, r116_22, r116_25, r116_26, r116_29, r116_30, r116_33, r116_34, r116_35, r116_36, r116_39, r116_42, r116_43, ag_nx, ag_dn, ag_no, ag_if, jbr1, jbr2, jc1, jc2, jnul, jld, jsto, jstoL, jst1, jst2, jkill, jinc, jbI, jbL, jbS, juI, jl2i, jcmp, jisR, jisI, jisL, jgtx, jtln, jtch, jret, jretv, jdup, jpop, jobj, jmm, jcat, Value.category, jinv, jrcv, jthr, jhd, jnewa, jnewc, jput, jget, B_getL, B_getL0, B_set, B_set0, B_new, B_top, fl_upd, fl_fg, fg_set, Nat.add_assoc, jlen, jald, jast, jgI, jgL, jgB, jtnew, fits_i, fits_l, fits_r, fits_o, fits_z0, fits_z1, fits_n, fits_m, lg_set, List.length_set, updI, updL, jthr, jhd, jtab, LL, jtnew, w0, g2, g3, fs, hS, wI, hI2, h1, h2, k3, k4, k5, fdx, hc, rfO]
    · simp [r116_0, r116_1, r116_3, r116_4, r116_7, r116_10, r116_11, r116_13, r116_16, r116_17, r116_20, r116_21, r116_22, r116_25, r116_26, r116_29, r116_30, r116_33, r116_34, r116_35, r116_36, r116_39, r116_42, r116_43, ag_nx, ag_dn, ag_no, ag_if, jbr1, jbr2, jc1, jc2, jnul, jld, jsto, jstoL, jst1, jst2, jkill, jinc, jbI, jbL, jbS, juI, jl2i, jcmp, jisR, jisI, jisL, jgtx, jtln, jtch, jret, jretv, jdup, jpop, jobj, jmm, jcat, Value.category, jinv, jrcv, jthr, jhd, jnewa, jnewc, jput, jget, B_getL, B_getL0, B_set, B_set0, B_new, B_top, fl_upd, fl_fg, fg_set, Nat.add_assoc, jlen, jald, jast, jgI, jgL, jgB, jtnew, fits_i, fits_l, fits_r, fits_o, fits_z0, fits_z1, fits_n, fits_m, lg_set, List.length_set, updI, updL, jthr, jhd, jtab, LL, jtnew, w0, g2, g3, fs, hS, wI, hI2, h1, h2, k3, k4, k5, fdx, hc, nI_1, e]
theorem s116 {A : Nat → Nat} {d b n m : Nat} {h : Nat → Option jC} {l : List jC} {W : List Value} {p : Nat → Nat} {D : Nat → Int32} {x : Int32} (hw : isIn b l W m p D) : jcall A jcode (d + 1) 116 [.ref (b + 57), .int x] (jB h b l n) = some (.inl (some (rfO b p (fdx D x m 0))), jB h b l n) := by
  have e := l116 (A := A) (d := d) (n := n) (h := h) (x := x) hw m 0 (by omega)
  have i0 : nI 0 = 0 := by decide
  rw [i0] at e
  simp [je116, r116_0, r116_1, ag_nx, ag_dn, ag_no, ag_if, jbr1, jbr2, jc1, jc2, jnul, jld, jsto, jstoL, jst1, jst2, jkill, jinc, jbI, jbL, jbS, juI, jl2i, jcmp, jisR, jisI, jisL, jgtx, jtln, jtch, jret, jretv, jdup, jpop, jobj, jmm, jcat, Value.category, jinv, jrcv, jthr, jhd, jnewa, jnewc, jput, jget, B_getL, B_getL0, B_set, B_set0, B_new, B_top, fl_upd, fl_fg, fg_set, Nat.add_assoc, jlen, jald, jast, jgI, jgL, jgB, jtnew, fits_i, fits_l, fits_r, fits_o, fits_z0, fits_z1, fits_n, fits_m, lg_set, List.length_set, updI, updL, jthr, jhd, jtab, LL, jtnew, e]
theorem l220 {A : Nat → Nat} {d b n m : Nat} {h : Nat → Option jC} {l : List jC} {F : List Value} {D : Nat → Int32} {x : Int32} (h0 : ob l 241 12 F) (g3 : fg F 36 = some (.int (nI m))) (g2 : fg F 42 = some (.ref (b + 260))) (hm : m ≤ 8) (f : lg l 260 = some (20, 8, fun i => .int (D i))) : ∀ (r k : Nat), k + r = m → M220 A d 2 [some (.ref (b + 241)), some (.int x), some (.int (nI k))] [] (jB h b l n) = some (.inl (some (.int (inO (fdx D x r k)))), jB h b l n) := by
  have w0 : lg l 241 = some (12, 101, jfl9 (jdf 12) F) := h0.1
  intro r
  induction r with
  | zero =>
    intro k hk
    have h1 : nI m ≤ nI k := nI_le (by omega) (by omega)
    rw [r220_2]
    simp [r220_0, r220_1, r220_3, r220_4, r220_7, r220_10, r220_11, r220_14, r220_15, r220_16, r220_17, r220_20, r220_21, r220_22, r220_25, r220_28, r220_29, ag_nx, ag_dn, ag_no, ag_if, jbr1, jbr2, jc1, jc2, jnul, jld, jsto, jstoL, jst1, jst2, jkill, jinc, jbI, jbL, jbS, juI, jl2i, jcmp, jisR, jisI, jisL, jgtx, jtln, jtch, jret, jretv, jdup, jpop, jobj, jmm, jcat, Value.category, jinv, jrcv, jthr, jhd, jnewa, jnewc, jput, jget, B_getL, B_getL0, B_set, B_set0, B_new, B_top, fl_upd, fl_fg, fg_set, Nat.add_assoc, jlen, jald, jast, jgI, jgL, jgB, jtnew, fits_i, fits_l, fits_r, fits_o, fits_z0, fits_z1, fits_n, fits_m, lg_set, List.length_set, updI, updL, jthr, jhd, jtab, LL, jtnew, w0, g3, h1, fdx, inO]
  | succ r ih =>
    intro k hk
    have h1 : ¬ nI m ≤ nI k := nI_ge (by omega) (by omega)
    have k3 : (nI k).toNatClampNeg = k := nI_clamp (by omega)
    have k4 : 0 ≤ nI k := nI_pos' (by omega)
    have k5 : k < 8 := by omega
    have e := ih (k + 1) (by omega)
    rw [r220_2]
    by_cases hc : D k = x
    · simp [r220_0, r220_1, r220_3, r220_4, r220_7, r220_10, r220_11, r220_14, r220_15, r220_16, r220_17, r220_20, r220_21, r220_22, r220_25, r220_28, r220_29, ag_nx, ag_dn, ag_no, ag_if, jbr1, jbr2, jc1, jc2, jnul, jld, jsto, jstoL, jst1, jst2, jkill, jinc, jbI, jbL, jbS, juI, jl2i, jcmp, jisR, jisI, jisL, jgtx, jtln, jtch, jret, jretv, jdup, jpop, jobj, jmm, jcat, Value.category, jinv, jrcv, jthr, jhd, jnewa, jnewc, jput, jget, B_getL, B_getL0, B_set, B_set0, B_new, B_top, fl_upd, fl_fg, fg_set, Nat.add_assoc, jlen, jald, jast, jgI, jgL, jgB, jtnew, fits_i, fits_l, fits_r, fits_o, fits_z0, fits_z1, fits_n, fits_m, lg_set, List.length_set, updI, updL, jthr, jhd, jtab, LL, jtnew, w0, g2, g3, f, h1, k3, k4, k5, fdx, hc, inO]
    · simp [r220_0, r220_1, r220_3, r220_4, r220_7, r220_10, r220_11, r220_14, r220_15, r220_16, r220_17, r220_20, r220_21, r220_22, r220_25, r220_28, r220_29, ag_nx, ag_dn, ag_no, ag_if, jbr1, jbr2, jc1, jc2, jnul, jld, jsto, jstoL, jst1, jst2, jkill, jinc, jbI, jbL, jbS, juI, jl2i, jcmp, jisR, jisI, jisL, jgtx, jtln, jtch, jret, jretv, jdup, jpop, jobj, jmm, jcat, Value.category, jinv, jrcv, jthr, jhd, jnewa, jnewc, jput, jget, B_getL, B_getL0, B_set, B_set0, B_new, B_top, fl_upd, fl_fg, fg_set, Nat.add_assoc, jlen, jald, jast, jgI, jgL, jgB, jtnew, fits_i, fits_l, fits_r, fits_o, fits_z0, fits_z1, fits_n, fits_m, lg_set, List.length_set, updI, updL, jthr, jhd, jtab, LL, jtnew, w0, g2, g3, f, h1, k3, k4, k5, fdx, hc, nI_1, e]
theorem s220 {A : Nat → Nat} {d b n m : Nat} {h : Nat → Option jC} {l : List jC} {F : List Value} {D : Nat → Int32} {x : Int32} (h0 : ob l 241 12 F) (g3 : fg F 36 = some (.int (nI m))) (g2 : fg F 42 = some (.ref (b + 260))) (hm : m ≤ 8) (f : lg l 260 = some (20, 8, fun i => .int (D i))) : jcall A jcode (d + 1) 220 [.ref (b + 241), .int x] (jB h b l n) = some (.inl (some (.int (inO (fdx D x m 0)))), jB h b l n) := by
  have e := l220 (A := A) (d := d) (n := n) (h := h) (x := x) h0 g3 g2 hm f m 0 (by omega)
  have i0 : nI 0 = 0 := by decide
  rw [i0] at e
  simp [je220, r220_0, r220_1, ag_nx, ag_dn, ag_no, ag_if, jbr1, jbr2, jc1, jc2, jnul, jld, jsto, jstoL, jst1, jst2, jkill, jinc, jbI, jbL, jbS, juI, jl2i, jcmp, jisR, jisI, jisL, jgtx, jtln, jtch, jret, jretv, jdup, jpop, jobj, jmm, jcat, Value.category, jinv, jrcv, jthr, jhd, jnewa, jnewc, jput, jget, B_getL, B_getL0, B_set, B_set0, B_new, B_top, fl_upd, fl_fg, fg_set, Nat.add_assoc, jlen, jald, jast, jgI, jgL, jgB, jtnew, fits_i, fits_l, fits_r, fits_o, fits_z0, fits_z1, fits_n, fits_m, lg_set, List.length_set, updI, updL, jthr, jhd, jtab, LL, jtnew, e]
