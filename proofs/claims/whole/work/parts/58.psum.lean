/-! sums over the instances -/
def smF (Q : Nat → Int32) : Nat → Nat → Int32 → Int32
  | 0, _, a => a
  | r + 1, k, a => smF Q r (k + 1) (a + Q k)
theorem smF_eq {Q Q' : Nat → Int32} : ∀ (r k : Nat) (a : Int32), (∀ j, j < k + r → Q j = Q' j) → smF Q r k a = smF Q' r k a := by
  intro r
  induction r with
  | zero => intro k a _; rfl
  | succ r ih =>
    intro k a h
    unfold smF
    rw [h k (by omega), ih (k + 1) _ (fun j hj => h j (by omega))]
theorem l117 {A : Nat → Nat} {d b n m : Nat} {h : Nat → Option jC} {l : List jC} {W : List Value} {p : Nat → Nat} {D Q : Nat → Int32} (hw : isIn b l W m p D) (hQ : ∀ k, k < m → ∃ I, ob l (p k) 2 I ∧ fg I 7 = some (.int (Q k))) : ∀ (r k : Nat) (a : Int32), k + r = m → M117 A d 4 [some (.ref (b + 57)), some (.int a), some (.int (nI k))] [] (jB h b l n) = some (.inl (some (.int (smF Q r k a))), jB h b l n) := by
  obtain ⟨h0, g2, g3, hm, ⟨Sl, fs, hSl⟩, -⟩ := hw
  have w0 : lg l 57 = some (9, 13, jfl9 (jdf 9) W) := h0.1
  intro r
  induction r with
  | zero =>
    intro k a hk
    have h1 : nI m ≤ nI k := nI_le (by omega) (by omega)
    rw [r117_4]
    simp [r117_0, r117_1, r117_2, r117_3, r117_5, r117_6, r117_9, r117_12, r117_13, r117_15, r117_18, r117_19, r117_20, r117_23, r117_24, r117_25, r117_28, r117_29, r117_30, r117_33, r117_36, r117_37, ag_nx, ag_dn, ag_no, ag_if, jbr1, jbr2, jc1, jc2, jnul, jld, jsto, jstoL, jst1, jst2, jkill, jinc, jbI, jbL, jbS, juI, jl2i, jcmp, jisR, jisI, jisL, jgtx, jtln, jtch, jret, jretv, jdup, jpop, jobj, jmm, jcat, Value.category, jinv, jrcv, jthr, jhd, jnewa, jnewc, jput, jget, B_getL, B_getL0, B_set, B_set0, B_new, B_top, fl_upd, fl_fg, fg_set, Nat.add_assoc, jlen, jald, jast, jgI, jgL, jgB, jtnew, fits_i, fits_l, fits_r, fits_o, fits_z0, fits_z1, fits_n, fits_m, lg_set, List.length_set, updI, updL, jthr, jhd, jtab, LL, jtnew, w0, g3, h1, smF]
  | succ r ih =>
    intro k a hk
    have h1 : ¬ nI m ≤ nI k := nI_ge (by omega) (by omega)
    have h2 : ¬ (8 : Int32) ≤ nI k := by rw [nI8]; exact nI_ge (by omega) (by omega)
    have k3 : (nI k).toNatClampNeg = k := nI_clamp (by omega)
    have k4 : 0 ≤ nI k := nI_pos' (by omega)
    have k5 : k < 8 := by omega
    have e := fun z => ih (k + 1) z (by omega)
    obtain ⟨I, hI1, hI2⟩ := hQ k (by omega)
    have wI : lg l (p k) = some (2, 15, jfl9 (jdf 2) I) := hI1.1
    have hS := hSl k (by omega)
    rw [r117_4]
    simp [r117_0, r117_1, r117_2, r117_3, r117_5, r117_6, r117_9, r117_12, r117_13, r117_15, r117_18, r117_19, r117_20, r117_23, r117_24, r117_25, r117_28, r117_29, r117_30, r117_33, r117_36, r117_37, ag_nx, ag_dn, ag_no, ag_if, jbr1, jbr2, jc1, jc2, jnul, jld, jsto, jstoL, jst1, jst2, jkill, jinc, jbI, jbL, jbS, juI, jl2i, jcmp, jisR, jisI, jisL, jgtx, jtln, jtch, jret, jretv, jdup, jpop, jobj, jmm, jcat, Value.category, jinv, jrcv, jthr, jhd, jnewa, jnewc, jput, jget, B_getL, B_getL0, B_set, B_set0, B_new, B_top, fl_upd, fl_fg, fg_set, Nat.add_assoc, jlen, jald, jast, jgI, jgL, jgB, jtnew, fits_i, fits_l, fits_r, fits_o, fits_z0, fits_z1, fits_n, fits_m, lg_set, List.length_set, updI, updL, jthr, jhd, jtab, LL, jtnew, w0, g2, g3, fs, hS, wI, hI2, h1, h2, k3, k4, k5, nI_1, e, smF]
theorem s117 {A : Nat → Nat} {d b n m : Nat} {h : Nat → Option jC} {l : List jC} {W : List Value} {p : Nat → Nat} {D Q : Nat → Int32} (hw : isIn b l W m p D) (hQ : ∀ k, k < m → ∃ I, ob l (p k) 2 I ∧ fg I 7 = some (.int (Q k))) : jcall A jcode (d + 1) 117 [.ref (b + 57)] (jB h b l n) = some (.inl (some (.int (smF Q m 0 0))), jB h b l n) := by
  have e := l117 (A := A) (d := d) (n := n) (h := h) hw hQ m 0 0 (by omega)
  have i0 : nI 0 = 0 := by decide
  rw [i0] at e
  simp [je117, r117_0, r117_1, r117_2, r117_3, ag_nx, ag_dn, ag_no, ag_if, jbr1, jbr2, jc1, jc2, jnul, jld, jsto, jstoL, jst1, jst2, jkill, jinc, jbI, jbL, jbS, juI, jl2i, jcmp, jisR, jisI, jisL, jgtx, jtln, jtch, jret, jretv, jdup, jpop, jobj, jmm, jcat, Value.category, jinv, jrcv, jthr, jhd, jnewa, jnewc, jput, jget, B_getL, B_getL0, B_set, B_set0, B_new, B_top, fl_upd, fl_fg, fg_set, Nat.add_assoc, jlen, jald, jast, jgI, jgL, jgB, jtnew, fits_i, fits_l, fits_r, fits_o, fits_z0, fits_z1, fits_n, fits_m, lg_set, List.length_set, updI, updL, jthr, jhd, jtab, LL, jtnew, e]
theorem l118 {A : Nat → Nat} {d b n m : Nat} {h : Nat → Option jC} {l : List jC} {W : List Value} {p : Nat → Nat} {D Q : Nat → Int32} (hw : isIn b l W m p D) (hQ : ∀ k, k < m → ∃ I, ob l (p k) 2 I ∧ fg I 12 = some (.int (Q k))) : ∀ (r k : Nat) (a : Int32), k + r = m → M118 A d 4 [some (.ref (b + 57)), some (.int a), some (.int (nI k))] [] (jB h b l n) = some (.inl (some (.int (smF Q r k a))), jB h b l n) := by
  obtain ⟨h0, g2, g3, hm, ⟨Sl, fs, hSl⟩, -⟩ := hw
  have w0 : lg l 57 = some (9, 13, jfl9 (jdf 9) W) := h0.1
  intro r
  induction r with
  | zero =>
    intro k a hk
    have h1 : nI m ≤ nI k := nI_le (by omega) (by omega)
    rw [r118_4]
    simp [r118_0, r118_1, r118_2, r118_3, r118_5, r118_6, r118_9, r118_12, r118_13, r118_15, r118_18, r118_19, r118_20, r118_23, r118_24, r118_25, r118_28, r118_29, r118_30, r118_33, r118_36, r118_37, ag_nx, ag_dn, ag_no, ag_if, jbr1, jbr2, jc1, jc2, jnul, jld, jsto, jstoL, jst1, jst2, jkill, jinc, jbI, jbL, jbS, juI, jl2i, jcmp, jisR, jisI, jisL, jgtx, jtln, jtch, jret, jretv, jdup, jpop, jobj, jmm, jcat, Value.category, jinv, jrcv, jthr, jhd, jnewa, jnewc, jput, jget, B_getL, B_getL0, B_set, B_set0, B_new, B_top, fl_upd, fl_fg, fg_set, Nat.add_assoc, jlen, jald, jast, jgI, jgL, jgB, jtnew, fits_i, fits_l, fits_r, fits_o, fits_z0, fits_z1, fits_n, fits_m, lg_set, List.length_set, updI, updL, jthr, jhd, jtab, LL, jtnew, w0, g3, h1, smF]
  | succ r ih =>
    intro k a hk
    have h1 : ¬ nI m ≤ nI k := nI_ge (by omega) (by omega)
    have h2 : ¬ (8 : Int32) ≤ nI k := by rw [nI8]; exact nI_ge (by omega) (by omega)
    have k3 : (nI k).toNatClampNeg = k := nI_clamp (by omega)
    have k4 : 0 ≤ nI k := nI_pos' (by omega)
    have k5 : k < 8 := by omega
    have e := fun z => ih (k + 1) z (by omega)
    obtain ⟨I, hI1, hI2⟩ := hQ k (by omega)
    have wI : lg l (p k) = some (2, 15, jfl9 (jdf 2) I) := hI1.1
    have hS := hSl k (by omega)
    rw [r118_4]
    simp [r118_0, r118_1, r118_2, r118_3, r118_5, r118_6, r118_9, r118_12, r118_13, r118_15, r118_18, r118_19, r118_20, r118_23, r118_24, r118_25, r118_28, r118_29, r118_30, r118_33, r118_36, r118_37, ag_nx, ag_dn, ag_no, ag_if, jbr1, jbr2, jc1, jc2, jnul, jld, jsto, jstoL, jst1, jst2, jkill, jinc, jbI, jbL, jbS, juI, jl2i, jcmp, jisR, jisI, jisL, jgtx, jtln, jtch, jret, jretv, jdup, jpop, jobj, jmm, jcat, Value.category, jinv, jrcv, jthr, jhd, jnewa, jnewc, jput, jget, B_getL, B_getL0, B_set, B_set0, B_new, B_top, fl_upd, fl_fg, fg_set, Nat.add_assoc, jlen, jald, jast, jgI, jgL, jgB, jtnew, fits_i, fits_l, fits_r, fits_o, fits_z0, fits_z1, fits_n, fits_m, lg_set, List.length_set, updI, updL, jthr, jhd, jtab, LL, jtnew, w0, g2, g3, fs, hS, wI, hI2, h1, h2, k3, k4, k5, nI_1, e, smF]
theorem s118 {A : Nat → Nat} {d b n m : Nat} {h : Nat → Option jC} {l : List jC} {W : List Value} {p : Nat → Nat} {D Q : Nat → Int32} (hw : isIn b l W m p D) (hQ : ∀ k, k < m → ∃ I, ob l (p k) 2 I ∧ fg I 12 = some (.int (Q k))) : jcall A jcode (d + 1) 118 [.ref (b + 57)] (jB h b l n) = some (.inl (some (.int (smF Q m 0 0))), jB h b l n) := by
  have e := l118 (A := A) (d := d) (n := n) (h := h) hw hQ m 0 0 (by omega)
  have i0 : nI 0 = 0 := by decide
  rw [i0] at e
  simp [je118, r118_0, r118_1, r118_2, r118_3, ag_nx, ag_dn, ag_no, ag_if, jbr1, jbr2, jc1, jc2, jnul, jld, jsto, jstoL, jst1, jst2, jkill, jinc, jbI, jbL, jbS, juI, jl2i, jcmp, jisR, jisI, jisL, jgtx, jtln, jtch, jret, jretv, jdup, jpop, jobj, jmm, jcat, Value.category, jinv, jrcv, jthr, jhd, jnewa, jnewc, jput, jget, B_getL, B_getL0, B_set, B_set0, B_new, B_top, fl_upd, fl_fg, fg_set, Nat.add_assoc, jlen, jald, jast, jgI, jgL, jgB, jtnew, fits_i, fits_l, fits_r, fits_o, fits_z0, fits_z1, fits_n, fits_m, lg_set, List.length_set, updI, updL, jthr, jhd, jtab, LL, jtnew, e]
theorem l288_129 {A : Nat → Nat} {d b n m : Nat} {h : Nat → Option jC} {l : List jC} {F : List Value} {Q : Nat → Int32} {x : Int32} (h0 : ob l 241 12 F) (g3 : fg F 36 = some (.int (nI m))) (g2 : fg F 49 = some (.ref (b + 267))) (hm : m ≤ 8) (f : lg l 267 = some (20, 8, fun i => .int (Q i))) : ∀ (r k : Nat) (a : Int32), k + r = m → M288 A d 129 [some (.ref (b + 241)), some (.int x), some (.int a), some (.int (nI k))] [] (jB h b l n) = some (.inl (some (.int (smF Q r k a))), jB h b l n) := by
  have w0 : lg l 241 = some (12, 101, jfl9 (jdf 12) F) := h0.1
  intro r
  induction r with
  | zero =>
    intro k a hk
    have h1 : nI m ≤ nI k := nI_le (by omega) (by omega)
    rw [r288_129]
    simp [r288_130, r288_131, r288_134, r288_137, r288_138, r288_139, r288_142, r288_143, r288_144, r288_145, r288_146, r288_149, r288_152, r288_153, ag_nx, ag_dn, ag_no, ag_if, jbr1, jbr2, jc1, jc2, jnul, jld, jsto, jstoL, jst1, jst2, jkill, jinc, jbI, jbL, jbS, juI, jl2i, jcmp, jisR, jisI, jisL, jgtx, jtln, jtch, jret, jretv, jdup, jpop, jobj, jmm, jcat, Value.category, jinv, jrcv, jthr, jhd, jnewa, jnewc, jput, jget, B_getL, B_getL0, B_set, B_set0, B_new, B_top, fl_upd, fl_fg, fg_set, Nat.add_assoc, jlen, jald, jast, jgI, jgL, jgB, jtnew, fits_i, fits_l, fits_r, fits_o, fits_z0, fits_z1, fits_n, fits_m, lg_set, List.length_set, updI, updL, jthr, jhd, jtab, LL, jtnew, w0, g3, h1, smF]
  | succ r ih =>
    intro k a hk
    have h1 : ¬ nI m ≤ nI k := nI_ge (by omega) (by omega)
    have k3 : (nI k).toNatClampNeg = k := nI_clamp (by omega)
    have k4 : 0 ≤ nI k := nI_pos' (by omega)
    have k5 : k < 8 := by omega
    have e := fun z => ih (k + 1) z (by omega)
    rw [r288_129]
    simp [r288_130, r288_131, r288_134, r288_137, r288_138, r288_139, r288_142, r288_143, r288_144, r288_145, r288_146, r288_149, r288_152, r288_153, ag_nx, ag_dn, ag_no, ag_if, jbr1, jbr2, jc1, jc2, jnul, jld, jsto, jstoL, jst1, jst2, jkill, jinc, jbI, jbL, jbS, juI, jl2i, jcmp, jisR, jisI, jisL, jgtx, jtln, jtch, jret, jretv, jdup, jpop, jobj, jmm, jcat, Value.category, jinv, jrcv, jthr, jhd, jnewa, jnewc, jput, jget, B_getL, B_getL0, B_set, B_set0, B_new, B_top, fl_upd, fl_fg, fg_set, Nat.add_assoc, jlen, jald, jast, jgI, jgL, jgB, jtnew, fits_i, fits_l, fits_r, fits_o, fits_z0, fits_z1, fits_n, fits_m, lg_set, List.length_set, updI, updL, jthr, jhd, jtab, LL, jtnew, w0, g2, g3, f, h1, k3, k4, k5, nI_1, e, smF]
theorem l288_156 {A : Nat → Nat} {d b n m : Nat} {h : Nat → Option jC} {l : List jC} {F : List Value} {Q : Nat → Int32} {x : Int32} (h0 : ob l 241 12 F) (g3 : fg F 36 = some (.int (nI m))) (g2 : fg F 54 = some (.ref (b + 272))) (hm : m ≤ 8) (f : lg l 272 = some (20, 8, fun i => .int (Q i))) : ∀ (r k : Nat) (a : Int32), k + r = m → M288 A d 156 [some (.ref (b + 241)), some (.int x), some (.int a), some (.int (nI k))] [] (jB h b l n) = some (.inl (some (.int (smF Q r k a))), jB h b l n) := by
  have w0 : lg l 241 = some (12, 101, jfl9 (jdf 12) F) := h0.1
  intro r
  induction r with
  | zero =>
    intro k a hk
    have h1 : nI m ≤ nI k := nI_le (by omega) (by omega)
    rw [r288_156]
    simp [r288_157, r288_158, r288_161, r288_164, r288_165, r288_166, r288_169, r288_170, r288_171, r288_172, r288_173, r288_176, r288_179, r288_180, ag_nx, ag_dn, ag_no, ag_if, jbr1, jbr2, jc1, jc2, jnul, jld, jsto, jstoL, jst1, jst2, jkill, jinc, jbI, jbL, jbS, juI, jl2i, jcmp, jisR, jisI, jisL, jgtx, jtln, jtch, jret, jretv, jdup, jpop, jobj, jmm, jcat, Value.category, jinv, jrcv, jthr, jhd, jnewa, jnewc, jput, jget, B_getL, B_getL0, B_set, B_set0, B_new, B_top, fl_upd, fl_fg, fg_set, Nat.add_assoc, jlen, jald, jast, jgI, jgL, jgB, jtnew, fits_i, fits_l, fits_r, fits_o, fits_z0, fits_z1, fits_n, fits_m, lg_set, List.length_set, updI, updL, jthr, jhd, jtab, LL, jtnew, w0, g3, h1, smF]
  | succ r ih =>
    intro k a hk
    have h1 : ¬ nI m ≤ nI k := nI_ge (by omega) (by omega)
    have k3 : (nI k).toNatClampNeg = k := nI_clamp (by omega)
    have k4 : 0 ≤ nI k := nI_pos' (by omega)
    have k5 : k < 8 := by omega
    have e := fun z => ih (k + 1) z (by omega)
    rw [r288_156]
    simp [r288_157, r288_158, r288_161, r288_164, r288_165, r288_166, r288_169, r288_170, r288_171, r288_172, r288_173, r288_176, r288_179, r288_180, ag_nx, ag_dn, ag_no, ag_if, jbr1, jbr2, jc1, jc2, jnul, jld, jsto, jstoL, jst1, jst2, jkill, jinc, jbI, jbL, jbS, juI, jl2i, jcmp, jisR, jisI, jisL, jgtx, jtln, jtch, jret, jretv, jdup, jpop, jobj, jmm, jcat, Value.category, jinv, jrcv, jthr, jhd, jnewa, jnewc, jput, jget, B_getL, B_getL0, B_set, B_set0, B_new, B_top, fl_upd, fl_fg, fg_set, Nat.add_assoc, jlen, jald, jast, jgI, jgL, jgB, jtnew, fits_i, fits_l, fits_r, fits_o, fits_z0, fits_z1, fits_n, fits_m, lg_set, List.length_set, updI, updL, jthr, jhd, jtab, LL, jtnew, w0, g2, g3, f, h1, k3, k4, k5, nI_1, e, smF]
