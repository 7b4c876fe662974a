/-! String.indexOf of a character -/
def ixR (t c : Nat) : Nat → Nat → Int32
  | 0, _ => -1
  | r + 1, k => if (jtx t).getD k 0 = c then nI k else ixR t c r (k + 1)
theorem l320 {A : Nat → Nat} {d t c : Nat} {σ : jS} {x y : Int32} (hA : jAp0 A) (ht : t < 3) (hc : c < 128) : ∀ (r k : Nat), k + r = (jtx t).length → M320 A d 7 [some (.ref (A (50 + t))), some (.int x), some (.int y), some (.int (nI (jtx t).length)), some (.int (nI c)), some (.int (nI k))] [] σ = some (.inl (some (.int (ixR t c r k))), σ) := by
  have hl := jtx_len t
  intro r
  induction r with
  | zero =>
    intro k hk
    have h1 : nI (jtx t).length ≤ nI k := nI_le (by omega) (by omega)
    rw [r320_7]
    simp [r320_0, r320_1, r320_2, r320_4, r320_5, r320_9, r320_10, r320_13, r320_14, r320_16, r320_17, r320_19, r320_22, r320_24, r320_25, r320_28, r320_31, r320_32, ag_nx, ag_dn, ag_no, ag_if, jbr1, jbr2, jc1, jc2, jnul, jld, jsto, jstoL, jst1, jst2, jkill, jinc, jbI, jbL, jbS, juI, jl2i, jcmp, jisR, jisI, jisL, jgtx, jtln, jtch, jret, jretv, jdup, jpop, jobj, jmm, jcat, Value.category, jinv, jrcv, jthr, jhd, jnewa, jnewc, jput, jget, B_getL, B_getL0, B_set, B_set0, B_new, B_top, fl_upd, fl_get, Nat.add_assoc, jlen, jald, jast, jgI, jgL, jgB, List.set_cons_zero, List.set_cons_succ, fits_i, fits_l, fits_r, fits_o, fits_z0, fits_z1, fits_n, fits_m, lg_set, List.length_set, updI, updL, h1, ixR]
  | succ r ih =>
    intro k hk
    have hk2 : k < (jtx t).length := by omega
    have h1 : ¬ nI (jtx t).length ≤ nI k := nI_ge hk2 (by omega)
    have k3 : (nI k).toNatClampNeg = k := nI_clamp (by omega)
    have k4 : 0 ≤ nI k := nI_pos' (by omega)
    have e := ih (k + 1) (by omega)
    have h4 := jtx_lt t k
    obtain ⟨z, hz⟩ : ∃ z, (jtx t)[k]? = some z := ⟨_, List.getElem?_eq_getElem hk2⟩
    have hz2 : (jtx t)[k] = z := Option.some.inj ((List.getElem?_eq_getElem hk2).symm.trans hz)
    rw [List.getD_eq_getElem?_getD, hz] at h4
    simp only [Option.getD_some] at h4
    have h5 : nI z = nI c ↔ z = c := nI_eq (by omega) (by omega)
    rw [r320_7]
    by_cases hzc : z = c
    · simp [r320_0, r320_1, r320_2, r320_4, r320_5, r320_9, r320_10, r320_13, r320_14, r320_16, r320_17, r320_19, r320_22, r320_24, r320_25, r320_28, r320_31, r320_32, ag_nx, ag_dn, ag_no, ag_if, jbr1, jbr2, jc1, jc2, jnul, jld, jsto, jstoL, jst1, jst2, jkill, jinc, jbI, jbL, jbS, juI, jl2i, jcmp, jisR, jisI, jisL, jgtx, jtln, jtch, jret, jretv, jdup, jpop, jobj, jmm, jcat, Value.category, jinv, jrcv, jthr, jhd, jnewa, jnewc, jput, jget, B_getL, B_getL0, B_set, B_set0, B_new, B_top, fl_upd, fl_get, Nat.add_assoc, jlen, jald, jast, jgI, jgL, jgB, List.set_cons_zero, List.set_cons_succ, fits_i, fits_l, fits_r, fits_o, fits_z0, fits_z1, fits_n, fits_m, lg_set, List.length_set, updI, updL, (hA t ht).2, h1, k3, k4, hk2, hz, hz2, h5, hzc, ixR]
    · simp [r320_0, r320_1, r320_2, r320_4, r320_5, r320_9, r320_10, r320_13, r320_14, r320_16, r320_17, r320_19, r320_22, r320_24, r320_25, r320_28, r320_31, r320_32, ag_nx, ag_dn, ag_no, ag_if, jbr1, jbr2, jc1, jc2, jnul, jld, jsto, jstoL, jst1, jst2, jkill, jinc, jbI, jbL, jbS, juI, jl2i, jcmp, jisR, jisI, jisL, jgtx, jtln, jtch, jret, jretv, jdup, jpop, jobj, jmm, jcat, Value.category, jinv, jrcv, jthr, jhd, jnewa, jnewc, jput, jget, B_getL, B_getL0, B_set, B_set0, B_new, B_top, fl_upd, fl_get, Nat.add_assoc, jlen, jald, jast, jgI, jgL, jgB, List.set_cons_zero, List.set_cons_succ, fits_i, fits_l, fits_r, fits_o, fits_z0, fits_z1, fits_n, fits_m, lg_set, List.length_set, updI, updL, (hA t ht).2, h1, k3, k4, hk2, hz, hz2, h5, hzc, ixR, nI_1, e]
theorem na310' : jna 310 = 1 := na310
theorem na318 : jna 318 = 1 := by decide +kernel
theorem na319 : jna 319 = 4 := by decide +kernel
theorem na320 : jna 320 = 4 := by decide +kernel
theorem na313 : jna 313 = 3 := by decide +kernel
theorem ow313 : jow 313 = 27 := by decide +kernel
theorem s318 {A : Nat → Nat} {d c : Nat} {σ : jS} (hc : c < 128) : jcall A jcode (d + 1) 318 [.int (nI c)] σ = some (.inl (some (.int 1)), σ) := by
  have h1 : ¬ nI c < 0 := nI_pos (by omega)
  have h2 : ¬ (255 : Int32) < nI c := by rw [show (255 : Int32) = nI 255 by decide]; exact nI_nlt (by omega) (by omega)
  simp [je318, r318_0, r318_1, r318_4, r318_5, r318_8, r318_11, r318_12, r318_15, r318_16, ag_nx, ag_dn, ag_no, ag_if, jbr1, jbr2, jc1, jc2, jnul, jld, jsto, jstoL, jst1, jst2, jkill, jinc, jbI, jbL, jbS, juI, jl2i, jcmp, jisR, jisI, jisL, jgtx, jtln, jtch, jret, jretv, jdup, jpop, jobj, jmm, jcat, Value.category, jinv, jrcv, jthr, jhd, jnewa, jnewc, jput, jget, B_getL, B_getL0, B_set, B_set0, B_new, B_top, fl_upd, fl_get, Nat.add_assoc, jlen, jald, jast, jgI, jgL, jgB, List.set_cons_zero, List.set_cons_succ, fits_i, fits_l, fits_r, fits_o, fits_z0, fits_z1, fits_n, fits_m, lg_set, List.length_set, updI, updL, h1, h2]
theorem b8 {c : Nat} (h : c < 128) : (nI c).toInt8.toInt32 = nI c := by
  have h1 : ∀ c, c < 128 → (nI c).toInt8.toInt32 = nI c := by decide +kernel
  exact h1 c h
theorem s320 {A : Nat → Nat} {d t c : Nat} {σ : jS} (hA : jAp0 A) (ht : t < 3) (hc : c < 128) : jcall A jcode (d + 1) 320 [.ref (A (50 + t)), .int (nI c), .int 0, .int (nI (jtx t).length)] σ = some (.inl (some (.int (ixR t c (jtx t).length 0))), σ) := by
  have e := l320 (A := A) (d := d) (σ := σ) (x := nI c) (y := 0) hA ht hc (jtx t).length 0 (by omega)
  have i0 : nI 0 = 0 := by decide
  rw [i0] at e
  simp [je320, r320_0, r320_1, r320_2, r320_4, r320_5, ag_nx, ag_dn, ag_no, ag_if, jbr1, jbr2, jc1, jc2, jnul, jld, jsto, jstoL, jst1, jst2, jkill, jinc, jbI, jbL, jbS, juI, jl2i, jcmp, jisR, jisI, jisL, jgtx, jtln, jtch, jret, jretv, jdup, jpop, jobj, jmm, jcat, Value.category, jinv, jrcv, jthr, jhd, jnewa, jnewc, jput, jget, B_getL, B_getL0, B_set, B_set0, B_new, B_top, fl_upd, fl_get, Nat.add_assoc, jlen, jald, jast, jgI, jgL, jgB, List.set_cons_zero, List.set_cons_succ, fits_i, fits_l, fits_r, fits_o, fits_z0, fits_z1, fits_n, fits_m, lg_set, List.length_set, updI, updL, b8 hc, e]
theorem s319 {A : Nat → Nat} {d t c : Nat} {σ : jS} (hA : jAp0 A) (ht : t < 3) (hc : c < 128) (h0 : 0 < (jtx t).length) : jcall A jcode (d + 2) 319 [.ref (A (50 + t)), .int (nI c), .int 0, .int (nI (jtx t).length)] σ = some (.inl (some (.int (ixR t c (jtx t).length 0))), σ) := by
  have hl := jtx_len t
  have h1 : (0 : Int32) < nI (jtx t).length := by rw [show (0 : Int32) = nI 0 by decide]; exact nI_lt h0 (by omega)
  simp [je319, r319_0, r319_1, r319_4, r319_7, r319_8, r319_9, r319_10, r319_11, r319_14, r319_15, r319_16, r319_17, r319_18, r319_21, r319_22, r319_23, r319_24, r319_27, r319_28, r319_29, r319_30, r319_31, r319_32, r319_33, r319_36, ag_nx, ag_dn, ag_no, ag_if, jbr1, jbr2, jc1, jc2, jnul, jld, jsto, jstoL, jst1, jst2, jkill, jinc, jbI, jbL, jbS, juI, jl2i, jcmp, jisR, jisI, jisL, jgtx, jtln, jtch, jret, jretv, jdup, jpop, jobj, jmm, jcat, Value.category, jinv, jrcv, jthr, jhd, jnewa, jnewc, jput, jget, B_getL, B_getL0, B_set, B_set0, B_new, B_top, fl_upd, fl_get, Nat.add_assoc, jlen, jald, jast, jgI, jgL, jgB, List.set_cons_zero, List.set_cons_succ, fits_i, fits_l, fits_r, fits_o, fits_z0, fits_z1, fits_n, fits_m, lg_set, List.length_set, updI, updL, (hA t ht).2, s318 hc, s320 hA ht hc, na318, na320, h1]
theorem s313 {A : Nat → Nat} {d t c : Nat} {σ : jS} (hA : jAp0 A) (ht : t < 3) (hc : c < 128) (h0 : 0 < (jtx t).length) : jcall A jcode (d + 3) 313 [.ref (A t), .int (nI c), .int 0] σ = some (.inl (some (.int (ixR t c (jtx t).length 0))), σ) := by
  simp [je313, r313_0, r313_1, r313_4, r313_7, r313_8, r313_11, r313_12, r313_13, r313_14, r313_17, r313_20, r313_23, r313_24, r313_27, r313_28, r313_29, r313_30, r313_36, ag_nx, ag_dn, ag_no, ag_if, jbr1, jbr2, jc1, jc2, jnul, jld, jsto, jstoL, jst1, jst2, jkill, jinc, jbI, jbL, jbS, juI, jl2i, jcmp, jisR, jisI, jisL, jgtx, jtln, jtch, jret, jretv, jdup, jpop, jobj, jmm, jcat, Value.category, jinv, jrcv, jthr, jhd, jnewa, jnewc, jput, jget, B_getL, B_getL0, B_set, B_set0, B_new, B_top, fl_upd, fl_get, Nat.add_assoc, jlen, jald, jast, jgI, jgL, jgB, List.set_cons_zero, List.set_cons_succ, fits_i, fits_l, fits_r, fits_o, fits_z0, fits_z1, fits_n, fits_m, lg_set, List.length_set, updI, updL, (hA t ht).1, s315 (hA t ht).1, s310 hA ht, s319 hA ht hc h0, na315, ow315, na310, ow310, na319]
theorem s312 {A : Nat → Nat} {d t c : Nat} {σ : jS} (hA : jAp0 A) (ht : t < 3) (hc : c < 128) (h0 : 0 < (jtx t).length) : jcall A jcode (d + 4) 312 [.ref (A t), .int (nI c)] σ = some (.inl (some (.int (ixR t c (jtx t).length 0))), σ) := by
  simp [je312, r312_0, r312_1, r312_2, r312_3, r312_6, ag_nx, ag_dn, ag_no, ag_if, jbr1, jbr2, jc1, jc2, jnul, jld, jsto, jstoL, jst1, jst2, jkill, jinc, jbI, jbL, jbS, juI, jl2i, jcmp, jisR, jisI, jisL, jgtx, jtln, jtch, jret, jretv, jdup, jpop, jobj, jmm, jcat, Value.category, jinv, jrcv, jthr, jhd, jnewa, jnewc, jput, jget, B_getL, B_getL0, B_set, B_set0, B_new, B_top, fl_upd, fl_get, Nat.add_assoc, jlen, jald, jast, jgI, jgL, jgB, List.set_cons_zero, List.set_cons_succ, fits_i, fits_l, fits_r, fits_o, fits_z0, fits_z1, fits_n, fits_m, lg_set, List.length_set, updI, updL, (hA t ht).1, s313 hA ht hc h0, na313, ow313]
