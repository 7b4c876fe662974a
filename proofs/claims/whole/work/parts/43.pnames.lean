/-! names in any state -/
def isNm (σ : jS) (a x y m cap : Nat) (H : Nat → Int64) (T : Nat → Int32) : Prop := (∃ g, σ.1 a = some (3, 3, jfl9 g [.ref x, .ref y, .int (nI m)])) ∧ σ.1 x = some (21, cap, fun i => .long (H i)) ∧ σ.1 y = some (20, cap, fun i => .int (T i)) ∧ m ≤ cap ∧ cap < 2 ^ 20
def nfd (H : Nat → Int64) (T : Nat → Int32) (u : Int64) (v : Int32) : Nat → Nat → Int32
  | 0, _ => -1
  | r + 1, k => if H k = u ∧ T k = v then nI k else nfd H T u v r (k + 1)
theorem l29 {A : Nat → Nat} {d a x y m cap : Nat} {σ : jS} {H : Nat → Int64} {T : Nat → Int32} {u : Int64} {v : Int32} (hn : isNm σ a x y m cap H T) : ∀ (r k : Nat), k + r = m → M29 A d 3 [some (.ref a), some (.long u), none, some (.int v), some (.int (nI k))] [] σ = some (.inl (some (.int (nfd H T u v r k))), σ) := by
  obtain ⟨⟨g, f1⟩, f2, f3, h4, h5⟩ := hn
  intro r
  induction r with
  | zero =>
    intro k hk
    have h1 : nI m ≤ nI k := nI_le (by omega) (by omega)
    rw [r29_3]
    simp [r29_0, r29_1, r29_5, r29_6, r29_9, r29_12, r29_13, r29_16, r29_18, r29_19, r29_20, r29_21, r29_24, r29_25, r29_28, r29_30, r29_31, r29_32, r29_35, r29_37, r29_38, r29_41, r29_44, r29_45, ag_nx, ag_dn, ag_no, ag_if, jbr1, jbr2, jc1, jc2, jnul, jld, jsto, jstoL, jst1, jst2, jkill, jinc, jbI, jbL, jbS, juI, jl2i, jcmp, jisR, jisI, jisL, jgtx, jtln, jtch, jret, jretv, jdup, jpop, jobj, jmm, jcat, Value.category, jinv, jrcv, jthr, jhd, jnewa, jnewc, jput, jget, B_getL, B_getL0, B_set, B_set0, B_new, B_top, fl_upd, fl_get, Nat.add_assoc, jlen, jald, jast, jgI, jgL, jgB, List.set_cons_zero, List.set_cons_succ, fits_i, fits_l, fits_r, fits_o, fits_z0, fits_z1, fits_n, fits_m, updI, updL, f1, h1, nfd]
  | succ r ih =>
    intro k hk
    have h1 : ¬ nI m ≤ nI k := nI_ge (by omega) (by omega)
    have k3 : (nI k).toNatClampNeg = k := nI_clamp (by omega)
    have k4 : 0 ≤ nI k := nI_pos' (by omega)
    have k5 : k < cap := by omega
    have e := ih (k + 1) (by omega)
    rw [r29_3]
    by_cases hu : H k = u
    · by_cases hv : T k = v
      · simp [r29_0, r29_1, r29_5, r29_6, r29_9, r29_12, r29_13, r29_16, r29_18, r29_19, r29_20, r29_21, r29_24, r29_25, r29_28, r29_30, r29_31, r29_32, r29_35, r29_37, r29_38, r29_41, r29_44, r29_45, ag_nx, ag_dn, ag_no, ag_if, jbr1, jbr2, jc1, jc2, jnul, jld, jsto, jstoL, jst1, jst2, jkill, jinc, jbI, jbL, jbS, juI, jl2i, jcmp, jisR, jisI, jisL, jgtx, jtln, jtch, jret, jretv, jdup, jpop, jobj, jmm, jcat, Value.category, jinv, jrcv, jthr, jhd, jnewa, jnewc, jput, jget, B_getL, B_getL0, B_set, B_set0, B_new, B_top, fl_upd, fl_get, Nat.add_assoc, jlen, jald, jast, jgI, jgL, jgB, List.set_cons_zero, List.set_cons_succ, fits_i, fits_l, fits_r, fits_o, fits_z0, fits_z1, fits_n, fits_m, updI, updL, f1, f2, f3, h1, k3, k4, k5, nfd, hu, hv, cmp0]
      · simp [r29_0, r29_1, r29_5, r29_6, r29_9, r29_12, r29_13, r29_16, r29_18, r29_19, r29_20, r29_21, r29_24, r29_25, r29_28, r29_30, r29_31, r29_32, r29_35, r29_37, r29_38, r29_41, r29_44, r29_45, ag_nx, ag_dn, ag_no, ag_if, jbr1, jbr2, jc1, jc2, jnul, jld, jsto, jstoL, jst1, jst2, jkill, jinc, jbI, jbL, jbS, juI, jl2i, jcmp, jisR, jisI, jisL, jgtx, jtln, jtch, jret, jretv, jdup, jpop, jobj, jmm, jcat, Value.category, jinv, jrcv, jthr, jhd, jnewa, jnewc, jput, jget, B_getL, B_getL0, B_set, B_set0, B_new, B_top, fl_upd, fl_get, Nat.add_assoc, jlen, jald, jast, jgI, jgL, jgB, List.set_cons_zero, List.set_cons_succ, fits_i, fits_l, fits_r, fits_o, fits_z0, fits_z1, fits_n, fits_m, updI, updL, f1, f2, f3, h1, k3, k4, k5, nfd, hu, hv, cmp0, nI_1, e]
    · simp [r29_0, r29_1, r29_5, r29_6, r29_9, r29_12, r29_13, r29_16, r29_18, r29_19, r29_20, r29_21, r29_24, r29_25, r29_28, r29_30, r29_31, r29_32, r29_35, r29_37, r29_38, r29_41, r29_44, r29_45, ag_nx, ag_dn, ag_no, ag_if, jbr1, jbr2, jc1, jc2, jnul, jld, jsto, jstoL, jst1, jst2, jkill, jinc, jbI, jbL, jbS, juI, jl2i, jcmp, jisR, jisI, jisL, jgtx, jtln, jtch, jret, jretv, jdup, jpop, jobj, jmm, jcat, Value.category, jinv, jrcv, jthr, jhd, jnewa, jnewc, jput, jget, B_getL, B_getL0, B_set, B_set0, B_new, B_top, fl_upd, fl_get, Nat.add_assoc, jlen, jald, jast, jgI, jgL, jgB, List.set_cons_zero, List.set_cons_succ, fits_i, fits_l, fits_r, fits_o, fits_z0, fits_z1, fits_n, fits_m, updI, updL, f1, f2, f3, h1, k3, k4, k5, nfd, hu, cmp0, nI_1, e]
theorem s29 {A : Nat → Nat} {d a x y m cap : Nat} {σ : jS} {H : Nat → Int64} {T : Nat → Int32} {u : Int64} {v : Int32} (hn : isNm σ a x y m cap H T) : jcall A jcode (d + 1) 29 [.ref a, .long u, .int v] σ = some (.inl (some (.int (nfd H T u v m 0))), σ) := by
  have e := l29 (A := A) (d := d) (u := u) (v := v) hn m 0 (by omega)
  have i0 : nI 0 = 0 := by decide
  rw [i0] at e
  simp [je29, r29_0, r29_1, ag_nx, ag_dn, ag_no, ag_if, jbr1, jbr2, jc1, jc2, jnul, jld, jsto, jstoL, jst1, jst2, jkill, jinc, jbI, jbL, jbS, juI, jl2i, jcmp, jisR, jisI, jisL, jgtx, jtln, jtch, jret, jretv, jdup, jpop, jobj, jmm, jcat, Value.category, jinv, jrcv, jthr, jhd, jnewa, jnewc, jput, jget, B_getL, B_getL0, B_set, B_set0, B_new, B_top, fl_upd, fl_get, Nat.add_assoc, jlen, jald, jast, jgI, jgL, jgB, List.set_cons_zero, List.set_cons_succ, fits_i, fits_l, fits_r, fits_o, fits_z0, fits_z1, fits_n, fits_m, updI, updL, e]
