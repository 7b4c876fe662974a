/-! tokens in any state: the leaf methods -/
def up {α : Type} (f : Nat → α) (k : Nat) (v : α) : Nat → α := fun i => if i = k then v else f i
def isTok (b : Nat) (l : List jC) (K P N : Nat → Int32) (H : Nat → Int64) (T : Nat → Int32) (m : Nat) : Prop :=
  lg l 3 = some (6, 7, jfl9 (jdf 6) [.ref (b + 4), .ref (b + 5), .ref (b + 7), .ref (b + 6), .ref (b + 8), .ref (b + 9), .int (nI m)]) ∧ lg l 4 = some (21, 26, fun i => .long (tkW i)) ∧ lg l 5 = some (20, 2001, fun i => .int (K i)) ∧ lg l 6 = some (20, 2001, fun i => .int (P i)) ∧ lg l 7 = some (20, 2001, fun i => .int (N i)) ∧ lg l 8 = some (21, 2001, fun i => .long (H i)) ∧ lg l 9 = some (20, 2001, fun i => .int (T i))
/-- nothing else has changed -/
def same (ks : List Nat) (l l' : List jC) : Prop := l'.length = l.length ∧ ∀ k, k ∉ ks → lg l' k = lg l k
theorem nI2000 : (2000 : Int32) = nI 2000 := by decide
theorem min2000 {m : Nat} (h : m ≤ 2001) : (if 2000 < nI m then 2000 else nI m) = nI (min m 2000) := by
  rw [nI2000]
  by_cases h1 : 2000 < m
  · rw [if_pos (nI_lt h1 (by omega)), Nat.min_eq_right (by omega)]
  · rw [if_neg (nI_nlt (by omega) (by omega)), Nat.min_eq_left (by omega)]
set_option maxRecDepth 100000 in
theorem s95 {A : Nat → Nat} {d b n m : Nat} {h : Nat → Option jC} {l : List jC} {K P N T : Nat → Int32} {H : Nat → Int64} {kd pl : Int32} (hl : 10 ≤ l.length) (hm : m ≤ 2001) (ht : isTok b l K P N H T m) : ∃ l', jcall A jcode (d + 1) 95 [.ref (b + 3), .int kd, .int pl] (jB h b l n) = some (.inl (some (.int (nI (min m 2000)))), jB h b l' n) ∧ isTok b l' (up K (min m 2000) kd) (up P (min m 2000) pl) (up N (min m 2000) 0) (up H (min m 2000) 0) (up T (min m 2000) 0) (min m 2000 + 1) ∧ same [3, 5, 6, 7, 8, 9] l l' := by
  obtain ⟨f3, f4, f5, f6, f7, f8, f9⟩ := ht
  have e := min2000 hm
  have hq : min m 2000 ≤ 2000 := Nat.min_le_right _ _
  generalize min m 2000 = q at e hq ⊢
  have k3 : (nI q).toNatClampNeg = q := nI_clamp (by omega)
  have k4 : 0 ≤ nI q := nI_pos' (by omega)
  have k5 : q < 2001 := by omega
  refine ⟨(((((l.set 5 (20, 2001, fun i => .int (up K q kd i))).set 6 (20, 2001, fun i => .int (up P q pl i))).set 7 (20, 2001, fun i => .int (up N q 0 i))).set 8 (21, 2001, fun i => .long (up H q 0 i))).set 9 (20, 2001, fun i => .int (up T q 0 i))).set 3 (6, 7, jfl9 (jdf 6) [.ref (b + 4), .ref (b + 5), .ref (b + 7), .ref (b + 6), .ref (b + 8), .ref (b + 9), .int (nI (q + 1))]), ?_, ?_, ?_⟩
  · simp [je95, r95_0, r95_1, r95_4, r95_7, r95_10, r95_11, r95_12, r95_15, r95_16, r95_17, r95_18, r95_19, r95_22, r95_23, r95_24, r95_25, r95_26, r95_29, r95_30, r95_31, r95_32, r95_33, r95_36, r95_37, r95_38, r95_39, r95_40, r95_43, r95_44, r95_45, r95_46, r95_47, r95_48, r95_49, r95_50, r95_53, r95_54, ag_nx, ag_dn, ag_no, ag_if, jbr1, jbr2, jc1, jc2, jnul, jld, jsto, jstoL, jst1, jst2, jkill, jinc, jbI, jbL, jbS, juI, jl2i, jcmp, jisR, jisI, jisL, jgtx, jtln, jtch, jret, jretv, jdup, jpop, jobj, jmm, jcat, Value.category, jinv, jrcv, jthr, jhd, jnewa, jnewc, jput, jget, B_getL, B_getL0, B_set, B_set0, B_new, B_top, fl_upd, fl_get, Nat.add_assoc, jlen, jald, jast, jgI, jgL, jgB, List.set_cons_zero, List.set_cons_succ, fits_i, fits_l, fits_r, fits_o, fits_z0, fits_z1, fits_n, fits_m, lg_set, List.length_set, updI, updL, ty6_6, f3, f5, f6, f7, f8, f9, e, k3, k4, k5, nI_1, up, show 3 < l.length by omega, show 5 < l.length by omega, show 6 < l.length by omega, show 7 < l.length by omega, show 8 < l.length by omega, show 9 < l.length by omega]
  · simp [isTok, lg_set, f4, show 3 < l.length by omega, show 5 < l.length by omega, show 6 < l.length by omega, show 7 < l.length by omega, show 8 < l.length by omega, show 9 < l.length by omega]
  · refine ⟨by simp, fun k hk => ?_⟩
    simp only [List.mem_cons, List.not_mem_nil, or_false, not_or] at hk
    simp [lg_set, Ne.symm hk.1, Ne.symm hk.2.1, Ne.symm hk.2.2.1, Ne.symm hk.2.2.2.1, Ne.symm hk.2.2.2.2.1, Ne.symm hk.2.2.2.2.2]
/-- letters and digits -/
def isLet (x : Int32) : Bool := (decide (97 ≤ x) && decide (x ≤ 122)) || (decide (65 ≤ x) && decide (x ≤ 90))
def isDig (x : Int32) : Bool := decide (48 ≤ x) && decide (x ≤ 57)
def bI (b : Bool) : Int32 := if b then 1 else 0
theorem s98 {A : Nat → Nat} {d : Nat} {σ : jS} {x : Int32} : jcall A jcode (d + 1) 98 [.int x] σ = some (.inl (some (.int (bI (isLet x)))), σ) := by
  by_cases h1 : x < 97
  · have g1 : ¬ 97 ≤ x := Int32.not_le.mpr h1
    by_cases h3 : x < 65
    · have g3 : ¬ 65 ≤ x := Int32.not_le.mpr h3
      simp [je98, r98_0, r98_1, r98_3, r98_6, r98_7, r98_9, r98_12, r98_13, r98_15, r98_18, r98_19, r98_21, r98_24, r98_25, r98_28, r98_29, ag_nx, ag_dn, ag_no, ag_if, jbr1, jbr2, jc1, jc2, jnul, jld, jsto, jstoL, jst1, jst2, jkill, jinc, jbI, jbL, jbS, juI, jl2i, jcmp, jisR, jisI, jisL, jgtx, jtln, jtch, jret, jretv, jdup, jpop, jobj, jmm, jcat, Value.category, jinv, jrcv, jthr, jhd, jnewa, jnewc, jput, jget, B_getL, B_getL0, B_set, B_set0, B_new, B_top, fl_upd, fl_get, Nat.add_assoc, jlen, jald, jast, jgI, jgL, jgB, List.set_cons_zero, List.set_cons_succ, fits_i, fits_l, fits_r, fits_o, fits_z0, fits_z1, fits_n, fits_m, lg_set, List.length_set, updI, updL, isLet, bI, h1, h3, g1, g3]
    · have g3 : 65 ≤ x := Int32.not_lt.mp h3
      by_cases h4 : 90 < x
      · have g4 : ¬ x ≤ 90 := Int32.not_le.mpr h4
        simp [je98, r98_0, r98_1, r98_3, r98_6, r98_7, r98_9, r98_12, r98_13, r98_15, r98_18, r98_19, r98_21, r98_24, r98_25, r98_28, r98_29, ag_nx, ag_dn, ag_no, ag_if, jbr1, jbr2, jc1, jc2, jnul, jld, jsto, jstoL, jst1, jst2, jkill, jinc, jbI, jbL, jbS, juI, jl2i, jcmp, jisR, jisI, jisL, jgtx, jtln, jtch, jret, jretv, jdup, jpop, jobj, jmm, jcat, Value.category, jinv, jrcv, jthr, jhd, jnewa, jnewc, jput, jget, B_getL, B_getL0, B_set, B_set0, B_new, B_top, fl_upd, fl_get, Nat.add_assoc, jlen, jald, jast, jgI, jgL, jgB, List.set_cons_zero, List.set_cons_succ, fits_i, fits_l, fits_r, fits_o, fits_z0, fits_z1, fits_n, fits_m, lg_set, List.length_set, updI, updL, isLet, bI, h1, h3, h4, g1, g3, g4]
      · have g4 : x ≤ 90 := Int32.not_lt.mp h4
        simp [je98, r98_0, r98_1, r98_3, r98_6, r98_7, r98_9, r98_12, r98_13, r98_15, r98_18, r98_19, r98_21, r98_24, r98_25, r98_28, r98_29, ag_nx, ag_dn, ag_no, ag_if, jbr1, jbr2, jc1, jc2, jnul, jld, jsto, jstoL, jst1, jst2, jkill, jinc, jbI, jbL, jbS, juI, jl2i, jcmp, jisR, jisI, jisL, jgtx, jtln, jtch, jret, jretv, jdup, jpop, jobj, jmm, jcat, Value.category, jinv, jrcv, jthr, jhd, jnewa, jnewc, jput, jget, B_getL, B_getL0, B_set, B_set0, B_new, B_top, fl_upd, fl_get, Nat.add_assoc, jlen, jald, jast, jgI, jgL, jgB, List.set_cons_zero, List.set_cons_succ, fits_i, fits_l, fits_r, fits_o, fits_z0, fits_z1, fits_n, fits_m, lg_set, List.length_set, updI, updL, isLet, bI, h1, h3, h4, g1, g3, g4]
  · have g1 : 97 ≤ x := Int32.not_lt.mp h1
    by_cases h2 : x ≤ 122
    · simp [je98, r98_0, r98_1, r98_3, r98_6, r98_7, r98_9, r98_12, r98_13, r98_15, r98_18, r98_19, r98_21, r98_24, r98_25, r98_28, r98_29, ag_nx, ag_dn, ag_no, ag_if, jbr1, jbr2, jc1, jc2, jnul, jld, jsto, jstoL, jst1, jst2, jkill, jinc, jbI, jbL, jbS, juI, jl2i, jcmp, jisR, jisI, jisL, jgtx, jtln, jtch, jret, jretv, jdup, jpop, jobj, jmm, jcat, Value.category, jinv, jrcv, jthr, jhd, jnewa, jnewc, jput, jget, B_getL, B_getL0, B_set, B_set0, B_new, B_top, fl_upd, fl_get, Nat.add_assoc, jlen, jald, jast, jgI, jgL, jgB, List.set_cons_zero, List.set_cons_succ, fits_i, fits_l, fits_r, fits_o, fits_z0, fits_z1, fits_n, fits_m, lg_set, List.length_set, updI, updL, isLet, bI, h1, h2, g1]
    · by_cases h3 : x < 65
      · have g3 : ¬ 65 ≤ x := Int32.not_le.mpr h3
        simp [je98, r98_0, r98_1, r98_3, r98_6, r98_7, r98_9, r98_12, r98_13, r98_15, r98_18, r98_19, r98_21, r98_24, r98_25, r98_28, r98_29, ag_nx, ag_dn, ag_no, ag_if, jbr1, jbr2, jc1, jc2, jnul, jld, jsto, jstoL, jst1, jst2, jkill, jinc, jbI, jbL, jbS, juI, jl2i, jcmp, jisR, jisI, jisL, jgtx, jtln, jtch, jret, jretv, jdup, jpop, jobj, jmm, jcat, Value.category, jinv, jrcv, jthr, jhd, jnewa, jnewc, jput, jget, B_getL, B_getL0, B_set, B_set0, B_new, B_top, fl_upd, fl_get, Nat.add_assoc, jlen, jald, jast, jgI, jgL, jgB, List.set_cons_zero, List.set_cons_succ, fits_i, fits_l, fits_r, fits_o, fits_z0, fits_z1, fits_n, fits_m, lg_set, List.length_set, updI, updL, isLet, bI, h1, h2, h3, g1, g3]
      · have g3 : 65 ≤ x := Int32.not_lt.mp h3
        by_cases h4 : 90 < x
        · have g4 : ¬ x ≤ 90 := Int32.not_le.mpr h4
          simp [je98, r98_0, r98_1, r98_3, r98_6, r98_7, r98_9, r98_12, r98_13, r98_15, r98_18, r98_19, r98_21, r98_24, r98_25, r98_28, r98_29, ag_nx, ag_dn, ag_no, ag_if, jbr1, jbr2, jc1, jc2, jnul, jld, jsto, jstoL, jst1, jst2, jkill, jinc, jbI, jbL, jbS, juI, jl2i, jcmp, jisR, jisI, jisL, jgtx, jtln, jtch, jret, jretv, jdup, jpop, jobj, jmm, jcat, Value.category, jinv, jrcv, jthr, jhd, jnewa, jnewc, jput, jget, B_getL, B_getL0, B_set, B_set0, B_new, B_top, fl_upd, fl_get, Nat.add_assoc, jlen, jald, jast, jgI, jgL, jgB, List.set_cons_zero, List.set_cons_succ, fits_i, fits_l, fits_r, fits_o, fits_z0, fits_z1, fits_n, fits_m, lg_set, List.length_set, updI, updL, isLet, bI, h1, h2, h3, h4, g1, g3, g4]
        · have g4 : x ≤ 90 := Int32.not_lt.mp h4
          simp [je98, r98_0, r98_1, r98_3, r98_6, r98_7, r98_9, r98_12, r98_13, r98_15, r98_18, r98_19, r98_21, r98_24, r98_25, r98_28, r98_29, ag_nx, ag_dn, ag_no, ag_if, jbr1, jbr2, jc1, jc2, jnul, jld, jsto, jstoL, jst1, jst2, jkill, jinc, jbI, jbL, jbS, juI, jl2i, jcmp, jisR, jisI, jisL, jgtx, jtln, jtch, jret, jretv, jdup, jpop, jobj, jmm, jcat, Value.category, jinv, jrcv, jthr, jhd, jnewa, jnewc, jput, jget, B_getL, B_getL0, B_set, B_set0, B_new, B_top, fl_upd, fl_get, Nat.add_assoc, jlen, jald, jast, jgI, jgL, jgB, List.set_cons_zero, List.set_cons_succ, fits_i, fits_l, fits_r, fits_o, fits_z0, fits_z1, fits_n, fits_m, lg_set, List.length_set, updI, updL, isLet, bI, h1, h2, h3, h4, g1, g3, g4]
theorem s99 {A : Nat → Nat} {d : Nat} {σ : jS} {x : Int32} : jcall A jcode (d + 1) 99 [.int x] σ = some (.inl (some (.int (bI (isDig x)))), σ) := by
  by_cases h1 : x < 48
  · have g1 : ¬ 48 ≤ x := Int32.not_le.mpr h1
    simp [je99, r99_0, r99_1, r99_3, r99_6, r99_7, r99_9, r99_12, r99_13, r99_16, r99_17, ag_nx, ag_dn, ag_no, ag_if, jbr1, jbr2, jc1, jc2, jnul, jld, jsto, jstoL, jst1, jst2, jkill, jinc, jbI, jbL, jbS, juI, jl2i, jcmp, jisR, jisI, jisL, jgtx, jtln, jtch, jret, jretv, jdup, jpop, jobj, jmm, jcat, Value.category, jinv, jrcv, jthr, jhd, jnewa, jnewc, jput, jget, B_getL, B_getL0, B_set, B_set0, B_new, B_top, fl_upd, fl_get, Nat.add_assoc, jlen, jald, jast, jgI, jgL, jgB, List.set_cons_zero, List.set_cons_succ, fits_i, fits_l, fits_r, fits_o, fits_z0, fits_z1, fits_n, fits_m, lg_set, List.length_set, updI, updL, isDig, bI, h1, g1]
  · have g1 : 48 ≤ x := Int32.not_lt.mp h1
    by_cases h2 : 57 < x
    · have g2 : ¬ x ≤ 57 := Int32.not_le.mpr h2
      simp [je99, r99_0, r99_1, r99_3, r99_6, r99_7, r99_9, r99_12, r99_13, r99_16, r99_17, ag_nx, ag_dn, ag_no, ag_if, jbr1, jbr2, jc1, jc2, jnul, jld, jsto, jstoL, jst1, jst2, jkill, jinc, jbI, jbL, jbS, juI, jl2i, jcmp, jisR, jisI, jisL, jgtx, jtln, jtch, jret, jretv, jdup, jpop, jobj, jmm, jcat, Value.category, jinv, jrcv, jthr, jhd, jnewa, jnewc, jput, jget, B_getL, B_getL0, B_set, B_set0, B_new, B_top, fl_upd, fl_get, Nat.add_assoc, jlen, jald, jast, jgI, jgL, jgB, List.set_cons_zero, List.set_cons_succ, fits_i, fits_l, fits_r, fits_o, fits_z0, fits_z1, fits_n, fits_m, lg_set, List.length_set, updI, updL, isDig, bI, h1, h2, g1, g2]
    · have g2 : x ≤ 57 := Int32.not_lt.mp h2
      simp [je99, r99_0, r99_1, r99_3, r99_6, r99_7, r99_9, r99_12, r99_13, r99_16, r99_17, ag_nx, ag_dn, ag_no, ag_if, jbr1, jbr2, jc1, jc2, jnul, jld, jsto, jstoL, jst1, jst2, jkill, jinc, jbI, jbL, jbS, juI, jl2i, jcmp, jisR, jisI, jisL, jgtx, jtln, jtch, jret, jretv, jdup, jpop, jobj, jmm, jcat, Value.category, jinv, jrcv, jthr, jhd, jnewa, jnewc, jput, jget, B_getL, B_getL0, B_set, B_set0, B_new, B_top, fl_upd, fl_get, Nat.add_assoc, jlen, jald, jast, jgI, jgL, jgB, List.set_cons_zero, List.set_cons_succ, fits_i, fits_l, fits_r, fits_o, fits_z0, fits_z1, fits_n, fits_m, lg_set, List.length_set, updI, updL, isDig, bI, h1, h2, g1, g2]
/-- the kind of a word, from k on -/
def kdF (x : Int64) : Nat → Nat → Nat
  | 0, _ => 26
  | n + 1, k => if tkW k = x then k else kdF x n (k + 1)
def kd (x : Int64) : Nat := kdF x 25 1
theorem cmp0 {x y : Int64} : lg_cmp x y = 0 ↔ x = y := by
  unfold lg_cmp
  constructor
  · intro h
    split at h
    · exact absurd h (by decide)
    · split at h
      · assumption
      · exact absurd h (by decide)
  · intro h
    subst h
    simp
theorem l96 {A : Nat → Nat} {d b n : Nat} {h : Nat → Option jC} {l : List jC} {K P N T : Nat → Int32} {H : Nat → Int64} {m : Nat} {x : Int64} (ht : isTok b l K P N H T m) : ∀ (r k : Nat), r + k = 26 → 0 < k → M96 A d 2 [some (.ref (b + 3)), some (.long x), none, some (.int (nI k))] [] (jB h b l n) = some (.inl (some (.int (nI (kdF x r k)))), jB h b l n) := by
  obtain ⟨f3, f4, -⟩ := ht
  intro r
  induction r with
  | zero =>
    intro k hk _
    have e : k = 26 := by omega
    subst e
    rw [r96_2]
    have h1 : (25 : Int32) < nI 26 := by decide
    have h2 : (26 : Int32) = nI 26 := by decide
    simp [r96_0, r96_1, r96_3, r96_5, r96_8, r96_9, r96_12, r96_13, r96_14, r96_15, r96_16, r96_19, r96_20, r96_21, r96_24, r96_27, r96_29, ag_nx, ag_dn, ag_no, ag_if, jbr1, jbr2, jc1, jc2, jnul, jld, jsto, jstoL, jst1, jst2, jkill, jinc, jbI, jbL, jbS, juI, jl2i, jcmp, jisR, jisI, jisL, jgtx, jtln, jtch, jret, jretv, jdup, jpop, jobj, jmm, jcat, Value.category, jinv, jrcv, jthr, jhd, jnewa, jnewc, jput, jget, B_getL, B_getL0, B_set, B_set0, B_new, B_top, fl_upd, fl_get, Nat.add_assoc, jlen, jald, jast, jgI, jgL, jgB, List.set_cons_zero, List.set_cons_succ, fits_i, fits_l, fits_r, fits_o, fits_z0, fits_z1, fits_n, fits_m, lg_set, List.length_set, updI, updL, h1, kdF, ← h2]
  | succ r ih =>
    intro k hk h0
    have h1 : ¬ (25 : Int32) < nI k := by rw [show (25 : Int32) = nI 25 by decide]; exact nI_nlt (by omega) (by omega)
    have k3 : (nI k).toNatClampNeg = k := nI_clamp (by omega)
    have k4 : 0 ≤ nI k := nI_pos' (by omega)
    have k5 : k < 26 := by omega
    have e := ih (k + 1) (by omega) (by omega)
    rw [r96_2]
    by_cases hc : tkW k = x
    · simp [r96_0, r96_1, r96_3, r96_5, r96_8, r96_9, r96_12, r96_13, r96_14, r96_15, r96_16, r96_19, r96_20, r96_21, r96_24, r96_27, r96_29, ag_nx, ag_dn, ag_no, ag_if, jbr1, jbr2, jc1, jc2, jnul, jld, jsto, jstoL, jst1, jst2, jkill, jinc, jbI, jbL, jbS, juI, jl2i, jcmp, jisR, jisI, jisL, jgtx, jtln, jtch, jret, jretv, jdup, jpop, jobj, jmm, jcat, Value.category, jinv, jrcv, jthr, jhd, jnewa, jnewc, jput, jget, B_getL, B_getL0, B_set, B_set0, B_new, B_top, fl_upd, fl_get, Nat.add_assoc, jlen, jald, jast, jgI, jgL, jgB, List.set_cons_zero, List.set_cons_succ, fits_i, fits_l, fits_r, fits_o, fits_z0, fits_z1, fits_n, fits_m, lg_set, List.length_set, updI, updL, f3, f4, h1, k3, k4, k5, kdF, hc, cmp0]
    · simp [r96_0, r96_1, r96_3, r96_5, r96_8, r96_9, r96_12, r96_13, r96_14, r96_15, r96_16, r96_19, r96_20, r96_21, r96_24, r96_27, r96_29, ag_nx, ag_dn, ag_no, ag_if, jbr1, jbr2, jc1, jc2, jnul, jld, jsto, jstoL, jst1, jst2, jkill, jinc, jbI, jbL, jbS, juI, jl2i, jcmp, jisR, jisI, jisL, jgtx, jtln, jtch, jret, jretv, jdup, jpop, jobj, jmm, jcat, Value.category, jinv, jrcv, jthr, jhd, jnewa, jnewc, jput, jget, B_getL, B_getL0, B_set, B_set0, B_new, B_top, fl_upd, fl_get, Nat.add_assoc, jlen, jald, jast, jgI, jgL, jgB, List.set_cons_zero, List.set_cons_succ, fits_i, fits_l, fits_r, fits_o, fits_z0, fits_z1, fits_n, fits_m, lg_set, List.length_set, updI, updL, f3, f4, h1, k3, k4, k5, kdF, hc, cmp0, nI_1, e]
theorem s96 {A : Nat → Nat} {d b n : Nat} {h : Nat → Option jC} {l : List jC} {K P N T : Nat → Int32} {H : Nat → Int64} {m : Nat} {x : Int64} (ht : isTok b l K P N H T m) : jcall A jcode (d + 1) 96 [.ref (b + 3), .long x] (jB h b l n) = some (.inl (some (.int (nI (kd x)))), jB h b l n) := by
  have e := l96 (A := A) (d := d) (h := h) (n := n) (x := x) ht 25 1 (by omega) (by omega)
  have i1 : nI 1 = 1 := by decide
  rw [i1] at e
  simp [je96, r96_0, r96_1, ag_nx, ag_dn, ag_no, ag_if, jbr1, jbr2, jc1, jc2, jnul, jld, jsto, jstoL, jst1, jst2, jkill, jinc, jbI, jbL, jbS, juI, jl2i, jcmp, jisR, jisI, jisL, jgtx, jtln, jtch, jret, jretv, jdup, jpop, jobj, jmm, jcat, Value.category, jinv, jrcv, jthr, jhd, jnewa, jnewc, jput, jget, B_getL, B_getL0, B_set, B_set0, B_new, B_top, fl_upd, fl_get, Nat.add_assoc, jlen, jald, jast, jgI, jgL, jgB, List.set_cons_zero, List.set_cons_succ, fits_i, fits_l, fits_r, fits_o, fits_z0, fits_z1, fits_n, fits_m, lg_set, List.length_set, updI, updL, e, kd]
