/-! the law's loop, over any invariant -/
def LL (s0 b i : Nat) (x5 x6 x7 : Option Value) : jL := [some (.ref s0), some (.ref b), some (.ref (b + 241)), some (.ref (b + 299)), some (.int (nI i)), x5, x6, x7]
theorem sub6 (L : Nat) (h : L < 3073) : (nI L - 6).toInt = (L : Int) - 6 := by
  rw [Int32.toInt_sub, nI_toInt (by omega), show (6 : Int32).toInt = 6 by decide]
  simp only [Int.bmod]
  split <;> omega
theorem go6 {L i : Nat} (hL : L ≤ 3072) (hi : i ≤ 3078) : nI L - 6 < nI i ↔ L < i + 6 := by
  rw [Int32.lt_iff_toInt_lt, sub6 L (by omega), nI_toInt (by omega)]
  omega
theorem lp_out {A : Nat → Nat} {d b s0 L i n : Nat} {h : Nat → Option jC} {l : List jC} {xs : Nat → Int32} {x5 x6 x7 : Option Value} (hL : L ≤ 3072) (hi : i ≤ 3078) (hs0 : s0 < b) (hs : h s0 = some (25, L, fun j => .int (xs j))) (ho : L < i + 6) : ML A d 23 (LL s0 b i x5 x6 x7) [] (jB h b l n) = some (.inl (some (.int 1)), jB h b l n) := by
  have e := (go6 hL hi).mpr ho
  simp [LL, rL_23, rL_25, rL_26, rL_27, rL_29, rL_30, rL_1290, rL_1291, ag_nx, ag_dn, ag_no, ag_if, jbr1, jbr2, jc1, jc2, jnul, jld, jsto, jstoL, jst1, jst2, jkill, jinc, jbI, jbL, jbS, juI, jl2i, jcmp, jisR, jisI, jisL, jgtx, jtln, jtch, jret, jretv, jdup, jpop, jobj, jmm, jcat, Value.category, jinv, jrcv, jthr, jhd, jnewa, jnewc, jput, jget, B_getL, B_getL0, B_set, B_set0, B_new, B_top, fl_upd, fl_get, z20_e, z21_e, z22_e, z23_e, z24_e, jlen, jald, B_low hs0, hs, e, fits_z1]
theorem lp_in {A : Nat → Nat} {d b s0 L i n : Nat} {h : Nat → Option jC} {l : List jC} {xs : Nat → Int32} {x5 x6 x7 : Option Value} (hL : L ≤ 3072) (hi : i ≤ 3078) (hs0 : s0 < b) (hs : h s0 = some (25, L, fun j => .int (xs j))) (ho : i + 6 ≤ L) : ML A d 23 (LL s0 b i x5 x6 x7) [] (jB h b l n) = ML A d 33 (LL s0 b i x5 x6 x7) [] (jB h b l n) := by
  have e : ¬ nI L - 6 < nI i := fun h9 => absurd ((go6 hL hi).mp h9) (by omega)
  simp [LL, rL_23, rL_25, rL_26, rL_27, rL_29, rL_30, ag_nx, ag_dn, ag_no, ag_if, jbr1, jbr2, jc1, jc2, jnul, jld, jsto, jstoL, jst1, jst2, jkill, jinc, jbI, jbL, jbS, juI, jl2i, jcmp, jisR, jisI, jisL, jgtx, jtln, jtch, jret, jretv, jdup, jpop, jobj, jmm, jcat, Value.category, jinv, jrcv, jthr, jhd, jnewa, jnewc, jput, jget, B_getL, B_getL0, B_set, B_set0, B_new, B_top, fl_upd, fl_get, z20_e, z21_e, z22_e, z23_e, z24_e, jlen, jald, B_low hs0, hs, e]
theorem lp_up {A : Nat → Nat} {d b s0 i : Nat} {σ : jS} {x5 x6 x7 : Option Value} : ML A d 1284 (LL s0 b i x5 x6 x7) [] σ = ML A d 23 (LL s0 b (i + 6) x5 x6 x7) [] σ := by
  have e : nI i + 6 = nI (i + 6) := nI_add i 6
  simp [LL, rL_1284, rL_1287, ag_nx, ag_dn, ag_no, ag_if, jbr1, jbr2, jc1, jc2, jnul, jld, jsto, jstoL, jst1, jst2, jkill, jinc, jbI, jbL, jbS, juI, jl2i, jcmp, jisR, jisI, jisL, jgtx, jtln, jtch, jret, jretv, jdup, jpop, jobj, jmm, jcat, Value.category, jinv, jrcv, jthr, jhd, jnewa, jnewc, jput, jget, B_getL, B_getL0, B_set, B_set0, B_new, B_top, fl_upd, fl_get, z20_e, z21_e, z22_e, z23_e, z24_e, jlen, jald, e]
theorem law_loop {A : Nat → Nat} {d b s0 L : Nat} {h : Nat → Option jC} {xs : Nat → Int32} (Inv : Nat → List jC → Nat → Prop) (hL : L ≤ 3072) (hs0 : s0 < b) (hs : h s0 = some (25, L, fun j => .int (xs j)))
    (step : ∀ (c : Nat) (l : List jC) (n : Nat) (x5 x6 x7 : Option Value), 6 * c + 6 ≤ L → Inv c l n → ∃ l' n' y5 y6 y7, ML A d 33 (LL s0 b (6 * c) x5 x6 x7) [] (jB h b l n) = ML A d 1284 (LL s0 b (6 * c) y5 y6 y7) [] (jB h b l' n') ∧ Inv (c + 1) l' n') :
    ∀ (r c : Nat) (l : List jC) (n : Nat) (x5 x6 x7 : Option Value), c + r = 513 → 6 * c ≤ L + 6 → Inv c l n → ∃ c' l' n', ML A d 23 (LL s0 b (6 * c) x5 x6 x7) [] (jB h b l n) = some (.inl (some (.int 1)), jB h b l' n') ∧ Inv c' l' n' ∧ c' ≤ 513 := by
  intro r
  induction r with
  | zero =>
    intro c l n x5 x6 x7 hc hi hI
    exact ⟨c, l, n, lp_out hL (by omega) hs0 hs (by omega), hI, by omega⟩
  | succ r ih =>
    intro c l n x5 x6 x7 hc hi hI
    by_cases ho : 6 * c + 6 ≤ L
    · obtain ⟨l', n', y5, y6, y7, e, hI'⟩ := step c l n x5 x6 x7 ho hI
      obtain ⟨c', l2, n2, e2, hI2, hc2⟩ := ih (c + 1) l' n' y5 y6 y7 (by omega) (by omega) hI'
      refine ⟨c', l2, n2, ?_, hI2, hc2⟩
      rw [lp_in hL (by omega) hs0 hs ho, e, lp_up]
      exact e2
    · exact ⟨c, l, n, lp_out hL (by omega) hs0 hs (by omega), hI, by omega⟩
