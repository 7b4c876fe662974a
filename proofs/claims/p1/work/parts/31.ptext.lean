/-! texts: length, charAt -/
/-- the texts stand apart -/
def jAp0 (A : Nat → Nat) : Prop := ∀ t, t < 3 → jtf A (A t) = some t ∧ jtf (fun t => A (50 + t)) (A (50 + t)) = some t
theorem na310 : jna 310 = 1 := by decide +kernel
theorem ow310 : jow 310 = 27 := by decide +kernel
theorem na311 : jna 311 = 2 := by decide +kernel
theorem ow311 : jow 311 = 27 := by decide +kernel
theorem na314 : jna 314 = 1 := by decide +kernel
theorem ow314 : jow 314 = 27 := by decide +kernel
theorem na315 : jna 315 = 1 := by decide +kernel
theorem ow315 : jow 315 = 27 := by decide +kernel
theorem na316 : jna 316 = 2 := by decide +kernel
theorem na317 : jna 317 = 2 := by decide +kernel
theorem na321 : jna 321 = 3 := by decide +kernel
theorem s314 {A : Nat → Nat} {d : Nat} {σ : jS} {t : Nat} (h : jtf A (A t) = some t) : jcall A jcode (d + 1) 314 [.ref (A t)] σ = some (.inl (some (.int 0)), σ) := by
  simp [je314, r314_0, r314_3, r314_6, r314_7, r314_10, r314_13, r314_14, ag_nx, ag_dn, ag_no, ag_if, jbr1, jbr2, jc1, jc2, jnul, jld, jsto, jstoL, jst1, jst2, jkill, jinc, jbI, jbL, jbS, juI, jl2i, jcmp, jisR, jisI, jisL, jgtx, jtln, jtch, jret, jretv, jfits, jdup, jpop, jobj, jmm, jcat, Value.category, jinv, jrcv, jthr, jhd, h]
theorem s315 {A : Nat → Nat} {d : Nat} {σ : jS} {t : Nat} (h : jtf A (A t) = some t) : jcall A jcode (d + 1) 315 [.ref (A t)] σ = some (.inl (some (.int 1)), σ) := by
  simp [je315, r315_0, r315_3, r315_6, r315_7, r315_10, r315_13, r315_14, r315_17, r315_18, ag_nx, ag_dn, ag_no, ag_if, jbr1, jbr2, jc1, jc2, jnul, jld, jsto, jstoL, jst1, jst2, jkill, jinc, jbI, jbL, jbS, juI, jl2i, jcmp, jisR, jisI, jisL, jgtx, jtln, jtch, jret, jretv, jfits, jdup, jpop, jobj, jmm, jcat, Value.category, jinv, jrcv, jthr, jhd, h]
theorem s310 {A : Nat → Nat} {d : Nat} {σ : jS} {t : Nat} (hA : jAp0 A) (ht : t < 3) : jcall A jcode (d + 2) 310 [.ref (A t)] σ = some (.inl (some (.int (nI (jtx t).length))), σ) := by
  simp [je310, r310_0, r310_1, r310_4, r310_5, r310_6, r310_9, r310_10, ag_nx, ag_dn, ag_no, ag_if, jbr1, jbr2, jc1, jc2, jnul, jld, jsto, jstoL, jst1, jst2, jkill, jinc, jbI, jbL, jbS, juI, jl2i, jcmp, jisR, jisI, jisL, jgtx, jtln, jtch, jret, jretv, jfits, jdup, jpop, jobj, jmm, jcat, Value.category, jinv, jrcv, jthr, jhd, (hA t ht).1, (hA t ht).2, s314 (hA t ht).1, na314, ow314]
theorem s321 {A : Nat → Nat} {d : Nat} {σ : jS} {i n : Int32} {v : Nat} (h0 : 0 ≤ i) (hn : i < n) : jcall A jcode (d + 1) 321 [.int i, .int n, .ref v] σ = some (.inl (some (.int i)), σ) := by
  simp [je321, r321_0, r321_1, r321_4, r321_5, r321_6, r321_9, r321_10, r321_11, r321_15, r321_16, r321_17, ag_nx, ag_dn, ag_no, ag_if, jbr1, jbr2, jc1, jc2, jnul, jld, jsto, jstoL, jst1, jst2, jkill, jinc, jbI, jbL, jbS, juI, jl2i, jcmp, jisR, jisI, jisL, jgtx, jtln, jtch, jret, jretv, jfits, jdup, jpop, jobj, jmm, jcat, Value.category, jinv, jrcv, jthr, jhd, h0, hn, Int32.not_lt.mpr h0]
