/-! texts: length, charAt -/
/-- the texts stand apart -/
def jAp0 (A : Nat → Nat) : Prop := ∀ t, t < 3 → jtf A (A t) = some t ∧ jtf (fun t => A (50 + t)) (A (50 + t)) = some t
theorem s314 {A : Nat → Nat} {d : Nat} {σ : jS} {t : Nat} (h : jtf A (A t) = some t) : jcall A jcode (d + 1) 314 [.ref (A t)] σ = some (.inl (some (.int 0)), σ) := by
  simp only [jc314, r314_0, r314_3, r314_6, r314_7, r314_10, r314_14, ag_nx, jbr1, jc1, jld, jisR, jgtx, h, jret, jfits, ag_dn, List.getElem?_cons_zero]
  simp [r314_6, r314_7, r314_10, r314_14, ag_nx, ag_dn, jld, jisR, jgtx, h, jret, jisI, jfits]
