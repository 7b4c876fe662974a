/-! the class's tokens against the text -/
section CTK
variable {t : Nat → Int32} {N m p L : Nat} {I : Nat → Nat → Int32} {J : Nat → Nat → Int64}
theorem eqVY (hL : L ≤ 2 ^ 20) (hc : cNm I J p L) (ht : ∀ i, i ≤ m → tk6 t N (tpos t N i) I J p L i) : ∀ x y, nmT (KK t N) m x → nmT (KK t N) m y → eqV (I 7) x y = eqY t N x y := by
  intro x y hx hy
  have kx : tkK t N (tpos t N x) = nI 26 := by rw [KK_e.2, hx.1]
  have ky : tkK t N (tpos t N y) = nI 26 := by rw [KK_e.2, hy.1]
  obtain ⟨_, _, _, _, hx5, _⟩ := ht x hx.2
  obtain ⟨_, _, _, _, hy5, _⟩ := ht y hy.2
  obtain ⟨a, a1, a2, a3⟩ := hx5 kx
  obtain ⟨c, c1, c2, c3⟩ := hy5 ky
  unfold eqV eqY Yn
  rw [a2, c2, ← a3, ← c3]
  congr 1
  apply propext
  constructor
  · intro e
    rw [(nI_eq (by omega) (by omega)).mp e]
  · intro e
    rw [hc.2.2 a c a1 c1 e]
theorem numU (ht : ∀ i, i ≤ m → tk6 t N (tpos t N i) I J p L i) : ∀ j, j ≤ m → KK t N j = 27 → I 7 j = tkNu t N (tpos t N j) := by
  intro j hj hK
  refine (ht j hj).2.2.2.2.2 ?_
  rw [KK_e.2, hK]
  decide
end CTK
