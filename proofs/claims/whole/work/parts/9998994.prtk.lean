/-! to the front: whole -/
section RTK
variable {A : Nat → Nat} {d b n M0 M : Nat} {h : Nat → Option jC} {X : jXX} {I : Nat → Nat → Int32} {J : Nat → Nat → Int64} {R : Nat → Nat → Nat} {v3 v4 : Option Value}
theorem r249s (hcap : ∀ k, 251 ≤ k → k ≤ 258 → M ≤ cp X k) (hM : M ≤ 2 ^ 18) (h29 : I 241 29 = nI M) {s : Nat} (hs : s + M0 < M) : M249 A (d + 1) 2 [some (.ref (b + 241)), some (.int (nI M0)), some (.int (nI (s + M0))), v3, v4] [] (jH h b X (tfI M0 s I) J R n) = M249 A (d + 1) 2 [some (.ref (b + 241)), some (.int (nI M0)), some (.int (nI (s + M0 + 1))), some (.int (I 251 (s + M0))), some (.int (nI s))] [] (jH h b X (tfI M0 (s + 1) I) J R n) := by
  have t29 : tfI M0 s I 241 29 = nI M := (tfI_n (by omega)).trans h29
  have t : ∀ c, tfI M0 s I c (s + M0) = I c (s + M0) := fun c => tfI_o (by omega)
  have cc : ∀ k, 251 ≤ k → k ≤ 258 → s + M0 < cp X k := fun k a b => by have := hcap k a b; omega
  have cs : ∀ k, 251 ≤ k → k ≤ 258 → s < cp X k := fun k a b => by have := hcap k a b; omega
  have b1 : s + M0 < 2 ^ 20 := by omega
  have b2 : s < 2 ^ 20 := by omega
  rw [r249_c1 t29 (cc _ (by omega) (by omega)) (cs _ (by omega) (by omega)) hs (by omega), r249_c2 (cc _ (by omega) (by omega)) (cs _ (by omega) (by omega)) b1 b2, r249_c3 (cc _ (by omega) (by omega)) (cs _ (by omega) (by omega)) b1 b2, r249_c4 (cc _ (by omega) (by omega)) (cs _ (by omega) (by omega)) b1 b2, r249_c5 (cc _ (by omega) (by omega)) (cs _ (by omega) (by omega)) b1 b2, r249_c6 (cc _ (by omega) (by omega)) (cs _ (by omega) (by omega)) b1 b2, r249_c7 (cc _ (by omega) (by omega)) (cs _ (by omega) (by omega)) b1 b2, r249_c8 (cc _ (by omega) (by omega)) (cs _ (by omega) (by omega)) b1 b2, r249_c9 b1]
  rw [t 251]
  have fin := tfI_s (M0 := M0) (I := I) (s := s) (k := I 251 (s + M0)) (x2 := if lkd0 (I 251 (s + M0)) = true then shl (nI M0) (I 252 (s + M0)) else I 252 (s + M0)) (x3 := if lkd1 (I 251 (s + M0)) = true then shl (nI M0) (I 253 (s + M0)) else I 253 (s + M0)) (x4 := if lkd2 (I 251 (s + M0)) = true then shl (nI M0) (I 254 (s + M0)) else I 254 (s + M0)) (x5 := shl (nI M0) (I 255 (s + M0))) (x6 := I 256 (s + M0)) (x7 := I 257 (s + M0)) (x8 := if I 251 (s + M0) = nI 30 then shl (nI M0) (I 258 (s + M0)) else I 258 (s + M0)) rfl (by unfold tfC; simp) (by unfold tfC; simp) (by unfold tfC; simp) (by unfold tfC; simp) rfl rfl (by unfold tfC; simp)
  rw [← fin]
  simp (disch := omega) only [u2_k, t, ne_eq, Nat.reduceEqDiff, not_false_eq_true]
end RTK
