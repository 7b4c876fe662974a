/-! the law's loop: every call is a step -/
theorem an31 (x : Int32) : ∃ k, k < 32 ∧ x &&& 31 = nI k := by
  refine ⟨x.toBitVec.toNat % 32, Nat.mod_lt _ (by omega), ?_⟩
  apply Int32.toBitVec_inj.mp
  rw [Int32.toBitVec_and]
  apply BitVec.eq_of_toNat_eq
  rw [BitVec.toNat_and]
  have e1 : (31 : Int32).toBitVec.toNat = 2 ^ 5 - 1 := by decide
  have hl : x.toBitVec.toNat % 32 < 32 := Nat.mod_lt _ (by omega)
  have e2 : (nI (x.toBitVec.toNat % 32)).toBitVec.toNat = x.toBitVec.toNat % 32 := by
    show (BitVec.ofNat 32 (x.toBitVec.toNat % 32)).toNat = x.toBitVec.toNat % 32
    rw [BitVec.toNat_ofNat]
    omega
  rw [e1, e2, Nat.and_two_pow_sub_one_eq_mod]
section LOOP
variable {A : Nat → Nat} {d b s0 Ls : Nat} {h : Nat → Option jC} {xs : Nat → Int32}
theorem stp_all {c i n : Nat} {X : jXX} {I : Nat → Nat → Int32} {J : Nat → Nat → Int64} {R : Nat → Nat → Nat} (hA : jAp0 A) (hs0 : s0 < b) (hs : h s0 = some (25, Ls, fun j => .int (xs j))) (hL : Ls ≤ 3072) (hi : i + 6 ≤ Ls) (hc : c < 590) (hR : Rel c X I J R n) : stp A d b s0 i h c X I J R n := by
  have hc6 : c < 600 := by omega
  obtain ⟨k, hk, e⟩ := an31 (xs i)
  by_cases k20 : 20 ≤ k
  · exact st_20 hs0 hs hL hi hc6 hR e k20 hk
  obtain rfl | rfl | rfl | rfl | rfl | rfl | rfl | rfl | rfl | rfl | rfl | rfl | rfl | rfl | rfl | rfl | rfl | rfl | rfl | rfl : k = 0 ∨ k = 1 ∨ k = 2 ∨ k = 3 ∨ k = 4 ∨ k = 5 ∨ k = 6 ∨ k = 7 ∨ k = 8 ∨ k = 9 ∨ k = 10 ∨ k = 11 ∨ k = 12 ∨ k = 13 ∨ k = 14 ∨ k = 15 ∨ k = 16 ∨ k = 17 ∨ k = 18 ∨ k = 19 := by omega
  · exact st_0 hs0 hs hL hi hc6 hR e
  · exact st_1 hs0 hs hL hi hc6 hR e
  · exact st_2 hs0 hs hL hi hA hc6 hR e
  · exact st_3 hs0 hs hL hi hc6 hR e
  · exact st_4 hs0 hs hL hi hA hc hR e
  · exact st_5 hs0 hs hL hi hc6 hR e
  · exact st_6 hs0 hs hL hi hc6 hR e
  · exact st_7 hs0 hs hL hi hc6 hR e
  · exact st_8 hs0 hs hL hi hc6 hR e
  · exact st_9 hs0 hs hL hi hA hc6 hR e
  · exact st_10 hs0 hs hL hi hc6 hR e
  · exact st_11 hs0 hs hL hi hc6 hR e
  · exact st_12 hs0 hs hL hi hc6 hR e
  · exact st_13 hs0 hs hL hi hc6 hR e
  · exact st_14 hs0 hs hL hi hc6 hR e
  · exact st_15 hs0 hs hL hi hA hc6 hR e
  · exact st_16 hs0 hs hL hi hc6 hR e
  · exact st_17 hs0 hs hL hi hc6 hR e
  · exact st_18 hs0 hs hL hi hc6 hR e
  · exact st_19 hs0 hs hL hi hc6 hR e
theorem lp_outH {i n : Nat} {x5 x6 x7 : Option Value} {X : jXX} {I : Nat → Nat → Int32} {J : Nat → Nat → Int64} {R : Nat → Nat → Nat} (hL : Ls ≤ 3072) (hi : i ≤ 3078) (hs0 : s0 < b) (hs : h s0 = some (25, Ls, fun j => .int (xs j))) (ho : Ls < i + 6) : ML A d 23 (LL s0 b i x5 x6 x7) [] (jH h b X I J R n) = some (.inl (some (.int 1)), jH h b X I J R n) := by
  have e := (go6 hL hi).mpr ho
  have e6 : (6 : Int32) = nI 6 := by decide
  simp [LL, rL_23, rL_25, rL_26, rL_27, rL_29, rL_30, rL_1290, rL_1291, List.getElem?_cons_zero, List.getElem?_cons_succ, List.length_cons, List.length_nil, ag_nx, ag_dn, ag_no, ag_if, jbr1, jbr2, jc1, jc2, jnul, jld, jsto, jstoL, jst1, jst2, jkill, jinc, jbI, jbL, jbS, juI, jl2i, jcmp, jisR, jisI, jisL, jret, jretv, jfits, jdup, jdup2, jpop, jmm, jcat, Value.category, jinv, jrcv, jthr, jhd, jput, jget, jlen, jald, jast, jaast, jgI, jgL, jgB, jtab, jlku, jacp, vf20, vf21, vf22, vf23, vf24, u2_s, u2_k, u2_i, uc_s, uc_k, uc_c, u2_c, H_low hs0, hs, e, fits_z1]
theorem lp_inH {i n : Nat} {x5 x6 x7 : Option Value} {X : jXX} {I : Nat → Nat → Int32} {J : Nat → Nat → Int64} {R : Nat → Nat → Nat} (hL : Ls ≤ 3072) (hi : i ≤ 3078) (hs0 : s0 < b) (hs : h s0 = some (25, Ls, fun j => .int (xs j))) (ho : i + 6 ≤ Ls) : ML A d 23 (LL s0 b i x5 x6 x7) [] (jH h b X I J R n) = ML A d 33 (LL s0 b i x5 x6 x7) [] (jH h b X I J R n) := by
  have e : ¬ nI Ls - 6 < nI i := fun h9 => absurd ((go6 hL hi).mp h9) (by omega)
  simp [LL, rL_23, rL_25, rL_26, rL_27, rL_29, rL_30, List.getElem?_cons_zero, List.getElem?_cons_succ, List.length_cons, List.length_nil, ag_nx, ag_dn, ag_no, ag_if, jbr1, jbr2, jc1, jc2, jnul, jld, jsto, jstoL, jst1, jst2, jkill, jinc, jbI, jbL, jbS, juI, jl2i, jcmp, jisR, jisI, jisL, jret, jretv, jfits, jdup, jdup2, jpop, jmm, jcat, Value.category, jinv, jrcv, jthr, jhd, jput, jget, jlen, jald, jast, jaast, jgI, jgL, jgB, jtab, jlku, jacp, vf20, vf21, vf22, vf23, vf24, u2_s, u2_k, u2_i, uc_s, uc_k, uc_c, u2_c, H_low hs0, hs, e]
theorem loopH (hA : jAp0 A) (hL : Ls ≤ 3072) (hs0 : s0 < b) (hs : h s0 = some (25, Ls, fun j => .int (xs j))) : ∀ (r c n : Nat) (X : jXX) (I : Nat → Nat → Int32) (J : Nat → Nat → Int64) (R : Nat → Nat → Nat) (x5 x6 x7 : Option Value), c + r = 513 → 6 * c ≤ Ls + 6 → Rel c X I J R n → ∃ c' X' I' J' R' n', ML A (d + 1401) 23 (LL s0 b (6 * c) x5 x6 x7) [] (jH h b X I J R n) = some (.inl (some (.int 1)), jH h b X' I' J' R' n') ∧ Rel c' X' I' J' R' n' ∧ c' ≤ 513 := by
  intro r
  induction r with
  | zero =>
    intro c n X I J R x5 x6 x7 hc hi hR
    exact ⟨c, X, I, J, R, n, lp_outH hL (by omega) hs0 hs (by omega), hR, by omega⟩
  | succ r ih =>
    intro c n X I J R x5 x6 x7 hc hi hR
    by_cases ho : 6 * c + 6 ≤ Ls
    · obtain ⟨X1, I1, J1, R1, n1, y5, y6, y7, e, hR1⟩ := stp_all (d := d) hA hs0 hs hL ho (by omega) hR x5 x6 x7
      obtain ⟨c', X2, I2, J2, R2, n2, e2, hR2, hc2⟩ := ih (c + 1) n1 X1 I1 J1 R1 y5 y6 y7 (by omega) (by omega) hR1
      refine ⟨c', X2, I2, J2, R2, n2, ?_, hR2, hc2⟩
      rw [lp_inH hL (by omega) hs0 hs ho, e, lp_up]
      exact e2
    · exact ⟨c, X, I, J, R, n, lp_outH hL (by omega) hs0 hs (by omega), hR, by omega⟩
/-- there is room -/
theorem Rel_room {c n : Nat} {X : jXX} {I : Nat → Nat → Int32} {J : Nat → Nat → Int64} {R : Nat → Nat → Nat} (hR : Rel c X I J R n) (hc : c ≤ 513) : tp X ≤ 601024 ∧ n ≤ 7293034 := by
  obtain ⟨T, nn, nb, M, P, P', L, C, C', a1, a2, a3, ⟨⟨r1, r2, r3, r4, r5, r6, r7, r8, r9, r10, r11, _⟩, ⟨t1, t2⟩, r13⟩, ⟨_, m2, cap, m3, m4, m5, m6⟩, a6, a7, ⟨⟨k1, _⟩, _⟩, a9, ⟨z1, z2⟩⟩ := hR
  have hz : zpl X := k1
  have k2 := (zpl_b hz).2
  have hcap : cap ≤ 9100 := by omega
  have e1 := m3 251 (by omega) (by omega)
  have e2 := m3 252 (by omega) (by omega)
  have e3 := m3 253 (by omega) (by omega)
  have e4 := m3 254 (by omega) (by omega)
  have e5 := m3 255 (by omega) (by omega)
  have e6 := m3 256 (by omega) (by omega)
  have e7 := m3 257 (by omega) (by omega)
  have e8 := m3 258 (by omega) (by omega)
  have hs : scp X ≤ 590000 := by
    unfold scp
    omega
  exact ⟨by omega, by omega⟩
end LOOP
