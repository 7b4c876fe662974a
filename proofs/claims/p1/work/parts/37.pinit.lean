/-! the law: a new house, a new reference, one call -/
def pL (b : Nat) : List jC := kHouse b ++ (kModel (b + 241) ++ [z21 1])
set_option maxRecDepth 100000 in
theorem kH_len {b : Nat} : (kHouse b).length = 241 := rfl
set_option maxRecDepth 100000 in
theorem kM_len {b : Nat} : (kModel b).length = 58 := rfl
theorem na147 : jna 147 = 1 := by decide +kernel
theorem ow147 : jow 147 = 10 := by decide +kernel
theorem na289 : jna 289 = 1 := by decide +kernel
theorem ow289 : jow 289 = 12 := by decide +kernel
theorem pInit {A : Nat → Nat} {d b s0 : Nat} {h : Nat → Option jC} (hA : jAp0 A) : ML A (d + 60) 0 [some (.ref s0), none, none, none, none, none, none, none] [] (jB h b [] 0) = ML A (d + 60) 23 [some (.ref s0), some (.ref b), some (.ref (b + 241)), some (.ref (b + 299)), some (.int 0), none, none, none] [] (jB h b (pL b) 545279) := by
  have e1 := sHouse (A := A) (d := d + 54) (a := b) (n := 14) (h := h) hA
  have e2 := sModel (A := A) (d := d + 58) (a := b + 241) (n := 68940) (h := (jB h b (kHouse b) 68940).1)
  rw [← kH_len (b := b), ← B_cut (l0 := kHouse b), show (jB h b (kHouse b) 68940).1 = (jB h b (kHouse b) (68940 + 476338)).1 from rfl, ← B_cut (l0 := kHouse b), kH_len] at e2
  have e3 : (kHouse b ++ kModel (b + 241)).length = 299 := by rw [List.length_append, kH_len, kM_len]
  have g1 : (jB h b (kHouse b ++ [(12, 101, jfl9 (jdf 12) (jdl 12 101))]) 68940).1 (b + 241) = some (12, 101, jfl9 (jdf 12) (jdl 12 101)) := by
    rw [B_get]
    rfl
  simp [rL_0, rL_3, rL_4, rL_7, rL_8, rL_11, rL_12, rL_15, rL_16, rL_17, rL_19, rL_20, rL_21, ag_nx, ag_dn, ag_no, ag_if, jbr1, jbr2, jc1, jc2, jnul, jld, jsto, jstoL, jst1, jst2, jkill, jinc, jbI, jbL, jbS, juI, jl2i, jcmp, jisR, jisI, jisL, jgtx, jtln, jtch, jret, jretv, jdup, jpop, jobj, jmm, jcat, Value.category, jinv, jrcv, jthr, jhd, jnewa, jnewc, jput, jget, B_get, B_get0, B_set, B_set0, B_new, B_top, fl_upd, fl_get, z20_e, z21_e, z22_e, z23_e, z24_e, Nat.add_assoc, jaast, jlen, List.set_cons_zero, List.set_cons_succ, fits_i, fits_l, fits_r, fits_o, fits_z0, fits_z1, fits_n, fits_m, nc_e, nf10, nf12, na147, ow147, na289, ow289, e1, e2, e3, g1, kH_len, pL]

