/-! the tape in any state -/
/-- the house's own cell: f's places 1 and 3 are the tape's and out's lengths -/
def hsF (b t o pl dr s ms dm c : Nat) : List Value := [.ref (b + 1), .int (nI t), .ref (b + 2), .int (nI o), .ref (b + 3), .ref (b + 56), .ref (b + 57), .ref (b + 131), .ref (b + pl), .ref (b + dr), .int (nI s), .ref (b + ms), .ref (b + dm), .int (nI c)]
def isHs (b : Nat) (l : List jC) (t o pl dr s ms dm c : Nat) : Prop := lg l 0 = some (10, 14, jfl9 (jdf 10) (hsF b t o pl dr s ms dm c))
def byC (x : Int32) (k : Nat) : Int32 := (x.toUInt32 >>> ((nI k).toUInt32 &&& Int32.toUInt32 31)).toInt32.toInt8.toInt32
/-- a byte of a byte is itself -/
theorem by_by (x : Int32) : x.toInt8.toInt32.toInt8 = x.toInt8 := by simp
/-- one byte of append: at pc 3 with the shift k -/
theorem ap_one {A : Nat → Nat} {d b n t o pl dr s ms dm c k : Nat} {h : Nat → Option jC} {l : List jC} {T : Nat → Int32} {x : Int32} (hl : 300 ≤ l.length) (ht : t < 2000) (hk : k < 32) (f0 : isHs b l t o pl dr s ms dm c) (f1 : lg l 1 = some (22, 2000, fun i => .int (T i))) :
    M168 A d 3 [some (.ref b), some (.int x), some (.int (nI k))] [] (jB h b l n) = M168 A d 3 [some (.ref b), some (.int x), some (.int (nI k + (-8)))] [] (jB h b ((l.set 1 (22, 2000, fun i => .int (up T t (byC x k) i))).set 0 (10, 14, jfl9 (jdf 10) (hsF b (t + 1) o pl dr s ms dm c))) n) := by
  have h1 : ¬ nI k < 0 := nI_pos (by omega)
  have h2 : ¬ (2000 : Int32) ≤ nI t := by rw [nI2000]; exact nI_ge ht (by omega)
  have k3 : (nI t).toNatClampNeg = t := nI_clamp (by omega)
  have k4 : 0 ≤ nI t := nI_pos' (by omega)
  unfold isHs at f0
  simp only [hsF] at f0
  rw [r168_3]
  simp [r168_0, r168_2, r168_4, r168_7, r168_8, r168_11, r168_14, r168_17, r168_18, r168_21, r168_22, r168_25, r168_26, r168_27, r168_28, r168_29, r168_30, r168_31, r168_32, r168_35, r168_36, r168_37, r168_40, r168_43, r168_46, ag_nx, ag_dn, ag_no, ag_if, jbr1, jbr2, jc1, jc2, jnul, jld, jsto, jstoL, jst1, jst2, jkill, jinc, jbI, jbL, jbS, juI, jl2i, jcmp, jisR, jisI, jisL, jgtx, jtln, jtch, jret, jretv, jdup, jpop, jobj, jmm, jcat, Value.category, jinv, jrcv, jthr, jhd, jnewa, jnewc, jput, jget, B_getL, B_getL0, B_set, B_set0, B_new, B_top, fl_upd, fl_get, Nat.add_assoc, jlen, jald, jast, jgI, jgL, jgB, List.set_cons_zero, List.set_cons_succ, fits_i, fits_l, fits_r, fits_o, fits_z0, fits_z1, fits_n, fits_m, lg_set, List.length_set, updI, updL, ty10_1, f0, f1, h1, h2, k3, k4, ht, by_by, up, byC, hsF, nI_1, show 0 < l.length by omega, show 1 < l.length by omega]
