/-! objects by their lists of fields; the tape in any state -/
/-- the field k -/
def fg (F : List Value) (k : Nat) : Option Value := F[k]?
theorem fg_set {F : List Value} {i j : Nat} {v : Value} : fg (F.set i v) j = if i = j then (if i < F.length then some v else none) else fg F j := by
  unfold fg
  rw [List.getElem?_set]
theorem fl_fg {g : Nat → Value} {F : List Value} {k : Nat} : jfl9 g F k = (fg F k).getD (g k) := by
  unfold jfl9 fg
  rw [List.getD_eq_getElem?_getD]
def ob (l : List jC) (k t : Nat) (F : List Value) : Prop := lg l k = some (t, jNf t, jfl9 (jdf t) F) ∧ F.length = jNf t
theorem same_tr {ks : List Nat} {l l1 l2 : List jC} (h1 : same ks l l1) (h2 : same ks l1 l2) : same ks l l2 := ⟨h2.1.trans h1.1, fun k hk => (h2.2 k hk).trans (h1.2 k hk)⟩
/-- one byte of append (the class) -/
theorem ap1 {A : Nat → Nat} {d b n t k : Nat} {h : Nat → Option jC} {l : List jC} {G : List Value} {T : Nat → Int32} {x : Int32} (hl : 300 ≤ l.length) (ht : t < 2000) (hk : k < 32) (h0 : ob l 0 10 G) (g0 : fg G 0 = some (.ref (b + 1))) (g1 : fg G 1 = some (.int (nI t))) (f1 : lg l 1 = some (22, 2000, fun i => .int (T i))) :
    ∃ l', M168 A d 3 [some (.ref b), some (.int x), some (.int (nI k))] [] (jB h b l n) = M168 A d 3 [some (.ref b), some (.int x), some (.int (nI k + (-8)))] [] (jB h b l' n) ∧ ob l' 0 10 (G.set 1 (.int (nI (t + 1)))) ∧ lg l' 1 = some (22, 2000, fun i => .int (up T t (byC x k) i)) ∧ same [0, 1] l l' := by
  obtain ⟨f0, hG⟩ := h0
  have hG2 : G.length = 14 := hG
  have f0' : lg l 0 = some (10, 14, jfl9 (jdf 10) G) := f0
  have h1 : ¬ nI k < 0 := nI_pos (by omega)
  have h2 : ¬ (2000 : Int32) ≤ nI t := by rw [nI2000]; exact nI_ge ht (by omega)
  have k3 : (nI t).toNatClampNeg = t := nI_clamp (by omega)
  have k4 : 0 ≤ nI t := nI_pos' (by omega)
  have e0 : 0 < l.length := by omega
  have e1 : 1 < l.length := by omega
  refine ⟨(l.set 1 (22, 2000, fun i => .int (up T t (byC x k) i))).set 0 (10, 14, jfl9 (jdf 10) (G.set 1 (.int (nI (t + 1))))), ?_, ⟨?_, ?_⟩, ?_, ?_, ?_⟩
  · rw [r168_3]
    simp [r168_0, r168_2, r168_4, r168_7, r168_8, r168_11, r168_14, r168_17, r168_18, r168_21, r168_22, r168_25, r168_26, r168_27, r168_28, r168_29, r168_30, r168_31, r168_32, r168_35, r168_36, r168_37, r168_40, r168_43, r168_46, ag_nx, ag_dn, ag_no, ag_if, jbr1, jbr2, jc1, jc2, jnul, jld, jsto, jstoL, jst1, jst2, jkill, jinc, jbI, jbL, jbS, juI, jl2i, jcmp, jisR, jisI, jisL, jgtx, jtln, jtch, jret, jretv, jdup, jpop, jobj, jmm, jcat, Value.category, jinv, jrcv, jthr, jhd, jnewa, jnewc, jput, jget, B_getL, B_getL0, B_set, B_set0, B_new, B_top, fl_upd, fl_fg, fg_set, Nat.add_assoc, jlen, jald, jast, jgI, jgL, jgB, fits_i, fits_l, fits_r, fits_o, fits_z0, fits_z1, fits_n, fits_m, lg_set, List.length_set, updI, updL, ty10_1, f0', f1, g0, g1, hG2, h1, h2, k3, k4, ht, by_by, up, byC, nI_1, e0, e1]
  · simp [lg_set, e0]; rfl
  · simp [hG2]; rfl
  · simp [lg_set, e1]
  · simp
  · intro k hk
    simp only [List.mem_cons, List.not_mem_nil, or_false, not_or] at hk
    simp [lg_set, Ne.symm hk.1, Ne.symm hk.2]
def ap4 (T : Nat → Int32) (t : Nat) (x : Int32) : Nat → Int32 := up (up (up (up T t (byC x 24)) (t + 1) (byC x 16)) (t + 2) (byC x 8)) (t + 3) (byC x 0)
theorem s168 {A : Nat → Nat} {d b n t : Nat} {h : Nat → Option jC} {l : List jC} {G : List Value} {T : Nat → Int32} {x : Int32} (hl : 300 ≤ l.length) (ht : t + 4 ≤ 2000) (h0 : ob l 0 10 G) (g0 : fg G 0 = some (.ref (b + 1))) (g1 : fg G 1 = some (.int (nI t))) (f1 : lg l 1 = some (22, 2000, fun i => .int (T i))) :
    ∃ l', jcall A jcode (d + 1) 168 [.ref b, .int x] (jB h b l n) = some (.inl none, jB h b l' n) ∧ ob l' 0 10 (G.set 1 (.int (nI (t + 4)))) ∧ lg l' 1 = some (22, 2000, fun i => .int (ap4 T t x i)) ∧ same [0, 1] l l' := by
  have hG2 : G.length = 14 := h0.2
  obtain ⟨l1, a1, b1, c1, d1⟩ := ap1 (A := A) (d := d) (b := b) (n := n) (h := h) (t := t) (k := 24) (x := x) hl (by omega) (by omega) h0 g0 g1 f1
  obtain ⟨l2, a2, b2, c2, d2⟩ := ap1 (A := A) (d := d) (b := b) (n := n) (h := h) (t := t + 1) (k := 16) (x := x) (by rw [d1.1]; exact hl) (by omega) (by omega) b1 (by simp [fg_set, g0]) (by simp [fg_set, hG2]) c1
  obtain ⟨l3, a3, b3, c3, d3⟩ := ap1 (A := A) (d := d) (b := b) (n := n) (h := h) (t := t + 2) (k := 8) (x := x) (by rw [d2.1, d1.1]; exact hl) (by omega) (by omega) b2 (by simp [fg_set, g0]) (by simp [fg_set, hG2]) c2
  obtain ⟨l4, a4, b4, c4, d4⟩ := ap1 (A := A) (d := d) (b := b) (n := n) (h := h) (t := t + 3) (k := 0) (x := x) (by rw [d3.1, d2.1, d1.1]; exact hl) (by omega) (by omega) b3 (by simp [fg_set, g0]) (by simp [fg_set, hG2]) c3
  refine ⟨l4, ?_, ?_, c4, same_tr d1 (same_tr d2 (same_tr d3 d4))⟩
  · have z1 : nI 24 + (-8) = nI 16 := by decide
    have z2 : nI 16 + (-8) = nI 8 := by decide
    have z3 : nI 8 + (-8) = nI 0 := by decide
    have z4 : nI 0 + (-8) = -8 := by decide
    have z5 : (24 : Int32) = nI 24 := by decide
    rw [z1] at a1
    rw [z2] at a2
    rw [z3] at a3
    rw [z4] at a4
    have e : M168 A d 3 [some (.ref b), some (.int x), some (.int (nI 24))] [] (jB h b l n) = some (.inl none, jB h b l4 n) := by
      rw [a1, a2, a3, a4, r168_3]
      simp [r168_0, r168_2, r168_4, r168_7, r168_8, r168_11, r168_14, r168_17, r168_18, r168_21, r168_22, r168_25, r168_26, r168_27, r168_28, r168_29, r168_30, r168_31, r168_32, r168_35, r168_36, r168_37, r168_40, r168_43, r168_46, ag_nx, ag_dn, ag_no, ag_if, jbr1, jbr2, jc1, jc2, jnul, jld, jsto, jstoL, jst1, jst2, jkill, jinc, jbI, jbL, jbS, juI, jl2i, jcmp, jisR, jisI, jisL, jgtx, jtln, jtch, jret, jretv, jdup, jpop, jobj, jmm, jcat, Value.category, jinv, jrcv, jthr, jhd, jnewa, jnewc, jput, jget, B_getL, B_getL0, B_set, B_set0, B_new, B_top, fl_upd, fl_fg, fg_set, Nat.add_assoc, jlen, jald, jast, jgI, jgL, jgB, fits_i, fits_l, fits_r, fits_o, fits_z0, fits_z1, fits_n, fits_m, lg_set, List.length_set, updI, updL]
    rw [← z5] at e
    simp [je168, r168_0, r168_2, ag_nx, ag_dn, ag_no, ag_if, jbr1, jbr2, jc1, jc2, jnul, jld, jsto, jstoL, jst1, jst2, jkill, jinc, jbI, jbL, jbS, juI, jl2i, jcmp, jisR, jisI, jisL, jgtx, jtln, jtch, jret, jretv, jdup, jpop, jobj, jmm, jcat, Value.category, jinv, jrcv, jthr, jhd, jnewa, jnewc, jput, jget, B_getL, B_getL0, B_set, B_set0, B_new, B_top, fl_upd, fl_fg, fg_set, Nat.add_assoc, jlen, jald, jast, jgI, jgL, jgB, fits_i, fits_l, fits_r, fits_o, fits_z0, fits_z1, fits_n, fits_m, lg_set, List.length_set, updI, updL, e]
  · simpa using b4
