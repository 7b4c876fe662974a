/-! feed in any state -/
theorem na168 : jna 168 = 2 := by decide +kernel
theorem ow168 : jow 168 = 10 := by decide +kernel
theorem na243 : jna 243 = 2 := by decide +kernel
theorem ow243 : jow 243 = 12 := by decide +kernel
theorem nI1980 : (1980 : Int32) = nI 1980 := by decide
def ap20 (T : Nat → Int32) (t : Nat) (x1 x2 x3 x4 x5 : Int32) : Nat → Int32 := ap4 (ap4 (ap4 (ap4 (ap4 T t x1) (t + 4) x2) (t + 8) x3) (t + 12) x4) (t + 16) x5
theorem s148 {A : Nat → Nat} {d b n t : Nat} {h : Nat → Option jC} {l : List jC} {G : List Value} {T : Nat → Int32} {x1 x2 x3 x4 x5 : Int32} (hl : 300 ≤ l.length) (ht : t ≤ 1980) (h0 : ob l 0 10 G) (g0 : fg G 0 = some (.ref (b + 1))) (g1 : fg G 1 = some (.int (nI t))) (f1 : lg l 1 = some (22, 2000, fun i => .int (T i))) :
    ∃ l', jcall A jcode (d + 2) 148 [.ref b, .int x1, .int x2, .int x3, .int x4, .int x5] (jB h b l n) = some (.inl (some (.int (nI (t + 20)))), jB h b l' n) ∧ ob l' 0 10 (G.set 1 (.int (nI (t + 20)))) ∧ lg l' 1 = some (22, 2000, fun i => .int (ap20 T t x1 x2 x3 x4 x5 i)) ∧ same [0, 1] l l' := by
  have hG2 : G.length = 14 := h0.2
  obtain ⟨l1, a1, b1, c1, d1⟩ := s168 (A := A) (d := d) (b := b) (n := n) (h := h) (t := t) (x := x1) hl (by omega) h0 g0 g1 f1
  obtain ⟨l2, a2, b2, c2, d2⟩ := s168 (A := A) (d := d) (b := b) (n := n) (h := h) (t := t + 4) (x := x2) (by rw [d1.1]; exact hl) (by omega) b1 (by simp [fg_set, g0]) (by simp [fg_set, hG2]) c1
  obtain ⟨l3, a3, b3, c3, d3⟩ := s168 (A := A) (d := d) (b := b) (n := n) (h := h) (t := t + 8) (x := x3) (by rw [d2.1, d1.1]; exact hl) (by omega) b2 (by simp [fg_set, g0]) (by simp [fg_set, hG2]) c2
  obtain ⟨l4, a4, b4, c4, d4⟩ := s168 (A := A) (d := d) (b := b) (n := n) (h := h) (t := t + 12) (x := x4) (by rw [d3.1, d2.1, d1.1]; exact hl) (by omega) b3 (by simp [fg_set, g0]) (by simp [fg_set, hG2]) c3
  obtain ⟨l5, a5, b5, c5, d5⟩ := s168 (A := A) (d := d) (b := b) (n := n) (h := h) (t := t + 16) (x := x5) (by rw [d4.1, d3.1, d2.1, d1.1]; exact hl) (by omega) b4 (by simp [fg_set, g0]) (by simp [fg_set, hG2]) c4
  have q : nI t ≤ 1980 := by rw [nI1980]; exact nI_le ht (by omega)
  refine ⟨l5, ?_, by simpa using b5, c5, same_tr d1 (same_tr d2 (same_tr d3 (same_tr d4 d5)))⟩
  have w0 := h0.1
  have w1 := b1.1
  have w2 := b2.1
  have w3 := b3.1
  have w4 := b4.1
  have w5 := b5.1
  simp [je148, r148_0, r148_1, r148_4, r148_7, r148_10, r148_20, r148_21, r148_22, r148_25, r148_26, r148_27, r148_30, r148_31, r148_32, r148_35, r148_36, r148_38, r148_41, r148_42, r148_44, r148_47, r148_48, r148_51, ag_nx, ag_dn, ag_no, ag_if, jbr1, jbr2, jc1, jc2, jnul, jld, jsto, jstoL, jst1, jst2, jkill, jinc, jbI, jbL, jbS, juI, jl2i, jcmp, jisR, jisI, jisL, jgtx, jtln, jtch, jret, jretv, jdup, jpop, jobj, jmm, jcat, Value.category, jinv, jrcv, jthr, jhd, jnewa, jnewc, jput, jget, B_getL, B_getL0, B_set, B_set0, B_new, B_top, fl_upd, fl_fg, fg_set, Nat.add_assoc, jlen, jald, jast, jgI, jgL, jgB, jtnew, fits_i, fits_l, fits_r, fits_o, fits_z0, fits_z1, fits_n, fits_m, lg_set, List.length_set, updI, updL, w0, w1, w2, w3, w4, w5, g1, hG2, q, a1, a2, a3, a4, a5, na168, ow168]
theorem s148x {A : Nat → Nat} {d b n t : Nat} {h : Nat → Option jC} {l : List jC} {G : List Value} {x1 x2 x3 x4 x5 : Int32} (ht : 1980 < t) (ht2 : t ≤ 2000) (h0 : ob l 0 10 G) (g1 : fg G 1 = some (.int (nI t))) :
    jcall A jcode (d + 2) 148 [.ref b, .int x1, .int x2, .int x3, .int x4, .int x5] (jB h b l n) = some (.inr 41, jB h b (l ++ [(41, 0, fun _ => .null)]) (n + 6)) := by
  have q : ¬ nI t ≤ 1980 := by rw [nI1980]; exact nI_ge ht (by omega)
  have w0 := h0.1
  simp [je148, r148_0, r148_1, r148_4, r148_7, r148_10, r148_20, r148_21, r148_22, r148_25, r148_26, r148_27, r148_30, r148_31, r148_32, r148_35, r148_36, r148_38, r148_41, r148_42, r148_44, r148_47, r148_48, r148_51, ag_nx, ag_dn, ag_no, ag_if, jbr1, jbr2, jc1, jc2, jnul, jld, jsto, jstoL, jst1, jst2, jkill, jinc, jbI, jbL, jbS, juI, jl2i, jcmp, jisR, jisI, jisL, jgtx, jtln, jtch, jret, jretv, jdup, jpop, jobj, jmm, jcat, Value.category, jinv, jrcv, jthr, jhd, jnewa, jnewc, jput, jget, B_getL, B_getL0, B_set, B_set0, B_new, B_top, fl_upd, fl_fg, fg_set, Nat.add_assoc, jlen, jald, jast, jgI, jgL, jgB, jtnew, fits_i, fits_l, fits_r, fits_o, fits_z0, fits_z1, fits_n, fits_m, lg_set, List.length_set, updI, updL, w0, g1, q]
/-- one byte of four (the reference) -/
def byM (x : Int32) (k : Nat) : Int32 := (x >>> (nI k &&& 31)).toInt8.toInt32
theorem fo1 {A : Nat → Nat} {d b n t k : Nat} {h : Nat → Option jC} {l : List jC} {G : List Value} {T : Nat → Int32} {x : Int32} (hl : 300 ≤ l.length) (ht : t < 2000) (hk : k < 32) (h0 : ob l 241 12 G) (g0 : fg G 10 = some (.ref (b + 248))) (g1 : fg G 13 = some (.int (nI t))) (f1 : lg l 248 = some (22, 2000, fun i => .int (T i))) :
    ∃ l', M243 A d 3 [some (.ref (b + 241)), some (.int x), some (.int (nI k))] [] (jB h b l n) = M243 A d 3 [some (.ref (b + 241)), some (.int x), some (.int (nI k + (-8)))] [] (jB h b l' n) ∧ ob l' 241 12 (G.set 13 (.int (nI (t + 1)))) ∧ lg l' 248 = some (22, 2000, fun i => .int (up T t (byM x k) i)) ∧ same [241, 248] l l' := by
  obtain ⟨f0, hG⟩ := h0
  have hG2 : G.length = 101 := hG
  have f0' : lg l 241 = some (12, 101, jfl9 (jdf 12) G) := f0
  have h1 : ¬ nI k < 0 := nI_pos (by omega)
  have k3 : (nI t).toNatClampNeg = t := nI_clamp (by omega)
  have k4 : 0 ≤ nI t := nI_pos' (by omega)
  have e0 : 241 < l.length := by omega
  have e1 : 248 < l.length := by omega
  refine ⟨(l.set 248 (22, 2000, fun i => .int (up T t (byM x k) i))).set 241 (12, 101, jfl9 (jdf 12) (G.set 13 (.int (nI (t + 1))))), ?_, ⟨?_, ?_⟩, ?_, ?_, ?_⟩
  · rw [r243_3]
    simp [r243_0, r243_2, r243_4, r243_7, r243_8, r243_11, r243_12, r243_15, r243_16, r243_17, r243_18, r243_19, r243_20, r243_21, r243_22, r243_25, r243_26, r243_27, r243_30, r243_33, r243_36, ag_nx, ag_dn, ag_no, ag_if, jbr1, jbr2, jc1, jc2, jnul, jld, jsto, jstoL, jst1, jst2, jkill, jinc, jbI, jbL, jbS, juI, jl2i, jcmp, jisR, jisI, jisL, jgtx, jtln, jtch, jret, jretv, jdup, jpop, jobj, jmm, jcat, Value.category, jinv, jrcv, jthr, jhd, jnewa, jnewc, jput, jget, B_getL, B_getL0, B_set, B_set0, B_new, B_top, fl_upd, fl_fg, fg_set, Nat.add_assoc, jlen, jald, jast, jgI, jgL, jgB, jtnew, fits_i, fits_l, fits_r, fits_o, fits_z0, fits_z1, fits_n, fits_m, lg_set, List.length_set, updI, updL, ty12_13, f0', f1, g0, g1, hG2, h1, k3, k4, ht, by_by, up, byM, nI_1, e0, e1]
  · simp [lg_set, e0]; rfl
  · simp [hG2]; rfl
  · simp [lg_set, e1]
  · simp
  · intro k hk
    simp only [List.mem_cons, List.not_mem_nil, or_false, not_or] at hk
    simp [lg_set, Ne.symm hk.1, Ne.symm hk.2]
theorem by_eq (x : Int32) {k : Nat} (hk : k ≤ 24) : byM x k = byC x k := by
  unfold byM byC
  congr 1
  apply Int8.toBitVec_inj.mp
  sorry
