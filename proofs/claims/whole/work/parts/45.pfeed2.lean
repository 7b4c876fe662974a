/-! feed in any state -/
theorem na168 : jna 168 = 2 := by decide +kernel
theorem ow168 : jow 168 = 10 := by decide +kernel
theorem na243 : jna 243 = 2 := by decide +kernel
theorem ow243 : jow 243 = 12 := by decide +kernel
theorem nI1980 : (1980 : Int32) = nI 1980 := by decide
def ap20 (T : Nat → Int32) (t : Nat) (x1 x2 x3 x4 x5 : Int32) : Nat → Int32 := ap4 (ap4 (ap4 (ap4 (ap4 T t x1) (t + 4) x2) (t + 8) x3) (t + 12) x4) (t + 16) x5
theorem s148 {A : Nat → Nat} {d b n t : Nat} {h : Nat → Option jC} {l : List jC} {G : List Value} {T : Nat → Int32} {x1 x2 x3 x4 x5 : Int32} (hl : 300 ≤ l.length) (ht : t ≤ 1980) (h0 : ob l 0 10 G) (g0 : fg G 0 = some (.ref (b + 1))) (g1 : fg G 1 = some (.int (nI t))) (f1 : lg l 1 = some (22, 2000, fun i => .int (T i))) :
    ∃ l', jcall A jcode (d + 2) 148 [.ref b, .int x1, .int x2, .int x3, .int x4, .int x5] (jB h b l n) = some (.inl (some (.int (nI (t + 20)))), jB h b l' n) ∧ ob l' 0 10 (G.set 1 (.int (nI (t + 20)))) ∧ lg l' 1 = some (22, 2000, fun i => .int (ap20 T t x1 x2 x3 x4 x5 i)) ∧ same [0, 1] l l' := by
  have hG2 : G.length = 14 := h0.2
  obtain ⟨l1, a1, b1, c1, d1⟩ := s168 (A := A) (d := d) (b := b) (n := n) (h := h) (t := t) (x := x1) hl (by omega) h0 g0 g1 f1
  obtain ⟨l2, a2, b2, c2, d2⟩ := s168 (A := A) (d := d) (b := b) (n := n) (h := h) (t := t + 4) (x := x2) (by rw [d1.1]; exact hl) (by omega) b1 (by simp [fg_set, g0]) (by simp [fg_set, hG2]) c1
  obtain ⟨l3, a3, b3, c3, d3⟩ := s168 (A := A) (d := d) (b := b) (n := n) (h := h) (t := t + 8) (x := x3) (by rw [d2.1, d1.1]; exact hl) (by omega) b2 (by simp [fg_set, g0]) (by simp [fg_set, hG2]) c2
  obtain ⟨l4, a4, b4, c4, d4⟩ := s168 (A := A) (d := d) (b := b) (n := n) (h := h) (t := t + 12) (x := x4) (by rw [d3.1, d2.1, d1.1]; exact hl) (by omega) b3 (by simp [fg_set, g0]) (by simp [fg_set, hG2]) c3
  obtain ⟨l5, a5, b5, c5, d5⟩ := s168 (A := A) (d := d) (b := b) (n := n) (h := h) (t := t + 16) (x := x5) (by rw [d4.1, d3.1, d2.1, d1.1]; exact hl) (by omega) b4 (by simp [fg_set, g0]) (by simp [fg_set, hG2]) c4
  have q : nI t ≤ 1980 := by rw [nI1980]; exact nI_le ht (by omega)
  refine ⟨l5, ?_, by simpa using b5, c5, same_tr d1 (same_tr d2 (same_tr d3 (same_tr d4 d5)))⟩
  have w0 := h0.1
  have w1 := b1.1
  have w2 := b2.1
  have w3 := b3.1
  have w4 := b4.1
  have w5 := b5.1
  simp [je148, r148_0, r148_1, r148_4, r148_7, r148_10, r148_20, r148_21, r148_22, r148_25, r148_26, r148_27, r148_30, r148_31, r148_32, r148_35, r148_36, r148_38, r148_41, r148_42, r148_44, r148_47, r148_48, r148_51, ag_nx, ag_dn, ag_no, ag_if, jbr1, jbr2, jc1, jc2, jnul, jld, jsto, jstoL, jst1, jst2, jkill, jinc, jbI, jbL, jbS, juI, jl2i, jcmp, jisR, jisI, jisL, jgtx, jtln, jtch, jret, jretv, jdup, jpop, jobj, jmm, jcat, Value.category, jinv, jrcv, jthr, jhd, jnewa, jnewc, jput, jget, B_getL, B_getL0, B_set, B_set0, B_new, B_top, fl_upd, fl_fg, fg_set, Nat.add_assoc, jlen, jald, jast, jgI, jgL, jgB, jtnew, fits_i, fits_l, fits_r, fits_o, fits_z0, fits_z1, fits_n, fits_m, lg_set, List.length_set, updI, updL, w0, w1, w2, w3, w4, w5, g1, hG2, q, a1, a2, a3, a4, a5, na168, ow168]
theorem s148x {A : Nat → Nat} {d b n t : Nat} {h : Nat → Option jC} {l : List jC} {G : List Value} {x1 x2 x3 x4 x5 : Int32} (ht : 1980 < t) (ht2 : t ≤ 2000) (h0 : ob l 0 10 G) (g1 : fg G 1 = some (.int (nI t))) :
    jcall A jcode (d + 2) 148 [.ref b, .int x1, .int x2, .int x3, .int x4, .int x5] (jB h b l n) = some (.inr 41, jB h b (l ++ [(41, 0, fun _ => .null)]) (n + 6)) := by
  have q : ¬ nI t ≤ 1980 := by rw [nI1980]; exact nI_ge ht (by omega)
  have w0 := h0.1
  simp [je148, r148_0, r148_1, r148_4, r148_7, r148_10, r148_20, r148_21, r148_22, r148_25, r148_26, r148_27, r148_30, r148_31, r148_32, r148_35, r148_36, r148_38, r148_41, r148_42, r148_44, r148_47, r148_48, r148_51, ag_nx, ag_dn, ag_no, ag_if, jbr1, jbr2, jc1, jc2, jnul, jld, jsto, jstoL, jst1, jst2, jkill, jinc, jbI, jbL, jbS, juI, jl2i, jcmp, jisR, jisI, jisL, jgtx, jtln, jtch, jret, jretv, jdup, jpop, jobj, jmm, jcat, Value.category, jinv, jrcv, jthr, jhd, jnewa, jnewc, jput, jget, B_getL, B_getL0, B_set, B_set0, B_new, B_top, fl_upd, fl_fg, fg_set, Nat.add_assoc, jlen, jald, jast, jgI, jgL, jgB, jtnew, fits_i, fits_l, fits_r, fits_o, fits_z0, fits_z1, fits_n, fits_m, lg_set, List.length_set, updI, updL, w0, g1, q]
/-- one byte of four (the reference) -/
def byM (x : Int32) (k : Nat) : Int32 := (x >>> (nI k &&& 31)).toInt8.toInt32
theorem fo1 {A : Nat → Nat} {d b n t k : Nat} {h : Nat → Option jC} {l : List jC} {G : List Value} {T : Nat → Int32} {x : Int32} (hl : 300 ≤ l.length) (ht : t < 2000) (hk : k < 32) (h0 : ob l 241 12 G) (g0 : fg G 10 = some (.ref (b + 248))) (g1 : fg G 13 = some (.int (nI t))) (f1 : lg l 248 = some (22, 2000, fun i => .int (T i))) :
    ∃ l', M243 A d 3 [some (.ref (b + 241)), some (.int x), some (.int (nI k))] [] (jB h b l n) = M243 A d 3 [some (.ref (b + 241)), some (.int x), some (.int (nI k + (-8)))] [] (jB h b l' n) ∧ ob l' 241 12 (G.set 13 (.int (nI (t + 1)))) ∧ lg l' 248 = some (22, 2000, fun i => .int (up T t (byM x k) i)) ∧ same [241, 248] l l' := by
  obtain ⟨f0, hG⟩ := h0
  have hG2 : G.length = 101 := hG
  have f0' : lg l 241 = some (12, 101, jfl9 (jdf 12) G) := f0
  have h1 : ¬ nI k < 0 := nI_pos (by omega)
  have k3 : (nI t).toNatClampNeg = t := nI_clamp (by omega)
  have k4 : 0 ≤ nI t := nI_pos' (by omega)
  have e0 : 241 < l.length := by omega
  have e1 : 248 < l.length := by omega
  refine ⟨(l.set 248 (22, 2000, fun i => .int (up T t (byM x k) i))).set 241 (12, 101, jfl9 (jdf 12) (G.set 13 (.int (nI (t + 1))))), ?_, ⟨?_, ?_⟩, ?_, ?_, ?_⟩
  · rw [r243_3]
    simp [r243_0, r243_2, r243_4, r243_7, r243_8, r243_11, r243_12, r243_15, r243_16, r243_17, r243_18, r243_19, r243_20, r243_21, r243_22, r243_25, r243_26, r243_27, r243_30, r243_33, r243_36, ag_nx, ag_dn, ag_no, ag_if, jbr1, jbr2, jc1, jc2, jnul, jld, jsto, jstoL, jst1, jst2, jkill, jinc, jbI, jbL, jbS, juI, jl2i, jcmp, jisR, jisI, jisL, jgtx, jtln, jtch, jret, jretv, jdup, jpop, jobj, jmm, jcat, Value.category, jinv, jrcv, jthr, jhd, jnewa, jnewc, jput, jget, B_getL, B_getL0, B_set, B_set0, B_new, B_top, fl_upd, fl_fg, fg_set, Nat.add_assoc, jlen, jald, jast, jgI, jgL, jgB, jtnew, fits_i, fits_l, fits_r, fits_o, fits_z0, fits_z1, fits_n, fits_m, lg_set, List.length_set, updI, updL, ty12_13, f0', f1, g0, g1, hG2, h1, k3, k4, ht, by_by, up, byM, nI_1, e0, e1]
  · simp [lg_set, e0]; rfl
  · simp [hG2]; rfl
  · simp [lg_set, e1]
  · simp
  · intro k hk
    simp only [List.mem_cons, List.not_mem_nil, or_false, not_or] at hk
    simp [lg_set, Ne.symm hk.1, Ne.symm hk.2]
theorem by_eq (x : Int32) {k : Nat} (hk : k ≤ 24) : byM x k = byC x k := by
  unfold byM byC
  congr 1
  apply Int8.toBitVec_inj.mp
  rw [Int32.toBitVec_toInt8, Int32.toBitVec_toInt8]
  apply BitVec.eq_of_getLsbD_eq
  intro i hi
  rw [BitVec.getLsbD_signExtend, BitVec.getLsbD_signExtend, if_pos (by omega), if_pos (by omega)]
  have h1 := b_sshr k (by omega) x (i := i) (by omega)
  have h2 := b_ushr k (by omega) x i
  unfold bt at h1 h2
  rw [h1, h2, if_pos (by omega)]
theorem s243 {A : Nat → Nat} {d b n t : Nat} {h : Nat → Option jC} {l : List jC} {G : List Value} {T : Nat → Int32} {x : Int32} (hl : 300 ≤ l.length) (ht : t + 4 ≤ 2000) (h0 : ob l 241 12 G) (g0 : fg G 10 = some (.ref (b + 248))) (g1 : fg G 13 = some (.int (nI t))) (f1 : lg l 248 = some (22, 2000, fun i => .int (T i))) :
    ∃ l', jcall A jcode (d + 1) 243 [.ref (b + 241), .int x] (jB h b l n) = some (.inl none, jB h b l' n) ∧ ob l' 241 12 (G.set 13 (.int (nI (t + 4)))) ∧ lg l' 248 = some (22, 2000, fun i => .int (ap4 T t x i)) ∧ same [241, 248] l l' := by
  have hG2 : G.length = 101 := h0.2
  obtain ⟨l1, a1, b1, c1, d1⟩ := fo1 (A := A) (d := d) (b := b) (n := n) (h := h) (t := t) (k := 24) (x := x) hl (by omega) (by omega) h0 g0 g1 f1
  obtain ⟨l2, a2, b2, c2, d2⟩ := fo1 (A := A) (d := d) (b := b) (n := n) (h := h) (t := t + 1) (k := 16) (x := x) (by rw [d1.1]; exact hl) (by omega) (by omega) b1 (by simp [fg_set, g0]) (by simp [fg_set, hG2]) c1
  obtain ⟨l3, a3, b3, c3, d3⟩ := fo1 (A := A) (d := d) (b := b) (n := n) (h := h) (t := t + 2) (k := 8) (x := x) (by rw [d2.1, d1.1]; exact hl) (by omega) (by omega) b2 (by simp [fg_set, g0]) (by simp [fg_set, hG2]) c2
  obtain ⟨l4, a4, b4, c4, d4⟩ := fo1 (A := A) (d := d) (b := b) (n := n) (h := h) (t := t + 3) (k := 0) (x := x) (by rw [d3.1, d2.1, d1.1]; exact hl) (by omega) (by omega) b3 (by simp [fg_set, g0]) (by simp [fg_set, hG2]) c3
  rw [by_eq x (by omega), by_eq x (by omega), by_eq x (by omega), by_eq x (by omega)] at c4
  refine ⟨l4, ?_, ?_, c4, same_tr d1 (same_tr d2 (same_tr d3 d4))⟩
  · have z1 : nI 24 + (-8) = nI 16 := by decide
    have z2 : nI 16 + (-8) = nI 8 := by decide
    have z3 : nI 8 + (-8) = nI 0 := by decide
    have z4 : nI 0 + (-8) = -8 := by decide
    have z5 : (24 : Int32) = nI 24 := by decide
    rw [z1] at a1
    rw [z2] at a2
    rw [z3] at a3
    rw [z4] at a4
    have e : M243 A d 3 [some (.ref (b + 241)), some (.int x), some (.int (nI 24))] [] (jB h b l n) = some (.inl none, jB h b l4 n) := by
      rw [a1, a2, a3, a4, r243_3]
      simp [r243_0, r243_2, r243_4, r243_7, r243_8, r243_11, r243_12, r243_15, r243_16, r243_17, r243_18, r243_19, r243_20, r243_21, r243_22, r243_25, r243_26, r243_27, r243_30, r243_33, r243_36, ag_nx, ag_dn, ag_no, ag_if, jbr1, jbr2, jc1, jc2, jnul, jld, jsto, jstoL, jst1, jst2, jkill, jinc, jbI, jbL, jbS, juI, jl2i, jcmp, jisR, jisI, jisL, jgtx, jtln, jtch, jret, jretv, jdup, jpop, jobj, jmm, jcat, Value.category, jinv, jrcv, jthr, jhd, jnewa, jnewc, jput, jget, B_getL, B_getL0, B_set, B_set0, B_new, B_top, fl_upd, fl_fg, fg_set, Nat.add_assoc, jlen, jald, jast, jgI, jgL, jgB, jtnew, fits_i, fits_l, fits_r, fits_o, fits_z0, fits_z1, fits_n, fits_m, lg_set, List.length_set, updI, updL]
    rw [← z5] at e
    simp [je243, r243_0, r243_2, ag_nx, ag_dn, ag_no, ag_if, jbr1, jbr2, jc1, jc2, jnul, jld, jsto, jstoL, jst1, jst2, jkill, jinc, jbI, jbL, jbS, juI, jl2i, jcmp, jisR, jisI, jisL, jgtx, jtln, jtch, jret, jretv, jdup, jpop, jobj, jmm, jcat, Value.category, jinv, jrcv, jthr, jhd, jnewa, jnewc, jput, jget, B_getL, B_getL0, B_set, B_set0, B_new, B_top, fl_upd, fl_fg, fg_set, Nat.add_assoc, jlen, jald, jast, jgI, jgL, jgB, jtnew, fits_i, fits_l, fits_r, fits_o, fits_z0, fits_z1, fits_n, fits_m, lg_set, List.length_set, updI, updL, e]
  · simpa using b4
/-- fails: what was thrown is told, and whether it was -/
theorem s176 {A : Nat → Nat} {d b n : Nat} {h : Nat → Option jC} {l : List jC} {F : List Value} {w : Int32} (hl : 300 ≤ l.length) (h0 : ob l 241 12 F) : jcall A jcode (d + 1) 176 [.ref (b + 241), .int w] (jB h b l n) = some (.inl (some (.int (if w = 0 then 0 else 1))), jB h b (l.set 241 (12, 101, jfl9 (jdf 12) (F.set 0 (.int w)))) n) := by
  have hF : F.length = 101 := h0.2
  have w0 : lg l 241 = some (12, 101, jfl9 (jdf 12) F) := h0.1
  have e0 : 241 < l.length := by omega
  by_cases hw : w = 0
  · simp [je176, r176_0, r176_1, r176_2, r176_5, r176_6, r176_9, r176_10, r176_13, r176_14, ag_nx, ag_dn, ag_no, ag_if, jbr1, jbr2, jc1, jc2, jnul, jld, jsto, jstoL, jst1, jst2, jkill, jinc, jbI, jbL, jbS, juI, jl2i, jcmp, jisR, jisI, jisL, jgtx, jtln, jtch, jret, jretv, jdup, jpop, jobj, jmm, jcat, Value.category, jinv, jrcv, jthr, jhd, jnewa, jnewc, jput, jget, B_getL, B_getL0, B_set, B_set0, B_new, B_top, fl_upd, fl_fg, fg_set, Nat.add_assoc, jlen, jald, jast, jgI, jgL, jgB, jtnew, fits_i, fits_l, fits_r, fits_o, fits_z0, fits_z1, fits_n, fits_m, lg_set, List.length_set, updI, updL, ty12_0, w0, hF, hw, e0]
  · simp [je176, r176_0, r176_1, r176_2, r176_5, r176_6, r176_9, r176_10, r176_13, r176_14, ag_nx, ag_dn, ag_no, ag_if, jbr1, jbr2, jc1, jc2, jnul, jld, jsto, jstoL, jst1, jst2, jkill, jinc, jbI, jbL, jbS, juI, jl2i, jcmp, jisR, jisI, jisL, jgtx, jtln, jtch, jret, jretv, jdup, jpop, jobj, jmm, jcat, Value.category, jinv, jrcv, jthr, jhd, jnewa, jnewc, jput, jget, B_getL, B_getL0, B_set, B_set0, B_new, B_top, fl_upd, fl_fg, fg_set, Nat.add_assoc, jlen, jald, jast, jgI, jgL, jgB, jtnew, fits_i, fits_l, fits_r, fits_o, fits_z0, fits_z1, fits_n, fits_m, lg_set, List.length_set, updI, updL, ty12_0, w0, hF, hw, e0]
theorem na176 : jna 176 = 2 := by decide +kernel
theorem ow176 : jow 176 = 12 := by decide +kernel
theorem ob_set {l : List jC} {F' : List Value} {k t : Nat} (hk : k < l.length) (hF : F'.length = jNf t) : ob (l.set k (t, jNf t, jfl9 (jdf t) F')) k t F' := ⟨by rw [lg_set, if_pos rfl, if_pos hk], hF⟩
