/-! feed: the reference, and the law's own -/
theorem nI20 : (20 : Int32) = nI 20 := by decide
theorem s242 {A : Nat → Nat} {d b n t : Nat} {h : Nat → Option jC} {l : List jC} {F : List Value} {T : Nat → Int32} {x1 x2 x3 x4 x5 : Int32} (hl : 300 ≤ l.length) (ht : t ≤ 1980) (h0 : ob l 241 12 F) (g0 : fg F 10 = some (.ref (b + 248))) (g1 : fg F 13 = some (.int (nI t))) (f1 : lg l 248 = some (22, 2000, fun i => .int (T i))) :
    ∃ l', jcall A jcode (d + 2) 242 [.ref (b + 241), .int x1, .int x2, .int x3, .int x4, .int x5] (jB h b l n) = some (.inl (some (.int (nI (t + 20)))), jB h b l' n) ∧ ob l' 241 12 ((F.set 0 (.int 0)).set 13 (.int (nI (t + 20)))) ∧ lg l' 248 = some (22, 2000, fun i => .int (ap20 T t x1 x2 x3 x4 x5 i)) ∧ same [241, 248] l l' := by
  have hF : F.length = 101 := h0.2
  have hG2 : (F.set 0 (Value.int 0)).length = 101 := by rw [List.length_set]; exact hF
  have b0 : ob (l.set 241 (12, 101, jfl9 (jdf 12) (F.set 0 (.int 0)))) 241 12 (F.set 0 (.int 0)) := ob_set (by omega) hG2
  have a0 := s176 (A := A) (d := d) (b := b) (n := n) (h := h) (w := 0) hl h0
  obtain ⟨l1, a1, b1, c1, d1⟩ := s243 (A := A) (d := d) (b := b) (n := n) (h := h) (t := t) (T := T) (x := x1) (by rw [List.length_set]; exact hl) (by omega) b0 (by simp [fg_set, g0]) (by simp [fg_set, g1]) (by simp [lg_set, f1])
  obtain ⟨l2, a2, b2, c2, d2⟩ := s243 (A := A) (d := d) (b := b) (n := n) (h := h) (t := t + 4) (x := x2) (by rw [d1.1, List.length_set]; exact hl) (by omega) b1 (by simp [fg_set, g0]) (by simp [fg_set, hG2]) c1
  obtain ⟨l3, a3, b3, c3, d3⟩ := s243 (A := A) (d := d) (b := b) (n := n) (h := h) (t := t + 8) (x := x3) (by rw [d2.1, d1.1, List.length_set]; exact hl) (by omega) b2 (by simp [fg_set, g0]) (by simp [fg_set, hG2]) c2
  obtain ⟨l4, a4, b4, c4, d4⟩ := s243 (A := A) (d := d) (b := b) (n := n) (h := h) (t := t + 12) (x := x4) (by rw [d3.1, d2.1, d1.1, List.length_set]; exact hl) (by omega) b3 (by simp [fg_set, g0]) (by simp [fg_set, hG2]) c3
  obtain ⟨l5, a5, b5, c5, d5⟩ := s243 (A := A) (d := d) (b := b) (n := n) (h := h) (t := t + 16) (x := x5) (by rw [d4.1, d3.1, d2.1, d1.1, List.length_set]; exact hl) (by omega) b4 (by simp [fg_set, g0]) (by simp [fg_set, hG2]) c4
  have q : nI t + 20 ≤ 2000 := by rw [nI20, nI_add, nI2000]; exact nI_le (by omega) (by omega)
  have d0 : same [241, 248] l (l.set 241 (12, 101, jfl9 (jdf 12) (F.set 0 (.int 0)))) := ⟨by simp, fun k hk => by
    simp only [List.mem_cons, List.not_mem_nil, or_false, not_or] at hk
    simp [lg_set, Ne.symm hk.1]⟩
  refine ⟨l5, ?_, by simpa using b5, c5, same_tr d0 (same_tr d1 (same_tr d2 (same_tr d3 (same_tr d4 d5))))⟩
  have w0 := h0.1
  have w1 := b1.1
  have w2 := b2.1
  have w3 := b3.1
  have w4 := b4.1
  have w5 := b5.1
  have w6 := b0.1
  have e0 : 241 < l.length := by omega
  simp only [if_pos] at a0
  simp [je242, r242_0, r242_1, r242_2, r242_5, r242_7, r242_8, r242_11, r242_14, r242_15, r242_18, r242_19, r242_22, r242_25, r242_26, r242_27, r242_28, r242_29, r242_32, r242_33, r242_34, r242_37, r242_38, r242_39, r242_42, r242_43, r242_45, r242_48, r242_49, r242_51, r242_54, r242_55, r242_58, ag_nx, ag_dn, ag_no, ag_if, jbr1, jbr2, jc1, jc2, jnul, jld, jsto, jstoL, jst1, jst2, jkill, jinc, jbI, jbL, jbS, juI, jl2i, jcmp, jisR, jisI, jisL, jgtx, jtln, jtch, jret, jretv, jdup, jpop, jobj, jmm, jcat, Value.category, jinv, jrcv, jthr, jhd, jnewa, jnewc, jput, jget, B_getL, B_getL0, B_set, B_set0, B_new, B_top, fl_upd, fl_fg, fg_set, Nat.add_assoc, jlen, jald, jast, jgI, jgL, jgB, jtnew, fits_i, fits_l, fits_r, fits_o, fits_z0, fits_z1, fits_n, fits_m, lg_set, List.length_set, updI, updL, jthr, jhd, w0, w1, w2, w3, w4, w5, w6, g1, hF, q, a0, a1, a2, a3, a4, a5, na176, ow176, na243, ow243, e0]
theorem s242x {A : Nat → Nat} {d b n t : Nat} {h : Nat → Option jC} {l : List jC} {F : List Value} {x1 x2 x3 x4 x5 : Int32} (hl : 300 ≤ l.length) (ht : 1980 < t) (ht2 : t ≤ 2000) (h0 : ob l 241 12 F) (g1 : fg F 13 = some (.int (nI t))) :
    jcall A jcode (d + 2) 242 [.ref (b + 241), .int x1, .int x2, .int x3, .int x4, .int x5] (jB h b l n) = some (.inl (some (.int 0)), jB h b (l.set 241 (12, 101, jfl9 (jdf 12) (F.set 0 (.int 1)))) n) := by
  have a0 := s176 (A := A) (d := d) (b := b) (n := n) (h := h) (w := 1) hl h0
  have q : ¬ nI t + 20 ≤ 2000 := by rw [nI20, nI_add, nI2000]; exact nI_ge (by omega) (by omega)
  have w0 := h0.1
  have z : ¬ (1 : Int32) = 0 := by decide
  rw [if_neg z] at a0
  simp [je242, r242_0, r242_1, r242_2, r242_5, r242_7, r242_8, r242_11, r242_14, r242_15, r242_18, r242_19, r242_22, r242_25, r242_26, r242_27, r242_28, r242_29, r242_32, r242_33, r242_34, r242_37, r242_38, r242_39, r242_42, r242_43, r242_45, r242_48, r242_49, r242_51, r242_54, r242_55, r242_58, ag_nx, ag_dn, ag_no, ag_if, jbr1, jbr2, jc1, jc2, jnul, jld, jsto, jstoL, jst1, jst2, jkill, jinc, jbI, jbL, jbS, juI, jl2i, jcmp, jisR, jisI, jisL, jgtx, jtln, jtch, jret, jretv, jdup, jpop, jobj, jmm, jcat, Value.category, jinv, jrcv, jthr, jhd, jnewa, jnewc, jput, jget, B_getL, B_getL0, B_set, B_set0, B_new, B_top, fl_upd, fl_fg, fg_set, Nat.add_assoc, jlen, jald, jast, jgI, jgL, jgB, jtnew, fits_i, fits_l, fits_r, fits_o, fits_z0, fits_z1, fits_n, fits_m, lg_set, List.length_set, updI, updL, jthr, jhd, w0, g1, q, a0, na176, ow176]
theorem na148 : jna 148 = 6 := by decide +kernel
theorem ow148 : jow 148 = 10 := by decide +kernel
theorem s292 {A : Nat → Nat} {d b n t : Nat} {h : Nat → Option jC} {l : List jC} {G : List Value} {T : Nat → Int32} {O : Nat → Int64} {x1 x2 x3 x4 x5 : Int32} (hl : 300 ≤ l.length) (ht : t ≤ 1980) (h0 : ob l 0 10 G) (g0 : fg G 0 = some (.ref (b + 1))) (g1 : fg G 1 = some (.int (nI t))) (f1 : lg l 1 = some (22, 2000, fun i => .int (T i))) (fo : lg l 299 = some (21, 1, fun i => .long (O i))) :
    ∃ l', jcall A jcode (d + 3) 292 [.ref b, .int x1, .int x2, .int x3, .int x4, .int x5, .ref (b + 299)] (jB h b l n) = some (.inl (some (.int 0)), jB h b l' n) ∧ ob l' 0 10 (G.set 1 (.int (nI (t + 20)))) ∧ lg l' 1 = some (22, 2000, fun i => .int (ap20 T t x1 x2 x3 x4 x5 i)) ∧ lg l' 299 = some (21, 1, fun i => .long (up O 0 (nI (t + 20)).toInt64 i)) ∧ same [0, 1, 299] l l' := by
  obtain ⟨l1, a1, b1, c1, d1⟩ := s148 (A := A) (d := d) (b := b) (n := n) (h := h) (x1 := x1) (x2 := x2) (x3 := x3) (x4 := x4) (x5 := x5) hl ht h0 g0 g1 f1
  have w0 := h0.1
  have w1 := b1.1
  have fo1 : lg l1 299 = some (21, 1, fun i => .long (O i)) := (d1.2 299 (by decide)).trans fo
  have e0 : 299 < l1.length := by rw [d1.1]; omega
  refine ⟨l1.set 299 (21, 1, fun i => .long (up O 0 (nI (t + 20)).toInt64 i)), ?_, ⟨by rw [lg_set, if_neg (by decide)]; exact b1.1, b1.2⟩, by rw [lg_set, if_neg (by decide)]; exact c1, by rw [lg_set, if_pos rfl, if_pos e0], ?_, ?_⟩
  · simp [je292, r292_0, r292_2, r292_3, r292_4, r292_5, r292_6, r292_7, r292_9, r292_11, r292_14, r292_15, r292_16, r292_19, r292_21, r292_22, r292_23, r292_24, ag_nx, ag_dn, ag_no, ag_if, jbr1, jbr2, jc1, jc2, jnul, jld, jsto, jstoL, jst1, jst2, jkill, jinc, jbI, jbL, jbS, juI, jl2i, jcmp, jisR, jisI, jisL, jgtx, jtln, jtch, jret, jretv, jdup, jpop, jobj, jmm, jcat, Value.category, jinv, jrcv, jthr, jhd, jnewa, jnewc, jput, jget, B_getL, B_getL0, B_set, B_set0, B_new, B_top, fl_upd, fl_fg, fg_set, Nat.add_assoc, jlen, jald, jast, jgI, jgL, jgB, jtnew, fits_i, fits_l, fits_r, fits_o, fits_z0, fits_z1, fits_n, fits_m, lg_set, List.length_set, updI, updL, jthr, jhd, w0, w1, fo1, a1, e0, up, na148, ow148]
  · rw [List.length_set]; exact d1.1
  · intro k hk
    simp only [List.mem_cons, List.not_mem_nil, or_false, not_or] at hk
    rw [lg_set, if_neg (Ne.symm hk.2.2)]
    exact d1.2 k (by simp [hk.1, hk.2.1])
theorem s292x {A : Nat → Nat} {d b n t : Nat} {h : Nat → Option jC} {l : List jC} {G : List Value} {x1 x2 x3 x4 x5 : Int32} (ht : 1980 < t) (ht2 : t ≤ 2000) (h0 : ob l 0 10 G) (g1 : fg G 1 = some (.int (nI t))) :
    jcall A jcode (d + 3) 292 [.ref b, .int x1, .int x2, .int x3, .int x4, .int x5, .ref (b + 299)] (jB h b l n) = some (.inl (some (.int 1)), jB h b (l ++ [(41, 0, fun _ => .null)]) (n + 6)) := by
  have a1 := s148x (A := A) (d := d) (b := b) (n := n) (h := h) (x1 := x1) (x2 := x2) (x3 := x3) (x4 := x4) (x5 := x5) ht ht2 h0 g1
  have w0 := h0.1
  simp [je292, r292_0, r292_2, r292_3, r292_4, r292_5, r292_6, r292_7, r292_9, r292_11, r292_14, r292_15, r292_16, r292_19, r292_21, r292_22, r292_23, r292_24, ag_nx, ag_dn, ag_no, ag_if, jbr1, jbr2, jc1, jc2, jnul, jld, jsto, jstoL, jst1, jst2, jkill, jinc, jbI, jbL, jbS, juI, jl2i, jcmp, jisR, jisI, jisL, jgtx, jtln, jtch, jret, jretv, jdup, jpop, jobj, jmm, jcat, Value.category, jinv, jrcv, jthr, jhd, jnewa, jnewc, jput, jget, B_getL, B_getL0, B_set, B_set0, B_new, B_top, fl_upd, fl_fg, fg_set, Nat.add_assoc, jlen, jald, jast, jgI, jgL, jgB, jtnew, fits_i, fits_l, fits_r, fits_o, fits_z0, fits_z1, fits_n, fits_m, lg_set, List.length_set, updI, updL, jthr, jhd, w0, a1, na148, ow148, ph292_19]
