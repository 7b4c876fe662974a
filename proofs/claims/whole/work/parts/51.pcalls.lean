/-! the calls of the law, one by one, in any state -/
/-- all else is kept -/
def kp (ks : List Nat) (l l' : List jC) : Prop := l.length ≤ l'.length ∧ ∀ k, k < l.length → k ∉ ks → lg l' k = lg l k
theorem fg_same {F : List Value} {k : Nat} {v : Value} (h : fg F k = some v) : F.set k v = F := by
  unfold fg at h
  apply List.ext_getElem?
  intro i
  rw [List.getElem?_set]
  split
  · next e =>
    subst e
    rw [if_pos (List.getElem?_eq_some_iff.mp h).1, h]
  · rfl
theorem na292 : jna 292 = 7 := by decide +kernel
theorem na242 : jna 242 = 6 := by decide +kernel
theorem ow242 : jow 242 = 12 := by decide +kernel
theorem na175 : jna 175 = 1 := by decide +kernel
theorem ow175 : jow 175 = 12 := by decide +kernel
theorem s175 {A : Nat → Nat} {d b n : Nat} {h : Nat → Option jC} {l : List jC} {F : List Value} {w : Int32} (h0 : ob l 241 12 F) (hw : fg F 0 = some (.int w)) : jcall A jcode (d + 1) 175 [.ref (b + 241)] (jB h b l n) = some (.inl (some (.int w)), jB h b l n) := by
  have w0 := h0.1
  simp [je175, r175_0, r175_1, r175_4, ag_nx, ag_dn, ag_no, ag_if, jbr1, jbr2, jc1, jc2, jnul, jld, jsto, jstoL, jst1, jst2, jkill, jinc, jbI, jbL, jbS, juI, jl2i, jcmp, jisR, jisI, jisL, jgtx, jtln, jtch, jret, jretv, jdup, jpop, jobj, jmm, jcat, Value.category, jinv, jrcv, jthr, jhd, jnewa, jnewc, jput, jget, B_getL, B_getL0, B_set, B_set0, B_new, B_top, fl_upd, fl_fg, fg_set, Nat.add_assoc, jlen, jald, jast, jgI, jgL, jgB, jtnew, fits_i, fits_l, fits_r, fits_o, fits_z0, fits_z1, fits_n, fits_m, lg_set, List.length_set, updI, updL, jthr, jhd, jtab, LL, w0, hw]
set_option maxRecDepth 100000 in
theorem st0 {A : Nat → Nat} {d b n s0 L i t : Nat} {h : Nat → Option jC} {l : List jC} {xs : Nat → Int32} {x5 x6 x7 : Option Value} {G F : List Value} {T : Nat → Int32} {O : Nat → Int64} (hs0 : s0 < b) (hs : h s0 = some (25, L, fun j => .int (xs j))) (hL : L ≤ 3072) (hi : i + 6 ≤ L) (hl : 300 ≤ l.length) (ht : t ≤ 2000)
    (h0 : ob l 0 10 G) (g0 : fg G 0 = some (.ref (b + 1))) (g1 : fg G 1 = some (.int (nI t))) (f1 : lg l 1 = some (22, 2000, fun i => .int (T i)))
    (h2 : ob l 241 12 F) (m0 : fg F 10 = some (.ref (b + 248))) (m1 : fg F 13 = some (.int (nI t))) (f2 : lg l 248 = some (22, 2000, fun i => .int (T i))) (fo : lg l 299 = some (21, 1, fun i => .long (O i))) :
    ∃ l' n' y5 y6, ML A (d + 60) 136 (LL s0 b i x5 x6 x7) [] (jB h b l n) = ML A (d + 60) 1284 (LL s0 b i y5 y6 x7) [] (jB h b l' n') ∧ n' ≤ n + 6 ∧ l'.length ≤ l.length + 1 ∧ kp [0, 1, 241, 248, 299] l l' ∧
      ∃ (t' : Nat) (T' : Nat → Int32) (O' : Nat → Int64) (v : Int32), t' ≤ 2000 ∧ ob l' 0 10 (G.set 1 (.int (nI t'))) ∧ lg l' 1 = some (22, 2000, fun i => .int (T' i)) ∧ ob l' 241 12 ((F.set 0 (.int v)).set 13 (.int (nI t'))) ∧ lg l' 248 = some (22, 2000, fun i => .int (T' i)) ∧ lg l' 299 = some (21, 1, fun i => .long (O' i)) := by
  have i1 : nI i + 1 = nI (i + 1) := nI_add i 1
  have i2 : nI i + 2 = nI (i + 2) := nI_add i 2
  have i3 : nI i + 3 = nI (i + 3) := nI_add i 3
  have i4 : nI i + 4 = nI (i + 4) := nI_add i 4
  have i5 : nI i + 5 = nI (i + 5) := nI_add i 5
  have j1 : (nI (i + 1)).toNatClampNeg = i + 1 := nI_clamp (by omega)
  have j2 : (nI (i + 2)).toNatClampNeg = i + 2 := nI_clamp (by omega)
  have j3 : (nI (i + 3)).toNatClampNeg = i + 3 := nI_clamp (by omega)
  have j4 : (nI (i + 4)).toNatClampNeg = i + 4 := nI_clamp (by omega)
  have j5 : (nI (i + 5)).toNatClampNeg = i + 5 := nI_clamp (by omega)
  have p1 : 0 ≤ nI (i + 1) := nI_pos' (by omega)
  have p2 : 0 ≤ nI (i + 2) := nI_pos' (by omega)
  have p3 : 0 ≤ nI (i + 3) := nI_pos' (by omega)
  have p4 : 0 ≤ nI (i + 4) := nI_pos' (by omega)
  have p5 : 0 ≤ nI (i + 5) := nI_pos' (by omega)
  have z1 : i + 1 < L := by omega
  have z2 : i + 2 < L := by omega
  have z3 : i + 3 < L := by omega
  have z4 : i + 4 < L := by omega
  have z5 : i + 5 < L := by omega
  by_cases hc : t ≤ 1980
  · obtain ⟨l1, a1, b1, c1, o1, d1⟩ := s292 (A := A) (d := d + 57) (b := b) (n := n) (h := h) (x1 := xs (i + 1)) (x2 := xs (i + 2)) (x3 := xs (i + 3)) (x4 := xs (i + 4)) (x5 := xs (i + 5)) hl hc h0 g0 g1 f1 fo
    have h3 : ob l1 241 12 F := ⟨(d1.2 241 (by decide)).trans h2.1, h2.2⟩
    obtain ⟨l2, a2, b2, c2, d2⟩ := s242 (A := A) (d := d + 58) (b := b) (n := n) (h := h) (T := T) (x1 := xs (i + 1)) (x2 := xs (i + 2)) (x3 := xs (i + 3)) (x4 := xs (i + 4)) (x5 := xs (i + 5)) (by rw [d1.1]; exact hl) hc h3 m0 m1 ((d1.2 248 (by decide)).trans f2)
    have hF : F.length = 101 := h2.2
    have a3 := s175 (A := A) (d := d + 59) (b := b) (n := n) (h := h) (w := 0) b2 (by simp [fg_set, hF])
    have o2 : lg l2 299 = some (21, 1, fun i => .long (up O 0 (nI (t + 20)).toInt64 i)) := (d2.2 299 (by decide)).trans o1
    have w1 := h3.1
    have w2 := b2.1
    refine ⟨l2, n, some (.int 0), some (.int (nI (t + 20))), ?_, by omega, by rw [d2.1, d1.1]; omega, ⟨by rw [d2.1, d1.1]; omega, fun k hk hk2 => ?_⟩, t + 20, ap20 T t (xs (i + 1)) (xs (i + 2)) (xs (i + 3)) (xs (i + 4)) (xs (i + 5)), up O 0 (nI (t + 20)).toInt64, 0, by omega, ⟨(d2.2 0 (by decide)).trans b1.1, b1.2⟩, (d2.2 1 (by decide)).trans c1, b2, c2, o2⟩
    · simp [rL_136, rL_137, rL_138, rL_140, rL_141, rL_142, rL_143, rL_144, rL_146, rL_147, rL_148, rL_149, rL_150, rL_152, rL_153, rL_154, rL_155, rL_156, rL_158, rL_159, rL_160, rL_161, rL_162, rL_164, rL_165, rL_166, rL_167, rL_168, rL_171, rL_173, rL_174, rL_175, rL_177, rL_178, rL_179, rL_180, rL_181, rL_183, rL_184, rL_185, rL_186, rL_187, rL_189, rL_190, rL_191, rL_192, rL_193, rL_195, rL_196, rL_197, rL_198, rL_199, rL_201, rL_202, rL_203, rL_204, rL_207, rL_209, rL_210, rL_213, rL_215, rL_218, rL_219, rL_220, rL_222, rL_225, rL_226, rL_227, rL_228, rL_230, rL_231, rL_232, rL_235, rL_236, rL_237, ag_nx, ag_dn, ag_no, ag_if, jbr1, jbr2, jc1, jc2, jnul, jld, jsto, jstoL, jst1, jst2, jkill, jinc, jbI, jbL, jbS, juI, jl2i, jcmp, jisR, jisI, jisL, jgtx, jtln, jtch, jret, jretv, jdup, jpop, jobj, jmm, jcat, Value.category, jinv, jrcv, jthr, jhd, jnewa, jnewc, jput, jget, B_getL, B_getL0, B_set, B_set0, B_new, B_top, fl_upd, fl_fg, fg_set, Nat.add_assoc, jlen, jald, jast, jgI, jgL, jgB, jtnew, fits_i, fits_l, fits_r, fits_o, fits_z0, fits_z1, fits_n, fits_m, lg_set, List.length_set, updI, updL, jthr, jhd, jtab, LL, B_low hs0, hs, i1, i2, i3, i4, i5, j1, j2, j3, j4, j5, p1, p2, p3, p4, p5, z1, z2, z3, z4, z5, a1, a2, a3, w1, w2, o2, na292, na242, ow242, na175, ow175, cmp_self, up]
    · simp only [List.mem_cons, List.not_mem_nil, or_false, not_or] at hk2
      exact (d2.2 k (by simp [hk2])).trans (d1.2 k (by simp [hk2]))
  · have a1 := s292x (A := A) (d := d + 57) (b := b) (n := n) (h := h) (x1 := xs (i + 1)) (x2 := xs (i + 2)) (x3 := xs (i + 3)) (x4 := xs (i + 4)) (x5 := xs (i + 5)) (by omega) ht h0 g1
    have h3 : ob (l ++ [(41, 0, fun _ => Value.null)]) 241 12 F := ⟨by rw [lg_app, if_pos (by omega)]; exact h2.1, h2.2⟩
    have a2 := s242x (A := A) (d := d + 58) (b := b) (n := n + 6) (h := h) (x1 := xs (i + 1)) (x2 := xs (i + 2)) (x3 := xs (i + 3)) (x4 := xs (i + 4)) (x5 := xs (i + 5)) (by simp; omega) (by omega) ht h3 m1
    have hF : F.length = 101 := h2.2
    have b2 : ob ((l ++ [(41, 0, fun _ => Value.null)]).set 241 (12, 101, jfl9 (jdf 12) (F.set 0 (.int 1)))) 241 12 (F.set 0 (.int 1)) := ob_set (by simp; omega) (by simp [hF]; rfl)
    have a3 := s175 (A := A) (d := d + 59) (b := b) (n := n + 6) (h := h) (w := 1) b2 (by simp [fg_set, hF])
    have w1 := h3.1
    have w2 := b2.1
    have e9 : (F.set 0 (Value.int 1)).set 13 (.int (nI t)) = F.set 0 (.int 1) := fg_same (by simp [fg_set, m1])
    have e8 : G.set 1 (.int (nI t)) = G := fg_same g1
    refine ⟨(l ++ [(41, 0, fun _ => Value.null)]).set 241 (12, 101, jfl9 (jdf 12) (F.set 0 (.int 1))), n + 6, some (.int 1), some (.int 0), ?_, by omega, ?_, ⟨?_, fun k hk hk2 => ?_⟩, t, T, O, 1, ht, ?_, ?_, ?_, ?_, ?_⟩
    · simp [rL_136, rL_137, rL_138, rL_140, rL_141, rL_142, rL_143, rL_144, rL_146, rL_147, rL_148, rL_149, rL_150, rL_152, rL_153, rL_154, rL_155, rL_156, rL_158, rL_159, rL_160, rL_161, rL_162, rL_164, rL_165, rL_166, rL_167, rL_168, rL_171, rL_173, rL_174, rL_175, rL_177, rL_178, rL_179, rL_180, rL_181, rL_183, rL_184, rL_185, rL_186, rL_187, rL_189, rL_190, rL_191, rL_192, rL_193, rL_195, rL_196, rL_197, rL_198, rL_199, rL_201, rL_202, rL_203, rL_204, rL_207, rL_209, rL_210, rL_213, rL_215, rL_218, rL_219, rL_220, rL_222, rL_225, rL_226, rL_227, rL_228, rL_230, rL_231, rL_232, rL_235, rL_236, rL_237, ag_nx, ag_dn, ag_no, ag_if, jbr1, jbr2, jc1, jc2, jnul, jld, jsto, jstoL, jst1, jst2, jkill, jinc, jbI, jbL, jbS, juI, jl2i, jcmp, jisR, jisI, jisL, jgtx, jtln, jtch, jret, jretv, jdup, jpop, jobj, jmm, jcat, Value.category, jinv, jrcv, jthr, jhd, jnewa, jnewc, jput, jget, B_getL, B_getL0, B_set, B_set0, B_new, B_top, fl_upd, fl_fg, fg_set, Nat.add_assoc, jlen, jald, jast, jgI, jgL, jgB, jtnew, fits_i, fits_l, fits_r, fits_o, fits_z0, fits_z1, fits_n, fits_m, lg_set, List.length_set, updI, updL, jthr, jhd, jtab, LL, B_low hs0, hs, i1, i2, i3, i4, i5, j1, j2, j3, j4, j5, p1, p2, p3, p4, p5, z1, z2, z3, z4, z5, a1, a2, a3, w1, w2, na292, na242, ow242, na175, ow175]
    · simp
    · simp
    · simp only [List.mem_cons, List.not_mem_nil, or_false, not_or] at hk2
      rw [lg_set, if_neg (Ne.symm hk2.2.2.1), lg_app, if_pos hk]
    · rw [e8]
      exact ⟨by rw [lg_set, if_neg (by decide), lg_app, if_pos (by omega)]; exact h0.1, h0.2⟩
    · rw [lg_set, if_neg (by decide), lg_app, if_pos (by omega)]; exact f1
    · rw [e9]; exact b2
    · rw [lg_set, if_neg (by decide), lg_app, if_pos (by omega)]; exact f2
    · rw [lg_set, if_neg (by decide), lg_app, if_pos (by omega)]; exact fo
