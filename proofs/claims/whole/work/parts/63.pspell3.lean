/-! spell and toOut, whole -/
theorem spO_at {f : Nat → Int32} : ∀ (r i : Nat) (O : Nat → Int32) (j : Nat), spO f r i O j = if i ≤ j ∧ j < i + r then f j else O j := by
  intro r
  induction r with
  | zero =>
    intro i O j
    rw [if_neg (by omega)]
    rfl
  | succ r ih =>
    intro i O j
    unfold spO
    rw [ih]
    by_cases h1 : i + 1 ≤ j ∧ j < i + 1 + r
    · rw [if_pos h1, if_pos (by omega)]
    · rw [if_neg h1]
      unfold up
      by_cases h2 : j = i
      · subst h2
        rw [if_pos rfl, if_pos (by omega)]
      · rw [if_neg h2, if_neg (by omega)]
theorem spZ_le {f : Nat → Int32} : ∀ (r i z : Nat), z ≤ i → spZ f r i z ≤ i + r := by
  intro r
  induction r with
  | zero => intro i z h; exact h
  | succ r ih =>
    intro i z h
    unfold spZ
    have h1 := ih (i + 1) (if f i = 0 then z else i + 1) (by split <;> omega)
    omega
theorem na32 : jna 32 = 3 := by decide +kernel
theorem ow32 : jow 32 = 3 := by decide +kernel
theorem s170 {A : Nat → Nat} {d b n pl u hx tx m cap k : Nat} {h : Nat → Option jC} {l : List jC} {G Pl Nm : List Value} {H : Nat → Int64} {T O : Nat → Int32} (hu : u ≠ 2) (hhx : hx ≠ 2) (htx : tx ≠ 2) (hp0 : ob l 0 10 G) (g2 : fg G 2 = some (.ref (b + 2))) (g8 : fg G 8 = some (.ref (b + pl))) (hpl : ob l pl 5 Pl) (p0 : fg Pl 0 = some (.ref (b + u))) (n0 : fg Nm 0 = some (.ref (b + hx))) (n1 : fg Nm 1 = some (.ref (b + tx))) (n2 : fg Nm 2 = some (.int (nI m))) (hk : k < m) (hm : m ≤ cap) (hcap : cap < 2 ^ 20) (hl : 300 ≤ l.length) (h0 : ob l u 3 Nm) (fh : lg l hx = some (21, cap, fun i => .long (H i))) (ft : lg l tx = some (20, cap, fun i => .int (T i))) (fo : lg l 2 = some (22, 12, fun i => .int (O i))) :
    jcall A jcode (d + 2) 170 [.ref b, .int (nI k)] (jB h b l n) = some (.inl (some (.int (nI (spZ (bN (H k) (T k)) 12 0 0)))), jB h b ((l.set 2 (22, 12, fun j => .int (spO (bN (H k) (T k)) 12 0 O j))).set 0 (10, 14, jfl9 (jdf 10) (G.set 3 (.int (nI (spZ (bN (H k) (T k)) 12 0 0)))))) n) := by
  have e := s32 (A := A) (d := d) (n := n) (h := h) hu hhx htx n0 n1 n2 hk hm hcap hl h0 fh ft fo
  have hG : G.length = 14 := hp0.2
  have w0 : lg l 0 = some (10, 14, jfl9 (jdf 10) G) := hp0.1
  have w1 : lg l pl = some (5, 18, jfl9 (jdf 5) Pl) := hpl.1
  have w2 : lg l u = some (3, 3, jfl9 (jdf 3) Nm) := h0.1
  have u0 : 0 < l.length := by omega
  simp [je170, r170_0, r170_1, r170_2, r170_5, r170_8, r170_9, r170_10, r170_13, r170_16, r170_19, r170_20, r170_23, ag_nx, ag_dn, ag_no, ag_if, jbr1, jbr2, jc1, jc2, jnul, jld, jsto, jstoL, jst1, jst2, jkill, jinc, jbI, jbL, jbS, juI, jl2i, jcmp, jisR, jisI, jisL, jgtx, jtln, jtch, jret, jretv, jdup, jpop, jobj, jmm, jcat, Value.category, jinv, jrcv, jthr, jhd, jnewa, jnewc, jput, jget, B_getL, B_getL0, B_set, B_set0, B_new, B_top, fl_upd, fl_fg, fg_set, Nat.add_assoc, jlen, jald, jast, jgI, jgL, jgB, jtnew, fits_i, fits_l, fits_r, fits_o, fits_z0, fits_z1, fits_n, fits_m, lg_set, List.length_set, updI, updL, jthr, jhd, jtab, LL, jtnew, ty10_3, w0, w1, w2, g2, g8, p0, e, hG, u0, na32, ow32]
theorem s170n {A : Nat → Nat} {d b n pl u : Nat} {h : Nat → Option jC} {l : List jC} {G Pl Nm : List Value} (hp0 : ob l 0 10 G) (g2 : fg G 2 = some (.ref (b + 2))) (g8 : fg G 8 = some (.ref (b + pl))) (hpl : ob l pl 5 Pl) (p0 : fg Pl 0 = some (.ref (b + u))) (hl : 300 ≤ l.length) (h0 : ob l u 3 Nm) :
    jcall A jcode (d + 2) 170 [.ref b, .int (-1)] (jB h b l n) = some (.inl (some (.int 0)), jB h b (l.set 0 (10, 14, jfl9 (jdf 10) (G.set 3 (.int 0)))) n) := by
  have e := s32n (A := A) (d := d) (b := b) (n := n) (u := u) (h := h) (l := l)
  have hG : G.length = 14 := hp0.2
  have w0 : lg l 0 = some (10, 14, jfl9 (jdf 10) G) := hp0.1
  have w1 : lg l pl = some (5, 18, jfl9 (jdf 5) Pl) := hpl.1
  have w2 : lg l u = some (3, 3, jfl9 (jdf 3) Nm) := h0.1
  have u0 : 0 < l.length := by omega
  simp [je170, r170_0, r170_1, r170_2, r170_5, r170_8, r170_9, r170_10, r170_13, r170_16, r170_19, r170_20, r170_23, ag_nx, ag_dn, ag_no, ag_if, jbr1, jbr2, jc1, jc2, jnul, jld, jsto, jstoL, jst1, jst2, jkill, jinc, jbI, jbL, jbS, juI, jl2i, jcmp, jisR, jisI, jisL, jgtx, jtln, jtch, jret, jretv, jdup, jpop, jobj, jmm, jcat, Value.category, jinv, jrcv, jthr, jhd, jnewa, jnewc, jput, jget, B_getL, B_getL0, B_set, B_set0, B_new, B_top, fl_upd, fl_fg, fg_set, Nat.add_assoc, jlen, jald, jast, jgI, jgL, jgB, jtnew, fits_i, fits_l, fits_r, fits_o, fits_z0, fits_z1, fits_n, fits_m, lg_set, List.length_set, updI, updL, jthr, jhd, jtab, LL, jtnew, ty10_3, w0, w1, w2, g2, g8, p0, e, hG, u0, na32, ow32]
theorem s259 {A : Nat → Nat} {d b n v z a ca cb cs capB capN : Nat} {h : Nat → Option jC} {l : List jC} {F : List Value} {N Z B O : Nat → Int32} (m3 : fg F 3 = some (.ref (b + ca))) (m4 : fg F 4 = some (.ref (b + cb))) (m5 : fg F 5 = some (.ref (b + cs))) (m12 : fg F 12 = some (.ref (b + 250))) (hz : z ≤ 12) (hca : ca ≠ 250) (hcb : cb ≠ 250) (hca2 : ca ≠ 241) (hcb2 : cb ≠ 241) (hv : v < capN) (hN : N v = nI a) (hZ : Z v = nI z) (ha : a + z ≤ capB) (hB : capB < 2 ^ 24) (hcN : capN < 2 ^ 24) (hl : 300 ≤ l.length) (h0 : ob l 241 12 F) (fB : lg l ca = some (22, capB, fun i => .int (B i))) (fN : lg l cb = some (20, capN, fun i => .int (N i))) (fZ : lg l cs = some (20, capN, fun i => .int (Z i))) (fO : lg l 250 = some (22, 16, fun i => .int (O i))) (hb : ∀ j, j < z → (B (a + j)).toInt8.toInt32 = B (a + j)) :
    ∃ O' : Nat → Int32, jcall A jcode (d + 1) 259 [.ref (b + 241), .int (nI v)] (jB h b l n) = some (.inl (some (.int (nI z))), jB h b ((l.set 241 (12, 101, jfl9 (jdf 12) (F.set 19 (.int (nI z))))).set 250 (22, 16, fun j => .int (O' j))) n) ∧ ∀ j, j < z → O' j = B (a + j) := by
  have hF : F.length = 101 := h0.2
  have w0 : lg l 241 = some (12, 101, jfl9 (jdf 12) F) := h0.1
  have u1 : 241 < l.length := by omega
  obtain ⟨O', e1, -, e3⟩ := l259 (A := A) (d := d) (b := b) (n := n) (v := v) (z := z) (a := a) (ca := ca) (cb := cb) (h := h) (F := F.set 19 (.int (nI z))) (N := N) (B := B) (by simp [fg_set, m3]) (by simp [fg_set, m4]) (by simp [fg_set, m12]) (by simp [fg_set, hF]) hz hca hcb hv hN ha hB hcN z 0 (l.set 241 (12, 101, jfl9 (jdf 12) (F.set 19 (.int (nI z))))) O (by omega) (by rw [List.length_set]; exact hl) (ob_set u1 (by simp [hF]; rfl)) (by rw [lg_set, if_neg (Ne.symm hca2)]; exact fB) (by rw [lg_set, if_neg (Ne.symm hcb2)]; exact fN) (by rw [lg_set, if_neg (by decide)]; exact fO) hb
  have v3 : (nI v).toNatClampNeg = v := nI_clamp (by omega)
  have v4 : 0 ≤ nI v := nI_pos' (by omega)
  have i0 : nI 0 = 0 := by decide
  rw [i0] at e1
  refine ⟨O', ?_, fun j hj => e3 j (by omega) hj⟩
  simp [je259, r259_0, r259_1, r259_2, r259_9, r259_10, r259_13, r259_14, r259_15, r259_18, r259_19, ag_nx, ag_dn, ag_no, ag_if, jbr1, jbr2, jc1, jc2, jnul, jld, jsto, jstoL, jst1, jst2, jkill, jinc, jbI, jbL, jbS, juI, jl2i, jcmp, jisR, jisI, jisL, jgtx, jtln, jtch, jret, jretv, jdup, jpop, jobj, jmm, jcat, Value.category, jinv, jrcv, jthr, jhd, jnewa, jnewc, jput, jget, B_getL, B_getL0, B_set, B_set0, B_new, B_top, fl_upd, fl_fg, fg_set, Nat.add_assoc, jlen, jald, jast, jgI, jgL, jgB, jtnew, fits_i, fits_l, fits_r, fits_o, fits_z0, fits_z1, fits_n, fits_m, lg_set, List.length_set, updI, updL, jthr, jhd, jtab, LL, jtnew, ty12_19, w0, m5, fZ, v3, v4, hv, hZ, hF, u1, e1]
