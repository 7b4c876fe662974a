/-! spelling a name: both sides -/
theorem s32 {A : Nat → Nat} {d b n u hx tx m cap k : Nat} {h : Nat → Option jC} {l : List jC} {Nm : List Value} {H : Nat → Int64} {T O : Nat → Int32} (hu : u ≠ 2) (hhx : hx ≠ 2) (htx : tx ≠ 2) (n0 : fg Nm 0 = some (.ref (b + hx))) (n1 : fg Nm 1 = some (.ref (b + tx))) (n2 : fg Nm 2 = some (.int (nI m))) (hk : k < m) (hm : m ≤ cap) (hcap : cap < 2 ^ 20) (hl : 300 ≤ l.length) (h0 : ob l u 3 Nm) (fh : lg l hx = some (21, cap, fun i => .long (H i))) (ft : lg l tx = some (20, cap, fun i => .int (T i))) (fo : lg l 2 = some (22, 12, fun i => .int (O i))) :
    jcall A jcode (d + 1) 32 [.ref (b + u), .int (nI k), .ref (b + 2)] (jB h b l n) = some (.inl (some (.int (nI (spZ (bN (H k) (T k)) 12 0 0)))), jB h b (l.set 2 (22, 12, fun j => .int (spO (bN (H k) (T k)) 12 0 O j))) n) := by
  have e := l32 (A := A) (d := d) (n := n) (h := h) (H := H) (T := T) hu hhx htx n0 n1 hk hm hcap 12 0 0 l O none none (by omega) (by omega) hl h0 fh ft fo
  have w0 : lg l u = some (3, 3, jfl9 (jdf 3) Nm) := h0.1
  have q0 : ¬ nI k < 0 := nI_pos (by omega)
  have q1 : nI k < nI m := nI_lt hk (by omega)
  have i0 : nI 0 = 0 := by decide
  rw [i0] at e
  simp [je32, r32_0, r32_1, r32_4, r32_5, r32_6, r32_9, r32_14, r32_15, r32_16, r32_17, ag_nx, ag_dn, ag_no, ag_if, jbr1, jbr2, jc1, jc2, jnul, jld, jsto, jstoL, jst1, jst2, jkill, jinc, jbI, jbL, jbS, juI, jl2i, jcmp, jisR, jisI, jisL, jgtx, jtln, jtch, jret, jretv, jdup, jpop, jobj, jmm, jcat, Value.category, jinv, jrcv, jthr, jhd, jnewa, jnewc, jput, jget, B_getL, B_getL0, B_set, B_set0, B_new, B_top, fl_upd, fl_fg, fg_set, Nat.add_assoc, jlen, jald, jast, jgI, jgL, jgB, jtnew, fits_i, fits_l, fits_r, fits_o, fits_z0, fits_z1, fits_n, fits_m, lg_set, List.length_set, updI, updL, jthr, jhd, jtab, LL, jtnew, w0, n2, q0, q1, e]
/-- no name: nothing is spelled -/
theorem s32n {A : Nat → Nat} {d b n u : Nat} {h : Nat → Option jC} {l : List jC} : jcall A jcode (d + 1) 32 [.ref (b + u), .int (-1), .ref (b + 2)] (jB h b l n) = some (.inl (some (.int 0)), jB h b l n) := by
  have q0 : (-1 : Int32) < 0 := by decide
  simp [je32, r32_0, r32_1, r32_12, r32_13, ag_nx, ag_dn, ag_no, ag_if, jbr1, jbr2, jc1, jc2, jnul, jld, jsto, jstoL, jst1, jst2, jkill, jinc, jbI, jbL, jbS, juI, jl2i, jcmp, jisR, jisI, jisL, jgtx, jtln, jtch, jret, jretv, jdup, jpop, jobj, jmm, jcat, Value.category, jinv, jrcv, jthr, jhd, jnewa, jnewc, jput, jget, B_getL, B_getL0, B_set, B_set0, B_new, B_top, fl_upd, fl_fg, fg_set, Nat.add_assoc, jlen, jald, jast, jgI, jgL, jgB, jtnew, fits_i, fits_l, fits_r, fits_o, fits_z0, fits_z1, fits_n, fits_m, lg_set, List.length_set, updI, updL, jthr, jhd, jtab, LL, jtnew, q0]
/-- the reference's toOut: from k on -/
theorem l259 {A : Nat → Nat} {d b n v z a ca cb : Nat} {h : Nat → Option jC} {F : List Value} {N B : Nat → Int32} (m3 : fg F 3 = some (.ref (b + ca))) (m4 : fg F 4 = some (.ref (b + cb))) (m12 : fg F 12 = some (.ref (b + 250))) (m19 : fg F 19 = some (.int (nI z))) (hz : z ≤ 12) (hca : ca ≠ 250) (hcb : cb ≠ 250) {capB capN : Nat} (hv : v < capN) (hN : N v = nI a) (ha : a + z ≤ capB) (hB : capB < 2 ^ 24) (hcN : capN < 2 ^ 24) : ∀ (r k : Nat) (l : List jC) (O : Nat → Int32), k + r = z → 300 ≤ l.length → ob l 241 12 F → lg l ca = some (22, capB, fun i => .int (B i)) → lg l cb = some (20, capN, fun i => .int (N i)) → lg l 250 = some (22, 16, fun i => .int (O i)) → (∀ j, j < z → (B (a + j)).toInt8.toInt32 = B (a + j)) →
    ∃ O' : Nat → Int32, M259 A d 20 [some (.ref (b + 241)), some (.int (nI v)), some (.int (nI k))] [] (jB h b l n) = some (.inl (some (.int (nI z))), jB h b (l.set 250 (22, 16, fun j => .int (O' j))) n) ∧ (∀ j, j < k → O' j = O j) ∧ ∀ j, k ≤ j → j < z → O' j = B (a + j) := by
  intro r
  induction r with
  | zero =>
    intro k l O hk hl h0 fB fN fO hb
    have w0 : lg l 241 = some (12, 101, jfl9 (jdf 12) F) := h0.1
    have h1 : nI z ≤ nI k := nI_le (by omega) (by omega)
    have e0 : l.set 250 (22, 16, fun j => Value.int (O j)) = l := by
      apply List.ext_getElem?
      intro q
      have f3 : l[250]? = some (22, 16, fun j => Value.int (O j)) := fO
      rw [List.getElem?_set]
      split
      · next e => subst e; rw [if_pos (by omega), f3]
      · rfl
    refine ⟨O, ?_, fun j _ => rfl, fun j hj1 hj2 => by omega⟩
    rw [r259_20]
    simp [r259_21, r259_22, r259_25, r259_28, r259_29, r259_32, r259_33, r259_34, r259_37, r259_38, r259_41, r259_42, r259_43, r259_44, r259_45, r259_46, r259_47, r259_50, r259_53, r259_54, r259_57, ag_nx, ag_dn, ag_no, ag_if, jbr1, jbr2, jc1, jc2, jnul, jld, jsto, jstoL, jst1, jst2, jkill, jinc, jbI, jbL, jbS, juI, jl2i, jcmp, jisR, jisI, jisL, jgtx, jtln, jtch, jret, jretv, jdup, jpop, jobj, jmm, jcat, Value.category, jinv, jrcv, jthr, jhd, jnewa, jnewc, jput, jget, B_getL, B_getL0, B_set, B_set0, B_new, B_top, fl_upd, fl_fg, fg_set, Nat.add_assoc, jlen, jald, jast, jgI, jgL, jgB, jtnew, fits_i, fits_l, fits_r, fits_o, fits_z0, fits_z1, fits_n, fits_m, lg_set, List.length_set, updI, updL, jthr, jhd, jtab, LL, jtnew, w0, m19, h1, e0]
  | succ r ih =>
    intro k l O hk hl h0 fB fN fO hb
    have w0 : lg l 241 = some (12, 101, jfl9 (jdf 12) F) := h0.1
    have h1 : ¬ nI z ≤ nI k := nI_ge (by omega) (by omega)
    have k3 : (nI k).toNatClampNeg = k := nI_clamp (by omega)
    have k4 : 0 ≤ nI k := nI_pos' (by omega)
    have k5 : k < 16 := by omega
    have v3 : (nI v).toNatClampNeg = v := nI_clamp (by omega)
    have v4 : 0 ≤ nI v := nI_pos' (by omega)
    have ea : nI a + nI k = nI (a + k) := nI_add a k
    have a3 : (nI (a + k)).toNatClampNeg = a + k := nI_clamp (by omega)
    have a4 : 0 ≤ nI (a + k) := nI_pos' (by omega)
    have a5 : a + k < capB := by omega
    have hbk := hb k (by omega)
    have u2 : 250 < l.length := by omega
    obtain ⟨O', e1, e2, e3⟩ := ih (k + 1) (l.set 250 (22, 16, fun j => .int (up O k (B (a + k)) j))) (up O k (B (a + k))) (by omega) (by rw [List.length_set]; exact hl) ⟨by rw [lg_set, if_neg (by decide)]; exact h0.1, h0.2⟩ (by rw [lg_set, if_neg (Ne.symm hca)]; exact fB) (by rw [lg_set, if_neg (Ne.symm hcb)]; exact fN) (by rw [lg_set, if_pos rfl, if_pos u2]) hb
    simp only [List.set_set, up] at e1
    refine ⟨O', ?_, fun j hj => ?_, fun j hj1 hj2 => ?_⟩
    · rw [r259_20]
      simp [r259_21, r259_22, r259_25, r259_28, r259_29, r259_32, r259_33, r259_34, r259_37, r259_38, r259_41, r259_42, r259_43, r259_44, r259_45, r259_46, r259_47, r259_50, r259_53, r259_54, r259_57, ag_nx, ag_dn, ag_no, ag_if, jbr1, jbr2, jc1, jc2, jnul, jld, jsto, jstoL, jst1, jst2, jkill, jinc, jbI, jbL, jbS, juI, jl2i, jcmp, jisR, jisI, jisL, jgtx, jtln, jtch, jret, jretv, jdup, jpop, jobj, jmm, jcat, Value.category, jinv, jrcv, jthr, jhd, jnewa, jnewc, jput, jget, B_getL, B_getL0, B_set, B_set0, B_new, B_top, fl_upd, fl_fg, fg_set, Nat.add_assoc, jlen, jald, jast, jgI, jgL, jgB, jtnew, fits_i, fits_l, fits_r, fits_o, fits_z0, fits_z1, fits_n, fits_m, lg_set, List.length_set, updI, updL, jthr, jhd, jtab, LL, jtnew, w0, m3, m4, m12, m19, fB, fN, fO, h1, k3, k4, k5, v3, v4, hv, hN, ea, a3, a4, a5, hbk, u2, nI_1, e1]
    · rw [e2 j (by omega)]
      unfold up
      rw [if_neg (by omega)]
    · by_cases hjk : j = k
      · subst hjk
        rw [e2 j (by omega)]
        unfold up
        rw [if_pos rfl]
      · exact e3 j (by omega) hj2
