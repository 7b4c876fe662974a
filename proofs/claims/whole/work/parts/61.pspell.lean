/-! spelling a name (the class) -/
def bH (x : Int64) (i : Nat) : Int32 := ((x.toUInt64 >>> ((56 - 8 * nI i).toInt64.toUInt64 &&& Int64.toUInt64 63)).toInt64).toInt8.toInt32
def bT (x : Int32) (i : Nat) : Int32 := ((x.toUInt32 >>> ((Int32.toUInt32 88 - Int32.toUInt32 8 * (nI i).toUInt32) &&& Int32.toUInt32 31)).toInt32).toInt8.toInt32
def bN (x : Int64) (y : Int32) (i : Nat) : Int32 := if i < 8 then bH x i else bT y i
/-- size and bytes of what is spelled -/
def spZ (f : Nat → Int32) : Nat → Nat → Nat → Nat
  | 0, _, z => z
  | r + 1, i, z => spZ f r (i + 1) (if f i = 0 then z else i + 1)
def spO (f : Nat → Int32) : Nat → Nat → (Nat → Int32) → Nat → Int32
  | 0, _, O => O
  | r + 1, i, O => spO f r (i + 1) (up O i (f i))
theorem l32 {A : Nat → Nat} {d b n u hx tx m cap k : Nat} {h : Nat → Option jC} {Nm : List Value} {H : Nat → Int64} {T : Nat → Int32} (hu : u ≠ 2) (hhx : hx ≠ 2) (htx : tx ≠ 2) (n0 : fg Nm 0 = some (.ref (b + hx))) (n1 : fg Nm 1 = some (.ref (b + tx))) (hk : k < m) (hm : m ≤ cap) (hcap : cap < 2 ^ 20) : ∀ (r i z : Nat) (l : List jC) (O : Nat → Int32) (c5 c6 : Option Value), i + r = 12 → z ≤ 12 → 300 ≤ l.length → ob l u 3 Nm → lg l hx = some (21, cap, fun i => .long (H i)) → lg l tx = some (20, cap, fun i => .int (T i)) → lg l 2 = some (22, 12, fun i => .int (O i)) →
    M32 A d 19 [some (.ref (b + u)), some (.int (nI k)), some (.ref (b + 2)), some (.int (nI z)), some (.int (nI i)), c5, c6] [] (jB h b l n) = some (.inl (some (.int (nI (spZ (bN (H k) (T k)) r i z)))), jB h b (l.set 2 (22, 12, fun j => .int (spO (bN (H k) (T k)) r i O j))) n) := by
  intro r
  induction r with
  | zero =>
    intro i z l O c5 c6 hi hz hl h0 fh ft fo
    have h1 : (12 : Int32) ≤ nI i := by rw [show (12 : Int32) = nI 12 by decide]; exact nI_le (by omega) (by omega)
    have e0 : l.set 2 (22, 12, fun j => Value.int (O j)) = l := by
      apply List.ext_getElem?
      intro q
      have f3 : l[2]? = some (22, 12, fun j => Value.int (O j)) := fo
      rw [List.getElem?_set]
      split
      · next e => subst e; rw [if_pos (by omega), f3]
      · rfl
    rw [r32_19]
    simp [r32_0, r32_1, r32_4, r32_5, r32_6, r32_9, r32_12, r32_13, r32_14, r32_15, r32_16, r32_17, r32_21, r32_23, r32_26, r32_28, r32_29, r32_30, r32_33, r32_35, r32_37, r32_40, r32_41, r32_44, r32_45, r32_46, r32_48, r32_50, r32_52, r32_53, r32_54, r32_55, r32_58, r32_59, r32_62, r32_63, r32_64, r32_66, r32_68, r32_70, r32_71, r32_72, r32_73, r32_74, r32_76, r32_77, r32_79, r32_81, r32_82, r32_83, r32_84, r32_85, r32_87, r32_88, r32_91, r32_93, r32_94, r32_95, r32_96, r32_99, r32_102, r32_103, ag_nx, ag_dn, ag_no, ag_if, jbr1, jbr2, jc1, jc2, jnul, jld, jsto, jstoL, jst1, jst2, jkill, jinc, jbI, jbL, jbS, juI, jl2i, jcmp, jisR, jisI, jisL, jgtx, jtln, jtch, jret, jretv, jdup, jpop, jobj, jmm, jcat, Value.category, jinv, jrcv, jthr, jhd, jnewa, jnewc, jput, jget, B_getL, B_getL0, B_set, B_set0, B_new, B_top, fl_upd, fl_fg, fg_set, Nat.add_assoc, jlen, jald, jast, jgI, jgL, jgB, jtnew, fits_i, fits_l, fits_r, fits_o, fits_z0, fits_z1, fits_n, fits_m, lg_set, List.length_set, updI, updL, jthr, jhd, jtab, LL, jtnew, h1, spZ, spO, e0]
  | succ r ih =>
    intro i z l O c5 c6 hi hz hl h0 fh ft fo
    have w0 : lg l u = some (3, 3, jfl9 (jdf 3) Nm) := h0.1
    have h1 : ¬ (12 : Int32) ≤ nI i := by rw [show (12 : Int32) = nI 12 by decide]; exact nI_ge (by omega) (by omega)
    have h1b : ¬ nI 12 ≤ nI i := nI_ge (by omega) (by omega)
    have k3 : (nI k).toNatClampNeg = k := nI_clamp (by omega)
    have k4 : 0 ≤ nI k := nI_pos' (by omega)
    have k5 : k < cap := by omega
    have j3 : (nI i).toNatClampNeg = i := nI_clamp (by omega)
    have j4 : 0 ≤ nI i := nI_pos' (by omega)
    have j5 : i < 12 := by omega
    have u2 : 2 < l.length := by omega
    have e := fun z' c c' (hz' : z' ≤ 12) => ih (i + 1) z' (l.set 2 (22, 12, fun j => .int (up O i (bN (H k) (T k) i) j))) (up O i (bN (H k) (T k) i)) c c' (by omega) hz' (by rw [List.length_set]; exact hl) ⟨by rw [lg_set, if_neg (Ne.symm hu)]; exact h0.1, h0.2⟩ (by rw [lg_set, if_neg (Ne.symm hhx)]; exact fh) (by rw [lg_set, if_neg (Ne.symm htx)]; exact ft) (by rw [lg_set, if_pos rfl, if_pos u2])
    simp only [List.set_set] at e
    rw [r32_19]
    by_cases h8 : i < 8
    · have g8 : ¬ (8 : Int32) ≤ nI i := by rw [nI8]; exact nI_ge h8 (by omega)
      have eb : bN (H k) (T k) i = bH (H k) i := if_pos h8
      by_cases hb : bH (H k) i = 0
      · have e1 := fun c c' => e z c c' hz
        simp only [eb, hb] at e1
        simp only [bH, up] at e1 hb
        simp [r32_0, r32_1, r32_4, r32_5, r32_6, r32_9, r32_12, r32_13, r32_14, r32_15, r32_16, r32_17, r32_21, r32_23, r32_26, r32_28, r32_29, r32_30, r32_33, r32_35, r32_37, r32_40, r32_41, r32_44, r32_45, r32_46, r32_48, r32_50, r32_52, r32_53, r32_54, r32_55, r32_58, r32_59, r32_62, r32_63, r32_64, r32_66, r32_68, r32_70, r32_71, r32_72, r32_73, r32_74, r32_76, r32_77, r32_79, r32_81, r32_82, r32_83, r32_84, r32_85, r32_87, r32_88, r32_91, r32_93, r32_94, r32_95, r32_96, r32_99, r32_102, r32_103, ag_nx, ag_dn, ag_no, ag_if, jbr1, jbr2, jc1, jc2, jnul, jld, jsto, jstoL, jst1, jst2, jkill, jinc, jbI, jbL, jbS, juI, jl2i, jcmp, jisR, jisI, jisL, jgtx, jtln, jtch, jret, jretv, jdup, jpop, jobj, jmm, jcat, Value.category, jinv, jrcv, jthr, jhd, jnewa, jnewc, jput, jget, B_getL, B_getL0, B_set, B_set0, B_new, B_top, fl_upd, fl_fg, fg_set, Nat.add_assoc, jlen, jald, jast, jgI, jgL, jgB, jtnew, fits_i, fits_l, fits_r, fits_o, fits_z0, fits_z1, fits_n, fits_m, lg_set, List.length_set, updI, updL, jthr, jhd, jtab, LL, jtnew, w0, n0, n1, fh, ft, fo, h1, h1b, k3, k4, k5, j3, j4, j5, u2, g8, by_by, nI_1, e1, hb, hz, spZ, spO, eb, bH, up, Ne.symm hu, Ne.symm hhx, Ne.symm htx]
      · have e1 := fun c c' => e (i + 1) c c' (by omega)
        simp only [eb] at e1
        simp only [bH, up] at e1 hb
        simp [r32_0, r32_1, r32_4, r32_5, r32_6, r32_9, r32_12, r32_13, r32_14, r32_15, r32_16, r32_17, r32_21, r32_23, r32_26, r32_28, r32_29, r32_30, r32_33, r32_35, r32_37, r32_40, r32_41, r32_44, r32_45, r32_46, r32_48, r32_50, r32_52, r32_53, r32_54, r32_55, r32_58, r32_59, r32_62, r32_63, r32_64, r32_66, r32_68, r32_70, r32_71, r32_72, r32_73, r32_74, r32_76, r32_77, r32_79, r32_81, r32_82, r32_83, r32_84, r32_85, r32_87, r32_88, r32_91, r32_93, r32_94, r32_95, r32_96, r32_99, r32_102, r32_103, ag_nx, ag_dn, ag_no, ag_if, jbr1, jbr2, jc1, jc2, jnul, jld, jsto, jstoL, jst1, jst2, jkill, jinc, jbI, jbL, jbS, juI, jl2i, jcmp, jisR, jisI, jisL, jgtx, jtln, jtch, jret, jretv, jdup, jpop, jobj, jmm, jcat, Value.category, jinv, jrcv, jthr, jhd, jnewa, jnewc, jput, jget, B_getL, B_getL0, B_set, B_set0, B_new, B_top, fl_upd, fl_fg, fg_set, Nat.add_assoc, jlen, jald, jast, jgI, jgL, jgB, jtnew, fits_i, fits_l, fits_r, fits_o, fits_z0, fits_z1, fits_n, fits_m, lg_set, List.length_set, updI, updL, jthr, jhd, jtab, LL, jtnew, w0, n0, n1, fh, ft, fo, h1, h1b, k3, k4, k5, j3, j4, j5, u2, g8, by_by, nI_1, e1, hb, hz, spZ, spO, eb, bH, up, Ne.symm hu, Ne.symm hhx, Ne.symm htx]
    · have g8 : (8 : Int32) ≤ nI i := by rw [nI8]; exact nI_le (by omega) (by omega)
      have eb : bN (H k) (T k) i = bT (T k) i := if_neg h8
      by_cases hb : bT (T k) i = 0
      · have e1 := fun c c' => e z c c' hz
        simp only [eb, hb] at e1
        simp only [bT, up] at e1 hb
        simp [r32_0, r32_1, r32_4, r32_5, r32_6, r32_9, r32_12, r32_13, r32_14, r32_15, r32_16, r32_17, r32_21, r32_23, r32_26, r32_28, r32_29, r32_30, r32_33, r32_35, r32_37, r32_40, r32_41, r32_44, r32_45, r32_46, r32_48, r32_50, r32_52, r32_53, r32_54, r32_55, r32_58, r32_59, r32_62, r32_63, r32_64, r32_66, r32_68, r32_70, r32_71, r32_72, r32_73, r32_74, r32_76, r32_77, r32_79, r32_81, r32_82, r32_83, r32_84, r32_85, r32_87, r32_88, r32_91, r32_93, r32_94, r32_95, r32_96, r32_99, r32_102, r32_103, ag_nx, ag_dn, ag_no, ag_if, jbr1, jbr2, jc1, jc2, jnul, jld, jsto, jstoL, jst1, jst2, jkill, jinc, jbI, jbL, jbS, juI, jl2i, jcmp, jisR, jisI, jisL, jgtx, jtln, jtch, jret, jretv, jdup, jpop, jobj, jmm, jcat, Value.category, jinv, jrcv, jthr, jhd, jnewa, jnewc, jput, jget, B_getL, B_getL0, B_set, B_set0, B_new, B_top, fl_upd, fl_fg, fg_set, Nat.add_assoc, jlen, jald, jast, jgI, jgL, jgB, jtnew, fits_i, fits_l, fits_r, fits_o, fits_z0, fits_z1, fits_n, fits_m, lg_set, List.length_set, updI, updL, jthr, jhd, jtab, LL, jtnew, w0, n0, n1, fh, ft, fo, h1, h1b, k3, k4, k5, j3, j4, j5, u2, g8, by_by, nI_1, e1, hb, hz, spZ, spO, eb, bT, up, Ne.symm hu, Ne.symm hhx, Ne.symm htx]
      · have e1 := fun c c' => e (i + 1) c c' (by omega)
        simp only [eb] at e1
        simp only [bT, up] at e1 hb
        simp [r32_0, r32_1, r32_4, r32_5, r32_6, r32_9, r32_12, r32_13, r32_14, r32_15, r32_16, r32_17, r32_21, r32_23, r32_26, r32_28, r32_29, r32_30, r32_33, r32_35, r32_37, r32_40, r32_41, r32_44, r32_45, r32_46, r32_48, r32_50, r32_52, r32_53, r32_54, r32_55, r32_58, r32_59, r32_62, r32_63, r32_64, r32_66, r32_68, r32_70, r32_71, r32_72, r32_73, r32_74, r32_76, r32_77, r32_79, r32_81, r32_82, r32_83, r32_84, r32_85, r32_87, r32_88, r32_91, r32_93, r32_94, r32_95, r32_96, r32_99, r32_102, r32_103, ag_nx, ag_dn, ag_no, ag_if, jbr1, jbr2, jc1, jc2, jnul, jld, jsto, jstoL, jst1, jst2, jkill, jinc, jbI, jbL, jbS, juI, jl2i, jcmp, jisR, jisI, jisL, jgtx, jtln, jtch, jret, jretv, jdup, jpop, jobj, jmm, jcat, Value.category, jinv, jrcv, jthr, jhd, jnewa, jnewc, jput, jget, B_getL, B_getL0, B_set, B_set0, B_new, B_top, fl_upd, fl_fg, fg_set, Nat.add_assoc, jlen, jald, jast, jgI, jgL, jgB, jtnew, fits_i, fits_l, fits_r, fits_o, fits_z0, fits_z1, fits_n, fits_m, lg_set, List.length_set, updI, updL, jthr, jhd, jtab, LL, jtnew, w0, n0, n1, fh, ft, fo, h1, h1b, k3, k4, k5, j3, j4, j5, u2, g8, by_by, nI_1, e1, hb, hz, spZ, spO, eb, bT, up, Ne.symm hu, Ne.symm hhx, Ne.symm htx]
