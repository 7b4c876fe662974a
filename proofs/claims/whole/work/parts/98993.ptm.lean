/-! the class: timers that come due -/
/-- all dues are times -/
def okD (D : Nat) (W : aW Nm) : Prop := (∃ q, W.2.1.2.1 = nI q ∧ q ≤ D) ∧ ∀ (k : Nat) (a : aI Nm), W.1[k]? = some a → ∀ t, t ∈ a.2.2.2 → ∃ q, t.2 = nI q ∧ q ≤ D + 1000000
section CTM
variable {A : Nat → Nat} {d b n w p k : Nat} {h : Nat → Option jC} {X : jXX} {I : Nat → Nat → Int32} {J : Nat → Nat → Int64} {R : Nat → Nat → Nat} {cN rN : Int32 → Nm} {W : aW Nm} {a : aI Nm}
theorem c142l (hi : isI p) (hA : iC cN I p a) (hT : a.2.2.2.length ≤ 4) : ∀ (ts : List (Nm × Int32)) (i : Nat) (z : Int32 × Nat), i + ts.length = a.2.2.2.length → (∀ j, ts[j]? = a.2.2.2[i + j]?) → M142 A d 6 [some (.ref (b + p)), some (.int z.1), some (.int (nI i))] [] (jH h b X I J R n) = some (.inl (some (.int (lsT ts i z).1)), jH h b X I J R n) := by
  have h12 : I p 12 = nI a.2.2.2.length := hA.2.2.2.2.1
  intro ts
  induction ts with
  | nil =>
    intro i z hl _
    have : i = a.2.2.2.length := by simpa using hl
    subst this
    rw [r142_6]
    simp (disch := omega) [r142_0, r142_3, r142_4, r142_5, r142_7, r142_8, r142_11, r142_14, r142_15, r142_16, r142_19, r142_20, r142_21, r142_24, r142_25, r142_26, r142_29, r142_30, r142_33, r142_36, r142_37, gI0 hi, vf2_12, vf2_14, tI0_14 hi, gI7 hi, List.getElem?_cons_zero, List.getElem?_cons_succ, List.length_cons, List.length_nil, ag_nx, ag_dn, ag_no, ag_if, jbr1, jbr2, jc1, jc2, jnul, jld, jsto, jstoL, jst1, jst2, jkill, jinc, jbI, jbL, jbS, juI, jl2i, jcmp, jisR, jisI, jisL, jret, jretv, jfits, jdup, jdup2, jpop, jmm, jcat, Value.category, jinv, jrcv, jthr, jhd, jput, jget, jlen, jald, jast, jaast, jgI, jgL, jgB, jtab, jlku, jacp, vf20, vf21, vf22, vf23, vf24, u2_s, u2_k, u2_i, uc_s, uc_k, uc_c, u2_c, LI0, LI1, LI2, LI3, LI4, LI5, LI6, LI7, LI8, LI9, LI10, LI11, LI12, LI13, LI14, LI15, LI16, LI17, LI18, LI19, LI20, LI21, LI22, LI23, LI24, LI25, LI26, LI27, LI28, LI29, LI30, LI31, LI32, LI33, LI34, LI35, LI36, LI37, LI40, LI42, LI43, LI45, LI48, LI60, LI61, LI64, LI80, LI300, LI400, LI1000, LI2000, LI2001, LI2047, LI2048, LI100000, LI1000000, LM, nI_clamp, nI_pos', nI_lt, nI_nlt, nI_le, nI_ge, nI_ne, nI_add, nI_sub, mI_lt, mI_le, mI_nlt, mI_nle, mI_ne, mI_ne', mI_nem, h12, lsT]
  | cons t ts ih =>
    intro i z hl hts
    have hil : i < a.2.2.2.length := by simp at hl; omega
    have ht : a.2.2.2[i]? = some t := by
      have := hts 0
      simpa using this.symm
    have h7 : I (p + 7) i = t.2 := by
      rw [hA.2.2.2.2.2, rl_at hil] at ht
      have := Option.some.inj ht
      rw [← this]
    have e := ih (i + 1) (if t.2 < z.1 then (t.2, i) else z) (by simp at hl; omega) (fun j => by
      have := hts (j + 1)
      rw [show i + 1 + j = i + (j + 1) by omega]
      simpa using this)
    rw [r142_6]
    unfold lsT
    by_cases hc : t.2 < z.1
    · rw [if_pos hc] at e ⊢
      simp (disch := omega) [r142_0, r142_3, r142_4, r142_5, r142_7, r142_8, r142_11, r142_14, r142_15, r142_16, r142_19, r142_20, r142_21, r142_24, r142_25, r142_26, r142_29, r142_30, r142_33, r142_36, r142_37, gI0 hi, vf2_12, vf2_14, tI0_14 hi, gI7 hi, List.getElem?_cons_zero, List.getElem?_cons_succ, List.length_cons, List.length_nil, ag_nx, ag_dn, ag_no, ag_if, jbr1, jbr2, jc1, jc2, jnul, jld, jsto, jstoL, jst1, jst2, jkill, jinc, jbI, jbL, jbS, juI, jl2i, jcmp, jisR, jisI, jisL, jret, jretv, jfits, jdup, jdup2, jpop, jmm, jcat, Value.category, jinv, jrcv, jthr, jhd, jput, jget, jlen, jald, jast, jaast, jgI, jgL, jgB, jtab, jlku, jacp, vf20, vf21, vf22, vf23, vf24, u2_s, u2_k, u2_i, uc_s, uc_k, uc_c, u2_c, LI0, LI1, LI2, LI3, LI4, LI5, LI6, LI7, LI8, LI9, LI10, LI11, LI12, LI13, LI14, LI15, LI16, LI17, LI18, LI19, LI20, LI21, LI22, LI23, LI24, LI25, LI26, LI27, LI28, LI29, LI30, LI31, LI32, LI33, LI34, LI35, LI36, LI37, LI40, LI42, LI43, LI45, LI48, LI60, LI61, LI64, LI80, LI300, LI400, LI1000, LI2000, LI2001, LI2047, LI2048, LI100000, LI1000000, LM, nI_clamp, nI_pos', nI_lt, nI_nlt, nI_le, nI_ge, nI_ne, nI_add, nI_sub, mI_lt, mI_le, mI_nlt, mI_nle, mI_ne, mI_ne', mI_nem, h12, h7, hc, e, show i < 4 by omega]
    · rw [if_neg hc] at e ⊢
      simp (disch := omega) [r142_0, r142_3, r142_4, r142_5, r142_7, r142_8, r142_11, r142_14, r142_15, r142_16, r142_19, r142_20, r142_21, r142_24, r142_25, r142_26, r142_29, r142_30, r142_33, r142_36, r142_37, gI0 hi, vf2_12, vf2_14, tI0_14 hi, gI7 hi, List.getElem?_cons_zero, List.getElem?_cons_succ, List.length_cons, List.length_nil, ag_nx, ag_dn, ag_no, ag_if, jbr1, jbr2, jc1, jc2, jnul, jld, jsto, jstoL, jst1, jst2, jkill, jinc, jbI, jbL, jbS, juI, jl2i, jcmp, jisR, jisI, jisL, jret, jretv, jfits, jdup, jdup2, jpop, jmm, jcat, Value.category, jinv, jrcv, jthr, jhd, jput, jget, jlen, jald, jast, jaast, jgI, jgL, jgB, jtab, jlku, jacp, vf20, vf21, vf22, vf23, vf24, u2_s, u2_k, u2_i, uc_s, uc_k, uc_c, u2_c, LI0, LI1, LI2, LI3, LI4, LI5, LI6, LI7, LI8, LI9, LI10, LI11, LI12, LI13, LI14, LI15, LI16, LI17, LI18, LI19, LI20, LI21, LI22, LI23, LI24, LI25, LI26, LI27, LI28, LI29, LI30, LI31, LI32, LI33, LI34, LI35, LI36, LI37, LI40, LI42, LI43, LI45, LI48, LI60, LI61, LI64, LI80, LI300, LI400, LI1000, LI2000, LI2001, LI2047, LI2048, LI100000, LI1000000, LM, nI_clamp, nI_pos', nI_lt, nI_nlt, nI_le, nI_ge, nI_ne, nI_add, nI_sub, mI_lt, mI_le, mI_nlt, mI_nle, mI_ne, mI_ne', mI_nem, h12, h7, hc, e, show i < 4 by omega]
/-- the least due of an instance that has a timer -/
theorem c142 {D : Nat} (hi : isI p) (hA : iC cN I p a) (hT : a.2.2.2.length ≤ 4) (hne : a.2.2.2 ≠ []) (hD : D + 1000000 < 2 ^ 31 - 1) (hd : ∀ t, t ∈ a.2.2.2 → ∃ q, t.2 = nI q ∧ q ≤ D + 1000000) : jcall A jcode (d + 1) 142 [.ref (b + p)] (jH h b X I J R n) = some (.inl (some (.int (lst1 a.2.2.2).1)), jH h b X I J R n) := by
  have e := c142l (d := d) (A := A) (b := b) (h := h) (X := X) (J := J) (R := R) (n := n) hi hA hT a.2.2.2 0 (nI 2147483647, 0) (by omega) (fun j => by rw [Nat.zero_add])
  have hl : (lsT a.2.2.2 0 (nI 2147483647, 0)).1 = (lst1 a.2.2.2).1 := by
    cases hx : a.2.2.2 with
    | nil => exact absurd hx hne
    | cons t ts =>
      obtain ⟨q, hq, hq2⟩ := hd t (by rw [hx]; exact List.mem_cons_self)
      show (lsT ts (0 + 1) (if t.2 < nI 2147483647 then (t.2, 0) else (nI 2147483647, 0))).1 = (lsT ts 1 (t.2, 0)).1
      rw [if_pos (by rw [hq]; exact nI_lt (by omega) (by omega))]
  rw [hl] at e
  simp (disch := omega) [je142, r142_0, r142_3, r142_4, r142_5, List.getElem?_cons_zero, List.getElem?_cons_succ, List.length_cons, List.length_nil, ag_nx, ag_dn, ag_no, ag_if, jbr1, jbr2, jc1, jc2, jnul, jld, jsto, jstoL, jst1, jst2, jkill, jinc, jbI, jbL, jbS, juI, jl2i, jcmp, jisR, jisI, jisL, jret, jretv, jfits, jdup, jdup2, jpop, jmm, jcat, Value.category, jinv, jrcv, jthr, jhd, jput, jget, jlen, jald, jast, jaast, jgI, jgL, jgB, jtab, jlku, jacp, vf20, vf21, vf22, vf23, vf24, u2_s, u2_k, u2_i, uc_s, uc_k, uc_c, u2_c, LI0, LI1, LI2, LI3, LI4, LI5, LI6, LI7, LI8, LI9, LI10, LI11, LI12, LI13, LI14, LI15, LI16, LI17, LI18, LI19, LI20, LI21, LI22, LI23, LI24, LI25, LI26, LI27, LI28, LI29, LI30, LI31, LI32, LI33, LI34, LI35, LI36, LI37, LI40, LI42, LI43, LI45, LI48, LI60, LI61, LI64, LI80, LI300, LI400, LI1000, LI2000, LI2001, LI2047, LI2048, LI100000, LI1000000, LM, nI_clamp, nI_pos', nI_lt, nI_nlt, nI_le, nI_ge, nI_ne, nI_add, nI_sub, mI_lt, mI_le, mI_nlt, mI_nle, mI_ne, mI_ne', mI_nem, e]
/-- the instance whose timer is due first -/
def ndS (z : Option (Int32 × Nat × Nat)) : Option Nat := z.map (fun z => z.2.1)
theorem c141l {D : Nat} (hw : isW w) (hW : wC cN I R w W) (ok : okL W.1) (hD : D + 1000000 < 2 ^ 31 - 1) (hd : okD D W) : ∀ (as : List (aI Nm)) (i : Nat) (z : Option (Int32 × Nat × Nat)) (c3 : Option Value), i + as.length = W.1.length → (∀ j, as[j]? = W.1[i + j]?) → (∀ y, z = some y → ∃ a, W.1[y.2.1]? = some a ∧ a.2.2.2 ≠ [] ∧ y.1 = (lst1 a.2.2.2).1 ∧ y.2.2 = (lst1 a.2.2.2).2) →
    (∀ y, aDue as i z = some y → ∃ a, W.1[y.2.1]? = some a ∧ a.2.2.2 ≠ [] ∧ y.1 = (lst1 a.2.2.2).1 ∧ y.2.2 = (lst1 a.2.2.2).2) ∧ M141 A (d + 1) 4 [some (.ref (b + w)), some (rfO b (R (w + 8)) (ndS z)), some (.int (nI i)), c3] [] (jH h b X I J R n) = some (.inl (some (rfO b (R (w + 8)) (ndS (aDue as i z)))), jH h b X I J R n) := by
  have h3 : I w 3 = nI W.1.length := hW.1.2.2.1
  have hl8 := hW.1.2.1
  intro as
  induction as with
  | nil =>
    intro i z c3 hl _ hz
    have : i = W.1.length := by simpa using hl
    subst this
    refine ⟨hz, ?_⟩
    have hi := wA_I hw hW.1 0 (by omega)
    rw [r141_4]
    cases z with
    | none =>
      simp (disch := omega) [r141_0, r141_1, r141_2, r141_3, r141_5, r141_6, r141_9, r141_12, r141_13, r141_15, r141_18, r141_19, r141_22, r141_23, r141_24, r141_25, r141_26, r141_29, r141_32, r141_33, r141_36, r141_37, r141_40, r141_41, r141_44, r141_47, r141_48, r141_49, r141_52, r141_55, r141_56, gW0 hw, vf9_3, vf9_2, tW0_2 hw, gW8 hw, gI0 hi, vf2_12, qa142, List.getElem?_cons_zero, List.getElem?_cons_succ, List.length_cons, List.length_nil, ag_nx, ag_dn, ag_no, ag_if, jbr1, jbr2, jc1, jc2, jnul, jld, jsto, jstoL, jst1, jst2, jkill, jinc, jbI, jbL, jbS, juI, jl2i, jcmp, jisR, jisI, jisL, jret, jretv, jfits, jdup, jdup2, jpop, jmm, jcat, Value.category, jinv, jrcv, jthr, jhd, jput, jget, jlen, jald, jast, jaast, jgI, jgL, jgB, jtab, jlku, jacp, vf20, vf21, vf22, vf23, vf24, u2_s, u2_k, u2_i, uc_s, uc_k, uc_c, u2_c, LI0, LI1, LI2, LI3, LI4, LI5, LI6, LI7, LI8, LI9, LI10, LI11, LI12, LI13, LI14, LI15, LI16, LI17, LI18, LI19, LI20, LI21, LI22, LI23, LI24, LI25, LI26, LI27, LI28, LI29, LI30, LI31, LI32, LI33, LI34, LI35, LI36, LI37, LI40, LI42, LI43, LI45, LI48, LI60, LI61, LI64, LI80, LI300, LI400, LI1000, LI2000, LI2001, LI2047, LI2048, LI100000, LI1000000, LM, nI_clamp, nI_pos', nI_lt, nI_nlt, nI_le, nI_ge, nI_ne, nI_add, nI_sub, mI_lt, mI_le, mI_nlt, mI_nle, mI_ne, mI_ne', mI_nem, h3, aDue, ndS, rfO]
    | some y =>
      simp (disch := omega) [r141_0, r141_1, r141_2, r141_3, r141_5, r141_6, r141_9, r141_12, r141_13, r141_15, r141_18, r141_19, r141_22, r141_23, r141_24, r141_25, r141_26, r141_29, r141_32, r141_33, r141_36, r141_37, r141_40, r141_41, r141_44, r141_47, r141_48, r141_49, r141_52, r141_55, r141_56, gW0 hw, vf9_3, vf9_2, tW0_2 hw, gW8 hw, gI0 hi, vf2_12, qa142, List.getElem?_cons_zero, List.getElem?_cons_succ, List.length_cons, List.length_nil, ag_nx, ag_dn, ag_no, ag_if, jbr1, jbr2, jc1, jc2, jnul, jld, jsto, jstoL, jst1, jst2, jkill, jinc, jbI, jbL, jbS, juI, jl2i, jcmp, jisR, jisI, jisL, jret, jretv, jfits, jdup, jdup2, jpop, jmm, jcat, Value.category, jinv, jrcv, jthr, jhd, jput, jget, jlen, jald, jast, jaast, jgI, jgL, jgB, jtab, jlku, jacp, vf20, vf21, vf22, vf23, vf24, u2_s, u2_k, u2_i, uc_s, uc_k, uc_c, u2_c, LI0, LI1, LI2, LI3, LI4, LI5, LI6, LI7, LI8, LI9, LI10, LI11, LI12, LI13, LI14, LI15, LI16, LI17, LI18, LI19, LI20, LI21, LI22, LI23, LI24, LI25, LI26, LI27, LI28, LI29, LI30, LI31, LI32, LI33, LI34, LI35, LI36, LI37, LI40, LI42, LI43, LI45, LI48, LI60, LI61, LI64, LI80, LI300, LI400, LI1000, LI2000, LI2001, LI2047, LI2048, LI100000, LI1000000, LM, nI_clamp, nI_pos', nI_lt, nI_nlt, nI_le, nI_ge, nI_ne, nI_add, nI_sub, mI_lt, mI_le, mI_nlt, mI_nle, mI_ne, mI_ne', mI_nem, h3, aDue, ndS, rfO]
  | cons a as ih =>
    intro i z c3 hl has hz
    have hil : i < W.1.length := by simp at hl; omega
    have ha : W.1[i]? = some a := by
      have := has 0
      simpa using this.symm
    have i8 : i < 8 := by omega
    have hi := wA_I hw hW.1 i i8
    have hA := hW.1.2.2.2 i a ha
    obtain ⟨o1, o2, o3, _⟩ := ok i a ha
    have h12 : I (R (w + 8) i) 12 = nI a.2.2.2.length := hA.2.2.2.2.1
    have hrest : ∀ j, as[j]? = W.1[i + 1 + j]? := fun j => by
      have := has (j + 1)
      rw [show i + 1 + j = i + (j + 1) by omega]
      simpa using this
    unfold aDue
    have cont := fun z' hz' c3' => ih (i + 1) z' c3' (by simp at hl; omega) hrest hz'
    by_cases hts : a.2.2.2 = []
    · have hz' : aDueT i a.2.2.2 0 z = z := by rw [hts]; rfl
      rw [hz']
      obtain ⟨q1, q2⟩ := cont z hz (some (.ref (b + R (w + 8) i)))
      refine ⟨q1, ?_⟩
      have h12' : I (R (w + 8) i) 12 = nI 0 := by rw [h12, hts]; rfl
      rw [r141_4]
      cases z with
      | none =>
        simp only [ndS, rfO, Option.map] at q2 ⊢
        simp (disch := omega) [r141_0, r141_1, r141_2, r141_3, r141_5, r141_6, r141_9, r141_12, r141_13, r141_15, r141_18, r141_19, r141_22, r141_23, r141_24, r141_25, r141_26, r141_29, r141_32, r141_33, r141_36, r141_37, r141_40, r141_41, r141_44, r141_47, r141_48, r141_49, r141_52, r141_55, r141_56, gW0 hw, vf9_3, vf9_2, tW0_2 hw, gW8 hw, gI0 hi, vf2_12, qa142, List.getElem?_cons_zero, List.getElem?_cons_succ, List.length_cons, List.length_nil, ag_nx, ag_dn, ag_no, ag_if, jbr1, jbr2, jc1, jc2, jnul, jld, jsto, jstoL, jst1, jst2, jkill, jinc, jbI, jbL, jbS, juI, jl2i, jcmp, jisR, jisI, jisL, jret, jretv, jfits, jdup, jdup2, jpop, jmm, jcat, Value.category, jinv, jrcv, jthr, jhd, jput, jget, jlen, jald, jast, jaast, jgI, jgL, jgB, jtab, jlku, jacp, vf20, vf21, vf22, vf23, vf24, u2_s, u2_k, u2_i, uc_s, uc_k, uc_c, u2_c, LI0, LI1, LI2, LI3, LI4, LI5, LI6, LI7, LI8, LI9, LI10, LI11, LI12, LI13, LI14, LI15, LI16, LI17, LI18, LI19, LI20, LI21, LI22, LI23, LI24, LI25, LI26, LI27, LI28, LI29, LI30, LI31, LI32, LI33, LI34, LI35, LI36, LI37, LI40, LI42, LI43, LI45, LI48, LI60, LI61, LI64, LI80, LI300, LI400, LI1000, LI2000, LI2001, LI2047, LI2048, LI100000, LI1000000, LM, nI_clamp, nI_pos', nI_lt, nI_nlt, nI_le, nI_ge, nI_ne, nI_add, nI_sub, mI_lt, mI_le, mI_nlt, mI_nle, mI_ne, mI_ne', mI_nem, h3, h12', i8, q2]
      | some y =>
        simp only [ndS, rfO, Option.map] at q2 ⊢
        simp (disch := omega) [r141_0, r141_1, r141_2, r141_3, r141_5, r141_6, r141_9, r141_12, r141_13, r141_15, r141_18, r141_19, r141_22, r141_23, r141_24, r141_25, r141_26, r141_29, r141_32, r141_33, r141_36, r141_37, r141_40, r141_41, r141_44, r141_47, r141_48, r141_49, r141_52, r141_55, r141_56, gW0 hw, vf9_3, vf9_2, tW0_2 hw, gW8 hw, gI0 hi, vf2_12, qa142, List.getElem?_cons_zero, List.getElem?_cons_succ, List.length_cons, List.length_nil, ag_nx, ag_dn, ag_no, ag_if, jbr1, jbr2, jc1, jc2, jnul, jld, jsto, jstoL, jst1, jst2, jkill, jinc, jbI, jbL, jbS, juI, jl2i, jcmp, jisR, jisI, jisL, jret, jretv, jfits, jdup, jdup2, jpop, jmm, jcat, Value.category, jinv, jrcv, jthr, jhd, jput, jget, jlen, jald, jast, jaast, jgI, jgL, jgB, jtab, jlku, jacp, vf20, vf21, vf22, vf23, vf24, u2_s, u2_k, u2_i, uc_s, uc_k, uc_c, u2_c, LI0, LI1, LI2, LI3, LI4, LI5, LI6, LI7, LI8, LI9, LI10, LI11, LI12, LI13, LI14, LI15, LI16, LI17, LI18, LI19, LI20, LI21, LI22, LI23, LI24, LI25, LI26, LI27, LI28, LI29, LI30, LI31, LI32, LI33, LI34, LI35, LI36, LI37, LI40, LI42, LI43, LI45, LI48, LI60, LI61, LI64, LI80, LI300, LI400, LI1000, LI2000, LI2001, LI2047, LI2048, LI100000, LI1000000, LM, nI_clamp, nI_pos', nI_lt, nI_nlt, nI_le, nI_ge, nI_ne, nI_add, nI_sub, mI_lt, mI_le, mI_nlt, mI_nle, mI_ne, mI_ne', mI_nem, h3, h12', i8, q2]
    · have hpos : 0 < a.2.2.2.length := List.length_pos_iff.mpr hts
      have el := c142 (d := d) (A := A) (b := b) (h := h) (X := X) (J := J) (R := R) (n := n) hi hA o3 hts hD (hd.2 i a ha)
      cases z with
      | none =>
        have hz' : aDueT i a.2.2.2 0 none = some ((lst1 a.2.2.2).1, i, (lst1 a.2.2.2).2) := by rw [aDueT_none, if_neg hts]
        rw [hz']
        obtain ⟨q1, q2⟩ := cont (some ((lst1 a.2.2.2).1, i, (lst1 a.2.2.2).2)) (fun y hy => by
          cases hy
          exact ⟨a, ha, hts, rfl, rfl⟩) (some (.ref (b + R (w + 8) i)))
        refine ⟨q1, ?_⟩
        rw [r141_4]
        simp only [ndS, rfO, Option.map] at q2 ⊢
        simp (disch := omega) [r141_0, r141_1, r141_2, r141_3, r141_5, r141_6, r141_9, r141_12, r141_13, r141_15, r141_18, r141_19, r141_22, r141_23, r141_24, r141_25, r141_26, r141_29, r141_32, r141_33, r141_36, r141_37, r141_40, r141_41, r141_44, r141_47, r141_48, r141_49, r141_52, r141_55, r141_56, gW0 hw, vf9_3, vf9_2, tW0_2 hw, gW8 hw, gI0 hi, vf2_12, qa142, List.getElem?_cons_zero, List.getElem?_cons_succ, List.length_cons, List.length_nil, ag_nx, ag_dn, ag_no, ag_if, jbr1, jbr2, jc1, jc2, jnul, jld, jsto, jstoL, jst1, jst2, jkill, jinc, jbI, jbL, jbS, juI, jl2i, jcmp, jisR, jisI, jisL, jret, jretv, jfits, jdup, jdup2, jpop, jmm, jcat, Value.category, jinv, jrcv, jthr, jhd, jput, jget, jlen, jald, jast, jaast, jgI, jgL, jgB, jtab, jlku, jacp, vf20, vf21, vf22, vf23, vf24, u2_s, u2_k, u2_i, uc_s, uc_k, uc_c, u2_c, LI0, LI1, LI2, LI3, LI4, LI5, LI6, LI7, LI8, LI9, LI10, LI11, LI12, LI13, LI14, LI15, LI16, LI17, LI18, LI19, LI20, LI21, LI22, LI23, LI24, LI25, LI26, LI27, LI28, LI29, LI30, LI31, LI32, LI33, LI34, LI35, LI36, LI37, LI40, LI42, LI43, LI45, LI48, LI60, LI61, LI64, LI80, LI300, LI400, LI1000, LI2000, LI2001, LI2047, LI2048, LI100000, LI1000000, LM, nI_clamp, nI_pos', nI_lt, nI_nlt, nI_le, nI_ge, nI_ne, nI_add, nI_sub, mI_lt, mI_le, mI_nlt, mI_nle, mI_ne, mI_ne', mI_nem, h3, h12, i8, q2]
      | some y =>
        obtain ⟨a0, ha0, hne0, hy1, hy2⟩ := hz y rfl
        have hy8 : y.2.1 < 8 := by have := lt_of_some ha0; omega
        have hj := wA_I hw hW.1 y.2.1 hy8
        have el0 := c142 (d := d) (A := A) (b := b) (h := h) (X := X) (J := J) (R := R) (n := n) hj (hW.1.2.2.2 y.2.1 a0 ha0) (ok y.2.1 a0 ha0).2.2.1 hne0 hD (hd.2 y.2.1 a0 ha0)
        rw [← hy1] at el0
        have hz' : aDueT i a.2.2.2 0 (some y) = if (lst1 a.2.2.2).1 < y.1 then some ((lst1 a.2.2.2).1, i, (lst1 a.2.2.2).2) else some y := by rw [aDueT_c, if_neg hts]
        rw [hz']
        by_cases hc : (lst1 a.2.2.2).1 < y.1
        · rw [if_pos hc]
          have hc' : ¬ y.1 ≤ (lst1 a.2.2.2).1 := fun z => absurd hc (i_nlt.mpr z)
          obtain ⟨q1, q2⟩ := cont (some ((lst1 a.2.2.2).1, i, (lst1 a.2.2.2).2)) (fun y hy => by
            cases hy
            exact ⟨a, ha, hts, rfl, rfl⟩) (some (.ref (b + R (w + 8) i)))
          refine ⟨q1, ?_⟩
          rw [r141_4]
          simp only [ndS, rfO, Option.map] at q2 ⊢
          simp (disch := omega) [r141_0, r141_1, r141_2, r141_3, r141_5, r141_6, r141_9, r141_12, r141_13, r141_15, r141_18, r141_19, r141_22, r141_23, r141_24, r141_25, r141_26, r141_29, r141_32, r141_33, r141_36, r141_37, r141_40, r141_41, r141_44, r141_47, r141_48, r141_49, r141_52, r141_55, r141_56, gW0 hw, vf9_3, vf9_2, tW0_2 hw, gW8 hw, gI0 hi, vf2_12, qa142, List.getElem?_cons_zero, List.getElem?_cons_succ, List.length_cons, List.length_nil, ag_nx, ag_dn, ag_no, ag_if, jbr1, jbr2, jc1, jc2, jnul, jld, jsto, jstoL, jst1, jst2, jkill, jinc, jbI, jbL, jbS, juI, jl2i, jcmp, jisR, jisI, jisL, jret, jretv, jfits, jdup, jdup2, jpop, jmm, jcat, Value.category, jinv, jrcv, jthr, jhd, jput, jget, jlen, jald, jast, jaast, jgI, jgL, jgB, jtab, jlku, jacp, vf20, vf21, vf22, vf23, vf24, u2_s, u2_k, u2_i, uc_s, uc_k, uc_c, u2_c, LI0, LI1, LI2, LI3, LI4, LI5, LI6, LI7, LI8, LI9, LI10, LI11, LI12, LI13, LI14, LI15, LI16, LI17, LI18, LI19, LI20, LI21, LI22, LI23, LI24, LI25, LI26, LI27, LI28, LI29, LI30, LI31, LI32, LI33, LI34, LI35, LI36, LI37, LI40, LI42, LI43, LI45, LI48, LI60, LI61, LI64, LI80, LI300, LI400, LI1000, LI2000, LI2001, LI2047, LI2048, LI100000, LI1000000, LM, nI_clamp, nI_pos', nI_lt, nI_nlt, nI_le, nI_ge, nI_ne, nI_add, nI_sub, mI_lt, mI_le, mI_nlt, mI_nle, mI_ne, mI_ne', mI_nem, h3, h12, i8, el, el0, hc', q2]
        · rw [if_neg hc]
          have hc' : y.1 ≤ (lst1 a.2.2.2).1 := i_nlt.mp hc
          obtain ⟨q1, q2⟩ := cont (some y) hz (some (.ref (b + R (w + 8) i)))
          refine ⟨q1, ?_⟩
          rw [r141_4]
          simp only [ndS, rfO, Option.map] at q2 ⊢
          simp (disch := omega) [r141_0, r141_1, r141_2, r141_3, r141_5, r141_6, r141_9, r141_12, r141_13, r141_15, r141_18, r141_19, r141_22, r141_23, r141_24, r141_25, r141_26, r141_29, r141_32, r141_33, r141_36, r141_37, r141_40, r141_41, r141_44, r141_47, r141_48, r141_49, r141_52, r141_55, r141_56, gW0 hw, vf9_3, vf9_2, tW0_2 hw, gW8 hw, gI0 hi, vf2_12, qa142, List.getElem?_cons_zero, List.getElem?_cons_succ, List.length_cons, List.length_nil, ag_nx, ag_dn, ag_no, ag_if, jbr1, jbr2, jc1, jc2, jnul, jld, jsto, jstoL, jst1, jst2, jkill, jinc, jbI, jbL, jbS, juI, jl2i, jcmp, jisR, jisI, jisL, jret, jretv, jfits, jdup, jdup2, jpop, jmm, jcat, Value.category, jinv, jrcv, jthr, jhd, jput, jget, jlen, jald, jast, jaast, jgI, jgL, jgB, jtab, jlku, jacp, vf20, vf21, vf22, vf23, vf24, u2_s, u2_k, u2_i, uc_s, uc_k, uc_c, u2_c, LI0, LI1, LI2, LI3, LI4, LI5, LI6, LI7, LI8, LI9, LI10, LI11, LI12, LI13, LI14, LI15, LI16, LI17, LI18, LI19, LI20, LI21, LI22, LI23, LI24, LI25, LI26, LI27, LI28, LI29, LI30, LI31, LI32, LI33, LI34, LI35, LI36, LI37, LI40, LI42, LI43, LI45, LI48, LI60, LI61, LI64, LI80, LI300, LI400, LI1000, LI2000, LI2001, LI2047, LI2048, LI100000, LI1000000, LM, nI_clamp, nI_pos', nI_lt, nI_nlt, nI_le, nI_ge, nI_ne, nI_add, nI_sub, mI_lt, mI_le, mI_nlt, mI_nle, mI_ne, mI_ne', mI_nem, h3, h12, i8, el, el0, hc', q2]
theorem cNext {D : Nat} (hw : isW w) (hW : wC cN I R w W) (ok : okL W.1) (hD : D + 1000000 < 2 ^ 31 - 1) (hd : okD D W) : (∀ y, aDue W.1 0 none = some y → ∃ a, W.1[y.2.1]? = some a ∧ a.2.2.2 ≠ [] ∧ y.1 = (lst1 a.2.2.2).1 ∧ y.2.2 = (lst1 a.2.2.2).2) ∧ jcall A jcode (d + 2) 141 [.ref (b + w)] (jH h b X I J R n) = some (.inl (some (rfO b (R (w + 8)) (ndS (aDue W.1 0 none)))), jH h b X I J R n) := by
  obtain ⟨q1, q2⟩ := c141l (d := d) (A := A) (b := b) (h := h) (X := X) (J := J) (R := R) (n := n) hw hW ok hD hd W.1 0 none none (by omega) (fun j => by rw [Nat.zero_add]) (fun y hy => by cases hy)
  refine ⟨q1, ?_⟩
  rw [show rfO b (R (w + 8)) (ndS none) = .null from rfl] at q2
  simp (disch := omega) [je141, r141_0, r141_1, r141_2, r141_3, List.getElem?_cons_zero, List.getElem?_cons_succ, List.length_cons, List.length_nil, ag_nx, ag_dn, ag_no, ag_if, jbr1, jbr2, jc1, jc2, jnul, jld, jsto, jstoL, jst1, jst2, jkill, jinc, jbI, jbL, jbS, juI, jl2i, jcmp, jisR, jisI, jisL, jret, jretv, jfits, jdup, jdup2, jpop, jmm, jcat, Value.category, jinv, jrcv, jthr, jhd, jput, jget, jlen, jald, jast, jaast, jgI, jgL, jgB, jtab, jlku, jacp, vf20, vf21, vf22, vf23, vf24, u2_s, u2_k, u2_i, uc_s, uc_k, uc_c, u2_c, LI0, LI1, LI2, LI3, LI4, LI5, LI6, LI7, LI8, LI9, LI10, LI11, LI12, LI13, LI14, LI15, LI16, LI17, LI18, LI19, LI20, LI21, LI22, LI23, LI24, LI25, LI26, LI27, LI28, LI29, LI30, LI31, LI32, LI33, LI34, LI35, LI36, LI37, LI40, LI42, LI43, LI45, LI48, LI60, LI61, LI64, LI80, LI300, LI400, LI1000, LI2000, LI2001, LI2047, LI2048, LI100000, LI1000000, LM, nI_clamp, nI_pos', nI_lt, nI_nlt, nI_le, nI_ge, nI_ne, nI_add, nI_sub, mI_lt, mI_le, mI_nlt, mI_nle, mI_ne, mI_ne', mI_nem, q2]
/-- where the least first stands, at the class -/
theorem c143l {lv : Int32} {m : Nat} (hi : isI p) (hA : iC cN I p a) (hT : a.2.2.2.length ≤ 4) (hm : m < a.2.2.2.length) (he : I (p + 7) m = lv) (hb : ∀ j, j < m → ¬ I (p + 7) j = lv) : ∀ (r i : Nat) (c4 : Option Value), i + r = m → M143 A d 7 [some (.ref (b + w)), some (.ref (b + p)), some (.int lv), some (.int (nI i)), c4] [] (jH h b X I J R n) = M143 A d 38 [some (.ref (b + w)), some (.ref (b + p)), some (.int lv), some (.int (nI m)), c4] [] (jH h b X I J R n) := by
  have h12 : I p 12 = nI a.2.2.2.length := hA.2.2.2.2.1
  intro r
  induction r with
  | zero =>
    intro i c4 hr
    have : i = m := by omega
    subst this
    rw [r143_7]
    by_cases hl : i < a.2.2.2.length - 1
    · by_cases h3 : i < 3
      · simp (disch := omega) [r143_8, r143_9, r143_12, r143_13, r143_14, r143_17, r143_18, r143_19, r143_22, r143_23, r143_26, r143_27, r143_28, r143_29, gI0 hi, vf2_12, vf2_14, tI0_14 hi, gI7 hi, List.getElem?_cons_zero, List.getElem?_cons_succ, List.length_cons, List.length_nil, ag_nx, ag_dn, ag_no, ag_if, jbr1, jbr2, jc1, jc2, jnul, jld, jsto, jstoL, jst1, jst2, jkill, jinc, jbI, jbL, jbS, juI, jl2i, jcmp, jisR, jisI, jisL, jret, jretv, jfits, jdup, jdup2, jpop, jmm, jcat, Value.category, jinv, jrcv, jthr, jhd, jput, jget, jlen, jald, jast, jaast, jgI, jgL, jgB, jtab, jlku, jacp, vf20, vf21, vf22, vf23, vf24, u2_s, u2_k, u2_i, uc_s, uc_k, uc_c, u2_c, LI0, LI1, LI2, LI3, LI4, LI5, LI6, LI7, LI8, LI9, LI10, LI11, LI12, LI13, LI14, LI15, LI16, LI17, LI18, LI19, LI20, LI21, LI22, LI23, LI24, LI25, LI26, LI27, LI28, LI29, LI30, LI31, LI32, LI33, LI34, LI35, LI36, LI37, LI40, LI42, LI43, LI45, LI48, LI60, LI61, LI64, LI80, LI300, LI400, LI1000, LI2000, LI2001, LI2047, LI2048, LI100000, LI1000000, LM, nI_clamp, nI_pos', nI_lt, nI_nlt, nI_le, nI_ge, nI_ne, nI_add, nI_sub, mI_lt, mI_le, mI_nlt, mI_nle, mI_ne, mI_ne', mI_nem, h12, he, show i < 4 by omega]
      · simp (disch := omega) [r143_8, r143_9, r143_12, r143_13, r143_14, r143_17, r143_18, r143_19, gI0 hi, vf2_12, List.getElem?_cons_zero, List.getElem?_cons_succ, List.length_cons, List.length_nil, ag_nx, ag_dn, ag_no, ag_if, jbr1, jbr2, jc1, jc2, jnul, jld, jsto, jstoL, jst1, jst2, jkill, jinc, jbI, jbL, jbS, juI, jl2i, jcmp, jisR, jisI, jisL, jret, jretv, jfits, jdup, jdup2, jpop, jmm, jcat, Value.category, jinv, jrcv, jthr, jhd, jput, jget, jlen, jald, jast, jaast, jgI, jgL, jgB, jtab, jlku, jacp, vf20, vf21, vf22, vf23, vf24, u2_s, u2_k, u2_i, uc_s, uc_k, uc_c, u2_c, LI0, LI1, LI2, LI3, LI4, LI5, LI6, LI7, LI8, LI9, LI10, LI11, LI12, LI13, LI14, LI15, LI16, LI17, LI18, LI19, LI20, LI21, LI22, LI23, LI24, LI25, LI26, LI27, LI28, LI29, LI30, LI31, LI32, LI33, LI34, LI35, LI36, LI37, LI40, LI42, LI43, LI45, LI48, LI60, LI61, LI64, LI80, LI300, LI400, LI1000, LI2000, LI2001, LI2047, LI2048, LI100000, LI1000000, LM, nI_clamp, nI_pos', nI_lt, nI_nlt, nI_le, nI_ge, nI_ne, nI_add, nI_sub, mI_lt, mI_le, mI_nlt, mI_nle, mI_ne, mI_ne', mI_nem, h12]
    · simp (disch := omega) [r143_8, r143_9, r143_12, r143_13, r143_14, gI0 hi, vf2_12, List.getElem?_cons_zero, List.getElem?_cons_succ, List.length_cons, List.length_nil, ag_nx, ag_dn, ag_no, ag_if, jbr1, jbr2, jc1, jc2, jnul, jld, jsto, jstoL, jst1, jst2, jkill, jinc, jbI, jbL, jbS, juI, jl2i, jcmp, jisR, jisI, jisL, jret, jretv, jfits, jdup, jdup2, jpop, jmm, jcat, Value.category, jinv, jrcv, jthr, jhd, jput, jget, jlen, jald, jast, jaast, jgI, jgL, jgB, jtab, jlku, jacp, vf20, vf21, vf22, vf23, vf24, u2_s, u2_k, u2_i, uc_s, uc_k, uc_c, u2_c, LI0, LI1, LI2, LI3, LI4, LI5, LI6, LI7, LI8, LI9, LI10, LI11, LI12, LI13, LI14, LI15, LI16, LI17, LI18, LI19, LI20, LI21, LI22, LI23, LI24, LI25, LI26, LI27, LI28, LI29, LI30, LI31, LI32, LI33, LI34, LI35, LI36, LI37, LI40, LI42, LI43, LI45, LI48, LI60, LI61, LI64, LI80, LI300, LI400, LI1000, LI2000, LI2001, LI2047, LI2048, LI100000, LI1000000, LM, nI_clamp, nI_pos', nI_lt, nI_nlt, nI_le, nI_ge, nI_ne, nI_add, nI_sub, mI_lt, mI_le, mI_nlt, mI_nle, mI_ne, mI_ne', mI_nem, h12]
  | succ r ih =>
    intro i c4 hr
    have hn := hb i (by omega)
    have e := ih (i + 1) c4 (by omega)
    rw [r143_7]
    simp (disch := omega) [r143_8, r143_9, r143_12, r143_13, r143_14, r143_17, r143_18, r143_19, r143_22, r143_23, r143_26, r143_27, r143_28, r143_29, r143_32, r143_35, gI0 hi, vf2_12, vf2_14, tI0_14 hi, gI7 hi, List.getElem?_cons_zero, List.getElem?_cons_succ, List.length_cons, List.length_nil, ag_nx, ag_dn, ag_no, ag_if, jbr1, jbr2, jc1, jc2, jnul, jld, jsto, jstoL, jst1, jst2, jkill, jinc, jbI, jbL, jbS, juI, jl2i, jcmp, jisR, jisI, jisL, jret, jretv, jfits, jdup, jdup2, jpop, jmm, jcat, Value.category, jinv, jrcv, jthr, jhd, jput, jget, jlen, jald, jast, jaast, jgI, jgL, jgB, jtab, jlku, jacp, vf20, vf21, vf22, vf23, vf24, u2_s, u2_k, u2_i, uc_s, uc_k, uc_c, u2_c, LI0, LI1, LI2, LI3, LI4, LI5, LI6, LI7, LI8, LI9, LI10, LI11, LI12, LI13, LI14, LI15, LI16, LI17, LI18, LI19, LI20, LI21, LI22, LI23, LI24, LI25, LI26, LI27, LI28, LI29, LI30, LI31, LI32, LI33, LI34, LI35, LI36, LI37, LI40, LI42, LI43, LI45, LI48, LI60, LI61, LI64, LI80, LI300, LI400, LI1000, LI2000, LI2001, LI2047, LI2048, LI100000, LI1000000, LM, nI_clamp, nI_pos', nI_lt, nI_nlt, nI_le, nI_ge, nI_ne, nI_add, nI_sub, mI_lt, mI_le, mI_nlt, mI_nle, mI_ne, mI_ne', mI_nem, h12, hn, e, show i < 4 by omega]
theorem cFire {D : Nat} (hw : isW w) (hW : wC cN I R w W) (ok : okL W.1) (hD : D + 1000000 < 2 ^ 31 - 1) (hd : okD D W) (hk : W.1[k]? = some a) (hne : a.2.2.2 ≠ []) : ∃ I', jcall A jcode (d + 3) 143 [.ref (b + w), .ref (b + R (w + 8) k)] (jH h b X I J R n) = some (.inl none, jH h b X I' J R n) ∧ wC cN I' R w (aFire cN (decide (w = 57)) k (lst1 a.2.2.2).2 W) ∧ fC w I I' := by
  have w1 := isW_e hw
  have k8 := wA_lt hW.1 hk
  have hkl := lt_of_some hk
  have hi := wA_I hw hW.1 k k8
  have hr := okS_r hW.1.1 k8
  have hA := hW.1.2.2.2 k a hk
  obtain ⟨o1, o2, o3, _⟩ := ok k a hk
  obtain ⟨i0, i1, _⟩ := iC_01 hA
  obtain ⟨hm, ⟨t, ht, htl⟩, hb⟩ := lst1_ix hne
  have e0 := c142 (d := d + 1) (A := A) (b := b) (h := h) (X := X) (J := J) (R := R) (n := n) hi hA o3 hne hD (hd.2 k a hk)
  have hat : ∀ j, j < a.2.2.2.length → a.2.2.2[j]? = some (cN (I (R (w + 8) k + 6) j), I (R (w + 8) k + 7) j) := fun j hj => by rw [hA.2.2.2.2.2, rl_at hj]
  have hmt := hat _ hm
  rw [ht] at hmt
  have htt : t = (cN (I (R (w + 8) k + 6) (lst1 a.2.2.2).2), I (R (w + 8) k + 7) (lst1 a.2.2.2).2) := Option.some.inj hmt
  have h7 : I (R (w + 8) k + 7) (lst1 a.2.2.2).2 = (lst1 a.2.2.2).1 := by rw [← htl, htt]
  have e1 := c143l (d := d + 2) (A := A) (b := b) (h := h) (X := X) (J := J) (R := R) (n := n) (w := w) hi hA o3 hm h7 (fun j hj hz => hb j _ hj (hat j (by omega)) hz) (lst1 a.2.2.2).2 0 none (by omega)
  generalize hmi : (lst1 a.2.2.2).2 = m at *
  obtain ⟨I1, e2, hA1, on1⟩ := cDropT (d := d + 1) (A := A) (b := b) (h' := h) (X := X) (J := J) (R := R) (n := n) (i := m) hi hA o3 hm
  obtain ⟨wp, fp, gp⟩ := wC_put hw hW hkl on1 hA1
  have j0 : I1 (R (w + 8) k) 0 = a.1.1 := (iC_01 hA1).1
  have j1 : I1 (R (w + 8) k) 1 = a.1.2.1 := (iC_01 hA1).2.1
  obtain ⟨I2, e3, w2, f2, g2, _⟩ := cAdd (d := d + 1) (A := A) (b := b) (h := h) (X := X) (J := J) (n := n) (kd := 6) (id := a.1.1) (x := I (R (w + 8) k + 6) m) (v := 0) (o := a.1.2.1) (pe := -2) hw wp
  have hx : ¬ (((6 : Int32) = 0 ∨ (6 : Int32) = 1) ∧ ¬ (-2 : Int32) = -2) := by decide
  rw [if_neg hx] at w2
  have hk2 : (aPut k (aDropT m a) W).1[k]? = some (aDropT m a) := aPut_at hkl
  have hA2 := w2.1.2.2.2 k (aDropT m a) hk2
  have l0 : I2 (R (w + 8) k) 0 = a.1.1 := (iC_01 hA2).1
  have hgx : (a.2.2.2.getD m (cN (-1), 0)).1 = cN (I (R (w + 8) k + 6) m) := by rw [List.getD_eq_getElem?_getD, ht, htt]; rfl
  have e6 : I (R (w + 8) k + 6) m = I (R (w + 8) k + 6) m := rfl
  simp only [LI0, LI1, LI2, LI3, LI4, LI5, LI6, LI7, LI8, LI9, LI10, LI11, LI12, LI13, LI14, LI15, LI16, LI17, LI18, LI19, LI20, LI21, LI22, LI23, LI24, LI25, LI26, LI27, LI28, LI29, LI30, LI31, LI32, LI33, LI34, LI35, LI36, LI37, LI40, LI42, LI43, LI45, LI48, LI60, LI61, LI64, LI80, LI300, LI400, LI1000, LI2000, LI2001, LI2047, LI2048, LI100000, LI1000000, LM] at e3
  by_cases h8 : a.2.2.1.length < 8
  · obtain ⟨I3, e4, w3, f3, _⟩ := cAcc (d := d + 1) (A := A) (b := b) (h := h) (X := X) (J := J) (n := n) (x := I (R (w + 8) k + 6) m) (v := 0) (f := a.1.1) (o := -2) hw w2 hk2 h8
    simp only [LI0, LI1, LI2, LI3, LI4, LI5, LI6, LI7, LI8, LI9, LI10, LI11, LI12, LI13, LI14, LI15, LI16, LI17, LI18, LI19, LI20, LI21, LI22, LI23, LI24, LI25, LI26, LI27, LI28, LI29, LI30, LI31, LI32, LI33, LI34, LI35, LI36, LI37, LI40, LI42, LI43, LI45, LI48, LI60, LI61, LI64, LI80, LI300, LI400, LI1000, LI2000, LI2001, LI2047, LI2048, LI100000, LI1000000, LM] at e4
    refine ⟨I3, ?_, ?_, fC_trans fp (fC_trans f2 f3)⟩
    · simp (disch := omega) [je143, r143_0, r143_1, r143_4, r143_5, r143_6, r143_8, r143_9, r143_12, r143_13, r143_14, r143_17, r143_18, r143_19, r143_22, r143_23, r143_26, r143_27, r143_28, r143_29, r143_32, r143_35, r143_38, r143_39, r143_42, r143_43, r143_44, r143_46, r143_47, r143_48, r143_51, r143_52, r143_55, r143_57, r143_58, r143_61, r143_63, r143_64, r143_65, r143_68, r143_70, r143_73, r143_74, r143_76, r143_77, r143_78, r143_81, r143_83, r143_86, r143_89, r143_90, r143_91, r143_94, r143_96, r143_97, r143_100, qa142, gI0 hi, vf2_12, vf2_14, tI0_14 hi, gI7 hi, vf2_13, tI0_13 hi, gI6 hi, qa22, qo22, gW0 hw, vf9_1, tW0_1 hw, vf2_0, vf2_1, qa102, qo102, gW1 hw, qa18, qo18, qa134, qo134, List.getElem?_cons_zero, List.getElem?_cons_succ, List.length_cons, List.length_nil, ag_nx, ag_dn, ag_no, ag_if, jbr1, jbr2, jc1, jc2, jnul, jld, jsto, jstoL, jst1, jst2, jkill, jinc, jbI, jbL, jbS, juI, jl2i, jcmp, jisR, jisI, jisL, jret, jretv, jfits, jdup, jdup2, jpop, jmm, jcat, Value.category, jinv, jrcv, jthr, jhd, jput, jget, jlen, jald, jast, jaast, jgI, jgL, jgB, jtab, jlku, jacp, vf20, vf21, vf22, vf23, vf24, u2_s, u2_k, u2_i, uc_s, uc_k, uc_c, u2_c, LI0, LI1, LI2, LI3, LI4, LI5, LI6, LI7, LI8, LI9, LI10, LI11, LI12, LI13, LI14, LI15, LI16, LI17, LI18, LI19, LI20, LI21, LI22, LI23, LI24, LI25, LI26, LI27, LI28, LI29, LI30, LI31, LI32, LI33, LI34, LI35, LI36, LI37, LI40, LI42, LI43, LI45, LI48, LI60, LI61, LI64, LI80, LI300, LI400, LI1000, LI2000, LI2001, LI2047, LI2048, LI100000, LI1000000, LM, nI_clamp, nI_pos', nI_lt, nI_nlt, nI_le, nI_ge, nI_ne, nI_add, nI_sub, mI_lt, mI_le, mI_nlt, mI_nle, mI_ne, mI_ne', mI_nem, e0, e1, e2, e3, e4, j0, j1, l0, show m < 4 by omega]
    · unfold aFire
      rw [aAt_of hk]
      simp only
      rw [if_pos (show (aDropT m a).2.2.1.length < 8 from h8), hgx]
      have e : ∀ (e : aE Nm) (x y : aI Nm), aPut k y (aAdd (decide (w = 57)) e (aPut k x W)) = aAdd (decide (w = 57)) e (aPut k y W) := by
        intro e x y
        show (((W.1.set k x).set k y, W.2.1, aEv _ e W.2.2.1, W.2.2.2) : aW Nm) = (W.1.set k y, W.2.1, aEv _ e W.2.2.1, W.2.2.2)
        simp
      rw [e] at w3
      exact w3
  · have h8' : a.2.2.1.length = 8 := by omega
    have e4 := cAccN (d := d + 1) (A := A) (b := b) (h := h) (X := X) (J := J) (n := n) (x := I (R (w + 8) k + 6) m) (v := 0) (f := a.1.1) (o := -2) hw w2 hk2 h8'
    obtain ⟨I3, e5, w3, f3, _⟩ := cLose (d := d) (A := A) (b := b) (h := h) (X := X) (J := J) (n := n) (id := a.1.1) (x := I (R (w + 8) k + 6) m) (v := 0) hw w2
    simp only [LI0, LI1, LI2, LI3, LI4, LI5, LI6, LI7, LI8, LI9, LI10, LI11, LI12, LI13, LI14, LI15, LI16, LI17, LI18, LI19, LI20, LI21, LI22, LI23, LI24, LI25, LI26, LI27, LI28, LI29, LI30, LI31, LI32, LI33, LI34, LI35, LI36, LI37, LI40, LI42, LI43, LI45, LI48, LI60, LI61, LI64, LI80, LI300, LI400, LI1000, LI2000, LI2001, LI2047, LI2048, LI100000, LI1000000, LM] at e4 e5
    refine ⟨I3, ?_, ?_, fC_trans fp (fC_trans f2 f3)⟩
    · simp (disch := omega) [je143, r143_0, r143_1, r143_4, r143_5, r143_6, r143_8, r143_9, r143_12, r143_13, r143_14, r143_17, r143_18, r143_19, r143_22, r143_23, r143_26, r143_27, r143_28, r143_29, r143_32, r143_35, r143_38, r143_39, r143_42, r143_43, r143_44, r143_46, r143_47, r143_48, r143_51, r143_52, r143_55, r143_57, r143_58, r143_61, r143_63, r143_64, r143_65, r143_68, r143_70, r143_73, r143_74, r143_76, r143_77, r143_78, r143_81, r143_83, r143_86, r143_89, r143_90, r143_91, r143_94, r143_96, r143_97, r143_100, qa142, gI0 hi, vf2_12, vf2_14, tI0_14 hi, gI7 hi, vf2_13, tI0_13 hi, gI6 hi, qa22, qo22, gW0 hw, vf9_1, tW0_1 hw, vf2_0, vf2_1, qa102, qo102, gW1 hw, qa18, qo18, qa134, qo134, List.getElem?_cons_zero, List.getElem?_cons_succ, List.length_cons, List.length_nil, ag_nx, ag_dn, ag_no, ag_if, jbr1, jbr2, jc1, jc2, jnul, jld, jsto, jstoL, jst1, jst2, jkill, jinc, jbI, jbL, jbS, juI, jl2i, jcmp, jisR, jisI, jisL, jret, jretv, jfits, jdup, jdup2, jpop, jmm, jcat, Value.category, jinv, jrcv, jthr, jhd, jput, jget, jlen, jald, jast, jaast, jgI, jgL, jgB, jtab, jlku, jacp, vf20, vf21, vf22, vf23, vf24, u2_s, u2_k, u2_i, uc_s, uc_k, uc_c, u2_c, LI0, LI1, LI2, LI3, LI4, LI5, LI6, LI7, LI8, LI9, LI10, LI11, LI12, LI13, LI14, LI15, LI16, LI17, LI18, LI19, LI20, LI21, LI22, LI23, LI24, LI25, LI26, LI27, LI28, LI29, LI30, LI31, LI32, LI33, LI34, LI35, LI36, LI37, LI40, LI42, LI43, LI45, LI48, LI60, LI61, LI64, LI80, LI300, LI400, LI1000, LI2000, LI2001, LI2047, LI2048, LI100000, LI1000000, LM, nI_clamp, nI_pos', nI_lt, nI_nlt, nI_le, nI_ge, nI_ne, nI_add, nI_sub, mI_lt, mI_le, mI_nlt, mI_nle, mI_ne, mI_ne', mI_nem, e0, e1, e2, e3, e4, e5, j0, j1, l0, show m < 4 by omega]
    · unfold aFire
      rw [aAt_of hk]
      simp only
      rw [if_neg (show ¬ (aDropT m a).2.2.1.length < 8 from h8), hgx]
      exact w3
end CTM
