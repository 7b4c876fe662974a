/-! the reference: time goes on -/
theorem nI_dif {a b : Nat} (ha : a < 2 ^ 31) (hb : b < 2 ^ 31) : (nI a - nI b).toInt = (a : Int) - b := by
  rw [Int32.toInt_sub, nI_toInt ha, nI_toInt hb]
  apply Int.bmod_eq_of_le <;> omega
theorem nI_dlt {a b : Nat} (ha : a < 2 ^ 31) (hb : b < 2 ^ 31) : nI a - nI b < nI 0 ↔ a < b := by
  rw [Int32.lt_iff_toInt_lt, nI_dif ha hb, nI_toInt (by omega)]
  omega
theorem nI_dgt {a b : Nat} (ha : a < 2 ^ 31) (hb : b < 2 ^ 31) : nI 0 < nI a - nI b ↔ b < a := by
  rw [Int32.lt_iff_toInt_lt, nI_dif ha hb, nI_toInt (by omega)]
  omega
theorem nI_dge {a b : Nat} (ha : a < 2 ^ 31) (hb : b < 2 ^ 31) : nI 0 ≤ nI a - nI b ↔ b ≤ a := by
  rw [Int32.le_iff_toInt_le, nI_dif ha hb, nI_toInt (by omega)]
  omega
/-- what is due first, at the reference -/
def duF (I : Nat → Nat → Int32) (z : Option (Int32 × Nat × Nat)) : Prop := match z with
  | none => I 241 73 = mI 1
  | some y => I 241 72 = y.1 ∧ I 241 73 = nI y.2.1 ∧ I 241 74 = nI y.2.2
def onQ (I I' : Nat → Nat → Int32) : Prop := (∀ c i, c ≠ 241 → I' c i = I c i) ∧ ∀ i, i < 72 ∨ 74 < i → I' 241 i = I 241 i
theorem onQ_refl {I : Nat → Nat → Int32} : onQ I I := ⟨fun _ _ _ => rfl, fun _ _ => rfl⟩
theorem onQ_trans {I I1 I2 : Nat → Nat → Int32} (h : onQ I I1) (h2 : onQ I1 I2) : onQ I I2 := ⟨fun c i hc => (h2.1 c i hc).trans (h.1 c i hc), fun i hi => (h2.2 i hi).trans (h.2 i hi)⟩
def tmO (D : Nat) (x : Int32) : Prop := ∃ q, x = nI q ∧ q ≤ D + 1000000
section RFD
variable {A : Nat → Nat} {d b n k : Nat} {h : Nat → Option jC} {X : jXX} {I : Nat → Nat → Int32} {J : Nat → Nat → Int64} {R : Nat → Nat → Nat} {rN : Int32 → Nm} {l : Bool} {W : aW Nm} {a : aI Nm} {D : Nat}
theorem r240a (k8 : k < 8) (hA : iR rN I k a) (hT : a.2.2.2.length ≤ 4) (hD : D + 1000000 < 2 ^ 31 - 1) (hd : ∀ t, t ∈ a.2.2.2 → tmO D t.2) : ∀ (ts : List (Nm × Int32)) (i : Nat) (z : Option (Int32 × Nat × Nat)) (I1 : Nat → Nat → Int32) (c3 : Option Value), i + ts.length = a.2.2.2.length → (∀ j, ts[j]? = a.2.2.2[i + j]?) → onQ I I1 → duF I1 z → (∀ y, z = some y → tmO D y.1 ∧ y.2.1 ≤ 8 ∧ y.2.2 ≤ 4) → ∃ I2 c3', M240 A d 17 [some (.ref (b + 241)), some (.int (nI k)), some (.int (nI i)), c3] [] (jH h b X I1 J R n) = M240 A d 78 [some (.ref (b + 241)), some (.int (nI k)), some (.int (nI a.2.2.2.length)), c3'] [] (jH h b X I2 J R n) ∧ onQ I I2 ∧ duF I2 (aDueT k ts i z) ∧ ∀ y, aDueT k ts i z = some y → tmO D y.1 ∧ y.2.1 ≤ 8 ∧ y.2.2 ≤ 4 := by
  intro ts
  induction ts with
  | nil =>
    intro i z I1 c3 hl _ ho hz hb
    have : i = a.2.2.2.length := by simpa using hl
    subst this
    have h12 : I1 272 k = nI a.2.2.2.length := (ho.1 _ _ (by omega)).trans hA.2.2.2.2.1
    refine ⟨I1, c3, ?_, ho, hz, hb⟩
    rw [r240_17]
    simp (disch := omega) [r240_18, r240_19, r240_22, r240_23, r240_24, g241, p241_73, ty12_73, vf12_36, vf12_54, t241_54, g272, vf12_56, t241_56, g274, vf12_73, vf12_72, p241_72, ty12_72, p241_74, ty12_74, List.getElem?_cons_zero, List.getElem?_cons_succ, List.length_cons, List.length_nil, ag_nx, ag_dn, ag_no, ag_if, jbr1, jbr2, jc1, jc2, jnul, jld, jsto, jstoL, jst1, jst2, jkill, jinc, jbI, jbL, jbS, juI, jl2i, jcmp, jisR, jisI, jisL, jret, jretv, jfits, jdup, jdup2, jpop, jmm, jcat, Value.category, jinv, jrcv, jthr, jhd, jput, jget, jlen, jald, jast, jaast, jgI, jgL, jgB, jtab, jlku, jacp, vf20, vf21, vf22, vf23, vf24, u2_s, u2_k, u2_i, uc_s, uc_k, uc_c, u2_c, LI0, LI1, LI2, LI3, LI4, LI5, LI6, LI7, LI8, LI9, LI10, LI11, LI12, LI13, LI14, LI15, LI16, LI17, LI18, LI19, LI20, LI21, LI22, LI23, LI24, LI25, LI26, LI27, LI28, LI29, LI30, LI31, LI32, LI33, LI34, LI35, LI36, LI37, LI40, LI42, LI43, LI45, LI48, LI60, LI61, LI64, LI80, LI300, LI400, LI1000, LI2000, LI2001, LI2047, LI2048, LI100000, LI1000000, LM, nI_clamp, nI_pos', nI_lt, nI_nlt, nI_le, nI_ge, nI_ne, nI_add, nI_sub, mI_lt, mI_le, mI_nlt, mI_nle, mI_ne, mI_ne', mI_nem, h12, k8]
  | cons t ts ih =>
    intro i z I1 c3 hl hts ho hz hb
    have hil : i < a.2.2.2.length := by simp at hl; omega
    have ht : a.2.2.2[i]? = some t := by
      have := hts 0
      simpa using this.symm
    have h12 : I1 272 k = nI a.2.2.2.length := (ho.1 _ _ (by omega)).trans hA.2.2.2.2.1
    have h7 : I1 274 (4 * k + i) = t.2 := by
      rw [ho.1 _ _ (by omega)]
      rw [hA.2.2.2.2.2, rl_at hil] at ht
      have := Option.some.inj ht
      rw [← this]
    obtain ⟨q, hq, hq2⟩ := hd t (List.mem_of_getElem? ht)
    have hrest : ∀ j, ts[j]? = a.2.2.2[i + 1 + j]? := fun j => by
      have := hts (j + 1)
      rw [show i + 1 + j = i + (j + 1) by omega]
      simpa using this
    have put : ∃ I2, I2 = u2 (u2 (u2 I1 241 72 t.2) 241 73 (nI k)) 241 74 (nI i) := ⟨_, rfl⟩
    obtain ⟨I2, hI2⟩ := put
    have o2 : onQ I I2 := onQ_trans ho (by rw [hI2]; exact ⟨fun c j hc => by rw [u2_k hc, u2_k hc, u2_k hc], fun j hj => by rw [u2_i (by omega), u2_i (by omega), u2_i (by omega)]⟩)
    have z2 : duF I2 (some (t.2, k, i)) := by
      rw [hI2]
      exact ⟨by rw [u2_i (by omega), u2_i (by omega), u2_s], by rw [u2_i (by omega), u2_s], u2_s⟩
    have b2 : ∀ y, some (t.2, k, i) = some y → tmO D y.1 ∧ y.2.1 ≤ 8 ∧ y.2.2 ≤ 4 := fun y hy => by
      cases hy
      exact ⟨⟨q, hq, hq2⟩, show k ≤ 8 by omega, show i ≤ 4 by omega⟩
    unfold aDueT
    cases z with
    | none =>
      have hz' : I1 241 73 = mI 1 := hz
      obtain ⟨I3, c3', e3, p3⟩ := ih (i + 1) (some (t.2, k, i)) I2 (some (.int t.2)) (by simp at hl; omega) hrest o2 z2 b2
      refine ⟨I3, c3', ?_, p3⟩
      rw [hI2] at e3
      rw [r240_17]
      simp (disch := omega) [r240_0, r240_1, r240_2, r240_5, r240_6, r240_7, r240_8, r240_9, r240_12, r240_15, r240_16, r240_18, r240_19, r240_22, r240_23, r240_24, r240_27, r240_28, r240_31, r240_32, r240_33, r240_34, r240_35, r240_36, r240_37, r240_38, r240_39, r240_42, r240_45, r240_46, r240_47, r240_50, r240_51, r240_54, r240_57, r240_58, r240_59, r240_62, r240_63, r240_64, r240_67, r240_68, r240_69, r240_72, r240_75, r240_81, r240_84, r240_85, r240_88, r240_91, r240_92, r240_95, r240_96, g241, p241_73, ty12_73, vf12_36, vf12_54, t241_54, g272, vf12_56, t241_56, g274, vf12_73, vf12_72, p241_72, ty12_72, p241_74, ty12_74, List.getElem?_cons_zero, List.getElem?_cons_succ, List.length_cons, List.length_nil, ag_nx, ag_dn, ag_no, ag_if, jbr1, jbr2, jc1, jc2, jnul, jld, jsto, jstoL, jst1, jst2, jkill, jinc, jbI, jbL, jbS, juI, jl2i, jcmp, jisR, jisI, jisL, jret, jretv, jfits, jdup, jdup2, jpop, jmm, jcat, Value.category, jinv, jrcv, jthr, jhd, jput, jget, jlen, jald, jast, jaast, jgI, jgL, jgB, jtab, jlku, jacp, vf20, vf21, vf22, vf23, vf24, u2_s, u2_k, u2_i, uc_s, uc_k, uc_c, u2_c, LI0, LI1, LI2, LI3, LI4, LI5, LI6, LI7, LI8, LI9, LI10, LI11, LI12, LI13, LI14, LI15, LI16, LI17, LI18, LI19, LI20, LI21, LI22, LI23, LI24, LI25, LI26, LI27, LI28, LI29, LI30, LI31, LI32, LI33, LI34, LI35, LI36, LI37, LI40, LI42, LI43, LI45, LI48, LI60, LI61, LI64, LI80, LI300, LI400, LI1000, LI2000, LI2001, LI2047, LI2048, LI100000, LI1000000, LM, nI_clamp, nI_pos', nI_lt, nI_nlt, nI_le, nI_ge, nI_ne, nI_add, nI_sub, mI_lt, mI_le, mI_nlt, mI_nle, mI_ne, mI_ne', mI_nem, nI_mul, Nat.mul_comm k 4, h12, h7, hz', e3, k8, show 4 * k + i < 32 by omega]
    | some y =>
      obtain ⟨y72, y73, y74⟩ := hz
      obtain ⟨⟨q', hq', hq2'⟩, hy8, _⟩ := hb y rfl
      simp only
      by_cases hc : t.2 < y.1
      · rw [if_pos hc]
        obtain ⟨I3, c3', e3, p3⟩ := ih (i + 1) (some (t.2, k, i)) I2 (some (.int t.2)) (by simp at hl; omega) hrest o2 z2 b2
        refine ⟨I3, c3', ?_, p3⟩
        rw [hI2] at e3
        rw [hq] at e3 h7
        rw [hq'] at y72
        have hqq : q < q' := by rw [hq, hq', nI_ltI (by omega) (by omega)] at hc; exact hc
        have hs : nI q - nI q' < nI 0 := (nI_dlt (by omega) (by omega)).mpr hqq
        rw [r240_17]
        simp (disch := omega) [r240_0, r240_1, r240_2, r240_5, r240_6, r240_7, r240_8, r240_9, r240_12, r240_15, r240_16, r240_18, r240_19, r240_22, r240_23, r240_24, r240_27, r240_28, r240_31, r240_32, r240_33, r240_34, r240_35, r240_36, r240_37, r240_38, r240_39, r240_42, r240_45, r240_46, r240_47, r240_50, r240_51, r240_54, r240_57, r240_58, r240_59, r240_62, r240_63, r240_64, r240_67, r240_68, r240_69, r240_72, r240_75, r240_81, r240_84, r240_85, r240_88, r240_91, r240_92, r240_95, r240_96, g241, p241_73, ty12_73, vf12_36, vf12_54, t241_54, g272, vf12_56, t241_56, g274, vf12_73, vf12_72, p241_72, ty12_72, p241_74, ty12_74, List.getElem?_cons_zero, List.getElem?_cons_succ, List.length_cons, List.length_nil, ag_nx, ag_dn, ag_no, ag_if, jbr1, jbr2, jc1, jc2, jnul, jld, jsto, jstoL, jst1, jst2, jkill, jinc, jbI, jbL, jbS, juI, jl2i, jcmp, jisR, jisI, jisL, jret, jretv, jfits, jdup, jdup2, jpop, jmm, jcat, Value.category, jinv, jrcv, jthr, jhd, jput, jget, jlen, jald, jast, jaast, jgI, jgL, jgB, jtab, jlku, jacp, vf20, vf21, vf22, vf23, vf24, u2_s, u2_k, u2_i, uc_s, uc_k, uc_c, u2_c, LI0, LI1, LI4, LM, nI_clamp, nI_pos', nI_lt, nI_nlt, nI_le, nI_ge, nI_add, mI_lt, mI_nle, nI_mul, Nat.mul_comm k 4, h12, h7, y72, y73, hs, e3, k8, show 4 * k + i < 32 by omega]
      · rw [if_neg hc]
        obtain ⟨I3, c3', e3, p3⟩ := ih (i + 1) (some y) I1 (some (.int t.2)) (by simp at hl; omega) hrest ho ⟨y72, y73, y74⟩ hb
        refine ⟨I3, c3', ?_, p3⟩
        rw [hq] at e3 h7
        rw [hq'] at y72
        have hqq : ¬ q < q' := by rw [hq, hq', nI_ltI (by omega) (by omega)] at hc; exact hc
        have hs : ¬ nI q - nI q' < nI 0 := fun z => hqq ((nI_dlt (by omega) (by omega)).mp z)
        rw [r240_17]
        simp (disch := omega) [r240_0, r240_1, r240_2, r240_5, r240_6, r240_7, r240_8, r240_9, r240_12, r240_15, r240_16, r240_18, r240_19, r240_22, r240_23, r240_24, r240_27, r240_28, r240_31, r240_32, r240_33, r240_34, r240_35, r240_36, r240_37, r240_38, r240_39, r240_42, r240_45, r240_46, r240_47, r240_50, r240_51, r240_54, r240_57, r240_58, r240_59, r240_62, r240_63, r240_64, r240_67, r240_68, r240_69, r240_72, r240_75, r240_81, r240_84, r240_85, r240_88, r240_91, r240_92, r240_95, r240_96, g241, p241_73, ty12_73, vf12_36, vf12_54, t241_54, g272, vf12_56, t241_56, g274, vf12_73, vf12_72, p241_72, ty12_72, p241_74, ty12_74, List.getElem?_cons_zero, List.getElem?_cons_succ, List.length_cons, List.length_nil, ag_nx, ag_dn, ag_no, ag_if, jbr1, jbr2, jc1, jc2, jnul, jld, jsto, jstoL, jst1, jst2, jkill, jinc, jbI, jbL, jbS, juI, jl2i, jcmp, jisR, jisI, jisL, jret, jretv, jfits, jdup, jdup2, jpop, jmm, jcat, Value.category, jinv, jrcv, jthr, jhd, jput, jget, jlen, jald, jast, jaast, jgI, jgL, jgB, jtab, jlku, jacp, vf20, vf21, vf22, vf23, vf24, u2_s, u2_k, u2_i, uc_s, uc_k, uc_c, u2_c, LI0, LI1, LI4, LM, nI_clamp, nI_pos', nI_lt, nI_nlt, nI_le, nI_ge, nI_add, mI_lt, mI_nle, nI_mul, Nat.mul_comm k 4, h12, h7, y72, y73, hs, e3, k8, show 4 * k + i < 32 by omega]
theorem r240b (hW : wR rN I l W) (ok : okL W.1) (hD : D + 1000000 < 2 ^ 31 - 1) (hd : okD D W) : ∀ (as : List (aI Nm)) (k : Nat) (z : Option (Int32 × Nat × Nat)) (I1 : Nat → Nat → Int32) (c2 c3 : Option Value), k + as.length = W.1.length → (∀ j, as[j]? = W.1[k + j]?) → onQ I I1 → duF I1 z → (∀ y, z = some y → tmO D y.1 ∧ y.2.1 ≤ 8 ∧ y.2.2 ≤ 4) → ∃ I2, M240 A d 7 [some (.ref (b + 241)), some (.int (nI k)), c2, c3] [] (jH h b X I1 J R n) = some (.inl (some (.int (if (aDue as k z).isSome = true then 1 else 0))), jH h b X I2 J R n) ∧ onQ I I2 ∧ duF I2 (aDue as k z) ∧ ∀ y, aDue as k z = some y → tmO D y.1 ∧ y.2.1 ≤ 8 ∧ y.2.2 ≤ 4 := by
  have hl8 := hW.1.1
  intro as
  induction as with
  | nil =>
    intro k z I1 c2 c3 hl _ ho hz hb
    have : k = W.1.length := by simpa using hl
    subst this
    have h3 : I1 241 36 = nI W.1.length := (ho.2 36 (by omega)).trans hW.1.2.1
    refine ⟨I1, ?_, ho, hz, hb⟩
    rw [r240_7]
    cases z with
    | none =>
      have hz' : I1 241 73 = mI 1 := hz
      simp (disch := omega) [r240_0, r240_1, r240_2, r240_5, r240_6, r240_8, r240_9, r240_12, r240_15, r240_16, r240_17, r240_18, r240_19, r240_22, r240_23, r240_24, r240_27, r240_28, r240_31, r240_32, r240_33, r240_34, r240_35, r240_36, r240_37, r240_38, r240_39, r240_42, r240_45, r240_46, r240_47, r240_50, r240_51, r240_54, r240_57, r240_58, r240_59, r240_62, r240_63, r240_64, r240_67, r240_68, r240_69, r240_72, r240_75, r240_78, r240_81, r240_84, r240_85, r240_88, r240_91, r240_92, r240_95, r240_96, g241, p241_73, ty12_73, vf12_36, vf12_54, t241_54, g272, vf12_56, t241_56, g274, vf12_73, vf12_72, p241_72, ty12_72, p241_74, ty12_74, List.getElem?_cons_zero, List.getElem?_cons_succ, List.length_cons, List.length_nil, ag_nx, ag_dn, ag_no, ag_if, jbr1, jbr2, jc1, jc2, jnul, jld, jsto, jstoL, jst1, jst2, jkill, jinc, jbI, jbL, jbS, juI, jl2i, jcmp, jisR, jisI, jisL, jret, jretv, jfits, jdup, jdup2, jpop, jmm, jcat, Value.category, jinv, jrcv, jthr, jhd, jput, jget, jlen, jald, jast, jaast, jgI, jgL, jgB, jtab, jlku, jacp, vf20, vf21, vf22, vf23, vf24, u2_s, u2_k, u2_i, uc_s, uc_k, uc_c, u2_c, LI0, LI1, LI2, LI3, LI4, LI5, LI6, LI7, LI8, LI9, LI10, LI11, LI12, LI13, LI14, LI15, LI16, LI17, LI18, LI19, LI20, LI21, LI22, LI23, LI24, LI25, LI26, LI27, LI28, LI29, LI30, LI31, LI32, LI33, LI34, LI35, LI36, LI37, LI40, LI42, LI43, LI45, LI48, LI60, LI61, LI64, LI80, LI300, LI400, LI1000, LI2000, LI2001, LI2047, LI2048, LI100000, LI1000000, LM, nI_clamp, nI_pos', nI_lt, nI_nlt, nI_le, nI_ge, nI_ne, nI_add, nI_sub, mI_lt, mI_le, mI_nlt, mI_nle, mI_ne, mI_ne', mI_nem, h3, hz', aDue]
    | some y =>
      obtain ⟨_, y73, _⟩ := hz
      have hy8 := (hb y rfl).2.1
      simp (disch := omega) [r240_0, r240_1, r240_2, r240_5, r240_6, r240_8, r240_9, r240_12, r240_15, r240_16, r240_17, r240_18, r240_19, r240_22, r240_23, r240_24, r240_27, r240_28, r240_31, r240_32, r240_33, r240_34, r240_35, r240_36, r240_37, r240_38, r240_39, r240_42, r240_45, r240_46, r240_47, r240_50, r240_51, r240_54, r240_57, r240_58, r240_59, r240_62, r240_63, r240_64, r240_67, r240_68, r240_69, r240_72, r240_75, r240_78, r240_81, r240_84, r240_85, r240_88, r240_91, r240_92, r240_95, r240_96, g241, p241_73, ty12_73, vf12_36, vf12_54, t241_54, g272, vf12_56, t241_56, g274, vf12_73, vf12_72, p241_72, ty12_72, p241_74, ty12_74, List.getElem?_cons_zero, List.getElem?_cons_succ, List.length_cons, List.length_nil, ag_nx, ag_dn, ag_no, ag_if, jbr1, jbr2, jc1, jc2, jnul, jld, jsto, jstoL, jst1, jst2, jkill, jinc, jbI, jbL, jbS, juI, jl2i, jcmp, jisR, jisI, jisL, jret, jretv, jfits, jdup, jdup2, jpop, jmm, jcat, Value.category, jinv, jrcv, jthr, jhd, jput, jget, jlen, jald, jast, jaast, jgI, jgL, jgB, jtab, jlku, jacp, vf20, vf21, vf22, vf23, vf24, u2_s, u2_k, u2_i, uc_s, uc_k, uc_c, u2_c, LI0, LI1, LI2, LI3, LI4, LI5, LI6, LI7, LI8, LI9, LI10, LI11, LI12, LI13, LI14, LI15, LI16, LI17, LI18, LI19, LI20, LI21, LI22, LI23, LI24, LI25, LI26, LI27, LI28, LI29, LI30, LI31, LI32, LI33, LI34, LI35, LI36, LI37, LI40, LI42, LI43, LI45, LI48, LI60, LI61, LI64, LI80, LI300, LI400, LI1000, LI2000, LI2001, LI2047, LI2048, LI100000, LI1000000, LM, nI_clamp, nI_pos', nI_lt, nI_nlt, nI_le, nI_ge, nI_ne, nI_add, nI_sub, mI_lt, mI_le, mI_nlt, mI_nle, mI_ne, mI_ne', mI_nem, h3, y73, aDue]
  | cons a as ih =>
    intro k z I1 c2 c3 hl has ho hz hb
    have hil : k < W.1.length := by simp at hl; omega
    have ha : W.1[k]? = some a := by
      have := has 0
      simpa using this.symm
    have hA := hW.1.2.2 k a ha
    have h3 : I1 241 36 = nI W.1.length := (ho.2 36 (by omega)).trans hW.1.2.1
    have hrest : ∀ j, as[j]? = W.1[k + 1 + j]? := fun j => by
      have := has (j + 1)
      rw [show k + 1 + j = k + (j + 1) by omega]
      simpa using this
    obtain ⟨I2, c3', e1, o2, z2, b2⟩ := r240a (d := d) (A := A) (b := b) (h := h) (X := X) (J := J) (R := R) (n := n) (k := k) (by omega) hA (ok k a ha).2.2.1 hD (hd.2 k a ha) a.2.2.2 0 z I1 c3 (by omega) (fun j => by rw [Nat.zero_add]) ho hz hb
    obtain ⟨I3, e2, p3⟩ := ih (k + 1) (aDueT k a.2.2.2 0 z) I2 (some (.int (nI a.2.2.2.length))) c3' (by simp at hl; omega) hrest o2 z2 b2
    unfold aDue
    refine ⟨I3, ?_, p3⟩
    rw [← e2, r240_7]
    simp (disch := omega) [r240_8, r240_9, r240_12, r240_15, r240_16, g241, vf12_36, List.getElem?_cons_zero, List.getElem?_cons_succ, List.length_cons, List.length_nil, ag_nx, ag_dn, ag_no, ag_if, jbr1, jbr2, jc1, jc2, jnul, jld, jsto, jstoL, jst1, jst2, jkill, jinc, jbI, jbL, jbS, juI, jl2i, jcmp, jisR, jisI, jisL, jret, jretv, jfits, jdup, jdup2, jpop, jmm, jcat, Value.category, jinv, jrcv, jthr, jhd, jput, jget, jlen, jald, jast, jaast, jgI, jgL, jgB, jtab, jlku, jacp, vf20, vf21, vf22, vf23, vf24, u2_s, u2_k, u2_i, uc_s, uc_k, uc_c, u2_c, LI0, LI1, LI2, LI3, LI4, LI5, LI6, LI7, LI8, LI9, LI10, LI11, LI12, LI13, LI14, LI15, LI16, LI17, LI18, LI19, LI20, LI21, LI22, LI23, LI24, LI25, LI26, LI27, LI28, LI29, LI30, LI31, LI32, LI33, LI34, LI35, LI36, LI37, LI40, LI42, LI43, LI45, LI48, LI60, LI61, LI64, LI80, LI300, LI400, LI1000, LI2000, LI2001, LI2047, LI2048, LI100000, LI1000000, LM, nI_clamp, nI_pos', nI_lt, nI_nlt, nI_le, nI_ge, nI_ne, nI_add, nI_sub, mI_lt, mI_le, mI_nlt, mI_nle, mI_ne, mI_ne', mI_nem, h3, e1]
    rw [r240_78]
    simp (disch := omega) [r240_81, List.getElem?_cons_zero, List.getElem?_cons_succ, List.length_cons, List.length_nil, ag_nx, ag_dn, ag_no, ag_if, jbr1, jbr2, jc1, jc2, jnul, jld, jsto, jstoL, jst1, jst2, jkill, jinc, jbI, jbL, jbS, juI, jl2i, jcmp, jisR, jisI, jisL, jret, jretv, jfits, jdup, jdup2, jpop, jmm, jcat, Value.category, jinv, jrcv, jthr, jhd, jput, jget, jlen, jald, jast, jaast, jgI, jgL, jgB, jtab, jlku, jacp, vf20, vf21, vf22, vf23, vf24, u2_s, u2_k, u2_i, uc_s, uc_k, uc_c, u2_c, LI0, LI1, LI2, LI3, LI4, LI5, LI6, LI7, LI8, LI9, LI10, LI11, LI12, LI13, LI14, LI15, LI16, LI17, LI18, LI19, LI20, LI21, LI22, LI23, LI24, LI25, LI26, LI27, LI28, LI29, LI30, LI31, LI32, LI33, LI34, LI35, LI36, LI37, LI40, LI42, LI43, LI45, LI48, LI60, LI61, LI64, LI80, LI300, LI400, LI1000, LI2000, LI2001, LI2047, LI2048, LI100000, LI1000000, LM, nI_clamp, nI_pos', nI_lt, nI_nlt, nI_le, nI_ge, nI_ne, nI_add, nI_sub, mI_lt, mI_le, mI_nlt, mI_nle, mI_ne, mI_ne', mI_nem]
theorem rFind (hW : wR rN I l W) (ok : okL W.1) (hD : D + 1000000 < 2 ^ 31 - 1) (hd : okD D W) : ∃ I2, jcall A jcode (d + 1) 240 [.ref (b + 241)] (jH h b X I J R n) = some (.inl (some (.int (if (aDue W.1 0 none).isSome = true then 1 else 0))), jH h b X I2 J R n) ∧ onQ I I2 ∧ duF I2 (aDue W.1 0 none) ∧ ∀ y, aDue W.1 0 none = some y → tmO D y.1 ∧ y.2.1 ≤ 8 ∧ y.2.2 ≤ 4 := by
  have o1 : onQ I (u2 I 241 73 (mI 1)) := ⟨fun c i hc => u2_k hc, fun i hi => u2_i (by omega)⟩
  obtain ⟨I2, e, p⟩ := r240b (d := d) (A := A) (b := b) (h := h) (X := X) (J := J) (R := R) (n := n) hW ok hD hd W.1 0 none (u2 I 241 73 (mI 1)) none none (by omega) (fun j => by rw [Nat.zero_add]) o1 u2_s (fun y hy => by cases hy)
  refine ⟨I2, ?_, p⟩
  rw [← e]
  simp (disch := omega) [je240, r240_0, r240_1, r240_2, r240_5, r240_6, g241, p241_73, ty12_73, vf12_36, vf12_54, t241_54, g272, vf12_56, t241_56, g274, vf12_73, vf12_72, p241_72, ty12_72, p241_74, ty12_74, List.getElem?_cons_zero, List.getElem?_cons_succ, List.length_cons, List.length_nil, ag_nx, ag_dn, ag_no, ag_if, jbr1, jbr2, jc1, jc2, jnul, jld, jsto, jstoL, jst1, jst2, jkill, jinc, jbI, jbL, jbS, juI, jl2i, jcmp, jisR, jisI, jisL, jret, jretv, jfits, jdup, jdup2, jpop, jmm, jcat, Value.category, jinv, jrcv, jthr, jhd, jput, jget, jlen, jald, jast, jaast, jgI, jgL, jgB, jtab, jlku, jacp, vf20, vf21, vf22, vf23, vf24, u2_s, u2_k, u2_i, uc_s, uc_k, uc_c, u2_c, LI0, LI1, LI2, LI3, LI4, LI5, LI6, LI7, LI8, LI9, LI10, LI11, LI12, LI13, LI14, LI15, LI16, LI17, LI18, LI19, LI20, LI21, LI22, LI23, LI24, LI25, LI26, LI27, LI28, LI29, LI30, LI31, LI32, LI33, LI34, LI35, LI36, LI37, LI40, LI42, LI43, LI45, LI48, LI60, LI61, LI64, LI80, LI300, LI400, LI1000, LI2000, LI2001, LI2047, LI2048, LI100000, LI1000000, LM, nI_clamp, nI_pos', nI_lt, nI_nlt, nI_le, nI_ge, nI_ne, nI_add, nI_sub, mI_lt, mI_le, mI_nlt, mI_nle, mI_ne, mI_ne', mI_nem]
theorem wR_onQ {I' : Nat → Nat → Int32} (ho : onQ I I') (h : wR rN I l W) : wR rN I' l W := ⟨wB_fr (fun c i h1 h2 => ho.1 c i (by omega)) (ho.2 36 (by omega)) h.1, tR_fr (fun c i h1 h2 => ho.1 c i (by omega)) (fun i h1 h2 => ho.2 i (by omega)) h.2⟩
theorem fR_onQ {I' : Nat → Nat → Int32} (ho : onQ I I') : fR I I' := ⟨fun c i hc => ho.1 c i (by omega), fun i hi => ho.2 i (by omega), ho.2 66 (by omega)⟩
/-- what is due first is there -/
theorem aDue_at {W : aW Nm} : ∀ (as : List (aI Nm)) (k : Nat) (z : Option (Int32 × Nat × Nat)), (∀ j, as[j]? = W.1[k + j]?) → (∀ y, z = some y → ∃ a, W.1[y.2.1]? = some a ∧ a.2.2.2 ≠ [] ∧ y.1 = (lst1 a.2.2.2).1 ∧ y.2.2 = (lst1 a.2.2.2).2) → ∀ y, aDue as k z = some y → ∃ a, W.1[y.2.1]? = some a ∧ a.2.2.2 ≠ [] ∧ y.1 = (lst1 a.2.2.2).1 ∧ y.2.2 = (lst1 a.2.2.2).2 := by
  intro as
  induction as with
  | nil => intro k z _ hz y hy; exact hz y hy
  | cons a as ih =>
    intro k z has hz y hy
    have ha : W.1[k]? = some a := by
      have := has 0
      simpa using this.symm
    have hrest : ∀ j, as[j]? = W.1[k + 1 + j]? := fun j => by
      have := has (j + 1)
      rw [show k + 1 + j = k + (j + 1) by omega]
      simpa using this
    unfold aDue at hy
    refine ih (k + 1) _ hrest ?_ y hy
    intro y' hy'
    by_cases hts : a.2.2.2 = []
    · have : aDueT k a.2.2.2 0 z = z := by rw [hts]; rfl
      rw [this] at hy'
      exact hz y' hy'
    · cases z with
      | none =>
        rw [aDueT_none, if_neg hts] at hy'
        cases hy'
        exact ⟨a, ha, hts, rfl, rfl⟩
      | some z =>
        rw [aDueT_c, if_neg hts] at hy'
        by_cases hc : (lst1 a.2.2.2).1 < z.1
        · rw [if_pos hc] at hy'
          cases hy'
          exact ⟨a, ha, hts, rfl, rfl⟩
        · rw [if_neg hc] at hy'
          exact hz y' hy'
theorem r241l {N : Nat → Nat → Int32} {np B : Nat} (h6 : np ≤ 6) (hlv : ∀ p, p < np → (lets N p).length ≤ 6) (hD : D + 1000000 < 2 ^ 31 - 1) : ∀ (r c : Nat) (W : aW Nm) (I : Nat → Nat → Int32) (c2 c3 : Option Value), c + r = 32 → tcnt W ≤ r → wR rN I l W → okW N np B W → okD D W → ∃ I', M241 A (d + 3) 2 [some (.ref (b + 241)), some (.int (nI c)), c2, c3] [] (jH h b X I J R n) = some (.inl (some (.int (nI c + (aTime rN l (r + 1) W).1))), jH h b X I' J R n) ∧ wR rN I' l (aTime rN l (r + 1) W).2 ∧ fR I I' := by
  intro r
  induction r with
  | zero =>
    intro c W I c2 c3 hcr ht hW hok hd
    have okl := okW_L h6 hlv hok
    have hdue : aDue W.1 0 none = none := by
      cases hx : aDue W.1 0 none with
      | none => rfl
      | some y =>
        exfalso
        obtain ⟨a, ha, hne, _⟩ := aDue_at (W := W) W.1 0 none (fun j => by rw [Nat.zero_add]) (fun y hy => by cases hy) y hx
        have : a.2.2.2.length ≤ tcnt W := by
          unfold tcnt
          have := sum_set (fun a : aI Nm => a.2.2.2.length) W.1 y.2.1 a ((0, 0, 0, 0, 0, 0), [], [], []) ha
          simp at this
          omega
        have hp := List.length_pos_iff.mpr hne
        omega
    have ea : aTime rN l (0 + 1) W = (0, W) := by
      simp only [aTime, hdue]
    rw [ea]
    obtain ⟨I2, e2, o2, _⟩ := rFind (d := d + 2) (A := A) (b := b) (h := h) (X := X) (J := J) (R := R) (n := n) hW okl hD hd
    rw [hdue] at e2
    simp only [Option.isSome, Bool.false_eq_true, if_false] at e2
    simp only [LI0, LI1, LI2, LI3, LI4, LI5, LI6, LI7, LI8, LI9, LI10, LI11, LI12, LI13, LI14, LI15, LI16, LI17, LI18, LI19, LI20, LI21, LI22, LI23, LI24, LI25, LI26, LI27, LI28, LI29, LI30, LI31, LI32, LI33, LI34, LI35, LI36, LI37, LI40, LI42, LI43, LI45, LI48, LI60, LI61, LI64, LI80, LI300, LI400, LI1000, LI2000, LI2001, LI2047, LI2048, LI100000, LI1000000, LM] at e2
    refine ⟨I2, ?_, wR_onQ o2 hW, fR_onQ o2⟩
    have hz : nI c + 0 = nI c := Int32.add_zero _
    rw [hz, r241_2]
    simp (disch := omega) [r241_0, r241_1, r241_3, r241_6, r241_9, r241_10, r241_13, r241_14, r241_17, r241_18, r241_21, r241_22, r241_25, r241_26, r241_27, r241_30, r241_31, r241_32, r241_33, r241_34, r241_37, r241_38, r241_39, r241_40, r241_41, r241_42, r241_43, r241_46, r241_49, r241_50, r241_52, r241_53, r241_56, r241_57, r241_58, r241_59, r241_60, r241_61, r241_62, r241_65, r241_66, r241_67, r241_68, r241_69, r241_70, r241_73, r241_74, r241_75, r241_77, r241_80, r241_83, r241_84, r241_85, r241_88, r241_89, r241_90, r241_91, r241_92, r241_95, r241_98, r241_101, r241_102, qa240, qo240, g241, vf12_72, vf12_38, vf12_73, vf12_55, t241_55, g273, vf12_74, qa233, qo233, vf12_42, t241_42, g260, qa218, qo218, qa226, qo226, qa219, qo219, List.getElem?_cons_zero, List.getElem?_cons_succ, List.length_cons, List.length_nil, ag_nx, ag_dn, ag_no, ag_if, jbr1, jbr2, jc1, jc2, jnul, jld, jsto, jstoL, jst1, jst2, jkill, jinc, jbI, jbL, jbS, juI, jl2i, jcmp, jisR, jisI, jisL, jret, jretv, jfits, jdup, jdup2, jpop, jmm, jcat, Value.category, jinv, jrcv, jthr, jhd, jput, jget, jlen, jald, jast, jaast, jgI, jgL, jgB, jtab, jlku, jacp, vf20, vf21, vf22, vf23, vf24, u2_s, u2_k, u2_i, uc_s, uc_k, uc_c, u2_c, LI0, LI1, LI2, LI3, LI4, LI5, LI6, LI7, LI8, LI9, LI10, LI11, LI12, LI13, LI14, LI15, LI16, LI17, LI18, LI19, LI20, LI21, LI22, LI23, LI24, LI25, LI26, LI27, LI28, LI29, LI30, LI31, LI32, LI33, LI34, LI35, LI36, LI37, LI40, LI42, LI43, LI45, LI48, LI60, LI61, LI64, LI80, LI300, LI400, LI1000, LI2000, LI2001, LI2047, LI2048, LI100000, LI1000000, LM, nI_clamp, nI_pos', nI_lt, nI_nlt, nI_le, nI_ge, nI_ne, nI_add, nI_sub, mI_lt, mI_le, mI_nlt, mI_nle, mI_ne, mI_ne', mI_nem, e2]
  | succ r ih =>
    intro c W I c2 c3 hcr ht hW hok hd
    have okl := okW_L h6 hlv hok
    obtain ⟨I2, e2, o2, z2, b2⟩ := rFind (d := d + 2) (A := A) (b := b) (h := h) (X := X) (J := J) (R := R) (n := n) hW okl hD hd
    have w2 := wR_onQ o2 hW
    cases hx : aDue W.1 0 none with
    | none =>
      have ea : aTime rN l (r + 1 + 1) W = (0, W) := by
        simp only [aTime, hx]
      rw [ea]
      rw [hx] at e2
      simp only [Option.isSome, Bool.false_eq_true, if_false] at e2
      simp only [LI0, LI1, LI2, LI3, LI4, LI5, LI6, LI7, LI8, LI9, LI10, LI11, LI12, LI13, LI14, LI15, LI16, LI17, LI18, LI19, LI20, LI21, LI22, LI23, LI24, LI25, LI26, LI27, LI28, LI29, LI30, LI31, LI32, LI33, LI34, LI35, LI36, LI37, LI40, LI42, LI43, LI45, LI48, LI60, LI61, LI64, LI80, LI300, LI400, LI1000, LI2000, LI2001, LI2047, LI2048, LI100000, LI1000000, LM] at e2
      refine ⟨I2, ?_, w2, fR_onQ o2⟩
      have hz : nI c + 0 = nI c := Int32.add_zero _
      rw [hz, r241_2]
      simp (disch := omega) [r241_0, r241_1, r241_3, r241_6, r241_9, r241_10, r241_13, r241_14, r241_17, r241_18, r241_21, r241_22, r241_25, r241_26, r241_27, r241_30, r241_31, r241_32, r241_33, r241_34, r241_37, r241_38, r241_39, r241_40, r241_41, r241_42, r241_43, r241_46, r241_49, r241_50, r241_52, r241_53, r241_56, r241_57, r241_58, r241_59, r241_60, r241_61, r241_62, r241_65, r241_66, r241_67, r241_68, r241_69, r241_70, r241_73, r241_74, r241_75, r241_77, r241_80, r241_83, r241_84, r241_85, r241_88, r241_89, r241_90, r241_91, r241_92, r241_95, r241_98, r241_101, r241_102, qa240, qo240, g241, vf12_72, vf12_38, vf12_73, vf12_55, t241_55, g273, vf12_74, qa233, qo233, vf12_42, t241_42, g260, qa218, qo218, qa226, qo226, qa219, qo219, List.getElem?_cons_zero, List.getElem?_cons_succ, List.length_cons, List.length_nil, ag_nx, ag_dn, ag_no, ag_if, jbr1, jbr2, jc1, jc2, jnul, jld, jsto, jstoL, jst1, jst2, jkill, jinc, jbI, jbL, jbS, juI, jl2i, jcmp, jisR, jisI, jisL, jret, jretv, jfits, jdup, jdup2, jpop, jmm, jcat, Value.category, jinv, jrcv, jthr, jhd, jput, jget, jlen, jald, jast, jaast, jgI, jgL, jgB, jtab, jlku, jacp, vf20, vf21, vf22, vf23, vf24, u2_s, u2_k, u2_i, uc_s, uc_k, uc_c, u2_c, LI0, LI1, LI2, LI3, LI4, LI5, LI6, LI7, LI8, LI9, LI10, LI11, LI12, LI13, LI14, LI15, LI16, LI17, LI18, LI19, LI20, LI21, LI22, LI23, LI24, LI25, LI26, LI27, LI28, LI29, LI30, LI31, LI32, LI33, LI34, LI35, LI36, LI37, LI40, LI42, LI43, LI45, LI48, LI60, LI61, LI64, LI80, LI300, LI400, LI1000, LI2000, LI2001, LI2047, LI2048, LI100000, LI1000000, LM, nI_clamp, nI_pos', nI_lt, nI_nlt, nI_le, nI_ge, nI_ne, nI_add, nI_sub, mI_lt, mI_le, mI_nlt, mI_nle, mI_ne, mI_ne', mI_nem, e2]
    | some y =>
      obtain ⟨a, ha, hne, hy1, hy2⟩ := aDue_at (W := W) W.1 0 none (fun j => by rw [Nat.zero_add]) (fun y hy => by cases hy) y hx
      rw [hx] at e2 z2
      obtain ⟨t72, t73, t74⟩ := z2
      obtain ⟨⟨q, hq, hq2⟩, _, _⟩ := b2 y hx
      obtain ⟨qn, hqn, hqn2⟩ := hd.1
      obtain ⟨y1, y2, y3⟩ := y
      simp only at *
      simp only [LI0, LI1, LI2, LI3, LI4, LI5, LI6, LI7, LI8, LI9, LI10, LI11, LI12, LI13, LI14, LI15, LI16, LI17, LI18, LI19, LI20, LI21, LI22, LI23, LI24, LI25, LI26, LI27, LI28, LI29, LI30, LI31, LI32, LI33, LI34, LI35, LI36, LI37, LI40, LI42, LI43, LI45, LI48, LI60, LI61, LI64, LI80, LI300, LI400, LI1000, LI2000, LI2001, LI2047, LI2048, LI100000, LI1000000, LM] at e2
      have h38 : I2 241 38 = nI qn := by rw [o2.2 38 (by omega)]; exact hW.2.2.1.trans hqn
      rw [hq] at t72
      by_cases hnow : W.2.1.2.1 < y1
      · have ea : aTime rN l (r + 1 + 1) W = (0, W) := by
          simp only [aTime, hx, hnow, if_true]
        rw [ea]
        refine ⟨I2, ?_, w2, fR_onQ o2⟩
        have hqq : qn < q := by rw [hq, hqn, nI_ltI (by omega) (by omega)] at hnow; exact hnow
        have hs : nI 0 < nI q - nI qn := (nI_dgt (by omega) (by omega)).mpr hqq
        have hz : nI c + 0 = nI c := Int32.add_zero _
        rw [hz, r241_2]
        simp (disch := omega) [r241_0, r241_1, r241_3, r241_6, r241_9, r241_10, r241_13, r241_14, r241_17, r241_18, r241_21, r241_22, r241_25, r241_26, r241_27, r241_30, r241_31, r241_32, r241_33, r241_34, r241_37, r241_38, r241_39, r241_40, r241_41, r241_42, r241_43, r241_46, r241_49, r241_50, r241_52, r241_53, r241_56, r241_57, r241_58, r241_59, r241_60, r241_61, r241_62, r241_65, r241_66, r241_67, r241_68, r241_69, r241_70, r241_73, r241_74, r241_75, r241_77, r241_80, r241_83, r241_84, r241_85, r241_88, r241_89, r241_90, r241_91, r241_92, r241_95, r241_98, r241_101, r241_102, qa240, qo240, g241, vf12_72, vf12_38, vf12_73, vf12_55, t241_55, g273, vf12_74, qa233, qo233, vf12_42, t241_42, g260, qa218, qo218, qa226, qo226, qa219, qo219, List.getElem?_cons_zero, List.getElem?_cons_succ, List.length_cons, List.length_nil, ag_nx, ag_dn, ag_no, ag_if, jbr1, jbr2, jc1, jc2, jnul, jld, jsto, jstoL, jst1, jst2, jkill, jinc, jbI, jbL, jbS, juI, jl2i, jcmp, jisR, jisI, jisL, jret, jretv, jfits, jdup, jdup2, jpop, jmm, jcat, Value.category, jinv, jrcv, jthr, jhd, jput, jget, jlen, jald, jast, jaast, jgI, jgL, jgB, jtab, jlku, jacp, vf20, vf21, vf22, vf23, vf24, u2_s, u2_k, u2_i, uc_s, uc_k, uc_c, u2_c, LI0, LI1, LI4, LM, nI_clamp, nI_pos', nI_lt, nI_nlt, nI_le, nI_ge, nI_ne, nI_add, e2, t72, h38, hs]
      · have y8 : y2 < 8 := by have := lt_of_some ha; have := hW.1.1; omega
        have hA := w2.1.2.2 y2 a ha
        have hil : y3 < a.2.2.2.length := by rw [hy2]; exact (lst1_ix hne).1
        obtain ⟨o1l, o2l, o3l, _⟩ := okl y2 a ha
        have hnm : a.2.2.2[y3]? = some (rN (I2 273 (4 * y2 + y3)), I2 274 (4 * y2 + y3)) := by rw [hA.2.2.2.2.2, rl_at hil]
        obtain ⟨I3, e3, hA3, on3⟩ := rDropT (d := d + 1) (A := A) (b := b) (h := h) (X := X) (J := J) (R := R) (n := n) (k := y2) (i := y3) y8 hA o3l hil
        obtain ⟨wp, fp, gp⟩ := wR_put w2 okl (lt_of_some ha) on3 hA3
        have j0 : I3 260 y2 = a.1.1 := (iR_01 hA3).1
        obtain ⟨I4, e4, w4, f4, g4, _⟩ := rAdd (d := d + 2) (A := A) (b := b) (h := h) (X := X) (J := J) (R := R) (n := n) (kd := 6) (id := a.1.1) (x := I2 273 (4 * y2 + y3)) (v := 0) (o := -1) (pe := -1) wp
        have hx6 : ¬ (((6 : Int32) = 0 ∨ (6 : Int32) = 1) ∧ ¬ (-1 : Int32) = -3) := by decide
        rw [if_neg hx6] at w4
        have hk4 : (aPut y2 (aDropT y3 a) W).1[y2]? = some (aDropT y3 a) := aPut_at (lt_of_some ha)
        have hA4 := w4.1.2.2 y2 (aDropT y3 a) hk4
        have l0 : I4 260 y2 = a.1.1 := (iR_01 hA4).1
        have ok4 : okL (aPut y2 (aDropT y3 a) W).1 := by
          intro j c' hj'
          unfold aPut at hj'
          simp only at hj'
          rw [List.getElem?_set] at hj'
          by_cases e : y2 = j
          · subst e
            rw [if_pos rfl, if_pos (lt_of_some ha)] at hj'
            cases hj'
            exact ⟨o1l, o2l, Nat.le_trans (List.eraseIdx_sublist _ _).length_le o3l, (okl y2 a ha).2.2.2⟩
          · rw [if_neg e] at hj'
            exact okl j c' hj'
        have hgx : (a.2.2.2.getD y3 (rN (-1), 0)).1 = rN (I2 273 (4 * y2 + y3)) := by rw [List.getD_eq_getElem?_getD, hnm]; rfl
        -- the signal comes, or is lost
        obtain ⟨I5, e5, w5, f5⟩ : ∃ I5, M241 A (d + 3) 65 [some (.ref (b + 241)), some (.int (nI c)), some (.int (nI y2)), some (.int (I2 273 (4 * y2 + y3)))] [] (jH h b X I4 J R n) = M241 A (d + 3) 95 [some (.ref (b + 241)), some (.int (nI c)), some (.int (nI y2)), some (.int (I2 273 (4 * y2 + y3)))] [] (jH h b X I5 J R n) ∧ wR rN I5 l (aFire rN l y2 y3 W) ∧ fR I4 I5 := by
          unfold aFire
          rw [aAt_of ha]
          simp only
          by_cases h8 : a.2.2.1.length < 8
          · obtain ⟨I5, e5, w5, f5, _⟩ := rAcc (d := d + 2) (A := A) (b := b) (h := h) (X := X) (J := J) (R := R) (n := n) (x := I2 273 (4 * y2 + y3)) (v := 0) (f := a.1.1) (o := -3) w4 ok4 hk4 h8
            simp only [LI0, LI1, LI2, LI3, LI4, LI5, LI6, LI7, LI8, LI9, LI10, LI11, LI12, LI13, LI14, LI15, LI16, LI17, LI18, LI19, LI20, LI21, LI22, LI23, LI24, LI25, LI26, LI27, LI28, LI29, LI30, LI31, LI32, LI33, LI34, LI35, LI36, LI37, LI40, LI42, LI43, LI45, LI48, LI60, LI61, LI64, LI80, LI300, LI400, LI1000, LI2000, LI2001, LI2047, LI2048, LI100000, LI1000000, LM] at e5
            refine ⟨I5, ?_, ?_, f5⟩
            · rw [r241_65]
              simp (disch := omega) [r241_0, r241_1, r241_2, r241_3, r241_6, r241_9, r241_10, r241_13, r241_14, r241_17, r241_18, r241_21, r241_22, r241_25, r241_26, r241_27, r241_30, r241_31, r241_32, r241_33, r241_34, r241_37, r241_38, r241_39, r241_40, r241_41, r241_42, r241_43, r241_46, r241_49, r241_50, r241_52, r241_53, r241_56, r241_57, r241_58, r241_59, r241_60, r241_61, r241_62, r241_66, r241_67, r241_68, r241_69, r241_70, r241_73, r241_74, r241_75, r241_77, r241_80, r241_83, r241_84, r241_85, r241_88, r241_89, r241_90, r241_91, r241_92, r241_98, r241_101, r241_102, qa240, qo240, g241, vf12_72, vf12_38, vf12_73, vf12_55, t241_55, g273, vf12_74, qa233, qo233, vf12_42, t241_42, g260, qa218, qo218, qa226, qo226, qa219, qo219, List.getElem?_cons_zero, List.getElem?_cons_succ, List.length_cons, List.length_nil, ag_nx, ag_dn, ag_no, ag_if, jbr1, jbr2, jc1, jc2, jnul, jld, jsto, jstoL, jst1, jst2, jkill, jinc, jbI, jbL, jbS, juI, jl2i, jcmp, jisR, jisI, jisL, jret, jretv, jfits, jdup, jdup2, jpop, jmm, jcat, Value.category, jinv, jrcv, jthr, jhd, jput, jget, jlen, jald, jast, jaast, jgI, jgL, jgB, jtab, jlku, jacp, vf20, vf21, vf22, vf23, vf24, u2_s, u2_k, u2_i, uc_s, uc_k, uc_c, u2_c, LI0, LI1, LI2, LI3, LI4, LI5, LI6, LI7, LI8, LI9, LI10, LI11, LI12, LI13, LI14, LI15, LI16, LI17, LI18, LI19, LI20, LI21, LI22, LI23, LI24, LI25, LI26, LI27, LI28, LI29, LI30, LI31, LI32, LI33, LI34, LI35, LI36, LI37, LI40, LI42, LI43, LI45, LI48, LI60, LI61, LI64, LI80, LI300, LI400, LI1000, LI2000, LI2001, LI2047, LI2048, LI100000, LI1000000, LM, nI_clamp, nI_pos', nI_lt, nI_nlt, nI_le, nI_ge, nI_ne, nI_add, nI_sub, mI_lt, mI_le, mI_nlt, mI_nle, mI_ne, mI_ne', mI_nem, l0, e5, y8]
            · rw [if_pos (show (aDropT y3 a).2.2.1.length < 8 from h8), hgx]
              have e : ∀ (e : aE Nm) (x y : aI Nm), aPut y2 y (aAdd l e (aPut y2 x W)) = aAdd l e (aPut y2 y W) := by
                intro e x y
                show (((W.1.set y2 x).set y2 y, W.2.1, aEv _ e W.2.2.1, W.2.2.2) : aW Nm) = (W.1.set y2 y, W.2.1, aEv _ e W.2.2.1, W.2.2.2)
                simp
              rw [e] at w5
              exact w5
          · have h8' : a.2.2.1.length = 8 := by omega
            have e5 := rAccN (d := d + 2) (A := A) (b := b) (h := h) (X := X) (J := J) (R := R) (n := n) (x := I2 273 (4 * y2 + y3)) (v := 0) (f := a.1.1) (o := -3) w4 hk4 h8'
            obtain ⟨I6, e6, w6, f6, _⟩ := rLose (d := d + 1) (A := A) (b := b) (h := h) (X := X) (J := J) (R := R) (n := n) (id := a.1.1) (x := I2 273 (4 * y2 + y3)) (v := 0) w4
            simp only [LI0, LI1, LI2, LI3, LI4, LI5, LI6, LI7, LI8, LI9, LI10, LI11, LI12, LI13, LI14, LI15, LI16, LI17, LI18, LI19, LI20, LI21, LI22, LI23, LI24, LI25, LI26, LI27, LI28, LI29, LI30, LI31, LI32, LI33, LI34, LI35, LI36, LI37, LI40, LI42, LI43, LI45, LI48, LI60, LI61, LI64, LI80, LI300, LI400, LI1000, LI2000, LI2001, LI2047, LI2048, LI100000, LI1000000, LM] at e5 e6
            refine ⟨I6, ?_, ?_, f6⟩
            · rw [r241_65]
              simp (disch := omega) [r241_0, r241_1, r241_2, r241_3, r241_6, r241_9, r241_10, r241_13, r241_14, r241_17, r241_18, r241_21, r241_22, r241_25, r241_26, r241_27, r241_30, r241_31, r241_32, r241_33, r241_34, r241_37, r241_38, r241_39, r241_40, r241_41, r241_42, r241_43, r241_46, r241_49, r241_50, r241_52, r241_53, r241_56, r241_57, r241_58, r241_59, r241_60, r241_61, r241_62, r241_66, r241_67, r241_68, r241_69, r241_70, r241_73, r241_74, r241_75, r241_77, r241_80, r241_83, r241_84, r241_85, r241_88, r241_89, r241_90, r241_91, r241_92, r241_98, r241_101, r241_102, qa240, qo240, g241, vf12_72, vf12_38, vf12_73, vf12_55, t241_55, g273, vf12_74, qa233, qo233, vf12_42, t241_42, g260, qa218, qo218, qa226, qo226, qa219, qo219, List.getElem?_cons_zero, List.getElem?_cons_succ, List.length_cons, List.length_nil, ag_nx, ag_dn, ag_no, ag_if, jbr1, jbr2, jc1, jc2, jnul, jld, jsto, jstoL, jst1, jst2, jkill, jinc, jbI, jbL, jbS, juI, jl2i, jcmp, jisR, jisI, jisL, jret, jretv, jfits, jdup, jdup2, jpop, jmm, jcat, Value.category, jinv, jrcv, jthr, jhd, jput, jget, jlen, jald, jast, jaast, jgI, jgL, jgB, jtab, jlku, jacp, vf20, vf21, vf22, vf23, vf24, u2_s, u2_k, u2_i, uc_s, uc_k, uc_c, u2_c, LI0, LI1, LI2, LI3, LI4, LI5, LI6, LI7, LI8, LI9, LI10, LI11, LI12, LI13, LI14, LI15, LI16, LI17, LI18, LI19, LI20, LI21, LI22, LI23, LI24, LI25, LI26, LI27, LI28, LI29, LI30, LI31, LI32, LI33, LI34, LI35, LI36, LI37, LI40, LI42, LI43, LI45, LI48, LI60, LI61, LI64, LI80, LI300, LI400, LI1000, LI2000, LI2001, LI2047, LI2048, LI100000, LI1000000, LM, nI_clamp, nI_pos', nI_lt, nI_nlt, nI_le, nI_ge, nI_ne, nI_add, nI_sub, mI_lt, mI_le, mI_nlt, mI_nle, mI_ne, mI_ne', mI_nem, l0, e5, e6, y8]
            · rw [if_neg (show ¬ (aDropT y3 a).2.2.1.length < 8 from h8), hgx]
              exact w6
        have htc := tcnt_fire (rN := rN) (l := l) ha hil
        obtain ⟨I7, e7, w7, f7⟩ := ih (c + 1) (aFire rN l y2 y3 W) I5 (some (.int (nI y2))) (some (.int (I2 273 (4 * y2 + y3)))) (by omega) (by omega) w5 (okW_fire hok ha) (okD_fire hd ha)
        have ea : aTime rN l (r + 1 + 1) W = ((aTime rN l (r + 1) (aFire rN l y2 y3 W)).1 + 1, (aTime rN l (r + 1) (aFire rN l y2 y3 W)).2) := by
          show (match aDue W.1 0 none with | none => ((0 : Int32), W) | some (d, k, i) => if W.2.1.2.1 < d then (0, W) else ((aTime rN l (r + 1) (aFire rN l k i W)).1 + 1, (aTime rN l (r + 1) (aFire rN l k i W)).2)) = _
          rw [hx]
          simp only [hnow, if_false]
        rw [ea]
        have hqq : ¬ qn < q := by rw [hq, hqn, nI_ltI (by omega) (by omega)] at hnow; exact hnow
        have hs : ¬ nI 0 < nI q - nI qn := fun z => hqq ((nI_dgt (by omega) (by omega)).mp z)
        have hsum : nI c + ((aTime rN l (r + 1) (aFire rN l y2 y3 W)).1 + 1) = nI (c + 1) + (aTime rN l (r + 1) (aFire rN l y2 y3 W)).1 := by
          rw [← nI_add c 1, Int32.add_assoc, Int32.add_comm (nI 1) _]
          rfl
        rw [hsum]
        refine ⟨I7, ?_, w7, fR_trans (fR_onQ o2) (fR_trans fp (fR_trans f4 (fR_trans f5 f7)))⟩
        simp only [LI0, LI1, LI2, LI3, LI4, LI5, LI6, LI7, LI8, LI9, LI10, LI11, LI12, LI13, LI14, LI15, LI16, LI17, LI18, LI19, LI20, LI21, LI22, LI23, LI24, LI25, LI26, LI27, LI28, LI29, LI30, LI31, LI32, LI33, LI34, LI35, LI36, LI37, LI40, LI42, LI43, LI45, LI48, LI60, LI61, LI64, LI80, LI300, LI400, LI1000, LI2000, LI2001, LI2047, LI2048, LI100000, LI1000000, LM] at e4
        rw [← e7, r241_2]
        have m95 : M241 A (d + 3) 95 [some (.ref (b + 241)), some (.int (nI c)), some (.int (nI y2)), some (.int (I2 273 (4 * y2 + y3)))] [] (jH h b X I5 J R n) = M241 A (d + 3) 2 [some (.ref (b + 241)), some (.int (nI (c + 1))), some (.int (nI y2)), some (.int (I2 273 (4 * y2 + y3)))] [] (jH h b X I5 J R n) := by
          rw [r241_95]
          simp (disch := omega) [r241_98, List.getElem?_cons_zero, List.getElem?_cons_succ, List.length_cons, List.length_nil, ag_nx, ag_dn, ag_no, ag_if, jbr1, jbr2, jc1, jc2, jnul, jld, jsto, jstoL, jst1, jst2, jkill, jinc, jbI, jbL, jbS, juI, jl2i, jcmp, jisR, jisI, jisL, jret, jretv, jfits, jdup, jdup2, jpop, jmm, jcat, Value.category, jinv, jrcv, jthr, jhd, jput, jget, jlen, jald, jast, jaast, jgI, jgL, jgB, jtab, jlku, jacp, vf20, vf21, vf22, vf23, vf24, u2_s, u2_k, u2_i, uc_s, uc_k, uc_c, u2_c, LI0, LI1, LI2, LI3, LI4, LI5, LI6, LI7, LI8, LI9, LI10, LI11, LI12, LI13, LI14, LI15, LI16, LI17, LI18, LI19, LI20, LI21, LI22, LI23, LI24, LI25, LI26, LI27, LI28, LI29, LI30, LI31, LI32, LI33, LI34, LI35, LI36, LI37, LI40, LI42, LI43, LI45, LI48, LI60, LI61, LI64, LI80, LI300, LI400, LI1000, LI2000, LI2001, LI2047, LI2048, LI100000, LI1000000, LM, nI_clamp, nI_pos', nI_lt, nI_nlt, nI_le, nI_ge, nI_ne, nI_add, nI_sub, mI_lt, mI_le, mI_nlt, mI_nle, mI_ne, mI_ne', mI_nem]
        simp (disch := omega) [r241_0, r241_1, r241_3, r241_6, r241_9, r241_10, r241_13, r241_14, r241_17, r241_18, r241_21, r241_22, r241_25, r241_26, r241_27, r241_30, r241_31, r241_32, r241_33, r241_34, r241_37, r241_38, r241_39, r241_40, r241_41, r241_42, r241_43, r241_46, r241_49, r241_50, r241_52, r241_53, r241_56, r241_57, r241_58, r241_59, r241_60, r241_61, r241_62, r241_66, r241_67, r241_68, r241_69, r241_70, r241_73, r241_74, r241_75, r241_77, r241_80, r241_83, r241_84, r241_85, r241_88, r241_89, r241_90, r241_91, r241_92, r241_98, r241_101, r241_102, qa240, qo240, g241, vf12_72, vf12_38, vf12_73, vf12_55, t241_55, g273, vf12_74, qa233, qo233, vf12_42, t241_42, g260, qa218, qo218, qa226, qo226, qa219, qo219, List.getElem?_cons_zero, List.getElem?_cons_succ, List.length_cons, List.length_nil, ag_nx, ag_dn, ag_no, ag_if, jbr1, jbr2, jc1, jc2, jnul, jld, jsto, jstoL, jst1, jst2, jkill, jinc, jbI, jbL, jbS, juI, jl2i, jcmp, jisR, jisI, jisL, jret, jretv, jfits, jdup, jdup2, jpop, jmm, jcat, Value.category, jinv, jrcv, jthr, jhd, jput, jget, jlen, jald, jast, jaast, jgI, jgL, jgB, jtab, jlku, jacp, vf20, vf21, vf22, vf23, vf24, u2_s, u2_k, u2_i, uc_s, uc_k, uc_c, u2_c, LI0, LI1, LI4, LI6, LM, nI_clamp, nI_pos', nI_lt, nI_nlt, nI_le, nI_ge, nI_ne, nI_add, nI_mul, Nat.mul_comm y2 4, e2, t72, t73, t74, h38, hs, e3, j0, e4, y8, show 4 * y2 + y3 < 32 by omega]
        rw [e5, m95]
end RFD
