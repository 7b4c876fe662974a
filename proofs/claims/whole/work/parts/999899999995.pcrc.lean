/-! races: the class -/
section CRC
variable {A : Nat → Nat} {d b n C : Nat} {h : Nat → Option jC} {X : jXX} {I : Nat → Nat → Int32} {J : Nat → Nat → Int64} {R : Nat → Nat → Nat} {ln : Nat → Nat} {m : Nat}
/-- the lines of the events -/
def cLi (I : Nat → Nat → Int32) (C m : Nat) (ln : Nat → Nat) : Prop := m ≤ 40 ∧ (∀ e, ln e < 8) ∧ ∀ e, e < 2 * m → (if e % 2 = 0 then I (C + 5) (e / 2) else I (C + 6) (e / 2)) = nI (ln e)
theorem sh1 : ∀ a, a < 80 → nI a >>> (nI 1 &&& nI 31) = nI (a / 2) := by decide +kernel
theorem an1 : ∀ a, a < 80 → nI a &&& nI 1 = nI (a % 2) := by decide +kernel
theorem c5 {e : Nat} (hC : isC C) (hl : cLi I C m ln) (he : e < 2 * m) : jcall A jcode (d + 1) 5 [.ref (b + C), .int (nI e)] (jH h b X I J R n) = some (.inl (some (.int (nI (ln e)))), (jH h b X I J R n)) := by
  obtain ⟨hm, _, h3⟩ := hl
  have h3 := h3 e he
  have s1 := sh1 e (by omega)
  have a1 := an1 e (by omega)
  have e40 : e / 2 < 40 := by omega
  by_cases h0 : e % 2 = 0
  · rw [if_pos h0] at h3
    rw [h0] at a1
    simp (disch := omega) [je5, r5_0, r5_1, r5_2, r5_3, r5_4, r5_5, r5_8, r5_9, r5_11, r5_14, r5_15, r5_16, r5_17, r5_18, r5_19, r5_22, r5_23, r5_26, r5_27, r5_28, r5_31, r5_32, r5_35, r5_36, r5_37, gC0 hC, vf0_3, tC0_3 hC, gC5 hC, vf0_4, tC0_4 hC, gC6 hC, List.getElem?_cons_zero, List.getElem?_cons_succ, List.length_cons, List.length_nil, ag_nx, ag_dn, ag_no, ag_if, jbr1, jbr2, jc1, jc2, jnul, jld, jsto, jstoL, jst1, jst2, jkill, jinc, jbI, jbL, jbS, juI, jl2i, jcmp, jisR, jisI, jisL, jret, jretv, jfits, jdup, jdup2, jpop, jmm, jcat, Value.category, jinv, jrcv, jthr, jhd, jput, jget, jlen, jald, jast, jaast, jgI, jgL, jgB, jtab, jlku, jacp, vf20, vf21, vf22, vf23, vf24, u2_s, u2_k, u2_i, uc_s, uc_k, uc_c, u2_c, LI0, LI1, LI2, LI3, LI4, LI5, LI6, LI7, LI8, LI9, LI10, LI11, LI12, LI13, LI14, LI15, LI16, LI17, LI18, LI19, LI20, LI21, LI22, LI23, LI24, LI25, LI26, LI27, LI28, LI29, LI30, LI31, LI32, LI33, LI34, LI35, LI36, LI37, LI40, LI42, LI43, LI45, LI48, LI60, LI61, LI64, LI80, LI300, LI400, LI1000, LI2000, LI2001, LI2047, LI2048, LI100000, LI1000000, LI38, LI39, LI41, LI44, LI46, LI47, LI49, LI50, LI51, LI52, LI53, LI54, LI55, LI56, LI57, LI58, LI59, LI62, LI63, LI65, LI66, LI67, LI68, LI69, LI70, LI71, LI72, LI73, LI74, LI75, LI76, LI77, LI78, LI79, LI81, LI82, LI83, LI84, LI85, LI86, LI87, LI88, LI89, LI90, LI91, LI92, LI93, LI94, LI95, LI96, LI97, LI98, LI99, LI100, LI101, LI102, LI103, LI104, LI105, LI106, LI107, LI108, LI109, LI110, LI111, LI112, LI113, LI114, LI115, LI116, LI117, LI118, LI119, LI120, LI121, LI122, LI123, LI124, LI125, LI126, LI127, LI255, LI256, LI999, LI1001, LI1002, LI1600, LI4096, LI1000001, LI2042, LM, nI_clamp, nI_pos', nI_lt, nI_nlt, nI_le, nI_ge, nI_ne, nI_add, nI_sub, mI_lt, mI_le, mI_nlt, mI_nle, mI_ne, mI_ne', mI_nem, s1, a1, h3, e40]
  · rw [if_neg h0] at h3
    rw [show e % 2 = 1 by omega] at a1
    simp (disch := omega) [je5, r5_0, r5_1, r5_2, r5_3, r5_4, r5_5, r5_8, r5_9, r5_11, r5_14, r5_15, r5_16, r5_17, r5_18, r5_19, r5_22, r5_23, r5_26, r5_27, r5_28, r5_31, r5_32, r5_35, r5_36, r5_37, gC0 hC, vf0_3, tC0_3 hC, gC5 hC, vf0_4, tC0_4 hC, gC6 hC, List.getElem?_cons_zero, List.getElem?_cons_succ, List.length_cons, List.length_nil, ag_nx, ag_dn, ag_no, ag_if, jbr1, jbr2, jc1, jc2, jnul, jld, jsto, jstoL, jst1, jst2, jkill, jinc, jbI, jbL, jbS, juI, jl2i, jcmp, jisR, jisI, jisL, jret, jretv, jfits, jdup, jdup2, jpop, jmm, jcat, Value.category, jinv, jrcv, jthr, jhd, jput, jget, jlen, jald, jast, jaast, jgI, jgL, jgB, jtab, jlku, jacp, vf20, vf21, vf22, vf23, vf24, u2_s, u2_k, u2_i, uc_s, uc_k, uc_c, u2_c, LI0, LI1, LI2, LI3, LI4, LI5, LI6, LI7, LI8, LI9, LI10, LI11, LI12, LI13, LI14, LI15, LI16, LI17, LI18, LI19, LI20, LI21, LI22, LI23, LI24, LI25, LI26, LI27, LI28, LI29, LI30, LI31, LI32, LI33, LI34, LI35, LI36, LI37, LI40, LI42, LI43, LI45, LI48, LI60, LI61, LI64, LI80, LI300, LI400, LI1000, LI2000, LI2001, LI2047, LI2048, LI100000, LI1000000, LI38, LI39, LI41, LI44, LI46, LI47, LI49, LI50, LI51, LI52, LI53, LI54, LI55, LI56, LI57, LI58, LI59, LI62, LI63, LI65, LI66, LI67, LI68, LI69, LI70, LI71, LI72, LI73, LI74, LI75, LI76, LI77, LI78, LI79, LI81, LI82, LI83, LI84, LI85, LI86, LI87, LI88, LI89, LI90, LI91, LI92, LI93, LI94, LI95, LI96, LI97, LI98, LI99, LI100, LI101, LI102, LI103, LI104, LI105, LI106, LI107, LI108, LI109, LI110, LI111, LI112, LI113, LI114, LI115, LI116, LI117, LI118, LI119, LI120, LI121, LI122, LI123, LI124, LI125, LI126, LI127, LI255, LI256, LI999, LI1001, LI1002, LI1600, LI4096, LI1000001, LI2042, LM, nI_clamp, nI_pos', nI_lt, nI_nlt, nI_le, nI_ge, nI_ne, nI_add, nI_sub, mI_lt, mI_le, mI_nlt, mI_nle, mI_ne, mI_ne', mI_nem, s1, a1, h3, e40]
theorem am63 : ∀ p, p < 64 → ((nI p).toInt64.toUInt64 &&& Int64.toUInt64 63).toNat = p := by decide +kernel
theorem o64 {p : Nat} : (1#64).getLsbD p = decide (p = 0) := by
  rw [BitVec.getLsbD_one]
  simp
theorem and1 {y : Int64} : y &&& 1 = 1 ↔ y.toBitVec.getLsbD 0 = true := by
  constructor
  · intro e
    have e' : (y &&& 1).toBitVec.getLsbD 0 = (1 : Int64).toBitVec.getLsbD 0 := by rw [e]
    rw [Int64.toBitVec_and, BitVec.getLsbD_and] at e'
    have o : (1 : Int64).toBitVec.getLsbD 0 = true := by decide
    rw [o] at e'
    simpa using e'
  · intro e
    apply Int64.toBitVec_inj.mp
    apply BitVec.eq_of_getLsbD_eq
    intro i hi
    rw [Int64.toBitVec_and, BitVec.getLsbD_and]
    show (y.toBitVec.getLsbD i && (1#64).getLsbD i) = (1#64).getLsbD i
    rw [o64]
    by_cases h0 : i = 0
    · subst h0; rw [e]; rfl
    · simp [h0]
theorem btu {x : Int64} {p : Nat} (hp : p < 64) : lg_cmp ((x.toUInt64 >>> ((nI p).toInt64.toUInt64 &&& Int64.toUInt64 63)).toInt64 &&& 1) 1 = nI 0 ↔ btL x p = true := by
  have e0 : nI 0 = 0 := by decide
  rw [e0, cmp0, and1]
  have : (x.toUInt64 >>> ((nI p).toInt64.toUInt64 &&& Int64.toUInt64 63)).toInt64.toBitVec.getLsbD 0 = btL x p := by
    have := usr (x := x.toUInt64) (i := 0) hp (am63 p hp)
    exact this
  rw [this]
theorem btL_sh {f p : Nat} (hf : f < 64) (hp : p < 64) : btL ((1 : Int64) <<< ((nI f).toInt64 &&& 63)) p = decide (p = f) := by
  unfold btL
  rw [Int64.toBitVec_shiftLeft]
  have e : ((nI f).toInt64 &&& 63).toBitVec.smod 64 = BitVec.ofNat 64 f := by
    have : ∀ f, f < 64 → ((nI f).toInt64 &&& 63).toBitVec.smod 64 = BitVec.ofNat 64 f := by decide +kernel
    exact this f hf
  rw [e]
  show ((1#64) <<< (BitVec.ofNat 64 f)).getLsbD p = _
  rw [BitVec.shiftLeft_eq']
  rw [BitVec.getLsbD_shiftLeft]
  have e2 : (BitVec.ofNat 64 f).toNat = f := by simp; omega
  rw [e2, o64]
  by_cases h1 : p = f
  · subst h1; simp; omega
  · by_cases h2 : p < f
    · simp [h2, h1]
    · have : ¬ p - f = 0 := by omega
      simp [h1, this]
/-- bit p of event e's row -/
def bb (J : Nat → Nat → Int64) (C e p : Nat) : Bool := if p < 64 then btL (J (C + 8) e) p else btL (J (C + 9) e) (p - 64)
theorem c8 {p q : Nat} (hC : isC C) (hp : p < 80) (hq : q < 80) : jcall A jcode (d + 1) 8 [.ref (b + C), .int (nI p), .int (nI q)] (jH h b X I J R n) = some (.inl (some (.int (if bb J C q p = true then nI 1 else nI 0))), (jH h b X I J R n)) := by
  unfold bb
  by_cases h0 : p < 64
  · rw [if_pos h0]
    have hb := btu (x := J (C + 8) q) h0
    by_cases hh : btL (J (C + 8) q) p = true
    · have hb' := hb.mpr hh
      simp (disch := omega) [je8, r8_0, r8_1, r8_4, r8_5, r8_7, r8_10, r8_11, r8_12, r8_13, r8_15, r8_18, r8_19, r8_22, r8_23, r8_24, r8_25, r8_26, r8_29, r8_30, r8_33, r8_34, r8_35, r8_36, r8_38, r8_39, r8_40, r8_41, r8_42, r8_43, r8_44, r8_45, r8_46, r8_49, r8_50, r8_53, r8_54, gC0 hC, vf0_7, tC0_7 hC, gC8 hC, vf0_8, tC0_8 hC, gC9 hC, List.getElem?_cons_zero, List.getElem?_cons_succ, List.length_cons, List.length_nil, ag_nx, ag_dn, ag_no, ag_if, jbr1, jbr2, jc1, jc2, jnul, jld, jsto, jstoL, jst1, jst2, jkill, jinc, jbI, jbL, jbS, juI, jl2i, jcmp, jisR, jisI, jisL, jret, jretv, jfits, jdup, jdup2, jpop, jmm, jcat, Value.category, jinv, jrcv, jthr, jhd, jput, jget, jlen, jald, jast, jaast, jgI, jgL, jgB, jtab, jlku, jacp, vf20, vf21, vf22, vf23, vf24, u2_s, u2_k, u2_i, uc_s, uc_k, uc_c, u2_c, LI0, LI1, LI2, LI3, LI4, LI5, LI6, LI7, LI8, LI9, LI10, LI11, LI12, LI13, LI14, LI15, LI16, LI17, LI18, LI19, LI20, LI21, LI22, LI23, LI24, LI25, LI26, LI27, LI28, LI29, LI30, LI31, LI32, LI33, LI34, LI35, LI36, LI37, LI40, LI42, LI43, LI45, LI48, LI60, LI61, LI64, LI80, LI300, LI400, LI1000, LI2000, LI2001, LI2047, LI2048, LI100000, LI1000000, LI38, LI39, LI41, LI44, LI46, LI47, LI49, LI50, LI51, LI52, LI53, LI54, LI55, LI56, LI57, LI58, LI59, LI62, LI63, LI65, LI66, LI67, LI68, LI69, LI70, LI71, LI72, LI73, LI74, LI75, LI76, LI77, LI78, LI79, LI81, LI82, LI83, LI84, LI85, LI86, LI87, LI88, LI89, LI90, LI91, LI92, LI93, LI94, LI95, LI96, LI97, LI98, LI99, LI100, LI101, LI102, LI103, LI104, LI105, LI106, LI107, LI108, LI109, LI110, LI111, LI112, LI113, LI114, LI115, LI116, LI117, LI118, LI119, LI120, LI121, LI122, LI123, LI124, LI125, LI126, LI127, LI255, LI256, LI999, LI1001, LI1002, LI1600, LI4096, LI1000001, LI2042, LM, nI_clamp, nI_pos', nI_lt, nI_nlt, nI_le, nI_ge, nI_ne, nI_add, nI_sub, mI_lt, mI_le, mI_nlt, mI_nle, mI_ne, mI_ne', mI_nem, h0, hb', hh, hq]
    · have hb' : ¬ _ := fun z => hh (hb.mp z)
      simp (disch := omega) [je8, r8_0, r8_1, r8_4, r8_5, r8_7, r8_10, r8_11, r8_12, r8_13, r8_15, r8_18, r8_19, r8_22, r8_23, r8_24, r8_25, r8_26, r8_29, r8_30, r8_33, r8_34, r8_35, r8_36, r8_38, r8_39, r8_40, r8_41, r8_42, r8_43, r8_44, r8_45, r8_46, r8_49, r8_50, r8_53, r8_54, gC0 hC, vf0_7, tC0_7 hC, gC8 hC, vf0_8, tC0_8 hC, gC9 hC, List.getElem?_cons_zero, List.getElem?_cons_succ, List.length_cons, List.length_nil, ag_nx, ag_dn, ag_no, ag_if, jbr1, jbr2, jc1, jc2, jnul, jld, jsto, jstoL, jst1, jst2, jkill, jinc, jbI, jbL, jbS, juI, jl2i, jcmp, jisR, jisI, jisL, jret, jretv, jfits, jdup, jdup2, jpop, jmm, jcat, Value.category, jinv, jrcv, jthr, jhd, jput, jget, jlen, jald, jast, jaast, jgI, jgL, jgB, jtab, jlku, jacp, vf20, vf21, vf22, vf23, vf24, u2_s, u2_k, u2_i, uc_s, uc_k, uc_c, u2_c, LI0, LI1, LI2, LI3, LI4, LI5, LI6, LI7, LI8, LI9, LI10, LI11, LI12, LI13, LI14, LI15, LI16, LI17, LI18, LI19, LI20, LI21, LI22, LI23, LI24, LI25, LI26, LI27, LI28, LI29, LI30, LI31, LI32, LI33, LI34, LI35, LI36, LI37, LI40, LI42, LI43, LI45, LI48, LI60, LI61, LI64, LI80, LI300, LI400, LI1000, LI2000, LI2001, LI2047, LI2048, LI100000, LI1000000, LI38, LI39, LI41, LI44, LI46, LI47, LI49, LI50, LI51, LI52, LI53, LI54, LI55, LI56, LI57, LI58, LI59, LI62, LI63, LI65, LI66, LI67, LI68, LI69, LI70, LI71, LI72, LI73, LI74, LI75, LI76, LI77, LI78, LI79, LI81, LI82, LI83, LI84, LI85, LI86, LI87, LI88, LI89, LI90, LI91, LI92, LI93, LI94, LI95, LI96, LI97, LI98, LI99, LI100, LI101, LI102, LI103, LI104, LI105, LI106, LI107, LI108, LI109, LI110, LI111, LI112, LI113, LI114, LI115, LI116, LI117, LI118, LI119, LI120, LI121, LI122, LI123, LI124, LI125, LI126, LI127, LI255, LI256, LI999, LI1001, LI1002, LI1600, LI4096, LI1000001, LI2042, LM, nI_clamp, nI_pos', nI_lt, nI_nlt, nI_le, nI_ge, nI_ne, nI_add, nI_sub, mI_lt, mI_le, mI_nlt, mI_nle, mI_ne, mI_ne', mI_nem, h0, hb', hh, hq]
  · rw [if_neg h0]
    have hb := btu (x := J (C + 9) q) (show p - 64 < 64 by omega)
    by_cases hh : btL (J (C + 9) q) (p - 64) = true
    · have hb' := hb.mpr hh
      simp (disch := omega) [je8, r8_0, r8_1, r8_4, r8_5, r8_7, r8_10, r8_11, r8_12, r8_13, r8_15, r8_18, r8_19, r8_22, r8_23, r8_24, r8_25, r8_26, r8_29, r8_30, r8_33, r8_34, r8_35, r8_36, r8_38, r8_39, r8_40, r8_41, r8_42, r8_43, r8_44, r8_45, r8_46, r8_49, r8_50, r8_53, r8_54, gC0 hC, vf0_7, tC0_7 hC, gC8 hC, vf0_8, tC0_8 hC, gC9 hC, List.getElem?_cons_zero, List.getElem?_cons_succ, List.length_cons, List.length_nil, ag_nx, ag_dn, ag_no, ag_if, jbr1, jbr2, jc1, jc2, jnul, jld, jsto, jstoL, jst1, jst2, jkill, jinc, jbI, jbL, jbS, juI, jl2i, jcmp, jisR, jisI, jisL, jret, jretv, jfits, jdup, jdup2, jpop, jmm, jcat, Value.category, jinv, jrcv, jthr, jhd, jput, jget, jlen, jald, jast, jaast, jgI, jgL, jgB, jtab, jlku, jacp, vf20, vf21, vf22, vf23, vf24, u2_s, u2_k, u2_i, uc_s, uc_k, uc_c, u2_c, LI0, LI1, LI2, LI3, LI4, LI5, LI6, LI7, LI8, LI9, LI10, LI11, LI12, LI13, LI14, LI15, LI16, LI17, LI18, LI19, LI20, LI21, LI22, LI23, LI24, LI25, LI26, LI27, LI28, LI29, LI30, LI31, LI32, LI33, LI34, LI35, LI36, LI37, LI40, LI42, LI43, LI45, LI48, LI60, LI61, LI64, LI80, LI300, LI400, LI1000, LI2000, LI2001, LI2047, LI2048, LI100000, LI1000000, LI38, LI39, LI41, LI44, LI46, LI47, LI49, LI50, LI51, LI52, LI53, LI54, LI55, LI56, LI57, LI58, LI59, LI62, LI63, LI65, LI66, LI67, LI68, LI69, LI70, LI71, LI72, LI73, LI74, LI75, LI76, LI77, LI78, LI79, LI81, LI82, LI83, LI84, LI85, LI86, LI87, LI88, LI89, LI90, LI91, LI92, LI93, LI94, LI95, LI96, LI97, LI98, LI99, LI100, LI101, LI102, LI103, LI104, LI105, LI106, LI107, LI108, LI109, LI110, LI111, LI112, LI113, LI114, LI115, LI116, LI117, LI118, LI119, LI120, LI121, LI122, LI123, LI124, LI125, LI126, LI127, LI255, LI256, LI999, LI1001, LI1002, LI1600, LI4096, LI1000001, LI2042, LM, nI_clamp, nI_pos', nI_lt, nI_nlt, nI_le, nI_ge, nI_ne, nI_add, nI_sub, mI_lt, mI_le, mI_nlt, mI_nle, mI_ne, mI_ne', mI_nem, h0, hb', hh, hq]
    · have hb' : ¬ _ := fun z => hh (hb.mp z)
      simp (disch := omega) [je8, r8_0, r8_1, r8_4, r8_5, r8_7, r8_10, r8_11, r8_12, r8_13, r8_15, r8_18, r8_19, r8_22, r8_23, r8_24, r8_25, r8_26, r8_29, r8_30, r8_33, r8_34, r8_35, r8_36, r8_38, r8_39, r8_40, r8_41, r8_42, r8_43, r8_44, r8_45, r8_46, r8_49, r8_50, r8_53, r8_54, gC0 hC, vf0_7, tC0_7 hC, gC8 hC, vf0_8, tC0_8 hC, gC9 hC, List.getElem?_cons_zero, List.getElem?_cons_succ, List.length_cons, List.length_nil, ag_nx, ag_dn, ag_no, ag_if, jbr1, jbr2, jc1, jc2, jnul, jld, jsto, jstoL, jst1, jst2, jkill, jinc, jbI, jbL, jbS, juI, jl2i, jcmp, jisR, jisI, jisL, jret, jretv, jfits, jdup, jdup2, jpop, jmm, jcat, Value.category, jinv, jrcv, jthr, jhd, jput, jget, jlen, jald, jast, jaast, jgI, jgL, jgB, jtab, jlku, jacp, vf20, vf21, vf22, vf23, vf24, u2_s, u2_k, u2_i, uc_s, uc_k, uc_c, u2_c, LI0, LI1, LI2, LI3, LI4, LI5, LI6, LI7, LI8, LI9, LI10, LI11, LI12, LI13, LI14, LI15, LI16, LI17, LI18, LI19, LI20, LI21, LI22, LI23, LI24, LI25, LI26, LI27, LI28, LI29, LI30, LI31, LI32, LI33, LI34, LI35, LI36, LI37, LI40, LI42, LI43, LI45, LI48, LI60, LI61, LI64, LI80, LI300, LI400, LI1000, LI2000, LI2001, LI2047, LI2048, LI100000, LI1000000, LI38, LI39, LI41, LI44, LI46, LI47, LI49, LI50, LI51, LI52, LI53, LI54, LI55, LI56, LI57, LI58, LI59, LI62, LI63, LI65, LI66, LI67, LI68, LI69, LI70, LI71, LI72, LI73, LI74, LI75, LI76, LI77, LI78, LI79, LI81, LI82, LI83, LI84, LI85, LI86, LI87, LI88, LI89, LI90, LI91, LI92, LI93, LI94, LI95, LI96, LI97, LI98, LI99, LI100, LI101, LI102, LI103, LI104, LI105, LI106, LI107, LI108, LI109, LI110, LI111, LI112, LI113, LI114, LI115, LI116, LI117, LI118, LI119, LI120, LI121, LI122, LI123, LI124, LI125, LI126, LI127, LI255, LI256, LI999, LI1001, LI1002, LI1600, LI4096, LI1000001, LI2042, LM, nI_clamp, nI_pos', nI_lt, nI_nlt, nI_le, nI_ge, nI_ne, nI_add, nI_sub, mI_lt, mI_le, mI_nlt, mI_nle, mI_ne, mI_ne', mI_nem, h0, hb', hh, hq]
def loB (f : Nat) : Int64 := if f < 64 then 1 <<< ((nI f).toInt64 &&& 63) else 0
def hiB (f : Nat) : Int64 := if f < 64 then 0 else 1 <<< ((nI (f - 64)).toInt64 &&& 63)
theorem u2_p {J : Nat → Nat → Int64} {k i : Nat} {v : Int64} {c j : Nat} (hc : ¬ (c = k ∧ j = i)) : u2 J k i v c j = J c j := by unfold u2; rw [if_neg hc]
/-- event e takes over what is before f, and f -/
def adB (J : Nat → Nat → Int64) (C e f : Nat) : Nat → Nat → Int64 := u2 (u2 J (C + 8) e (J (C + 8) e ||| (J (C + 8) f ||| loB f))) (C + 9) e (J (C + 9) e ||| (J (C + 9) f ||| hiB f))
theorem adB_b {e f p : Nat} (hf : f < e) (he : e < 80) (hp : p < 80) : bb (adB J C e f) C e p = (bb J C e p || (bb J C f p || decide (p = f))) := by
  unfold bb adB
  by_cases h0 : p < 64
  · rw [if_pos h0, if_pos h0, if_pos h0, u2_p (by omega), u2_s, btL_or, btL_or]
    congr 2
    unfold loB
    by_cases h1 : f < 64
    · rw [if_pos h1, btL_sh h1 h0]
    · rw [if_neg h1, btL_0]
      exact (decide_eq_false (by omega)).symm
  · rw [if_neg h0, if_neg h0, if_neg h0, u2_s, btL_or, btL_or]
    congr 2
    unfold hiB
    by_cases h1 : f < 64
    · rw [if_pos h1, btL_0]
      exact (decide_eq_false (by omega)).symm
    · rw [if_neg h1, btL_sh (by omega) (by omega)]
      by_cases h2 : p = f
      · subst h2; simp
      · rw [decide_eq_false h2]
        exact decide_eq_false (by omega)
theorem adB_o {e f c i : Nat} (h : ¬ ((c = C + 8 ∨ c = C + 9) ∧ i = e)) : adB J C e f c i = J c i := by
  unfold adB
  rw [u2_p (by omega), u2_p (by omega)]
theorem eB_odd {f e : Nat} (hf : f < e) (he : e % 2 = 1) : eB ln f e = true ↔ f = e - 1 := by
  unfold eB
  simp only [Bool.or_eq_true, Bool.and_eq_true, decide_eq_true_eq]
  omega
theorem eB_ev {f e : Nat} (hf : f < e) (he : e % 2 = 0) : eB ln f e = true ↔ ln f = ln e := by
  unfold eB
  simp only [Bool.or_eq_true, Bool.and_eq_true, decide_eq_true_eq]
  constructor
  · rintro (z | z)
    · omega
    · exact z.2
  · exact fun z => Or.inr ⟨⟨hf, he⟩, z⟩
theorem nIne {a c : Nat} (ha : a < 2 ^ 31) (hc : c < 2 ^ 31) (hne : a ≠ c) : ¬ nI a = nI c := nI_ne hne ha hc
theorem c7l {e : Nat} (hC : isC C) (hl : cLi I C m ln) (he : e < 2 * m) : ∀ (r k : Nat) (J : Nat → Nat → Int64), k + r = e → ∃ J', M7 A (d + 1) 40 [some (.ref (b + C)), some (.int (nI e)), some (.int (nI (e % 2))), some (.int (nI k))] [] (jH h b X I J R n) = some (.inl none, (jH h b X I J' R n)) ∧ (∀ c i, ¬ ((c = C + 8 ∨ c = C + 9) ∧ i = e) → J' c i = J c i) ∧ ∀ p, p < 80 → (bb J' C e p = true ↔ bb J C e p = true ∨ ∃ f, k ≤ f ∧ f < e ∧ eB ln f e = true ∧ (p = f ∨ bb J C f p = true)) := by
  have hm := hl.1
  have e80 : e < 80 := by omega
  have hln := hl.2.1
  intro r
  induction r with
  | zero =>
    intro k J hk
    have : k = e := by omega
    subst this
    refine ⟨J, ?_, fun _ _ _ => rfl, fun p hp => ⟨Or.inl, fun z => z.elim id (fun ⟨f, f1, f2, _⟩ => by omega)⟩⟩
    rw [r7_40]
    simp (disch := omega) [r7_41, r7_42, r7_139, gC0 hC, vf0_7, tC0_7 hC, gC8 hC, pC8 hC, vf0_8, tC0_8 hC, gC9 hC, pC9 hC, qa5, qo5, List.getElem?_cons_zero, List.getElem?_cons_succ, List.length_cons, List.length_nil, ag_nx, ag_dn, ag_no, ag_if, jbr1, jbr2, jc1, jc2, jnul, jld, jsto, jstoL, jst1, jst2, jkill, jinc, jbI, jbL, jbS, juI, jl2i, jcmp, jisR, jisI, jisL, jret, jretv, jfits, jdup, jdup2, jpop, jmm, jcat, Value.category, jinv, jrcv, jthr, jhd, jput, jget, jlen, jald, jast, jaast, jgI, jgL, jgB, jtab, jlku, jacp, vf20, vf21, vf22, vf23, vf24, u2_s, u2_k, u2_i, uc_s, uc_k, uc_c, u2_c, LI0, LI1, LI2, LI3, LI4, LI5, LI6, LI7, LI8, LI9, LI10, LI11, LI12, LI13, LI14, LI15, LI16, LI17, LI18, LI19, LI20, LI21, LI22, LI23, LI24, LI25, LI26, LI27, LI28, LI29, LI30, LI31, LI32, LI33, LI34, LI35, LI36, LI37, LI40, LI42, LI43, LI45, LI48, LI60, LI61, LI64, LI80, LI300, LI400, LI1000, LI2000, LI2001, LI2047, LI2048, LI100000, LI1000000, LI38, LI39, LI41, LI44, LI46, LI47, LI49, LI50, LI51, LI52, LI53, LI54, LI55, LI56, LI57, LI58, LI59, LI62, LI63, LI65, LI66, LI67, LI68, LI69, LI70, LI71, LI72, LI73, LI74, LI75, LI76, LI77, LI78, LI79, LI81, LI82, LI83, LI84, LI85, LI86, LI87, LI88, LI89, LI90, LI91, LI92, LI93, LI94, LI95, LI96, LI97, LI98, LI99, LI100, LI101, LI102, LI103, LI104, LI105, LI106, LI107, LI108, LI109, LI110, LI111, LI112, LI113, LI114, LI115, LI116, LI117, LI118, LI119, LI120, LI121, LI122, LI123, LI124, LI125, LI126, LI127, LI255, LI256, LI999, LI1001, LI1002, LI1600, LI4096, LI1000001, LI2042, LM, nI_clamp, nI_pos', nI_lt, nI_nlt, nI_le, nI_ge, nI_ne, nI_add, nI_sub, mI_lt, mI_le, mI_nlt, mI_nle, mI_ne, mI_ne', mI_nem]
  | succ r ih =>
    intro k J hk
    have ke : k < e := by omega
    have k80 : k < 80 := by omega
    by_cases hE : eB ln k e = true
    · obtain ⟨J', q1, q2, q3⟩ := ih (k + 1) (adB J C e k) (by omega)
      have w : M7 A (d + 1) 40 [some (.ref (b + C)), some (.int (nI e)), some (.int (nI (e % 2))), some (.int (nI k))] [] (jH h b X I J R n) = M7 A (d + 1) 40 [some (.ref (b + C)), some (.int (nI e)), some (.int (nI (e % 2))), some (.int (nI (k + 1)))] [] (jH h b X I (adB J C e k) R n) := by
        have w0 : M7 A (d + 1) 40 [some (.ref (b + C)), some (.int (nI e)), some (.int (nI (e % 2))), some (.int (nI k))] [] (jH h b X I J R n) = M7 A (d + 1) 72 [some (.ref (b + C)), some (.int (nI e)), some (.int (nI (e % 2))), some (.int (nI k))] [] (jH h b X I J R n) := by
          rw [r7_40]
          by_cases h2 : e % 2 = 0
          · have ee := (eB_ev ke h2).mp hE
            have e5 := c5 (A := A) (d := d) (b := b) (h := h) (X := X) (J := J) (R := R) (n := n) (e := k) hC hl (by omega)
            have e5' := c5 (A := A) (d := d) (b := b) (h := h) (X := X) (J := J) (R := R) (n := n) (e := e) hC hl (by omega)
            rw [ee] at e5
            rw [h2]
            simp (disch := omega) [r7_41, r7_42, r7_45, r7_46, r7_59, r7_60, r7_61, r7_64, r7_65, r7_66, r7_69, gC0 hC, vf0_7, tC0_7 hC, gC8 hC, pC8 hC, vf0_8, tC0_8 hC, gC9 hC, pC9 hC, qa5, qo5, List.getElem?_cons_zero, List.getElem?_cons_succ, List.length_cons, List.length_nil, ag_nx, ag_dn, ag_no, ag_if, jbr1, jbr2, jc1, jc2, jnul, jld, jsto, jstoL, jst1, jst2, jkill, jinc, jbI, jbL, jbS, juI, jl2i, jcmp, jisR, jisI, jisL, jret, jretv, jfits, jdup, jdup2, jpop, jmm, jcat, Value.category, jinv, jrcv, jthr, jhd, jput, jget, jlen, jald, jast, jaast, jgI, jgL, jgB, jtab, jlku, jacp, vf20, vf21, vf22, vf23, vf24, u2_s, u2_k, u2_i, uc_s, uc_k, uc_c, u2_c, LI0, LI1, LI2, LI3, LI4, LI5, LI6, LI7, LI8, LI9, LI10, LI11, LI12, LI13, LI14, LI15, LI16, LI17, LI18, LI19, LI20, LI21, LI22, LI23, LI24, LI25, LI26, LI27, LI28, LI29, LI30, LI31, LI32, LI33, LI34, LI35, LI36, LI37, LI40, LI42, LI43, LI45, LI48, LI60, LI61, LI64, LI80, LI300, LI400, LI1000, LI2000, LI2001, LI2047, LI2048, LI100000, LI1000000, LI38, LI39, LI41, LI44, LI46, LI47, LI49, LI50, LI51, LI52, LI53, LI54, LI55, LI56, LI57, LI58, LI59, LI62, LI63, LI65, LI66, LI67, LI68, LI69, LI70, LI71, LI72, LI73, LI74, LI75, LI76, LI77, LI78, LI79, LI81, LI82, LI83, LI84, LI85, LI86, LI87, LI88, LI89, LI90, LI91, LI92, LI93, LI94, LI95, LI96, LI97, LI98, LI99, LI100, LI101, LI102, LI103, LI104, LI105, LI106, LI107, LI108, LI109, LI110, LI111, LI112, LI113, LI114, LI115, LI116, LI117, LI118, LI119, LI120, LI121, LI122, LI123, LI124, LI125, LI126, LI127, LI255, LI256, LI999, LI1001, LI1002, LI1600, LI4096, LI1000001, LI2042, LM, nI_clamp, nI_pos', nI_lt, nI_nlt, nI_le, nI_ge, nI_ne, nI_add, nI_sub, mI_lt, mI_le, mI_nlt, mI_nle, mI_ne, mI_ne', mI_nem, e5, e5']
          · have h3 : e % 2 = 1 := by omega
            have ee := (eB_odd ke h3).mp hE
            have e1 : nI e - nI 1 = nI k := by rw [nI_sub (by omega)]; congr 1; omega
            rw [h3]
            simp (disch := omega) [r7_41, r7_42, r7_45, r7_46, r7_49, r7_50, r7_51, r7_52, r7_53, r7_56, gC0 hC, vf0_7, tC0_7 hC, gC8 hC, pC8 hC, vf0_8, tC0_8 hC, gC9 hC, pC9 hC, qa5, qo5, List.getElem?_cons_zero, List.getElem?_cons_succ, List.length_cons, List.length_nil, ag_nx, ag_dn, ag_no, ag_if, jbr1, jbr2, jc1, jc2, jnul, jld, jsto, jstoL, jst1, jst2, jkill, jinc, jbI, jbL, jbS, juI, jl2i, jcmp, jisR, jisI, jisL, jret, jretv, jfits, jdup, jdup2, jpop, jmm, jcat, Value.category, jinv, jrcv, jthr, jhd, jput, jget, jlen, jald, jast, jaast, jgI, jgL, jgB, jtab, jlku, jacp, vf20, vf21, vf22, vf23, vf24, u2_s, u2_k, u2_i, uc_s, uc_k, uc_c, u2_c, LI0, LI1, LI2, LI3, LI4, LI5, LI6, LI7, LI8, LI9, LI10, LI11, LI12, LI13, LI14, LI15, LI16, LI17, LI18, LI19, LI20, LI21, LI22, LI23, LI24, LI25, LI26, LI27, LI28, LI29, LI30, LI31, LI32, LI33, LI34, LI35, LI36, LI37, LI40, LI42, LI43, LI45, LI48, LI60, LI61, LI64, LI80, LI300, LI400, LI1000, LI2000, LI2001, LI2047, LI2048, LI100000, LI1000000, LI38, LI39, LI41, LI44, LI46, LI47, LI49, LI50, LI51, LI52, LI53, LI54, LI55, LI56, LI57, LI58, LI59, LI62, LI63, LI65, LI66, LI67, LI68, LI69, LI70, LI71, LI72, LI73, LI74, LI75, LI76, LI77, LI78, LI79, LI81, LI82, LI83, LI84, LI85, LI86, LI87, LI88, LI89, LI90, LI91, LI92, LI93, LI94, LI95, LI96, LI97, LI98, LI99, LI100, LI101, LI102, LI103, LI104, LI105, LI106, LI107, LI108, LI109, LI110, LI111, LI112, LI113, LI114, LI115, LI116, LI117, LI118, LI119, LI120, LI121, LI122, LI123, LI124, LI125, LI126, LI127, LI255, LI256, LI999, LI1001, LI1002, LI1600, LI4096, LI1000001, LI2042, LM, nI_clamp, nI_pos', nI_lt, nI_nlt, nI_le, nI_ge, nI_ne, nI_add, nI_sub, mI_lt, mI_le, mI_nlt, mI_nle, mI_ne, mI_ne', mI_nem, e1]
        rw [w0, r7_72]
        unfold adB loB hiB
        by_cases h6 : k < 64
        · simp (disch := omega) [r7_73, r7_76, r7_77, r7_78, r7_79, r7_80, r7_83, r7_84, r7_85, r7_86, r7_88, r7_91, r7_92, r7_93, r7_94, r7_98, r7_99, r7_100, r7_101, r7_102, r7_105, r7_106, r7_107, r7_108, r7_109, r7_112, r7_113, r7_114, r7_115, r7_117, r7_120, r7_121, r7_130, r7_131, r7_132, r7_133, r7_136, gC0 hC, vf0_7, tC0_7 hC, gC8 hC, pC8 hC, vf0_8, tC0_8 hC, gC9 hC, pC9 hC, qa5, qo5, List.getElem?_cons_zero, List.getElem?_cons_succ, List.length_cons, List.length_nil, ag_nx, ag_dn, ag_no, ag_if, jbr1, jbr2, jc1, jc2, jnul, jld, jsto, jstoL, jst1, jst2, jkill, jinc, jbI, jbL, jbS, juI, jl2i, jcmp, jisR, jisI, jisL, jret, jretv, jfits, jdup, jdup2, jpop, jmm, jcat, Value.category, jinv, jrcv, jthr, jhd, jput, jget, jlen, jald, jast, jaast, jgI, jgL, jgB, jtab, jlku, jacp, vf20, vf21, vf22, vf23, vf24, u2_s, u2_k, u2_i, uc_s, uc_k, uc_c, u2_c, LI0, LI1, LI2, LI3, LI4, LI5, LI6, LI7, LI8, LI9, LI10, LI11, LI12, LI13, LI14, LI15, LI16, LI17, LI18, LI19, LI20, LI21, LI22, LI23, LI24, LI25, LI26, LI27, LI28, LI29, LI30, LI31, LI32, LI33, LI34, LI35, LI36, LI37, LI40, LI42, LI43, LI45, LI48, LI60, LI61, LI64, LI80, LI300, LI400, LI1000, LI2000, LI2001, LI2047, LI2048, LI100000, LI1000000, LI38, LI39, LI41, LI44, LI46, LI47, LI49, LI50, LI51, LI52, LI53, LI54, LI55, LI56, LI57, LI58, LI59, LI62, LI63, LI65, LI66, LI67, LI68, LI69, LI70, LI71, LI72, LI73, LI74, LI75, LI76, LI77, LI78, LI79, LI81, LI82, LI83, LI84, LI85, LI86, LI87, LI88, LI89, LI90, LI91, LI92, LI93, LI94, LI95, LI96, LI97, LI98, LI99, LI100, LI101, LI102, LI103, LI104, LI105, LI106, LI107, LI108, LI109, LI110, LI111, LI112, LI113, LI114, LI115, LI116, LI117, LI118, LI119, LI120, LI121, LI122, LI123, LI124, LI125, LI126, LI127, LI255, LI256, LI999, LI1001, LI1002, LI1600, LI4096, LI1000001, LI2042, LM, nI_clamp, nI_pos', nI_lt, nI_nlt, nI_le, nI_ge, nI_ne, nI_add, nI_sub, mI_lt, mI_le, mI_nlt, mI_nle, mI_ne, mI_ne', mI_nem, h6, e80, k80]
        · simp (disch := omega) [r7_73, r7_76, r7_77, r7_78, r7_79, r7_80, r7_83, r7_84, r7_85, r7_86, r7_88, r7_97, r7_98, r7_99, r7_100, r7_101, r7_102, r7_105, r7_106, r7_107, r7_108, r7_109, r7_112, r7_113, r7_114, r7_115, r7_117, r7_124, r7_125, r7_126, r7_128, r7_129, r7_130, r7_131, r7_132, r7_133, r7_136, gC0 hC, vf0_7, tC0_7 hC, gC8 hC, pC8 hC, vf0_8, tC0_8 hC, gC9 hC, pC9 hC, qa5, qo5, List.getElem?_cons_zero, List.getElem?_cons_succ, List.length_cons, List.length_nil, ag_nx, ag_dn, ag_no, ag_if, jbr1, jbr2, jc1, jc2, jnul, jld, jsto, jstoL, jst1, jst2, jkill, jinc, jbI, jbL, jbS, juI, jl2i, jcmp, jisR, jisI, jisL, jret, jretv, jfits, jdup, jdup2, jpop, jmm, jcat, Value.category, jinv, jrcv, jthr, jhd, jput, jget, jlen, jald, jast, jaast, jgI, jgL, jgB, jtab, jlku, jacp, vf20, vf21, vf22, vf23, vf24, u2_s, u2_k, u2_i, uc_s, uc_k, uc_c, u2_c, LI0, LI1, LI2, LI3, LI4, LI5, LI6, LI7, LI8, LI9, LI10, LI11, LI12, LI13, LI14, LI15, LI16, LI17, LI18, LI19, LI20, LI21, LI22, LI23, LI24, LI25, LI26, LI27, LI28, LI29, LI30, LI31, LI32, LI33, LI34, LI35, LI36, LI37, LI40, LI42, LI43, LI45, LI48, LI60, LI61, LI64, LI80, LI300, LI400, LI1000, LI2000, LI2001, LI2047, LI2048, LI100000, LI1000000, LI38, LI39, LI41, LI44, LI46, LI47, LI49, LI50, LI51, LI52, LI53, LI54, LI55, LI56, LI57, LI58, LI59, LI62, LI63, LI65, LI66, LI67, LI68, LI69, LI70, LI71, LI72, LI73, LI74, LI75, LI76, LI77, LI78, LI79, LI81, LI82, LI83, LI84, LI85, LI86, LI87, LI88, LI89, LI90, LI91, LI92, LI93, LI94, LI95, LI96, LI97, LI98, LI99, LI100, LI101, LI102, LI103, LI104, LI105, LI106, LI107, LI108, LI109, LI110, LI111, LI112, LI113, LI114, LI115, LI116, LI117, LI118, LI119, LI120, LI121, LI122, LI123, LI124, LI125, LI126, LI127, LI255, LI256, LI999, LI1001, LI1002, LI1600, LI4096, LI1000001, LI2042, LM, nI_clamp, nI_pos', nI_lt, nI_nlt, nI_le, nI_ge, nI_ne, nI_add, nI_sub, mI_lt, mI_le, mI_nlt, mI_nle, mI_ne, mI_ne', mI_nem, h6, e80, k80]
      refine ⟨J', w.trans q1, fun c i hc => (q2 c i hc).trans (adB_o hc), fun p hp => ?_⟩
      have bf : ∀ f, f < e → bb (adB J C e k) C f p = bb J C f p := fun f hf => by
        unfold bb
        rw [adB_o (by omega), adB_o (by omega)]
      rw [q3 p hp, adB_b ke e80 hp]
      simp only [Bool.or_eq_true, decide_eq_true_eq]
      constructor
      · rintro ((z | z | z) | ⟨f, f1, f2, f3, f4⟩)
        · exact Or.inl z
        · exact Or.inr ⟨k, Nat.le_refl _, ke, hE, Or.inr z⟩
        · exact Or.inr ⟨k, Nat.le_refl _, ke, hE, Or.inl z⟩
        · rw [bf f f2] at f4
          exact Or.inr ⟨f, by omega, f2, f3, f4⟩
      · rintro (z | ⟨f, f1, f2, f3, f4⟩)
        · exact Or.inl (Or.inl z)
        · by_cases hfk : f = k
          · subst hfk
            exact Or.inl (Or.inr (f4.elim Or.inr Or.inl))
          · exact Or.inr ⟨f, by omega, f2, f3, by rw [bf f f2]; exact f4⟩
    · obtain ⟨J', q1, q2, q3⟩ := ih (k + 1) J (by omega)
      have w : M7 A (d + 1) 40 [some (.ref (b + C)), some (.int (nI e)), some (.int (nI (e % 2))), some (.int (nI k))] [] (jH h b X I J R n) = M7 A (d + 1) 40 [some (.ref (b + C)), some (.int (nI e)), some (.int (nI (e % 2))), some (.int (nI (k + 1)))] [] (jH h b X I J R n) := by
        conv => lhs; rw [r7_40]
        by_cases h2 : e % 2 = 0
        · have ee : ¬ ln k = ln e := fun z => hE ((eB_ev ke h2).mpr z)
          have e5 := c5 (A := A) (d := d) (b := b) (h := h) (X := X) (J := J) (R := R) (n := n) (e := k) hC hl (by omega)
          have e5' := c5 (A := A) (d := d) (b := b) (h := h) (X := X) (J := J) (R := R) (n := n) (e := e) hC hl (by omega)
          have ne := nIne (a := ln k) (c := ln e) (by have := hln k; omega) (by have := hln e; omega) ee
          rw [h2]
          simp (disch := omega) [r7_41, r7_42, r7_45, r7_46, r7_59, r7_60, r7_61, r7_64, r7_65, r7_66, r7_69, r7_133, r7_136, gC0 hC, vf0_7, tC0_7 hC, gC8 hC, pC8 hC, vf0_8, tC0_8 hC, gC9 hC, pC9 hC, qa5, qo5, List.getElem?_cons_zero, List.getElem?_cons_succ, List.length_cons, List.length_nil, ag_nx, ag_dn, ag_no, ag_if, jbr1, jbr2, jc1, jc2, jnul, jld, jsto, jstoL, jst1, jst2, jkill, jinc, jbI, jbL, jbS, juI, jl2i, jcmp, jisR, jisI, jisL, jret, jretv, jfits, jdup, jdup2, jpop, jmm, jcat, Value.category, jinv, jrcv, jthr, jhd, jput, jget, jlen, jald, jast, jaast, jgI, jgL, jgB, jtab, jlku, jacp, vf20, vf21, vf22, vf23, vf24, u2_s, u2_k, u2_i, uc_s, uc_k, uc_c, u2_c, LI0, LI1, LI2, LI3, LI4, LI5, LI6, LI7, LI8, LI9, LI10, LI11, LI12, LI13, LI14, LI15, LI16, LI17, LI18, LI19, LI20, LI21, LI22, LI23, LI24, LI25, LI26, LI27, LI28, LI29, LI30, LI31, LI32, LI33, LI34, LI35, LI36, LI37, LI40, LI42, LI43, LI45, LI48, LI60, LI61, LI64, LI80, LI300, LI400, LI1000, LI2000, LI2001, LI2047, LI2048, LI100000, LI1000000, LI38, LI39, LI41, LI44, LI46, LI47, LI49, LI50, LI51, LI52, LI53, LI54, LI55, LI56, LI57, LI58, LI59, LI62, LI63, LI65, LI66, LI67, LI68, LI69, LI70, LI71, LI72, LI73, LI74, LI75, LI76, LI77, LI78, LI79, LI81, LI82, LI83, LI84, LI85, LI86, LI87, LI88, LI89, LI90, LI91, LI92, LI93, LI94, LI95, LI96, LI97, LI98, LI99, LI100, LI101, LI102, LI103, LI104, LI105, LI106, LI107, LI108, LI109, LI110, LI111, LI112, LI113, LI114, LI115, LI116, LI117, LI118, LI119, LI120, LI121, LI122, LI123, LI124, LI125, LI126, LI127, LI255, LI256, LI999, LI1001, LI1002, LI1600, LI4096, LI1000001, LI2042, LM, nI_clamp, nI_pos', nI_lt, nI_nlt, nI_le, nI_ge, nI_ne, nI_add, nI_sub, mI_lt, mI_le, mI_nlt, mI_nle, mI_ne, mI_ne', mI_nem, e5, e5', ne]
        · have h3 : e % 2 = 1 := by omega
          have ee : ¬ k = e - 1 := fun z => hE ((eB_odd ke h3).mpr z)
          have ne := nIne (a := k) (c := e - 1) (by omega) (by omega) ee
          have e1 : nI e - nI 1 = nI (e - 1) := nI_sub (by omega)
          rw [h3]
          simp (disch := omega) [r7_41, r7_42, r7_45, r7_46, r7_49, r7_50, r7_51, r7_52, r7_53, r7_133, r7_136, gC0 hC, vf0_7, tC0_7 hC, gC8 hC, pC8 hC, vf0_8, tC0_8 hC, gC9 hC, pC9 hC, qa5, qo5, List.getElem?_cons_zero, List.getElem?_cons_succ, List.length_cons, List.length_nil, ag_nx, ag_dn, ag_no, ag_if, jbr1, jbr2, jc1, jc2, jnul, jld, jsto, jstoL, jst1, jst2, jkill, jinc, jbI, jbL, jbS, juI, jl2i, jcmp, jisR, jisI, jisL, jret, jretv, jfits, jdup, jdup2, jpop, jmm, jcat, Value.category, jinv, jrcv, jthr, jhd, jput, jget, jlen, jald, jast, jaast, jgI, jgL, jgB, jtab, jlku, jacp, vf20, vf21, vf22, vf23, vf24, u2_s, u2_k, u2_i, uc_s, uc_k, uc_c, u2_c, LI0, LI1, LI2, LI3, LI4, LI5, LI6, LI7, LI8, LI9, LI10, LI11, LI12, LI13, LI14, LI15, LI16, LI17, LI18, LI19, LI20, LI21, LI22, LI23, LI24, LI25, LI26, LI27, LI28, LI29, LI30, LI31, LI32, LI33, LI34, LI35, LI36, LI37, LI40, LI42, LI43, LI45, LI48, LI60, LI61, LI64, LI80, LI300, LI400, LI1000, LI2000, LI2001, LI2047, LI2048, LI100000, LI1000000, LI38, LI39, LI41, LI44, LI46, LI47, LI49, LI50, LI51, LI52, LI53, LI54, LI55, LI56, LI57, LI58, LI59, LI62, LI63, LI65, LI66, LI67, LI68, LI69, LI70, LI71, LI72, LI73, LI74, LI75, LI76, LI77, LI78, LI79, LI81, LI82, LI83, LI84, LI85, LI86, LI87, LI88, LI89, LI90, LI91, LI92, LI93, LI94, LI95, LI96, LI97, LI98, LI99, LI100, LI101, LI102, LI103, LI104, LI105, LI106, LI107, LI108, LI109, LI110, LI111, LI112, LI113, LI114, LI115, LI116, LI117, LI118, LI119, LI120, LI121, LI122, LI123, LI124, LI125, LI126, LI127, LI255, LI256, LI999, LI1001, LI1002, LI1600, LI4096, LI1000001, LI2042, LM, nI_clamp, nI_pos', nI_lt, nI_nlt, nI_le, nI_ge, nI_ne, nI_add, nI_sub, mI_lt, mI_le, mI_nlt, mI_nle, mI_ne, mI_ne', mI_nem, e1, ne]
      refine ⟨J', w.trans q1, q2, fun p hp => ?_⟩
      rw [q3 p hp]
      constructor
      · rintro (z | ⟨f, f1, f2, f3, f4⟩)
        · exact Or.inl z
        · exact Or.inr ⟨f, by omega, f2, f3, f4⟩
      · rintro (z | ⟨f, f1, f2, f3, f4⟩)
        · exact Or.inl z
        · by_cases hfk : f = k
          · subst hfk
            exact absurd f3 hE
          · exact Or.inr ⟨f, by omega, f2, f3, f4⟩
theorem c7 {e : Nat} (hC : isC C) (hl : cLi I C m ln) (he : e < 2 * m) (hb : ∀ f p, f < e → p < 80 → (bb J C f p = true ↔ bP ln (2 * m) p f)) : ∃ J', jcall A jcode (d + 2) 7 [.ref (b + C), .int (nI e)] (jH h b X I J R n) = some (.inl none, (jH h b X I J' R n)) ∧ (∀ c i, ¬ ((c = C + 8 ∨ c = C + 9) ∧ i = e) → J' c i = J c i) ∧ ∀ f p, f < e + 1 → p < 80 → (bb J' C f p = true ↔ bP ln (2 * m) p f) := by
  have e80 : e < 80 := by have := hl.1; omega
  obtain ⟨J1, hJ1⟩ : ∃ J1, J1 = u2 (u2 J (C + 8) e 0) (C + 9) e 0 := ⟨_, rfl⟩
  obtain ⟨J', q1, q2, q3⟩ := c7l (A := A) (d := d) (b := b) (h := h) (X := X) (R := R) (n := n) hC hl he e 0 J1 (by omega)
  have a1 := an1 e e80
  have w : jcall A jcode (d + 2) 7 [.ref (b + C), .int (nI e)] (jH h b X I J R n) = M7 A (d + 1) 40 [some (.ref (b + C)), some (.int (nI e)), some (.int (nI (e % 2))), some (.int (nI 0))] [] (jH h b X I J1 R n) := by
    rw [hJ1]
    by_cases h2 : e % 2 = 0
    · rw [h2] at a1 ⊢
      simp (disch := omega) [je7, r7_0, r7_1, r7_4, r7_5, r7_7, r7_11, r7_12, r7_15, r7_16, r7_17, r7_18, r7_19, r7_22, r7_23, r7_24, r7_25, r7_26, r7_27, r7_28, r7_29, r7_36, r7_37, r7_38, r7_39, gC0 hC, vf0_7, tC0_7 hC, gC8 hC, pC8 hC, vf0_8, tC0_8 hC, gC9 hC, pC9 hC, qa5, qo5, List.getElem?_cons_zero, List.getElem?_cons_succ, List.length_cons, List.length_nil, ag_nx, ag_dn, ag_no, ag_if, jbr1, jbr2, jc1, jc2, jnul, jld, jsto, jstoL, jst1, jst2, jkill, jinc, jbI, jbL, jbS, juI, jl2i, jcmp, jisR, jisI, jisL, jret, jretv, jfits, jdup, jdup2, jpop, jmm, jcat, Value.category, jinv, jrcv, jthr, jhd, jput, jget, jlen, jald, jast, jaast, jgI, jgL, jgB, jtab, jlku, jacp, vf20, vf21, vf22, vf23, vf24, u2_s, u2_k, u2_i, uc_s, uc_k, uc_c, u2_c, LI0, LI1, LI2, LI3, LI4, LI5, LI6, LI7, LI8, LI9, LI10, LI11, LI12, LI13, LI14, LI15, LI16, LI17, LI18, LI19, LI20, LI21, LI22, LI23, LI24, LI25, LI26, LI27, LI28, LI29, LI30, LI31, LI32, LI33, LI34, LI35, LI36, LI37, LI40, LI42, LI43, LI45, LI48, LI60, LI61, LI64, LI80, LI300, LI400, LI1000, LI2000, LI2001, LI2047, LI2048, LI100000, LI1000000, LI38, LI39, LI41, LI44, LI46, LI47, LI49, LI50, LI51, LI52, LI53, LI54, LI55, LI56, LI57, LI58, LI59, LI62, LI63, LI65, LI66, LI67, LI68, LI69, LI70, LI71, LI72, LI73, LI74, LI75, LI76, LI77, LI78, LI79, LI81, LI82, LI83, LI84, LI85, LI86, LI87, LI88, LI89, LI90, LI91, LI92, LI93, LI94, LI95, LI96, LI97, LI98, LI99, LI100, LI101, LI102, LI103, LI104, LI105, LI106, LI107, LI108, LI109, LI110, LI111, LI112, LI113, LI114, LI115, LI116, LI117, LI118, LI119, LI120, LI121, LI122, LI123, LI124, LI125, LI126, LI127, LI255, LI256, LI999, LI1001, LI1002, LI1600, LI4096, LI1000001, LI2042, LM, nI_clamp, nI_pos', nI_lt, nI_nlt, nI_le, nI_ge, nI_ne, nI_add, nI_sub, mI_lt, mI_le, mI_nlt, mI_nle, mI_ne, mI_ne', mI_nem, a1, e80]
    · have h3 : e % 2 = 1 := by omega
      rw [h3] at a1 ⊢
      simp (disch := omega) [je7, r7_0, r7_1, r7_4, r7_5, r7_7, r7_11, r7_12, r7_15, r7_16, r7_17, r7_18, r7_19, r7_22, r7_23, r7_24, r7_25, r7_26, r7_27, r7_28, r7_29, r7_32, r7_33, r7_37, r7_38, r7_39, gC0 hC, vf0_7, tC0_7 hC, gC8 hC, pC8 hC, vf0_8, tC0_8 hC, gC9 hC, pC9 hC, qa5, qo5, List.getElem?_cons_zero, List.getElem?_cons_succ, List.length_cons, List.length_nil, ag_nx, ag_dn, ag_no, ag_if, jbr1, jbr2, jc1, jc2, jnul, jld, jsto, jstoL, jst1, jst2, jkill, jinc, jbI, jbL, jbS, juI, jl2i, jcmp, jisR, jisI, jisL, jret, jretv, jfits, jdup, jdup2, jpop, jmm, jcat, Value.category, jinv, jrcv, jthr, jhd, jput, jget, jlen, jald, jast, jaast, jgI, jgL, jgB, jtab, jlku, jacp, vf20, vf21, vf22, vf23, vf24, u2_s, u2_k, u2_i, uc_s, uc_k, uc_c, u2_c, LI0, LI1, LI2, LI3, LI4, LI5, LI6, LI7, LI8, LI9, LI10, LI11, LI12, LI13, LI14, LI15, LI16, LI17, LI18, LI19, LI20, LI21, LI22, LI23, LI24, LI25, LI26, LI27, LI28, LI29, LI30, LI31, LI32, LI33, LI34, LI35, LI36, LI37, LI40, LI42, LI43, LI45, LI48, LI60, LI61, LI64, LI80, LI300, LI400, LI1000, LI2000, LI2001, LI2047, LI2048, LI100000, LI1000000, LI38, LI39, LI41, LI44, LI46, LI47, LI49, LI50, LI51, LI52, LI53, LI54, LI55, LI56, LI57, LI58, LI59, LI62, LI63, LI65, LI66, LI67, LI68, LI69, LI70, LI71, LI72, LI73, LI74, LI75, LI76, LI77, LI78, LI79, LI81, LI82, LI83, LI84, LI85, LI86, LI87, LI88, LI89, LI90, LI91, LI92, LI93, LI94, LI95, LI96, LI97, LI98, LI99, LI100, LI101, LI102, LI103, LI104, LI105, LI106, LI107, LI108, LI109, LI110, LI111, LI112, LI113, LI114, LI115, LI116, LI117, LI118, LI119, LI120, LI121, LI122, LI123, LI124, LI125, LI126, LI127, LI255, LI256, LI999, LI1001, LI1002, LI1600, LI4096, LI1000001, LI2042, LM, nI_clamp, nI_pos', nI_lt, nI_nlt, nI_le, nI_ge, nI_ne, nI_add, nI_sub, mI_lt, mI_le, mI_nlt, mI_nle, mI_ne, mI_ne', mI_nem, a1, e80]
  have j1 : ∀ c i, ¬ ((c = C + 8 ∨ c = C + 9) ∧ i = e) → J1 c i = J c i := fun c i hc => by
    rw [hJ1, u2_p (by omega), u2_p (by omega)]
  refine ⟨J', w.trans q1, fun c i hc => (q2 c i hc).trans (j1 c i hc), fun f p hf hp => ?_⟩
  by_cases hfe : f = e
  · subst hfe
    have b0 : bb J1 C f p = false := by
      unfold bb
      rw [hJ1]
      by_cases h6 : p < 64
      · rw [if_pos h6, u2_p (by omega), u2_s, btL_0]
      · rw [if_neg h6, u2_s, btL_0]
    have b1 : ∀ g, g < f → bb J1 C g p = bb J C g p := fun g hg => by
      unfold bb
      rw [j1 _ _ (by omega), j1 _ _ (by omega)]
    rw [q3 p hp, b0, bP_i]
    simp only [Bool.false_eq_true, false_or]
    constructor
    · rintro ⟨g, _, g2, g3, g4⟩
      rw [b1 g g2, hb g p g2 hp] at g4
      exact ⟨g, g2, ⟨g2, he, g3⟩, g4⟩
    · rintro ⟨g, g2, g3, g4⟩
      refine ⟨g, Nat.zero_le _, g2, g3.2.2, ?_⟩
      rw [b1 g g2, hb g p g2 hp]
      exact g4
  · have : bb J' C f p = bb J C f p := by
      unfold bb
      rw [q2 _ _ (by omega), q2 _ _ (by omega), j1 _ _ (by omega), j1 _ _ (by omega)]
    rw [this]
    exact hb f p (by omega) hp
/-- the rows of races -/
def cRa (I : Nat → Nat → Int32) (C : Nat) (l : List (Nat × Nat)) : Prop := I C 12 = nI l.length ∧ ∀ (i : Nat) r, l[i]? = some r → I (C + 11) i = nI r.1 ∧ I (C + 12) i = nI r.2
def fRa (C : Nat) (I I' : Nat → Nat → Int32) : Prop := ∀ c i, ¬ (c = C ∧ i = 12) → c ≠ C + 11 → c ≠ C + 12 → I' c i = I c i
theorem cLi_f {I' : Nat → Nat → Int32} (hl : cLi I C m ln) (hf : fRa C I I') : cLi I' C m ln := by
  refine ⟨hl.1, hl.2.1, fun e he => ?_⟩
  rw [hf (C + 5) _ (by omega) (by omega) (by omega), hf (C + 6) _ (by omega) (by omega) (by omega)]
  exact hl.2.2 e he
theorem cRa_a {l : List (Nat × Nat)} {p q : Nat} (hl : cRa I C l) : cRa (u2 (u2 (u2 I (C + 11) l.length (nI p)) (C + 12) l.length (nI q)) C 12 (nI (l.length + 1))) C (l ++ [(p, q)]) := by
  refine ⟨by rw [u2_s]; simp, fun i r hr => ?_⟩
  by_cases hi : i < l.length
  · rw [List.getElem?_append_left hi] at hr
    obtain ⟨x1, x2⟩ := hl.2 i r hr
    rw [u2_o _ _ (by omega), u2_o _ _ (by omega), u2_o _ _ (by omega), u2_o _ _ (by omega), u2_o _ _ (by omega), u2_o _ _ (by omega)]
    exact ⟨x1, x2⟩
  · rw [List.getElem?_append_right (by omega)] at hr
    by_cases h0 : i - l.length = 0
    · have : i = l.length := by omega
      subst this
      rw [h0] at hr
      simp only [List.getElem?_cons_zero, Option.some.injEq] at hr
      subst hr
      rw [u2_o _ _ (by omega), u2_o _ _ (by omega), u2_s, u2_o _ _ (by omega), u2_s]
      exact ⟨rfl, rfl⟩
    · rw [List.getElem?_eq_none (by simp; omega)] at hr
      cases hr
/-- the inner loop -/
theorem c6i {p : Nat} (hC : isC C) (hp : p < 2 * m) : ∀ (r q : Nat) (I : Nat → Nat → Int32) (l : List (Nat × Nat)), q + r = 2 * m → cLi I C m ln → I C 6 = nI m → cRa I C l → l.length + r ≤ 3160 → ∃ I' x, M6 A (d + 1) 56 [some (.ref (b + C)), some (.int (nI p)), some (.int (nI q))] [] (jH h b X I J R n) = M6 A (d + 1) 36 [some (.ref (b + C)), some (.int (nI (p + 1))), some (.int x)] [] (jH h b X I' J R n) ∧ fRa C I I' ∧ cRa I' C (l ++ rcI (fun p q => bb J C q p) ln p r q) := by
  have hCe := isC_ee hC
  intro r
  induction r with
  | zero =>
    intro q I l hq hl h6 hr _
    have h40 := hl.1
    have : q = 2 * m := by omega
    subst this
    refine ⟨I, nI (2 * m), ?_, fun _ _ _ _ _ => rfl, by unfold rcI; rw [List.append_nil]; exact hr⟩
    rw [r6_56]
    simp (disch := omega) [r6_57, r6_58, r6_59, r6_62, r6_63, r6_147, r6_150, gC0 hC, pC0_12 hC, ty0_12, vf0_6, qa7, qo7, qa5, qo5, qa8, qo8, vf0_12, vf0_10, tC0_10 hC, gC11 hC, pC11 hC, vf0_11, tC0_11 hC, gC12 hC, pC12 hC, List.getElem?_cons_zero, List.getElem?_cons_succ, List.length_cons, List.length_nil, ag_nx, ag_dn, ag_no, ag_if, jbr1, jbr2, jc1, jc2, jnul, jld, jsto, jstoL, jst1, jst2, jkill, jinc, jbI, jbL, jbS, juI, jl2i, jcmp, jisR, jisI, jisL, jret, jretv, jfits, jdup, jdup2, jpop, jmm, jcat, Value.category, jinv, jrcv, jthr, jhd, jput, jget, jlen, jald, jast, jaast, jgI, jgL, jgB, jtab, jlku, jacp, vf20, vf21, vf22, vf23, vf24, u2_s, u2_k, u2_i, uc_s, uc_k, uc_c, u2_c, LI0, LI1, LI2, LI3, LI4, LI5, LI6, LI7, LI8, LI9, LI10, LI11, LI12, LI13, LI14, LI15, LI16, LI17, LI18, LI19, LI20, LI21, LI22, LI23, LI24, LI25, LI26, LI27, LI28, LI29, LI30, LI31, LI32, LI33, LI34, LI35, LI36, LI37, LI40, LI42, LI43, LI45, LI48, LI60, LI61, LI64, LI80, LI300, LI400, LI1000, LI2000, LI2001, LI2047, LI2048, LI100000, LI1000000, LI38, LI39, LI41, LI44, LI46, LI47, LI49, LI50, LI51, LI52, LI53, LI54, LI55, LI56, LI57, LI58, LI59, LI62, LI63, LI65, LI66, LI67, LI68, LI69, LI70, LI71, LI72, LI73, LI74, LI75, LI76, LI77, LI78, LI79, LI81, LI82, LI83, LI84, LI85, LI86, LI87, LI88, LI89, LI90, LI91, LI92, LI93, LI94, LI95, LI96, LI97, LI98, LI99, LI100, LI101, LI102, LI103, LI104, LI105, LI106, LI107, LI108, LI109, LI110, LI111, LI112, LI113, LI114, LI115, LI116, LI117, LI118, LI119, LI120, LI121, LI122, LI123, LI124, LI125, LI126, LI127, LI255, LI256, LI999, LI1001, LI1002, LI1600, LI4096, LI1000001, LI2042, LM, nI_clamp, nI_pos', nI_lt, nI_nlt, nI_le, nI_ge, nI_ne, nI_add, nI_sub, mI_lt, mI_le, mI_nlt, mI_nle, mI_ne, mI_ne', mI_nem, h6, nI_mul]
  | succ r ih =>
    intro q I l hq hl h6 hr hlen
    have h40 := hl.1
    have hln := hl.2.1
    have q80 : q < 80 := by omega
    have hq2 : nI q &&& nI 1 = nI (q % 2) := an1 q q80
    have skip : (q % 2 = 1 ∧ ln p = ln q ∧ bb J C q p = false) = False → ∃ I' x, M6 A (d + 1) 56 [some (.ref (b + C)), some (.int (nI p)), some (.int (nI q))] [] (jH h b X I J R n) = M6 A (d + 1) 36 [some (.ref (b + C)), some (.int (nI (p + 1))), some (.int x)] [] (jH h b X I' J R n) ∧ fRa C I I' ∧ cRa I' C (l ++ rcI (fun p q => bb J C q p) ln p (r + 1) q) ∨ ¬ (M6 A (d + 1) 56 [some (.ref (b + C)), some (.int (nI p)), some (.int (nI q))] [] (jH h b X I J R n) = M6 A (d + 1) 56 [some (.ref (b + C)), some (.int (nI p)), some (.int (nI (q + 1)))] [] (jH h b X I J R n)) := by
      intro hF
      obtain ⟨I', x, e1, e2, e3⟩ := ih (q + 1) I l (by omega) hl h6 hr (by omega)
      by_cases hw : M6 A (d + 1) 56 [some (.ref (b + C)), some (.int (nI p)), some (.int (nI q))] [] (jH h b X I J R n) = M6 A (d + 1) 56 [some (.ref (b + C)), some (.int (nI p)), some (.int (nI (q + 1)))] [] (jH h b X I J R n)
      · refine ⟨I', x, Or.inl ⟨hw.trans e1, e2, ?_⟩⟩
        unfold rcI
        rw [if_neg (by rw [hF]; exact id), List.nil_append]
        exact e3
      · exact ⟨I, x, Or.inr hw⟩
    have e5 := c5 (A := A) (d := d) (b := b) (h := h) (X := X) (J := J) (R := R) (n := n) (e := p) hC hl hp
    have e5' := c5 (A := A) (d := d) (b := b) (h := h) (X := X) (J := J) (R := R) (n := n) (e := q) hC hl (by omega)
    have e8 := c8 (A := A) (d := d) (b := b) (h := h) (X := X) (I := I) (J := J) (R := R) (n := n) (p := p) (q := q) hC (by omega) q80
    by_cases h1 : q % 2 = 1
    · rw [h1] at hq2
      by_cases h2 : ln p = ln q
      · by_cases h3 : bb J C q p = false
        · rw [h3, if_neg (by decide)] at e8
          rw [h2] at e5
          have h12 := hr.1
          have l31 : l.length < 3160 := by omega
          have n31 : ¬ (3160 : Int32) ≤ nI l.length := by have : (3160 : Int32) = nI 3160 := by decide
                                                          rw [this]; exact nI_ge (by omega) (by omega)
          obtain ⟨I1, hI1⟩ : ∃ I1, I1 = u2 (u2 (u2 I (C + 11) l.length (nI p)) (C + 12) l.length (nI q)) C 12 (nI (l.length + 1)) := ⟨_, rfl⟩
          have f1 : fRa C I I1 := fun c i z1 z2 z3 => by rw [hI1, u2_o _ _ (by omega), u2_o _ _ (by omega), u2_o _ _ (by omega)]
          have h6' : I1 C 6 = nI m := (f1 _ _ (by omega) (by omega) (by omega)).trans h6
          obtain ⟨I', x, e1, e2, e3⟩ := ih (q + 1) I1 (l ++ [(p, q)]) (by omega) (cLi_f hl f1) h6' (by rw [hI1]; exact cRa_a hr) (by simp; omega)
          refine ⟨I', x, ?_, fun c i z1 z2 z3 => (e2 c i z1 z2 z3).trans (f1 c i z1 z2 z3), ?_⟩
          · rw [← e1, hI1, r6_56]
            simp (disch := omega) [r6_57, r6_58, r6_59, r6_62, r6_63, r6_66, r6_67, r6_69, r6_72, r6_73, r6_74, r6_75, r6_76, r6_79, r6_80, r6_81, r6_84, r6_85, r6_86, r6_89, r6_92, r6_93, r6_94, r6_95, r6_98, r6_101, r6_102, r6_105, r6_108, r6_111, r6_112, r6_115, r6_116, r6_119, r6_120, r6_121, r6_122, r6_125, r6_126, r6_129, r6_130, r6_131, r6_132, r6_133, r6_136, r6_137, r6_138, r6_141, r6_144, gC0 hC, pC0_12 hC, ty0_12, vf0_6, qa7, qo7, qa5, qo5, qa8, qo8, vf0_12, vf0_10, tC0_10 hC, gC11 hC, pC11 hC, vf0_11, tC0_11 hC, gC12 hC, pC12 hC, List.getElem?_cons_zero, List.getElem?_cons_succ, List.length_cons, List.length_nil, ag_nx, ag_dn, ag_no, ag_if, jbr1, jbr2, jc1, jc2, jnul, jld, jsto, jstoL, jst1, jst2, jkill, jinc, jbI, jbL, jbS, juI, jl2i, jcmp, jisR, jisI, jisL, jret, jretv, jfits, jdup, jdup2, jpop, jmm, jcat, Value.category, jinv, jrcv, jthr, jhd, jput, jget, jlen, jald, jast, jaast, jgI, jgL, jgB, jtab, jlku, jacp, vf20, vf21, vf22, vf23, vf24, u2_s, u2_k, u2_i, uc_s, uc_k, uc_c, u2_c, LI0, LI1, LI2, LI3, LI4, LI5, LI6, LI7, LI8, LI9, LI10, LI11, LI12, LI13, LI14, LI15, LI16, LI17, LI18, LI19, LI20, LI21, LI22, LI23, LI24, LI25, LI26, LI27, LI28, LI29, LI30, LI31, LI32, LI33, LI34, LI35, LI36, LI37, LI40, LI42, LI43, LI45, LI48, LI60, LI61, LI64, LI80, LI300, LI400, LI1000, LI2000, LI2001, LI2047, LI2048, LI100000, LI1000000, LI38, LI39, LI41, LI44, LI46, LI47, LI49, LI50, LI51, LI52, LI53, LI54, LI55, LI56, LI57, LI58, LI59, LI62, LI63, LI65, LI66, LI67, LI68, LI69, LI70, LI71, LI72, LI73, LI74, LI75, LI76, LI77, LI78, LI79, LI81, LI82, LI83, LI84, LI85, LI86, LI87, LI88, LI89, LI90, LI91, LI92, LI93, LI94, LI95, LI96, LI97, LI98, LI99, LI100, LI101, LI102, LI103, LI104, LI105, LI106, LI107, LI108, LI109, LI110, LI111, LI112, LI113, LI114, LI115, LI116, LI117, LI118, LI119, LI120, LI121, LI122, LI123, LI124, LI125, LI126, LI127, LI255, LI256, LI999, LI1001, LI1002, LI1600, LI4096, LI1000001, LI2042, LM, nI_clamp, nI_pos', nI_lt, nI_nlt, nI_le, nI_ge, nI_ne, nI_add, nI_sub, mI_lt, mI_le, mI_nlt, mI_nle, mI_ne, mI_ne', mI_nem, h6, nI_mul, hq2, e5, e5', e8, h12, l31, n31]
          · unfold rcI
            rw [if_pos ⟨h1, h2, h3⟩, ← List.append_assoc]
            exact e3
        · have h3' : bb J C q p = true := by simpa using h3
          rw [h3', if_pos rfl] at e8
          rw [h2] at e5
          obtain ⟨I', x, z⟩ := skip (by simp [h3'])
          refine ⟨I', x, z.resolve_right (fun z => z ?_)⟩
          conv => lhs; rw [r6_56]
          simp (disch := omega) [r6_57, r6_58, r6_59, r6_62, r6_63, r6_66, r6_67, r6_69, r6_72, r6_73, r6_74, r6_75, r6_76, r6_79, r6_80, r6_81, r6_84, r6_85, r6_86, r6_89, r6_92, r6_93, r6_94, r6_95, r6_98, r6_141, r6_144, gC0 hC, pC0_12 hC, ty0_12, vf0_6, qa7, qo7, qa5, qo5, qa8, qo8, vf0_12, vf0_10, tC0_10 hC, gC11 hC, pC11 hC, vf0_11, tC0_11 hC, gC12 hC, pC12 hC, List.getElem?_cons_zero, List.getElem?_cons_succ, List.length_cons, List.length_nil, ag_nx, ag_dn, ag_no, ag_if, jbr1, jbr2, jc1, jc2, jnul, jld, jsto, jstoL, jst1, jst2, jkill, jinc, jbI, jbL, jbS, juI, jl2i, jcmp, jisR, jisI, jisL, jret, jretv, jfits, jdup, jdup2, jpop, jmm, jcat, Value.category, jinv, jrcv, jthr, jhd, jput, jget, jlen, jald, jast, jaast, jgI, jgL, jgB, jtab, jlku, jacp, vf20, vf21, vf22, vf23, vf24, u2_s, u2_k, u2_i, uc_s, uc_k, uc_c, u2_c, LI0, LI1, LI2, LI3, LI4, LI5, LI6, LI7, LI8, LI9, LI10, LI11, LI12, LI13, LI14, LI15, LI16, LI17, LI18, LI19, LI20, LI21, LI22, LI23, LI24, LI25, LI26, LI27, LI28, LI29, LI30, LI31, LI32, LI33, LI34, LI35, LI36, LI37, LI40, LI42, LI43, LI45, LI48, LI60, LI61, LI64, LI80, LI300, LI400, LI1000, LI2000, LI2001, LI2047, LI2048, LI100000, LI1000000, LI38, LI39, LI41, LI44, LI46, LI47, LI49, LI50, LI51, LI52, LI53, LI54, LI55, LI56, LI57, LI58, LI59, LI62, LI63, LI65, LI66, LI67, LI68, LI69, LI70, LI71, LI72, LI73, LI74, LI75, LI76, LI77, LI78, LI79, LI81, LI82, LI83, LI84, LI85, LI86, LI87, LI88, LI89, LI90, LI91, LI92, LI93, LI94, LI95, LI96, LI97, LI98, LI99, LI100, LI101, LI102, LI103, LI104, LI105, LI106, LI107, LI108, LI109, LI110, LI111, LI112, LI113, LI114, LI115, LI116, LI117, LI118, LI119, LI120, LI121, LI122, LI123, LI124, LI125, LI126, LI127, LI255, LI256, LI999, LI1001, LI1002, LI1600, LI4096, LI1000001, LI2042, LM, nI_clamp, nI_pos', nI_lt, nI_nlt, nI_le, nI_ge, nI_ne, nI_add, nI_sub, mI_lt, mI_le, mI_nlt, mI_nle, mI_ne, mI_ne', mI_nem, h6, nI_mul, hq2, e5, e5', e8]
      · have ne := nIne (a := ln p) (c := ln q) (by have := hln p; omega) (by have := hln q; omega) h2
        obtain ⟨I', x, z⟩ := skip (by simp [h2])
        refine ⟨I', x, z.resolve_right (fun z => z ?_)⟩
        conv => lhs; rw [r6_56]
        simp (disch := omega) [r6_57, r6_58, r6_59, r6_62, r6_63, r6_66, r6_67, r6_69, r6_72, r6_73, r6_74, r6_75, r6_76, r6_79, r6_80, r6_81, r6_84, r6_85, r6_86, r6_89, r6_141, r6_144, gC0 hC, pC0_12 hC, ty0_12, vf0_6, qa7, qo7, qa5, qo5, qa8, qo8, vf0_12, vf0_10, tC0_10 hC, gC11 hC, pC11 hC, vf0_11, tC0_11 hC, gC12 hC, pC12 hC, List.getElem?_cons_zero, List.getElem?_cons_succ, List.length_cons, List.length_nil, ag_nx, ag_dn, ag_no, ag_if, jbr1, jbr2, jc1, jc2, jnul, jld, jsto, jstoL, jst1, jst2, jkill, jinc, jbI, jbL, jbS, juI, jl2i, jcmp, jisR, jisI, jisL, jret, jretv, jfits, jdup, jdup2, jpop, jmm, jcat, Value.category, jinv, jrcv, jthr, jhd, jput, jget, jlen, jald, jast, jaast, jgI, jgL, jgB, jtab, jlku, jacp, vf20, vf21, vf22, vf23, vf24, u2_s, u2_k, u2_i, uc_s, uc_k, uc_c, u2_c, LI0, LI1, LI2, LI3, LI4, LI5, LI6, LI7, LI8, LI9, LI10, LI11, LI12, LI13, LI14, LI15, LI16, LI17, LI18, LI19, LI20, LI21, LI22, LI23, LI24, LI25, LI26, LI27, LI28, LI29, LI30, LI31, LI32, LI33, LI34, LI35, LI36, LI37, LI40, LI42, LI43, LI45, LI48, LI60, LI61, LI64, LI80, LI300, LI400, LI1000, LI2000, LI2001, LI2047, LI2048, LI100000, LI1000000, LI38, LI39, LI41, LI44, LI46, LI47, LI49, LI50, LI51, LI52, LI53, LI54, LI55, LI56, LI57, LI58, LI59, LI62, LI63, LI65, LI66, LI67, LI68, LI69, LI70, LI71, LI72, LI73, LI74, LI75, LI76, LI77, LI78, LI79, LI81, LI82, LI83, LI84, LI85, LI86, LI87, LI88, LI89, LI90, LI91, LI92, LI93, LI94, LI95, LI96, LI97, LI98, LI99, LI100, LI101, LI102, LI103, LI104, LI105, LI106, LI107, LI108, LI109, LI110, LI111, LI112, LI113, LI114, LI115, LI116, LI117, LI118, LI119, LI120, LI121, LI122, LI123, LI124, LI125, LI126, LI127, LI255, LI256, LI999, LI1001, LI1002, LI1600, LI4096, LI1000001, LI2042, LM, nI_clamp, nI_pos', nI_lt, nI_nlt, nI_le, nI_ge, nI_ne, nI_add, nI_sub, mI_lt, mI_le, mI_nlt, mI_nle, mI_ne, mI_ne', mI_nem, h6, nI_mul, hq2, e5, e5', ne]
    · rw [show q % 2 = 0 by omega] at hq2
      obtain ⟨I', x, z⟩ := skip (by simp [h1])
      refine ⟨I', x, z.resolve_right (fun z => z ?_)⟩
      conv => lhs; rw [r6_56]
      simp (disch := omega) [r6_57, r6_58, r6_59, r6_62, r6_63, r6_66, r6_67, r6_69, r6_72, r6_73, r6_74, r6_75, r6_76, r6_141, r6_144, gC0 hC, pC0_12 hC, ty0_12, vf0_6, qa7, qo7, qa5, qo5, qa8, qo8, vf0_12, vf0_10, tC0_10 hC, gC11 hC, pC11 hC, vf0_11, tC0_11 hC, gC12 hC, pC12 hC, List.getElem?_cons_zero, List.getElem?_cons_succ, List.length_cons, List.length_nil, ag_nx, ag_dn, ag_no, ag_if, jbr1, jbr2, jc1, jc2, jnul, jld, jsto, jstoL, jst1, jst2, jkill, jinc, jbI, jbL, jbS, juI, jl2i, jcmp, jisR, jisI, jisL, jret, jretv, jfits, jdup, jdup2, jpop, jmm, jcat, Value.category, jinv, jrcv, jthr, jhd, jput, jget, jlen, jald, jast, jaast, jgI, jgL, jgB, jtab, jlku, jacp, vf20, vf21, vf22, vf23, vf24, u2_s, u2_k, u2_i, uc_s, uc_k, uc_c, u2_c, LI0, LI1, LI2, LI3, LI4, LI5, LI6, LI7, LI8, LI9, LI10, LI11, LI12, LI13, LI14, LI15, LI16, LI17, LI18, LI19, LI20, LI21, LI22, LI23, LI24, LI25, LI26, LI27, LI28, LI29, LI30, LI31, LI32, LI33, LI34, LI35, LI36, LI37, LI40, LI42, LI43, LI45, LI48, LI60, LI61, LI64, LI80, LI300, LI400, LI1000, LI2000, LI2001, LI2047, LI2048, LI100000, LI1000000, LI38, LI39, LI41, LI44, LI46, LI47, LI49, LI50, LI51, LI52, LI53, LI54, LI55, LI56, LI57, LI58, LI59, LI62, LI63, LI65, LI66, LI67, LI68, LI69, LI70, LI71, LI72, LI73, LI74, LI75, LI76, LI77, LI78, LI79, LI81, LI82, LI83, LI84, LI85, LI86, LI87, LI88, LI89, LI90, LI91, LI92, LI93, LI94, LI95, LI96, LI97, LI98, LI99, LI100, LI101, LI102, LI103, LI104, LI105, LI106, LI107, LI108, LI109, LI110, LI111, LI112, LI113, LI114, LI115, LI116, LI117, LI118, LI119, LI120, LI121, LI122, LI123, LI124, LI125, LI126, LI127, LI255, LI256, LI999, LI1001, LI1002, LI1600, LI4096, LI1000001, LI2042, LM, nI_clamp, nI_pos', nI_lt, nI_nlt, nI_le, nI_ge, nI_ne, nI_add, nI_sub, mI_lt, mI_le, mI_nlt, mI_nle, mI_ne, mI_ne', mI_nem, h6, nI_mul, hq2]
/-- the outer loop -/
theorem c6o (hC : isC C) : ∀ (r p : Nat) (I : Nat → Nat → Int32) (l : List (Nat × Nat)) (v2 : Option Value), p + r = 2 * m → cLi I C m ln → I C 6 = nI m → cRa I C l → l.length + tr r ≤ 3160 → ∃ I', M6 A (d + 1) 36 [some (.ref (b + C)), some (.int (nI p)), v2] [] (jH h b X I J R n) = some (.inl none, (jH h b X I' J R n)) ∧ fRa C I I' ∧ cRa I' C (l ++ rcO (fun p q => bb J C q p) ln (2 * m) r p) := by
  have hCe := isC_ee hC
  intro r
  induction r with
  | zero =>
    intro p I l v2 hp hl h6 hr _
    have h40 := hl.1
    have : p = 2 * m := by omega
    subst this
    refine ⟨I, ?_, fun _ _ _ _ _ => rfl, by unfold rcO; rw [List.append_nil]; exact hr⟩
    rw [r6_36]
    simp (disch := omega) [r6_37, r6_38, r6_39, r6_42, r6_43, r6_153, gC0 hC, pC0_12 hC, ty0_12, vf0_6, qa7, qo7, qa5, qo5, qa8, qo8, vf0_12, vf0_10, tC0_10 hC, gC11 hC, pC11 hC, vf0_11, tC0_11 hC, gC12 hC, pC12 hC, List.getElem?_cons_zero, List.getElem?_cons_succ, List.length_cons, List.length_nil, ag_nx, ag_dn, ag_no, ag_if, jbr1, jbr2, jc1, jc2, jnul, jld, jsto, jstoL, jst1, jst2, jkill, jinc, jbI, jbL, jbS, juI, jl2i, jcmp, jisR, jisI, jisL, jret, jretv, jfits, jdup, jdup2, jpop, jmm, jcat, Value.category, jinv, jrcv, jthr, jhd, jput, jget, jlen, jald, jast, jaast, jgI, jgL, jgB, jtab, jlku, jacp, vf20, vf21, vf22, vf23, vf24, u2_s, u2_k, u2_i, uc_s, uc_k, uc_c, u2_c, LI0, LI1, LI2, LI3, LI4, LI5, LI6, LI7, LI8, LI9, LI10, LI11, LI12, LI13, LI14, LI15, LI16, LI17, LI18, LI19, LI20, LI21, LI22, LI23, LI24, LI25, LI26, LI27, LI28, LI29, LI30, LI31, LI32, LI33, LI34, LI35, LI36, LI37, LI40, LI42, LI43, LI45, LI48, LI60, LI61, LI64, LI80, LI300, LI400, LI1000, LI2000, LI2001, LI2047, LI2048, LI100000, LI1000000, LI38, LI39, LI41, LI44, LI46, LI47, LI49, LI50, LI51, LI52, LI53, LI54, LI55, LI56, LI57, LI58, LI59, LI62, LI63, LI65, LI66, LI67, LI68, LI69, LI70, LI71, LI72, LI73, LI74, LI75, LI76, LI77, LI78, LI79, LI81, LI82, LI83, LI84, LI85, LI86, LI87, LI88, LI89, LI90, LI91, LI92, LI93, LI94, LI95, LI96, LI97, LI98, LI99, LI100, LI101, LI102, LI103, LI104, LI105, LI106, LI107, LI108, LI109, LI110, LI111, LI112, LI113, LI114, LI115, LI116, LI117, LI118, LI119, LI120, LI121, LI122, LI123, LI124, LI125, LI126, LI127, LI255, LI256, LI999, LI1001, LI1002, LI1600, LI4096, LI1000001, LI2042, LM, nI_clamp, nI_pos', nI_lt, nI_nlt, nI_le, nI_ge, nI_ne, nI_add, nI_sub, mI_lt, mI_le, mI_nlt, mI_nle, mI_ne, mI_ne', mI_nem, h6, nI_mul]
  | succ r ih =>
    intro p I l v2 hp hl h6 hr hlen
    have h40 := hl.1
    have htr : tr (r + 1) = tr r + r := rfl
    have hir : 2 * m - (p + 1) = r := by omega
    obtain ⟨I1, x, e1, f1, r1⟩ := c6i (A := A) (d := d) (b := b) (h := h) (X := X) (J := J) (R := R) (n := n) hC (show p < 2 * m by omega) r (p + 1) I l (by omega) hl h6 hr (by omega)
    have hll := rcI_l (bf := fun p q => bb J C q p) (ln := ln) (p := p) r (p + 1)
    obtain ⟨I2, e2, f2, r2⟩ := ih (p + 1) I1 _ (some (.int x)) (by omega) (cLi_f hl f1) ((f1 _ _ (by omega) (by omega) (by omega)).trans h6) r1 (by rw [List.length_append]; omega)
    refine ⟨I2, ?_, fun c i z1 z2 z3 => (f2 c i z1 z2 z3).trans (f1 c i z1 z2 z3), ?_⟩
    · rw [← e2, ← e1]
      conv => lhs; rw [r6_36]
      simp (disch := omega) [r6_37, r6_38, r6_39, r6_42, r6_43, r6_46, r6_47, r6_49, r6_52, r6_53, r6_54, r6_55, gC0 hC, pC0_12 hC, ty0_12, vf0_6, qa7, qo7, qa5, qo5, qa8, qo8, vf0_12, vf0_10, tC0_10 hC, gC11 hC, pC11 hC, vf0_11, tC0_11 hC, gC12 hC, pC12 hC, List.getElem?_cons_zero, List.getElem?_cons_succ, List.length_cons, List.length_nil, ag_nx, ag_dn, ag_no, ag_if, jbr1, jbr2, jc1, jc2, jnul, jld, jsto, jstoL, jst1, jst2, jkill, jinc, jbI, jbL, jbS, juI, jl2i, jcmp, jisR, jisI, jisL, jret, jretv, jfits, jdup, jdup2, jpop, jmm, jcat, Value.category, jinv, jrcv, jthr, jhd, jput, jget, jlen, jald, jast, jaast, jgI, jgL, jgB, jtab, jlku, jacp, vf20, vf21, vf22, vf23, vf24, u2_s, u2_k, u2_i, uc_s, uc_k, uc_c, u2_c, LI0, LI1, LI2, LI3, LI4, LI5, LI6, LI7, LI8, LI9, LI10, LI11, LI12, LI13, LI14, LI15, LI16, LI17, LI18, LI19, LI20, LI21, LI22, LI23, LI24, LI25, LI26, LI27, LI28, LI29, LI30, LI31, LI32, LI33, LI34, LI35, LI36, LI37, LI40, LI42, LI43, LI45, LI48, LI60, LI61, LI64, LI80, LI300, LI400, LI1000, LI2000, LI2001, LI2047, LI2048, LI100000, LI1000000, LI38, LI39, LI41, LI44, LI46, LI47, LI49, LI50, LI51, LI52, LI53, LI54, LI55, LI56, LI57, LI58, LI59, LI62, LI63, LI65, LI66, LI67, LI68, LI69, LI70, LI71, LI72, LI73, LI74, LI75, LI76, LI77, LI78, LI79, LI81, LI82, LI83, LI84, LI85, LI86, LI87, LI88, LI89, LI90, LI91, LI92, LI93, LI94, LI95, LI96, LI97, LI98, LI99, LI100, LI101, LI102, LI103, LI104, LI105, LI106, LI107, LI108, LI109, LI110, LI111, LI112, LI113, LI114, LI115, LI116, LI117, LI118, LI119, LI120, LI121, LI122, LI123, LI124, LI125, LI126, LI127, LI255, LI256, LI999, LI1001, LI1002, LI1600, LI4096, LI1000001, LI2042, LM, nI_clamp, nI_pos', nI_lt, nI_nlt, nI_le, nI_ge, nI_ne, nI_add, nI_sub, mI_lt, mI_le, mI_nlt, mI_nle, mI_ne, mI_ne', mI_nem, h6, nI_mul]
    · unfold rcO
      rw [hir, ← List.append_assoc]
      exact r2
/-- the order of all events -/
theorem c6b (hC : isC C) (hl : cLi I C m ln) (h6 : I C 6 = nI m) : ∀ (r e : Nat) (J : Nat → Nat → Int64), e + r = 2 * m → (∀ f p, f < e → p < 80 → (bb J C f p = true ↔ bP ln (2 * m) p f)) → ∃ J', M6 A (d + 2) 7 [some (.ref (b + C)), some (.int (nI e)), none] [] (jH h b X I J R n) = M6 A (d + 2) 36 [some (.ref (b + C)), some (.int (nI 0)), none] [] (jH h b X I J' R n) ∧ (∀ c i, ¬ (c = C + 8 ∨ c = C + 9) → J' c i = J c i) ∧ ∀ f p, f < 2 * m → p < 80 → (bb J' C f p = true ↔ bP ln (2 * m) p f) := by
  have h40 := hl.1
  intro r
  induction r with
  | zero =>
    intro e J he hb
    have : e = 2 * m := by omega
    subst this
    refine ⟨J, ?_, fun _ _ _ => rfl, hb⟩
    conv => lhs; rw [r6_7]
    simp (disch := omega) [r6_8, r6_9, r6_10, r6_13, r6_14, r6_34, r6_35, gC0 hC, pC0_12 hC, ty0_12, vf0_6, qa7, qo7, qa5, qo5, qa8, qo8, vf0_12, vf0_10, tC0_10 hC, gC11 hC, pC11 hC, vf0_11, tC0_11 hC, gC12 hC, pC12 hC, List.getElem?_cons_zero, List.getElem?_cons_succ, List.length_cons, List.length_nil, ag_nx, ag_dn, ag_no, ag_if, jbr1, jbr2, jc1, jc2, jnul, jld, jsto, jstoL, jst1, jst2, jkill, jinc, jbI, jbL, jbS, juI, jl2i, jcmp, jisR, jisI, jisL, jret, jretv, jfits, jdup, jdup2, jpop, jmm, jcat, Value.category, jinv, jrcv, jthr, jhd, jput, jget, jlen, jald, jast, jaast, jgI, jgL, jgB, jtab, jlku, jacp, vf20, vf21, vf22, vf23, vf24, u2_s, u2_k, u2_i, uc_s, uc_k, uc_c, u2_c, LI0, LI1, LI2, LI3, LI4, LI5, LI6, LI7, LI8, LI9, LI10, LI11, LI12, LI13, LI14, LI15, LI16, LI17, LI18, LI19, LI20, LI21, LI22, LI23, LI24, LI25, LI26, LI27, LI28, LI29, LI30, LI31, LI32, LI33, LI34, LI35, LI36, LI37, LI40, LI42, LI43, LI45, LI48, LI60, LI61, LI64, LI80, LI300, LI400, LI1000, LI2000, LI2001, LI2047, LI2048, LI100000, LI1000000, LI38, LI39, LI41, LI44, LI46, LI47, LI49, LI50, LI51, LI52, LI53, LI54, LI55, LI56, LI57, LI58, LI59, LI62, LI63, LI65, LI66, LI67, LI68, LI69, LI70, LI71, LI72, LI73, LI74, LI75, LI76, LI77, LI78, LI79, LI81, LI82, LI83, LI84, LI85, LI86, LI87, LI88, LI89, LI90, LI91, LI92, LI93, LI94, LI95, LI96, LI97, LI98, LI99, LI100, LI101, LI102, LI103, LI104, LI105, LI106, LI107, LI108, LI109, LI110, LI111, LI112, LI113, LI114, LI115, LI116, LI117, LI118, LI119, LI120, LI121, LI122, LI123, LI124, LI125, LI126, LI127, LI255, LI256, LI999, LI1001, LI1002, LI1600, LI4096, LI1000001, LI2042, LM, nI_clamp, nI_pos', nI_lt, nI_nlt, nI_le, nI_ge, nI_ne, nI_add, nI_sub, mI_lt, mI_le, mI_nlt, mI_nle, mI_ne, mI_ne', mI_nem, h6, nI_mul]
  | succ r ih =>
    intro e J he hb
    obtain ⟨J1, e1, f1, b1⟩ := c7 (A := A) (d := d) (b := b) (h := h) (X := X) (R := R) (n := n) hC hl (show e < 2 * m by omega) hb
    obtain ⟨J2, e2, f2, b2⟩ := ih (e + 1) J1 (by omega) b1
    refine ⟨J2, ?_, fun c i hc => (f2 c i hc).trans (f1 c i (by omega)), b2⟩
    rw [← e2]
    conv => lhs; rw [r6_7]
    simp (disch := omega) [r6_8, r6_9, r6_10, r6_13, r6_14, r6_17, r6_18, r6_20, r6_23, r6_24, r6_25, r6_28, r6_31, gC0 hC, pC0_12 hC, ty0_12, vf0_6, qa7, qo7, qa5, qo5, qa8, qo8, vf0_12, vf0_10, tC0_10 hC, gC11 hC, pC11 hC, vf0_11, tC0_11 hC, gC12 hC, pC12 hC, List.getElem?_cons_zero, List.getElem?_cons_succ, List.length_cons, List.length_nil, ag_nx, ag_dn, ag_no, ag_if, jbr1, jbr2, jc1, jc2, jnul, jld, jsto, jstoL, jst1, jst2, jkill, jinc, jbI, jbL, jbS, juI, jl2i, jcmp, jisR, jisI, jisL, jret, jretv, jfits, jdup, jdup2, jpop, jmm, jcat, Value.category, jinv, jrcv, jthr, jhd, jput, jget, jlen, jald, jast, jaast, jgI, jgL, jgB, jtab, jlku, jacp, vf20, vf21, vf22, vf23, vf24, u2_s, u2_k, u2_i, uc_s, uc_k, uc_c, u2_c, LI0, LI1, LI2, LI3, LI4, LI5, LI6, LI7, LI8, LI9, LI10, LI11, LI12, LI13, LI14, LI15, LI16, LI17, LI18, LI19, LI20, LI21, LI22, LI23, LI24, LI25, LI26, LI27, LI28, LI29, LI30, LI31, LI32, LI33, LI34, LI35, LI36, LI37, LI40, LI42, LI43, LI45, LI48, LI60, LI61, LI64, LI80, LI300, LI400, LI1000, LI2000, LI2001, LI2047, LI2048, LI100000, LI1000000, LI38, LI39, LI41, LI44, LI46, LI47, LI49, LI50, LI51, LI52, LI53, LI54, LI55, LI56, LI57, LI58, LI59, LI62, LI63, LI65, LI66, LI67, LI68, LI69, LI70, LI71, LI72, LI73, LI74, LI75, LI76, LI77, LI78, LI79, LI81, LI82, LI83, LI84, LI85, LI86, LI87, LI88, LI89, LI90, LI91, LI92, LI93, LI94, LI95, LI96, LI97, LI98, LI99, LI100, LI101, LI102, LI103, LI104, LI105, LI106, LI107, LI108, LI109, LI110, LI111, LI112, LI113, LI114, LI115, LI116, LI117, LI118, LI119, LI120, LI121, LI122, LI123, LI124, LI125, LI126, LI127, LI255, LI256, LI999, LI1001, LI1002, LI1600, LI4096, LI1000001, LI2042, LM, nI_clamp, nI_pos', nI_lt, nI_nlt, nI_le, nI_ge, nI_ne, nI_add, nI_sub, mI_lt, mI_le, mI_nlt, mI_nle, mI_ne, mI_ne', mI_nem, h6, nI_mul, e1]
/-- findRaces -/
theorem c6 (hC : isC C) (hl : cLi I C m ln) (h6 : I C 6 = nI m) : ∃ I' J', jcall A jcode (d + 3) 6 [.ref (b + C)] (jH h b X I J R n) = some (.inl none, (jH h b X I' J' R n)) ∧ fRa C I I' ∧ (∀ c i, ¬ (c = C + 8 ∨ c = C + 9) → J' c i = J c i) ∧ (∀ f p, f < 2 * m → p < 80 → (bb J' C f p = true ↔ bP ln (2 * m) p f)) ∧ cRa I' C (rcO (fun p q => bb J' C q p) ln (2 * m) (2 * m) 0) := by
  have hCe := isC_ee hC
  have f1 : fRa C I (u2 I C 12 (nI 0)) := fun c i z1 z2 z3 => u2_o _ _ (by omega)
  have h6' : u2 I C 12 (nI 0) C 6 = nI m := (f1 _ _ (by omega) (by omega) (by omega)).trans h6
  obtain ⟨J1, e1, g1, b1⟩ := c6b (A := A) (d := d) (b := b) (h := h) (X := X) (R := R) (n := n) hC (cLi_f hl f1) h6' (2 * m) 0 J (by omega) (fun f p hf => by omega)
  have r0 : cRa (u2 I C 12 (nI 0)) C [] := ⟨u2_s, fun i r hr => by simp at hr⟩
  have t80 := tr_80 (2 * m) (by have := hl.1; omega)
  obtain ⟨I2, e2, f2, r2⟩ := c6o (A := A) (d := d + 1) (b := b) (h := h) (X := X) (J := J1) (R := R) (n := n) hC (2 * m) 0 (u2 I C 12 (nI 0)) [] none (by omega) (cLi_f hl f1) h6' r0 (by simpa using t80)
  refine ⟨I2, J1, ?_, fun c i z1 z2 z3 => (f2 c i z1 z2 z3).trans (f1 c i z1 z2 z3), g1, b1, by simpa using r2⟩
  rw [← e2, ← e1]
  simp (disch := omega) [je6, r6_0, r6_1, r6_2, r6_5, r6_6, gC0 hC, pC0_12 hC, ty0_12, vf0_6, qa7, qo7, qa5, qo5, qa8, qo8, vf0_12, vf0_10, tC0_10 hC, gC11 hC, pC11 hC, vf0_11, tC0_11 hC, gC12 hC, pC12 hC, List.getElem?_cons_zero, List.getElem?_cons_succ, List.length_cons, List.length_nil, ag_nx, ag_dn, ag_no, ag_if, jbr1, jbr2, jc1, jc2, jnul, jld, jsto, jstoL, jst1, jst2, jkill, jinc, jbI, jbL, jbS, juI, jl2i, jcmp, jisR, jisI, jisL, jret, jretv, jfits, jdup, jdup2, jpop, jmm, jcat, Value.category, jinv, jrcv, jthr, jhd, jput, jget, jlen, jald, jast, jaast, jgI, jgL, jgB, jtab, jlku, jacp, vf20, vf21, vf22, vf23, vf24, u2_s, u2_k, u2_i, uc_s, uc_k, uc_c, u2_c, LI0, LI1, LI2, LI3, LI4, LI5, LI6, LI7, LI8, LI9, LI10, LI11, LI12, LI13, LI14, LI15, LI16, LI17, LI18, LI19, LI20, LI21, LI22, LI23, LI24, LI25, LI26, LI27, LI28, LI29, LI30, LI31, LI32, LI33, LI34, LI35, LI36, LI37, LI40, LI42, LI43, LI45, LI48, LI60, LI61, LI64, LI80, LI300, LI400, LI1000, LI2000, LI2001, LI2047, LI2048, LI100000, LI1000000, LI38, LI39, LI41, LI44, LI46, LI47, LI49, LI50, LI51, LI52, LI53, LI54, LI55, LI56, LI57, LI58, LI59, LI62, LI63, LI65, LI66, LI67, LI68, LI69, LI70, LI71, LI72, LI73, LI74, LI75, LI76, LI77, LI78, LI79, LI81, LI82, LI83, LI84, LI85, LI86, LI87, LI88, LI89, LI90, LI91, LI92, LI93, LI94, LI95, LI96, LI97, LI98, LI99, LI100, LI101, LI102, LI103, LI104, LI105, LI106, LI107, LI108, LI109, LI110, LI111, LI112, LI113, LI114, LI115, LI116, LI117, LI118, LI119, LI120, LI121, LI122, LI123, LI124, LI125, LI126, LI127, LI255, LI256, LI999, LI1001, LI1002, LI1600, LI4096, LI1000001, LI2042, LM, nI_clamp, nI_pos', nI_lt, nI_nlt, nI_le, nI_ge, nI_ne, nI_add, nI_sub, mI_lt, mI_le, mI_nlt, mI_nle, mI_ne, mI_ne', mI_nem]
end CRC
