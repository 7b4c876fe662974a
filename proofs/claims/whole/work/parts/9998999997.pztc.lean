/-! a name is spelled, by both -/
theorem usr {x b : UInt64} {s i : Nat} (hs : s < 64) (hb : b.toNat = s) : (x >>> b).toBitVec.getLsbD i = x.toBitVec.getLsbD (s + i) := by
  rw [UInt64.toBitVec_shiftRight]
  show (x.toBitVec >>> ((b.toBitVec % 64#64).toNat)).getLsbD i = _
  rw [BitVec.getLsbD_ushiftRight]
  congr 1
  have : (b.toBitVec % 64#64).toNat = s := by
    rw [BitVec.toNat_umod]
    show b.toNat % 64 = s
    omega
  rw [this]
theorem usr32 {x b : UInt32} {s i : Nat} (hs : s < 32) (hb : b.toNat = s) : (x >>> b).toBitVec.getLsbD i = x.toBitVec.getLsbD (s + i) := by
  rw [UInt32.toBitVec_shiftRight]
  show (x.toBitVec >>> ((b.toBitVec % 32#32).toNat)).getLsbD i = _
  rw [BitVec.getLsbD_ushiftRight]
  congr 1
  have : (b.toBitVec % 32#32).toNat = s := by
    rw [BitVec.toNat_umod]
    show b.toNat % 32 = s
    omega
  rw [this]

def sbH (x : Int64) (k : Nat) : Int32 := (x.toUInt64 >>> ((nI 56 - nI 8 * nI k).toInt64.toUInt64 &&& Int64.toUInt64 63)).toInt64.toInt8.toInt32
def sbT (y : Int32) (k : Nat) : Int32 := (y.toUInt32 >>> ((nI 88).toUInt32 - (nI 8).toUInt32 * (nI k).toUInt32 &&& (nI 31).toUInt32)).toInt32.toInt8.toInt32
/-- byte k of a name of z bytes -/
def sbF (f : Nat → Int32) (z k : Nat) : Int32 := if k < z then f k else nI 0
theorem b8_ext {x : Int8} {c : Nat} (hc : c < 128) (h : ∀ i, i < 8 → x.toBitVec.getLsbD i = c.testBit i) : x.toInt32 = nI c := by
  apply Int32.toBitVec_inj.mp
  apply BitVec.eq_of_getLsbD_eq
  intro i hi
  rw [Int8.toBitVec_toInt32, BitVec.getLsbD_signExtend]
  have hr : (nI c).toBitVec.getLsbD i = c.testBit i := by
    show (BitVec.ofNat 32 c).getLsbD i = _
    rw [BitVec.getLsbD_ofNat]
    simp [hi]
  rw [hr]
  by_cases h8 : i < 8
  · rw [if_pos h8, h i h8]
    simp [hi]
  · rw [if_neg h8, BitVec.msb_eq_getLsbD_last]
    have h7 := h 7 (by omega)
    have e7 : c.testBit 7 = false := Nat.testBit_lt_two_pow (by omega)
    rw [show 8 - 1 = 7 by omega, h7, e7, tb_hi hc (by omega)]
    simp
theorem sbF_c {f : Nat → Int32} {z k : Nat} (ha : alB f z) : ∃ c, c < 128 ∧ sbF f z k = nI c ∧ ∀ i, c.testBit i = (decide (k < z) && (ix (f k)).testBit i) := by
  unfold sbF
  by_cases hk : k < z
  · obtain ⟨c1, c2, ce⟩ := al_ix (ha k hk)
    refine ⟨ix (f k), c2, by rw [if_pos hk]; exact ce, fun i => by simp [hk]⟩
  · exact ⟨0, by omega, by rw [if_neg hk], fun i => by simp [hk]⟩
theorem sbH_f {f : Nat → Int32} {z k : Nat} (ha : alB f z) (hk : k < 8) : sbH (hdF f z) k = sbF f z k := by
  obtain ⟨c, hc, e, hb⟩ := sbF_c (k := k) ha
  rw [e]
  unfold sbH
  apply b8_ext hc
  intro i hi
  have hs : ((nI 56 - nI 8 * nI k).toInt64.toUInt64 &&& Int64.toUInt64 63).toNat = 56 - 8 * k := by
    have : ∀ k, k < 8 → ((nI 56 - nI 8 * nI k).toInt64.toUInt64 &&& Int64.toUInt64 63).toNat = 56 - 8 * k := by decide
    exact this k hk
  rw [Int64.toBitVec_toInt8, BitVec.getLsbD_signExtend, if_pos (by omega)]
  show (decide (i < 8) && ((hdF f z).toUInt64 >>> _).toBitVec.getLsbD i) = _
  rw [usr (by omega) hs]
  have := hd_bit z ha (56 - 8 * k + i) (by omega)
  show (decide (i < 8) && (hdF f z).toBitVec.getLsbD (56 - 8 * k + i)) = _
  rw [this, hb, show 7 - (56 - 8 * k + i) / 8 = k by omega, show (56 - 8 * k + i) % 8 = i by omega]
  simp [hi]
theorem sbT_f {f : Nat → Int32} {z k : Nat} (ha : alB f z) (hk8 : 8 ≤ k) (hk : k < 12) : sbT (tlF f z) k = sbF f z k := by
  obtain ⟨c, hc, e, hb⟩ := sbF_c (k := k) ha
  rw [e]
  unfold sbT
  apply b8_ext hc
  intro i hi
  have hs : ((nI 88).toUInt32 - (nI 8).toUInt32 * (nI k).toUInt32 &&& (nI 31).toUInt32).toNat = 88 - 8 * k := by
    have : ∀ k, k < 12 → 8 ≤ k → ((nI 88).toUInt32 - (nI 8).toUInt32 * (nI k).toUInt32 &&& (nI 31).toUInt32).toNat = 88 - 8 * k := by decide
    exact this k hk hk8
  rw [Int32.toBitVec_toInt8, BitVec.getLsbD_signExtend, if_pos (by omega)]
  show (decide (i < 8) && ((tlF f z).toUInt32 >>> _).toBitVec.getLsbD i) = _
  rw [usr32 (by omega) hs]
  have := tl_bit z ha (88 - 8 * k + i) (by omega)
  show (decide (i < 8) && (tlF f z).toBitVec.getLsbD (88 - 8 * k + i)) = _
  rw [this, hb, show 11 - (88 - 8 * k + i) / 8 = k by omega, show (88 - 8 * k + i) % 8 = i by omega]
  simp [hi]
theorem sbF_8 {f : Nat → Int32} {z k : Nat} (ha : alB f z) : (sbF f z k).toInt8.toInt32 = sbF f z k := by
  obtain ⟨c, hc, e, _⟩ := sbF_c (k := k) ha
  rw [e]; exact nI_b8 c hc
theorem sbF_0 {f : Nat → Int32} {z k : Nat} (ha : alB f z) : sbF f z k = nI 0 ↔ z ≤ k := by
  unfold sbF
  by_cases hk : k < z
  · rw [if_pos hk]
    obtain ⟨c1, c2, ce⟩ := al_ix (ha k hk)
    refine ⟨fun h => ?_, fun h => by omega⟩
    rw [ce] at h
    have := (nI_eq (by omega) (by omega)).mp h
    omega
  · rw [if_neg hk]
    exact ⟨fun _ => by omega, fun _ => rfl⟩
section ZTC
variable {A : Nat → Nat} {d b n p u L : Nat} {h : Nat → Option jC} {X : jXX} {J : Nat → Nat → Int64} {R : Nat → Nat → Nat} {f : Nat → Int32} {z : Nat}
theorem c32l (hN : isN p) (hu : u < L) (hL : L ≤ (sT (p + 1)).2) (ha : alB f z) (hz : z ≤ 12) : ∀ (r k : Nat) (I : Nat → Nat → Int32) (c5 c6 : Option Value), k + r = 12 → J (p + 1) u = hdF f z → I (p + 2) u = tlF f z → ∃ I', M32 A d 19 [some (.ref (b + p)), some (.int (nI u)), some (.ref (b + 2)), some (.int (nI (min k z))), some (.int (nI k)), c5, c6] [] (jH h b X I J R n) = some (.inl (some (.int (nI z))), (jH h b X I' J R n)) ∧ (∀ j, k ≤ j → j < 12 → I' 2 j = sbF f z j) ∧ ∀ c i, ¬ (c = 2 ∧ k ≤ i) → I' c i = I c i := by
  have hc := sN_c hN
  have l1 : u < (sT (p + 1)).2 := by omega
  have l2 : u < (sT (p + 2)).2 := by omega
  have hpe : 11 ≤ p := by
    unfold isN at hN
    simp at hN
    omega
  intro r
  induction r with
  | zero =>
    intro k I c5 c6 hk h1 h2
    have e : k = 12 := by omega
    subst e
    refine ⟨I, ?_, fun j h1 h2 => by omega, fun _ _ _ => rfl⟩
    rw [show min 12 z = z by omega]
    conv => lhs; rw [r32_19]
    simp (disch := omega) [r32_0, r32_1, r32_4, r32_5, r32_6, r32_9, r32_12, r32_13, r32_14, r32_15, r32_16, r32_17, r32_21, r32_23, r32_26, r32_28, r32_29, r32_30, r32_33, r32_35, r32_37, r32_40, r32_41, r32_44, r32_45, r32_46, r32_48, r32_50, r32_52, r32_53, r32_54, r32_55, r32_58, r32_59, r32_62, r32_63, r32_64, r32_66, r32_68, r32_70, r32_71, r32_72, r32_73, r32_74, r32_76, r32_77, r32_79, r32_81, r32_82, r32_83, r32_84, r32_85, r32_87, r32_88, r32_91, r32_93, r32_94, r32_95, r32_96, r32_99, r32_102, r32_103, gN0 hN, vf3_2, vf3_0, tN0_0 hN, gN1 hN, pN1 hN, vf3_1, tN0_1 hN, gN2 hN, pN2 hN, List.getElem?_cons_zero, List.getElem?_cons_succ, List.length_cons, List.length_nil, ag_nx, ag_dn, ag_no, ag_if, jbr1, jbr2, jc1, jc2, jnul, jld, jsto, jstoL, jst1, jst2, jkill, jinc, jbI, jbL, jbS, juI, jl2i, jcmp, jisR, jisI, jisL, jret, jretv, jfits, jdup, jdup2, jpop, jmm, jcat, Value.category, jinv, jrcv, jthr, jhd, jput, jget, jlen, jald, jast, jaast, jgI, jgL, jgB, jtab, jlku, jacp, vf20, vf21, vf22, vf23, vf24, u2_s, u2_k, u2_i, uc_s, uc_k, uc_c, u2_c, LI0, LI1, LI2, LI3, LI4, LI5, LI6, LI7, LI8, LI9, LI10, LI11, LI12, LI13, LI14, LI15, LI16, LI17, LI18, LI19, LI20, LI21, LI22, LI23, LI24, LI25, LI26, LI27, LI28, LI29, LI30, LI31, LI32, LI33, LI34, LI35, LI36, LI37, LI40, LI42, LI43, LI45, LI48, LI60, LI61, LI64, LI80, LI300, LI400, LI1000, LI2000, LI2001, LI2047, LI2048, LI100000, LI1000000, LI38, LI39, LI41, LI44, LI46, LI47, LI49, LI50, LI51, LI52, LI53, LI54, LI55, LI56, LI57, LI58, LI59, LI62, LI63, LI65, LI66, LI67, LI68, LI69, LI70, LI71, LI72, LI73, LI74, LI75, LI76, LI77, LI78, LI79, LI81, LI82, LI83, LI84, LI85, LI86, LI87, LI88, LI89, LI90, LI91, LI92, LI93, LI94, LI95, LI96, LI97, LI98, LI99, LI100, LI101, LI102, LI103, LI104, LI105, LI106, LI107, LI108, LI109, LI110, LI111, LI112, LI113, LI114, LI115, LI116, LI117, LI118, LI119, LI120, LI121, LI122, LI123, LI124, LI125, LI126, LI127, LI255, LI256, LI999, LI1001, LI1002, LI1600, LI4096, LI1000001, LI2042, LM, nI_clamp, nI_pos', nI_lt, nI_nlt, nI_le, nI_ge, nI_ne, nI_add, nI_sub, mI_lt, mI_le, mI_nlt, mI_nle, mI_ne, mI_ne', mI_nem, g2]
  | succ r ih =>
    intro k I c5 c6 hk h1 h2
    have k12 : k < 12 := by omega
    have e88 := sbF_8 (k := k) ha
    have e80 : (nI 0).toInt8.toInt32 = nI 0 := by decide
    have key : ∀ (c5' c6' : Option Value), M32 A d 19 [some (.ref (b + p)), some (.int (nI u)), some (.ref (b + 2)), some (.int (nI (min k z))), some (.int (nI k)), c5, c6] [] (jH h b X I J R n) = M32 A d 19 [some (.ref (b + p)), some (.int (nI u)), some (.ref (b + 2)), some (.int (nI (min (k + 1) z))), some (.int (nI (k + 1))), c5', c6'] [] (jH h b X (u2 I 2 k (sbF f z k)) J R n) → ∃ I', M32 A d 19 [some (.ref (b + p)), some (.int (nI u)), some (.ref (b + 2)), some (.int (nI (min k z))), some (.int (nI k)), c5, c6] [] (jH h b X I J R n) = some (.inl (some (.int (nI z))), (jH h b X I' J R n)) ∧ (∀ j, k ≤ j → j < 12 → I' 2 j = sbF f z j) ∧ ∀ c i, ¬ (c = 2 ∧ k ≤ i) → I' c i = I c i := by
      intro c5' c6' e
      obtain ⟨I', e2, f1, f2⟩ := ih (k + 1) (u2 I 2 k (sbF f z k)) c5' c6' (by omega) h1 (by rw [u2_k (by omega)]; exact h2)
      refine ⟨I', e.trans e2, fun j j1 j2 => ?_, fun c i hc => ?_⟩
      · by_cases ej : j = k
        · subst ej; rw [f2 2 j (by omega), u2_s]
        · exact f1 j (by omega) j2
      · rw [f2 c i (by omega), u2_o _ _ (by omega)]
    by_cases hk8 : k < 8
    · have eb := sbH_f ha hk8
      rw [← h1] at eb
      unfold sbH at eb
      by_cases hz0 : z ≤ k
      · have e0 := (sbF_0 (k := k) ha).mpr hz0
        refine key (some (.long ((J (p + 1) u).toUInt64 >>> ((nI 56 - nI 8 * nI k).toInt64.toUInt64 &&& Int64.toUInt64 63)).toInt64)) none ?_
        rw [e0] at eb ⊢
        rw [show min (k + 1) z = z by omega, show min k z = z by omega]
        conv => lhs; rw [r32_19]
        simp (disch := omega) [r32_0, r32_1, r32_4, r32_5, r32_6, r32_9, r32_12, r32_13, r32_14, r32_15, r32_16, r32_17, r32_21, r32_23, r32_26, r32_28, r32_29, r32_30, r32_33, r32_35, r32_37, r32_40, r32_41, r32_44, r32_45, r32_46, r32_48, r32_50, r32_52, r32_53, r32_54, r32_55, r32_58, r32_59, r32_62, r32_63, r32_64, r32_66, r32_68, r32_70, r32_71, r32_72, r32_73, r32_74, r32_76, r32_77, r32_79, r32_81, r32_82, r32_83, r32_84, r32_85, r32_87, r32_88, r32_91, r32_93, r32_94, r32_95, r32_96, r32_99, r32_102, r32_103, gN0 hN, vf3_2, vf3_0, tN0_0 hN, gN1 hN, pN1 hN, vf3_1, tN0_1 hN, gN2 hN, pN2 hN, List.getElem?_cons_zero, List.getElem?_cons_succ, List.length_cons, List.length_nil, ag_nx, ag_dn, ag_no, ag_if, jbr1, jbr2, jc1, jc2, jnul, jld, jsto, jstoL, jst1, jst2, jkill, jinc, jbI, jbL, jbS, juI, jl2i, jcmp, jisR, jisI, jisL, jret, jretv, jfits, jdup, jdup2, jpop, jmm, jcat, Value.category, jinv, jrcv, jthr, jhd, jput, jget, jlen, jald, jast, jaast, jgI, jgL, jgB, jtab, jlku, jacp, vf20, vf21, vf22, vf23, vf24, u2_s, u2_k, u2_i, uc_s, uc_k, uc_c, u2_c, LI0, LI1, LI2, LI3, LI4, LI5, LI6, LI7, LI8, LI9, LI10, LI11, LI12, LI13, LI14, LI15, LI16, LI17, LI18, LI19, LI20, LI21, LI22, LI23, LI24, LI25, LI26, LI27, LI28, LI29, LI30, LI31, LI32, LI33, LI34, LI35, LI36, LI37, LI40, LI42, LI43, LI45, LI48, LI60, LI61, LI64, LI80, LI300, LI400, LI1000, LI2000, LI2001, LI2047, LI2048, LI100000, LI1000000, LI38, LI39, LI41, LI44, LI46, LI47, LI49, LI50, LI51, LI52, LI53, LI54, LI55, LI56, LI57, LI58, LI59, LI62, LI63, LI65, LI66, LI67, LI68, LI69, LI70, LI71, LI72, LI73, LI74, LI75, LI76, LI77, LI78, LI79, LI81, LI82, LI83, LI84, LI85, LI86, LI87, LI88, LI89, LI90, LI91, LI92, LI93, LI94, LI95, LI96, LI97, LI98, LI99, LI100, LI101, LI102, LI103, LI104, LI105, LI106, LI107, LI108, LI109, LI110, LI111, LI112, LI113, LI114, LI115, LI116, LI117, LI118, LI119, LI120, LI121, LI122, LI123, LI124, LI125, LI126, LI127, LI255, LI256, LI999, LI1001, LI1002, LI1600, LI4096, LI1000001, LI2042, LM, nI_clamp, nI_pos', nI_lt, nI_nlt, nI_le, nI_ge, nI_ne, nI_add, nI_sub, mI_lt, mI_le, mI_nlt, mI_nle, mI_ne, mI_ne', mI_nem, hk8, k12, l1, l2, g2, p2, eb, e80]
      · have e0 : ¬ sbF f z k = nI 0 := fun q => hz0 ((sbF_0 ha).mp q)
        refine key (some (.long ((J (p + 1) u).toUInt64 >>> ((nI 56 - nI 8 * nI k).toInt64.toUInt64 &&& Int64.toUInt64 63)).toInt64)) none ?_
        rw [show min (k + 1) z = k + 1 by omega]
        conv => lhs; rw [r32_19]
        simp (disch := omega) [r32_0, r32_1, r32_4, r32_5, r32_6, r32_9, r32_12, r32_13, r32_14, r32_15, r32_16, r32_17, r32_21, r32_23, r32_26, r32_28, r32_29, r32_30, r32_33, r32_35, r32_37, r32_40, r32_41, r32_44, r32_45, r32_46, r32_48, r32_50, r32_52, r32_53, r32_54, r32_55, r32_58, r32_59, r32_62, r32_63, r32_64, r32_66, r32_68, r32_70, r32_71, r32_72, r32_73, r32_74, r32_76, r32_77, r32_79, r32_81, r32_82, r32_83, r32_84, r32_85, r32_87, r32_88, r32_91, r32_93, r32_94, r32_95, r32_96, r32_99, r32_102, r32_103, gN0 hN, vf3_2, vf3_0, tN0_0 hN, gN1 hN, pN1 hN, vf3_1, tN0_1 hN, gN2 hN, pN2 hN, List.getElem?_cons_zero, List.getElem?_cons_succ, List.length_cons, List.length_nil, ag_nx, ag_dn, ag_no, ag_if, jbr1, jbr2, jc1, jc2, jnul, jld, jsto, jstoL, jst1, jst2, jkill, jinc, jbI, jbL, jbS, juI, jl2i, jcmp, jisR, jisI, jisL, jret, jretv, jfits, jdup, jdup2, jpop, jmm, jcat, Value.category, jinv, jrcv, jthr, jhd, jput, jget, jlen, jald, jast, jaast, jgI, jgL, jgB, jtab, jlku, jacp, vf20, vf21, vf22, vf23, vf24, u2_s, u2_k, u2_i, uc_s, uc_k, uc_c, u2_c, LI0, LI1, LI2, LI3, LI4, LI5, LI6, LI7, LI8, LI9, LI10, LI11, LI12, LI13, LI14, LI15, LI16, LI17, LI18, LI19, LI20, LI21, LI22, LI23, LI24, LI25, LI26, LI27, LI28, LI29, LI30, LI31, LI32, LI33, LI34, LI35, LI36, LI37, LI40, LI42, LI43, LI45, LI48, LI60, LI61, LI64, LI80, LI300, LI400, LI1000, LI2000, LI2001, LI2047, LI2048, LI100000, LI1000000, LI38, LI39, LI41, LI44, LI46, LI47, LI49, LI50, LI51, LI52, LI53, LI54, LI55, LI56, LI57, LI58, LI59, LI62, LI63, LI65, LI66, LI67, LI68, LI69, LI70, LI71, LI72, LI73, LI74, LI75, LI76, LI77, LI78, LI79, LI81, LI82, LI83, LI84, LI85, LI86, LI87, LI88, LI89, LI90, LI91, LI92, LI93, LI94, LI95, LI96, LI97, LI98, LI99, LI100, LI101, LI102, LI103, LI104, LI105, LI106, LI107, LI108, LI109, LI110, LI111, LI112, LI113, LI114, LI115, LI116, LI117, LI118, LI119, LI120, LI121, LI122, LI123, LI124, LI125, LI126, LI127, LI255, LI256, LI999, LI1001, LI1002, LI1600, LI4096, LI1000001, LI2042, LM, nI_clamp, nI_pos', nI_lt, nI_nlt, nI_le, nI_ge, nI_ne, nI_add, nI_sub, mI_lt, mI_le, mI_nlt, mI_nle, mI_ne, mI_ne', mI_nem, hk8, k12, l1, l2, g2, p2, eb, e0, e88]
    · have eb := sbT_f ha (by omega) k12
      rw [← h2] at eb
      unfold sbT at eb
      by_cases hz0 : z ≤ k
      · have e0 := (sbF_0 (k := k) ha).mpr hz0
        refine key (some (.long ((I (p + 2) u).toUInt32 >>> ((nI 88).toUInt32 - (nI 8).toUInt32 * (nI k).toUInt32 &&& (nI 31).toUInt32)).toInt32.toInt64)) none ?_
        rw [e0] at eb ⊢
        rw [show min (k + 1) z = z by omega, show min k z = z by omega]
        conv => lhs; rw [r32_19]
        simp (disch := omega) [r32_0, r32_1, r32_4, r32_5, r32_6, r32_9, r32_12, r32_13, r32_14, r32_15, r32_16, r32_17, r32_21, r32_23, r32_26, r32_28, r32_29, r32_30, r32_33, r32_35, r32_37, r32_40, r32_41, r32_44, r32_45, r32_46, r32_48, r32_50, r32_52, r32_53, r32_54, r32_55, r32_58, r32_59, r32_62, r32_63, r32_64, r32_66, r32_68, r32_70, r32_71, r32_72, r32_73, r32_74, r32_76, r32_77, r32_79, r32_81, r32_82, r32_83, r32_84, r32_85, r32_87, r32_88, r32_91, r32_93, r32_94, r32_95, r32_96, r32_99, r32_102, r32_103, gN0 hN, vf3_2, vf3_0, tN0_0 hN, gN1 hN, pN1 hN, vf3_1, tN0_1 hN, gN2 hN, pN2 hN, List.getElem?_cons_zero, List.getElem?_cons_succ, List.length_cons, List.length_nil, ag_nx, ag_dn, ag_no, ag_if, jbr1, jbr2, jc1, jc2, jnul, jld, jsto, jstoL, jst1, jst2, jkill, jinc, jbI, jbL, jbS, juI, jl2i, jcmp, jisR, jisI, jisL, jret, jretv, jfits, jdup, jdup2, jpop, jmm, jcat, Value.category, jinv, jrcv, jthr, jhd, jput, jget, jlen, jald, jast, jaast, jgI, jgL, jgB, jtab, jlku, jacp, vf20, vf21, vf22, vf23, vf24, u2_s, u2_k, u2_i, uc_s, uc_k, uc_c, u2_c, LI0, LI1, LI2, LI3, LI4, LI5, LI6, LI7, LI8, LI9, LI10, LI11, LI12, LI13, LI14, LI15, LI16, LI17, LI18, LI19, LI20, LI21, LI22, LI23, LI24, LI25, LI26, LI27, LI28, LI29, LI30, LI31, LI32, LI33, LI34, LI35, LI36, LI37, LI40, LI42, LI43, LI45, LI48, LI60, LI61, LI64, LI80, LI300, LI400, LI1000, LI2000, LI2001, LI2047, LI2048, LI100000, LI1000000, LI38, LI39, LI41, LI44, LI46, LI47, LI49, LI50, LI51, LI52, LI53, LI54, LI55, LI56, LI57, LI58, LI59, LI62, LI63, LI65, LI66, LI67, LI68, LI69, LI70, LI71, LI72, LI73, LI74, LI75, LI76, LI77, LI78, LI79, LI81, LI82, LI83, LI84, LI85, LI86, LI87, LI88, LI89, LI90, LI91, LI92, LI93, LI94, LI95, LI96, LI97, LI98, LI99, LI100, LI101, LI102, LI103, LI104, LI105, LI106, LI107, LI108, LI109, LI110, LI111, LI112, LI113, LI114, LI115, LI116, LI117, LI118, LI119, LI120, LI121, LI122, LI123, LI124, LI125, LI126, LI127, LI255, LI256, LI999, LI1001, LI1002, LI1600, LI4096, LI1000001, LI2042, LM, nI_clamp, nI_pos', nI_lt, nI_nlt, nI_le, nI_ge, nI_ne, nI_add, nI_sub, mI_lt, mI_le, mI_nlt, mI_nle, mI_ne, mI_ne', mI_nem, hk8, k12, l1, l2, g2, p2, eb, e80]
      · have e0 : ¬ sbF f z k = nI 0 := fun q => hz0 ((sbF_0 ha).mp q)
        refine key (some (.long ((I (p + 2) u).toUInt32 >>> ((nI 88).toUInt32 - (nI 8).toUInt32 * (nI k).toUInt32 &&& (nI 31).toUInt32)).toInt32.toInt64)) none ?_
        rw [show min (k + 1) z = k + 1 by omega]
        conv => lhs; rw [r32_19]
        simp (disch := omega) [r32_0, r32_1, r32_4, r32_5, r32_6, r32_9, r32_12, r32_13, r32_14, r32_15, r32_16, r32_17, r32_21, r32_23, r32_26, r32_28, r32_29, r32_30, r32_33, r32_35, r32_37, r32_40, r32_41, r32_44, r32_45, r32_46, r32_48, r32_50, r32_52, r32_53, r32_54, r32_55, r32_58, r32_59, r32_62, r32_63, r32_64, r32_66, r32_68, r32_70, r32_71, r32_72, r32_73, r32_74, r32_76, r32_77, r32_79, r32_81, r32_82, r32_83, r32_84, r32_85, r32_87, r32_88, r32_91, r32_93, r32_94, r32_95, r32_96, r32_99, r32_102, r32_103, gN0 hN, vf3_2, vf3_0, tN0_0 hN, gN1 hN, pN1 hN, vf3_1, tN0_1 hN, gN2 hN, pN2 hN, List.getElem?_cons_zero, List.getElem?_cons_succ, List.length_cons, List.length_nil, ag_nx, ag_dn, ag_no, ag_if, jbr1, jbr2, jc1, jc2, jnul, jld, jsto, jstoL, jst1, jst2, jkill, jinc, jbI, jbL, jbS, juI, jl2i, jcmp, jisR, jisI, jisL, jret, jretv, jfits, jdup, jdup2, jpop, jmm, jcat, Value.category, jinv, jrcv, jthr, jhd, jput, jget, jlen, jald, jast, jaast, jgI, jgL, jgB, jtab, jlku, jacp, vf20, vf21, vf22, vf23, vf24, u2_s, u2_k, u2_i, uc_s, uc_k, uc_c, u2_c, LI0, LI1, LI2, LI3, LI4, LI5, LI6, LI7, LI8, LI9, LI10, LI11, LI12, LI13, LI14, LI15, LI16, LI17, LI18, LI19, LI20, LI21, LI22, LI23, LI24, LI25, LI26, LI27, LI28, LI29, LI30, LI31, LI32, LI33, LI34, LI35, LI36, LI37, LI40, LI42, LI43, LI45, LI48, LI60, LI61, LI64, LI80, LI300, LI400, LI1000, LI2000, LI2001, LI2047, LI2048, LI100000, LI1000000, LI38, LI39, LI41, LI44, LI46, LI47, LI49, LI50, LI51, LI52, LI53, LI54, LI55, LI56, LI57, LI58, LI59, LI62, LI63, LI65, LI66, LI67, LI68, LI69, LI70, LI71, LI72, LI73, LI74, LI75, LI76, LI77, LI78, LI79, LI81, LI82, LI83, LI84, LI85, LI86, LI87, LI88, LI89, LI90, LI91, LI92, LI93, LI94, LI95, LI96, LI97, LI98, LI99, LI100, LI101, LI102, LI103, LI104, LI105, LI106, LI107, LI108, LI109, LI110, LI111, LI112, LI113, LI114, LI115, LI116, LI117, LI118, LI119, LI120, LI121, LI122, LI123, LI124, LI125, LI126, LI127, LI255, LI256, LI999, LI1001, LI1002, LI1600, LI4096, LI1000001, LI2042, LM, nI_clamp, nI_pos', nI_lt, nI_nlt, nI_le, nI_ge, nI_ne, nI_add, nI_sub, mI_lt, mI_le, mI_nlt, mI_nle, mI_ne, mI_ne', mI_nem, hk8, k12, l1, l2, g2, p2, eb, e0, e88]
/-- spell of a name that is there -/
theorem c32 {I : Nat → Nat → Int32} (hN : isN p) (hm : cNm I J p L) (hu : u < L) (ha : alB f z) (hz : z ≤ 12) (h1 : cnm I J p u = (hdF f z, tlF f z)) : ∃ I', jcall A jcode (d + 1) 32 [.ref (b + p), .int (nI u), .ref (b + 2)] (jH h b X I J R n) = some (.inl (some (.int (nI z))), (jH h b X I' J R n)) ∧ (∀ j, j < 12 → I' 2 j = sbF f z j) ∧ ∀ c i, c ≠ 2 → I' c i = I c i := by
  have hL := hm.2.1
  have h2 := hm.1
  have hc := sN_c hN
  unfold cnm at h1
  obtain ⟨I', e, f1, f2⟩ := c32l (A := A) (d := d) (b := b) (h := h) (X := X) (J := J) (R := R) (n := n) hN hu hL ha hz 12 0 I none none rfl (congrArg Prod.fst h1) (congrArg Prod.snd h1)
  refine ⟨I', ?_, fun j hj => f1 j (by omega) hj, fun c i hc => f2 c i (by omega)⟩
  rw [← e, show min 0 z = 0 by omega]
  have q1 : ¬ nI u < nI 0 := by rw [nI_ltI (by omega) (by omega)]; omega
  have q2 : nI u < nI L := (nI_ltI (by omega) (by omega)).mpr hu
  simp (disch := omega) [je32, r32_0, r32_1, r32_4, r32_5, r32_6, r32_9, r32_12, r32_13, r32_14, r32_15, r32_16, r32_17, r32_21, r32_23, r32_26, r32_28, r32_29, r32_30, r32_33, r32_35, r32_37, r32_40, r32_41, r32_44, r32_45, r32_46, r32_48, r32_50, r32_52, r32_53, r32_54, r32_55, r32_58, r32_59, r32_62, r32_63, r32_64, r32_66, r32_68, r32_70, r32_71, r32_72, r32_73, r32_74, r32_76, r32_77, r32_79, r32_81, r32_82, r32_83, r32_84, r32_85, r32_87, r32_88, r32_91, r32_93, r32_94, r32_95, r32_96, r32_99, r32_102, r32_103, gN0 hN, vf3_2, vf3_0, tN0_0 hN, gN1 hN, pN1 hN, vf3_1, tN0_1 hN, gN2 hN, pN2 hN, List.getElem?_cons_zero, List.getElem?_cons_succ, List.length_cons, List.length_nil, ag_nx, ag_dn, ag_no, ag_if, jbr1, jbr2, jc1, jc2, jnul, jld, jsto, jstoL, jst1, jst2, jkill, jinc, jbI, jbL, jbS, juI, jl2i, jcmp, jisR, jisI, jisL, jret, jretv, jfits, jdup, jdup2, jpop, jmm, jcat, Value.category, jinv, jrcv, jthr, jhd, jput, jget, jlen, jald, jast, jaast, jgI, jgL, jgB, jtab, jlku, jacp, vf20, vf21, vf22, vf23, vf24, u2_s, u2_k, u2_i, uc_s, uc_k, uc_c, u2_c, LI0, LI1, LI2, LI3, LI4, LI5, LI6, LI7, LI8, LI9, LI10, LI11, LI12, LI13, LI14, LI15, LI16, LI17, LI18, LI19, LI20, LI21, LI22, LI23, LI24, LI25, LI26, LI27, LI28, LI29, LI30, LI31, LI32, LI33, LI34, LI35, LI36, LI37, LI40, LI42, LI43, LI45, LI48, LI60, LI61, LI64, LI80, LI300, LI400, LI1000, LI2000, LI2001, LI2047, LI2048, LI100000, LI1000000, LI38, LI39, LI41, LI44, LI46, LI47, LI49, LI50, LI51, LI52, LI53, LI54, LI55, LI56, LI57, LI58, LI59, LI62, LI63, LI65, LI66, LI67, LI68, LI69, LI70, LI71, LI72, LI73, LI74, LI75, LI76, LI77, LI78, LI79, LI81, LI82, LI83, LI84, LI85, LI86, LI87, LI88, LI89, LI90, LI91, LI92, LI93, LI94, LI95, LI96, LI97, LI98, LI99, LI100, LI101, LI102, LI103, LI104, LI105, LI106, LI107, LI108, LI109, LI110, LI111, LI112, LI113, LI114, LI115, LI116, LI117, LI118, LI119, LI120, LI121, LI122, LI123, LI124, LI125, LI126, LI127, LI255, LI256, LI999, LI1001, LI1002, LI1600, LI4096, LI1000001, LI2042, LM, nI_clamp, nI_pos', nI_lt, nI_nlt, nI_le, nI_ge, nI_ne, nI_add, nI_sub, mI_lt, mI_le, mI_nlt, mI_nle, mI_ne, mI_ne', mI_nem, h2, q1, q2]
theorem c32m {I : Nat → Nat → Int32} (hN : isN p) : jcall A jcode (d + 1) 32 [.ref (b + p), .int (mI 1), .ref (b + 2)] (jH h b X I J R n) = some (.inl (some (.int (nI 0))), (jH h b X I J R n)) := by
  simp (disch := omega) [je32, r32_0, r32_1, r32_4, r32_5, r32_6, r32_9, r32_12, r32_13, r32_14, r32_15, r32_16, r32_17, r32_21, r32_23, r32_26, r32_28, r32_29, r32_30, r32_33, r32_35, r32_37, r32_40, r32_41, r32_44, r32_45, r32_46, r32_48, r32_50, r32_52, r32_53, r32_54, r32_55, r32_58, r32_59, r32_62, r32_63, r32_64, r32_66, r32_68, r32_70, r32_71, r32_72, r32_73, r32_74, r32_76, r32_77, r32_79, r32_81, r32_82, r32_83, r32_84, r32_85, r32_87, r32_88, r32_91, r32_93, r32_94, r32_95, r32_96, r32_99, r32_102, r32_103, gN0 hN, vf3_2, vf3_0, tN0_0 hN, gN1 hN, pN1 hN, vf3_1, tN0_1 hN, gN2 hN, pN2 hN, List.getElem?_cons_zero, List.getElem?_cons_succ, List.length_cons, List.length_nil, ag_nx, ag_dn, ag_no, ag_if, jbr1, jbr2, jc1, jc2, jnul, jld, jsto, jstoL, jst1, jst2, jkill, jinc, jbI, jbL, jbS, juI, jl2i, jcmp, jisR, jisI, jisL, jret, jretv, jfits, jdup, jdup2, jpop, jmm, jcat, Value.category, jinv, jrcv, jthr, jhd, jput, jget, jlen, jald, jast, jaast, jgI, jgL, jgB, jtab, jlku, jacp, vf20, vf21, vf22, vf23, vf24, u2_s, u2_k, u2_i, uc_s, uc_k, uc_c, u2_c, LI0, LI1, LI2, LI3, LI4, LI5, LI6, LI7, LI8, LI9, LI10, LI11, LI12, LI13, LI14, LI15, LI16, LI17, LI18, LI19, LI20, LI21, LI22, LI23, LI24, LI25, LI26, LI27, LI28, LI29, LI30, LI31, LI32, LI33, LI34, LI35, LI36, LI37, LI40, LI42, LI43, LI45, LI48, LI60, LI61, LI64, LI80, LI300, LI400, LI1000, LI2000, LI2001, LI2047, LI2048, LI100000, LI1000000, LI38, LI39, LI41, LI44, LI46, LI47, LI49, LI50, LI51, LI52, LI53, LI54, LI55, LI56, LI57, LI58, LI59, LI62, LI63, LI65, LI66, LI67, LI68, LI69, LI70, LI71, LI72, LI73, LI74, LI75, LI76, LI77, LI78, LI79, LI81, LI82, LI83, LI84, LI85, LI86, LI87, LI88, LI89, LI90, LI91, LI92, LI93, LI94, LI95, LI96, LI97, LI98, LI99, LI100, LI101, LI102, LI103, LI104, LI105, LI106, LI107, LI108, LI109, LI110, LI111, LI112, LI113, LI114, LI115, LI116, LI117, LI118, LI119, LI120, LI121, LI122, LI123, LI124, LI125, LI126, LI127, LI255, LI256, LI999, LI1001, LI1002, LI1600, LI4096, LI1000001, LI2042, LM, nI_clamp, nI_pos', nI_lt, nI_nlt, nI_le, nI_ge, nI_ne, nI_add, nI_sub, mI_lt, mI_le, mI_nlt, mI_nle, mI_ne, mI_ne', mI_nem]
theorem r259l {w a z : Nat} (hz : z ≤ 12) (hw : w < cp X 244) (hw2 : w < 2 ^ 20) (hcap : a + z ≤ cp X 243) (hcb : cp X 243 ≤ 2 ^ 20) : ∀ (r k : Nat) (I : Nat → Nat → Int32), k + r = z → I 241 19 = nI z → I 244 w = nI a → (∀ j, j < z → (I 243 (a + j)).toInt8.toInt32 = I 243 (a + j)) → ∃ I', M259 A d 20 [some (.ref (b + 241)), some (.int (nI w)), some (.int (nI k))] [] (jH h b X I J R n) = some (.inl (some (.int (nI z))), (jH h b X I' J R n)) ∧ (∀ j, k ≤ j → j < z → I' 250 j = I 243 (a + j)) ∧ ∀ c i, ¬ (c = 250 ∧ k ≤ i) → I' c i = I c i := by
  intro r
  induction r with
  | zero =>
    intro k I hk h19 h244 hb
    have e : k = z := by omega
    subst e
    refine ⟨I, ?_, fun j h1 h2 => by omega, fun _ _ _ => rfl⟩
    rw [r259_20]
    simp (disch := omega) [r259_0, r259_1, r259_2, r259_5, r259_6, r259_9, r259_10, r259_13, r259_14, r259_15, r259_18, r259_19, r259_21, r259_22, r259_25, r259_28, r259_29, r259_32, r259_33, r259_34, r259_37, r259_38, r259_41, r259_42, r259_43, r259_44, r259_45, r259_46, r259_47, r259_50, r259_53, r259_54, r259_57, g241, vf12_5, t241_5, g245, p245, p241_19, ty12_19, vf12_19, vf12_12, t241_12, g250, p250, vf12_3, t241_3, g243, p243, vf12_4, t241_4, g244, p244, List.getElem?_cons_zero, List.getElem?_cons_succ, List.length_cons, List.length_nil, ag_nx, ag_dn, ag_no, ag_if, jbr1, jbr2, jc1, jc2, jnul, jld, jsto, jstoL, jst1, jst2, jkill, jinc, jbI, jbL, jbS, juI, jl2i, jcmp, jisR, jisI, jisL, jret, jretv, jfits, jdup, jdup2, jpop, jmm, jcat, Value.category, jinv, jrcv, jthr, jhd, jput, jget, jlen, jald, jast, jaast, jgI, jgL, jgB, jtab, jlku, jacp, vf20, vf21, vf22, vf23, vf24, u2_s, u2_k, u2_i, uc_s, uc_k, uc_c, u2_c, LI0, LI1, LI2, LI3, LI4, LI5, LI6, LI7, LI8, LI9, LI10, LI11, LI12, LI13, LI14, LI15, LI16, LI17, LI18, LI19, LI20, LI21, LI22, LI23, LI24, LI25, LI26, LI27, LI28, LI29, LI30, LI31, LI32, LI33, LI34, LI35, LI36, LI37, LI40, LI42, LI43, LI45, LI48, LI60, LI61, LI64, LI80, LI300, LI400, LI1000, LI2000, LI2001, LI2047, LI2048, LI100000, LI1000000, LI38, LI39, LI41, LI44, LI46, LI47, LI49, LI50, LI51, LI52, LI53, LI54, LI55, LI56, LI57, LI58, LI59, LI62, LI63, LI65, LI66, LI67, LI68, LI69, LI70, LI71, LI72, LI73, LI74, LI75, LI76, LI77, LI78, LI79, LI81, LI82, LI83, LI84, LI85, LI86, LI87, LI88, LI89, LI90, LI91, LI92, LI93, LI94, LI95, LI96, LI97, LI98, LI99, LI100, LI101, LI102, LI103, LI104, LI105, LI106, LI107, LI108, LI109, LI110, LI111, LI112, LI113, LI114, LI115, LI116, LI117, LI118, LI119, LI120, LI121, LI122, LI123, LI124, LI125, LI126, LI127, LI255, LI256, LI999, LI1001, LI1002, LI1600, LI4096, LI1000001, LI2042, LM, nI_clamp, nI_pos', nI_lt, nI_nlt, nI_le, nI_ge, nI_ne, nI_add, nI_sub, mI_lt, mI_le, mI_nlt, mI_nle, mI_ne, mI_ne', mI_nem, h19]
  | succ r ih =>
    intro k I hk h19 h244 hb
    have kz : k < z := by omega
    have k16 : k < 16 := by omega
    have hbk := hb k kz
    have hak : a + k < cp X 243 := by omega
    obtain ⟨I', e, f1, f2⟩ := ih (k + 1) (u2 I 250 k (I 243 (a + k))) (by omega) (by rw [u2_k (by omega)]; exact h19) (by rw [u2_k (by omega)]; exact h244) (fun j hj => by rw [u2_k (by omega)]; exact hb j hj)
    refine ⟨I', ?_, fun j j1 j2 => ?_, fun c i hc => ?_⟩
    · rw [← e, r259_20]
      simp (disch := omega) [r259_0, r259_1, r259_2, r259_5, r259_6, r259_9, r259_10, r259_13, r259_14, r259_15, r259_18, r259_19, r259_21, r259_22, r259_25, r259_28, r259_29, r259_32, r259_33, r259_34, r259_37, r259_38, r259_41, r259_42, r259_43, r259_44, r259_45, r259_46, r259_47, r259_50, r259_53, r259_54, r259_57, g241, vf12_5, t241_5, g245, p245, p241_19, ty12_19, vf12_19, vf12_12, t241_12, g250, p250, vf12_3, t241_3, g243, p243, vf12_4, t241_4, g244, p244, List.getElem?_cons_zero, List.getElem?_cons_succ, List.length_cons, List.length_nil, ag_nx, ag_dn, ag_no, ag_if, jbr1, jbr2, jc1, jc2, jnul, jld, jsto, jstoL, jst1, jst2, jkill, jinc, jbI, jbL, jbS, juI, jl2i, jcmp, jisR, jisI, jisL, jret, jretv, jfits, jdup, jdup2, jpop, jmm, jcat, Value.category, jinv, jrcv, jthr, jhd, jput, jget, jlen, jald, jast, jaast, jgI, jgL, jgB, jtab, jlku, jacp, vf20, vf21, vf22, vf23, vf24, u2_s, u2_k, u2_i, uc_s, uc_k, uc_c, u2_c, LI0, LI1, LI2, LI3, LI4, LI5, LI6, LI7, LI8, LI9, LI10, LI11, LI12, LI13, LI14, LI15, LI16, LI17, LI18, LI19, LI20, LI21, LI22, LI23, LI24, LI25, LI26, LI27, LI28, LI29, LI30, LI31, LI32, LI33, LI34, LI35, LI36, LI37, LI40, LI42, LI43, LI45, LI48, LI60, LI61, LI64, LI80, LI300, LI400, LI1000, LI2000, LI2001, LI2047, LI2048, LI100000, LI1000000, LI38, LI39, LI41, LI44, LI46, LI47, LI49, LI50, LI51, LI52, LI53, LI54, LI55, LI56, LI57, LI58, LI59, LI62, LI63, LI65, LI66, LI67, LI68, LI69, LI70, LI71, LI72, LI73, LI74, LI75, LI76, LI77, LI78, LI79, LI81, LI82, LI83, LI84, LI85, LI86, LI87, LI88, LI89, LI90, LI91, LI92, LI93, LI94, LI95, LI96, LI97, LI98, LI99, LI100, LI101, LI102, LI103, LI104, LI105, LI106, LI107, LI108, LI109, LI110, LI111, LI112, LI113, LI114, LI115, LI116, LI117, LI118, LI119, LI120, LI121, LI122, LI123, LI124, LI125, LI126, LI127, LI255, LI256, LI999, LI1001, LI1002, LI1600, LI4096, LI1000001, LI2042, LM, nI_clamp, nI_pos', nI_lt, nI_nlt, nI_le, nI_ge, nI_ne, nI_add, nI_sub, mI_lt, mI_le, mI_nlt, mI_nle, mI_ne, mI_ne', mI_nem, h19, h244, hbk, hak, hw, k16]
    · by_cases ej : j = k
      · subst ej; rw [f2 250 j (by omega), u2_s]
      · rw [f1 j (by omega) j2, u2_k (by omega)]
    · rw [f2 c i (by omega), u2_o _ _ (by omega)]
theorem r259 {I : Nat → Nat → Int32} {nn nb w : Nat} (hm : rNm X I nn nb) (hw : w < nn) : ∃ I', jcall A jcode (d + 1) 259 [.ref (b + 241), .int (nI w)] (jH h b X I J R n) = some (.inl (some (.int (nI (rz I w)))), (jH h b X I' J R n)) ∧ I' 241 19 = nI (rz I w) ∧ (∀ j, j < rz I w → I' 250 j = rb I w j) ∧ ∀ c i, c ≠ 250 → ¬ (c = 241 ∧ i = 19) → I' c i = I c i := by
  obtain ⟨m1, m2, m3, m4, m5, m6, m7, m8, m9, m10, m11, m12, m13, m14, m15, m16⟩ := hm
  obtain ⟨z1, z2, z3, z4, z5, z6, z7⟩ := rn1_e (m12 w hw)
  have hwc : w < cp X 244 := by omega
  have hwc5 : w < cp X 245 := by omega
  obtain ⟨I', e, f1, f2⟩ := r259l (A := A) (d := d) (b := b) (h := h) (X := X) (J := J) (R := R) (n := n) (w := w) (a := ix (I 244 w)) (z := rz I w) z2 hwc (by omega) (by omega) m10 (rz I w) 0 (u2 I 241 19 (nI (rz I w))) (by omega) u2_s (by rw [u2_k (by omega)]; exact z4) (fun j hj => by rw [u2_k (by omega)]; exact m16 _ (by omega))
  refine ⟨I', ?_, ?_, fun j hj => ?_, fun c i h1 h2 => ?_⟩
  · rw [← e]
    have q1 : ¬ nI w < nI 0 := by rw [nI_ltI (by omega) (by omega)]; omega
    simp (disch := omega) [je259, r259_0, r259_1, r259_2, r259_5, r259_6, r259_9, r259_10, r259_13, r259_14, r259_15, r259_18, r259_19, r259_21, r259_22, r259_25, r259_28, r259_29, r259_32, r259_33, r259_34, r259_37, r259_38, r259_41, r259_42, r259_43, r259_44, r259_45, r259_46, r259_47, r259_50, r259_53, r259_54, r259_57, g241, vf12_5, t241_5, g245, p245, p241_19, ty12_19, vf12_19, vf12_12, t241_12, g250, p250, vf12_3, t241_3, g243, p243, vf12_4, t241_4, g244, p244, List.getElem?_cons_zero, List.getElem?_cons_succ, List.length_cons, List.length_nil, ag_nx, ag_dn, ag_no, ag_if, jbr1, jbr2, jc1, jc2, jnul, jld, jsto, jstoL, jst1, jst2, jkill, jinc, jbI, jbL, jbS, juI, jl2i, jcmp, jisR, jisI, jisL, jret, jretv, jfits, jdup, jdup2, jpop, jmm, jcat, Value.category, jinv, jrcv, jthr, jhd, jput, jget, jlen, jald, jast, jaast, jgI, jgL, jgB, jtab, jlku, jacp, vf20, vf21, vf22, vf23, vf24, u2_s, u2_k, u2_i, uc_s, uc_k, uc_c, u2_c, LI0, LI1, LI2, LI3, LI4, LI5, LI6, LI7, LI8, LI9, LI10, LI11, LI12, LI13, LI14, LI15, LI16, LI17, LI18, LI19, LI20, LI21, LI22, LI23, LI24, LI25, LI26, LI27, LI28, LI29, LI30, LI31, LI32, LI33, LI34, LI35, LI36, LI37, LI40, LI42, LI43, LI45, LI48, LI60, LI61, LI64, LI80, LI300, LI400, LI1000, LI2000, LI2001, LI2047, LI2048, LI100000, LI1000000, LI38, LI39, LI41, LI44, LI46, LI47, LI49, LI50, LI51, LI52, LI53, LI54, LI55, LI56, LI57, LI58, LI59, LI62, LI63, LI65, LI66, LI67, LI68, LI69, LI70, LI71, LI72, LI73, LI74, LI75, LI76, LI77, LI78, LI79, LI81, LI82, LI83, LI84, LI85, LI86, LI87, LI88, LI89, LI90, LI91, LI92, LI93, LI94, LI95, LI96, LI97, LI98, LI99, LI100, LI101, LI102, LI103, LI104, LI105, LI106, LI107, LI108, LI109, LI110, LI111, LI112, LI113, LI114, LI115, LI116, LI117, LI118, LI119, LI120, LI121, LI122, LI123, LI124, LI125, LI126, LI127, LI255, LI256, LI999, LI1001, LI1002, LI1600, LI4096, LI1000001, LI2042, LM, nI_clamp, nI_pos', nI_lt, nI_nlt, nI_le, nI_ge, nI_ne, nI_add, nI_sub, mI_lt, mI_le, mI_nlt, mI_nle, mI_ne, mI_ne', mI_nem, q1, hwc5, z3]
  · rw [f2 _ _ (by omega), u2_s]
  · rw [f1 j (by omega) hj, u2_k (by omega)]; rfl
  · rw [f2 c i (by omega), u2_o _ _ h2]
theorem r259m {I : Nat → Nat → Int32} : jcall A jcode (d + 1) 259 [.ref (b + 241), .int (mI 1)] (jH h b X I J R n) = some (.inl (some (.int (nI 0))), (jH h b X (u2 I 241 19 (nI 0)) J R n)) := by
  simp (disch := omega) [je259, r259_0, r259_1, r259_2, r259_5, r259_6, r259_9, r259_10, r259_13, r259_14, r259_15, r259_18, r259_19, r259_20, r259_21, r259_22, r259_25, r259_28, r259_29, r259_32, r259_33, r259_34, r259_37, r259_38, r259_41, r259_42, r259_43, r259_44, r259_45, r259_46, r259_47, r259_50, r259_53, r259_54, r259_57, g241, vf12_5, t241_5, g245, p245, p241_19, ty12_19, vf12_19, vf12_12, t241_12, g250, p250, vf12_3, t241_3, g243, p243, vf12_4, t241_4, g244, p244, List.getElem?_cons_zero, List.getElem?_cons_succ, List.length_cons, List.length_nil, ag_nx, ag_dn, ag_no, ag_if, jbr1, jbr2, jc1, jc2, jnul, jld, jsto, jstoL, jst1, jst2, jkill, jinc, jbI, jbL, jbS, juI, jl2i, jcmp, jisR, jisI, jisL, jret, jretv, jfits, jdup, jdup2, jpop, jmm, jcat, Value.category, jinv, jrcv, jthr, jhd, jput, jget, jlen, jald, jast, jaast, jgI, jgL, jgB, jtab, jlku, jacp, vf20, vf21, vf22, vf23, vf24, u2_s, u2_k, u2_i, uc_s, uc_k, uc_c, u2_c, LI0, LI1, LI2, LI3, LI4, LI5, LI6, LI7, LI8, LI9, LI10, LI11, LI12, LI13, LI14, LI15, LI16, LI17, LI18, LI19, LI20, LI21, LI22, LI23, LI24, LI25, LI26, LI27, LI28, LI29, LI30, LI31, LI32, LI33, LI34, LI35, LI36, LI37, LI40, LI42, LI43, LI45, LI48, LI60, LI61, LI64, LI80, LI300, LI400, LI1000, LI2000, LI2001, LI2047, LI2048, LI100000, LI1000000, LI38, LI39, LI41, LI44, LI46, LI47, LI49, LI50, LI51, LI52, LI53, LI54, LI55, LI56, LI57, LI58, LI59, LI62, LI63, LI65, LI66, LI67, LI68, LI69, LI70, LI71, LI72, LI73, LI74, LI75, LI76, LI77, LI78, LI79, LI81, LI82, LI83, LI84, LI85, LI86, LI87, LI88, LI89, LI90, LI91, LI92, LI93, LI94, LI95, LI96, LI97, LI98, LI99, LI100, LI101, LI102, LI103, LI104, LI105, LI106, LI107, LI108, LI109, LI110, LI111, LI112, LI113, LI114, LI115, LI116, LI117, LI118, LI119, LI120, LI121, LI122, LI123, LI124, LI125, LI126, LI127, LI255, LI256, LI999, LI1001, LI1002, LI1600, LI4096, LI1000001, LI2042, LM, nI_clamp, nI_pos', nI_lt, nI_nlt, nI_le, nI_ge, nI_ne, nI_add, nI_sub, mI_lt, mI_le, mI_nlt, mI_nle, mI_ne, mI_ne', mI_nem]
end ZTC
