/-! all begin: the class -/
section CBG
variable {A : Nat → Nat} {d b n P : Nat} {h : Nat → Option jC} {X : jXX} {J : Nat → Nat → Int64} {R : Nat → Nat → Nat} {cN rN : Int32 → Nm} {N : Nat → Nat → Int32} {O G E : Nat → Int32} {M np p L : Nat}
theorem plC_f57 {I I' : Nat → Nat → Int32} (hP : isP P) (hf : fC 57 I I') (h : plC cN rN N O G E np P L I) : plC cN rN N O G E np P L I' := by
  have := isP_e hP
  exact plC_fr (fun c i h1 h2 => hf.1 c i (by omega)) h
theorem isP_N (hP : isP P) : isN (P + 1) := by
  unfold isP at hP
  unfold isN
  simp at hP ⊢
  omega
theorem isW_57 : isW 57 := by unfold isW; simp
theorem c115m {B D : Nat} (hP : isP P) (hR : R 57 0 = P) (hv : vN N M np) (hp : p < np) {m : Nat} (hm : N 257 (pnd N p) = nI m) (m3 : m ≤ 3) : ∀ (r i : Nat) (W : aW Nm) (I : Nat → Nat → Int32), i + r = m → plC cN rN N O G E np P L I → okW N np B W → okD D W → cnP W p + r ≤ 3 → wC cN I R 57 W → ∃ I' c3, M115 A (d + 2) 80 [some (.ref (b + 57)), some (.ref (b + P)), some (.int (nI p)), some (.int (nI i))] [] (jH h b X I J R n) = M115 A (d + 2) 114 [some (.ref (b + 57)), some (.ref (b + P)), some (.int (nI p)), some (.int c3)] [] (jH h b X I' J R n) ∧ wC cN I' R 57 (aMore rN N true p r W) ∧ fC 57 I I' := by
  have h6 := hv.1
  have hp' := isP_e hP
  have hw := isW_57
  have hN := isP_N hP
  intro r
  induction r with
  | zero =>
    intro i W I hi hpl hok hd hcn hW
    have : i = m := by omega
    subst this
    refine ⟨I, nI i, ?_, hW, fC_refl⟩
    obtain ⟨_, _, _, ⟨m', _, q1, q2⟩, _⟩ := hpl.2.2.2 p hp
    have e10 : I (P + 10) p = nI i := by rw [q1, ← q2, hm]
    have hp6 : p < 6 := by omega
    conv => lhs; rw [r115_80]
    simp (disch := omega) [r115_0, r115_1, r115_2, r115_5, r115_6, r115_9, r115_12, r115_13, r115_16, r115_19, r115_22, r115_23, r115_26, r115_29, r115_30, r115_31, r115_34, r115_35, r115_36, r115_39, r115_40, r115_41, r115_44, r115_45, r115_46, r115_49, r115_50, r115_51, r115_54, r115_55, r115_56, r115_59, r115_60, r115_61, r115_62, r115_63, r115_66, r115_69, r115_72, r115_73, r115_75, r115_78, r115_79, r115_81, r115_82, r115_85, r115_88, r115_89, r115_90, r115_93, r115_94, r115_97, r115_99, r115_102, r115_103, r115_104, r115_105, r115_108, r115_111, r115_117, r115_120, gW0 hw, pW0_0 hw, ty9_0, vf9_0, tW0_0 hw, gP0 hP, vf5_0, tP0_0 hP, vf5_1, qa28, qo28, gN0 hN, vf9_1, tW0_1 hw, qa101, qo101, gW1 hw, pW0_3 hw, ty9_3, pW0_4 hw, ty9_4, pW0_5 hw, ty9_5, pW0_6 hw, ty9_6, pW0_7 hw, ty9_7, pW0_8 hw, ty9_8, vf5_3, vf5_5, tP0_5 hP, gP10 hP, vf9_3, qa137, qo137, List.getElem?_cons_zero, List.getElem?_cons_succ, List.length_cons, List.length_nil, ag_nx, ag_dn, ag_no, ag_if, jbr1, jbr2, jc1, jc2, jnul, jld, jsto, jstoL, jst1, jst2, jkill, jinc, jbI, jbL, jbS, juI, jl2i, jcmp, jisR, jisI, jisL, jret, jretv, jfits, jdup, jdup2, jpop, jmm, jcat, Value.category, jinv, jrcv, jthr, jhd, jput, jget, jlen, jald, jast, jaast, jgI, jgL, jgB, jtab, jlku, jacp, vf20, vf21, vf22, vf23, vf24, u2_s, u2_k, u2_i, uc_s, uc_k, uc_c, u2_c, LI0, LI1, LI2, LI3, LI4, LI5, LI6, LI7, LI8, LI9, LI10, LI11, LI12, LI13, LI14, LI15, LI16, LI17, LI18, LI19, LI20, LI21, LI22, LI23, LI24, LI25, LI26, LI27, LI28, LI29, LI30, LI31, LI32, LI33, LI34, LI35, LI36, LI37, LI40, LI42, LI43, LI45, LI48, LI60, LI61, LI64, LI80, LI300, LI400, LI1000, LI2000, LI2001, LI2047, LI2048, LI100000, LI1000000, LI38, LI39, LI41, LI44, LI46, LI47, LI49, LI50, LI51, LI52, LI53, LI54, LI55, LI56, LI57, LI58, LI59, LI62, LI63, LI65, LI66, LI67, LI68, LI69, LI70, LI71, LI72, LI73, LI74, LI75, LI76, LI77, LI78, LI79, LI81, LI82, LI83, LI84, LI85, LI86, LI87, LI88, LI89, LI90, LI91, LI92, LI93, LI94, LI95, LI96, LI97, LI98, LI99, LI100, LI101, LI102, LI103, LI104, LI105, LI106, LI107, LI108, LI109, LI110, LI111, LI112, LI113, LI114, LI115, LI116, LI117, LI118, LI119, LI120, LI121, LI122, LI123, LI124, LI125, LI126, LI127, LI255, LI256, LI999, LI1001, LI1002, LI1600, LI4096, LI1000001, LI2042, LM, nI_clamp, nI_pos', nI_lt, nI_nlt, nI_le, nI_ge, nI_ne, nI_add, nI_sub, mI_lt, mI_le, mI_nlt, mI_nle, mI_ne, mI_ne', mI_nem, hR, e10, hp6]
  | succ r ih =>
    intro i W I hi hpl hok hd hcn hW
    obtain ⟨_, _, _, ⟨m', _, q1, q2⟩, _⟩ := hpl.2.2.2 p hp
    have e10 : I (P + 10) p = nI m := by rw [q1, ← q2, hm]
    have hp6 : p < 6 := by omega
    have hl := hok.1
    have h3 : I 57 3 = nI W.1.length := hW.1.2.2.1
    unfold aMore
    by_cases h8 : W.1.length < 8
    · rw [if_pos h8]
      obtain ⟨I1, e, w1, w2⟩ := cCreate (A := A) (d := d) (b := b) (h := h) (X := X) (J := J) (R := R) (n := n) (mk := -1) hw hP hR hpl hW h8 hp
      replace w1 : wC cN I1 R 57 (aFresh rN N true p (-1) W) := w1
      have e1 : (aFresh rN N true p (-1) W).1 = W.1 ++ [aNew N W.2.1.1 p (-1)] := rfl
      have hc1 := cnP_new (N := N) (p := p) (p' := p) e1 (by omega) (by omega)
      rw [if_pos rfl] at hc1
      obtain ⟨k1, k2, _⟩ := ok_more (rN := rN) (l := true) h6 hp 1 W hok hd (by omega)
      have e2 : aMore rN N true p 1 W = aFresh rN N true p (-1) W := by
        unfold aMore; rw [if_pos h8]; rfl
      rw [e2] at k1 k2
      obtain ⟨I2, c2, f1, f2, f3⟩ := ih (i + 1) (aFresh rN N true p (-1) W) I1 (by omega) (plC_f57 hP w2 hpl) k1 k2 (by omega) w1
      refine ⟨I2, c2, ?_, f2, fC_trans w2 f3⟩
      rw [← f1]
      rw [show (-1 : Int32) = mI 1 from m1e.symm] at e
      conv => lhs; rw [r115_80]
      simp (disch := omega) [r115_0, r115_1, r115_2, r115_5, r115_6, r115_9, r115_12, r115_13, r115_16, r115_19, r115_22, r115_23, r115_26, r115_29, r115_30, r115_31, r115_34, r115_35, r115_36, r115_39, r115_40, r115_41, r115_44, r115_45, r115_46, r115_49, r115_50, r115_51, r115_54, r115_55, r115_56, r115_59, r115_60, r115_61, r115_62, r115_63, r115_66, r115_69, r115_72, r115_73, r115_75, r115_78, r115_79, r115_81, r115_82, r115_85, r115_88, r115_89, r115_90, r115_93, r115_94, r115_97, r115_99, r115_102, r115_103, r115_104, r115_105, r115_108, r115_111, r115_117, r115_120, gW0 hw, pW0_0 hw, ty9_0, vf9_0, tW0_0 hw, gP0 hP, vf5_0, tP0_0 hP, vf5_1, qa28, qo28, gN0 hN, vf9_1, tW0_1 hw, qa101, qo101, gW1 hw, pW0_3 hw, ty9_3, pW0_4 hw, ty9_4, pW0_5 hw, ty9_5, pW0_6 hw, ty9_6, pW0_7 hw, ty9_7, pW0_8 hw, ty9_8, vf5_3, vf5_5, tP0_5 hP, gP10 hP, vf9_3, qa137, qo137, List.getElem?_cons_zero, List.getElem?_cons_succ, List.length_cons, List.length_nil, ag_nx, ag_dn, ag_no, ag_if, jbr1, jbr2, jc1, jc2, jnul, jld, jsto, jstoL, jst1, jst2, jkill, jinc, jbI, jbL, jbS, juI, jl2i, jcmp, jisR, jisI, jisL, jret, jretv, jfits, jdup, jdup2, jpop, jmm, jcat, Value.category, jinv, jrcv, jthr, jhd, jput, jget, jlen, jald, jast, jaast, jgI, jgL, jgB, jtab, jlku, jacp, vf20, vf21, vf22, vf23, vf24, u2_s, u2_k, u2_i, uc_s, uc_k, uc_c, u2_c, LI0, LI1, LI2, LI3, LI4, LI5, LI6, LI7, LI8, LI9, LI10, LI11, LI12, LI13, LI14, LI15, LI16, LI17, LI18, LI19, LI20, LI21, LI22, LI23, LI24, LI25, LI26, LI27, LI28, LI29, LI30, LI31, LI32, LI33, LI34, LI35, LI36, LI37, LI40, LI42, LI43, LI45, LI48, LI60, LI61, LI64, LI80, LI300, LI400, LI1000, LI2000, LI2001, LI2047, LI2048, LI100000, LI1000000, LI38, LI39, LI41, LI44, LI46, LI47, LI49, LI50, LI51, LI52, LI53, LI54, LI55, LI56, LI57, LI58, LI59, LI62, LI63, LI65, LI66, LI67, LI68, LI69, LI70, LI71, LI72, LI73, LI74, LI75, LI76, LI77, LI78, LI79, LI81, LI82, LI83, LI84, LI85, LI86, LI87, LI88, LI89, LI90, LI91, LI92, LI93, LI94, LI95, LI96, LI97, LI98, LI99, LI100, LI101, LI102, LI103, LI104, LI105, LI106, LI107, LI108, LI109, LI110, LI111, LI112, LI113, LI114, LI115, LI116, LI117, LI118, LI119, LI120, LI121, LI122, LI123, LI124, LI125, LI126, LI127, LI255, LI256, LI999, LI1001, LI1002, LI1600, LI4096, LI1000001, LI2042, LM, nI_clamp, nI_pos', nI_lt, nI_nlt, nI_le, nI_ge, nI_ne, nI_add, nI_sub, mI_lt, mI_le, mI_nlt, mI_nle, mI_ne, mI_ne', mI_nem, hR, e10, hp6, h3, e]
    · rw [if_neg h8]
      have e8 : W.1.length = 8 := by omega
      refine ⟨I, nI i, ?_, hW, fC_refl⟩
      rw [e8] at h3
      conv => lhs; rw [r115_80]
      simp (disch := omega) [r115_0, r115_1, r115_2, r115_5, r115_6, r115_9, r115_12, r115_13, r115_16, r115_19, r115_22, r115_23, r115_26, r115_29, r115_30, r115_31, r115_34, r115_35, r115_36, r115_39, r115_40, r115_41, r115_44, r115_45, r115_46, r115_49, r115_50, r115_51, r115_54, r115_55, r115_56, r115_59, r115_60, r115_61, r115_62, r115_63, r115_66, r115_69, r115_72, r115_73, r115_75, r115_78, r115_79, r115_81, r115_82, r115_85, r115_88, r115_89, r115_90, r115_93, r115_94, r115_97, r115_99, r115_102, r115_103, r115_104, r115_105, r115_108, r115_111, r115_117, r115_120, gW0 hw, pW0_0 hw, ty9_0, vf9_0, tW0_0 hw, gP0 hP, vf5_0, tP0_0 hP, vf5_1, qa28, qo28, gN0 hN, vf9_1, tW0_1 hw, qa101, qo101, gW1 hw, pW0_3 hw, ty9_3, pW0_4 hw, ty9_4, pW0_5 hw, ty9_5, pW0_6 hw, ty9_6, pW0_7 hw, ty9_7, pW0_8 hw, ty9_8, vf5_3, vf5_5, tP0_5 hP, gP10 hP, vf9_3, qa137, qo137, List.getElem?_cons_zero, List.getElem?_cons_succ, List.length_cons, List.length_nil, ag_nx, ag_dn, ag_no, ag_if, jbr1, jbr2, jc1, jc2, jnul, jld, jsto, jstoL, jst1, jst2, jkill, jinc, jbI, jbL, jbS, juI, jl2i, jcmp, jisR, jisI, jisL, jret, jretv, jfits, jdup, jdup2, jpop, jmm, jcat, Value.category, jinv, jrcv, jthr, jhd, jput, jget, jlen, jald, jast, jaast, jgI, jgL, jgB, jtab, jlku, jacp, vf20, vf21, vf22, vf23, vf24, u2_s, u2_k, u2_i, uc_s, uc_k, uc_c, u2_c, LI0, LI1, LI2, LI3, LI4, LI5, LI6, LI7, LI8, LI9, LI10, LI11, LI12, LI13, LI14, LI15, LI16, LI17, LI18, LI19, LI20, LI21, LI22, LI23, LI24, LI25, LI26, LI27, LI28, LI29, LI30, LI31, LI32, LI33, LI34, LI35, LI36, LI37, LI40, LI42, LI43, LI45, LI48, LI60, LI61, LI64, LI80, LI300, LI400, LI1000, LI2000, LI2001, LI2047, LI2048, LI100000, LI1000000, LI38, LI39, LI41, LI44, LI46, LI47, LI49, LI50, LI51, LI52, LI53, LI54, LI55, LI56, LI57, LI58, LI59, LI62, LI63, LI65, LI66, LI67, LI68, LI69, LI70, LI71, LI72, LI73, LI74, LI75, LI76, LI77, LI78, LI79, LI81, LI82, LI83, LI84, LI85, LI86, LI87, LI88, LI89, LI90, LI91, LI92, LI93, LI94, LI95, LI96, LI97, LI98, LI99, LI100, LI101, LI102, LI103, LI104, LI105, LI106, LI107, LI108, LI109, LI110, LI111, LI112, LI113, LI114, LI115, LI116, LI117, LI118, LI119, LI120, LI121, LI122, LI123, LI124, LI125, LI126, LI127, LI255, LI256, LI999, LI1001, LI1002, LI1600, LI4096, LI1000001, LI2042, LM, nI_clamp, nI_pos', nI_lt, nI_nlt, nI_le, nI_ge, nI_ne, nI_add, nI_sub, mI_lt, mI_le, mI_nlt, mI_nle, mI_ne, mI_ne', mI_nem, hR, e10, hp6, h3]
theorem c115p {B D : Nat} (hP : isP P) (hR : R 57 0 = P) (hv : vN N M np) : ∀ (r p : Nat) (W : aW Nm) (I : Nat → Nat → Int32) (c3 : Option Value), p + r = np → plC cN rN N O G E np P L I → okW N np B W → okD D W → (∀ p', p ≤ p' → p' < 6 → cnP W p' = 0) → wC cN I R 57 W → ∃ I', M115 A (d + 2) 61 [some (.ref (b + 57)), some (.ref (b + P)), some (.int (nI p)), c3] [] (jH h b X I J R n) = some (.inl none, jH h b X I' J R n) ∧ wC cN I' R 57 (aBeg rN N true r p W) ∧ fC 57 I I' := by
  have h6 := hv.1
  have hp' := isP_e hP
  have hw := isW_57
  have hN := isP_N hP
  intro r
  induction r with
  | zero =>
    intro p W I c3 hp hpl hok hd hcn hW
    have : p = np := by omega
    subst this
    refine ⟨I, ?_, hW, fC_refl⟩
    have h3 := hpl.2.1
    conv => lhs; rw [r115_61]
    simp (disch := omega) [r115_0, r115_1, r115_2, r115_5, r115_6, r115_9, r115_12, r115_13, r115_16, r115_19, r115_22, r115_23, r115_26, r115_29, r115_30, r115_31, r115_34, r115_35, r115_36, r115_39, r115_40, r115_41, r115_44, r115_45, r115_46, r115_49, r115_50, r115_51, r115_54, r115_55, r115_56, r115_59, r115_60, r115_62, r115_63, r115_66, r115_69, r115_72, r115_73, r115_75, r115_78, r115_79, r115_81, r115_82, r115_85, r115_88, r115_89, r115_90, r115_93, r115_94, r115_97, r115_99, r115_102, r115_103, r115_104, r115_105, r115_108, r115_111, r115_114, r115_117, r115_120, gW0 hw, pW0_0 hw, ty9_0, vf9_0, tW0_0 hw, gP0 hP, vf5_0, tP0_0 hP, vf5_1, qa28, qo28, gN0 hN, vf9_1, tW0_1 hw, qa101, qo101, gW1 hw, pW0_3 hw, ty9_3, pW0_4 hw, ty9_4, pW0_5 hw, ty9_5, pW0_6 hw, ty9_6, pW0_7 hw, ty9_7, pW0_8 hw, ty9_8, vf5_3, vf5_5, tP0_5 hP, gP10 hP, vf9_3, qa137, qo137, List.getElem?_cons_zero, List.getElem?_cons_succ, List.length_cons, List.length_nil, ag_nx, ag_dn, ag_no, ag_if, jbr1, jbr2, jc1, jc2, jnul, jld, jsto, jstoL, jst1, jst2, jkill, jinc, jbI, jbL, jbS, juI, jl2i, jcmp, jisR, jisI, jisL, jret, jretv, jfits, jdup, jdup2, jpop, jmm, jcat, Value.category, jinv, jrcv, jthr, jhd, jput, jget, jlen, jald, jast, jaast, jgI, jgL, jgB, jtab, jlku, jacp, vf20, vf21, vf22, vf23, vf24, u2_s, u2_k, u2_i, uc_s, uc_k, uc_c, u2_c, LI0, LI1, LI2, LI3, LI4, LI5, LI6, LI7, LI8, LI9, LI10, LI11, LI12, LI13, LI14, LI15, LI16, LI17, LI18, LI19, LI20, LI21, LI22, LI23, LI24, LI25, LI26, LI27, LI28, LI29, LI30, LI31, LI32, LI33, LI34, LI35, LI36, LI37, LI40, LI42, LI43, LI45, LI48, LI60, LI61, LI64, LI80, LI300, LI400, LI1000, LI2000, LI2001, LI2047, LI2048, LI100000, LI1000000, LI38, LI39, LI41, LI44, LI46, LI47, LI49, LI50, LI51, LI52, LI53, LI54, LI55, LI56, LI57, LI58, LI59, LI62, LI63, LI65, LI66, LI67, LI68, LI69, LI70, LI71, LI72, LI73, LI74, LI75, LI76, LI77, LI78, LI79, LI81, LI82, LI83, LI84, LI85, LI86, LI87, LI88, LI89, LI90, LI91, LI92, LI93, LI94, LI95, LI96, LI97, LI98, LI99, LI100, LI101, LI102, LI103, LI104, LI105, LI106, LI107, LI108, LI109, LI110, LI111, LI112, LI113, LI114, LI115, LI116, LI117, LI118, LI119, LI120, LI121, LI122, LI123, LI124, LI125, LI126, LI127, LI255, LI256, LI999, LI1001, LI1002, LI1600, LI4096, LI1000001, LI2042, LM, nI_clamp, nI_pos', nI_lt, nI_nlt, nI_le, nI_ge, nI_ne, nI_add, nI_sub, mI_lt, mI_le, mI_nlt, mI_nle, mI_ne, mI_ne', mI_nem, hR, h3]
  | succ r ih =>
    intro p W I c3 hp hpl hok hd hcn hW
    obtain ⟨_, _, ⟨m, m3, me⟩, _⟩ := hv.2.2.2 p (by omega)
    have hm : ix (N 257 (pnd N p)) = m := by rw [me]; exact nI_clamp (by omega)
    have h3 := hpl.2.1
    unfold aBeg
    rw [hm]
    have c0 := hcn p (Nat.le_refl _) (by omega)
    obtain ⟨I1, c2', e1, w1, w2⟩ := c115m (A := A) (d := d) (b := b) (h := h) (X := X) (J := J) (R := R) (n := n) (cN := cN) (rN := rN) (B := B) (D := D) hP hR hv (p := p) (by omega) me m3 m 0 W I (by omega) hpl hok hd (by omega) hW
    obtain ⟨i1, i2, i3⟩ := ok_more (rN := rN) (l := true) h6 (p := p) (by omega) m W hok hd (by omega)
    obtain ⟨I2, e2, w3, w4⟩ := ih (p + 1) _ I1 (some (.int c2')) (by omega) (plC_f57 hP w2 hpl) i1 i2 (fun p' h1 h2 => by rw [i3 p' h2 (by omega)]; exact hcn p' (by omega) h2) w1
    refine ⟨I2, ?_, w3, fC_trans w2 w4⟩
    rw [← e2]
    conv => lhs; rw [r115_61]
    simp (disch := omega) [r115_62, r115_63, r115_66, r115_69, r115_72, r115_73, r115_75, r115_78, r115_79, gW0 hw, pW0_0 hw, ty9_0, vf9_0, tW0_0 hw, gP0 hP, vf5_0, tP0_0 hP, vf5_1, qa28, qo28, gN0 hN, vf9_1, tW0_1 hw, qa101, qo101, gW1 hw, pW0_3 hw, ty9_3, pW0_4 hw, ty9_4, pW0_5 hw, ty9_5, pW0_6 hw, ty9_6, pW0_7 hw, ty9_7, pW0_8 hw, ty9_8, vf5_3, vf5_5, tP0_5 hP, gP10 hP, vf9_3, qa137, qo137, List.getElem?_cons_zero, List.getElem?_cons_succ, List.length_cons, List.length_nil, ag_nx, ag_dn, ag_no, ag_if, jbr1, jbr2, jc1, jc2, jnul, jld, jsto, jstoL, jst1, jst2, jkill, jinc, jbI, jbL, jbS, juI, jl2i, jcmp, jisR, jisI, jisL, jret, jretv, jfits, jdup, jdup2, jpop, jmm, jcat, Value.category, jinv, jrcv, jthr, jhd, jput, jget, jlen, jald, jast, jaast, jgI, jgL, jgB, jtab, jlku, jacp, vf20, vf21, vf22, vf23, vf24, u2_s, u2_k, u2_i, uc_s, uc_k, uc_c, u2_c, LI0, LI1, LI2, LI3, LI4, LI5, LI6, LI7, LI8, LI9, LI10, LI11, LI12, LI13, LI14, LI15, LI16, LI17, LI18, LI19, LI20, LI21, LI22, LI23, LI24, LI25, LI26, LI27, LI28, LI29, LI30, LI31, LI32, LI33, LI34, LI35, LI36, LI37, LI40, LI42, LI43, LI45, LI48, LI60, LI61, LI64, LI80, LI300, LI400, LI1000, LI2000, LI2001, LI2047, LI2048, LI100000, LI1000000, LI38, LI39, LI41, LI44, LI46, LI47, LI49, LI50, LI51, LI52, LI53, LI54, LI55, LI56, LI57, LI58, LI59, LI62, LI63, LI65, LI66, LI67, LI68, LI69, LI70, LI71, LI72, LI73, LI74, LI75, LI76, LI77, LI78, LI79, LI81, LI82, LI83, LI84, LI85, LI86, LI87, LI88, LI89, LI90, LI91, LI92, LI93, LI94, LI95, LI96, LI97, LI98, LI99, LI100, LI101, LI102, LI103, LI104, LI105, LI106, LI107, LI108, LI109, LI110, LI111, LI112, LI113, LI114, LI115, LI116, LI117, LI118, LI119, LI120, LI121, LI122, LI123, LI124, LI125, LI126, LI127, LI255, LI256, LI999, LI1001, LI1002, LI1600, LI4096, LI1000001, LI2042, LM, nI_clamp, nI_pos', nI_lt, nI_nlt, nI_le, nI_ge, nI_ne, nI_add, nI_sub, mI_lt, mI_le, mI_nlt, mI_nle, mI_ne, mI_ne', mI_nem, hR, h3, e1, r115_114, r115_117]
/-- restart of the world 57 with the plan P, whose text has k names -/
theorem c115 {I : Nat → Nat → Int32} {k m : Nat} (hP : isP P) (hv : vN N M np) (hpl : plC cN rN N O G E np P L I) (hm : I (P + 1) 2 = nI m) (hm2 : m < 2 ^ 31) (hk : k ≤ m) (h1 : I P 1 = nI k) (hS : okS R 57) : ∃ I', jcall A jcode (d + 3) 115 [.ref (b + 57), .ref (b + P)] (jH h b X I J R n) = some (.inl none, jH h b X I' J (u2 R 57 0 P) n) ∧ wC cN I' (u2 R 57 0 P) 57 (aBegin rN N np) ∧ (∀ c i, c < 57 ∨ 130 < c → ¬ (c = P + 1 ∧ i = 2) → I' c i = I c i) ∧ I' (P + 1) 2 = nI k ∧ I' 57 10 = I 57 10 := by
  have hp' := isP_e hP
  obtain ⟨R', hR'⟩ : ∃ R', R' = u2 R 57 0 P := ⟨_, rfl⟩
  have hR : R' 57 0 = P := by rw [hR']; exact u2_s
  rw [← hR']
  have hN : isN (P + 1) := isP_N hP
  have hw := isW_57
  obtain ⟨I1, hI1⟩ : ∃ I1, I1 = u2 I (P + 1) 2 (nI k) := ⟨_, rfl⟩
  have e28 := c28 (A := A) (d := d + 1) (b := b) (h := h) (X := X) (J := J) (R := R') (n := n) (I := I) hN hm hm2 hk
  obtain ⟨I0, hI0⟩ : ∃ I0, I0 = u2 (u2 (u2 (u2 (u2 (u2 (u2 (u2 I1 58 6 (nI 0)) 58 7 (nI 0)) 57 3 (nI 0)) 57 4 (nI 0)) 57 5 (nI 0)) 57 6 (nI 0)) 57 7 (nI 0)) 57 8 (mI 1) := ⟨_, rfl⟩
  have f1 : ∀ c i, ¬ (c = P + 1 ∧ i = 2) → I1 c i = I c i := fun c i hc => by rw [hI1]; unfold u2; rw [if_neg hc]
  have f0 : ∀ c i, ¬ (c = 58 ∧ (i = 6 ∨ i = 7)) → ¬ (c = 57 ∧ 3 ≤ i ∧ i ≤ 8) → I0 c i = I1 c i := fun c i hc hd => by
    rw [hI0]
    unfold u2
    rw [if_neg (by omega), if_neg (by omega), if_neg (by omega), if_neg (by omega), if_neg (by omega), if_neg (by omega), if_neg (by omega), if_neg (by omega)]
  have hS' : okS R' 57 := by
    have e : R' (57 + 8) = R (57 + 8) := by rw [hR']; exact u2_c (by omega)
    unfold okS
    rw [e]
    exact hS
  have hpl0 : plC cN rN N O G E np P L I0 := by
    unfold plC kP kC cdC at hpl ⊢
    have e : ∀ j, j ≤ 22 → j ≠ 1 → I0 (P + j) = I (P + j) := fun j hj hj1 => funext fun i => by rw [f0 _ _ (by omega) (by omega), f1 _ _ (by omega)]
    have e0 : I0 P = I P := e 0 (by omega) (by omega)
    rw [e0, e 4 (by omega) (by omega), e 5 (by omega) (by omega), e 6 (by omega) (by omega), e 7 (by omega) (by omega), e 9 (by omega) (by omega), e 10 (by omega) (by omega), e 11 (by omega) (by omega), e 12 (by omega) (by omega), e 13 (by omega) (by omega), e 14 (by omega) (by omega), e 15 (by omega) (by omega), e 16 (by omega) (by omega), e 17 (by omega) (by omega), e 18 (by omega) (by omega), e 19 (by omega) (by omega), e 20 (by omega) (by omega), e 21 (by omega) (by omega), e 22 (by omega) (by omega)]
    exact hpl
  have hW0 : wC cN I0 R' 57 (([], (0, 0, 0, 0, -1), ([], false), (0, 0)) : aW Nm) := by
    refine ⟨⟨hS', by simp, by rw [hI0]; simp [u2], fun k a hk => by simp at hk⟩, by rw [hI0]; simp [u2]; decide, by rw [hI0]; simp [u2]; decide, fun _ => ⟨by rw [hI0]; simp [u2]; decide, by rw [hI0]; simp [u2]; decide, by rw [hI0]; simp [u2]; decide, by simp, by rw [hI0]; simp [u2], rfl, by rw [hI0]; simp [u2]; decide⟩, fun z => by omega⟩
  obtain ⟨I', e, w1, w2⟩ := c115p (A := A) (d := d) (b := b) (h := h) (X := X) (J := J) (R := R') (n := n) (cN := cN) (rN := rN) (B := 0) (D := 0) hP hR hv np 0 _ I0 none (by omega) hpl0 ⟨by simp, fun k a hk => by simp at hk, fun p hp => by simp, 0, [], rfl, by simp, rfl, List.Pairwise.nil, fun x hx => by cases hx⟩ ⟨⟨0, rfl, by omega⟩, fun k a hk => by simp at hk⟩ (fun p' _ _ => rfl) hW0
  refine ⟨I', ?_, w1, fun c i hc hn => ?_, ?_, ?_⟩
  · rw [← e, hI0, hI1, hR']
    rw [hR'] at hR e28
    simp (disch := omega) [je115, r115_0, r115_1, r115_2, r115_5, r115_6, r115_9, r115_12, r115_13, r115_16, r115_19, r115_22, r115_23, r115_26, r115_29, r115_30, r115_31, r115_34, r115_35, r115_36, r115_39, r115_40, r115_41, r115_44, r115_45, r115_46, r115_49, r115_50, r115_51, r115_54, r115_55, r115_56, r115_59, r115_60, r115_62, r115_63, r115_66, r115_69, r115_72, r115_73, r115_75, r115_78, r115_79, r115_80, r115_81, r115_82, r115_85, r115_88, r115_89, r115_90, r115_93, r115_94, r115_97, r115_99, r115_102, r115_103, r115_104, r115_105, r115_108, r115_111, r115_114, r115_117, r115_120, gW0 hw, pW0_0 hw, ty9_0, vf9_0, tW0_0 hw, gP0 hP, vf5_0, tP0_0 hP, vf5_1, qa28, qo28, gN0 hN, vf9_1, tW0_1 hw, qa101, qo101, gW1 hw, pW0_3 hw, ty9_3, pW0_4 hw, ty9_4, pW0_5 hw, ty9_5, pW0_6 hw, ty9_6, pW0_7 hw, ty9_7, pW0_8 hw, ty9_8, vf5_3, vf5_5, tP0_5 hP, gP10 hP, vf9_3, qa137, qo137, List.getElem?_cons_zero, List.getElem?_cons_succ, List.length_cons, List.length_nil, ag_nx, ag_dn, ag_no, ag_if, jbr1, jbr2, jc1, jc2, jnul, jld, jsto, jstoL, jst1, jst2, jkill, jinc, jbI, jbL, jbS, juI, jl2i, jcmp, jisR, jisI, jisL, jret, jretv, jfits, jdup, jdup2, jpop, jmm, jcat, Value.category, jinv, jrcv, jthr, jhd, jput, jget, jlen, jald, jast, jaast, jgI, jgL, jgB, jtab, jlku, jacp, vf20, vf21, vf22, vf23, vf24, u2_s, u2_k, u2_i, uc_s, uc_k, uc_c, u2_c, LI0, LI1, LI2, LI3, LI4, LI5, LI6, LI7, LI8, LI9, LI10, LI11, LI12, LI13, LI14, LI15, LI16, LI17, LI18, LI19, LI20, LI21, LI22, LI23, LI24, LI25, LI26, LI27, LI28, LI29, LI30, LI31, LI32, LI33, LI34, LI35, LI36, LI37, LI40, LI42, LI43, LI45, LI48, LI60, LI61, LI64, LI80, LI300, LI400, LI1000, LI2000, LI2001, LI2047, LI2048, LI100000, LI1000000, LI38, LI39, LI41, LI44, LI46, LI47, LI49, LI50, LI51, LI52, LI53, LI54, LI55, LI56, LI57, LI58, LI59, LI62, LI63, LI65, LI66, LI67, LI68, LI69, LI70, LI71, LI72, LI73, LI74, LI75, LI76, LI77, LI78, LI79, LI81, LI82, LI83, LI84, LI85, LI86, LI87, LI88, LI89, LI90, LI91, LI92, LI93, LI94, LI95, LI96, LI97, LI98, LI99, LI100, LI101, LI102, LI103, LI104, LI105, LI106, LI107, LI108, LI109, LI110, LI111, LI112, LI113, LI114, LI115, LI116, LI117, LI118, LI119, LI120, LI121, LI122, LI123, LI124, LI125, LI126, LI127, LI255, LI256, LI999, LI1001, LI1002, LI1600, LI4096, LI1000001, LI2042, LM, nI_clamp, nI_pos', nI_lt, nI_nlt, nI_le, nI_ge, nI_ne, nI_add, nI_sub, mI_lt, mI_le, mI_nlt, mI_nle, mI_ne, mI_ne', mI_nem, hR, e28, c101, h1]
  · rw [w2.1 c i (by omega), f0 c i (by omega) (by omega), f1 c i hn]
  · rw [w2.1 (P + 1) 2 (by omega), f0 _ _ (by omega) (by omega), hI1, u2_s]
  · rw [w2.2, f0 _ _ (by omega) (by omega), f1 _ _ (by omega)]
end CBG
