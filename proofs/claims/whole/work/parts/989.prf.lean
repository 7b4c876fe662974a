/-! the reference: an instance is made -/
section RF
variable {A : Nat → Nat} {d b n : Nat} {h : Nat → Option jC} {X : jXX} {I : Nat → Nat → Int32} {J : Nat → Nat → Int64} {R : Nat → Nat → Nat} {k : Nat} {rN : Int32 → Nm} {l : Bool} {W : aW Nm} {a : aI Nm} {N : Nat → Nat → Int32} {M np p : Nat} {mk : Int32}
theorem plR_fr {I' : Nat → Nat → Int32} (hi : ∀ c i, 251 ≤ c → c ≤ 259 → I' c i = I c i) (h : plR X I N M) : plR X I' N M := ⟨fun c i h1 h2 h3 => (hi c i h1 h2).trans (h.1 c i h1 h2 h3), h.2⟩
theorem plR_f {I' : Nat → Nat → Int32} (hf : fR I I') (h : plR X I N M) : plR X I' N M := plR_fr (fun c i h1 h2 => hf.1 c i (by omega)) h
theorem r222a (k8 : k < 8) : ∀ (r : Nat) (x : Int32) (v : Nat) (I : Nat → Nat → Int32), plR X I N M → chOK N M r x → v + (chl N r x).length ≤ 6 → ∃ I', M222 A d 80 [some (.ref (b + 241)), some (.int (nI p)), some (.int mk), some (.int (nI k)), some (.int (nI v)), some (.int x)] [] (jH h b X I J R n) = M222 A d 119 [some (.ref (b + 241)), some (.int (nI p)), some (.int mk), some (.int (nI k)), some (.int (nI (v + (chl N r x).length))), some (.int (mI 1))] [] (jH h b X I' J R n) ∧ (∀ c j, c ≠ 266 → I' c j = I c j) ∧ ∀ y, I' 266 y = if 6 * k + v ≤ y ∧ y < 6 * k + v + (chl N r x).length then N 253 ((chl N r x).getD (y - (6 * k + v)) 0) else I 266 y := by
  intro r
  induction r with
  | zero => intro x v I hp hc; exact hc.elim
  | succ r ih =>
    intro x v I hp hc hl
    have hM := hp.2.2
    have m3 := hp.2.1 253 (by omega) (by omega)
    have m5 := hp.2.1 255 (by omega) (by omega)
    have n3 := fun i => hp.1 253 i (by omega) (by omega) (by omega)
    have n5 := fun i => hp.1 255 i (by omega) (by omega) (by omega)
    rcases hc with hc | ⟨c, hc, hcM, hcr⟩
    · subst hc
      have hch : chl N (r + 1) (-1) = [] := by
        unfold chl
        rw [if_pos (by decide)]
      rw [hch]
      refine ⟨I, ?_, fun _ _ _ => rfl, fun y => by rw [if_neg (by simp)]⟩
      rw [r222_80]
      simp (disch := omega) [r222_82, List.getElem?_cons_zero, List.getElem?_cons_succ, List.length_cons, List.length_nil, ag_nx, ag_dn, ag_no, ag_if, jbr1, jbr2, jc1, jc2, jnul, jld, jsto, jstoL, jst1, jst2, jkill, jinc, jbI, jbL, jbS, juI, jl2i, jcmp, jisR, jisI, jisL, jret, jretv, jfits, jdup, jdup2, jpop, jmm, jcat, Value.category, jinv, jrcv, jthr, jhd, jput, jget, jlen, jald, jast, jaast, jgI, jgL, jgB, jtab, jlku, jacp, vf20, vf21, vf22, vf23, vf24, u2_s, u2_k, u2_i, uc_s, uc_k, uc_c, u2_c, LI0, LI1, LI2, LI3, LI4, LI5, LI6, LI7, LI8, LI9, LI10, LI11, LI12, LI13, LI14, LI15, LI16, LI17, LI18, LI19, LI20, LI21, LI22, LI23, LI24, LI25, LI26, LI27, LI28, LI29, LI30, LI31, LI32, LI33, LI34, LI35, LI36, LI37, LI40, LI42, LI43, LI45, LI48, LI60, LI61, LI64, LI80, LI300, LI400, LI1000, LI2000, LI2001, LI2047, LI2048, LI100000, LI1000000, LM, nI_clamp, nI_pos', nI_lt, nI_nlt, nI_le, nI_ge, nI_ne, nI_add, nI_sub, mI_lt, mI_le, mI_nlt, mI_nle, mI_ne, mI_ne', mI_nem]
    · subst hc
      have hch : chl N (r + 1) (nI c) = c :: chl N r (N 255 c) := by
        have hx : ix (nI c) = c := nI_clamp (by omega)
        simp only [chl]
        rw [if_neg (nI_pos (by omega)), hx]
      rw [hch] at hl ⊢
      obtain ⟨I', e, f1, f2⟩ := ih (N 255 c) (v + 1) (u2 I 266 (6 * k + v) (N 253 c)) (plR_fr (fun c i h1 h2 => u2_k (by omega)) hp) hcr (by simp at hl; omega)
      refine ⟨I', ?_, fun c' j hc' => (f1 c' j hc').trans (u2_k hc'), fun y => ?_⟩
      · rw [r222_80]
        have e2 : v + (c :: chl N r (N 255 c)).length = v + 1 + (chl N r (N 255 c)).length := by simp; omega
        rw [e2]
        simp (disch := omega) [r222_0, r222_1, r222_4, r222_5, r222_6, r222_9, r222_10, r222_11, r222_14, r222_15, r222_16, r222_19, r222_20, r222_21, r222_22, r222_23, r222_26, r222_27, r222_28, r222_29, r222_30, r222_33, r222_34, r222_35, r222_36, r222_37, r222_40, r222_41, r222_42, r222_43, r222_44, r222_47, r222_48, r222_49, r222_50, r222_51, r222_54, r222_55, r222_56, r222_57, r222_58, r222_61, r222_62, r222_63, r222_64, r222_65, r222_67, r222_68, r222_71, r222_72, r222_75, r222_76, r222_77, r222_78, r222_82, r222_85, r222_86, r222_89, r222_90, r222_92, r222_93, r222_95, r222_96, r222_97, r222_100, r222_102, r222_103, r222_104, r222_107, r222_108, r222_111, r222_113, r222_114, r222_116, r222_121, r222_123, r222_126, r222_127, r222_130, r222_131, r222_133, r222_134, r222_136, r222_137, r222_138, r222_139, r222_142, r222_145, r222_146, r222_147, r222_150, r222_151, r222_152, r222_155, r222_156, r222_157, r222_160, r222_161, r222_162, r222_165, r222_166, r222_167, r222_168, r222_171, r222_172, r222_173, r222_174, r222_177, r222_178, r222_181, r222_182, r222_183, r222_184, r222_185, r222_186, r222_187, r222_190, g241, vf12_36, vf12_42, t241_42, g260, p260, vf12_37, vf12_43, t241_43, g261, p261, vf12_44, t241_44, g262, p262, vf12_45, t241_45, g263, p263, vf12_46, t241_46, g264, p264, vf12_47, t241_47, g265, p265, vf12_49, t241_49, g267, p267, vf12_54, t241_54, g272, p272, vf12_23, t241_23, g253, p253, vf12_35, t241_35, g259, p259, vf12_48, t241_48, g266, p266, vf12_25, t241_25, g255, p255, p241_36, ty12_36, p241_37, ty12_37, vf12_22, t241_22, g252, p252, qa218, qo218, List.getElem?_cons_zero, List.getElem?_cons_succ, List.length_cons, List.length_nil, ag_nx, ag_dn, ag_no, ag_if, jbr1, jbr2, jc1, jc2, jnul, jld, jsto, jstoL, jst1, jst2, jkill, jinc, jbI, jbL, jbS, juI, jl2i, jcmp, jisR, jisI, jisL, jret, jretv, jfits, jdup, jdup2, jpop, jmm, jcat, Value.category, jinv, jrcv, jthr, jhd, jput, jget, jlen, jald, jast, jaast, jgI, jgL, jgB, jtab, jlku, jacp, vf20, vf21, vf22, vf23, vf24, u2_s, u2_k, u2_i, uc_s, uc_k, uc_c, u2_c, LI0, LI1, LI2, LI3, LI4, LI5, LI6, LI7, LI8, LI9, LI10, LI11, LI12, LI13, LI14, LI15, LI16, LI17, LI18, LI19, LI20, LI21, LI22, LI23, LI24, LI25, LI26, LI27, LI28, LI29, LI30, LI31, LI32, LI33, LI34, LI35, LI36, LI37, LI40, LI42, LI43, LI45, LI48, LI60, LI61, LI64, LI80, LI300, LI400, LI1000, LI2000, LI2001, LI2047, LI2048, LI100000, LI1000000, LM, nI_clamp, nI_pos', nI_lt, nI_nlt, nI_le, nI_ge, nI_ne, nI_add, nI_sub, mI_lt, mI_le, mI_nlt, mI_nle, mI_ne, mI_ne', mI_nem, nI_mul, Nat.mul_comm k 6, n3, n5, m3, m5, e, hcM, show 6 * k + v < 48 by simp at hl; omega]
      · rw [f2 y]
        by_cases c1 : y = 6 * k + v
        · subst c1
          rw [if_neg (by omega), u2_s, if_pos (by simp), Nat.sub_self]
          rfl
        · by_cases c2 : 6 * k + (v + 1) ≤ y ∧ y < 6 * k + (v + 1) + (chl N r (N 255 c)).length
          · rw [if_pos c2, if_pos (by simp; omega)]
            rw [show y - (6 * k + v) = (y - (6 * k + (v + 1))) + 1 by omega]
            rfl
          · rw [if_neg c2, if_neg (by simp; omega), u2_i c1]
theorem r222b (k8 : k < 8) {x : Int32} : ∀ (r v : Nat) (I : Nat → Nat → Int32), v + r = 6 → ∃ I', M222 A d 119 [some (.ref (b + 241)), some (.int (nI p)), some (.int mk), some (.int (nI k)), some (.int (nI v)), some (.int x)] [] (jH h b X I J R n) = M222 A d 145 [some (.ref (b + 241)), some (.int (nI p)), some (.int mk), some (.int (nI k)), some (.int (nI 6)), some (.int x)] [] (jH h b X I' J R n) ∧ (∀ c j, c ≠ 266 → I' c j = I c j) ∧ ∀ y, I' 266 y = if 6 * k + v ≤ y ∧ y < 6 * k + 6 then 0 else I 266 y := by
  intro r
  induction r with
  | zero =>
    intro v I hv
    have : v = 6 := by omega
    subst this
    refine ⟨I, ?_, fun _ _ _ => rfl, fun y => by rw [if_neg (by omega)]⟩
    rw [r222_119]
    simp (disch := omega) [r222_0, r222_1, r222_4, r222_5, r222_6, r222_9, r222_10, r222_11, r222_14, r222_15, r222_16, r222_19, r222_20, r222_21, r222_22, r222_23, r222_26, r222_27, r222_28, r222_29, r222_30, r222_33, r222_34, r222_35, r222_36, r222_37, r222_40, r222_41, r222_42, r222_43, r222_44, r222_47, r222_48, r222_49, r222_50, r222_51, r222_54, r222_55, r222_56, r222_57, r222_58, r222_61, r222_62, r222_63, r222_64, r222_65, r222_67, r222_68, r222_71, r222_72, r222_75, r222_76, r222_77, r222_78, r222_80, r222_82, r222_85, r222_86, r222_89, r222_90, r222_92, r222_93, r222_95, r222_96, r222_97, r222_100, r222_102, r222_103, r222_104, r222_107, r222_108, r222_111, r222_113, r222_114, r222_116, r222_121, r222_123, r222_126, r222_127, r222_130, r222_131, r222_133, r222_134, r222_136, r222_137, r222_138, r222_139, r222_142, r222_146, r222_147, r222_150, r222_151, r222_152, r222_155, r222_156, r222_157, r222_160, r222_161, r222_162, r222_165, r222_166, r222_167, r222_168, r222_171, r222_172, r222_173, r222_174, r222_177, r222_178, r222_181, r222_182, r222_183, r222_184, r222_185, r222_186, r222_187, r222_190, g241, vf12_36, vf12_42, t241_42, g260, p260, vf12_37, vf12_43, t241_43, g261, p261, vf12_44, t241_44, g262, p262, vf12_45, t241_45, g263, p263, vf12_46, t241_46, g264, p264, vf12_47, t241_47, g265, p265, vf12_49, t241_49, g267, p267, vf12_54, t241_54, g272, p272, vf12_23, t241_23, g253, p253, vf12_35, t241_35, g259, p259, vf12_48, t241_48, g266, p266, vf12_25, t241_25, g255, p255, p241_36, ty12_36, p241_37, ty12_37, vf12_22, t241_22, g252, p252, qa218, qo218, List.getElem?_cons_zero, List.getElem?_cons_succ, List.length_cons, List.length_nil, ag_nx, ag_dn, ag_no, ag_if, jbr1, jbr2, jc1, jc2, jnul, jld, jsto, jstoL, jst1, jst2, jkill, jinc, jbI, jbL, jbS, juI, jl2i, jcmp, jisR, jisI, jisL, jret, jretv, jfits, jdup, jdup2, jpop, jmm, jcat, Value.category, jinv, jrcv, jthr, jhd, jput, jget, jlen, jald, jast, jaast, jgI, jgL, jgB, jtab, jlku, jacp, vf20, vf21, vf22, vf23, vf24, u2_s, u2_k, u2_i, uc_s, uc_k, uc_c, u2_c, LI0, LI1, LI2, LI3, LI4, LI5, LI6, LI7, LI8, LI9, LI10, LI11, LI12, LI13, LI14, LI15, LI16, LI17, LI18, LI19, LI20, LI21, LI22, LI23, LI24, LI25, LI26, LI27, LI28, LI29, LI30, LI31, LI32, LI33, LI34, LI35, LI36, LI37, LI40, LI42, LI43, LI45, LI48, LI60, LI61, LI64, LI80, LI300, LI400, LI1000, LI2000, LI2001, LI2047, LI2048, LI100000, LI1000000, LM, nI_clamp, nI_pos', nI_lt, nI_nlt, nI_le, nI_ge, nI_ne, nI_add, nI_sub, mI_lt, mI_le, mI_nlt, mI_nle, mI_ne, mI_ne', mI_nem]
  | succ r ih =>
    intro v I hv
    obtain ⟨I', e, f1, f2⟩ := ih (v + 1) (u2 I 266 (6 * k + v) (nI 0)) (by omega)
    refine ⟨I', ?_, fun c j hc => (f1 c j hc).trans (u2_k hc), fun y => ?_⟩
    · rw [r222_119]
      simp (disch := omega) [r222_0, r222_1, r222_4, r222_5, r222_6, r222_9, r222_10, r222_11, r222_14, r222_15, r222_16, r222_19, r222_20, r222_21, r222_22, r222_23, r222_26, r222_27, r222_28, r222_29, r222_30, r222_33, r222_34, r222_35, r222_36, r222_37, r222_40, r222_41, r222_42, r222_43, r222_44, r222_47, r222_48, r222_49, r222_50, r222_51, r222_54, r222_55, r222_56, r222_57, r222_58, r222_61, r222_62, r222_63, r222_64, r222_65, r222_67, r222_68, r222_71, r222_72, r222_75, r222_76, r222_77, r222_78, r222_80, r222_82, r222_85, r222_86, r222_89, r222_90, r222_92, r222_93, r222_95, r222_96, r222_97, r222_100, r222_102, r222_103, r222_104, r222_107, r222_108, r222_111, r222_113, r222_114, r222_116, r222_121, r222_123, r222_126, r222_127, r222_130, r222_131, r222_133, r222_134, r222_136, r222_137, r222_138, r222_139, r222_142, r222_146, r222_147, r222_150, r222_151, r222_152, r222_155, r222_156, r222_157, r222_160, r222_161, r222_162, r222_165, r222_166, r222_167, r222_168, r222_171, r222_172, r222_173, r222_174, r222_177, r222_178, r222_181, r222_182, r222_183, r222_184, r222_185, r222_186, r222_187, r222_190, g241, vf12_36, vf12_42, t241_42, g260, p260, vf12_37, vf12_43, t241_43, g261, p261, vf12_44, t241_44, g262, p262, vf12_45, t241_45, g263, p263, vf12_46, t241_46, g264, p264, vf12_47, t241_47, g265, p265, vf12_49, t241_49, g267, p267, vf12_54, t241_54, g272, p272, vf12_23, t241_23, g253, p253, vf12_35, t241_35, g259, p259, vf12_48, t241_48, g266, p266, vf12_25, t241_25, g255, p255, p241_36, ty12_36, p241_37, ty12_37, vf12_22, t241_22, g252, p252, qa218, qo218, List.getElem?_cons_zero, List.getElem?_cons_succ, List.length_cons, List.length_nil, ag_nx, ag_dn, ag_no, ag_if, jbr1, jbr2, jc1, jc2, jnul, jld, jsto, jstoL, jst1, jst2, jkill, jinc, jbI, jbL, jbS, juI, jl2i, jcmp, jisR, jisI, jisL, jret, jretv, jfits, jdup, jdup2, jpop, jmm, jcat, Value.category, jinv, jrcv, jthr, jhd, jput, jget, jlen, jald, jast, jaast, jgI, jgL, jgB, jtab, jlku, jacp, vf20, vf21, vf22, vf23, vf24, u2_s, u2_k, u2_i, uc_s, uc_k, uc_c, u2_c, LI0, LI1, LI2, LI3, LI4, LI5, LI6, LI7, LI8, LI9, LI10, LI11, LI12, LI13, LI14, LI15, LI16, LI17, LI18, LI19, LI20, LI21, LI22, LI23, LI24, LI25, LI26, LI27, LI28, LI29, LI30, LI31, LI32, LI33, LI34, LI35, LI36, LI37, LI40, LI42, LI43, LI45, LI48, LI60, LI61, LI64, LI80, LI300, LI400, LI1000, LI2000, LI2001, LI2047, LI2048, LI100000, LI1000000, LM, nI_clamp, nI_pos', nI_lt, nI_nlt, nI_le, nI_ge, nI_ne, nI_add, nI_sub, mI_lt, mI_le, mI_nlt, mI_nle, mI_ne, mI_ne', mI_nem, nI_mul, Nat.mul_comm k 6, e, show 6 * k + v < 48 by omega]
    · rw [f2 y]
      by_cases c1 : y = 6 * k + v
      · subst c1
        rw [if_neg (by omega), u2_s, if_pos (by omega)]
        rfl
      · by_cases c2 : 6 * k + (v + 1) ≤ y ∧ y < 6 * k + 6
        · rw [if_pos c2, if_pos (by omega)]
        · rw [if_neg c2, if_neg (by omega), u2_i c1]
theorem wB_push {I I' : Nat → Nat → Int32} {L : List (aI Nm)} (h : wB rN I L) (ok : okL L) (h8 : L.length < 8) (hi : ∀ c j, 260 ≤ c → c ≤ 265 ∨ c = 267 ∨ c = 272 → j ≠ L.length → I' c j = I c j) (h6 : ∀ j, j < 6 * L.length → I' 266 j = I 266 j) (h8' : ∀ c j, 268 ≤ c → c ≤ 271 → I' c j = I c j) (h4 : ∀ c j, 273 ≤ c → c ≤ 274 → I' c j = I c j) (h3 : I' 241 36 = nI (L.length + 1)) (ha : iR rN I' L.length a) : wB rN I' (L ++ [a]) := by
  refine ⟨by simp; omega, by rw [h3]; simp, fun k c hk => ?_⟩
  rcases Nat.lt_or_ge k L.length with hl | hl
  · rw [List.getElem?_append_left hl] at hk
    obtain ⟨o1, o2, o3, _⟩ := ok k c hk
    refine iR_fr (fun c h1 h2 => hi c k h1 h2 (by omega)) (fun j => ?_) (fun c j h1 h2 => Or.inl (h8' c _ h1 h2)) (fun c j h1 h2 => Or.inl (h4 c _ h1 h2)) (h.2.2 k c hk)
    rcases Nat.lt_or_ge j 6 with hj | hj
    · exact Or.inl (h6 _ (by omega))
    · exact Or.inr ⟨hj, by omega⟩
  · rw [List.getElem?_append_right hl] at hk
    have : k = L.length := by
      rcases Nat.lt_or_ge (k - L.length) 1 with h1 | h1
      · omega
      · rw [List.getElem?_eq_none (by simpa using h1)] at hk; cases hk
    subst this
    simp at hk
    subst hk
    exact ha
theorem rFresh (hpl : plR X I N M) (hvN : vN N M np) (hW : wR rN I l W) (ok : okL W.1) (h8 : W.1.length < 8) (hp : p < np) : ∃ I', jcall A jcode (d + 2) 222 [.ref (b + 241), .int (nI p), .int mk] (jH h b X I J R n) = some (.inl none, jH h b X I' J R n) ∧ wR rN I' l (aFresh rN N l p mk W) ∧ fR I I' := by
  have vp := hvN.2.2.2 p hp
  have n6 := hvN.1
  have hM := hvN.2.2.1
  obtain ⟨v1, v2, v3, v4, v5, v6⟩ := vp
  obtain ⟨hA, h4, h5, hL, hQ⟩ := hW
  have hm : I 241 36 = nI W.1.length := hA.2.1
  obtain ⟨Q, hQe⟩ : ∃ Q, Q = u2 (u2 (u2 (u2 (u2 (u2 (u2 (u2 I 260 W.1.length (I 241 37)) 261 W.1.length (nI p)) 262 W.1.length (mI 1)) 263 W.1.length mk) 264 W.1.length (mI 1)) 265 W.1.length (mI 1)) 267 W.1.length (nI 0)) 272 W.1.length (nI 0) := ⟨_, rfl⟩
  have q1 : ∀ c i, c < 260 ∨ c = 266 ∨ (267 < c ∧ c < 272) ∨ 272 < c → Q c i = I c i := fun c i hc => by rw [hQe]; simp (disch := omega) [u2_k]
  have q2 : ∀ c i, 260 ≤ c → i ≠ W.1.length → Q c i = I c i := fun c i hc hi => by
    rw [hQe]
    simp only [u2_ap]
    rw [if_neg (by omega), if_neg (by omega), if_neg (by omega), if_neg (by omega), if_neg (by omega), if_neg (by omega), if_neg (by omega), if_neg (by omega)]
  have plQ : plR X Q N M := plR_fr (fun c i h1 h2 => q1 c i (by omega)) hpl
  have hlet : N 253 (pnd N p) = N 253 (pnd N p) := rfl
  obtain ⟨I1, e1, f1, g1⟩ := r222a (d := d + 1) (A := A) (b := b) (h := h) (X := X) (J := J) (R := R) (n := n) (p := p) (mk := mk) (k := W.1.length) h8 7 (N 253 (pnd N p)) 0 Q plQ v4 (by have : (chl N 7 (N 253 (pnd N p))).length ≤ 6 := v5; omega)
  obtain ⟨I2, e2, f2, g2⟩ := r222b (d := d + 1) (A := A) (b := b) (h := h) (X := X) (J := J) (R := R) (n := n) (p := p) (mk := mk) (k := W.1.length) (x := mI 1) h8 (6 - (chl N 7 (N 253 (pnd N p))).length) (0 + (chl N 7 (N 253 (pnd N p))).length) I1 (by have : (chl N 7 (N 253 (pnd N p))).length ≤ 6 := v5; omega)
  obtain ⟨I3, hI3⟩ : ∃ I3, I3 = u2 (u2 I2 241 36 (nI (W.1.length + 1))) 241 37 (I 241 37 + nI 1) := ⟨_, rfl⟩
  have g3 : ∀ c i, c ≠ 241 → I3 c i = I2 c i := fun c i hc => by rw [hI3, u2_k hc, u2_k hc]
  have fQ : ∀ c i, c ≠ 266 → I2 c i = Q c i := fun c i hc => (f2 c i hc).trans (f1 c i hc)
  have b36 : I2 241 36 = nI W.1.length := by rw [fQ _ _ (by omega), q1 _ _ (by omega)]; exact hm
  have b37 : I2 241 37 = I 241 37 := by rw [fQ _ _ (by omega), q1 _ _ (by omega)]
  have o3 : ∀ i, i ≠ 36 → i ≠ 37 → I3 241 i = I 241 i := fun i h1 h2 => by rw [hI3, u2_i h2, u2_i h1, fQ _ _ (by omega), q1 _ _ (by omega)]
  have hW3 : wR rN I3 l (W.1 ++ [aNew N W.2.1.1 p mk], (W.2.1.1 + 1, W.2.1.2), W.2.2) := by
    refine ⟨wB_push hA ok h8 ?_ ?_ ?_ ?_ ?_ ?_, ?_⟩
    · intro c j a1 a2 a3
      rw [g3 _ _ (by omega), fQ _ _ (by omega), q2 _ _ (by omega) a3]
    · intro j hj
      rw [g3 _ _ (by omega), g2, if_neg (by omega), g1, if_neg (by omega), q1 _ _ (by omega)]
    · intro c j a1 a2
      rw [g3 _ _ (by omega), fQ _ _ (by omega), q1 _ _ (by omega)]
    · intro c j a1 a2
      rw [g3 _ _ (by omega), fQ _ _ (by omega), q1 _ _ (by omega)]
    · rw [hI3, u2_i (by omega), u2_s]
    · unfold aNew
      refine ⟨?_, ?_, ?_, rfl, ?_, rfl⟩
      · show (W.2.1.1, nI p, -1, mk, -1, -1) = _
        simp (disch := omega) only [g3, fQ, ne_eq, not_false_eq_true, hQe, u2_k, u2_s]
        rw [h4]
        rfl
      · constructor
        rotate_left
        · intro j hj hj6
          rw [List.length_map] at hj
          have hj' : (chl N 7 (N 253 (pnd N p))).length ≤ j := hj
          rw [g3 _ _ (by omega), g2, if_pos (by omega)]
        show (lets N p).map _ = rl _ ((lets N p).map _).length
        rw [List.length_map]
        apply rl_ext (by rw [List.length_map])
        intro i hi
        have hi' : i < (chl N 7 (N 253 (pnd N p))).length := hi
        rw [g3 _ _ (by omega), g2, if_neg (by omega), g1, if_pos (by omega), show 6 * W.1.length + i - (6 * W.1.length + 0) = i by omega, List.getElem?_map, List.getElem?_eq_getElem hi, List.getD_eq_getElem?_getD]
        show some (N 253 (lets N p)[i]) = some (N 253 (((lets N p)[i]?).getD 0))
        rw [List.getElem?_eq_getElem hi]
        rfl
      · simp (disch := omega) only [g3, fQ, ne_eq, not_false_eq_true, hQe, u2_k, u2_s]
        rfl
      · simp (disch := omega) only [g3, fQ, ne_eq, not_false_eq_true, hQe, u2_k, u2_s]
        rfl
    · refine ⟨by rw [hI3, u2_s, h4]; rfl, by rw [o3 38 (by omega) (by omega)]; exact h5, fun e => ?_, fun e => ?_⟩
      · obtain ⟨hq, h6, h7, h9, hmm, he, ht, hx⟩ := hL e
        refine ⟨by rw [o3 66 (by omega) (by omega)]; exact hq, by rw [o3 39 (by omega) (by omega)]; exact h6, by rw [o3 40 (by omega) (by omega)]; exact h7, by rw [o3 41 (by omega) (by omega)]; exact h9, hmm, by rw [o3 64 (by omega) (by omega)]; exact he, ?_, by rw [o3 65 (by omega) (by omega)]; exact hx⟩
        refine ht.trans (rl_congr fun j hj => ?_)
        have z : ∀ c, 275 ≤ c → c ≤ 281 → ∀ i, I3 c i = I c i := fun c h1 h2 i => by rw [g3 _ _ (by omega), fQ _ _ (by omega), q1 _ _ (by omega)]
        unfold eR
        rw [z 275 (by omega) (by omega), z 276 (by omega) (by omega), z 277 (by omega) (by omega), z 278 (by omega) (by omega), z 279 (by omega) (by omega), z 280 (by omega) (by omega), z 281 (by omega) (by omega)]
      · obtain ⟨h6, h7, h9, h10⟩ := hQ e
        have z : ∀ c, 275 ≤ c → c ≤ 281 → ∀ i, I3 c i = I c i := fun c h1 h2 i => by rw [g3 _ _ (by omega), fQ _ _ (by omega), q1 _ _ (by omega)]
        exact ⟨by rw [o3 66 (by omega) (by omega)]; exact h6, by rw [o3 67 (by omega) (by omega)]; exact h7, by rw [o3 68 (by omega) (by omega)]; exact h9, tQ_fr (fun c i h1 h2 => z c h1 h2 i) (fun i h1 => o3 i (by omega) (by omega)) h10⟩
  obtain ⟨I4, e4, w4, f4, _⟩ := rAdd (d := d) (A := A) (b := b) (h := h) (X := X) (J := J) (R := R) (n := n) (kd := 4) (id := I 241 37) (x := N 252 (pnd N p)) (v := mk) (o := nI p) (pe := -1) hW3
  refine ⟨I4, ?_, ?_, fR_trans ⟨fun c i hc => ?_, fun i hi => ?_, ?_⟩ f4⟩
  · have m3 := hpl.2.1 253 (by omega) (by omega)
    have m2 := hpl.2.1 252 (by omega) (by omega)
    have p9 : I 259 p = nI (pnd N p) := by rw [hpl.1 259 p (by omega) (by omega) (by omega)]; exact v2
    have p3 : I 253 (pnd N p) = N 253 (pnd N p) := hpl.1 253 _ (by omega) (by omega) (by omega)
    have z0 : I2 260 W.1.length = I 241 37 := by rw [fQ _ _ (by omega), hQe]; simp (disch := omega) [u2_k, u2_s]
    have z9 : I2 259 p = nI (pnd N p) := by rw [fQ _ _ (by omega), q1 _ _ (by omega)]; exact p9
    have z2 : I2 252 (pnd N p) = N 252 (pnd N p) := by rw [fQ _ _ (by omega), q1 _ _ (by omega)]; exact hpl.1 252 _ (by omega) (by omega) (by omega)
    rw [hQe] at e1
    rw [hI3] at e4
    simp only [LI0, LI1, LI2, LI3, LI4, LI5, LI6, LI7, LI8, LI9, LI10, LI11, LI12, LI13, LI14, LI15, LI16, LI17, LI18, LI19, LI20, LI21, LI22, LI23, LI24, LI25, LI26, LI27, LI28, LI29, LI30, LI31, LI32, LI33, LI34, LI35, LI36, LI37, LI40, LI42, LI43, LI45, LI48, LI60, LI61, LI64, LI80, LI300, LI400, LI1000, LI2000, LI2001, LI2047, LI2048, LI100000, LI1000000, LM] at e4
    rw [Nat.zero_add] at e1 e2
    simp (disch := omega) [je222, r222_0, r222_1, r222_4, r222_5, r222_6, r222_9, r222_10, r222_11, r222_14, r222_15, r222_16, r222_19, r222_20, r222_21, r222_22, r222_23, r222_26, r222_27, r222_28, r222_29, r222_30, r222_33, r222_34, r222_35, r222_36, r222_37, r222_40, r222_41, r222_42, r222_43, r222_44, r222_47, r222_48, r222_49, r222_50, r222_51, r222_54, r222_55, r222_56, r222_57, r222_58, r222_61, r222_62, r222_63, r222_64, r222_65, r222_67, r222_68, r222_71, r222_72, r222_75, r222_76, r222_77, r222_78, r222_82, r222_85, r222_86, r222_89, r222_90, r222_92, r222_93, r222_95, r222_96, r222_97, r222_100, r222_102, r222_103, r222_104, r222_107, r222_108, r222_111, r222_113, r222_114, r222_116, r222_121, r222_123, r222_126, r222_127, r222_130, r222_131, r222_133, r222_134, r222_136, r222_137, r222_138, r222_139, r222_142, r222_145, r222_146, r222_147, r222_150, r222_151, r222_152, r222_155, r222_156, r222_157, r222_160, r222_161, r222_162, r222_165, r222_166, r222_167, r222_168, r222_171, r222_172, r222_173, r222_174, r222_177, r222_178, r222_181, r222_182, r222_183, r222_184, r222_185, r222_186, r222_187, r222_190, g241, vf12_36, vf12_42, t241_42, g260, p260, vf12_37, vf12_43, t241_43, g261, p261, vf12_44, t241_44, g262, p262, vf12_45, t241_45, g263, p263, vf12_46, t241_46, g264, p264, vf12_47, t241_47, g265, p265, vf12_49, t241_49, g267, p267, vf12_54, t241_54, g272, p272, vf12_23, t241_23, g253, p253, vf12_35, t241_35, g259, p259, vf12_48, t241_48, g266, p266, vf12_25, t241_25, g255, p255, p241_36, ty12_36, p241_37, ty12_37, vf12_22, t241_22, g252, p252, qa218, qo218, List.getElem?_cons_zero, List.getElem?_cons_succ, List.length_cons, List.length_nil, ag_nx, ag_dn, ag_no, ag_if, jbr1, jbr2, jc1, jc2, jnul, jld, jsto, jstoL, jst1, jst2, jkill, jinc, jbI, jbL, jbS, juI, jl2i, jcmp, jisR, jisI, jisL, jret, jretv, jfits, jdup, jdup2, jpop, jmm, jcat, Value.category, jinv, jrcv, jthr, jhd, jput, jget, jlen, jald, jast, jaast, jgI, jgL, jgB, jtab, jlku, jacp, vf20, vf21, vf22, vf23, vf24, u2_s, u2_k, u2_i, uc_s, uc_k, uc_c, u2_c, LI0, LI1, LI2, LI3, LI4, LI5, LI6, LI7, LI8, LI9, LI10, LI11, LI12, LI13, LI14, LI15, LI16, LI17, LI18, LI19, LI20, LI21, LI22, LI23, LI24, LI25, LI26, LI27, LI28, LI29, LI30, LI31, LI32, LI33, LI34, LI35, LI36, LI37, LI40, LI42, LI43, LI45, LI48, LI60, LI61, LI64, LI80, LI300, LI400, LI1000, LI2000, LI2001, LI2047, LI2048, LI100000, LI1000000, LM, nI_clamp, nI_pos', nI_lt, nI_nlt, nI_le, nI_ge, nI_ne, nI_add, nI_sub, mI_lt, mI_le, mI_nlt, mI_nle, mI_ne, mI_ne', mI_nem, hm, h8, p9, p3, m2, m3, e1, e2, b36, b37, z0, z9, z2, e4, v1, show p < 6 by omega]
  · have hx : ¬ (((4 : Int32) = 0 ∨ (4 : Int32) = 1) ∧ ¬ (-1 : Int32) = -3) := by decide
    rw [if_neg hx, h4] at w4
    exact w4
  · by_cases h41 : c = 241
    · omega
    · rw [g3 _ _ h41, fQ _ _ (by omega), q1 _ _ (by omega)]
  · exact o3 i (by omega) (by omega)
  · exact o3 66 (by omega) (by omega)
end RF
