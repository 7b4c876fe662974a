/-! the reference: an instance goes -/
/-- those behind k come nearer -/
def shR (k m : Nat) (I I' : Nat → Nat → Int32) : Prop := (∀ c i, c < 260 ∨ 274 < c → I' c i = I c i) ∧ (∀ c j, 260 ≤ c → c ≤ 265 ∨ c = 267 ∨ c = 272 → I' c j = if k ≤ j ∧ j < m then I c (j + 1) else I c j) ∧ (∀ j, I' 266 j = if 6 * k ≤ j ∧ j < 6 * m then I 266 (j + 6) else I 266 j) ∧ (∀ c j, 268 ≤ c → c ≤ 271 → I' c j = if 8 * k ≤ j ∧ j < 8 * m then I c (j + 8) else I c j) ∧ (∀ c j, 273 ≤ c → c ≤ 274 → I' c j = if 4 * k ≤ j ∧ j < 4 * m then I c (j + 4) else I c j)
section RG
variable {A : Nat → Nat} {d b n : Nat} {h : Nat → Option jC} {X : jXX} {I : Nat → Nat → Int32} {J : Nat → Nat → Int64} {R : Nat → Nat → Nat} {k : Nat} {rN : Int32 → Nm} {l : Bool} {W : aW Nm} {a : aI Nm} {N : Nat → Nat → Int32} {M np p : Nat} {mk : Int32}
theorem r223s {k0 : Int32} {c3 : Option Value} {m : Nat} (hm : I 241 36 = nI m) (hkm : k < m) (h8 : m < 8) : ∃ I' , M223 A (d + 1) 12 [some (.ref (b + 241)), some (.int k0), some (.int (nI k)), c3] [] (jH h b X I J R n) = M223 A (d + 1) 12 [some (.ref (b + 241)), some (.int k0), some (.int (nI (k + 1))), some (.int (nI 4))] [] (jH h b X I' J R n) ∧ shR k (k + 1) I I' := by
  obtain ⟨Q, hQ⟩ : ∃ Q, Q = u2 (u2 (u2 (u2 (u2 (u2 (u2 (u2 I 260 k (I 260 (k + 1))) 261 k (I 261 (k + 1))) 262 k (I 262 (k + 1))) 263 k (I 263 (k + 1))) 264 k (I 264 (k + 1))) 265 k (I 265 (k + 1))) 267 k (I 267 (k + 1))) 272 k (I 272 (k + 1)) := ⟨_, rfl⟩
  obtain ⟨I1, e1, f1, g1⟩ := r223a (d := d + 1) (A := A) (b := b) (h := h) (X := X) (J := J) (R := R) (n := n) (k0 := k0) (k := k) (by omega) 6 0 Q (by omega)
  obtain ⟨I2, e2, f2, g2⟩ := r223b (d := d) (A := A) (b := b) (h := h) (X := X) (J := J) (R := R) (n := n) (k0 := k0) (k := k) (by omega) 8 0 I1 (by omega)
  obtain ⟨I3, e3, f3, g3⟩ := r223c (d := d + 1) (A := A) (b := b) (h := h) (X := X) (J := J) (R := R) (n := n) (k0 := k0) (k := k) (by omega) 4 0 I2 (by omega)
  have q1 : ∀ c i, c < 260 ∨ c = 266 ∨ (267 < c ∧ c < 272) ∨ 272 < c → Q c i = I c i := fun c i hc => by rw [hQ]; simp (disch := omega) [u2_k]
  refine ⟨I3, ?_, ⟨fun c i hc => ?_, fun c j a1 a2 => ?_, fun j => ?_, fun c j a1 a2 => ?_, fun c j a1 a2 => ?_⟩⟩
  · rw [r223_12]
    rw [hQ] at e1
    simp (disch := omega) [r223_0, r223_1, r223_2, r223_5, r223_6, r223_7, r223_10, r223_11, r223_13, r223_14, r223_17, r223_20, r223_21, r223_24, r223_25, r223_26, r223_29, r223_30, r223_31, r223_32, r223_33, r223_34, r223_35, r223_38, r223_39, r223_40, r223_43, r223_44, r223_45, r223_46, r223_47, r223_48, r223_49, r223_52, r223_53, r223_54, r223_57, r223_58, r223_59, r223_60, r223_61, r223_62, r223_63, r223_66, r223_67, r223_68, r223_71, r223_72, r223_73, r223_74, r223_75, r223_76, r223_77, r223_80, r223_81, r223_82, r223_85, r223_86, r223_87, r223_88, r223_89, r223_90, r223_91, r223_94, r223_95, r223_96, r223_99, r223_100, r223_101, r223_102, r223_103, r223_104, r223_105, r223_108, r223_109, r223_110, r223_113, r223_114, r223_115, r223_116, r223_117, r223_118, r223_119, r223_122, r223_123, r223_124, r223_127, r223_128, r223_129, r223_130, r223_131, r223_132, r223_133, r223_135, r223_137, r223_140, r223_141, r223_144, r223_145, r223_147, r223_148, r223_149, r223_150, r223_151, r223_154, r223_155, r223_156, r223_157, r223_159, r223_160, r223_161, r223_162, r223_163, r223_164, r223_167, r223_170, r223_171, r223_173, r223_175, r223_178, r223_179, r223_180, r223_181, r223_182, r223_184, r223_185, r223_186, r223_187, r223_188, r223_190, r223_191, r223_192, r223_193, r223_196, r223_199, r223_202, r223_203, r223_205, r223_206, r223_209, r223_210, r223_213, r223_214, r223_215, r223_216, r223_217, r223_218, r223_219, r223_222, r223_223, r223_224, r223_225, r223_226, r223_227, r223_228, r223_229, r223_230, r223_231, r223_232, r223_235, r223_236, r223_237, r223_238, r223_239, r223_240, r223_241, r223_244, r223_245, r223_246, r223_247, r223_248, r223_249, r223_250, r223_251, r223_252, r223_253, r223_256, r223_259, r223_262, r223_265, g241, vf12_36, p241_36, ty12_36, vf12_42, t241_42, g260, p260, vf12_43, t241_43, g261, p261, vf12_44, t241_44, g262, p262, vf12_45, t241_45, g263, p263, vf12_46, t241_46, g264, p264, vf12_47, t241_47, g265, p265, vf12_49, t241_49, g267, p267, vf12_54, t241_54, g272, p272, vf12_48, t241_48, g266, p266, qa224, qo224, vf12_55, t241_55, g273, p273, vf12_56, t241_56, g274, p274, List.getElem?_cons_zero, List.getElem?_cons_succ, List.length_cons, List.length_nil, ag_nx, ag_dn, ag_no, ag_if, jbr1, jbr2, jc1, jc2, jnul, jld, jsto, jstoL, jst1, jst2, jkill, jinc, jbI, jbL, jbS, juI, jl2i, jcmp, jisR, jisI, jisL, jret, jretv, jfits, jdup, jdup2, jpop, jmm, jcat, Value.category, jinv, jrcv, jthr, jhd, jput, jget, jlen, jald, jast, jaast, jgI, jgL, jgB, jtab, jlku, jacp, vf20, vf21, vf22, vf23, vf24, u2_s, u2_k, u2_i, uc_s, uc_k, uc_c, u2_c, LI0, LI1, LI2, LI3, LI4, LI5, LI6, LI7, LI8, LI9, LI10, LI11, LI12, LI13, LI14, LI15, LI16, LI17, LI18, LI19, LI20, LI21, LI22, LI23, LI24, LI25, LI26, LI27, LI28, LI29, LI30, LI31, LI32, LI33, LI34, LI35, LI36, LI37, LI40, LI42, LI43, LI45, LI48, LI60, LI61, LI64, LI80, LI300, LI400, LI1000, LI2000, LI2001, LI2047, LI2048, LI100000, LI1000000, LM, nI_clamp, nI_pos', nI_lt, nI_nlt, nI_le, nI_ge, nI_ne, nI_add, nI_sub, mI_lt, mI_le, mI_nlt, mI_nle, mI_ne, mI_ne', mI_nem, hm, e1, e2, e3, show k < 8 by omega, show k + 1 < 8 by omega]
  · rw [f3 _ _ (by omega), f2 _ _ (by omega), f1 _ _ (by omega), q1 _ _ (by omega)]
  · rw [f3 _ _ (by omega), f2 _ _ (by omega), f1 _ _ (by omega), hQ]
    simp only [u2_ap]
    by_cases e : k ≤ j ∧ j < k + 1
    · have : j = k := by omega
      subst this
      rw [if_pos e]
      obtain rfl | rfl | rfl | rfl | rfl | rfl | rfl | rfl : c = 260 ∨ c = 261 ∨ c = 262 ∨ c = 263 ∨ c = 264 ∨ c = 265 ∨ c = 267 ∨ c = 272 := by omega
      all_goals simp
    · rw [if_neg e, if_neg (by omega), if_neg (by omega), if_neg (by omega), if_neg (by omega), if_neg (by omega), if_neg (by omega), if_neg (by omega), if_neg (by omega)]
  · rw [f3 _ _ (by omega), f2 _ _ (by omega), g1]
    by_cases e : 6 * k ≤ j ∧ j < 6 * (k + 1)
    · rw [if_pos e, if_pos (by omega), q1 _ _ (by omega)]
    · rw [if_neg e, if_neg (by omega), q1 _ _ (by omega)]
  · rw [f3 _ _ (by omega), g2 c j a1 a2]
    by_cases e : 8 * k ≤ j ∧ j < 8 * (k + 1)
    · rw [if_pos e, if_pos (by omega), f1 _ _ (by omega), q1 _ _ (by omega)]
    · rw [if_neg e, if_neg (by omega), f1 _ _ (by omega), q1 _ _ (by omega)]
  · rw [g3 c j a1 a2]
    by_cases e : 4 * k ≤ j ∧ j < 4 * (k + 1)
    · rw [if_pos e, if_pos (by omega), f2 _ _ (by omega), f1 _ _ (by omega), q1 _ _ (by omega)]
    · rw [if_neg e, if_neg (by omega), f2 _ _ (by omega), f1 _ _ (by omega), q1 _ _ (by omega)]
theorem r223l {k0 : Int32} {m : Nat} (h8 : m < 8) : ∀ (r k : Nat) (I : Nat → Nat → Int32) (c3 : Option Value), I 241 36 = nI m → k + r = m → ∃ I', M223 A (d + 1) 12 [some (.ref (b + 241)), some (.int k0), some (.int (nI k)), c3] [] (jH h b X I J R n) = some (.inl none, jH h b X I' J R n) ∧ shR k m I I' := by
  intro r
  induction r with
  | zero =>
    intro k I c3 hm hk
    have : k = m := by omega
    subst this
    refine ⟨I, ?_, ⟨fun _ _ _ => rfl, fun c j _ _ => by rw [if_neg (by omega)], fun j => by rw [if_neg (by omega)], fun c j _ _ => by rw [if_neg (by omega)], fun c j _ _ => by rw [if_neg (by omega)]⟩⟩
    rw [r223_12]
    simp (disch := omega) [r223_0, r223_1, r223_2, r223_5, r223_6, r223_7, r223_10, r223_11, r223_13, r223_14, r223_17, r223_20, r223_21, r223_24, r223_25, r223_26, r223_29, r223_30, r223_31, r223_32, r223_33, r223_34, r223_35, r223_38, r223_39, r223_40, r223_43, r223_44, r223_45, r223_46, r223_47, r223_48, r223_49, r223_52, r223_53, r223_54, r223_57, r223_58, r223_59, r223_60, r223_61, r223_62, r223_63, r223_66, r223_67, r223_68, r223_71, r223_72, r223_73, r223_74, r223_75, r223_76, r223_77, r223_80, r223_81, r223_82, r223_85, r223_86, r223_87, r223_88, r223_89, r223_90, r223_91, r223_94, r223_95, r223_96, r223_99, r223_100, r223_101, r223_102, r223_103, r223_104, r223_105, r223_108, r223_109, r223_110, r223_113, r223_114, r223_115, r223_116, r223_117, r223_118, r223_119, r223_122, r223_123, r223_124, r223_127, r223_128, r223_129, r223_130, r223_131, r223_132, r223_133, r223_135, r223_137, r223_140, r223_141, r223_144, r223_145, r223_147, r223_148, r223_149, r223_150, r223_151, r223_154, r223_155, r223_156, r223_157, r223_159, r223_160, r223_161, r223_162, r223_163, r223_164, r223_167, r223_170, r223_171, r223_173, r223_175, r223_178, r223_179, r223_180, r223_181, r223_182, r223_184, r223_185, r223_186, r223_187, r223_188, r223_190, r223_191, r223_192, r223_193, r223_196, r223_199, r223_202, r223_203, r223_205, r223_206, r223_209, r223_210, r223_213, r223_214, r223_215, r223_216, r223_217, r223_218, r223_219, r223_222, r223_223, r223_224, r223_225, r223_226, r223_227, r223_228, r223_229, r223_230, r223_231, r223_232, r223_235, r223_236, r223_237, r223_238, r223_239, r223_240, r223_241, r223_244, r223_245, r223_246, r223_247, r223_248, r223_249, r223_250, r223_251, r223_252, r223_253, r223_256, r223_259, r223_262, r223_265, g241, vf12_36, p241_36, ty12_36, vf12_42, t241_42, g260, p260, vf12_43, t241_43, g261, p261, vf12_44, t241_44, g262, p262, vf12_45, t241_45, g263, p263, vf12_46, t241_46, g264, p264, vf12_47, t241_47, g265, p265, vf12_49, t241_49, g267, p267, vf12_54, t241_54, g272, p272, vf12_48, t241_48, g266, p266, qa224, qo224, vf12_55, t241_55, g273, p273, vf12_56, t241_56, g274, p274, List.getElem?_cons_zero, List.getElem?_cons_succ, List.length_cons, List.length_nil, ag_nx, ag_dn, ag_no, ag_if, jbr1, jbr2, jc1, jc2, jnul, jld, jsto, jstoL, jst1, jst2, jkill, jinc, jbI, jbL, jbS, juI, jl2i, jcmp, jisR, jisI, jisL, jret, jretv, jfits, jdup, jdup2, jpop, jmm, jcat, Value.category, jinv, jrcv, jthr, jhd, jput, jget, jlen, jald, jast, jaast, jgI, jgL, jgB, jtab, jlku, jacp, vf20, vf21, vf22, vf23, vf24, u2_s, u2_k, u2_i, uc_s, uc_k, uc_c, u2_c, LI0, LI1, LI2, LI3, LI4, LI5, LI6, LI7, LI8, LI9, LI10, LI11, LI12, LI13, LI14, LI15, LI16, LI17, LI18, LI19, LI20, LI21, LI22, LI23, LI24, LI25, LI26, LI27, LI28, LI29, LI30, LI31, LI32, LI33, LI34, LI35, LI36, LI37, LI40, LI42, LI43, LI45, LI48, LI60, LI61, LI64, LI80, LI300, LI400, LI1000, LI2000, LI2001, LI2047, LI2048, LI100000, LI1000000, LM, nI_clamp, nI_pos', nI_lt, nI_nlt, nI_le, nI_ge, nI_ne, nI_add, nI_sub, mI_lt, mI_le, mI_nlt, mI_nle, mI_ne, mI_ne', mI_nem, hm]
  | succ r ih =>
    intro k I c3 hm hk
    obtain ⟨I1, e1, s1⟩ := r223s (d := d) (A := A) (b := b) (h := h) (X := X) (J := J) (R := R) (n := n) (k0 := k0) (c3 := c3) (k := k) hm (by omega) h8
    obtain ⟨I2, e2, s2⟩ := ih (k + 1) I1 (some (.int (nI 4))) ((s1.1 241 36 (by omega)).trans hm) (by omega)
    refine ⟨I2, e1.trans e2, ⟨fun c i hc => (s2.1 c i hc).trans (s1.1 c i hc), fun c j a1 a2 => ?_, fun j => ?_, fun c j a1 a2 => ?_, fun c j a1 a2 => ?_⟩⟩
    · rw [s2.2.1 c j a1 a2, s1.2.1 c j a1 a2, s1.2.1 c (j + 1) a1 a2]
      by_cases c1 : k + 1 ≤ j ∧ j < m
      · rw [if_pos c1, if_neg (by omega), if_pos (by omega)]
      · rw [if_neg c1]
        by_cases c2 : k ≤ j ∧ j < k + 1
        · rw [if_pos c2, if_pos (by omega)]
        · rw [if_neg c2, if_neg (by omega)]
    · rw [s2.2.2.1 j, s1.2.2.1 j, s1.2.2.1 (j + 6)]
      by_cases c1 : 6 * (k + 1) ≤ j ∧ j < 6 * m
      · rw [if_pos c1, if_neg (by omega), if_pos (by omega)]
      · rw [if_neg c1]
        by_cases c2 : 6 * k ≤ j ∧ j < 6 * (k + 1)
        · rw [if_pos c2, if_pos (by omega)]
        · rw [if_neg c2, if_neg (by omega)]
    · rw [s2.2.2.2.1 c j a1 a2, s1.2.2.2.1 c j a1 a2, s1.2.2.2.1 c (j + 8) a1 a2]
      by_cases c1 : 8 * (k + 1) ≤ j ∧ j < 8 * m
      · rw [if_pos c1, if_neg (by omega), if_pos (by omega)]
      · rw [if_neg c1]
        by_cases c2 : 8 * k ≤ j ∧ j < 8 * (k + 1)
        · rw [if_pos c2, if_pos (by omega)]
        · rw [if_neg c2, if_neg (by omega)]
    · rw [s2.2.2.2.2 c j a1 a2, s1.2.2.2.2 c j a1 a2, s1.2.2.2.2 c (j + 4) a1 a2]
      by_cases c1 : 4 * (k + 1) ≤ j ∧ j < 4 * m
      · rw [if_pos c1, if_neg (by omega), if_pos (by omega)]
      · rw [if_neg c1]
        by_cases c2 : 4 * k ≤ j ∧ j < 4 * (k + 1)
        · rw [if_pos c2, if_pos (by omega)]
        · rw [if_neg c2, if_neg (by omega)]
theorem iR_sh {I' : Nat → Nat → Int32} {k j m q : Nat} (hs : shR k m I I') (hj : j < m) (hq : (j < k ∧ q = j) ∨ (¬ j < k ∧ q = j + 1)) (hA : iR rN I q a) (ok : a.2.1.length ≤ 6 ∧ a.2.2.1.length ≤ 8 ∧ a.2.2.2.length ≤ 4) : iR rN I' j a := by
  obtain ⟨h1, h2, h3, h4, h5, h6⟩ := hA
  have sl : ∀ c, 260 ≤ c → c ≤ 265 ∨ c = 267 ∨ c = 272 → I' c j = I c q := by
    intro c a1 a2
    rw [hs.2.1 c j a1 a2]
    rcases hq with ⟨e, rfl⟩ | ⟨e, rfl⟩
    · rw [if_neg (by omega)]
    · rw [if_pos (by omega)]
  refine ⟨?_, ?_, ?_, ?_, ?_, ?_⟩
  · rw [h1, sl 260 (by omega) (by omega), sl 261 (by omega) (by omega), sl 262 (by omega) (by omega), sl 263 (by omega) (by omega), sl 264 (by omega) (by omega), sl 265 (by omega) (by omega)]
  · refine ⟨h2.1.trans (rl_congr fun i hi => ?_), fun i hi hi6 => ?_⟩
    rotate_left
    · rw [hs.2.2.1]
      rcases hq with ⟨e, rfl⟩ | ⟨e, rfl⟩
      · rw [if_neg (by omega)]
        exact h2.2 i hi hi6
      · rw [if_pos (by omega)]
        have := h2.2 i hi hi6
        rw [← this]
        congr 1
        omega
    rw [hs.2.2.1]
    rcases hq with ⟨e, rfl⟩ | ⟨e, rfl⟩
    · rw [if_neg (by omega)]
    · rw [if_pos (by omega)]
      congr 1
      omega
  · rw [sl 267 (by omega) (by omega)]; exact h3
  · refine h4.trans (rl_congr fun i hi => ?_)
    rw [hs.2.2.2.1 268 _ (by omega) (by omega), hs.2.2.2.1 269 _ (by omega) (by omega), hs.2.2.2.1 270 _ (by omega) (by omega), hs.2.2.2.1 271 _ (by omega) (by omega)]
    rcases hq with ⟨e, rfl⟩ | ⟨e, rfl⟩
    · rw [if_neg (by omega), if_neg (by omega), if_neg (by omega), if_neg (by omega)]
    · rw [if_pos (by omega), if_pos (by omega), if_pos (by omega), if_pos (by omega), show 8 * (j + 1) + i = 8 * j + i + 8 by omega]
  · rw [sl 272 (by omega) (by omega)]; exact h5
  · refine h6.trans (rl_congr fun i hi => ?_)
    rw [hs.2.2.2.2 273 _ (by omega) (by omega), hs.2.2.2.2 274 _ (by omega) (by omega)]
    rcases hq with ⟨e, rfl⟩ | ⟨e, rfl⟩
    · rw [if_neg (by omega), if_neg (by omega)]
    · rw [if_pos (by omega), if_pos (by omega), show 4 * (j + 1) + i = 4 * j + i + 4 by omega]
theorem rRemove (hW : wR rN I l W) (ok : okL W.1) (hk : k < W.1.length) : ∃ I', jcall A jcode (d + 2) 223 [.ref (b + 241), .int (nI k)] (jH h b X I J R n) = some (.inl none, jH h b X I' J R n) ∧ wR rN I' l (W.1.eraseIdx k, W.2) ∧ fR I I' := by
  have hl8 := hW.1.1
  have hm : I 241 36 = nI W.1.length := hW.1.2.1
  obtain ⟨I', e, s⟩ := r223l (d := d) (A := A) (b := b) (h := h) (X := X) (J := J) (R := R) (n := n) (k0 := nI k) (m := W.1.length - 1) (by omega) (W.1.length - 1 - k) k (u2 I 241 36 (nI (W.1.length - 1))) none u2_s (by omega)
  have hl : (W.1.eraseIdx k).length = W.1.length - 1 := by rw [List.length_eraseIdx, if_pos hk]
  have o1 : ∀ c i, c ≠ 241 → u2 I 241 36 (nI (W.1.length - 1)) c i = I c i := fun c i hc => u2_k hc
  refine ⟨I', ?_, ⟨⟨by rw [hl]; omega, ?_, fun j c hj => ?_⟩, tR_fr (fun c i h1 h2 => ?_) (fun i h1 h2 => ?_) hW.2⟩, ⟨fun c i hc => ?_, fun i hi => ?_, ?_⟩⟩
  · simp (disch := omega) [je223, r223_0, r223_1, r223_2, r223_5, r223_6, r223_7, r223_10, r223_11, r223_13, r223_14, r223_17, r223_20, r223_21, r223_24, r223_25, r223_26, r223_29, r223_30, r223_31, r223_32, r223_33, r223_34, r223_35, r223_38, r223_39, r223_40, r223_43, r223_44, r223_45, r223_46, r223_47, r223_48, r223_49, r223_52, r223_53, r223_54, r223_57, r223_58, r223_59, r223_60, r223_61, r223_62, r223_63, r223_66, r223_67, r223_68, r223_71, r223_72, r223_73, r223_74, r223_75, r223_76, r223_77, r223_80, r223_81, r223_82, r223_85, r223_86, r223_87, r223_88, r223_89, r223_90, r223_91, r223_94, r223_95, r223_96, r223_99, r223_100, r223_101, r223_102, r223_103, r223_104, r223_105, r223_108, r223_109, r223_110, r223_113, r223_114, r223_115, r223_116, r223_117, r223_118, r223_119, r223_122, r223_123, r223_124, r223_127, r223_128, r223_129, r223_130, r223_131, r223_132, r223_133, r223_135, r223_137, r223_140, r223_141, r223_144, r223_145, r223_147, r223_148, r223_149, r223_150, r223_151, r223_154, r223_155, r223_156, r223_157, r223_159, r223_160, r223_161, r223_162, r223_163, r223_164, r223_167, r223_170, r223_171, r223_173, r223_175, r223_178, r223_179, r223_180, r223_181, r223_182, r223_184, r223_185, r223_186, r223_187, r223_188, r223_190, r223_191, r223_192, r223_193, r223_196, r223_199, r223_202, r223_203, r223_205, r223_206, r223_209, r223_210, r223_213, r223_214, r223_215, r223_216, r223_217, r223_218, r223_219, r223_222, r223_223, r223_224, r223_225, r223_226, r223_227, r223_228, r223_229, r223_230, r223_231, r223_232, r223_235, r223_236, r223_237, r223_238, r223_239, r223_240, r223_241, r223_244, r223_245, r223_246, r223_247, r223_248, r223_249, r223_250, r223_251, r223_252, r223_253, r223_256, r223_259, r223_262, r223_265, g241, vf12_36, p241_36, ty12_36, vf12_42, t241_42, g260, p260, vf12_43, t241_43, g261, p261, vf12_44, t241_44, g262, p262, vf12_45, t241_45, g263, p263, vf12_46, t241_46, g264, p264, vf12_47, t241_47, g265, p265, vf12_49, t241_49, g267, p267, vf12_54, t241_54, g272, p272, vf12_48, t241_48, g266, p266, qa224, qo224, vf12_55, t241_55, g273, p273, vf12_56, t241_56, g274, p274, List.getElem?_cons_zero, List.getElem?_cons_succ, List.length_cons, List.length_nil, ag_nx, ag_dn, ag_no, ag_if, jbr1, jbr2, jc1, jc2, jnul, jld, jsto, jstoL, jst1, jst2, jkill, jinc, jbI, jbL, jbS, juI, jl2i, jcmp, jisR, jisI, jisL, jret, jretv, jfits, jdup, jdup2, jpop, jmm, jcat, Value.category, jinv, jrcv, jthr, jhd, jput, jget, jlen, jald, jast, jaast, jgI, jgL, jgB, jtab, jlku, jacp, vf20, vf21, vf22, vf23, vf24, u2_s, u2_k, u2_i, uc_s, uc_k, uc_c, u2_c, LI0, LI1, LI2, LI3, LI4, LI5, LI6, LI7, LI8, LI9, LI10, LI11, LI12, LI13, LI14, LI15, LI16, LI17, LI18, LI19, LI20, LI21, LI22, LI23, LI24, LI25, LI26, LI27, LI28, LI29, LI30, LI31, LI32, LI33, LI34, LI35, LI36, LI37, LI40, LI42, LI43, LI45, LI48, LI60, LI61, LI64, LI80, LI300, LI400, LI1000, LI2000, LI2001, LI2047, LI2048, LI100000, LI1000000, LM, nI_clamp, nI_pos', nI_lt, nI_nlt, nI_le, nI_ge, nI_ne, nI_add, nI_sub, mI_lt, mI_le, mI_nlt, mI_nle, mI_ne, mI_ne', mI_nem, hm, e]
  · rw [s.1 _ _ (by omega), u2_s, hl]
  · have hjl : j < (W.1.eraseIdx k).length := lt_of_some hj
    rw [hl] at hjl
    rw [List.getElem?_eraseIdx] at hj
    obtain ⟨q, hq, hj'⟩ : ∃ q, ((j < k ∧ q = j) ∨ (¬ j < k ∧ q = j + 1)) ∧ W.1[q]? = some c := by
      by_cases e : j < k
      · rw [if_pos e] at hj; exact ⟨j, Or.inl ⟨e, rfl⟩, hj⟩
      · rw [if_neg e] at hj; exact ⟨j + 1, Or.inr ⟨e, rfl⟩, hj⟩
    obtain ⟨q1, q2, q3, _⟩ := ok _ c hj'
    refine iR_sh s (by omega) hq ?_ ⟨q1, q2, q3⟩
    exact iR_fr (fun c h1 h2 => o1 c _ (by omega)) (fun j => Or.inl (o1 266 _ (by omega))) (fun c j h1 h2 => Or.inl (o1 c _ (by omega))) (fun c j h1 h2 => Or.inl (o1 c _ (by omega))) (hW.1.2.2 _ c hj')
  · rw [s.1 _ _ (by omega), o1 _ _ (by omega)]
  · rw [s.1 _ _ (by omega), u2_i (by omega)]
  · rw [s.1 _ _ (by omega), o1 _ _ (by omega)]
  · rw [s.1 _ _ (by omega), u2_i (by omega)]
  · rw [s.1 _ _ (by omega), u2_i (by omega)]
end RG
