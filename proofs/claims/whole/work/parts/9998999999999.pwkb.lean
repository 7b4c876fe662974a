/-! walk: states in a row, as the class packs them -/
theorem LI370 : (370 : Int32) = nI 370 := by decide
theorem LI370000 : (370000 : Int32) = nI 370000 := by decide
def sz (a : aI Nm) : Nat := 8 + a.2.1.length + 3 * a.2.2.1.length + 2 * a.2.2.2.length
def szL : List (aI Nm) → Nat
  | [] => 0
  | a :: as => sz a + szL as
/-- an instance in a row from f on -/
def pI (cN : Int32 → Nm) (D : Nat → Int32) (f : Nat) (now : Int32) (a : aI Nm) : Prop :=
  a.1 = (D f, D (f + 1), D (f + 2), D (f + 3), D (f + 4), D (f + 5)) ∧ a.2.1 = rl (fun i => D (f + 6 + i)) a.2.1.length ∧
  D (f + 6 + a.2.1.length) = nI a.2.2.1.length ∧ a.2.2.1.map eS = rl (fun i => (cN (D (f + 7 + a.2.1.length + 3 * i)), D (f + 7 + a.2.1.length + 3 * i + 1), D (f + 7 + a.2.1.length + 3 * i + 2), 0)) a.2.2.1.length ∧
  D (f + 7 + a.2.1.length + 3 * a.2.2.1.length) = nI a.2.2.2.length ∧ a.2.2.2 = rl (fun i => (cN (D (f + 8 + a.2.1.length + 3 * a.2.2.1.length + 2 * i)), D (f + 8 + a.2.1.length + 3 * a.2.2.1.length + 2 * i + 1) + now)) a.2.2.2.length
def pkL (cN : Int32 → Nm) (D : Nat → Int32) (now : Int32) : Nat → List (aI Nm) → Prop
  | _, [] => True
  | f, a :: as => pI cN D f now a ∧ pkL cN D now (f + sz a) as
def pW (cN : Int32 → Nm) (D : Nat → Int32) (f : Nat) (W : aW Nm) : Prop := D f = W.2.1.1 ∧ D (f + 1) = nI W.1.length ∧ pkL cN D W.2.1.2.1 (f + 2) W.1
theorem pI_fr {cN : Int32 → Nm} {D D' : Nat → Int32} {f f' : Nat} {now : Int32} {a : aI Nm} (h : pI cN D f now a) (hi : ∀ i, i < sz a → D' (f' + i) = D (f + i)) : pI cN D' f' now a := by
  obtain ⟨h1, h2, h3, h4, h5, h6⟩ := h
  unfold sz at hi
  refine ⟨?_, ?_, ?_, ?_, ?_, ?_⟩
  · rw [hi 1 (by omega), hi 2 (by omega), hi 3 (by omega), hi 4 (by omega), hi 5 (by omega)]
    have := hi 0 (by omega)
    rw [Nat.add_zero, Nat.add_zero] at this
    rw [this]
    exact h1
  · refine h2.trans (rl_congr fun i hl => ?_)
    rw [Nat.add_assoc, Nat.add_assoc, hi _ (by omega)]
  · rw [Nat.add_assoc] at h3 ⊢
    rw [hi _ (by omega)]
    exact h3
  · refine h4.trans (rl_congr fun i hl => ?_)
    have e1 := hi (7 + a.2.1.length + 3 * i) (by omega)
    have e2 := hi (7 + a.2.1.length + 3 * i + 1) (by omega)
    have e3 := hi (7 + a.2.1.length + 3 * i + 2) (by omega)
    simp only [← Nat.add_assoc] at e1 e2 e3 ⊢
    rw [e1, e2, e3]
  · have e1 := hi (7 + a.2.1.length + 3 * a.2.2.1.length) (by omega)
    simp only [← Nat.add_assoc] at e1
    rw [e1]
    exact h5
  · refine h6.trans (rl_congr fun i hl => ?_)
    have e1 := hi (8 + a.2.1.length + 3 * a.2.2.1.length + 2 * i) (by omega)
    have e2 := hi (8 + a.2.1.length + 3 * a.2.2.1.length + 2 * i + 1) (by omega)
    simp only [← Nat.add_assoc] at e1 e2
    rw [e1, e2]
theorem pkL_fr {cN : Int32 → Nm} {D D' : Nat → Int32} {now : Int32} : ∀ (L : List (aI Nm)) (f f' : Nat), pkL cN D now f L → (∀ i, i < szL L → D' (f' + i) = D (f + i)) → pkL cN D' now f' L := by
  intro L
  induction L with
  | nil => intro f f' _ _; trivial
  | cons a L ih =>
    intro f f' h hi
    have hs : szL (a :: L) = sz a + szL L := rfl
    refine ⟨pI_fr h.1 (fun i hl => hi i (by omega)), ih _ _ h.2 (fun i hl => ?_)⟩
    rw [Nat.add_assoc, Nat.add_assoc]
    exact hi _ (by omega)
theorem pW_fr {cN : Int32 → Nm} {D D' : Nat → Int32} {f f' : Nat} {W : aW Nm} (h : pW cN D f W) (hi : ∀ i, i < 2 + szL W.1 → D' (f' + i) = D (f + i)) : pW cN D' f' W := by
  obtain ⟨h1, h2, h3⟩ := h
  refine ⟨(hi 0 (by omega)).trans h1, (hi 1 (by omega)).trans h2, pkL_fr _ _ _ h3 (fun i hl => ?_)⟩
  rw [Nat.add_assoc, Nat.add_assoc]
  exact hi _ (by omega)
theorem pI_e {cN : Int32 → Nm} {D : Nat → Int32} {f : Nat} {now : Int32} {a a' : aI Nm} (he : eI a = eI a') (h : pI cN D f now a) : pI cN D f now a' := by
  have e1 : a.1 = a'.1 := (congrArg (fun z : aI Nm => z.1) he : (eI a).1 = (eI a').1)
  have e2 : a.2.1 = a'.2.1 := (congrArg (fun z : aI Nm => z.2.1) he : (eI a).2.1 = (eI a').2.1)
  have e3 : a.2.2.1.map eS = a'.2.2.1.map eS := (congrArg (fun z : aI Nm => z.2.2.1) he : (eI a).2.2.1 = (eI a').2.2.1)
  have e4 : a.2.2.2 = a'.2.2.2 := (congrArg (fun z : aI Nm => z.2.2.2) he : (eI a).2.2.2 = (eI a').2.2.2)
  have e5 : a.2.2.1.length = a'.2.2.1.length := by rw [← List.length_map (f := eS), e3, List.length_map]
  unfold pI at h ⊢
  rw [← e1, ← e2, ← e3, ← e4, ← e5]
  exact h
section PK
variable {A : Nat → Nat} {d b n : Nat} {h : Nat → Option jC} {X : jXX} {J : Nat → Nat → Int64} {R : Nat → Nat → Nat} {cN : Int32 → Nm} {p nv : Nat} {f0 now : Int32} {a : aI Nm}
theorem c24a (hi : isI p) (n6 : nv ≤ 6) : ∀ (r i g : Nat) (I : Nat → Nat → Int32), i + r = nv → g + 40 ≤ 370 → ∃ I', M24 A d 85 [some (.ref (b + p)), some (.ref (b + 213)), some (.int f0), some (.int now), some (.int (nI nv)), some (.int (nI (g + i))), some (.int (nI (i)))] [] (jH h b X I J R n) = M24 A d 119 [some (.ref (b + p)), some (.ref (b + 213)), some (.int f0), some (.int now), some (.int (nI nv)), some (.int (nI (g + nv))), some (.int (nI (nv)))] [] (jH h b X I' J R n) ∧ (∀ c j, c ≠ 213 → I' c j = I c j) ∧ ∀ j, I' 213 j = if g + i ≤ j ∧ j < g + nv then I (p + 1) (j - g) else I 213 j := by
  have hpe := isI_e hi
  intro r
  induction r with
  | zero =>
    intro i g I h1 h2
    have : i = nv := by omega
    subst this
    refine ⟨I, ?_, fun _ _ _ => rfl, fun j => by rw [if_neg (by omega)]⟩
    conv => lhs; rw [r24_85]
    simp (disch := omega) [r24_0, r24_1, r24_3, r24_5, r24_8, r24_10, r24_11, r24_12, r24_14, r24_15, r24_18, r24_20, r24_21, r24_22, r24_24, r24_25, r24_28, r24_29, r24_30, r24_32, r24_33, r24_34, r24_35, r24_38, r24_39, r24_40, r24_42, r24_43, r24_44, r24_45, r24_48, r24_49, r24_50, r24_52, r24_53, r24_54, r24_55, r24_58, r24_59, r24_60, r24_62, r24_63, r24_64, r24_65, r24_68, r24_69, r24_70, r24_72, r24_73, r24_74, r24_75, r24_78, r24_79, r24_82, r24_83, r24_87, r24_89, r24_92, r24_94, r24_96, r24_99, r24_100, r24_102, r24_105, r24_106, r24_109, r24_111, r24_112, r24_113, r24_116, r24_120, r24_122, r24_125, r24_126, r24_129, r24_130, r24_131, r24_133, r24_135, r24_136, r24_139, r24_142, r24_144, r24_146, r24_149, r24_150, r24_152, r24_153, r24_156, r24_158, r24_159, r24_160, r24_161, r24_163, r24_164, r24_165, r24_166, r24_169, r24_171, r24_172, r24_173, r24_174, r24_176, r24_177, r24_178, r24_179, r24_182, r24_184, r24_185, r24_186, r24_189, r24_192, r24_195, r24_196, r24_198, r24_201, r24_202, r24_205, r24_206, r24_207, r24_209, r24_211, r24_212, r24_215, r24_218, r24_220, r24_221, r24_224, r24_225, r24_227, r24_228, r24_231, r24_233, r24_234, r24_235, r24_236, r24_238, r24_239, r24_240, r24_241, r24_244, r24_246, r24_247, r24_248, r24_249, r24_250, r24_253, r24_256, r24_259, r24_261, gI0 hi, vf2_0, vf2_1, vf2_2, vf2_3, vf2_4, vf2_5, vf2_6, tI0_6 hi, gI1 hi, pI1 hi, vf2_7, vf2_8, tI0_8 hi, gI2 hi, pI2 hi, vf2_9, tI0_9 hi, gI3 hi, pI3 hi, vf2_10, tI0_10 hi, gI4 hi, pI4 hi, vf2_12, vf2_13, tI0_13 hi, gI6 hi, pI6 hi, vf2_14, tI0_14 hi, gI7 hi, pI7 hi, List.getElem?_cons_zero, List.getElem?_cons_succ, List.length_cons, List.length_nil, ag_nx, ag_dn, ag_no, ag_if, jbr1, jbr2, jc1, jc2, jnul, jld, jsto, jstoL, jst1, jst2, jkill, jinc, jbI, jbL, jbS, juI, jl2i, jcmp, jisR, jisI, jisL, jret, jretv, jfits, jdup, jdup2, jpop, jmm, jcat, Value.category, jinv, jrcv, jthr, jhd, jput, jget, jlen, jald, jast, jaast, jgI, jgL, jgB, jtab, jlku, jacp, vf20, vf21, vf22, vf23, vf24, u2_s, u2_k, u2_i, uc_s, uc_k, uc_c, u2_c, LI0, LI1, LI2, LI3, LI4, LI5, LI6, LI7, LI8, LI9, LI10, LI11, LI12, LI13, LI14, LI15, LI16, LI17, LI18, LI19, LI20, LI21, LI22, LI23, LI24, LI25, LI26, LI27, LI28, LI29, LI30, LI31, LI32, LI33, LI34, LI35, LI36, LI37, LI40, LI42, LI43, LI45, LI48, LI60, LI61, LI64, LI80, LI300, LI400, LI1000, LI2000, LI2001, LI2047, LI2048, LI100000, LI1000000, LM, nI_clamp, nI_pos', nI_lt, nI_nlt, nI_le, nI_ge, nI_ne, nI_add, nI_sub, mI_lt, mI_le, mI_nlt, mI_nle, mI_ne, mI_ne', mI_nem, LI46, LI370, LI370000, LI31, LI15]
  | succ r ih =>
    intro i g I h1 h2
    obtain ⟨I', e1, f1, f2⟩ := ih (i + 1) g (u2 I 213 (g + i) (I (p + 1) i)) (by omega) h2
    refine ⟨I', ?_, fun c j hc => (f1 c j hc).trans (u2_k hc), fun j => ?_⟩
    · rw [← Nat.add_assoc] at e1
      conv => lhs; rw [r24_85]
      simp (disch := omega) [r24_0, r24_1, r24_3, r24_5, r24_8, r24_10, r24_11, r24_12, r24_14, r24_15, r24_18, r24_20, r24_21, r24_22, r24_24, r24_25, r24_28, r24_29, r24_30, r24_32, r24_33, r24_34, r24_35, r24_38, r24_39, r24_40, r24_42, r24_43, r24_44, r24_45, r24_48, r24_49, r24_50, r24_52, r24_53, r24_54, r24_55, r24_58, r24_59, r24_60, r24_62, r24_63, r24_64, r24_65, r24_68, r24_69, r24_70, r24_72, r24_73, r24_74, r24_75, r24_78, r24_79, r24_82, r24_83, r24_87, r24_89, r24_92, r24_94, r24_96, r24_99, r24_100, r24_102, r24_105, r24_106, r24_109, r24_111, r24_112, r24_113, r24_116, r24_120, r24_122, r24_125, r24_126, r24_129, r24_130, r24_131, r24_133, r24_135, r24_136, r24_139, r24_142, r24_144, r24_146, r24_149, r24_150, r24_152, r24_153, r24_156, r24_158, r24_159, r24_160, r24_161, r24_163, r24_164, r24_165, r24_166, r24_169, r24_171, r24_172, r24_173, r24_174, r24_176, r24_177, r24_178, r24_179, r24_182, r24_184, r24_185, r24_186, r24_189, r24_192, r24_195, r24_196, r24_198, r24_201, r24_202, r24_205, r24_206, r24_207, r24_209, r24_211, r24_212, r24_215, r24_218, r24_220, r24_221, r24_224, r24_225, r24_227, r24_228, r24_231, r24_233, r24_234, r24_235, r24_236, r24_238, r24_239, r24_240, r24_241, r24_244, r24_246, r24_247, r24_248, r24_249, r24_250, r24_253, r24_256, r24_259, r24_261, gI0 hi, vf2_0, vf2_1, vf2_2, vf2_3, vf2_4, vf2_5, vf2_6, tI0_6 hi, gI1 hi, pI1 hi, vf2_7, vf2_8, tI0_8 hi, gI2 hi, pI2 hi, vf2_9, tI0_9 hi, gI3 hi, pI3 hi, vf2_10, tI0_10 hi, gI4 hi, pI4 hi, vf2_12, vf2_13, tI0_13 hi, gI6 hi, pI6 hi, vf2_14, tI0_14 hi, gI7 hi, pI7 hi, List.getElem?_cons_zero, List.getElem?_cons_succ, List.length_cons, List.length_nil, ag_nx, ag_dn, ag_no, ag_if, jbr1, jbr2, jc1, jc2, jnul, jld, jsto, jstoL, jst1, jst2, jkill, jinc, jbI, jbL, jbS, juI, jl2i, jcmp, jisR, jisI, jisL, jret, jretv, jfits, jdup, jdup2, jpop, jmm, jcat, Value.category, jinv, jrcv, jthr, jhd, jput, jget, jlen, jald, jast, jaast, jgI, jgL, jgB, jtab, jlku, jacp, vf20, vf21, vf22, vf23, vf24, u2_s, u2_k, u2_i, uc_s, uc_k, uc_c, u2_c, LI0, LI1, LI2, LI3, LI4, LI5, LI6, LI7, LI8, LI9, LI10, LI11, LI12, LI13, LI14, LI15, LI16, LI17, LI18, LI19, LI20, LI21, LI22, LI23, LI24, LI25, LI26, LI27, LI28, LI29, LI30, LI31, LI32, LI33, LI34, LI35, LI36, LI37, LI40, LI42, LI43, LI45, LI48, LI60, LI61, LI64, LI80, LI300, LI400, LI1000, LI2000, LI2001, LI2047, LI2048, LI100000, LI1000000, LM, nI_clamp, nI_pos', nI_lt, nI_nlt, nI_le, nI_ge, nI_ne, nI_add, nI_sub, mI_lt, mI_le, mI_nlt, mI_nle, mI_ne, mI_ne', mI_nem, LI46, LI370, LI370000, LI31, LI15, g213, p213, show i < nv by omega, show i < 6 by omega, show g + i < 370 by omega, e1]
    · rw [f2]
      by_cases c1 : j = g + i
      · subst c1
        rw [if_neg (by omega), u2_s, if_pos (by omega)]
        congr 1
        omega
      · by_cases c2 : g + (i + 1) ≤ j ∧ j < g + nv
        · rw [if_pos c2, if_pos (by omega), u2_k (by omega)]
        · rw [if_neg c2, if_neg (by omega), u2_i c1]
theorem c24b {Q : Nat} (hi : isI p) (Q8 : Q ≤ 8) : ∀ (r i g : Nat) (I : Nat → Nat → Int32), I p 7 = nI Q → i + r = Q → g + 26 ≤ 370 → ∃ I', M24 A d 133 [some (.ref (b + p)), some (.ref (b + 213)), some (.int f0), some (.int now), some (.int (nI nv)), some (.int (nI (g + 3 * i))), some (.int (nI (i)))] [] (jH h b X I J R n) = M24 A d 195 [some (.ref (b + p)), some (.ref (b + 213)), some (.int f0), some (.int now), some (.int (nI nv)), some (.int (nI (g + 3 * Q))), some (.int (nI (Q)))] [] (jH h b X I' J R n) ∧ (∀ c j, c ≠ 213 → I' c j = I c j) ∧ (∀ j, j < g + 3 * i ∨ g + 3 * Q ≤ j → I' 213 j = I 213 j) ∧ ∀ m, i ≤ m → m < Q → I' 213 (g + 3 * m) = I (p + 2) m ∧ I' 213 (g + 3 * m + 1) = I (p + 3) m ∧ I' 213 (g + 3 * m + 2) = I (p + 4) m := by
  have hpe := isI_e hi
  intro r
  induction r with
  | zero =>
    intro i g I h7 h1 h2
    have : i = Q := by omega
    subst this
    refine ⟨I, ?_, fun _ _ _ => rfl, fun _ _ => rfl, fun m m1 m2 => by omega⟩
    conv => lhs; rw [r24_133]
    simp (disch := omega) [r24_0, r24_1, r24_3, r24_5, r24_8, r24_10, r24_11, r24_12, r24_14, r24_15, r24_18, r24_20, r24_21, r24_22, r24_24, r24_25, r24_28, r24_29, r24_30, r24_32, r24_33, r24_34, r24_35, r24_38, r24_39, r24_40, r24_42, r24_43, r24_44, r24_45, r24_48, r24_49, r24_50, r24_52, r24_53, r24_54, r24_55, r24_58, r24_59, r24_60, r24_62, r24_63, r24_64, r24_65, r24_68, r24_69, r24_70, r24_72, r24_73, r24_74, r24_75, r24_78, r24_79, r24_82, r24_83, r24_85, r24_87, r24_89, r24_92, r24_94, r24_96, r24_99, r24_100, r24_102, r24_105, r24_106, r24_109, r24_111, r24_112, r24_113, r24_116, r24_119, r24_120, r24_122, r24_125, r24_126, r24_129, r24_130, r24_131, r24_135, r24_136, r24_139, r24_142, r24_144, r24_146, r24_149, r24_150, r24_152, r24_153, r24_156, r24_158, r24_159, r24_160, r24_161, r24_163, r24_164, r24_165, r24_166, r24_169, r24_171, r24_172, r24_173, r24_174, r24_176, r24_177, r24_178, r24_179, r24_182, r24_184, r24_185, r24_186, r24_189, r24_192, r24_196, r24_198, r24_201, r24_202, r24_205, r24_206, r24_207, r24_209, r24_211, r24_212, r24_215, r24_218, r24_220, r24_221, r24_224, r24_225, r24_227, r24_228, r24_231, r24_233, r24_234, r24_235, r24_236, r24_238, r24_239, r24_240, r24_241, r24_244, r24_246, r24_247, r24_248, r24_249, r24_250, r24_253, r24_256, r24_259, r24_261, gI0 hi, vf2_0, vf2_1, vf2_2, vf2_3, vf2_4, vf2_5, vf2_6, tI0_6 hi, gI1 hi, pI1 hi, vf2_7, vf2_8, tI0_8 hi, gI2 hi, pI2 hi, vf2_9, tI0_9 hi, gI3 hi, pI3 hi, vf2_10, tI0_10 hi, gI4 hi, pI4 hi, vf2_12, vf2_13, tI0_13 hi, gI6 hi, pI6 hi, vf2_14, tI0_14 hi, gI7 hi, pI7 hi, List.getElem?_cons_zero, List.getElem?_cons_succ, List.length_cons, List.length_nil, ag_nx, ag_dn, ag_no, ag_if, jbr1, jbr2, jc1, jc2, jnul, jld, jsto, jstoL, jst1, jst2, jkill, jinc, jbI, jbL, jbS, juI, jl2i, jcmp, jisR, jisI, jisL, jret, jretv, jfits, jdup, jdup2, jpop, jmm, jcat, Value.category, jinv, jrcv, jthr, jhd, jput, jget, jlen, jald, jast, jaast, jgI, jgL, jgB, jtab, jlku, jacp, vf20, vf21, vf22, vf23, vf24, u2_s, u2_k, u2_i, uc_s, uc_k, uc_c, u2_c, LI0, LI1, LI2, LI3, LI4, LI5, LI6, LI7, LI8, LI9, LI10, LI11, LI12, LI13, LI14, LI15, LI16, LI17, LI18, LI19, LI20, LI21, LI22, LI23, LI24, LI25, LI26, LI27, LI28, LI29, LI30, LI31, LI32, LI33, LI34, LI35, LI36, LI37, LI40, LI42, LI43, LI45, LI48, LI60, LI61, LI64, LI80, LI300, LI400, LI1000, LI2000, LI2001, LI2047, LI2048, LI100000, LI1000000, LM, nI_clamp, nI_pos', nI_lt, nI_nlt, nI_le, nI_ge, nI_ne, nI_add, nI_sub, mI_lt, mI_le, mI_nlt, mI_nle, mI_ne, mI_ne', mI_nem, LI46, LI370, LI370000, LI31, LI15, h7]
  | succ r ih =>
    intro i g I h7 h1 h2
    obtain ⟨I', e1, f1, f2, f3⟩ := ih (i + 1) g (u2 (u2 (u2 I 213 (g + 3 * i) (I (p + 2) i)) 213 (g + 3 * i + 1) (I (p + 3) i)) 213 (g + 3 * i + 2) (I (p + 4) i)) (by rw [u2_k (by omega), u2_k (by omega), u2_k (by omega)]; exact h7) (by omega) h2
    refine ⟨I', ?_, fun c j hc => (f1 c j hc).trans (by rw [u2_k hc, u2_k hc, u2_k hc]), fun j hj => ?_, fun m m1 m2 => ?_⟩
    · rw [show g + 3 * (i + 1) = g + 3 * i + 3 by omega] at e1
      conv => lhs; rw [r24_133]
      simp (disch := omega) [r24_0, r24_1, r24_3, r24_5, r24_8, r24_10, r24_11, r24_12, r24_14, r24_15, r24_18, r24_20, r24_21, r24_22, r24_24, r24_25, r24_28, r24_29, r24_30, r24_32, r24_33, r24_34, r24_35, r24_38, r24_39, r24_40, r24_42, r24_43, r24_44, r24_45, r24_48, r24_49, r24_50, r24_52, r24_53, r24_54, r24_55, r24_58, r24_59, r24_60, r24_62, r24_63, r24_64, r24_65, r24_68, r24_69, r24_70, r24_72, r24_73, r24_74, r24_75, r24_78, r24_79, r24_82, r24_83, r24_85, r24_87, r24_89, r24_92, r24_94, r24_96, r24_99, r24_100, r24_102, r24_105, r24_106, r24_109, r24_111, r24_112, r24_113, r24_116, r24_119, r24_120, r24_122, r24_125, r24_126, r24_129, r24_130, r24_131, r24_135, r24_136, r24_139, r24_142, r24_144, r24_146, r24_149, r24_150, r24_152, r24_153, r24_156, r24_158, r24_159, r24_160, r24_161, r24_163, r24_164, r24_165, r24_166, r24_169, r24_171, r24_172, r24_173, r24_174, r24_176, r24_177, r24_178, r24_179, r24_182, r24_184, r24_185, r24_186, r24_189, r24_192, r24_196, r24_198, r24_201, r24_202, r24_205, r24_206, r24_207, r24_209, r24_211, r24_212, r24_215, r24_218, r24_220, r24_221, r24_224, r24_225, r24_227, r24_228, r24_231, r24_233, r24_234, r24_235, r24_236, r24_238, r24_239, r24_240, r24_241, r24_244, r24_246, r24_247, r24_248, r24_249, r24_250, r24_253, r24_256, r24_259, r24_261, gI0 hi, vf2_0, vf2_1, vf2_2, vf2_3, vf2_4, vf2_5, vf2_6, tI0_6 hi, gI1 hi, pI1 hi, vf2_7, vf2_8, tI0_8 hi, gI2 hi, pI2 hi, vf2_9, tI0_9 hi, gI3 hi, pI3 hi, vf2_10, tI0_10 hi, gI4 hi, pI4 hi, vf2_12, vf2_13, tI0_13 hi, gI6 hi, pI6 hi, vf2_14, tI0_14 hi, gI7 hi, pI7 hi, List.getElem?_cons_zero, List.getElem?_cons_succ, List.length_cons, List.length_nil, ag_nx, ag_dn, ag_no, ag_if, jbr1, jbr2, jc1, jc2, jnul, jld, jsto, jstoL, jst1, jst2, jkill, jinc, jbI, jbL, jbS, juI, jl2i, jcmp, jisR, jisI, jisL, jret, jretv, jfits, jdup, jdup2, jpop, jmm, jcat, Value.category, jinv, jrcv, jthr, jhd, jput, jget, jlen, jald, jast, jaast, jgI, jgL, jgB, jtab, jlku, jacp, vf20, vf21, vf22, vf23, vf24, u2_s, u2_k, u2_i, uc_s, uc_k, uc_c, u2_c, LI0, LI1, LI2, LI3, LI4, LI5, LI6, LI7, LI8, LI9, LI10, LI11, LI12, LI13, LI14, LI15, LI16, LI17, LI18, LI19, LI20, LI21, LI22, LI23, LI24, LI25, LI26, LI27, LI28, LI29, LI30, LI31, LI32, LI33, LI34, LI35, LI36, LI37, LI40, LI42, LI43, LI45, LI48, LI60, LI61, LI64, LI80, LI300, LI400, LI1000, LI2000, LI2001, LI2047, LI2048, LI100000, LI1000000, LM, nI_clamp, nI_pos', nI_lt, nI_nlt, nI_le, nI_ge, nI_ne, nI_add, nI_sub, mI_lt, mI_le, mI_nlt, mI_nle, mI_ne, mI_ne', mI_nem, LI46, LI370, LI370000, LI31, LI15, g213, p213, h7, show i < Q by omega, show i < 8 by omega, show g + 3 * i < 370 by omega, show g + 3 * i + 1 < 370 by omega, show g + 3 * i + 2 < 370 by omega, e1]
    · rw [f2 j (by omega), u2_i (by omega), u2_i (by omega), u2_i (by omega)]
    · by_cases e : m = i
      · subst e
        rw [f2 _ (by omega), f2 _ (by omega), f2 _ (by omega)]
        simp (disch := omega) [u2_s, u2_i]
      · obtain ⟨a1, a2, a3⟩ := f3 m (by omega) m2
        rw [a1, a2, a3]
        simp (disch := omega) [u2_k]
theorem c24c {Q : Nat} (hi : isI p) (Q4 : Q ≤ 4) : ∀ (r i g : Nat) (I : Nat → Nat → Int32), I p 12 = nI Q → i + r = Q → g + 8 ≤ 370 → ∃ I', M24 A d 209 [some (.ref (b + p)), some (.ref (b + 213)), some (.int f0), some (.int now), some (.int (nI nv)), some (.int (nI (g + 2 * i))), some (.int (nI (i)))] [] (jH h b X I J R n) = some (.inl (some (.int (nI (g + 2 * Q)))), jH h b X I' J R n) ∧ (∀ c j, c ≠ 213 → I' c j = I c j) ∧ (∀ j, j < g + 2 * i ∨ g + 2 * Q ≤ j → I' 213 j = I 213 j) ∧ ∀ m, i ≤ m → m < Q → I' 213 (g + 2 * m) = I (p + 6) m ∧ I' 213 (g + 2 * m + 1) = I (p + 7) m - now := by
  have hpe := isI_e hi
  intro r
  induction r with
  | zero =>
    intro i g I h7 h1 h2
    have : i = Q := by omega
    subst this
    refine ⟨I, ?_, fun _ _ _ => rfl, fun _ _ => rfl, fun m m1 m2 => by omega⟩
    conv => lhs; rw [r24_209]
    simp (disch := omega) [r24_0, r24_1, r24_3, r24_5, r24_8, r24_10, r24_11, r24_12, r24_14, r24_15, r24_18, r24_20, r24_21, r24_22, r24_24, r24_25, r24_28, r24_29, r24_30, r24_32, r24_33, r24_34, r24_35, r24_38, r24_39, r24_40, r24_42, r24_43, r24_44, r24_45, r24_48, r24_49, r24_50, r24_52, r24_53, r24_54, r24_55, r24_58, r24_59, r24_60, r24_62, r24_63, r24_64, r24_65, r24_68, r24_69, r24_70, r24_72, r24_73, r24_74, r24_75, r24_78, r24_79, r24_82, r24_83, r24_85, r24_87, r24_89, r24_92, r24_94, r24_96, r24_99, r24_100, r24_102, r24_105, r24_106, r24_109, r24_111, r24_112, r24_113, r24_116, r24_119, r24_120, r24_122, r24_125, r24_126, r24_129, r24_130, r24_131, r24_133, r24_135, r24_136, r24_139, r24_142, r24_144, r24_146, r24_149, r24_150, r24_152, r24_153, r24_156, r24_158, r24_159, r24_160, r24_161, r24_163, r24_164, r24_165, r24_166, r24_169, r24_171, r24_172, r24_173, r24_174, r24_176, r24_177, r24_178, r24_179, r24_182, r24_184, r24_185, r24_186, r24_189, r24_192, r24_195, r24_196, r24_198, r24_201, r24_202, r24_205, r24_206, r24_207, r24_211, r24_212, r24_215, r24_218, r24_220, r24_221, r24_224, r24_225, r24_227, r24_228, r24_231, r24_233, r24_234, r24_235, r24_236, r24_238, r24_239, r24_240, r24_241, r24_244, r24_246, r24_247, r24_248, r24_249, r24_250, r24_253, r24_256, r24_259, r24_261, gI0 hi, vf2_0, vf2_1, vf2_2, vf2_3, vf2_4, vf2_5, vf2_6, tI0_6 hi, gI1 hi, pI1 hi, vf2_7, vf2_8, tI0_8 hi, gI2 hi, pI2 hi, vf2_9, tI0_9 hi, gI3 hi, pI3 hi, vf2_10, tI0_10 hi, gI4 hi, pI4 hi, vf2_12, vf2_13, tI0_13 hi, gI6 hi, pI6 hi, vf2_14, tI0_14 hi, gI7 hi, pI7 hi, List.getElem?_cons_zero, List.getElem?_cons_succ, List.length_cons, List.length_nil, ag_nx, ag_dn, ag_no, ag_if, jbr1, jbr2, jc1, jc2, jnul, jld, jsto, jstoL, jst1, jst2, jkill, jinc, jbI, jbL, jbS, juI, jl2i, jcmp, jisR, jisI, jisL, jret, jretv, jfits, jdup, jdup2, jpop, jmm, jcat, Value.category, jinv, jrcv, jthr, jhd, jput, jget, jlen, jald, jast, jaast, jgI, jgL, jgB, jtab, jlku, jacp, vf20, vf21, vf22, vf23, vf24, u2_s, u2_k, u2_i, uc_s, uc_k, uc_c, u2_c, LI0, LI1, LI2, LI3, LI4, LI5, LI6, LI7, LI8, LI9, LI10, LI11, LI12, LI13, LI14, LI15, LI16, LI17, LI18, LI19, LI20, LI21, LI22, LI23, LI24, LI25, LI26, LI27, LI28, LI29, LI30, LI31, LI32, LI33, LI34, LI35, LI36, LI37, LI40, LI42, LI43, LI45, LI48, LI60, LI61, LI64, LI80, LI300, LI400, LI1000, LI2000, LI2001, LI2047, LI2048, LI100000, LI1000000, LM, nI_clamp, nI_pos', nI_lt, nI_nlt, nI_le, nI_ge, nI_ne, nI_add, nI_sub, mI_lt, mI_le, mI_nlt, mI_nle, mI_ne, mI_ne', mI_nem, LI46, LI370, LI370000, LI31, LI15, h7]
  | succ r ih =>
    intro i g I h7 h1 h2
    obtain ⟨I', e1, f1, f2, f3⟩ := ih (i + 1) g (u2 (u2 I 213 (g + 2 * i) (I (p + 6) i)) 213 (g + 2 * i + 1) (I (p + 7) i - now)) (by rw [u2_k (by omega), u2_k (by omega)]; exact h7) (by omega) h2
    refine ⟨I', ?_, fun c j hc => (f1 c j hc).trans (by rw [u2_k hc, u2_k hc]), fun j hj => ?_, fun m m1 m2 => ?_⟩
    · rw [show g + 2 * (i + 1) = g + 2 * i + 2 by omega] at e1
      conv => lhs; rw [r24_209]
      simp (disch := omega) [r24_0, r24_1, r24_3, r24_5, r24_8, r24_10, r24_11, r24_12, r24_14, r24_15, r24_18, r24_20, r24_21, r24_22, r24_24, r24_25, r24_28, r24_29, r24_30, r24_32, r24_33, r24_34, r24_35, r24_38, r24_39, r24_40, r24_42, r24_43, r24_44, r24_45, r24_48, r24_49, r24_50, r24_52, r24_53, r24_54, r24_55, r24_58, r24_59, r24_60, r24_62, r24_63, r24_64, r24_65, r24_68, r24_69, r24_70, r24_72, r24_73, r24_74, r24_75, r24_78, r24_79, r24_82, r24_83, r24_85, r24_87, r24_89, r24_92, r24_94, r24_96, r24_99, r24_100, r24_102, r24_105, r24_106, r24_109, r24_111, r24_112, r24_113, r24_116, r24_119, r24_120, r24_122, r24_125, r24_126, r24_129, r24_130, r24_131, r24_133, r24_135, r24_136, r24_139, r24_142, r24_144, r24_146, r24_149, r24_150, r24_152, r24_153, r24_156, r24_158, r24_159, r24_160, r24_161, r24_163, r24_164, r24_165, r24_166, r24_169, r24_171, r24_172, r24_173, r24_174, r24_176, r24_177, r24_178, r24_179, r24_182, r24_184, r24_185, r24_186, r24_189, r24_192, r24_195, r24_196, r24_198, r24_201, r24_202, r24_205, r24_206, r24_207, r24_211, r24_212, r24_215, r24_218, r24_220, r24_221, r24_224, r24_225, r24_227, r24_228, r24_231, r24_233, r24_234, r24_235, r24_236, r24_238, r24_239, r24_240, r24_241, r24_244, r24_246, r24_247, r24_248, r24_249, r24_250, r24_253, r24_256, r24_259, r24_261, gI0 hi, vf2_0, vf2_1, vf2_2, vf2_3, vf2_4, vf2_5, vf2_6, tI0_6 hi, gI1 hi, pI1 hi, vf2_7, vf2_8, tI0_8 hi, gI2 hi, pI2 hi, vf2_9, tI0_9 hi, gI3 hi, pI3 hi, vf2_10, tI0_10 hi, gI4 hi, pI4 hi, vf2_12, vf2_13, tI0_13 hi, gI6 hi, pI6 hi, vf2_14, tI0_14 hi, gI7 hi, pI7 hi, List.getElem?_cons_zero, List.getElem?_cons_succ, List.length_cons, List.length_nil, ag_nx, ag_dn, ag_no, ag_if, jbr1, jbr2, jc1, jc2, jnul, jld, jsto, jstoL, jst1, jst2, jkill, jinc, jbI, jbL, jbS, juI, jl2i, jcmp, jisR, jisI, jisL, jret, jretv, jfits, jdup, jdup2, jpop, jmm, jcat, Value.category, jinv, jrcv, jthr, jhd, jput, jget, jlen, jald, jast, jaast, jgI, jgL, jgB, jtab, jlku, jacp, vf20, vf21, vf22, vf23, vf24, u2_s, u2_k, u2_i, uc_s, uc_k, uc_c, u2_c, LI0, LI1, LI2, LI3, LI4, LI5, LI6, LI7, LI8, LI9, LI10, LI11, LI12, LI13, LI14, LI15, LI16, LI17, LI18, LI19, LI20, LI21, LI22, LI23, LI24, LI25, LI26, LI27, LI28, LI29, LI30, LI31, LI32, LI33, LI34, LI35, LI36, LI37, LI40, LI42, LI43, LI45, LI48, LI60, LI61, LI64, LI80, LI300, LI400, LI1000, LI2000, LI2001, LI2047, LI2048, LI100000, LI1000000, LM, nI_clamp, nI_pos', nI_lt, nI_nlt, nI_le, nI_ge, nI_ne, nI_add, nI_sub, mI_lt, mI_le, mI_nlt, mI_nle, mI_ne, mI_ne', mI_nem, LI46, LI370, LI370000, LI31, LI15, g213, p213, h7, show i < Q by omega, show i < 4 by omega, show g + 2 * i < 370 by omega, show g + 2 * i + 1 < 370 by omega, e1]
    · rw [f2 j (by omega), u2_i (by omega), u2_i (by omega)]
    · by_cases e : m = i
      · subst e
        rw [f2 _ (by omega), f2 _ (by omega)]
        simp (disch := omega) [u2_s, u2_i]
      · obtain ⟨a1, a2⟩ := f3 m (by omega) m2
        rw [a1, a2]
        simp (disch := omega) [u2_k]
theorem c24 {I : Nat → Nat → Int32} {f : Nat} (hi : isI p) (hA : iC cN I p a) (hv : a.2.1.length ≤ 6) (hQ : a.2.2.1.length ≤ 8) (hT : a.2.2.2.length ≤ 4) (hf : f + 46 ≤ 370) : ∃ I', jcall A jcode (d + 1) 24 [.ref (b + p), .ref (b + 213), .int (nI f), .int now, .int (nI a.2.1.length)] (jH h b X I J R n) = some (.inl (some (.int (nI (f + sz a)))), jH h b X I' J R n) ∧ (∀ c j, c ≠ 213 → I' c j = I c j) ∧ (∀ j, j < f ∨ f + sz a ≤ j → I' 213 j = I 213 j) ∧ pI cN (I' 213) f now a := by
  have hpe := isI_e hi
  obtain ⟨h1, h2, h3, h4, h5, h6⟩ := hA
  obtain ⟨I0, hI0⟩ : ∃ I0, I0 = u2 (u2 (u2 (u2 (u2 (u2 I 213 f (I p 0)) 213 (f + 1) (I p 1)) 213 (f + 2) (I p 2)) 213 (f + 3) (I p 3)) 213 (f + 4) (I p 4)) 213 (f + 5) (I p 5) := ⟨_, rfl⟩
  have k0 : ∀ c j, c ≠ 213 → I0 c j = I c j := fun c j hc => by rw [hI0]; simp (disch := omega) [u2_k]
  have q0 : ∀ j, j < f ∨ f + 6 ≤ j → I0 213 j = I 213 j := fun j hj => by rw [hI0]; simp (disch := omega) [u2_i]
  obtain ⟨I1, e1, k1, q1⟩ := c24a (d := d) (A := A) (b := b) (h := h) (X := X) (J := J) (R := R) (n := n) (f0 := nI f) (now := now) hi hv a.2.1.length 0 (f + 6) I0 (by omega) (by omega)
  obtain ⟨I2, hI2⟩ : ∃ I2, I2 = u2 I1 213 (f + 6 + a.2.1.length) (nI a.2.2.1.length) := ⟨_, rfl⟩
  have k2 : ∀ c j, c ≠ 213 → I2 c j = I c j := fun c j hc => by rw [hI2, u2_k hc, k1 c j hc, k0 c j hc]
  obtain ⟨I3, e3, k3, q3, r3⟩ := c24b (d := d) (A := A) (b := b) (h := h) (X := X) (J := J) (R := R) (n := n) (f0 := nI f) (now := now) (nv := a.2.1.length) hi hQ a.2.2.1.length 0 (f + 7 + a.2.1.length) I2 (by rw [k2 _ _ (by omega)]; exact h3) (by omega) (by omega)
  obtain ⟨I4, hI4⟩ : ∃ I4, I4 = u2 I3 213 (f + 7 + a.2.1.length + 3 * a.2.2.1.length) (nI a.2.2.2.length) := ⟨_, rfl⟩
  have k4 : ∀ c j, c ≠ 213 → I4 c j = I c j := fun c j hc => by rw [hI4, u2_k hc, k3 c j hc, k2 c j hc]
  obtain ⟨I5, e5, k5, q5, r5⟩ := c24c (d := d) (A := A) (b := b) (h := h) (X := X) (J := J) (R := R) (n := n) (f0 := nI f) (now := now) (nv := a.2.1.length) hi hT a.2.2.2.length 0 (f + 8 + a.2.1.length + 3 * a.2.2.1.length) I4 (by rw [k4 _ _ (by omega)]; exact h5) (by omega) (by omega)
  have hs : f + sz a = f + 8 + a.2.1.length + 3 * a.2.2.1.length + 2 * a.2.2.2.length := by unfold sz; omega
  have z4 : ∀ j, j < f + 7 + a.2.1.length + 3 * a.2.2.1.length → I5 213 j = I3 213 j := fun j hj => by rw [q5 j (by omega), hI4, u2_i (by omega)]
  have z2 : ∀ j, j < f + 6 + a.2.1.length → I5 213 j = I1 213 j := fun j hj => by rw [z4 j (by omega), q3 j (by omega), hI2, u2_i (by omega)]
  refine ⟨I5, ?_, fun c j hc => (k5 c j hc).trans (k4 c j hc), fun j hj => ?_, ?_, ?_, ?_, ?_, ?_, ?_⟩
  · have b7 : I1 p 7 = nI a.2.2.1.length := by rw [k1 _ _ (by omega), k0 _ _ (by omega)]; exact h3
    have b12 : I3 p 12 = nI a.2.2.2.length := by rw [k3 _ _ (by omega), k2 _ _ (by omega)]; exact h5
    rw [hI0] at e1
    rw [hI2] at e3
    rw [hI4] at e5
    rw [Nat.add_zero] at e1
    rw [Nat.mul_zero, Nat.add_zero] at e3 e5
    rw [show f + 7 + a.2.1.length = f + 6 + a.2.1.length + 1 by omega] at e3 e5
    rw [show f + 8 + a.2.1.length + 3 * a.2.2.1.length = f + 6 + a.2.1.length + 1 + 3 * a.2.2.1.length + 1 by omega] at e5
    rw [hs, show f + 8 + a.2.1.length + 3 * a.2.2.1.length + 2 * a.2.2.2.length = f + 6 + a.2.1.length + 1 + 3 * a.2.2.1.length + 1 + 2 * a.2.2.2.length by omega]
    simp (disch := omega) [je24, r24_0, r24_1, r24_3, r24_5, r24_8, r24_10, r24_11, r24_12, r24_14, r24_15, r24_18, r24_20, r24_21, r24_22, r24_24, r24_25, r24_28, r24_29, r24_30, r24_32, r24_33, r24_34, r24_35, r24_38, r24_39, r24_40, r24_42, r24_43, r24_44, r24_45, r24_48, r24_49, r24_50, r24_52, r24_53, r24_54, r24_55, r24_58, r24_59, r24_60, r24_62, r24_63, r24_64, r24_65, r24_68, r24_69, r24_70, r24_72, r24_73, r24_74, r24_75, r24_78, r24_79, r24_82, r24_83, r24_87, r24_89, r24_92, r24_94, r24_96, r24_99, r24_100, r24_102, r24_105, r24_106, r24_109, r24_111, r24_112, r24_113, r24_116, r24_119, r24_120, r24_122, r24_125, r24_126, r24_129, r24_130, r24_131, r24_135, r24_136, r24_139, r24_142, r24_144, r24_146, r24_149, r24_150, r24_152, r24_153, r24_156, r24_158, r24_159, r24_160, r24_161, r24_163, r24_164, r24_165, r24_166, r24_169, r24_171, r24_172, r24_173, r24_174, r24_176, r24_177, r24_178, r24_179, r24_182, r24_184, r24_185, r24_186, r24_189, r24_192, r24_195, r24_196, r24_198, r24_201, r24_202, r24_205, r24_206, r24_207, r24_211, r24_212, r24_215, r24_218, r24_220, r24_221, r24_224, r24_225, r24_227, r24_228, r24_231, r24_233, r24_234, r24_235, r24_236, r24_238, r24_239, r24_240, r24_241, r24_244, r24_246, r24_247, r24_248, r24_249, r24_250, r24_253, r24_256, r24_259, r24_261, gI0 hi, vf2_0, vf2_1, vf2_2, vf2_3, vf2_4, vf2_5, vf2_6, tI0_6 hi, gI1 hi, pI1 hi, vf2_7, vf2_8, tI0_8 hi, gI2 hi, pI2 hi, vf2_9, tI0_9 hi, gI3 hi, pI3 hi, vf2_10, tI0_10 hi, gI4 hi, pI4 hi, vf2_12, vf2_13, tI0_13 hi, gI6 hi, pI6 hi, vf2_14, tI0_14 hi, gI7 hi, pI7 hi, List.getElem?_cons_zero, List.getElem?_cons_succ, List.length_cons, List.length_nil, ag_nx, ag_dn, ag_no, ag_if, jbr1, jbr2, jc1, jc2, jnul, jld, jsto, jstoL, jst1, jst2, jkill, jinc, jbI, jbL, jbS, juI, jl2i, jcmp, jisR, jisI, jisL, jret, jretv, jfits, jdup, jdup2, jpop, jmm, jcat, Value.category, jinv, jrcv, jthr, jhd, jput, jget, jlen, jald, jast, jaast, jgI, jgL, jgB, jtab, jlku, jacp, vf20, vf21, vf22, vf23, vf24, u2_s, u2_k, u2_i, uc_s, uc_k, uc_c, u2_c, LI0, LI1, LI2, LI3, LI4, LI5, LI6, LI7, LI8, LI9, LI10, LI11, LI12, LI13, LI14, LI15, LI16, LI17, LI18, LI19, LI20, LI21, LI22, LI23, LI24, LI25, LI26, LI27, LI28, LI29, LI30, LI31, LI32, LI33, LI34, LI35, LI36, LI37, LI40, LI42, LI43, LI45, LI48, LI60, LI61, LI64, LI80, LI300, LI400, LI1000, LI2000, LI2001, LI2047, LI2048, LI100000, LI1000000, LM, nI_clamp, nI_pos', nI_lt, nI_nlt, nI_le, nI_ge, nI_ne, nI_add, nI_sub, mI_lt, mI_le, mI_nlt, mI_nle, mI_ne, mI_ne', mI_nem, LI46, LI370, LI370000, LI31, LI15, g213, p213, show f < 370 by omega, show f + 1 < 370 by omega, show f + 2 < 370 by omega, show f + 3 < 370 by omega, show f + 4 < 370 by omega, show f + 5 < 370 by omega, show f + 6 + a.2.1.length < 370 by omega, show f + 6 + a.2.1.length + 1 + 3 * a.2.2.1.length < 370 by omega, e1, e3, e5, b7, b12]
  · rw [q5 j (by omega), hI4, u2_i (by omega), q3 j (by omega), hI2, u2_i (by omega), q1, if_neg (by omega), q0 j (by omega)]
  · rw [h1]
    have z : ∀ j, j < 6 → I5 213 (f + j) = I0 213 (f + j) := fun j hj => by rw [z2 _ (by omega), q1, if_neg (by omega)]
    have z0 := z 0 (by omega)
    rw [Nat.add_zero] at z0
    rw [z0, z 1 (by omega), z 2 (by omega), z 3 (by omega), z 4 (by omega), z 5 (by omega), hI0]
    simp (disch := omega) [u2_s, u2_i]
  · refine h2.trans (rl_congr fun i hl => ?_)
    rw [z2 _ (by omega), q1, if_pos (by omega), k0 _ _ (by omega)]
    congr 1
    omega
  · rw [z4 _ (by omega), q3 _ (by omega), hI2, u2_s]
  · apply rl_ext (by rw [List.length_map])
    intro i hl
    obtain ⟨a1, a2, a3⟩ := r3 i (by omega) hl
    rw [z4 _ (by omega), z4 _ (by omega), z4 _ (by omega), a1, a2, a3, k2 _ _ (by omega), k2 _ _ (by omega), k2 _ _ (by omega), List.getElem?_map, h4, rl_at hl]
    rfl
  · rw [q5 _ (by omega), hI4, u2_s]
  · refine h6.trans (rl_congr fun i hl => ?_)
    obtain ⟨a1, a2⟩ := r5 i (by omega) hl
    rw [a1, a2, k4 _ _ (by omega), k4 _ _ (by omega), Int32.sub_add_cancel]
end PK
