/-! walk: the reference's walk, whole -/
section RWW
variable {A : Nat → Nat} {d b n : Nat} {h : Nat → Option jC} {X : jXX} {J : Nat → Nat → Int64} {R : Nat → Nat → Nat} {rN : Int32 → Nm} {N : Nat → Nat → Int32} {np M B D wt : Nat} {p s : Int32}
theorem wR_F {I : Nat → Nat → Int32} {W : aW Nm} {F : Nat × Nat} (h : wR rN I true W) : wR rN I true (W.1, W.2.1, W.2.2.1, F) := ⟨h.1, h.2.1, h.2.2.1, h.2.2.2.1, fun e => by cases e⟩
/-- it grows quiet -/
theorem wR_q {I : Nat → Nat → Int32} {W : aW Nm} (h : wR rN I true W) : wR rN (u2 I 241 66 (nI 1)) false (W.1, W.2.1, W.2.2.1, (if I 241 67 = 0 then 0 else 1, if I 241 68 = 0 then 0 else 1)) := by
  obtain ⟨hA, h4, h5, hL, _⟩ := h
  obtain ⟨b1, b2, b3, b4, b5, b6, b7, b8⟩ := hL rfl
  refine ⟨wB_fr (fun c i h1 h2 => by rw [u2_k (by omega)]) (by rw [u2_i (by omega)]) hA, by rw [u2_i (by omega)]; exact h4, by rw [u2_i (by omega)]; exact h5, fun e => (by cases e), fun _ => ⟨u2_s, ?_, ?_, ?_⟩⟩
  · rw [u2_i (by omega)]
    by_cases c : I 241 67 = 0
    · simp [c]
    · simp [c]
  · rw [u2_i (by omega)]
    by_cases c : I 241 68 = 0
    · simp [c]
    · simp [c]
  · exact tQ_fr (I := I) (fun c i h1 h2 => by rw [u2_k (by omega)]) (fun i h1 => by rw [u2_i (by omega)]) ⟨b2, b3, b4, b5, b6, b7, b8⟩
/-- it is loud again -/
theorem wR_l {I : Nat → Nat → Int32} {W : aW Nm} (h : wR rN I false W) : wR rN (u2 I 241 66 (nI 0)) true W := by
  obtain ⟨hA, h4, h5, _, hQ⟩ := h
  obtain ⟨_, _, _, hq⟩ := hQ rfl
  obtain ⟨b2, b3, b4, b5, b6, b7, b8⟩ := tQ_fr (I := I) (I' := u2 I 241 66 (nI 0)) (fun c i h1 h2 => by rw [u2_k (by omega)]) (fun i h1 => by rw [u2_i (by omega)]) hq
  exact ⟨wB_fr (fun c i h1 h2 => by rw [u2_k (by omega)]) (by rw [u2_i (by omega)]) hA, by rw [u2_i (by omega)]; exact h4, by rw [u2_i (by omega)]; exact h5, fun _ => ⟨u2_s, b2, b3, b4, b5, b6, b7, b8⟩, fun e => (by cases e)⟩
theorem iR_o {I : Nat → Nat → Int32} {k : Nat} {a : aI Nm} (h : iR rN I k a) : ∀ (i : Nat) (s : aS Nm), a.2.2.1[i]? = some s → s.2.2.2 = oR (I 271 (8 * k + i)) := fun i s hs => by
  have hl := lt_of_some hs
  have := h.2.2.2.1
  rw [this, rl_at hl] at hs
  have := Option.some.inj hs
  rw [← this]
theorem r273 {I : Nat → Nat → Int32} {W : aW Nm} {y4 : Int32} (hj : ∀ x y, rN x = rN y → x = y) (hpl : plR X I N M) (hvN : vN N M np) (hW : wR rN I true W) (hok : okW N np B W) (hd : okD D W) (hB : B < 2 ^ 28) (hD : D + 1000000 * 1002 < 2 ^ 31 - 1) (hwt : wt ≤ 3) : ∃ I' z, z = bW0 rN N wt p s W ∧ M273 A (d + 17 + ED) 92 [some (.ref (b + 241)), some (.int (nI wt)), some (.int p), some (.int s), some (.int y4), none, none] [] (jH h b X I J R n) = some (.inl (some (.int (if z.1 = 1 then nI z.2.1.length else if z.1 = 2 then mI 2 else mI 1))), jH h b X I' J R n) ∧ wR rN I' true W ∧ (∀ c j, c < 241 ∨ (241 < c ∧ c < 260) ∨ 286 < c → I' c j = I c j) ∧ (∀ j, j < 36 ∨ 82 < j → I' 241 j = I 241 j) ∧ I' 241 81 = nI z.2.1.length ∧ (∀ j, j < z.2.1.length → z.2.1[j]? = some (I' 286 j)) ∧ I' 241 80 = nI (if z.1 = 2 then 1000 else z.2.2.length) := by
  have n6 := hvN.1
  have l6 : ∀ p, p < np → (lets N p).length ≤ 6 := fun p hp => (hvN.2.2.2 p hp).2.2.2.2.1
  have okl := okW_L n6 l6 hok
  obtain ⟨Gm, hGm⟩ : ∃ Gm, Gm = B + 8 + 61 := ⟨_, rfl⟩
  have hde1 : d + 15 + ED + 2 = d + 17 + ED := by omega
  obtain ⟨I1, e1, k1, q1, _, _, qw1, or1⟩ := r264 (A := A) (d := d + 15 + ED) (b := b) (h := h) (X := X) (J := J) (R := R) (n := n) (r := 1001) (by omega) hW okl
  rw [hde1] at e1
  have W1 : wR rN I1 true W := ⟨wB_fr (fun c i h1 h2 => k1 c i (by omega) (by omega) (by omega)) (k1 _ _ (by omega) (by omega) (by omega)) hW.1, tR_fr (fun c i h1 h2 => k1 c i (by omega) (by omega) (by omega)) (fun i h1 h2 => k1 _ _ (by omega) (by omega) (by omega)) hW.2⟩
  have W2 := wR_q W1
  obtain ⟨Wq, hWq⟩ : ∃ Wq : aW Nm, Wq = (W.1, W.2.1, W.2.2.1, (if I1 241 67 = 0 then 0 else 1, if I1 241 68 = 0 then 0 else 1)) := ⟨_, rfl⟩
  rw [← hWq] at W2
  obtain ⟨I3, hI3⟩ : ∃ I3, I3 = u2 (u2 (u2 I1 241 66 (nI 1)) 241 80 (nI 0)) 241 81 (nI 0) := ⟨_, rfl⟩
  have W3 : wR rN I3 false Wq := by
    rw [hI3]
    exact ⟨wB_fr (fun c i h1 h2 => by rw [u2_k (by omega), u2_k (by omega)]) (by rw [u2_i (by omega), u2_i (by omega)]) W2.1, tR_fr (fun c i h1 h2 => by rw [u2_k (by omega), u2_k (by omega)]) (fun i h1 h2 => by rw [u2_i (by omega), u2_i (by omega)]) W2.2⟩
  have okq : okL Wq.1 := by rw [hWq]; exact okl
  have hokq : okW N np B Wq := by rw [hWq]; exact okW_eq hok rfl rfl
  have hdq : okD D Wq := by rw [hWq]; exact okD_eq hd rfl rfl
  obtain ⟨I4, e4, k4, q4, _, h4, qw4, _⟩ := r264 (A := A) (d := d + 15 + ED) (b := b) (h := h) (X := X) (J := J) (R := R) (n := n) (r := 0) (by omega) W3 okq
  rw [hde1] at e4
  obtain ⟨I5, hI5⟩ : ∃ I5, I5 = u2 (u2 (u2 I4 284 0 (mI 1)) 285 0 (mI 1)) 241 80 (nI 1) := ⟨_, rfl⟩
  have k5 : ∀ c j, c ≠ 284 → c ≠ 285 → ¬ (c = 241 ∧ j = 80) → I5 c j = I4 c j := fun c j a1 a2 a3 => by
    rw [hI5]
    simp only [u2_ap]
    rw [if_neg a3, if_neg (fun z => a2 z.1), if_neg (fun z => a1 z.1)]
  have d5 : I5 282 = I4 282 := funext fun j => k5 _ _ (by omega) (by omega) (by omega)
  have W5 : wR rN I5 false Wq := ⟨wB_fr (fun c i h1 h2 => by rw [k5 _ _ (by omega) (by omega) (by omega), k4 _ _ (by omega) (by omega) (by omega)]) (by rw [k5 _ _ (by omega) (by omega) (by omega), k4 _ _ (by omega) (by omega) (by omega)]) W3.1, tR_fr (fun c i h1 h2 => by rw [k5 _ _ (by omega) (by omega) (by omega), k4 _ _ (by omega) (by omega) (by omega)]) (fun i h1 h2 => by rw [k5 _ _ (by omega) (by omega) (by omega), k4 _ _ (by omega) (by omega) (by omega)]) W3.2⟩
  have hbz : bz Wq = bz W := by rw [hWq]; rfl
  have E5 : rBe rN I5 [(bz W, mI 1, mI 1)] := by
    refine ⟨by rw [hI5, u2_s]; rfl, by simp, fun e y hy => ?_⟩
    have he : e = 0 := by
      have := lt_of_some hy
      simpa using this
    subst he
    have : y = (bz W, mI 1, mI 1) := by simpa using hy.symm
    subst this
    refine ⟨by rw [d5, ← hbz]; exact qW_bz qw4, ?_, ?_, ?_⟩
    · rw [d5, k5 _ _ (by omega) (by omega) (by omega)]; exact h4
    · rw [hI5, u2_k (by omega), u2_k (by omega), u2_s]
    · rw [hI5, u2_k (by omega), u2_s]
  obtain ⟨ev, bo⟩ := eV_0 (x := mI 1) (y := mI 1) hok (show B + 8 ≤ Gm by omega) hd
  have b00' : b00 [(bz W, mI 1, mI 1)] := fun y hy => by
    have : y = (bz W, mI 1, mI 1) := by simpa using hy.symm
    rw [this]
  have fr5 : ∀ c j, c < 241 ∨ (241 < c ∧ c < 260) ∨ 286 < c → I5 c j = I c j := fun c j hc => by
    rw [k5 _ _ (by omega) (by omega) (by omega), k4 _ _ (by omega) (by omega) (by omega), hI3, u2_k (by omega), u2_k (by omega), u2_k (by omega), k1 _ _ (by omega) (by omega) (by omega)]
  have ff5 : ∀ j, j < 36 ∨ 82 < j → I5 241 j = I 241 j := fun j hj => by
    rw [k5 _ _ (by omega) (by omega) (by omega), k4 _ _ (by omega) (by omega) (by omega), hI3, u2_i (by omega), u2_i (by omega), u2_i (by omega), k1 _ _ (by omega) (by omega) (by omega)]
  have pl5 : plR X I5 N M := plR_fr (fun c i h1 h2 => fr5 c i (by omega)) hpl
  have hr5 : ∀ j, 435 * 1001 ≤ j → I5 282 j = I1 282 j := fun j hj => by
    rw [d5, q4 j (by omega), hI3, u2_k (by omega), u2_k (by omega), u2_k (by omega)]
  have y81 : I5 241 81 = nI 0 := by rw [k5 _ _ (by omega) (by omega) (by omega), k4 _ _ (by omega) (by omega) (by omega), hI3, u2_s]
  have hlk : bLk rN N wt p s Wq = bLk rN N wt p s W := by
    rw [hWq]
    rfl
  have Zof : ∀ I6 : Nat → Nat → Int32, onPQ I5 I6 → rZz rN N np M Gm D X I6 W.2.1.2.2 W.2.2.1 [(bz W, mI 1, mI 1)] := fun I6 op => ⟨plR_fZ (fZ_P op) pl5, ⟨Wq, wR_onPQ op W5, by rw [hWq], by rw [hWq]⟩, rBe_e E5 (op.2 _ (by omega)) (fun c j h1 h2 => op.1 _ _ (by omega)), ev, bo, b00'⟩
  -- up to the loop
  have head : ∃ I6, onPQ I5 I6 ∧ M273 A (d + 17 + ED) 92 [some (.ref (b + 241)), some (.int (nI wt)), some (.int p), some (.int s), some (.int y4), none, none] [] (jH h b X I J R n) = M273 A (d + 17 + ED) 172 [some (.ref (b + 241)), some (.int (nI wt)), some (.int p), some (.int s), some (.int y4), some (.int (nI (if bLk rN N wt p s W = true then 1 else 0))), some (.int (nI 0))] [] (jH h b X I6 J R n) := by
    have up : M273 A (d + 17 + ED) 92 [some (.ref (b + 241)), some (.int (nI wt)), some (.int p), some (.int s), some (.int y4), none, none] [] (jH h b X I J R n) = M273 A (d + 17 + ED) 141 [some (.ref (b + 241)), some (.int (nI wt)), some (.int p), some (.int s), some (.int y4), some (.int (nI 0)), none] [] (jH h b X I5 J R n) := by
      rw [hI3] at e4
      rw [hI5]
      simp (disch := omega) [r273_0, r273_1, r273_4, r273_5, r273_6, r273_9, r273_10, r273_13, r273_14, r273_16, r273_17, r273_18, r273_21, r273_22, r273_25, r273_26, r273_27, r273_30, r273_33, r273_34, r273_37, r273_40, r273_42, r273_45, r273_46, r273_49, r273_50, r273_52, r273_55, r273_56, r273_59, r273_60, r273_62, r273_63, r273_65, r273_68, r273_69, r273_72, r273_73, r273_76, r273_79, r273_80, r273_83, r273_84, r273_87, r273_90, r273_91, r273_92, r273_93, r273_96, r273_99, r273_100, r273_101, r273_104, r273_105, r273_106, r273_109, r273_110, r273_111, r273_114, r273_115, r273_116, r273_119, r273_120, r273_123, r273_124, r273_125, r273_126, r273_127, r273_130, r273_131, r273_132, r273_133, r273_134, r273_135, r273_138, r273_139, r273_142, r273_143, r273_146, r273_147, r273_148, r273_149, r273_152, r273_155, r273_156, r273_159, r273_160, r273_163, r273_166, r273_167, r273_169, r273_170, r273_172, r273_174, r273_175, r273_178, r273_181, r273_183, r273_186, r273_187, r273_189, r273_190, r273_191, r273_192, r273_195, r273_197, r273_200, r273_203, r273_204, r273_205, r273_208, r273_209, r273_212, r273_215, r273_217, r273_220, r273_221, r273_224, r273_227, r273_228, r273_229, r273_232, r273_234, r273_235, r273_237, r273_240, r273_241, r273_244, r273_245, r273_248, g241, vf12_33, vf12_34, qa176, qo176, qa264, qo264, p241_66, ty12_66, p241_80, ty12_80, p241_81, ty12_81, vf12_77, t241_77, g284, p284, vf12_78, t241_78, g285, p285, qa268, qo268, qa269, qo269, vf12_80, qa272, qo272, qa266, qo266, vf12_81, List.getElem?_cons_zero, List.getElem?_cons_succ, List.length_cons, List.length_nil, ag_nx, ag_dn, ag_no, ag_if, jbr1, jbr2, jc1, jc2, jnul, jld, jsto, jstoL, jst1, jst2, jkill, jinc, jbI, jbL, jbS, juI, jl2i, jcmp, jisR, jisI, jisL, jret, jretv, jfits, jdup, jdup2, jpop, jmm, jcat, Value.category, jinv, jrcv, jthr, jhd, jput, jget, jlen, jald, jast, jaast, jgI, jgL, jgB, jtab, jlku, jacp, vf20, vf21, vf22, vf23, vf24, u2_s, u2_k, u2_i, uc_s, uc_k, uc_c, u2_c, LI0, LI1, LI2, LI3, LI4, LI5, LI6, LI7, LI8, LI9, LI10, LI11, LI12, LI13, LI14, LI15, LI16, LI17, LI18, LI19, LI20, LI21, LI22, LI23, LI24, LI25, LI26, LI27, LI28, LI29, LI30, LI31, LI32, LI33, LI34, LI35, LI36, LI37, LI40, LI42, LI43, LI45, LI48, LI60, LI61, LI64, LI80, LI300, LI400, LI1000, LI2000, LI2001, LI2047, LI2048, LI100000, LI1000000, LM, nI_clamp, nI_pos', nI_lt, nI_nlt, nI_le, nI_ge, nI_ne, nI_add, nI_sub, mI_lt, mI_le, mI_nlt, mI_nle, mI_ne, mI_ne', mI_nem, LI370, LI435, LI64, LI31, LI61, LI1001, e1, e4]
    rw [up, ← hlk]
    unfold bLk
    by_cases c3 : wt = 3
    · subst c3
      refine ⟨I5, onPQ_refl, ?_⟩
      have e8 := r268 (A := A) (d := d + 16 + ED) (b := b) (h := h) (X := X) (J := J) (R := R) (n := n) (p := p) (s := s) W5
      have hde2 : d + 16 + ED + 1 = d + 17 + ED := by omega
      rw [hde2] at e8
      simp only [if_true]
      cases hb : Wq.1.any (fun a => decide (a.1.2.1 = p) && decide (a.1.2.2.1 = s)) with
      | true =>
        rw [hb] at e8
        simp only [if_true] at e8 ⊢
        simp (disch := omega) [r273_0, r273_1, r273_4, r273_5, r273_6, r273_9, r273_10, r273_13, r273_14, r273_16, r273_17, r273_18, r273_21, r273_22, r273_25, r273_26, r273_27, r273_30, r273_33, r273_34, r273_37, r273_40, r273_42, r273_45, r273_46, r273_49, r273_50, r273_52, r273_55, r273_56, r273_59, r273_60, r273_62, r273_63, r273_65, r273_68, r273_69, r273_72, r273_73, r273_76, r273_79, r273_80, r273_83, r273_84, r273_87, r273_90, r273_91, r273_92, r273_93, r273_96, r273_99, r273_100, r273_101, r273_104, r273_105, r273_106, r273_109, r273_110, r273_111, r273_114, r273_115, r273_116, r273_119, r273_120, r273_123, r273_124, r273_125, r273_126, r273_127, r273_130, r273_131, r273_132, r273_133, r273_134, r273_135, r273_138, r273_139, r273_141, r273_142, r273_143, r273_146, r273_147, r273_148, r273_149, r273_152, r273_155, r273_156, r273_159, r273_160, r273_163, r273_166, r273_167, r273_169, r273_170, r273_174, r273_175, r273_178, r273_181, r273_183, r273_186, r273_187, r273_189, r273_190, r273_191, r273_192, r273_195, r273_197, r273_200, r273_203, r273_204, r273_205, r273_208, r273_209, r273_212, r273_215, r273_217, r273_220, r273_221, r273_224, r273_227, r273_228, r273_229, r273_232, r273_234, r273_235, r273_237, r273_240, r273_241, r273_244, r273_245, r273_248, g241, vf12_33, vf12_34, qa176, qo176, qa264, qo264, p241_66, ty12_66, p241_80, ty12_80, p241_81, ty12_81, vf12_77, t241_77, g284, p284, vf12_78, t241_78, g285, p285, qa268, qo268, qa269, qo269, vf12_80, qa272, qo272, qa266, qo266, vf12_81, List.getElem?_cons_zero, List.getElem?_cons_succ, List.length_cons, List.length_nil, ag_nx, ag_dn, ag_no, ag_if, jbr1, jbr2, jc1, jc2, jnul, jld, jsto, jstoL, jst1, jst2, jkill, jinc, jbI, jbL, jbS, juI, jl2i, jcmp, jisR, jisI, jisL, jret, jretv, jfits, jdup, jdup2, jpop, jmm, jcat, Value.category, jinv, jrcv, jthr, jhd, jput, jget, jlen, jald, jast, jaast, jgI, jgL, jgB, jtab, jlku, jacp, vf20, vf21, vf22, vf23, vf24, u2_s, u2_k, u2_i, uc_s, uc_k, uc_c, u2_c, LI0, LI1, LI2, LI3, LI4, LI5, LI6, LI7, LI8, LI9, LI10, LI11, LI12, LI13, LI14, LI15, LI16, LI17, LI18, LI19, LI20, LI21, LI22, LI23, LI24, LI25, LI26, LI27, LI28, LI29, LI30, LI31, LI32, LI33, LI34, LI35, LI36, LI37, LI40, LI42, LI43, LI45, LI48, LI60, LI61, LI64, LI80, LI300, LI400, LI1000, LI2000, LI2001, LI2047, LI2048, LI100000, LI1000000, LM, nI_clamp, nI_pos', nI_lt, nI_nlt, nI_le, nI_ge, nI_ne, nI_add, nI_sub, mI_lt, mI_le, mI_nlt, mI_nle, mI_ne, mI_ne', mI_nem, LI370, LI435, LI64, LI31, LI61, LI1001, e8]
      | false =>
        rw [hb] at e8
        simp only [Bool.false_eq_true, if_false] at e8 ⊢
        simp (disch := omega) [r273_0, r273_1, r273_4, r273_5, r273_6, r273_9, r273_10, r273_13, r273_14, r273_16, r273_17, r273_18, r273_21, r273_22, r273_25, r273_26, r273_27, r273_30, r273_33, r273_34, r273_37, r273_40, r273_42, r273_45, r273_46, r273_49, r273_50, r273_52, r273_55, r273_56, r273_59, r273_60, r273_62, r273_63, r273_65, r273_68, r273_69, r273_72, r273_73, r273_76, r273_79, r273_80, r273_83, r273_84, r273_87, r273_90, r273_91, r273_92, r273_93, r273_96, r273_99, r273_100, r273_101, r273_104, r273_105, r273_106, r273_109, r273_110, r273_111, r273_114, r273_115, r273_116, r273_119, r273_120, r273_123, r273_124, r273_125, r273_126, r273_127, r273_130, r273_131, r273_132, r273_133, r273_134, r273_135, r273_138, r273_139, r273_141, r273_142, r273_143, r273_146, r273_147, r273_148, r273_149, r273_152, r273_155, r273_156, r273_159, r273_160, r273_163, r273_166, r273_167, r273_169, r273_170, r273_174, r273_175, r273_178, r273_181, r273_183, r273_186, r273_187, r273_189, r273_190, r273_191, r273_192, r273_195, r273_197, r273_200, r273_203, r273_204, r273_205, r273_208, r273_209, r273_212, r273_215, r273_217, r273_220, r273_221, r273_224, r273_227, r273_228, r273_229, r273_232, r273_234, r273_235, r273_237, r273_240, r273_241, r273_244, r273_245, r273_248, g241, vf12_33, vf12_34, qa176, qo176, qa264, qo264, p241_66, ty12_66, p241_80, ty12_80, p241_81, ty12_81, vf12_77, t241_77, g284, p284, vf12_78, t241_78, g285, p285, qa268, qo268, qa269, qo269, vf12_80, qa272, qo272, qa266, qo266, vf12_81, List.getElem?_cons_zero, List.getElem?_cons_succ, List.length_cons, List.length_nil, ag_nx, ag_dn, ag_no, ag_if, jbr1, jbr2, jc1, jc2, jnul, jld, jsto, jstoL, jst1, jst2, jkill, jinc, jbI, jbL, jbS, juI, jl2i, jcmp, jisR, jisI, jisL, jret, jretv, jfits, jdup, jdup2, jpop, jmm, jcat, Value.category, jinv, jrcv, jthr, jhd, jput, jget, jlen, jald, jast, jaast, jgI, jgL, jgB, jtab, jlku, jacp, vf20, vf21, vf22, vf23, vf24, u2_s, u2_k, u2_i, uc_s, uc_k, uc_c, u2_c, LI0, LI1, LI2, LI3, LI4, LI5, LI6, LI7, LI8, LI9, LI10, LI11, LI12, LI13, LI14, LI15, LI16, LI17, LI18, LI19, LI20, LI21, LI22, LI23, LI24, LI25, LI26, LI27, LI28, LI29, LI30, LI31, LI32, LI33, LI34, LI35, LI36, LI37, LI40, LI42, LI43, LI45, LI48, LI60, LI61, LI64, LI80, LI300, LI400, LI1000, LI2000, LI2001, LI2047, LI2048, LI100000, LI1000000, LM, nI_clamp, nI_pos', nI_lt, nI_nlt, nI_le, nI_ge, nI_ne, nI_add, nI_sub, mI_lt, mI_le, mI_nlt, mI_nle, mI_ne, mI_ne', mI_nem, LI370, LI435, LI64, LI31, LI61, LI1001, e8]
    · rw [if_neg c3]
      by_cases c0 : wt = 0
      · subst c0
        rw [if_pos rfl]
        obtain ⟨I6, e9, o9⟩ := r269 (A := A) (d := d + 13) (b := b) (h := h) (X := X) (I := I5) (J := J) (R := R) (n := n) hj pl5 hvN W5 okq hokq (by omega) (by omega) hdq
        have hde3 : d + 13 + 4 + ED = d + 17 + ED := by omega
        rw [hde3] at e9
        refine ⟨I6, o9, ?_⟩
        cases hb : ((aDue Wq.1 0 none).isNone && Wq.1.all (fun a => decide ((aPlan rN N Wq.2.1.2.1 a).1 = 0))) with
        | true =>
          rw [hb] at e9
          simp only [if_true] at e9 ⊢
          simp (disch := omega) [r273_0, r273_1, r273_4, r273_5, r273_6, r273_9, r273_10, r273_13, r273_14, r273_16, r273_17, r273_18, r273_21, r273_22, r273_25, r273_26, r273_27, r273_30, r273_33, r273_34, r273_37, r273_40, r273_42, r273_45, r273_46, r273_49, r273_50, r273_52, r273_55, r273_56, r273_59, r273_60, r273_62, r273_63, r273_65, r273_68, r273_69, r273_72, r273_73, r273_76, r273_79, r273_80, r273_83, r273_84, r273_87, r273_90, r273_91, r273_92, r273_93, r273_96, r273_99, r273_100, r273_101, r273_104, r273_105, r273_106, r273_109, r273_110, r273_111, r273_114, r273_115, r273_116, r273_119, r273_120, r273_123, r273_124, r273_125, r273_126, r273_127, r273_130, r273_131, r273_132, r273_133, r273_134, r273_135, r273_138, r273_139, r273_141, r273_142, r273_143, r273_146, r273_147, r273_148, r273_149, r273_152, r273_155, r273_156, r273_159, r273_160, r273_163, r273_166, r273_167, r273_169, r273_170, r273_174, r273_175, r273_178, r273_181, r273_183, r273_186, r273_187, r273_189, r273_190, r273_191, r273_192, r273_195, r273_197, r273_200, r273_203, r273_204, r273_205, r273_208, r273_209, r273_212, r273_215, r273_217, r273_220, r273_221, r273_224, r273_227, r273_228, r273_229, r273_232, r273_234, r273_235, r273_237, r273_240, r273_241, r273_244, r273_245, r273_248, g241, vf12_33, vf12_34, qa176, qo176, qa264, qo264, p241_66, ty12_66, p241_80, ty12_80, p241_81, ty12_81, vf12_77, t241_77, g284, p284, vf12_78, t241_78, g285, p285, qa268, qo268, qa269, qo269, vf12_80, qa272, qo272, qa266, qo266, vf12_81, List.getElem?_cons_zero, List.getElem?_cons_succ, List.length_cons, List.length_nil, ag_nx, ag_dn, ag_no, ag_if, jbr1, jbr2, jc1, jc2, jnul, jld, jsto, jstoL, jst1, jst2, jkill, jinc, jbI, jbL, jbS, juI, jl2i, jcmp, jisR, jisI, jisL, jret, jretv, jfits, jdup, jdup2, jpop, jmm, jcat, Value.category, jinv, jrcv, jthr, jhd, jput, jget, jlen, jald, jast, jaast, jgI, jgL, jgB, jtab, jlku, jacp, vf20, vf21, vf22, vf23, vf24, u2_s, u2_k, u2_i, uc_s, uc_k, uc_c, u2_c, LI0, LI1, LI2, LI3, LI4, LI5, LI6, LI7, LI8, LI9, LI10, LI11, LI12, LI13, LI14, LI15, LI16, LI17, LI18, LI19, LI20, LI21, LI22, LI23, LI24, LI25, LI26, LI27, LI28, LI29, LI30, LI31, LI32, LI33, LI34, LI35, LI36, LI37, LI40, LI42, LI43, LI45, LI48, LI60, LI61, LI64, LI80, LI300, LI400, LI1000, LI2000, LI2001, LI2047, LI2048, LI100000, LI1000000, LM, nI_clamp, nI_pos', nI_lt, nI_nlt, nI_le, nI_ge, nI_ne, nI_add, nI_sub, mI_lt, mI_le, mI_nlt, mI_nle, mI_ne, mI_ne', mI_nem, LI370, LI435, LI64, LI31, LI61, LI1001, e9]
        | false =>
          rw [hb] at e9
          simp only [Bool.false_eq_true, if_false] at e9 ⊢
          simp (disch := omega) [r273_0, r273_1, r273_4, r273_5, r273_6, r273_9, r273_10, r273_13, r273_14, r273_16, r273_17, r273_18, r273_21, r273_22, r273_25, r273_26, r273_27, r273_30, r273_33, r273_34, r273_37, r273_40, r273_42, r273_45, r273_46, r273_49, r273_50, r273_52, r273_55, r273_56, r273_59, r273_60, r273_62, r273_63, r273_65, r273_68, r273_69, r273_72, r273_73, r273_76, r273_79, r273_80, r273_83, r273_84, r273_87, r273_90, r273_91, r273_92, r273_93, r273_96, r273_99, r273_100, r273_101, r273_104, r273_105, r273_106, r273_109, r273_110, r273_111, r273_114, r273_115, r273_116, r273_119, r273_120, r273_123, r273_124, r273_125, r273_126, r273_127, r273_130, r273_131, r273_132, r273_133, r273_134, r273_135, r273_138, r273_139, r273_141, r273_142, r273_143, r273_146, r273_147, r273_148, r273_149, r273_152, r273_155, r273_156, r273_159, r273_160, r273_163, r273_166, r273_167, r273_169, r273_170, r273_174, r273_175, r273_178, r273_181, r273_183, r273_186, r273_187, r273_189, r273_190, r273_191, r273_192, r273_195, r273_197, r273_200, r273_203, r273_204, r273_205, r273_208, r273_209, r273_212, r273_215, r273_217, r273_220, r273_221, r273_224, r273_227, r273_228, r273_229, r273_232, r273_234, r273_235, r273_237, r273_240, r273_241, r273_244, r273_245, r273_248, g241, vf12_33, vf12_34, qa176, qo176, qa264, qo264, p241_66, ty12_66, p241_80, ty12_80, p241_81, ty12_81, vf12_77, t241_77, g284, p284, vf12_78, t241_78, g285, p285, qa268, qo268, qa269, qo269, vf12_80, qa272, qo272, qa266, qo266, vf12_81, List.getElem?_cons_zero, List.getElem?_cons_succ, List.length_cons, List.length_nil, ag_nx, ag_dn, ag_no, ag_if, jbr1, jbr2, jc1, jc2, jnul, jld, jsto, jstoL, jst1, jst2, jkill, jinc, jbI, jbL, jbS, juI, jl2i, jcmp, jisR, jisI, jisL, jret, jretv, jfits, jdup, jdup2, jpop, jmm, jcat, Value.category, jinv, jrcv, jthr, jhd, jput, jget, jlen, jald, jast, jaast, jgI, jgL, jgB, jtab, jlku, jacp, vf20, vf21, vf22, vf23, vf24, u2_s, u2_k, u2_i, uc_s, uc_k, uc_c, u2_c, LI0, LI1, LI2, LI3, LI4, LI5, LI6, LI7, LI8, LI9, LI10, LI11, LI12, LI13, LI14, LI15, LI16, LI17, LI18, LI19, LI20, LI21, LI22, LI23, LI24, LI25, LI26, LI27, LI28, LI29, LI30, LI31, LI32, LI33, LI34, LI35, LI36, LI37, LI40, LI42, LI43, LI45, LI48, LI60, LI61, LI64, LI80, LI300, LI400, LI1000, LI2000, LI2001, LI2047, LI2048, LI100000, LI1000000, LM, nI_clamp, nI_pos', nI_lt, nI_nlt, nI_le, nI_ge, nI_ne, nI_add, nI_sub, mI_lt, mI_le, mI_nlt, mI_nle, mI_ne, mI_ne', mI_nem, LI370, LI435, LI64, LI31, LI61, LI1001, e9]
      · rw [if_neg c0]
        refine ⟨I5, onPQ_refl, ?_⟩
        simp only [Bool.false_eq_true, if_false]
        simp (disch := omega) [r273_0, r273_1, r273_4, r273_5, r273_6, r273_9, r273_10, r273_13, r273_14, r273_16, r273_17, r273_18, r273_21, r273_22, r273_25, r273_26, r273_27, r273_30, r273_33, r273_34, r273_37, r273_40, r273_42, r273_45, r273_46, r273_49, r273_50, r273_52, r273_55, r273_56, r273_59, r273_60, r273_62, r273_63, r273_65, r273_68, r273_69, r273_72, r273_73, r273_76, r273_79, r273_80, r273_83, r273_84, r273_87, r273_90, r273_91, r273_92, r273_93, r273_96, r273_99, r273_100, r273_101, r273_104, r273_105, r273_106, r273_109, r273_110, r273_111, r273_114, r273_115, r273_116, r273_119, r273_120, r273_123, r273_124, r273_125, r273_126, r273_127, r273_130, r273_131, r273_132, r273_133, r273_134, r273_135, r273_138, r273_139, r273_141, r273_142, r273_143, r273_146, r273_147, r273_148, r273_149, r273_152, r273_155, r273_156, r273_159, r273_160, r273_163, r273_166, r273_167, r273_169, r273_170, r273_174, r273_175, r273_178, r273_181, r273_183, r273_186, r273_187, r273_189, r273_190, r273_191, r273_192, r273_195, r273_197, r273_200, r273_203, r273_204, r273_205, r273_208, r273_209, r273_212, r273_215, r273_217, r273_220, r273_221, r273_224, r273_227, r273_228, r273_229, r273_232, r273_234, r273_235, r273_237, r273_240, r273_241, r273_244, r273_245, r273_248, g241, vf12_33, vf12_34, qa176, qo176, qa264, qo264, p241_66, ty12_66, p241_80, ty12_80, p241_81, ty12_81, vf12_77, t241_77, g284, p284, vf12_78, t241_78, g285, p285, qa268, qo268, qa269, qo269, vf12_80, qa272, qo272, qa266, qo266, vf12_81, List.getElem?_cons_zero, List.getElem?_cons_succ, List.length_cons, List.length_nil, ag_nx, ag_dn, ag_no, ag_if, jbr1, jbr2, jc1, jc2, jnul, jld, jsto, jstoL, jst1, jst2, jkill, jinc, jbI, jbL, jbS, juI, jl2i, jcmp, jisR, jisI, jisL, jret, jretv, jfits, jdup, jdup2, jpop, jmm, jcat, Value.category, jinv, jrcv, jthr, jhd, jput, jget, jlen, jald, jast, jaast, jgI, jgL, jgB, jtab, jlku, jacp, vf20, vf21, vf22, vf23, vf24, u2_s, u2_k, u2_i, uc_s, uc_k, uc_c, u2_c, LI0, LI1, LI2, LI3, LI4, LI5, LI6, LI7, LI8, LI9, LI10, LI11, LI12, LI13, LI14, LI15, LI16, LI17, LI18, LI19, LI20, LI21, LI22, LI23, LI24, LI25, LI26, LI27, LI28, LI29, LI30, LI31, LI32, LI33, LI34, LI35, LI36, LI37, LI40, LI42, LI43, LI45, LI48, LI60, LI61, LI64, LI80, LI300, LI400, LI1000, LI2000, LI2001, LI2047, LI2048, LI100000, LI1000000, LM, nI_clamp, nI_pos', nI_lt, nI_nlt, nI_le, nI_ge, nI_ne, nI_add, nI_sub, mI_lt, mI_le, mI_nlt, mI_nle, mI_ne, mI_ne', mI_nem, LI370, LI435, LI64, LI31, LI61, LI1001, c3, c0]
  obtain ⟨I6, o6, e6⟩ := head
  have Z6 := Zof I6 o6
  have z81 : I6 241 81 = nI 0 := by rw [o6.2 _ (by omega)]; exact y81
  -- loud again, and all as it was
  have fin : ∀ (I7 : Nat → Nat → Int32) (zc m rl_ : Nat) (c6 : Option Value) (E7 : List bE), zc ≤ 2 → fZ I6 I7 → rZz rN N np M Gm D X I7 W.2.1.2.2 W.2.2.1 E7 → I7 241 80 = nI m → I7 241 81 = nI rl_ → ∃ I8, M273 A (d + 17 + ED) 203 [some (.ref (b + 241)), some (.int (nI wt)), some (.int p), some (.int s), some (.int y4), some (.int (rcd zc)), c6] [] (jH h b X I7 J R n) = some (.inl (some (.int (if zc = 1 then nI rl_ else if zc = 2 then mI 2 else mI 1))), jH h b X I8 J R n) ∧ wR rN I8 true W ∧ (∀ c j, c < 241 ∨ (241 < c ∧ c < 260) ∨ 286 < c → I8 c j = I c j) ∧ (∀ j, j < 36 ∨ 82 < j → I8 241 j = I 241 j) ∧ I8 241 81 = nI (if zc = 2 then 0 else rl_) ∧ (∀ j, I8 286 j = I7 286 j) ∧ I8 241 80 = nI (if zc = 2 then 1000 else m) := by
    intro I7 zc m rl_ c6 E7 hzc f7 Z7 m80 m81
    obtain ⟨W7, w7, t7, u7⟩ := Z7.2.1
    have w8 := wR_l w7
    have qw7 : qW rN ((u2 I7 241 66 (nI 0)) 282) (435 * 1001) W := qW_fr okl hok.1 qw1 (fun j hj => by rw [u2_k (by omega), f7.2.2 _ (by omega), o6.1 _ _ (by omega), hr5 _ (by omega)])
    obtain ⟨I8, as', e8, w9, _, f8, ex⟩ := r266 (A := A) (d := d + 15 + ED) (b := b) (h := h) (X := X) (J := J) (R := R) (n := n) (r := 1001) (V := W) (by omega) w8 qw7 okl hok.1
    rw [hde1] at e8
    have has : as' = W.1 := ex (fun k a hk j st hst => by
      obtain ⟨_, b2, _, _⟩ := okl k a hk
      have hjl := lt_of_some hst
      have hkl := lt_of_some hk
      have h8 := hok.1
      rw [u2_k (by omega), f7.2.2 _ (by omega), o6.1 _ _ (by omega), hr5 _ (by omega), or1 _ (by omega)]
      exact iR_o (hW.1.2.2 k a hk) j st hst)
    rw [has, t7, u7] at w9
    have w10 : wR rN I8 true W := by
      have := wR_F (F := W.2.2.2) w9
      exact this
    have g80 : I8 241 80 = nI m := by rw [f8 _ _ (by omega) (by omega), u2_i (by omega)]; exact m80
    have g81 : I8 241 81 = nI rl_ := by rw [f8 _ _ (by omega) (by omega), u2_i (by omega)]; exact m81
    have fo : ∀ c j, c < 241 ∨ (241 < c ∧ c < 260) ∨ 286 < c → I8 c j = I c j := fun c j hc => by
      rw [f8 _ _ (by omega) (by omega), u2_k (by omega), f7.1 _ _ hc, o6.1 _ _ (by omega), fr5 _ _ hc]
    have fi : ∀ j, j < 36 ∨ 82 < j → I8 241 j = I 241 j := fun j hj => by
      rw [f8 _ _ (by omega) (by omega), u2_i (by omega), f7.2.1 _ hj, o6.2 _ (by omega), ff5 _ hj]
    have f6 : ∀ j, I8 286 j = I7 286 j := fun j => by rw [f8 _ _ (by omega) (by omega), u2_k (by omega)]
    obtain rfl | rfl | rfl : zc = 0 ∨ zc = 1 ∨ zc = 2 := by omega
    · refine ⟨I8, ?_, w10, fo, fi, g81, f6, g80⟩
      have er : rcd 0 = nI 0 := rfl
      rw [er]
      simp (disch := omega) [r273_0, r273_1, r273_4, r273_5, r273_6, r273_9, r273_10, r273_13, r273_14, r273_16, r273_17, r273_18, r273_21, r273_22, r273_25, r273_26, r273_27, r273_30, r273_33, r273_34, r273_37, r273_40, r273_42, r273_45, r273_46, r273_49, r273_50, r273_52, r273_55, r273_56, r273_59, r273_60, r273_62, r273_63, r273_65, r273_68, r273_69, r273_72, r273_73, r273_76, r273_79, r273_80, r273_83, r273_84, r273_87, r273_90, r273_91, r273_92, r273_93, r273_96, r273_99, r273_100, r273_101, r273_104, r273_105, r273_106, r273_109, r273_110, r273_111, r273_114, r273_115, r273_116, r273_119, r273_120, r273_123, r273_124, r273_125, r273_126, r273_127, r273_130, r273_131, r273_132, r273_133, r273_134, r273_135, r273_138, r273_139, r273_141, r273_142, r273_143, r273_146, r273_147, r273_148, r273_149, r273_152, r273_155, r273_156, r273_159, r273_160, r273_163, r273_166, r273_167, r273_169, r273_170, r273_172, r273_174, r273_175, r273_178, r273_181, r273_183, r273_186, r273_187, r273_189, r273_190, r273_191, r273_192, r273_195, r273_197, r273_200, r273_203, r273_204, r273_205, r273_208, r273_209, r273_212, r273_215, r273_217, r273_220, r273_221, r273_224, r273_227, r273_228, r273_229, r273_232, r273_234, r273_235, r273_237, r273_240, r273_241, r273_244, r273_245, r273_248, g241, vf12_33, vf12_34, qa176, qo176, qa264, qo264, p241_66, ty12_66, p241_80, ty12_80, p241_81, ty12_81, vf12_77, t241_77, g284, p284, vf12_78, t241_78, g285, p285, qa268, qo268, qa269, qo269, vf12_80, qa272, qo272, qa266, qo266, vf12_81, List.getElem?_cons_zero, List.getElem?_cons_succ, List.length_cons, List.length_nil, ag_nx, ag_dn, ag_no, ag_if, jbr1, jbr2, jc1, jc2, jnul, jld, jsto, jstoL, jst1, jst2, jkill, jinc, jbI, jbL, jbS, juI, jl2i, jcmp, jisR, jisI, jisL, jret, jretv, jfits, jdup, jdup2, jpop, jmm, jcat, Value.category, jinv, jrcv, jthr, jhd, jput, jget, jlen, jald, jast, jaast, jgI, jgL, jgB, jtab, jlku, jacp, vf20, vf21, vf22, vf23, vf24, u2_s, u2_k, u2_i, uc_s, uc_k, uc_c, u2_c, LI0, LI1, LI2, LI3, LI4, LI5, LI6, LI7, LI8, LI9, LI10, LI11, LI12, LI13, LI14, LI15, LI16, LI17, LI18, LI19, LI20, LI21, LI22, LI23, LI24, LI25, LI26, LI27, LI28, LI29, LI30, LI31, LI32, LI33, LI34, LI35, LI36, LI37, LI40, LI42, LI43, LI45, LI48, LI60, LI61, LI64, LI80, LI300, LI400, LI1000, LI2000, LI2001, LI2047, LI2048, LI100000, LI1000000, LM, nI_clamp, nI_pos', nI_lt, nI_nlt, nI_le, nI_ge, nI_ne, nI_add, nI_sub, mI_lt, mI_le, mI_nlt, mI_nle, mI_ne, mI_ne', mI_nem, LI370, LI435, LI64, LI31, LI61, LI1001, e8]
    · refine ⟨I8, ?_, w10, fo, fi, g81, f6, g80⟩
      have er : rcd 1 = nI 1 := rfl
      rw [er]
      simp (disch := omega) [r273_0, r273_1, r273_4, r273_5, r273_6, r273_9, r273_10, r273_13, r273_14, r273_16, r273_17, r273_18, r273_21, r273_22, r273_25, r273_26, r273_27, r273_30, r273_33, r273_34, r273_37, r273_40, r273_42, r273_45, r273_46, r273_49, r273_50, r273_52, r273_55, r273_56, r273_59, r273_60, r273_62, r273_63, r273_65, r273_68, r273_69, r273_72, r273_73, r273_76, r273_79, r273_80, r273_83, r273_84, r273_87, r273_90, r273_91, r273_92, r273_93, r273_96, r273_99, r273_100, r273_101, r273_104, r273_105, r273_106, r273_109, r273_110, r273_111, r273_114, r273_115, r273_116, r273_119, r273_120, r273_123, r273_124, r273_125, r273_126, r273_127, r273_130, r273_131, r273_132, r273_133, r273_134, r273_135, r273_138, r273_139, r273_141, r273_142, r273_143, r273_146, r273_147, r273_148, r273_149, r273_152, r273_155, r273_156, r273_159, r273_160, r273_163, r273_166, r273_167, r273_169, r273_170, r273_172, r273_174, r273_175, r273_178, r273_181, r273_183, r273_186, r273_187, r273_189, r273_190, r273_191, r273_192, r273_195, r273_197, r273_200, r273_203, r273_204, r273_205, r273_208, r273_209, r273_212, r273_215, r273_217, r273_220, r273_221, r273_224, r273_227, r273_228, r273_229, r273_232, r273_234, r273_235, r273_237, r273_240, r273_241, r273_244, r273_245, r273_248, g241, vf12_33, vf12_34, qa176, qo176, qa264, qo264, p241_66, ty12_66, p241_80, ty12_80, p241_81, ty12_81, vf12_77, t241_77, g284, p284, vf12_78, t241_78, g285, p285, qa268, qo268, qa269, qo269, vf12_80, qa272, qo272, qa266, qo266, vf12_81, List.getElem?_cons_zero, List.getElem?_cons_succ, List.length_cons, List.length_nil, ag_nx, ag_dn, ag_no, ag_if, jbr1, jbr2, jc1, jc2, jnul, jld, jsto, jstoL, jst1, jst2, jkill, jinc, jbI, jbL, jbS, juI, jl2i, jcmp, jisR, jisI, jisL, jret, jretv, jfits, jdup, jdup2, jpop, jmm, jcat, Value.category, jinv, jrcv, jthr, jhd, jput, jget, jlen, jald, jast, jaast, jgI, jgL, jgB, jtab, jlku, jacp, vf20, vf21, vf22, vf23, vf24, u2_s, u2_k, u2_i, uc_s, uc_k, uc_c, u2_c, LI0, LI1, LI2, LI3, LI4, LI5, LI6, LI7, LI8, LI9, LI10, LI11, LI12, LI13, LI14, LI15, LI16, LI17, LI18, LI19, LI20, LI21, LI22, LI23, LI24, LI25, LI26, LI27, LI28, LI29, LI30, LI31, LI32, LI33, LI34, LI35, LI36, LI37, LI40, LI42, LI43, LI45, LI48, LI60, LI61, LI64, LI80, LI300, LI400, LI1000, LI2000, LI2001, LI2047, LI2048, LI100000, LI1000000, LM, nI_clamp, nI_pos', nI_lt, nI_nlt, nI_le, nI_ge, nI_ne, nI_add, nI_sub, mI_lt, mI_le, mI_nlt, mI_nle, mI_ne, mI_ne', mI_nem, LI370, LI435, LI64, LI31, LI61, LI1001, e8, g81]
    · refine ⟨u2 (u2 I8 241 80 (nI 1000)) 241 81 (nI 0), ?_, ⟨wB_fr (fun c i h1 h2 => by rw [u2_k (by omega), u2_k (by omega)]) (by rw [u2_i (by omega), u2_i (by omega)]) w10.1, tR_fr (fun c i h1 h2 => by rw [u2_k (by omega), u2_k (by omega)]) (fun i h1 h2 => by rw [u2_i (by omega), u2_i (by omega)]) w10.2⟩, fun c j hc => by rw [u2_k (by omega), u2_k (by omega)]; exact fo c j hc, fun j hj => by rw [u2_i (by omega), u2_i (by omega)]; exact fi j hj, u2_s, fun j => by rw [u2_k (by omega), u2_k (by omega)]; exact f6 j, by rw [u2_i (by omega), u2_s]; rfl⟩
      have er : rcd 2 = mI 1 := rfl
      rw [er]
      have l2 : (-2 : Int32) = mI 2 := by decide
      simp (disch := omega) [r273_0, r273_1, r273_4, r273_5, r273_6, r273_9, r273_10, r273_13, r273_14, r273_16, r273_17, r273_18, r273_21, r273_22, r273_25, r273_26, r273_27, r273_30, r273_33, r273_34, r273_37, r273_40, r273_42, r273_45, r273_46, r273_49, r273_50, r273_52, r273_55, r273_56, r273_59, r273_60, r273_62, r273_63, r273_65, r273_68, r273_69, r273_72, r273_73, r273_76, r273_79, r273_80, r273_83, r273_84, r273_87, r273_90, r273_91, r273_92, r273_93, r273_96, r273_99, r273_100, r273_101, r273_104, r273_105, r273_106, r273_109, r273_110, r273_111, r273_114, r273_115, r273_116, r273_119, r273_120, r273_123, r273_124, r273_125, r273_126, r273_127, r273_130, r273_131, r273_132, r273_133, r273_134, r273_135, r273_138, r273_139, r273_141, r273_142, r273_143, r273_146, r273_147, r273_148, r273_149, r273_152, r273_155, r273_156, r273_159, r273_160, r273_163, r273_166, r273_167, r273_169, r273_170, r273_172, r273_174, r273_175, r273_178, r273_181, r273_183, r273_186, r273_187, r273_189, r273_190, r273_191, r273_192, r273_195, r273_197, r273_200, r273_203, r273_204, r273_205, r273_208, r273_209, r273_212, r273_215, r273_217, r273_220, r273_221, r273_224, r273_227, r273_228, r273_229, r273_232, r273_234, r273_235, r273_237, r273_240, r273_241, r273_244, r273_245, r273_248, g241, vf12_33, vf12_34, qa176, qo176, qa264, qo264, p241_66, ty12_66, p241_80, ty12_80, p241_81, ty12_81, vf12_77, t241_77, g284, p284, vf12_78, t241_78, g285, p285, qa268, qo268, qa269, qo269, vf12_80, qa272, qo272, qa266, qo266, vf12_81, List.getElem?_cons_zero, List.getElem?_cons_succ, List.length_cons, List.length_nil, ag_nx, ag_dn, ag_no, ag_if, jbr1, jbr2, jc1, jc2, jnul, jld, jsto, jstoL, jst1, jst2, jkill, jinc, jbI, jbL, jbS, juI, jl2i, jcmp, jisR, jisI, jisL, jret, jretv, jfits, jdup, jdup2, jpop, jmm, jcat, Value.category, jinv, jrcv, jthr, jhd, jput, jget, jlen, jald, jast, jaast, jgI, jgL, jgB, jtab, jlku, jacp, vf20, vf21, vf22, vf23, vf24, u2_s, u2_k, u2_i, uc_s, uc_k, uc_c, u2_c, LI0, LI1, LI2, LI3, LI4, LI5, LI6, LI7, LI8, LI9, LI10, LI11, LI12, LI13, LI14, LI15, LI16, LI17, LI18, LI19, LI20, LI21, LI22, LI23, LI24, LI25, LI26, LI27, LI28, LI29, LI30, LI31, LI32, LI33, LI34, LI35, LI36, LI37, LI40, LI42, LI43, LI45, LI48, LI60, LI61, LI64, LI80, LI300, LI400, LI1000, LI2000, LI2001, LI2047, LI2048, LI100000, LI1000000, LM, nI_clamp, nI_pos', nI_lt, nI_nlt, nI_le, nI_ge, nI_ne, nI_add, nI_sub, mI_lt, mI_le, mI_nlt, mI_nle, mI_ne, mI_ne', mI_nem, LI370, LI435, LI64, LI31, LI61, LI1001, e8, l2]
  have em : mI 1 = (-1 : Int32) := by decide
  by_cases cl : bLk rN N wt p s W = true
  · rw [if_pos cl] at e6
    have hb0 : bW0 rN N wt p s W = (1, [], [(bz W, -1, -1)]) := by unfold bW0; rw [if_pos cl]
    have h80 : I6 241 80 = nI 1 := Z6.2.2.1.1
    obtain ⟨I8, e8, c1, c2, c3, c4, c5, c6⟩ := fin I6 1 1 0 (some (.int (nI 0))) _ (by omega) fZ_refl Z6 h80 z81
    refine ⟨I8, _, hb0.symm, ?_, c1, c2, c3, c4, fun j hj => by simp at hj, c6⟩
    rw [e6]
    have er : rcd 1 = nI 1 := rfl
    rw [er] at e8
    have ex : M273 A (d + 17 + ED) 172 [some (.ref (b + 241)), some (.int (nI wt)), some (.int p), some (.int s), some (.int y4), some (.int (nI 1)), some (.int (nI 0))] [] (jH h b X I6 J R n) = M273 A (d + 17 + ED) 203 [some (.ref (b + 241)), some (.int (nI wt)), some (.int p), some (.int s), some (.int y4), some (.int (nI 1)), some (.int (nI 0))] [] (jH h b X I6 J R n) := by
      conv => lhs; rw [r273_172]
      simp (disch := omega) [r273_0, r273_1, r273_4, r273_5, r273_6, r273_9, r273_10, r273_13, r273_14, r273_16, r273_17, r273_18, r273_21, r273_22, r273_25, r273_26, r273_27, r273_30, r273_33, r273_34, r273_37, r273_40, r273_42, r273_45, r273_46, r273_49, r273_50, r273_52, r273_55, r273_56, r273_59, r273_60, r273_62, r273_63, r273_65, r273_68, r273_69, r273_72, r273_73, r273_76, r273_79, r273_80, r273_83, r273_84, r273_87, r273_90, r273_91, r273_92, r273_93, r273_96, r273_99, r273_100, r273_101, r273_104, r273_105, r273_106, r273_109, r273_110, r273_111, r273_114, r273_115, r273_116, r273_119, r273_120, r273_123, r273_124, r273_125, r273_126, r273_127, r273_130, r273_131, r273_132, r273_133, r273_134, r273_135, r273_138, r273_139, r273_141, r273_142, r273_143, r273_146, r273_147, r273_148, r273_149, r273_152, r273_155, r273_156, r273_159, r273_160, r273_163, r273_166, r273_167, r273_169, r273_170, r273_174, r273_175, r273_178, r273_181, r273_183, r273_186, r273_187, r273_189, r273_190, r273_191, r273_192, r273_195, r273_197, r273_200, r273_204, r273_205, r273_208, r273_209, r273_212, r273_215, r273_217, r273_220, r273_221, r273_224, r273_227, r273_228, r273_229, r273_232, r273_234, r273_235, r273_237, r273_240, r273_241, r273_244, r273_245, r273_248, g241, vf12_33, vf12_34, qa176, qo176, qa264, qo264, p241_66, ty12_66, p241_80, ty12_80, p241_81, ty12_81, vf12_77, t241_77, g284, p284, vf12_78, t241_78, g285, p285, qa268, qo268, qa269, qo269, vf12_80, qa272, qo272, qa266, qo266, vf12_81, List.getElem?_cons_zero, List.getElem?_cons_succ, List.length_cons, List.length_nil, ag_nx, ag_dn, ag_no, ag_if, jbr1, jbr2, jc1, jc2, jnul, jld, jsto, jstoL, jst1, jst2, jkill, jinc, jbI, jbL, jbS, juI, jl2i, jcmp, jisR, jisI, jisL, jret, jretv, jfits, jdup, jdup2, jpop, jmm, jcat, Value.category, jinv, jrcv, jthr, jhd, jput, jget, jlen, jald, jast, jaast, jgI, jgL, jgB, jtab, jlku, jacp, vf20, vf21, vf22, vf23, vf24, u2_s, u2_k, u2_i, uc_s, uc_k, uc_c, u2_c, LI0, LI1, LI2, LI3, LI4, LI5, LI6, LI7, LI8, LI9, LI10, LI11, LI12, LI13, LI14, LI15, LI16, LI17, LI18, LI19, LI20, LI21, LI22, LI23, LI24, LI25, LI26, LI27, LI28, LI29, LI30, LI31, LI32, LI33, LI34, LI35, LI36, LI37, LI40, LI42, LI43, LI45, LI48, LI60, LI61, LI64, LI80, LI300, LI400, LI1000, LI2000, LI2001, LI2047, LI2048, LI100000, LI1000000, LM, nI_clamp, nI_pos', nI_lt, nI_nlt, nI_le, nI_ge, nI_ne, nI_add, nI_sub, mI_lt, mI_le, mI_nlt, mI_nle, mI_ne, mI_ne', mI_nem, LI370, LI435, LI64, LI31, LI61, LI1001, h80]
    rw [ex, e8]
    rfl
  · rw [if_neg cl] at e6
    obtain ⟨I7, z, c6, hz, e7, Z7, f7, t7, u7, l7⟩ := r273l (A := A) (d := d) (b := b) (h := h) (X := X) (J := J) (R := R) (n := n) (p := p) (s := s) (y4 := y4) hj hvN (by omega) (by omega) hD hwt 1000 0 _ I6 (by omega) Z6
    have hb0 : bW0 rN N wt p s W = (z.1, if z.1 = 1 then bRw z.2.2.2 z.2.1 z.2.2.1 else [], z.2.2.2) := by
      unfold bW0
      rw [if_neg cl]
      simp only
      rw [hz, em]
    by_cases c1 : z.1 = 1
    · obtain ⟨t1, t2, t3⟩ := t7 c1
      obtain ⟨I8, e8, d1, d2, d3, d4, d5', d6⟩ := fin I7 z.1 z.2.2.2.length (bRw z.2.2.2 z.2.1 z.2.2.1).length c6 _ l7 f7 Z7 Z7.2.2.1.1 t1
      rw [if_pos c1] at hb0
      refine ⟨I8, _, hb0.symm, ?_, d1, d2, d3, ?_, fun j hj => by rw [d5' j]; exact t3 j hj, d6⟩
      · rw [e6, e7, e8]
      · rw [d4, if_neg (by omega)]
    · have q81 : I7 241 81 = nI 0 := (u7 c1).trans z81
      obtain ⟨I8, e8, d1, d2, d3, d4, d5', d6⟩ := fin I7 z.1 z.2.2.2.length 0 c6 _ l7 f7 Z7 Z7.2.2.1.1 q81
      rw [if_neg c1] at hb0
      refine ⟨I8, _, hb0.symm, ?_, d1, d2, d3, ?_, fun j hj => by simp at hj, d6⟩
      · rw [e6, e7, e8]
        rfl
      · rw [d4]
        by_cases c2 : z.1 = 2
        · rw [if_pos c2]; rfl
        · rw [if_neg c2]; rfl
end RWW
