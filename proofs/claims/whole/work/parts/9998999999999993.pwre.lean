/-! walk: unlay, whole -/
/-- instance k stands as in the row D from g on -/
def uI (D : Nat → Int32) (g k : Nat) (now : Int32) (I : Nat → Nat → Int32) : Prop := (I 260 k = D g ∧ I 261 k = D (g + 1) ∧ I 262 k = D (g + 2) ∧ I 263 k = D (g + 3) ∧ I 264 k = D (g + 4) ∧ I 265 k = D (g + 5)) ∧ (∀ j, j < 6 → I 266 (6 * k + j) = D (g + 6 + j)) ∧ I 267 k = D (g + 12) ∧ (∀ m, m < 8 → I 268 (8 * k + m) = D (g + 13 + 3 * m) ∧ I 269 (8 * k + m) = D (g + 13 + 3 * m + 1) ∧ I 270 (8 * k + m) = D (g + 13 + 3 * m + 2)) ∧ I 272 k = D (g + 37) ∧ ∀ m, m < 4 → I 273 (4 * k + m) = D (g + 38 + 2 * m) ∧ I 274 (4 * k + m) = D (g + 38 + 2 * m + 1) + now
/-- nothing but instances from k on, and the cursor -/
def onU (k : Nat) (I I' : Nat → Nat → Int32) : Prop := (∀ c j, ¬ (260 ≤ c ∧ c ≤ 274) → ¬ (c = 241 ∧ j = 82) → I' c j = I c j) ∧ (∀ j, I' 271 j = I 271 j) ∧ (∀ c j, 260 ≤ c → c ≤ 265 ∨ c = 267 ∨ c = 272 → j < k → I' c j = I c j) ∧ (∀ j, j < 6 * k → I' 266 j = I 266 j) ∧ (∀ c j, 268 ≤ c → c ≤ 270 → j < 8 * k → I' c j = I c j) ∧ ∀ c j, 273 ≤ c → c ≤ 274 → j < 4 * k → I' c j = I c j
theorem onU_trans {k : Nat} {I I1 I2 : Nat → Nat → Int32} (h : onU k I I1) (h2 : onU (k + 1) I1 I2) : onU k I I2 :=
  ⟨fun c j a1 a2 => (h2.1 c j a1 a2).trans (h.1 c j a1 a2), fun j => (h2.2.1 j).trans (h.2.1 j), fun c j a1 a2 a3 => (h2.2.2.1 c j a1 a2 (by omega)).trans (h.2.2.1 c j a1 a2 a3), fun j a1 => (h2.2.2.2.1 j (by omega)).trans (h.2.2.2.1 j a1), fun c j a1 a2 a3 => (h2.2.2.2.2.1 c j a1 a2 (by omega)).trans (h.2.2.2.2.1 c j a1 a2 a3), fun c j a1 a2 a3 => (h2.2.2.2.2.2 c j a1 a2 (by omega)).trans (h.2.2.2.2.2 c j a1 a2 a3)⟩
theorem uI_fr {D : Nat → Int32} {g k k' : Nat} {now : Int32} {I I' : Nat → Nat → Int32} (h : uI D g k now I) (ho : onU k' I I') (hk : k < k') : uI D g k now I' := by
  obtain ⟨_, _, o3, o4, o5, o6⟩ := ho
  obtain ⟨⟨a0, a1, a2, a3, a4, a5⟩, b, c, e, f, i⟩ := h
  refine ⟨⟨?_, ?_, ?_, ?_, ?_, ?_⟩, fun j hj => ?_, ?_, fun m hm => ?_, ?_, fun m hm => ?_⟩
  · rw [o3 260 k (by omega) (by omega) hk]; exact a0
  · rw [o3 261 k (by omega) (by omega) hk]; exact a1
  · rw [o3 262 k (by omega) (by omega) hk]; exact a2
  · rw [o3 263 k (by omega) (by omega) hk]; exact a3
  · rw [o3 264 k (by omega) (by omega) hk]; exact a4
  · rw [o3 265 k (by omega) (by omega) hk]; exact a5
  · rw [o4 _ (by omega)]; exact b j hj
  · rw [o3 267 k (by omega) (by omega) hk]; exact c
  · rw [o5 268 _ (by omega) (by omega) (by omega), o5 269 _ (by omega) (by omega) (by omega), o5 270 _ (by omega) (by omega) (by omega)]; exact e m hm
  · rw [o3 272 k (by omega) (by omega) hk]; exact f
  · rw [o6 273 _ (by omega) (by omega) (by omega), o6 274 _ (by omega) (by omega) (by omega)]; exact i m hm
section RG2
variable {A : Nat → Nat} {d b n : Nat} {h : Nat → Option jC} {X : jXX} {J : Nat → Nat → Int64} {R : Nat → Nat → Nat} {rN : Int32 → Nm} {k r : Nat} {now : Int32}
theorem r266i {I : Nat → Nat → Int32} {g M : Nat} {c3 c4 : Option Value} (k8 : k < 8) (h38 : I 241 38 = now) (hg : g + 46 ≤ 435870) (h82 : I 241 82 = nI g) (h36 : I 241 36 = nI M) (hM : M ≤ 8) (hkM : k < M) : ∃ I' c4', M266 A (d + 1) 46 [some (.ref (b + 241)), some (.int (nI r)), some (.int (nI (k))), c3, c4] [] (jH h b X I J R n) = M266 A (d + 1) 46 [some (.ref (b + 241)), some (.int (nI r)), some (.int (nI (k + 1))), some (.int (nI (4))), c4'] [] (jH h b X I' J R n) ∧ I' 241 82 = nI (g + 46) ∧ onU k I I' ∧ uI (I 282) g k now I' := by
  obtain ⟨S1, hS1⟩ : ∃ S, S = gs I (g) 260 k (I 282 (g + 0)) := ⟨_, rfl⟩
  have cu1 : S1 241 82 = nI (g + 1) := by rw [hS1]; exact gs_c (by omega)
  have d1 : ∀ j, S1 282 j = I 282 j := fun j => by rw [hS1, gs_k (by omega) (by omega)]
  obtain ⟨S2, hS2⟩ : ∃ S, S = gs S1 (g + 1) 261 k (I 282 (g + 1)) := ⟨_, rfl⟩
  have cu2 : S2 241 82 = nI (g + 1 + 1) := by rw [hS2]; exact gs_c (by omega)
  have d2 : ∀ j, S2 282 j = I 282 j := fun j => by rw [hS2, gs_k (by omega) (by omega)]; exact d1 j
  obtain ⟨S3, hS3⟩ : ∃ S, S = gs S2 (g + 1 + 1) 262 k (I 282 (g + 2)) := ⟨_, rfl⟩
  have cu3 : S3 241 82 = nI (g + 1 + 1 + 1) := by rw [hS3]; exact gs_c (by omega)
  have d3 : ∀ j, S3 282 j = I 282 j := fun j => by rw [hS3, gs_k (by omega) (by omega)]; exact d2 j
  obtain ⟨S4, hS4⟩ : ∃ S, S = gs S3 (g + 1 + 1 + 1) 263 k (I 282 (g + 3)) := ⟨_, rfl⟩
  have cu4 : S4 241 82 = nI (g + 1 + 1 + 1 + 1) := by rw [hS4]; exact gs_c (by omega)
  have d4 : ∀ j, S4 282 j = I 282 j := fun j => by rw [hS4, gs_k (by omega) (by omega)]; exact d3 j
  obtain ⟨S5, hS5⟩ : ∃ S, S = gs S4 (g + 1 + 1 + 1 + 1) 264 k (I 282 (g + 4)) := ⟨_, rfl⟩
  have cu5 : S5 241 82 = nI (g + 1 + 1 + 1 + 1 + 1) := by rw [hS5]; exact gs_c (by omega)
  have d5 : ∀ j, S5 282 j = I 282 j := fun j => by rw [hS5, gs_k (by omega) (by omega)]; exact d4 j
  obtain ⟨S6, hS6⟩ : ∃ S, S = gs S5 (g + 1 + 1 + 1 + 1 + 1) 265 k (I 282 (g + 5)) := ⟨_, rfl⟩
  have cu6 : S6 241 82 = nI (g + 1 + 1 + 1 + 1 + 1 + 1) := by rw [hS6]; exact gs_c (by omega)
  have d6 : ∀ j, S6 282 j = I 282 j := fun j => by rw [hS6, gs_k (by omega) (by omega)]; exact d5 j
  have e1 := r265 (d := d) (A := A) (b := b) (h := h) (X := X) (J := J) (R := R) (n := n) h82 (by omega)
  have e2 := r265 (d := d) (A := A) (b := b) (h := h) (X := X) (J := J) (R := R) (n := n) cu1 (by omega)
  rw [d1, show g + 1 = g + 1 by omega] at e2
  have e3 := r265 (d := d) (A := A) (b := b) (h := h) (X := X) (J := J) (R := R) (n := n) cu2 (by omega)
  rw [d2, show g + 1 + 1 = g + 2 by omega] at e3
  have e4 := r265 (d := d) (A := A) (b := b) (h := h) (X := X) (J := J) (R := R) (n := n) cu3 (by omega)
  rw [d3, show g + 1 + 1 + 1 = g + 3 by omega] at e4
  have e5 := r265 (d := d) (A := A) (b := b) (h := h) (X := X) (J := J) (R := R) (n := n) cu4 (by omega)
  rw [d4, show g + 1 + 1 + 1 + 1 = g + 4 by omega] at e5
  have e6 := r265 (d := d) (A := A) (b := b) (h := h) (X := X) (J := J) (R := R) (n := n) cu5 (by omega)
  rw [d5, show g + 1 + 1 + 1 + 1 + 1 = g + 5 by omega] at e6
  have fS : ∀ c j, ¬ (260 ≤ c ∧ c ≤ 265) → ¬ (c = 241 ∧ j = 82) → S6 c j = I c j := fun c j h1 h2 => by
    rw [hS6, hS5, hS4, hS3, hS2, hS1]
    unfold gs
    simp only [u2_ap]
    rw [if_neg (by omega), if_neg h2, if_neg (by omega), if_neg h2, if_neg (by omega), if_neg h2, if_neg (by omega), if_neg h2, if_neg (by omega), if_neg h2, if_neg (by omega), if_neg h2]
  have jS : ∀ c j, 260 ≤ c → c ≤ 265 → j ≠ k → S6 c j = I c j := fun c j h1 h2 h3 => by
    rw [hS6, hS5, hS4, hS3, hS2, hS1]
    unfold gs
    simp only [u2_ap]
    rw [if_neg (by omega), if_neg (by omega), if_neg (by omega), if_neg (by omega), if_neg (by omega), if_neg (by omega), if_neg (by omega), if_neg (by omega), if_neg (by omega), if_neg (by omega), if_neg (by omega), if_neg (by omega)]
  have vS : S6 260 k = I 282 g ∧ S6 261 k = I 282 (g + 1) ∧ S6 262 k = I 282 (g + 2) ∧ S6 263 k = I 282 (g + 3) ∧ S6 264 k = I 282 (g + 4) ∧ S6 265 k = I 282 (g + 5) := by
    refine ⟨?_, ?_, ?_, ?_, ?_, ?_⟩
    · rw [hS6, gs_k (by omega) (by omega), hS5, gs_k (by omega) (by omega), hS4, gs_k (by omega) (by omega), hS3, gs_k (by omega) (by omega), hS2, gs_k (by omega) (by omega), hS1, gs_s]
      rfl
    · rw [hS6, gs_k (by omega) (by omega), hS5, gs_k (by omega) (by omega), hS4, gs_k (by omega) (by omega), hS3, gs_k (by omega) (by omega), hS2, gs_s]
    · rw [hS6, gs_k (by omega) (by omega), hS5, gs_k (by omega) (by omega), hS4, gs_k (by omega) (by omega), hS3, gs_s]
    · rw [hS6, gs_k (by omega) (by omega), hS5, gs_k (by omega) (by omega), hS4, gs_s]
    · rw [hS6, gs_k (by omega) (by omega), hS5, gs_s]
    · rw [hS6, gs_s]
  obtain ⟨I1, f1, q1, o1, p1, w1⟩ := r266a (d := d) (A := A) (b := b) (h := h) (X := X) (J := J) (R := R) (n := n) (r := r) (c4 := c4) k8 6 0 (g + 6) S6 (by omega) (by omega) (by rw [cu6])
  have y1 : ∀ j, I1 282 j = I 282 j := fun j => by rw [o1 _ _ (by omega) (by omega)]; exact d6 j
  have e7 := r265 (d := d) (A := A) (b := b) (h := h) (X := X) (J := J) (R := R) (n := n) q1 (by omega)
  rw [y1] at e7
  obtain ⟨S7, hS7⟩ : ∃ S, S = gs I1 (g + 6 + 6) 267 k (I 282 (g + 6 + 6)) := ⟨_, rfl⟩
  have y7 : ∀ j, S7 282 j = I 282 j := fun j => by rw [hS7, gs_k (by omega) (by omega)]; exact y1 j
  obtain ⟨I2, c4', f2, q2, o2, p2, w2⟩ := r266b (d := d) (A := A) (b := b) (h := h) (X := X) (J := J) (R := R) (n := n) (r := r) k8 8 0 (g + 13) S7 c4 (by omega) (by omega) (by rw [hS7, gs_c (by omega)])
  have y2 : ∀ j, I2 282 j = I 282 j := fun j => by rw [o2 _ _ (by omega) (by omega)]; exact y7 j
  have e8 := r265 (d := d) (A := A) (b := b) (h := h) (X := X) (J := J) (R := R) (n := n) q2 (by omega)
  rw [y2] at e8
  obtain ⟨S8, hS8⟩ : ∃ S, S = gs I2 (g + 13 + 24) 272 k (I 282 (g + 13 + 24)) := ⟨_, rfl⟩
  have y8 : ∀ j, S8 282 j = I 282 j := fun j => by rw [hS8, gs_k (by omega) (by omega)]; exact y2 j
  have n8 : S8 241 38 = now := by rw [hS8, gs_f (by omega) (by omega), o2 _ _ (by omega) (by omega), hS7, gs_f (by omega) (by omega), o1 _ _ (by omega) (by omega), fS _ _ (by omega) (by omega)]; exact h38
  obtain ⟨I3, f3, q3, o3, p3, w3⟩ := r266c (d := d) (A := A) (b := b) (h := h) (X := X) (J := J) (R := R) (n := n) (r := r) (now := now) (c4 := c4') k8 4 0 (g + 38) S8 n8 (by omega) (by omega) (by rw [hS8, gs_c (by omega)])
  have t8 : ∀ c j, c ≠ 272 → ¬ (c = 241 ∧ j = 82) → S8 c j = I2 c j := fun c j h1 h2 => by
    rw [hS8]; unfold gs; simp only [u2_ap]; rw [if_neg (fun z => h1 z.1), if_neg h2]
  have t7 : ∀ c j, c ≠ 267 → ¬ (c = 241 ∧ j = 82) → S7 c j = I1 c j := fun c j h1 h2 => by
    rw [hS7]; unfold gs; simp only [u2_ap]; rw [if_neg (fun z => h1 z.1), if_neg h2]
  refine ⟨I3, c4', ?_, q3, ⟨fun c j a1 a2 => ?_, fun j => ?_, fun c j a1 a2 a3 => ?_, fun j a1 => ?_, fun c j a1 a2 a3 => ?_, fun c j a1 a2 a3 => ?_⟩, ⟨?_, fun j hj => ?_, ?_, fun m hm => ?_, ?_, fun m hm => ?_⟩⟩
  · rw [hS6, hS5, hS4, hS3, hS2, hS1] at f1
    rw [hS5, hS4, hS3, hS2, hS1] at e6
    rw [hS4, hS3, hS2, hS1] at e5
    rw [hS3, hS2, hS1] at e4
    rw [hS2, hS1] at e3
    rw [hS1] at e2
    rw [hS7] at f2
    rw [hS8] at f3
    rw [show g + 13 + 24 = g + 37 by omega] at f3 e8
    rw [show g + 6 + 6 = g + 12 by omega] at f2 e7
    unfold gs at e2 e3 e4 e5 e6 f1 f2 f3
    have z0 : g + 0 = g := rfl
    simp only [Nat.add_zero] at e2 e3 e4 e5 e6 f1
    conv => lhs; rw [r266_46]
    simp (disch := omega) [r266_0, r266_1, r266_2, r266_5, r266_6, r266_9, r266_10, r266_11, r266_14, r266_15, r266_18, r266_21, r266_22, r266_23, r266_24, r266_25, r266_28, r266_29, r266_30, r266_33, r266_36, r266_37, r266_38, r266_41, r266_44, r266_45, r266_47, r266_48, r266_51, r266_54, r266_55, r266_58, r266_59, r266_60, r266_63, r266_64, r266_65, r266_68, r266_69, r266_70, r266_73, r266_74, r266_75, r266_78, r266_79, r266_80, r266_83, r266_84, r266_85, r266_88, r266_89, r266_90, r266_93, r266_94, r266_95, r266_98, r266_99, r266_100, r266_103, r266_104, r266_105, r266_108, r266_109, r266_110, r266_113, r266_114, r266_115, r266_117, r266_119, r266_122, r266_123, r266_126, r266_127, r266_129, r266_130, r266_131, r266_132, r266_133, r266_136, r266_137, r266_140, r266_143, r266_144, r266_147, r266_148, r266_149, r266_152, r266_153, r266_154, r266_156, r266_158, r266_161, r266_162, r266_164, r266_165, r266_166, r266_167, r266_169, r266_170, r266_173, r266_175, r266_176, r266_179, r266_180, r266_181, r266_184, r266_186, r266_187, r266_190, r266_191, r266_192, r266_195, r266_197, r266_198, r266_201, r266_202, r266_205, r266_208, r266_209, r266_212, r266_213, r266_214, r266_217, r266_218, r266_219, r266_221, r266_222, r266_225, r266_226, r266_229, r266_230, r266_231, r266_232, r266_233, r266_234, r266_235, r266_238, r266_239, r266_240, r266_243, r266_244, r266_245, r266_246, r266_247, r266_248, r266_249, r266_252, r266_253, r266_256, r266_257, r266_258, r266_261, r266_264, r266_267, r266_270, r266_271, r266_272, r266_275, r266_276, r266_279, r266_280, r266_283, r266_284, r266_285, r266_286, r266_288, r266_291, r266_292, r266_295, r266_296, r266_297, r266_300, r266_301, r266_304, r266_307, g241, p241_82, ty12_82, vf12_75, t241_75, g282, p282, vf12_82, p241_38, ty12_38, qa265, qo265, p241_36, ty12_36, p241_37, ty12_37, vf12_36, vf12_42, t241_42, g260, p260, vf12_43, t241_43, g261, p261, vf12_44, t241_44, g262, p262, vf12_45, t241_45, g263, p263, vf12_46, t241_46, g264, p264, vf12_47, t241_47, g265, p265, vf12_48, t241_48, g266, p266, vf12_49, t241_49, g267, p267, vf12_50, t241_50, g268, p268, vf12_51, t241_51, g269, p269, vf12_52, t241_52, g270, p270, vf12_54, t241_54, g272, p272, vf12_55, t241_55, g273, p273, vf12_56, t241_56, g274, p274, vf12_38, vf12_53, t241_53, g271, p271, List.getElem?_cons_zero, List.getElem?_cons_succ, List.length_cons, List.length_nil, ag_nx, ag_dn, ag_no, ag_if, jbr1, jbr2, jc1, jc2, jnul, jld, jsto, jstoL, jst1, jst2, jkill, jinc, jbI, jbL, jbS, juI, jl2i, jcmp, jisR, jisI, jisL, jret, jretv, jfits, jdup, jdup2, jpop, jmm, jcat, Value.category, jinv, jrcv, jthr, jhd, jput, jget, jlen, jald, jast, jaast, jgI, jgL, jgB, jtab, jlku, jacp, vf20, vf21, vf22, vf23, vf24, u2_s, u2_k, u2_i, uc_s, uc_k, uc_c, u2_c, LI0, LI1, LI2, LI3, LI4, LI5, LI6, LI7, LI8, LI9, LI10, LI11, LI12, LI13, LI14, LI15, LI16, LI17, LI18, LI19, LI20, LI21, LI22, LI23, LI24, LI25, LI26, LI27, LI28, LI29, LI30, LI31, LI32, LI33, LI34, LI35, LI36, LI37, LI40, LI42, LI43, LI45, LI48, LI60, LI61, LI64, LI80, LI300, LI400, LI1000, LI2000, LI2001, LI2047, LI2048, LI100000, LI1000000, LM, nI_clamp, nI_pos', nI_lt, nI_nlt, nI_le, nI_ge, nI_ne, nI_add, nI_sub, mI_lt, mI_le, mI_nlt, mI_nle, mI_ne, mI_ne', mI_nem, LI370, LI435, LI64, LI31, LI61, h36, hkM, k8, e1, e2, e3, e4, e5, e6, f1, e7, f2, e8, f3]
  · rw [o3 c j (by omega) a2, t8 c j (by omega) a2, o2 c j (by omega) a2, t7 c j (by omega) a2, o1 c j (by omega) a2, fS c j (by omega) a2]
  · rw [o3 271 j (by omega) (by omega), t8 271 j (by omega) (by omega), o2 271 j (by omega) (by omega), t7 271 j (by omega) (by omega), o1 271 j (by omega) (by omega), fS 271 j (by omega) (by omega)]
  · rw [o3 c j (by omega) (by omega)]
    by_cases c2 : c = 272
    · subst c2
      rw [hS8, gs_i (by omega) (by omega), o2 _ j (by omega) (by omega), t7 _ j (by omega) (by omega), o1 _ j (by omega) (by omega), fS _ j (by omega) (by omega)]
    · rw [t8 c j c2 (by omega), o2 c j (by omega) (by omega)]
      by_cases c3 : c = 267
      · subst c3
        rw [hS7, gs_i (by omega) (by omega), o1 _ j (by omega) (by omega), fS _ j (by omega) (by omega)]
      · rw [t7 c j c3 (by omega), o1 c j (by omega) (by omega), jS c j (by omega) (by omega) (by omega)]
  · rw [o3 _ j (by omega) (by omega), t8 _ j (by omega) (by omega), o2 _ j (by omega) (by omega), t7 _ j (by omega) (by omega), p1 j (by omega), fS _ j (by omega) (by omega)]
  · rw [o3 c j (by omega) (by omega), t8 c j (by omega) (by omega), p2 c j a1 a2 (by omega), t7 c j (by omega) (by omega), o1 c j (by omega) (by omega), fS c j (by omega) (by omega)]
  · rw [p3 c j a1 a2 (by omega), t8 c j (by omega) (by omega), o2 c j (by omega) (by omega), t7 c j (by omega) (by omega), o1 c j (by omega) (by omega), fS c j (by omega) (by omega)]
  · have z : ∀ c, 260 ≤ c → c ≤ 265 → I3 c k = S6 c k := fun c h1 h2 => by rw [o3 c k (by omega) (by omega), t8 c k (by omega) (by omega), o2 c k (by omega) (by omega), t7 c k (by omega) (by omega), o1 c k (by omega) (by omega)]
    rw [z 260 (by omega) (by omega), z 261 (by omega) (by omega), z 262 (by omega) (by omega), z 263 (by omega) (by omega), z 264 (by omega) (by omega), z 265 (by omega) (by omega)]
    exact vS
  · rw [o3 _ _ (by omega) (by omega), t8 _ _ (by omega) (by omega), o2 _ _ (by omega) (by omega), t7 _ _ (by omega) (by omega), w1 j (by omega) hj, d6]
  · rw [o3 _ _ (by omega) (by omega), t8 _ _ (by omega) (by omega), o2 _ _ (by omega) (by omega), hS7, gs_s]
  · obtain ⟨b1, b2, b3⟩ := w2 m (by omega) hm
    rw [o3 _ _ (by omega) (by omega), t8 _ _ (by omega) (by omega), o3 269 _ (by omega) (by omega), t8 269 _ (by omega) (by omega), o3 270 _ (by omega) (by omega), t8 270 _ (by omega) (by omega), b1, b2, b3, y7, y7, y7]
    exact ⟨rfl, rfl, rfl⟩
  · rw [o3 _ _ (by omega) (by omega), hS8, gs_s]
  · obtain ⟨b1, b2⟩ := w3 m (by omega) hm
    rw [b1, b2, y8, y8]
    exact ⟨rfl, rfl⟩
end RG2
