/-! walk: a state is laid into a row of the reference -/
def qW (rN : Int32 → Nm) (D : Nat → Int32) (f : Nat) (W : aW Nm) : Prop := D f = nI W.1.length ∧ D (f + 1) = W.2.1.1 ∧ (∀ k a, W.1[k]? = some a → qI rN D (f + 2 + 46 * k) W.2.1.2.1 a) ∧ (∀ i, 2 + 46 * W.1.length ≤ i → i < 370 → D (f + i) = 0) ∧ D (f + 434) = W.2.1.2.1
def hrF (D : Nat → Int32) : Nat → Nat → Int32 → Int32
  | 0, _, x => x
  | r + 1, i, x => hrF D r (i + 1) (nI 31 * x + D i)
theorem hrF_congr {D D' : Nat → Int32} : ∀ (r i i' : Nat) (x : Int32), (∀ j, j < r → D (i + j) = D' (i' + j)) → hrF D r i x = hrF D' r i' x := by
  intro r
  induction r with
  | zero => intro i i' x _; rfl
  | succ r ih =>
    intro i i' x hj
    unfold hrF
    have := hj 0 (by omega)
    rw [Nat.add_zero, Nat.add_zero] at this
    rw [this]
    exact ih _ _ _ (fun j hl => by
      have := hj (j + 1) (by omega)
      rw [show i + 1 + j = i + (j + 1) by omega, show i' + 1 + j = i' + (j + 1) by omega]
      exact this)
section RLY
variable {A : Nat → Nat} {d b n : Nat} {h : Nat → Option jC} {X : jXX} {J : Nat → Nat → Int64} {R : Nat → Nat → Nat} {rN : Int32 → Nm} {a : aI Nm} {k : Nat} {r0 now : Int32} {l : Bool}
theorem r264i {I : Nat → Nat → Int32} {g M : Nat} {c3 c4 c5 : Option Value} (k8 : k < 8) (hA : iR rN I k a) (hv : a.2.1.length ≤ 6) (hQ : a.2.2.1.length ≤ 8) (hT : a.2.2.2.length ≤ 4) (h38 : I 241 38 = now) (hg : g + 46 ≤ 435870) (h82 : I 241 82 = nI g) (h36 : I 241 36 = nI M) (hM : M ≤ 8) (hkM : k < M) : ∃ I' c4' c5', M264 A (d + 1) 27 [some (.ref (b + 241)), some (.int r0), some (.int (nI (k))), c3, c4, c5] [] (jH h b X I J R n) = M264 A (d + 1) 27 [some (.ref (b + 241)), some (.int r0), some (.int (nI (k + 1))), some (.int (nI (4))), c4', c5'] [] (jH h b X I' J R n) ∧ I' 241 82 = nI (g + 46) ∧ onL I I' ∧ (∀ j, j < g ∨ g + 46 ≤ j → I' 282 j = I 282 j) ∧ qI rN (I' 282) g now a := by
  obtain ⟨h1, ⟨h2, h2'⟩, h3, h4, h5, h6⟩ := hA
  have e1 := r263 (d := d) (A := A) (b := b) (h := h) (X := X) (J := J) (R := R) (n := n) (v := I 260 k) h82 (by omega)
  have e2 := r263 (d := d) (A := A) (b := b) (h := h) (X := X) (J := J) (R := R) (n := n) (I := pu I g (I 260 k)) (q := g + 1) (v := I 261 k) pu_c (by omega)
  have e3 := r263 (d := d) (A := A) (b := b) (h := h) (X := X) (J := J) (R := R) (n := n) (I := pu (pu I g (I 260 k)) (g + 1) (I 261 k)) (q := g + 1 + 1) (v := I 262 k) pu_c (by omega)
  have e4 := r263 (d := d) (A := A) (b := b) (h := h) (X := X) (J := J) (R := R) (n := n) (I := pu (pu (pu I g (I 260 k)) (g + 1) (I 261 k)) (g + 1 + 1) (I 262 k)) (q := g + 1 + 1 + 1) (v := I 263 k) pu_c (by omega)
  have e5 := r263 (d := d) (A := A) (b := b) (h := h) (X := X) (J := J) (R := R) (n := n) (I := pu (pu (pu (pu I g (I 260 k)) (g + 1) (I 261 k)) (g + 1 + 1) (I 262 k)) (g + 1 + 1 + 1) (I 263 k)) (q := g + 1 + 1 + 1 + 1) (v := I 264 k) pu_c (by omega)
  have e6 := r263 (d := d) (A := A) (b := b) (h := h) (X := X) (J := J) (R := R) (n := n) (I := pu (pu (pu (pu (pu I g (I 260 k)) (g + 1) (I 261 k)) (g + 1 + 1) (I 262 k)) (g + 1 + 1 + 1) (I 263 k)) (g + 1 + 1 + 1 + 1) (I 264 k)) (q := g + 1 + 1 + 1 + 1 + 1) (v := I 265 k) pu_c (by omega)
  obtain ⟨S, hS⟩ : ∃ S, S = pu (pu (pu (pu (pu (pu I g (I 260 k)) (g + 1) (I 261 k)) (g + 1 + 1) (I 262 k)) (g + 1 + 1 + 1) (I 263 k)) (g + 1 + 1 + 1 + 1) (I 264 k)) (g + 1 + 1 + 1 + 1 + 1) (I 265 k) := ⟨_, rfl⟩
  have oS : onL I S := by rw [hS]; exact onL_trans (onL_trans (onL_trans (onL_trans (onL_trans onL_pu onL_pu) onL_pu) onL_pu) onL_pu) onL_pu
  have cS' : S 241 82 = nI (g + 6 + 0) := by rw [hS]; exact pu_c
  have vS : ∀ j, j < g ∨ g + 6 ≤ j → S 282 j = I 282 j := fun j hj => by rw [hS, pu_n (by omega), pu_n (by omega), pu_n (by omega), pu_n (by omega), pu_n (by omega), pu_n (by omega)]
  obtain ⟨I1, f1, c1, o1, q1⟩ := r264a (d := d) (A := A) (b := b) (h := h) (X := X) (J := J) (R := R) (n := n) (r0 := r0) (c4 := c4) (c5 := c5) k8 6 0 (g + 6) S (by omega) (by omega) cS'
  have oI1 := onL_trans oS o1
  have e7 := r263 (d := d) (A := A) (b := b) (h := h) (X := X) (J := J) (R := R) (n := n) (I := I1) (q := g + 6 + 6) (v := nI a.2.2.1.length) c1 (by omega)
  have x67 : I1 267 k = nI a.2.2.1.length := by rw [oI1 _ _ (by omega) (by omega)]; exact h3
  obtain ⟨I2, c4', c5', f2, c2, o2, q2, w2⟩ := r264b (d := d) (A := A) (b := b) (h := h) (X := X) (J := J) (R := R) (n := n) (r0 := r0) k8 hQ 8 0 (g + 13) (pu I1 (g + 6 + 6) (nI a.2.2.1.length)) c4 c5 (by rw [pu_o (by omega) (by omega)]; exact x67) (by omega) (by omega) pu_c
  have oI2 := onL_trans oI1 (onL_trans onL_pu o2)
  have x72 : I2 272 k = nI a.2.2.2.length := by rw [oI2 _ _ (by omega) (by omega)]; exact h5
  have e8 := r263 (d := d) (A := A) (b := b) (h := h) (X := X) (J := J) (R := R) (n := n) (I := I2) (q := g + 13 + 24) (v := nI a.2.2.2.length) c2 (by omega)
  obtain ⟨I3, c4'', f3, c3', o3, q3, w3⟩ := r264c (d := d) (A := A) (b := b) (h := h) (X := X) (J := J) (R := R) (n := n) (r0 := r0) (c5 := c5') (now := now) k8 hT 4 0 (g + 38) (pu I2 (g + 13 + 24) (nI a.2.2.2.length)) c4' (by rw [pu_o (by omega) (by omega)]; exact x72) (by rw [pu_f (by omega), oI2 _ _ (by omega) (by omega)]; exact h38) (by omega) (by omega) pu_c
  have oI3 := onL_trans oI2 (onL_trans onL_pu o3)
  have z3 : ∀ j, j < g + 37 → I3 282 j = I2 282 j := fun j hj => by rw [q3 j (by omega), pu_n (by omega)]
  have z2 : ∀ j, j < g + 12 → I3 282 j = I1 282 j := fun j hj => by rw [z3 j (by omega), q2 j (by omega), pu_n (by omega)]
  have z1 : ∀ j, j < g + 6 → I3 282 j = S 282 j := fun j hj => by rw [z2 j (by omega), q1, if_neg (by omega)]
  refine ⟨I3, c4'', c5', ?_, c3', oI3, fun j hj => ?_, ?_, ⟨?_, fun i a1 a2 => ?_⟩, ?_, ⟨?_, fun i a1 a2 => ?_⟩, ?_, ?_, fun i a1 a2 => ?_⟩
  · rw [hS] at f1
    conv => lhs; rw [r264_27]
    simp (disch := omega) [r264_0, r264_1, r264_2, r264_5, r264_6, r264_9, r264_10, r264_11, r264_14, r264_17, r264_18, r264_19, r264_22, r264_25, r264_26, r264_28, r264_29, r264_32, r264_35, r264_36, r264_37, r264_40, r264_41, r264_42, r264_45, r264_46, r264_47, r264_50, r264_51, r264_52, r264_55, r264_56, r264_57, r264_60, r264_61, r264_62, r264_65, r264_66, r264_67, r264_70, r264_71, r264_72, r264_75, r264_76, r264_77, r264_80, r264_81, r264_82, r264_85, r264_86, r264_87, r264_90, r264_91, r264_92, r264_95, r264_96, r264_98, r264_100, r264_103, r264_104, r264_105, r264_108, r264_109, r264_111, r264_112, r264_113, r264_114, r264_115, r264_118, r264_121, r264_124, r264_125, r264_126, r264_129, r264_130, r264_131, r264_134, r264_135, r264_137, r264_139, r264_142, r264_143, r264_145, r264_146, r264_147, r264_148, r264_150, r264_151, r264_152, r264_155, r264_156, r264_157, r264_160, r264_161, r264_164, r264_165, r264_167, r264_168, r264_170, r264_173, r264_174, r264_177, r264_179, r264_180, r264_183, r264_184, r264_187, r264_188, r264_190, r264_193, r264_194, r264_197, r264_199, r264_200, r264_203, r264_204, r264_207, r264_208, r264_210, r264_213, r264_214, r264_217, r264_219, r264_220, r264_223, r264_224, r264_227, r264_230, r264_233, r264_234, r264_235, r264_238, r264_239, r264_240, r264_243, r264_244, r264_246, r264_247, r264_250, r264_251, r264_252, r264_255, r264_256, r264_257, r264_260, r264_261, r264_264, r264_265, r264_267, r264_268, r264_270, r264_273, r264_274, r264_277, r264_278, r264_279, r264_280, r264_281, r264_282, r264_283, r264_286, r264_287, r264_290, r264_291, r264_293, r264_296, r264_297, r264_300, r264_301, r264_302, r264_303, r264_304, r264_305, r264_306, r264_307, r264_310, r264_311, r264_314, r264_315, r264_318, r264_321, r264_324, r264_327, r264_330, r264_331, r264_334, r264_335, r264_338, r264_339, r264_342, r264_343, r264_346, r264_347, r264_348, r264_351, r264_354, r264_355, r264_356, r264_357, r264_359, r264_362, r264_363, r264_364, r264_367, r264_368, r264_369, r264_372, r264_375, r264_378, r264_379, r264_380, r264_383, r264_386, r264_387, r264_388, r264_389, r264_392, r264_393, r264_394, r264_395, r264_396, r264_399, r264_400, r264_403, r264_404, r264_407, r264_409, r264_410, r264_411, r264_412, r264_415, r264_416, r264_417, r264_418, r264_419, r264_422, r264_425, r264_426, r264_429, r264_430, r264_431, r264_432, g241, p241_82, ty12_82, vf12_36, qa263, qo263, vf12_37, vf12_42, t241_42, g260, p260, vf12_43, t241_43, g261, p261, vf12_44, t241_44, g262, p262, vf12_45, t241_45, g263, p263, vf12_46, t241_46, g264, p264, vf12_47, t241_47, g265, p265, vf12_48, t241_48, g266, p266, vf12_49, t241_49, g267, p267, vf12_50, t241_50, g268, p268, vf12_51, t241_51, g269, p269, vf12_52, t241_52, g270, p270, vf12_54, t241_54, g272, p272, vf12_55, t241_55, g273, p273, vf12_56, t241_56, g274, p274, vf12_38, vf12_82, vf12_53, t241_53, g271, p271, vf12_75, t241_75, g282, p282, vf12_76, t241_76, g283, p283, List.getElem?_cons_zero, List.getElem?_cons_succ, List.length_cons, List.length_nil, ag_nx, ag_dn, ag_no, ag_if, jbr1, jbr2, jc1, jc2, jnul, jld, jsto, jstoL, jst1, jst2, jkill, jinc, jbI, jbL, jbS, juI, jl2i, jcmp, jisR, jisI, jisL, jret, jretv, jfits, jdup, jdup2, jpop, jmm, jcat, Value.category, jinv, jrcv, jthr, jhd, jput, jget, jlen, jald, jast, jaast, jgI, jgL, jgB, jtab, jlku, jacp, vf20, vf21, vf22, vf23, vf24, u2_s, u2_k, u2_i, uc_s, uc_k, uc_c, u2_c, LI0, LI1, LI2, LI3, LI4, LI5, LI6, LI7, LI8, LI9, LI10, LI11, LI12, LI13, LI14, LI15, LI16, LI17, LI18, LI19, LI20, LI21, LI22, LI23, LI24, LI25, LI26, LI27, LI28, LI29, LI30, LI31, LI32, LI33, LI34, LI35, LI36, LI37, LI40, LI42, LI43, LI45, LI48, LI60, LI61, LI64, LI80, LI300, LI400, LI1000, LI2000, LI2001, LI2047, LI2048, LI100000, LI1000000, LM, nI_clamp, nI_pos', nI_lt, nI_nlt, nI_le, nI_ge, nI_ne, nI_add, nI_sub, mI_lt, mI_le, mI_nlt, mI_nle, mI_ne, mI_ne', mI_nem, LI370, LI435, LI64, LI31, LI61, pu_o, pu_f, h36, hkM, k8, e1, e2, e3, e4, e5, e6, f1, e7, x67, f2, e8, x72, f3]
  · rw [q3 j (by omega), pu_n (by omega), q2 j (by omega), pu_n (by omega), q1, if_neg (by omega), vS j (by omega)]
  · rw [h1, z1 g (by omega), z1 (g + 1) (by omega), z1 (g + 2) (by omega), z1 (g + 3) (by omega), z1 (g + 4) (by omega), z1 (g + 5) (by omega), hS]
    have n0 : pu (pu (pu (pu (pu (pu I g (I 260 k)) (g + 1) (I 261 k)) (g + 1 + 1) (I 262 k)) (g + 1 + 1 + 1) (I 263 k)) (g + 1 + 1 + 1 + 1) (I 264 k)) (g + 1 + 1 + 1 + 1 + 1) (I 265 k) 282 g = I 260 k := by rw [pu_n (by omega), pu_n (by omega), pu_n (by omega), pu_n (by omega), pu_n (by omega), pu_s]
    have n1 : pu (pu (pu (pu (pu (pu I g (I 260 k)) (g + 1) (I 261 k)) (g + 1 + 1) (I 262 k)) (g + 1 + 1 + 1) (I 263 k)) (g + 1 + 1 + 1 + 1) (I 264 k)) (g + 1 + 1 + 1 + 1 + 1) (I 265 k) 282 (g + 1) = I 261 k := by rw [pu_n (by omega), pu_n (by omega), pu_n (by omega), pu_n (by omega), pu_s]
    have n2 : pu (pu (pu (pu (pu (pu I g (I 260 k)) (g + 1) (I 261 k)) (g + 1 + 1) (I 262 k)) (g + 1 + 1 + 1) (I 263 k)) (g + 1 + 1 + 1 + 1) (I 264 k)) (g + 1 + 1 + 1 + 1 + 1) (I 265 k) 282 (g + 2) = I 262 k := by rw [pu_n (by omega), pu_n (by omega), pu_n (by omega), show g + 2 = g + 1 + 1 by omega, pu_s]
    have n3 : pu (pu (pu (pu (pu (pu I g (I 260 k)) (g + 1) (I 261 k)) (g + 1 + 1) (I 262 k)) (g + 1 + 1 + 1) (I 263 k)) (g + 1 + 1 + 1 + 1) (I 264 k)) (g + 1 + 1 + 1 + 1 + 1) (I 265 k) 282 (g + 3) = I 263 k := by rw [pu_n (by omega), pu_n (by omega), show g + 3 = g + 1 + 1 + 1 by omega, pu_s]
    have n4 : pu (pu (pu (pu (pu (pu I g (I 260 k)) (g + 1) (I 261 k)) (g + 1 + 1) (I 262 k)) (g + 1 + 1 + 1) (I 263 k)) (g + 1 + 1 + 1 + 1) (I 264 k)) (g + 1 + 1 + 1 + 1 + 1) (I 265 k) 282 (g + 4) = I 264 k := by rw [pu_n (by omega), show g + 4 = g + 1 + 1 + 1 + 1 by omega, pu_s]
    have n5 : pu (pu (pu (pu (pu (pu I g (I 260 k)) (g + 1) (I 261 k)) (g + 1 + 1) (I 262 k)) (g + 1 + 1 + 1) (I 263 k)) (g + 1 + 1 + 1 + 1) (I 264 k)) (g + 1 + 1 + 1 + 1 + 1) (I 265 k) 282 (g + 5) = I 265 k := by rw [show g + 5 = g + 1 + 1 + 1 + 1 + 1 by omega, pu_s]
    rw [n0, n1, n2, n3, n4, n5]
  · refine h2.trans (rl_congr fun i hl => ?_)
    rw [z2 _ (by omega), q1, if_pos (by omega), oS _ _ (by omega) (by omega)]
    congr 1
    omega
  · rw [z2 _ (by omega), q1, if_pos (by omega), oS _ _ (by omega) (by omega), show 6 * k + (g + 6 + i - (g + 6)) = 6 * k + i by omega]
    exact h2' i a1 a2
  · rw [z3 _ (by omega), q2 _ (by omega), show g + 12 = g + 6 + 6 by omega, pu_s]
  · apply rl_ext (by rw [List.length_map])
    intro i hl
    obtain ⟨b1, b2, b3⟩ := w2 i (by omega) (by omega)
    have oo := fun c j (hc : c ≠ 282) (hd : c ≠ 241) => (onL_trans oI1 (onL_pu (q := g + 6 + 6) (v := nI a.2.2.1.length))) c j hc (fun z => hd z.1)
    rw [if_pos hl, oo _ _ (by omega) (by omega)] at b1 b2 b3
    rw [z3 _ (by omega), z3 _ (by omega), z3 _ (by omega), b1, b2, b3, List.getElem?_map, h4, rl_at hl]
    rfl
  · obtain ⟨b1, b2, b3⟩ := w2 i (by omega) (by omega)
    rw [if_neg (by omega)] at b1 b2 b3
    rw [z3 _ (by omega), z3 _ (by omega), z3 _ (by omega)]
    exact ⟨b1, b2, b3⟩
  · rw [q3 _ (by omega), show g + 37 = g + 13 + 24 by omega, pu_s]
  · refine h6.trans (rl_congr fun i hl => ?_)
    obtain ⟨b1, b2⟩ := w3 i (by omega) (by omega)
    have oo := fun c j (hc : c ≠ 282) (hd : c ≠ 241) => (onL_trans oI2 (onL_pu (q := g + 13 + 24) (v := nI a.2.2.2.length))) c j hc (fun z => hd z.1)
    rw [if_pos hl, oo _ _ (by omega) (by omega)] at b1 b2
    rw [b1, b2, Int32.sub_add_cancel]
  · obtain ⟨b1, b2⟩ := w3 i (by omega) (by omega)
    rw [if_neg (by omega)] at b1 b2
    exact ⟨b1, b2⟩
theorem r264k {M g0 : Nat} (hM : M ≤ 8) (hg0 : g0 + 370 ≤ 435870) {now : Int32} : ∀ (as : List (aI Nm)) (k : Nat) (I : Nat → Nat → Int32) (c3 c4 c5 : Option Value), k + as.length = M → I 241 36 = nI M → I 241 38 = now → I 241 82 = nI (g0 + 2 + 46 * k) → (∀ j a, as[j]? = some a → iR rN I (k + j) a ∧ a.2.1.length ≤ 6 ∧ a.2.2.1.length ≤ 8 ∧ a.2.2.2.length ≤ 4) → ∃ I' c3' c4' c5', M264 A (d + 1) 27 [some (.ref (b + 241)), some (.int r0), some (.int (nI (k))), c3, c4, c5] [] (jH h b X I J R n) = M264 A (d + 1) 330 [some (.ref (b + 241)), some (.int r0), some (.int (nI (M))), c3', c4', c5'] [] (jH h b X I' J R n) ∧ I' 241 82 = nI (g0 + 2 + 46 * M) ∧ onL I I' ∧ (∀ j, j < g0 + 2 + 46 * k ∨ g0 + 2 + 46 * M ≤ j → I' 282 j = I 282 j) ∧ ∀ j a, as[j]? = some a → qI rN (I' 282) (g0 + 2 + 46 * (k + j)) now a := by
  intro as
  induction as with
  | nil =>
    intro k I c3 c4 c5 hk h36 h38 h82 ha
    have hk' : k = M := by simpa using hk
    subst hk'
    refine ⟨I, c3, c4, c5, ?_, h82, onL_refl, fun _ _ => rfl, fun j a hj => by simp at hj⟩
    conv => lhs; rw [r264_27]
    simp (disch := omega) [r264_0, r264_1, r264_2, r264_5, r264_6, r264_9, r264_10, r264_11, r264_14, r264_17, r264_18, r264_19, r264_22, r264_25, r264_26, r264_28, r264_29, r264_32, r264_35, r264_36, r264_37, r264_40, r264_41, r264_42, r264_45, r264_46, r264_47, r264_50, r264_51, r264_52, r264_55, r264_56, r264_57, r264_60, r264_61, r264_62, r264_65, r264_66, r264_67, r264_70, r264_71, r264_72, r264_75, r264_76, r264_77, r264_80, r264_81, r264_82, r264_85, r264_86, r264_87, r264_90, r264_91, r264_92, r264_95, r264_96, r264_97, r264_98, r264_100, r264_103, r264_104, r264_105, r264_108, r264_109, r264_111, r264_112, r264_113, r264_114, r264_115, r264_118, r264_121, r264_124, r264_125, r264_126, r264_129, r264_130, r264_131, r264_134, r264_135, r264_136, r264_137, r264_139, r264_142, r264_143, r264_145, r264_146, r264_147, r264_148, r264_150, r264_151, r264_152, r264_155, r264_156, r264_157, r264_160, r264_161, r264_164, r264_165, r264_167, r264_168, r264_170, r264_173, r264_174, r264_177, r264_179, r264_180, r264_183, r264_184, r264_187, r264_188, r264_190, r264_193, r264_194, r264_197, r264_199, r264_200, r264_203, r264_204, r264_207, r264_208, r264_210, r264_213, r264_214, r264_217, r264_219, r264_220, r264_223, r264_224, r264_227, r264_230, r264_233, r264_234, r264_235, r264_238, r264_239, r264_240, r264_243, r264_244, r264_245, r264_246, r264_247, r264_250, r264_251, r264_252, r264_255, r264_256, r264_257, r264_260, r264_261, r264_264, r264_265, r264_267, r264_268, r264_270, r264_273, r264_274, r264_277, r264_278, r264_279, r264_280, r264_281, r264_282, r264_283, r264_286, r264_287, r264_290, r264_291, r264_293, r264_296, r264_297, r264_300, r264_301, r264_302, r264_303, r264_304, r264_305, r264_306, r264_307, r264_310, r264_311, r264_314, r264_315, r264_318, r264_321, r264_324, r264_327, r264_331, r264_334, r264_335, r264_338, r264_339, r264_342, r264_343, r264_346, r264_347, r264_348, r264_351, r264_354, r264_355, r264_356, r264_357, r264_359, r264_362, r264_363, r264_364, r264_367, r264_368, r264_369, r264_372, r264_375, r264_378, r264_379, r264_380, r264_383, r264_386, r264_387, r264_388, r264_389, r264_392, r264_393, r264_394, r264_395, r264_396, r264_399, r264_400, r264_403, r264_404, r264_407, r264_409, r264_410, r264_411, r264_412, r264_415, r264_416, r264_417, r264_418, r264_419, r264_422, r264_425, r264_426, r264_429, r264_430, r264_431, r264_432, g241, p241_82, ty12_82, vf12_36, qa263, qo263, vf12_37, vf12_42, t241_42, g260, p260, vf12_43, t241_43, g261, p261, vf12_44, t241_44, g262, p262, vf12_45, t241_45, g263, p263, vf12_46, t241_46, g264, p264, vf12_47, t241_47, g265, p265, vf12_48, t241_48, g266, p266, vf12_49, t241_49, g267, p267, vf12_50, t241_50, g268, p268, vf12_51, t241_51, g269, p269, vf12_52, t241_52, g270, p270, vf12_54, t241_54, g272, p272, vf12_55, t241_55, g273, p273, vf12_56, t241_56, g274, p274, vf12_38, vf12_82, vf12_53, t241_53, g271, p271, vf12_75, t241_75, g282, p282, vf12_76, t241_76, g283, p283, List.getElem?_cons_zero, List.getElem?_cons_succ, List.length_cons, List.length_nil, ag_nx, ag_dn, ag_no, ag_if, jbr1, jbr2, jc1, jc2, jnul, jld, jsto, jstoL, jst1, jst2, jkill, jinc, jbI, jbL, jbS, juI, jl2i, jcmp, jisR, jisI, jisL, jret, jretv, jfits, jdup, jdup2, jpop, jmm, jcat, Value.category, jinv, jrcv, jthr, jhd, jput, jget, jlen, jald, jast, jaast, jgI, jgL, jgB, jtab, jlku, jacp, vf20, vf21, vf22, vf23, vf24, u2_s, u2_k, u2_i, uc_s, uc_k, uc_c, u2_c, LI0, LI1, LI2, LI3, LI4, LI5, LI6, LI7, LI8, LI9, LI10, LI11, LI12, LI13, LI14, LI15, LI16, LI17, LI18, LI19, LI20, LI21, LI22, LI23, LI24, LI25, LI26, LI27, LI28, LI29, LI30, LI31, LI32, LI33, LI34, LI35, LI36, LI37, LI40, LI42, LI43, LI45, LI48, LI60, LI61, LI64, LI80, LI300, LI400, LI1000, LI2000, LI2001, LI2047, LI2048, LI100000, LI1000000, LM, nI_clamp, nI_pos', nI_lt, nI_nlt, nI_le, nI_ge, nI_ne, nI_add, nI_sub, mI_lt, mI_le, mI_nlt, mI_nle, mI_ne, mI_ne', mI_nem, LI370, LI435, LI64, LI31, LI61, pu_o, pu_f, h36]
  | cons a as ih =>
    intro k I c3 c4 c5 hk h36 h38 h82 ha
    have hk' : k + (as.length + 1) = M := by simpa using hk
    obtain ⟨hA, b1, b2, b3⟩ := ha 0 a rfl
    obtain ⟨I1, c4', c5', e1, q1, o1, v1, w1⟩ := r264i (d := d) (A := A) (b := b) (h := h) (X := X) (J := J) (R := R) (n := n) (r0 := r0) (c3 := c3) (c4 := c4) (c5 := c5) (k := k) (by omega) hA b1 b2 b3 h38 (by omega) h82 h36 hM (by omega)
    obtain ⟨I2, d3, d4, d5, e2, q2, o2, v2, w2⟩ := ih (k + 1) I1 (some (.int (nI 4))) c4' c5' (by omega) (by rw [o1 _ _ (by omega) (by omega)]; exact h36) (by rw [o1 _ _ (by omega) (by omega)]; exact h38) (by rw [q1]; congr 1) (fun j c hj => by
      obtain ⟨x1, x2⟩ := ha (j + 1) c (by simpa using hj)
      rw [show k + 1 + j = k + (j + 1) by omega]
      exact ⟨iR_fr (fun c h1 h2 => o1 _ _ (by omega) (by omega)) (fun j => Or.inl (o1 _ _ (by omega) (by omega))) (fun c j h1 h2 => Or.inl (o1 _ _ (by omega) (by omega))) (fun c j h1 h2 => Or.inl (o1 _ _ (by omega) (by omega))) x1, x2⟩)
    refine ⟨I2, d3, d4, d5, e1.trans e2, q2, onL_trans o1 o2, fun j hj => by rw [v2 j (by omega), v1 j (by omega)], fun j c hj => ?_⟩
    cases j with
    | zero =>
      have : a = c := by simpa using hj
      subst this
      exact qI_fr b1 b2 b3 w1 (fun i hi => v2 _ (by omega))
    | succ j =>
      have := w2 j c (by simpa using hj)
      rw [show k + 1 + j = k + (j + 1) by omega] at this
      exact this
end RLY
