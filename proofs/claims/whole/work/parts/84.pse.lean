/-! a piece of the class's code is an expression: the class makes of it what it is -/
/-- from p up to q: the expression e; s places of the stack are free -/
def sE (N : Nat → Nat → Int32) (O G : Nat → Int32) (nv : Nat) : Nat → Nat → Nat → Nat → Nat → Prop
  | 0, _, _, _, _ => False
  | r + 1, p, e, q, s => 0 < s ∧ (
      (N 251 e = 0 ∧ O p = nI 0 ∧ G p = N 252 e ∧ q = p + 1) ∨
      (N 251 e = 1 ∧ O p = nI 1 ∧ (∃ j, j < nv ∧ N 253 e = nI j ∧ G p = nI j) ∧ q = p + 1) ∨
      (N 251 e = 2 ∧ ((N 252 e = 23 ∧ O p = nI 2) ∨ (N 252 e = 19 ∧ O p = nI 3) ∨ (N 252 e = 18 ∧ O p = nI 4) ∨ (N 252 e = 20 ∧ O p = nI 5) ∨ (N 252 e = 21 ∧ O p = nI 6)) ∧ q = p + 1) ∨
      (N 251 e = 3 ∧ ∃ f m, f < 2 ^ 20 ∧ N 252 e = nI f ∧ sE N O G nv r p f m s ∧ O m = nI 7 ∧ q = m + 1) ∨
      (N 251 e = 4 ∧ ∃ f g m m2 o, f < 2 ^ 20 ∧ g < 2 ^ 20 ∧ N 253 e = nI f ∧ N 254 e = nI g ∧ sE N O G nv r p f m s ∧ sE N O G nv r m g m2 (s - 1) ∧ O m2 = nI o ∧ ((N 252 e = 43 ∧ o = 8) ∨ (N 252 e = 45 ∧ o = 9) ∨ (N 252 e = 42 ∧ o = 10) ∨ (N 252 e = 300 ∧ o = 11) ∨ (N 252 e = 60 ∧ o = 12)) ∧ q = m2 + 1))
theorem sE_lt {N : Nat → Nat → Int32} {O G : Nat → Int32} {nv : Nat} : ∀ {r p e q s : Nat}, sE N O G nv r p e q s → p < q
  | 0, _, _, _, _, h => h.elim
  | r + 1, p, e, q, s, h => by
    rcases h.2 with ⟨_, _, _, c⟩ | ⟨_, _, _, c⟩ | ⟨_, _, c⟩ | ⟨_, f, m, _, _, c, _, c2⟩ | ⟨_, f, g, m, m2, o, _, _, _, _, c, c2, _, _, c3⟩
    · omega
    · omega
    · omega
    · have := sE_lt c; omega
    · have := sE_lt c; have := sE_lt c2; omega
/-- the code of the plan at P -/
def cdC (P L : Nat) (O G E : Nat → Int32) (I : Nat → Nat → Int32) : Prop := I (P + 4) 4 = nI L ∧ L ≤ 2048 ∧ I (P + 5) = O ∧ I (P + 6) = G ∧ I (P + 7) = E
theorem cdC_fr {P L w t : Nat} {O G E : Nat → Int32} {v : Int32} {I I' : Nat → Nat → Int32} (hP : isP P) (hw : isW w) (h : cdC P L O G E I) (hs : stk w t v I I') : cdC P L O G E I' := by
  have a1 := isP_e hP
  have a2 := isW_e hw
  have e : ∀ c, c < 57 → I' c = I c := fun c hc => funext fun i => hs.2.2.2 c i (by omega) (by omega)
  unfold cdC
  rw [e _ (by omega), e _ (by omega), e _ (by omega), e _ (by omega)]
  exact h
theorem iC_stk {α : Type} {cN : Int32 → α} {w t p : Nat} {v : Int32} {I I' : Nat → Nat → Int32} {a : aI α} (hp : w + 9 ≤ p ∧ p ≤ w + 65) (hs : stk w t v I I') (h : iC cN I p a) : iC cN I' p a :=
  iC_fr (fun c i h1 h2 => hs.2.2.2 c i (by omega) (by omega)) h
section SE
variable {A : Nat → Nat} {d b n w : Nat} {h : Nat → Option jC} {X : jXX} {I : Nat → Nat → Int32} {J : Nat → Nat → Int64} {R : Nat → Nat → Nat} {cN : Int32 → Nm}
theorem segE {N : Nat → Nat → Int32} {O G E : Nat → Int32} {P L p0 : Nat} {a : aI Nm} {now : Int32} {K : Nat → (Nat → Nat → Int32) → Nat → (Nat → Nat → Int32) → Prop}
    (tr : ∀ p q r I I1 I2, K p I q I1 → K q I1 r I2 → K p I r I2)
    (stp : ∀ p o I I1, p < L → O p = nI o → o ≤ 12 → cdC P L O G E I → jcall A jcode (d + 2) 129 [.ref (b + w), .ref (b + p0), .int (nI o), .int (G p)] (jH h b X I J R n) = some (.inl none, jH h b X I1 J R n) → K p I (p + 1) I1)
    (hw : isW w) (hP : isP P) (hi : isI p0) (hr : w + 9 ≤ p0 ∧ p0 ≤ w + 65) (hv : a.2.1.length ≤ 6) :
    ∀ r p e q s t I, sE N O G a.2.1.length r p e q s → t + s ≤ 64 → q ≤ L → cdC P L O G E I → iC cN I p0 a → I w 5 = now → I w 10 = nI t → ∃ I', K p I q I' ∧ stk w t (evl N now a r e) I I' := by
  intro r
  induction r with
  | zero => intro p e q s t I he; exact he.elim
  | succ r ih =>
    intro p e q s t I he h64 hq hc hA hn ht
    have hs := he.1
    obtain ⟨i0, i1, i2, i3, i4, i5⟩ := iC_01 hA
    rcases he.2 with ⟨c, c1, c2, c3⟩ | ⟨c, c1, ⟨j, hj, c2, c4⟩, c3⟩ | ⟨c, c1, c3⟩ | ⟨c, f, m, hf, c2, xf, c4, c3⟩ | ⟨c, f, g, m, m2, o, hf, hg, c1, c2, xf, xg, c4, c5, c3⟩
    · subst c3
      obtain ⟨I1, e1, s1⟩ := c129_0 (d := d) (A := A) (b := b) (h := h) (X := X) (J := J) (R := R) (n := n) (g := G p) hw hi ht (by omega)
      refine ⟨I1, stp p 0 I I1 (by omega) c1 (by omega) hc e1, ?_⟩
      have ev : evl N now a (r + 1) e = G p := by simp [evl, c, c2]
      rw [ev]
      exact s1
    · subst c3
      obtain ⟨I1, e1, s1⟩ := c129_1 (d := d) (A := A) (b := b) (h := h) (X := X) (J := J) (R := R) (n := n) (g := G p) (k := j) (by omega) hw hi ht (by omega)
      rw [← c4] at e1
      refine ⟨I1, stp p 1 I I1 (by omega) c1 (by omega) hc e1, ?_⟩
      have ev : evl N now a (r + 1) e = I (p0 + 1) j := by
        have e2 : I (p0 + 1) j = a.2.1.getD j 0 := by
          rw [List.getD_eq_getElem?_getD, hA.2.1, rl_at hj]
          rfl
        rw [e2]
        simp only [evl, c, c2, ix, nI_clamp (show j < 2 ^ 31 by omega)]
        rfl
      rw [ev]
      exact s1
    · subst c3
      rcases c1 with ⟨cw, co⟩ | ⟨cw, co⟩ | ⟨cw, co⟩ | ⟨cw, co⟩ | ⟨cw, co⟩
      · obtain ⟨I1, e1, s1⟩ := c129_2 (d := d) (A := A) (b := b) (h := h) (X := X) (J := J) (R := R) (n := n) (g := G p) hw hi ht (by omega)
        refine ⟨I1, stp p 2 I I1 (by omega) co (by omega) hc e1, ?_⟩
        have ev : evl N now a (r + 1) e = I w 5 := by simp [evl, c, cw, hn]
        rw [ev]
        exact s1
      · obtain ⟨I1, e1, s1⟩ := c129_3 (d := d) (A := A) (b := b) (h := h) (X := X) (J := J) (R := R) (n := n) (g := G p) hw hi ht (by omega)
        refine ⟨I1, stp p 3 I I1 (by omega) co (by omega) hc e1, ?_⟩
        have ev : evl N now a (r + 1) e = I p0 0 := by simp [evl, c, cw, idOf, i0]
        rw [ev]
        exact s1
      · obtain ⟨I1, e1, s1⟩ := c129_4 (d := d) (A := A) (b := b) (h := h) (X := X) (J := J) (R := R) (n := n) (g := G p) hw hi ht (by omega)
        refine ⟨I1, stp p 4 I I1 (by omega) co (by omega) hc e1, ?_⟩
        have ev : evl N now a (r + 1) e = I p0 4 := by simp [evl, c, cw, idOf, i4]
        rw [ev]
        exact s1
      · obtain ⟨I1, e1, s1⟩ := c129_5 (d := d) (A := A) (b := b) (h := h) (X := X) (J := J) (R := R) (n := n) (g := G p) hw hi ht (by omega)
        refine ⟨I1, stp p 5 I I1 (by omega) co (by omega) hc e1, ?_⟩
        have ev : evl N now a (r + 1) e = I p0 3 := by simp [evl, c, cw, idOf, i3]
        rw [ev]
        exact s1
      · obtain ⟨I1, e1, s1⟩ := c129_6 (d := d) (A := A) (b := b) (h := h) (X := X) (J := J) (R := R) (n := n) (g := G p) hw hi ht (by omega)
        refine ⟨I1, stp p 6 I I1 (by omega) co (by omega) hc e1, ?_⟩
        have ev : evl N now a (r + 1) e = I p0 5 := by simp [evl, c, cw, idOf, i5]
        rw [ev]
        exact s1
    · subst c3
      obtain ⟨I1, k1, s1⟩ := ih p f m s t I xf h64 (by omega) hc hA hn ht
      obtain ⟨I2, e2, s2⟩ := c129_7 (d := d) (A := A) (b := b) (h := h) (X := X) (J := J) (R := R) (n := n) (g := G m) hw hi s1.1 (by omega)
      refine ⟨I2, tr _ _ _ _ _ _ k1 (stp m 7 I1 I2 (by omega) c4 (by omega) (cdC_fr hP hw hc s1) e2), ?_⟩
      have ev : evl N now a (r + 1) e = - I1 (w + 73) t := by simp [evl, c, c2, ix, nI_clamp (show f < 2 ^ 31 by omega), s1.2.1]
      rw [ev]
      exact stk_t s1 s2
    · subst c3
      have hlt := sE_lt xg
      have hs1 : 0 < s - 1 := by
        cases r with
        | zero => exact xg.elim
        | succ r => exact xg.1
      obtain ⟨I1, k1, s1⟩ := ih p f m s t I xf h64 (by omega) hc hA hn ht
      have hn1 : I1 w 5 = now := (s1.2.2.2 w 5 (by omega) (by omega)).trans hn
      obtain ⟨I2, k2, s2⟩ := ih m g m2 (s - 1) (t + 1) I1 xg (by omega) (by omega) (cdC_fr hP hw hc s1) (iC_stk hr s1 hA) hn1 s1.1
      have ho : 8 ≤ o ∧ o ≤ 12 := by omega
      obtain ⟨I3, e3, s3⟩ := c129_b (d := d) (A := A) (b := b) (h := h) (X := X) (J := J) (R := R) (n := n) (g := G m2) hw hi s2.1 (by omega) ho
      refine ⟨I3, tr _ _ _ _ _ _ k1 (tr _ _ _ _ _ _ k2 (stp m2 o I2 I3 (by omega) c4 (by omega) (cdC_fr hP hw (cdC_fr hP hw hc s1) s2) e3)), ?_⟩
      have v1 : I2 (w + 73) t = evl N now a r f := (s2.2.2.1 t (by omega)).trans s1.2.1
      have v2 : I2 (w + 73) (t + 1) = evl N now a r g := s2.2.1
      have hfc := nI_clamp (show f < 2 ^ 31 by omega)
      have hgc := nI_clamp (show g < 2 ^ 31 by omega)
      have s12 : stk w t (evl N now a (r + 1) e) I I3 := by
        refine ⟨s3.1, ?_, fun i hi => (s3.2.2.1 i hi).trans ((s2.2.2.1 i (by omega)).trans (s1.2.2.1 i hi)), fun c i a1 a2 => (s3.2.2.2 c i a1 a2).trans ((s2.2.2.2 c i a1 a2).trans (s1.2.2.2 c i a1 a2))⟩
        rw [s3.2.1, v1, v2]
        rcases c5 with ⟨x, rfl⟩ | ⟨x, rfl⟩ | ⟨x, rfl⟩ | ⟨x, rfl⟩ | ⟨x, rfl⟩
        · simp [evl, c, x, c1, c2, ix, hfc, hgc]
        · simp [evl, c, x, c1, c2, ix, hfc, hgc]
        · simp [evl, c, x, c1, c2, ix, hfc, hgc]
        · simp [evl, c, x, c1, c2, ix, hfc, hgc]
        · simp [evl, c, x, c1, c2, ix, hfc, hgc]
      exact s12
/-- one op of an expression, in the run of a body -/
theorem stp128 {O G E : Nat → Int32} {P L p0 p o st : Nat} {I1 : Nat → Nat → Int32} {x2 : Int32} {c6 c7 c8 : Option Value} (hw : isW w) (hP : isP P) (hi : isI p0) (hp : p < L) (ho : O p = nI o) (h12 : o ≤ 12) (hc : cdC P L O G E I) (hs : st ≤ p) (e : jcall A jcode d 129 [.ref (b + w), .ref (b + p0), .int (nI o), .int (G p)] (jH h b X I J R n) = some (.inl none, jH h b X I1 J R n)) :
    M128 A d 19 [some (.ref (b + w)), some (.ref (b + p0)), some (.int x2), some (.ref (b + (P + 4))), some (.int (nI p)), some (.int (nI st)), c6, c7, c8] [] (jH h b X I J R n) = M128 A d 19 [some (.ref (b + w)), some (.ref (b + p0)), some (.int x2), some (.ref (b + (P + 4))), some (.int (nI (p + 1))), some (.int (nI (st + 1))), some (.int (nI o)), some (.int (G p)), some (.int (E p))] [] (jH h b X I1 J R n) := by
  obtain ⟨h1, h2, h3, h4, h5⟩ := hc
  have g5 : I (P + 5) p = nI o := by rw [h3, ho]
  have g6 : I (P + 6) p = G p := by rw [h4]
  have g7 : I (P + 7) p = E p := by rw [h5]
  rw [r128_19]
  simp (disch := omega) [r128_0, r128_1, r128_4, r128_7, r128_8, r128_9, r128_11, r128_12, r128_13, r128_16, r128_17, r128_21, r128_24, r128_27, r128_29, r128_32, r128_34, r128_35, r128_38, r128_41, r128_43, r128_46, r128_49, r128_50, r128_53, r128_55, r128_56, r128_58, r128_59, r128_62, r128_64, r128_65, r128_67, r128_68, r128_71, r128_73, r128_74, r128_76, r128_79, r128_81, r128_160, r128_161, r128_163, r128_164, r128_167, r128_170, r128_173, r128_174, r128_177, r128_178, r128_179, r128_182, r128_184, r128_185, r128_188, r128_189, r128_192, r128_193, r128_196, r128_199, r128_200, r128_201, r128_202, r128_203, r128_206, r128_209, r128_211, r128_214, r128_217, r128_218, r128_219, r128_220, r128_222, r128_225, r128_228, r128_229, r128_230, r128_231, r128_232, r128_235, r128_238, r128_240, r128_243, r128_246, r128_247, r128_248, r128_249, r128_250, r128_253, r128_256, r128_258, r128_261, r128_264, r128_265, r128_266, r128_267, r128_269, r128_272, r128_274, r128_277, r128_280, r128_281, r128_282, r128_284, r128_285, r128_288, r128_291, r128_294, r128_295, r128_297, r128_300, r128_303, r128_304, r128_305, r128_307, r128_310, r128_313, r128_314, r128_317, r128_319, r128_320, r128_323, r128_324, r128_325, r128_328, r128_329, r128_332, r128_334, r128_337, r128_340, r128_341, r128_344, r128_347, r128_349, r128_352, r128_354, r128_356, r128_359, r128_361, r128_363, r128_366, r128_367, r128_369, r128_372, r128_373, r128_374, r128_375, r128_378, r128_379, r128_380, r128_383, r128_386, r128_387, r128_388, r128_391, r128_392, r128_393, r128_394, r128_396, r128_398, r128_401, r128_404, r128_407, gW0 hw, vf9_0, tW0_0 hw, gP0 hP, vf5_2, tP0_2 hP, pW0_10 hw, ty9_10, gP4 hP, vf1_4, vf1_0, tP4_0 hP, gP5 hP, vf1_1, tP4_1 hP, gP6 hP, vf1_2, tP4_2 hP, gP7 hP, qa131, qo131, qa17, qo17, gI0 hi, vf9_1, tW0_1 hw, vf2_0, vf2_1, qa102, qo102, gW1 hw, vf2_4, qa116, qo116, qa133, qo133, vf2_3, vf2_5, qa132, qo132, qa135, qo135, qa23, qo23, qa136, qo136, pI0_2 hi, ty2_2, qa138, qo138, vf2_2, qa129, qo129, List.getElem?_cons_zero, List.getElem?_cons_succ, List.length_cons, List.length_nil, ag_nx, ag_dn, ag_no, ag_if, jbr1, jbr2, jc1, jc2, jnul, jld, jsto, jstoL, jst1, jst2, jkill, jinc, jbI, jbL, jbS, juI, jl2i, jcmp, jisR, jisI, jisL, jret, jretv, jfits, jdup, jdup2, jpop, jmm, jcat, Value.category, jinv, jrcv, jthr, jhd, jput, jget, jlen, jald, jast, jaast, jgI, jgL, jgB, jtab, jlku, jacp, vf20, vf21, vf22, vf23, vf24, u2_s, u2_k, u2_i, uc_s, uc_k, uc_c, u2_c, LI0, LI1, LI2, LI3, LI4, LI5, LI6, LI7, LI8, LI9, LI10, LI11, LI12, LI13, LI14, LI15, LI16, LI17, LI18, LI19, LI20, LI21, LI22, LI23, LI24, LI25, LI26, LI27, LI28, LI29, LI30, LI31, LI32, LI33, LI34, LI35, LI36, LI37, LI40, LI42, LI43, LI45, LI48, LI60, LI61, LI64, LI80, LI300, LI400, LI1000, LI2000, LI2001, LI2047, LI2048, LI100000, LI1000000, LM, nI_clamp, nI_pos', nI_lt, nI_nlt, nI_le, nI_ge, nI_ne, nI_add, nI_sub, mI_lt, mI_le, mI_nlt, mI_nle, mI_ne, mI_ne', mI_nem, h1, g5, g6, g7, nI_toInt, e, show p < 2048 by omega, show (o : Int) < 13 by omega, LI2048]
theorem stp127 {O G E : Nat → Int32} {P L p0 p o : Nat} {I1 : Nat → Nat → Int32} {x2 : Int32} (hw : isW w) (hP : isP P) (hi : isI p0) (hp : p < L) (ho : O p = nI o) (h12 : o ≤ 12) (hc : cdC P L O G E I) (e : jcall A jcode d 129 [.ref (b + w), .ref (b + p0), .int (nI o), .int (G p)] (jH h b X I J R n) = some (.inl none, jH h b X I1 J R n)) :
    M127 A d 16 [some (.ref (b + w)), some (.ref (b + p0)), some (.int x2), some (.ref (b + (P + 4))), some (.int (nI p))] [] (jH h b X I J R n) = M127 A d 16 [some (.ref (b + w)), some (.ref (b + p0)), some (.int x2), some (.ref (b + (P + 4))), some (.int (nI (p + 1)))] [] (jH h b X I1 J R n) := by
  obtain ⟨h1, h2, h3, h4, h5⟩ := hc
  have g5 : I (P + 5) p = nI o := by rw [h3, ho]
  have g6 : I (P + 6) p = G p := by rw [h4]
  rw [r127_16]
  simp (disch := omega) [r127_0, r127_1, r127_4, r127_7, r127_8, r127_9, r127_10, r127_13, r127_14, r127_18, r127_21, r127_23, r127_24, r127_27, r127_30, r127_32, r127_35, r127_38, r127_39, r127_42, r127_44, r127_45, r127_47, r127_50, r127_53, r127_54, r127_55, r127_56, r127_59, r127_61, r127_62, r127_63, r127_66, r127_68, r127_69, r127_72, r127_75, r127_78, r127_79, r127_82, gW0 hw, vf9_0, tW0_0 hw, gP0 hP, vf5_2, tP0_2 hP, pW0_10 hw, ty9_10, gP4 hP, vf1_4, vf1_0, tP4_0 hP, gP5 hP, vf1_1, tP4_1 hP, gP6 hP, qa129, qo129, qa131, qo131, List.getElem?_cons_zero, List.getElem?_cons_succ, List.length_cons, List.length_nil, ag_nx, ag_dn, ag_no, ag_if, jbr1, jbr2, jc1, jc2, jnul, jld, jsto, jstoL, jst1, jst2, jkill, jinc, jbI, jbL, jbS, juI, jl2i, jcmp, jisR, jisI, jisL, jret, jretv, jfits, jdup, jdup2, jpop, jmm, jcat, Value.category, jinv, jrcv, jthr, jhd, jput, jget, jlen, jald, jast, jaast, jgI, jgL, jgB, jtab, jlku, jacp, vf20, vf21, vf22, vf23, vf24, u2_s, u2_k, u2_i, uc_s, uc_k, uc_c, u2_c, LI0, LI1, LI2, LI3, LI4, LI5, LI6, LI7, LI8, LI9, LI10, LI11, LI12, LI13, LI14, LI15, LI16, LI17, LI18, LI19, LI20, LI21, LI22, LI23, LI24, LI25, LI26, LI27, LI28, LI29, LI30, LI31, LI32, LI33, LI34, LI35, LI36, LI37, LI40, LI42, LI43, LI45, LI48, LI60, LI61, LI64, LI80, LI300, LI400, LI1000, LI2000, LI2001, LI2047, LI2048, LI100000, LI1000000, LM, nI_clamp, nI_pos', nI_lt, nI_nlt, nI_le, nI_ge, nI_ne, nI_add, nI_sub, mI_lt, mI_le, mI_nlt, mI_nle, mI_ne, mI_ne', mI_nem, h1, g5, g6, nI_toInt, e, show p < 2048 by omega]
end SE
