/-! the class: an instance is made -/
section CM
variable {A : Nat → Nat} {d b n w P p : Nat} {h : Nat → Option jC} {X : jXX} {I : Nat → Nat → Int32} {J : Nat → Nat → Int64} {R : Nat → Nat → Nat} {cN rN : Int32 → Nm} {a : aI Nm} {W : aW Nm} {N : Nat → Nat → Int32} {O G E : Nat → Int32} {np L : Nat}
/-- one instance more -/
theorem wA_push {I I' : Nat → Nat → Int32} {L : List (aI Nm)} (h : wA cN I R w L) (h8 : L.length < 8) (hi : ∀ c i, w + 9 ≤ c → c ≤ w + 72 → (c < R (w + 8) L.length ∨ R (w + 8) L.length + 7 < c) → I' c i = I c i) (h3 : I' w 3 = nI (L.length + 1)) (ha : iC cN I' (R (w + 8) L.length) a) : wA cN I' R w (L ++ [a]) := by
  refine ⟨h.1, by simp; omega, by rw [h3]; simp, fun k c hk => ?_⟩
  rcases Nat.lt_or_ge k L.length with hl | hl
  · rw [List.getElem?_append_left hl] at hk
    have k8 := wA_lt h hk
    have hr := okS_r h.1 k8
    have hd := okS_d h.1 h8 k8 (by omega)
    exact iC_fr (fun c i h1 h2 => hi c i (by omega) (by omega) (by omega)) (h.2.2.2 k c hk)
  · rw [List.getElem?_append_right hl] at hk
    have : k = L.length := by
      rcases Nat.lt_or_ge (k - L.length) 1 with h1 | h1
      · omega
      · rw [List.getElem?_eq_none (by simpa using h1)] at hk; cases hk
    subst this
    simp at hk
    subst hk
    exact ha
theorem c137l {p0 nv : Nat} {c2 : Int32} (hw : isW w) (hi : isI p0) (hP : isP P) (hR : R w 0 = P) (hp : p < 6) (hv : nv ≤ 6) (hr : w + 9 ≤ p0 ∧ p0 ≤ w + 65) : ∀ (r i : Nat) (I : Nat → Nat → Int32), i + r = nv → ∃ I', M137 A d 83 [some (.ref (b + w)), some (.int (nI p)), some (.int c2), some (.ref (b + p0)), some (.int (nI nv)), some (.int (nI i))] [] (jH h b X I J R n) = M137 A d 118 [some (.ref (b + w)), some (.int (nI p)), some (.int c2), some (.ref (b + p0)), some (.int (nI nv)), some (.int (nI nv))] [] (jH h b X I' J R n) ∧ (∀ c j, c ≠ p0 + 1 → I' c j = I c j) ∧ (∀ j, i ≤ j → j < nv → I' (p0 + 1) j = I (P + 14) (p * 6 + j)) ∧ ∀ j, j < i → I' (p0 + 1) j = I (p0 + 1) j := by
  have w1 := isW_e hw
  have w2 := isP_e hP
  intro r
  induction r with
  | zero =>
    intro i I hir
    have : i = nv := by omega
    subst this
    refine ⟨I, ?_, fun _ _ _ => rfl, fun j h1 h2 => by omega, fun _ _ => rfl⟩
    rw [r137_83]
    simp (disch := omega) [r137_85, r137_87, List.getElem?_cons_zero, List.getElem?_cons_succ, List.length_cons, List.length_nil, ag_nx, ag_dn, ag_no, ag_if, jbr1, jbr2, jc1, jc2, jnul, jld, jsto, jstoL, jst1, jst2, jkill, jinc, jbI, jbL, jbS, juI, jl2i, jcmp, jisR, jisI, jisL, jret, jretv, jfits, jdup, jdup2, jpop, jmm, jcat, Value.category, jinv, jrcv, jthr, jhd, jput, jget, jlen, jald, jast, jaast, jgI, jgL, jgB, jtab, jlku, jacp, vf20, vf21, vf22, vf23, vf24, u2_s, u2_k, u2_i, uc_s, uc_k, uc_c, u2_c, LI0, LI1, LI2, LI3, LI4, LI5, LI6, LI7, LI8, LI9, LI10, LI11, LI12, LI13, LI14, LI15, LI16, LI17, LI18, LI19, LI20, LI21, LI22, LI23, LI24, LI25, LI26, LI27, LI28, LI29, LI30, LI31, LI32, LI33, LI34, LI35, LI36, LI37, LI40, LI42, LI43, LI45, LI48, LI60, LI61, LI64, LI80, LI300, LI400, LI1000, LI2000, LI2001, LI2047, LI2048, LI100000, LI1000000, LM, nI_clamp, nI_pos', nI_lt, nI_nlt, nI_le, nI_ge, nI_ne, nI_add, nI_sub, mI_lt, mI_le, mI_nlt, mI_nle, mI_ne, mI_ne', mI_nem]
  | succ r ih =>
    intro i I hir
    obtain ⟨I', e, f1, f2, f3⟩ := ih (i + 1) (u2 I (p0 + 1) i (I (P + 14) (p * 6 + i))) (by omega)
    refine ⟨I', ?_, fun c j hc => (f1 c j hc).trans (u2_k hc), fun j h1 h2 => ?_, fun j hj => ?_⟩
    · rw [r137_83]
      simp (disch := omega) [r137_0, r137_1, r137_4, r137_7, r137_8, r137_11, r137_13, r137_16, r137_17, r137_18, r137_21, r137_22, r137_25, r137_26, r137_27, r137_28, r137_29, r137_32, r137_35, r137_36, r137_37, r137_40, r137_41, r137_42, r137_45, r137_46, r137_47, r137_50, r137_51, r137_52, r137_55, r137_56, r137_57, r137_60, r137_61, r137_62, r137_65, r137_66, r137_67, r137_70, r137_71, r137_74, r137_75, r137_78, r137_80, r137_81, r137_85, r137_87, r137_90, r137_91, r137_94, r137_96, r137_97, r137_100, r137_103, r137_104, r137_106, r137_107, r137_109, r137_110, r137_111, r137_112, r137_115, r137_119, r137_120, r137_123, r137_124, r137_125, r137_128, r137_129, r137_130, r137_133, r137_134, r137_135, r137_138, r137_139, r137_142, r137_143, r137_144, r137_147, r137_148, r137_151, r137_152, r137_155, r137_156, r137_157, r137_159, r137_162, gW0 hw, vf9_3, vf9_2, tW0_2 hw, gW8 hw, pW8 hw, vf9_4, gI0 hi, pI0_0 hi, ty2_0, pI0_1 hi, ty2_1, pI0_2 hi, ty2_2, pI0_3 hi, ty2_3, pI0_4 hi, ty2_4, pI0_5 hi, ty2_5, pI0_7 hi, ty2_7, pI0_12 hi, ty2_12, vf9_0, tW0_0 hw, qa79, qo79, gP0 hP, vf2_6, tI0_6 hi, gI1 hi, pI1 hi, vf5_9, tP0_9 hP, gP14 hP, pP14 hP, pW0_3 hw, ty9_3, pW0_4 hw, ty9_4, vf9_1, tW0_1 hw, vf2_0, qa80, qo80, qa102, qo102, gW1 hw, List.getElem?_cons_zero, List.getElem?_cons_succ, List.length_cons, List.length_nil, ag_nx, ag_dn, ag_no, ag_if, jbr1, jbr2, jc1, jc2, jnul, jld, jsto, jstoL, jst1, jst2, jkill, jinc, jbI, jbL, jbS, juI, jl2i, jcmp, jisR, jisI, jisL, jret, jretv, jfits, jdup, jdup2, jpop, jmm, jcat, Value.category, jinv, jrcv, jthr, jhd, jput, jget, jlen, jald, jast, jaast, jgI, jgL, jgB, jtab, jlku, jacp, vf20, vf21, vf22, vf23, vf24, u2_s, u2_k, u2_i, uc_s, uc_k, uc_c, u2_c, LI0, LI1, LI2, LI3, LI4, LI5, LI6, LI7, LI8, LI9, LI10, LI11, LI12, LI13, LI14, LI15, LI16, LI17, LI18, LI19, LI20, LI21, LI22, LI23, LI24, LI25, LI26, LI27, LI28, LI29, LI30, LI31, LI32, LI33, LI34, LI35, LI36, LI37, LI40, LI42, LI43, LI45, LI48, LI60, LI61, LI64, LI80, LI300, LI400, LI1000, LI2000, LI2001, LI2047, LI2048, LI100000, LI1000000, LM, nI_clamp, nI_pos', nI_lt, nI_nlt, nI_le, nI_ge, nI_ne, nI_add, nI_sub, mI_lt, mI_le, mI_nlt, mI_nle, mI_ne, mI_ne', mI_nem, nI_mul, hR, e, show i < 6 by omega, show p * 6 + i < 36 by omega]
    · rcases Nat.lt_or_ge i j with h3 | h3
      · rw [f2 j h3 h2, u2_k (by omega)]
      · have : j = i := by omega
        subst this
        rw [f3 j (by omega), u2_s]
    · rw [f3 j (by omega), u2_i (by omega)]
theorem cCreate {mk : Int32} (hw : isW w) (hP : isP P) (hR : R w 0 = P) (hpl : plC cN rN N O G E np P L I) (hW : wC cN I R w W) (h8 : W.1.length < 8) (hp : p < np) : ∃ I', jcall A jcode (d + 2) 137 [.ref (b + w), .int (nI p), .int mk] (jH h b X I J R n) = some (.inl none, jH h b X I' J R n) ∧ wC cN I' R w (aFresh rN N (decide (w = 57)) p mk W) ∧ fC w I I' := by
  have w1 := isW_e hw
  have w2 := isP_e hP
  have n6 := hpl.1
  have kp := hpl.2.2.2 p hp
  obtain ⟨_, _, knm, _, kl6, klv, klt, _⟩ := kp
  have hi := wA_I hw hW.1 W.1.length h8
  have hr := okS_r hW.1.1 h8
  obtain ⟨hA, h4, h5, hL, hQ⟩ := hW
  obtain ⟨Q, hQe⟩ : ∃ Q, Q = u2 (u2 (u2 (u2 (u2 (u2 (u2 (u2 I (R (w + 8) W.1.length) 0 (I w 4)) (R (w + 8) W.1.length) 1 (nI p)) (R (w + 8) W.1.length) 2 (mI 1)) (R (w + 8) W.1.length) 3 mk) (R (w + 8) W.1.length) 4 (mI 1)) (R (w + 8) W.1.length) 5 (mI 1)) (R (w + 8) W.1.length) 7 (nI 0)) (R (w + 8) W.1.length) 12 (nI 0) := ⟨_, rfl⟩
  have q1 : ∀ c i, c ≠ R (w + 8) W.1.length → Q c i = I c i := fun c i hc => by rw [hQe]; simp (disch := omega) [u2_k, hc]
  have e79 := c79 (d := d) (A := A) (b := b) (h := h) (X := X) (J := J) (R := R) (n := n) (I := Q) (p := p) (c := (lets N p).length) hP (by omega) (by rw [q1 _ _ (by omega)]; exact klv) kl6
  obtain ⟨I1, e1, f1, f2, f3⟩ := c137l (d := d + 1) (A := A) (b := b) (h := h) (X := X) (J := J) (R := R) (n := n) (p := p) (nv := (lets N p).length) (c2 := mk) hw hi hP hR (by omega) kl6 hr (lets N p).length 0 Q (by omega)
  obtain ⟨I2, hI2⟩ : ∃ I2, I2 = u2 (u2 I1 w 3 (nI (W.1.length + 1))) w 4 (I w 4 + nI 1) := ⟨_, rfl⟩
  have g2 : ∀ c i, c ≠ w → I2 c i = I1 c i := fun c i hc => by rw [hI2]; simp (disch := omega) [u2_k, hc]
  have g3 : ∀ i, i ≠ 3 → i ≠ 4 → I2 w i = I w i := fun i h3 h4 => by rw [hI2, u2_i h4, u2_i h3, f1 _ _ (by omega), q1 _ _ (by omega)]
  have b3 : I1 w 3 = nI W.1.length := by rw [f1 _ _ (by omega), q1 _ _ (by omega)]; exact hA.2.2.1
  have b4 : I1 w 4 = I w 4 := by rw [f1 _ _ (by omega), q1 _ _ (by omega)]
  have b0 : I1 (R (w + 8) W.1.length) 0 = I w 4 := by rw [f1 _ _ (by omega), hQe]; simp (disch := omega) [u2_i, u2_s]
  have e80 := c80 (d := d) (A := A) (b := b) (h := h) (X := X) (J := J) (R := R) (n := n) (I := I2) (p := p) hP (by omega)
  have n9 : I2 (P + 9) p = I (P + 9) p := by rw [g2 _ _ (by omega), f1 _ _ (by omega), q1 _ _ (by omega)]
  have hW2 : wC cN I2 R w (W.1 ++ [aNew N W.2.1.1 p mk], (W.2.1.1 + 1, W.2.1.2), W.2.2) := by
    refine ⟨wA_push hA h8 ?_ ?_ ?_, ?_⟩
    · intro c i a1 a2 a3
      rw [g2 _ _ (by omega), f1 _ _ (by omega), q1 _ _ (by omega)]
    · rw [hI2, u2_i (by omega), u2_s]
    · unfold aNew
      refine ⟨?_, ?_, ?_, ?_, ?_, ?_⟩
      · show (W.2.1.1, nI p, -1, mk, -1, -1) = _
        simp only [g2 _ _ (show R (w + 8) W.1.length ≠ w by omega), f1 _ _ (show R (w + 8) W.1.length ≠ R (w + 8) W.1.length + 1 by omega), hQe]
        simp (disch := omega) [u2_i, u2_s, h4]
        rfl
      · show (lets N p).map _ = rl _ ((lets N p).map _).length
        rw [List.length_map]
        apply rl_ext (by rw [List.length_map])
        intro i hi
        rw [g2 _ _ (by omega), f2 i (by omega) hi, q1 _ _ (by omega), List.getElem?_map, List.getElem?_eq_getElem hi]
        rw [(klt i _ (List.getElem?_eq_getElem hi)).2]
        rfl
      · simp only [g2 _ _ (show R (w + 8) W.1.length ≠ w by omega), f1 _ _ (show R (w + 8) W.1.length ≠ R (w + 8) W.1.length + 1 by omega), hQe]
        simp (disch := omega) [u2_i, u2_s]
      · rfl
      · simp only [g2 _ _ (show R (w + 8) W.1.length ≠ w by omega), f1 _ _ (show R (w + 8) W.1.length ≠ R (w + 8) W.1.length + 1 by omega), hQe]
        simp (disch := omega) [u2_i, u2_s]
      · rfl
    · refine ⟨by rw [hI2, u2_s, h4]; rfl, by rw [g3 5 (by omega) (by omega)]; exact h5, fun e => ?_, fun e => ?_⟩
      · have := tC_fr (cN := cN) (I := I) (I' := I2) (w := w) (n := (I w 4, W.2.1.2)) (T := W.2.2.1) (F := W.2.2.2)
        obtain ⟨h6, h7, h9, hm, he, ht, hx⟩ := hL e
        subst e
        refine ⟨by rw [g3 6 (by omega) (by omega)]; exact h6, by rw [g3 7 (by omega) (by omega)]; exact h7, by rw [g3 8 (by omega) (by omega)]; exact h9, hm, by rw [g2 _ _ (by omega), f1 _ _ (by omega), q1 _ _ (by omega)]; exact he, ?_, by rw [g2 _ _ (by omega), f1 _ _ (by omega), q1 _ _ (by omega)]; exact hx⟩
        refine ht.trans (rl_congr fun j hj => ?_)
        have z : ∀ c, 58 ≤ c → c ≤ 64 → ∀ i, I2 c i = I c i := fun c h1 h2 i => by rw [g2 _ _ (by omega), f1 _ _ (by omega), q1 _ _ (by omega)]
        unfold eC
        rw [z 59 (by omega) (by omega), z 60 (by omega) (by omega), z 61 (by omega) (by omega), z 62 (by omega) (by omega), z 63 (by omega) (by omega), z 64 (by omega) (by omega)]
      · obtain ⟨h6, h7, he⟩ := hQ e
        subst e
        exact ⟨by rw [g3 6 (by omega) (by omega)]; exact h6, by rw [g3 7 (by omega) (by omega)]; exact h7, by rw [g2 _ _ (by omega), f1 _ _ (by omega), q1 _ _ (by omega)]; exact he⟩
  obtain ⟨I3, e3, w3, f3', _⟩ := cAdd (d := d) (A := A) (b := b) (h := h) (X := X) (J := J) (n := n) (kd := 4) (id := I w 4) (x := I (P + 9) p) (v := mk) (o := nI p) (pe := -2) hw hW2
  refine ⟨I3, ?_, ?_, fC_trans ⟨fun c i hc => ?_, ?_⟩ f3'⟩
  · have b0' : I2 (R (w + 8) W.1.length) 0 = I w 4 := by rw [g2 _ _ (by omega)]; exact b0
    simp only [LI0, LI1, LI2, LI3, LI4, LI5, LI6, LI7, LI8, LI9, LI10, LI11, LI12, LI13, LI14, LI15, LI16, LI17, LI18, LI19, LI20, LI21, LI22, LI23, LI24, LI25, LI26, LI27, LI28, LI29, LI30, LI31, LI32, LI33, LI34, LI35, LI36, LI37, LI40, LI42, LI43, LI45, LI48, LI60, LI61, LI64, LI80, LI300, LI400, LI1000, LI2000, LI2001, LI2047, LI2048, LI100000, LI1000000, LM] at e3
    rw [n9] at e80
    rw [hQe] at e79 e1
    rw [hI2] at e80 e3 b0'
    have h3' : I w 3 = nI W.1.length := hA.2.2.1
    simp (disch := omega) [je137, r137_0, r137_1, r137_4, r137_7, r137_8, r137_11, r137_13, r137_16, r137_17, r137_18, r137_21, r137_22, r137_25, r137_26, r137_27, r137_28, r137_29, r137_32, r137_35, r137_36, r137_37, r137_40, r137_41, r137_42, r137_45, r137_46, r137_47, r137_50, r137_51, r137_52, r137_55, r137_56, r137_57, r137_60, r137_61, r137_62, r137_65, r137_66, r137_67, r137_70, r137_71, r137_74, r137_75, r137_78, r137_80, r137_81, r137_85, r137_87, r137_90, r137_91, r137_94, r137_96, r137_97, r137_100, r137_103, r137_104, r137_106, r137_107, r137_109, r137_110, r137_111, r137_112, r137_115, r137_118, r137_119, r137_120, r137_123, r137_124, r137_125, r137_128, r137_129, r137_130, r137_133, r137_134, r137_135, r137_138, r137_139, r137_142, r137_143, r137_144, r137_147, r137_148, r137_151, r137_152, r137_155, r137_156, r137_157, r137_159, r137_162, gW0 hw, vf9_3, vf9_2, tW0_2 hw, gW8 hw, pW8 hw, vf9_4, gI0 hi, pI0_0 hi, ty2_0, pI0_1 hi, ty2_1, pI0_2 hi, ty2_2, pI0_3 hi, ty2_3, pI0_4 hi, ty2_4, pI0_5 hi, ty2_5, pI0_7 hi, ty2_7, pI0_12 hi, ty2_12, vf9_0, tW0_0 hw, qa79, qo79, gP0 hP, vf2_6, tI0_6 hi, gI1 hi, pI1 hi, vf5_9, tP0_9 hP, gP14 hP, pP14 hP, pW0_3 hw, ty9_3, pW0_4 hw, ty9_4, vf9_1, tW0_1 hw, vf2_0, qa80, qo80, qa102, qo102, gW1 hw, List.getElem?_cons_zero, List.getElem?_cons_succ, List.length_cons, List.length_nil, ag_nx, ag_dn, ag_no, ag_if, jbr1, jbr2, jc1, jc2, jnul, jld, jsto, jstoL, jst1, jst2, jkill, jinc, jbI, jbL, jbS, juI, jl2i, jcmp, jisR, jisI, jisL, jret, jretv, jfits, jdup, jdup2, jpop, jmm, jcat, Value.category, jinv, jrcv, jthr, jhd, jput, jget, jlen, jald, jast, jaast, jgI, jgL, jgB, jtab, jlku, jacp, vf20, vf21, vf22, vf23, vf24, u2_s, u2_k, u2_i, uc_s, uc_k, uc_c, u2_c, LI0, LI1, LI2, LI3, LI4, LI5, LI6, LI7, LI8, LI9, LI10, LI11, LI12, LI13, LI14, LI15, LI16, LI17, LI18, LI19, LI20, LI21, LI22, LI23, LI24, LI25, LI26, LI27, LI28, LI29, LI30, LI31, LI32, LI33, LI34, LI35, LI36, LI37, LI40, LI42, LI43, LI45, LI48, LI60, LI61, LI64, LI80, LI300, LI400, LI1000, LI2000, LI2001, LI2047, LI2048, LI100000, LI1000000, LM, nI_clamp, nI_pos', nI_lt, nI_nlt, nI_le, nI_ge, nI_ne, nI_add, nI_sub, mI_lt, mI_le, mI_nlt, mI_nle, mI_ne, mI_ne', mI_nem, hR, h3', h8, e79, e1, e80, e3, b3, b4, b0, b0']
  · have hx : ¬ (((4 : Int32) = 0 ∨ (4 : Int32) = 1) ∧ ¬ (-2 : Int32) = -2) := by simp
    rw [if_neg hx, knm, h4] at w3
    exact w3
  · rw [g2 _ _ (by omega), f1 _ _ (by omega), q1 _ _ (by omega)]
  · exact g3 10 (by omega) (by omega)
end CM
