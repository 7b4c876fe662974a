/-! the class takes a signal -/
section CT2
variable {A : Nat → Nat} {d b n w P p k : Nat} {h : Nat → Option jC} {X : jXX} {I : Nat → Nat → Int32} {J : Nat → Nat → Int64} {R : Nat → Nat → Nat} {cN rN : Int32 → Nm} {a : aI Nm} {W : aW Nm} {N : Nat → Nat → Int32} {O G E : Nat → Int32} {np L : Nat}
theorem iC_send {p0 : Nat} {v : Int32} (hA : iC cN I p0 a) : iC cN (u2 I p0 4 v) p0 ((a.1.1, a.1.2.1, a.1.2.2.1, a.1.2.2.2.1, v, a.1.2.2.2.2.2), a.2) := by
  obtain ⟨h1, h2, h3, h4, h5, h6⟩ := hA
  refine ⟨?_, ?_, ?_, ?_, ?_, ?_⟩
  · rw [h1]
    simp (disch := omega) [u2_i, u2_s]
  · refine h2.trans (rl_congr fun j hj => ?_)
    simp (disch := omega) [u2_k]
  · rw [u2_i (by omega)]; exact h3
  · refine h4.trans (rl_congr fun j hj => ?_)
    simp (disch := omega) [u2_k]
  · rw [u2_i (by omega)]; exact h5
  · refine h6.trans (rl_congr fun j hj => ?_)
    simp (disch := omega) [u2_k]
/-- the signal at i -/
theorem iC_sig {p0 i : Nat} (hA : iC cN I p0 a) (hi : i < a.2.2.1.length) : a.2.2.1[i]? = some (cN (I (p0 + 2) i), I (p0 + 3) i, I (p0 + 4) i, I (p0 + 5) i) := by
  rw [hA.2.2.2.1, rl_at hi]
/-- what the variables are behind it -/
def tkV (N : Nat → Nat → Int32) (kd : Int32) (a : aI Nm) (c : Option Nat) (v : Int32) : List Int32 := match c with
    | some c => if (kd = 2 ∨ kd = 3) ∧ 0 ≤ N 258 ((cls N (ix a.1.2.1) (ix a.1.2.2.1)).getD c 0) then a.2.1.set (ix (N 253 ((cls N (ix a.1.2.1) (ix a.1.2.2.1)).getD c 0))) v else a.2.1
    | none => a.2.1
/-- taken, but for the counts -/
theorem cTake {i kd : Nat} {c : Option Nat} {s : aS Nm} (hw : isW w) (hP : isP P) (hR : R w 0 = P) (hpl : plC cN rN N O G E np P L I) (hW : wC cN I R w W) (ok : okL W.1) (hk : W.1[k]? = some a) (hs : a.2.2.1[i]? = some s) (h11 : I w 11 = nI i)
    (hkd : (kd = 5 ∧ c = none) ∨ (kd = 4 ∨ kd = 3 ∨ kd = 2) ∧ ∃ j x, c = some j ∧ x < 384 ∧ I w 12 = nI x ∧ ((I (P + 20) x = -1 ∧ tkV N (nI kd) a c s.2.1 = a.2.1) ∨ ∃ y, y < a.2.1.length ∧ I (P + 20) x = nI y ∧ tkV N (nI kd) a c s.2.1 = a.2.1.set y s.2.1)) :
    ∃ I', jcall A jcode (d + 2) 126 [.ref (b + w), .ref (b + R (w + 8) k), .int (nI kd)] (jH h b X I J R n) = some (.inl none, jH h b X I' J R n) ∧
      wC cN I' R w ((fun W1 : aW Nm => (W1.1, (W1.2.1.1, W1.2.1.2.1, W1.2.1.2.2.1, if kd = 5 then (if decide (w = 57) = true then W1.2.1.2.2.2.1 + 1 else W1.2.1.2.2.2.1) else W1.2.1.2.2.2.1, W1.2.1.2.2.2.2), W1.2.2.1, (W1.2.2.2.1, if kd = 5 then W1.2.2.2.2 + 1 else W1.2.2.2.2)))
        (aAdd (decide (w = 57)) (if kd = 5 then 2 else 1, a.1.1, s.1, s.2.1, if kd = 5 ∨ s.2.2.2 = -2 then none else some (a.1.2.1, s.2.2.2)) (aPut k ((a.1.1, a.1.2.1, a.1.2.2.1, a.1.2.2.2.1, s.2.2.1, a.1.2.2.2.2.2), tkV N (nI kd) a c s.2.1, a.2.2.1.eraseIdx i, a.2.2.2) W))) ∧ (∀ c i, c < w ∨ w + 73 < c → I' c i = I c i) ∧ (∀ i, 10 ≤ i → I' w i = I w i) := by
  have w1 := isW_e hw
  have w2 := isP_e hP
  have k8 := wA_lt hW.1 hk
  have hkl := lt_of_some hk
  have hi := wA_I hw hW.1 k k8
  have hr := okS_r hW.1.1 k8
  obtain ⟨o1, o2, o3, _⟩ := ok k a hk
  have hA := hW.1.2.2.2 k a hk
  obtain ⟨i0, i1, i2, _⟩ := iC_01 hA
  have hil := lt_of_some hs
  have hsg := iC_sig hA hil
  rw [hs] at hsg
  have es : s = (cN (I (R (w + 8) k + 2) i), I (R (w + 8) k + 3) i, I (R (w + 8) k + 4) i, I (R (w + 8) k + 5) i) := Option.some.inj hsg
  subst es
  have q7 : I (R (w + 8) k) 7 = nI a.2.2.1.length := hA.2.2.1
  -- the event
  obtain ⟨I1, e1, wa, fa, ga, gw⟩ := cAdd (d := d) (A := A) (b := b) (h := h) (X := X) (J := J) (n := n) (kd := if kd = 5 then 2 else 1) (id := a.1.1) (x := I (R (w + 8) k + 2) i) (v := I (R (w + 8) k + 3) i) (o := a.1.2.1) (pe := I (R (w + 8) k + 5) i) hw hW
  have hA1 := wa.1.2.2.2 k a hk
  have g4 : I1 (R (w + 8) k + 4) i = I (R (w + 8) k + 4) i := ga _ _ (by omega) (by omega)
  -- the sender, the row
  have hA2 := iC_send (v := I (R (w + 8) k + 4) i) hA1
  obtain ⟨I3, e3, hA3, on3⟩ := cDrop (d := d) (A := A) (b := b) (h' := h) (X := X) (J := J) (R := R) (n := n) (i := i) hi hA2 o2 hil
  have on13 : onI (R (w + 8) k) I1 I3 := fun c j hc => (on3 c j hc).trans (u2_k (by omega))
  have t11 : I1 w 11 = nI i := (gw 11).trans h11
  have t12 : I3 w 12 = I w 12 := (on13 w 12 (by omega)).trans (gw 12)
  have t7 : I3 w 7 = I w 7 := (on13 w 7 (by omega)).trans (gw 7)
  have p20 : ∀ x, I3 (P + 20) x = I (P + 20) x := fun x => (on13 _ _ (by omega)).trans (fa.1 _ _ (by omega))
  have hev : (if ((if kd = 5 then (2 : Int32) else 1) = 0 ∨ (if kd = 5 then (2 : Int32) else 1) = 1) ∧ ¬ I (R (w + 8) k + 5) i = -2 then some (a.1.2.1, I (R (w + 8) k + 5) i) else none) = (if kd = 5 ∨ I (R (w + 8) k + 5) i = -2 then none else some (a.1.2.1, I (R (w + 8) k + 5) i)) := by
    by_cases h5 : kd = 5
    · simp [h5]
    · simp [h5]
  rw [hev] at wa
  rcases hkd with ⟨rfl, rfl⟩ | ⟨hk3, j, x, rfl, hx, h12, hvv⟩
  · -- thrown away
    obtain ⟨wp, fp, gp⟩ := wC_put hw wa hkl on13 hA3
    rw [if_pos rfl] at e1
    simp only [LI0, LI1, LI2, LI3, LI4, LI5, LI6, LI7, LI8, LI9, LI10, LI11, LI12, LI13, LI14, LI15, LI16, LI17, LI18, LI19, LI20, LI21, LI22, LI23, LI24, LI25, LI26, LI27, LI28, LI29, LI30, LI31, LI32, LI33, LI34, LI35, LI36, LI37, LI40, LI42, LI43, LI45, LI48, LI60, LI61, LI64, LI80, LI300, LI400, LI1000, LI2000, LI2001, LI2047, LI2048, LI100000, LI1000000, LM] at e1
    refine ⟨u2 I3 w 7 (I w 7 + nI 1), ?_, ?_, fun c i hc => ?_, fun i hi10 => ?_⟩
    · simp (disch := omega) [je126, r126_0, r126_1, r126_4, r126_5, r126_6, r126_9, r126_10, r126_11, r126_14, r126_17, r126_18, r126_20, r126_23, r126_24, r126_25, r126_28, r126_29, r126_30, r126_32, r126_33, r126_34, r126_37, r126_38, r126_41, r126_42, r126_44, r126_45, r126_48, r126_50, r126_51, r126_54, r126_55, r126_58, r126_59, r126_60, r126_62, r126_63, r126_66, r126_67, r126_70, r126_71, r126_72, r126_75, r126_76, r126_77, r126_80, r126_81, r126_82, r126_85, r126_86, r126_87, r126_90, r126_91, r126_92, r126_95, r126_96, r126_97, r126_100, r126_101, r126_102, r126_105, r126_108, r126_109, r126_112, r126_115, r126_116, r126_119, r126_120, r126_123, r126_126, r126_127, r126_130, r126_131, r126_132, r126_135, r126_138, r126_139, r126_142, r126_143, r126_145, r126_148, gW0 hw, vf9_11, gI0 hi, vf2_7, vf2_9, tI0_9 hi, gI3 hi, vf9_1, tW0_1 hw, vf2_0, vf2_8, tI0_8 hi, gI2 hi, vf2_1, vf2_11, tI0_11 hi, gI5 hi, qa102, qo102, gW1 hw, vf2_10, tI0_10 hi, gI4 hi, pI0_4 hi, ty2_4, qa19, qo19, vf9_7, pW0_7 hw, ty9_7, vf9_12, vf9_0, tW0_0 hw, gP0 hP, vf5_15, tP0_15 hP, gP20 hP, qa17, qo17, List.getElem?_cons_zero, List.getElem?_cons_succ, List.length_cons, List.length_nil, ag_nx, ag_dn, ag_no, ag_if, jbr1, jbr2, jc1, jc2, jnul, jld, jsto, jstoL, jst1, jst2, jkill, jinc, jbI, jbL, jbS, juI, jl2i, jcmp, jisR, jisI, jisL, jret, jretv, jfits, jdup, jdup2, jpop, jmm, jcat, Value.category, jinv, jrcv, jthr, jhd, jput, jget, jlen, jald, jast, jaast, jgI, jgL, jgB, jtab, jlku, jacp, vf20, vf21, vf22, vf23, vf24, u2_s, u2_k, u2_i, uc_s, uc_k, uc_c, u2_c, LI0, LI1, LI2, LI3, LI4, LI5, LI6, LI7, LI8, LI9, LI10, LI11, LI12, LI13, LI14, LI15, LI16, LI17, LI18, LI19, LI20, LI21, LI22, LI23, LI24, LI25, LI26, LI27, LI28, LI29, LI30, LI31, LI32, LI33, LI34, LI35, LI36, LI37, LI40, LI42, LI43, LI45, LI48, LI60, LI61, LI64, LI80, LI300, LI400, LI1000, LI2000, LI2001, LI2047, LI2048, LI100000, LI1000000, LM, nI_clamp, nI_pos', nI_lt, nI_nlt, nI_le, nI_ge, nI_ne, nI_add, nI_sub, mI_lt, mI_le, mI_nlt, mI_nle, mI_ne, mI_ne', mI_nem, hR, h11, q7, i0, i1, e1, g4, t11, e3, t7, show i < 8 by omega]
    · simp only [if_true, true_or] at wp ⊢
      obtain ⟨zA, z4, z5, zL, zQ⟩ := wp
      refine ⟨wA_fr (fun c i h1 h2 => by rw [u2_k (by omega)]) (by rw [u2_i (by omega)]) zA, by rw [u2_i (by omega)]; exact z4, by rw [u2_i (by omega)]; exact z5, fun e => ?_, fun e => ?_⟩
      · obtain ⟨y6, y7, y8, ym, ye, yt, yx⟩ := zL e
        subst e
        refine ⟨by rw [u2_i (by omega)]; exact y6, ?_, by rw [u2_i (by omega)]; exact y8, ym, by rw [u2_k (by omega)]; exact ye, ?_, by rw [u2_k (by omega)]; exact yx⟩
        · rw [u2_s, ← t7, y7]
          rfl
        · refine yt.trans (rl_congr fun j hj => ?_)
          unfold eC
          simp (disch := omega) [u2_k]
      · obtain ⟨y6, y7, ye⟩ := zQ e
        subst e
        refine ⟨by rw [u2_i (by omega)]; exact y6, ?_, by rw [u2_k (by omega)]; exact ye⟩
        rw [u2_s, ← t7, y7]
        exact nI_add _ 1
    · rw [u2_k (by omega), on13 _ _ (by omega), fa.1 _ _ hc]
    · rw [u2_i (by omega), on13 _ _ (by omega), gw]
  · have h5 : ¬ kd = 5 := by omega
    rw [if_neg h5] at e1 wa
    simp only [LI0, LI1, LI2, LI3, LI4, LI5, LI6, LI7, LI8, LI9, LI10, LI11, LI12, LI13, LI14, LI15, LI16, LI17, LI18, LI19, LI20, LI21, LI22, LI23, LI24, LI25, LI26, LI27, LI28, LI29, LI30, LI31, LI32, LI33, LI34, LI35, LI36, LI37, LI40, LI42, LI43, LI45, LI48, LI60, LI61, LI64, LI80, LI300, LI400, LI1000, LI2000, LI2001, LI2047, LI2048, LI100000, LI1000000, LM] at e1
    simp only [h5, if_false]
    have hsz : (sT (P + 20)).2 = 384 := by rcases w2 with rfl | rfl <;> rfl
    rcases hvv with ⟨v1, v2⟩ | ⟨y, hy, v1, v2⟩
    · obtain ⟨wp, fp, gp⟩ := wC_put hw wa hkl on13 hA3
      have e4 := c17n (d := d) (A := A) (b := b) (h := h) (X := X) (J := J) (R := R) (n := n) (I := I3) (v := I (R (w + 8) k + 3) i) hi
      simp only [LI0, LI1, LI2, LI3, LI4, LI5, LI6, LI7, LI8, LI9, LI10, LI11, LI12, LI13, LI14, LI15, LI16, LI17, LI18, LI19, LI20, LI21, LI22, LI23, LI24, LI25, LI26, LI27, LI28, LI29, LI30, LI31, LI32, LI33, LI34, LI35, LI36, LI37, LI40, LI42, LI43, LI45, LI48, LI60, LI61, LI64, LI80, LI300, LI400, LI1000, LI2000, LI2001, LI2047, LI2048, LI100000, LI1000000, LM] at e4
      have v1' : I3 (P + 20) x = mI 1 := (p20 x).trans v1
      have t12' : I3 w 12 = nI x := t12.trans h12
      refine ⟨I3, ?_, ?_, fun c i hc => by rw [on13 _ _ (by omega), fa.1 _ _ hc], fun i hi10 => by rw [on13 _ _ (by omega), gw]⟩
      · rcases hk3 with rfl | rfl | rfl
        · simp (disch := omega) [je126, r126_0, r126_1, r126_4, r126_5, r126_6, r126_9, r126_10, r126_11, r126_14, r126_17, r126_18, r126_20, r126_23, r126_24, r126_25, r126_28, r126_29, r126_30, r126_32, r126_33, r126_34, r126_37, r126_38, r126_41, r126_42, r126_44, r126_45, r126_48, r126_50, r126_51, r126_54, r126_55, r126_58, r126_59, r126_60, r126_62, r126_63, r126_66, r126_67, r126_70, r126_71, r126_72, r126_75, r126_76, r126_77, r126_80, r126_81, r126_82, r126_85, r126_86, r126_87, r126_90, r126_91, r126_92, r126_95, r126_96, r126_97, r126_100, r126_101, r126_102, r126_105, r126_108, r126_109, r126_112, r126_115, r126_116, r126_119, r126_120, r126_123, r126_126, r126_127, r126_130, r126_131, r126_132, r126_135, r126_138, r126_139, r126_142, r126_143, r126_145, r126_148, gW0 hw, vf9_11, gI0 hi, vf2_7, vf2_9, tI0_9 hi, gI3 hi, vf9_1, tW0_1 hw, vf2_0, vf2_8, tI0_8 hi, gI2 hi, vf2_1, vf2_11, tI0_11 hi, gI5 hi, qa102, qo102, gW1 hw, vf2_10, tI0_10 hi, gI4 hi, pI0_4 hi, ty2_4, qa19, qo19, vf9_7, pW0_7 hw, ty9_7, vf9_12, vf9_0, tW0_0 hw, gP0 hP, vf5_15, tP0_15 hP, gP20 hP, qa17, qo17, List.getElem?_cons_zero, List.getElem?_cons_succ, List.length_cons, List.length_nil, ag_nx, ag_dn, ag_no, ag_if, jbr1, jbr2, jc1, jc2, jnul, jld, jsto, jstoL, jst1, jst2, jkill, jinc, jbI, jbL, jbS, juI, jl2i, jcmp, jisR, jisI, jisL, jret, jretv, jfits, jdup, jdup2, jpop, jmm, jcat, Value.category, jinv, jrcv, jthr, jhd, jput, jget, jlen, jald, jast, jaast, jgI, jgL, jgB, jtab, jlku, jacp, vf20, vf21, vf22, vf23, vf24, u2_s, u2_k, u2_i, uc_s, uc_k, uc_c, u2_c, LI0, LI1, LI2, LI3, LI4, LI5, LI6, LI7, LI8, LI9, LI10, LI11, LI12, LI13, LI14, LI15, LI16, LI17, LI18, LI19, LI20, LI21, LI22, LI23, LI24, LI25, LI26, LI27, LI28, LI29, LI30, LI31, LI32, LI33, LI34, LI35, LI36, LI37, LI40, LI42, LI43, LI45, LI48, LI60, LI61, LI64, LI80, LI300, LI400, LI1000, LI2000, LI2001, LI2047, LI2048, LI100000, LI1000000, LM, nI_clamp, nI_pos', nI_lt, nI_nlt, nI_le, nI_ge, nI_ne, nI_add, nI_sub, mI_lt, mI_le, mI_nlt, mI_nle, mI_ne, mI_ne', mI_nem, hR, h11, q7, i0, i1, e1, g4, t11, e3, t12', v1', e4, hx, show i < 8 by omega]
        · simp (disch := omega) [je126, r126_0, r126_1, r126_4, r126_5, r126_6, r126_9, r126_10, r126_11, r126_14, r126_17, r126_18, r126_20, r126_23, r126_24, r126_25, r126_28, r126_29, r126_30, r126_32, r126_33, r126_34, r126_37, r126_38, r126_41, r126_42, r126_44, r126_45, r126_48, r126_50, r126_51, r126_54, r126_55, r126_58, r126_59, r126_60, r126_62, r126_63, r126_66, r126_67, r126_70, r126_71, r126_72, r126_75, r126_76, r126_77, r126_80, r126_81, r126_82, r126_85, r126_86, r126_87, r126_90, r126_91, r126_92, r126_95, r126_96, r126_97, r126_100, r126_101, r126_102, r126_105, r126_108, r126_109, r126_112, r126_115, r126_116, r126_119, r126_120, r126_123, r126_126, r126_127, r126_130, r126_131, r126_132, r126_135, r126_138, r126_139, r126_142, r126_143, r126_145, r126_148, gW0 hw, vf9_11, gI0 hi, vf2_7, vf2_9, tI0_9 hi, gI3 hi, vf9_1, tW0_1 hw, vf2_0, vf2_8, tI0_8 hi, gI2 hi, vf2_1, vf2_11, tI0_11 hi, gI5 hi, qa102, qo102, gW1 hw, vf2_10, tI0_10 hi, gI4 hi, pI0_4 hi, ty2_4, qa19, qo19, vf9_7, pW0_7 hw, ty9_7, vf9_12, vf9_0, tW0_0 hw, gP0 hP, vf5_15, tP0_15 hP, gP20 hP, qa17, qo17, List.getElem?_cons_zero, List.getElem?_cons_succ, List.length_cons, List.length_nil, ag_nx, ag_dn, ag_no, ag_if, jbr1, jbr2, jc1, jc2, jnul, jld, jsto, jstoL, jst1, jst2, jkill, jinc, jbI, jbL, jbS, juI, jl2i, jcmp, jisR, jisI, jisL, jret, jretv, jfits, jdup, jdup2, jpop, jmm, jcat, Value.category, jinv, jrcv, jthr, jhd, jput, jget, jlen, jald, jast, jaast, jgI, jgL, jgB, jtab, jlku, jacp, vf20, vf21, vf22, vf23, vf24, u2_s, u2_k, u2_i, uc_s, uc_k, uc_c, u2_c, LI0, LI1, LI2, LI3, LI4, LI5, LI6, LI7, LI8, LI9, LI10, LI11, LI12, LI13, LI14, LI15, LI16, LI17, LI18, LI19, LI20, LI21, LI22, LI23, LI24, LI25, LI26, LI27, LI28, LI29, LI30, LI31, LI32, LI33, LI34, LI35, LI36, LI37, LI40, LI42, LI43, LI45, LI48, LI60, LI61, LI64, LI80, LI300, LI400, LI1000, LI2000, LI2001, LI2047, LI2048, LI100000, LI1000000, LM, nI_clamp, nI_pos', nI_lt, nI_nlt, nI_le, nI_ge, nI_ne, nI_add, nI_sub, mI_lt, mI_le, mI_nlt, mI_nle, mI_ne, mI_ne', mI_nem, hR, h11, q7, i0, i1, e1, g4, t11, e3, t12', v1', e4, hx, show i < 8 by omega]
        · simp (disch := omega) [je126, r126_0, r126_1, r126_4, r126_5, r126_6, r126_9, r126_10, r126_11, r126_14, r126_17, r126_18, r126_20, r126_23, r126_24, r126_25, r126_28, r126_29, r126_30, r126_32, r126_33, r126_34, r126_37, r126_38, r126_41, r126_42, r126_44, r126_45, r126_48, r126_50, r126_51, r126_54, r126_55, r126_58, r126_59, r126_60, r126_62, r126_63, r126_66, r126_67, r126_70, r126_71, r126_72, r126_75, r126_76, r126_77, r126_80, r126_81, r126_82, r126_85, r126_86, r126_87, r126_90, r126_91, r126_92, r126_95, r126_96, r126_97, r126_100, r126_101, r126_102, r126_105, r126_108, r126_109, r126_112, r126_115, r126_116, r126_119, r126_120, r126_123, r126_126, r126_127, r126_130, r126_131, r126_132, r126_135, r126_138, r126_139, r126_142, r126_143, r126_145, r126_148, gW0 hw, vf9_11, gI0 hi, vf2_7, vf2_9, tI0_9 hi, gI3 hi, vf9_1, tW0_1 hw, vf2_0, vf2_8, tI0_8 hi, gI2 hi, vf2_1, vf2_11, tI0_11 hi, gI5 hi, qa102, qo102, gW1 hw, vf2_10, tI0_10 hi, gI4 hi, pI0_4 hi, ty2_4, qa19, qo19, vf9_7, pW0_7 hw, ty9_7, vf9_12, vf9_0, tW0_0 hw, gP0 hP, vf5_15, tP0_15 hP, gP20 hP, qa17, qo17, List.getElem?_cons_zero, List.getElem?_cons_succ, List.length_cons, List.length_nil, ag_nx, ag_dn, ag_no, ag_if, jbr1, jbr2, jc1, jc2, jnul, jld, jsto, jstoL, jst1, jst2, jkill, jinc, jbI, jbL, jbS, juI, jl2i, jcmp, jisR, jisI, jisL, jret, jretv, jfits, jdup, jdup2, jpop, jmm, jcat, Value.category, jinv, jrcv, jthr, jhd, jput, jget, jlen, jald, jast, jaast, jgI, jgL, jgB, jtab, jlku, jacp, vf20, vf21, vf22, vf23, vf24, u2_s, u2_k, u2_i, uc_s, uc_k, uc_c, u2_c, LI0, LI1, LI2, LI3, LI4, LI5, LI6, LI7, LI8, LI9, LI10, LI11, LI12, LI13, LI14, LI15, LI16, LI17, LI18, LI19, LI20, LI21, LI22, LI23, LI24, LI25, LI26, LI27, LI28, LI29, LI30, LI31, LI32, LI33, LI34, LI35, LI36, LI37, LI40, LI42, LI43, LI45, LI48, LI60, LI61, LI64, LI80, LI300, LI400, LI1000, LI2000, LI2001, LI2047, LI2048, LI100000, LI1000000, LM, nI_clamp, nI_pos', nI_lt, nI_nlt, nI_le, nI_ge, nI_ne, nI_add, nI_sub, mI_lt, mI_le, mI_nlt, mI_nle, mI_ne, mI_ne', mI_nem, hR, h11, q7, i0, i1, e1, g4, t11, e3, t12', v1', e4, hx, show i < 8 by omega]
      · rw [v2]
        simp only [h5, if_false, false_or] at wp ⊢
        exact wp
    · have hA4 := iC_var (v := I (R (w + 8) k + 3) i) (j := y) hA3 hy
      have on4 : onI (R (w + 8) k) I1 (u2 I3 (R (w + 8) k + 1) y (I (R (w + 8) k + 3) i)) := fun c j hc => by rw [u2_k (by omega)]; exact on13 c j hc
      obtain ⟨wp, fp, gp⟩ := wC_put hw wa hkl on4 hA4
      have e4 := c17 (d := d) (A := A) (b := b) (h := h) (X := X) (J := J) (R := R) (n := n) (I := I3) (k := y) (v := I (R (w + 8) k + 3) i) hi (by omega)
      have v1' : I3 (P + 20) x = nI y := (p20 x).trans v1
      have t12' : I3 w 12 = nI x := t12.trans h12
      refine ⟨u2 I3 (R (w + 8) k + 1) y (I (R (w + 8) k + 3) i), ?_, ?_, fun c i hc => by rw [on4 _ _ (by omega), fa.1 _ _ hc], fun i hi10 => by rw [on4 _ _ (by omega), gw]⟩
      · rcases hk3 with rfl | rfl | rfl
        · simp (disch := omega) [je126, r126_0, r126_1, r126_4, r126_5, r126_6, r126_9, r126_10, r126_11, r126_14, r126_17, r126_18, r126_20, r126_23, r126_24, r126_25, r126_28, r126_29, r126_30, r126_32, r126_33, r126_34, r126_37, r126_38, r126_41, r126_42, r126_44, r126_45, r126_48, r126_50, r126_51, r126_54, r126_55, r126_58, r126_59, r126_60, r126_62, r126_63, r126_66, r126_67, r126_70, r126_71, r126_72, r126_75, r126_76, r126_77, r126_80, r126_81, r126_82, r126_85, r126_86, r126_87, r126_90, r126_91, r126_92, r126_95, r126_96, r126_97, r126_100, r126_101, r126_102, r126_105, r126_108, r126_109, r126_112, r126_115, r126_116, r126_119, r126_120, r126_123, r126_126, r126_127, r126_130, r126_131, r126_132, r126_135, r126_138, r126_139, r126_142, r126_143, r126_145, r126_148, gW0 hw, vf9_11, gI0 hi, vf2_7, vf2_9, tI0_9 hi, gI3 hi, vf9_1, tW0_1 hw, vf2_0, vf2_8, tI0_8 hi, gI2 hi, vf2_1, vf2_11, tI0_11 hi, gI5 hi, qa102, qo102, gW1 hw, vf2_10, tI0_10 hi, gI4 hi, pI0_4 hi, ty2_4, qa19, qo19, vf9_7, pW0_7 hw, ty9_7, vf9_12, vf9_0, tW0_0 hw, gP0 hP, vf5_15, tP0_15 hP, gP20 hP, qa17, qo17, List.getElem?_cons_zero, List.getElem?_cons_succ, List.length_cons, List.length_nil, ag_nx, ag_dn, ag_no, ag_if, jbr1, jbr2, jc1, jc2, jnul, jld, jsto, jstoL, jst1, jst2, jkill, jinc, jbI, jbL, jbS, juI, jl2i, jcmp, jisR, jisI, jisL, jret, jretv, jfits, jdup, jdup2, jpop, jmm, jcat, Value.category, jinv, jrcv, jthr, jhd, jput, jget, jlen, jald, jast, jaast, jgI, jgL, jgB, jtab, jlku, jacp, vf20, vf21, vf22, vf23, vf24, u2_s, u2_k, u2_i, uc_s, uc_k, uc_c, u2_c, LI0, LI1, LI2, LI3, LI4, LI5, LI6, LI7, LI8, LI9, LI10, LI11, LI12, LI13, LI14, LI15, LI16, LI17, LI18, LI19, LI20, LI21, LI22, LI23, LI24, LI25, LI26, LI27, LI28, LI29, LI30, LI31, LI32, LI33, LI34, LI35, LI36, LI37, LI40, LI42, LI43, LI45, LI48, LI60, LI61, LI64, LI80, LI300, LI400, LI1000, LI2000, LI2001, LI2047, LI2048, LI100000, LI1000000, LM, nI_clamp, nI_pos', nI_lt, nI_nlt, nI_le, nI_ge, nI_ne, nI_add, nI_sub, mI_lt, mI_le, mI_nlt, mI_nle, mI_ne, mI_ne', mI_nem, hR, h11, q7, i0, i1, e1, g4, t11, e3, t12', v1', e4, hx, show i < 8 by omega]
        · simp (disch := omega) [je126, r126_0, r126_1, r126_4, r126_5, r126_6, r126_9, r126_10, r126_11, r126_14, r126_17, r126_18, r126_20, r126_23, r126_24, r126_25, r126_28, r126_29, r126_30, r126_32, r126_33, r126_34, r126_37, r126_38, r126_41, r126_42, r126_44, r126_45, r126_48, r126_50, r126_51, r126_54, r126_55, r126_58, r126_59, r126_60, r126_62, r126_63, r126_66, r126_67, r126_70, r126_71, r126_72, r126_75, r126_76, r126_77, r126_80, r126_81, r126_82, r126_85, r126_86, r126_87, r126_90, r126_91, r126_92, r126_95, r126_96, r126_97, r126_100, r126_101, r126_102, r126_105, r126_108, r126_109, r126_112, r126_115, r126_116, r126_119, r126_120, r126_123, r126_126, r126_127, r126_130, r126_131, r126_132, r126_135, r126_138, r126_139, r126_142, r126_143, r126_145, r126_148, gW0 hw, vf9_11, gI0 hi, vf2_7, vf2_9, tI0_9 hi, gI3 hi, vf9_1, tW0_1 hw, vf2_0, vf2_8, tI0_8 hi, gI2 hi, vf2_1, vf2_11, tI0_11 hi, gI5 hi, qa102, qo102, gW1 hw, vf2_10, tI0_10 hi, gI4 hi, pI0_4 hi, ty2_4, qa19, qo19, vf9_7, pW0_7 hw, ty9_7, vf9_12, vf9_0, tW0_0 hw, gP0 hP, vf5_15, tP0_15 hP, gP20 hP, qa17, qo17, List.getElem?_cons_zero, List.getElem?_cons_succ, List.length_cons, List.length_nil, ag_nx, ag_dn, ag_no, ag_if, jbr1, jbr2, jc1, jc2, jnul, jld, jsto, jstoL, jst1, jst2, jkill, jinc, jbI, jbL, jbS, juI, jl2i, jcmp, jisR, jisI, jisL, jret, jretv, jfits, jdup, jdup2, jpop, jmm, jcat, Value.category, jinv, jrcv, jthr, jhd, jput, jget, jlen, jald, jast, jaast, jgI, jgL, jgB, jtab, jlku, jacp, vf20, vf21, vf22, vf23, vf24, u2_s, u2_k, u2_i, uc_s, uc_k, uc_c, u2_c, LI0, LI1, LI2, LI3, LI4, LI5, LI6, LI7, LI8, LI9, LI10, LI11, LI12, LI13, LI14, LI15, LI16, LI17, LI18, LI19, LI20, LI21, LI22, LI23, LI24, LI25, LI26, LI27, LI28, LI29, LI30, LI31, LI32, LI33, LI34, LI35, LI36, LI37, LI40, LI42, LI43, LI45, LI48, LI60, LI61, LI64, LI80, LI300, LI400, LI1000, LI2000, LI2001, LI2047, LI2048, LI100000, LI1000000, LM, nI_clamp, nI_pos', nI_lt, nI_nlt, nI_le, nI_ge, nI_ne, nI_add, nI_sub, mI_lt, mI_le, mI_nlt, mI_nle, mI_ne, mI_ne', mI_nem, hR, h11, q7, i0, i1, e1, g4, t11, e3, t12', v1', e4, hx, show i < 8 by omega]
        · simp (disch := omega) [je126, r126_0, r126_1, r126_4, r126_5, r126_6, r126_9, r126_10, r126_11, r126_14, r126_17, r126_18, r126_20, r126_23, r126_24, r126_25, r126_28, r126_29, r126_30, r126_32, r126_33, r126_34, r126_37, r126_38, r126_41, r126_42, r126_44, r126_45, r126_48, r126_50, r126_51, r126_54, r126_55, r126_58, r126_59, r126_60, r126_62, r126_63, r126_66, r126_67, r126_70, r126_71, r126_72, r126_75, r126_76, r126_77, r126_80, r126_81, r126_82, r126_85, r126_86, r126_87, r126_90, r126_91, r126_92, r126_95, r126_96, r126_97, r126_100, r126_101, r126_102, r126_105, r126_108, r126_109, r126_112, r126_115, r126_116, r126_119, r126_120, r126_123, r126_126, r126_127, r126_130, r126_131, r126_132, r126_135, r126_138, r126_139, r126_142, r126_143, r126_145, r126_148, gW0 hw, vf9_11, gI0 hi, vf2_7, vf2_9, tI0_9 hi, gI3 hi, vf9_1, tW0_1 hw, vf2_0, vf2_8, tI0_8 hi, gI2 hi, vf2_1, vf2_11, tI0_11 hi, gI5 hi, qa102, qo102, gW1 hw, vf2_10, tI0_10 hi, gI4 hi, pI0_4 hi, ty2_4, qa19, qo19, vf9_7, pW0_7 hw, ty9_7, vf9_12, vf9_0, tW0_0 hw, gP0 hP, vf5_15, tP0_15 hP, gP20 hP, qa17, qo17, List.getElem?_cons_zero, List.getElem?_cons_succ, List.length_cons, List.length_nil, ag_nx, ag_dn, ag_no, ag_if, jbr1, jbr2, jc1, jc2, jnul, jld, jsto, jstoL, jst1, jst2, jkill, jinc, jbI, jbL, jbS, juI, jl2i, jcmp, jisR, jisI, jisL, jret, jretv, jfits, jdup, jdup2, jpop, jmm, jcat, Value.category, jinv, jrcv, jthr, jhd, jput, jget, jlen, jald, jast, jaast, jgI, jgL, jgB, jtab, jlku, jacp, vf20, vf21, vf22, vf23, vf24, u2_s, u2_k, u2_i, uc_s, uc_k, uc_c, u2_c, LI0, LI1, LI2, LI3, LI4, LI5, LI6, LI7, LI8, LI9, LI10, LI11, LI12, LI13, LI14, LI15, LI16, LI17, LI18, LI19, LI20, LI21, LI22, LI23, LI24, LI25, LI26, LI27, LI28, LI29, LI30, LI31, LI32, LI33, LI34, LI35, LI36, LI37, LI40, LI42, LI43, LI45, LI48, LI60, LI61, LI64, LI80, LI300, LI400, LI1000, LI2000, LI2001, LI2047, LI2048, LI100000, LI1000000, LM, nI_clamp, nI_pos', nI_lt, nI_nlt, nI_le, nI_ge, nI_ne, nI_add, nI_sub, mI_lt, mI_le, mI_nlt, mI_nle, mI_ne, mI_ne', mI_nem, hR, h11, q7, i0, i1, e1, g4, t11, e3, t12', v1', e4, hx, show i < 8 by omega]
      · rw [v2]
        simp only [h5, if_false, false_or] at wp ⊢
        exact wp
end CT2
