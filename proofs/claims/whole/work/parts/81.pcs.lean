/-! the class sends -/
theorem aAt_of {W : aW Nm} {k : Nat} {a : aI Nm} (hk : W.1[k]? = some a) : aAt W k = a := by
  unfold aAt
  rw [List.getD_eq_getElem?_getD, hk]
  rfl
theorem je133n {A : Nat → Nat} {d : Nat} {σ : jS} {x0 x1 : Nat} {x3 : Int32} : jcall A jcode (d + 1) 133 [.ref x0, .ref x1, .null, .int x3] σ = M133 A d 0 [some (.ref x0), some (.ref x1), some .null, some (.int x3), none, none, none] [] σ := jcall_eq (t := jt133) rfl (by decide) (by decide +kernel) (by decide +kernel) (by decide +kernel) (nL := 7) (hs := []) (rt := none) (Nat.le_of_ble_eq_true rfl)
section CS
variable {A : Nat → Nat} {d b n w : Nat} {h : Nat → Option jC} {X : jXX} {I : Nat → Nat → Int32} {J : Nat → Nat → Int64} {R : Nat → Nat → Nat} {cN : Int32 → Nm} {W : aW Nm}
theorem iC_01 {p : Nat} {a : aI Nm} (h : iC cN I p a) : I p 0 = a.1.1 ∧ I p 1 = a.1.2.1 ∧ I p 2 = a.1.2.2.1 ∧ I p 3 = a.1.2.2.2.1 ∧ I p 4 = a.1.2.2.2.2.1 ∧ I p 5 = a.1.2.2.2.2.2 := by
  have e := h.1
  rw [e]
  exact ⟨rfl, rfl, rfl, rfl, rfl, rfl⟩
theorem wC_top {v : Int32} (hw : isW w) (hW : wC cN I R w W) : wC cN (u2 I w 10 v) R w W := by
  have hlt : w = 57 ∨ w = 132 := isW_e hw
  exact ⟨wA_fr (fun c i h1 h2 => by simp (disch := omega) [u2_k]) (by simp (disch := omega) [u2_i]) hW.1, tC_fr (fun c i h1 h2 => by simp (disch := omega) [u2_k]) (fun i h1 h2 => by simp (disch := omega) [u2_i]) hW.2⟩
theorem cSend {k t : Nat} {a : aI Nm} {x : Int32} {to : Option Nat} (hw : isW w) (hW : wC cN I R w W) (ok : okL W.1) (hk : W.1[k]? = some a) (ht : I w 10 = nI (t + 1)) (h4 : t < 64) (hto : ∀ j, to = some j → j < W.1.length) : ∃ I', jcall A jcode (d + 3) 133 [.ref (b + w), .ref (b + R (w + 8) k), rfO b (R (w + 8)) to, .int x] (jH h b X I J R n) = some (.inl none, jH h b X I' J R n) ∧
    wC cN I' R w (aTo (decide (w = 57)) k (cN x) (I (w + 73) t) to W) ∧ fC w (u2 I w 10 (nI t)) I' := by
  have k8 := wA_lt hW.1 hk
  have hi := wA_I hw hW.1 k k8
  have hr := okS_r hW.1.1 k8
  have e0 := c131 (d := d + 1) (A := A) (b := b) (h := h) (X := X) (J := J) (n := n) (R := R) hw ht h4
  have hW0 := wC_top (v := nI t) hw hW
  obtain ⟨i0, i1, _⟩ := iC_01 (hW.1.2.2.2 k a hk)
  cases to with
  | none =>
    obtain ⟨I1, e1, w1, f1, g1, _⟩ := cAdd (d := d + 1) (A := A) (b := b) (h := h) (X := X) (J := J) (n := n) (kd := 0) (id := a.1.1) (x := x) (v := I (w + 73) t) (o := a.1.2.1) (pe := -2) hw hW0
    obtain ⟨j0, j1, _⟩ := iC_01 (w1.1.2.2.2 k a hk)
    obtain ⟨I2, e2, w2, f2, g2, _⟩ := cLose (d := d) (A := A) (b := b) (h := h) (X := X) (J := J) (n := n) (id := a.1.1) (x := x) (v := I (w + 73) t) hw w1
    simp only [LI0, LI1, LI2, LI3, LI4, LI5, LI6, LI7, LI8, LI9, LI10, LI11, LI12, LI13, LI14, LI15, LI16, LI17, LI18, LI19, LI20, LI21, LI22, LI23, LI24, LI25, LI26, LI27, LI28, LI29, LI30, LI31, LI32, LI33, LI34, LI35, LI36, LI37, LI40, LI42, LI43, LI45, LI48, LI60, LI61, LI64, LI80, LI300, LI400, LI1000, LI2000, LI2001, LI2047, LI2048, LI100000, LI1000000, LM] at e1 e2
    refine ⟨I2, ?_, ?_, fC_trans f1 f2⟩
    · simp (disch := omega) [je133n, r133_0, r133_1, r133_4, r133_6, r133_7, r133_10, r133_11, r133_12, r133_14, r133_15, r133_18, r133_19, r133_22, r133_25, r133_28, r133_29, r133_32, r133_33, r133_35, r133_36, r133_39, r133_41, r133_44, r133_45, r133_48, r133_51, r133_53, r133_55, r133_56, r133_59, r133_60, r133_61, r133_64, r133_65, r133_67, r133_68, r133_71, r133_73, r133_76, r133_78, r133_81, r133_82, r133_83, r133_86, r133_87, r133_89, r133_92, qa131, qo131, gW0 hw, gI0 hi, vf2_0, vf2_1, qa18, qo18, vf9_1, tW0_1 hw, qa102, qo102, gW1 hw, qa134, qo134, List.getElem?_cons_zero, List.getElem?_cons_succ, List.length_cons, List.length_nil, ag_nx, ag_dn, ag_no, ag_if, jbr1, jbr2, jc1, jc2, jnul, jld, jsto, jstoL, jst1, jst2, jkill, jinc, jbI, jbL, jbS, juI, jl2i, jcmp, jisR, jisI, jisL, jret, jretv, jfits, jdup, jdup2, jpop, jmm, jcat, Value.category, jinv, jrcv, jthr, jhd, jput, jget, jlen, jald, jast, jaast, jgI, jgL, jgB, jtab, jlku, jacp, vf20, vf21, vf22, vf23, vf24, u2_s, u2_k, u2_i, uc_s, uc_k, uc_c, u2_c, LI0, LI1, LI2, LI3, LI4, LI5, LI6, LI7, LI8, LI9, LI10, LI11, LI12, LI13, LI14, LI15, LI16, LI17, LI18, LI19, LI20, LI21, LI22, LI23, LI24, LI25, LI26, LI27, LI28, LI29, LI30, LI31, LI32, LI33, LI34, LI35, LI36, LI37, LI40, LI42, LI43, LI45, LI48, LI60, LI61, LI64, LI80, LI300, LI400, LI1000, LI2000, LI2001, LI2047, LI2048, LI100000, LI1000000, LM, nI_clamp, nI_pos', nI_lt, nI_nlt, nI_le, nI_ge, nI_ne, nI_add, nI_sub, mI_lt, mI_le, mI_nlt, mI_nle, mI_ne, mI_ne', mI_nem, rfO, e0, e1, e2, i0, i1, j0, j1]
    · have h0 : ¬ ((0 : Int32) = 0 ∧ ¬ (-2 : Int32) = -2) := by simp
      simpa [aTo, aAt_of hk] using w2
  | some j =>
    obtain ⟨c, hc⟩ : ∃ c, W.1[j]? = some c := ⟨_, List.getElem?_eq_getElem (hto j rfl)⟩
    have j8 := wA_lt hW.1 hc
    have hj := wA_I hw hW.1 j j8
    by_cases hq : c.2.2.1.length < 8
    · obtain ⟨I1, e1, w1, f1, g1, _⟩ := cAcc (d := d + 1) (A := A) (b := b) (h := h) (X := X) (J := J) (n := n) (x := x) (v := I (w + 73) t) (f := a.1.1) (o := a.1.2.1) hw hW0 hc hq
      have hkl := lt_of_some hk
      have hjl := lt_of_some hc
      have q1 : I1 (R (w + 8) k) 0 = a.1.1 ∧ I1 (R (w + 8) k) 1 = a.1.2.1 := by
        by_cases e : j = k
        · subst e
          have : c = a := by rw [hk] at hc; exact (Option.some.inj hc).symm
          subst this
          have := iC_01 (w1.1.2.2.2 j (aAcc (cN x, I (w + 73) t, c.1.1, c.1.2.1) c) (by simp [aPut, hjl]))
          exact ⟨this.1, this.2.1⟩
        · have := iC_01 (w1.1.2.2.2 k a (by simp [aPut, List.getElem?_set, e, hk]))
          exact ⟨this.1, this.2.1⟩
      have q2 : I1 (R (w + 8) j) 1 = c.1.2.1 := (iC_01 (w1.1.2.2.2 j (aAcc (cN x, I (w + 73) t, a.1.1, a.1.2.1) c) (by simp [aPut, hjl]))).2.1
      obtain ⟨q3, q4⟩ := q1
      obtain ⟨I2, e2, w2, f2, g2, _⟩ := cAdd (d := d + 1) (A := A) (b := b) (h := h) (X := X) (J := J) (n := n) (kd := 0) (id := a.1.1) (x := x) (v := I (w + 73) t) (o := a.1.2.1) (pe := c.1.2.1) hw w1
      simp only [LI0, LI1, LI2, LI3, LI4, LI5, LI6, LI7, LI8, LI9, LI10, LI11, LI12, LI13, LI14, LI15, LI16, LI17, LI18, LI19, LI20, LI21, LI22, LI23, LI24, LI25, LI26, LI27, LI28, LI29, LI30, LI31, LI32, LI33, LI34, LI35, LI36, LI37, LI40, LI42, LI43, LI45, LI48, LI60, LI61, LI64, LI80, LI300, LI400, LI1000, LI2000, LI2001, LI2047, LI2048, LI100000, LI1000000, LM] at e1 e2
      refine ⟨I2, ?_, ?_, fC_trans f1 f2⟩
      · simp (disch := omega) [je133, r133_0, r133_1, r133_4, r133_6, r133_7, r133_10, r133_11, r133_12, r133_14, r133_15, r133_18, r133_19, r133_22, r133_25, r133_28, r133_29, r133_32, r133_33, r133_35, r133_36, r133_39, r133_41, r133_44, r133_45, r133_48, r133_51, r133_53, r133_55, r133_56, r133_59, r133_60, r133_61, r133_64, r133_65, r133_67, r133_68, r133_71, r133_73, r133_76, r133_78, r133_81, r133_82, r133_83, r133_86, r133_87, r133_89, r133_92, qa131, qo131, gW0 hw, gI0 hi, vf2_0, vf2_1, qa18, qo18, vf9_1, tW0_1 hw, qa102, qo102, gW1 hw, qa134, qo134, List.getElem?_cons_zero, List.getElem?_cons_succ, List.length_cons, List.length_nil, ag_nx, ag_dn, ag_no, ag_if, jbr1, jbr2, jc1, jc2, jnul, jld, jsto, jstoL, jst1, jst2, jkill, jinc, jbI, jbL, jbS, juI, jl2i, jcmp, jisR, jisI, jisL, jret, jretv, jfits, jdup, jdup2, jpop, jmm, jcat, Value.category, jinv, jrcv, jthr, jhd, jput, jget, jlen, jald, jast, jaast, jgI, jgL, jgB, jtab, jlku, jacp, vf20, vf21, vf22, vf23, vf24, u2_s, u2_k, u2_i, uc_s, uc_k, uc_c, u2_c, LI0, LI1, LI2, LI3, LI4, LI5, LI6, LI7, LI8, LI9, LI10, LI11, LI12, LI13, LI14, LI15, LI16, LI17, LI18, LI19, LI20, LI21, LI22, LI23, LI24, LI25, LI26, LI27, LI28, LI29, LI30, LI31, LI32, LI33, LI34, LI35, LI36, LI37, LI40, LI42, LI43, LI45, LI48, LI60, LI61, LI64, LI80, LI300, LI400, LI1000, LI2000, LI2001, LI2047, LI2048, LI100000, LI1000000, LM, nI_clamp, nI_pos', nI_lt, nI_nlt, nI_le, nI_ge, nI_ne, nI_add, nI_sub, mI_lt, mI_le, mI_nlt, mI_nle, mI_ne, mI_ne', mI_nem, rfO, e0, e1, e2, i0, i1, q2, q3, q4, gI0 hj]
      · have hne : ¬ c.1.2.1 = -2 := by
          obtain ⟨p, hp, e⟩ := (ok j c hc).2.2.2
          rw [e]
          exact mI_ne (k := 2) (by omega) (by omega) (by omega)
        simpa [aTo, aAt_of hk, aAt_of hc, hq, hne] using w2
    · have h8 : c.2.2.1.length = 8 := by
        have := (ok j c hc).2.1
        omega
      have e1 := cAccN (d := d + 1) (A := A) (b := b) (h := h) (X := X) (J := J) (n := n) (x := x) (v := I (w + 73) t) (f := a.1.1) (o := a.1.2.1) hw hW0 hc h8
      obtain ⟨I1, e2, w1, f1, g1, _⟩ := cAdd (d := d + 1) (A := A) (b := b) (h := h) (X := X) (J := J) (n := n) (kd := 0) (id := a.1.1) (x := x) (v := I (w + 73) t) (o := a.1.2.1) (pe := -2) hw hW0
      obtain ⟨j0, j1, _⟩ := iC_01 (w1.1.2.2.2 k a hk)
      obtain ⟨I2, e3, w2, f2, g2, _⟩ := cLose (d := d) (A := A) (b := b) (h := h) (X := X) (J := J) (n := n) (id := a.1.1) (x := x) (v := I (w + 73) t) hw w1
      simp only [LI0, LI1, LI2, LI3, LI4, LI5, LI6, LI7, LI8, LI9, LI10, LI11, LI12, LI13, LI14, LI15, LI16, LI17, LI18, LI19, LI20, LI21, LI22, LI23, LI24, LI25, LI26, LI27, LI28, LI29, LI30, LI31, LI32, LI33, LI34, LI35, LI36, LI37, LI40, LI42, LI43, LI45, LI48, LI60, LI61, LI64, LI80, LI300, LI400, LI1000, LI2000, LI2001, LI2047, LI2048, LI100000, LI1000000, LM] at e1 e2 e3
      refine ⟨I2, ?_, ?_, fC_trans f1 f2⟩
      · simp (disch := omega) [je133, r133_0, r133_1, r133_4, r133_6, r133_7, r133_10, r133_11, r133_12, r133_14, r133_15, r133_18, r133_19, r133_22, r133_25, r133_28, r133_29, r133_32, r133_33, r133_35, r133_36, r133_39, r133_41, r133_44, r133_45, r133_48, r133_51, r133_53, r133_55, r133_56, r133_59, r133_60, r133_61, r133_64, r133_65, r133_67, r133_68, r133_71, r133_73, r133_76, r133_78, r133_81, r133_82, r133_83, r133_86, r133_87, r133_89, r133_92, qa131, qo131, gW0 hw, gI0 hi, vf2_0, vf2_1, qa18, qo18, vf9_1, tW0_1 hw, qa102, qo102, gW1 hw, qa134, qo134, List.getElem?_cons_zero, List.getElem?_cons_succ, List.length_cons, List.length_nil, ag_nx, ag_dn, ag_no, ag_if, jbr1, jbr2, jc1, jc2, jnul, jld, jsto, jstoL, jst1, jst2, jkill, jinc, jbI, jbL, jbS, juI, jl2i, jcmp, jisR, jisI, jisL, jret, jretv, jfits, jdup, jdup2, jpop, jmm, jcat, Value.category, jinv, jrcv, jthr, jhd, jput, jget, jlen, jald, jast, jaast, jgI, jgL, jgB, jtab, jlku, jacp, vf20, vf21, vf22, vf23, vf24, u2_s, u2_k, u2_i, uc_s, uc_k, uc_c, u2_c, LI0, LI1, LI2, LI3, LI4, LI5, LI6, LI7, LI8, LI9, LI10, LI11, LI12, LI13, LI14, LI15, LI16, LI17, LI18, LI19, LI20, LI21, LI22, LI23, LI24, LI25, LI26, LI27, LI28, LI29, LI30, LI31, LI32, LI33, LI34, LI35, LI36, LI37, LI40, LI42, LI43, LI45, LI48, LI60, LI61, LI64, LI80, LI300, LI400, LI1000, LI2000, LI2001, LI2047, LI2048, LI100000, LI1000000, LM, nI_clamp, nI_pos', nI_lt, nI_nlt, nI_le, nI_ge, nI_ne, nI_add, nI_sub, mI_lt, mI_le, mI_nlt, mI_nle, mI_ne, mI_ne', mI_nem, rfO, e0, e1, e2, e3, i0, i1, j0, j1, gI0 hj]
      · simpa [aTo, aAt_of hk, aAt_of hc, hq] using w2
end CS
