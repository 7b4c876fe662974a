/-! who runs next -/
def aFi (f : aI Nm → Bool) : List (aI Nm) → Nat → Option Nat
  | [], _ => none
  | a :: as, k => if f a = true then some k else aFi f as (k + 1)
def aAble (rN : Int32 → Nm) (N : Nat → Nat → Int32) (now : Int32) (a : aI Nm) : Bool := decide (¬ (aPlan rN N now a).1 = 0)
def aBh (rN : Int32 → Nm) (N : Nat → Nat → Int32) (now lst : Int32) (a : aI Nm) : Bool := decide (lst < a.1.1) && aAble rN N now a
def orO (o p : Option Nat) : Option Nat := match o with | some x => some x | none => p
def aNext (rN : Int32 → Nm) (N : Nat → Nat → Int32) (W : aW Nm) : Option Nat := orO (aFi (aBh rN N W.2.1.2.1 W.2.1.2.2.2.2) W.1 0) (aFi (aAble rN N W.2.1.2.1) W.1 0)
theorem aFi_at {f : aI Nm → Bool} {W : List (aI Nm)} : ∀ (as : List (aI Nm)) (k : Nat), (∀ j, as[j]? = W[k + j]?) → ∀ x, aFi f as k = some x → ∃ a, W[x]? = some a ∧ f a = true := by
  intro as
  induction as with
  | nil => intro k _ x hx; cases hx
  | cons a as ih =>
    intro k has x hx
    have ha : W[k]? = some a := by
      have := has 0
      simpa using this.symm
    unfold aFi at hx
    by_cases hf : f a = true
    · rw [if_pos hf] at hx
      cases hx
      exact ⟨a, ha, hf⟩
    · rw [if_neg hf] at hx
      exact ih (k + 1) (fun j => by
        have := has (j + 1)
        rw [show k + 1 + j = k + (j + 1) by omega]
        simpa using this) x hx
theorem aNext_at {rN : Int32 → Nm} {N : Nat → Nat → Int32} {W : aW Nm} {x : Nat} (hx : aNext rN N W = some x) : ∃ a, W.1[x]? = some a := by
  unfold aNext at hx
  cases h1 : aFi (aBh rN N W.2.1.2.1 W.2.1.2.2.2.2) W.1 0 with
  | some y =>
    rw [h1] at hx
    cases hx
    obtain ⟨a, ha, _⟩ := aFi_at W.1 0 (fun j => by rw [Nat.zero_add]) _ h1
    exact ⟨a, ha⟩
  | none =>
    rw [h1] at hx
    obtain ⟨a, ha, _⟩ := aFi_at W.1 0 (fun j => by rw [Nat.zero_add]) _ hx
    exact ⟨a, ha⟩
section CNR
variable {A : Nat → Nat} {d b n w P k : Nat} {h : Nat → Option jC} {X : jXX} {I : Nat → Nat → Int32} {J : Nat → Nat → Int64} {R : Nat → Nat → Nat} {cN rN : Int32 → Nm} {W : aW Nm} {N : Nat → Nat → Int32} {O G E : Nat → Int32} {np L B : Nat}
theorem onT_refl : onT w I I := fun _ _ _ _ => rfl
theorem onT_trans {I1 I2 : Nat → Nat → Int32} (h : onT w I I1) (h2 : onT w I1 I2) : onT w I I2 := fun c i a b => (h2 c i a b).trans (h c i a b)
theorem c121l {lst : Int32} (hw : isW w) (hP : isP P) (hR : R w 0 = P) (hj : ∀ x y, cN x = cN y → x = y) (hm : ∀ z, rN z = cN (-1) → z = -1) (hpl : plC cN rN N O G E np P L I) (hW : wC cN I R w W) (hok : okW N np B W) (hl : I w 8 = lst) : ∀ (as : List (aI Nm)) (i : Nat) (o : Option Nat) (I1 : Nat → Nat → Int32) (c3 c4 : Option Value), i + as.length = W.1.length → (∀ j, as[j]? = W.1[i + j]?) → onT w I I1 → ∃ I2, M121 A (d + 4) 4 [some (.ref (b + w)), some (rfO b (R (w + 8)) o), some (.int (nI i)), c3, c4] [] (jH h b X I1 J R n) = some (.inl (some (rfO b (R (w + 8)) (orO (aFi (aBh rN N W.2.1.2.1 lst) as i) (orO o (aFi (aAble rN N W.2.1.2.1) as i))))), jH h b X I2 J R n) ∧ onT w I I2 := by
  have w1 := isW_e hw
  have hl8 := hW.1.2.1
  intro as
  induction as with
  | nil =>
    intro i o I1 c3 c4 hil _ ho
    have : i = W.1.length := by simpa using hil
    subst this
    have h3 : I1 w 3 = nI W.1.length := (ho _ _ (by omega) (by omega)).trans hW.1.2.2.1
    refine ⟨I1, ?_, ho⟩
    rw [r121_4]
    cases o <;> simp (disch := omega) [r121_5, r121_6, r121_9, r121_75, r121_76, gW0 hw, vf9_3, List.getElem?_cons_zero, List.getElem?_cons_succ, List.length_cons, List.length_nil, ag_nx, ag_dn, ag_no, ag_if, jbr1, jbr2, jc1, jc2, jnul, jld, jsto, jstoL, jst1, jst2, jkill, jinc, jbI, jbL, jbS, juI, jl2i, jcmp, jisR, jisI, jisL, jret, jretv, jfits, jdup, jdup2, jpop, jmm, jcat, Value.category, jinv, jrcv, jthr, jhd, jput, jget, jlen, jald, jast, jaast, jgI, jgL, jgB, jtab, jlku, jacp, vf20, vf21, vf22, vf23, vf24, u2_s, u2_k, u2_i, uc_s, uc_k, uc_c, u2_c, LI0, LI1, LI2, LI3, LI4, LI5, LI6, LI7, LI8, LI9, LI10, LI11, LI12, LI13, LI14, LI15, LI16, LI17, LI18, LI19, LI20, LI21, LI22, LI23, LI24, LI25, LI26, LI27, LI28, LI29, LI30, LI31, LI32, LI33, LI34, LI35, LI36, LI37, LI40, LI42, LI43, LI45, LI48, LI60, LI61, LI64, LI80, LI300, LI400, LI1000, LI2000, LI2001, LI2047, LI2048, LI100000, LI1000000, LM, nI_clamp, nI_pos', nI_lt, nI_nlt, nI_le, nI_ge, nI_ne, nI_add, nI_sub, mI_lt, mI_le, mI_nlt, mI_nle, mI_ne, mI_ne', mI_nem, h3, aFi, orO, rfO]
  | cons a as ih =>
    intro i o I1 c3 c4 hil has ho
    have hlt : i < W.1.length := by simp at hil; omega
    have ha : W.1[i]? = some a := by
      have := has 0
      simpa using this.symm
    have i8 := wA_lt hW.1 ha
    have hi := wA_I hw hW.1 i i8
    have hr := okS_r hW.1.1 i8
    have hrest : ∀ j, as[j]? = W.1[i + 1 + j]? := fun j => by
      have := has (j + 1)
      rw [show i + 1 + j = i + (j + 1) by omega]
      simpa using this
    have hA1 := iC_on hr ho (hW.1.2.2.2 i a ha)
    have h3 : I1 w 3 = nI W.1.length := (ho _ _ (by omega) (by omega)).trans hW.1.2.2.1
    have h8 : I1 w 8 = lst := (ho _ _ (by omega) (by omega)).trans hl
    have h5 : I1 w 5 = W.2.1.2.1 := (ho _ _ (by omega) (by omega)).trans hW.2.2.1
    have h0 : I1 (R (w + 8) i) 0 = a.1.1 := (iC_01 hA1).1
    obtain ⟨I2, e2, o2, _⟩ := cChoose (d := d) (A := A) (b := b) (h := h) (X := X) (J := J) (R := R) (n := n) hw hi hP hR hj hm hr (plC_on hw hP ho hpl) hA1 (hok.2.1 i a ha) h5
    have o12 := onT_trans ho o2
    have hstep : ∀ (o' : Option Nat) (I' : Nat → Nat → Int32), onT w I I' → ∀ c3 c4, ∃ I3, M121 A (d + 4) 69 [some (.ref (b + w)), some (rfO b (R (w + 8)) o'), some (.int (nI i)), c3, c4] [] (jH h b X I' J R n) = some (.inl (some (rfO b (R (w + 8)) (orO (aFi (aBh rN N W.2.1.2.1 lst) as (i + 1)) (orO o' (aFi (aAble rN N W.2.1.2.1) as (i + 1)))))), jH h b X I3 J R n) ∧ onT w I I3 := by
      intro o' I' ho' c3 c4
      obtain ⟨I3, e3, o3⟩ := ih (i + 1) o' I' c3 c4 (by simp at hil; omega) hrest ho'
      refine ⟨I3, ?_, o3⟩
      rw [← e3, r121_69]
      cases o' <;> simp (disch := omega) [r121_72, List.getElem?_cons_zero, List.getElem?_cons_succ, List.length_cons, List.length_nil, ag_nx, ag_dn, ag_no, ag_if, jbr1, jbr2, jc1, jc2, jnul, jld, jsto, jstoL, jst1, jst2, jkill, jinc, jbI, jbL, jbS, juI, jl2i, jcmp, jisR, jisI, jisL, jret, jretv, jfits, jdup, jdup2, jpop, jmm, jcat, Value.category, jinv, jrcv, jthr, jhd, jput, jget, jlen, jald, jast, jaast, jgI, jgL, jgB, jtab, jlku, jacp, vf20, vf21, vf22, vf23, vf24, u2_s, u2_k, u2_i, uc_s, uc_k, uc_c, u2_c, LI0, LI1, LI2, LI3, LI4, LI5, LI6, LI7, LI8, LI9, LI10, LI11, LI12, LI13, LI14, LI15, LI16, LI17, LI18, LI19, LI20, LI21, LI22, LI23, LI24, LI25, LI26, LI27, LI28, LI29, LI30, LI31, LI32, LI33, LI34, LI35, LI36, LI37, LI40, LI42, LI43, LI45, LI48, LI60, LI61, LI64, LI80, LI300, LI400, LI1000, LI2000, LI2001, LI2047, LI2048, LI100000, LI1000000, LM, nI_clamp, nI_pos', nI_lt, nI_nlt, nI_le, nI_ge, nI_ne, nI_add, nI_sub, mI_lt, mI_le, mI_nlt, mI_nle, mI_ne, mI_ne', mI_nem, rfO]
    unfold aFi
    by_cases hbe : lst < a.1.1
    · have hbn : ¬ a.1.1 ≤ lst := Int32.not_le.mpr hbe
      by_cases hab : (aPlan rN N W.2.1.2.1 a).1 = 0
      · have f1 : ¬ aBh rN N W.2.1.2.1 lst a = true := by simp [aBh, aAble, hab]
        have f2 : ¬ aAble rN N W.2.1.2.1 a = true := by simp [aAble, hab]
        rw [if_neg f1, if_neg f2]
        obtain ⟨I3, e3, o3⟩ := hstep o I2 o12 (some (.ref (b + R (w + 8) i))) (some (.int 1))
        refine ⟨I3, ?_, o3⟩
        rw [hab] at e2
        simp only [LI0, LI1, LI2, LI3, LI4, LI5, LI6, LI7, LI8, LI9, LI10, LI11, LI12, LI13, LI14, LI15, LI16, LI17, LI18, LI19, LI20, LI21, LI22, LI23, LI24, LI25, LI26, LI27, LI28, LI29, LI30, LI31, LI32, LI33, LI34, LI35, LI36, LI37, LI40, LI42, LI43, LI45, LI48, LI60, LI61, LI64, LI80, LI300, LI400, LI1000, LI2000, LI2001, LI2047, LI2048, LI100000, LI1000000, LM] at e2 e3
        rw [← e3, r121_4]
        simp (disch := omega) [r121_0, r121_1, r121_2, r121_3, r121_5, r121_6, r121_9, r121_12, r121_13, r121_15, r121_18, r121_19, r121_22, r121_23, r121_24, r121_25, r121_26, r121_29, r121_30, r121_33, r121_36, r121_37, r121_40, r121_41, r121_43, r121_45, r121_48, r121_49, r121_52, r121_53, r121_54, r121_57, r121_60, r121_62, r121_65, r121_66, r121_67, r121_68, r121_72, r121_75, r121_76, gW0 hw, vf9_3, vf9_2, tW0_2 hw, gW8 hw, gI0 hi, vf2_0, vf9_8, qa123, qo123, List.getElem?_cons_zero, List.getElem?_cons_succ, List.length_cons, List.length_nil, ag_nx, ag_dn, ag_no, ag_if, jbr1, jbr2, jc1, jc2, jnul, jld, jsto, jstoL, jst1, jst2, jkill, jinc, jbI, jbL, jbS, juI, jl2i, jcmp, jisR, jisI, jisL, jret, jretv, jfits, jdup, jdup2, jpop, jmm, jcat, Value.category, jinv, jrcv, jthr, jhd, jput, jget, jlen, jald, jast, jaast, jgI, jgL, jgB, jtab, jlku, jacp, vf20, vf21, vf22, vf23, vf24, u2_s, u2_k, u2_i, uc_s, uc_k, uc_c, u2_c, LI0, LI1, LI2, LI3, LI4, LI5, LI6, LI7, LI8, LI9, LI10, LI11, LI12, LI13, LI14, LI15, LI16, LI17, LI18, LI19, LI20, LI21, LI22, LI23, LI24, LI25, LI26, LI27, LI28, LI29, LI30, LI31, LI32, LI33, LI34, LI35, LI36, LI37, LI40, LI42, LI43, LI45, LI48, LI60, LI61, LI64, LI80, LI300, LI400, LI1000, LI2000, LI2001, LI2047, LI2048, LI100000, LI1000000, LM, nI_clamp, nI_pos', nI_lt, nI_nlt, nI_le, nI_ge, nI_ne, nI_add, nI_sub, mI_lt, mI_le, mI_nlt, mI_nle, mI_ne, mI_ne', mI_nem, h3, h8, h0, hbn, i8, e2]
      · have f1 : aBh rN N W.2.1.2.1 lst a = true := by simp [aBh, aAble, hab, hbe]
        rw [if_pos f1]
        refine ⟨I2, ?_, o12⟩
        have hab' : ¬ (aPlan rN N W.2.1.2.1 a).1 = nI 0 := hab
        rw [r121_4]
        simp (disch := omega) [r121_0, r121_1, r121_2, r121_3, r121_5, r121_6, r121_9, r121_12, r121_13, r121_15, r121_18, r121_19, r121_22, r121_23, r121_24, r121_25, r121_26, r121_29, r121_30, r121_33, r121_36, r121_37, r121_40, r121_41, r121_43, r121_45, r121_48, r121_49, r121_52, r121_53, r121_54, r121_57, r121_60, r121_62, r121_65, r121_66, r121_67, r121_68, r121_72, r121_75, r121_76, gW0 hw, vf9_3, vf9_2, tW0_2 hw, gW8 hw, gI0 hi, vf2_0, vf9_8, qa123, qo123, List.getElem?_cons_zero, List.getElem?_cons_succ, List.length_cons, List.length_nil, ag_nx, ag_dn, ag_no, ag_if, jbr1, jbr2, jc1, jc2, jnul, jld, jsto, jstoL, jst1, jst2, jkill, jinc, jbI, jbL, jbS, juI, jl2i, jcmp, jisR, jisI, jisL, jret, jretv, jfits, jdup, jdup2, jpop, jmm, jcat, Value.category, jinv, jrcv, jthr, jhd, jput, jget, jlen, jald, jast, jaast, jgI, jgL, jgB, jtab, jlku, jacp, vf20, vf21, vf22, vf23, vf24, u2_s, u2_k, u2_i, uc_s, uc_k, uc_c, u2_c, LI0, LI1, LI2, LI3, LI4, LI5, LI6, LI7, LI8, LI9, LI10, LI11, LI12, LI13, LI14, LI15, LI16, LI17, LI18, LI19, LI20, LI21, LI22, LI23, LI24, LI25, LI26, LI27, LI28, LI29, LI30, LI31, LI32, LI33, LI34, LI35, LI36, LI37, LI40, LI42, LI43, LI45, LI48, LI60, LI61, LI64, LI80, LI300, LI400, LI1000, LI2000, LI2001, LI2047, LI2048, LI100000, LI1000000, LM, nI_clamp, nI_pos', nI_lt, nI_nlt, nI_le, nI_ge, nI_ne, nI_add, nI_sub, mI_lt, mI_le, mI_nlt, mI_nle, mI_ne, mI_ne', mI_nem, h3, h8, h0, hbn, i8, e2, hab', orO, rfO]
    · have hbn : a.1.1 ≤ lst := Int32.not_lt.mp hbe
      have f1 : ¬ aBh rN N W.2.1.2.1 lst a = true := by simp [aBh, hbe]
      rw [if_neg f1]
      cases o with
      | some z =>
        obtain ⟨I3, e3, o3⟩ := hstep (some z) I1 ho (some (.ref (b + R (w + 8) i))) (some (.int 0))
        refine ⟨I3, ?_, o3⟩
        simp only [LI0, LI1, LI2, LI3, LI4, LI5, LI6, LI7, LI8, LI9, LI10, LI11, LI12, LI13, LI14, LI15, LI16, LI17, LI18, LI19, LI20, LI21, LI22, LI23, LI24, LI25, LI26, LI27, LI28, LI29, LI30, LI31, LI32, LI33, LI34, LI35, LI36, LI37, LI40, LI42, LI43, LI45, LI48, LI60, LI61, LI64, LI80, LI300, LI400, LI1000, LI2000, LI2001, LI2047, LI2048, LI100000, LI1000000, LM] at e3
        simp only [orO, rfO] at e3 ⊢
        rw [← e3, r121_4]
        simp (disch := omega) [r121_0, r121_1, r121_2, r121_3, r121_5, r121_6, r121_9, r121_12, r121_13, r121_15, r121_18, r121_19, r121_22, r121_23, r121_24, r121_25, r121_26, r121_29, r121_30, r121_33, r121_36, r121_37, r121_40, r121_41, r121_43, r121_45, r121_48, r121_49, r121_52, r121_53, r121_54, r121_57, r121_60, r121_62, r121_65, r121_66, r121_67, r121_68, r121_72, r121_75, r121_76, gW0 hw, vf9_3, vf9_2, tW0_2 hw, gW8 hw, gI0 hi, vf2_0, vf9_8, qa123, qo123, List.getElem?_cons_zero, List.getElem?_cons_succ, List.length_cons, List.length_nil, ag_nx, ag_dn, ag_no, ag_if, jbr1, jbr2, jc1, jc2, jnul, jld, jsto, jstoL, jst1, jst2, jkill, jinc, jbI, jbL, jbS, juI, jl2i, jcmp, jisR, jisI, jisL, jret, jretv, jfits, jdup, jdup2, jpop, jmm, jcat, Value.category, jinv, jrcv, jthr, jhd, jput, jget, jlen, jald, jast, jaast, jgI, jgL, jgB, jtab, jlku, jacp, vf20, vf21, vf22, vf23, vf24, u2_s, u2_k, u2_i, uc_s, uc_k, uc_c, u2_c, LI0, LI1, LI2, LI3, LI4, LI5, LI6, LI7, LI8, LI9, LI10, LI11, LI12, LI13, LI14, LI15, LI16, LI17, LI18, LI19, LI20, LI21, LI22, LI23, LI24, LI25, LI26, LI27, LI28, LI29, LI30, LI31, LI32, LI33, LI34, LI35, LI36, LI37, LI40, LI42, LI43, LI45, LI48, LI60, LI61, LI64, LI80, LI300, LI400, LI1000, LI2000, LI2001, LI2047, LI2048, LI100000, LI1000000, LM, nI_clamp, nI_pos', nI_lt, nI_nlt, nI_le, nI_ge, nI_ne, nI_add, nI_sub, mI_lt, mI_le, mI_nlt, mI_nle, mI_ne, mI_ne', mI_nem, h3, h8, h0, hbn, i8]
      | none =>
        by_cases hab : (aPlan rN N W.2.1.2.1 a).1 = 0
        · have f2 : ¬ aAble rN N W.2.1.2.1 a = true := by simp [aAble, hab]
          rw [if_neg f2]
          obtain ⟨I3, e3, o3⟩ := hstep none I2 o12 (some (.ref (b + R (w + 8) i))) (some (.int 0))
          refine ⟨I3, ?_, o3⟩
          rw [hab] at e2
          simp only [LI0, LI1, LI2, LI3, LI4, LI5, LI6, LI7, LI8, LI9, LI10, LI11, LI12, LI13, LI14, LI15, LI16, LI17, LI18, LI19, LI20, LI21, LI22, LI23, LI24, LI25, LI26, LI27, LI28, LI29, LI30, LI31, LI32, LI33, LI34, LI35, LI36, LI37, LI40, LI42, LI43, LI45, LI48, LI60, LI61, LI64, LI80, LI300, LI400, LI1000, LI2000, LI2001, LI2047, LI2048, LI100000, LI1000000, LM] at e2 e3
          simp only [orO, rfO] at e3 ⊢
          rw [← e3, r121_4]
          simp (disch := omega) [r121_0, r121_1, r121_2, r121_3, r121_5, r121_6, r121_9, r121_12, r121_13, r121_15, r121_18, r121_19, r121_22, r121_23, r121_24, r121_25, r121_26, r121_29, r121_30, r121_33, r121_36, r121_37, r121_40, r121_41, r121_43, r121_45, r121_48, r121_49, r121_52, r121_53, r121_54, r121_57, r121_60, r121_62, r121_65, r121_66, r121_67, r121_68, r121_72, r121_75, r121_76, gW0 hw, vf9_3, vf9_2, tW0_2 hw, gW8 hw, gI0 hi, vf2_0, vf9_8, qa123, qo123, List.getElem?_cons_zero, List.getElem?_cons_succ, List.length_cons, List.length_nil, ag_nx, ag_dn, ag_no, ag_if, jbr1, jbr2, jc1, jc2, jnul, jld, jsto, jstoL, jst1, jst2, jkill, jinc, jbI, jbL, jbS, juI, jl2i, jcmp, jisR, jisI, jisL, jret, jretv, jfits, jdup, jdup2, jpop, jmm, jcat, Value.category, jinv, jrcv, jthr, jhd, jput, jget, jlen, jald, jast, jaast, jgI, jgL, jgB, jtab, jlku, jacp, vf20, vf21, vf22, vf23, vf24, u2_s, u2_k, u2_i, uc_s, uc_k, uc_c, u2_c, LI0, LI1, LI2, LI3, LI4, LI5, LI6, LI7, LI8, LI9, LI10, LI11, LI12, LI13, LI14, LI15, LI16, LI17, LI18, LI19, LI20, LI21, LI22, LI23, LI24, LI25, LI26, LI27, LI28, LI29, LI30, LI31, LI32, LI33, LI34, LI35, LI36, LI37, LI40, LI42, LI43, LI45, LI48, LI60, LI61, LI64, LI80, LI300, LI400, LI1000, LI2000, LI2001, LI2047, LI2048, LI100000, LI1000000, LM, nI_clamp, nI_pos', nI_lt, nI_nlt, nI_le, nI_ge, nI_ne, nI_add, nI_sub, mI_lt, mI_le, mI_nlt, mI_nle, mI_ne, mI_ne', mI_nem, h3, h8, h0, hbn, i8, e2]
        · have f2 : aAble rN N W.2.1.2.1 a = true := by simp [aAble, hab]
          rw [if_pos f2]
          obtain ⟨I3, e3, o3⟩ := hstep (some i) I2 o12 (some (.ref (b + R (w + 8) i))) (some (.int 0))
          refine ⟨I3, ?_, o3⟩
          simp only [LI0, LI1, LI2, LI3, LI4, LI5, LI6, LI7, LI8, LI9, LI10, LI11, LI12, LI13, LI14, LI15, LI16, LI17, LI18, LI19, LI20, LI21, LI22, LI23, LI24, LI25, LI26, LI27, LI28, LI29, LI30, LI31, LI32, LI33, LI34, LI35, LI36, LI37, LI40, LI42, LI43, LI45, LI48, LI60, LI61, LI64, LI80, LI300, LI400, LI1000, LI2000, LI2001, LI2047, LI2048, LI100000, LI1000000, LM] at e3
          have hab' : ¬ (aPlan rN N W.2.1.2.1 a).1 = nI 0 := hab
          simp only [orO, rfO] at e3 ⊢
          rw [← e3, r121_4]
          simp (disch := omega) [r121_0, r121_1, r121_2, r121_3, r121_5, r121_6, r121_9, r121_12, r121_13, r121_15, r121_18, r121_19, r121_22, r121_23, r121_24, r121_25, r121_26, r121_29, r121_30, r121_33, r121_36, r121_37, r121_40, r121_41, r121_43, r121_45, r121_48, r121_49, r121_52, r121_53, r121_54, r121_57, r121_60, r121_62, r121_65, r121_66, r121_67, r121_68, r121_72, r121_75, r121_76, gW0 hw, vf9_3, vf9_2, tW0_2 hw, gW8 hw, gI0 hi, vf2_0, vf9_8, qa123, qo123, List.getElem?_cons_zero, List.getElem?_cons_succ, List.length_cons, List.length_nil, ag_nx, ag_dn, ag_no, ag_if, jbr1, jbr2, jc1, jc2, jnul, jld, jsto, jstoL, jst1, jst2, jkill, jinc, jbI, jbL, jbS, juI, jl2i, jcmp, jisR, jisI, jisL, jret, jretv, jfits, jdup, jdup2, jpop, jmm, jcat, Value.category, jinv, jrcv, jthr, jhd, jput, jget, jlen, jald, jast, jaast, jgI, jgL, jgB, jtab, jlku, jacp, vf20, vf21, vf22, vf23, vf24, u2_s, u2_k, u2_i, uc_s, uc_k, uc_c, u2_c, LI0, LI1, LI2, LI3, LI4, LI5, LI6, LI7, LI8, LI9, LI10, LI11, LI12, LI13, LI14, LI15, LI16, LI17, LI18, LI19, LI20, LI21, LI22, LI23, LI24, LI25, LI26, LI27, LI28, LI29, LI30, LI31, LI32, LI33, LI34, LI35, LI36, LI37, LI40, LI42, LI43, LI45, LI48, LI60, LI61, LI64, LI80, LI300, LI400, LI1000, LI2000, LI2001, LI2047, LI2048, LI100000, LI1000000, LM, nI_clamp, nI_pos', nI_lt, nI_nlt, nI_le, nI_ge, nI_ne, nI_add, nI_sub, mI_lt, mI_le, mI_nlt, mI_nle, mI_ne, mI_ne', mI_nem, h3, h8, h0, hbn, i8, e2, hab']
theorem cNextRun (hw : w = 57) (hP : isP P) (hR : R w 0 = P) (hj : ∀ x y, cN x = cN y → x = y) (hm : ∀ z, rN z = cN (-1) → z = -1) (hpl : plC cN rN N O G E np P L I) (hW : wC cN I R w W) (hok : okW N np B W) : ∃ I2, jcall A jcode (d + 5) 121 [.ref (b + w)] (jH h b X I J R n) = some (.inl (some (rfO b (R (w + 8)) (aNext rN N W))), jH h b X I2 J R n) ∧ onT w I I2 := by
  have hw' : isW w := by rw [hw]; simp [isW]
  have h8 : I w 8 = W.2.1.2.2.2.2 := (hW.2.2.2.1 hw).2.2.1
  obtain ⟨I2, e, o⟩ := c121l (d := d) (A := A) (b := b) (h := h) (X := X) (J := J) (R := R) (n := n) hw' hP hR hj hm hpl hW hok h8 W.1 0 none I none none (by omega) (fun j => by rw [Nat.zero_add]) onT_refl
  refine ⟨I2, ?_, o⟩
  have e9 : orO (none : Option Nat) (aFi (aAble rN N W.2.1.2.1) W.1 0) = aFi (aAble rN N W.2.1.2.1) W.1 0 := rfl
  rw [e9] at e
  unfold aNext
  rw [← e]
  simp (disch := omega) [je121, r121_0, r121_1, r121_2, r121_3, List.getElem?_cons_zero, List.getElem?_cons_succ, List.length_cons, List.length_nil, ag_nx, ag_dn, ag_no, ag_if, jbr1, jbr2, jc1, jc2, jnul, jld, jsto, jstoL, jst1, jst2, jkill, jinc, jbI, jbL, jbS, juI, jl2i, jcmp, jisR, jisI, jisL, jret, jretv, jfits, jdup, jdup2, jpop, jmm, jcat, Value.category, jinv, jrcv, jthr, jhd, jput, jget, jlen, jald, jast, jaast, jgI, jgL, jgB, jtab, jlku, jacp, vf20, vf21, vf22, vf23, vf24, u2_s, u2_k, u2_i, uc_s, uc_k, uc_c, u2_c, LI0, LI1, LI2, LI3, LI4, LI5, LI6, LI7, LI8, LI9, LI10, LI11, LI12, LI13, LI14, LI15, LI16, LI17, LI18, LI19, LI20, LI21, LI22, LI23, LI24, LI25, LI26, LI27, LI28, LI29, LI30, LI31, LI32, LI33, LI34, LI35, LI36, LI37, LI40, LI42, LI43, LI45, LI48, LI60, LI61, LI64, LI80, LI300, LI400, LI1000, LI2000, LI2001, LI2047, LI2048, LI100000, LI1000000, LM, nI_clamp, nI_pos', nI_lt, nI_nlt, nI_le, nI_ge, nI_ne, nI_add, nI_sub, mI_lt, mI_le, mI_nlt, mI_nle, mI_ne, mI_ne', mI_nem, rfO]
end CNR
