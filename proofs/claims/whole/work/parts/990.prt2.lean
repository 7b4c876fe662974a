/-! the reference: who runs next, turns in a row, time -/
section RNA
variable {A : Nat → Nat} {d b n k : Nat} {h : Nat → Option jC} {X : jXX} {I : Nat → Nat → Int32} {J : Nat → Nat → Int64} {R : Nat → Nat → Nat} {cN rN : Int32 → Nm} {W : aW Nm} {N : Nat → Nat → Int32} {np B D M : Nat} {l : Bool}
theorem onP_refl : onP I I := ⟨fun _ _ _ => rfl, fun _ _ => rfl⟩
theorem fR_onP {I' : Nat → Nat → Int32} (ho : onP I I') : fR I I' := ⟨fun c i hc => ho.1 c i (by omega), fun i hi => ho.2 i (by omega), ho.2 66 (by omega)⟩
theorem r254l {lst : Int32} (hj : ∀ x y, rN x = rN y → x = y) (hpl : plR X I N M) (hvN : vN N M np) (hW : wR rN I l W) (hok : okW N np B W) : ∀ (as : List (aI Nm)) (k : Nat) (I1 : Nat → Nat → Int32), k + as.length = W.1.length → (∀ j, as[j]? = W.1[k + j]?) → onP I I1 → ∃ I2, M254 A (d + 2 + ED) 2 [some (.ref (b + 241)), some (.int lst), some (.int (nI k))] [] (jH h b X I1 J R n) = some (.inl (some (.int (inO (aFi (aBh rN N W.2.1.2.1 lst) as k)))), jH h b X I2 J R n) ∧ onP I I2 := by
  have hl8 := hW.1.1
  intro as
  induction as with
  | nil =>
    intro k I1 hl _ ho
    have : k = W.1.length := by simpa using hl
    subst this
    have h3 : I1 241 36 = nI W.1.length := (ho.2 36 (by omega)).trans hW.1.2.1
    refine ⟨I1, ?_, ho⟩
    rw [r254_2]
    simp (disch := omega) [r254_0, r254_1, r254_3, r254_4, r254_7, r254_10, r254_11, r254_14, r254_15, r254_16, r254_17, r254_20, r254_23, r254_24, r254_25, r254_28, r254_29, r254_32, r254_35, r254_36, r254_37, r254_40, r254_43, r254_44, g241, vf12_36, vf12_42, t241_42, g260, qa238, qo238, vf12_69, List.getElem?_cons_zero, List.getElem?_cons_succ, List.length_cons, List.length_nil, ag_nx, ag_dn, ag_no, ag_if, jbr1, jbr2, jc1, jc2, jnul, jld, jsto, jstoL, jst1, jst2, jkill, jinc, jbI, jbL, jbS, juI, jl2i, jcmp, jisR, jisI, jisL, jret, jretv, jfits, jdup, jdup2, jpop, jmm, jcat, Value.category, jinv, jrcv, jthr, jhd, jput, jget, jlen, jald, jast, jaast, jgI, jgL, jgB, jtab, jlku, jacp, vf20, vf21, vf22, vf23, vf24, u2_s, u2_k, u2_i, uc_s, uc_k, uc_c, u2_c, LI0, LI1, LI2, LI3, LI4, LI5, LI6, LI7, LI8, LI9, LI10, LI11, LI12, LI13, LI14, LI15, LI16, LI17, LI18, LI19, LI20, LI21, LI22, LI23, LI24, LI25, LI26, LI27, LI28, LI29, LI30, LI31, LI32, LI33, LI34, LI35, LI36, LI37, LI40, LI42, LI43, LI45, LI48, LI60, LI61, LI64, LI80, LI300, LI400, LI1000, LI2000, LI2001, LI2047, LI2048, LI100000, LI1000000, LM, nI_clamp, nI_pos', nI_lt, nI_nlt, nI_le, nI_ge, nI_ne, nI_add, nI_sub, mI_lt, mI_le, mI_nlt, mI_nle, mI_ne, mI_ne', mI_nem, h3, aFi, inO]
  | cons a as ih =>
    intro k I1 hl has ho
    have hil : k < W.1.length := by simp at hl; omega
    have k8 : k < 8 := by omega
    have ha : W.1[k]? = some a := by
      have := has 0
      simpa using this.symm
    have hA := iR_onP ho (hW.1.2.2 k a ha)
    have h3 : I1 241 36 = nI W.1.length := (ho.2 36 (by omega)).trans hW.1.2.1
    have h0 : I1 260 k = a.1.1 := (iR_01 hA).1
    have h5 : I1 241 38 = W.2.1.2.1 := (ho.2 38 (by omega)).trans hW.2.2.1
    have hrest : ∀ j, as[j]? = W.1[k + 1 + j]? := fun j => by
      have := has (j + 1)
      rw [show k + 1 + j = k + (j + 1) by omega]
      simpa using this
    have hstep : ∀ (I' : Nat → Nat → Int32), onP I I' → ∃ I3, M254 A (d + 2 + ED) 37 [some (.ref (b + 241)), some (.int lst), some (.int (nI k))] [] (jH h b X I' J R n) = some (.inl (some (.int (inO (aFi (aBh rN N W.2.1.2.1 lst) as (k + 1))))), jH h b X I3 J R n) ∧ onP I I3 := by
      intro I' ho'
      obtain ⟨I3, e3, o3⟩ := ih (k + 1) I' (by simp at hl; omega) hrest ho'
      refine ⟨I3, ?_, o3⟩
      rw [← e3, r254_37]
      simp (disch := omega) [r254_40, List.getElem?_cons_zero, List.getElem?_cons_succ, List.length_cons, List.length_nil, ag_nx, ag_dn, ag_no, ag_if, jbr1, jbr2, jc1, jc2, jnul, jld, jsto, jstoL, jst1, jst2, jkill, jinc, jbI, jbL, jbS, juI, jl2i, jcmp, jisR, jisI, jisL, jret, jretv, jfits, jdup, jdup2, jpop, jmm, jcat, Value.category, jinv, jrcv, jthr, jhd, jput, jget, jlen, jald, jast, jaast, jgI, jgL, jgB, jtab, jlku, jacp, vf20, vf21, vf22, vf23, vf24, u2_s, u2_k, u2_i, uc_s, uc_k, uc_c, u2_c, LI0, LI1, LI2, LI3, LI4, LI5, LI6, LI7, LI8, LI9, LI10, LI11, LI12, LI13, LI14, LI15, LI16, LI17, LI18, LI19, LI20, LI21, LI22, LI23, LI24, LI25, LI26, LI27, LI28, LI29, LI30, LI31, LI32, LI33, LI34, LI35, LI36, LI37, LI40, LI42, LI43, LI45, LI48, LI60, LI61, LI64, LI80, LI300, LI400, LI1000, LI2000, LI2001, LI2047, LI2048, LI100000, LI1000000, LM, nI_clamp, nI_pos', nI_lt, nI_nlt, nI_le, nI_ge, nI_ne, nI_add, nI_sub, mI_lt, mI_le, mI_nlt, mI_nle, mI_ne, mI_ne', mI_nem]
    unfold aFi
    by_cases hbe : lst < a.1.1
    · have hbn : ¬ a.1.1 ≤ lst := Int32.not_le.mpr hbe
      obtain ⟨I2, e2, o2, t2, _⟩ := rPlan (d := d) (A := A) (b := b) (h := h) (X := X) (J := J) (R := R) (n := n) hj (plR_onP ho hpl) hvN hA k8 (hok.2.1 k a ha) h5
      have o12 := onP_trans ho o2
      by_cases hab : (aPlan rN N W.2.1.2.1 a).1 = 0
      · have f1 : ¬ aBh rN N W.2.1.2.1 lst a = true := by simp [aBh, aAble, hab]
        rw [if_neg f1]
        obtain ⟨I3, e3, o3⟩ := hstep I2 o12
        refine ⟨I3, ?_, o3⟩
        rw [hab] at t2
        simp only [LI0, LI1, LI2, LI3, LI4, LI5, LI6, LI7, LI8, LI9, LI10, LI11, LI12, LI13, LI14, LI15, LI16, LI17, LI18, LI19, LI20, LI21, LI22, LI23, LI24, LI25, LI26, LI27, LI28, LI29, LI30, LI31, LI32, LI33, LI34, LI35, LI36, LI37, LI40, LI42, LI43, LI45, LI48, LI60, LI61, LI64, LI80, LI300, LI400, LI1000, LI2000, LI2001, LI2047, LI2048, LI100000, LI1000000, LM] at t2
        rw [← e3, r254_2]
        simp (disch := omega) [r254_0, r254_1, r254_3, r254_4, r254_7, r254_10, r254_11, r254_14, r254_15, r254_16, r254_17, r254_20, r254_23, r254_24, r254_25, r254_28, r254_29, r254_32, r254_35, r254_36, r254_40, r254_43, r254_44, g241, vf12_36, vf12_42, t241_42, g260, qa238, qo238, vf12_69, List.getElem?_cons_zero, List.getElem?_cons_succ, List.length_cons, List.length_nil, ag_nx, ag_dn, ag_no, ag_if, jbr1, jbr2, jc1, jc2, jnul, jld, jsto, jstoL, jst1, jst2, jkill, jinc, jbI, jbL, jbS, juI, jl2i, jcmp, jisR, jisI, jisL, jret, jretv, jfits, jdup, jdup2, jpop, jmm, jcat, Value.category, jinv, jrcv, jthr, jhd, jput, jget, jlen, jald, jast, jaast, jgI, jgL, jgB, jtab, jlku, jacp, vf20, vf21, vf22, vf23, vf24, u2_s, u2_k, u2_i, uc_s, uc_k, uc_c, u2_c, LI0, LI1, LI2, LI3, LI4, LI5, LI6, LI7, LI8, LI9, LI10, LI11, LI12, LI13, LI14, LI15, LI16, LI17, LI18, LI19, LI20, LI21, LI22, LI23, LI24, LI25, LI26, LI27, LI28, LI29, LI30, LI31, LI32, LI33, LI34, LI35, LI36, LI37, LI40, LI42, LI43, LI45, LI48, LI60, LI61, LI64, LI80, LI300, LI400, LI1000, LI2000, LI2001, LI2047, LI2048, LI100000, LI1000000, LM, nI_clamp, nI_pos', nI_lt, nI_nlt, nI_le, nI_ge, nI_ne, nI_add, nI_sub, mI_lt, mI_le, mI_nlt, mI_nle, mI_ne, mI_ne', mI_nem, h3, h0, hbn, hbe, k8, e2, t2]
      · have f1 : aBh rN N W.2.1.2.1 lst a = true := by simp [aBh, aAble, hab, hbe]
        rw [if_pos f1]
        have hab' : ¬ (aPlan rN N W.2.1.2.1 a).1 = nI 0 := hab
        refine ⟨I2, ?_, o12⟩
        rw [r254_2]
        simp (disch := omega) [r254_0, r254_1, r254_3, r254_4, r254_7, r254_10, r254_11, r254_14, r254_15, r254_16, r254_17, r254_20, r254_23, r254_24, r254_25, r254_28, r254_29, r254_32, r254_35, r254_36, r254_40, r254_43, r254_44, g241, vf12_36, vf12_42, t241_42, g260, qa238, qo238, vf12_69, List.getElem?_cons_zero, List.getElem?_cons_succ, List.length_cons, List.length_nil, ag_nx, ag_dn, ag_no, ag_if, jbr1, jbr2, jc1, jc2, jnul, jld, jsto, jstoL, jst1, jst2, jkill, jinc, jbI, jbL, jbS, juI, jl2i, jcmp, jisR, jisI, jisL, jret, jretv, jfits, jdup, jdup2, jpop, jmm, jcat, Value.category, jinv, jrcv, jthr, jhd, jput, jget, jlen, jald, jast, jaast, jgI, jgL, jgB, jtab, jlku, jacp, vf20, vf21, vf22, vf23, vf24, u2_s, u2_k, u2_i, uc_s, uc_k, uc_c, u2_c, LI0, LI1, LI2, LI3, LI4, LI5, LI6, LI7, LI8, LI9, LI10, LI11, LI12, LI13, LI14, LI15, LI16, LI17, LI18, LI19, LI20, LI21, LI22, LI23, LI24, LI25, LI26, LI27, LI28, LI29, LI30, LI31, LI32, LI33, LI34, LI35, LI36, LI37, LI40, LI42, LI43, LI45, LI48, LI60, LI61, LI64, LI80, LI300, LI400, LI1000, LI2000, LI2001, LI2047, LI2048, LI100000, LI1000000, LM, nI_clamp, nI_pos', nI_lt, nI_nlt, nI_le, nI_ge, nI_ne, nI_add, nI_sub, mI_lt, mI_le, mI_nlt, mI_nle, mI_ne, mI_ne', mI_nem, h3, h0, hbn, hbe, k8, e2, t2, hab', inO]
    · have hbn : a.1.1 ≤ lst := Int32.not_lt.mp hbe
      have f1 : ¬ aBh rN N W.2.1.2.1 lst a = true := by simp [aBh, hbe]
      rw [if_neg f1]
      obtain ⟨I3, e3, o3⟩ := hstep I1 ho
      refine ⟨I3, ?_, o3⟩
      rw [← e3, r254_2]
      simp (disch := omega) [r254_0, r254_1, r254_3, r254_4, r254_7, r254_10, r254_11, r254_14, r254_15, r254_16, r254_17, r254_20, r254_23, r254_24, r254_25, r254_28, r254_29, r254_32, r254_35, r254_36, r254_40, r254_43, r254_44, g241, vf12_36, vf12_42, t241_42, g260, qa238, qo238, vf12_69, List.getElem?_cons_zero, List.getElem?_cons_succ, List.length_cons, List.length_nil, ag_nx, ag_dn, ag_no, ag_if, jbr1, jbr2, jc1, jc2, jnul, jld, jsto, jstoL, jst1, jst2, jkill, jinc, jbI, jbL, jbS, juI, jl2i, jcmp, jisR, jisI, jisL, jret, jretv, jfits, jdup, jdup2, jpop, jmm, jcat, Value.category, jinv, jrcv, jthr, jhd, jput, jget, jlen, jald, jast, jaast, jgI, jgL, jgB, jtab, jlku, jacp, vf20, vf21, vf22, vf23, vf24, u2_s, u2_k, u2_i, uc_s, uc_k, uc_c, u2_c, LI0, LI1, LI2, LI3, LI4, LI5, LI6, LI7, LI8, LI9, LI10, LI11, LI12, LI13, LI14, LI15, LI16, LI17, LI18, LI19, LI20, LI21, LI22, LI23, LI24, LI25, LI26, LI27, LI28, LI29, LI30, LI31, LI32, LI33, LI34, LI35, LI36, LI37, LI40, LI42, LI43, LI45, LI48, LI60, LI61, LI64, LI80, LI300, LI400, LI1000, LI2000, LI2001, LI2047, LI2048, LI100000, LI1000000, LM, nI_clamp, nI_pos', nI_lt, nI_nlt, nI_le, nI_ge, nI_ne, nI_add, nI_sub, mI_lt, mI_le, mI_nlt, mI_nle, mI_ne, mI_ne', mI_nem, h3, h0, hbn, hbe, k8]
theorem rAble {lst : Int32} (hj : ∀ x y, rN x = rN y → x = y) (hpl : plR X I N M) (hvN : vN N M np) (hW : wR rN I l W) (hok : okW N np B W) : ∃ I2, jcall A jcode (d + 3 + ED) 254 [.ref (b + 241), .int lst] (jH h b X I J R n) = some (.inl (some (.int (inO (aFi (aBh rN N W.2.1.2.1 lst) W.1 0)))), jH h b X I2 J R n) ∧ onP I I2 := by
  obtain ⟨I2, e, o⟩ := r254l (d := d) (lst := lst) (A := A) (b := b) (h := h) (X := X) (J := J) (R := R) (n := n) hj hpl hvN hW hok W.1 0 I (by omega) (fun j => by rw [Nat.zero_add]) onP_refl
  refine ⟨I2, ?_, o⟩
  rw [← e, show d + 3 + ED = d + 2 + ED + 1 by omega]
  simp (disch := omega) [je254, r254_0, r254_1, List.getElem?_cons_zero, List.getElem?_cons_succ, List.length_cons, List.length_nil, ag_nx, ag_dn, ag_no, ag_if, jbr1, jbr2, jc1, jc2, jnul, jld, jsto, jstoL, jst1, jst2, jkill, jinc, jbI, jbL, jbS, juI, jl2i, jcmp, jisR, jisI, jisL, jret, jretv, jfits, jdup, jdup2, jpop, jmm, jcat, Value.category, jinv, jrcv, jthr, jhd, jput, jget, jlen, jald, jast, jaast, jgI, jgL, jgB, jtab, jlku, jacp, vf20, vf21, vf22, vf23, vf24, u2_s, u2_k, u2_i, uc_s, uc_k, uc_c, u2_c, LI0, LI1, LI2, LI3, LI4, LI5, LI6, LI7, LI8, LI9, LI10, LI11, LI12, LI13, LI14, LI15, LI16, LI17, LI18, LI19, LI20, LI21, LI22, LI23, LI24, LI25, LI26, LI27, LI28, LI29, LI30, LI31, LI32, LI33, LI34, LI35, LI36, LI37, LI40, LI42, LI43, LI45, LI48, LI60, LI61, LI64, LI80, LI300, LI400, LI1000, LI2000, LI2001, LI2047, LI2048, LI100000, LI1000000, LM, nI_clamp, nI_pos', nI_lt, nI_nlt, nI_le, nI_ge, nI_ne, nI_add, nI_sub, mI_lt, mI_le, mI_nlt, mI_nle, mI_ne, mI_ne', mI_nem]
theorem aFi_congr {f g : aI Nm → Bool} : ∀ (as : List (aI Nm)) (k : Nat), (∀ a, a ∈ as → f a = g a) → aFi f as k = aFi g as k := by
  intro as
  induction as with
  | nil => intro k _; rfl
  | cons a as ih =>
    intro k hf
    unfold aFi
    rw [hf a List.mem_cons_self, ih (k + 1) (fun a ha => hf a (List.mem_cons_of_mem _ ha))]
theorem okW_pos (hB : B + 8 < 2 ^ 31) (hok : okW N np B W) : ∀ a, a ∈ W.1 → (-1 : Int32) < a.1.1 := by
  intro a ha
  obtain ⟨h1, h2, h3, g, ids, h4, h5, h6, h7, h8⟩ := hok
  have : a.1.1 ∈ W.1.map (fun a => a.1.1) := List.mem_map_of_mem ha
  rw [h6] at this
  obtain ⟨x, hx, e⟩ := List.mem_map.mp this
  have hx2 := h8 x hx
  rw [← e]
  rw [Int32.lt_iff_toInt_lt, nI_toInt (by omega)]
  have : (-1 : Int32).toInt = -1 := by decide
  omega
theorem aFi_m1 (hB : B + 8 < 2 ^ 31) (hok : okW N np B W) {now : Int32} : aFi (aBh rN N now (-1)) W.1 0 = aFi (aAble rN N now) W.1 0 :=
  aFi_congr W.1 0 (fun a ha => by simp [aBh, okW_pos hB hok a ha])
theorem wR_last {x : Int32} (hW : wR rN I true W) : wR rN (u2 I 241 41 x) true (aLast x W) := by
  obtain ⟨hA, h4, h5, hL, hQ⟩ := hW
  refine ⟨wB_fr (fun c i h1 h2 => by rw [u2_k (by omega)]) (by rw [u2_i (by omega)]) hA, by rw [u2_i (by omega)]; exact h4, by rw [u2_i (by omega)]; exact h5, fun e => ?_, fun e => absurd e (by decide)⟩
  obtain ⟨h66, h6, h7, h8, hm, he, ht, hx⟩ := hL e
  refine ⟨by rw [u2_i (by omega)]; exact h66, by rw [u2_i (by omega)]; exact h6, by rw [u2_i (by omega)]; exact h7, u2_s, hm, by rw [u2_i (by omega)]; exact he, ?_, by rw [u2_i (by omega)]; exact hx⟩
  refine ht.trans (rl_congr fun j hj => ?_)
  unfold eR
  simp (disch := omega) [u2_k]
theorem rRuns (hj : ∀ x y, rN x = rN y → x = y) (hvN : vN N M np) : ∀ (r c B : Nat) (W : aW Nm) (I : Nat → Nat → Int32) (c3 c4 : Option Value), plR X I N M → wR rN I true W → okW N np B W → okD D W → B + r + 8 < 2 ^ 31 → c + r < 2 ^ 31 → ∃ I', M255 A (d + 15 + ED) 38 [some (.ref (b + 241)), some (.int (nI (c + r))), some (.int (nI c)), c3, c4] [] (jH h b X I J R n) = some (.inl (some (.int (nI (c + (aRuns rN N r W).1)))), jH h b X I' J R n) ∧ wR rN I' true (aRuns rN N r W).2 ∧ fR I I' := by
  intro r
  induction r with
  | zero =>
    intro c B W I c3 c4 hpl hW hok hd hB hc
    refine ⟨I, ?_, hW, fR_refl⟩
    rw [r255_38]
    simp (disch := omega) [r255_39, r255_40, r255_91, r255_92, List.getElem?_cons_zero, List.getElem?_cons_succ, List.length_cons, List.length_nil, ag_nx, ag_dn, ag_no, ag_if, jbr1, jbr2, jc1, jc2, jnul, jld, jsto, jstoL, jst1, jst2, jkill, jinc, jbI, jbL, jbS, juI, jl2i, jcmp, jisR, jisI, jisL, jret, jretv, jfits, jdup, jdup2, jpop, jmm, jcat, Value.category, jinv, jrcv, jthr, jhd, jput, jget, jlen, jald, jast, jaast, jgI, jgL, jgB, jtab, jlku, jacp, vf20, vf21, vf22, vf23, vf24, u2_s, u2_k, u2_i, uc_s, uc_k, uc_c, u2_c, LI0, LI1, LI2, LI3, LI4, LI5, LI6, LI7, LI8, LI9, LI10, LI11, LI12, LI13, LI14, LI15, LI16, LI17, LI18, LI19, LI20, LI21, LI22, LI23, LI24, LI25, LI26, LI27, LI28, LI29, LI30, LI31, LI32, LI33, LI34, LI35, LI36, LI37, LI40, LI42, LI43, LI45, LI48, LI60, LI61, LI64, LI80, LI300, LI400, LI1000, LI2000, LI2001, LI2047, LI2048, LI100000, LI1000000, LM, nI_clamp, nI_pos', nI_lt, nI_nlt, nI_le, nI_ge, nI_ne, nI_add, nI_sub, mI_lt, mI_le, mI_nlt, mI_nle, mI_ne, mI_ne', mI_nem, aRuns]
  | succ r ih =>
    intro c B W I c3 c4 hpl hW hok hd hB hc
    have h41 : I 241 41 = W.2.1.2.2.2.2 := (hW.2.2.2.1 rfl).2.2.2.1
    obtain ⟨I1, e1, o1⟩ := rAble (d := d + 12) (lst := W.2.1.2.2.2.2) (A := A) (b := b) (h := h) (X := X) (J := J) (R := R) (n := n) hj hpl hvN hW hok
    have w1 := wR_onP o1 hW
    have p1 := plR_onP o1 hpl
    obtain ⟨I2, e2, o2⟩ := rAble (d := d + 12) (lst := -1) (A := A) (b := b) (h := h) (X := X) (J := J) (R := R) (n := n) hj p1 hvN w1 hok
    rw [aFi_m1 (by omega) hok] at e2
    rw [show d + 12 + 3 + ED = d + 15 + ED by omega] at e1 e2
    have mid : ∃ I3 c3', M255 A (d + 15 + ED) 38 [some (.ref (b + 241)), some (.int (nI (c + (r + 1)))), some (.int (nI c)), c3, c4] [] (jH h b X I J R n) = M255 A (d + 15 + ED) 62 [some (.ref (b + 241)), some (.int (nI (c + (r + 1)))), some (.int (nI c)), some (.int (inO (aNext rN N W))), c4] [] (jH h b X I3 J R n) ∧ onP I I3 ∧ c3' = c3 := by
      unfold aNext
      cases h1 : aFi (aBh rN N W.2.1.2.1 W.2.1.2.2.2.2) W.1 0 with
      | some y =>
        rw [h1] at e1
        obtain ⟨a, ha, _⟩ := aFi_at W.1 0 (fun j => by rw [Nat.zero_add]) _ h1
        have y8 : y < 8 := by have := lt_of_some ha; have := hW.1.1; omega
        refine ⟨I1, c3, ?_, o1, rfl⟩
        simp only [inO, orO] at e1 ⊢
        rw [r255_38]
        simp (disch := omega) [r255_0, r255_1, r255_2, r255_5, r255_6, r255_9, r255_12, r255_13, r255_16, r255_17, r255_20, r255_23, r255_24, r255_27, r255_28, r255_31, r255_34, r255_35, r255_36, r255_37, r255_39, r255_40, r255_43, r255_44, r255_45, r255_48, r255_51, r255_52, r255_53, r255_56, r255_57, r255_58, r255_61, r255_63, r255_66, r255_67, r255_68, r255_69, r255_70, r255_73, r255_74, r255_75, r255_78, r255_79, r255_80, r255_83, r255_85, r255_88, r255_91, r255_92, g241, vf12_33, qa176, qo176, vf12_41, qa254, qo254, vf12_42, t241_42, g260, p241_41, ty12_41, qa239, qo239, List.getElem?_cons_zero, List.getElem?_cons_succ, List.length_cons, List.length_nil, ag_nx, ag_dn, ag_no, ag_if, jbr1, jbr2, jc1, jc2, jnul, jld, jsto, jstoL, jst1, jst2, jkill, jinc, jbI, jbL, jbS, juI, jl2i, jcmp, jisR, jisI, jisL, jret, jretv, jfits, jdup, jdup2, jpop, jmm, jcat, Value.category, jinv, jrcv, jthr, jhd, jput, jget, jlen, jald, jast, jaast, jgI, jgL, jgB, jtab, jlku, jacp, vf20, vf21, vf22, vf23, vf24, u2_s, u2_k, u2_i, uc_s, uc_k, uc_c, u2_c, LI0, LI1, LI2, LI3, LI4, LI5, LI6, LI7, LI8, LI9, LI10, LI11, LI12, LI13, LI14, LI15, LI16, LI17, LI18, LI19, LI20, LI21, LI22, LI23, LI24, LI25, LI26, LI27, LI28, LI29, LI30, LI31, LI32, LI33, LI34, LI35, LI36, LI37, LI40, LI42, LI43, LI45, LI48, LI60, LI61, LI64, LI80, LI300, LI400, LI1000, LI2000, LI2001, LI2047, LI2048, LI100000, LI1000000, LM, nI_clamp, nI_pos', nI_lt, nI_nlt, nI_le, nI_ge, nI_ne, nI_add, nI_sub, mI_lt, mI_le, mI_nlt, mI_nle, mI_ne, mI_ne', mI_nem, h41, e1]
      | none =>
        rw [h1] at e1
        refine ⟨I2, c3, ?_, onP_trans o1 o2, rfl⟩
        simp only [inO, orO] at e1 e2 ⊢
        simp only [LI0, LI1, LI2, LI3, LI4, LI5, LI6, LI7, LI8, LI9, LI10, LI11, LI12, LI13, LI14, LI15, LI16, LI17, LI18, LI19, LI20, LI21, LI22, LI23, LI24, LI25, LI26, LI27, LI28, LI29, LI30, LI31, LI32, LI33, LI34, LI35, LI36, LI37, LI40, LI42, LI43, LI45, LI48, LI60, LI61, LI64, LI80, LI300, LI400, LI1000, LI2000, LI2001, LI2047, LI2048, LI100000, LI1000000, LM] at e1 e2 ⊢
        rw [r255_38]
        simp (disch := omega) [r255_0, r255_1, r255_2, r255_5, r255_6, r255_9, r255_12, r255_13, r255_16, r255_17, r255_20, r255_23, r255_24, r255_27, r255_28, r255_31, r255_34, r255_35, r255_36, r255_37, r255_39, r255_40, r255_43, r255_44, r255_45, r255_48, r255_51, r255_52, r255_53, r255_56, r255_57, r255_58, r255_61, r255_63, r255_66, r255_67, r255_68, r255_69, r255_70, r255_73, r255_74, r255_75, r255_78, r255_79, r255_80, r255_83, r255_85, r255_88, r255_91, r255_92, g241, vf12_33, qa176, qo176, vf12_41, qa254, qo254, vf12_42, t241_42, g260, p241_41, ty12_41, qa239, qo239, List.getElem?_cons_zero, List.getElem?_cons_succ, List.length_cons, List.length_nil, ag_nx, ag_dn, ag_no, ag_if, jbr1, jbr2, jc1, jc2, jnul, jld, jsto, jstoL, jst1, jst2, jkill, jinc, jbI, jbL, jbS, juI, jl2i, jcmp, jisR, jisI, jisL, jret, jretv, jfits, jdup, jdup2, jpop, jmm, jcat, Value.category, jinv, jrcv, jthr, jhd, jput, jget, jlen, jald, jast, jaast, jgI, jgL, jgB, jtab, jlku, jacp, vf20, vf21, vf22, vf23, vf24, u2_s, u2_k, u2_i, uc_s, uc_k, uc_c, u2_c, LI0, LI1, LI2, LI3, LI4, LI5, LI6, LI7, LI8, LI9, LI10, LI11, LI12, LI13, LI14, LI15, LI16, LI17, LI18, LI19, LI20, LI21, LI22, LI23, LI24, LI25, LI26, LI27, LI28, LI29, LI30, LI31, LI32, LI33, LI34, LI35, LI36, LI37, LI40, LI42, LI43, LI45, LI48, LI60, LI61, LI64, LI80, LI300, LI400, LI1000, LI2000, LI2001, LI2047, LI2048, LI100000, LI1000000, LM, nI_clamp, nI_pos', nI_lt, nI_nlt, nI_le, nI_ge, nI_ne, nI_add, nI_sub, mI_lt, mI_le, mI_nlt, mI_nle, mI_ne, mI_ne', mI_nem, h41, e1, e2]
    obtain ⟨I3, _, e3, o3, _⟩ := mid
    have w3 := wR_onP o3 hW
    have p3 := plR_onP o3 hpl
    rw [e3]
    cases hx : aNext rN N W with
    | none =>
      simp only [aRuns, hx, inO]
      refine ⟨I3, ?_, w3, fR_onP o3⟩
      rw [r255_62]
      simp (disch := omega) [r255_63, r255_66, r255_67, List.getElem?_cons_zero, List.getElem?_cons_succ, List.length_cons, List.length_nil, ag_nx, ag_dn, ag_no, ag_if, jbr1, jbr2, jc1, jc2, jnul, jld, jsto, jstoL, jst1, jst2, jkill, jinc, jbI, jbL, jbS, juI, jl2i, jcmp, jisR, jisI, jisL, jret, jretv, jfits, jdup, jdup2, jpop, jmm, jcat, Value.category, jinv, jrcv, jthr, jhd, jput, jget, jlen, jald, jast, jaast, jgI, jgL, jgB, jtab, jlku, jacp, vf20, vf21, vf22, vf23, vf24, u2_s, u2_k, u2_i, uc_s, uc_k, uc_c, u2_c, LI0, LI1, LI2, LI3, LI4, LI5, LI6, LI7, LI8, LI9, LI10, LI11, LI12, LI13, LI14, LI15, LI16, LI17, LI18, LI19, LI20, LI21, LI22, LI23, LI24, LI25, LI26, LI27, LI28, LI29, LI30, LI31, LI32, LI33, LI34, LI35, LI36, LI37, LI40, LI42, LI43, LI45, LI48, LI60, LI61, LI64, LI80, LI300, LI400, LI1000, LI2000, LI2001, LI2047, LI2048, LI100000, LI1000000, LM, nI_clamp, nI_pos', nI_lt, nI_nlt, nI_le, nI_ge, nI_ne, nI_add, nI_sub, mI_lt, mI_le, mI_nlt, mI_nle, mI_ne, mI_ne', mI_nem]
    | some k =>
      obtain ⟨a, ha⟩ := aNext_at hx
      have k8 : k < 8 := by have := lt_of_some ha; have := hW.1.1; omega
      have w4 := wR_last (x := a.1.1) w3
      have p4 : plR X (u2 I3 241 41 a.1.1) N M := plR_fr (fun c i h1 h2 => by rw [u2_k (by omega)]) p3
      have ha3 : (aLast a.1.1 W).1[k]? = some a := ha
      obtain ⟨I4, e4, w4, f4⟩ := rTurn (d := d) (A := A) (b := b) (h := h) (X := X) (J := J) (R := R) (n := n) hj p4 hvN w4 (okW_last hok) ha3
      obtain ⟨ok4, d4⟩ := ok_turn (rN := rN) (l := true) hvN (okW_last (x := a.1.1) hok) (okD_last hd) ha3
      have p5 : plR X I4 N M := plR_fr (fun c i h1 h2 => f4.1 c i (by omega)) p4
      obtain ⟨I5, e5, w5, f5⟩ := ih (c + 1) (B + 1) _ I4 (some (.int (nI k))) (some (.int (aTurn rN N true k (aLast a.1.1 W)).1)) p5 w4 ok4 d4 (by omega) (by omega)
      have h0 : I3 260 k = a.1.1 := (iR_01 (w3.1.2.2 k a ha)).1
      simp only [aRuns, hx, inO]
      rw [aAt_of ha]
      refine ⟨I5, ?_, w5, fR_trans (fR_onP o3) (fR_trans ?_ (fR_trans f4 f5))⟩
      · have hq : c + ((aRuns rN N r (aTurn rN N true k (aLast a.1.1 W)).2).1 + 1) = c + 1 + (aRuns rN N r (aTurn rN N true k (aLast a.1.1 W)).2).1 := by omega
        rw [hq, show c + (r + 1) = c + 1 + r by omega, ← e5, r255_62]
        simp (disch := omega) [r255_0, r255_1, r255_2, r255_5, r255_6, r255_9, r255_12, r255_13, r255_16, r255_17, r255_20, r255_23, r255_24, r255_27, r255_28, r255_31, r255_34, r255_35, r255_36, r255_37, r255_39, r255_40, r255_43, r255_44, r255_45, r255_48, r255_51, r255_52, r255_53, r255_56, r255_57, r255_58, r255_61, r255_63, r255_66, r255_67, r255_68, r255_69, r255_70, r255_73, r255_74, r255_75, r255_78, r255_79, r255_80, r255_83, r255_85, r255_88, r255_91, r255_92, g241, vf12_33, qa176, qo176, vf12_41, qa254, qo254, vf12_42, t241_42, g260, p241_41, ty12_41, qa239, qo239, List.getElem?_cons_zero, List.getElem?_cons_succ, List.length_cons, List.length_nil, ag_nx, ag_dn, ag_no, ag_if, jbr1, jbr2, jc1, jc2, jnul, jld, jsto, jstoL, jst1, jst2, jkill, jinc, jbI, jbL, jbS, juI, jl2i, jcmp, jisR, jisI, jisL, jret, jretv, jfits, jdup, jdup2, jpop, jmm, jcat, Value.category, jinv, jrcv, jthr, jhd, jput, jget, jlen, jald, jast, jaast, jgI, jgL, jgB, jtab, jlku, jacp, vf20, vf21, vf22, vf23, vf24, u2_s, u2_k, u2_i, uc_s, uc_k, uc_c, u2_c, LI0, LI1, LI2, LI3, LI4, LI5, LI6, LI7, LI8, LI9, LI10, LI11, LI12, LI13, LI14, LI15, LI16, LI17, LI18, LI19, LI20, LI21, LI22, LI23, LI24, LI25, LI26, LI27, LI28, LI29, LI30, LI31, LI32, LI33, LI34, LI35, LI36, LI37, LI40, LI42, LI43, LI45, LI48, LI60, LI61, LI64, LI80, LI300, LI400, LI1000, LI2000, LI2001, LI2047, LI2048, LI100000, LI1000000, LM, nI_clamp, nI_pos', nI_lt, nI_nlt, nI_le, nI_ge, nI_ne, nI_add, nI_sub, mI_lt, mI_le, mI_nlt, mI_nle, mI_ne, mI_ne', mI_nem, k8, h0, e4]
      · exact ⟨fun c i hc => u2_k (by omega), fun i hi => u2_i (by omega), u2_i (by omega)⟩
theorem rTimeUp (h6 : np ≤ 6) (hlv : ∀ p, p < np → (lets N p).length ≤ 6) (hD : D + 1000000 < 2 ^ 31 - 1) (hW : wR rN I l W) (hok : okW N np B W) (hd : okD D W) : ∃ I', jcall A jcode (d + 4) 241 [.ref (b + 241)] (jH h b X I J R n) = some (.inl (some (.int (aTime rN l 33 W).1)), jH h b X I' J R n) ∧ wR rN I' l (aTime rN l 33 W).2 ∧ fR I I' := by
  obtain ⟨I', e, w, f⟩ := r241l (d := d) (A := A) (b := b) (h := h) (X := X) (J := J) (R := R) (n := n) h6 hlv hD 32 0 W I none none (by omega) (tcnt_le (okW_L h6 hlv hok) hok.1) hW hok hd
  refine ⟨I', ?_, w, f⟩
  have hz : nI 0 + (aTime rN l (32 + 1) W).1 = (aTime rN l 33 W).1 := by rw [show nI 0 = 0 by decide, Int32.zero_add]
  rw [← hz, ← e]
  simp (disch := omega) [je241, r241_0, r241_1, List.getElem?_cons_zero, List.getElem?_cons_succ, List.length_cons, List.length_nil, ag_nx, ag_dn, ag_no, ag_if, jbr1, jbr2, jc1, jc2, jnul, jld, jsto, jstoL, jst1, jst2, jkill, jinc, jbI, jbL, jbS, juI, jl2i, jcmp, jisR, jisI, jisL, jret, jretv, jfits, jdup, jdup2, jpop, jmm, jcat, Value.category, jinv, jrcv, jthr, jhd, jput, jget, jlen, jald, jast, jaast, jgI, jgL, jgB, jtab, jlku, jacp, vf20, vf21, vf22, vf23, vf24, u2_s, u2_k, u2_i, uc_s, uc_k, uc_c, u2_c, LI0, LI1, LI2, LI3, LI4, LI5, LI6, LI7, LI8, LI9, LI10, LI11, LI12, LI13, LI14, LI15, LI16, LI17, LI18, LI19, LI20, LI21, LI22, LI23, LI24, LI25, LI26, LI27, LI28, LI29, LI30, LI31, LI32, LI33, LI34, LI35, LI36, LI37, LI40, LI42, LI43, LI45, LI48, LI60, LI61, LI64, LI80, LI300, LI400, LI1000, LI2000, LI2001, LI2047, LI2048, LI100000, LI1000000, LM, nI_clamp, nI_pos', nI_lt, nI_nlt, nI_le, nI_ge, nI_ne, nI_add, nI_sub, mI_lt, mI_le, mI_nlt, mI_nle, mI_ne, mI_ne', mI_nem]
end RNA
