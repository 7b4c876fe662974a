/-! walk: the reference: is a state looked for; the row is told -/
section RST
variable {A : Nat → Nat} {d b n : Nat} {h : Nat → Option jC} {X : jXX} {J : Nat → Nat → Int64} {R : Nat → Nat → Nat} {rN : Int32 → Nm} {l : Bool} {W : aW Nm} {N : Nat → Nat → Int32} {np M B D : Nat} {E : List bE}
theorem u2_2 {β : Type} {F : Nat → Nat → β} {k i : Nat} {v w : β} : u2 (u2 F k i v) k i w = u2 F k i w := by
  funext c j
  simp only [u2_ap]
  by_cases e : c = k ∧ j = i
  · rw [if_pos e, if_pos e]
  · rw [if_neg e, if_neg e, if_neg e]
theorem r268l {I : Nat → Nat → Int32} {p s : Int32} (hW : wR rN I l W) : ∀ (as : List (aI Nm)) (k : Nat), k + as.length = W.1.length → (∀ j a, as[j]? = some a → W.1[k + j]? = some a) → M268 A d 2 [some (.ref (b + 241)), some (.int p), some (.int s), some (.int (nI k))] [] (jH h b X I J R n) = some (.inl (some (.int (if as.any (fun a => decide (a.1.2.1 = p) && decide (a.1.2.2.1 = s)) = true then nI 1 else nI 0))), jH h b X I J R n) := by
  have l8 := hW.1.1
  have h3 : I 241 36 = nI W.1.length := hW.1.2.1
  intro as
  induction as with
  | nil =>
    intro k hk _
    have hk' : k = W.1.length := by simpa using hk
    subst hk'
    conv => lhs; rw [r268_2]
    simp (disch := omega) [r268_0, r268_1, r268_3, r268_4, r268_7, r268_10, r268_11, r268_14, r268_15, r268_16, r268_17, r268_20, r268_21, r268_24, r268_25, r268_26, r268_27, r268_30, r268_31, r268_32, r268_35, r268_38, r268_39, g241, vf12_36, vf12_43, t241_43, g261, vf12_44, t241_44, g262, List.getElem?_cons_zero, List.getElem?_cons_succ, List.length_cons, List.length_nil, ag_nx, ag_dn, ag_no, ag_if, jbr1, jbr2, jc1, jc2, jnul, jld, jsto, jstoL, jst1, jst2, jkill, jinc, jbI, jbL, jbS, juI, jl2i, jcmp, jisR, jisI, jisL, jret, jretv, jfits, jdup, jdup2, jpop, jmm, jcat, Value.category, jinv, jrcv, jthr, jhd, jput, jget, jlen, jald, jast, jaast, jgI, jgL, jgB, jtab, jlku, jacp, vf20, vf21, vf22, vf23, vf24, u2_s, u2_k, u2_i, uc_s, uc_k, uc_c, u2_c, LI0, LI1, LI2, LI3, LI4, LI5, LI6, LI7, LI8, LI9, LI10, LI11, LI12, LI13, LI14, LI15, LI16, LI17, LI18, LI19, LI20, LI21, LI22, LI23, LI24, LI25, LI26, LI27, LI28, LI29, LI30, LI31, LI32, LI33, LI34, LI35, LI36, LI37, LI40, LI42, LI43, LI45, LI48, LI60, LI61, LI64, LI80, LI300, LI400, LI1000, LI2000, LI2001, LI2047, LI2048, LI100000, LI1000000, LM, nI_clamp, nI_pos', nI_lt, nI_nlt, nI_le, nI_ge, nI_ne, nI_add, nI_sub, mI_lt, mI_le, mI_nlt, mI_nle, mI_ne, mI_ne', mI_nem, h3]
  | cons a as ih =>
    intro k hk ha
    have hk' : k + (as.length + 1) = W.1.length := by simpa using hk
    have hka : W.1[k]? = some a := ha 0 a rfl
    obtain ⟨_, i1, i2, _⟩ := iR_01 (hW.1.2.2 k a hka)
    have e1 := ih (k + 1) (by omega) (fun j c hj => by
      rw [show k + 1 + j = k + (j + 1) by omega]
      exact ha (j + 1) c (by simpa using hj))
    conv => lhs; rw [r268_2]
    by_cases c1 : a.1.2.1 = p
    · by_cases c2 : a.1.2.2.1 = s
      · rw [if_pos (by simp [c1, c2])]
        simp (disch := omega) [r268_0, r268_1, r268_3, r268_4, r268_7, r268_10, r268_11, r268_14, r268_15, r268_16, r268_17, r268_20, r268_21, r268_24, r268_25, r268_26, r268_27, r268_30, r268_31, r268_32, r268_35, r268_38, r268_39, g241, vf12_36, vf12_43, t241_43, g261, vf12_44, t241_44, g262, List.getElem?_cons_zero, List.getElem?_cons_succ, List.length_cons, List.length_nil, ag_nx, ag_dn, ag_no, ag_if, jbr1, jbr2, jc1, jc2, jnul, jld, jsto, jstoL, jst1, jst2, jkill, jinc, jbI, jbL, jbS, juI, jl2i, jcmp, jisR, jisI, jisL, jret, jretv, jfits, jdup, jdup2, jpop, jmm, jcat, Value.category, jinv, jrcv, jthr, jhd, jput, jget, jlen, jald, jast, jaast, jgI, jgL, jgB, jtab, jlku, jacp, vf20, vf21, vf22, vf23, vf24, u2_s, u2_k, u2_i, uc_s, uc_k, uc_c, u2_c, LI0, LI1, LI2, LI3, LI4, LI5, LI6, LI7, LI8, LI9, LI10, LI11, LI12, LI13, LI14, LI15, LI16, LI17, LI18, LI19, LI20, LI21, LI22, LI23, LI24, LI25, LI26, LI27, LI28, LI29, LI30, LI31, LI32, LI33, LI34, LI35, LI36, LI37, LI40, LI42, LI43, LI45, LI48, LI60, LI61, LI64, LI80, LI300, LI400, LI1000, LI2000, LI2001, LI2047, LI2048, LI100000, LI1000000, LM, nI_clamp, nI_pos', nI_lt, nI_nlt, nI_le, nI_ge, nI_ne, nI_add, nI_sub, mI_lt, mI_le, mI_nlt, mI_nle, mI_ne, mI_ne', mI_nem, h3, show k < W.1.length by omega, show k < 8 by omega, i1, i2, c1, c2]
      · rw [show ((a :: as).any (fun a => decide (a.1.2.1 = p) && decide (a.1.2.2.1 = s))) = as.any (fun a => decide (a.1.2.1 = p) && decide (a.1.2.2.1 = s)) by simp [c2]]
        simp (disch := omega) [r268_0, r268_1, r268_3, r268_4, r268_7, r268_10, r268_11, r268_14, r268_15, r268_16, r268_17, r268_20, r268_21, r268_24, r268_25, r268_26, r268_27, r268_30, r268_31, r268_32, r268_35, r268_38, r268_39, g241, vf12_36, vf12_43, t241_43, g261, vf12_44, t241_44, g262, List.getElem?_cons_zero, List.getElem?_cons_succ, List.length_cons, List.length_nil, ag_nx, ag_dn, ag_no, ag_if, jbr1, jbr2, jc1, jc2, jnul, jld, jsto, jstoL, jst1, jst2, jkill, jinc, jbI, jbL, jbS, juI, jl2i, jcmp, jisR, jisI, jisL, jret, jretv, jfits, jdup, jdup2, jpop, jmm, jcat, Value.category, jinv, jrcv, jthr, jhd, jput, jget, jlen, jald, jast, jaast, jgI, jgL, jgB, jtab, jlku, jacp, vf20, vf21, vf22, vf23, vf24, u2_s, u2_k, u2_i, uc_s, uc_k, uc_c, u2_c, LI0, LI1, LI2, LI3, LI4, LI5, LI6, LI7, LI8, LI9, LI10, LI11, LI12, LI13, LI14, LI15, LI16, LI17, LI18, LI19, LI20, LI21, LI22, LI23, LI24, LI25, LI26, LI27, LI28, LI29, LI30, LI31, LI32, LI33, LI34, LI35, LI36, LI37, LI40, LI42, LI43, LI45, LI48, LI60, LI61, LI64, LI80, LI300, LI400, LI1000, LI2000, LI2001, LI2047, LI2048, LI100000, LI1000000, LM, nI_clamp, nI_pos', nI_lt, nI_nlt, nI_le, nI_ge, nI_ne, nI_add, nI_sub, mI_lt, mI_le, mI_nlt, mI_nle, mI_ne, mI_ne', mI_nem, h3, show k < W.1.length by omega, show k < 8 by omega, i1, i2, c1, c2, e1]
    · rw [show ((a :: as).any (fun a => decide (a.1.2.1 = p) && decide (a.1.2.2.1 = s))) = as.any (fun a => decide (a.1.2.1 = p) && decide (a.1.2.2.1 = s)) by simp [c1]]
      simp (disch := omega) [r268_0, r268_1, r268_3, r268_4, r268_7, r268_10, r268_11, r268_14, r268_15, r268_16, r268_17, r268_20, r268_21, r268_24, r268_25, r268_26, r268_27, r268_30, r268_31, r268_32, r268_35, r268_38, r268_39, g241, vf12_36, vf12_43, t241_43, g261, vf12_44, t241_44, g262, List.getElem?_cons_zero, List.getElem?_cons_succ, List.length_cons, List.length_nil, ag_nx, ag_dn, ag_no, ag_if, jbr1, jbr2, jc1, jc2, jnul, jld, jsto, jstoL, jst1, jst2, jkill, jinc, jbI, jbL, jbS, juI, jl2i, jcmp, jisR, jisI, jisL, jret, jretv, jfits, jdup, jdup2, jpop, jmm, jcat, Value.category, jinv, jrcv, jthr, jhd, jput, jget, jlen, jald, jast, jaast, jgI, jgL, jgB, jtab, jlku, jacp, vf20, vf21, vf22, vf23, vf24, u2_s, u2_k, u2_i, uc_s, uc_k, uc_c, u2_c, LI0, LI1, LI2, LI3, LI4, LI5, LI6, LI7, LI8, LI9, LI10, LI11, LI12, LI13, LI14, LI15, LI16, LI17, LI18, LI19, LI20, LI21, LI22, LI23, LI24, LI25, LI26, LI27, LI28, LI29, LI30, LI31, LI32, LI33, LI34, LI35, LI36, LI37, LI40, LI42, LI43, LI45, LI48, LI60, LI61, LI64, LI80, LI300, LI400, LI1000, LI2000, LI2001, LI2047, LI2048, LI100000, LI1000000, LM, nI_clamp, nI_pos', nI_lt, nI_nlt, nI_le, nI_ge, nI_ne, nI_add, nI_sub, mI_lt, mI_le, mI_nlt, mI_nle, mI_ne, mI_ne', mI_nem, h3, show k < W.1.length by omega, show k < 8 by omega, i1, i2, c1, e1]
/-- isThere -/
theorem r268 {I : Nat → Nat → Int32} {p s : Int32} (hW : wR rN I l W) : jcall A jcode (d + 1) 268 [.ref (b + 241), .int p, .int s] (jH h b X I J R n) = some (.inl (some (.int (if W.1.any (fun a => decide (a.1.2.1 = p) && decide (a.1.2.2.1 = s)) = true then nI 1 else nI 0))), jH h b X I J R n) := by
  have e := r268l (A := A) (d := d) (b := b) (h := h) (X := X) (J := J) (R := R) (n := n) (p := p) (s := s) hW W.1 0 (by omega) (fun j a hj => by rw [Nat.zero_add]; exact hj)
  simp (disch := omega) [je268, r268_0, r268_1, r268_3, r268_4, r268_7, r268_10, r268_11, r268_14, r268_15, r268_16, r268_17, r268_20, r268_21, r268_24, r268_25, r268_26, r268_27, r268_30, r268_31, r268_32, r268_35, r268_38, r268_39, g241, vf12_36, vf12_43, t241_43, g261, vf12_44, t241_44, g262, List.getElem?_cons_zero, List.getElem?_cons_succ, List.length_cons, List.length_nil, ag_nx, ag_dn, ag_no, ag_if, jbr1, jbr2, jc1, jc2, jnul, jld, jsto, jstoL, jst1, jst2, jkill, jinc, jbI, jbL, jbS, juI, jl2i, jcmp, jisR, jisI, jisL, jret, jretv, jfits, jdup, jdup2, jpop, jmm, jcat, Value.category, jinv, jrcv, jthr, jhd, jput, jget, jlen, jald, jast, jaast, jgI, jgL, jgB, jtab, jlku, jacp, vf20, vf21, vf22, vf23, vf24, u2_s, u2_k, u2_i, uc_s, uc_k, uc_c, u2_c, LI0, LI1, LI2, LI3, LI4, LI5, LI6, LI7, LI8, LI9, LI10, LI11, LI12, LI13, LI14, LI15, LI16, LI17, LI18, LI19, LI20, LI21, LI22, LI23, LI24, LI25, LI26, LI27, LI28, LI29, LI30, LI31, LI32, LI33, LI34, LI35, LI36, LI37, LI40, LI42, LI43, LI45, LI48, LI60, LI61, LI64, LI80, LI300, LI400, LI1000, LI2000, LI2001, LI2047, LI2048, LI100000, LI1000000, LM, nI_clamp, nI_pos', nI_lt, nI_nlt, nI_le, nI_ge, nI_ne, nI_add, nI_sub, mI_lt, mI_le, mI_nlt, mI_nle, mI_ne, mI_ne', mI_nem, e]
theorem aFi_all {f : aI Nm → Bool} : ∀ (as : List (aI Nm)) (k : Nat), (aFi f as k = none) ↔ as.all (fun a => !f a) = true := by
  intro as
  induction as with
  | nil => intro k; simp [aFi]
  | cons a as ih =>
    intro k
    unfold aFi
    cases hf : f a with
    | true => simp [hf]
    | false => simp [hf, ih]
/-- nothing but what is kept of a turn and of a timer -/
def onPQ (I I' : Nat → Nat → Int32) : Prop := (∀ c i, c ≠ 241 → I' c i = I c i) ∧ ∀ i, i < 69 ∨ 74 < i → I' 241 i = I 241 i
theorem onPQ_refl {I : Nat → Nat → Int32} : onPQ I I := ⟨fun _ _ _ => rfl, fun _ _ => rfl⟩
theorem onPQ_P {I I' : Nat → Nat → Int32} (h : onP I I') : onPQ I I' := ⟨h.1, fun i hi => h.2 i (by omega)⟩
theorem onPQ_Q {I I' : Nat → Nat → Int32} (h : onQ I I') : onPQ I I' := ⟨h.1, fun i hi => h.2 i (by omega)⟩
theorem onPQ_trans {I I1 I2 : Nat → Nat → Int32} (h : onPQ I I1) (h2 : onPQ I1 I2) : onPQ I I2 := ⟨fun c i hc => (h2.1 c i hc).trans (h.1 c i hc), fun i hi => (h2.2 i hi).trans (h.2 i hi)⟩
theorem wR_onPQ {I I' : Nat → Nat → Int32} (ho : onPQ I I') (h : wR rN I l W) : wR rN I' l W := ⟨wB_fr (fun c i h1 h2 => ho.1 c i (by omega)) (ho.2 36 (by omega)) h.1, tR_fr (fun c i h1 h2 => ho.1 c i (by omega)) (fun i h1 h2 => ho.2 i (by omega)) h.2⟩
/-- isStuck -/
theorem r269 {I : Nat → Nat → Int32} (hj : ∀ x y, rN x = rN y → x = y) (hpl : plR X I N M) (hvN : vN N M np) (hW : wR rN I l W) (ok : okL W.1) (hok : okW N np B W) (hB : B + 8 < 2 ^ 31) (hD : D + 1000000 < 2 ^ 31 - 1) (hd : okD D W) : ∃ I', jcall A jcode (d + 4 + ED) 269 [.ref (b + 241)] (jH h b X I J R n) = some (.inl (some (.int (if ((aDue W.1 0 none).isNone && W.1.all (fun a => decide ((aPlan rN N W.2.1.2.1 a).1 = 0))) = true then nI 1 else nI 0))), jH h b X I' J R n) ∧ onPQ I I' := by
  obtain ⟨I1, e1, o1⟩ := rAble (A := A) (d := d) (b := b) (h := h) (X := X) (I := I) (J := J) (R := R) (n := n) (lst := -1) hj hpl hvN hW hok
  rw [aFi_m1 hB hok] at e1
  have hall : W.1.all (fun a => decide ((aPlan rN N W.2.1.2.1 a).1 = 0)) = W.1.all (fun a => !aAble rN N W.2.1.2.1 a) := by
    congr 1
    funext a
    unfold aAble
    by_cases c : (aPlan rN N W.2.1.2.1 a).1 = 0
    · simp [c]
    · simp [c]
  rw [hall]
  have hde : d + 4 + ED = (d + 3 + ED) + 1 := by omega
  rw [hde]
  cases hf : aFi (aAble rN N W.2.1.2.1) W.1 0 with
  | some k =>
    rw [hf] at e1
    simp only [inO] at e1
    obtain ⟨a, ha, _⟩ := aFi_at W.1 0 (fun j => by rw [Nat.zero_add]) _ hf
    have k8 : k < 8 := by have := lt_of_some ha; have := hW.1.1; omega
    have hn : ¬ W.1.all (fun a => !aAble rN N W.2.1.2.1 a) = true := fun z => by
      rw [(aFi_all W.1 0).mpr z] at hf
      cases hf
    refine ⟨I1, ?_, onPQ_P o1⟩
    rw [if_neg (fun z => hn ((Bool.and_eq_true _ _).mp z).2)]
    simp only [LI0, LI1, LI2, LI3, LI4, LI5, LI6, LI7, LI8, LI9, LI10, LI11, LI12, LI13, LI14, LI15, LI16, LI17, LI18, LI19, LI20, LI21, LI22, LI23, LI24, LI25, LI26, LI27, LI28, LI29, LI30, LI31, LI32, LI33, LI34, LI35, LI36, LI37, LI40, LI42, LI43, LI45, LI48, LI60, LI61, LI64, LI80, LI300, LI400, LI1000, LI2000, LI2001, LI2047, LI2048, LI100000, LI1000000, LM] at e1
    simp (disch := omega) [je269, r269_0, r269_1, r269_2, r269_5, r269_8, r269_9, r269_12, r269_15, r269_16, r269_19, r269_20, qa254, qo254, g241, qa240, qo240, List.getElem?_cons_zero, List.getElem?_cons_succ, List.length_cons, List.length_nil, ag_nx, ag_dn, ag_no, ag_if, jbr1, jbr2, jc1, jc2, jnul, jld, jsto, jstoL, jst1, jst2, jkill, jinc, jbI, jbL, jbS, juI, jl2i, jcmp, jisR, jisI, jisL, jret, jretv, jfits, jdup, jdup2, jpop, jmm, jcat, Value.category, jinv, jrcv, jthr, jhd, jput, jget, jlen, jald, jast, jaast, jgI, jgL, jgB, jtab, jlku, jacp, vf20, vf21, vf22, vf23, vf24, u2_s, u2_k, u2_i, uc_s, uc_k, uc_c, u2_c, LI0, LI1, LI2, LI3, LI4, LI5, LI6, LI7, LI8, LI9, LI10, LI11, LI12, LI13, LI14, LI15, LI16, LI17, LI18, LI19, LI20, LI21, LI22, LI23, LI24, LI25, LI26, LI27, LI28, LI29, LI30, LI31, LI32, LI33, LI34, LI35, LI36, LI37, LI40, LI42, LI43, LI45, LI48, LI60, LI61, LI64, LI80, LI300, LI400, LI1000, LI2000, LI2001, LI2047, LI2048, LI100000, LI1000000, LM, nI_clamp, nI_pos', nI_lt, nI_nlt, nI_le, nI_ge, nI_ne, nI_add, nI_sub, mI_lt, mI_le, mI_nlt, mI_nle, mI_ne, mI_ne', mI_nem, e1]
  | none =>
    rw [hf] at e1
    simp only [inO] at e1
    simp only [LI0, LI1, LI2, LI3, LI4, LI5, LI6, LI7, LI8, LI9, LI10, LI11, LI12, LI13, LI14, LI15, LI16, LI17, LI18, LI19, LI20, LI21, LI22, LI23, LI24, LI25, LI26, LI27, LI28, LI29, LI30, LI31, LI32, LI33, LI34, LI35, LI36, LI37, LI40, LI42, LI43, LI45, LI48, LI60, LI61, LI64, LI80, LI300, LI400, LI1000, LI2000, LI2001, LI2047, LI2048, LI100000, LI1000000, LM] at e1
    obtain ⟨I2, e2, o2, _⟩ := rFind (A := A) (d := d + 2 + ED) (b := b) (h := h) (X := X) (I := I1) (J := J) (R := R) (n := n) (wR_onP o1 hW) ok hD hd
    have hde2 : d + 2 + ED + 1 = d + 3 + ED := by omega
    rw [hde2] at e2
    have hy : W.1.all (fun a => !aAble rN N W.2.1.2.1 a) = true := (aFi_all W.1 0).mp hf
    refine ⟨I2, ?_, onPQ_trans (onPQ_P o1) (onPQ_Q o2)⟩
    rw [hy, Bool.and_true]
    cases hd' : aDue W.1 0 none with
    | none =>
      rw [hd'] at e2
      simp only [Option.isSome_none] at e2
      simp (disch := omega) [je269, r269_0, r269_1, r269_2, r269_5, r269_8, r269_9, r269_12, r269_15, r269_16, r269_19, r269_20, qa254, qo254, g241, qa240, qo240, List.getElem?_cons_zero, List.getElem?_cons_succ, List.length_cons, List.length_nil, ag_nx, ag_dn, ag_no, ag_if, jbr1, jbr2, jc1, jc2, jnul, jld, jsto, jstoL, jst1, jst2, jkill, jinc, jbI, jbL, jbS, juI, jl2i, jcmp, jisR, jisI, jisL, jret, jretv, jfits, jdup, jdup2, jpop, jmm, jcat, Value.category, jinv, jrcv, jthr, jhd, jput, jget, jlen, jald, jast, jaast, jgI, jgL, jgB, jtab, jlku, jacp, vf20, vf21, vf22, vf23, vf24, u2_s, u2_k, u2_i, uc_s, uc_k, uc_c, u2_c, LI0, LI1, LI2, LI3, LI4, LI5, LI6, LI7, LI8, LI9, LI10, LI11, LI12, LI13, LI14, LI15, LI16, LI17, LI18, LI19, LI20, LI21, LI22, LI23, LI24, LI25, LI26, LI27, LI28, LI29, LI30, LI31, LI32, LI33, LI34, LI35, LI36, LI37, LI40, LI42, LI43, LI45, LI48, LI60, LI61, LI64, LI80, LI300, LI400, LI1000, LI2000, LI2001, LI2047, LI2048, LI100000, LI1000000, LM, nI_clamp, nI_pos', nI_lt, nI_nlt, nI_le, nI_ge, nI_ne, nI_add, nI_sub, mI_lt, mI_le, mI_nlt, mI_nle, mI_ne, mI_ne', mI_nem, e1, e2]
    | some y =>
      rw [hd'] at e2
      simp only [Option.isSome_some, if_true] at e2
      simp (disch := omega) [je269, r269_0, r269_1, r269_2, r269_5, r269_8, r269_9, r269_12, r269_15, r269_16, r269_19, r269_20, qa254, qo254, g241, qa240, qo240, List.getElem?_cons_zero, List.getElem?_cons_succ, List.length_cons, List.length_nil, ag_nx, ag_dn, ag_no, ag_if, jbr1, jbr2, jc1, jc2, jnul, jld, jsto, jstoL, jst1, jst2, jkill, jinc, jbI, jbL, jbS, juI, jl2i, jcmp, jisR, jisI, jisL, jret, jretv, jfits, jdup, jdup2, jpop, jmm, jcat, Value.category, jinv, jrcv, jthr, jhd, jput, jget, jlen, jald, jast, jaast, jgI, jgL, jgB, jtab, jlku, jacp, vf20, vf21, vf22, vf23, vf24, u2_s, u2_k, u2_i, uc_s, uc_k, uc_c, u2_c, LI0, LI1, LI2, LI3, LI4, LI5, LI6, LI7, LI8, LI9, LI10, LI11, LI12, LI13, LI14, LI15, LI16, LI17, LI18, LI19, LI20, LI21, LI22, LI23, LI24, LI25, LI26, LI27, LI28, LI29, LI30, LI31, LI32, LI33, LI34, LI35, LI36, LI37, LI40, LI42, LI43, LI45, LI48, LI60, LI61, LI64, LI80, LI300, LI400, LI1000, LI2000, LI2001, LI2047, LI2048, LI100000, LI1000000, LM, nI_clamp, nI_pos', nI_lt, nI_nlt, nI_le, nI_ge, nI_ne, nI_add, nI_sub, mI_lt, mI_le, mI_nlt, mI_nle, mI_ne, mI_ne', mI_nem, e1, e2]
/-- where entries come from, at the reference -/
def oE3 (I : Nat → Nat → Int32) (E : List bE) : Prop := ∀ (e : Nat) (x : bE), E[e]? = some x → I 284 e = x.2.1 ∧ I 285 e = x.2.2
def b00 (E : List bE) : Prop := ∀ x, E[0]? = some x → x.2.1 = mI 1
theorem r271a (hE : bOr E) (h0 : b00 E) (hl : E.length ≤ 1000) {m0 : Int32} {c3 : Option Value} : ∀ (r a c : Nat) (I : Nat → Nat → Int32), oE3 I E → I 241 81 = nI c → a ≤ r → a < E.length → c + (bPt E r a).length ≤ 1000 → M271 A d 7 [some (.ref (b + 241)), some (.int m0), some (.int (nI a)), c3] [] (jH h b X I J R n) = M271 A d 36 [some (.ref (b + 241)), some (.int m0), some (.int (nI 0)), c3] [] (jH h b X (u2 I 241 81 (nI (c + (bPt E r a).length))) J R n) := by
  have z0 : ∀ (r c : Nat) (I : Nat → Nat → Int32), oE3 I E → I 241 81 = nI c → 0 < E.length → M271 A d 7 [some (.ref (b + 241)), some (.int m0), some (.int (nI 0)), c3] [] (jH h b X I J R n) = M271 A d 36 [some (.ref (b + 241)), some (.int m0), some (.int (nI 0)), c3] [] (jH h b X (u2 I 241 81 (nI (c + (bPt E r 0).length))) J R n) := fun r c I ho hc hl0 => by
    have hx := List.getElem?_eq_getElem hl0
    have o := (ho 0 _ hx).1.trans (h0 _ hx)
    rw [bPt_0, u2_same (by rw [hc]; rfl)]
    conv => lhs; rw [r271_7]
    simp (disch := omega) [r271_0, r271_1, r271_2, r271_5, r271_6, r271_8, r271_11, r271_12, r271_13, r271_16, r271_17, r271_18, r271_21, r271_22, r271_23, r271_26, r271_27, r271_30, r271_31, r271_32, r271_33, r271_37, r271_40, r271_41, r271_42, r271_43, r271_44, r271_47, r271_48, r271_49, r271_52, r271_55, r271_56, r271_59, r271_60, r271_61, r271_64, r271_65, r271_66, r271_67, r271_68, r271_71, r271_72, r271_73, r271_74, r271_77, g241, p241_81, ty12_81, vf12_77, t241_77, g284, p284, vf12_81, vf12_79, t241_79, g286, p286, vf12_78, t241_78, g285, p285, List.getElem?_cons_zero, List.getElem?_cons_succ, List.length_cons, List.length_nil, ag_nx, ag_dn, ag_no, ag_if, jbr1, jbr2, jc1, jc2, jnul, jld, jsto, jstoL, jst1, jst2, jkill, jinc, jbI, jbL, jbS, juI, jl2i, jcmp, jisR, jisI, jisL, jret, jretv, jfits, jdup, jdup2, jpop, jmm, jcat, Value.category, jinv, jrcv, jthr, jhd, jput, jget, jlen, jald, jast, jaast, jgI, jgL, jgB, jtab, jlku, jacp, vf20, vf21, vf22, vf23, vf24, u2_s, u2_k, u2_i, uc_s, uc_k, uc_c, u2_c, LI0, LI1, LI2, LI3, LI4, LI5, LI6, LI7, LI8, LI9, LI10, LI11, LI12, LI13, LI14, LI15, LI16, LI17, LI18, LI19, LI20, LI21, LI22, LI23, LI24, LI25, LI26, LI27, LI28, LI29, LI30, LI31, LI32, LI33, LI34, LI35, LI36, LI37, LI40, LI42, LI43, LI45, LI48, LI60, LI61, LI64, LI80, LI300, LI400, LI1000, LI2000, LI2001, LI2047, LI2048, LI100000, LI1000000, LM, nI_clamp, nI_pos', nI_lt, nI_nlt, nI_le, nI_ge, nI_ne, nI_add, nI_sub, mI_lt, mI_le, mI_nlt, mI_nle, mI_ne, mI_ne', mI_nem, LI370, LI435, LI64, LI31, LI61, o]
  intro r
  induction r with
  | zero =>
    intro a c I ho hc h1 h2 h3
    have : a = 0 := by omega
    subst this
    exact z0 0 c I ho hc h2
  | succ r ih =>
    intro a c I ho hc h1 h2 h3
    by_cases ca : a = 0
    · subst ca
      exact z0 (r + 1) c I ho hc h2
    · have hx := List.getElem?_eq_getElem h2
      obtain ⟨j, hj, ej⟩ := hE a _ hx (by omega)
      have hp := bPt_s (r := r) hx ca ej (by omega)
      have o := (ho a _ hx).1.trans ej
      rw [hp, List.length_append] at h3 ⊢
      have h3' : c + ((bPt E r j).length + 1) ≤ 1000 := h3
      have e := ih j (c + 1) (u2 I 241 81 (nI (c + 1))) (fun e x hx => by rw [u2_k (by omega), u2_k (by omega)]; exact ho e x hx) u2_s (by omega) (by omega) (by omega)
      rw [u2_2, show c + 1 + (bPt E r j).length = c + ((bPt E r j).length + [E[a].2.2].length) by simp only [List.length_cons, List.length_nil]; omega] at e
      conv => lhs; rw [r271_7]
      simp (disch := omega) [r271_0, r271_1, r271_2, r271_5, r271_6, r271_8, r271_11, r271_12, r271_13, r271_16, r271_17, r271_18, r271_21, r271_22, r271_23, r271_26, r271_27, r271_30, r271_31, r271_32, r271_33, r271_37, r271_40, r271_41, r271_42, r271_43, r271_44, r271_47, r271_48, r271_49, r271_52, r271_55, r271_56, r271_59, r271_60, r271_61, r271_64, r271_65, r271_66, r271_67, r271_68, r271_71, r271_72, r271_73, r271_74, r271_77, g241, p241_81, ty12_81, vf12_77, t241_77, g284, p284, vf12_81, vf12_79, t241_79, g286, p286, vf12_78, t241_78, g285, p285, List.getElem?_cons_zero, List.getElem?_cons_succ, List.length_cons, List.length_nil, ag_nx, ag_dn, ag_no, ag_if, jbr1, jbr2, jc1, jc2, jnul, jld, jsto, jstoL, jst1, jst2, jkill, jinc, jbI, jbL, jbS, juI, jl2i, jcmp, jisR, jisI, jisL, jret, jretv, jfits, jdup, jdup2, jpop, jmm, jcat, Value.category, jinv, jrcv, jthr, jhd, jput, jget, jlen, jald, jast, jaast, jgI, jgL, jgB, jtab, jlku, jacp, vf20, vf21, vf22, vf23, vf24, u2_s, u2_k, u2_i, uc_s, uc_k, uc_c, u2_c, LI0, LI1, LI2, LI3, LI4, LI5, LI6, LI7, LI8, LI9, LI10, LI11, LI12, LI13, LI14, LI15, LI16, LI17, LI18, LI19, LI20, LI21, LI22, LI23, LI24, LI25, LI26, LI27, LI28, LI29, LI30, LI31, LI32, LI33, LI34, LI35, LI36, LI37, LI40, LI42, LI43, LI45, LI48, LI60, LI61, LI64, LI80, LI300, LI400, LI1000, LI2000, LI2001, LI2047, LI2048, LI100000, LI1000000, LM, nI_clamp, nI_pos', nI_lt, nI_nlt, nI_le, nI_ge, nI_ne, nI_add, nI_sub, mI_lt, mI_le, mI_nlt, mI_nle, mI_ne, mI_ne', mI_nem, LI370, LI435, LI64, LI31, LI61, o, hc, show a < 1002 by omega, e]
theorem r271b (hE : bOr E) (h0 : b00 E) (hl : E.length ≤ 1000) {m0 : Int32} : ∀ (r a : Nat) (I : Nat → Nat → Int32), oE3 I E → a ≤ r → a < E.length → (bPt E r a).length ≤ 1000 → ∃ I', M271 A d 43 [some (.ref (b + 241)), some (.int m0), some (.int (nI (bPt E r a).length)), some (.int (nI a))] [] (jH h b X I J R n) = some (.inl none, jH h b X I' J R n) ∧ (∀ c j, c ≠ 286 → I' c j = I c j) ∧ (∀ j, (bPt E r a).length ≤ j → I' 286 j = I 286 j) ∧ ∀ j, j < (bPt E r a).length → (bPt E r a)[j]? = some (I' 286 j) := by
  have z0 : ∀ (r : Nat) (I : Nat → Nat → Int32), oE3 I E → 0 < E.length → ∃ I', M271 A d 43 [some (.ref (b + 241)), some (.int m0), some (.int (nI (bPt E r 0).length)), some (.int (nI 0))] [] (jH h b X I J R n) = some (.inl none, jH h b X I' J R n) ∧ (∀ c j, c ≠ 286 → I' c j = I c j) ∧ (∀ j, (bPt E r 0).length ≤ j → I' 286 j = I 286 j) ∧ ∀ j, j < (bPt E r 0).length → (bPt E r 0)[j]? = some (I' 286 j) := fun r I ho hl0 => by
    have hx := List.getElem?_eq_getElem hl0
    have o := (ho 0 _ hx).1.trans (h0 _ hx)
    refine ⟨I, ?_, fun _ _ _ => rfl, fun _ _ => rfl, fun j hj => ?_⟩
    · rw [bPt_0]
      conv => lhs; rw [r271_43]
      simp (disch := omega) [r271_0, r271_1, r271_2, r271_5, r271_6, r271_7, r271_8, r271_11, r271_12, r271_13, r271_16, r271_17, r271_18, r271_21, r271_22, r271_23, r271_26, r271_27, r271_30, r271_31, r271_32, r271_33, r271_36, r271_37, r271_40, r271_41, r271_42, r271_44, r271_47, r271_48, r271_49, r271_52, r271_55, r271_56, r271_59, r271_60, r271_61, r271_64, r271_65, r271_66, r271_67, r271_68, r271_71, r271_72, r271_73, r271_74, r271_77, g241, p241_81, ty12_81, vf12_77, t241_77, g284, p284, vf12_81, vf12_79, t241_79, g286, p286, vf12_78, t241_78, g285, p285, List.getElem?_cons_zero, List.getElem?_cons_succ, List.length_cons, List.length_nil, ag_nx, ag_dn, ag_no, ag_if, jbr1, jbr2, jc1, jc2, jnul, jld, jsto, jstoL, jst1, jst2, jkill, jinc, jbI, jbL, jbS, juI, jl2i, jcmp, jisR, jisI, jisL, jret, jretv, jfits, jdup, jdup2, jpop, jmm, jcat, Value.category, jinv, jrcv, jthr, jhd, jput, jget, jlen, jald, jast, jaast, jgI, jgL, jgB, jtab, jlku, jacp, vf20, vf21, vf22, vf23, vf24, u2_s, u2_k, u2_i, uc_s, uc_k, uc_c, u2_c, LI0, LI1, LI2, LI3, LI4, LI5, LI6, LI7, LI8, LI9, LI10, LI11, LI12, LI13, LI14, LI15, LI16, LI17, LI18, LI19, LI20, LI21, LI22, LI23, LI24, LI25, LI26, LI27, LI28, LI29, LI30, LI31, LI32, LI33, LI34, LI35, LI36, LI37, LI40, LI42, LI43, LI45, LI48, LI60, LI61, LI64, LI80, LI300, LI400, LI1000, LI2000, LI2001, LI2047, LI2048, LI100000, LI1000000, LM, nI_clamp, nI_pos', nI_lt, nI_nlt, nI_le, nI_ge, nI_ne, nI_add, nI_sub, mI_lt, mI_le, mI_nlt, mI_nle, mI_ne, mI_ne', mI_nem, LI370, LI435, LI64, LI31, LI61, o]
    · rw [bPt_0] at hj; simp at hj
  intro r
  induction r with
  | zero =>
    intro a I ho h1 h2 h3
    have : a = 0 := by omega
    subst this
    exact z0 0 I ho h2
  | succ r ih =>
    intro a I ho h1 h2 h3
    by_cases c : a = 0
    · subst c
      exact z0 (r + 1) I ho h2
    · have hx := List.getElem?_eq_getElem h2
      obtain ⟨j, hj, ej⟩ := hE a _ hx (by omega)
      have hp := bPt_s (r := r) hx c ej (by omega)
      obtain ⟨o4, o5⟩ := ho a _ hx
      have o4' : I 284 a = nI j := o4.trans ej
      rw [hp, List.length_append] at h3 ⊢
      have h3' : (bPt E r j).length + 1 ≤ 1000 := h3
      obtain ⟨I1, e1, k1, q1, v1⟩ := ih j (u2 I 286 (bPt E r j).length (I 285 a)) (fun e x hx => by rw [u2_k (by omega), u2_k (by omega)]; exact ho e x hx) (by omega) (by omega) (by omega)
      refine ⟨I1, ?_, fun c j hc => (k1 c j hc).trans (u2_k hc), fun i hi => ?_, fun i hi => ?_⟩
      · have ed : nI ((bPt E r j).length + 1) + mI 1 = nI (bPt E r j).length := by
          have : nI ((bPt E r j).length + 1) = nI (bPt E r j).length + nI 1 := (nI_add _ _).symm
          rw [this, Int32.add_assoc]
          have : nI 1 + mI 1 = 0 := by decide
          rw [this, Int32.add_zero]
        conv => lhs; rw [r271_43]
        simp (disch := omega) [r271_0, r271_1, r271_2, r271_5, r271_6, r271_7, r271_8, r271_11, r271_12, r271_13, r271_16, r271_17, r271_18, r271_21, r271_22, r271_23, r271_26, r271_27, r271_30, r271_31, r271_32, r271_33, r271_36, r271_37, r271_40, r271_41, r271_42, r271_44, r271_47, r271_48, r271_49, r271_52, r271_55, r271_56, r271_59, r271_60, r271_61, r271_64, r271_65, r271_66, r271_67, r271_68, r271_71, r271_72, r271_73, r271_74, r271_77, g241, p241_81, ty12_81, vf12_77, t241_77, g284, p284, vf12_81, vf12_79, t241_79, g286, p286, vf12_78, t241_78, g285, p285, List.getElem?_cons_zero, List.getElem?_cons_succ, List.length_cons, List.length_nil, ag_nx, ag_dn, ag_no, ag_if, jbr1, jbr2, jc1, jc2, jnul, jld, jsto, jstoL, jst1, jst2, jkill, jinc, jbI, jbL, jbS, juI, jl2i, jcmp, jisR, jisI, jisL, jret, jretv, jfits, jdup, jdup2, jpop, jmm, jcat, Value.category, jinv, jrcv, jthr, jhd, jput, jget, jlen, jald, jast, jaast, jgI, jgL, jgB, jtab, jlku, jacp, vf20, vf21, vf22, vf23, vf24, u2_s, u2_k, u2_i, uc_s, uc_k, uc_c, u2_c, LI0, LI1, LI2, LI3, LI4, LI5, LI6, LI7, LI8, LI9, LI10, LI11, LI12, LI13, LI14, LI15, LI16, LI17, LI18, LI19, LI20, LI21, LI22, LI23, LI24, LI25, LI26, LI27, LI28, LI29, LI30, LI31, LI32, LI33, LI34, LI35, LI36, LI37, LI40, LI42, LI43, LI45, LI48, LI60, LI61, LI64, LI80, LI300, LI400, LI1000, LI2000, LI2001, LI2047, LI2048, LI100000, LI1000000, LM, nI_clamp, nI_pos', nI_lt, nI_nlt, nI_le, nI_ge, nI_ne, nI_add, nI_sub, mI_lt, mI_le, mI_nlt, mI_nle, mI_ne, mI_ne', mI_nem, LI370, LI435, LI64, LI31, LI61, o4', ed, show a < 1002 by omega, show (bPt E r j).length < 1002 by omega, e1]
      · have hi' : (bPt E r j).length + 1 ≤ i := hi
        rw [q1 i (by omega), u2_i (by omega)]
      · have hi' : i < (bPt E r j).length + 1 := hi
        by_cases ci : i < (bPt E r j).length
        · rw [List.getElem?_append_left ci]
          exact v1 i ci
        · have : i = (bPt E r j).length := by omega
          subst this
          rw [List.getElem?_append_right (Nat.le_refl _), q1 _ (Nat.le_refl _), u2_s, Nat.sub_self, o5]
          rfl
/-- tell: the row up to entry i, and dd -/
theorem r271 {I : Nat → Nat → Int32} {i m : Nat} {dd : Int32} (hE : bOr E) (h0 : b00 E) (hl : E.length ≤ 1000) (ho : oE3 I E) (hi : i < E.length) (hm : m ≤ 1000) (h4 : I 284 m = nI i) (h5 : I 285 m = dd) : ∃ I', jcall A jcode (d + 1) 271 [.ref (b + 241), .int (nI m)] (jH h b X I J R n) = some (.inl none, jH h b X I' J R n) ∧ (∀ c j, c ≠ 286 → ¬ (c = 241 ∧ j = 81) → I' c j = I c j) ∧ I' 241 81 = nI (bRw E i dd).length ∧ (bRw E i dd).length ≤ 1000 ∧ ∀ j, j < (bRw E i dd).length → (bRw E i dd)[j]? = some (I' 286 j) := by
  have hq := bPt_len hE hl 1000 i hi
  have e1 := r271a (A := A) (d := d) (b := b) (h := h) (X := X) (J := J) (R := R) (n := n) (m0 := nI m) (c3 := none) hE h0 hl 1000 i 1 (u2 (u2 I 241 81 (nI 0)) 241 81 (nI 1)) (fun e x hx => by rw [u2_k (by omega), u2_k (by omega), u2_k (by omega), u2_k (by omega)]; exact ho e x hx) u2_s (by omega) hi (by omega)
  rw [u2_2, u2_2] at e1
  obtain ⟨I1, e2, k1, q1, v1⟩ := r271b (A := A) (d := d) (b := b) (h := h) (X := X) (J := J) (R := R) (n := n) (m0 := nI m) hE h0 hl 1000 i (u2 (u2 I 241 81 (nI (1 + (bPt E 1000 i).length))) 286 (bPt E 1000 i).length dd) (fun e x hx => by rw [u2_k (by omega), u2_k (by omega), u2_k (by omega), u2_k (by omega)]; exact ho e x hx) (by omega) hi (by omega)
  have hlen : (bRw E i dd).length = (bPt E 1000 i).length + 1 := by unfold bRw; rw [List.length_append]; rfl
  refine ⟨I1, ?_, fun c j h1 h2 => ?_, ?_, by omega, fun j hj => ?_⟩
  · have ed : nI (1 + (bPt E 1000 i).length) + mI 1 = nI (bPt E 1000 i).length := by
      rw [Nat.add_comm]
      have : nI ((bPt E 1000 i).length + 1) = nI (bPt E 1000 i).length + nI 1 := (nI_add _ _).symm
      rw [this, Int32.add_assoc]
      have : nI 1 + mI 1 = 0 := by decide
      rw [this, Int32.add_zero]
    have s1 : M271 A d 0 [some (.ref (b + 241)), some (.int (nI m)), none, none] [] (jH h b X I J R n) = M271 A d 7 [some (.ref (b + 241)), some (.int (nI m)), some (.int (nI i)), none] [] (jH h b X (u2 I 241 81 (nI 1)) J R n) := by
      simp (disch := omega) [r271_0, r271_1, r271_2, r271_5, r271_6, r271_8, r271_11, r271_12, r271_13, r271_16, r271_17, r271_18, r271_21, r271_22, r271_23, r271_26, r271_27, r271_30, r271_31, r271_32, r271_33, r271_36, r271_37, r271_40, r271_41, r271_42, r271_43, r271_44, r271_47, r271_48, r271_49, r271_52, r271_55, r271_56, r271_59, r271_60, r271_61, r271_64, r271_65, r271_66, r271_67, r271_68, r271_71, r271_72, r271_73, r271_74, r271_77, g241, p241_81, ty12_81, vf12_77, t241_77, g284, p284, vf12_81, vf12_79, t241_79, g286, p286, vf12_78, t241_78, g285, p285, List.getElem?_cons_zero, List.getElem?_cons_succ, List.length_cons, List.length_nil, ag_nx, ag_dn, ag_no, ag_if, jbr1, jbr2, jc1, jc2, jnul, jld, jsto, jstoL, jst1, jst2, jkill, jinc, jbI, jbL, jbS, juI, jl2i, jcmp, jisR, jisI, jisL, jret, jretv, jfits, jdup, jdup2, jpop, jmm, jcat, Value.category, jinv, jrcv, jthr, jhd, jput, jget, jlen, jald, jast, jaast, jgI, jgL, jgB, jtab, jlku, jacp, vf20, vf21, vf22, vf23, vf24, u2_s, u2_k, u2_i, uc_s, uc_k, uc_c, u2_c, LI0, LI1, LI2, LI3, LI4, LI5, LI6, LI7, LI8, LI9, LI10, LI11, LI12, LI13, LI14, LI15, LI16, LI17, LI18, LI19, LI20, LI21, LI22, LI23, LI24, LI25, LI26, LI27, LI28, LI29, LI30, LI31, LI32, LI33, LI34, LI35, LI36, LI37, LI40, LI42, LI43, LI45, LI48, LI60, LI61, LI64, LI80, LI300, LI400, LI1000, LI2000, LI2001, LI2047, LI2048, LI100000, LI1000000, LM, nI_clamp, nI_pos', nI_lt, nI_nlt, nI_le, nI_ge, nI_ne, nI_add, nI_sub, mI_lt, mI_le, mI_nlt, mI_nle, mI_ne, mI_ne', mI_nem, LI370, LI435, LI64, LI31, LI61]
      conv => lhs; rw [r271_7]
      simp (disch := omega) [r271_0, r271_1, r271_2, r271_5, r271_6, r271_8, r271_11, r271_12, r271_13, r271_16, r271_17, r271_18, r271_21, r271_22, r271_23, r271_26, r271_27, r271_30, r271_31, r271_32, r271_33, r271_36, r271_37, r271_40, r271_41, r271_42, r271_43, r271_44, r271_47, r271_48, r271_49, r271_52, r271_55, r271_56, r271_59, r271_60, r271_61, r271_64, r271_65, r271_66, r271_67, r271_68, r271_71, r271_72, r271_73, r271_74, r271_77, g241, p241_81, ty12_81, vf12_77, t241_77, g284, p284, vf12_81, vf12_79, t241_79, g286, p286, vf12_78, t241_78, g285, p285, List.getElem?_cons_zero, List.getElem?_cons_succ, List.length_cons, List.length_nil, ag_nx, ag_dn, ag_no, ag_if, jbr1, jbr2, jc1, jc2, jnul, jld, jsto, jstoL, jst1, jst2, jkill, jinc, jbI, jbL, jbS, juI, jl2i, jcmp, jisR, jisI, jisL, jret, jretv, jfits, jdup, jdup2, jpop, jmm, jcat, Value.category, jinv, jrcv, jthr, jhd, jput, jget, jlen, jald, jast, jaast, jgI, jgL, jgB, jtab, jlku, jacp, vf20, vf21, vf22, vf23, vf24, u2_s, u2_k, u2_i, uc_s, uc_k, uc_c, u2_c, LI0, LI1, LI2, LI3, LI4, LI5, LI6, LI7, LI8, LI9, LI10, LI11, LI12, LI13, LI14, LI15, LI16, LI17, LI18, LI19, LI20, LI21, LI22, LI23, LI24, LI25, LI26, LI27, LI28, LI29, LI30, LI31, LI32, LI33, LI34, LI35, LI36, LI37, LI40, LI42, LI43, LI45, LI48, LI60, LI61, LI64, LI80, LI300, LI400, LI1000, LI2000, LI2001, LI2047, LI2048, LI100000, LI1000000, LM, nI_clamp, nI_pos', nI_lt, nI_nlt, nI_le, nI_ge, nI_ne, nI_add, nI_sub, mI_lt, mI_le, mI_nlt, mI_nle, mI_ne, mI_ne', mI_nem, LI370, LI435, LI64, LI31, LI61, h4, show m < 1002 by omega, u2_2]
    have s2 : M271 A d 36 [some (.ref (b + 241)), some (.int (nI m)), some (.int (nI 0)), none] [] (jH h b X (u2 I 241 81 (nI (1 + (bPt E 1000 i).length))) J R n) = M271 A d 43 [some (.ref (b + 241)), some (.int (nI m)), some (.int (nI (bPt E 1000 i).length)), some (.int (nI i))] [] (jH h b X (u2 (u2 I 241 81 (nI (1 + (bPt E 1000 i).length))) 286 (bPt E 1000 i).length dd) J R n) := by
      simp (disch := omega) [r271_0, r271_1, r271_2, r271_5, r271_6, r271_7, r271_8, r271_11, r271_12, r271_13, r271_16, r271_17, r271_18, r271_21, r271_22, r271_23, r271_26, r271_27, r271_30, r271_31, r271_32, r271_33, r271_36, r271_37, r271_40, r271_41, r271_42, r271_44, r271_47, r271_48, r271_49, r271_52, r271_55, r271_56, r271_59, r271_60, r271_61, r271_64, r271_65, r271_66, r271_67, r271_68, r271_71, r271_72, r271_73, r271_74, r271_77, g241, p241_81, ty12_81, vf12_77, t241_77, g284, p284, vf12_81, vf12_79, t241_79, g286, p286, vf12_78, t241_78, g285, p285, List.getElem?_cons_zero, List.getElem?_cons_succ, List.length_cons, List.length_nil, ag_nx, ag_dn, ag_no, ag_if, jbr1, jbr2, jc1, jc2, jnul, jld, jsto, jstoL, jst1, jst2, jkill, jinc, jbI, jbL, jbS, juI, jl2i, jcmp, jisR, jisI, jisL, jret, jretv, jfits, jdup, jdup2, jpop, jmm, jcat, Value.category, jinv, jrcv, jthr, jhd, jput, jget, jlen, jald, jast, jaast, jgI, jgL, jgB, jtab, jlku, jacp, vf20, vf21, vf22, vf23, vf24, u2_s, u2_k, u2_i, uc_s, uc_k, uc_c, u2_c, LI0, LI1, LI2, LI3, LI4, LI5, LI6, LI7, LI8, LI9, LI10, LI11, LI12, LI13, LI14, LI15, LI16, LI17, LI18, LI19, LI20, LI21, LI22, LI23, LI24, LI25, LI26, LI27, LI28, LI29, LI30, LI31, LI32, LI33, LI34, LI35, LI36, LI37, LI40, LI42, LI43, LI45, LI48, LI60, LI61, LI64, LI80, LI300, LI400, LI1000, LI2000, LI2001, LI2047, LI2048, LI100000, LI1000000, LM, nI_clamp, nI_pos', nI_lt, nI_nlt, nI_le, nI_ge, nI_ne, nI_add, nI_sub, mI_lt, mI_le, mI_nlt, mI_nle, mI_ne, mI_ne', mI_nem, LI370, LI435, LI64, LI31, LI61]
      conv => lhs; rw [r271_43]
      simp (disch := omega) [r271_0, r271_1, r271_2, r271_5, r271_6, r271_7, r271_8, r271_11, r271_12, r271_13, r271_16, r271_17, r271_18, r271_21, r271_22, r271_23, r271_26, r271_27, r271_30, r271_31, r271_32, r271_33, r271_36, r271_37, r271_40, r271_41, r271_42, r271_44, r271_47, r271_48, r271_49, r271_52, r271_55, r271_56, r271_59, r271_60, r271_61, r271_64, r271_65, r271_66, r271_67, r271_68, r271_71, r271_72, r271_73, r271_74, r271_77, g241, p241_81, ty12_81, vf12_77, t241_77, g284, p284, vf12_81, vf12_79, t241_79, g286, p286, vf12_78, t241_78, g285, p285, List.getElem?_cons_zero, List.getElem?_cons_succ, List.length_cons, List.length_nil, ag_nx, ag_dn, ag_no, ag_if, jbr1, jbr2, jc1, jc2, jnul, jld, jsto, jstoL, jst1, jst2, jkill, jinc, jbI, jbL, jbS, juI, jl2i, jcmp, jisR, jisI, jisL, jret, jretv, jfits, jdup, jdup2, jpop, jmm, jcat, Value.category, jinv, jrcv, jthr, jhd, jput, jget, jlen, jald, jast, jaast, jgI, jgL, jgB, jtab, jlku, jacp, vf20, vf21, vf22, vf23, vf24, u2_s, u2_k, u2_i, uc_s, uc_k, uc_c, u2_c, LI0, LI1, LI2, LI3, LI4, LI5, LI6, LI7, LI8, LI9, LI10, LI11, LI12, LI13, LI14, LI15, LI16, LI17, LI18, LI19, LI20, LI21, LI22, LI23, LI24, LI25, LI26, LI27, LI28, LI29, LI30, LI31, LI32, LI33, LI34, LI35, LI36, LI37, LI40, LI42, LI43, LI45, LI48, LI60, LI61, LI64, LI80, LI300, LI400, LI1000, LI2000, LI2001, LI2047, LI2048, LI100000, LI1000000, LM, nI_clamp, nI_pos', nI_lt, nI_nlt, nI_le, nI_ge, nI_ne, nI_add, nI_sub, mI_lt, mI_le, mI_nlt, mI_nle, mI_ne, mI_ne', mI_nem, LI370, LI435, LI64, LI31, LI61, h4, h5, show m < 1002 by omega, ed, show (bPt E 1000 i).length < 1002 by omega]
    simp only [je271]
    rw [s1, e1, s2, e2]
  · rw [k1 c j h1, u2_k h1]
    simp only [u2_ap]
    rw [if_neg h2]
  · rw [k1 _ _ (by omega), u2_k (by omega), u2_s, hlen, Nat.add_comm]
  · unfold bRw
    by_cases c : j < (bPt E 1000 i).length
    · rw [List.getElem?_append_left c]
      exact v1 j c
    · have : j = (bPt E 1000 i).length := by omega
      subst this
      rw [List.getElem?_append_right (Nat.le_refl _), q1 _ (Nat.le_refl _), u2_s, Nat.sub_self]
      rfl
end RST
