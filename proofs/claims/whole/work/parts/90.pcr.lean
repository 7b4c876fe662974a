/-! the class: a signal goes, a timer goes, a timer is reset -/
theorem cpI_lo {f : Nat → Int32} {i m j : Nat} (hj : j < i) : cpI f f (i + 1) i m j = f j := by
  unfold cpI
  rw [if_neg (by omega)]
theorem cpI_hi {f : Nat → Int32} {i m j : Nat} (hj : i ≤ j) (hm : j < i + m) : cpI f f (i + 1) i m j = f (j + 1) := by
  unfold cpI
  rw [if_pos (by omega)]
  congr 1
  omega
/-- from the last on, those that are not kept go -/
def cln {β : Type} (f : β → Bool) : Nat → List β → List β
  | 0, l => l
  | i + 1, l => cln f i (match l[i]? with | some x => if f x = true then l else l.eraseIdx i | none => l)
theorem cln_f {β : Type} {f : β → Bool} : ∀ (i : Nat) (l r : List β), i = l.length → cln f i (l ++ r) = l.filter f ++ r := by
  intro i
  induction i with
  | zero =>
    intro l r hl
    cases l with
    | nil => rfl
    | cons a l => simp at hl
  | succ i ih =>
    intro l r hl
    obtain ⟨l', x, rfl⟩ : ∃ l' x, l = l' ++ [x] := ⟨l.dropLast, l.getLast (by intro e; subst e; simp at hl), (List.dropLast_concat_getLast _).symm⟩
    have hl' : i = l'.length := by simp at hl; exact hl
    subst hl'
    unfold cln
    have e1 : (l' ++ [x] ++ r)[l'.length]? = some x := by simp
    rw [e1]
    simp only
    by_cases hf : f x = true
    · rw [if_pos hf, List.append_assoc, ih l' ([x] ++ r) rfl, List.filter_append]
      simp [hf]
    · rw [if_neg hf]
      have e2 : (l' ++ [x] ++ r).eraseIdx l'.length = l' ++ r := by
        rw [List.append_assoc, List.eraseIdx_append_of_length_le (by omega)]
        simp
      rw [e2, ih l' r rfl, List.filter_append]
      simp [hf]
theorem cln_all {β : Type} {f : β → Bool} (l : List β) : cln f l.length l = l.filter f := by
  have := cln_f (f := f) l.length l [] rfl
  simpa using this
section CR
variable {A : Nat → Nat} {d b n w P p : Nat} {h' : Nat → Option jC} {X : jXX} {I : Nat → Nat → Int32} {J : Nat → Nat → Int64} {R : Nat → Nat → Nat} {cN rN : Int32 → Nm} {a : aI Nm}
theorem iC_drop {i : Nat} (hA : iC cN I p a) (hi : i < a.2.2.1.length) : iC cN (u2 (uc (uc (uc (uc I (p + 2) (cpI (I (p + 2)) (I (p + 2)) (i + 1) i (a.2.2.1.length - i - 1))) (p + 3) (cpI (I (p + 3)) (I (p + 3)) (i + 1) i (a.2.2.1.length - i - 1))) (p + 4) (cpI (I (p + 4)) (I (p + 4)) (i + 1) i (a.2.2.1.length - i - 1))) (p + 5) (cpI (I (p + 5)) (I (p + 5)) (i + 1) i (a.2.2.1.length - i - 1))) p 7 (nI (a.2.2.1.length - 1))) p (aDrop i a) := by
  obtain ⟨h1, h2, h3, h4, h5, h6⟩ := hA
  have hl : (a.2.2.1.eraseIdx i).length = a.2.2.1.length - 1 := by rw [List.length_eraseIdx, if_pos hi]
  unfold aDrop
  refine ⟨?_, ?_, ?_, ?_, ?_, ?_⟩
  · simp (disch := omega) [u2_i, uc_k, h1]
  · refine h2.trans (rl_congr fun j hj => ?_)
    simp (disch := omega) [u2_k, uc_k]
  · simp only [u2_s, hl]
  · simp only [hl]
    rw [rl_erase (f := fun i => (cN (I (p + 2) i), I (p + 3) i, I (p + 4) i, I (p + 5) i)) hi, ← h4]
    · intro j hj
      simp (disch := omega) [u2_k, uc_k, uc_s, cpI_lo hj]
    · intro j hj hj2
      have hm : j < i + (a.2.2.1.length - i - 1) := by omega
      simp (disch := omega) [u2_k, uc_k, uc_s, cpI_hi hj hm]
  · simp (disch := omega) [u2_i, uc_k, h5]
  · refine h6.trans (rl_congr fun j hj => ?_)
    simp (disch := omega) [u2_k, uc_k]
theorem iC_dropT {i : Nat} (hA : iC cN I p a) (hi : i < a.2.2.2.length) : iC cN (u2 (uc (uc I (p + 6) (cpI (I (p + 6)) (I (p + 6)) (i + 1) i (a.2.2.2.length - i - 1))) (p + 7) (cpI (I (p + 7)) (I (p + 7)) (i + 1) i (a.2.2.2.length - i - 1))) p 12 (nI (a.2.2.2.length - 1))) p (aDropT i a) := by
  obtain ⟨h1, h2, h3, h4, h5, h6⟩ := hA
  have hl : (a.2.2.2.eraseIdx i).length = a.2.2.2.length - 1 := by rw [List.length_eraseIdx, if_pos hi]
  unfold aDropT
  refine ⟨?_, ?_, ?_, ?_, ?_, ?_⟩
  · simp (disch := omega) [u2_i, uc_k, h1]
  · refine h2.trans (rl_congr fun j hj => ?_)
    simp (disch := omega) [u2_k, uc_k]
  · simp (disch := omega) [u2_i, uc_k, h3]
  · refine h4.trans (rl_congr fun j hj => ?_)
    simp (disch := omega) [u2_k, uc_k]
  · simp only [u2_s, hl]
  · simp only [hl]
    rw [rl_erase (f := fun i => (cN (I (p + 6) i), I (p + 7) i)) hi, ← h6]
    · intro j hj
      simp (disch := omega) [u2_k, uc_k, uc_s, cpI_lo hj]
    · intro j hj hj2
      have hm : j < i + (a.2.2.2.length - i - 1) := by omega
      simp (disch := omega) [u2_k, uc_k, uc_s, cpI_hi hj hm]
/-- only this instance's cells have changed -/
def onI (p : Nat) (I I' : Nat → Nat → Int32) : Prop := ∀ c i, c < p ∨ p + 7 < c → I' c i = I c i
theorem cDrop {i : Nat} (hi : isI p) (hA : iC cN I p a) (hQ : a.2.2.1.length ≤ 8) (h : i < a.2.2.1.length) : ∃ I', jcall A jcode (d + 1) 19 [.ref (b + p), .int (nI i)] (jH h' b X I J R n) = some (.inl none, jH h' b X I' J R n) ∧ iC cN I' p (aDrop i a) ∧ onI p I I' := by
  refine ⟨_, c19 hi hA.2.2.1 hQ h, iC_drop hA h, fun c j hc => ?_⟩
  simp (disch := omega) [u2_k, uc_k]
theorem cDropT {i : Nat} (hi : isI p) (hA : iC cN I p a) (hT : a.2.2.2.length ≤ 4) (h : i < a.2.2.2.length) : ∃ I', jcall A jcode (d + 1) 22 [.ref (b + p), .int (nI i)] (jH h' b X I J R n) = some (.inl none, jH h' b X I' J R n) ∧ iC cN I' p (aDropT i a) ∧ onI p I I' := by
  refine ⟨_, c22 hi hA.2.2.2.2.1 hT h, iC_dropT hA h, fun c j hc => ?_⟩
  simp (disch := omega) [u2_k, uc_k]
theorem fdx_inj {β : Type} {f : β → Nm} {D : Nat → Int32} {x : Int32} (hj : ∀ x y, cN x = cN y → x = y) : ∀ (L : List β) (k : Nat), (∀ j t, L[j]? = some t → f t = cN (D (k + j))) → fdx D x L.length k = (L.findIdx? (fun t => decide (f t = cN x))).map (fun j => k + j) := by
  intro L
  induction L with
  | nil => intro k _; rfl
  | cons t L ih =>
    intro k hD
    have h0 : f t = cN (D k) := hD 0 t rfl
    have e := ih (k + 1) (fun j c hj' => by
      have := hD (j + 1) c (by simpa using hj')
      rwa [Nat.add_assoc, Nat.add_comm 1 j])
    show fdx D x (L.length + 1) k = _
    unfold fdx
    rw [List.findIdx?_cons, h0]
    by_cases hc : D k = x
    · simp [hc]
    · have hc' : ¬ cN (D k) = cN x := fun z => hc (hj _ _ z)
      simp only [hc, hc', if_false, decide_false, e]
      cases L.findIdx? (fun t => decide (f t = cN x)) with
      | none => rfl
      | some j =>
        simp
        omega
theorem cTm {x : Int32} (hi : isI p) (hj : ∀ x y, cN x = cN y → x = y) (hA : iC cN I p a) (hT : a.2.2.2.length ≤ 4) : jcall A jcode (d + 1) 20 [.ref (b + p), .int x] (jH h' b X I J R n) = some (.inl (some (.int (inO (aTm (cN x) a)))), jH h' b X I J R n) := by
  have e := c20 (d := d) (A := A) (b := b) (h := h') (X := X) (J := J) (R := R) (n := n) (x := x) hi hA.2.2.2.2.1 hT
  rw [fdx_inj (f := fun t : Nm × Int32 => t.1) hj a.2.2.2 0 (fun j t ht => by
    rw [hA.2.2.2.2.2] at ht
    rw [Nat.zero_add]
    rcases Nat.lt_or_ge j a.2.2.2.length with hj' | hj'
    · rw [rl_at hj'] at ht
      cases ht
      rfl
    · rw [rl_no hj'] at ht
      cases ht)] at e
  simpa [aTm] using e
theorem c23l {x : Int32} (hi : isI p) (hj : ∀ x y, cN x = cN y → x = y) : ∀ (i : Nat) (I : Nat → Nat → Int32) (a : aI Nm), iC cN I p a → a.2.2.1.length ≤ 8 → i ≤ a.2.2.1.length → ∃ I', M23 A (d + 1) 21 [some (.ref (b + p)), some (.int x), some (.int (nI i - 1))] [] (jH h' b X I J R n) = some (.inl none, jH h' b X I' J R n) ∧ iC cN I' p (a.1, a.2.1, cln (fun s => !(decide (s.1 = cN x) && decide (s.2.2.1 = a.1.1))) i a.2.2.1, a.2.2.2) ∧ onI p I I' := by
  intro i
  induction i with
  | zero =>
    intro I a hA hQ hil
    refine ⟨I, ?_, hA, fun _ _ _ => rfl⟩
    have hz : nI 0 - 1 = mI 1 := by decide
    rw [hz, r23_21]
    simp (disch := omega) [r23_0, r23_1, r23_2, r23_3, r23_6, r23_9, r23_10, r23_13, r23_15, r23_18, r23_19, r23_20, r23_22, r23_25, r23_26, r23_29, r23_30, r23_31, r23_32, r23_35, r23_36, r23_39, r23_40, r23_41, r23_42, r23_45, r23_48, r23_49, r23_50, r23_53, r23_56, r23_59, qa20, qo20, gI0 hi, qa22, qo22, vf2_7, vf2_8, tI0_8 hi, gI2 hi, vf2_10, tI0_10 hi, gI4 hi, vf2_0, qa19, qo19, List.getElem?_cons_zero, List.getElem?_cons_succ, List.length_cons, List.length_nil, ag_nx, ag_dn, ag_no, ag_if, jbr1, jbr2, jc1, jc2, jnul, jld, jsto, jstoL, jst1, jst2, jkill, jinc, jbI, jbL, jbS, juI, jl2i, jcmp, jisR, jisI, jisL, jret, jretv, jfits, jdup, jdup2, jpop, jmm, jcat, Value.category, jinv, jrcv, jthr, jhd, jput, jget, jlen, jald, jast, jaast, jgI, jgL, jgB, jtab, jlku, jacp, vf20, vf21, vf22, vf23, vf24, u2_s, u2_k, u2_i, uc_s, uc_k, uc_c, u2_c, LI0, LI1, LI2, LI3, LI4, LI5, LI6, LI7, LI8, LI9, LI10, LI11, LI12, LI13, LI14, LI15, LI16, LI17, LI18, LI19, LI20, LI21, LI22, LI23, LI24, LI25, LI26, LI27, LI28, LI29, LI30, LI31, LI32, LI33, LI34, LI35, LI36, LI37, LI40, LI42, LI43, LI45, LI48, LI60, LI61, LI64, LI80, LI300, LI400, LI1000, LI2000, LI2001, LI2047, LI2048, LI100000, LI1000000, LM, nI_clamp, nI_pos', nI_lt, nI_nlt, nI_le, nI_ge, nI_ne, nI_add, nI_sub, mI_lt, mI_le, mI_nlt, mI_nle, mI_ne, mI_ne', mI_nem]
  | succ i ih =>
    intro I a hA hQ hil
    have hz : nI (i + 1) - 1 = nI i := nI_pred i
    rw [hz]
    have hs : a.2.2.1[i]? = some (cN (I (p + 2) i), I (p + 3) i, I (p + 4) i, I (p + 5) i) := by
      rw [hA.2.2.2.1, rl_at (by omega)]
    obtain ⟨i0, _⟩ := iC_01 hA
    have hstep : nI i + Int32.ofInt (-1) = nI i - 1 := by
      rw [Int32.sub_eq_add_neg]
      rfl
    unfold cln
    rw [hs]
    simp only
    by_cases hc : I (p + 2) i = x ∧ I (p + 4) i = I p 0
    · obtain ⟨hc1, hc2⟩ := hc
      have hf : ¬ (!(decide (cN (I (p + 2) i) = cN x) && decide (I (p + 4) i = a.1.1))) = true := by simp [hc1, hc2, i0]
      rw [if_neg hf]
      obtain ⟨I1, e1, hA1, o1⟩ := cDrop (d := d) (A := A) (b := b) (h' := h') (X := X) (J := J) (R := R) (n := n) (i := i) hi hA hQ (by omega)
      have hl1 : (aDrop i a).2.2.1.length = a.2.2.1.length - 1 := by
        show (a.2.2.1.eraseIdx i).length = _
        rw [List.length_eraseIdx, if_pos (by omega)]
      obtain ⟨I2, e2, hA2, o2⟩ := ih I1 (aDrop i a) hA1 (by omega) (by omega)
      refine ⟨I2, ?_, hA2, fun c j hc => (o2 c j hc).trans (o1 c j hc)⟩
      rw [r23_21]
      rw [← hstep] at e2
      simp (disch := omega) [r23_0, r23_1, r23_2, r23_3, r23_6, r23_9, r23_10, r23_13, r23_15, r23_18, r23_19, r23_20, r23_22, r23_25, r23_26, r23_29, r23_30, r23_31, r23_32, r23_35, r23_36, r23_39, r23_40, r23_41, r23_42, r23_45, r23_48, r23_49, r23_50, r23_53, r23_56, r23_59, qa20, qo20, gI0 hi, qa22, qo22, vf2_7, vf2_8, tI0_8 hi, gI2 hi, vf2_10, tI0_10 hi, gI4 hi, vf2_0, qa19, qo19, List.getElem?_cons_zero, List.getElem?_cons_succ, List.length_cons, List.length_nil, ag_nx, ag_dn, ag_no, ag_if, jbr1, jbr2, jc1, jc2, jnul, jld, jsto, jstoL, jst1, jst2, jkill, jinc, jbI, jbL, jbS, juI, jl2i, jcmp, jisR, jisI, jisL, jret, jretv, jfits, jdup, jdup2, jpop, jmm, jcat, Value.category, jinv, jrcv, jthr, jhd, jput, jget, jlen, jald, jast, jaast, jgI, jgL, jgB, jtab, jlku, jacp, vf20, vf21, vf22, vf23, vf24, u2_s, u2_k, u2_i, uc_s, uc_k, uc_c, u2_c, LI0, LI1, LI2, LI3, LI4, LI5, LI6, LI7, LI8, LI9, LI10, LI11, LI12, LI13, LI14, LI15, LI16, LI17, LI18, LI19, LI20, LI21, LI22, LI23, LI24, LI25, LI26, LI27, LI28, LI29, LI30, LI31, LI32, LI33, LI34, LI35, LI36, LI37, LI40, LI42, LI43, LI45, LI48, LI60, LI61, LI64, LI80, LI300, LI400, LI1000, LI2000, LI2001, LI2047, LI2048, LI100000, LI1000000, LM, nI_clamp, nI_pos', nI_lt, nI_nlt, nI_le, nI_ge, nI_ne, nI_add, nI_sub, mI_lt, mI_le, mI_nlt, mI_nle, mI_ne, mI_ne', mI_nem, hc1, hc2, e1, show i < 8 by omega]
      simpa (disch := omega) [LI0, LI1, LI2, LI3, LI4, LI5, LI6, LI7, LI8, LI9, LI10, LI11, LI12, LI13, LI14, LI15, LI16, LI17, LI18, LI19, LI20, LI21, LI22, LI23, LI24, LI25, LI26, LI27, LI28, LI29, LI30, LI31, LI32, LI33, LI34, LI35, LI36, LI37, LI40, LI42, LI43, LI45, LI48, LI60, LI61, LI64, LI80, LI300, LI400, LI1000, LI2000, LI2001, LI2047, LI2048, LI100000, LI1000000, LM, nI_clamp, nI_pos', nI_lt, nI_nlt, nI_le, nI_ge, nI_ne, nI_add, nI_sub, mI_lt, mI_le, mI_nlt, mI_nle, mI_ne, mI_ne', mI_nem] using e2
    · have hf : (!(decide (cN (I (p + 2) i) = cN x) && decide (I (p + 4) i = a.1.1))) = true := by
        by_cases h1 : I (p + 2) i = x
        · have h2 : ¬ I (p + 4) i = I p 0 := fun z => hc ⟨h1, z⟩
          rw [i0] at h2
          simp [h2]
        · have h1' : ¬ cN (I (p + 2) i) = cN x := fun z => h1 (hj _ _ z)
          simp [h1']
      rw [if_pos hf]
      obtain ⟨I2, e2, hA2, o2⟩ := ih I a hA hQ (by omega)
      refine ⟨I2, ?_, hA2, o2⟩
      rw [r23_21]
      rw [← hstep] at e2
      by_cases h1 : I (p + 2) i = x
      · have h2 : ¬ I (p + 4) i = I p 0 := fun z => hc ⟨h1, z⟩
        simp (disch := omega) [r23_0, r23_1, r23_2, r23_3, r23_6, r23_9, r23_10, r23_13, r23_15, r23_18, r23_19, r23_20, r23_22, r23_25, r23_26, r23_29, r23_30, r23_31, r23_32, r23_35, r23_36, r23_39, r23_40, r23_41, r23_42, r23_45, r23_48, r23_49, r23_50, r23_53, r23_56, r23_59, qa20, qo20, gI0 hi, qa22, qo22, vf2_7, vf2_8, tI0_8 hi, gI2 hi, vf2_10, tI0_10 hi, gI4 hi, vf2_0, qa19, qo19, List.getElem?_cons_zero, List.getElem?_cons_succ, List.length_cons, List.length_nil, ag_nx, ag_dn, ag_no, ag_if, jbr1, jbr2, jc1, jc2, jnul, jld, jsto, jstoL, jst1, jst2, jkill, jinc, jbI, jbL, jbS, juI, jl2i, jcmp, jisR, jisI, jisL, jret, jretv, jfits, jdup, jdup2, jpop, jmm, jcat, Value.category, jinv, jrcv, jthr, jhd, jput, jget, jlen, jald, jast, jaast, jgI, jgL, jgB, jtab, jlku, jacp, vf20, vf21, vf22, vf23, vf24, u2_s, u2_k, u2_i, uc_s, uc_k, uc_c, u2_c, LI0, LI1, LI2, LI3, LI4, LI5, LI6, LI7, LI8, LI9, LI10, LI11, LI12, LI13, LI14, LI15, LI16, LI17, LI18, LI19, LI20, LI21, LI22, LI23, LI24, LI25, LI26, LI27, LI28, LI29, LI30, LI31, LI32, LI33, LI34, LI35, LI36, LI37, LI40, LI42, LI43, LI45, LI48, LI60, LI61, LI64, LI80, LI300, LI400, LI1000, LI2000, LI2001, LI2047, LI2048, LI100000, LI1000000, LM, nI_clamp, nI_pos', nI_lt, nI_nlt, nI_le, nI_ge, nI_ne, nI_add, nI_sub, mI_lt, mI_le, mI_nlt, mI_nle, mI_ne, mI_ne', mI_nem, h1, h2, show i < 8 by omega]
        simpa (disch := omega) [LI0, LI1, LI2, LI3, LI4, LI5, LI6, LI7, LI8, LI9, LI10, LI11, LI12, LI13, LI14, LI15, LI16, LI17, LI18, LI19, LI20, LI21, LI22, LI23, LI24, LI25, LI26, LI27, LI28, LI29, LI30, LI31, LI32, LI33, LI34, LI35, LI36, LI37, LI40, LI42, LI43, LI45, LI48, LI60, LI61, LI64, LI80, LI300, LI400, LI1000, LI2000, LI2001, LI2047, LI2048, LI100000, LI1000000, LM, nI_clamp, nI_pos', nI_lt, nI_nlt, nI_le, nI_ge, nI_ne, nI_add, nI_sub, mI_lt, mI_le, mI_nlt, mI_nle, mI_ne, mI_ne', mI_nem] using e2
      · simp (disch := omega) [r23_0, r23_1, r23_2, r23_3, r23_6, r23_9, r23_10, r23_13, r23_15, r23_18, r23_19, r23_20, r23_22, r23_25, r23_26, r23_29, r23_30, r23_31, r23_32, r23_35, r23_36, r23_39, r23_40, r23_41, r23_42, r23_45, r23_48, r23_49, r23_50, r23_53, r23_56, r23_59, qa20, qo20, gI0 hi, qa22, qo22, vf2_7, vf2_8, tI0_8 hi, gI2 hi, vf2_10, tI0_10 hi, gI4 hi, vf2_0, qa19, qo19, List.getElem?_cons_zero, List.getElem?_cons_succ, List.length_cons, List.length_nil, ag_nx, ag_dn, ag_no, ag_if, jbr1, jbr2, jc1, jc2, jnul, jld, jsto, jstoL, jst1, jst2, jkill, jinc, jbI, jbL, jbS, juI, jl2i, jcmp, jisR, jisI, jisL, jret, jretv, jfits, jdup, jdup2, jpop, jmm, jcat, Value.category, jinv, jrcv, jthr, jhd, jput, jget, jlen, jald, jast, jaast, jgI, jgL, jgB, jtab, jlku, jacp, vf20, vf21, vf22, vf23, vf24, u2_s, u2_k, u2_i, uc_s, uc_k, uc_c, u2_c, LI0, LI1, LI2, LI3, LI4, LI5, LI6, LI7, LI8, LI9, LI10, LI11, LI12, LI13, LI14, LI15, LI16, LI17, LI18, LI19, LI20, LI21, LI22, LI23, LI24, LI25, LI26, LI27, LI28, LI29, LI30, LI31, LI32, LI33, LI34, LI35, LI36, LI37, LI40, LI42, LI43, LI45, LI48, LI60, LI61, LI64, LI80, LI300, LI400, LI1000, LI2000, LI2001, LI2047, LI2048, LI100000, LI1000000, LM, nI_clamp, nI_pos', nI_lt, nI_nlt, nI_le, nI_ge, nI_ne, nI_add, nI_sub, mI_lt, mI_le, mI_nlt, mI_nle, mI_ne, mI_ne', mI_nem, h1, show i < 8 by omega]
        simpa (disch := omega) [LI0, LI1, LI2, LI3, LI4, LI5, LI6, LI7, LI8, LI9, LI10, LI11, LI12, LI13, LI14, LI15, LI16, LI17, LI18, LI19, LI20, LI21, LI22, LI23, LI24, LI25, LI26, LI27, LI28, LI29, LI30, LI31, LI32, LI33, LI34, LI35, LI36, LI37, LI40, LI42, LI43, LI45, LI48, LI60, LI61, LI64, LI80, LI300, LI400, LI1000, LI2000, LI2001, LI2047, LI2048, LI100000, LI1000000, LM, nI_clamp, nI_pos', nI_lt, nI_nlt, nI_le, nI_ge, nI_ne, nI_add, nI_sub, mI_lt, mI_le, mI_nlt, mI_nle, mI_ne, mI_ne', mI_nem] using e2
end CR
