/-! the class reads the head of a clause -/
section HC
variable (K : Nat → Nat) (pr : Nat)
/-- the variable behind a signal, the test's code -/
def pHc (j : Nat) : Option (Option Nat × List oT) × Nat :=
  if K j = 9 then (some (none, []), j + 1) else
  if K j = 8 then (match xB K pr 8 (j + 1) with | (none, j') => (none, j') | (some l, j') => (some (none, l ++ [oz pr 28 (j' - 1)]), j')) else
  if K (j + 1) = 26 then (if K j ≠ 7 ∧ K (j + 2) = 40 then (if K (j + 3) = 26 then (if K (j + 4) = 41 then (some (some (j + 3), []), j + 5) else (none, j + 4)) else (none, j + 3)) else (some (none, []), j + 2)) else (none, j + 1)
def pCf (C : List oT) (j : Nat) : hR qCl := if 5 ≤ K j ∧ K j ≤ 9 then (match pHc K pr j with
  | (none, j') => (none, j', C)
  | (some (io, l), j') => if K j = 7 then (if K j' = 59 then (some (j, none, (0, []), (0, [])), j' + 1, C) else (none, j', C)) else bodyR K pr (C ++ l) j' (fun b => (j, io, (if K j = 8 then C.length else 0, l), b))) else (none, j, C)
theorem pCf_e {C : List oT} {j : Nat} : pCs K pr C j = pCf K pr C j := by
  unfold pCs pCf pHc
  by_cases h9 : K j = 9
  · simp [h9]
  by_cases h8 : K j = 8
  · simp only [h8]
    simp only [show ¬ (8 : Nat) = 9 by omega, show ¬ (8 : Nat) = 7 by omega, if_true, if_false, show (5 : Nat) ≤ 8 ∧ 8 ≤ 9 by omega]
    rcases xB K pr 8 (j + 1) with ⟨o, j'⟩
    cases o <;> simp
  by_cases h7 : K j = 7
  · simp only [h7]
    simp only [show ¬ (7 : Nat) = 9 by omega, show ¬ (7 : Nat) = 8 by omega, if_true, if_false, show (5 : Nat) ≤ 7 ∧ 7 ≤ 9 by omega, ne_eq, not_true, false_and]
    by_cases h1 : K (j + 1) = 26
    · simp [h1]
    · simp [h1]
  by_cases h5 : K j = 5 ∨ K j = 6
  · rw [if_neg h9, if_neg h8, if_neg h7, if_pos h5, if_pos (show 5 ≤ K j ∧ K j ≤ 9 by omega), if_neg h9, if_neg h8]
    by_cases h1 : K (j + 1) = 26 <;> by_cases h2 : K (j + 2) = 40 <;> by_cases h3 : K (j + 3) = 26 <;> by_cases h4 : K (j + 4) = 41 <;> simp [h1, h2, h3, h4, h7, h8]
  · rw [if_neg h9, if_neg h8, if_neg h7, if_neg h5, if_neg (show ¬ (5 ≤ K j ∧ K j ≤ 9) by omega)]
end HC
def fH (P q L : Nat) (I I' : Nat → Nat → Int32) : Prop := ∀ c i, ¬ (c = 56 ∧ (i = 3 ∨ i = 5 ∨ i = 6)) → ¬ (c = P + 4 ∧ i = 4) → ¬ (P + 5 ≤ c ∧ c ≤ P + 8 ∧ L ≤ i) → ¬ (P + 19 ≤ c ∧ c ≤ P + 21 ∧ i = q) → I' c i = I c i
theorem fH_O {P q L : Nat} {I I' : Nat → Nat → Int32} (h : fH P q L I I') : fO P I I' := fun c i a b e => h c i (by omega) (by omega) (by omega) (by omega)
theorem fH_trans {P q L : Nat} {I I1 I2 : Nat → Nat → Int32} (h : fH P q L I I1) (h2 : fH P q L I1 I2) : fH P q L I I2 := fun c i a b e f => (h2 c i a b e f).trans (h c i a b e f)
theorem fH_E {P q L : Nat} {I I' : Nat → Nat → Int32} (h : fE P L I I') : fH P q L I I' := fun c i a b e f => h c i (by omega) b e
theorem xB_lt {K : Nat → Nat} {m pr g j j' : Nat} {l : List oT} (hm : ∀ j, j ≤ m → K j ≠ 29 → j < m) (hj : j ≤ m) (h : xB K pr g j = (some l, j')) : j < j' := by
  cases g with
  | zero => cases h
  | succ g =>
    replace h : (if K j = 40 then pB (xE K pr (xS K pr g) (j + 1)) (fun l j1 => pN K 41 l j1) else (none, j)) = (some l, j') := h
    by_cases hK : K j = 40
    · rw [if_pos hK] at h
      have ox := xE_ok (pr := pr) hm (xS_ok (pr := pr) hm g) (j := j + 1) (by have := hm j hj (by rw [hK]; decide); omega)
      rcases hx : xE K pr (xS K pr g) (j + 1) with ⟨o, jx⟩
      rw [hx] at h ox
      have o1 := ox.1
      simp only at o1
      cases o with
      | none => cases h
      | some l0 =>
        rw [pB_s rfl] at h
        unfold pN at h
        split at h
        · cases h; omega
        · cases h
    · rw [if_neg hK] at h
      cases h
section CHC
variable {A : Nat → Nat} {d b n P m p : Nat} {h : Nat → Option jC} {X : jXX} {J : Nat → Nat → Int64} {R : Nat → Nat → Nat} {K : Nat → Nat} {V : Nat → Int32}
/-- a signal's name -/
theorem c51 (hk : kOK K m) (hP : isP P) (hR1 : R 56 1 = P) {I : Nat → Nat → Int32} {j q t k L : Nat} {e : Option Nat} (ht : tkc K V m I) (ha : I 56 3 = nI j) (hj : j ≤ m) (h7 : I 56 7 = nI p) (hp : p < 6) (h8 : I 56 8 = nI t) (ht8 : t < 8) (h9 : I 56 9 = nI q) (hq : q < 384) (hv : I (P + 17) (p * 8 + t) = nI k) (hk8 : k ≤ 8) (h5 : I 56 5 = exI e) (he : ∀ x, e = some x → x < 2 ^ 31) :
    (K j ≠ 26 ∧ jcall A jcode (d + 2) 51 [.ref (b + 56)] (jH h b X I J R n) = some (.inl (some (.int (nI 0))), jH h b X I J R n)) ∨
    (K j = 26 ∧ ∃ I', jcall A jcode (d + 2) 51 [.ref (b + 56)] (jH h b X I J R n) = some (.inl (some (.int (nI 1))), jH h b X I' J R n) ∧ I' 56 3 = nI (j + 1) ∧ I' 56 5 = exI (e.or (if (List.range k).any (fun i => (decide (I (P + 18) ((p * 8 + t) * 8 + i) = nI 5) || decide (I (P + 18) ((p * 8 + t) * 8 + i) = nI 6) || decide (I (P + 18) ((p * 8 + t) * 8 + i) = nI 7)) && decide (I (P + 19) ((p * 8 + t) * 8 + i) = V j)) = true then some j else none)) ∧ I' (P + 19) q = V j ∧ ∀ c i, ¬ (c = 56 ∧ (i = 3 ∨ i = 5)) → ¬ (c = P + 19 ∧ i = q) → I' c i = I c i) := by
  have hpp := isP_e hP
  have hk1 := hk.1
  by_cases hK : K j = 26
  · refine Or.inr ⟨hK, ?_⟩
    have hj1 := hk.2.1 j hj (by rw [hK]; decide)
    have e1 := c39y (d := d) (A := A) (b := b) (h := h) (X := X) (J := J) (R := R) (n := n) (I := I) hk ht ha hj hK
    obtain ⟨I1, hI1⟩ : ∃ I1, I1 = u2 I 56 3 (nI (j + 1)) := ⟨_, rfl⟩
    rw [← hI1] at e1
    have t1 : tkc K V m I1 := by rw [hI1]; exact tkc_u (by omega) ht
    have a1 : I1 56 3 = nI (j + 1) := by rw [hI1, u2_s]
    have f1 : ∀ c i, ¬ (c = 56 ∧ i = 3) → I1 c i = I c i := fun c i z => by
      rw [hI1]
      simp only [u2_ap]; repeat (rw [if_neg (by omega)])
    have e40 := c40 (d := d) (A := A) (b := b) (h := h) (X := X) (J := J) (R := R) (n := n) (I := I1) hk t1 a1 (by omega)
    have q17 : I1 (P + 17) (p * 8 + t) = nI k := by rw [f1 _ _ (by omega)]; exact hv
    have s7 : I1 56 7 = nI p := by rw [f1 _ _ (by omega)]; exact h7
    have s8 : I1 56 8 = nI t := by rw [f1 _ _ (by omega)]; exact h8
    have s9 : I1 56 9 = nI q := by rw [f1 _ _ (by omega)]; exact h9
    have fd : ∀ kd : Nat, (fun i => decide (I1 (P + 18) ((p * 8 + t) * 8 + i) = nI kd) && decide (I1 (P + 19) ((p * 8 + t) * 8 + i) = V j)) = fun i => decide (I (P + 18) ((p * 8 + t) * 8 + i) = nI kd) && decide (I (P + 19) ((p * 8 + t) * 8 + i) = V j) := fun kd => by
      funext i
      rw [f1 _ _ (by omega), f1 _ _ (by omega)]
    have E : ∀ kd : Nat, ∃ x, jcall A jcode (d + 1) 78 [.ref (b + P), .int (nI p), .int (nI t), .int (nI kd), .int (V j)] (jH h b X I1 J R n) = some (.inl (some (.int x)), jH h b X I1 J R n) ∧ (x < nI 0 ↔ (List.range k).any (fun i => decide (I (P + 18) ((p * 8 + t) * 8 + i) = nI kd) && decide (I (P + 19) ((p * 8 + t) * 8 + i) = V j)) = false) := fun kd => by
      have e78 := c78 (d := d) (A := A) (b := b) (h := h) (X := X) (J := J) (R := R) (n := n) (I := I1) (kd := nI kd) (x := V j) hP hp ht8 q17 hk8
      rw [fd kd] at e78
      refine ⟨_, e78, ?_⟩
      have hany := fdP_any (q := fun i => decide (I (P + 18) ((p * 8 + t) * 8 + i) = nI kd) && decide (I (P + 19) ((p * 8 + t) * 8 + i) = V j)) k 0
      simp only [Nat.zero_add] at hany
      rw [← hany]
      cases hz : fdP (fun i => decide (I (P + 18) ((p * 8 + t) * 8 + i) = nI kd) && decide (I (P + 19) ((p * 8 + t) * 8 + i) = V j)) k 0 with
      | none => simp [clO]; decide
      | some x =>
        have := fdP_b k 0 x hz
        simp only [clO, Option.isSome_some, reduceCtorEq, iff_false]
        exact nI_nlt (by omega) (by omega)
    obtain ⟨x5, e5, l5⟩ := E 5
    obtain ⟨x6, e6, l6⟩ := E 6
    obtain ⟨x7, e7, l7⟩ := E 7
    have hsp : (List.range k).any (fun i => (decide (I (P + 18) ((p * 8 + t) * 8 + i) = nI 5) || decide (I (P + 18) ((p * 8 + t) * 8 + i) = nI 6) || decide (I (P + 18) ((p * 8 + t) * 8 + i) = nI 7)) && decide (I (P + 19) ((p * 8 + t) * 8 + i) = V j)) = true ↔ ¬ x5 < nI 0 ∨ ¬ x6 < nI 0 ∨ ¬ x7 < nI 0 := by
      rw [l5, l6, l7]
      simp only [Bool.not_eq_false, List.any_eq_true, Bool.and_eq_true, Bool.or_eq_true, decide_eq_true_eq]
      constructor
      · rintro ⟨i, hi, (h1 | h1) | h1, h2⟩
        · exact Or.inl ⟨i, hi, h1, h2⟩
        · exact Or.inr (Or.inl ⟨i, hi, h1, h2⟩)
        · exact Or.inr (Or.inr ⟨i, hi, h1, h2⟩)
      · rintro (⟨i, hi, h1, h2⟩ | ⟨i, hi, h1, h2⟩ | ⟨i, hi, h1, h2⟩)
        · exact ⟨i, hi, Or.inl (Or.inl h1), h2⟩
        · exact ⟨i, hi, Or.inl (Or.inr h1), h2⟩
        · exact ⟨i, hi, Or.inr h1, h2⟩
    obtain ⟨e', he'⟩ : ∃ e', e' = e.or (if (List.range k).any (fun i => (decide (I (P + 18) ((p * 8 + t) * 8 + i) = nI 5) || decide (I (P + 18) ((p * 8 + t) * 8 + i) = nI 6) || decide (I (P + 18) ((p * 8 + t) * 8 + i) = nI 7)) && decide (I (P + 19) ((p * 8 + t) * 8 + i) = V j)) = true then some j else none) := ⟨_, rfl⟩
    have q5 : I1 56 5 = exI e := by rw [f1 _ _ (by omega)]; exact h5
    have e41 := c41 (d := d) (A := A) (b := b) (h := h) (X := X) (J := J) (R := R) (n := n) (I := I1) (t := j) q5 he
    rw [← he']
    refine ⟨u2 (u2 I1 56 5 (exI e')) (P + 19) q (V j), ?_, ?_, ?_, u2_s, ?_⟩
    · by_cases hc : (List.range k).any (fun i => (decide (I (P + 18) ((p * 8 + t) * 8 + i) = nI 5) || decide (I (P + 18) ((p * 8 + t) * 8 + i) = nI 6) || decide (I (P + 18) ((p * 8 + t) * 8 + i) = nI 7)) && decide (I (P + 19) ((p * 8 + t) * 8 + i) = V j)) = true
      · rw [if_pos hc] at he'
        rw [he']
        have hc' := hsp.mp hc
        by_cases c5 : x5 < nI 0
        · by_cases c6 : x6 < nI 0
          · have c7 : ¬ x7 < nI 0 := by rcases hc' with z | z | z; exact absurd c5 z; exact absurd c6 z; exact z
            simp (disch := omega) [je51, r51_0, r51_1, r51_3, r51_6, r51_9, r51_10, r51_11, r51_12, r51_15, r51_16, r51_17, r51_20, r51_21, r51_24, r51_25, r51_28, r51_29, r51_30, r51_33, r51_36, r51_37, r51_40, r51_41, r51_44, r51_45, r51_48, r51_50, r51_51, r51_54, r51_57, r51_58, r51_61, r51_62, r51_65, r51_66, r51_69, r51_71, r51_72, r51_75, r51_78, r51_79, r51_80, r51_83, r51_84, r51_85, r51_88, r51_89, r51_92, r51_95, r51_96, r51_99, r51_100, r51_101, r51_102, qa39, qo39, g56, qa40, qo40, vf4_1, t56_1, vf4_7, vf4_8, qa78, qo78, gP0 hP, vf4_3, qa41, qo41, vf5_14, tP0_14 hP, gP19 hP, pP19 hP, vf4_9, List.getElem?_cons_zero, List.getElem?_cons_succ, List.length_cons, List.length_nil, ag_nx, ag_dn, ag_no, ag_if, jbr1, jbr2, jc1, jc2, jnul, jld, jsto, jstoL, jst1, jst2, jkill, jinc, jbI, jbL, jbS, juI, jl2i, jcmp, jisR, jisI, jisL, jret, jretv, jfits, jdup, jdup2, jpop, jmm, jcat, Value.category, jinv, jrcv, jthr, jhd, jput, jget, jlen, jald, jast, jaast, jgI, jgL, jgB, jtab, jlku, jacp, vf20, vf21, vf22, vf23, vf24, u2_s, u2_k, u2_i, uc_s, uc_k, uc_c, u2_c, LI0, LI1, LI2, LI3, LI4, LI5, LI6, LI7, LI8, LI9, LI10, LI11, LI12, LI13, LI14, LI15, LI16, LI17, LI18, LI19, LI20, LI21, LI22, LI23, LI24, LI25, LI26, LI27, LI28, LI29, LI30, LI31, LI32, LI33, LI34, LI35, LI36, LI37, LI40, LI42, LI43, LI45, LI48, LI60, LI61, LI64, LI80, LI300, LI400, LI1000, LI2000, LI2001, LI2047, LI2048, LI100000, LI1000000, LI38, LI39, LI41, LI44, LI46, LI47, LI49, LI50, LI51, LI52, LI53, LI54, LI55, LI56, LI57, LI58, LI59, LI62, LI63, LI65, LI66, LI67, LI68, LI69, LI70, LI71, LI72, LI73, LI74, LI75, LI76, LI77, LI78, LI79, LI81, LI82, LI83, LI84, LI85, LI86, LI87, LI88, LI89, LI90, LI91, LI92, LI93, LI94, LI95, LI96, LI97, LI98, LI99, LI100, LI101, LI102, LI103, LI104, LI105, LI106, LI107, LI108, LI109, LI110, LI111, LI112, LI113, LI114, LI115, LI116, LI117, LI118, LI119, LI120, LI121, LI122, LI123, LI124, LI125, LI126, LI127, LI255, LI256, LI999, LI1001, LI1002, LI1600, LI4096, LI1000001, LI2042, LM, nI_clamp, nI_pos', nI_lt, nI_nlt, nI_le, nI_ge, nI_ne, nI_add, nI_sub, mI_lt, mI_le, mI_nlt, mI_nle, mI_ne, mI_ne', mI_nem, e1, e40, hR1, s7, s8, s9, a1, hq, e5, e6, e7, c5, c6, c7, Int32.not_le.mpr c5, Int32.not_le.mpr c6, Int32.not_lt.mp c7, e41]
          · simp (disch := omega) [je51, r51_0, r51_1, r51_3, r51_6, r51_9, r51_10, r51_11, r51_12, r51_15, r51_16, r51_17, r51_20, r51_21, r51_24, r51_25, r51_28, r51_29, r51_30, r51_33, r51_36, r51_37, r51_40, r51_41, r51_44, r51_45, r51_48, r51_50, r51_51, r51_54, r51_57, r51_58, r51_61, r51_62, r51_65, r51_66, r51_69, r51_71, r51_72, r51_75, r51_78, r51_79, r51_80, r51_83, r51_84, r51_85, r51_88, r51_89, r51_92, r51_95, r51_96, r51_99, r51_100, r51_101, r51_102, qa39, qo39, g56, qa40, qo40, vf4_1, t56_1, vf4_7, vf4_8, qa78, qo78, gP0 hP, vf4_3, qa41, qo41, vf5_14, tP0_14 hP, gP19 hP, pP19 hP, vf4_9, List.getElem?_cons_zero, List.getElem?_cons_succ, List.length_cons, List.length_nil, ag_nx, ag_dn, ag_no, ag_if, jbr1, jbr2, jc1, jc2, jnul, jld, jsto, jstoL, jst1, jst2, jkill, jinc, jbI, jbL, jbS, juI, jl2i, jcmp, jisR, jisI, jisL, jret, jretv, jfits, jdup, jdup2, jpop, jmm, jcat, Value.category, jinv, jrcv, jthr, jhd, jput, jget, jlen, jald, jast, jaast, jgI, jgL, jgB, jtab, jlku, jacp, vf20, vf21, vf22, vf23, vf24, u2_s, u2_k, u2_i, uc_s, uc_k, uc_c, u2_c, LI0, LI1, LI2, LI3, LI4, LI5, LI6, LI7, LI8, LI9, LI10, LI11, LI12, LI13, LI14, LI15, LI16, LI17, LI18, LI19, LI20, LI21, LI22, LI23, LI24, LI25, LI26, LI27, LI28, LI29, LI30, LI31, LI32, LI33, LI34, LI35, LI36, LI37, LI40, LI42, LI43, LI45, LI48, LI60, LI61, LI64, LI80, LI300, LI400, LI1000, LI2000, LI2001, LI2047, LI2048, LI100000, LI1000000, LI38, LI39, LI41, LI44, LI46, LI47, LI49, LI50, LI51, LI52, LI53, LI54, LI55, LI56, LI57, LI58, LI59, LI62, LI63, LI65, LI66, LI67, LI68, LI69, LI70, LI71, LI72, LI73, LI74, LI75, LI76, LI77, LI78, LI79, LI81, LI82, LI83, LI84, LI85, LI86, LI87, LI88, LI89, LI90, LI91, LI92, LI93, LI94, LI95, LI96, LI97, LI98, LI99, LI100, LI101, LI102, LI103, LI104, LI105, LI106, LI107, LI108, LI109, LI110, LI111, LI112, LI113, LI114, LI115, LI116, LI117, LI118, LI119, LI120, LI121, LI122, LI123, LI124, LI125, LI126, LI127, LI255, LI256, LI999, LI1001, LI1002, LI1600, LI4096, LI1000001, LI2042, LM, nI_clamp, nI_pos', nI_lt, nI_nlt, nI_le, nI_ge, nI_ne, nI_add, nI_sub, mI_lt, mI_le, mI_nlt, mI_nle, mI_ne, mI_ne', mI_nem, e1, e40, hR1, s7, s8, s9, a1, hq, e5, e6, c5, c6, Int32.not_le.mpr c5, Int32.not_lt.mp c6, e41]
        · simp (disch := omega) [je51, r51_0, r51_1, r51_3, r51_6, r51_9, r51_10, r51_11, r51_12, r51_15, r51_16, r51_17, r51_20, r51_21, r51_24, r51_25, r51_28, r51_29, r51_30, r51_33, r51_36, r51_37, r51_40, r51_41, r51_44, r51_45, r51_48, r51_50, r51_51, r51_54, r51_57, r51_58, r51_61, r51_62, r51_65, r51_66, r51_69, r51_71, r51_72, r51_75, r51_78, r51_79, r51_80, r51_83, r51_84, r51_85, r51_88, r51_89, r51_92, r51_95, r51_96, r51_99, r51_100, r51_101, r51_102, qa39, qo39, g56, qa40, qo40, vf4_1, t56_1, vf4_7, vf4_8, qa78, qo78, gP0 hP, vf4_3, qa41, qo41, vf5_14, tP0_14 hP, gP19 hP, pP19 hP, vf4_9, List.getElem?_cons_zero, List.getElem?_cons_succ, List.length_cons, List.length_nil, ag_nx, ag_dn, ag_no, ag_if, jbr1, jbr2, jc1, jc2, jnul, jld, jsto, jstoL, jst1, jst2, jkill, jinc, jbI, jbL, jbS, juI, jl2i, jcmp, jisR, jisI, jisL, jret, jretv, jfits, jdup, jdup2, jpop, jmm, jcat, Value.category, jinv, jrcv, jthr, jhd, jput, jget, jlen, jald, jast, jaast, jgI, jgL, jgB, jtab, jlku, jacp, vf20, vf21, vf22, vf23, vf24, u2_s, u2_k, u2_i, uc_s, uc_k, uc_c, u2_c, LI0, LI1, LI2, LI3, LI4, LI5, LI6, LI7, LI8, LI9, LI10, LI11, LI12, LI13, LI14, LI15, LI16, LI17, LI18, LI19, LI20, LI21, LI22, LI23, LI24, LI25, LI26, LI27, LI28, LI29, LI30, LI31, LI32, LI33, LI34, LI35, LI36, LI37, LI40, LI42, LI43, LI45, LI48, LI60, LI61, LI64, LI80, LI300, LI400, LI1000, LI2000, LI2001, LI2047, LI2048, LI100000, LI1000000, LI38, LI39, LI41, LI44, LI46, LI47, LI49, LI50, LI51, LI52, LI53, LI54, LI55, LI56, LI57, LI58, LI59, LI62, LI63, LI65, LI66, LI67, LI68, LI69, LI70, LI71, LI72, LI73, LI74, LI75, LI76, LI77, LI78, LI79, LI81, LI82, LI83, LI84, LI85, LI86, LI87, LI88, LI89, LI90, LI91, LI92, LI93, LI94, LI95, LI96, LI97, LI98, LI99, LI100, LI101, LI102, LI103, LI104, LI105, LI106, LI107, LI108, LI109, LI110, LI111, LI112, LI113, LI114, LI115, LI116, LI117, LI118, LI119, LI120, LI121, LI122, LI123, LI124, LI125, LI126, LI127, LI255, LI256, LI999, LI1001, LI1002, LI1600, LI4096, LI1000001, LI2042, LM, nI_clamp, nI_pos', nI_lt, nI_nlt, nI_le, nI_ge, nI_ne, nI_add, nI_sub, mI_lt, mI_le, mI_nlt, mI_nle, mI_ne, mI_ne', mI_nem, e1, e40, hR1, s7, s8, s9, a1, hq, e5, c5, Int32.not_lt.mp c5, e41]
      · rw [if_neg hc] at he'
        have hc' : ¬ (¬ x5 < nI 0 ∨ ¬ x6 < nI 0 ∨ ¬ x7 < nI 0) := fun z => hc (hsp.mpr z)
        have c5 : x5 < nI 0 := Decidable.not_not.mp (fun z => hc' (Or.inl z))
        have c6 : x6 < nI 0 := Decidable.not_not.mp (fun z => hc' (Or.inr (Or.inl z)))
        have c7 : x7 < nI 0 := Decidable.not_not.mp (fun z => hc' (Or.inr (Or.inr z)))
        rw [he']
        simp only [Option.or_none]
        rw [u2_same q5]
        simp (disch := omega) [je51, r51_0, r51_1, r51_3, r51_6, r51_9, r51_10, r51_11, r51_12, r51_15, r51_16, r51_17, r51_20, r51_21, r51_24, r51_25, r51_28, r51_29, r51_30, r51_33, r51_36, r51_37, r51_40, r51_41, r51_44, r51_45, r51_48, r51_50, r51_51, r51_54, r51_57, r51_58, r51_61, r51_62, r51_65, r51_66, r51_69, r51_71, r51_72, r51_75, r51_78, r51_79, r51_80, r51_83, r51_84, r51_85, r51_88, r51_89, r51_92, r51_95, r51_96, r51_99, r51_100, r51_101, r51_102, qa39, qo39, g56, qa40, qo40, vf4_1, t56_1, vf4_7, vf4_8, qa78, qo78, gP0 hP, vf4_3, qa41, qo41, vf5_14, tP0_14 hP, gP19 hP, pP19 hP, vf4_9, List.getElem?_cons_zero, List.getElem?_cons_succ, List.length_cons, List.length_nil, ag_nx, ag_dn, ag_no, ag_if, jbr1, jbr2, jc1, jc2, jnul, jld, jsto, jstoL, jst1, jst2, jkill, jinc, jbI, jbL, jbS, juI, jl2i, jcmp, jisR, jisI, jisL, jret, jretv, jfits, jdup, jdup2, jpop, jmm, jcat, Value.category, jinv, jrcv, jthr, jhd, jput, jget, jlen, jald, jast, jaast, jgI, jgL, jgB, jtab, jlku, jacp, vf20, vf21, vf22, vf23, vf24, u2_s, u2_k, u2_i, uc_s, uc_k, uc_c, u2_c, LI0, LI1, LI2, LI3, LI4, LI5, LI6, LI7, LI8, LI9, LI10, LI11, LI12, LI13, LI14, LI15, LI16, LI17, LI18, LI19, LI20, LI21, LI22, LI23, LI24, LI25, LI26, LI27, LI28, LI29, LI30, LI31, LI32, LI33, LI34, LI35, LI36, LI37, LI40, LI42, LI43, LI45, LI48, LI60, LI61, LI64, LI80, LI300, LI400, LI1000, LI2000, LI2001, LI2047, LI2048, LI100000, LI1000000, LI38, LI39, LI41, LI44, LI46, LI47, LI49, LI50, LI51, LI52, LI53, LI54, LI55, LI56, LI57, LI58, LI59, LI62, LI63, LI65, LI66, LI67, LI68, LI69, LI70, LI71, LI72, LI73, LI74, LI75, LI76, LI77, LI78, LI79, LI81, LI82, LI83, LI84, LI85, LI86, LI87, LI88, LI89, LI90, LI91, LI92, LI93, LI94, LI95, LI96, LI97, LI98, LI99, LI100, LI101, LI102, LI103, LI104, LI105, LI106, LI107, LI108, LI109, LI110, LI111, LI112, LI113, LI114, LI115, LI116, LI117, LI118, LI119, LI120, LI121, LI122, LI123, LI124, LI125, LI126, LI127, LI255, LI256, LI999, LI1001, LI1002, LI1600, LI4096, LI1000001, LI2042, LM, nI_clamp, nI_pos', nI_lt, nI_nlt, nI_le, nI_ge, nI_ne, nI_add, nI_sub, mI_lt, mI_le, mI_nlt, mI_nle, mI_ne, mI_ne', mI_nem, e1, e40, hR1, s7, s8, s9, a1, hq, e5, e6, e7, c5, c6, c7, Int32.not_le.mpr c5, Int32.not_le.mpr c6, Int32.not_le.mpr c7]
    · rw [u2_k (by omega), u2_i (by omega)]; exact a1
    · rw [u2_k (by omega), u2_s]
    · intro c i b1 b2
      rw [← f1 c i (by omega)]
      simp only [u2_ap]; repeat (rw [if_neg (by omega)])
  · refine Or.inl ⟨hK, ?_⟩
    have e1 := c39n (d := d) (A := A) (b := b) (h := h) (X := X) (J := J) (R := R) (n := n) (I := I) (k := 26) hk ht ha hj (by omega) hK
    simp (disch := omega) [je51, r51_0, r51_1, r51_3, r51_6, r51_9, r51_10, r51_11, r51_12, r51_15, r51_16, r51_17, r51_20, r51_21, r51_24, r51_25, r51_28, r51_29, r51_30, r51_33, r51_36, r51_37, r51_40, r51_41, r51_44, r51_45, r51_48, r51_50, r51_51, r51_54, r51_57, r51_58, r51_61, r51_62, r51_65, r51_66, r51_69, r51_71, r51_72, r51_75, r51_78, r51_79, r51_80, r51_83, r51_84, r51_85, r51_88, r51_89, r51_92, r51_95, r51_96, r51_99, r51_100, r51_101, r51_102, qa39, qo39, g56, qa40, qo40, vf4_1, t56_1, vf4_7, vf4_8, qa78, qo78, gP0 hP, vf4_3, qa41, qo41, vf5_14, tP0_14 hP, gP19 hP, pP19 hP, vf4_9, List.getElem?_cons_zero, List.getElem?_cons_succ, List.length_cons, List.length_nil, ag_nx, ag_dn, ag_no, ag_if, jbr1, jbr2, jc1, jc2, jnul, jld, jsto, jstoL, jst1, jst2, jkill, jinc, jbI, jbL, jbS, juI, jl2i, jcmp, jisR, jisI, jisL, jret, jretv, jfits, jdup, jdup2, jpop, jmm, jcat, Value.category, jinv, jrcv, jthr, jhd, jput, jget, jlen, jald, jast, jaast, jgI, jgL, jgB, jtab, jlku, jacp, vf20, vf21, vf22, vf23, vf24, u2_s, u2_k, u2_i, uc_s, uc_k, uc_c, u2_c, LI0, LI1, LI2, LI3, LI4, LI5, LI6, LI7, LI8, LI9, LI10, LI11, LI12, LI13, LI14, LI15, LI16, LI17, LI18, LI19, LI20, LI21, LI22, LI23, LI24, LI25, LI26, LI27, LI28, LI29, LI30, LI31, LI32, LI33, LI34, LI35, LI36, LI37, LI40, LI42, LI43, LI45, LI48, LI60, LI61, LI64, LI80, LI300, LI400, LI1000, LI2000, LI2001, LI2047, LI2048, LI100000, LI1000000, LI38, LI39, LI41, LI44, LI46, LI47, LI49, LI50, LI51, LI52, LI53, LI54, LI55, LI56, LI57, LI58, LI59, LI62, LI63, LI65, LI66, LI67, LI68, LI69, LI70, LI71, LI72, LI73, LI74, LI75, LI76, LI77, LI78, LI79, LI81, LI82, LI83, LI84, LI85, LI86, LI87, LI88, LI89, LI90, LI91, LI92, LI93, LI94, LI95, LI96, LI97, LI98, LI99, LI100, LI101, LI102, LI103, LI104, LI105, LI106, LI107, LI108, LI109, LI110, LI111, LI112, LI113, LI114, LI115, LI116, LI117, LI118, LI119, LI120, LI121, LI122, LI123, LI124, LI125, LI126, LI127, LI255, LI256, LI999, LI1001, LI1002, LI1600, LI4096, LI1000001, LI2042, LM, nI_clamp, nI_pos', nI_lt, nI_nlt, nI_le, nI_ge, nI_ne, nI_add, nI_sub, mI_lt, mI_le, mI_nlt, mI_nle, mI_ne, mI_ne', mI_nem, e1]
/-- the variable that its value comes to -/
theorem c52 (hk : kOK K m) (hP : isP P) (hR1 : R 56 1 = P) {I : Nat → Nat → Int32} {j q k : Nat} (ht : tkc K V m I) (ha : I 56 3 = nI j) (hj : j ≤ m) (h7 : I 56 7 = nI p) (hp : p < 6) (h9 : I 56 9 = nI q) (hq : q < 384) (hv : I (P + 12) p = nI k) (hk8 : k ≤ 6) (hK : K j = 40) :
    ∃ I' v, jcall A jcode (d + 2) 52 [.ref (b + 56)] (jH h b X I J R n) = some (.inl (some (.int v)), jH h b X I' J R n) ∧
    ((v = nI 1 ∧ K (j + 1) = 26 ∧ K (j + 2) = 41 ∧ I' 56 3 = nI (j + 3) ∧ I' (P + 20) q = inO (fdP (fun i => decide (I (P + 13) (p * 6 + i) = V (j + 1))) k 0) ∧ I' 56 6 = (if fdP (fun i => decide (I (P + 13) (p * 6 + i) = V (j + 1))) k 0 = none ∧ (I 56 6 = mI 1 ∨ nI (j + 1) < I 56 6) then nI (j + 1) else I 56 6) ∧ ∀ c i, ¬ (c = 56 ∧ (i = 3 ∨ i = 6)) → ¬ (c = P + 20 ∧ i = q) → I' c i = I c i) ∨
     ∃ j', v = nI 0 ∧ oF P I I' j' ∧ (∀ i, 7 ≤ i → i ≤ 9 → I' 56 i = I 56 i) ∧ ((K (j + 1) ≠ 26 ∧ j' = j + 1) ∨ (K (j + 1) = 26 ∧ K (j + 2) ≠ 41 ∧ j' = j + 2))) := by
  have hpp := isP_e hP
  have hk1 := hk.1
  have hj1 := hk.2.1 j hj (by rw [hK]; decide)
  have e1 := c39y (d := d) (A := A) (b := b) (h := h) (X := X) (J := J) (R := R) (n := n) (I := I) hk ht ha hj hK
  have t1 : tkc K V m (u2 I 56 3 (nI (j + 1))) := tkc_u (by omega) ht
  by_cases hK1 : K (j + 1) = 26
  · have hj2 := hk.2.1 (j + 1) (by omega) (by rw [hK1]; decide)
    have e2 := c39y (d := d) (A := A) (b := b) (h := h) (X := X) (J := J) (R := R) (n := n) (I := u2 I 56 3 (nI (j + 1))) hk t1 u2_s (by omega) hK1
    obtain ⟨I2, hI2⟩ : ∃ I2, I2 = u2 (u2 I 56 3 (nI (j + 1))) 56 3 (nI (j + 1 + 1)) := ⟨_, rfl⟩
    rw [← hI2] at e2
    have t2 : tkc K V m I2 := by rw [hI2]; exact tkc_u (by omega) t1
    have a2 : I2 56 3 = nI (j + 2) := by rw [hI2, u2_s]
    have f2 : ∀ c i, ¬ (c = 56 ∧ i = 3) → I2 c i = I c i := fun c i z => by
      rw [hI2]
      simp only [u2_ap]; repeat (rw [if_neg (by omega)])
    have e40 := c40 (d := d) (A := A) (b := b) (h := h) (X := X) (J := J) (R := R) (n := n) (I := I2) (j := j + 1) hk t2 a2 (by omega)
    have s7 : I2 56 7 = nI p := by rw [f2 _ _ (by omega)]; exact h7
    have s9 : I2 56 9 = nI q := by rw [f2 _ _ (by omega)]; exact h9
    have e74 := c74 (d := d) (A := A) (b := b) (h := h) (X := X) (J := J) (R := R) (n := n) (I := I2) (x := V (j + 1)) hP hp (by rw [f2 _ _ (by omega)]; exact hv) hk8
    have q13 : (fun i => decide (I2 (P + 13) (p * 6 + i) = V (j + 1))) = fun i => decide (I (P + 13) (p * 6 + i) = V (j + 1)) := by funext i; rw [f2 _ _ (by omega)]
    rw [q13] at e74
    obtain ⟨o, ho⟩ : ∃ o, o = fdP (fun i => decide (I (P + 13) (p * 6 + i) = V (j + 1))) k 0 := ⟨_, rfl⟩
    have hob := fun x (hx : o = some x) => fdP_b k 0 x (ho ▸ hx)
    rw [← ho] at e74 ⊢
    have hlt := inO_lt (o := o) (fun x hx => by have := hob x hx; omega)
    have e42 := c42m (d := d) (A := A) (b := b) (h := h) (X := X) (J := J) (R := R) (n := n) (I := I2) (t := j + 1) (x := I 56 6) (f2 _ _ (by omega))
    obtain ⟨I4, hI4⟩ : ∃ I4, I4 = u2 (u2 I2 56 6 (if o = none ∧ (I 56 6 = mI 1 ∨ nI (j + 1) < I 56 6) then nI (j + 1) else I 56 6)) (P + 20) q (inO o) := ⟨_, rfl⟩
    have t4 : tkc K V m I4 := by rw [hI4]; exact tkc_u (by omega) (tkc_u (by omega) t2)
    have a4 : I4 56 3 = nI (j + 2) := by rw [hI4, u2_k (by omega), u2_i (by omega)]; exact a2
    have f4 : ∀ c i, ¬ (c = 56 ∧ (i = 3 ∨ i = 6)) → ¬ (c = P + 20 ∧ i = q) → I4 c i = I c i := fun c i b1 b2 => by
      rw [← f2 c i (by omega), hI4]
      simp only [u2_ap]; repeat (rw [if_neg (by omega)])
    have eA : jcall A jcode (d + 2) 52 [.ref (b + 56)] (jH h b X I J R n) = M52 A (d + 1) 63 [some (.ref (b + 56)), some (.int (inO o))] [] (jH h b X I4 J R n) := by
      rw [hI4]
      by_cases hn : o = none
      · have := hlt.mpr hn
        simp only [hn, true_and]
        rw [hn] at e74 this
        simp (disch := omega) [je52, r52_0, r52_1, r52_3, r52_6, r52_9, r52_10, r52_12, r52_15, r52_18, r52_19, r52_20, r52_21, r52_24, r52_25, r52_28, r52_29, r52_32, r52_35, r52_36, r52_37, r52_40, r52_41, r52_42, r52_45, r52_46, r52_47, r52_50, r52_51, r52_54, r52_57, r52_58, r52_61, r52_62, r52_64, r52_66, r52_69, qa39, qo39, g56, vf4_1, t56_1, vf4_7, qa40, qo40, qa74, qo74, gP0 hP, vf4_3, qa42, qo42, vf5_15, tP0_15 hP, gP20 hP, pP20 hP, vf4_9, List.getElem?_cons_zero, List.getElem?_cons_succ, List.length_cons, List.length_nil, ag_nx, ag_dn, ag_no, ag_if, jbr1, jbr2, jc1, jc2, jnul, jld, jsto, jstoL, jst1, jst2, jkill, jinc, jbI, jbL, jbS, juI, jl2i, jcmp, jisR, jisI, jisL, jret, jretv, jfits, jdup, jdup2, jpop, jmm, jcat, Value.category, jinv, jrcv, jthr, jhd, jput, jget, jlen, jald, jast, jaast, jgI, jgL, jgB, jtab, jlku, jacp, vf20, vf21, vf22, vf23, vf24, u2_s, u2_k, u2_i, uc_s, uc_k, uc_c, u2_c, LI0, LI1, LI2, LI3, LI4, LI5, LI6, LI7, LI8, LI9, LI10, LI11, LI12, LI13, LI14, LI15, LI16, LI17, LI18, LI19, LI20, LI21, LI22, LI23, LI24, LI25, LI26, LI27, LI28, LI29, LI30, LI31, LI32, LI33, LI34, LI35, LI36, LI37, LI40, LI42, LI43, LI45, LI48, LI60, LI61, LI64, LI80, LI300, LI400, LI1000, LI2000, LI2001, LI2047, LI2048, LI100000, LI1000000, LI38, LI39, LI41, LI44, LI46, LI47, LI49, LI50, LI51, LI52, LI53, LI54, LI55, LI56, LI57, LI58, LI59, LI62, LI63, LI65, LI66, LI67, LI68, LI69, LI70, LI71, LI72, LI73, LI74, LI75, LI76, LI77, LI78, LI79, LI81, LI82, LI83, LI84, LI85, LI86, LI87, LI88, LI89, LI90, LI91, LI92, LI93, LI94, LI95, LI96, LI97, LI98, LI99, LI100, LI101, LI102, LI103, LI104, LI105, LI106, LI107, LI108, LI109, LI110, LI111, LI112, LI113, LI114, LI115, LI116, LI117, LI118, LI119, LI120, LI121, LI122, LI123, LI124, LI125, LI126, LI127, LI255, LI256, LI999, LI1001, LI1002, LI1600, LI4096, LI1000001, LI2042, LM, nI_clamp, nI_pos', nI_lt, nI_nlt, nI_le, nI_ge, nI_ne, nI_add, nI_sub, mI_lt, mI_le, mI_nlt, mI_nle, mI_ne, mI_ne', mI_nem, e1, e2, e40, hR1, s7, a2, s9, hq, e74, this, Int32.not_le.mpr this, e42]
      · have h1 : ¬ inO o < nI 0 := fun z => hn (hlt.mp z)
        simp only [hn, false_and, if_false]
        rw [u2_same (f2 56 6 (by omega))]
        simp (disch := omega) [je52, r52_0, r52_1, r52_3, r52_6, r52_9, r52_10, r52_12, r52_15, r52_18, r52_19, r52_20, r52_21, r52_24, r52_25, r52_28, r52_29, r52_32, r52_35, r52_36, r52_37, r52_40, r52_41, r52_42, r52_45, r52_46, r52_47, r52_50, r52_51, r52_54, r52_57, r52_58, r52_61, r52_62, r52_64, r52_66, r52_69, qa39, qo39, g56, vf4_1, t56_1, vf4_7, qa40, qo40, qa74, qo74, gP0 hP, vf4_3, qa42, qo42, vf5_15, tP0_15 hP, gP20 hP, pP20 hP, vf4_9, List.getElem?_cons_zero, List.getElem?_cons_succ, List.length_cons, List.length_nil, ag_nx, ag_dn, ag_no, ag_if, jbr1, jbr2, jc1, jc2, jnul, jld, jsto, jstoL, jst1, jst2, jkill, jinc, jbI, jbL, jbS, juI, jl2i, jcmp, jisR, jisI, jisL, jret, jretv, jfits, jdup, jdup2, jpop, jmm, jcat, Value.category, jinv, jrcv, jthr, jhd, jput, jget, jlen, jald, jast, jaast, jgI, jgL, jgB, jtab, jlku, jacp, vf20, vf21, vf22, vf23, vf24, u2_s, u2_k, u2_i, uc_s, uc_k, uc_c, u2_c, LI0, LI1, LI2, LI3, LI4, LI5, LI6, LI7, LI8, LI9, LI10, LI11, LI12, LI13, LI14, LI15, LI16, LI17, LI18, LI19, LI20, LI21, LI22, LI23, LI24, LI25, LI26, LI27, LI28, LI29, LI30, LI31, LI32, LI33, LI34, LI35, LI36, LI37, LI40, LI42, LI43, LI45, LI48, LI60, LI61, LI64, LI80, LI300, LI400, LI1000, LI2000, LI2001, LI2047, LI2048, LI100000, LI1000000, LI38, LI39, LI41, LI44, LI46, LI47, LI49, LI50, LI51, LI52, LI53, LI54, LI55, LI56, LI57, LI58, LI59, LI62, LI63, LI65, LI66, LI67, LI68, LI69, LI70, LI71, LI72, LI73, LI74, LI75, LI76, LI77, LI78, LI79, LI81, LI82, LI83, LI84, LI85, LI86, LI87, LI88, LI89, LI90, LI91, LI92, LI93, LI94, LI95, LI96, LI97, LI98, LI99, LI100, LI101, LI102, LI103, LI104, LI105, LI106, LI107, LI108, LI109, LI110, LI111, LI112, LI113, LI114, LI115, LI116, LI117, LI118, LI119, LI120, LI121, LI122, LI123, LI124, LI125, LI126, LI127, LI255, LI256, LI999, LI1001, LI1002, LI1600, LI4096, LI1000001, LI2042, LM, nI_clamp, nI_pos', nI_lt, nI_nlt, nI_le, nI_ge, nI_ne, nI_add, nI_sub, mI_lt, mI_le, mI_nlt, mI_nle, mI_ne, mI_ne', mI_nem, e1, e2, e40, hR1, s7, a2, s9, hq, e74, h1, Int32.not_lt.mp h1]
    rw [eA]
    by_cases hK2 : K (j + 2) = 41
    · have e5 := c39y (d := d) (A := A) (b := b) (h := h) (X := X) (J := J) (R := R) (n := n) (I := I4) hk t4 a4 (by omega) hK2
      refine ⟨u2 I4 56 3 (nI (j + 2 + 1)), nI 1, ?_, Or.inl ⟨rfl, hK1, hK2, u2_s, ?_, ?_, ?_⟩⟩
      · simp (disch := omega) [r52_63, r52_64, r52_66, r52_69, qa39, qo39, g56, List.getElem?_cons_zero, List.getElem?_cons_succ, List.length_cons, List.length_nil, ag_nx, ag_dn, ag_no, ag_if, jbr1, jbr2, jc1, jc2, jnul, jld, jsto, jstoL, jst1, jst2, jkill, jinc, jbI, jbL, jbS, juI, jl2i, jcmp, jisR, jisI, jisL, jret, jretv, jfits, jdup, jdup2, jpop, jmm, jcat, Value.category, jinv, jrcv, jthr, jhd, jput, jget, jlen, jald, jast, jaast, jgI, jgL, jgB, jtab, jlku, jacp, vf20, vf21, vf22, vf23, vf24, u2_s, u2_k, u2_i, uc_s, uc_k, uc_c, u2_c, LI0, LI1, LI2, LI3, LI4, LI5, LI6, LI7, LI8, LI9, LI10, LI11, LI12, LI13, LI14, LI15, LI16, LI17, LI18, LI19, LI20, LI21, LI22, LI23, LI24, LI25, LI26, LI27, LI28, LI29, LI30, LI31, LI32, LI33, LI34, LI35, LI36, LI37, LI40, LI42, LI43, LI45, LI48, LI60, LI61, LI64, LI80, LI300, LI400, LI1000, LI2000, LI2001, LI2047, LI2048, LI100000, LI1000000, LI38, LI39, LI41, LI44, LI46, LI47, LI49, LI50, LI51, LI52, LI53, LI54, LI55, LI56, LI57, LI58, LI59, LI62, LI63, LI65, LI66, LI67, LI68, LI69, LI70, LI71, LI72, LI73, LI74, LI75, LI76, LI77, LI78, LI79, LI81, LI82, LI83, LI84, LI85, LI86, LI87, LI88, LI89, LI90, LI91, LI92, LI93, LI94, LI95, LI96, LI97, LI98, LI99, LI100, LI101, LI102, LI103, LI104, LI105, LI106, LI107, LI108, LI109, LI110, LI111, LI112, LI113, LI114, LI115, LI116, LI117, LI118, LI119, LI120, LI121, LI122, LI123, LI124, LI125, LI126, LI127, LI255, LI256, LI999, LI1001, LI1002, LI1600, LI4096, LI1000001, LI2042, LM, nI_clamp, nI_pos', nI_lt, nI_nlt, nI_le, nI_ge, nI_ne, nI_add, nI_sub, mI_lt, mI_le, mI_nlt, mI_nle, mI_ne, mI_ne', mI_nem, e5]
      · rw [u2_k (by omega), hI4, u2_s]
      · rw [u2_i (by omega), hI4, u2_k (by omega), u2_s]
      · intro c i b1 b2
        rw [← f4 c i b1 b2]
        simp only [u2_ap]; repeat (rw [if_neg (by omega)])
    · have e5 := c39n (d := d) (A := A) (b := b) (h := h) (X := X) (J := J) (R := R) (n := n) (I := I4) (k := 41) hk t4 a4 (by omega) (by omega) hK2
      refine ⟨I4, nI 0, ?_, Or.inr ⟨j + 2, rfl, ⟨a4, fun c i b1 b2 b3 => f4 c i (by omega) (by omega)⟩, (fun i b1 b2 => f4 56 i (by omega) (by omega)), Or.inr ⟨hK1, hK2, rfl⟩⟩⟩
      simp (disch := omega) [r52_63, r52_64, r52_66, r52_69, qa39, qo39, g56, List.getElem?_cons_zero, List.getElem?_cons_succ, List.length_cons, List.length_nil, ag_nx, ag_dn, ag_no, ag_if, jbr1, jbr2, jc1, jc2, jnul, jld, jsto, jstoL, jst1, jst2, jkill, jinc, jbI, jbL, jbS, juI, jl2i, jcmp, jisR, jisI, jisL, jret, jretv, jfits, jdup, jdup2, jpop, jmm, jcat, Value.category, jinv, jrcv, jthr, jhd, jput, jget, jlen, jald, jast, jaast, jgI, jgL, jgB, jtab, jlku, jacp, vf20, vf21, vf22, vf23, vf24, u2_s, u2_k, u2_i, uc_s, uc_k, uc_c, u2_c, LI0, LI1, LI2, LI3, LI4, LI5, LI6, LI7, LI8, LI9, LI10, LI11, LI12, LI13, LI14, LI15, LI16, LI17, LI18, LI19, LI20, LI21, LI22, LI23, LI24, LI25, LI26, LI27, LI28, LI29, LI30, LI31, LI32, LI33, LI34, LI35, LI36, LI37, LI40, LI42, LI43, LI45, LI48, LI60, LI61, LI64, LI80, LI300, LI400, LI1000, LI2000, LI2001, LI2047, LI2048, LI100000, LI1000000, LI38, LI39, LI41, LI44, LI46, LI47, LI49, LI50, LI51, LI52, LI53, LI54, LI55, LI56, LI57, LI58, LI59, LI62, LI63, LI65, LI66, LI67, LI68, LI69, LI70, LI71, LI72, LI73, LI74, LI75, LI76, LI77, LI78, LI79, LI81, LI82, LI83, LI84, LI85, LI86, LI87, LI88, LI89, LI90, LI91, LI92, LI93, LI94, LI95, LI96, LI97, LI98, LI99, LI100, LI101, LI102, LI103, LI104, LI105, LI106, LI107, LI108, LI109, LI110, LI111, LI112, LI113, LI114, LI115, LI116, LI117, LI118, LI119, LI120, LI121, LI122, LI123, LI124, LI125, LI126, LI127, LI255, LI256, LI999, LI1001, LI1002, LI1600, LI4096, LI1000001, LI2042, LM, nI_clamp, nI_pos', nI_lt, nI_nlt, nI_le, nI_ge, nI_ne, nI_add, nI_sub, mI_lt, mI_le, mI_nlt, mI_nle, mI_ne, mI_ne', mI_nem, e5]
  · have e2 := c39n (d := d) (A := A) (b := b) (h := h) (X := X) (J := J) (R := R) (n := n) (I := u2 I 56 3 (nI (j + 1))) (k := 26) hk t1 u2_s (by omega) (by omega) hK1
    refine ⟨u2 I 56 3 (nI (j + 1)), nI 0, ?_, Or.inr ⟨j + 1, rfl, ⟨u2_s, fO_u (Or.inl rfl)⟩, (fun i b1 b2 => u2_i (by omega)), Or.inl ⟨hK1, rfl⟩⟩⟩
    simp (disch := omega) [je52, r52_0, r52_1, r52_3, r52_6, r52_9, r52_10, r52_12, r52_15, r52_18, r52_19, r52_20, r52_21, r52_24, r52_25, r52_28, r52_29, r52_32, r52_35, r52_36, r52_37, r52_40, r52_41, r52_42, r52_45, r52_46, r52_47, r52_50, r52_51, r52_54, r52_57, r52_58, r52_61, r52_62, r52_63, r52_64, r52_66, r52_69, qa39, qo39, g56, vf4_1, t56_1, vf4_7, qa40, qo40, qa74, qo74, gP0 hP, vf4_3, qa42, qo42, vf5_15, tP0_15 hP, gP20 hP, pP20 hP, vf4_9, List.getElem?_cons_zero, List.getElem?_cons_succ, List.length_cons, List.length_nil, ag_nx, ag_dn, ag_no, ag_if, jbr1, jbr2, jc1, jc2, jnul, jld, jsto, jstoL, jst1, jst2, jkill, jinc, jbI, jbL, jbS, juI, jl2i, jcmp, jisR, jisI, jisL, jret, jretv, jfits, jdup, jdup2, jpop, jmm, jcat, Value.category, jinv, jrcv, jthr, jhd, jput, jget, jlen, jald, jast, jaast, jgI, jgL, jgB, jtab, jlku, jacp, vf20, vf21, vf22, vf23, vf24, u2_s, u2_k, u2_i, uc_s, uc_k, uc_c, u2_c, LI0, LI1, LI2, LI3, LI4, LI5, LI6, LI7, LI8, LI9, LI10, LI11, LI12, LI13, LI14, LI15, LI16, LI17, LI18, LI19, LI20, LI21, LI22, LI23, LI24, LI25, LI26, LI27, LI28, LI29, LI30, LI31, LI32, LI33, LI34, LI35, LI36, LI37, LI40, LI42, LI43, LI45, LI48, LI60, LI61, LI64, LI80, LI300, LI400, LI1000, LI2000, LI2001, LI2047, LI2048, LI100000, LI1000000, LI38, LI39, LI41, LI44, LI46, LI47, LI49, LI50, LI51, LI52, LI53, LI54, LI55, LI56, LI57, LI58, LI59, LI62, LI63, LI65, LI66, LI67, LI68, LI69, LI70, LI71, LI72, LI73, LI74, LI75, LI76, LI77, LI78, LI79, LI81, LI82, LI83, LI84, LI85, LI86, LI87, LI88, LI89, LI90, LI91, LI92, LI93, LI94, LI95, LI96, LI97, LI98, LI99, LI100, LI101, LI102, LI103, LI104, LI105, LI106, LI107, LI108, LI109, LI110, LI111, LI112, LI113, LI114, LI115, LI116, LI117, LI118, LI119, LI120, LI121, LI122, LI123, LI124, LI125, LI126, LI127, LI255, LI256, LI999, LI1001, LI1002, LI1600, LI4096, LI1000001, LI2042, LM, nI_clamp, nI_pos', nI_lt, nI_nlt, nI_le, nI_ge, nI_ne, nI_add, nI_sub, mI_lt, mI_le, mI_nlt, mI_nle, mI_ne, mI_ne', mI_nem, e1, e2]
/-- a test -/
theorem c50 (hk : kOK K m) (hP : isP P) (hR1 : R 56 1 = P) (hR2 : R 56 2 = P + 4) {I : Nat → Nat → Int32} {j q L : Nat} (hX : cX K V m p I) (ha : I 56 3 = nI j) (hj : j ≤ m) (hl : I (P + 4) 4 = nI L) (hL : L ≤ j) (h9 : I 56 9 = nI q) (hq : q < 384) :
    ∃ I' v, jcall A jcode (d + 46) 50 [.ref (b + 56)] (jH h b X I J R n) = some (.inl (some (.int v)), jH h b X I' J R n) ∧
    ((∃ l j', xB K p 8 j = (some l, j') ∧ v = nI 1 ∧ I' 56 3 = nI j' ∧ I' (P + 21) q = nI L ∧ I' (P + 4) 4 = nI (L + (l ++ [oz p 28 (j' - 1)]).length) ∧ seg V P I' L (l ++ [oz p 28 (j' - 1)]) ∧ ∀ c i, ¬ (c = 56 ∧ i = 3) → ¬ (c = P + 4 ∧ i = 4) → ¬ (P + 5 ≤ c ∧ c ≤ P + 8 ∧ L ≤ i) → ¬ (c = P + 21 ∧ i = q) → I' c i = I c i) ∨
     ∃ j', xB K p 8 j = (none, j') ∧ v = nI 0 ∧ oF P I I' j' ∧ (∀ i, 7 ≤ i → i ≤ 9 → I' 56 i = I 56 i)) := by
  have hpp := isP_e hP
  have hk1 := hk.1
  obtain ⟨I1, hI1⟩ : ∃ I1, I1 = u2 I (P + 21) q (nI L) := ⟨_, rfl⟩
  have f1 : ∀ c i, ¬ (c = P + 21 ∧ i = q) → I1 c i = I c i := fun c i z => by
    rw [hI1]
    simp only [u2_ap]; repeat (rw [if_neg (by omega)])
  have X1 : cX K V m p I1 := ⟨by rw [hI1]; exact tkc_u (by omega) hX.1, by rw [f1 _ _ (by omega)]; exact hX.2⟩
  have o1 := xB_ok (pr := p) hk.2.1 8 j hj
  obtain ⟨I2, v2, e2, h2⟩ := cBr (A := A) (b := b) (h := h) (X := X) (J := J) (R := R) (n := n) (V := V) (pr := p) hk hP hR2 (g := 8) (by omega) d I1 L j X1 (by rw [f1 _ _ (by omega)]; exact ha) hj (by rw [f1 _ _ (by omega)]; exact hl) hL
  rw [show d + (5 * 8 + 4) + 1 = d + 45 from rfl, show 8 - 8 = 0 from rfl] at e2
  rcases h2 with ⟨j2, a2, rfl, h2⟩ | ⟨l2, j2, a2, rfl, h2⟩
  · replace a2 : xB K p 8 j = (none, j2) := a2
    refine ⟨I2, nI 0, ?_, Or.inr ⟨j2, a2, rfl, ⟨h2.1, fun c i b1 b2 b3 => ?_⟩, fun i b1 b2 => ?_⟩⟩
    · simp (disch := omega) [je50, r50_0, r50_1, r50_4, r50_7, r50_8, r50_11, r50_12, r50_15, r50_18, r50_19, r50_20, r50_21, r50_24, r50_27, r50_28, r50_29, r50_30, r50_33, r50_35, r50_36, r50_37, r50_40, r50_41, r50_44, r50_45, r50_46, r50_49, r50_50, r50_51, g56, vf4_1, t56_1, gP0 hP, vf5_16, tP0_16 hP, gP21 hP, pP21 hP, vf4_9, vf4_2, t56_2, gP4 hP, vf1_4, qa63, qo63, vf4_7, vf4_3, qa13, qo13, List.getElem?_cons_zero, List.getElem?_cons_succ, List.length_cons, List.length_nil, ag_nx, ag_dn, ag_no, ag_if, jbr1, jbr2, jc1, jc2, jnul, jld, jsto, jstoL, jst1, jst2, jkill, jinc, jbI, jbL, jbS, juI, jl2i, jcmp, jisR, jisI, jisL, jret, jretv, jfits, jdup, jdup2, jpop, jmm, jcat, Value.category, jinv, jrcv, jthr, jhd, jput, jget, jlen, jald, jast, jaast, jgI, jgL, jgB, jtab, jlku, jacp, vf20, vf21, vf22, vf23, vf24, u2_s, u2_k, u2_i, uc_s, uc_k, uc_c, u2_c, LI0, LI1, LI2, LI3, LI4, LI5, LI6, LI7, LI8, LI9, LI10, LI11, LI12, LI13, LI14, LI15, LI16, LI17, LI18, LI19, LI20, LI21, LI22, LI23, LI24, LI25, LI26, LI27, LI28, LI29, LI30, LI31, LI32, LI33, LI34, LI35, LI36, LI37, LI40, LI42, LI43, LI45, LI48, LI60, LI61, LI64, LI80, LI300, LI400, LI1000, LI2000, LI2001, LI2047, LI2048, LI100000, LI1000000, LI38, LI39, LI41, LI44, LI46, LI47, LI49, LI50, LI51, LI52, LI53, LI54, LI55, LI56, LI57, LI58, LI59, LI62, LI63, LI65, LI66, LI67, LI68, LI69, LI70, LI71, LI72, LI73, LI74, LI75, LI76, LI77, LI78, LI79, LI81, LI82, LI83, LI84, LI85, LI86, LI87, LI88, LI89, LI90, LI91, LI92, LI93, LI94, LI95, LI96, LI97, LI98, LI99, LI100, LI101, LI102, LI103, LI104, LI105, LI106, LI107, LI108, LI109, LI110, LI111, LI112, LI113, LI114, LI115, LI116, LI117, LI118, LI119, LI120, LI121, LI122, LI123, LI124, LI125, LI126, LI127, LI255, LI256, LI999, LI1001, LI1002, LI1600, LI4096, LI1000001, LI2042, LM, nI_clamp, nI_pos', nI_lt, nI_nlt, nI_le, nI_ge, nI_ne, nI_add, nI_sub, mI_lt, mI_le, mI_nlt, mI_nle, mI_ne, mI_ne', mI_nem, hR1, hR2, h9, hq, hl, ← hI1, e2]
    · rw [h2.2.1 c i (by omega) (by omega) (by omega), f1 _ _ (by omega)]
    · rw [h2.2.1 56 i (by omega) (by omega) (by omega), f1 _ _ (by omega)]
  · replace a2 : xB K p 8 j = (some l2, j2) := a2
    rw [a2] at o1
    obtain ⟨o11, o12, o13⟩ := o1
    have o14 := (o13 l2 rfl).1
    simp only at o11 o12 o14
    have hs3 := cSt_add (op := nI 28) (ar := nI 0) (pe := nI p) (tk := nI (j2 - 1)) (oz p 28 (j2 - 1)) hP h2 rfl rfl rfl rfl
    have e13 := c13 (d := d + 44) (A := A) (b := b) (h := h) (X := X) (J := J) (R := R) (n := n) (I := I2) (L := L + l2.length) (op := nI 28) (ar := nI 0) (pe := nI p) (tk := nI (j2 - 1)) hP h2.2.2.1 (by omega)
    have s7 : I2 56 7 = nI p := (cX_f hP h2.2.1 X1).2
    have s3 := h2.1
    have hj1 := xB_lt hk.2.1 hj a2
    refine ⟨_, nI 1, ?_, Or.inl ⟨l2, j2, a2, rfl, hs3.1, ?_, hs3.2.2.1, hs3.2.2.2, fun c i b1 b2 b3 b4 => ?_⟩⟩
    · simp (disch := omega) [je50, r50_0, r50_1, r50_4, r50_7, r50_8, r50_11, r50_12, r50_15, r50_18, r50_19, r50_20, r50_21, r50_24, r50_27, r50_28, r50_29, r50_30, r50_33, r50_35, r50_36, r50_37, r50_40, r50_41, r50_44, r50_45, r50_46, r50_49, r50_50, r50_51, g56, vf4_1, t56_1, gP0 hP, vf5_16, tP0_16 hP, gP21 hP, pP21 hP, vf4_9, vf4_2, t56_2, gP4 hP, vf1_4, qa63, qo63, vf4_7, vf4_3, qa13, qo13, List.getElem?_cons_zero, List.getElem?_cons_succ, List.length_cons, List.length_nil, ag_nx, ag_dn, ag_no, ag_if, jbr1, jbr2, jc1, jc2, jnul, jld, jsto, jstoL, jst1, jst2, jkill, jinc, jbI, jbL, jbS, juI, jl2i, jcmp, jisR, jisI, jisL, jret, jretv, jfits, jdup, jdup2, jpop, jmm, jcat, Value.category, jinv, jrcv, jthr, jhd, jput, jget, jlen, jald, jast, jaast, jgI, jgL, jgB, jtab, jlku, jacp, vf20, vf21, vf22, vf23, vf24, u2_s, u2_k, u2_i, uc_s, uc_k, uc_c, u2_c, LI0, LI1, LI2, LI3, LI4, LI5, LI6, LI7, LI8, LI9, LI10, LI11, LI12, LI13, LI14, LI15, LI16, LI17, LI18, LI19, LI20, LI21, LI22, LI23, LI24, LI25, LI26, LI27, LI28, LI29, LI30, LI31, LI32, LI33, LI34, LI35, LI36, LI37, LI40, LI42, LI43, LI45, LI48, LI60, LI61, LI64, LI80, LI300, LI400, LI1000, LI2000, LI2001, LI2047, LI2048, LI100000, LI1000000, LI38, LI39, LI41, LI44, LI46, LI47, LI49, LI50, LI51, LI52, LI53, LI54, LI55, LI56, LI57, LI58, LI59, LI62, LI63, LI65, LI66, LI67, LI68, LI69, LI70, LI71, LI72, LI73, LI74, LI75, LI76, LI77, LI78, LI79, LI81, LI82, LI83, LI84, LI85, LI86, LI87, LI88, LI89, LI90, LI91, LI92, LI93, LI94, LI95, LI96, LI97, LI98, LI99, LI100, LI101, LI102, LI103, LI104, LI105, LI106, LI107, LI108, LI109, LI110, LI111, LI112, LI113, LI114, LI115, LI116, LI117, LI118, LI119, LI120, LI121, LI122, LI123, LI124, LI125, LI126, LI127, LI255, LI256, LI999, LI1001, LI1002, LI1600, LI4096, LI1000001, LI2042, LM, nI_clamp, nI_pos', nI_lt, nI_nlt, nI_le, nI_ge, nI_ne, nI_add, nI_sub, mI_lt, mI_le, mI_nlt, mI_nle, mI_ne, mI_ne', mI_nem, hR1, hR2, h9, hq, hl, ← hI1, e2, s7, s3, e13]
    · rw [hs3.2.1 _ _ (by omega) (by omega) (by omega), hI1, u2_s]
    · rw [hs3.2.1 c i b1 b2 b3, f1 _ _ b4]
end CHC
