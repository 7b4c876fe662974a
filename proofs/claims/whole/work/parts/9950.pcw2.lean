/-! the class's plan as it is read -/
section MPL
variable (K : Nat → Nat) (V : Nat → Int32) (P : Nat) (I : Nat → Nat → Int32)
/-- clause q -/
def mC (lets : List Nat) (q : Nat) (c : qCl) : Prop := (5 ≤ K c.1 ∧ K c.1 ≤ 9) ∧ I (P + 18) q = nI (K c.1) ∧ I (P + 19) q = (if K c.1 ≤ 7 then V (c.1 + 1) else mI 1) ∧ I (P + 20) q = (match c.2.1 with | none => mI 1 | some v => inO (lets.findIdx? (fun x => eqV V x v))) ∧ (K c.1 = 8 → I (P + 21) q = nI c.2.2.1.1) ∧ (K c.1 ≠ 7 → I (P + 22) q = nI c.2.2.2.1)
/-- state k of the process p -/
def mQ (lets : List Nat) (p k : Nat) (s : qSt) : Prop := I (P + 16) (p * 8 + k) = V s.1 ∧ I (P + 17) (p * 8 + k) = nI s.2.length ∧ s.2.length ≤ 8 ∧ ∀ i c, s.2[i]? = some c → mC K V P I lets ((p * 8 + k) * 8 + i) c
def mP (p : Nat) (c : qPr) : Prop := I (P + 9) p = V c.1 ∧ I (P + 10) p = V (c.1 + 2) ∧ I (P + 11) p = nI c.2.2.1.1 ∧ mL V P p I c.2.1 ∧ I (P + 15) p = nI c.2.2.2.length ∧ c.2.2.2.length ≤ 8 ∧ (∀ k s, c.2.2.2[k]? = some s → mQ K V P I c.2.1 p k s) ∧ ∀ k, c.2.2.2.length ≤ k → k < 8 → I (P + 17) (p * 8 + k) = nI 0
def mS (F : List qPr) : Prop := F.length ≤ 6 ∧ (∀ p c, F[p]? = some c → mP K V P I p c) ∧ ∀ p, F.length ≤ p → p < 6 → I (P + 12) p = nI 0 ∧ I (P + 15) p = nI 0 ∧ ∀ k, k < 8 → I (P + 17) (p * 8 + k) = nI 0
/-- never beyond what there is room for -/
def oB : Prop := (∀ p, p < 6 → ∃ k, k ≤ 6 ∧ I (P + 12) p = nI k) ∧ (∀ p, p < 6 → ∃ k, k ≤ 8 ∧ I (P + 15) p = nI k) ∧ ∀ q, q < 48 → ∃ k, k ≤ 8 ∧ I (P + 17) q = nI k
end MPL
/-- whose cell it is -/
def pix (P c i : Nat) : Nat := if c = P + 13 ∨ c = P + 14 then i / 6 else if c = P + 16 ∨ c = P + 17 then i / 8 else if P + 18 ≤ c then i / 64 else i
section MFR
variable {K : Nat → Nat} {V : Nat → Int32} {P : Nat} {I I' : Nat → Nat → Int32}
theorem lt_some {β : Type} {l : List β} {i : Nat} {x : β} (h : l[i]? = some x) : i < l.length := by
  rcases Nat.lt_or_ge i l.length with h1 | h1
  · exact h1
  · rw [List.getElem?_eq_none h1] at h; cases h
theorem mC_fr {lets : List Nat} {q : Nat} {c : qCl} (hf : ∀ k, 18 ≤ k → k ≤ 22 → I' (P + k) q = I (P + k) q) (h : mC K V P I lets q c) : mC K V P I' lets q c := by
  unfold mC at h ⊢
  rw [hf 18 (by omega) (by omega), hf 19 (by omega) (by omega), hf 20 (by omega) (by omega), hf 21 (by omega) (by omega), hf 22 (by omega) (by omega)]
  exact h
theorem mQ_fr {lets : List Nat} {p k : Nat} {s : qSt} (h1 : I' (P + 16) (p * 8 + k) = I (P + 16) (p * 8 + k)) (h2 : I' (P + 17) (p * 8 + k) = I (P + 17) (p * 8 + k)) (hf : ∀ c i, 18 ≤ c → c ≤ 22 → i < 8 → I' (P + c) ((p * 8 + k) * 8 + i) = I (P + c) ((p * 8 + k) * 8 + i)) (h : mQ K V P I lets p k s) : mQ K V P I' lets p k s := by
  obtain ⟨a1, a2, a3, a4⟩ := h
  refine ⟨h1.trans a1, h2.trans a2, a3, fun i c hc => ?_⟩
  have := lt_some hc
  exact mC_fr (fun z b1 b2 => hf z i b1 b2 (by omega)) (a4 i c hc)
theorem mL_fr {p : Nat} {vs : List Nat} (h1 : I' (P + 12) p = I (P + 12) p) (hf : ∀ c i, c = 13 ∨ c = 14 → i < 6 → I' (P + c) (p * 6 + i) = I (P + c) (p * 6 + i)) (h : mL V P p I vs) : mL V P p I' vs := by
  obtain ⟨a1, a2, a3⟩ := h
  refine ⟨h1.trans a1, a2, fun k v hv => ?_⟩
  have := lt_some hv
  rw [hf 13 k (by omega) (by omega), hf 14 k (by omega) (by omega)]
  exact a3 k v hv
theorem mP_fr {p : Nat} {c : qPr} (hf : ∀ c i, P + 9 ≤ c → c ≤ P + 22 → pix P c i = p → I' c i = I c i) (h : mP K V P I p c) : mP K V P I' p c := by
  have g1 : ∀ k, k = 9 ∨ k = 10 ∨ k = 11 ∨ k = 12 ∨ k = 15 → I' (P + k) p = I (P + k) p := fun k hk => hf _ _ (by omega) (by omega) (by unfold pix; rw [if_neg (by omega), if_neg (by omega), if_neg (by omega)])
  have g2 : ∀ c i, c = 13 ∨ c = 14 → i < 6 → I' (P + c) (p * 6 + i) = I (P + c) (p * 6 + i) := fun c i hc hi => hf _ _ (by omega) (by omega) (by unfold pix; rw [if_pos (by omega)]; omega)
  have g3 : ∀ c i, c = 16 ∨ c = 17 → i < 8 → I' (P + c) (p * 8 + i) = I (P + c) (p * 8 + i) := fun c i hc hi => hf _ _ (by omega) (by omega) (by unfold pix; rw [if_neg (by omega), if_pos (by omega)]; omega)
  have g4 : ∀ c k i, 18 ≤ c → c ≤ 22 → k < 8 → i < 8 → I' (P + c) ((p * 8 + k) * 8 + i) = I (P + c) ((p * 8 + k) * 8 + i) := fun c k i h1 h2 hk hi => hf _ _ (by omega) (by omega) (by unfold pix; rw [if_neg (by omega), if_neg (by omega), if_pos (by omega)]; omega)
  obtain ⟨a1, a2, a3, a4, a5, a6, a7, a8⟩ := h
  refine ⟨(g1 9 (by omega)).trans a1, (g1 10 (by omega)).trans a2, (g1 11 (by omega)).trans a3, mL_fr (g1 12 (by omega)) g2 a4, (g1 15 (by omega)).trans a5, a6, fun k s hs => ?_, fun k h1 h2 => (g3 17 k (by omega) h2).trans (a8 k h1 h2)⟩
  have hk := lt_some hs
  exact mQ_fr (g3 16 k (by omega) (by omega)) (g3 17 k (by omega) (by omega)) (fun c i b1 b2 b3 => g4 c k i b1 b2 (by omega) b3) (a7 k s hs)
/-- all processes but p stay -/
theorem mS_fr {F : List qPr} (hf : ∀ c i, P + 9 ≤ c → c ≤ P + 22 → I' c i = I c i) (h : mS K V P I F) : mS K V P I' F := by
  obtain ⟨a1, a2, a3⟩ := h
  refine ⟨a1, fun p c hc => mP_fr (fun z i b1 b2 _ => hf z i b1 b2) (a2 p c hc), fun p b1 b2 => ?_⟩
  rw [hf _ _ (by omega) (by omega), hf _ _ (by omega) (by omega)]
  exact ⟨(a3 p b1 b2).1, (a3 p b1 b2).2.1, fun k hk => by rw [hf _ _ (by omega) (by omega)]; exact (a3 p b1 b2).2.2 k hk⟩
theorem oB_fr (h2 : ∀ i, I' (P + 12) i = I (P + 12) i) (h5 : ∀ i, I' (P + 15) i = I (P + 15) i) (h7 : ∀ i, I' (P + 17) i = I (P + 17) i) (h : oB P I) : oB P I' := by
  unfold oB at h ⊢
  simp only [h2, h5, h7]
  exact h
theorem mL_any {p x : Nat} {vs : List Nat} (h : mL V P p I vs) : (List.range vs.length).any (fun i => decide (I (P + 13) (p * 6 + i) = V x)) = vs.any (fun y => eqV V y x) := by
  rw [Bool.eq_iff_iff, List.any_eq_true, List.any_eq_true]
  constructor
  · rintro ⟨i, hi, hd⟩
    have hi := List.mem_range.mp hi
    have hv : vs[i]? = some vs[i] := List.getElem?_eq_getElem hi
    have := (h.2.2 i _ hv).1
    refine ⟨vs[i], List.getElem_mem hi, ?_⟩
    unfold eqV
    rw [this] at hd
    exact hd
  · rintro ⟨y, hy, hd⟩
    obtain ⟨i, hi⟩ := List.mem_iff_getElem?.mp hy
    refine ⟨i, List.mem_range.mpr (lt_some hi), ?_⟩
    rw [(h.2.2 i y hi).1]
    exact hd
end MFR
section CPR
variable {A : Nat → Nat} {d b n P m p : Nat} {h : Nat → Option jC} {X : jXX} {J : Nat → Nat → Int64} {R : Nat → Nat → Nat} {K : Nat → Nat} {V : Nat → Int32}
theorem c44 (hP : isP P) (hR1 : R 56 1 = P) {I : Nat → Nat → Int32} {a np : Nat} {x : Int32} {e : Option Nat} (ha : I 56 3 = nI (a + 1)) (ha2 : a < 2 ^ 30) (h3 : I P 3 = nI np) (hnp : np ≤ 6) (h5 : I 56 5 = exI e) (he : ∀ x, e = some x → x < 2 ^ 31) :
    jcall A jcode (d + 2) 44 [.ref (b + 56), .int x] (jH h b X I J R n) = some (.inl none, jH h b X (u2 (u2 (u2 (u2 I 56 5 (exI (e.or (if 6 ≤ np ∨ (List.range np).any (fun i => decide (I (P + 9) i = x)) = true then some a else none)))) 56 7 (nI (min np 5))) (P + 9) (min np 5) x) P 3 (nI (min np 5 + 1))) J R n) := by
  have hpp := isP_e hP
  have e73 := c73 (d := d) (A := A) (b := b) (h := h) (X := X) (J := J) (R := R) (n := n) (I := I) (x := x) hP h3 hnp
  obtain ⟨o, ho⟩ : ∃ o, o = fdP (fun i => decide (I (P + 9) i = x)) np 0 := ⟨_, rfl⟩
  have hob := fun x (hx : o = some x) => fdP_b np 0 x (ho ▸ hx)
  have hany := fdP_any (q := fun i => decide (I (P + 9) i = x)) np 0
  rw [← ho] at e73 hany
  simp only [Nat.zero_add] at hany
  have hlt := inO_lt (o := o) (fun x hx => by have := hob x hx; omega)
  obtain ⟨e', he'⟩ : ∃ e', e' = e.or (if 6 ≤ np ∨ (List.range np).any (fun i => decide (I (P + 9) i = x)) = true then some a else none) := ⟨_, rfl⟩
  rw [← he']
  have e41 := c41 (d := d) (A := A) (b := b) (h := h) (X := X) (J := J) (R := R) (n := n) (I := I) (t := a) h5 he
  have eA : jcall A jcode (d + 2) 44 [.ref (b + 56), .int x] (jH h b X I J R n) = M44 A (d + 1) 33 [some (.ref (b + 56)), some (.int x)] [] (jH h b X (u2 I 56 5 (exI e')) J R n) := by
    by_cases hc : 6 ≤ np ∨ (List.range np).any (fun i => decide (I (P + 9) i = x)) = true
    · rw [if_pos hc] at he'
      rw [he']
      by_cases hn : o = none
      · have h6 : 6 ≤ np := by
          rcases hc with hc | hc
          · exact hc
          · rw [hn, hc] at hany; cases hany
        have := hlt.mpr hn
        simp (disch := omega) [je44, r44_0, r44_1, r44_4, r44_5, r44_8, r44_11, r44_12, r44_15, r44_18, r44_20, r44_23, r44_24, r44_25, r44_28, r44_29, r44_30, r44_34, r44_35, r44_38, r44_41, r44_42, r44_45, r44_48, r44_49, r44_52, r44_55, r44_56, r44_59, r44_60, r44_61, r44_62, r44_65, r44_66, r44_69, r44_70, r44_71, r44_74, g56, vf4_1, t56_1, qa73, qo73, gP0 hP, vf5_3, vf4_3, qa41, qo41, p56_7, ty4_7, vf5_4, tP0_4 hP, gP9 hP, pP9 hP, vf4_7, pP0_3 hP, ty5_3, List.getElem?_cons_zero, List.getElem?_cons_succ, List.length_cons, List.length_nil, ag_nx, ag_dn, ag_no, ag_if, jbr1, jbr2, jc1, jc2, jnul, jld, jsto, jstoL, jst1, jst2, jkill, jinc, jbI, jbL, jbS, juI, jl2i, jcmp, jisR, jisI, jisL, jret, jretv, jfits, jdup, jdup2, jpop, jmm, jcat, Value.category, jinv, jrcv, jthr, jhd, jput, jget, jlen, jald, jast, jaast, jgI, jgL, jgB, jtab, jlku, jacp, vf20, vf21, vf22, vf23, vf24, u2_s, u2_k, u2_i, uc_s, uc_k, uc_c, u2_c, LI0, LI1, LI2, LI3, LI4, LI5, LI6, LI7, LI8, LI9, LI10, LI11, LI12, LI13, LI14, LI15, LI16, LI17, LI18, LI19, LI20, LI21, LI22, LI23, LI24, LI25, LI26, LI27, LI28, LI29, LI30, LI31, LI32, LI33, LI34, LI35, LI36, LI37, LI40, LI42, LI43, LI45, LI48, LI60, LI61, LI64, LI80, LI300, LI400, LI1000, LI2000, LI2001, LI2047, LI2048, LI100000, LI1000000, LI38, LI39, LI41, LI44, LI46, LI47, LI49, LI50, LI51, LI52, LI53, LI54, LI55, LI56, LI57, LI58, LI59, LI62, LI63, LI65, LI66, LI67, LI68, LI69, LI70, LI71, LI72, LI73, LI74, LI75, LI76, LI77, LI78, LI79, LI81, LI82, LI83, LI84, LI85, LI86, LI87, LI88, LI89, LI90, LI91, LI92, LI93, LI94, LI95, LI96, LI97, LI98, LI99, LI100, LI101, LI102, LI103, LI104, LI105, LI106, LI107, LI108, LI109, LI110, LI111, LI112, LI113, LI114, LI115, LI116, LI117, LI118, LI119, LI120, LI121, LI122, LI123, LI124, LI125, LI126, LI127, LI255, LI256, LI999, LI1001, LI1002, LI1600, LI4096, LI1000001, LI2042, LM, nI_clamp, nI_pos', nI_lt, nI_nlt, nI_le, nI_ge, nI_ne, nI_add, nI_sub, mI_lt, mI_le, mI_nlt, mI_nle, mI_ne, mI_ne', mI_nem, hR1, ha, h3, e73, this, Int32.not_le.mpr this, e41]
      · have h1 : ¬ inO o < nI 0 := fun z => hn (hlt.mp z)
        simp (disch := omega) [je44, r44_0, r44_1, r44_4, r44_5, r44_8, r44_11, r44_12, r44_15, r44_18, r44_20, r44_23, r44_24, r44_25, r44_28, r44_29, r44_30, r44_34, r44_35, r44_38, r44_41, r44_42, r44_45, r44_48, r44_49, r44_52, r44_55, r44_56, r44_59, r44_60, r44_61, r44_62, r44_65, r44_66, r44_69, r44_70, r44_71, r44_74, g56, vf4_1, t56_1, qa73, qo73, gP0 hP, vf5_3, vf4_3, qa41, qo41, p56_7, ty4_7, vf5_4, tP0_4 hP, gP9 hP, pP9 hP, vf4_7, pP0_3 hP, ty5_3, List.getElem?_cons_zero, List.getElem?_cons_succ, List.length_cons, List.length_nil, ag_nx, ag_dn, ag_no, ag_if, jbr1, jbr2, jc1, jc2, jnul, jld, jsto, jstoL, jst1, jst2, jkill, jinc, jbI, jbL, jbS, juI, jl2i, jcmp, jisR, jisI, jisL, jret, jretv, jfits, jdup, jdup2, jpop, jmm, jcat, Value.category, jinv, jrcv, jthr, jhd, jput, jget, jlen, jald, jast, jaast, jgI, jgL, jgB, jtab, jlku, jacp, vf20, vf21, vf22, vf23, vf24, u2_s, u2_k, u2_i, uc_s, uc_k, uc_c, u2_c, LI0, LI1, LI2, LI3, LI4, LI5, LI6, LI7, LI8, LI9, LI10, LI11, LI12, LI13, LI14, LI15, LI16, LI17, LI18, LI19, LI20, LI21, LI22, LI23, LI24, LI25, LI26, LI27, LI28, LI29, LI30, LI31, LI32, LI33, LI34, LI35, LI36, LI37, LI40, LI42, LI43, LI45, LI48, LI60, LI61, LI64, LI80, LI300, LI400, LI1000, LI2000, LI2001, LI2047, LI2048, LI100000, LI1000000, LI38, LI39, LI41, LI44, LI46, LI47, LI49, LI50, LI51, LI52, LI53, LI54, LI55, LI56, LI57, LI58, LI59, LI62, LI63, LI65, LI66, LI67, LI68, LI69, LI70, LI71, LI72, LI73, LI74, LI75, LI76, LI77, LI78, LI79, LI81, LI82, LI83, LI84, LI85, LI86, LI87, LI88, LI89, LI90, LI91, LI92, LI93, LI94, LI95, LI96, LI97, LI98, LI99, LI100, LI101, LI102, LI103, LI104, LI105, LI106, LI107, LI108, LI109, LI110, LI111, LI112, LI113, LI114, LI115, LI116, LI117, LI118, LI119, LI120, LI121, LI122, LI123, LI124, LI125, LI126, LI127, LI255, LI256, LI999, LI1001, LI1002, LI1600, LI4096, LI1000001, LI2042, LM, nI_clamp, nI_pos', nI_lt, nI_nlt, nI_le, nI_ge, nI_ne, nI_add, nI_sub, mI_lt, mI_le, mI_nlt, mI_nle, mI_ne, mI_ne', mI_nem, hR1, ha, h3, e73, h1, Int32.not_lt.mp h1, e41]
    · rw [if_neg hc] at he'
      have hn : o = none := by
        cases o with
        | none => rfl
        | some x => rw [← hany] at hc; simp at hc
      have h6 : ¬ 6 ≤ np := fun z => hc (Or.inl z)
      have := hlt.mpr hn
      rw [he']
      simp only [Option.or_none]
      rw [u2_same h5]
      simp (disch := omega) [je44, r44_0, r44_1, r44_4, r44_5, r44_8, r44_11, r44_12, r44_15, r44_18, r44_20, r44_23, r44_24, r44_25, r44_28, r44_29, r44_30, r44_34, r44_35, r44_38, r44_41, r44_42, r44_45, r44_48, r44_49, r44_52, r44_55, r44_56, r44_59, r44_60, r44_61, r44_62, r44_65, r44_66, r44_69, r44_70, r44_71, r44_74, g56, vf4_1, t56_1, qa73, qo73, gP0 hP, vf5_3, vf4_3, qa41, qo41, p56_7, ty4_7, vf5_4, tP0_4 hP, gP9 hP, pP9 hP, vf4_7, pP0_3 hP, ty5_3, List.getElem?_cons_zero, List.getElem?_cons_succ, List.length_cons, List.length_nil, ag_nx, ag_dn, ag_no, ag_if, jbr1, jbr2, jc1, jc2, jnul, jld, jsto, jstoL, jst1, jst2, jkill, jinc, jbI, jbL, jbS, juI, jl2i, jcmp, jisR, jisI, jisL, jret, jretv, jfits, jdup, jdup2, jpop, jmm, jcat, Value.category, jinv, jrcv, jthr, jhd, jput, jget, jlen, jald, jast, jaast, jgI, jgL, jgB, jtab, jlku, jacp, vf20, vf21, vf22, vf23, vf24, u2_s, u2_k, u2_i, uc_s, uc_k, uc_c, u2_c, LI0, LI1, LI2, LI3, LI4, LI5, LI6, LI7, LI8, LI9, LI10, LI11, LI12, LI13, LI14, LI15, LI16, LI17, LI18, LI19, LI20, LI21, LI22, LI23, LI24, LI25, LI26, LI27, LI28, LI29, LI30, LI31, LI32, LI33, LI34, LI35, LI36, LI37, LI40, LI42, LI43, LI45, LI48, LI60, LI61, LI64, LI80, LI300, LI400, LI1000, LI2000, LI2001, LI2047, LI2048, LI100000, LI1000000, LI38, LI39, LI41, LI44, LI46, LI47, LI49, LI50, LI51, LI52, LI53, LI54, LI55, LI56, LI57, LI58, LI59, LI62, LI63, LI65, LI66, LI67, LI68, LI69, LI70, LI71, LI72, LI73, LI74, LI75, LI76, LI77, LI78, LI79, LI81, LI82, LI83, LI84, LI85, LI86, LI87, LI88, LI89, LI90, LI91, LI92, LI93, LI94, LI95, LI96, LI97, LI98, LI99, LI100, LI101, LI102, LI103, LI104, LI105, LI106, LI107, LI108, LI109, LI110, LI111, LI112, LI113, LI114, LI115, LI116, LI117, LI118, LI119, LI120, LI121, LI122, LI123, LI124, LI125, LI126, LI127, LI255, LI256, LI999, LI1001, LI1002, LI1600, LI4096, LI1000001, LI2042, LM, nI_clamp, nI_pos', nI_lt, nI_nlt, nI_le, nI_ge, nI_ne, nI_add, nI_sub, mI_lt, mI_le, mI_nlt, mI_nle, mI_ne, mI_ne', mI_nem, hR1, ha, h3, e73, this, Int32.not_le.mpr this]
  rw [eA]
  have hmn : min np 5 < 6 := by omega
  by_cases hk5 : np < 5
  · rw [show min np 5 = np by omega] at hmn ⊢
    simp (disch := omega) [r44_0, r44_1, r44_4, r44_5, r44_8, r44_11, r44_12, r44_15, r44_18, r44_20, r44_23, r44_24, r44_25, r44_28, r44_29, r44_30, r44_33, r44_34, r44_35, r44_38, r44_41, r44_42, r44_45, r44_48, r44_49, r44_52, r44_55, r44_56, r44_59, r44_60, r44_61, r44_62, r44_65, r44_66, r44_69, r44_70, r44_71, r44_74, g56, vf4_1, t56_1, qa73, qo73, gP0 hP, vf5_3, vf4_3, qa41, qo41, p56_7, ty4_7, vf5_4, tP0_4 hP, gP9 hP, pP9 hP, vf4_7, pP0_3 hP, ty5_3, List.getElem?_cons_zero, List.getElem?_cons_succ, List.length_cons, List.length_nil, ag_nx, ag_dn, ag_no, ag_if, jbr1, jbr2, jc1, jc2, jnul, jld, jsto, jstoL, jst1, jst2, jkill, jinc, jbI, jbL, jbS, juI, jl2i, jcmp, jisR, jisI, jisL, jret, jretv, jfits, jdup, jdup2, jpop, jmm, jcat, Value.category, jinv, jrcv, jthr, jhd, jput, jget, jlen, jald, jast, jaast, jgI, jgL, jgB, jtab, jlku, jacp, vf20, vf21, vf22, vf23, vf24, u2_s, u2_k, u2_i, uc_s, uc_k, uc_c, u2_c, LI0, LI1, LI2, LI3, LI4, LI5, LI6, LI7, LI8, LI9, LI10, LI11, LI12, LI13, LI14, LI15, LI16, LI17, LI18, LI19, LI20, LI21, LI22, LI23, LI24, LI25, LI26, LI27, LI28, LI29, LI30, LI31, LI32, LI33, LI34, LI35, LI36, LI37, LI40, LI42, LI43, LI45, LI48, LI60, LI61, LI64, LI80, LI300, LI400, LI1000, LI2000, LI2001, LI2047, LI2048, LI100000, LI1000000, LI38, LI39, LI41, LI44, LI46, LI47, LI49, LI50, LI51, LI52, LI53, LI54, LI55, LI56, LI57, LI58, LI59, LI62, LI63, LI65, LI66, LI67, LI68, LI69, LI70, LI71, LI72, LI73, LI74, LI75, LI76, LI77, LI78, LI79, LI81, LI82, LI83, LI84, LI85, LI86, LI87, LI88, LI89, LI90, LI91, LI92, LI93, LI94, LI95, LI96, LI97, LI98, LI99, LI100, LI101, LI102, LI103, LI104, LI105, LI106, LI107, LI108, LI109, LI110, LI111, LI112, LI113, LI114, LI115, LI116, LI117, LI118, LI119, LI120, LI121, LI122, LI123, LI124, LI125, LI126, LI127, LI255, LI256, LI999, LI1001, LI1002, LI1600, LI4096, LI1000001, LI2042, LM, nI_clamp, nI_pos', nI_lt, nI_nlt, nI_le, nI_ge, nI_ne, nI_add, nI_sub, mI_lt, mI_le, mI_nlt, mI_nle, mI_ne, mI_ne', mI_nem, hR1, h3, hmn, hk5]
  · rw [show min np 5 = 5 by omega] at hmn ⊢
    by_cases hk55 : np = 5
    · subst hk55
      simp (disch := omega) [r44_0, r44_1, r44_4, r44_5, r44_8, r44_11, r44_12, r44_15, r44_18, r44_20, r44_23, r44_24, r44_25, r44_28, r44_29, r44_30, r44_33, r44_34, r44_35, r44_38, r44_41, r44_42, r44_45, r44_48, r44_49, r44_52, r44_55, r44_56, r44_59, r44_60, r44_61, r44_62, r44_65, r44_66, r44_69, r44_70, r44_71, r44_74, g56, vf4_1, t56_1, qa73, qo73, gP0 hP, vf5_3, vf4_3, qa41, qo41, p56_7, ty4_7, vf5_4, tP0_4 hP, gP9 hP, pP9 hP, vf4_7, pP0_3 hP, ty5_3, List.getElem?_cons_zero, List.getElem?_cons_succ, List.length_cons, List.length_nil, ag_nx, ag_dn, ag_no, ag_if, jbr1, jbr2, jc1, jc2, jnul, jld, jsto, jstoL, jst1, jst2, jkill, jinc, jbI, jbL, jbS, juI, jl2i, jcmp, jisR, jisI, jisL, jret, jretv, jfits, jdup, jdup2, jpop, jmm, jcat, Value.category, jinv, jrcv, jthr, jhd, jput, jget, jlen, jald, jast, jaast, jgI, jgL, jgB, jtab, jlku, jacp, vf20, vf21, vf22, vf23, vf24, u2_s, u2_k, u2_i, uc_s, uc_k, uc_c, u2_c, LI0, LI1, LI2, LI3, LI4, LI5, LI6, LI7, LI8, LI9, LI10, LI11, LI12, LI13, LI14, LI15, LI16, LI17, LI18, LI19, LI20, LI21, LI22, LI23, LI24, LI25, LI26, LI27, LI28, LI29, LI30, LI31, LI32, LI33, LI34, LI35, LI36, LI37, LI40, LI42, LI43, LI45, LI48, LI60, LI61, LI64, LI80, LI300, LI400, LI1000, LI2000, LI2001, LI2047, LI2048, LI100000, LI1000000, LI38, LI39, LI41, LI44, LI46, LI47, LI49, LI50, LI51, LI52, LI53, LI54, LI55, LI56, LI57, LI58, LI59, LI62, LI63, LI65, LI66, LI67, LI68, LI69, LI70, LI71, LI72, LI73, LI74, LI75, LI76, LI77, LI78, LI79, LI81, LI82, LI83, LI84, LI85, LI86, LI87, LI88, LI89, LI90, LI91, LI92, LI93, LI94, LI95, LI96, LI97, LI98, LI99, LI100, LI101, LI102, LI103, LI104, LI105, LI106, LI107, LI108, LI109, LI110, LI111, LI112, LI113, LI114, LI115, LI116, LI117, LI118, LI119, LI120, LI121, LI122, LI123, LI124, LI125, LI126, LI127, LI255, LI256, LI999, LI1001, LI1002, LI1600, LI4096, LI1000001, LI2042, LM, nI_clamp, nI_pos', nI_lt, nI_nlt, nI_le, nI_ge, nI_ne, nI_add, nI_sub, mI_lt, mI_le, mI_nlt, mI_nle, mI_ne, mI_ne', mI_nem, hR1, h3, hmn]
    · have : np = 6 := by omega
      subst this
      simp (disch := omega) [r44_0, r44_1, r44_4, r44_5, r44_8, r44_11, r44_12, r44_15, r44_18, r44_20, r44_23, r44_24, r44_25, r44_28, r44_29, r44_30, r44_33, r44_34, r44_35, r44_38, r44_41, r44_42, r44_45, r44_48, r44_49, r44_52, r44_55, r44_56, r44_59, r44_60, r44_61, r44_62, r44_65, r44_66, r44_69, r44_70, r44_71, r44_74, g56, vf4_1, t56_1, qa73, qo73, gP0 hP, vf5_3, vf4_3, qa41, qo41, p56_7, ty4_7, vf5_4, tP0_4 hP, gP9 hP, pP9 hP, vf4_7, pP0_3 hP, ty5_3, List.getElem?_cons_zero, List.getElem?_cons_succ, List.length_cons, List.length_nil, ag_nx, ag_dn, ag_no, ag_if, jbr1, jbr2, jc1, jc2, jnul, jld, jsto, jstoL, jst1, jst2, jkill, jinc, jbI, jbL, jbS, juI, jl2i, jcmp, jisR, jisI, jisL, jret, jretv, jfits, jdup, jdup2, jpop, jmm, jcat, Value.category, jinv, jrcv, jthr, jhd, jput, jget, jlen, jald, jast, jaast, jgI, jgL, jgB, jtab, jlku, jacp, vf20, vf21, vf22, vf23, vf24, u2_s, u2_k, u2_i, uc_s, uc_k, uc_c, u2_c, LI0, LI1, LI2, LI3, LI4, LI5, LI6, LI7, LI8, LI9, LI10, LI11, LI12, LI13, LI14, LI15, LI16, LI17, LI18, LI19, LI20, LI21, LI22, LI23, LI24, LI25, LI26, LI27, LI28, LI29, LI30, LI31, LI32, LI33, LI34, LI35, LI36, LI37, LI40, LI42, LI43, LI45, LI48, LI60, LI61, LI64, LI80, LI300, LI400, LI1000, LI2000, LI2001, LI2047, LI2048, LI100000, LI1000000, LI38, LI39, LI41, LI44, LI46, LI47, LI49, LI50, LI51, LI52, LI53, LI54, LI55, LI56, LI57, LI58, LI59, LI62, LI63, LI65, LI66, LI67, LI68, LI69, LI70, LI71, LI72, LI73, LI74, LI75, LI76, LI77, LI78, LI79, LI81, LI82, LI83, LI84, LI85, LI86, LI87, LI88, LI89, LI90, LI91, LI92, LI93, LI94, LI95, LI96, LI97, LI98, LI99, LI100, LI101, LI102, LI103, LI104, LI105, LI106, LI107, LI108, LI109, LI110, LI111, LI112, LI113, LI114, LI115, LI116, LI117, LI118, LI119, LI120, LI121, LI122, LI123, LI124, LI125, LI126, LI127, LI255, LI256, LI999, LI1001, LI1002, LI1600, LI4096, LI1000001, LI2042, LM, nI_clamp, nI_pos', nI_lt, nI_nlt, nI_le, nI_ge, nI_ne, nI_add, nI_sub, mI_lt, mI_le, mI_nlt, mI_nle, mI_ne, mI_ne', mI_nem, hR1, h3, hmn]
theorem c45y (hk : kOK K m) (hP : isP P) (hR1 : R 56 1 = P) {I : Nat → Nat → Int32} {j : Nat} (ht : tkc K V m I) (hl : I 3 6 = nI (m + 1)) (ha : I 56 3 = nI j) (hj : j ≤ m) (h7 : I 56 7 = nI p) (hp : p < 6) (hK : K j = 27) (hV : V j ≤ nI 3) : jcall A jcode (d + 2) 45 [.ref (b + 56)] (jH h b X I J R n) = some (.inl (some (.int (nI 1))), jH h b X (u2 (u2 I 56 3 (nI (j + 1))) (P + 10) p (V j)) J R n) := by
  have hpp := isP_e hP
  have hk1 := hk.1
  have e86 := c86 (d := d) (A := A) (b := b) (h := h) (X := X) (J := J) (R := R) (n := n) (I := I) hl hk1 hj
  rw [(ht j hj).2] at e86
  have e39 := c39y (d := d) (A := A) (b := b) (h := h) (X := X) (J := J) (R := R) (n := n) (I := I) hk ht ha hj hK
  have e40 := c40 (d := d) (A := A) (b := b) (h := h) (X := X) (J := J) (R := R) (n := n) (I := u2 I 56 3 (nI (j + 1))) hk (tkc_u (by omega) ht) u2_s hj
  simp (disch := omega) [je45, r45_0, r45_1, r45_4, r45_5, r45_8, r45_11, r45_12, r45_15, r45_16, r45_18, r45_21, r45_24, r45_25, r45_26, r45_27, r45_30, r45_33, r45_34, r45_37, r45_38, r45_41, r45_42, r45_43, g56, vf4_0, t56_0, vf4_3, qa86, qo86, g3, qa39, qo39, vf4_1, t56_1, gP0 hP, vf5_5, tP0_5 hP, gP10 hP, pP10 hP, vf4_7, qa40, qo40, List.getElem?_cons_zero, List.getElem?_cons_succ, List.length_cons, List.length_nil, ag_nx, ag_dn, ag_no, ag_if, jbr1, jbr2, jc1, jc2, jnul, jld, jsto, jstoL, jst1, jst2, jkill, jinc, jbI, jbL, jbS, juI, jl2i, jcmp, jisR, jisI, jisL, jret, jretv, jfits, jdup, jdup2, jpop, jmm, jcat, Value.category, jinv, jrcv, jthr, jhd, jput, jget, jlen, jald, jast, jaast, jgI, jgL, jgB, jtab, jlku, jacp, vf20, vf21, vf22, vf23, vf24, u2_s, u2_k, u2_i, uc_s, uc_k, uc_c, u2_c, LI0, LI1, LI2, LI3, LI4, LI5, LI6, LI7, LI8, LI9, LI10, LI11, LI12, LI13, LI14, LI15, LI16, LI17, LI18, LI19, LI20, LI21, LI22, LI23, LI24, LI25, LI26, LI27, LI28, LI29, LI30, LI31, LI32, LI33, LI34, LI35, LI36, LI37, LI40, LI42, LI43, LI45, LI48, LI60, LI61, LI64, LI80, LI300, LI400, LI1000, LI2000, LI2001, LI2047, LI2048, LI100000, LI1000000, LI38, LI39, LI41, LI44, LI46, LI47, LI49, LI50, LI51, LI52, LI53, LI54, LI55, LI56, LI57, LI58, LI59, LI62, LI63, LI65, LI66, LI67, LI68, LI69, LI70, LI71, LI72, LI73, LI74, LI75, LI76, LI77, LI78, LI79, LI81, LI82, LI83, LI84, LI85, LI86, LI87, LI88, LI89, LI90, LI91, LI92, LI93, LI94, LI95, LI96, LI97, LI98, LI99, LI100, LI101, LI102, LI103, LI104, LI105, LI106, LI107, LI108, LI109, LI110, LI111, LI112, LI113, LI114, LI115, LI116, LI117, LI118, LI119, LI120, LI121, LI122, LI123, LI124, LI125, LI126, LI127, LI255, LI256, LI999, LI1001, LI1002, LI1600, LI4096, LI1000001, LI2042, LM, nI_clamp, nI_pos', nI_lt, nI_nlt, nI_le, nI_ge, nI_ne, nI_add, nI_sub, mI_lt, mI_le, mI_nlt, mI_nle, mI_ne, mI_ne', mI_nem, hR1, ha, h7, hp, e86, Int32.not_lt.mpr hV, hV, e39, e40]
theorem c45n (hk : kOK K m) (hP : isP P) {I : Nat → Nat → Int32} {j : Nat} (ht : tkc K V m I) (hl : I 3 6 = nI (m + 1)) (ha : I 56 3 = nI j) (hj : j ≤ m) (hn : ¬ (K j = 27 ∧ V j ≤ nI 3)) : jcall A jcode (d + 2) 45 [.ref (b + 56)] (jH h b X I J R n) = some (.inl (some (.int (nI 0))), jH h b X I J R n) := by
  have hpp := isP_e hP
  have hk1 := hk.1
  have e86 := c86 (d := d) (A := A) (b := b) (h := h) (X := X) (J := J) (R := R) (n := n) (I := I) hl hk1 hj
  rw [(ht j hj).2] at e86
  by_cases hV : V j ≤ nI 3
  · have e39 := c39n (d := d) (A := A) (b := b) (h := h) (X := X) (J := J) (R := R) (n := n) (I := I) (k := 27) hk ht ha hj (by omega) (fun z => hn ⟨z, hV⟩)
    simp (disch := omega) [je45, r45_0, r45_1, r45_4, r45_5, r45_8, r45_11, r45_12, r45_15, r45_16, r45_18, r45_21, r45_24, r45_25, r45_26, r45_27, r45_30, r45_33, r45_34, r45_37, r45_38, r45_41, r45_42, r45_43, g56, vf4_0, t56_0, vf4_3, qa86, qo86, g3, qa39, qo39, vf4_1, t56_1, gP0 hP, vf5_5, tP0_5 hP, gP10 hP, pP10 hP, vf4_7, qa40, qo40, List.getElem?_cons_zero, List.getElem?_cons_succ, List.length_cons, List.length_nil, ag_nx, ag_dn, ag_no, ag_if, jbr1, jbr2, jc1, jc2, jnul, jld, jsto, jstoL, jst1, jst2, jkill, jinc, jbI, jbL, jbS, juI, jl2i, jcmp, jisR, jisI, jisL, jret, jretv, jfits, jdup, jdup2, jpop, jmm, jcat, Value.category, jinv, jrcv, jthr, jhd, jput, jget, jlen, jald, jast, jaast, jgI, jgL, jgB, jtab, jlku, jacp, vf20, vf21, vf22, vf23, vf24, u2_s, u2_k, u2_i, uc_s, uc_k, uc_c, u2_c, LI0, LI1, LI2, LI3, LI4, LI5, LI6, LI7, LI8, LI9, LI10, LI11, LI12, LI13, LI14, LI15, LI16, LI17, LI18, LI19, LI20, LI21, LI22, LI23, LI24, LI25, LI26, LI27, LI28, LI29, LI30, LI31, LI32, LI33, LI34, LI35, LI36, LI37, LI40, LI42, LI43, LI45, LI48, LI60, LI61, LI64, LI80, LI300, LI400, LI1000, LI2000, LI2001, LI2047, LI2048, LI100000, LI1000000, LI38, LI39, LI41, LI44, LI46, LI47, LI49, LI50, LI51, LI52, LI53, LI54, LI55, LI56, LI57, LI58, LI59, LI62, LI63, LI65, LI66, LI67, LI68, LI69, LI70, LI71, LI72, LI73, LI74, LI75, LI76, LI77, LI78, LI79, LI81, LI82, LI83, LI84, LI85, LI86, LI87, LI88, LI89, LI90, LI91, LI92, LI93, LI94, LI95, LI96, LI97, LI98, LI99, LI100, LI101, LI102, LI103, LI104, LI105, LI106, LI107, LI108, LI109, LI110, LI111, LI112, LI113, LI114, LI115, LI116, LI117, LI118, LI119, LI120, LI121, LI122, LI123, LI124, LI125, LI126, LI127, LI255, LI256, LI999, LI1001, LI1002, LI1600, LI4096, LI1000001, LI2042, LM, nI_clamp, nI_pos', nI_lt, nI_nlt, nI_le, nI_ge, nI_ne, nI_add, nI_sub, mI_lt, mI_le, mI_nlt, mI_nle, mI_ne, mI_ne', mI_nem, ha, e86, Int32.not_lt.mpr hV, hV, e39]
  · have := Int32.not_le.mp hV
    simp (disch := omega) [je45, r45_0, r45_1, r45_4, r45_5, r45_8, r45_11, r45_12, r45_15, r45_16, r45_18, r45_21, r45_24, r45_25, r45_26, r45_27, r45_30, r45_33, r45_34, r45_37, r45_38, r45_41, r45_42, r45_43, g56, vf4_0, t56_0, vf4_3, qa86, qo86, g3, qa39, qo39, vf4_1, t56_1, gP0 hP, vf5_5, tP0_5 hP, gP10 hP, pP10 hP, vf4_7, qa40, qo40, List.getElem?_cons_zero, List.getElem?_cons_succ, List.length_cons, List.length_nil, ag_nx, ag_dn, ag_no, ag_if, jbr1, jbr2, jc1, jc2, jnul, jld, jsto, jstoL, jst1, jst2, jkill, jinc, jbI, jbL, jbS, juI, jl2i, jcmp, jisR, jisI, jisL, jret, jretv, jfits, jdup, jdup2, jpop, jmm, jcat, Value.category, jinv, jrcv, jthr, jhd, jput, jget, jlen, jald, jast, jaast, jgI, jgL, jgB, jtab, jlku, jacp, vf20, vf21, vf22, vf23, vf24, u2_s, u2_k, u2_i, uc_s, uc_k, uc_c, u2_c, LI0, LI1, LI2, LI3, LI4, LI5, LI6, LI7, LI8, LI9, LI10, LI11, LI12, LI13, LI14, LI15, LI16, LI17, LI18, LI19, LI20, LI21, LI22, LI23, LI24, LI25, LI26, LI27, LI28, LI29, LI30, LI31, LI32, LI33, LI34, LI35, LI36, LI37, LI40, LI42, LI43, LI45, LI48, LI60, LI61, LI64, LI80, LI300, LI400, LI1000, LI2000, LI2001, LI2047, LI2048, LI100000, LI1000000, LI38, LI39, LI41, LI44, LI46, LI47, LI49, LI50, LI51, LI52, LI53, LI54, LI55, LI56, LI57, LI58, LI59, LI62, LI63, LI65, LI66, LI67, LI68, LI69, LI70, LI71, LI72, LI73, LI74, LI75, LI76, LI77, LI78, LI79, LI81, LI82, LI83, LI84, LI85, LI86, LI87, LI88, LI89, LI90, LI91, LI92, LI93, LI94, LI95, LI96, LI97, LI98, LI99, LI100, LI101, LI102, LI103, LI104, LI105, LI106, LI107, LI108, LI109, LI110, LI111, LI112, LI113, LI114, LI115, LI116, LI117, LI118, LI119, LI120, LI121, LI122, LI123, LI124, LI125, LI126, LI127, LI255, LI256, LI999, LI1001, LI1002, LI1600, LI4096, LI1000001, LI2042, LM, nI_clamp, nI_pos', nI_lt, nI_nlt, nI_le, nI_ge, nI_ne, nI_add, nI_sub, mI_lt, mI_le, mI_nlt, mI_nle, mI_ne, mI_ne', mI_nem, ha, e86, this, hV]
end CPR
