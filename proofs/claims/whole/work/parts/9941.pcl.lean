/-! the class's parser: tokens are taken, code is added -/
def kOK (K : Nat → Nat) (m : Nat) : Prop := m ≤ 2000 ∧ (∀ j, j ≤ m → K j ≠ 29 → j < m) ∧ ∀ j, K j < 128
/-- the tokens, as the parser sees them -/
def tkc (K : Nat → Nat) (V : Nat → Int32) (m : Nat) (I : Nat → Nat → Int32) : Prop := ∀ j, j ≤ m → I 5 j = nI (K j) ∧ I 7 j = V j
def aV (V : Nat → Int32) (a : oA) : Int32 := match a with | .inl z => z | .inr j => V j
def sg1 (V : Nat → Int32) (P : Nat) (I : Nat → Nat → Int32) (k : Nat) (x : oT) : Prop := I (P + 5) k = nI x.1 ∧ I (P + 6) k = aV V x.2.1 ∧ I (P + 7) k = aV V x.2.2.1 ∧ I (P + 8) k = nI x.2.2.2
/-- code from p on -/
def seg (V : Nat → Int32) (P : Nat) (I : Nat → Nat → Int32) (p : Nat) (l : List oT) : Prop := ∀ i x, l[i]? = some x → sg1 V P I (p + i) x
/-- nothing but where it is, and code from L on -/
def fE (P L : Nat) (I I' : Nat → Nat → Int32) : Prop := ∀ c i, ¬ (c = 56 ∧ i = 3) → ¬ (c = P + 4 ∧ i = 4) → ¬ (P + 5 ≤ c ∧ c ≤ P + 8 ∧ L ≤ i) → I' c i = I c i
theorem fE_refl {P L : Nat} {I : Nat → Nat → Int32} : fE P L I I := fun _ _ _ _ _ => rfl
theorem fE_trans {P L L1 : Nat} {I I1 I2 : Nat → Nat → Int32} (h : fE P L I I1) (h2 : fE P L1 I1 I2) (hl : L ≤ L1) : fE P L I I2 := fun c i a b e => (h2 c i a b (by omega)).trans (h c i a b e)
theorem fE_at {P L : Nat} {I : Nat → Nat → Int32} {v : Int32} : fE P L I (u2 I 56 3 v) := fun c i a _ _ => by
  by_cases e : c = 56
  · subst e; rw [u2_i (by omega)]
  · rw [u2_k e]
theorem tkc_f {K : Nat → Nat} {V : Nat → Int32} {m P L : Nat} {I I' : Nat → Nat → Int32} (hP : isP P) (hf : fE P L I I') (h : tkc K V m I) : tkc K V m I' := fun j hj => by
  have := isP_e hP
  rw [hf 5 j (by omega) (by omega) (by omega), hf 7 j (by omega) (by omega) (by omega)]
  exact h j hj
theorem tkc_u {K : Nat → Nat} {V : Nat → Int32} {m c i : Nat} {v : Int32} {I : Nat → Nat → Int32} (hc : c ≠ 5 ∧ c ≠ 7) (h : tkc K V m I) : tkc K V m (u2 I c i v) := fun j hj => by
  rw [u2_k (by omega), u2_k (by omega)]
  exact h j hj
theorem seg_nil {V : Nat → Int32} {P p : Nat} {I : Nat → Nat → Int32} : seg V P I p [] := fun i x hx => by simp at hx
theorem seg_app {V : Nat → Int32} {P p : Nat} {I : Nat → Nat → Int32} {l l' : List oT} (h : seg V P I p l) (h' : seg V P I (p + l.length) l') : seg V P I p (l ++ l') := fun i x hx => by
  rcases Nat.lt_or_ge i l.length with hi | hi
  · rw [List.getElem?_append_left hi] at hx; exact h i x hx
  · rw [List.getElem?_append_right hi] at hx
    have := h' (i - l.length) x hx
    rw [show p + l.length + (i - l.length) = p + i by omega] at this
    exact this
theorem seg_1 {V : Nat → Int32} {P p : Nat} {I : Nat → Nat → Int32} {o : oT} (h : sg1 V P I p o) : seg V P I p [o] := fun i x hx => by
  cases i with
  | zero => simp at hx; subst hx; exact h
  | succ i => simp at hx
/-- code that was there stays -/
theorem seg_f {V : Nat → Int32} {P p L : Nat} {I I' : Nat → Nat → Int32} {l : List oT} (hP : isP P) (hf : fE P L I I') (hl : p + l.length ≤ L) (h : seg V P I p l) : seg V P I' p l := fun i x hx => by
  have hp := isP_e hP
  have hi : i < l.length := by
    rcases Nat.lt_or_ge i l.length with h1 | h1
    · exact h1
    · rw [List.getElem?_eq_none h1] at hx; cases hx
  have := h i x hx
  unfold sg1 at this ⊢
  rw [hf (P + 5) _ (by omega) (by omega) (by omega), hf (P + 6) _ (by omega) (by omega) (by omega), hf (P + 7) _ (by omega) (by omega) (by omega), hf (P + 8) _ (by omega) (by omega) (by omega)]
  exact this
theorem seg_u {V : Nat → Int32} {P p c i0 : Nat} {v : Int32} {I : Nat → Nat → Int32} {l : List oT} (hc : c < P + 5 ∨ P + 8 < c ∨ i0 < p ∨ p + l.length ≤ i0) (h : seg V P I p l) : seg V P (u2 I c i0 v) p l := fun i x hx => by
  have hi : i < l.length := by
    rcases Nat.lt_or_ge i l.length with h1 | h1
    · exact h1
    · rw [List.getElem?_eq_none h1] at hx; cases hx
  have ho : ∀ k, 5 ≤ k → k ≤ 8 → u2 I c i0 v (P + k) (p + i) = I (P + k) (p + i) := fun k h5 h8 => by
    unfold u2
    rw [if_neg (by omega)]
  have := h i x hx
  unfold sg1 at this ⊢
  rw [ho 5 (by omega) (by omega), ho 6 (by omega) (by omega), ho 7 (by omega) (by omega), ho 8 (by omega) (by omega)]
  exact this
def oAdd (P L : Nat) (I : Nat → Nat → Int32) (op ar pe tk : Int32) : Nat → Nat → Int32 := u2 (u2 (u2 (u2 (u2 I (P + 5) L op) (P + 6) L ar) (P + 7) L pe) (P + 8) L tk) (P + 4) 4 (nI (L + 1))
theorem oAdd_f {P L L0 : Nat} {I : Nat → Nat → Int32} {op ar pe tk : Int32} (hl : L0 ≤ L) : fE P L0 I (oAdd P L I op ar pe tk) := fun c i a b e => by
  unfold oAdd u2
  rw [if_neg b, if_neg (by omega), if_neg (by omega), if_neg (by omega), if_neg (by omega)]
theorem oAdd_l {P L : Nat} {I : Nat → Nat → Int32} {op ar pe tk : Int32} : oAdd P L I op ar pe tk (P + 4) 4 = nI (L + 1) := u2_s
theorem oAdd_s {V : Nat → Int32} {P L : Nat} {I : Nat → Nat → Int32} {op ar pe tk : Int32} {o : oT} (h1 : op = nI o.1) (h2 : ar = aV V o.2.1) (h3 : pe = aV V o.2.2.1) (h4 : tk = nI o.2.2.2) : sg1 V P (oAdd P L I op ar pe tk) L o := by
  unfold sg1 oAdd
  refine ⟨?_, ?_, ?_, ?_⟩
  · rw [u2_k (by omega), u2_k (by omega), u2_k (by omega), u2_k (by omega), u2_s, h1]
  · rw [u2_k (by omega), u2_k (by omega), u2_k (by omega), u2_s, h2]
  · rw [u2_k (by omega), u2_k (by omega), u2_s, h3]
  · rw [u2_k (by omega), u2_s, h4]
theorem oAdd_o {P L c i : Nat} {I : Nat → Nat → Int32} {op ar pe tk : Int32} (hc : c < P + 4 ∨ P + 8 < c) : oAdd P L I op ar pe tk c i = I c i := by
  unfold oAdd
  rw [u2_k (by omega), u2_k (by omega), u2_k (by omega), u2_k (by omega), u2_k (by omega)]
/-- what a reading method leaves -/
def cRs (V : Nat → Int32) (P L : Nat) (I I' : Nat → Nat → Int32) (v : Int32) (a : pR) : Prop := I' 56 3 = nI a.2 ∧ fE P L I I' ∧ (a.1 = none → v = nI 0 ∧ ∃ L', I' (P + 4) 4 = nI L' ∧ L' ≤ 2048) ∧ ∀ l, a.1 = some l → v = nI 1 ∧ I' (P + 4) 4 = nI (L + l.length) ∧ seg V P I' L l
section CPL
variable {A : Nat → Nat} {d b n P m j L : Nat} {h : Nat → Option jC} {X : jXX} {I : Nat → Nat → Int32} {J : Nat → Nat → Int64} {R : Nat → Nat → Nat} {K : Nat → Nat} {V : Nat → Int32}
theorem c38 (hk : kOK K m) (ht : tkc K V m I) (ha : I 56 3 = nI j) (hj : j ≤ m) : jcall A jcode (d + 1) 38 [.ref (b + 56)] (jH h b X I J R n) = some (.inl (some (.int (nI (K j)))), jH h b X I J R n) := by
  have h2 := hk.1
  have e := (ht j hj).1
  simp (disch := omega) [je38, r38_0, r38_1, r38_4, r38_7, r38_8, r38_11, r38_14, r38_17, r38_18, r38_21, r38_24, r38_25, r38_28, r38_29, r38_32, r38_34, g56, vf4_3, vf4_0, t56_0, g3, vf6_1, t3_1, g5, List.getElem?_cons_zero, List.getElem?_cons_succ, List.length_cons, List.length_nil, ag_nx, ag_dn, ag_no, ag_if, jbr1, jbr2, jc1, jc2, jnul, jld, jsto, jstoL, jst1, jst2, jkill, jinc, jbI, jbL, jbS, juI, jl2i, jcmp, jisR, jisI, jisL, jret, jretv, jfits, jdup, jdup2, jpop, jmm, jcat, Value.category, jinv, jrcv, jthr, jhd, jput, jget, jlen, jald, jast, jaast, jgI, jgL, jgB, jtab, jlku, jacp, vf20, vf21, vf22, vf23, vf24, u2_s, u2_k, u2_i, uc_s, uc_k, uc_c, u2_c, LI0, LI1, LI2, LI3, LI4, LI5, LI6, LI7, LI8, LI9, LI10, LI11, LI12, LI13, LI14, LI15, LI16, LI17, LI18, LI19, LI20, LI21, LI22, LI23, LI24, LI25, LI26, LI27, LI28, LI29, LI30, LI31, LI32, LI33, LI34, LI35, LI36, LI37, LI40, LI42, LI43, LI45, LI48, LI60, LI61, LI64, LI80, LI300, LI400, LI1000, LI2000, LI2001, LI2047, LI2048, LI100000, LI1000000, LI38, LI39, LI41, LI44, LI46, LI47, LI49, LI50, LI51, LI52, LI53, LI54, LI55, LI56, LI57, LI58, LI59, LI62, LI63, LI65, LI66, LI67, LI68, LI69, LI70, LI71, LI72, LI73, LI74, LI75, LI76, LI77, LI78, LI79, LI81, LI82, LI83, LI84, LI85, LI86, LI87, LI88, LI89, LI90, LI91, LI92, LI93, LI94, LI95, LI96, LI97, LI98, LI99, LI100, LI101, LI102, LI103, LI104, LI105, LI106, LI107, LI108, LI109, LI110, LI111, LI112, LI113, LI114, LI115, LI116, LI117, LI118, LI119, LI120, LI121, LI122, LI123, LI124, LI125, LI126, LI127, LI255, LI256, LI999, LI1001, LI1002, LI1600, LI4096, LI1000001, LI2042, LM, nI_clamp, nI_pos', nI_lt, nI_nlt, nI_le, nI_ge, nI_ne, nI_add, nI_sub, mI_lt, mI_le, mI_nlt, mI_nle, mI_ne, mI_ne', mI_nem, ha, e, show j < 2001 by omega]
theorem c39y {k : Nat} (hk : kOK K m) (ht : tkc K V m I) (ha : I 56 3 = nI j) (hj : j ≤ m) (he : K j = k) : jcall A jcode (d + 1) 39 [.ref (b + 56), .int (nI k)] (jH h b X I J R n) = some (.inl (some (.int (nI 1))), jH h b X (u2 I 56 3 (nI (j + 1))) J R n) := by
  have h2 := hk.1
  have e := (ht j hj).1
  rw [he] at e
  simp (disch := omega) [je39, r39_0, r39_1, r39_4, r39_7, r39_8, r39_11, r39_14, r39_17, r39_18, r39_21, r39_24, r39_25, r39_28, r39_29, r39_30, r39_33, r39_34, r39_35, r39_36, r39_37, r39_40, r39_41, r39_42, r39_45, r39_46, g56, vf4_3, vf4_0, t56_0, g3, vf6_1, t3_1, g5, p56_3, ty4_3, List.getElem?_cons_zero, List.getElem?_cons_succ, List.length_cons, List.length_nil, ag_nx, ag_dn, ag_no, ag_if, jbr1, jbr2, jc1, jc2, jnul, jld, jsto, jstoL, jst1, jst2, jkill, jinc, jbI, jbL, jbS, juI, jl2i, jcmp, jisR, jisI, jisL, jret, jretv, jfits, jdup, jdup2, jpop, jmm, jcat, Value.category, jinv, jrcv, jthr, jhd, jput, jget, jlen, jald, jast, jaast, jgI, jgL, jgB, jtab, jlku, jacp, vf20, vf21, vf22, vf23, vf24, u2_s, u2_k, u2_i, uc_s, uc_k, uc_c, u2_c, LI0, LI1, LI2, LI3, LI4, LI5, LI6, LI7, LI8, LI9, LI10, LI11, LI12, LI13, LI14, LI15, LI16, LI17, LI18, LI19, LI20, LI21, LI22, LI23, LI24, LI25, LI26, LI27, LI28, LI29, LI30, LI31, LI32, LI33, LI34, LI35, LI36, LI37, LI40, LI42, LI43, LI45, LI48, LI60, LI61, LI64, LI80, LI300, LI400, LI1000, LI2000, LI2001, LI2047, LI2048, LI100000, LI1000000, LI38, LI39, LI41, LI44, LI46, LI47, LI49, LI50, LI51, LI52, LI53, LI54, LI55, LI56, LI57, LI58, LI59, LI62, LI63, LI65, LI66, LI67, LI68, LI69, LI70, LI71, LI72, LI73, LI74, LI75, LI76, LI77, LI78, LI79, LI81, LI82, LI83, LI84, LI85, LI86, LI87, LI88, LI89, LI90, LI91, LI92, LI93, LI94, LI95, LI96, LI97, LI98, LI99, LI100, LI101, LI102, LI103, LI104, LI105, LI106, LI107, LI108, LI109, LI110, LI111, LI112, LI113, LI114, LI115, LI116, LI117, LI118, LI119, LI120, LI121, LI122, LI123, LI124, LI125, LI126, LI127, LI255, LI256, LI999, LI1001, LI1002, LI1600, LI4096, LI1000001, LI2042, LM, nI_clamp, nI_pos', nI_lt, nI_nlt, nI_le, nI_ge, nI_ne, nI_add, nI_sub, mI_lt, mI_le, mI_nlt, mI_nle, mI_ne, mI_ne', mI_nem, ha, e, show j < 2001 by omega]
theorem c39n {k : Nat} (hk : kOK K m) (ht : tkc K V m I) (ha : I 56 3 = nI j) (hj : j ≤ m) (h1 : k < 128) (he : K j ≠ k) : jcall A jcode (d + 1) 39 [.ref (b + 56), .int (nI k)] (jH h b X I J R n) = some (.inl (some (.int (nI 0))), jH h b X I J R n) := by
  have h2 := hk.1
  have e := (ht j hj).1
  have h3 := hk.2.2 j
  have e2 : ¬ nI (K j) = nI k := nI_ne he (by omega) (by omega)
  simp (disch := omega) [je39, r39_0, r39_1, r39_4, r39_7, r39_8, r39_11, r39_14, r39_17, r39_18, r39_21, r39_24, r39_25, r39_28, r39_29, r39_30, r39_33, r39_34, r39_35, r39_36, r39_37, r39_40, r39_41, r39_42, r39_45, r39_46, g56, vf4_3, vf4_0, t56_0, g3, vf6_1, t3_1, g5, p56_3, ty4_3, List.getElem?_cons_zero, List.getElem?_cons_succ, List.length_cons, List.length_nil, ag_nx, ag_dn, ag_no, ag_if, jbr1, jbr2, jc1, jc2, jnul, jld, jsto, jstoL, jst1, jst2, jkill, jinc, jbI, jbL, jbS, juI, jl2i, jcmp, jisR, jisI, jisL, jret, jretv, jfits, jdup, jdup2, jpop, jmm, jcat, Value.category, jinv, jrcv, jthr, jhd, jput, jget, jlen, jald, jast, jaast, jgI, jgL, jgB, jtab, jlku, jacp, vf20, vf21, vf22, vf23, vf24, u2_s, u2_k, u2_i, uc_s, uc_k, uc_c, u2_c, LI0, LI1, LI2, LI3, LI4, LI5, LI6, LI7, LI8, LI9, LI10, LI11, LI12, LI13, LI14, LI15, LI16, LI17, LI18, LI19, LI20, LI21, LI22, LI23, LI24, LI25, LI26, LI27, LI28, LI29, LI30, LI31, LI32, LI33, LI34, LI35, LI36, LI37, LI40, LI42, LI43, LI45, LI48, LI60, LI61, LI64, LI80, LI300, LI400, LI1000, LI2000, LI2001, LI2047, LI2048, LI100000, LI1000000, LI38, LI39, LI41, LI44, LI46, LI47, LI49, LI50, LI51, LI52, LI53, LI54, LI55, LI56, LI57, LI58, LI59, LI62, LI63, LI65, LI66, LI67, LI68, LI69, LI70, LI71, LI72, LI73, LI74, LI75, LI76, LI77, LI78, LI79, LI81, LI82, LI83, LI84, LI85, LI86, LI87, LI88, LI89, LI90, LI91, LI92, LI93, LI94, LI95, LI96, LI97, LI98, LI99, LI100, LI101, LI102, LI103, LI104, LI105, LI106, LI107, LI108, LI109, LI110, LI111, LI112, LI113, LI114, LI115, LI116, LI117, LI118, LI119, LI120, LI121, LI122, LI123, LI124, LI125, LI126, LI127, LI255, LI256, LI999, LI1001, LI1002, LI1600, LI4096, LI1000001, LI2042, LM, nI_clamp, nI_pos', nI_lt, nI_nlt, nI_le, nI_ge, nI_ne, nI_add, nI_sub, mI_lt, mI_le, mI_nlt, mI_nle, mI_ne, mI_ne', mI_nem, ha, e, show j < 2001 by omega, e2]
theorem c40 (hk : kOK K m) (ht : tkc K V m I) (ha : I 56 3 = nI (j + 1)) (hj : j ≤ m) : jcall A jcode (d + 1) 40 [.ref (b + 56)] (jH h b X I J R n) = some (.inl (some (.int (V j))), jH h b X I J R n) := by
  have h2 := hk.1
  have e := (ht j hj).2
  simp (disch := omega) [je40, r40_0, r40_1, r40_4, r40_7, r40_8, r40_11, r40_14, r40_17, r40_18, r40_21, r40_24, r40_25, r40_28, r40_29, r40_30, r40_31, r40_34, r40_35, g56, vf4_3, vf4_0, t56_0, g3, vf6_2, t3_2, g7, List.getElem?_cons_zero, List.getElem?_cons_succ, List.length_cons, List.length_nil, ag_nx, ag_dn, ag_no, ag_if, jbr1, jbr2, jc1, jc2, jnul, jld, jsto, jstoL, jst1, jst2, jkill, jinc, jbI, jbL, jbS, juI, jl2i, jcmp, jisR, jisI, jisL, jret, jretv, jfits, jdup, jdup2, jpop, jmm, jcat, Value.category, jinv, jrcv, jthr, jhd, jput, jget, jlen, jald, jast, jaast, jgI, jgL, jgB, jtab, jlku, jacp, vf20, vf21, vf22, vf23, vf24, u2_s, u2_k, u2_i, uc_s, uc_k, uc_c, u2_c, LI0, LI1, LI2, LI3, LI4, LI5, LI6, LI7, LI8, LI9, LI10, LI11, LI12, LI13, LI14, LI15, LI16, LI17, LI18, LI19, LI20, LI21, LI22, LI23, LI24, LI25, LI26, LI27, LI28, LI29, LI30, LI31, LI32, LI33, LI34, LI35, LI36, LI37, LI40, LI42, LI43, LI45, LI48, LI60, LI61, LI64, LI80, LI300, LI400, LI1000, LI2000, LI2001, LI2047, LI2048, LI100000, LI1000000, LI38, LI39, LI41, LI44, LI46, LI47, LI49, LI50, LI51, LI52, LI53, LI54, LI55, LI56, LI57, LI58, LI59, LI62, LI63, LI65, LI66, LI67, LI68, LI69, LI70, LI71, LI72, LI73, LI74, LI75, LI76, LI77, LI78, LI79, LI81, LI82, LI83, LI84, LI85, LI86, LI87, LI88, LI89, LI90, LI91, LI92, LI93, LI94, LI95, LI96, LI97, LI98, LI99, LI100, LI101, LI102, LI103, LI104, LI105, LI106, LI107, LI108, LI109, LI110, LI111, LI112, LI113, LI114, LI115, LI116, LI117, LI118, LI119, LI120, LI121, LI122, LI123, LI124, LI125, LI126, LI127, LI255, LI256, LI999, LI1001, LI1002, LI1600, LI4096, LI1000001, LI2042, LM, nI_clamp, nI_pos', nI_lt, nI_nlt, nI_le, nI_ge, nI_ne, nI_add, nI_sub, mI_lt, mI_le, mI_nlt, mI_nle, mI_ne, mI_ne', mI_nem, ha, e, show j < 2001 by omega]
theorem c13 {op ar pe tk : Int32} (hP : isP P) (hl : I (P + 4) 4 = nI L) (h2 : L ≤ 2000) : jcall A jcode (d + 1) 13 [.ref (b + (P + 4)), .int op, .int ar, .int pe, .int tk] (jH h b X I J R n) = some (.inl (some (.int (nI L))), jH h b X (oAdd P L I op ar pe tk) J R n) := by
  have hP' := isP_e hP
  unfold oAdd
  simp (disch := omega) [je13, r13_0, r13_1, r13_4, r13_7, r13_10, r13_12, r13_13, r13_16, r13_18, r13_19, r13_20, r13_21, r13_24, r13_26, r13_27, r13_28, r13_29, r13_32, r13_34, r13_35, r13_36, r13_37, r13_40, r13_42, r13_44, r13_45, r13_46, r13_48, r13_49, r13_50, r13_53, r13_55, gP4 hP, vf1_4, vf1_0, tP4_0 hP, gP5 hP, pP5 hP, vf1_1, tP4_1 hP, gP6 hP, pP6 hP, vf1_2, tP4_2 hP, gP7 hP, pP7 hP, vf1_3, tP4_3 hP, gP8 hP, pP8 hP, pP4_4 hP, ty1_4, List.getElem?_cons_zero, List.getElem?_cons_succ, List.length_cons, List.length_nil, ag_nx, ag_dn, ag_no, ag_if, jbr1, jbr2, jc1, jc2, jnul, jld, jsto, jstoL, jst1, jst2, jkill, jinc, jbI, jbL, jbS, juI, jl2i, jcmp, jisR, jisI, jisL, jret, jretv, jfits, jdup, jdup2, jpop, jmm, jcat, Value.category, jinv, jrcv, jthr, jhd, jput, jget, jlen, jald, jast, jaast, jgI, jgL, jgB, jtab, jlku, jacp, vf20, vf21, vf22, vf23, vf24, u2_s, u2_k, u2_i, uc_s, uc_k, uc_c, u2_c, LI0, LI1, LI2, LI3, LI4, LI5, LI6, LI7, LI8, LI9, LI10, LI11, LI12, LI13, LI14, LI15, LI16, LI17, LI18, LI19, LI20, LI21, LI22, LI23, LI24, LI25, LI26, LI27, LI28, LI29, LI30, LI31, LI32, LI33, LI34, LI35, LI36, LI37, LI40, LI42, LI43, LI45, LI48, LI60, LI61, LI64, LI80, LI300, LI400, LI1000, LI2000, LI2001, LI2047, LI2048, LI100000, LI1000000, LI38, LI39, LI41, LI44, LI46, LI47, LI49, LI50, LI51, LI52, LI53, LI54, LI55, LI56, LI57, LI58, LI59, LI62, LI63, LI65, LI66, LI67, LI68, LI69, LI70, LI71, LI72, LI73, LI74, LI75, LI76, LI77, LI78, LI79, LI81, LI82, LI83, LI84, LI85, LI86, LI87, LI88, LI89, LI90, LI91, LI92, LI93, LI94, LI95, LI96, LI97, LI98, LI99, LI100, LI101, LI102, LI103, LI104, LI105, LI106, LI107, LI108, LI109, LI110, LI111, LI112, LI113, LI114, LI115, LI116, LI117, LI118, LI119, LI120, LI121, LI122, LI123, LI124, LI125, LI126, LI127, LI255, LI256, LI999, LI1001, LI1002, LI1600, LI4096, LI1000001, LI2042, LM, nI_clamp, nI_pos', nI_lt, nI_nlt, nI_le, nI_ge, nI_ne, nI_add, nI_sub, mI_lt, mI_le, mI_nlt, mI_nle, mI_ne, mI_ne', mI_nem, hl, show L < 2048 by omega]
theorem c14 {k : Nat} (hP : isP P) (hl : I (P + 4) 4 = nI L) (h2 : L ≤ 2048) (hk : k < L) : jcall A jcode (d + 1) 14 [.ref (b + (P + 4)), .int (nI k)] (jH h b X I J R n) = some (.inl none, jH h b X (u2 I (P + 6) k (nI L)) J R n) := by
  have hP' := isP_e hP
  simp (disch := omega) [je14, r14_0, r14_1, r14_4, r14_5, r14_6, r14_9, r14_12, r14_13, r14_16, r14_17, r14_18, r14_21, r14_22, gP4 hP, vf1_4, vf1_1, tP4_1 hP, gP6 hP, pP6 hP, List.getElem?_cons_zero, List.getElem?_cons_succ, List.length_cons, List.length_nil, ag_nx, ag_dn, ag_no, ag_if, jbr1, jbr2, jc1, jc2, jnul, jld, jsto, jstoL, jst1, jst2, jkill, jinc, jbI, jbL, jbS, juI, jl2i, jcmp, jisR, jisI, jisL, jret, jretv, jfits, jdup, jdup2, jpop, jmm, jcat, Value.category, jinv, jrcv, jthr, jhd, jput, jget, jlen, jald, jast, jaast, jgI, jgL, jgB, jtab, jlku, jacp, vf20, vf21, vf22, vf23, vf24, u2_s, u2_k, u2_i, uc_s, uc_k, uc_c, u2_c, LI0, LI1, LI2, LI3, LI4, LI5, LI6, LI7, LI8, LI9, LI10, LI11, LI12, LI13, LI14, LI15, LI16, LI17, LI18, LI19, LI20, LI21, LI22, LI23, LI24, LI25, LI26, LI27, LI28, LI29, LI30, LI31, LI32, LI33, LI34, LI35, LI36, LI37, LI40, LI42, LI43, LI45, LI48, LI60, LI61, LI64, LI80, LI300, LI400, LI1000, LI2000, LI2001, LI2047, LI2048, LI100000, LI1000000, LI38, LI39, LI41, LI44, LI46, LI47, LI49, LI50, LI51, LI52, LI53, LI54, LI55, LI56, LI57, LI58, LI59, LI62, LI63, LI65, LI66, LI67, LI68, LI69, LI70, LI71, LI72, LI73, LI74, LI75, LI76, LI77, LI78, LI79, LI81, LI82, LI83, LI84, LI85, LI86, LI87, LI88, LI89, LI90, LI91, LI92, LI93, LI94, LI95, LI96, LI97, LI98, LI99, LI100, LI101, LI102, LI103, LI104, LI105, LI106, LI107, LI108, LI109, LI110, LI111, LI112, LI113, LI114, LI115, LI116, LI117, LI118, LI119, LI120, LI121, LI122, LI123, LI124, LI125, LI126, LI127, LI255, LI256, LI999, LI1001, LI1002, LI1600, LI4096, LI1000001, LI2042, LM, nI_clamp, nI_pos', nI_lt, nI_nlt, nI_le, nI_ge, nI_ne, nI_add, nI_sub, mI_lt, mI_le, mI_nlt, mI_nle, mI_ne, mI_ne', mI_nem, hl, show k < 2048 by omega]
end CPL
