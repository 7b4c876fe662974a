/-! fits: the class goes through the trace -/
section FTD
variable {A : Nat → Nat} {d b n C P L Lp np : Nat} {h : Nat → Option jC} {X : jXX} {I : Nat → Nat → Int32} {J : Nat → Nat → Int64} {R : Nat → Nat → Nat} {s : hS} {nf : Nat → Nm}
/-- what is done -/
def dC (I : Nat → Nat → Int32) (C : Nat) (dn : Nat → Bool) : Prop := ∀ k, k < 80 → I (C + 10) k = if dn k = true then nI 1 else nI 0
theorem c10l {i : Nat} {v4 : Int32} {dn : Nat → Bool} {ln : Nat → Nat} {m : Nat} (hC : isC C) (hP : isP P) (hl : cLi I C m ln) (h6 : I C 6 = nI m) (hd : dC I C dn) : ∀ (r j : Nat), j + r = 2 * m → M10 A (d + 1) 31 [some (.ref (b + C)), some (.ref (b + 58)), some (.int (nI i)), some (.ref (b + P)), some (.int v4), some (.int (nI j)), none, none, none] [] (jH h b X I J R n) = M10 A (d + 1) 76 [some (.ref (b + C)), some (.ref (b + 58)), some (.int (nI i)), some (.ref (b + P)), some (.int (v4)), some (.int (nI ((fdP (fun j => !dn j && decide (nI (ln j) = v4)) r j).getD (2 * m)))), none, none, none] [] (jH h b X I J R n) := by
  have h40 := hl.1
  have hw := isW_57
  have hN := isP_N hP
  intro r
  induction r with
  | zero =>
    intro j hj
    have : j = 2 * m := by omega
    subst this
    unfold fdP
    conv => lhs; rw [r10_31]
    simp (disch := omega) [r10_33, r10_34, r10_35, r10_38, r10_39, gW1 hw, vf7_0, tW1_0 hw, gW2 hw, pW2 hw, vf7_4, tW1_4 hw, gW6 hw, pW6 hw, qa11, qo11, gC0 hC, vf0_6, vf0_9, tC0_9 hC, gC10 hC, pC10 hC, qa5, qo5, vf7_5, tW1_5 hw, gW7 hw, pW7 hw, vf0_4, tC0_4 hC, gC6 hC, pC6 hC, vf0_3, tC0_3 hC, gC5 hC, pC5 hC, gP0 hP, vf5_0, tP0_0 hP, vf0_0, tC0_0 hC, vf7_2, tW1_2 hw, gW4 hw, pW4 hw, qa31, qo31, gN0 hN, vf0_5, tC0_5 hC, gC7 hC, pC7 hC, qa4, qo4, List.getElem?_cons_zero, List.getElem?_cons_succ, List.length_cons, List.length_nil, ag_nx, ag_dn, ag_no, ag_if, jbr1, jbr2, jc1, jc2, jnul, jld, jsto, jstoL, jst1, jst2, jkill, jinc, jbI, jbL, jbS, juI, jl2i, jcmp, jisR, jisI, jisL, jret, jretv, jfits, jdup, jdup2, jpop, jmm, jcat, Value.category, jinv, jrcv, jthr, jhd, jput, jget, jlen, jald, jast, jaast, jgI, jgL, jgB, jtab, jlku, jacp, vf20, vf21, vf22, vf23, vf24, u2_s, u2_k, u2_i, uc_s, uc_k, uc_c, u2_c, LI0, LI1, LI2, LI3, LI4, LI5, LI6, LI7, LI8, LI9, LI10, LI11, LI12, LI13, LI14, LI15, LI16, LI17, LI18, LI19, LI20, LI21, LI22, LI23, LI24, LI25, LI26, LI27, LI28, LI29, LI30, LI31, LI32, LI33, LI34, LI35, LI36, LI37, LI40, LI42, LI43, LI45, LI48, LI60, LI61, LI64, LI80, LI300, LI400, LI1000, LI2000, LI2001, LI2047, LI2048, LI100000, LI1000000, LI38, LI39, LI41, LI44, LI46, LI47, LI49, LI50, LI51, LI52, LI53, LI54, LI55, LI56, LI57, LI58, LI59, LI62, LI63, LI65, LI66, LI67, LI68, LI69, LI70, LI71, LI72, LI73, LI74, LI75, LI76, LI77, LI78, LI79, LI81, LI82, LI83, LI84, LI85, LI86, LI87, LI88, LI89, LI90, LI91, LI92, LI93, LI94, LI95, LI96, LI97, LI98, LI99, LI100, LI101, LI102, LI103, LI104, LI105, LI106, LI107, LI108, LI109, LI110, LI111, LI112, LI113, LI114, LI115, LI116, LI117, LI118, LI119, LI120, LI121, LI122, LI123, LI124, LI125, LI126, LI127, LI255, LI256, LI999, LI1001, LI1002, LI1600, LI4096, LI1000001, LI2042, LM, nI_clamp, nI_pos', nI_lt, nI_nlt, nI_le, nI_ge, nI_ne, nI_add, nI_sub, mI_lt, mI_le, mI_nlt, mI_nle, mI_ne, mI_ne', mI_nem, h6, nI_mul]
  | succ r ih =>
    intro j hj
    have j80 : j < 80 := by omega
    have hdj := hd j j80
    unfold fdP
    by_cases h1 : dn j = true
    · rw [if_neg (by simp [h1]), ← ih (j + 1) (by omega)]
      rw [if_pos h1] at hdj
      conv => lhs; rw [r10_31]
      simp (disch := omega) [r10_33, r10_34, r10_35, r10_38, r10_39, r10_42, r10_44, r10_46, r10_49, r10_50, r10_53, r10_55, r10_56, r10_70, r10_73, gW1 hw, vf7_0, tW1_0 hw, gW2 hw, pW2 hw, vf7_4, tW1_4 hw, gW6 hw, pW6 hw, qa11, qo11, gC0 hC, vf0_6, vf0_9, tC0_9 hC, gC10 hC, pC10 hC, qa5, qo5, vf7_5, tW1_5 hw, gW7 hw, pW7 hw, vf0_4, tC0_4 hC, gC6 hC, pC6 hC, vf0_3, tC0_3 hC, gC5 hC, pC5 hC, gP0 hP, vf5_0, tP0_0 hP, vf0_0, tC0_0 hC, vf7_2, tW1_2 hw, gW4 hw, pW4 hw, qa31, qo31, gN0 hN, vf0_5, tC0_5 hC, gC7 hC, pC7 hC, qa4, qo4, List.getElem?_cons_zero, List.getElem?_cons_succ, List.length_cons, List.length_nil, ag_nx, ag_dn, ag_no, ag_if, jbr1, jbr2, jc1, jc2, jnul, jld, jsto, jstoL, jst1, jst2, jkill, jinc, jbI, jbL, jbS, juI, jl2i, jcmp, jisR, jisI, jisL, jret, jretv, jfits, jdup, jdup2, jpop, jmm, jcat, Value.category, jinv, jrcv, jthr, jhd, jput, jget, jlen, jald, jast, jaast, jgI, jgL, jgB, jtab, jlku, jacp, vf20, vf21, vf22, vf23, vf24, u2_s, u2_k, u2_i, uc_s, uc_k, uc_c, u2_c, LI0, LI1, LI2, LI3, LI4, LI5, LI6, LI7, LI8, LI9, LI10, LI11, LI12, LI13, LI14, LI15, LI16, LI17, LI18, LI19, LI20, LI21, LI22, LI23, LI24, LI25, LI26, LI27, LI28, LI29, LI30, LI31, LI32, LI33, LI34, LI35, LI36, LI37, LI40, LI42, LI43, LI45, LI48, LI60, LI61, LI64, LI80, LI300, LI400, LI1000, LI2000, LI2001, LI2047, LI2048, LI100000, LI1000000, LI38, LI39, LI41, LI44, LI46, LI47, LI49, LI50, LI51, LI52, LI53, LI54, LI55, LI56, LI57, LI58, LI59, LI62, LI63, LI65, LI66, LI67, LI68, LI69, LI70, LI71, LI72, LI73, LI74, LI75, LI76, LI77, LI78, LI79, LI81, LI82, LI83, LI84, LI85, LI86, LI87, LI88, LI89, LI90, LI91, LI92, LI93, LI94, LI95, LI96, LI97, LI98, LI99, LI100, LI101, LI102, LI103, LI104, LI105, LI106, LI107, LI108, LI109, LI110, LI111, LI112, LI113, LI114, LI115, LI116, LI117, LI118, LI119, LI120, LI121, LI122, LI123, LI124, LI125, LI126, LI127, LI255, LI256, LI999, LI1001, LI1002, LI1600, LI4096, LI1000001, LI2042, LM, nI_clamp, nI_pos', nI_lt, nI_nlt, nI_le, nI_ge, nI_ne, nI_add, nI_sub, mI_lt, mI_le, mI_nlt, mI_nle, mI_ne, mI_ne', mI_nem, h6, nI_mul, hdj, j80]
    · rw [if_neg h1] at hdj
      have e5 := c5 (A := A) (d := d) (b := b) (h := h) (X := X) (J := J) (R := R) (n := n) (e := j) hC hl (by omega)
      by_cases h2 : nI (ln j) = v4
      · rw [if_pos (by simp [h1, h2])]
        conv => lhs; rw [r10_31]
        simp (disch := omega) [r10_33, r10_34, r10_35, r10_38, r10_39, r10_42, r10_44, r10_46, r10_49, r10_50, r10_53, r10_55, r10_56, r10_59, r10_60, r10_62, r10_65, r10_67, gW1 hw, vf7_0, tW1_0 hw, gW2 hw, pW2 hw, vf7_4, tW1_4 hw, gW6 hw, pW6 hw, qa11, qo11, gC0 hC, vf0_6, vf0_9, tC0_9 hC, gC10 hC, pC10 hC, qa5, qo5, vf7_5, tW1_5 hw, gW7 hw, pW7 hw, vf0_4, tC0_4 hC, gC6 hC, pC6 hC, vf0_3, tC0_3 hC, gC5 hC, pC5 hC, gP0 hP, vf5_0, tP0_0 hP, vf0_0, tC0_0 hC, vf7_2, tW1_2 hw, gW4 hw, pW4 hw, qa31, qo31, gN0 hN, vf0_5, tC0_5 hC, gC7 hC, pC7 hC, qa4, qo4, List.getElem?_cons_zero, List.getElem?_cons_succ, List.length_cons, List.length_nil, ag_nx, ag_dn, ag_no, ag_if, jbr1, jbr2, jc1, jc2, jnul, jld, jsto, jstoL, jst1, jst2, jkill, jinc, jbI, jbL, jbS, juI, jl2i, jcmp, jisR, jisI, jisL, jret, jretv, jfits, jdup, jdup2, jpop, jmm, jcat, Value.category, jinv, jrcv, jthr, jhd, jput, jget, jlen, jald, jast, jaast, jgI, jgL, jgB, jtab, jlku, jacp, vf20, vf21, vf22, vf23, vf24, u2_s, u2_k, u2_i, uc_s, uc_k, uc_c, u2_c, LI0, LI1, LI2, LI3, LI4, LI5, LI6, LI7, LI8, LI9, LI10, LI11, LI12, LI13, LI14, LI15, LI16, LI17, LI18, LI19, LI20, LI21, LI22, LI23, LI24, LI25, LI26, LI27, LI28, LI29, LI30, LI31, LI32, LI33, LI34, LI35, LI36, LI37, LI40, LI42, LI43, LI45, LI48, LI60, LI61, LI64, LI80, LI300, LI400, LI1000, LI2000, LI2001, LI2047, LI2048, LI100000, LI1000000, LI38, LI39, LI41, LI44, LI46, LI47, LI49, LI50, LI51, LI52, LI53, LI54, LI55, LI56, LI57, LI58, LI59, LI62, LI63, LI65, LI66, LI67, LI68, LI69, LI70, LI71, LI72, LI73, LI74, LI75, LI76, LI77, LI78, LI79, LI81, LI82, LI83, LI84, LI85, LI86, LI87, LI88, LI89, LI90, LI91, LI92, LI93, LI94, LI95, LI96, LI97, LI98, LI99, LI100, LI101, LI102, LI103, LI104, LI105, LI106, LI107, LI108, LI109, LI110, LI111, LI112, LI113, LI114, LI115, LI116, LI117, LI118, LI119, LI120, LI121, LI122, LI123, LI124, LI125, LI126, LI127, LI255, LI256, LI999, LI1001, LI1002, LI1600, LI4096, LI1000001, LI2042, LM, nI_clamp, nI_pos', nI_lt, nI_nlt, nI_le, nI_ge, nI_ne, nI_add, nI_sub, mI_lt, mI_le, mI_nlt, mI_nle, mI_ne, mI_ne', mI_nem, h6, nI_mul, hdj, j80, e5, h2]
      · rw [if_neg (by simp [h2]), ← ih (j + 1) (by omega)]
        conv => lhs; rw [r10_31]
        simp (disch := omega) [r10_33, r10_34, r10_35, r10_38, r10_39, r10_42, r10_44, r10_46, r10_49, r10_50, r10_53, r10_55, r10_56, r10_59, r10_60, r10_62, r10_65, r10_67, r10_70, r10_73, gW1 hw, vf7_0, tW1_0 hw, gW2 hw, pW2 hw, vf7_4, tW1_4 hw, gW6 hw, pW6 hw, qa11, qo11, gC0 hC, vf0_6, vf0_9, tC0_9 hC, gC10 hC, pC10 hC, qa5, qo5, vf7_5, tW1_5 hw, gW7 hw, pW7 hw, vf0_4, tC0_4 hC, gC6 hC, pC6 hC, vf0_3, tC0_3 hC, gC5 hC, pC5 hC, gP0 hP, vf5_0, tP0_0 hP, vf0_0, tC0_0 hC, vf7_2, tW1_2 hw, gW4 hw, pW4 hw, qa31, qo31, gN0 hN, vf0_5, tC0_5 hC, gC7 hC, pC7 hC, qa4, qo4, List.getElem?_cons_zero, List.getElem?_cons_succ, List.length_cons, List.length_nil, ag_nx, ag_dn, ag_no, ag_if, jbr1, jbr2, jc1, jc2, jnul, jld, jsto, jstoL, jst1, jst2, jkill, jinc, jbI, jbL, jbS, juI, jl2i, jcmp, jisR, jisI, jisL, jret, jretv, jfits, jdup, jdup2, jpop, jmm, jcat, Value.category, jinv, jrcv, jthr, jhd, jput, jget, jlen, jald, jast, jaast, jgI, jgL, jgB, jtab, jlku, jacp, vf20, vf21, vf22, vf23, vf24, u2_s, u2_k, u2_i, uc_s, uc_k, uc_c, u2_c, LI0, LI1, LI2, LI3, LI4, LI5, LI6, LI7, LI8, LI9, LI10, LI11, LI12, LI13, LI14, LI15, LI16, LI17, LI18, LI19, LI20, LI21, LI22, LI23, LI24, LI25, LI26, LI27, LI28, LI29, LI30, LI31, LI32, LI33, LI34, LI35, LI36, LI37, LI40, LI42, LI43, LI45, LI48, LI60, LI61, LI64, LI80, LI300, LI400, LI1000, LI2000, LI2001, LI2047, LI2048, LI100000, LI1000000, LI38, LI39, LI41, LI44, LI46, LI47, LI49, LI50, LI51, LI52, LI53, LI54, LI55, LI56, LI57, LI58, LI59, LI62, LI63, LI65, LI66, LI67, LI68, LI69, LI70, LI71, LI72, LI73, LI74, LI75, LI76, LI77, LI78, LI79, LI81, LI82, LI83, LI84, LI85, LI86, LI87, LI88, LI89, LI90, LI91, LI92, LI93, LI94, LI95, LI96, LI97, LI98, LI99, LI100, LI101, LI102, LI103, LI104, LI105, LI106, LI107, LI108, LI109, LI110, LI111, LI112, LI113, LI114, LI115, LI116, LI117, LI118, LI119, LI120, LI121, LI122, LI123, LI124, LI125, LI126, LI127, LI255, LI256, LI999, LI1001, LI1002, LI1600, LI4096, LI1000001, LI2042, LM, nI_clamp, nI_pos', nI_lt, nI_nlt, nI_le, nI_ge, nI_ne, nI_add, nI_sub, mI_lt, mI_le, mI_nlt, mI_nle, mI_ne, mI_ne', mI_nem, h6, nI_mul, hdj, j80, e5, h2]
theorem fdP_cg {q q' : Nat → Bool} : ∀ (r k : Nat), (∀ j, k ≤ j → j < k + r → q j = q' j) → fdP q r k = fdP q' r k := by
  intro r
  induction r with
  | zero => intro k _; rfl
  | succ r ih =>
    intro k hq
    unfold fdP
    rw [hq k (Nat.le_refl _) (by omega), ih (k + 1) (fun j h1 h2 => hq j (by omega) (by omega))]
theorem fnN_e {D : Nat → Int64 × Int32} {nm : Nm} {u : Nat} {y : hY} (hL : L < 2 ^ 20) (hu : u < L) (hy : D u = y) (hi' : ∀ x y, x < L → y < L → D x = D y → x = y) : inO (fnN D L nm) = nI u ↔ nm = .inl y := by
  have hb : ∀ x, fnN D L nm = some x → x < 2 ^ 20 := fun x hx => by
    cases nm with
    | inl z => have := fdN_lt _ _ _ hx; omega
    | inr z => cases hx
  rw [inO_n (by omega) hb]
  constructor
  · intro e
    cases nm with
    | inl z =>
      have := (fdN_lt _ _ _ e).2.2
      rw [← this, hy]
    | inr z => cases e
  · intro e
    subst e
    show fdN D y L 0 = some u
    cases hf : fdN D y L 0 with
    | none => exact absurd hy (fdN_no _ _ hf u (Nat.zero_le _) (by omega))
    | some v =>
      obtain ⟨v1, v2, v3⟩ := fdN_lt _ _ _ hf
      rw [hi' v u (by omega) hu (v3.trans hy.symm)]
theorem hC_d {I' : Nat → Nat → Int32} (hs : hC_ I J C s L) (hf : ∀ c i, c ≠ C + 10 → I' c i = I c i) : hC_ I' J C s L := by
  have h1 : ∀ j, j ≠ 10 → I' (C + j) = I (C + j) := fun j hj => funext fun i => hf _ _ (by omega)
  have e0 : I' C = I C := h1 0 (by omega)
  obtain ⟨a1, a3, a4, a5, a6, a7, a8, a9⟩ := hs
  have kc : ∀ (x : Int32) l, cLn I J (C + 1) L x l → cLn I' J (C + 1) L x l := by
    intro x l hl
    cases l with
    | none => exact hl
    | some y =>
      obtain ⟨u, u1, u2', u3⟩ := hl
      refine ⟨u, u1, u2', ?_⟩
      unfold cnm at u3 ⊢
      rw [hf _ _ (by omega)]
      exact u3
  refine ⟨cNm_fr a1 (hf _ _ (by omega)) (fun i => hf _ _ (by omega)) (fun _ => rfl), by rw [e0]; exact a3, by rw [e0]; exact a4, a5, a6, a7, fun i m hm => ?_, fun i l hl => ?_⟩
  · rw [hf (C + 5) i (by omega), hf (C + 6) i (by omega), hf (C + 7) i (by omega)]
    obtain ⟨d1, d2, d3, d4, d5⟩ := a8 i m hm
    exact ⟨d1, d2, d3, d4, kc _ _ d5⟩
  · rw [hf (C + 4) i (by omega)]
    exact kc _ _ (a9 i l hl)
/-- an event of the trace -/
theorem c10 {i : Nat} {kd x y : Int32} {nm : Nm} {dn : Nat → Bool} (hC : isC C) (hP : isP P) (hs : hC_ I J C s L) (hL : L ≤ 48) (hLp : Lp < 2 ^ 20) (hp : pF I J P Lp np nf) (hx : x = -1 ∨ oP np x) (hy : y = -1 ∨ oP np y) (hi' : i < 400) (e59 : I 59 i = kd) (e61 : cNf (cnm I J (P + 1)) Lp (I 61 i) = nm) (e63 : I 63 i = x) (e64 : I 64 i = y) (hd : dC I C dn) : ∃ I', jcall A jcode (d + 4) 10 [.ref (b + C), .ref (b + 58), .int (nI i), .ref (b + P)] (jH h b X I J R n) = some (.inl (some (.int (if (ftE s.1 s.2 (lbP nf) dn kd nm x y).isSome = true then nI 1 else nI 0))), jH h b X I' J R n) ∧ (∀ c k, c ≠ C + 10 → I' c k = I c k) ∧ ∀ dn', ftE s.1 s.2 (lbP nf) dn kd nm x y = some dn' → dC I' C dn' := by
  have hN := isP_N hP
  have hN2 := isC_N hC
  have hw := isW_57
  have hCe := isC_ee hC
  have hPe := isP_e hP
  have e11 := c11 (A := A) (d := d) (b := b) (h := h) (X := X) (R := R) (n := n) hC hP hs hL hLp hp hx
  have e11y := c11 (A := A) (d := d) (b := b) (h := h) (X := X) (R := R) (n := n) hC hP hs hL hLp hp hy
  have hli := hC_li hs
  have h40 := hs.2.2.2.2.1
  have h8 := hs.2.2.2.1
  have h6 := hs.2.1
  have hln := hli.2.1
  have t59 : (sT 59).2 = 400 := by decide +kernel
  have t61 : (sT 61).2 = 400 := by decide +kernel
  have t63 : (sT 63).2 = 400 := by decide +kernel
  have t64 : (sT 64).2 = 400 := by decide +kernel
  have w0 : jcall A jcode (d + 4) 10 [.ref (b + C), .ref (b + 58), .int (nI i), .ref (b + P)] (jH h b X I J R n) = M10 A (d + 3) 31 [some (.ref (b + C)), some (.ref (b + 58)), some (.int (nI i)), some (.ref (b + P)), some (.int (inO (lnI s.2 (lbP nf x)))), some (.int (nI (0))), none, none, none] [] (jH h b X I J R n) := by
    simp (disch := omega) [je10, r10_0, r10_1, r10_4, r10_5, r10_6, r10_9, r10_10, r10_15, r10_16, r10_17, r10_18, r10_21, r10_22, r10_23, r10_26, r10_28, r10_29, gW1 hw, vf7_0, tW1_0 hw, gW2 hw, pW2 hw, vf7_4, tW1_4 hw, gW6 hw, pW6 hw, qa11, qo11, gC0 hC, vf0_6, vf0_9, tC0_9 hC, gC10 hC, pC10 hC, qa5, qo5, vf7_5, tW1_5 hw, gW7 hw, pW7 hw, vf0_4, tC0_4 hC, gC6 hC, pC6 hC, vf0_3, tC0_3 hC, gC5 hC, pC5 hC, gP0 hP, vf5_0, tP0_0 hP, vf0_0, tC0_0 hC, vf7_2, tW1_2 hw, gW4 hw, pW4 hw, qa31, qo31, gN0 hN, vf0_5, tC0_5 hC, gC7 hC, pC7 hC, qa4, qo4, List.getElem?_cons_zero, List.getElem?_cons_succ, List.length_cons, List.length_nil, ag_nx, ag_dn, ag_no, ag_if, jbr1, jbr2, jc1, jc2, jnul, jld, jsto, jstoL, jst1, jst2, jkill, jinc, jbI, jbL, jbS, juI, jl2i, jcmp, jisR, jisI, jisL, jret, jretv, jfits, jdup, jdup2, jpop, jmm, jcat, Value.category, jinv, jrcv, jthr, jhd, jput, jget, jlen, jald, jast, jaast, jgI, jgL, jgB, jtab, jlku, jacp, vf20, vf21, vf22, vf23, vf24, u2_s, u2_k, u2_i, uc_s, uc_k, uc_c, u2_c, LI0, LI1, LI2, LI3, LI4, LI5, LI6, LI7, LI8, LI9, LI10, LI11, LI12, LI13, LI14, LI15, LI16, LI17, LI18, LI19, LI20, LI21, LI22, LI23, LI24, LI25, LI26, LI27, LI28, LI29, LI30, LI31, LI32, LI33, LI34, LI35, LI36, LI37, LI40, LI42, LI43, LI45, LI48, LI60, LI61, LI64, LI80, LI300, LI400, LI1000, LI2000, LI2001, LI2047, LI2048, LI100000, LI1000000, LI38, LI39, LI41, LI44, LI46, LI47, LI49, LI50, LI51, LI52, LI53, LI54, LI55, LI56, LI57, LI58, LI59, LI62, LI63, LI65, LI66, LI67, LI68, LI69, LI70, LI71, LI72, LI73, LI74, LI75, LI76, LI77, LI78, LI79, LI81, LI82, LI83, LI84, LI85, LI86, LI87, LI88, LI89, LI90, LI91, LI92, LI93, LI94, LI95, LI96, LI97, LI98, LI99, LI100, LI101, LI102, LI103, LI104, LI105, LI106, LI107, LI108, LI109, LI110, LI111, LI112, LI113, LI114, LI115, LI116, LI117, LI118, LI119, LI120, LI121, LI122, LI123, LI124, LI125, LI126, LI127, LI255, LI256, LI999, LI1001, LI1002, LI1600, LI4096, LI1000001, LI2042, LM, nI_clamp, nI_pos', nI_lt, nI_nlt, nI_le, nI_ge, nI_ne, nI_add, nI_sub, mI_lt, mI_le, mI_nlt, mI_nle, mI_ne, mI_ne', mI_nem, hi', e63, e11, t59, t61, t63, t64]
  have w1 := c10l (A := A) (d := d + 2) (b := b) (h := h) (X := X) (J := J) (R := R) (n := n) (i := i) (P := P) (v4 := inO (lnI s.2 (lbP nf x))) hC hP hli h6 hd (2 * s.1.length) 0 (by omega)
  have bad : ∀ (I' : Nat → Nat → Int32), ftE s.1 s.2 (lbP nf) dn kd nm x y = none → jcall A jcode (d + 4) 10 [.ref (b + C), .ref (b + 58), .int (nI i), .ref (b + P)] (jH h b X I J R n) = some (.inl (some (.int (nI 0))), (jH h b X I J R n)) → ∃ I', jcall A jcode (d + 4) 10 [.ref (b + C), .ref (b + 58), .int (nI i), .ref (b + P)] (jH h b X I J R n) = some (.inl (some (.int (if (ftE s.1 s.2 (lbP nf) dn kd nm x y).isSome = true then nI 1 else nI 0))), jH h b X I' J R n) ∧ (∀ c k, c ≠ C + 10 → I' c k = I c k) ∧ ∀ dn', ftE s.1 s.2 (lbP nf) dn kd nm x y = some dn' → dC I' C dn' := by
    intro _ hn he
    refine ⟨I, ?_, fun _ _ _ => rfl, fun dn' h' => by rw [hn] at h'; cases h'⟩
    rw [hn, he]
    rfl
  cases hf : lnI s.2 (lbP nf x) with
  | none =>
    rw [hf] at w0 w1
    have m1 : inO none = mI 1 := by rw [m1e]; rfl
    have m0 : mI 1 < nI 0 := by decide
    rw [m1] at w0 w1
    refine bad I (by unfold ftE; rw [hf]) ?_
    rw [w0, w1, r10_76]
    simp (disch := omega) [r10_78, r10_112, r10_113, gW1 hw, vf7_0, tW1_0 hw, gW2 hw, pW2 hw, vf7_4, tW1_4 hw, gW6 hw, pW6 hw, qa11, qo11, gC0 hC, vf0_6, vf0_9, tC0_9 hC, gC10 hC, pC10 hC, qa5, qo5, vf7_5, tW1_5 hw, gW7 hw, pW7 hw, vf0_4, tC0_4 hC, gC6 hC, pC6 hC, vf0_3, tC0_3 hC, gC5 hC, pC5 hC, gP0 hP, vf5_0, tP0_0 hP, vf0_0, tC0_0 hC, vf7_2, tW1_2 hw, gW4 hw, pW4 hw, qa31, qo31, gN0 hN, vf0_5, tC0_5 hC, gC7 hC, pC7 hC, qa4, qo4, List.getElem?_cons_zero, List.getElem?_cons_succ, List.length_cons, List.length_nil, ag_nx, ag_dn, ag_no, ag_if, jbr1, jbr2, jc1, jc2, jnul, jld, jsto, jstoL, jst1, jst2, jkill, jinc, jbI, jbL, jbS, juI, jl2i, jcmp, jisR, jisI, jisL, jret, jretv, jfits, jdup, jdup2, jpop, jmm, jcat, Value.category, jinv, jrcv, jthr, jhd, jput, jget, jlen, jald, jast, jaast, jgI, jgL, jgB, jtab, jlku, jacp, vf20, vf21, vf22, vf23, vf24, u2_s, u2_k, u2_i, uc_s, uc_k, uc_c, u2_c, LI0, LI1, LI2, LI3, LI4, LI5, LI6, LI7, LI8, LI9, LI10, LI11, LI12, LI13, LI14, LI15, LI16, LI17, LI18, LI19, LI20, LI21, LI22, LI23, LI24, LI25, LI26, LI27, LI28, LI29, LI30, LI31, LI32, LI33, LI34, LI35, LI36, LI37, LI40, LI42, LI43, LI45, LI48, LI60, LI61, LI64, LI80, LI300, LI400, LI1000, LI2000, LI2001, LI2047, LI2048, LI100000, LI1000000, LI38, LI39, LI41, LI44, LI46, LI47, LI49, LI50, LI51, LI52, LI53, LI54, LI55, LI56, LI57, LI58, LI59, LI62, LI63, LI65, LI66, LI67, LI68, LI69, LI70, LI71, LI72, LI73, LI74, LI75, LI76, LI77, LI78, LI79, LI81, LI82, LI83, LI84, LI85, LI86, LI87, LI88, LI89, LI90, LI91, LI92, LI93, LI94, LI95, LI96, LI97, LI98, LI99, LI100, LI101, LI102, LI103, LI104, LI105, LI106, LI107, LI108, LI109, LI110, LI111, LI112, LI113, LI114, LI115, LI116, LI117, LI118, LI119, LI120, LI121, LI122, LI123, LI124, LI125, LI126, LI127, LI255, LI256, LI999, LI1001, LI1002, LI1600, LI4096, LI1000001, LI2042, LM, nI_clamp, nI_pos', nI_lt, nI_nlt, nI_le, nI_ge, nI_ne, nI_add, nI_sub, mI_lt, mI_le, mI_nlt, mI_nle, mI_ne, mI_ne', mI_nem, m0]
  | some f =>
    have f8 := (lnI_lt hf).1
    rw [hf] at w0 w1
    have m1 : inO (some f) = nI f := rfl
    have m0 : ¬ nI f < nI 0 := by rw [nI_ltI (by omega) (by omega)]; omega
    rw [m1] at w0 w1
    have hq : fdP (fun j => !dn j && decide (nI (lnM s.1 j) = nI f)) (2 * s.1.length) 0 = fdP (fun k => !dn k && decide (lnM s.1 k = f)) (2 * s.1.length) 0 := fdP_cg _ _ (fun j _ _ => by
      by_cases hh : lnM s.1 j = f
      · rw [hh]; simp
      · have := hln j
        simp only [hh, decide_false]
        rw [decide_eq_false (nI_ne hh (by omega) (by omega))])
    rw [hq] at w1
    cases hk : fdP (fun k => !dn k && decide (lnM s.1 k = f)) (2 * s.1.length) 0 with
    | none =>
      rw [hk] at w1
      replace w1 : _ = M10 A (d + 3) 76 [some (.ref (b + C)), some (.ref (b + 58)), some (.int (nI i)), some (.ref (b + P)), some (.int (nI f)), some (.int (nI (2 * s.1.length))), none, none, none] [] (jH h b X I J R n) := w1
      refine bad I (by unfold ftE; rw [hf]; simp only; rw [hk]) ?_
      rw [w0, w1, r10_76]
      simp (disch := omega) [r10_78, r10_81, r10_83, r10_84, r10_85, r10_88, r10_89, r10_112, r10_113, gW1 hw, vf7_0, tW1_0 hw, gW2 hw, pW2 hw, vf7_4, tW1_4 hw, gW6 hw, pW6 hw, qa11, qo11, gC0 hC, vf0_6, vf0_9, tC0_9 hC, gC10 hC, pC10 hC, qa5, qo5, vf7_5, tW1_5 hw, gW7 hw, pW7 hw, vf0_4, tC0_4 hC, gC6 hC, pC6 hC, vf0_3, tC0_3 hC, gC5 hC, pC5 hC, gP0 hP, vf5_0, tP0_0 hP, vf0_0, tC0_0 hC, vf7_2, tW1_2 hw, gW4 hw, pW4 hw, qa31, qo31, gN0 hN, vf0_5, tC0_5 hC, gC7 hC, pC7 hC, qa4, qo4, List.getElem?_cons_zero, List.getElem?_cons_succ, List.length_cons, List.length_nil, ag_nx, ag_dn, ag_no, ag_if, jbr1, jbr2, jc1, jc2, jnul, jld, jsto, jstoL, jst1, jst2, jkill, jinc, jbI, jbL, jbS, juI, jl2i, jcmp, jisR, jisI, jisL, jret, jretv, jfits, jdup, jdup2, jpop, jmm, jcat, Value.category, jinv, jrcv, jthr, jhd, jput, jget, jlen, jald, jast, jaast, jgI, jgL, jgB, jtab, jlku, jacp, vf20, vf21, vf22, vf23, vf24, u2_s, u2_k, u2_i, uc_s, uc_k, uc_c, u2_c, LI0, LI1, LI2, LI3, LI4, LI5, LI6, LI7, LI8, LI9, LI10, LI11, LI12, LI13, LI14, LI15, LI16, LI17, LI18, LI19, LI20, LI21, LI22, LI23, LI24, LI25, LI26, LI27, LI28, LI29, LI30, LI31, LI32, LI33, LI34, LI35, LI36, LI37, LI40, LI42, LI43, LI45, LI48, LI60, LI61, LI64, LI80, LI300, LI400, LI1000, LI2000, LI2001, LI2047, LI2048, LI100000, LI1000000, LI38, LI39, LI41, LI44, LI46, LI47, LI49, LI50, LI51, LI52, LI53, LI54, LI55, LI56, LI57, LI58, LI59, LI62, LI63, LI65, LI66, LI67, LI68, LI69, LI70, LI71, LI72, LI73, LI74, LI75, LI76, LI77, LI78, LI79, LI81, LI82, LI83, LI84, LI85, LI86, LI87, LI88, LI89, LI90, LI91, LI92, LI93, LI94, LI95, LI96, LI97, LI98, LI99, LI100, LI101, LI102, LI103, LI104, LI105, LI106, LI107, LI108, LI109, LI110, LI111, LI112, LI113, LI114, LI115, LI116, LI117, LI118, LI119, LI120, LI121, LI122, LI123, LI124, LI125, LI126, LI127, LI255, LI256, LI999, LI1001, LI1002, LI1600, LI4096, LI1000001, LI2042, LM, nI_clamp, nI_pos', nI_lt, nI_nlt, nI_le, nI_ge, nI_ne, nI_add, nI_sub, mI_lt, mI_le, mI_nlt, mI_nle, mI_ne, mI_ne', mI_nem, m0, h6, nI_mul]
    | some k =>
      rw [hk] at w1
      replace w1 : _ = M10 A (d + 3) 76 [some (.ref (b + C)), some (.ref (b + 58)), some (.int (nI i)), some (.ref (b + P)), some (.int (nI f)), some (.int (nI (k))), none, none, none] [] (jH h b X I J R n) := w1
      obtain ⟨_, k2m, _⟩ := fdP_b _ _ _ hk
      rw [Nat.zero_add] at k2m
      have k80 : k < 80 := by omega
      have a1 := an1 k k80
      have s1 := sh1 k k80
      have kh : k / 2 < s.1.length := by omega
      have k40 : k / 2 < 40 := by omega
      have hx' : s.1[k / 2]? = some s.1[k / 2] := List.getElem?_eq_getElem kh
      obtain ⟨g1, g2, g3, g4, g5⟩ := hs.2.2.2.2.2.2.1 _ _ hx'
      have hgd : s.1.getD (k / 2) (0, 0, (0, 0)) = s.1[k / 2] := by rw [List.getD_eq_getElem?_getD, hx']; rfl
      have hE : ftE s.1 s.2 (lbP nf) dn kd nm x y = if nI (k % 2) = kd ∧ lnI s.2 (lbP nf y) = some (othL s.1 k) ∧ nm = .inl s.1[k / 2].2.2 then some (if k % 2 = 0 ∧ lbP nf y = some none then ftD (ftD dn k) (k + 1) else ftD dn k) else none := by
        unfold ftE
        rw [hf]
        simp only
        rw [hk]
        simp only
        rw [hgd]
      by_cases c1 : nI (k % 2) = kd
      · have ekd : I 59 i = nI (k % 2) := e59.trans c1.symm
        have hoth : (if k % 2 = 0 then I (C + 6) (k / 2) else I (C + 5) (k / 2)) = nI (othL s.1 k) := by
          unfold othL
          rw [hgd]
          split
          · exact g4
          · exact g3
        have holt : othL s.1 k < 8 := by
          unfold othL
          rw [hgd]
          split
          · exact Nat.lt_of_lt_of_le g2 h8
          · exact Nat.lt_of_lt_of_le g1 h8
        -- up to the other's line
        have w2 : jcall A jcode (d + 4) 10 [.ref (b + C), .ref (b + 58), .int (nI i), .ref (b + P)] (jH h b X I J R n) = M10 A (d + 3) 159 [some (.ref (b + C)), some (.ref (b + 58)), some (.int (nI i)), some (.ref (b + P)), some (.int (nI f)), some (.int (nI (k))), some (.int (nI (k / 2))), some (.int (inO (lnI s.2 (lbP nf y)))), some (.int (nI (othL s.1 k)))] [] (jH h b X I J R n) := by
          rw [w0, w1, r10_76]
          by_cases hev : k % 2 = 0
          · rw [if_pos hev] at hoth
            rw [hev] at a1 ekd
            simp (disch := omega) [r10_78, r10_81, r10_83, r10_84, r10_85, r10_88, r10_89, r10_92, r10_94, r10_96, r10_99, r10_101, r10_102, r10_103, r10_104, r10_107, r10_108, r10_109, r10_114, r10_116, r10_117, r10_118, r10_120, r10_121, r10_122, r10_123, r10_126, r10_127, r10_128, r10_131, r10_133, r10_135, r10_136, r10_137, r10_140, r10_141, r10_144, r10_146, r10_147, r10_157, gW1 hw, vf7_0, tW1_0 hw, gW2 hw, pW2 hw, vf7_4, tW1_4 hw, gW6 hw, pW6 hw, qa11, qo11, gC0 hC, vf0_6, vf0_9, tC0_9 hC, gC10 hC, pC10 hC, qa5, qo5, vf7_5, tW1_5 hw, gW7 hw, pW7 hw, vf0_4, tC0_4 hC, gC6 hC, pC6 hC, vf0_3, tC0_3 hC, gC5 hC, pC5 hC, gP0 hP, vf5_0, tP0_0 hP, vf0_0, tC0_0 hC, vf7_2, tW1_2 hw, gW4 hw, pW4 hw, qa31, qo31, gN0 hN, vf0_5, tC0_5 hC, gC7 hC, pC7 hC, qa4, qo4, List.getElem?_cons_zero, List.getElem?_cons_succ, List.length_cons, List.length_nil, ag_nx, ag_dn, ag_no, ag_if, jbr1, jbr2, jc1, jc2, jnul, jld, jsto, jstoL, jst1, jst2, jkill, jinc, jbI, jbL, jbS, juI, jl2i, jcmp, jisR, jisI, jisL, jret, jretv, jfits, jdup, jdup2, jpop, jmm, jcat, Value.category, jinv, jrcv, jthr, jhd, jput, jget, jlen, jald, jast, jaast, jgI, jgL, jgB, jtab, jlku, jacp, vf20, vf21, vf22, vf23, vf24, u2_s, u2_k, u2_i, uc_s, uc_k, uc_c, u2_c, LI0, LI1, LI2, LI3, LI4, LI5, LI6, LI7, LI8, LI9, LI10, LI11, LI12, LI13, LI14, LI15, LI16, LI17, LI18, LI19, LI20, LI21, LI22, LI23, LI24, LI25, LI26, LI27, LI28, LI29, LI30, LI31, LI32, LI33, LI34, LI35, LI36, LI37, LI40, LI42, LI43, LI45, LI48, LI60, LI61, LI64, LI80, LI300, LI400, LI1000, LI2000, LI2001, LI2047, LI2048, LI100000, LI1000000, LI38, LI39, LI41, LI44, LI46, LI47, LI49, LI50, LI51, LI52, LI53, LI54, LI55, LI56, LI57, LI58, LI59, LI62, LI63, LI65, LI66, LI67, LI68, LI69, LI70, LI71, LI72, LI73, LI74, LI75, LI76, LI77, LI78, LI79, LI81, LI82, LI83, LI84, LI85, LI86, LI87, LI88, LI89, LI90, LI91, LI92, LI93, LI94, LI95, LI96, LI97, LI98, LI99, LI100, LI101, LI102, LI103, LI104, LI105, LI106, LI107, LI108, LI109, LI110, LI111, LI112, LI113, LI114, LI115, LI116, LI117, LI118, LI119, LI120, LI121, LI122, LI123, LI124, LI125, LI126, LI127, LI255, LI256, LI999, LI1001, LI1002, LI1600, LI4096, LI1000001, LI2042, LM, nI_clamp, nI_pos', nI_lt, nI_nlt, nI_le, nI_ge, nI_ne, nI_add, nI_sub, mI_lt, mI_le, mI_nlt, mI_nle, mI_ne, mI_ne', mI_nem, m0, h6, nI_mul, a1, s1, ekd, e64, e11y, hoth, k40, hi', t59, t61, t63, t64]
          · rw [if_neg hev] at hoth
            rw [show k % 2 = 1 by omega] at a1 ekd
            simp (disch := omega) [r10_78, r10_81, r10_83, r10_84, r10_85, r10_88, r10_89, r10_92, r10_94, r10_96, r10_99, r10_101, r10_102, r10_103, r10_104, r10_107, r10_108, r10_109, r10_114, r10_116, r10_117, r10_118, r10_120, r10_121, r10_122, r10_123, r10_126, r10_127, r10_128, r10_131, r10_133, r10_135, r10_136, r10_137, r10_150, r10_151, r10_154, r10_156, r10_157, gW1 hw, vf7_0, tW1_0 hw, gW2 hw, pW2 hw, vf7_4, tW1_4 hw, gW6 hw, pW6 hw, qa11, qo11, gC0 hC, vf0_6, vf0_9, tC0_9 hC, gC10 hC, pC10 hC, qa5, qo5, vf7_5, tW1_5 hw, gW7 hw, pW7 hw, vf0_4, tC0_4 hC, gC6 hC, pC6 hC, vf0_3, tC0_3 hC, gC5 hC, pC5 hC, gP0 hP, vf5_0, tP0_0 hP, vf0_0, tC0_0 hC, vf7_2, tW1_2 hw, gW4 hw, pW4 hw, qa31, qo31, gN0 hN, vf0_5, tC0_5 hC, gC7 hC, pC7 hC, qa4, qo4, List.getElem?_cons_zero, List.getElem?_cons_succ, List.length_cons, List.length_nil, ag_nx, ag_dn, ag_no, ag_if, jbr1, jbr2, jc1, jc2, jnul, jld, jsto, jstoL, jst1, jst2, jkill, jinc, jbI, jbL, jbS, juI, jl2i, jcmp, jisR, jisI, jisL, jret, jretv, jfits, jdup, jdup2, jpop, jmm, jcat, Value.category, jinv, jrcv, jthr, jhd, jput, jget, jlen, jald, jast, jaast, jgI, jgL, jgB, jtab, jlku, jacp, vf20, vf21, vf22, vf23, vf24, u2_s, u2_k, u2_i, uc_s, uc_k, uc_c, u2_c, LI0, LI1, LI2, LI3, LI4, LI5, LI6, LI7, LI8, LI9, LI10, LI11, LI12, LI13, LI14, LI15, LI16, LI17, LI18, LI19, LI20, LI21, LI22, LI23, LI24, LI25, LI26, LI27, LI28, LI29, LI30, LI31, LI32, LI33, LI34, LI35, LI36, LI37, LI40, LI42, LI43, LI45, LI48, LI60, LI61, LI64, LI80, LI300, LI400, LI1000, LI2000, LI2001, LI2047, LI2048, LI100000, LI1000000, LI38, LI39, LI41, LI44, LI46, LI47, LI49, LI50, LI51, LI52, LI53, LI54, LI55, LI56, LI57, LI58, LI59, LI62, LI63, LI65, LI66, LI67, LI68, LI69, LI70, LI71, LI72, LI73, LI74, LI75, LI76, LI77, LI78, LI79, LI81, LI82, LI83, LI84, LI85, LI86, LI87, LI88, LI89, LI90, LI91, LI92, LI93, LI94, LI95, LI96, LI97, LI98, LI99, LI100, LI101, LI102, LI103, LI104, LI105, LI106, LI107, LI108, LI109, LI110, LI111, LI112, LI113, LI114, LI115, LI116, LI117, LI118, LI119, LI120, LI121, LI122, LI123, LI124, LI125, LI126, LI127, LI255, LI256, LI999, LI1001, LI1002, LI1600, LI4096, LI1000001, LI2042, LM, nI_clamp, nI_pos', nI_lt, nI_nlt, nI_le, nI_ge, nI_ne, nI_add, nI_sub, mI_lt, mI_le, mI_nlt, mI_nle, mI_ne, mI_ne', mI_nem, m0, h6, nI_mul, a1, s1, ekd, e64, e11y, hoth, k40, hi', t59, t61, t63, t64]
        have hyb : ∀ z, lnI s.2 (lbP nf y) = some z → z < 2 ^ 20 := fun z hz => by have := (lnI_lt hz).1; omega
        have hoe := inO_n (q := othL s.1 k) (by omega) hyb
        by_cases c2 : lnI s.2 (lbP nf y) = some (othL s.1 k)
        · have e7 := hoe.mpr c2
          rw [e7] at w2
          have e31 := c31f (A := A) (d := d + 1) (b := b) (h := h) (X := X) (R := R) (n := n) (w := I 61 i) (nm := nm) hC hP hp.1 hs.1 hLp (fun z hz => by
            rw [hz] at e61
            obtain ⟨q1, q2, q3⟩ := cNf_l e61
            exact ⟨_, q1, q2, q3⟩) (fun z hz q => by
            have hnn : ¬ I 61 i < 0 := by rw [show (0 : Int32) = nI 0 from LI0]; exact Int32.not_lt.mpr q.1
            obtain ⟨v, hv, hve⟩ := nI_of hnn
            have q2 := q.2
            rw [hve, nI_ltI hv (by omega)] at q2
            rw [hve, cNf_v q2 hv, hz] at e61
            cases e61)
          obtain ⟨u, u1, u2', u3⟩ := g5
          have hne := fnN_e (nm := nm) (D := cnm I J (C + 1)) (y := s.1[k / 2].2.2) (by omega) u1 u3 hs.1.2.2
          have e58 : (57 : Nat) + 1 = 58 := rfl
          by_cases c3 : nm = .inl s.1[k / 2].2.2
          · have e3 := hne.mpr c3
            rw [e3] at e31
            have hcc : nI (k % 2) = kd ∧ lnI s.2 (lbP nf y) = some (othL s.1 k) ∧ nm = .inl s.1[k / 2].2.2 := ⟨c1, c2, c3⟩
            rw [if_pos hcc] at hE
            rw [hE]
            have eo := c4f (A := A) (d := d + 2) (b := b) (h := h) (X := X) (R := R) (n := n) (I := u2 I (C + 10) k (nI 1)) (J := J) (x := mI 2) (l := none) (s := s) (L := L) hC (hC_d hs (fun c i hc => u2_o _ _ (by omega))) hL rfl
            have w3 : jcall A jcode (d + 4) 10 [.ref (b + C), .ref (b + 58), .int (nI i), .ref (b + P)] (jH h b X I J R n) = M10 A (d + 3) 203 [some (.ref (b + C)), some (.ref (b + 58)), some (.int (nI i)), some (.ref (b + P)), some (.int (nI f)), some (.int (nI (k))), some (.int (nI (k / 2))), some (.int (nI (othL s.1 k))), some (.int (nI (othL s.1 k)))] [] (jH h b X (u2 I (C + 10) k (nI 1)) J R n) := by
              rw [w2, r10_159]
              simp (disch := omega) [r10_161, r10_163, r10_166, r10_167, r10_170, r10_171, r10_174, r10_175, r10_178, r10_179, r10_180, r10_183, r10_184, r10_187, r10_189, r10_190, r10_195, r10_196, r10_199, r10_201, r10_202, gW1 hw, vf7_0, tW1_0 hw, gW2 hw, pW2 hw, vf7_4, tW1_4 hw, gW6 hw, pW6 hw, qa11, qo11, gC0 hC, vf0_6, vf0_9, tC0_9 hC, gC10 hC, pC10 hC, qa5, qo5, vf7_5, tW1_5 hw, gW7 hw, pW7 hw, vf0_4, tC0_4 hC, gC6 hC, pC6 hC, vf0_3, tC0_3 hC, gC5 hC, pC5 hC, gP0 hP, vf5_0, tP0_0 hP, vf0_0, tC0_0 hC, vf7_2, tW1_2 hw, gW4 hw, pW4 hw, qa31, qo31, gN0 hN, vf0_5, tC0_5 hC, gC7 hC, pC7 hC, qa4, qo4, List.getElem?_cons_zero, List.getElem?_cons_succ, List.length_cons, List.length_nil, ag_nx, ag_dn, ag_no, ag_if, jbr1, jbr2, jc1, jc2, jnul, jld, jsto, jstoL, jst1, jst2, jkill, jinc, jbI, jbL, jbS, juI, jl2i, jcmp, jisR, jisI, jisL, jret, jretv, jfits, jdup, jdup2, jpop, jmm, jcat, Value.category, jinv, jrcv, jthr, jhd, jput, jget, jlen, jald, jast, jaast, jgI, jgL, jgB, jtab, jlku, jacp, vf20, vf21, vf22, vf23, vf24, u2_s, u2_k, u2_i, uc_s, uc_k, uc_c, u2_c, LI0, LI1, LI2, LI3, LI4, LI5, LI6, LI7, LI8, LI9, LI10, LI11, LI12, LI13, LI14, LI15, LI16, LI17, LI18, LI19, LI20, LI21, LI22, LI23, LI24, LI25, LI26, LI27, LI28, LI29, LI30, LI31, LI32, LI33, LI34, LI35, LI36, LI37, LI40, LI42, LI43, LI45, LI48, LI60, LI61, LI64, LI80, LI300, LI400, LI1000, LI2000, LI2001, LI2047, LI2048, LI100000, LI1000000, LI38, LI39, LI41, LI44, LI46, LI47, LI49, LI50, LI51, LI52, LI53, LI54, LI55, LI56, LI57, LI58, LI59, LI62, LI63, LI65, LI66, LI67, LI68, LI69, LI70, LI71, LI72, LI73, LI74, LI75, LI76, LI77, LI78, LI79, LI81, LI82, LI83, LI84, LI85, LI86, LI87, LI88, LI89, LI90, LI91, LI92, LI93, LI94, LI95, LI96, LI97, LI98, LI99, LI100, LI101, LI102, LI103, LI104, LI105, LI106, LI107, LI108, LI109, LI110, LI111, LI112, LI113, LI114, LI115, LI116, LI117, LI118, LI119, LI120, LI121, LI122, LI123, LI124, LI125, LI126, LI127, LI255, LI256, LI999, LI1001, LI1002, LI1600, LI4096, LI1000001, LI2042, LM, nI_clamp, nI_pos', nI_lt, nI_nlt, nI_le, nI_ge, nI_ne, nI_add, nI_sub, mI_lt, mI_le, mI_nlt, mI_nle, mI_ne, mI_ne', mI_nem, e31, u2', k40, k80, hi', t59, t61, t63, t64]
            have hob : ∀ z, s.2.findIdx? (fun y => decide (y = none)) = some z → z < 2 ^ 20 := fun z hz => by have := (List.findIdx?_eq_some_iff_getElem.mp hz).1; omega
            have hoo := inO_n (q := othL s.1 k) (by omega) hob
            have dC1 : dC (u2 I (C + 10) k (nI 1)) C (ftD dn k) := fun j hj => by
              unfold ftD
              by_cases hjk : j = k
              · rw [hjk, u2_s]; simp
              · rw [u2_o _ _ (by omega), if_neg hjk]; exact hd j hj
            by_cases hev : k % 2 = 0
            · rw [hev] at a1
              obtain ⟨_, l, hl1, hl2⟩ := lnI_lt c2
              by_cases c4 : lbP nf y = some none
              · have hfo : s.2.findIdx? (fun y => decide (y = none)) = some (othL s.1 k) := by rw [c4] at c2; exact c2
                have eq := hoo.mpr hfo
                rw [eq] at eo
                refine ⟨u2 (u2 I (C + 10) k (nI 1)) (C + 10) (k + 1) (nI 1), ?_, fun c j hc => by rw [u2_o _ _ (by omega), u2_o _ _ (by omega)], fun dn' h' => ?_⟩
                · rw [w3, r10_203]
                  have k81 : k + 1 < 80 := by omega
                  simp (disch := omega) [r10_205, r10_206, r10_207, r10_210, r10_212, r10_213, r10_215, r10_218, r10_221, r10_222, r10_225, r10_227, r10_228, r10_229, r10_230, r10_231, r10_232, gW1 hw, vf7_0, tW1_0 hw, gW2 hw, pW2 hw, vf7_4, tW1_4 hw, gW6 hw, pW6 hw, qa11, qo11, gC0 hC, vf0_6, vf0_9, tC0_9 hC, gC10 hC, pC10 hC, qa5, qo5, vf7_5, tW1_5 hw, gW7 hw, pW7 hw, vf0_4, tC0_4 hC, gC6 hC, pC6 hC, vf0_3, tC0_3 hC, gC5 hC, pC5 hC, gP0 hP, vf5_0, tP0_0 hP, vf0_0, tC0_0 hC, vf7_2, tW1_2 hw, gW4 hw, pW4 hw, qa31, qo31, gN0 hN, vf0_5, tC0_5 hC, gC7 hC, pC7 hC, qa4, qo4, List.getElem?_cons_zero, List.getElem?_cons_succ, List.length_cons, List.length_nil, ag_nx, ag_dn, ag_no, ag_if, jbr1, jbr2, jc1, jc2, jnul, jld, jsto, jstoL, jst1, jst2, jkill, jinc, jbI, jbL, jbS, juI, jl2i, jcmp, jisR, jisI, jisL, jret, jretv, jfits, jdup, jdup2, jpop, jmm, jcat, Value.category, jinv, jrcv, jthr, jhd, jput, jget, jlen, jald, jast, jaast, jgI, jgL, jgB, jtab, jlku, jacp, vf20, vf21, vf22, vf23, vf24, u2_s, u2_k, u2_i, uc_s, uc_k, uc_c, u2_c, LI0, LI1, LI2, LI3, LI4, LI5, LI6, LI7, LI8, LI9, LI10, LI11, LI12, LI13, LI14, LI15, LI16, LI17, LI18, LI19, LI20, LI21, LI22, LI23, LI24, LI25, LI26, LI27, LI28, LI29, LI30, LI31, LI32, LI33, LI34, LI35, LI36, LI37, LI40, LI42, LI43, LI45, LI48, LI60, LI61, LI64, LI80, LI300, LI400, LI1000, LI2000, LI2001, LI2047, LI2048, LI100000, LI1000000, LI38, LI39, LI41, LI44, LI46, LI47, LI49, LI50, LI51, LI52, LI53, LI54, LI55, LI56, LI57, LI58, LI59, LI62, LI63, LI65, LI66, LI67, LI68, LI69, LI70, LI71, LI72, LI73, LI74, LI75, LI76, LI77, LI78, LI79, LI81, LI82, LI83, LI84, LI85, LI86, LI87, LI88, LI89, LI90, LI91, LI92, LI93, LI94, LI95, LI96, LI97, LI98, LI99, LI100, LI101, LI102, LI103, LI104, LI105, LI106, LI107, LI108, LI109, LI110, LI111, LI112, LI113, LI114, LI115, LI116, LI117, LI118, LI119, LI120, LI121, LI122, LI123, LI124, LI125, LI126, LI127, LI255, LI256, LI999, LI1001, LI1002, LI1600, LI4096, LI1000001, LI2042, LM, nI_clamp, nI_pos', nI_lt, nI_nlt, nI_le, nI_ge, nI_ne, nI_add, nI_sub, mI_lt, mI_le, mI_nlt, mI_nle, mI_ne, mI_ne', mI_nem, a1, eo, k81]
                · rw [if_pos (show k % 2 = 0 ∧ lbP nf y = some none from ⟨hev, c4⟩)] at h'
                  cases h'
                  intro j hj
                  unfold ftD
                  by_cases hjk : j = k + 1
                  · rw [hjk, u2_s]; simp
                  · rw [u2_o _ _ (by omega), if_neg hjk]; exact dC1 j hj
              · have hfo : ¬ s.2.findIdx? (fun y => decide (y = none)) = some (othL s.1 k) := fun hz => by
                  obtain ⟨h1, h2, _⟩ := List.findIdx?_eq_some_iff_getElem.mp hz
                  rw [List.getElem?_eq_getElem h1] at hl2
                  have h3 : s.2[othL s.1 k] = none := by simpa using h2
                  rw [h3] at hl2
                  cases hl2
                  exact c4 hl1
                have neq : ¬ nI (othL s.1 k) = inO (s.2.findIdx? (fun y => decide (y = none))) := fun z => hfo (hoo.mp z.symm)
                refine ⟨u2 I (C + 10) k (nI 1), ?_, fun c j hc => u2_o _ _ (by omega), fun dn' h' => ?_⟩
                · rw [w3, r10_203]
                  simp (disch := omega) [r10_205, r10_206, r10_207, r10_210, r10_212, r10_213, r10_215, r10_218, r10_231, r10_232, gW1 hw, vf7_0, tW1_0 hw, gW2 hw, pW2 hw, vf7_4, tW1_4 hw, gW6 hw, pW6 hw, qa11, qo11, gC0 hC, vf0_6, vf0_9, tC0_9 hC, gC10 hC, pC10 hC, qa5, qo5, vf7_5, tW1_5 hw, gW7 hw, pW7 hw, vf0_4, tC0_4 hC, gC6 hC, pC6 hC, vf0_3, tC0_3 hC, gC5 hC, pC5 hC, gP0 hP, vf5_0, tP0_0 hP, vf0_0, tC0_0 hC, vf7_2, tW1_2 hw, gW4 hw, pW4 hw, qa31, qo31, gN0 hN, vf0_5, tC0_5 hC, gC7 hC, pC7 hC, qa4, qo4, List.getElem?_cons_zero, List.getElem?_cons_succ, List.length_cons, List.length_nil, ag_nx, ag_dn, ag_no, ag_if, jbr1, jbr2, jc1, jc2, jnul, jld, jsto, jstoL, jst1, jst2, jkill, jinc, jbI, jbL, jbS, juI, jl2i, jcmp, jisR, jisI, jisL, jret, jretv, jfits, jdup, jdup2, jpop, jmm, jcat, Value.category, jinv, jrcv, jthr, jhd, jput, jget, jlen, jald, jast, jaast, jgI, jgL, jgB, jtab, jlku, jacp, vf20, vf21, vf22, vf23, vf24, u2_s, u2_k, u2_i, uc_s, uc_k, uc_c, u2_c, LI0, LI1, LI2, LI3, LI4, LI5, LI6, LI7, LI8, LI9, LI10, LI11, LI12, LI13, LI14, LI15, LI16, LI17, LI18, LI19, LI20, LI21, LI22, LI23, LI24, LI25, LI26, LI27, LI28, LI29, LI30, LI31, LI32, LI33, LI34, LI35, LI36, LI37, LI40, LI42, LI43, LI45, LI48, LI60, LI61, LI64, LI80, LI300, LI400, LI1000, LI2000, LI2001, LI2047, LI2048, LI100000, LI1000000, LI38, LI39, LI41, LI44, LI46, LI47, LI49, LI50, LI51, LI52, LI53, LI54, LI55, LI56, LI57, LI58, LI59, LI62, LI63, LI65, LI66, LI67, LI68, LI69, LI70, LI71, LI72, LI73, LI74, LI75, LI76, LI77, LI78, LI79, LI81, LI82, LI83, LI84, LI85, LI86, LI87, LI88, LI89, LI90, LI91, LI92, LI93, LI94, LI95, LI96, LI97, LI98, LI99, LI100, LI101, LI102, LI103, LI104, LI105, LI106, LI107, LI108, LI109, LI110, LI111, LI112, LI113, LI114, LI115, LI116, LI117, LI118, LI119, LI120, LI121, LI122, LI123, LI124, LI125, LI126, LI127, LI255, LI256, LI999, LI1001, LI1002, LI1600, LI4096, LI1000001, LI2042, LM, nI_clamp, nI_pos', nI_lt, nI_nlt, nI_le, nI_ge, nI_ne, nI_add, nI_sub, mI_lt, mI_le, mI_nlt, mI_nle, mI_ne, mI_ne', mI_nem, a1, eo, neq]
                · rw [if_neg (show ¬ (k % 2 = 0 ∧ lbP nf y = some none) from fun z => c4 z.2)] at h'
                  cases h'
                  exact dC1
            · rw [show k % 2 = 1 by omega] at a1
              refine ⟨u2 I (C + 10) k (nI 1), ?_, fun c j hc => u2_o _ _ (by omega), fun dn' h' => ?_⟩
              · rw [w3, r10_203]
                simp (disch := omega) [r10_205, r10_206, r10_207, r10_231, r10_232, gW1 hw, vf7_0, tW1_0 hw, gW2 hw, pW2 hw, vf7_4, tW1_4 hw, gW6 hw, pW6 hw, qa11, qo11, gC0 hC, vf0_6, vf0_9, tC0_9 hC, gC10 hC, pC10 hC, qa5, qo5, vf7_5, tW1_5 hw, gW7 hw, pW7 hw, vf0_4, tC0_4 hC, gC6 hC, pC6 hC, vf0_3, tC0_3 hC, gC5 hC, pC5 hC, gP0 hP, vf5_0, tP0_0 hP, vf0_0, tC0_0 hC, vf7_2, tW1_2 hw, gW4 hw, pW4 hw, qa31, qo31, gN0 hN, vf0_5, tC0_5 hC, gC7 hC, pC7 hC, qa4, qo4, List.getElem?_cons_zero, List.getElem?_cons_succ, List.length_cons, List.length_nil, ag_nx, ag_dn, ag_no, ag_if, jbr1, jbr2, jc1, jc2, jnul, jld, jsto, jstoL, jst1, jst2, jkill, jinc, jbI, jbL, jbS, juI, jl2i, jcmp, jisR, jisI, jisL, jret, jretv, jfits, jdup, jdup2, jpop, jmm, jcat, Value.category, jinv, jrcv, jthr, jhd, jput, jget, jlen, jald, jast, jaast, jgI, jgL, jgB, jtab, jlku, jacp, vf20, vf21, vf22, vf23, vf24, u2_s, u2_k, u2_i, uc_s, uc_k, uc_c, u2_c, LI0, LI1, LI2, LI3, LI4, LI5, LI6, LI7, LI8, LI9, LI10, LI11, LI12, LI13, LI14, LI15, LI16, LI17, LI18, LI19, LI20, LI21, LI22, LI23, LI24, LI25, LI26, LI27, LI28, LI29, LI30, LI31, LI32, LI33, LI34, LI35, LI36, LI37, LI40, LI42, LI43, LI45, LI48, LI60, LI61, LI64, LI80, LI300, LI400, LI1000, LI2000, LI2001, LI2047, LI2048, LI100000, LI1000000, LI38, LI39, LI41, LI44, LI46, LI47, LI49, LI50, LI51, LI52, LI53, LI54, LI55, LI56, LI57, LI58, LI59, LI62, LI63, LI65, LI66, LI67, LI68, LI69, LI70, LI71, LI72, LI73, LI74, LI75, LI76, LI77, LI78, LI79, LI81, LI82, LI83, LI84, LI85, LI86, LI87, LI88, LI89, LI90, LI91, LI92, LI93, LI94, LI95, LI96, LI97, LI98, LI99, LI100, LI101, LI102, LI103, LI104, LI105, LI106, LI107, LI108, LI109, LI110, LI111, LI112, LI113, LI114, LI115, LI116, LI117, LI118, LI119, LI120, LI121, LI122, LI123, LI124, LI125, LI126, LI127, LI255, LI256, LI999, LI1001, LI1002, LI1600, LI4096, LI1000001, LI2042, LM, nI_clamp, nI_pos', nI_lt, nI_nlt, nI_le, nI_ge, nI_ne, nI_add, nI_sub, mI_lt, mI_le, mI_nlt, mI_nle, mI_ne, mI_ne', mI_nem, a1]
              · rw [if_neg (show ¬ (k % 2 = 0 ∧ lbP nf y = some none) from fun z => hev z.1)] at h'
                cases h'
                exact dC1
          · have n3 : ¬ inO (fnN (cnm I J (C + 1)) L nm) = nI u := fun z => c3 (hne.mp z)
            refine bad I (by rw [hE, if_neg (fun z => c3 z.2.2)]) ?_
            rw [w2, r10_159]
            simp (disch := omega) [r10_161, r10_163, r10_166, r10_167, r10_170, r10_171, r10_174, r10_175, r10_178, r10_179, r10_180, r10_183, r10_184, r10_187, r10_189, r10_190, r10_193, r10_194, gW1 hw, vf7_0, tW1_0 hw, gW2 hw, pW2 hw, vf7_4, tW1_4 hw, gW6 hw, pW6 hw, qa11, qo11, gC0 hC, vf0_6, vf0_9, tC0_9 hC, gC10 hC, pC10 hC, qa5, qo5, vf7_5, tW1_5 hw, gW7 hw, pW7 hw, vf0_4, tC0_4 hC, gC6 hC, pC6 hC, vf0_3, tC0_3 hC, gC5 hC, pC5 hC, gP0 hP, vf5_0, tP0_0 hP, vf0_0, tC0_0 hC, vf7_2, tW1_2 hw, gW4 hw, pW4 hw, qa31, qo31, gN0 hN, vf0_5, tC0_5 hC, gC7 hC, pC7 hC, qa4, qo4, List.getElem?_cons_zero, List.getElem?_cons_succ, List.length_cons, List.length_nil, ag_nx, ag_dn, ag_no, ag_if, jbr1, jbr2, jc1, jc2, jnul, jld, jsto, jstoL, jst1, jst2, jkill, jinc, jbI, jbL, jbS, juI, jl2i, jcmp, jisR, jisI, jisL, jret, jretv, jfits, jdup, jdup2, jpop, jmm, jcat, Value.category, jinv, jrcv, jthr, jhd, jput, jget, jlen, jald, jast, jaast, jgI, jgL, jgB, jtab, jlku, jacp, vf20, vf21, vf22, vf23, vf24, u2_s, u2_k, u2_i, uc_s, uc_k, uc_c, u2_c, LI0, LI1, LI2, LI3, LI4, LI5, LI6, LI7, LI8, LI9, LI10, LI11, LI12, LI13, LI14, LI15, LI16, LI17, LI18, LI19, LI20, LI21, LI22, LI23, LI24, LI25, LI26, LI27, LI28, LI29, LI30, LI31, LI32, LI33, LI34, LI35, LI36, LI37, LI40, LI42, LI43, LI45, LI48, LI60, LI61, LI64, LI80, LI300, LI400, LI1000, LI2000, LI2001, LI2047, LI2048, LI100000, LI1000000, LI38, LI39, LI41, LI44, LI46, LI47, LI49, LI50, LI51, LI52, LI53, LI54, LI55, LI56, LI57, LI58, LI59, LI62, LI63, LI65, LI66, LI67, LI68, LI69, LI70, LI71, LI72, LI73, LI74, LI75, LI76, LI77, LI78, LI79, LI81, LI82, LI83, LI84, LI85, LI86, LI87, LI88, LI89, LI90, LI91, LI92, LI93, LI94, LI95, LI96, LI97, LI98, LI99, LI100, LI101, LI102, LI103, LI104, LI105, LI106, LI107, LI108, LI109, LI110, LI111, LI112, LI113, LI114, LI115, LI116, LI117, LI118, LI119, LI120, LI121, LI122, LI123, LI124, LI125, LI126, LI127, LI255, LI256, LI999, LI1001, LI1002, LI1600, LI4096, LI1000001, LI2042, LM, nI_clamp, nI_pos', nI_lt, nI_nlt, nI_le, nI_ge, nI_ne, nI_add, nI_sub, mI_lt, mI_le, mI_nlt, mI_nle, mI_ne, mI_ne', mI_nem, e31, u2', k40, n3, hi', t59, t61, t63, t64]
        · have n7 : ¬ inO (lnI s.2 (lbP nf y)) = nI (othL s.1 k) := fun z => c2 (hoe.mp z)
          refine bad I (by rw [hE, if_neg (fun z => c2 z.2.1)]) ?_
          rw [w2, r10_159]
          simp (disch := omega) [r10_161, r10_163, r10_193, r10_194, gW1 hw, vf7_0, tW1_0 hw, gW2 hw, pW2 hw, vf7_4, tW1_4 hw, gW6 hw, pW6 hw, qa11, qo11, gC0 hC, vf0_6, vf0_9, tC0_9 hC, gC10 hC, pC10 hC, qa5, qo5, vf7_5, tW1_5 hw, gW7 hw, pW7 hw, vf0_4, tC0_4 hC, gC6 hC, pC6 hC, vf0_3, tC0_3 hC, gC5 hC, pC5 hC, gP0 hP, vf5_0, tP0_0 hP, vf0_0, tC0_0 hC, vf7_2, tW1_2 hw, gW4 hw, pW4 hw, qa31, qo31, gN0 hN, vf0_5, tC0_5 hC, gC7 hC, pC7 hC, qa4, qo4, List.getElem?_cons_zero, List.getElem?_cons_succ, List.length_cons, List.length_nil, ag_nx, ag_dn, ag_no, ag_if, jbr1, jbr2, jc1, jc2, jnul, jld, jsto, jstoL, jst1, jst2, jkill, jinc, jbI, jbL, jbS, juI, jl2i, jcmp, jisR, jisI, jisL, jret, jretv, jfits, jdup, jdup2, jpop, jmm, jcat, Value.category, jinv, jrcv, jthr, jhd, jput, jget, jlen, jald, jast, jaast, jgI, jgL, jgB, jtab, jlku, jacp, vf20, vf21, vf22, vf23, vf24, u2_s, u2_k, u2_i, uc_s, uc_k, uc_c, u2_c, LI0, LI1, LI2, LI3, LI4, LI5, LI6, LI7, LI8, LI9, LI10, LI11, LI12, LI13, LI14, LI15, LI16, LI17, LI18, LI19, LI20, LI21, LI22, LI23, LI24, LI25, LI26, LI27, LI28, LI29, LI30, LI31, LI32, LI33, LI34, LI35, LI36, LI37, LI40, LI42, LI43, LI45, LI48, LI60, LI61, LI64, LI80, LI300, LI400, LI1000, LI2000, LI2001, LI2047, LI2048, LI100000, LI1000000, LI38, LI39, LI41, LI44, LI46, LI47, LI49, LI50, LI51, LI52, LI53, LI54, LI55, LI56, LI57, LI58, LI59, LI62, LI63, LI65, LI66, LI67, LI68, LI69, LI70, LI71, LI72, LI73, LI74, LI75, LI76, LI77, LI78, LI79, LI81, LI82, LI83, LI84, LI85, LI86, LI87, LI88, LI89, LI90, LI91, LI92, LI93, LI94, LI95, LI96, LI97, LI98, LI99, LI100, LI101, LI102, LI103, LI104, LI105, LI106, LI107, LI108, LI109, LI110, LI111, LI112, LI113, LI114, LI115, LI116, LI117, LI118, LI119, LI120, LI121, LI122, LI123, LI124, LI125, LI126, LI127, LI255, LI256, LI999, LI1001, LI1002, LI1600, LI4096, LI1000001, LI2042, LM, nI_clamp, nI_pos', nI_lt, nI_nlt, nI_le, nI_ge, nI_ne, nI_add, nI_sub, mI_lt, mI_le, mI_nlt, mI_nle, mI_ne, mI_ne', mI_nem, n7]
      · refine bad I (by rw [hE, if_neg (fun z => c1 z.1)]) ?_
        have n1 : ¬ nI (k % 2) = I 59 i := fun z => c1 (z.trans e59)
        rw [w0, w1, r10_76]
        simp (disch := omega) [r10_78, r10_81, r10_83, r10_84, r10_85, r10_88, r10_89, r10_92, r10_94, r10_96, r10_99, r10_101, r10_102, r10_103, r10_104, r10_107, r10_108, r10_109, r10_112, r10_113, gW1 hw, vf7_0, tW1_0 hw, gW2 hw, pW2 hw, vf7_4, tW1_4 hw, gW6 hw, pW6 hw, qa11, qo11, gC0 hC, vf0_6, vf0_9, tC0_9 hC, gC10 hC, pC10 hC, qa5, qo5, vf7_5, tW1_5 hw, gW7 hw, pW7 hw, vf0_4, tC0_4 hC, gC6 hC, pC6 hC, vf0_3, tC0_3 hC, gC5 hC, pC5 hC, gP0 hP, vf5_0, tP0_0 hP, vf0_0, tC0_0 hC, vf7_2, tW1_2 hw, gW4 hw, pW4 hw, qa31, qo31, gN0 hN, vf0_5, tC0_5 hC, gC7 hC, pC7 hC, qa4, qo4, List.getElem?_cons_zero, List.getElem?_cons_succ, List.length_cons, List.length_nil, ag_nx, ag_dn, ag_no, ag_if, jbr1, jbr2, jc1, jc2, jnul, jld, jsto, jstoL, jst1, jst2, jkill, jinc, jbI, jbL, jbS, juI, jl2i, jcmp, jisR, jisI, jisL, jret, jretv, jfits, jdup, jdup2, jpop, jmm, jcat, Value.category, jinv, jrcv, jthr, jhd, jput, jget, jlen, jald, jast, jaast, jgI, jgL, jgB, jtab, jlku, jacp, vf20, vf21, vf22, vf23, vf24, u2_s, u2_k, u2_i, uc_s, uc_k, uc_c, u2_c, LI0, LI1, LI2, LI3, LI4, LI5, LI6, LI7, LI8, LI9, LI10, LI11, LI12, LI13, LI14, LI15, LI16, LI17, LI18, LI19, LI20, LI21, LI22, LI23, LI24, LI25, LI26, LI27, LI28, LI29, LI30, LI31, LI32, LI33, LI34, LI35, LI36, LI37, LI40, LI42, LI43, LI45, LI48, LI60, LI61, LI64, LI80, LI300, LI400, LI1000, LI2000, LI2001, LI2047, LI2048, LI100000, LI1000000, LI38, LI39, LI41, LI44, LI46, LI47, LI49, LI50, LI51, LI52, LI53, LI54, LI55, LI56, LI57, LI58, LI59, LI62, LI63, LI65, LI66, LI67, LI68, LI69, LI70, LI71, LI72, LI73, LI74, LI75, LI76, LI77, LI78, LI79, LI81, LI82, LI83, LI84, LI85, LI86, LI87, LI88, LI89, LI90, LI91, LI92, LI93, LI94, LI95, LI96, LI97, LI98, LI99, LI100, LI101, LI102, LI103, LI104, LI105, LI106, LI107, LI108, LI109, LI110, LI111, LI112, LI113, LI114, LI115, LI116, LI117, LI118, LI119, LI120, LI121, LI122, LI123, LI124, LI125, LI126, LI127, LI255, LI256, LI999, LI1001, LI1002, LI1600, LI4096, LI1000001, LI2042, LM, nI_clamp, nI_pos', nI_lt, nI_nlt, nI_le, nI_ge, nI_ne, nI_add, nI_sub, mI_lt, mI_le, mI_nlt, mI_nle, mI_ne, mI_ne', mI_nem, m0, h6, nI_mul, a1, n1, hi', t59, t61, t63, t64]
end FTD
