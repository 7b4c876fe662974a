/-! the class prepares to read -/
section CPP
variable {A : Nat → Nat} {d b n P m p : Nat} {h : Nat → Option jC} {X : jXX} {J : Nat → Nat → Int64} {R : Nat → Nat → Nat} {K : Nat → Nat} {V : Nat → Int32}
/-- a row is filled -/
theorem c290l {k len : Nat} {v : Int32} (hk : fx k = true) (hs : sT k = (20, len)) (hl : len < 2 ^ 31) : ∀ (r i : Nat) (I : Nat → Nat → Int32), i + r = len → M290 A d 5 [some (.ref (b + k)), some (.int v), some (.int (nI i)), some (.int (nI len))] [] (jH h b X I J R n) = some (.inl none, jH h b X (uc I k (fun x => if i ≤ x ∧ x < len then v else I k x)) J R n) := by
  intro r
  induction r with
  | zero =>
    intro i I hi
    have : i = len := by omega
    subst this
    have e : uc I k (fun x => if i ≤ x ∧ x < i then v else I k x) = I := by
      funext c x
      unfold uc
      split
      · next h =>
        show (if i ≤ x ∧ x < i then v else I k x) = I c x
        rw [if_neg (by omega), h]
      · rfl
    rw [e, r290_5]
    simp (disch := omega) [r290_6, r290_7, r290_20, List.getElem?_cons_zero, List.getElem?_cons_succ, List.length_cons, List.length_nil, ag_nx, ag_dn, ag_no, ag_if, jbr1, jbr2, jc1, jc2, jnul, jld, jsto, jstoL, jst1, jst2, jkill, jinc, jbI, jbL, jbS, juI, jl2i, jcmp, jisR, jisI, jisL, jret, jretv, jfits, jdup, jdup2, jpop, jmm, jcat, Value.category, jinv, jrcv, jthr, jhd, jput, jget, jlen, jald, jast, jaast, jgI, jgL, jgB, jtab, jlku, jacp, vf20, vf21, vf22, vf23, vf24, u2_s, u2_k, u2_i, uc_s, uc_k, uc_c, u2_c, LI0, LI1, LI2, LI3, LI4, LI5, LI6, LI7, LI8, LI9, LI10, LI11, LI12, LI13, LI14, LI15, LI16, LI17, LI18, LI19, LI20, LI21, LI22, LI23, LI24, LI25, LI26, LI27, LI28, LI29, LI30, LI31, LI32, LI33, LI34, LI35, LI36, LI37, LI40, LI42, LI43, LI45, LI48, LI60, LI61, LI64, LI80, LI300, LI400, LI1000, LI2000, LI2001, LI2047, LI2048, LI100000, LI1000000, LI38, LI39, LI41, LI44, LI46, LI47, LI49, LI50, LI51, LI52, LI53, LI54, LI55, LI56, LI57, LI58, LI59, LI62, LI63, LI65, LI66, LI67, LI68, LI69, LI70, LI71, LI72, LI73, LI74, LI75, LI76, LI77, LI78, LI79, LI81, LI82, LI83, LI84, LI85, LI86, LI87, LI88, LI89, LI90, LI91, LI92, LI93, LI94, LI95, LI96, LI97, LI98, LI99, LI100, LI101, LI102, LI103, LI104, LI105, LI106, LI107, LI108, LI109, LI110, LI111, LI112, LI113, LI114, LI115, LI116, LI117, LI118, LI119, LI120, LI121, LI122, LI123, LI124, LI125, LI126, LI127, LI255, LI256, LI999, LI1001, LI1002, LI1600, LI4096, LI1000001, LI2042, LM, nI_clamp, nI_pos', nI_lt, nI_nlt, nI_le, nI_ge, nI_ne, nI_add, nI_sub, mI_lt, mI_le, mI_nlt, mI_nle, mI_ne, mI_ne', mI_nem]
  | succ r ih =>
    intro i I hi
    have e := ih (i + 1) (u2 I k i v) (by omega)
    have e2 : uc (u2 I k i v) k (fun x => if i + 1 ≤ x ∧ x < len then v else u2 I k i v k x) = uc I k (fun x => if i ≤ x ∧ x < len then v else I k x) := by
      funext c x
      unfold uc u2
      by_cases hc : c = k
      · subst hc
        rw [if_pos rfl, if_pos rfl]
        show (if i + 1 ≤ x ∧ x < len then v else if c = c ∧ x = i then v else I c x) = if i ≤ x ∧ x < len then v else I c x
        by_cases hx : x = i
        · subst hx
          rw [if_neg (by omega), if_pos ⟨rfl, rfl⟩, if_pos (by omega)]
        · rw [if_neg (show ¬ (c = c ∧ x = i) from fun z => hx z.2)]
          by_cases hx2 : i + 1 ≤ x ∧ x < len
          · rw [if_pos hx2, if_pos (by omega)]
          · rw [if_neg hx2, if_neg (by omega)]
      · rw [if_neg hc, if_neg hc, if_neg (fun z => hc z.1)]
    rw [e2] at e
    rw [r290_5]
    have g : (jH h b X I J R n).1 (b + k) = some (20, len, vf b 20 X I J R k) := H_fx hk hs
    have p : jset (jH h b X I J R n) (b + k) (20, len, updV (vf b 20 X I J R k) i (.int v)) = jH h b X (u2 I k i v) J R n := H_pI hk hs (Or.inl rfl)
    simp (disch := omega) [r290_6, r290_7, r290_10, r290_11, r290_12, r290_13, r290_14, r290_17, List.getElem?_cons_zero, List.getElem?_cons_succ, List.length_cons, List.length_nil, ag_nx, ag_dn, ag_no, ag_if, jbr1, jbr2, jc1, jc2, jnul, jld, jsto, jstoL, jst1, jst2, jkill, jinc, jbI, jbL, jbS, juI, jl2i, jcmp, jisR, jisI, jisL, jret, jretv, jfits, jdup, jdup2, jpop, jmm, jcat, Value.category, jinv, jrcv, jthr, jhd, jput, jget, jlen, jald, jast, jaast, jgI, jgL, jgB, jtab, jlku, jacp, vf20, vf21, vf22, vf23, vf24, u2_s, u2_k, u2_i, uc_s, uc_k, uc_c, u2_c, LI0, LI1, LI2, LI3, LI4, LI5, LI6, LI7, LI8, LI9, LI10, LI11, LI12, LI13, LI14, LI15, LI16, LI17, LI18, LI19, LI20, LI21, LI22, LI23, LI24, LI25, LI26, LI27, LI28, LI29, LI30, LI31, LI32, LI33, LI34, LI35, LI36, LI37, LI40, LI42, LI43, LI45, LI48, LI60, LI61, LI64, LI80, LI300, LI400, LI1000, LI2000, LI2001, LI2047, LI2048, LI100000, LI1000000, LI38, LI39, LI41, LI44, LI46, LI47, LI49, LI50, LI51, LI52, LI53, LI54, LI55, LI56, LI57, LI58, LI59, LI62, LI63, LI65, LI66, LI67, LI68, LI69, LI70, LI71, LI72, LI73, LI74, LI75, LI76, LI77, LI78, LI79, LI81, LI82, LI83, LI84, LI85, LI86, LI87, LI88, LI89, LI90, LI91, LI92, LI93, LI94, LI95, LI96, LI97, LI98, LI99, LI100, LI101, LI102, LI103, LI104, LI105, LI106, LI107, LI108, LI109, LI110, LI111, LI112, LI113, LI114, LI115, LI116, LI117, LI118, LI119, LI120, LI121, LI122, LI123, LI124, LI125, LI126, LI127, LI255, LI256, LI999, LI1001, LI1002, LI1600, LI4096, LI1000001, LI2042, LM, nI_clamp, nI_pos', nI_lt, nI_nlt, nI_le, nI_ge, nI_ne, nI_add, nI_sub, mI_lt, mI_le, mI_nlt, mI_nle, mI_ne, mI_ne', mI_nem, g, p, e, show i < len by omega]
theorem c290 {k len : Nat} {v : Int32} {I : Nat → Nat → Int32} (hk : fx k = true) (hs : sT k = (20, len)) (hl : len < 2 ^ 31) : jcall A jcode (d + 1) 290 [.ref (b + k), .int v] (jH h b X I J R n) = some (.inl none, jH h b X (uc I k (fun x => if x < len then v else I k x)) J R n) := by
  have e := c290l (A := A) (d := d) (b := b) (h := h) (X := X) (J := J) (R := R) (n := n) (v := v) hk hs hl len 0 I (by omega)
  have e2 : (fun x => if 0 ≤ x ∧ x < len then v else I k x) = fun x => if x < len then v else I k x := by funext x; simp
  rw [e2] at e
  rw [← e]
  have g : (jH h b X I J R n).1 (b + k) = some (20, len, vf b 20 X I J R k) := H_fx hk hs
  simp (disch := omega) [je290, r290_0, r290_1, r290_2, r290_3, r290_4, List.getElem?_cons_zero, List.getElem?_cons_succ, List.length_cons, List.length_nil, ag_nx, ag_dn, ag_no, ag_if, jbr1, jbr2, jc1, jc2, jnul, jld, jsto, jstoL, jst1, jst2, jkill, jinc, jbI, jbL, jbS, juI, jl2i, jcmp, jisR, jisI, jisL, jret, jretv, jfits, jdup, jdup2, jpop, jmm, jcat, Value.category, jinv, jrcv, jthr, jhd, jput, jget, jlen, jald, jast, jaast, jgI, jgL, jgB, jtab, jlku, jacp, vf20, vf21, vf22, vf23, vf24, u2_s, u2_k, u2_i, uc_s, uc_k, uc_c, u2_c, LI0, LI1, LI2, LI3, LI4, LI5, LI6, LI7, LI8, LI9, LI10, LI11, LI12, LI13, LI14, LI15, LI16, LI17, LI18, LI19, LI20, LI21, LI22, LI23, LI24, LI25, LI26, LI27, LI28, LI29, LI30, LI31, LI32, LI33, LI34, LI35, LI36, LI37, LI40, LI42, LI43, LI45, LI48, LI60, LI61, LI64, LI80, LI300, LI400, LI1000, LI2000, LI2001, LI2047, LI2048, LI100000, LI1000000, LI38, LI39, LI41, LI44, LI46, LI47, LI49, LI50, LI51, LI52, LI53, LI54, LI55, LI56, LI57, LI58, LI59, LI62, LI63, LI65, LI66, LI67, LI68, LI69, LI70, LI71, LI72, LI73, LI74, LI75, LI76, LI77, LI78, LI79, LI81, LI82, LI83, LI84, LI85, LI86, LI87, LI88, LI89, LI90, LI91, LI92, LI93, LI94, LI95, LI96, LI97, LI98, LI99, LI100, LI101, LI102, LI103, LI104, LI105, LI106, LI107, LI108, LI109, LI110, LI111, LI112, LI113, LI114, LI115, LI116, LI117, LI118, LI119, LI120, LI121, LI122, LI123, LI124, LI125, LI126, LI127, LI255, LI256, LI999, LI1001, LI1002, LI1600, LI4096, LI1000001, LI2042, LM, nI_clamp, nI_pos', nI_lt, nI_nlt, nI_le, nI_ge, nI_ne, nI_add, nI_sub, mI_lt, mI_le, mI_nlt, mI_nle, mI_ne, mI_ne', mI_nem, g]
theorem hPfil {P : Nat} (hP : isP P) : fx (P + 12) = true ∧ sT (P + 12) = (20, 6) ∧ fx (P + 15) = true ∧ sT (P + 15) = (20, 6) ∧ fx (P + 17) = true ∧ sT (P + 17) = (20, 48) := by
  have : ∀ p ∈ [10, 33], fx (p + 12) = true ∧ sT (p + 12) = (20, 6) ∧ fx (p + 15) = true ∧ sT (p + 15) = (20, 6) ∧ fx (p + 17) = true ∧ sT (p + 17) = (20, 48) := by decide +kernel
  exact this P hP
/-- a plan is emptied -/
theorem c72 (hP : isP P) {I : Nat → Nat → Int32} {L : Nat} (hL : I (P + 1) 2 = nI L) (hL2 : L < 2 ^ 31) : ∃ I', jcall A jcode (d + 2) 72 [.ref (b + P)] (jH h b X I J R n) = some (.inl none, jH h b X I' J R n) ∧ I' (P + 1) 2 = nI 0 ∧ I' (P + 4) 4 = nI 0 ∧ I' P 3 = nI 0 ∧ (∀ i, i < 6 → I' (P + 12) i = nI 0 ∧ I' (P + 15) i = nI 0) ∧ (∀ i, i < 48 → I' (P + 17) i = nI 0) ∧ ∀ c i, ¬ (c = P + 1 ∧ i = 2) → ¬ (c = P ∧ (i = 1 ∨ i = 3)) → ¬ (c = P + 4 ∧ i = 4) → c ≠ P + 12 → c ≠ P + 15 → c ≠ P + 17 → I' c i = I c i := by
  have hpp := isP_e hP
  obtain ⟨x1, x2, x3, x4, x5, x6⟩ := hPfil hP
  have e28 := c28 (d := d) (A := A) (b := b) (h := h) (X := X) (J := J) (R := R) (n := n) (I := I) (k := 0) (isN_P hP) hL hL2 (by omega)
  obtain ⟨I3, hI3⟩ : ∃ I3, I3 = u2 (u2 (u2 (u2 I (P + 1) 2 (nI 0)) P 1 (nI 0)) (P + 4) 4 (nI 0)) P 3 (nI 0) := ⟨_, rfl⟩
  have e1 := c290 (d := d) (A := A) (b := b) (h := h) (X := X) (J := J) (R := R) (n := n) (I := I3) (v := nI 0) x1 x2 (by omega)
  obtain ⟨I4, hI4⟩ : ∃ I4, I4 = uc I3 (P + 12) (fun x => if x < 6 then nI 0 else I3 (P + 12) x) := ⟨_, rfl⟩
  rw [← hI4] at e1
  have e2 := c290 (d := d) (A := A) (b := b) (h := h) (X := X) (J := J) (R := R) (n := n) (I := I4) (v := nI 0) x3 x4 (by omega)
  obtain ⟨I5, hI5⟩ : ∃ I5, I5 = uc I4 (P + 15) (fun x => if x < 6 then nI 0 else I4 (P + 15) x) := ⟨_, rfl⟩
  rw [← hI5] at e2
  have e3 := c290 (d := d) (A := A) (b := b) (h := h) (X := X) (J := J) (R := R) (n := n) (I := I5) (v := nI 0) x5 x6 (by omega)
  obtain ⟨I6, hI6⟩ : ∃ I6, I6 = uc I5 (P + 17) (fun x => if x < 48 then nI 0 else I5 (P + 17) x) := ⟨_, rfl⟩
  rw [← hI6] at e3
  have f6 : ∀ c i, c ≠ P + 12 → c ≠ P + 15 → c ≠ P + 17 → I6 c i = I3 c i := fun c i b1 b2 b3 => by
    rw [hI6, uc_k b3, hI5, uc_k b2, hI4, uc_k b1]
  refine ⟨I6, ?_, ?_, ?_, ?_, fun i hi => ⟨?_, ?_⟩, fun i hi => ?_, fun c i b1 b2 b3 b4 b5 b6 => ?_⟩
  · have hN := isN_P hP
    simp (disch := omega) [je72, r72_0, r72_1, r72_4, r72_5, r72_8, r72_9, r72_10, r72_13, r72_14, r72_17, r72_18, r72_21, r72_22, r72_23, r72_26, r72_27, r72_30, r72_31, r72_34, r72_35, r72_38, r72_39, r72_42, r72_43, r72_46, r72_47, r72_50, gP0 hP, vf5_0, tP0_0 hP, qa28, qo28, gN0 hN, pP0_1 hP, ty5_1, vf5_2, tP0_2 hP, gP4 hP, pP4_4 hP, ty1_4, pP0_3 hP, ty5_3, vf5_7, tP0_7 hP, gP12 hP, qa290, vf5_10, tP0_10 hP, gP15 hP, vf5_12, tP0_12 hP, gP17 hP, List.getElem?_cons_zero, List.getElem?_cons_succ, List.length_cons, List.length_nil, ag_nx, ag_dn, ag_no, ag_if, jbr1, jbr2, jc1, jc2, jnul, jld, jsto, jstoL, jst1, jst2, jkill, jinc, jbI, jbL, jbS, juI, jl2i, jcmp, jisR, jisI, jisL, jret, jretv, jfits, jdup, jdup2, jpop, jmm, jcat, Value.category, jinv, jrcv, jthr, jhd, jput, jget, jlen, jald, jast, jaast, jgI, jgL, jgB, jtab, jlku, jacp, vf20, vf21, vf22, vf23, vf24, u2_s, u2_k, u2_i, uc_s, uc_k, uc_c, u2_c, LI0, LI1, LI2, LI3, LI4, LI5, LI6, LI7, LI8, LI9, LI10, LI11, LI12, LI13, LI14, LI15, LI16, LI17, LI18, LI19, LI20, LI21, LI22, LI23, LI24, LI25, LI26, LI27, LI28, LI29, LI30, LI31, LI32, LI33, LI34, LI35, LI36, LI37, LI40, LI42, LI43, LI45, LI48, LI60, LI61, LI64, LI80, LI300, LI400, LI1000, LI2000, LI2001, LI2047, LI2048, LI100000, LI1000000, LI38, LI39, LI41, LI44, LI46, LI47, LI49, LI50, LI51, LI52, LI53, LI54, LI55, LI56, LI57, LI58, LI59, LI62, LI63, LI65, LI66, LI67, LI68, LI69, LI70, LI71, LI72, LI73, LI74, LI75, LI76, LI77, LI78, LI79, LI81, LI82, LI83, LI84, LI85, LI86, LI87, LI88, LI89, LI90, LI91, LI92, LI93, LI94, LI95, LI96, LI97, LI98, LI99, LI100, LI101, LI102, LI103, LI104, LI105, LI106, LI107, LI108, LI109, LI110, LI111, LI112, LI113, LI114, LI115, LI116, LI117, LI118, LI119, LI120, LI121, LI122, LI123, LI124, LI125, LI126, LI127, LI255, LI256, LI999, LI1001, LI1002, LI1600, LI4096, LI1000001, LI2042, LM, nI_clamp, nI_pos', nI_lt, nI_nlt, nI_le, nI_ge, nI_ne, nI_add, nI_sub, mI_lt, mI_le, mI_nlt, mI_nle, mI_ne, mI_ne', mI_nem, gN0 hN, e28, ← hI3, e1, e2, e3]
  · rw [f6 _ _ (by omega) (by omega) (by omega), hI3, u2_k (by omega), u2_k (by omega), u2_k (by omega), u2_s]
  · rw [f6 _ _ (by omega) (by omega) (by omega), hI3, u2_k (by omega), u2_s]
  · rw [f6 _ _ (by omega) (by omega) (by omega), hI3, u2_s]
  · rw [hI6, uc_k (by omega), hI5, uc_k (by omega), hI4, uc_s, if_pos hi]
  · rw [hI6, uc_k (by omega), hI5, uc_s, if_pos hi]
  · rw [hI6, uc_s, if_pos hi]
  · rw [f6 c i b4 b5 b6, hI3]
    simp only [u2_ap]; repeat (rw [if_neg (by omega)])
/-- all is made ready -/
theorem c35 (hP : isP P) {I : Nat → Nat → Int32} {t : Nat → Int32} {N L : Nat} (hN : N ≤ 2000) (hT : tkS t N I J m) (hL : cNm I J (P + 1) L) : ∃ I' J' L', jcall A jcode (d + 4) 35 [.ref (b + 56), .ref (b + P)] (jH h b X I J R n) = some (.inl none, jH h b X I' J' (u2 (u2 R 56 1 P) 56 2 (P + 4)) n) ∧ cNm I' J' (P + 1) L' ∧ 2 * L' ≤ N + 1 ∧ I' P 1 = nI L' ∧ (∀ i, i ≤ m → tk6 t N (tpos t N i) I' J' (P + 1) L' i) ∧ I' 3 6 = nI (m + 1) ∧ I' 56 3 = nI 0 ∧ I' 56 4 = nI 0 ∧ I' 56 5 = mI 1 ∧ I' 56 6 = mI 1 ∧ I' (P + 4) 4 = nI 0 ∧ I' P 3 = nI 0 ∧ (∀ i, i < 6 → I' (P + 12) i = nI 0 ∧ I' (P + 15) i = nI 0) ∧ (∀ i, i < 48 → I' (P + 17) i = nI 0) ∧ (∀ c i, c ≠ 7 → c ≠ 56 → ¬ (P ≤ c ∧ c ≤ P + 22) → I' c i = I c i) ∧ ∀ c i, c ≠ P + 2 → J' c i = J c i := by
  have hpp := isP_e hP
  obtain ⟨y1, y2⟩ := sP_c hP
  obtain ⟨R', hR'⟩ : ∃ R', R' = u2 (u2 R 56 1 P) 56 2 (P + 4) := ⟨_, rfl⟩
  have r1 : R' 56 1 = P := by rw [hR', u2_i (by omega), u2_s]
  have r2 : R' 56 2 = P + 4 := by rw [hR', u2_s]
  obtain ⟨I1, hI1⟩ : ∃ I1, I1 = u2 (u2 (u2 (u2 I 56 3 (nI 0)) 56 4 (nI 0)) 56 5 (mI 1)) 56 6 (mI 1) := ⟨_, rfl⟩
  have f1 : ∀ c i, ¬ (c = 56 ∧ 3 ≤ i ∧ i ≤ 6) → I1 c i = I c i := fun c i z => by
    rw [hI1]
    simp only [u2_ap]; repeat (rw [if_neg (by omega)])
  have hL2 : L < 2 ^ 31 := by have := hL.2.1; have := (sN_c y1).1; omega
  obtain ⟨I2, e72, a1, a2, a3, a4, a5, f2⟩ := c72 (d := d + 1) (A := A) (b := b) (h := h) (X := X) (J := J) (R := R') (n := n) (I := I1) (L := L) hP (by rw [f1 _ _ (by omega)]; exact hL.1) hL2
  have hT2 : tkS t N I2 J m := by
    obtain ⟨t1, t2, t3, t4, t5⟩ := hT
    refine ⟨by rw [f2 _ _ (by omega) (by omega) (by omega) (by omega) (by omega) (by omega), f1 _ _ (by omega)]; exact t1, t2, t3, t4, fun i hi => ?_⟩
    have := t5 i hi
    unfold tk5 at this ⊢
    rw [f2 5 i (by omega) (by omega) (by omega) (by omega) (by omega) (by omega), f2 6 i (by omega) (by omega) (by omega) (by omega) (by omega) (by omega), f2 7 i (by omega) (by omega) (by omega) (by omega) (by omega) (by omega), f2 9 i (by omega) (by omega) (by omega) (by omega) (by omega) (by omega), f1 _ _ (by omega), f1 _ _ (by omega), f1 _ _ (by omega), f1 _ _ (by omega)]
    exact this
  obtain ⟨I3, J3, L3, e89, b1, b2, b3, b4, b5⟩ := cNameAll (d := d) (A := A) (b := b) (h := h) (X := X) (R := R') (n := n) (p := P + 1) y1 (by omega) hN y2 hT2 ⟨a1, by omega, fun x y hx => absurd hx (by omega)⟩
  have e27 : jcall A jcode (d + 3) 27 [.ref (b + (P + 1))] (jH h b X I3 J3 R' n) = some (.inl (some (.int (nI L3))), jH h b X I3 J3 R' n) := by
    have hN := isN_P hP
    have := b1.1
    simp (disch := omega) [je27, r27_0, r27_1, r27_4, gN0 hN, vf3_2, List.getElem?_cons_zero, List.getElem?_cons_succ, List.length_cons, List.length_nil, ag_nx, ag_dn, ag_no, ag_if, jbr1, jbr2, jc1, jc2, jnul, jld, jsto, jstoL, jst1, jst2, jkill, jinc, jbI, jbL, jbS, juI, jl2i, jcmp, jisR, jisI, jisL, jret, jretv, jfits, jdup, jdup2, jpop, jmm, jcat, Value.category, jinv, jrcv, jthr, jhd, jput, jget, jlen, jald, jast, jaast, jgI, jgL, jgB, jtab, jlku, jacp, vf20, vf21, vf22, vf23, vf24, u2_s, u2_k, u2_i, uc_s, uc_k, uc_c, u2_c, LI0, LI1, LI2, LI3, LI4, LI5, LI6, LI7, LI8, LI9, LI10, LI11, LI12, LI13, LI14, LI15, LI16, LI17, LI18, LI19, LI20, LI21, LI22, LI23, LI24, LI25, LI26, LI27, LI28, LI29, LI30, LI31, LI32, LI33, LI34, LI35, LI36, LI37, LI40, LI42, LI43, LI45, LI48, LI60, LI61, LI64, LI80, LI300, LI400, LI1000, LI2000, LI2001, LI2047, LI2048, LI100000, LI1000000, LI38, LI39, LI41, LI44, LI46, LI47, LI49, LI50, LI51, LI52, LI53, LI54, LI55, LI56, LI57, LI58, LI59, LI62, LI63, LI65, LI66, LI67, LI68, LI69, LI70, LI71, LI72, LI73, LI74, LI75, LI76, LI77, LI78, LI79, LI81, LI82, LI83, LI84, LI85, LI86, LI87, LI88, LI89, LI90, LI91, LI92, LI93, LI94, LI95, LI96, LI97, LI98, LI99, LI100, LI101, LI102, LI103, LI104, LI105, LI106, LI107, LI108, LI109, LI110, LI111, LI112, LI113, LI114, LI115, LI116, LI117, LI118, LI119, LI120, LI121, LI122, LI123, LI124, LI125, LI126, LI127, LI255, LI256, LI999, LI1001, LI1002, LI1600, LI4096, LI1000001, LI2042, LM, nI_clamp, nI_pos', nI_lt, nI_nlt, nI_le, nI_ge, nI_ne, nI_add, nI_sub, mI_lt, mI_le, mI_nlt, mI_nle, mI_ne, mI_ne', mI_nem, this]
  refine ⟨u2 I3 P 1 (nI L3), J3, L3, ?_, ?_, b2, u2_s, fun i hi => ?_, ?_, ?_, ?_, ?_, ?_, ?_, ?_, fun i hi => ?_, fun i hi => ?_, fun c i c1 c2 c3 => ?_, b5⟩
  · have hN := isN_P hP
    rw [← hR']
    simp (disch := omega) [je35, r35_0, r35_1, r35_2, r35_5, r35_6, r35_7, r35_10, r35_13, r35_14, r35_15, r35_18, r35_19, r35_20, r35_23, r35_24, r35_25, r35_28, r35_29, r35_30, r35_33, r35_34, r35_37, r35_40, r35_41, r35_44, r35_45, r35_48, r35_51, r35_54, r35_55, r35_58, r35_59, r35_62, r35_65, r35_68, r35_71, g56, p56_1, ty4_1, gP0 hP, vf5_2, tP0_2 hP, p56_2, ty4_2, p56_3, ty4_3, p56_4, ty4_4, p56_5, ty4_5, p56_6, ty4_6, vf4_1, t56_1, qa72, qo72, vf4_0, t56_0, vf5_0, tP0_0 hP, qa89, qo89, g3, qa27, qo27, gN0 hN, pP0_1 hP, ty5_1, List.getElem?_cons_zero, List.getElem?_cons_succ, List.length_cons, List.length_nil, ag_nx, ag_dn, ag_no, ag_if, jbr1, jbr2, jc1, jc2, jnul, jld, jsto, jstoL, jst1, jst2, jkill, jinc, jbI, jbL, jbS, juI, jl2i, jcmp, jisR, jisI, jisL, jret, jretv, jfits, jdup, jdup2, jpop, jmm, jcat, Value.category, jinv, jrcv, jthr, jhd, jput, jget, jlen, jald, jast, jaast, jgI, jgL, jgB, jtab, jlku, jacp, vf20, vf21, vf22, vf23, vf24, u2_s, u2_k, u2_i, uc_s, uc_k, uc_c, u2_c, LI0, LI1, LI2, LI3, LI4, LI5, LI6, LI7, LI8, LI9, LI10, LI11, LI12, LI13, LI14, LI15, LI16, LI17, LI18, LI19, LI20, LI21, LI22, LI23, LI24, LI25, LI26, LI27, LI28, LI29, LI30, LI31, LI32, LI33, LI34, LI35, LI36, LI37, LI40, LI42, LI43, LI45, LI48, LI60, LI61, LI64, LI80, LI300, LI400, LI1000, LI2000, LI2001, LI2047, LI2048, LI100000, LI1000000, LI38, LI39, LI41, LI44, LI46, LI47, LI49, LI50, LI51, LI52, LI53, LI54, LI55, LI56, LI57, LI58, LI59, LI62, LI63, LI65, LI66, LI67, LI68, LI69, LI70, LI71, LI72, LI73, LI74, LI75, LI76, LI77, LI78, LI79, LI81, LI82, LI83, LI84, LI85, LI86, LI87, LI88, LI89, LI90, LI91, LI92, LI93, LI94, LI95, LI96, LI97, LI98, LI99, LI100, LI101, LI102, LI103, LI104, LI105, LI106, LI107, LI108, LI109, LI110, LI111, LI112, LI113, LI114, LI115, LI116, LI117, LI118, LI119, LI120, LI121, LI122, LI123, LI124, LI125, LI126, LI127, LI255, LI256, LI999, LI1001, LI1002, LI1600, LI4096, LI1000001, LI2042, LM, nI_clamp, nI_pos', nI_lt, nI_nlt, nI_le, nI_ge, nI_ne, nI_add, nI_sub, mI_lt, mI_le, mI_nlt, mI_nle, mI_ne, mI_ne', mI_nem, gN0 hN, ← hI1, ← hR', r1, r2, e72, e89, e27]
  · refine ⟨by rw [u2_k (by omega)]; exact b1.1, b1.2.1, fun x y hx hy e => b1.2.2 x y hx hy ?_⟩
    unfold cnm at e ⊢
    rw [u2_k (by omega), u2_k (by omega)] at e
    exact e
  · have := b3 i hi
    unfold tk6 cnm at this ⊢
    rw [u2_k (by omega), u2_k (by omega), u2_k (by omega), u2_k (by omega)]
    simp only [u2_k (show P + 1 + 2 ≠ P by omega)]
    exact this
  · rw [u2_k (by omega), b4 _ _ (by omega) (by omega) (by omega)]; exact hT2.1
  · rw [u2_k (by omega), b4 _ _ (by omega) (by omega) (by omega), f2 _ _ (by omega) (by omega) (by omega) (by omega) (by omega) (by omega), hI1, u2_i (by omega), u2_i (by omega), u2_i (by omega), u2_s]
  · rw [u2_k (by omega), b4 _ _ (by omega) (by omega) (by omega), f2 _ _ (by omega) (by omega) (by omega) (by omega) (by omega) (by omega), hI1, u2_i (by omega), u2_i (by omega), u2_s]
  · rw [u2_k (by omega), b4 _ _ (by omega) (by omega) (by omega), f2 _ _ (by omega) (by omega) (by omega) (by omega) (by omega) (by omega), hI1, u2_i (by omega), u2_s]
  · rw [u2_k (by omega), b4 _ _ (by omega) (by omega) (by omega), f2 _ _ (by omega) (by omega) (by omega) (by omega) (by omega) (by omega), hI1, u2_s]
  · rw [u2_k (by omega), b4 _ _ (by omega) (by omega) (by omega)]; exact a2
  · rw [u2_i (by omega), b4 _ _ (by omega) (by omega) (by omega)]; exact a3
  · rw [u2_k (by omega), u2_k (by omega), b4 _ _ (by omega) (by omega) (by omega), b4 _ _ (by omega) (by omega) (by omega)]; exact a4 i hi
  · rw [u2_k (by omega), b4 _ _ (by omega) (by omega) (by omega)]; exact a5 i hi
  · rw [u2_k (by omega), b4 _ _ (by omega) (by omega) (by omega), f2 _ _ (by omega) (by omega) (by omega) (by omega) (by omega) (by omega), f1 _ _ (by omega)]
end CPP
