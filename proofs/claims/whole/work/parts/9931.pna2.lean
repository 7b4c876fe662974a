/-! the class: the names of a tape come to be numbers -/
theorem nmE_end {t : Nat → Int32} {n : Nat} : ∀ (r p : Nat), p + r = n → nmE t n r p < n → ¬ (isLet (t (nmE t n r p)) = true ∨ isDig (t (nmE t n r p)) = true) := by
  intro r
  induction r with
  | zero => intro p hN h; exact absurd h (by unfold nmE; omega)
  | succ r ih =>
    intro p hN h
    unfold nmE at h ⊢
    by_cases hc : p < n ∧ (isLet (t p) = true ∨ isDig (t p) = true)
    · rw [if_pos hc] at h ⊢
      exact ih (p + 1) (by omega) h
    · rw [if_neg hc] at h ⊢
      exact fun z => hc ⟨h, z⟩
theorem tk26 {t : Nat → Int32} {N q : Nat} (hk : tkK t N q = nI 26) : q < N ∧ isLet (t q) = true ∧ nmN t N q - q ≤ 12 ∧ tkX t N q = nmN t N q := by
  have hsg : ∀ y, y ∈ ([123, 125, 40, 41, 59, 44, 61, 60, 43, 45, 42, 62, 58] : List Int32) → ¬ y = nI 26 := by decide +kernel
  unfold tkK at hk
  by_cases h1 : N ≤ q
  · rw [if_pos h1] at hk
    exact absurd hk (by decide)
  · rw [if_neg h1] at hk
    by_cases h2 : isLet (t q) = true
    · rw [if_pos h2] at hk
      by_cases h3 : 12 < nmN t N q - q
      · rw [if_pos h3] at hk
        exact absurd hk (by decide)
      · exact ⟨by omega, h2, by omega, by unfold tkX; rw [if_neg h1, if_pos h2, if_neg h3]⟩
    · rw [if_neg h2] at hk
      by_cases h3 : isDig (t q) = true
      · rw [if_pos h3] at hk
        by_cases h4 : 1000000 < dgW t N q
        · rw [if_pos h4] at hk; exact absurd hk (by decide)
        · rw [if_neg h4] at hk; exact absurd hk (by decide)
      · rw [if_neg h3] at hk
        by_cases h4 : isSgn (t q) = true
        · rw [if_pos h4] at hk
          by_cases h5 : t q = nI 61 ∧ q + 1 < N ∧ t (q + 1) = nI 61
          · rw [if_pos h5] at hk; exact absurd hk (by decide)
          · rw [if_neg h5] at hk
            unfold isSgn at h4
            exact absurd hk (hsg _ (of_decide_eq_true h4))
        · rw [if_neg h4] at hk; exact absurd hk (by decide)
def tk6 (t : Nat → Int32) (N q : Nat) (I : Nat → Nat → Int32) (J : Nat → Nat → Int64) (p L j : Nat) : Prop := I 5 j = tkK t N q ∧ I 6 j = nI q ∧ J 8 j = tkH t N q ∧ I 9 j = tkD t N q ∧ (tkK t N q = nI 26 → ∃ x, x < L ∧ I 7 j = nI x ∧ cnm I J p x = (tkH t N q, tkD t N q)) ∧ (¬ tkK t N q = nI 26 → I 7 j = tkNu t N q)
section CNA
variable {A : Nat → Nat} {d b n p m N : Nat} {h : Nat → Option jC} {X : jXX} {R : Nat → Nat → Nat}
theorem c89l {t : Nat → Int32} (hN : isN p) (hp2 : p < 50) (hNN : N ≤ 2000) (hcap : (sT (p + 1)).2 = 1600) (hm : m ≤ N) (hfin : tpos t N m = N) (hlt : ∀ j, j < m → tpos t N j < N) : ∀ (r j L : Nat) (I : Nat → Nat → Int32) (J : Nat → Nat → Int64), j + r = m + 1 → I 3 6 = nI (m + 1) → cNm I J p L → (j ≤ m → 2 * L ≤ tpos t N j + 1 ∧ (tpos t N j < N → isLet (t (tpos t N j)) = true → 2 * L ≤ tpos t N j)) → 2 * L ≤ N + 1 → (∀ i, i < j → tk6 t N (tpos t N i) I J p L i) → (∀ i, j ≤ i → i ≤ m → tk5 t N (tpos t N i) I J i) → ∃ I' J' L', M89 A (d + 2) 2 [some (.ref (b + 3)), some (.ref (b + p)), some (.int (nI j))] [] (jH h b X I J R n) = some (.inl none, jH h b X I' J' R n) ∧ cNm I' J' p L' ∧ 2 * L' ≤ N + 1 ∧ (∀ i, i ≤ m → tk6 t N (tpos t N i) I' J' p L' i) ∧ (∀ c i, c ≠ 7 → ¬ (c = p ∧ i = 2) → c ≠ p + 2 → I' c i = I c i) ∧ ∀ c i, c ≠ p + 1 → J' c i = J c i := by
  have hpc : p = 11 ∨ p = 34 := by
    have : p ∈ [11, 34, 216, 229] := hN
    simp at this
    omega
  intro r
  induction r with
  | zero =>
    intro j L I J hj h36 hL _ hL2 hd _
    have : j = m + 1 := by omega
    subst this
    refine ⟨I, J, L, ?_, hL, hL2, fun i hi => hd i (by omega), fun _ _ _ _ _ => rfl, fun _ _ _ => rfl⟩
    rw [r89_2]
    simp (disch := omega) [r89_3, r89_4, r89_7, r89_49, g3, vf6_6, List.getElem?_cons_zero, List.getElem?_cons_succ, List.length_cons, List.length_nil, ag_nx, ag_dn, ag_no, ag_if, jbr1, jbr2, jc1, jc2, jnul, jld, jsto, jstoL, jst1, jst2, jkill, jinc, jbI, jbL, jbS, juI, jl2i, jcmp, jisR, jisI, jisL, jret, jretv, jfits, jdup, jdup2, jpop, jmm, jcat, Value.category, jinv, jrcv, jthr, jhd, jput, jget, jlen, jald, jast, jaast, jgI, jgL, jgB, jtab, jlku, jacp, vf20, vf21, vf22, vf23, vf24, u2_s, u2_k, u2_i, uc_s, uc_k, uc_c, u2_c, LI0, LI1, LI2, LI3, LI4, LI5, LI6, LI7, LI8, LI9, LI10, LI11, LI12, LI13, LI14, LI15, LI16, LI17, LI18, LI19, LI20, LI21, LI22, LI23, LI24, LI25, LI26, LI27, LI28, LI29, LI30, LI31, LI32, LI33, LI34, LI35, LI36, LI37, LI40, LI42, LI43, LI45, LI48, LI60, LI61, LI64, LI80, LI300, LI400, LI1000, LI2000, LI2001, LI2047, LI2048, LI100000, LI1000000, LI38, LI39, LI41, LI44, LI46, LI47, LI49, LI50, LI51, LI52, LI53, LI54, LI55, LI56, LI57, LI58, LI59, LI62, LI63, LI65, LI66, LI67, LI68, LI69, LI70, LI71, LI72, LI73, LI74, LI75, LI76, LI77, LI78, LI79, LI81, LI82, LI83, LI84, LI85, LI86, LI87, LI88, LI89, LI90, LI91, LI92, LI93, LI94, LI95, LI96, LI97, LI98, LI99, LI100, LI101, LI102, LI103, LI104, LI105, LI106, LI107, LI108, LI109, LI110, LI111, LI112, LI113, LI114, LI115, LI116, LI117, LI118, LI119, LI120, LI121, LI122, LI123, LI124, LI125, LI126, LI127, LI255, LI256, LI999, LI1001, LI1002, LI1600, LI4096, LI1000001, LI2042, LM, nI_clamp, nI_pos', nI_lt, nI_nlt, nI_le, nI_ge, nI_ne, nI_add, nI_sub, mI_lt, mI_le, mI_nlt, mI_nle, mI_ne, mI_ne', mI_nem, h36]
  | succ r ih =>
    intro j L I J hj h36 hL hB hL2 hd hu
    obtain ⟨b1, b2⟩ := hB (by omega)
    obtain ⟨k1, k2, k3, k4, k5⟩ := hu j (Nat.le_refl _) (by omega)
    have tle := tpos_le (t := t) (n := N) j
    by_cases hk : tkK t N (tpos t N j) = nI 26
    · obtain ⟨q1, q2, q3, q4⟩ := tk26 hk
      have hjm : j < m := by
        by_cases e : j = m
        · rw [e, hfin] at q1; omega
        · omega
      have b2' := b2 q1 q2
      obtain ⟨I1, J1, x, L1, e1, n1, x1, c1, l1, l2, o1, f1, g1⟩ := cKeep (d := d) (A := A) (b := b) (h := h) (X := X) (R := R) (n := n) (I := I) (J := J) (u := tkH t N (tpos t N j)) (v := tkD t N (tpos t N j)) hN hL (by rw [hcap]; omega)
      have hcn : ∀ y, cnm (u2 I1 7 j (nI x)) J1 p y = cnm I1 J1 p y := fun y => by unfold cnm; rw [u2_k (by omega)]
      have hpos : tpos t N (j + 1) = sk t N (nmN t N (tpos t N j)) := by show sk t N (tkX t N (tpos t N j)) = _; rw [q4]
      have hlt1 := nmN_lt q1 q2
      have hle1 := nmN_le (t := t) (n := N) (p := tpos t N j) (by omega)
      have hsk := sk_le (t := t) hle1.2
      obtain ⟨I2, J2, L2, e2, n2, l3, d2, f2, g2⟩ := ih (j + 1) L1 (u2 I1 7 j (nI x)) J1 (by omega) (by rw [u2_k (by omega), f1 3 6 (by omega) (by omega)]; exact h36) ⟨by rw [u2_k (by omega)]; exact n1.1, n1.2.1, fun y z hy hz e => n1.2.2 y z hy hz (by rw [hcn, hcn] at e; exact e)⟩ (fun hle => by
          rw [hpos]
          refine ⟨by omega, fun h1 h2 => ?_⟩
          by_cases he : sk t N (nmN t N (tpos t N j)) = nmN t N (tpos t N j)
          · rw [he] at h1 h2
            exact absurd (Or.inl h2) (nmE_end _ _ (by omega) h1)
          · omega) (by omega) (fun i hi => by
          by_cases e : i = j
          · subst e
            refine ⟨by rw [u2_k (by omega), f1 5 i (by omega) (by omega)]; exact k1, by rw [u2_k (by omega), f1 6 i (by omega) (by omega)]; exact k2, by rw [g1 8 i (by omega)]; exact k4, by rw [u2_k (by omega), f1 9 i (by omega) (by omega)]; exact k5, fun _ => ⟨x, x1, u2_s, by rw [hcn]; exact c1⟩, fun z => absurd hk z⟩
          · obtain ⟨a1, a2, a3, a4, a5, a6⟩ := hd i (by omega)
            refine ⟨by rw [u2_k (by omega), f1 5 i (by omega) (by omega)]; exact a1, by rw [u2_k (by omega), f1 6 i (by omega) (by omega)]; exact a2, by rw [g1 8 i (by omega)]; exact a3, by rw [u2_k (by omega), f1 9 i (by omega) (by omega)]; exact a4, fun z => ?_, fun z => by rw [u2_i (by omega), f1 7 i (by omega) (by omega)]; exact a6 z⟩
            obtain ⟨y, y1, y2, y3⟩ := a5 z
            exact ⟨y, by omega, by rw [u2_i (by omega), f1 7 i (by omega) (by omega)]; exact y2, by rw [hcn, o1 y y1]; exact y3⟩) (fun i h1 h2 => by
          obtain ⟨a1, a2, a3, a4, a5⟩ := hu i (by omega) h2
          exact ⟨by rw [u2_k (by omega), f1 5 i (by omega) (by omega)]; exact a1, by rw [u2_k (by omega), f1 6 i (by omega) (by omega)]; exact a2, by rw [u2_i (by omega), f1 7 i (by omega) (by omega)]; exact a3, by rw [g1 8 i (by omega)]; exact a4, by rw [u2_k (by omega), f1 9 i (by omega) (by omega)]; exact a5⟩)
      refine ⟨I2, J2, L2, ?_, n2, l3, d2, fun c i h1 h2 h3 => by rw [f2 c i h1 h2 h3, u2_k h1, f1 c i h2 h3], fun c i h1 => (g2 c i h1).trans (g1 c i h1)⟩
      rw [← e2, r89_2]
      rw [hk] at k1
      simp (disch := omega) [r89_0, r89_1, r89_3, r89_4, r89_7, r89_10, r89_11, r89_14, r89_15, r89_16, r89_18, r89_21, r89_22, r89_25, r89_26, r89_27, r89_28, r89_31, r89_32, r89_33, r89_34, r89_37, r89_38, r89_39, r89_42, r89_43, r89_46, r89_49, g3, vf6_6, vf6_1, t3_1, g5, p5, vf6_2, t3_2, g7, p7, vf6_4, t3_4, g8, p8, vf6_5, t3_5, g9, p9, qa30, qo30, gN0 hN, gN0 hN, List.getElem?_cons_zero, List.getElem?_cons_succ, List.length_cons, List.length_nil, ag_nx, ag_dn, ag_no, ag_if, jbr1, jbr2, jc1, jc2, jnul, jld, jsto, jstoL, jst1, jst2, jkill, jinc, jbI, jbL, jbS, juI, jl2i, jcmp, jisR, jisI, jisL, jret, jretv, jfits, jdup, jdup2, jpop, jmm, jcat, Value.category, jinv, jrcv, jthr, jhd, jput, jget, jlen, jald, jast, jaast, jgI, jgL, jgB, jtab, jlku, jacp, vf20, vf21, vf22, vf23, vf24, u2_s, u2_k, u2_i, uc_s, uc_k, uc_c, u2_c, LI0, LI1, LI2, LI3, LI4, LI5, LI6, LI7, LI8, LI9, LI10, LI11, LI12, LI13, LI14, LI15, LI16, LI17, LI18, LI19, LI20, LI21, LI22, LI23, LI24, LI25, LI26, LI27, LI28, LI29, LI30, LI31, LI32, LI33, LI34, LI35, LI36, LI37, LI40, LI42, LI43, LI45, LI48, LI60, LI61, LI64, LI80, LI300, LI400, LI1000, LI2000, LI2001, LI2047, LI2048, LI100000, LI1000000, LI38, LI39, LI41, LI44, LI46, LI47, LI49, LI50, LI51, LI52, LI53, LI54, LI55, LI56, LI57, LI58, LI59, LI62, LI63, LI65, LI66, LI67, LI68, LI69, LI70, LI71, LI72, LI73, LI74, LI75, LI76, LI77, LI78, LI79, LI81, LI82, LI83, LI84, LI85, LI86, LI87, LI88, LI89, LI90, LI91, LI92, LI93, LI94, LI95, LI96, LI97, LI98, LI99, LI100, LI101, LI102, LI103, LI104, LI105, LI106, LI107, LI108, LI109, LI110, LI111, LI112, LI113, LI114, LI115, LI116, LI117, LI118, LI119, LI120, LI121, LI122, LI123, LI124, LI125, LI126, LI127, LI255, LI256, LI999, LI1001, LI1002, LI1600, LI4096, LI1000001, LI2042, LM, nI_clamp, nI_pos', nI_lt, nI_nlt, nI_le, nI_ge, nI_ne, nI_add, nI_sub, mI_lt, mI_le, mI_nlt, mI_nle, mI_ne, mI_ne', mI_nem, h36, k1, k4, k5, e1, show j < 2001 by omega]
    · have hne : tpos t N j < N → tpos t N j < tpos t N (j + 1) := fun z => tpos_lt z
      obtain ⟨I2, J2, L2, e2, n2, l3, d2, f2, g2⟩ := ih (j + 1) L I J (by omega) h36 hL (fun hle => by
          have h1 := hlt j (by omega)
          have := hne h1
          exact ⟨by omega, fun _ _ => by omega⟩) hL2 (fun i hi => by
          by_cases e : i = j
          · subst e
            exact ⟨k1, k2, k4, k5, fun z => absurd z hk, fun _ => k3⟩
          · exact hd i (by omega)) (fun i h1 h2 => hu i (by omega) h2)
      refine ⟨I2, J2, L2, ?_, n2, l3, d2, f2, g2⟩
      rw [← e2, r89_2]
      have hk' : ¬ I 5 j = nI 26 := by rw [k1]; exact hk
      simp (disch := omega) [r89_0, r89_1, r89_3, r89_4, r89_7, r89_10, r89_11, r89_14, r89_15, r89_16, r89_18, r89_21, r89_22, r89_25, r89_26, r89_27, r89_28, r89_31, r89_32, r89_33, r89_34, r89_37, r89_38, r89_39, r89_42, r89_43, r89_46, r89_49, g3, vf6_6, vf6_1, t3_1, g5, p5, vf6_2, t3_2, g7, p7, vf6_4, t3_4, g8, p8, vf6_5, t3_5, g9, p9, qa30, qo30, gN0 hN, gN0 hN, List.getElem?_cons_zero, List.getElem?_cons_succ, List.length_cons, List.length_nil, ag_nx, ag_dn, ag_no, ag_if, jbr1, jbr2, jc1, jc2, jnul, jld, jsto, jstoL, jst1, jst2, jkill, jinc, jbI, jbL, jbS, juI, jl2i, jcmp, jisR, jisI, jisL, jret, jretv, jfits, jdup, jdup2, jpop, jmm, jcat, Value.category, jinv, jrcv, jthr, jhd, jput, jget, jlen, jald, jast, jaast, jgI, jgL, jgB, jtab, jlku, jacp, vf20, vf21, vf22, vf23, vf24, u2_s, u2_k, u2_i, uc_s, uc_k, uc_c, u2_c, LI0, LI1, LI2, LI3, LI4, LI5, LI6, LI7, LI8, LI9, LI10, LI11, LI12, LI13, LI14, LI15, LI16, LI17, LI18, LI19, LI20, LI21, LI22, LI23, LI24, LI25, LI26, LI27, LI28, LI29, LI30, LI31, LI32, LI33, LI34, LI35, LI36, LI37, LI40, LI42, LI43, LI45, LI48, LI60, LI61, LI64, LI80, LI300, LI400, LI1000, LI2000, LI2001, LI2047, LI2048, LI100000, LI1000000, LI38, LI39, LI41, LI44, LI46, LI47, LI49, LI50, LI51, LI52, LI53, LI54, LI55, LI56, LI57, LI58, LI59, LI62, LI63, LI65, LI66, LI67, LI68, LI69, LI70, LI71, LI72, LI73, LI74, LI75, LI76, LI77, LI78, LI79, LI81, LI82, LI83, LI84, LI85, LI86, LI87, LI88, LI89, LI90, LI91, LI92, LI93, LI94, LI95, LI96, LI97, LI98, LI99, LI100, LI101, LI102, LI103, LI104, LI105, LI106, LI107, LI108, LI109, LI110, LI111, LI112, LI113, LI114, LI115, LI116, LI117, LI118, LI119, LI120, LI121, LI122, LI123, LI124, LI125, LI126, LI127, LI255, LI256, LI999, LI1001, LI1002, LI1600, LI4096, LI1000001, LI2042, LM, nI_clamp, nI_pos', nI_lt, nI_nlt, nI_le, nI_ge, nI_ne, nI_add, nI_sub, mI_lt, mI_le, mI_nlt, mI_nle, mI_ne, mI_ne', mI_nem, h36, hk', show j < 2001 by omega]
theorem cNameAll {t : Nat → Int32} {I : Nat → Nat → Int32} {J : Nat → Nat → Int64} (hN : isN p) (hp2 : p < 50) (hNN : N ≤ 2000) (hcap : (sT (p + 1)).2 = 1600) (hT : tkS t N I J m) (hL : cNm I J p 0) : ∃ I' J' L', jcall A jcode (d + 3) 89 [.ref (b + 3), .ref (b + p)] (jH h b X I J R n) = some (.inl none, jH h b X I' J' R n) ∧ cNm I' J' p L' ∧ 2 * L' ≤ N + 1 ∧ (∀ i, i ≤ m → tk6 t N (tpos t N i) I' J' p L' i) ∧ (∀ c i, c ≠ 7 → ¬ (c = p ∧ i = 2) → c ≠ p + 2 → I' c i = I c i) ∧ ∀ c i, c ≠ p + 1 → J' c i = J c i := by
  obtain ⟨h1, h2, h3, h4, h5⟩ := hT
  obtain ⟨I', J', L', e, q⟩ := c89l (d := d) (A := A) (b := b) (h := h) (X := X) (R := R) (n := n) hN hp2 hNN hcap h2 h3 h4 (m + 1) 0 0 I J (by omega) h1 hL (fun _ => ⟨by omega, fun _ _ => by omega⟩) (by omega) (fun i hi => absurd hi (by omega)) (fun i _ hi => h5 i hi)
  refine ⟨I', J', L', ?_, q⟩
  rw [← e]
  simp (disch := omega) [je89, r89_0, r89_1, List.getElem?_cons_zero, List.getElem?_cons_succ, List.length_cons, List.length_nil, ag_nx, ag_dn, ag_no, ag_if, jbr1, jbr2, jc1, jc2, jnul, jld, jsto, jstoL, jst1, jst2, jkill, jinc, jbI, jbL, jbS, juI, jl2i, jcmp, jisR, jisI, jisL, jret, jretv, jfits, jdup, jdup2, jpop, jmm, jcat, Value.category, jinv, jrcv, jthr, jhd, jput, jget, jlen, jald, jast, jaast, jgI, jgL, jgB, jtab, jlku, jacp, vf20, vf21, vf22, vf23, vf24, u2_s, u2_k, u2_i, uc_s, uc_k, uc_c, u2_c, LI0, LI1, LI2, LI3, LI4, LI5, LI6, LI7, LI8, LI9, LI10, LI11, LI12, LI13, LI14, LI15, LI16, LI17, LI18, LI19, LI20, LI21, LI22, LI23, LI24, LI25, LI26, LI27, LI28, LI29, LI30, LI31, LI32, LI33, LI34, LI35, LI36, LI37, LI40, LI42, LI43, LI45, LI48, LI60, LI61, LI64, LI80, LI300, LI400, LI1000, LI2000, LI2001, LI2047, LI2048, LI100000, LI1000000, LI38, LI39, LI41, LI44, LI46, LI47, LI49, LI50, LI51, LI52, LI53, LI54, LI55, LI56, LI57, LI58, LI59, LI62, LI63, LI65, LI66, LI67, LI68, LI69, LI70, LI71, LI72, LI73, LI74, LI75, LI76, LI77, LI78, LI79, LI81, LI82, LI83, LI84, LI85, LI86, LI87, LI88, LI89, LI90, LI91, LI92, LI93, LI94, LI95, LI96, LI97, LI98, LI99, LI100, LI101, LI102, LI103, LI104, LI105, LI106, LI107, LI108, LI109, LI110, LI111, LI112, LI113, LI114, LI115, LI116, LI117, LI118, LI119, LI120, LI121, LI122, LI123, LI124, LI125, LI126, LI127, LI255, LI256, LI999, LI1001, LI1002, LI1600, LI4096, LI1000001, LI2042, LM, nI_clamp, nI_pos', nI_lt, nI_nlt, nI_le, nI_ge, nI_ne, nI_add, nI_sub, mI_lt, mI_le, mI_nlt, mI_nle, mI_ne, mI_ne', mI_nem]
end CNA
