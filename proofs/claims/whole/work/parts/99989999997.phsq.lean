/-! charts: the class reads a line, a message -/
section CHD
variable {A : Nat → Nat} {d b n C N m : Nat} {h : Nat → Option jC} {X : jXX} {J : Nat → Nat → Int64} {R : Nat → Nat → Nat} {t : Nat → Int32}
/-- one line more -/
theorem hC_ln {I : Nat → Nat → Int32} {s : hS} {L : Nat} {x : Int32} {l : Option (Int64 × Int32)} (hs : hC I J C s L) (hl : cLn I J (C + 1) L x l) (h8 : s.2.length < 8) (hn : s.2.findIdx? (fun y => decide (y = l)) = none) : hC (u2 (u2 I (C + 4) s.2.length x) C 2 (nI (s.2.length + 1))) J C (s.1, s.2 ++ [l]) L := by
  obtain ⟨a1, a3, a4, a5, a6, a7, a8, a9⟩ := hs
  have f : ∀ c i, ¬ (c = C ∧ i = 2) → ¬ (c = C + 4 ∧ i = s.2.length) → u2 (u2 I (C + 4) s.2.length x) C 2 (nI (s.2.length + 1)) c i = I c i := fun c i h1 h2 => by rw [u2_o _ _ h1, u2_o _ _ h2]
  have ec : ∀ y, cnm (u2 (u2 I (C + 4) s.2.length x) C 2 (nI (s.2.length + 1))) J (C + 1) y = cnm I J (C + 1) y := fun y => by unfold cnm; rw [f _ _ (by omega) (by omega)]
  have kc : ∀ (x' : Int32) l, cLn I J (C + 1) L x' l → cLn (u2 (u2 I (C + 4) s.2.length x) C 2 (nI (s.2.length + 1))) J (C + 1) L x' l := by
    intro x' l hl
    cases l with
    | none => exact hl
    | some y =>
      obtain ⟨u, u1, u2', u3⟩ := hl
      exact ⟨u, u1, u2', (ec u).trans u3⟩
  refine ⟨⟨(f _ _ (by omega) (by omega)).trans a1.1, a1.2.1, fun x y hx hy => by rw [ec, ec]; exact a1.2.2 x y hx hy⟩, (f _ _ (by omega) (by omega)).trans a3, by simp [u2_s], by simp; omega, a6, ?_, fun i m hm' => ?_, fun i l' hl' => ?_⟩
  · rw [List.nodup_append]
    refine ⟨a7, by simp, fun a ha c hc => ?_⟩
    simp only [List.mem_singleton] at hc
    subst hc
    intro e
    subst e
    have := List.findIdx?_eq_none_iff.mp hn a ha
    simp at this
  · obtain ⟨d1, d2, d3, d4, d5⟩ := a8 i m hm'
    rw [f (C + 5) i (by omega) (by omega), f (C + 6) i (by omega) (by omega), f (C + 7) i (by omega) (by omega)]
    exact ⟨by simp; omega, by simp; omega, d3, d4, kc _ _ d5⟩
  · by_cases e : i = s.2.length
    · subst e
      have : l' = l := by simpa using hl'.symm
      subst this
      rw [u2_o _ _ (by omega), u2_s]
      exact kc _ _ hl
    · rw [f (C + 4) i (by omega) (by omega)]
      have hi : i < s.2.length := by
        have := lt_of_some hl'
        simp at this
        omega
      rw [List.getElem?_append_left hi] at hl'
      exact kc _ _ (a9 i l' hl')
theorem c3k {I : Nat → Nat → Int32} {s : hS} {L : Nat} {x k3 : Int32} {l : Option (Int64 × Int32)} {c5 : Option Value} {j : Nat} (hC' : isC C) (hL : L ≤ 48) (hs : hC I J C s L) (hl : cLn I J (C + 1) L x l) : ∃ I' v, M3 A (d + 1) 50 [some (.ref (b + C)), some (.ref (b + 3)), some (.int (nI j)), some (.int k3), some (.int x), c5] [] (jH h b X I J R n) = some (.inl (some (.int v)), (jH h b X I' J R n)) ∧ fLn C I I' ∧ ((lnS l s.2 = none ∧ v = mI 1 ∧ I' (C + 1) 2 = nI L) ∨ ∃ i ls', lnS l s.2 = some (i, ls') ∧ v = nI i ∧ hC I' J C (s.1, ls') L) := by
  have hC := hC'
  have hN := isC_N hC
  have hs' := hs
  obtain ⟨a1, a3, a4, a5, a6, a7, a8, a9⟩ := hs'
  have e4 := c4 (A := A) (d := d) (b := b) (h := h) (X := X) (J := J) (R := R) (n := n) (x := x) hC a4 a5
  have hfd : fdP (fun i => decide (I (C + 4) i = x)) s.2.length 0 = s.2.findIdx? (fun y => decide (y = l)) := by
    rw [fdP_idx (f := fun y => decide (y = l)) s.2 0 (fun i y hy => ?_)]
    · cases s.2.findIdx? (fun y => decide (y = l)) with
      | none => rfl
      | some i => simp
    · rw [Nat.zero_add]
      exact decide_eq_decide.mpr (cLn_e (by omega) a1 (a9 i y hy) hl)
  rw [hfd] at e4
  cases hf : s.2.findIdx? (fun y => decide (y = l)) with
  | some i =>
    rw [hf, show inO (some i) = nI i from rfl] at e4
    have hil : i < s.2.length := fI_lt hf
    have hin : ¬ nI i < nI 0 := by rw [nI_ltI (by omega) (by omega)]; omega
    refine ⟨I, nI i, ?_, fun _ _ _ _ _ _ => rfl, Or.inr ⟨i, s.2, by unfold lnS; rw [hf], rfl, hs⟩⟩
    simp (disch := omega) [r3_1, r3_2, r3_5, r3_6, r3_7, r3_9, r3_12, r3_13, r3_15, r3_18, r3_19, r3_20, r3_21, r3_23, r3_26, r3_28, r3_31, r3_32, r3_35, r3_36, r3_37, r3_40, r3_41, r3_42, r3_45, r3_48, r3_50, r3_51, r3_53, r3_56, r3_58, r3_60, r3_63, r3_64, r3_67, r3_70, r3_71, r3_74, r3_76, r3_79, r3_81, r3_82, r3_83, r3_86, r3_87, r3_90, r3_92, r3_93, r3_94, r3_95, r3_98, r3_99, r3_100, r3_103, r3_104, r3_107, r3_108, r3_109, qa84, qo84, g3, gC0 hC, vf0_0, tC0_0 hC, qa87, qo87, qa88, qo88, qa30, qo30, gN0 hN, qa4, qo4, vf0_2, vf0_1, tC0_1 hC, gC4 hC, pC4 hC, pC0_2 hC, ty0_2, List.getElem?_cons_zero, List.getElem?_cons_succ, List.length_cons, List.length_nil, ag_nx, ag_dn, ag_no, ag_if, jbr1, jbr2, jc1, jc2, jnul, jld, jsto, jstoL, jst1, jst2, jkill, jinc, jbI, jbL, jbS, juI, jl2i, jcmp, jisR, jisI, jisL, jret, jretv, jfits, jdup, jdup2, jpop, jmm, jcat, Value.category, jinv, jrcv, jthr, jhd, jput, jget, jlen, jald, jast, jaast, jgI, jgL, jgB, jtab, jlku, jacp, vf20, vf21, vf22, vf23, vf24, u2_s, u2_k, u2_i, uc_s, uc_k, uc_c, u2_c, LI0, LI1, LI2, LI3, LI4, LI5, LI6, LI7, LI8, LI9, LI10, LI11, LI12, LI13, LI14, LI15, LI16, LI17, LI18, LI19, LI20, LI21, LI22, LI23, LI24, LI25, LI26, LI27, LI28, LI29, LI30, LI31, LI32, LI33, LI34, LI35, LI36, LI37, LI40, LI42, LI43, LI45, LI48, LI60, LI61, LI64, LI80, LI300, LI400, LI1000, LI2000, LI2001, LI2047, LI2048, LI100000, LI1000000, LI38, LI39, LI41, LI44, LI46, LI47, LI49, LI50, LI51, LI52, LI53, LI54, LI55, LI56, LI57, LI58, LI59, LI62, LI63, LI65, LI66, LI67, LI68, LI69, LI70, LI71, LI72, LI73, LI74, LI75, LI76, LI77, LI78, LI79, LI81, LI82, LI83, LI84, LI85, LI86, LI87, LI88, LI89, LI90, LI91, LI92, LI93, LI94, LI95, LI96, LI97, LI98, LI99, LI100, LI101, LI102, LI103, LI104, LI105, LI106, LI107, LI108, LI109, LI110, LI111, LI112, LI113, LI114, LI115, LI116, LI117, LI118, LI119, LI120, LI121, LI122, LI123, LI124, LI125, LI126, LI127, LI255, LI256, LI999, LI1001, LI1002, LI1600, LI4096, LI1000001, LI2042, LM, nI_clamp, nI_pos', nI_lt, nI_nlt, nI_le, nI_ge, nI_ne, nI_add, nI_sub, mI_lt, mI_le, mI_nlt, mI_nle, mI_ne, mI_ne', mI_nem, e4, hin]
  | none =>
    rw [hf, show inO none = mI 1 from rfl] at e4
    by_cases h8 : s.2.length < 8
    · refine ⟨u2 (u2 I (C + 4) s.2.length x) C 2 (nI (s.2.length + 1)), nI s.2.length, ?_, fun c i h1 h2 h3 h4 => by rw [u2_o _ _ h1, u2_k h4], Or.inr ⟨s.2.length, s.2 ++ [l], by unfold lnS; rw [hf]; exact if_pos h8, rfl, hC_ln hs hl h8 hf⟩⟩
      have hln : ¬ nI s.2.length < nI 0 := by rw [nI_ltI (by omega) (by omega)]; omega
      simp (disch := omega) [r3_1, r3_2, r3_5, r3_6, r3_7, r3_9, r3_12, r3_13, r3_15, r3_18, r3_19, r3_20, r3_21, r3_23, r3_26, r3_28, r3_31, r3_32, r3_35, r3_36, r3_37, r3_40, r3_41, r3_42, r3_45, r3_48, r3_50, r3_51, r3_53, r3_56, r3_58, r3_60, r3_63, r3_64, r3_67, r3_70, r3_71, r3_74, r3_76, r3_79, r3_81, r3_82, r3_83, r3_86, r3_87, r3_90, r3_92, r3_93, r3_94, r3_95, r3_98, r3_99, r3_100, r3_103, r3_104, r3_107, r3_108, r3_109, qa84, qo84, g3, gC0 hC, vf0_0, tC0_0 hC, qa87, qo87, qa88, qo88, qa30, qo30, gN0 hN, qa4, qo4, vf0_2, vf0_1, tC0_1 hC, gC4 hC, pC4 hC, pC0_2 hC, ty0_2, List.getElem?_cons_zero, List.getElem?_cons_succ, List.length_cons, List.length_nil, ag_nx, ag_dn, ag_no, ag_if, jbr1, jbr2, jc1, jc2, jnul, jld, jsto, jstoL, jst1, jst2, jkill, jinc, jbI, jbL, jbS, juI, jl2i, jcmp, jisR, jisI, jisL, jret, jretv, jfits, jdup, jdup2, jpop, jmm, jcat, Value.category, jinv, jrcv, jthr, jhd, jput, jget, jlen, jald, jast, jaast, jgI, jgL, jgB, jtab, jlku, jacp, vf20, vf21, vf22, vf23, vf24, u2_s, u2_k, u2_i, uc_s, uc_k, uc_c, u2_c, LI0, LI1, LI2, LI3, LI4, LI5, LI6, LI7, LI8, LI9, LI10, LI11, LI12, LI13, LI14, LI15, LI16, LI17, LI18, LI19, LI20, LI21, LI22, LI23, LI24, LI25, LI26, LI27, LI28, LI29, LI30, LI31, LI32, LI33, LI34, LI35, LI36, LI37, LI40, LI42, LI43, LI45, LI48, LI60, LI61, LI64, LI80, LI300, LI400, LI1000, LI2000, LI2001, LI2047, LI2048, LI100000, LI1000000, LI38, LI39, LI41, LI44, LI46, LI47, LI49, LI50, LI51, LI52, LI53, LI54, LI55, LI56, LI57, LI58, LI59, LI62, LI63, LI65, LI66, LI67, LI68, LI69, LI70, LI71, LI72, LI73, LI74, LI75, LI76, LI77, LI78, LI79, LI81, LI82, LI83, LI84, LI85, LI86, LI87, LI88, LI89, LI90, LI91, LI92, LI93, LI94, LI95, LI96, LI97, LI98, LI99, LI100, LI101, LI102, LI103, LI104, LI105, LI106, LI107, LI108, LI109, LI110, LI111, LI112, LI113, LI114, LI115, LI116, LI117, LI118, LI119, LI120, LI121, LI122, LI123, LI124, LI125, LI126, LI127, LI255, LI256, LI999, LI1001, LI1002, LI1600, LI4096, LI1000001, LI2042, LM, nI_clamp, nI_pos', nI_lt, nI_nlt, nI_le, nI_ge, nI_ne, nI_add, nI_sub, mI_lt, mI_le, mI_nlt, mI_nle, mI_ne, mI_ne', mI_nem, e4, a4, h8, hln]
    · have e8 : s.2.length = 8 := by omega
      refine ⟨I, mI 1, ?_, fun _ _ _ _ _ _ => rfl, Or.inl ⟨by unfold lnS; rw [hf]; exact if_neg h8, rfl, a1.1⟩⟩
      rw [e8] at a4
      simp (disch := omega) [r3_1, r3_2, r3_5, r3_6, r3_7, r3_9, r3_12, r3_13, r3_15, r3_18, r3_19, r3_20, r3_21, r3_23, r3_26, r3_28, r3_31, r3_32, r3_35, r3_36, r3_37, r3_40, r3_41, r3_42, r3_45, r3_48, r3_50, r3_51, r3_53, r3_56, r3_58, r3_60, r3_63, r3_64, r3_67, r3_70, r3_71, r3_74, r3_76, r3_79, r3_81, r3_82, r3_83, r3_86, r3_87, r3_90, r3_92, r3_93, r3_94, r3_95, r3_98, r3_99, r3_100, r3_103, r3_104, r3_107, r3_108, r3_109, qa84, qo84, g3, gC0 hC, vf0_0, tC0_0 hC, qa87, qo87, qa88, qo88, qa30, qo30, gN0 hN, qa4, qo4, vf0_2, vf0_1, tC0_1 hC, gC4 hC, pC4 hC, pC0_2 hC, ty0_2, List.getElem?_cons_zero, List.getElem?_cons_succ, List.length_cons, List.length_nil, ag_nx, ag_dn, ag_no, ag_if, jbr1, jbr2, jc1, jc2, jnul, jld, jsto, jstoL, jst1, jst2, jkill, jinc, jbI, jbL, jbS, juI, jl2i, jcmp, jisR, jisI, jisL, jret, jretv, jfits, jdup, jdup2, jpop, jmm, jcat, Value.category, jinv, jrcv, jthr, jhd, jput, jget, jlen, jald, jast, jaast, jgI, jgL, jgB, jtab, jlku, jacp, vf20, vf21, vf22, vf23, vf24, u2_s, u2_k, u2_i, uc_s, uc_k, uc_c, u2_c, LI0, LI1, LI2, LI3, LI4, LI5, LI6, LI7, LI8, LI9, LI10, LI11, LI12, LI13, LI14, LI15, LI16, LI17, LI18, LI19, LI20, LI21, LI22, LI23, LI24, LI25, LI26, LI27, LI28, LI29, LI30, LI31, LI32, LI33, LI34, LI35, LI36, LI37, LI40, LI42, LI43, LI45, LI48, LI60, LI61, LI64, LI80, LI300, LI400, LI1000, LI2000, LI2001, LI2047, LI2048, LI100000, LI1000000, LI38, LI39, LI41, LI44, LI46, LI47, LI49, LI50, LI51, LI52, LI53, LI54, LI55, LI56, LI57, LI58, LI59, LI62, LI63, LI65, LI66, LI67, LI68, LI69, LI70, LI71, LI72, LI73, LI74, LI75, LI76, LI77, LI78, LI79, LI81, LI82, LI83, LI84, LI85, LI86, LI87, LI88, LI89, LI90, LI91, LI92, LI93, LI94, LI95, LI96, LI97, LI98, LI99, LI100, LI101, LI102, LI103, LI104, LI105, LI106, LI107, LI108, LI109, LI110, LI111, LI112, LI113, LI114, LI115, LI116, LI117, LI118, LI119, LI120, LI121, LI122, LI123, LI124, LI125, LI126, LI127, LI255, LI256, LI999, LI1001, LI1002, LI1600, LI4096, LI1000001, LI2042, LM, nI_clamp, nI_pos', nI_lt, nI_nlt, nI_le, nI_ge, nI_ne, nI_add, nI_sub, mI_lt, mI_le, mI_nlt, mI_nle, mI_ne, mI_ne', mI_nem, e4, a4]
/-- readLine -/
theorem c3 {I : Nat → Nat → Int32} {s : hS} {L j : Nat} (hC' : isC C) (hL : L ≤ 47) (hLb : L ≤ s.1.length + s.2.length) (hs : hC I J C s L) (hT : tkS t N I J m) (hN2 : N ≤ 2000) (hj : j ≤ m) : ∃ I' J' v L', jcall A jcode (d + 3) 3 [.ref (b + C), .ref (b + 3), .int (nI j)] (jH h b X I J R n) = some (.inl (some (.int v)), (jH h b X I' J' R n)) ∧ fLn C I I' ∧ (∀ c i, c ≠ C + 2 → J' c i = J c i) ∧ I' (C + 1) 2 = nI L' ∧ L' ≤ L + 1 ∧ ((v = mI 1 ∧ (¬ (KK t N j = 26 ∨ KK t N j = 24) ∨ lnS (yL (Yn t N) (KK t N) j) s.2 = none)) ∨ ∃ i ls', (KK t N j = 26 ∨ KK t N j = 24) ∧ lnS (yL (Yn t N) (KK t N) j) s.2 = some (i, ls') ∧ v = nI i ∧ hC I' J' C (s.1, ls') L' ∧ L' ≤ s.1.length + ls'.length) := by
  have hC := hC'
  have hN := isC_N hC
  have hCe := isC_ee hC
  have h48 := sC_c hC
  obtain ⟨t1, t2, t3, t4, t5⟩ := hT
  have tj := t5 j hj
  have ok := okK_lt (KK_e (t := t) (N := N) (j := j)).1
  have e84 := c84 (A := A) (d := d + 1) (b := b) (h := h) (X := X) (I := I) (J := J) (R := R) (n := n) (m := m) (j := j) t1 (by omega) hj
  rw [tj.1, KK_e.2] at e84
  by_cases k24 : KK t N j = 24
  · rw [k24] at e84
    have hl : cLn I J (C + 1) L (mI 2) none := rfl
    obtain ⟨I', v, e, f, r⟩ := c3k (A := A) (d := d + 1) (b := b) (h := h) (X := X) (J := J) (R := R) (n := n) (k3 := nI 24) (c5 := none) (j := j) hC (by omega) hs hl
    have ey : yL (Yn t N) (KK t N) j = none := by unfold yL; rw [if_pos k24]
    refine ⟨I', J, v, L, ?_, f, fun _ _ _ => rfl, ?_, by omega, ?_⟩
    · rw [← e]
      simp (disch := omega) [je3, r3_0, r3_1, r3_2, r3_5, r3_6, r3_7, r3_9, r3_12, r3_13, r3_15, r3_20, r3_21, r3_23, r3_26, r3_28, r3_48, qa84, qo84, g3, List.getElem?_cons_zero, List.getElem?_cons_succ, List.length_cons, List.length_nil, ag_nx, ag_dn, ag_no, ag_if, jbr1, jbr2, jc1, jc2, jnul, jld, jsto, jstoL, jst1, jst2, jkill, jinc, jbI, jbL, jbS, juI, jl2i, jcmp, jisR, jisI, jisL, jret, jretv, jfits, jdup, jdup2, jpop, jmm, jcat, Value.category, jinv, jrcv, jthr, jhd, jput, jget, jlen, jald, jast, jaast, jgI, jgL, jgB, jtab, jlku, jacp, vf20, vf21, vf22, vf23, vf24, u2_s, u2_k, u2_i, uc_s, uc_k, uc_c, u2_c, LI0, LI1, LI2, LI3, LI4, LI5, LI6, LI7, LI8, LI9, LI10, LI11, LI12, LI13, LI14, LI15, LI16, LI17, LI18, LI19, LI20, LI21, LI22, LI23, LI24, LI25, LI26, LI27, LI28, LI29, LI30, LI31, LI32, LI33, LI34, LI35, LI36, LI37, LI40, LI42, LI43, LI45, LI48, LI60, LI61, LI64, LI80, LI300, LI400, LI1000, LI2000, LI2001, LI2047, LI2048, LI100000, LI1000000, LI38, LI39, LI41, LI44, LI46, LI47, LI49, LI50, LI51, LI52, LI53, LI54, LI55, LI56, LI57, LI58, LI59, LI62, LI63, LI65, LI66, LI67, LI68, LI69, LI70, LI71, LI72, LI73, LI74, LI75, LI76, LI77, LI78, LI79, LI81, LI82, LI83, LI84, LI85, LI86, LI87, LI88, LI89, LI90, LI91, LI92, LI93, LI94, LI95, LI96, LI97, LI98, LI99, LI100, LI101, LI102, LI103, LI104, LI105, LI106, LI107, LI108, LI109, LI110, LI111, LI112, LI113, LI114, LI115, LI116, LI117, LI118, LI119, LI120, LI121, LI122, LI123, LI124, LI125, LI126, LI127, LI255, LI256, LI999, LI1001, LI1002, LI1600, LI4096, LI1000001, LI2042, LM, nI_clamp, nI_pos', nI_lt, nI_nlt, nI_le, nI_ge, nI_ne, nI_add, nI_sub, mI_lt, mI_le, mI_nlt, mI_nle, mI_ne, mI_ne', mI_nem, e84]
    · rcases r with ⟨_, _, r3⟩ | ⟨i, ls', _, _, r3⟩
      · exact r3
      · exact r3.1.1
    · rw [ey]
      rcases r with ⟨r1, r2, r3⟩ | ⟨i, ls', r1, r2, r3⟩
      · exact Or.inl ⟨r2, Or.inr r1⟩
      · have := (lnS_lt r1 hs.2.2.2.1 hs.2.2.2.2.2.1).2.1
        exact Or.inr ⟨i, ls', Or.inr k24, r1, r2, r3, by omega⟩
  · by_cases k26 : KK t N j = 26
    · rw [k26] at e84
      have e87 := c87 (A := A) (d := d + 1) (b := b) (h := h) (X := X) (I := I) (J := J) (R := R) (n := n) (j := j) t1 (by omega) hj
      have e88 := c88 (A := A) (d := d + 1) (b := b) (h := h) (X := X) (I := I) (J := J) (R := R) (n := n) (j := j) t1 (by omega) hj
      rw [tj.2.2.2.1] at e87
      rw [tj.2.2.2.2] at e88
      have ey : yL (Yn t N) (KK t N) j = some (Yn t N j) := by unfold yL; rw [if_neg k24]
      cases hf : fdN (cnm I J (C + 1)) (tkH t N (tpos t N j), tkD t N (tpos t N j)) L 0 with
      | some u =>
        have e30 := c30y (A := A) (d := d) (b := b) (h := h) (X := X) (R := R) (n := n) hN hs.1 hf
        obtain ⟨_, u1, u2'⟩ := fdN_lt _ _ _ hf
        have hl : cLn I J (C + 1) L (nI u) (some (Yn t N j)) := ⟨u, by omega, rfl, u2'⟩
        obtain ⟨I', v, e, f, r⟩ := c3k (A := A) (d := d + 1) (b := b) (h := h) (X := X) (J := J) (R := R) (n := n) (k3 := nI 26) (c5 := none) (j := j) hC (by omega) hs hl
        refine ⟨I', J, v, L, ?_, f, fun _ _ _ => rfl, ?_, by omega, ?_⟩
        · rw [← e]
          simp (disch := omega) [je3, r3_0, r3_1, r3_2, r3_5, r3_6, r3_7, r3_9, r3_12, r3_13, r3_15, r3_20, r3_21, r3_23, r3_31, r3_32, r3_35, r3_36, r3_37, r3_40, r3_41, r3_42, r3_45, r3_48, qa84, qo84, g3, gC0 hC, vf0_0, tC0_0 hC, qa87, qo87, qa88, qo88, qa30, qo30, gN0 hN, qa4, qo4, vf0_2, vf0_1, tC0_1 hC, gC4 hC, pC4 hC, pC0_2 hC, ty0_2, List.getElem?_cons_zero, List.getElem?_cons_succ, List.length_cons, List.length_nil, ag_nx, ag_dn, ag_no, ag_if, jbr1, jbr2, jc1, jc2, jnul, jld, jsto, jstoL, jst1, jst2, jkill, jinc, jbI, jbL, jbS, juI, jl2i, jcmp, jisR, jisI, jisL, jret, jretv, jfits, jdup, jdup2, jpop, jmm, jcat, Value.category, jinv, jrcv, jthr, jhd, jput, jget, jlen, jald, jast, jaast, jgI, jgL, jgB, jtab, jlku, jacp, vf20, vf21, vf22, vf23, vf24, u2_s, u2_k, u2_i, uc_s, uc_k, uc_c, u2_c, LI0, LI1, LI2, LI3, LI4, LI5, LI6, LI7, LI8, LI9, LI10, LI11, LI12, LI13, LI14, LI15, LI16, LI17, LI18, LI19, LI20, LI21, LI22, LI23, LI24, LI25, LI26, LI27, LI28, LI29, LI30, LI31, LI32, LI33, LI34, LI35, LI36, LI37, LI40, LI42, LI43, LI45, LI48, LI60, LI61, LI64, LI80, LI300, LI400, LI1000, LI2000, LI2001, LI2047, LI2048, LI100000, LI1000000, LI38, LI39, LI41, LI44, LI46, LI47, LI49, LI50, LI51, LI52, LI53, LI54, LI55, LI56, LI57, LI58, LI59, LI62, LI63, LI65, LI66, LI67, LI68, LI69, LI70, LI71, LI72, LI73, LI74, LI75, LI76, LI77, LI78, LI79, LI81, LI82, LI83, LI84, LI85, LI86, LI87, LI88, LI89, LI90, LI91, LI92, LI93, LI94, LI95, LI96, LI97, LI98, LI99, LI100, LI101, LI102, LI103, LI104, LI105, LI106, LI107, LI108, LI109, LI110, LI111, LI112, LI113, LI114, LI115, LI116, LI117, LI118, LI119, LI120, LI121, LI122, LI123, LI124, LI125, LI126, LI127, LI255, LI256, LI999, LI1001, LI1002, LI1600, LI4096, LI1000001, LI2042, LM, nI_clamp, nI_pos', nI_lt, nI_nlt, nI_le, nI_ge, nI_ne, nI_add, nI_sub, mI_lt, mI_le, mI_nlt, mI_nle, mI_ne, mI_ne', mI_nem, e84, e87, e88, e30]
        · rcases r with ⟨_, _, r3⟩ | ⟨i, ls', _, _, r3⟩
          · exact r3
          · exact r3.1.1
        · rw [ey]
          rcases r with ⟨r1, r2, r3⟩ | ⟨i, ls', r1, r2, r3⟩
          · exact Or.inl ⟨r2, Or.inr r1⟩
          · have := (lnS_lt r1 hs.2.2.2.1 hs.2.2.2.2.2.1).2.1
            exact Or.inr ⟨i, ls', Or.inl k26, r1, r2, r3, by omega⟩
      | none =>
        have e30 := c30n (A := A) (d := d) (b := b) (h := h) (X := X) (R := R) (n := n) hN hs.1 (by omega) hf
        have hno := fdN_no _ _ hf
        obtain ⟨I1, hI1⟩ : ∃ I1, I1 = u2 (u2 I (C + 1 + 2) L (tkD t N (tpos t N j))) (C + 1) 2 (nI (L + 1)) := ⟨_, rfl⟩
        obtain ⟨J1, hJ1⟩ : ∃ J1, J1 = u2 J (C + 1 + 1) L (tkH t N (tpos t N j)) := ⟨_, rfl⟩
        rw [← hI1, ← hJ1] at e30
        have f1 : ∀ c i, ¬ (c = C + 1 ∧ i = 2) → c ≠ C + 3 → I1 c i = I c i := fun c i h1 h2 => by rw [hI1, u2_o _ _ h1, u2_k (by omega)]
        have hold : ∀ y, y < L → cnm I1 J1 (C + 1) y = cnm I J (C + 1) y := fun y hy => by
          unfold cnm
          rw [hI1, hJ1, u2_i (by omega), u2_k (by omega), u2_i (by omega)]
        have hnew : cnm I1 J1 (C + 1) L = (tkH t N (tpos t N j), tkD t N (tpos t N j)) := by
          unfold cnm
          rw [hI1, hJ1, u2_s, u2_k (by omega), u2_s]
        have hm1 : cNm I1 J1 (C + 1) (L + 1) := by
          refine ⟨by rw [hI1]; exact u2_s, by omega, fun x y hx hy e => ?_⟩
          by_cases ex : x = L
          · by_cases ey' : y = L
            · omega
            · rw [ex, hnew, hold y (by omega)] at e
              exact absurd e.symm (hno y (by omega) (by omega))
          · by_cases ey' : y = L
            · rw [ey', hnew, hold x (by omega)] at e
              exact absurd e (hno x (by omega) (by omega))
            · rw [hold x (by omega), hold y (by omega)] at e
              exact hs.1.2.2 x y (by omega) (by omega) e
        have hs1 := hC_nm hs hm1 (by omega) hold f1
        have hl : cLn I1 J1 (C + 1) (L + 1) (nI L) (some (Yn t N j)) := ⟨L, by omega, rfl, hnew⟩
        have hfn : s.2.findIdx? (fun y => decide (y = some (Yn t N j))) = none := by
          rw [List.findIdx?_eq_none_iff]
          intro y hy
          obtain ⟨i, hi⟩ := List.mem_iff_getElem?.mp hy
          have := hs.2.2.2.2.2.2.2 i y hi
          simp only [decide_eq_false_iff_not]
          intro e
          subst e
          obtain ⟨u, u1, u2', u3⟩ := this
          exact hno u (by omega) (by omega) u3
        obtain ⟨I', v, e, f, r⟩ := c3k (A := A) (d := d + 1) (b := b) (h := h) (X := X) (J := J1) (R := R) (n := n) (k3 := nI 26) (c5 := none) (j := j) hC (by omega) hs1 hl
        refine ⟨I', J1, v, L + 1, ?_, fun c i h1 h2 h3 h4 => by rw [f c i h1 h2 h3 h4, f1 c i h2 h3], fun c i hc => by rw [hJ1, u2_k (by omega)], ?_, by omega, ?_⟩
        · rw [← e]
          simp (disch := omega) [je3, r3_0, r3_1, r3_2, r3_5, r3_6, r3_7, r3_9, r3_12, r3_13, r3_15, r3_20, r3_21, r3_23, r3_31, r3_32, r3_35, r3_36, r3_37, r3_40, r3_41, r3_42, r3_45, r3_48, qa84, qo84, g3, gC0 hC, vf0_0, tC0_0 hC, qa87, qo87, qa88, qo88, qa30, qo30, gN0 hN, qa4, qo4, vf0_2, vf0_1, tC0_1 hC, gC4 hC, pC4 hC, pC0_2 hC, ty0_2, List.getElem?_cons_zero, List.getElem?_cons_succ, List.length_cons, List.length_nil, ag_nx, ag_dn, ag_no, ag_if, jbr1, jbr2, jc1, jc2, jnul, jld, jsto, jstoL, jst1, jst2, jkill, jinc, jbI, jbL, jbS, juI, jl2i, jcmp, jisR, jisI, jisL, jret, jretv, jfits, jdup, jdup2, jpop, jmm, jcat, Value.category, jinv, jrcv, jthr, jhd, jput, jget, jlen, jald, jast, jaast, jgI, jgL, jgB, jtab, jlku, jacp, vf20, vf21, vf22, vf23, vf24, u2_s, u2_k, u2_i, uc_s, uc_k, uc_c, u2_c, LI0, LI1, LI2, LI3, LI4, LI5, LI6, LI7, LI8, LI9, LI10, LI11, LI12, LI13, LI14, LI15, LI16, LI17, LI18, LI19, LI20, LI21, LI22, LI23, LI24, LI25, LI26, LI27, LI28, LI29, LI30, LI31, LI32, LI33, LI34, LI35, LI36, LI37, LI40, LI42, LI43, LI45, LI48, LI60, LI61, LI64, LI80, LI300, LI400, LI1000, LI2000, LI2001, LI2047, LI2048, LI100000, LI1000000, LI38, LI39, LI41, LI44, LI46, LI47, LI49, LI50, LI51, LI52, LI53, LI54, LI55, LI56, LI57, LI58, LI59, LI62, LI63, LI65, LI66, LI67, LI68, LI69, LI70, LI71, LI72, LI73, LI74, LI75, LI76, LI77, LI78, LI79, LI81, LI82, LI83, LI84, LI85, LI86, LI87, LI88, LI89, LI90, LI91, LI92, LI93, LI94, LI95, LI96, LI97, LI98, LI99, LI100, LI101, LI102, LI103, LI104, LI105, LI106, LI107, LI108, LI109, LI110, LI111, LI112, LI113, LI114, LI115, LI116, LI117, LI118, LI119, LI120, LI121, LI122, LI123, LI124, LI125, LI126, LI127, LI255, LI256, LI999, LI1001, LI1002, LI1600, LI4096, LI1000001, LI2042, LM, nI_clamp, nI_pos', nI_lt, nI_nlt, nI_le, nI_ge, nI_ne, nI_add, nI_sub, mI_lt, mI_le, mI_nlt, mI_nle, mI_ne, mI_ne', mI_nem, e84, e87, e88, e30]
        · rcases r with ⟨_, _, r3⟩ | ⟨i, ls', _, _, r3⟩
          · exact r3
          · exact r3.1.1
        · rw [ey]
          rcases r with ⟨r1, r2, r3⟩ | ⟨i, ls', r1, r2, r3⟩
          · exact Or.inl ⟨r2, Or.inr r1⟩
          · refine Or.inr ⟨i, ls', Or.inl k26, r1, r2, r3, ?_⟩
            have r1' := r1
            unfold lnS at r1'
            rw [hfn] at r1'
            replace r1' : (if s.2.length < 8 then some (s.2.length, s.2 ++ [some (Yn t N j)]) else none) = some (i, ls') := r1'
            by_cases h9 : s.2.length < 8
            · rw [if_pos h9] at r1'
              simp only [Option.some.injEq, Prod.mk.injEq] at r1'
              rw [← r1'.2]
              simp
              omega
            · rw [if_neg h9] at r1'
              cases r1'
    · have n26 : ¬ nI (KK t N j) = nI 26 := nI_ne k26 (by omega) (by omega)
      have n24 : ¬ nI (KK t N j) = nI 24 := nI_ne k24 (by omega) (by omega)
      refine ⟨I, J, mI 1, L, ?_, fun _ _ _ _ _ _ => rfl, fun _ _ _ => rfl, hs.1.1, by omega, Or.inl ⟨rfl, Or.inl (fun z => z.elim k26 k24)⟩⟩
      simp (disch := omega) [je3, r3_0, r3_1, r3_2, r3_5, r3_6, r3_7, r3_9, r3_12, r3_13, r3_15, r3_18, r3_19, qa84, qo84, g3, List.getElem?_cons_zero, List.getElem?_cons_succ, List.length_cons, List.length_nil, ag_nx, ag_dn, ag_no, ag_if, jbr1, jbr2, jc1, jc2, jnul, jld, jsto, jstoL, jst1, jst2, jkill, jinc, jbI, jbL, jbS, juI, jl2i, jcmp, jisR, jisI, jisL, jret, jretv, jfits, jdup, jdup2, jpop, jmm, jcat, Value.category, jinv, jrcv, jthr, jhd, jput, jget, jlen, jald, jast, jaast, jgI, jgL, jgB, jtab, jlku, jacp, vf20, vf21, vf22, vf23, vf24, u2_s, u2_k, u2_i, uc_s, uc_k, uc_c, u2_c, LI0, LI1, LI2, LI3, LI4, LI5, LI6, LI7, LI8, LI9, LI10, LI11, LI12, LI13, LI14, LI15, LI16, LI17, LI18, LI19, LI20, LI21, LI22, LI23, LI24, LI25, LI26, LI27, LI28, LI29, LI30, LI31, LI32, LI33, LI34, LI35, LI36, LI37, LI40, LI42, LI43, LI45, LI48, LI60, LI61, LI64, LI80, LI300, LI400, LI1000, LI2000, LI2001, LI2047, LI2048, LI100000, LI1000000, LI38, LI39, LI41, LI44, LI46, LI47, LI49, LI50, LI51, LI52, LI53, LI54, LI55, LI56, LI57, LI58, LI59, LI62, LI63, LI65, LI66, LI67, LI68, LI69, LI70, LI71, LI72, LI73, LI74, LI75, LI76, LI77, LI78, LI79, LI81, LI82, LI83, LI84, LI85, LI86, LI87, LI88, LI89, LI90, LI91, LI92, LI93, LI94, LI95, LI96, LI97, LI98, LI99, LI100, LI101, LI102, LI103, LI104, LI105, LI106, LI107, LI108, LI109, LI110, LI111, LI112, LI113, LI114, LI115, LI116, LI117, LI118, LI119, LI120, LI121, LI122, LI123, LI124, LI125, LI126, LI127, LI255, LI256, LI999, LI1001, LI1002, LI1600, LI4096, LI1000001, LI2042, LM, nI_clamp, nI_pos', nI_lt, nI_nlt, nI_le, nI_ge, nI_ne, nI_add, nI_sub, mI_lt, mI_le, mI_nlt, mI_nle, mI_ne, mI_ne', mI_nem, e84, n26, n24]
end CHD
