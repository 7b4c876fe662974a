/-! charts: the class reads a message, all messages -/
section CHE
variable {A : Nat → Nat} {d b n C N m : Nat} {h : Nat → Option jC} {X : jXX} {R : Nat → Nat → Nat} {t : Nat → Int32}
abbrev hC_ := hC
theorem nd_inj {β : Type} {l : List β} {i k : Nat} {x : β} (hn : l.Nodup) (h1 : l[i]? = some x) (h2 : l[k]? = some x) : i = k := by
  have hi := lt_of_some h1
  have hk := lt_of_some h2
  rw [List.getElem?_eq_getElem hi] at h1
  rw [List.getElem?_eq_getElem hk] at h2
  exact (List.getElem_inj hn).mp ((Option.some.inj h1).trans (Option.some.inj h2).symm)
/-- nothing but the chart's lines, messages and names -/
def fMs (C : Nat) (I I' : Nat → Nat → Int32) : Prop := ∀ c i, ¬ (c = C ∧ (i = 2 ∨ i = 6)) → ¬ (c = C + 1 ∧ i = 2) → ¬ (C + 3 ≤ c ∧ c ≤ C + 7) → I' c i = I c i
theorem fMs_L {I I' : Nat → Nat → Int32} (h : fLn C I I') : fMs C I I' := fun c i h1 h2 h3 => h c i (by omega) h2 (by omega) (by omega)
theorem fMs_tr {I I1 I2 : Nat → Nat → Int32} (h1 : fMs C I I1) (h2 : fMs C I1 I2) : fMs C I I2 := fun c i a1 a2 a3 => (h2 c i a1 a2 a3).trans (h1 c i a1 a2 a3)
theorem tkS_fM {I I' : Nat → Nat → Int32} {J J' : Nat → Nat → Int64} (hC : isC C) (hT : tkS t N I J m) (hf : fMs C I I') (hJ : ∀ c i, c ≠ C + 2 → J' c i = J c i) : tkS t N I' J' m := by
  have := isC_ee hC
  exact tkS_fr hT (fun c i hc => hf c i (by omega) (by omega) (by omega)) (fun i => hJ _ _ (by omega))
/-- one message more -/
theorem hC_ms {I : Nat → Nat → Int32} {J : Nat → Nat → Int64} {s : hS} {L a c : Nat} {x : Int32} {y : Int64 × Int32} (hs : hC I J C s L) (hl : cLn I J (C + 1) L x (some y)) (ha : a < s.2.length) (hc : c < s.2.length) (h40 : s.1.length < 40) : hC (u2 (u2 (u2 (u2 I (C + 5) s.1.length (nI a)) (C + 6) s.1.length (nI c)) (C + 7) s.1.length x) C 6 (nI (s.1.length + 1))) J C (s.1 ++ [(a, c, y)], s.2) L := by
  obtain ⟨a1, a3, a4, a5, a6, a7, a8, a9⟩ := hs
  obtain ⟨I', hI'⟩ : ∃ I', I' = u2 (u2 (u2 (u2 I (C + 5) s.1.length (nI a)) (C + 6) s.1.length (nI c)) (C + 7) s.1.length x) C 6 (nI (s.1.length + 1)) := ⟨_, rfl⟩
  rw [← hI']
  have f : ∀ k i, ¬ (k = C ∧ i = 6) → ¬ (5 + C ≤ k ∧ k ≤ C + 7 ∧ i = s.1.length) → I' k i = I k i := fun k i h1 h2 => by rw [hI', u2_o _ _ h1, u2_o _ _ (by omega), u2_o _ _ (by omega), u2_o _ _ (by omega)]
  have ec : ∀ y, cnm I' J (C + 1) y = cnm I J (C + 1) y := fun y => by unfold cnm; rw [f _ _ (by omega) (by omega)]
  have kc : ∀ (x' : Int32) l, cLn I J (C + 1) L x' l → cLn I' J (C + 1) L x' l := by
    intro x' l hl
    cases l with
    | none => exact hl
    | some y =>
      obtain ⟨u, u1, u2', u3⟩ := hl
      exact ⟨u, u1, u2', (ec u).trans u3⟩
  refine ⟨⟨(f _ _ (by omega) (by omega)).trans a1.1, a1.2.1, fun x y hx hy => by rw [ec, ec]; exact a1.2.2 x y hx hy⟩, by rw [hI', u2_s]; simp, (f _ _ (by omega) (by omega)).trans a4, a5, by simp; omega, a7, fun i m hm' => ?_, fun i l' hl' => ?_⟩
  · by_cases e : i = s.1.length
    · subst e
      have : m = (a, c, y) := by simpa using hm'.symm
      subst this
      refine ⟨ha, hc, ?_, ?_, ?_⟩
      · rw [hI', u2_o _ _ (by omega), u2_o _ _ (by omega), u2_o _ _ (by omega), u2_s]
      · rw [hI', u2_o _ _ (by omega), u2_o _ _ (by omega), u2_s]
      · have : I' (C + 7) s.1.length = x := by rw [hI', u2_o _ _ (by omega), u2_s]
        rw [this]
        exact kc _ _ hl
    · have hi : i < s.1.length := by
        have := lt_of_some hm'
        simp at this
        omega
      replace hm' : s.1[i]? = some m := by rw [List.getElem?_append_left hi] at hm'; exact hm'
      obtain ⟨d1, d2, d3, d4, d5⟩ := a8 i m hm'
      rw [f (C + 5) i (by omega) (by omega), f (C + 6) i (by omega) (by omega), f (C + 7) i (by omega) (by omega)]
      exact ⟨d1, d2, d3, d4, kc _ _ d5⟩
  · rw [f (C + 4) i (by omega) (by omega)]
    exact kc _ _ (a9 i l' hl')
theorem hC_x {I I' : Nat → Nat → Int32} {J : Nat → Nat → Int64} {s : hS} {L : Nat} (hs : hC I J C s L) (hi : ∀ c i, ¬ ((c = C + 5 ∨ c = C + 6 ∨ c = C + 7) ∧ i = s.1.length) → I' c i = I c i) : hC I' J C s L := by
  obtain ⟨a1, a3, a4, a5, a6, a7, a8, a9⟩ := hs
  have ec : ∀ y, cnm I' J (C + 1) y = cnm I J (C + 1) y := fun y => by unfold cnm; rw [hi _ _ (by omega)]
  have kc : ∀ (x' : Int32) l, cLn I J (C + 1) L x' l → cLn I' J (C + 1) L x' l := by
    intro x' l hl
    cases l with
    | none => exact hl
    | some y =>
      obtain ⟨u, u1, u2', u3⟩ := hl
      exact ⟨u, u1, u2', (ec u).trans u3⟩
  refine ⟨⟨(hi _ _ (by omega)).trans a1.1, a1.2.1, fun x y hx hy => by rw [ec, ec]; exact a1.2.2 x y hx hy⟩, (hi _ _ (by omega)).trans a3, (hi _ _ (by omega)).trans a4, a5, a6, a7, fun i m hm' => ?_, fun i l' hl' => ?_⟩
  · obtain ⟨d1, d2, d3, d4, d5⟩ := a8 i m hm'
    have := lt_of_some hm'
    rw [hi (C + 5) i (by omega), hi (C + 6) i (by omega), hi (C + 7) i (by omega)]
    exact ⟨d1, d2, d3, d4, kc _ _ d5⟩
  · rw [hi (C + 4) i (by omega)]
    exact kc _ _ (a9 i l' hl')
/-- readMessage -/
theorem c2 {I : Nat → Nat → Int32} {J : Nat → Nat → Int64} {s : hS} {L j : Nat} (hC' : isC C) (hLb : L ≤ s.1.length + s.2.length) (hs : hC I J C s L) (h40 : s.1.length < 40) (hT : tkS t N I J m) (hN2 : N ≤ 2000) (hk : ∀ j, j ≤ m → KK t N j ≠ 29 → j < m) (hj : j ≤ m) : ∃ I' J' v L', jcall A jcode (d + 4) 2 [.ref (b + C), .ref (b + 3), .int (nI j)] (jH h b X I J R n) = some (.inl (some (.int v)), (jH h b X I' J' R n)) ∧ fMs C I I' ∧ (∀ c i, c ≠ C + 2 → J' c i = J c i) ∧ I' (C + 1) 2 = nI L' ∧ L' ≤ 48 ∧ ((∃ e, e ≤ m ∧ msS (KK t N) (Yn t N) j s = .inl e ∧ v = nI e) ∨ ∃ s', msS (KK t N) (Yn t N) j s = .inr s' ∧ v = mI 1 ∧ hC I' J' C s' L' ∧ L' ≤ s'.1.length + s'.2.length ∧ s'.1.length = s.1.length + 1) := by
  have hC := hC'
  have hN := isC_N hC
  have hCe := isC_ee hC
  have h48 := sC_c hC
  have s8 := hs.2.2.2.1
  have hmN := hT.2.1
  obtain ⟨I1, J1, v1, L1, e3, f1, fj1, n1, n1', r1⟩ := c3 (A := A) (d := d) (b := b) (h := h) (X := X) (R := R) (n := n) hC (by omega) hLb hs hT hN2 hj
  have F1 := fMs_L f1
  have hT1 := tkS_fM hC hT F1 fj1
  have K84 : ∀ (I' : Nat → Nat → Int32) (J' : Nat → Nat → Int64) (i : Nat), tkS t N I' J' m → i ≤ m → jcall A jcode (d + 3) 84 [.ref (b + 3), .int (nI i)] (jH h b X I' J' R n) = some (.inl (some (.int (nI (KK t N i)))), (jH h b X I' J' R n)) := fun I' J' i hT' hi => by
    have := c84 (A := A) (d := d + 2) (b := b) (h := h) (X := X) (I := I') (J := J') (R := R) (n := n) (m := m) (j := i) hT'.1 (by omega) hi
    rw [(hT'.2.2.2.2 i hi).1, KK_e.2] at this
    exact this
  have ko : ∀ i, KK t N i < 128 := fun i => okK_lt (KK_e (t := t) (N := N) (j := i)).1
  rcases r1 with ⟨rv, rr⟩ | ⟨a, ls1, kj, l1, rv, hs1, hb1⟩
  · subst rv
    refine ⟨I1, J1, nI j, L1, ?_, F1, fj1, n1, by omega, Or.inl ⟨j, hj, ?_, rfl⟩⟩
    · simp (disch := omega) [je2, r2_0, r2_1, r2_2, r2_3, r2_6, r2_7, r2_8, r2_11, r2_12, qa3, qo3, gC0 hC, List.getElem?_cons_zero, List.getElem?_cons_succ, List.length_cons, List.length_nil, ag_nx, ag_dn, ag_no, ag_if, jbr1, jbr2, jc1, jc2, jnul, jld, jsto, jstoL, jst1, jst2, jkill, jinc, jbI, jbL, jbS, juI, jl2i, jcmp, jisR, jisI, jisL, jret, jretv, jfits, jdup, jdup2, jpop, jmm, jcat, Value.category, jinv, jrcv, jthr, jhd, jput, jget, jlen, jald, jast, jaast, jgI, jgL, jgB, jtab, jlku, jacp, vf20, vf21, vf22, vf23, vf24, u2_s, u2_k, u2_i, uc_s, uc_k, uc_c, u2_c, LI0, LI1, LI2, LI3, LI4, LI5, LI6, LI7, LI8, LI9, LI10, LI11, LI12, LI13, LI14, LI15, LI16, LI17, LI18, LI19, LI20, LI21, LI22, LI23, LI24, LI25, LI26, LI27, LI28, LI29, LI30, LI31, LI32, LI33, LI34, LI35, LI36, LI37, LI40, LI42, LI43, LI45, LI48, LI60, LI61, LI64, LI80, LI300, LI400, LI1000, LI2000, LI2001, LI2047, LI2048, LI100000, LI1000000, LI38, LI39, LI41, LI44, LI46, LI47, LI49, LI50, LI51, LI52, LI53, LI54, LI55, LI56, LI57, LI58, LI59, LI62, LI63, LI65, LI66, LI67, LI68, LI69, LI70, LI71, LI72, LI73, LI74, LI75, LI76, LI77, LI78, LI79, LI81, LI82, LI83, LI84, LI85, LI86, LI87, LI88, LI89, LI90, LI91, LI92, LI93, LI94, LI95, LI96, LI97, LI98, LI99, LI100, LI101, LI102, LI103, LI104, LI105, LI106, LI107, LI108, LI109, LI110, LI111, LI112, LI113, LI114, LI115, LI116, LI117, LI118, LI119, LI120, LI121, LI122, LI123, LI124, LI125, LI126, LI127, LI255, LI256, LI999, LI1001, LI1002, LI1600, LI4096, LI1000001, LI2042, LM, nI_clamp, nI_pos', nI_lt, nI_nlt, nI_le, nI_ge, nI_ne, nI_add, nI_sub, mI_lt, mI_le, mI_nlt, mI_nle, mI_ne, mI_ne', mI_nem, e3]
    · unfold msS
      rcases rr with rr | rr
      · rw [if_pos rr]
      · by_cases kk : KK t N j = 26 ∨ KK t N j = 24
        · rw [if_neg (fun z => z kk), rr]
        · rw [if_pos kk]
  · subst rv
    obtain ⟨q1, q2, q3, q4, q5, q6, q7⟩ := lnS_lt l1 s8 hs.2.2.2.2.2.1
    have ha0 : ¬ nI a < nI 0 := by rw [nI_ltI (by omega) (by omega)]; omega
    have hj1 : j < m := hk j hj (by omega)
    have e84a := K84 I1 J1 (j + 1) hT1 (by omega)
    by_cases k1 : KK t N (j + 1) = 62
    · rw [k1] at e84a
      have hj2 : j + 1 < m := hk (j + 1) (by omega) (by omega)
      obtain ⟨I2, J2, v2, L2, e3b, f2, fj2, n2, n2', r2⟩ := c3 (A := A) (d := d) (b := b) (h := h) (X := X) (R := R) (n := n) (j := j + 2) hC (by have : (s.1, ls1).1.length = s.1.length := rfl; omega) hb1 hs1 hT1 hN2 (by omega)
      have F2 := fMs_tr F1 (fMs_L f2)
      have sm2 : (s.1, ls1).1.length = s.1.length := rfl
      have hb1' : L1 ≤ s.1.length + ls1.length := hb1
      have L2b : L2 ≤ 48 := by omega
      have FJ2 : ∀ c i, c ≠ C + 2 → J2 c i = J c i := fun c i hc => (fj2 c i hc).trans (fj1 c i hc)
      have hT2 := tkS_fM hC hT F2 FJ2
      have hms : ∀ z, (if ¬ (KK t N (j + 2) = 26 ∨ KK t N (j + 2) = 24) then Sum.inl (j + 2) else if KK t N (j + 2) = 24 ∧ ls1[a]? = some none then Sum.inl (j + 2) else match lnS (yL (Yn t N) (KK t N) (j + 2)) ls1 with | none => Sum.inl (j + 2) | some (c, ls2) => if ¬ KK t N (j + 3) = 58 then Sum.inl (j + 3) else if ¬ KK t N (j + 4) = 26 then Sum.inl (j + 4) else if ¬ KK t N (j + 5) = 59 then Sum.inl (j + 5) else Sum.inr (s.1 ++ [(a, c, Yn t N (j + 4))], ls2)) = z → msS (KK t N) (Yn t N) j s = z := fun z hz => by
        unfold msS
        rw [if_neg (fun z => z kj), l1]
        show (if ¬ KK t N (j + 1) = 62 then Sum.inl (j + 1) else _) = z
        rw [if_neg (fun z => z k1)]
        exact hz
      rcases r2 with ⟨rv2, rr2⟩ | ⟨c, ls2, kj2, l2, rv2, hs2, hb2⟩
      · subst rv2
        refine ⟨I2, J2, nI (j + 2), L2, ?_, F2, FJ2, n2, L2b, Or.inl ⟨j + 2, by omega, hms _ ?_, rfl⟩⟩
        · simp (disch := omega) [je2, r2_0, r2_1, r2_2, r2_3, r2_6, r2_7, r2_8, r2_13, r2_14, r2_15, r2_16, r2_17, r2_20, r2_22, r2_29, r2_30, r2_31, r2_32, r2_33, r2_34, r2_37, r2_39, r2_41, r2_62, r2_63, r2_64, r2_65, qa3, qo3, qa84, qo84, g3, gC0 hC, List.getElem?_cons_zero, List.getElem?_cons_succ, List.length_cons, List.length_nil, ag_nx, ag_dn, ag_no, ag_if, jbr1, jbr2, jc1, jc2, jnul, jld, jsto, jstoL, jst1, jst2, jkill, jinc, jbI, jbL, jbS, juI, jl2i, jcmp, jisR, jisI, jisL, jret, jretv, jfits, jdup, jdup2, jpop, jmm, jcat, Value.category, jinv, jrcv, jthr, jhd, jput, jget, jlen, jald, jast, jaast, jgI, jgL, jgB, jtab, jlku, jacp, vf20, vf21, vf22, vf23, vf24, u2_s, u2_k, u2_i, uc_s, uc_k, uc_c, u2_c, LI0, LI1, LI2, LI3, LI4, LI5, LI6, LI7, LI8, LI9, LI10, LI11, LI12, LI13, LI14, LI15, LI16, LI17, LI18, LI19, LI20, LI21, LI22, LI23, LI24, LI25, LI26, LI27, LI28, LI29, LI30, LI31, LI32, LI33, LI34, LI35, LI36, LI37, LI40, LI42, LI43, LI45, LI48, LI60, LI61, LI64, LI80, LI300, LI400, LI1000, LI2000, LI2001, LI2047, LI2048, LI100000, LI1000000, LI38, LI39, LI41, LI44, LI46, LI47, LI49, LI50, LI51, LI52, LI53, LI54, LI55, LI56, LI57, LI58, LI59, LI62, LI63, LI65, LI66, LI67, LI68, LI69, LI70, LI71, LI72, LI73, LI74, LI75, LI76, LI77, LI78, LI79, LI81, LI82, LI83, LI84, LI85, LI86, LI87, LI88, LI89, LI90, LI91, LI92, LI93, LI94, LI95, LI96, LI97, LI98, LI99, LI100, LI101, LI102, LI103, LI104, LI105, LI106, LI107, LI108, LI109, LI110, LI111, LI112, LI113, LI114, LI115, LI116, LI117, LI118, LI119, LI120, LI121, LI122, LI123, LI124, LI125, LI126, LI127, LI255, LI256, LI999, LI1001, LI1002, LI1600, LI4096, LI1000001, LI2042, LM, nI_clamp, nI_pos', nI_lt, nI_nlt, nI_le, nI_ge, nI_ne, nI_add, nI_sub, mI_lt, mI_le, mI_nlt, mI_nle, mI_ne, mI_ne', mI_nem, e3, ha0, e84a, e3b]
        · rcases rr2 with rr2 | rr2
          · rw [if_pos rr2]
          · by_cases kk : KK t N (j + 2) = 26 ∨ KK t N (j + 2) = 24
            · rw [if_neg (fun z => z kk)]
              by_cases ko2 : KK t N (j + 2) = 24 ∧ ls1[a]? = some none
              · rw [if_pos ko2]
              · rw [if_neg ko2, rr2]
            · rw [if_pos kk]
      · subst rv2
        obtain ⟨p1, p2, p3, p4, p5, p6, p7⟩ := lnS_lt l2 q3 q4
        have hc0 : ¬ nI c < nI 0 := by rw [nI_ltI (by omega) (by omega)]; omega
        have c8 : c < 8 := by omega
        have hlc := hs2.2.2.2.2.2.2.2 c _ p5
        by_cases hoo : KK t N (j + 2) = 24 ∧ ls1[a]? = some none
        · have ey : yL (Yn t N) (KK t N) (j + 2) = none := by unfold yL; rw [if_pos hoo.1]
          have hca : c = a := by
            rw [ey] at p5
            exact nd_inj p4 p5 (p6 a _ hoo.2)
          rw [ey] at hlc
          have hx : I2 (C + 4) c = mI 2 := hlc
          refine ⟨I2, J2, nI (j + 2), L2, ?_, F2, FJ2, n2, L2b, Or.inl ⟨j + 2, by omega, hms _ ?_, rfl⟩⟩
          · rw [hca] at hx c8
            rw [hca] at e3b hc0
            simp (disch := omega) [je2, r2_0, r2_1, r2_2, r2_3, r2_6, r2_7, r2_8, r2_13, r2_14, r2_15, r2_16, r2_17, r2_20, r2_22, r2_29, r2_30, r2_31, r2_32, r2_33, r2_34, r2_37, r2_39, r2_41, r2_44, r2_45, r2_47, r2_50, r2_51, r2_54, r2_56, r2_57, r2_59, r2_62, r2_63, r2_64, r2_65, qa3, qo3, gC0 hC, qa84, qo84, g3, vf0_1, tC0_1 hC, gC4 hC, pC4 hC, vf0_6, vf0_3, tC0_3 hC, gC5 hC, pC5 hC, vf0_4, tC0_4 hC, gC6 hC, pC6 hC, vf0_5, tC0_5 hC, gC7 hC, pC7 hC, vf0_0, tC0_0 hC, qa87, qo87, qa88, qo88, qa30, qo30, gN0 hN, pC0_6 hC, ty0_6, List.getElem?_cons_zero, List.getElem?_cons_succ, List.length_cons, List.length_nil, ag_nx, ag_dn, ag_no, ag_if, jbr1, jbr2, jc1, jc2, jnul, jld, jsto, jstoL, jst1, jst2, jkill, jinc, jbI, jbL, jbS, juI, jl2i, jcmp, jisR, jisI, jisL, jret, jretv, jfits, jdup, jdup2, jpop, jmm, jcat, Value.category, jinv, jrcv, jthr, jhd, jput, jget, jlen, jald, jast, jaast, jgI, jgL, jgB, jtab, jlku, jacp, vf20, vf21, vf22, vf23, vf24, u2_s, u2_k, u2_i, uc_s, uc_k, uc_c, u2_c, LI0, LI1, LI2, LI3, LI4, LI5, LI6, LI7, LI8, LI9, LI10, LI11, LI12, LI13, LI14, LI15, LI16, LI17, LI18, LI19, LI20, LI21, LI22, LI23, LI24, LI25, LI26, LI27, LI28, LI29, LI30, LI31, LI32, LI33, LI34, LI35, LI36, LI37, LI40, LI42, LI43, LI45, LI48, LI60, LI61, LI64, LI80, LI300, LI400, LI1000, LI2000, LI2001, LI2047, LI2048, LI100000, LI1000000, LI38, LI39, LI41, LI44, LI46, LI47, LI49, LI50, LI51, LI52, LI53, LI54, LI55, LI56, LI57, LI58, LI59, LI62, LI63, LI65, LI66, LI67, LI68, LI69, LI70, LI71, LI72, LI73, LI74, LI75, LI76, LI77, LI78, LI79, LI81, LI82, LI83, LI84, LI85, LI86, LI87, LI88, LI89, LI90, LI91, LI92, LI93, LI94, LI95, LI96, LI97, LI98, LI99, LI100, LI101, LI102, LI103, LI104, LI105, LI106, LI107, LI108, LI109, LI110, LI111, LI112, LI113, LI114, LI115, LI116, LI117, LI118, LI119, LI120, LI121, LI122, LI123, LI124, LI125, LI126, LI127, LI255, LI256, LI999, LI1001, LI1002, LI1600, LI4096, LI1000001, LI2042, LM, nI_clamp, nI_pos', nI_lt, nI_nlt, nI_le, nI_ge, nI_ne, nI_add, nI_sub, mI_lt, mI_le, mI_nlt, mI_nle, mI_ne, mI_ne', mI_nem, e3, ha0, e84a, e3b, hc0, hx, c8]
          · rw [if_neg (fun z => z kj2), if_pos hoo]
        · have hne : ¬ (nI a = nI c ∧ I2 (C + 4) c = mI 2) := by
            rintro ⟨z1, z2⟩
            have hac : a = c := nI_inj (by omega) (by omega) z1
            have hl2 : yL (Yn t N) (KK t N) (j + 2) = none := by
              cases hy : yL (Yn t N) (KK t N) (j + 2) with
              | none => rfl
              | some y =>
                rw [hy] at hlc
                obtain ⟨u, u1, u2', _⟩ := hlc
                rw [z2] at u2'
                exact absurd u2' (mI_ne' (by omega) (by omega) (by omega))
            have k24 : KK t N (j + 2) = 24 := by
              unfold yL at hl2
              split at hl2
              · assumption
              · cases hl2
            rw [hl2, ← hac] at p5
            have hla := List.getElem?_eq_getElem q1
            have := p6 a _ hla
            rw [p5] at this
            exact hoo ⟨k24, by rw [hla, ← Option.some.inj this]⟩
          -- the way to what is behind
          have WAY : ∀ (σ : Option (jO × jS)), M2 A (d + 3) 66 [some (.ref (b + C)), some (.ref (b + 3)), some (.int (nI j)), some (.int (nI a)), some (.int (nI c))] [] (jH h b X I2 J2 R n) = σ → jcall A jcode (d + 4) 2 [.ref (b + C), .ref (b + 3), .int (nI j)] (jH h b X I J R n) = σ := by
            intro σ hσ
            rw [← hσ]
            by_cases hac : nI a = nI c
            · have hx : ¬ I2 (C + 4) c = mI 2 := fun z => hne ⟨hac, z⟩
              simp (disch := omega) [je2, r2_0, r2_1, r2_2, r2_3, r2_6, r2_7, r2_8, r2_13, r2_14, r2_15, r2_16, r2_17, r2_20, r2_22, r2_29, r2_30, r2_31, r2_32, r2_33, r2_34, r2_37, r2_39, r2_41, r2_44, r2_45, r2_47, r2_50, r2_51, r2_54, r2_56, r2_57, r2_59, qa3, qo3, gC0 hC, qa84, qo84, g3, vf0_1, tC0_1 hC, gC4 hC, pC4 hC, vf0_6, vf0_3, tC0_3 hC, gC5 hC, pC5 hC, vf0_4, tC0_4 hC, gC6 hC, pC6 hC, vf0_5, tC0_5 hC, gC7 hC, pC7 hC, vf0_0, tC0_0 hC, qa87, qo87, qa88, qo88, qa30, qo30, gN0 hN, pC0_6 hC, ty0_6, List.getElem?_cons_zero, List.getElem?_cons_succ, List.length_cons, List.length_nil, ag_nx, ag_dn, ag_no, ag_if, jbr1, jbr2, jc1, jc2, jnul, jld, jsto, jstoL, jst1, jst2, jkill, jinc, jbI, jbL, jbS, juI, jl2i, jcmp, jisR, jisI, jisL, jret, jretv, jfits, jdup, jdup2, jpop, jmm, jcat, Value.category, jinv, jrcv, jthr, jhd, jput, jget, jlen, jald, jast, jaast, jgI, jgL, jgB, jtab, jlku, jacp, vf20, vf21, vf22, vf23, vf24, u2_s, u2_k, u2_i, uc_s, uc_k, uc_c, u2_c, LI0, LI1, LI2, LI3, LI4, LI5, LI6, LI7, LI8, LI9, LI10, LI11, LI12, LI13, LI14, LI15, LI16, LI17, LI18, LI19, LI20, LI21, LI22, LI23, LI24, LI25, LI26, LI27, LI28, LI29, LI30, LI31, LI32, LI33, LI34, LI35, LI36, LI37, LI40, LI42, LI43, LI45, LI48, LI60, LI61, LI64, LI80, LI300, LI400, LI1000, LI2000, LI2001, LI2047, LI2048, LI100000, LI1000000, LI38, LI39, LI41, LI44, LI46, LI47, LI49, LI50, LI51, LI52, LI53, LI54, LI55, LI56, LI57, LI58, LI59, LI62, LI63, LI65, LI66, LI67, LI68, LI69, LI70, LI71, LI72, LI73, LI74, LI75, LI76, LI77, LI78, LI79, LI81, LI82, LI83, LI84, LI85, LI86, LI87, LI88, LI89, LI90, LI91, LI92, LI93, LI94, LI95, LI96, LI97, LI98, LI99, LI100, LI101, LI102, LI103, LI104, LI105, LI106, LI107, LI108, LI109, LI110, LI111, LI112, LI113, LI114, LI115, LI116, LI117, LI118, LI119, LI120, LI121, LI122, LI123, LI124, LI125, LI126, LI127, LI255, LI256, LI999, LI1001, LI1002, LI1600, LI4096, LI1000001, LI2042, LM, nI_clamp, nI_pos', nI_lt, nI_nlt, nI_le, nI_ge, nI_ne, nI_add, nI_sub, mI_lt, mI_le, mI_nlt, mI_nle, mI_ne, mI_ne', mI_nem, e3, ha0, e84a, e3b, hc0, hx, c8, hac]
            · simp (disch := omega) [je2, r2_0, r2_1, r2_2, r2_3, r2_6, r2_7, r2_8, r2_13, r2_14, r2_15, r2_16, r2_17, r2_20, r2_22, r2_29, r2_30, r2_31, r2_32, r2_33, r2_34, r2_37, r2_39, r2_41, r2_44, r2_45, r2_47, qa3, qo3, gC0 hC, qa84, qo84, g3, vf0_1, tC0_1 hC, gC4 hC, pC4 hC, vf0_6, vf0_3, tC0_3 hC, gC5 hC, pC5 hC, vf0_4, tC0_4 hC, gC6 hC, pC6 hC, vf0_5, tC0_5 hC, gC7 hC, pC7 hC, vf0_0, tC0_0 hC, qa87, qo87, qa88, qo88, qa30, qo30, gN0 hN, pC0_6 hC, ty0_6, List.getElem?_cons_zero, List.getElem?_cons_succ, List.length_cons, List.length_nil, ag_nx, ag_dn, ag_no, ag_if, jbr1, jbr2, jc1, jc2, jnul, jld, jsto, jstoL, jst1, jst2, jkill, jinc, jbI, jbL, jbS, juI, jl2i, jcmp, jisR, jisI, jisL, jret, jretv, jfits, jdup, jdup2, jpop, jmm, jcat, Value.category, jinv, jrcv, jthr, jhd, jput, jget, jlen, jald, jast, jaast, jgI, jgL, jgB, jtab, jlku, jacp, vf20, vf21, vf22, vf23, vf24, u2_s, u2_k, u2_i, uc_s, uc_k, uc_c, u2_c, LI0, LI1, LI2, LI3, LI4, LI5, LI6, LI7, LI8, LI9, LI10, LI11, LI12, LI13, LI14, LI15, LI16, LI17, LI18, LI19, LI20, LI21, LI22, LI23, LI24, LI25, LI26, LI27, LI28, LI29, LI30, LI31, LI32, LI33, LI34, LI35, LI36, LI37, LI40, LI42, LI43, LI45, LI48, LI60, LI61, LI64, LI80, LI300, LI400, LI1000, LI2000, LI2001, LI2047, LI2048, LI100000, LI1000000, LI38, LI39, LI41, LI44, LI46, LI47, LI49, LI50, LI51, LI52, LI53, LI54, LI55, LI56, LI57, LI58, LI59, LI62, LI63, LI65, LI66, LI67, LI68, LI69, LI70, LI71, LI72, LI73, LI74, LI75, LI76, LI77, LI78, LI79, LI81, LI82, LI83, LI84, LI85, LI86, LI87, LI88, LI89, LI90, LI91, LI92, LI93, LI94, LI95, LI96, LI97, LI98, LI99, LI100, LI101, LI102, LI103, LI104, LI105, LI106, LI107, LI108, LI109, LI110, LI111, LI112, LI113, LI114, LI115, LI116, LI117, LI118, LI119, LI120, LI121, LI122, LI123, LI124, LI125, LI126, LI127, LI255, LI256, LI999, LI1001, LI1002, LI1600, LI4096, LI1000001, LI2042, LM, nI_clamp, nI_pos', nI_lt, nI_nlt, nI_le, nI_ge, nI_ne, nI_add, nI_sub, mI_lt, mI_le, mI_nlt, mI_nle, mI_ne, mI_ne', mI_nem, e3, ha0, e84a, e3b, hc0, hac]
          have hj3 : j + 2 < m := hk (j + 2) (by omega) (by omega)
          have e84b := K84 I2 J2 (j + 3) hT2 (by omega)
          have FAIL : ∀ e, e ≤ m → (if ¬ KK t N (j + 3) = 58 then Sum.inl (j + 3) else if ¬ KK t N (j + 4) = 26 then Sum.inl (j + 4) else if ¬ KK t N (j + 5) = 59 then Sum.inl (j + 5) else Sum.inr (s.1 ++ [(a, c, Yn t N (j + 4))], ls2)) = (Sum.inl e : Nat ⊕ hS) → M2 A (d + 3) 66 [some (.ref (b + C)), some (.ref (b + 3)), some (.int (nI j)), some (.int (nI a)), some (.int (nI c))] [] (jH h b X I2 J2 R n) = some (.inl (some (.int (nI e))), (jH h b X I2 J2 R n)) → ∃ I' J' v L', jcall A jcode (d + 4) 2 [.ref (b + C), .ref (b + 3), .int (nI j)] (jH h b X I J R n) = some (.inl (some (.int v)), (jH h b X I' J' R n)) ∧ fMs C I I' ∧ (∀ c i, c ≠ C + 2 → J' c i = J c i) ∧ I' (C + 1) 2 = nI L' ∧ L' ≤ 48 ∧ ((∃ e, e ≤ m ∧ msS (KK t N) (Yn t N) j s = .inl e ∧ v = nI e) ∨ ∃ s', msS (KK t N) (Yn t N) j s = .inr s' ∧ v = mI 1 ∧ hC_ I' J' C s' L' ∧ L' ≤ s'.1.length + s'.2.length ∧ s'.1.length = s.1.length + 1) := by
            intro e he hm hM
            exact ⟨I2, J2, nI e, L2, WAY _ hM, F2, FJ2, n2, L2b, Or.inl ⟨e, he, hms _ (by rw [if_neg (fun z => z kj2), if_neg hoo, l2]; exact hm), rfl⟩⟩
          by_cases k3 : KK t N (j + 3) = 58
          · rw [k3] at e84b
            have hj4 : j + 3 < m := hk (j + 3) (by omega) (by omega)
            have e84c := K84 I2 J2 (j + 4) hT2 (by omega)
            by_cases k4 : KK t N (j + 4) = 26
            · rw [k4] at e84c
              have hj5 : j + 4 < m := hk (j + 4) (by omega) (by omega)
              have e84d := K84 I2 J2 (j + 5) hT2 (by omega)
              by_cases k5 : KK t N (j + 5) = 59
              · rw [k5] at e84d
                have hb2' : L2 ≤ s.1.length + ls2.length := hb2
                have p3' : ls2.length ≤ 8 := p3
                have p2' : ls1.length ≤ ls2.length := p2
                obtain ⟨Ia, hIa⟩ : ∃ Ia, Ia = u2 (u2 I2 (C + 5) s.1.length (nI a)) (C + 6) s.1.length (nI c) := ⟨_, rfl⟩
                have fa : ∀ k i, ¬ ((k = C + 5 ∨ k = C + 6 ∨ k = C + 7) ∧ i = s.1.length) → Ia k i = I2 k i := fun k i hk => by rw [hIa, u2_o _ _ (by omega), u2_o _ _ (by omega)]
                have hsa : hC_ Ia J2 C (s.1, ls2) L2 := hC_x hs2 fa
                have hTa : tkS t N Ia J2 m := tkS_fr hT2 (fun c i hc => fa c i (by omega)) (fun _ => rfl)
                have e87 := c87 (A := A) (d := d + 2) (b := b) (h := h) (X := X) (I := Ia) (J := J2) (R := R) (n := n) (j := j + 4) hTa.1 (by omega) (by omega)
                have e88 := c88 (A := A) (d := d + 2) (b := b) (h := h) (X := X) (I := Ia) (J := J2) (R := R) (n := n) (j := j + 4) hTa.1 (by omega) (by omega)
                have tj := hTa.2.2.2.2 (j + 4) (by omega)
                rw [tj.2.2.2.1] at e87
                rw [tj.2.2.2.2] at e88
                obtain ⟨I3, J3, u, L3, e30, g1, g2', g3', g4', g5', g6', g7', g8'⟩ := cKeep (A := A) (d := d + 1) (b := b) (h := h) (X := X) (R := R) (n := n) (u := tkH t N (tpos t N (j + 4))) (v := tkD t N (tpos t N (j + 4))) hN hsa.1 (by omega)
                have hs3 : hC_ I3 J3 C (s.1, ls2) L3 := hC_nm hsa g1 g4' g6' g7'
                have hl3 : cLn I3 J3 (C + 1) L3 (nI u) (some (Yn t N (j + 4))) := ⟨u, g2', rfl, g3'⟩
                have hs4 := hC_ms hs3 hl3 (show a < ls2.length by omega) (show c < ls2.length by omega) h40
                have e5 : I3 (C + 5) s.1.length = nI a := by rw [g7' _ _ (by omega) (by omega), hIa, u2_k (by omega), u2_s]
                have e6 : I3 (C + 6) s.1.length = nI c := by rw [g7' _ _ (by omega) (by omega), hIa, u2_s]
                have eI : u2 (u2 I3 (C + 5) (s.1, ls2).1.length (nI a)) (C + 6) (s.1, ls2).1.length (nI c) = I3 := by
                  funext k i
                  unfold u2
                  by_cases q1 : k = C + 6 ∧ i = (s.1, ls2).1.length
                  · rw [if_pos q1, q1.1, q1.2]; exact e6.symm
                  · rw [if_neg q1]
                    by_cases q2 : k = C + 5 ∧ i = (s.1, ls2).1.length
                    · rw [if_pos q2, q2.1, q2.2]; exact e5.symm
                    · rw [if_neg q2]
                rw [eI] at hs4
                replace hs4 : hC_ (u2 (u2 I3 (C + 7) s.1.length (nI u)) C 6 (nI (s.1.length + 1))) J3 C (s.1 ++ [(a, c, Yn t N (j + 4))], ls2) L3 := hs4
                have i6 : I2 C 6 = nI s.1.length := hs2.2.1
                have i6n : ¬ nI s.1.length < nI 0 := by rw [nI_ltI (by omega) (by omega)]; omega
                have i6l : ¬ nI 40 ≤ nI s.1.length := nI_ge (by omega) (by omega)
                have i36 : I3 C 6 = nI s.1.length := hs3.2.1
                refine ⟨u2 (u2 I3 (C + 7) s.1.length (nI u)) C 6 (nI (s.1.length + 1)), J3, mI 1, L3, WAY _ ?_, ?_, fun k i hk => (g8' k i (by omega)).trans (FJ2 k i hk), ?_, by omega, Or.inr ⟨(s.1 ++ [(a, c, Yn t N (j + 4))], ls2), hms _ ?_, rfl, hs4, ?_, by simp⟩⟩
                · rw [hIa] at e87 e88 e30
                  simp (disch := omega) [r2_66, r2_67, r2_68, r2_69, r2_70, r2_73, r2_75, r2_82, r2_83, r2_84, r2_85, r2_86, r2_89, r2_91, r2_98, r2_99, r2_100, r2_101, r2_102, r2_105, r2_107, r2_114, r2_115, r2_118, r2_121, r2_122, r2_125, r2_127, r2_130, r2_131, r2_134, r2_135, r2_138, r2_139, r2_140, r2_141, r2_144, r2_145, r2_148, r2_150, r2_151, r2_152, r2_155, r2_156, r2_159, r2_160, r2_163, r2_164, r2_165, r2_166, r2_167, r2_170, r2_171, r2_172, r2_173, r2_174, r2_177, r2_180, r2_181, r2_182, r2_183, r2_186, r2_187, r2_188, r2_191, r2_192, qa3, qo3, gC0 hC, qa84, qo84, g3, vf0_1, tC0_1 hC, gC4 hC, pC4 hC, vf0_6, vf0_3, tC0_3 hC, gC5 hC, pC5 hC, vf0_4, tC0_4 hC, gC6 hC, pC6 hC, vf0_5, tC0_5 hC, gC7 hC, pC7 hC, vf0_0, tC0_0 hC, qa87, qo87, qa88, qo88, qa30, qo30, gN0 hN, pC0_6 hC, ty0_6, List.getElem?_cons_zero, List.getElem?_cons_succ, List.length_cons, List.length_nil, ag_nx, ag_dn, ag_no, ag_if, jbr1, jbr2, jc1, jc2, jnul, jld, jsto, jstoL, jst1, jst2, jkill, jinc, jbI, jbL, jbS, juI, jl2i, jcmp, jisR, jisI, jisL, jret, jretv, jfits, jdup, jdup2, jpop, jmm, jcat, Value.category, jinv, jrcv, jthr, jhd, jput, jget, jlen, jald, jast, jaast, jgI, jgL, jgB, jtab, jlku, jacp, vf20, vf21, vf22, vf23, vf24, u2_s, u2_k, u2_i, uc_s, uc_k, uc_c, u2_c, LI0, LI1, LI2, LI3, LI4, LI5, LI6, LI7, LI8, LI9, LI10, LI11, LI12, LI13, LI14, LI15, LI16, LI17, LI18, LI19, LI20, LI21, LI22, LI23, LI24, LI25, LI26, LI27, LI28, LI29, LI30, LI31, LI32, LI33, LI34, LI35, LI36, LI37, LI40, LI42, LI43, LI45, LI48, LI60, LI61, LI64, LI80, LI300, LI400, LI1000, LI2000, LI2001, LI2047, LI2048, LI100000, LI1000000, LI38, LI39, LI41, LI44, LI46, LI47, LI49, LI50, LI51, LI52, LI53, LI54, LI55, LI56, LI57, LI58, LI59, LI62, LI63, LI65, LI66, LI67, LI68, LI69, LI70, LI71, LI72, LI73, LI74, LI75, LI76, LI77, LI78, LI79, LI81, LI82, LI83, LI84, LI85, LI86, LI87, LI88, LI89, LI90, LI91, LI92, LI93, LI94, LI95, LI96, LI97, LI98, LI99, LI100, LI101, LI102, LI103, LI104, LI105, LI106, LI107, LI108, LI109, LI110, LI111, LI112, LI113, LI114, LI115, LI116, LI117, LI118, LI119, LI120, LI121, LI122, LI123, LI124, LI125, LI126, LI127, LI255, LI256, LI999, LI1001, LI1002, LI1600, LI4096, LI1000001, LI2042, LM, nI_clamp, nI_pos', nI_lt, nI_nlt, nI_le, nI_ge, nI_ne, nI_add, nI_sub, mI_lt, mI_le, mI_nlt, mI_nle, mI_ne, mI_ne', mI_nem, e84b, e84c, e84d, i6, i6n, i6l, h40, e87, e88, e30, i36]
                · intro k i h1 h2 h3
                  rw [u2_o _ _ (by omega), u2_o _ _ (by omega), g7' k i h2 (by omega), fa k i (by omega)]
                  exact F2 k i h1 h2 h3
                · rw [u2_o _ _ (by omega), u2_o _ _ (by omega)]; exact g1.1
                · rw [if_neg (fun z => z kj2), if_neg hoo, l2]
                  show (if ¬ KK t N (j + 3) = 58 then _ else _) = _
                  rw [if_neg (fun z => z k3), if_neg (fun z => z k4), if_neg (fun z => z k5)]
                · show L3 ≤ (s.1 ++ [(a, c, Yn t N (j + 4))]).length + ls2.length
                  simp
                  omega
              · have n5 : ¬ nI (KK t N (j + 5)) = nI 59 := nI_ne k5 (by have := ko (j + 5); omega) (by omega)
                refine FAIL (j + 5) (by omega) (by rw [if_neg (fun z => z k3), if_neg (fun z => z k4), if_pos k5]) ?_
                simp (disch := omega) [r2_66, r2_67, r2_68, r2_69, r2_70, r2_73, r2_75, r2_82, r2_83, r2_84, r2_85, r2_86, r2_89, r2_91, r2_98, r2_99, r2_100, r2_101, r2_102, r2_105, r2_107, r2_110, r2_111, r2_112, r2_113, qa84, qo84, g3, gC0 hC, List.getElem?_cons_zero, List.getElem?_cons_succ, List.length_cons, List.length_nil, ag_nx, ag_dn, ag_no, ag_if, jbr1, jbr2, jc1, jc2, jnul, jld, jsto, jstoL, jst1, jst2, jkill, jinc, jbI, jbL, jbS, juI, jl2i, jcmp, jisR, jisI, jisL, jret, jretv, jfits, jdup, jdup2, jpop, jmm, jcat, Value.category, jinv, jrcv, jthr, jhd, jput, jget, jlen, jald, jast, jaast, jgI, jgL, jgB, jtab, jlku, jacp, vf20, vf21, vf22, vf23, vf24, u2_s, u2_k, u2_i, uc_s, uc_k, uc_c, u2_c, LI0, LI1, LI2, LI3, LI4, LI5, LI6, LI7, LI8, LI9, LI10, LI11, LI12, LI13, LI14, LI15, LI16, LI17, LI18, LI19, LI20, LI21, LI22, LI23, LI24, LI25, LI26, LI27, LI28, LI29, LI30, LI31, LI32, LI33, LI34, LI35, LI36, LI37, LI40, LI42, LI43, LI45, LI48, LI60, LI61, LI64, LI80, LI300, LI400, LI1000, LI2000, LI2001, LI2047, LI2048, LI100000, LI1000000, LI38, LI39, LI41, LI44, LI46, LI47, LI49, LI50, LI51, LI52, LI53, LI54, LI55, LI56, LI57, LI58, LI59, LI62, LI63, LI65, LI66, LI67, LI68, LI69, LI70, LI71, LI72, LI73, LI74, LI75, LI76, LI77, LI78, LI79, LI81, LI82, LI83, LI84, LI85, LI86, LI87, LI88, LI89, LI90, LI91, LI92, LI93, LI94, LI95, LI96, LI97, LI98, LI99, LI100, LI101, LI102, LI103, LI104, LI105, LI106, LI107, LI108, LI109, LI110, LI111, LI112, LI113, LI114, LI115, LI116, LI117, LI118, LI119, LI120, LI121, LI122, LI123, LI124, LI125, LI126, LI127, LI255, LI256, LI999, LI1001, LI1002, LI1600, LI4096, LI1000001, LI2042, LM, nI_clamp, nI_pos', nI_lt, nI_nlt, nI_le, nI_ge, nI_ne, nI_add, nI_sub, mI_lt, mI_le, mI_nlt, mI_nle, mI_ne, mI_ne', mI_nem, e84b, e84c, e84d, n5]
            · have n4 : ¬ nI (KK t N (j + 4)) = nI 26 := nI_ne k4 (by have := ko (j + 4); omega) (by omega)
              refine FAIL (j + 4) (by omega) (by rw [if_neg (fun z => z k3), if_pos k4]) ?_
              simp (disch := omega) [r2_66, r2_67, r2_68, r2_69, r2_70, r2_73, r2_75, r2_82, r2_83, r2_84, r2_85, r2_86, r2_89, r2_91, r2_94, r2_95, r2_96, r2_97, qa84, qo84, g3, gC0 hC, List.getElem?_cons_zero, List.getElem?_cons_succ, List.length_cons, List.length_nil, ag_nx, ag_dn, ag_no, ag_if, jbr1, jbr2, jc1, jc2, jnul, jld, jsto, jstoL, jst1, jst2, jkill, jinc, jbI, jbL, jbS, juI, jl2i, jcmp, jisR, jisI, jisL, jret, jretv, jfits, jdup, jdup2, jpop, jmm, jcat, Value.category, jinv, jrcv, jthr, jhd, jput, jget, jlen, jald, jast, jaast, jgI, jgL, jgB, jtab, jlku, jacp, vf20, vf21, vf22, vf23, vf24, u2_s, u2_k, u2_i, uc_s, uc_k, uc_c, u2_c, LI0, LI1, LI2, LI3, LI4, LI5, LI6, LI7, LI8, LI9, LI10, LI11, LI12, LI13, LI14, LI15, LI16, LI17, LI18, LI19, LI20, LI21, LI22, LI23, LI24, LI25, LI26, LI27, LI28, LI29, LI30, LI31, LI32, LI33, LI34, LI35, LI36, LI37, LI40, LI42, LI43, LI45, LI48, LI60, LI61, LI64, LI80, LI300, LI400, LI1000, LI2000, LI2001, LI2047, LI2048, LI100000, LI1000000, LI38, LI39, LI41, LI44, LI46, LI47, LI49, LI50, LI51, LI52, LI53, LI54, LI55, LI56, LI57, LI58, LI59, LI62, LI63, LI65, LI66, LI67, LI68, LI69, LI70, LI71, LI72, LI73, LI74, LI75, LI76, LI77, LI78, LI79, LI81, LI82, LI83, LI84, LI85, LI86, LI87, LI88, LI89, LI90, LI91, LI92, LI93, LI94, LI95, LI96, LI97, LI98, LI99, LI100, LI101, LI102, LI103, LI104, LI105, LI106, LI107, LI108, LI109, LI110, LI111, LI112, LI113, LI114, LI115, LI116, LI117, LI118, LI119, LI120, LI121, LI122, LI123, LI124, LI125, LI126, LI127, LI255, LI256, LI999, LI1001, LI1002, LI1600, LI4096, LI1000001, LI2042, LM, nI_clamp, nI_pos', nI_lt, nI_nlt, nI_le, nI_ge, nI_ne, nI_add, nI_sub, mI_lt, mI_le, mI_nlt, mI_nle, mI_ne, mI_ne', mI_nem, e84b, e84c, n4]
          · have n3 : ¬ nI (KK t N (j + 3)) = nI 58 := nI_ne k3 (by have := ko (j + 3); omega) (by omega)
            refine FAIL (j + 3) (by omega) (by rw [if_pos k3]) ?_
            simp (disch := omega) [r2_66, r2_67, r2_68, r2_69, r2_70, r2_73, r2_75, r2_78, r2_79, r2_80, r2_81, qa84, qo84, g3, gC0 hC, List.getElem?_cons_zero, List.getElem?_cons_succ, List.length_cons, List.length_nil, ag_nx, ag_dn, ag_no, ag_if, jbr1, jbr2, jc1, jc2, jnul, jld, jsto, jstoL, jst1, jst2, jkill, jinc, jbI, jbL, jbS, juI, jl2i, jcmp, jisR, jisI, jisL, jret, jretv, jfits, jdup, jdup2, jpop, jmm, jcat, Value.category, jinv, jrcv, jthr, jhd, jput, jget, jlen, jald, jast, jaast, jgI, jgL, jgB, jtab, jlku, jacp, vf20, vf21, vf22, vf23, vf24, u2_s, u2_k, u2_i, uc_s, uc_k, uc_c, u2_c, LI0, LI1, LI2, LI3, LI4, LI5, LI6, LI7, LI8, LI9, LI10, LI11, LI12, LI13, LI14, LI15, LI16, LI17, LI18, LI19, LI20, LI21, LI22, LI23, LI24, LI25, LI26, LI27, LI28, LI29, LI30, LI31, LI32, LI33, LI34, LI35, LI36, LI37, LI40, LI42, LI43, LI45, LI48, LI60, LI61, LI64, LI80, LI300, LI400, LI1000, LI2000, LI2001, LI2047, LI2048, LI100000, LI1000000, LI38, LI39, LI41, LI44, LI46, LI47, LI49, LI50, LI51, LI52, LI53, LI54, LI55, LI56, LI57, LI58, LI59, LI62, LI63, LI65, LI66, LI67, LI68, LI69, LI70, LI71, LI72, LI73, LI74, LI75, LI76, LI77, LI78, LI79, LI81, LI82, LI83, LI84, LI85, LI86, LI87, LI88, LI89, LI90, LI91, LI92, LI93, LI94, LI95, LI96, LI97, LI98, LI99, LI100, LI101, LI102, LI103, LI104, LI105, LI106, LI107, LI108, LI109, LI110, LI111, LI112, LI113, LI114, LI115, LI116, LI117, LI118, LI119, LI120, LI121, LI122, LI123, LI124, LI125, LI126, LI127, LI255, LI256, LI999, LI1001, LI1002, LI1600, LI4096, LI1000001, LI2042, LM, nI_clamp, nI_pos', nI_lt, nI_nlt, nI_le, nI_ge, nI_ne, nI_add, nI_sub, mI_lt, mI_le, mI_nlt, mI_nle, mI_ne, mI_ne', mI_nem, e84b, n3]
    · have n1x : ¬ nI (KK t N (j + 1)) = nI 62 := nI_ne k1 (by have := ko (j + 1); omega) (by omega)
      refine ⟨I1, J1, nI (j + 1), L1, ?_, F1, fj1, n1, by omega, Or.inl ⟨j + 1, by omega, ?_, rfl⟩⟩
      · simp (disch := omega) [je2, r2_0, r2_1, r2_2, r2_3, r2_6, r2_7, r2_8, r2_13, r2_14, r2_15, r2_16, r2_17, r2_20, r2_22, r2_25, r2_26, r2_27, r2_28, qa3, qo3, qa84, qo84, g3, gC0 hC, List.getElem?_cons_zero, List.getElem?_cons_succ, List.length_cons, List.length_nil, ag_nx, ag_dn, ag_no, ag_if, jbr1, jbr2, jc1, jc2, jnul, jld, jsto, jstoL, jst1, jst2, jkill, jinc, jbI, jbL, jbS, juI, jl2i, jcmp, jisR, jisI, jisL, jret, jretv, jfits, jdup, jdup2, jpop, jmm, jcat, Value.category, jinv, jrcv, jthr, jhd, jput, jget, jlen, jald, jast, jaast, jgI, jgL, jgB, jtab, jlku, jacp, vf20, vf21, vf22, vf23, vf24, u2_s, u2_k, u2_i, uc_s, uc_k, uc_c, u2_c, LI0, LI1, LI2, LI3, LI4, LI5, LI6, LI7, LI8, LI9, LI10, LI11, LI12, LI13, LI14, LI15, LI16, LI17, LI18, LI19, LI20, LI21, LI22, LI23, LI24, LI25, LI26, LI27, LI28, LI29, LI30, LI31, LI32, LI33, LI34, LI35, LI36, LI37, LI40, LI42, LI43, LI45, LI48, LI60, LI61, LI64, LI80, LI300, LI400, LI1000, LI2000, LI2001, LI2047, LI2048, LI100000, LI1000000, LI38, LI39, LI41, LI44, LI46, LI47, LI49, LI50, LI51, LI52, LI53, LI54, LI55, LI56, LI57, LI58, LI59, LI62, LI63, LI65, LI66, LI67, LI68, LI69, LI70, LI71, LI72, LI73, LI74, LI75, LI76, LI77, LI78, LI79, LI81, LI82, LI83, LI84, LI85, LI86, LI87, LI88, LI89, LI90, LI91, LI92, LI93, LI94, LI95, LI96, LI97, LI98, LI99, LI100, LI101, LI102, LI103, LI104, LI105, LI106, LI107, LI108, LI109, LI110, LI111, LI112, LI113, LI114, LI115, LI116, LI117, LI118, LI119, LI120, LI121, LI122, LI123, LI124, LI125, LI126, LI127, LI255, LI256, LI999, LI1001, LI1002, LI1600, LI4096, LI1000001, LI2042, LM, nI_clamp, nI_pos', nI_lt, nI_nlt, nI_le, nI_ge, nI_ne, nI_add, nI_sub, mI_lt, mI_le, mI_nlt, mI_nle, mI_ne, mI_ne', mI_nem, e3, ha0, e84a, n1x]
      · unfold msS
        rw [if_neg (fun z => z kj), l1]
        show (if ¬ KK t N (j + 1) = 62 then Sum.inl (j + 1) else _) = _
        rw [if_pos k1]
end CHE
