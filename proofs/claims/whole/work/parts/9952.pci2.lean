/-! the class reads the head of a process: all of it -/
theorem pLs_le {K : Nat → Nat} {m : Nat} (hm : ∀ j, j ≤ m → K j ≠ 29 → j < m) : ∀ (r : Nat) (vs : List Nat) (j : Nat), j ≤ m → (pLs K r vs j).2 ≤ m := by
  intro r
  induction r with
  | zero => intro vs j h; exact h
  | succ r ih =>
    intro vs j h
    unfold pLs
    split
    · next e0 =>
      have h0 := hm j h (by rw [e0]; decide)
      split
      · next e1 =>
        have h1 := hm (j + 1) (by omega) (by rw [e1]; decide)
        split
        · next e2 =>
          have h2 := hm (j + 2) (by omega) (by rw [e2]; decide)
          split
          · next e3 =>
            have h3 := hm (j + 3) (by omega) (by rw [e3]; decide)
            split
            · next e4 =>
              have h4 := hm (j + 4) (by omega) (by rw [e4]; decide)
              exact ih _ _ (by omega)
            · show j + 4 ≤ m; omega
          · show j + 3 ≤ m; omega
        · show j + 2 ≤ m; omega
      · show j + 1 ≤ m; omega
    · exact h
section CHP
variable {A : Nat → Nat} {d b n P m p : Nat} {h : Nat → Option jC} {X : jXX} {J : Nat → Nat → Int64} {R : Nat → Nat → Nat} {K : Nat → Nat} {V : Nat → Int32}
theorem any_rng {β : Type} {g : Nat → Bool} {f : β → Bool} {l : List β} (h : ∀ i x, l[i]? = some x → g i = f x) : (List.range l.length).any g = l.any f := by
  rw [Bool.eq_iff_iff, List.any_eq_true, List.any_eq_true]
  constructor
  · rintro ⟨i, hi, hd⟩
    have hi := List.mem_range.mp hi
    refine ⟨l[i], List.getElem_mem hi, ?_⟩
    rw [← h i _ (List.getElem?_eq_getElem hi)]
    exact hd
  · rintro ⟨y, hy, hd⟩
    obtain ⟨i, hi⟩ := List.mem_iff_getElem?.mp hy
    refine ⟨i, List.mem_range.mpr (lt_some hi), ?_⟩
    rw [h i y hi]
    exact hd
theorem oS_O {F : List qPr} {C : List oT} {j : Nat} {I : Nat → Nat → Int32} (h : oS K V m P I F C j) : tkc K V m I := h.1
/-- what a part leaves -/
def oR2 (K : Nat → Nat) (V : Nat → Int32) (m P : Nat) (I I' : Nat → Nat → Int32) (v : Int32) (j0 : Nat) {β : Type} (r : hR β) (F : β → List qPr) (G : β → Prop) : Prop := (∃ j' C', r = (none, j', C') ∧ v = nI 0 ∧ oF P I I' j' ∧ j' ≤ m) ∨ ∃ x j' C', r = (some x, j', C') ∧ v = nI 1 ∧ j0 < j' ∧ oS K V m P I' (F x) C' j' ∧ fO P I I' ∧ G x
theorem seg_fr {V : Nat → Int32} {P p : Nat} {I I' : Nat → Nat → Int32} {l : List oT} (hf : ∀ c i, P + 5 ≤ c → c ≤ P + 8 → I' c i = I c i) (h : seg V P I p l) : seg V P I' p l := fun i x hx => by
  have := h i x hx
  unfold sg1 at this ⊢
  rw [hf _ _ (by omega) (by omega), hf _ _ (by omega) (by omega), hf _ _ (by omega) (by omega), hf _ _ (by omega) (by omega)]
  exact this
theorem cHdP (hk : kOK K m) (hP : isP P) (hR1 : R 56 1 = P) (hR2 : R 56 2 = P + 4) {I : Nat → Nat → Int32} {Q : List qPr} {C : List oT} {j : Nat} (hS : oS K V m P I Q C j) : ∃ I' v, jcall A jcode (d + 67) 43 [.ref (b + 56)] (jH h b X I J R n) = some (.inl (some (.int v)), jH h b X I' J R n) ∧ oR2 K V m P I I' v j (pHd K V (nPr Q) C j) (fun c => Q ++ [c]) (fun c => I' 56 7 = nI (nPr Q) ∧ c.2.2.2 = [] ∧ I' 56 4 = I 56 4) := by
  have hpp := isP_e hP
  have hk1 := hk.1
  obtain ⟨ht, hl, hsg, hcl, ha, hCj, hj, hB, h3, h5, hex, hno⟩ := hS
  unfold pHd
  by_cases k0 : K j = 1
  · have hj1 := hk.2.1 j hj (by rw [k0]; decide)
    rw [if_pos k0]
    have e0 := c39y (d := d + 65) (A := A) (b := b) (h := h) (X := X) (J := J) (R := R) (n := n) (I := I) hk ht ha hj k0
    have t1 : tkc K V m (u2 I 56 3 (nI (j + 1))) := tkc_u (by omega) ht
    by_cases k1 : K (j + 1) = 26
    · have hj2 := hk.2.1 (j + 1) (by omega) (by rw [k1]; decide)
      rw [if_pos k1]
      have e1 := c39y (d := d + 65) (A := A) (b := b) (h := h) (X := X) (J := J) (R := R) (n := n) (I := u2 I 56 3 (nI (j + 1))) hk t1 u2_s (by omega) k1
      obtain ⟨I2, hI2⟩ : ∃ I2, I2 = u2 (u2 I 56 3 (nI (j + 1))) 56 3 (nI (j + 1 + 1)) := ⟨_, rfl⟩
      rw [← hI2] at e1
      have t2 : tkc K V m I2 := by rw [hI2]; exact tkc_u (by omega) t1
      have a2 : I2 56 3 = nI (j + 2) := by rw [hI2, u2_s]
      have f2 : ∀ c i, ¬ (c = 56 ∧ i = 3) → I2 c i = I c i := fun c i b1 => by
        rw [hI2]
        simp only [u2_ap]; repeat (rw [if_neg (by omega)])
      have e40 := c40 (d := d + 65) (A := A) (b := b) (h := h) (X := X) (J := J) (R := R) (n := n) (I := I2) (j := j + 1) hk t2 a2 (by omega)
      have q3 : I2 P 3 = nI (min Q.length 6) := by rw [f2 _ _ (by omega)]; exact h3
      have q5 : I2 56 5 = exI (exF K (eqV V) Q) := by rw [f2 _ _ (by omega)]; exact h5
      have e44 := c44 (d := d + 64) (A := A) (b := b) (h := h) (X := X) (J := J) (R := R) (n := n) (I := I2) (a := j + 1) (x := V (j + 1)) hP hR1 a2 (by omega) q3 (by omega) q5 (fun x hx => by have := hex x hx; omega)
      have hmm : min (min Q.length 6) 5 = nPr Q := by unfold nPr; omega
      have hnp : nPr Q < 6 := by unfold nPr; omega
      rw [hmm] at e44
      have hex1 : exF K (eqV V) (Q ++ [(j + 1, [], (C.length, []), [])]) = (exF K (eqV V) Q).or (if 6 ≤ min Q.length 6 ∨ (List.range (min Q.length 6)).any (fun i => decide (I2 (P + 9) i = V (j + 1))) = true then some (j + 1) else none) := by
        rw [exF_new]
        cases hx : exF K (eqV V) Q with
        | some y => rfl
        | none =>
          have hm := (hno hx).2.2
          have hq6 := hm.1
          simp only [Option.none_or]
          unfold ckN
          rw [show min Q.length 6 = Q.length by omega, List.length_map, List.any_map]
          rw [any_rng (l := Q) (f := (fun x => eqV V x (j + 1)) ∘ fun c => c.1) (fun i c hc => by
            have := (hm.2.1 i c hc).1
            rw [f2 _ _ (by omega), this]
            rfl)]
      rw [← hex1] at e44
      obtain ⟨I3, hI3⟩ : ∃ I3, I3 = u2 (u2 (u2 (u2 I2 56 5 (exI (exF K (eqV V) (Q ++ [(j + 1, [], (C.length, []), [])])))) 56 7 (nI (nPr Q))) (P + 9) (nPr Q) (V (j + 1))) P 3 (nI (nPr Q + 1)) := ⟨_, rfl⟩
      rw [← hI3] at e44
      have t3 : tkc K V m I3 := by rw [hI3]; exact tkc_u (by omega) (tkc_u (by omega) (tkc_u (by omega) (tkc_u (by omega) t2)))
      have f3 : ∀ c i, ¬ (c = 56 ∧ (i = 3 ∨ i = 5 ∨ i = 7)) → ¬ (c = P + 9 ∧ i = nPr Q) → ¬ (c = P ∧ i = 3) → I3 c i = I c i := fun c i b1 b2 b3 => by
        rw [← f2 c i (by omega), hI3]
        simp only [u2_ap]; repeat (rw [if_neg (by omega)])
      have a3 : I3 56 3 = nI (j + 2) := by rw [hI3, u2_k (by omega), u2_k (by omega), u2_i (by omega), u2_i (by omega)]; exact a2
      have q37 : I3 56 7 = nI (nPr Q) := by rw [hI3, u2_k (by omega), u2_k (by omega), u2_s]
      have q35 : I3 56 5 = exI (exF K (eqV V) (Q ++ [(j + 1, [], (C.length, []), [])])) := by rw [hI3, u2_k (by omega), u2_k (by omega), u2_i (by omega), u2_s]
      have q39 : I3 (P + 9) (nPr Q) = V (j + 1) := by rw [hI3, u2_k (by omega), u2_s]
      have q33 : I3 P 3 = nI (nPr Q + 1) := by rw [hI3, u2_s]
      have fO3 : fO P I I3 := fun c i b1 b2 b3 => f3 c i (by omega) (by omega) (by omega)
      have hlt1 : ∀ x, exF K (eqV V) (Q ++ [(j + 1, [], (C.length, []), [])]) = some x → x < j + 2 := by
        intro x hx
        rw [hex1] at hx
        cases hy : exF K (eqV V) Q with
        | some y => rw [hy] at hx; simp at hx; have := hex y hy; omega
        | none =>
          rw [hy] at hx
          simp only [Option.none_or] at hx
          split at hx
          · cases hx; omega
          · cases hx
      have eA : jcall A jcode (d + 67) 43 [.ref (b + 56)] (jH h b X I J R n) = M43 A (d + 66) 27 [some (.ref (b + 56)), none] [] (jH h b X I3 J R n) := by
        simp (disch := omega) [je43, r43_0, r43_1, r43_2, r43_5, r43_8, r43_9, r43_11, r43_14, r43_17, r43_18, r43_19, r43_20, r43_21, r43_24, r43_28, r43_30, r43_33, r43_36, r43_37, r43_40, r43_43, r43_44, r43_46, r43_49, r43_52, r43_53, r43_55, r43_58, r43_61, r43_62, r43_63, r43_64, r43_65, r43_66, r43_69, r43_72, r43_73, r43_76, r43_77, r43_80, r43_81, r43_84, r43_87, r43_88, r43_89, r43_92, r43_95, r43_96, r43_97, r43_100, r43_103, r43_104, r43_105, r43_106, r43_109, r43_112, r43_113, r43_116, r43_117, r43_120, r43_123, r43_124, r43_125, r43_126, r43_129, qa39, qo39, g56, qa40, qo40, qa44, qo44, qa45, qo45, qa38, qo38, qa46, qo46, vf4_1, t56_1, gP0 hP, vf5_6, tP0_6 hP, gP11 hP, pP11 hP, vf4_7, vf4_2, t56_2, gP4 hP, vf1_4, qa53, qo53, List.getElem?_cons_zero, List.getElem?_cons_succ, List.length_cons, List.length_nil, ag_nx, ag_dn, ag_no, ag_if, jbr1, jbr2, jc1, jc2, jnul, jld, jsto, jstoL, jst1, jst2, jkill, jinc, jbI, jbL, jbS, juI, jl2i, jcmp, jisR, jisI, jisL, jret, jretv, jfits, jdup, jdup2, jpop, jmm, jcat, Value.category, jinv, jrcv, jthr, jhd, jput, jget, jlen, jald, jast, jaast, jgI, jgL, jgB, jtab, jlku, jacp, vf20, vf21, vf22, vf23, vf24, u2_s, u2_k, u2_i, uc_s, uc_k, uc_c, u2_c, LI0, LI1, LI2, LI3, LI4, LI5, LI6, LI7, LI8, LI9, LI10, LI11, LI12, LI13, LI14, LI15, LI16, LI17, LI18, LI19, LI20, LI21, LI22, LI23, LI24, LI25, LI26, LI27, LI28, LI29, LI30, LI31, LI32, LI33, LI34, LI35, LI36, LI37, LI40, LI42, LI43, LI45, LI48, LI60, LI61, LI64, LI80, LI300, LI400, LI1000, LI2000, LI2001, LI2047, LI2048, LI100000, LI1000000, LI38, LI39, LI41, LI44, LI46, LI47, LI49, LI50, LI51, LI52, LI53, LI54, LI55, LI56, LI57, LI58, LI59, LI62, LI63, LI65, LI66, LI67, LI68, LI69, LI70, LI71, LI72, LI73, LI74, LI75, LI76, LI77, LI78, LI79, LI81, LI82, LI83, LI84, LI85, LI86, LI87, LI88, LI89, LI90, LI91, LI92, LI93, LI94, LI95, LI96, LI97, LI98, LI99, LI100, LI101, LI102, LI103, LI104, LI105, LI106, LI107, LI108, LI109, LI110, LI111, LI112, LI113, LI114, LI115, LI116, LI117, LI118, LI119, LI120, LI121, LI122, LI123, LI124, LI125, LI126, LI127, LI255, LI256, LI999, LI1001, LI1002, LI1600, LI4096, LI1000001, LI2042, LM, nI_clamp, nI_pos', nI_lt, nI_nlt, nI_le, nI_ge, nI_ne, nI_add, nI_sub, mI_lt, mI_le, mI_nlt, mI_nle, mI_ne, mI_ne', mI_nem, e0, e1, e40, e44]
      rw [eA]
      by_cases k2 : K (j + 2) = 40
      · have hj3 := hk.2.1 (j + 2) (by omega) (by rw [k2]; decide)
        rw [if_pos k2]
        have e2 := c39y (d := d + 65) (A := A) (b := b) (h := h) (X := X) (J := J) (R := R) (n := n) (I := I3) hk t3 a3 (by omega) k2
        have t4 : tkc K V m (u2 I3 56 3 (nI (j + 2 + 1))) := tkc_u (by omega) t3
        have l4 : u2 I3 56 3 (nI (j + 2 + 1)) 3 6 = nI (m + 1) := by rw [u2_k (by omega), f3 _ _ (by omega) (by omega) (by omega)]; exact hl
        by_cases k3 : K (j + 3) = 27 ∧ V (j + 3) ≤ nI 3
        · have hj4 := hk.2.1 (j + 3) (by omega) (by rw [k3.1]; decide)
          rw [if_pos k3]
          have e3 := c45y (d := d + 64) (A := A) (b := b) (h := h) (X := X) (J := J) (R := R) (n := n) (I := u2 I3 56 3 (nI (j + 2 + 1))) hk hP hR1 t4 l4 u2_s (by omega) (by rw [u2_i (by omega)]; exact q37) hnp k3.1 k3.2
          obtain ⟨I5, hI5⟩ : ∃ I5, I5 = u2 (u2 (u2 I3 56 3 (nI (j + 2 + 1))) 56 3 (nI (j + 2 + 1 + 1))) (P + 10) (nPr Q) (V (j + 2 + 1)) := ⟨_, rfl⟩
          rw [← hI5] at e3
          have t5 : tkc K V m I5 := by rw [hI5]; exact tkc_u (by omega) (tkc_u (by omega) t4)
          have a5 : I5 56 3 = nI (j + 4) := by rw [hI5, u2_k (by omega), u2_s]
          by_cases k4 : K (j + 4) = 41
          · have hj5 := hk.2.1 (j + 4) (by omega) (by rw [k4]; decide)
            rw [if_pos k4]
            have e4 := c39y (d := d + 65) (A := A) (b := b) (h := h) (X := X) (J := J) (R := R) (n := n) (I := I5) hk t5 a5 (by omega) k4
            have t6 : tkc K V m (u2 I5 56 3 (nI (j + 4 + 1))) := tkc_u (by omega) t5
            by_cases k5 : K (j + 5) = 123
            · have hj6 := hk.2.1 (j + 5) (by omega) (by rw [k5]; decide)
              rw [if_pos k5]
              have e5 := c39y (d := d + 65) (A := A) (b := b) (h := h) (X := X) (J := J) (R := R) (n := n) (I := u2 I5 56 3 (nI (j + 4 + 1))) hk t6 u2_s (by omega) k5
              obtain ⟨I7, hI7⟩ : ∃ I7, I7 = u2 (u2 I5 56 3 (nI (j + 4 + 1))) 56 3 (nI (j + 4 + 1 + 1)) := ⟨_, rfl⟩
              rw [← hI7] at e5
              have f7 : ∀ c i, ¬ (c = 56 ∧ i = 3) → ¬ (c = P + 10 ∧ i = nPr Q) → I7 c i = I3 c i := fun c i b1 b2 => by
                rw [hI7, hI5]
                simp only [u2_ap]; repeat (rw [if_neg (by omega)])
              have t7 : tkc K V m I7 := by rw [hI7]; exact tkc_u (by omega) t6
              have a7 : I7 56 3 = nI (j + 6) := by rw [hI7, u2_s]
              have q710 : I7 (P + 10) (nPr Q) = V (j + 3) := by rw [hI7, u2_k (by omega), u2_k (by omega), hI5, u2_s]
              have q77 : I7 56 7 = nI (nPr Q) := by rw [f7 _ _ (by omega) (by omega)]; exact q37
              have eB : M43 A (d + 66) 27 [some (.ref (b + 56)), none] [] (jH h b X I3 J R n) = M43 A (d + 66) 65 [some (.ref (b + 56)), some (.int (nI 0))] [] (jH h b X I7 J R n) := by
                simp (disch := omega) [r43_0, r43_1, r43_2, r43_5, r43_8, r43_9, r43_11, r43_14, r43_17, r43_18, r43_19, r43_20, r43_21, r43_24, r43_27, r43_28, r43_30, r43_33, r43_36, r43_37, r43_40, r43_43, r43_44, r43_46, r43_49, r43_52, r43_53, r43_55, r43_58, r43_61, r43_62, r43_63, r43_64, r43_66, r43_69, r43_72, r43_73, r43_76, r43_77, r43_80, r43_81, r43_84, r43_87, r43_88, r43_89, r43_92, r43_95, r43_96, r43_97, r43_100, r43_103, r43_104, r43_105, r43_106, r43_109, r43_112, r43_113, r43_116, r43_117, r43_120, r43_123, r43_124, r43_125, r43_126, r43_129, qa39, qo39, g56, qa40, qo40, qa44, qo44, qa45, qo45, qa38, qo38, qa46, qo46, vf4_1, t56_1, gP0 hP, vf5_6, tP0_6 hP, gP11 hP, pP11 hP, vf4_7, vf4_2, t56_2, gP4 hP, vf1_4, qa53, qo53, List.getElem?_cons_zero, List.getElem?_cons_succ, List.length_cons, List.length_nil, ag_nx, ag_dn, ag_no, ag_if, jbr1, jbr2, jc1, jc2, jnul, jld, jsto, jstoL, jst1, jst2, jkill, jinc, jbI, jbL, jbS, juI, jl2i, jcmp, jisR, jisI, jisL, jret, jretv, jfits, jdup, jdup2, jpop, jmm, jcat, Value.category, jinv, jrcv, jthr, jhd, jput, jget, jlen, jald, jast, jaast, jgI, jgL, jgB, jtab, jlku, jacp, vf20, vf21, vf22, vf23, vf24, u2_s, u2_k, u2_i, uc_s, uc_k, uc_c, u2_c, LI0, LI1, LI2, LI3, LI4, LI5, LI6, LI7, LI8, LI9, LI10, LI11, LI12, LI13, LI14, LI15, LI16, LI17, LI18, LI19, LI20, LI21, LI22, LI23, LI24, LI25, LI26, LI27, LI28, LI29, LI30, LI31, LI32, LI33, LI34, LI35, LI36, LI37, LI40, LI42, LI43, LI45, LI48, LI60, LI61, LI64, LI80, LI300, LI400, LI1000, LI2000, LI2001, LI2047, LI2048, LI100000, LI1000000, LI38, LI39, LI41, LI44, LI46, LI47, LI49, LI50, LI51, LI52, LI53, LI54, LI55, LI56, LI57, LI58, LI59, LI62, LI63, LI65, LI66, LI67, LI68, LI69, LI70, LI71, LI72, LI73, LI74, LI75, LI76, LI77, LI78, LI79, LI81, LI82, LI83, LI84, LI85, LI86, LI87, LI88, LI89, LI90, LI91, LI92, LI93, LI94, LI95, LI96, LI97, LI98, LI99, LI100, LI101, LI102, LI103, LI104, LI105, LI106, LI107, LI108, LI109, LI110, LI111, LI112, LI113, LI114, LI115, LI116, LI117, LI118, LI119, LI120, LI121, LI122, LI123, LI124, LI125, LI126, LI127, LI255, LI256, LI999, LI1001, LI1002, LI1600, LI4096, LI1000001, LI2042, LM, nI_clamp, nI_pos', nI_lt, nI_nlt, nI_le, nI_ge, nI_ne, nI_add, nI_sub, mI_lt, mI_le, mI_nlt, mI_nle, mI_ne, mI_ne', mI_nem, e2, e3, e4, e5]
              rw [eB]
              have hlz : exF K (eqV V) (Q ++ [(j + 1, [], (C.length, []), [])]) = none → mL V P (nPr Q) I7 [] := by
                intro hx
                have hy : exF K (eqV V) Q = none := by
                  rw [hex1] at hx
                  cases hy : exF K (eqV V) Q with
                  | none => rfl
                  | some y => rw [hy] at hx; simp at hx
                have hm := (hno hy).2.2
                have hq5 : Q.length ≤ 5 := by
                  rw [hex1, hy] at hx
                  simp only [Option.none_or] at hx
                  have := hm.1
                  rcases Nat.lt_or_ge Q.length 6 with h6 | h6
                  · omega
                  · rw [if_pos (Or.inl (by omega))] at hx; cases hx
                have hqq : nPr Q = Q.length := by unfold nPr; omega
                refine ⟨?_, by simp, fun k v hv => by simp at hv⟩
                rw [f7 _ _ (by omega) (by omega), f3 _ _ (by omega) (by omega) (by omega), hqq]
                exact (hm.2.2 Q.length (Nat.le_refl _) (by omega)).1
              rcases c43l (d := d + 64) (A := A) (b := b) (h := h) (X := X) (J := J) (R := R) (n := n) hk hP hR1 (I0 := I7) (Q := Q) (a := j + 1) (sb := (C.length, [])) q77 hnp t7 2001 0 I7 [] (j + 6) rfl (by omega) fL_refl a7 (by omega) (by rw [f7 _ _ (by omega) (by omega)]; exact q35) (fun x hx => by have := hlt1 x hx; omega) (by
                  obtain ⟨k, hk6, hkv⟩ := hB.1 (nPr Q) hnp
                  exact ⟨k, hk6, by rw [f7 _ _ (by omega) (by omega), f3 _ _ (by omega) (by omega) (by omega)]; exact hkv⟩) hlz with ⟨I8, j8, b1, b2, b3⟩ | ⟨I8, vs, j8, c8, b1, f8, a8, hj68, hj8, x8, l8, k8, m8, b3⟩
              · rw [b1]
                refine ⟨I8, nI 0, b3, Or.inl ⟨j8, C, rfl, rfl, ⟨b2.1, fO_trans fO3 (fO_trans (fun c i z1 z2 z3 => f7 c i (by omega) (by omega)) b2.2)⟩, ?_⟩⟩
                have := pLs_le hk.2.1 2001 [] (j + 6) (by omega)
                rw [b1] at this
                exact this
              · rw [b1]
                simp only
                rw [show d + 64 + 2 = d + 66 from rfl] at b3
                rw [b3]
                have t8 : tkc K V m I8 := tkc_O hP (fL_O f8) t7
                have f83 : ∀ c i, ¬ (c = 56 ∧ (i = 3 ∨ i = 5)) → ¬ (c = P + 12 ∧ i = nPr Q) → ¬ ((c = P + 13 ∨ c = P + 14) ∧ nPr Q * 6 ≤ i ∧ i < nPr Q * 6 + 6) → ¬ (c = P + 10 ∧ i = nPr Q) → I8 c i = I3 c i := fun c i z1 z2 z3 z4 => (f8 c i z1 z2 z3).trans (f7 c i (by omega) z4)
                by_cases k9 : K j8 = 3
                · have hj9 := hk.2.1 j8 hj8 (by rw [k9]; decide)
                  rw [if_pos k9]
                  have e9 := c39y (d := d + 65) (A := A) (b := b) (h := h) (X := X) (J := J) (R := R) (n := n) (I := I8) hk t8 a8 hj8 k9
                  obtain ⟨I9, hI9⟩ : ∃ I9, I9 = u2 (u2 I8 56 3 (nI (j8 + 1))) (P + 11) (nPr Q) (nI C.length) := ⟨_, rfl⟩
                  have f9 : ∀ c i, ¬ (c = 56 ∧ i = 3) → ¬ (c = P + 11 ∧ i = nPr Q) → I9 c i = I8 c i := fun c i z1 z2 => by
                    rw [hI9]
                    simp only [u2_ap]; repeat (rw [if_neg (by omega)])
                  have t9 : tkc K V m I9 := by rw [hI9]; exact tkc_u (by omega) (tkc_u (by omega) t8)
                  have a9 : I9 56 3 = nI (j8 + 1) := by rw [hI9, u2_k (by omega), u2_s]
                  have q97 : I9 56 7 = nI (nPr Q) := by rw [f9 _ _ (by omega) (by omega), f83 _ _ (by omega) (by omega) (by omega) (by omega)]; exact q37
                  have q94 : I9 (P + 4) 4 = nI C.length := by rw [f9 _ _ (by omega) (by omega), f83 _ _ (by omega) (by omega) (by omega) (by omega), f3 _ _ (by omega) (by omega) (by omega)]; exact hcl
                  have q84 : I8 (P + 4) 4 = nI C.length := by rw [f83 _ _ (by omega) (by omega) (by omega) (by omega), f3 _ _ (by omega) (by omega) (by omega)]; exact hcl
                  have q87 : I8 56 7 = nI (nPr Q) := by rw [f83 _ _ (by omega) (by omega) (by omega) (by omega)]; exact q37
                  have q911 : I9 (P + 11) (nPr Q) = nI C.length := by rw [hI9, u2_s]
                  obtain ⟨I10, v10, e10, h10⟩ := cBody (A := A) (b := b) (h := h) (X := X) (J := J) (R := R) (n := n) (V := V) (pr := nPr Q) hk hP hR2 d I9 C.length (j8 + 1) ⟨t9, q97⟩ a9 (by omega) q94 (by omega)
                  have eC : M43 A (d + 66) 95 [some (.ref (b + 56)), some (.int (nI c8))] [] (jH h b X I8 J R n) = some (.inl (some (.int v10)), jH h b X I10 J R n) := by
                    rcases h10 with ⟨_, _, hv, _⟩ | ⟨_, _, _, hv, _⟩
                    · subst hv
                      simp (disch := omega) [r43_0, r43_1, r43_2, r43_5, r43_8, r43_9, r43_11, r43_14, r43_17, r43_18, r43_19, r43_20, r43_21, r43_24, r43_27, r43_28, r43_30, r43_33, r43_36, r43_37, r43_40, r43_43, r43_44, r43_46, r43_49, r43_52, r43_53, r43_55, r43_58, r43_61, r43_62, r43_63, r43_64, r43_65, r43_66, r43_69, r43_72, r43_73, r43_76, r43_77, r43_80, r43_81, r43_84, r43_87, r43_88, r43_89, r43_92, r43_95, r43_96, r43_97, r43_100, r43_103, r43_104, r43_105, r43_106, r43_109, r43_112, r43_113, r43_116, r43_117, r43_120, r43_123, r43_124, r43_125, r43_126, r43_129, qa39, qo39, g56, qa40, qo40, qa44, qo44, qa45, qo45, qa38, qo38, qa46, qo46, vf4_1, t56_1, gP0 hP, vf5_6, tP0_6 hP, gP11 hP, pP11 hP, vf4_7, vf4_2, t56_2, gP4 hP, vf1_4, qa53, qo53, List.getElem?_cons_zero, List.getElem?_cons_succ, List.length_cons, List.length_nil, ag_nx, ag_dn, ag_no, ag_if, jbr1, jbr2, jc1, jc2, jnul, jld, jsto, jstoL, jst1, jst2, jkill, jinc, jbI, jbL, jbS, juI, jl2i, jcmp, jisR, jisI, jisL, jret, jretv, jfits, jdup, jdup2, jpop, jmm, jcat, Value.category, jinv, jrcv, jthr, jhd, jput, jget, jlen, jald, jast, jaast, jgI, jgL, jgB, jtab, jlku, jacp, vf20, vf21, vf22, vf23, vf24, u2_s, u2_k, u2_i, uc_s, uc_k, uc_c, u2_c, LI0, LI1, LI2, LI3, LI4, LI5, LI6, LI7, LI8, LI9, LI10, LI11, LI12, LI13, LI14, LI15, LI16, LI17, LI18, LI19, LI20, LI21, LI22, LI23, LI24, LI25, LI26, LI27, LI28, LI29, LI30, LI31, LI32, LI33, LI34, LI35, LI36, LI37, LI40, LI42, LI43, LI45, LI48, LI60, LI61, LI64, LI80, LI300, LI400, LI1000, LI2000, LI2001, LI2047, LI2048, LI100000, LI1000000, LI38, LI39, LI41, LI44, LI46, LI47, LI49, LI50, LI51, LI52, LI53, LI54, LI55, LI56, LI57, LI58, LI59, LI62, LI63, LI65, LI66, LI67, LI68, LI69, LI70, LI71, LI72, LI73, LI74, LI75, LI76, LI77, LI78, LI79, LI81, LI82, LI83, LI84, LI85, LI86, LI87, LI88, LI89, LI90, LI91, LI92, LI93, LI94, LI95, LI96, LI97, LI98, LI99, LI100, LI101, LI102, LI103, LI104, LI105, LI106, LI107, LI108, LI109, LI110, LI111, LI112, LI113, LI114, LI115, LI116, LI117, LI118, LI119, LI120, LI121, LI122, LI123, LI124, LI125, LI126, LI127, LI255, LI256, LI999, LI1001, LI1002, LI1600, LI4096, LI1000001, LI2042, LM, nI_clamp, nI_pos', nI_lt, nI_nlt, nI_le, nI_ge, nI_ne, nI_add, nI_sub, mI_lt, mI_le, mI_nlt, mI_nle, mI_ne, mI_ne', mI_nem, e9, hR1, hR2, q87, q84, hnp, ← hI9, e10]
                    · subst hv
                      simp (disch := omega) [r43_0, r43_1, r43_2, r43_5, r43_8, r43_9, r43_11, r43_14, r43_17, r43_18, r43_19, r43_20, r43_21, r43_24, r43_27, r43_28, r43_30, r43_33, r43_36, r43_37, r43_40, r43_43, r43_44, r43_46, r43_49, r43_52, r43_53, r43_55, r43_58, r43_61, r43_62, r43_63, r43_64, r43_65, r43_66, r43_69, r43_72, r43_73, r43_76, r43_77, r43_80, r43_81, r43_84, r43_87, r43_88, r43_89, r43_92, r43_95, r43_96, r43_97, r43_100, r43_103, r43_104, r43_105, r43_106, r43_109, r43_112, r43_113, r43_116, r43_117, r43_120, r43_123, r43_124, r43_125, r43_126, r43_129, qa39, qo39, g56, qa40, qo40, qa44, qo44, qa45, qo45, qa38, qo38, qa46, qo46, vf4_1, t56_1, gP0 hP, vf5_6, tP0_6 hP, gP11 hP, pP11 hP, vf4_7, vf4_2, t56_2, gP4 hP, vf1_4, qa53, qo53, List.getElem?_cons_zero, List.getElem?_cons_succ, List.length_cons, List.length_nil, ag_nx, ag_dn, ag_no, ag_if, jbr1, jbr2, jc1, jc2, jnul, jld, jsto, jstoL, jst1, jst2, jkill, jinc, jbI, jbL, jbS, juI, jl2i, jcmp, jisR, jisI, jisL, jret, jretv, jfits, jdup, jdup2, jpop, jmm, jcat, Value.category, jinv, jrcv, jthr, jhd, jput, jget, jlen, jald, jast, jaast, jgI, jgL, jgB, jtab, jlku, jacp, vf20, vf21, vf22, vf23, vf24, u2_s, u2_k, u2_i, uc_s, uc_k, uc_c, u2_c, LI0, LI1, LI2, LI3, LI4, LI5, LI6, LI7, LI8, LI9, LI10, LI11, LI12, LI13, LI14, LI15, LI16, LI17, LI18, LI19, LI20, LI21, LI22, LI23, LI24, LI25, LI26, LI27, LI28, LI29, LI30, LI31, LI32, LI33, LI34, LI35, LI36, LI37, LI40, LI42, LI43, LI45, LI48, LI60, LI61, LI64, LI80, LI300, LI400, LI1000, LI2000, LI2001, LI2047, LI2048, LI100000, LI1000000, LI38, LI39, LI41, LI44, LI46, LI47, LI49, LI50, LI51, LI52, LI53, LI54, LI55, LI56, LI57, LI58, LI59, LI62, LI63, LI65, LI66, LI67, LI68, LI69, LI70, LI71, LI72, LI73, LI74, LI75, LI76, LI77, LI78, LI79, LI81, LI82, LI83, LI84, LI85, LI86, LI87, LI88, LI89, LI90, LI91, LI92, LI93, LI94, LI95, LI96, LI97, LI98, LI99, LI100, LI101, LI102, LI103, LI104, LI105, LI106, LI107, LI108, LI109, LI110, LI111, LI112, LI113, LI114, LI115, LI116, LI117, LI118, LI119, LI120, LI121, LI122, LI123, LI124, LI125, LI126, LI127, LI255, LI256, LI999, LI1001, LI1002, LI1600, LI4096, LI1000001, LI2042, LM, nI_clamp, nI_pos', nI_lt, nI_nlt, nI_le, nI_ge, nI_ne, nI_add, nI_sub, mI_lt, mI_le, mI_nlt, mI_nle, mI_ne, mI_ne', mI_nem, e9, hR1, hR2, q87, q84, hnp, ← hI9, e10]
                  have fO9 : fO P I I9 := fO_trans fO3 (fun c i z1 z2 z3 => (f9 c i (by omega) (by omega)).trans (f83 c i (by omega) (by omega) (by omega) (by omega)))
                  have o10 := bO_ok (pr := nPr Q) hk.2.1 (L := C.length) (j := j8 + 1) (by omega)
                  refine ⟨I10, v10, eC, ?_⟩
                  unfold bodyR
                  rcases h10 with ⟨j10, a10, rfl, h10⟩ | ⟨l10, j10, a10, rfl, h10⟩
                  · replace a10 : bO K (nPr Q) C.length (j8 + 1) = (none, j10) := a10
                    rw [a10] at o10 ⊢
                    exact Or.inl ⟨j10, C, rfl, rfl, ⟨h10.1, fO_trans fO9 (fO_E h10.2.1)⟩, o10.2.1⟩
                  · replace a10 : bO K (nPr Q) C.length (j8 + 1) = (some l10, j10) := a10
                    rw [a10] at o10 ⊢
                    obtain ⟨o1, o2, o3⟩ := o10
                    have o4 := (o3 l10 rfl).1
                    simp only at o1 o2 o4
                    obtain ⟨g1, g2, g3, g4⟩ := h10
                    have fA : ∀ c i, ¬ (c = 56 ∧ i = 3) → ¬ (P + 4 ≤ c ∧ c ≤ P + 8) → I10 c i = I9 c i := fun c i z1 z2 => g2 c i z1 (by omega) (by omega)
                    have hF : exF K (eqV V) (Q ++ [(j + 1, vs, (C.length, l10), [])]) = exF K (eqV V) (Q ++ [(j + 1, vs, (C.length, []), [])]) := exF_sb
                    refine Or.inr ⟨_, j10, _, rfl, rfl, by omega, ⟨tkc_f hP g2 t9, ?_, ?_, ?_, g1, by rw [List.length_append]; omega, o2, ?_, ?_, ?_, ?_, ?_⟩, fO_trans fO9 (fO_E g2), ?_, rfl, ?_⟩
                    · rw [fA _ _ (by omega) (by omega), f9 _ _ (by omega) (by omega), f83 _ _ (by omega) (by omega) (by omega) (by omega), f3 _ _ (by omega) (by omega) (by omega)]; exact hl
                    · refine seg_app ?_ (by rw [Nat.zero_add]; exact g4)
                      refine seg_f hP g2 (by omega) (seg_fr (I := I) (fun c i z1 z2 => ?_) hsg)
                      rw [f9 _ _ (by omega) (by omega), f83 _ _ (by omega) (by omega) (by omega) (by omega), f3 _ _ (by omega) (by omega) (by omega)]
                    · rw [g3, List.length_append]
                    · obtain ⟨B1, B2, B3⟩ := hB
                      refine ⟨fun p hp => ?_, fun p hp => ?_, fun q hq => ?_⟩
                      · by_cases hpq : p = nPr Q
                        · subst hpq
                          obtain ⟨k, z1, z2⟩ := k8
                          exact ⟨k, z1, by rw [fA _ _ (by omega) (by omega), f9 _ _ (by omega) (by omega)]; exact z2⟩
                        · obtain ⟨k, z1, z2⟩ := B1 p hp
                          exact ⟨k, z1, by rw [fA _ _ (by omega) (by omega), f9 _ _ (by omega) (by omega), f83 _ _ (by omega) (by omega) (by omega) (by omega), f3 _ _ (by omega) (by omega) (by omega)]; exact z2⟩
                      · obtain ⟨k, z1, z2⟩ := B2 p hp
                        exact ⟨k, z1, by rw [fA _ _ (by omega) (by omega), f9 _ _ (by omega) (by omega), f83 _ _ (by omega) (by omega) (by omega) (by omega), f3 _ _ (by omega) (by omega) (by omega)]; exact z2⟩
                      · obtain ⟨k, z1, z2⟩ := B3 q hq
                        exact ⟨k, z1, by rw [fA _ _ (by omega) (by omega), f9 _ _ (by omega) (by omega), f83 _ _ (by omega) (by omega) (by omega) (by omega), f3 _ _ (by omega) (by omega) (by omega)]; exact z2⟩
                    · rw [fA _ _ (by omega) (by omega), f9 _ _ (by omega) (by omega), f83 _ _ (by omega) (by omega) (by omega) (by omega), q33]
                      congr 1
                      rw [List.length_append]
                      unfold nPr
                      simp
                      omega
                    · rw [fA _ _ (by omega) (by omega), f9 _ _ (by omega) (by omega), x8]
                      exact congrArg exI hF.symm
                    · intro x hx
                      have := l8 x (hF.symm.trans hx)
                      omega
                    · intro hx
                      have hx2 : exF K (eqV V) (Q ++ [(j + 1, vs, (C.length, []), [])]) = none := hF.symm.trans hx
                      have hy : exF K (eqV V) Q = none := by
                        unfold exF xkP at hx2 ⊢
                        rw [scn_app, fs_app] at hx2
                        cases hy : fs (scn (fun seen c => [ckN (eqV V) 6 (seen.map (fun c => c.1)) c.1] ++ xkL (eqV V) c.2.1 ++ xkS K (eqV V) c.2.2.2) [] Q) with
                        | none => rfl
                        | some y => rw [hy] at hx2; simp at hx2
                      obtain ⟨hu, hul, hm⟩ := hno hy
                      have hq5 : Q.length ≤ 5 := by
                        have h6 := hm.1
                        rcases Nat.lt_or_ge Q.length 6 with h7 | h7
                        · omega
                        · unfold exF xkP at hx2
                          rw [scn_app, List.append_assoc, fs_app, fs_app, fs_1] at hx2
                          unfold ckN at hx2
                          rw [if_pos (Or.inl (by simp; omega))] at hx2
                          cases hz : fs (scn (fun seen c => [ckN (eqV V) 6 (seen.map (fun c => c.1)) c.1] ++ xkL (eqV V) c.2.1 ++ xkS K (eqV V) c.2.2.2) [] Q) with
                          | none => unfold ckN at hz; rw [hz] at hx2; simp at hx2
                          | some y => unfold ckN at hz; rw [hz] at hx2; simp at hx2
                      have hqq : nPr Q = Q.length := by unfold nPr; omega
                      have hml := m8 hx2
                      rw [unF_nil]
                      refine ⟨?_, fun x hx => by have := hul x hx; omega, ?_, ?_, ?_⟩
                      · rw [fA _ _ (by omega) (by omega), f9 _ _ (by omega) (by omega), f83 _ _ (by omega) (by omega) (by omega) (by omega), f3 _ _ (by omega) (by omega) (by omega)]; exact hu
                      · rw [List.length_append]; simp; omega
                      · intro p c hc
                        rcases Nat.lt_or_ge p Q.length with hpl | hpl
                        · rw [List.getElem?_append_left hpl] at hc
                          refine mP_fr (I := I) (fun z i b1 b2 b3 => ?_) (hm.2.1 p c hc)
                          rw [fA _ _ (by omega) (by omega)]
                          unfold pix at b3
                          split at b3
                          · rw [f9 _ _ (by omega) (by omega), f83 _ _ (by omega) (by omega) (by omega) (by omega), f3 _ _ (by omega) (by omega) (by omega)]
                          · split at b3
                            · rw [f9 _ _ (by omega) (by omega), f83 _ _ (by omega) (by omega) (by omega) (by omega), f3 _ _ (by omega) (by omega) (by omega)]
                            · split at b3
                              · rw [f9 _ _ (by omega) (by omega), f83 _ _ (by omega) (by omega) (by omega) (by omega), f3 _ _ (by omega) (by omega) (by omega)]
                              · rw [f9 _ _ (by omega) (by omega), f83 _ _ (by omega) (by omega) (by omega) (by omega), f3 _ _ (by omega) (by omega) (by omega)]
                        · rw [List.getElem?_append_right hpl] at hc
                          have hp0 := lt_some hc
                          simp at hp0
                          have hpe : p = Q.length := by omega
                          rw [show p - Q.length = 0 by omega] at hc
                          simp at hc
                          subst hc
                          rw [hpe]
                          rw [hqq] at q39 q710 q911 hml
                          have hz := hm.2.2 Q.length (Nat.le_refl _) (by omega)
                          refine ⟨?_, ?_, ?_, mL_fr (I := I8) ?_ ?_ hml, ?_, by simp, fun k s hs => by simp at hs, fun k z1 z2 => ?_⟩
                          · rw [fA _ _ (by omega) (by omega), f9 _ _ (by omega) (by omega), f83 _ _ (by omega) (by omega) (by omega) (by omega)]; exact q39
                          · rw [fA _ _ (by omega) (by omega), f9 _ _ (by omega) (by omega), f8 _ _ (by omega) (by omega) (by omega)]; exact q710
                          · rw [fA _ _ (by omega) (by omega)]; exact q911
                          · rw [fA _ _ (by omega) (by omega), f9 _ _ (by omega) (by omega)]
                          · intro c i z1 z2
                            rw [fA _ _ (by omega) (by omega), f9 _ _ (by omega) (by omega)]
                          · rw [fA _ _ (by omega) (by omega), f9 _ _ (by omega) (by omega), f83 _ _ (by omega) (by omega) (by omega) (by omega), f3 _ _ (by omega) (by omega) (by omega)]; exact hz.2.1
                          · rw [fA _ _ (by omega) (by omega), f9 _ _ (by omega) (by omega), f83 _ _ (by omega) (by omega) (by omega) (by omega), f3 _ _ (by omega) (by omega) (by omega)]; exact hz.2.2 k z2
                      · intro p z1 z2
                        rw [List.length_append] at z1
                        simp at z1
                        have hz := hm.2.2 p (by omega) z2
                        refine ⟨?_, ?_, fun k hk => ?_⟩
                        · rw [fA _ _ (by omega) (by omega), f9 _ _ (by omega) (by omega), f83 _ _ (by omega) (by omega) (by omega) (by omega), f3 _ _ (by omega) (by omega) (by omega)]; exact hz.1
                        · rw [fA _ _ (by omega) (by omega), f9 _ _ (by omega) (by omega), f83 _ _ (by omega) (by omega) (by omega) (by omega), f3 _ _ (by omega) (by omega) (by omega)]; exact hz.2.1
                        · rw [fA _ _ (by omega) (by omega), f9 _ _ (by omega) (by omega), f83 _ _ (by omega) (by omega) (by omega) (by omega), f3 _ _ (by omega) (by omega) (by omega)]; exact hz.2.2 k hk
                    · rw [fA _ _ (by omega) (by omega)]; exact q97
                    · rw [fA _ _ (by omega) (by omega), f9 _ _ (by omega) (by omega), f83 _ _ (by omega) (by omega) (by omega) (by omega), f3 _ _ (by omega) (by omega) (by omega)]
                · rw [if_neg k9]
                  have e9 := c39n (d := d + 65) (A := A) (b := b) (h := h) (X := X) (J := J) (R := R) (n := n) (I := I8) (k := 3) hk t8 a8 hj8 (by omega) k9
                  refine ⟨I8, nI 0, ?_, Or.inl ⟨j8, C, rfl, rfl, ⟨a8, fO_trans fO3 (fun c i z1 z2 z3 => f83 c i (by omega) (by omega) (by omega) (by omega))⟩, hj8⟩⟩
                  simp (disch := omega) [r43_0, r43_1, r43_2, r43_5, r43_8, r43_9, r43_11, r43_14, r43_17, r43_18, r43_19, r43_20, r43_21, r43_24, r43_27, r43_28, r43_30, r43_33, r43_36, r43_37, r43_40, r43_43, r43_44, r43_46, r43_49, r43_52, r43_53, r43_55, r43_58, r43_61, r43_62, r43_63, r43_64, r43_65, r43_66, r43_69, r43_72, r43_73, r43_76, r43_77, r43_80, r43_81, r43_84, r43_87, r43_88, r43_89, r43_92, r43_95, r43_96, r43_97, r43_100, r43_103, r43_104, r43_105, r43_106, r43_109, r43_112, r43_113, r43_116, r43_117, r43_120, r43_123, r43_124, r43_125, r43_126, r43_129, qa39, qo39, g56, qa40, qo40, qa44, qo44, qa45, qo45, qa38, qo38, qa46, qo46, vf4_1, t56_1, gP0 hP, vf5_6, tP0_6 hP, gP11 hP, pP11 hP, vf4_7, vf4_2, t56_2, gP4 hP, vf1_4, qa53, qo53, List.getElem?_cons_zero, List.getElem?_cons_succ, List.length_cons, List.length_nil, ag_nx, ag_dn, ag_no, ag_if, jbr1, jbr2, jc1, jc2, jnul, jld, jsto, jstoL, jst1, jst2, jkill, jinc, jbI, jbL, jbS, juI, jl2i, jcmp, jisR, jisI, jisL, jret, jretv, jfits, jdup, jdup2, jpop, jmm, jcat, Value.category, jinv, jrcv, jthr, jhd, jput, jget, jlen, jald, jast, jaast, jgI, jgL, jgB, jtab, jlku, jacp, vf20, vf21, vf22, vf23, vf24, u2_s, u2_k, u2_i, uc_s, uc_k, uc_c, u2_c, LI0, LI1, LI2, LI3, LI4, LI5, LI6, LI7, LI8, LI9, LI10, LI11, LI12, LI13, LI14, LI15, LI16, LI17, LI18, LI19, LI20, LI21, LI22, LI23, LI24, LI25, LI26, LI27, LI28, LI29, LI30, LI31, LI32, LI33, LI34, LI35, LI36, LI37, LI40, LI42, LI43, LI45, LI48, LI60, LI61, LI64, LI80, LI300, LI400, LI1000, LI2000, LI2001, LI2047, LI2048, LI100000, LI1000000, LI38, LI39, LI41, LI44, LI46, LI47, LI49, LI50, LI51, LI52, LI53, LI54, LI55, LI56, LI57, LI58, LI59, LI62, LI63, LI65, LI66, LI67, LI68, LI69, LI70, LI71, LI72, LI73, LI74, LI75, LI76, LI77, LI78, LI79, LI81, LI82, LI83, LI84, LI85, LI86, LI87, LI88, LI89, LI90, LI91, LI92, LI93, LI94, LI95, LI96, LI97, LI98, LI99, LI100, LI101, LI102, LI103, LI104, LI105, LI106, LI107, LI108, LI109, LI110, LI111, LI112, LI113, LI114, LI115, LI116, LI117, LI118, LI119, LI120, LI121, LI122, LI123, LI124, LI125, LI126, LI127, LI255, LI256, LI999, LI1001, LI1002, LI1600, LI4096, LI1000001, LI2042, LM, nI_clamp, nI_pos', nI_lt, nI_nlt, nI_le, nI_ge, nI_ne, nI_add, nI_sub, mI_lt, mI_le, mI_nlt, mI_nle, mI_ne, mI_ne', mI_nem, e9]
            · rw [if_neg k5]
              have e5 := c39n (d := d + 65) (A := A) (b := b) (h := h) (X := X) (J := J) (R := R) (n := n) (I := u2 I5 56 3 (nI (j + 4 + 1))) (k := 123) hk t6 u2_s (by omega) (by omega) k5
              refine ⟨u2 I5 56 3 (nI (j + 4 + 1)), nI 0, ?_, Or.inl ⟨j + 5, C, rfl, rfl, ⟨u2_s, fO_trans fO3 (fun c i z1 z2 z3 => ?_)⟩, by omega⟩⟩
              · simp (disch := omega) [r43_0, r43_1, r43_2, r43_5, r43_8, r43_9, r43_11, r43_14, r43_17, r43_18, r43_19, r43_20, r43_21, r43_24, r43_27, r43_28, r43_30, r43_33, r43_36, r43_37, r43_40, r43_43, r43_44, r43_46, r43_49, r43_52, r43_53, r43_55, r43_58, r43_61, r43_62, r43_63, r43_64, r43_65, r43_66, r43_69, r43_72, r43_73, r43_76, r43_77, r43_80, r43_81, r43_84, r43_87, r43_88, r43_89, r43_92, r43_95, r43_96, r43_97, r43_100, r43_103, r43_104, r43_105, r43_106, r43_109, r43_112, r43_113, r43_116, r43_117, r43_120, r43_123, r43_124, r43_125, r43_126, r43_129, qa39, qo39, g56, qa40, qo40, qa44, qo44, qa45, qo45, qa38, qo38, qa46, qo46, vf4_1, t56_1, gP0 hP, vf5_6, tP0_6 hP, gP11 hP, pP11 hP, vf4_7, vf4_2, t56_2, gP4 hP, vf1_4, qa53, qo53, List.getElem?_cons_zero, List.getElem?_cons_succ, List.length_cons, List.length_nil, ag_nx, ag_dn, ag_no, ag_if, jbr1, jbr2, jc1, jc2, jnul, jld, jsto, jstoL, jst1, jst2, jkill, jinc, jbI, jbL, jbS, juI, jl2i, jcmp, jisR, jisI, jisL, jret, jretv, jfits, jdup, jdup2, jpop, jmm, jcat, Value.category, jinv, jrcv, jthr, jhd, jput, jget, jlen, jald, jast, jaast, jgI, jgL, jgB, jtab, jlku, jacp, vf20, vf21, vf22, vf23, vf24, u2_s, u2_k, u2_i, uc_s, uc_k, uc_c, u2_c, LI0, LI1, LI2, LI3, LI4, LI5, LI6, LI7, LI8, LI9, LI10, LI11, LI12, LI13, LI14, LI15, LI16, LI17, LI18, LI19, LI20, LI21, LI22, LI23, LI24, LI25, LI26, LI27, LI28, LI29, LI30, LI31, LI32, LI33, LI34, LI35, LI36, LI37, LI40, LI42, LI43, LI45, LI48, LI60, LI61, LI64, LI80, LI300, LI400, LI1000, LI2000, LI2001, LI2047, LI2048, LI100000, LI1000000, LI38, LI39, LI41, LI44, LI46, LI47, LI49, LI50, LI51, LI52, LI53, LI54, LI55, LI56, LI57, LI58, LI59, LI62, LI63, LI65, LI66, LI67, LI68, LI69, LI70, LI71, LI72, LI73, LI74, LI75, LI76, LI77, LI78, LI79, LI81, LI82, LI83, LI84, LI85, LI86, LI87, LI88, LI89, LI90, LI91, LI92, LI93, LI94, LI95, LI96, LI97, LI98, LI99, LI100, LI101, LI102, LI103, LI104, LI105, LI106, LI107, LI108, LI109, LI110, LI111, LI112, LI113, LI114, LI115, LI116, LI117, LI118, LI119, LI120, LI121, LI122, LI123, LI124, LI125, LI126, LI127, LI255, LI256, LI999, LI1001, LI1002, LI1600, LI4096, LI1000001, LI2042, LM, nI_clamp, nI_pos', nI_lt, nI_nlt, nI_le, nI_ge, nI_ne, nI_add, nI_sub, mI_lt, mI_le, mI_nlt, mI_nle, mI_ne, mI_ne', mI_nem, e2, e3, e4, e5]
              · rw [hI5]
                simp only [u2_ap]; repeat (rw [if_neg (by omega)])
          · rw [if_neg k4]
            have e4 := c39n (d := d + 65) (A := A) (b := b) (h := h) (X := X) (J := J) (R := R) (n := n) (I := I5) (k := 41) hk t5 a5 (by omega) (by omega) k4
            refine ⟨I5, nI 0, ?_, Or.inl ⟨j + 4, C, rfl, rfl, ⟨a5, fO_trans fO3 (fun c i z1 z2 z3 => ?_)⟩, by omega⟩⟩
            · simp (disch := omega) [r43_0, r43_1, r43_2, r43_5, r43_8, r43_9, r43_11, r43_14, r43_17, r43_18, r43_19, r43_20, r43_21, r43_24, r43_27, r43_28, r43_30, r43_33, r43_36, r43_37, r43_40, r43_43, r43_44, r43_46, r43_49, r43_52, r43_53, r43_55, r43_58, r43_61, r43_62, r43_63, r43_64, r43_65, r43_66, r43_69, r43_72, r43_73, r43_76, r43_77, r43_80, r43_81, r43_84, r43_87, r43_88, r43_89, r43_92, r43_95, r43_96, r43_97, r43_100, r43_103, r43_104, r43_105, r43_106, r43_109, r43_112, r43_113, r43_116, r43_117, r43_120, r43_123, r43_124, r43_125, r43_126, r43_129, qa39, qo39, g56, qa40, qo40, qa44, qo44, qa45, qo45, qa38, qo38, qa46, qo46, vf4_1, t56_1, gP0 hP, vf5_6, tP0_6 hP, gP11 hP, pP11 hP, vf4_7, vf4_2, t56_2, gP4 hP, vf1_4, qa53, qo53, List.getElem?_cons_zero, List.getElem?_cons_succ, List.length_cons, List.length_nil, ag_nx, ag_dn, ag_no, ag_if, jbr1, jbr2, jc1, jc2, jnul, jld, jsto, jstoL, jst1, jst2, jkill, jinc, jbI, jbL, jbS, juI, jl2i, jcmp, jisR, jisI, jisL, jret, jretv, jfits, jdup, jdup2, jpop, jmm, jcat, Value.category, jinv, jrcv, jthr, jhd, jput, jget, jlen, jald, jast, jaast, jgI, jgL, jgB, jtab, jlku, jacp, vf20, vf21, vf22, vf23, vf24, u2_s, u2_k, u2_i, uc_s, uc_k, uc_c, u2_c, LI0, LI1, LI2, LI3, LI4, LI5, LI6, LI7, LI8, LI9, LI10, LI11, LI12, LI13, LI14, LI15, LI16, LI17, LI18, LI19, LI20, LI21, LI22, LI23, LI24, LI25, LI26, LI27, LI28, LI29, LI30, LI31, LI32, LI33, LI34, LI35, LI36, LI37, LI40, LI42, LI43, LI45, LI48, LI60, LI61, LI64, LI80, LI300, LI400, LI1000, LI2000, LI2001, LI2047, LI2048, LI100000, LI1000000, LI38, LI39, LI41, LI44, LI46, LI47, LI49, LI50, LI51, LI52, LI53, LI54, LI55, LI56, LI57, LI58, LI59, LI62, LI63, LI65, LI66, LI67, LI68, LI69, LI70, LI71, LI72, LI73, LI74, LI75, LI76, LI77, LI78, LI79, LI81, LI82, LI83, LI84, LI85, LI86, LI87, LI88, LI89, LI90, LI91, LI92, LI93, LI94, LI95, LI96, LI97, LI98, LI99, LI100, LI101, LI102, LI103, LI104, LI105, LI106, LI107, LI108, LI109, LI110, LI111, LI112, LI113, LI114, LI115, LI116, LI117, LI118, LI119, LI120, LI121, LI122, LI123, LI124, LI125, LI126, LI127, LI255, LI256, LI999, LI1001, LI1002, LI1600, LI4096, LI1000001, LI2042, LM, nI_clamp, nI_pos', nI_lt, nI_nlt, nI_le, nI_ge, nI_ne, nI_add, nI_sub, mI_lt, mI_le, mI_nlt, mI_nle, mI_ne, mI_ne', mI_nem, e2, e3, e4]
            · rw [hI5]
              simp only [u2_ap]; repeat (rw [if_neg (by omega)])
        · rw [if_neg k3]
          have e3 := c45n (d := d + 64) (A := A) (b := b) (h := h) (X := X) (J := J) (R := R) (n := n) (I := u2 I3 56 3 (nI (j + 2 + 1))) hk hP t4 l4 u2_s (by omega) k3
          refine ⟨u2 I3 56 3 (nI (j + 2 + 1)), nI 0, ?_, Or.inl ⟨j + 3, C, rfl, rfl, ⟨u2_s, fO_trans fO3 (fun c i z1 z2 z3 => ?_)⟩, by omega⟩⟩
          · simp (disch := omega) [r43_0, r43_1, r43_2, r43_5, r43_8, r43_9, r43_11, r43_14, r43_17, r43_18, r43_19, r43_20, r43_21, r43_24, r43_27, r43_28, r43_30, r43_33, r43_36, r43_37, r43_40, r43_43, r43_44, r43_46, r43_49, r43_52, r43_53, r43_55, r43_58, r43_61, r43_62, r43_63, r43_64, r43_65, r43_66, r43_69, r43_72, r43_73, r43_76, r43_77, r43_80, r43_81, r43_84, r43_87, r43_88, r43_89, r43_92, r43_95, r43_96, r43_97, r43_100, r43_103, r43_104, r43_105, r43_106, r43_109, r43_112, r43_113, r43_116, r43_117, r43_120, r43_123, r43_124, r43_125, r43_126, r43_129, qa39, qo39, g56, qa40, qo40, qa44, qo44, qa45, qo45, qa38, qo38, qa46, qo46, vf4_1, t56_1, gP0 hP, vf5_6, tP0_6 hP, gP11 hP, pP11 hP, vf4_7, vf4_2, t56_2, gP4 hP, vf1_4, qa53, qo53, List.getElem?_cons_zero, List.getElem?_cons_succ, List.length_cons, List.length_nil, ag_nx, ag_dn, ag_no, ag_if, jbr1, jbr2, jc1, jc2, jnul, jld, jsto, jstoL, jst1, jst2, jkill, jinc, jbI, jbL, jbS, juI, jl2i, jcmp, jisR, jisI, jisL, jret, jretv, jfits, jdup, jdup2, jpop, jmm, jcat, Value.category, jinv, jrcv, jthr, jhd, jput, jget, jlen, jald, jast, jaast, jgI, jgL, jgB, jtab, jlku, jacp, vf20, vf21, vf22, vf23, vf24, u2_s, u2_k, u2_i, uc_s, uc_k, uc_c, u2_c, LI0, LI1, LI2, LI3, LI4, LI5, LI6, LI7, LI8, LI9, LI10, LI11, LI12, LI13, LI14, LI15, LI16, LI17, LI18, LI19, LI20, LI21, LI22, LI23, LI24, LI25, LI26, LI27, LI28, LI29, LI30, LI31, LI32, LI33, LI34, LI35, LI36, LI37, LI40, LI42, LI43, LI45, LI48, LI60, LI61, LI64, LI80, LI300, LI400, LI1000, LI2000, LI2001, LI2047, LI2048, LI100000, LI1000000, LI38, LI39, LI41, LI44, LI46, LI47, LI49, LI50, LI51, LI52, LI53, LI54, LI55, LI56, LI57, LI58, LI59, LI62, LI63, LI65, LI66, LI67, LI68, LI69, LI70, LI71, LI72, LI73, LI74, LI75, LI76, LI77, LI78, LI79, LI81, LI82, LI83, LI84, LI85, LI86, LI87, LI88, LI89, LI90, LI91, LI92, LI93, LI94, LI95, LI96, LI97, LI98, LI99, LI100, LI101, LI102, LI103, LI104, LI105, LI106, LI107, LI108, LI109, LI110, LI111, LI112, LI113, LI114, LI115, LI116, LI117, LI118, LI119, LI120, LI121, LI122, LI123, LI124, LI125, LI126, LI127, LI255, LI256, LI999, LI1001, LI1002, LI1600, LI4096, LI1000001, LI2042, LM, nI_clamp, nI_pos', nI_lt, nI_nlt, nI_le, nI_ge, nI_ne, nI_add, nI_sub, mI_lt, mI_le, mI_nlt, mI_nle, mI_ne, mI_ne', mI_nem, e2, e3]
          · simp only [u2_ap]; repeat (rw [if_neg (by omega)])
      · rw [if_neg k2]
        have e2 := c39n (d := d + 65) (A := A) (b := b) (h := h) (X := X) (J := J) (R := R) (n := n) (I := I3) (k := 40) hk t3 a3 (by omega) (by omega) k2
        refine ⟨I3, nI 0, ?_, Or.inl ⟨j + 2, C, rfl, rfl, ⟨a3, fO3⟩, by omega⟩⟩
        simp (disch := omega) [r43_0, r43_1, r43_2, r43_5, r43_8, r43_9, r43_11, r43_14, r43_17, r43_18, r43_19, r43_20, r43_21, r43_24, r43_27, r43_28, r43_30, r43_33, r43_36, r43_37, r43_40, r43_43, r43_44, r43_46, r43_49, r43_52, r43_53, r43_55, r43_58, r43_61, r43_62, r43_63, r43_64, r43_65, r43_66, r43_69, r43_72, r43_73, r43_76, r43_77, r43_80, r43_81, r43_84, r43_87, r43_88, r43_89, r43_92, r43_95, r43_96, r43_97, r43_100, r43_103, r43_104, r43_105, r43_106, r43_109, r43_112, r43_113, r43_116, r43_117, r43_120, r43_123, r43_124, r43_125, r43_126, r43_129, qa39, qo39, g56, qa40, qo40, qa44, qo44, qa45, qo45, qa38, qo38, qa46, qo46, vf4_1, t56_1, gP0 hP, vf5_6, tP0_6 hP, gP11 hP, pP11 hP, vf4_7, vf4_2, t56_2, gP4 hP, vf1_4, qa53, qo53, List.getElem?_cons_zero, List.getElem?_cons_succ, List.length_cons, List.length_nil, ag_nx, ag_dn, ag_no, ag_if, jbr1, jbr2, jc1, jc2, jnul, jld, jsto, jstoL, jst1, jst2, jkill, jinc, jbI, jbL, jbS, juI, jl2i, jcmp, jisR, jisI, jisL, jret, jretv, jfits, jdup, jdup2, jpop, jmm, jcat, Value.category, jinv, jrcv, jthr, jhd, jput, jget, jlen, jald, jast, jaast, jgI, jgL, jgB, jtab, jlku, jacp, vf20, vf21, vf22, vf23, vf24, u2_s, u2_k, u2_i, uc_s, uc_k, uc_c, u2_c, LI0, LI1, LI2, LI3, LI4, LI5, LI6, LI7, LI8, LI9, LI10, LI11, LI12, LI13, LI14, LI15, LI16, LI17, LI18, LI19, LI20, LI21, LI22, LI23, LI24, LI25, LI26, LI27, LI28, LI29, LI30, LI31, LI32, LI33, LI34, LI35, LI36, LI37, LI40, LI42, LI43, LI45, LI48, LI60, LI61, LI64, LI80, LI300, LI400, LI1000, LI2000, LI2001, LI2047, LI2048, LI100000, LI1000000, LI38, LI39, LI41, LI44, LI46, LI47, LI49, LI50, LI51, LI52, LI53, LI54, LI55, LI56, LI57, LI58, LI59, LI62, LI63, LI65, LI66, LI67, LI68, LI69, LI70, LI71, LI72, LI73, LI74, LI75, LI76, LI77, LI78, LI79, LI81, LI82, LI83, LI84, LI85, LI86, LI87, LI88, LI89, LI90, LI91, LI92, LI93, LI94, LI95, LI96, LI97, LI98, LI99, LI100, LI101, LI102, LI103, LI104, LI105, LI106, LI107, LI108, LI109, LI110, LI111, LI112, LI113, LI114, LI115, LI116, LI117, LI118, LI119, LI120, LI121, LI122, LI123, LI124, LI125, LI126, LI127, LI255, LI256, LI999, LI1001, LI1002, LI1600, LI4096, LI1000001, LI2042, LM, nI_clamp, nI_pos', nI_lt, nI_nlt, nI_le, nI_ge, nI_ne, nI_add, nI_sub, mI_lt, mI_le, mI_nlt, mI_nle, mI_ne, mI_ne', mI_nem, e2]
    · rw [if_neg k1]
      have e1 := c39n (d := d + 65) (A := A) (b := b) (h := h) (X := X) (J := J) (R := R) (n := n) (I := u2 I 56 3 (nI (j + 1))) (k := 26) hk t1 u2_s (by omega) (by omega) k1
      refine ⟨u2 I 56 3 (nI (j + 1)), nI 0, ?_, Or.inl ⟨j + 1, C, rfl, rfl, ⟨u2_s, fO_u (Or.inl rfl)⟩, by omega⟩⟩
      simp (disch := omega) [je43, r43_0, r43_1, r43_2, r43_5, r43_8, r43_9, r43_11, r43_14, r43_17, r43_18, r43_19, r43_20, r43_21, r43_24, r43_27, r43_28, r43_30, r43_33, r43_36, r43_37, r43_40, r43_43, r43_44, r43_46, r43_49, r43_52, r43_53, r43_55, r43_58, r43_61, r43_62, r43_63, r43_64, r43_65, r43_66, r43_69, r43_72, r43_73, r43_76, r43_77, r43_80, r43_81, r43_84, r43_87, r43_88, r43_89, r43_92, r43_95, r43_96, r43_97, r43_100, r43_103, r43_104, r43_105, r43_106, r43_109, r43_112, r43_113, r43_116, r43_117, r43_120, r43_123, r43_124, r43_125, r43_126, r43_129, qa39, qo39, g56, qa40, qo40, qa44, qo44, qa45, qo45, qa38, qo38, qa46, qo46, vf4_1, t56_1, gP0 hP, vf5_6, tP0_6 hP, gP11 hP, pP11 hP, vf4_7, vf4_2, t56_2, gP4 hP, vf1_4, qa53, qo53, List.getElem?_cons_zero, List.getElem?_cons_succ, List.length_cons, List.length_nil, ag_nx, ag_dn, ag_no, ag_if, jbr1, jbr2, jc1, jc2, jnul, jld, jsto, jstoL, jst1, jst2, jkill, jinc, jbI, jbL, jbS, juI, jl2i, jcmp, jisR, jisI, jisL, jret, jretv, jfits, jdup, jdup2, jpop, jmm, jcat, Value.category, jinv, jrcv, jthr, jhd, jput, jget, jlen, jald, jast, jaast, jgI, jgL, jgB, jtab, jlku, jacp, vf20, vf21, vf22, vf23, vf24, u2_s, u2_k, u2_i, uc_s, uc_k, uc_c, u2_c, LI0, LI1, LI2, LI3, LI4, LI5, LI6, LI7, LI8, LI9, LI10, LI11, LI12, LI13, LI14, LI15, LI16, LI17, LI18, LI19, LI20, LI21, LI22, LI23, LI24, LI25, LI26, LI27, LI28, LI29, LI30, LI31, LI32, LI33, LI34, LI35, LI36, LI37, LI40, LI42, LI43, LI45, LI48, LI60, LI61, LI64, LI80, LI300, LI400, LI1000, LI2000, LI2001, LI2047, LI2048, LI100000, LI1000000, LI38, LI39, LI41, LI44, LI46, LI47, LI49, LI50, LI51, LI52, LI53, LI54, LI55, LI56, LI57, LI58, LI59, LI62, LI63, LI65, LI66, LI67, LI68, LI69, LI70, LI71, LI72, LI73, LI74, LI75, LI76, LI77, LI78, LI79, LI81, LI82, LI83, LI84, LI85, LI86, LI87, LI88, LI89, LI90, LI91, LI92, LI93, LI94, LI95, LI96, LI97, LI98, LI99, LI100, LI101, LI102, LI103, LI104, LI105, LI106, LI107, LI108, LI109, LI110, LI111, LI112, LI113, LI114, LI115, LI116, LI117, LI118, LI119, LI120, LI121, LI122, LI123, LI124, LI125, LI126, LI127, LI255, LI256, LI999, LI1001, LI1002, LI1600, LI4096, LI1000001, LI2042, LM, nI_clamp, nI_pos', nI_lt, nI_nlt, nI_le, nI_ge, nI_ne, nI_add, nI_sub, mI_lt, mI_le, mI_nlt, mI_nle, mI_ne, mI_ne', mI_nem, e0, e1]
  · rw [if_neg k0]
    have e0 := c39n (d := d + 65) (A := A) (b := b) (h := h) (X := X) (J := J) (R := R) (n := n) (I := I) (k := 1) hk ht ha hj (by omega) k0
    refine ⟨I, nI 0, ?_, Or.inl ⟨j, C, rfl, rfl, ⟨ha, fO_refl⟩, hj⟩⟩
    simp (disch := omega) [je43, r43_0, r43_1, r43_2, r43_5, r43_8, r43_9, r43_11, r43_14, r43_17, r43_18, r43_19, r43_20, r43_21, r43_24, r43_27, r43_28, r43_30, r43_33, r43_36, r43_37, r43_40, r43_43, r43_44, r43_46, r43_49, r43_52, r43_53, r43_55, r43_58, r43_61, r43_62, r43_63, r43_64, r43_65, r43_66, r43_69, r43_72, r43_73, r43_76, r43_77, r43_80, r43_81, r43_84, r43_87, r43_88, r43_89, r43_92, r43_95, r43_96, r43_97, r43_100, r43_103, r43_104, r43_105, r43_106, r43_109, r43_112, r43_113, r43_116, r43_117, r43_120, r43_123, r43_124, r43_125, r43_126, r43_129, qa39, qo39, g56, qa40, qo40, qa44, qo44, qa45, qo45, qa38, qo38, qa46, qo46, vf4_1, t56_1, gP0 hP, vf5_6, tP0_6 hP, gP11 hP, pP11 hP, vf4_7, vf4_2, t56_2, gP4 hP, vf1_4, qa53, qo53, List.getElem?_cons_zero, List.getElem?_cons_succ, List.length_cons, List.length_nil, ag_nx, ag_dn, ag_no, ag_if, jbr1, jbr2, jc1, jc2, jnul, jld, jsto, jstoL, jst1, jst2, jkill, jinc, jbI, jbL, jbS, juI, jl2i, jcmp, jisR, jisI, jisL, jret, jretv, jfits, jdup, jdup2, jpop, jmm, jcat, Value.category, jinv, jrcv, jthr, jhd, jput, jget, jlen, jald, jast, jaast, jgI, jgL, jgB, jtab, jlku, jacp, vf20, vf21, vf22, vf23, vf24, u2_s, u2_k, u2_i, uc_s, uc_k, uc_c, u2_c, LI0, LI1, LI2, LI3, LI4, LI5, LI6, LI7, LI8, LI9, LI10, LI11, LI12, LI13, LI14, LI15, LI16, LI17, LI18, LI19, LI20, LI21, LI22, LI23, LI24, LI25, LI26, LI27, LI28, LI29, LI30, LI31, LI32, LI33, LI34, LI35, LI36, LI37, LI40, LI42, LI43, LI45, LI48, LI60, LI61, LI64, LI80, LI300, LI400, LI1000, LI2000, LI2001, LI2047, LI2048, LI100000, LI1000000, LI38, LI39, LI41, LI44, LI46, LI47, LI49, LI50, LI51, LI52, LI53, LI54, LI55, LI56, LI57, LI58, LI59, LI62, LI63, LI65, LI66, LI67, LI68, LI69, LI70, LI71, LI72, LI73, LI74, LI75, LI76, LI77, LI78, LI79, LI81, LI82, LI83, LI84, LI85, LI86, LI87, LI88, LI89, LI90, LI91, LI92, LI93, LI94, LI95, LI96, LI97, LI98, LI99, LI100, LI101, LI102, LI103, LI104, LI105, LI106, LI107, LI108, LI109, LI110, LI111, LI112, LI113, LI114, LI115, LI116, LI117, LI118, LI119, LI120, LI121, LI122, LI123, LI124, LI125, LI126, LI127, LI255, LI256, LI999, LI1001, LI1002, LI1600, LI4096, LI1000001, LI2042, LM, nI_clamp, nI_pos', nI_lt, nI_nlt, nI_le, nI_ge, nI_ne, nI_add, nI_sub, mI_lt, mI_le, mI_nlt, mI_nle, mI_ne, mI_ne', mI_nem, e0]
end CHP
