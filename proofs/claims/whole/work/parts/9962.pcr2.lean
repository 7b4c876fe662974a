/-! the class reads a text -/
theorem kdF_r {x : Int64} : ∀ (r k : Nat), kdF x r k = 26 ∨ (k ≤ kdF x r k ∧ kdF x r k < k + r) := by
  intro r
  induction r with
  | zero => intro k; exact Or.inl rfl
  | succ r ih =>
    intro k
    unfold kdF
    split
    · exact Or.inr ⟨Nat.le_refl _, by omega⟩
    · rcases ih (k + 1) with h | h
      · exact Or.inl h
      · exact Or.inr ⟨by omega, by omega⟩
theorem kd_r {x : Int64} : 1 ≤ kd x ∧ kd x ≤ 26 := by
  unfold kd
  rcases kdF_r (x := x) 25 1 with h | h
  · rw [h]; omega
  · omega
theorem okK_r {k : Nat} (h : 1 ≤ k ∧ k ≤ 30) : okK k := by
  unfold okK
  rcases (show k = 1 ∨ k = 2 ∨ k = 3 ∨ k = 4 ∨ k = 5 ∨ k = 6 ∨ k = 7 ∨ k = 8 ∨ k = 9 ∨ k = 10 ∨ k = 11 ∨ k = 12 ∨ k = 13 ∨ k = 14 ∨ k = 15 ∨ k = 16 ∨ k = 17 ∨ k = 18 ∨ k = 19 ∨ k = 20 ∨ k = 21 ∨ k = 22 ∨ k = 23 ∨ k = 24 ∨ k = 25 ∨ k = 26 ∨ k = 27 ∨ k = 28 ∨ k = 29 ∨ k = 30 by omega) with h | h | h | h | h | h | h | h | h | h | h | h | h | h | h | h | h | h | h | h | h | h | h | h | h | h | h | h | h | h <;> rw [h] <;> decide
theorem tkK_k {t : Nat → Int32} {N q : Nat} : ∃ k, okK k ∧ tkK t N q = nI k := by
  unfold tkK
  split
  · exact ⟨29, by unfold okK; decide, rfl⟩
  split
  · split
    · exact ⟨28, by unfold okK; decide, rfl⟩
    · split
      · exact ⟨_, okK_r (by have := kd_r (x := hdF (fr t q) (nmN t N q - q)); omega), rfl⟩
      · exact ⟨26, by unfold okK; decide, rfl⟩
  split
  · split
    · exact ⟨28, by unfold okK; decide, rfl⟩
    · exact ⟨27, by unfold okK; decide, rfl⟩
  split
  · next h =>
    split
    · exact ⟨30, by unfold okK; decide, rfl⟩
    · rcases isSgn_e h with e | e | e | e | e | e | e | e | e | e | e | e | e <;> rw [e] <;> exact ⟨_, by unfold okK; decide, rfl⟩
  · exact ⟨28, by unfold okK; decide, rfl⟩
theorem okK_lt {k : Nat} (h : okK k) : k < 128 := by
  have : ∀ k ∈ ([1, 2, 3, 4, 5, 6, 7, 8, 9, 10, 11, 12, 13, 14, 15, 16, 17, 18, 19, 20, 21, 22, 23, 24, 25, 26, 27, 28, 29, 30, 123, 125, 40, 41, 59, 44, 61, 60, 43, 45, 42, 62, 58] : List Nat), k < 128 := by decide
  exact this k h
/-- the kind of token j -/
def KK (t : Nat → Int32) (N j : Nat) : Nat := ix (tkK t N (tpos t N j))
theorem KK_e {t : Nat → Int32} {N j : Nat} : okK (KK t N j) ∧ tkK t N (tpos t N j) = nI (KK t N j) := by
  obtain ⟨k, h1, h2⟩ := tkK_k (t := t) (N := N) (q := tpos t N j)
  have := okK_lt h1
  have e : KK t N j = k := by
    unfold KK
    rw [h2]
    exact nI_clamp (by omega)
  rw [e]
  exact ⟨h1, h2⟩
theorem tkK_29 {t : Nat → Int32} {N q : Nat} : tkK t N q = nI 29 ↔ N ≤ q := by
  constructor
  · intro h
    rcases Nat.lt_or_ge q N with hq | hq
    · exfalso
      unfold tkK at h
      rw [if_neg (by omega)] at h
      split at h
      · split at h
        · exact absurd h (nI_ne (by decide) (by decide) (by decide))
        · split at h
          · exact absurd h (nI_ne (by have := kd_r (x := hdF (fr t q) (nmN t N q - q)); omega) (by have := kd_r (x := hdF (fr t q) (nmN t N q - q)); omega) (by decide))
          · exact absurd h (nI_ne (by decide) (by decide) (by decide))
      split at h
      · split at h
        · exact absurd h (nI_ne (by decide) (by decide) (by decide))
        · exact absurd h (nI_ne (by decide) (by decide) (by decide))
      split at h
      · next hs =>
        split at h
        · exact absurd h (nI_ne (by decide) (by decide) (by decide))
        · rcases isSgn_e hs with e | e | e | e | e | e | e | e | e | e | e | e | e <;> rw [e] at h <;> exact absurd h (nI_ne (by decide) (by decide) (by decide))
      · exact absurd h (nI_ne (by decide) (by decide) (by decide))
    · exact hq
  · intro h
    unfold tkK
    rw [if_pos h]
theorem KK_29 {t : Nat → Int32} {N j : Nat} : KK t N j = 29 ↔ N ≤ tpos t N j := by
  rw [← tkK_29 (t := t), KK_e.2]
  have := okK_lt (KK_e (t := t) (N := N) (j := j)).1
  constructor
  · intro h; rw [h]
  · intro h
    rw [nI_eq (by omega) (by omega)] at h
    exact h
theorem KK_ok {t : Nat → Int32} {N m : Nat} (hN : N ≤ 2000) (hm : m ≤ N) (hfin : tpos t N m = N) : kOK (KK t N) m := by
  refine ⟨by omega, fun j hj hK => ?_, fun j => okK_lt KK_e.1⟩
  rcases Nat.lt_or_ge j m with h | h
  · exact h
  · exfalso
    have : j = m := by omega
    subst this
    exact hK (KK_29.mpr (by omega))
def c00 : qPr := (0, [], (0, []), [])
def s00 : qSt := (0, [])
theorem fold_lt {E : Nat → Nat → Bool} {F : List qPr} {b : Nat} : ∀ (C : List oT) (u : Option Nat), (∀ x, x ∈ C → x.2.2.2 < b) → (∀ x, u = some x → x < b) → ∀ x, C.foldl (fun u x => mnO u (ukO E F x)) u = some x → x < b := by
  intro C
  induction C with
  | nil => intro u _ hu x hx; exact hu x hx
  | cons y ys ih =>
    intro u hC hu x hx
    refine ih _ (fun z hz => hC z (List.mem_cons_of_mem _ hz)) ?_ x hx
    intro z hz
    replace hz : mnO u (ukO E F y) = some z := hz
    have hk : ∀ z, ukO E F y = some z → z < b := by
      intro z hz
      unfold ukO at hz
      split at hz
      · cases hz; exact hC y List.mem_cons_self
      · cases hz
    cases hu' : u with
    | none => rw [hu'] at hz; exact hk z hz
    | some w =>
      have h1 := hu w hu'
      rw [hu'] at hz
      cases hk' : ukO E F y with
      | none => rw [hk'] at hz; cases hz; exact h1
      | some v =>
        have h2 := hk v hk'
        rw [hk'] at hz
        simp only [mnO] at hz
        cases hz
        omega
section CRD
variable {A : Nat → Nat} {d b n P m p : Nat} {h : Nat → Option jC} {X : jXX} {J : Nat → Nat → Int64} {R : Nat → Nat → Nat} {K : Nat → Nat} {V : Nat → Int32}
theorem cRead (hP : isP P) {I : Nat → Nat → Int32} {t : Nat → Int32} {N L : Nat} (hN : N ≤ 2000) (hT : tkS t N I J m) (hL : cNm I J (P + 1) L) : ∃ I' J' L' v, jcall A jcode (d + 70) 34 [.ref (b + 56), .ref (b + P)] (jH h b X I J R n) = some (.inl (some (.int v)), jH h b X I' J' (u2 (u2 R 56 1 P) 56 2 (P + 4)) n) ∧ cNm I' J' (P + 1) L' ∧ 2 * L' ≤ N + 1 ∧ I' P 1 = nI L' ∧ (∀ i, i ≤ m → tk6 t N (tpos t N i) I' J' (P + 1) L' i) ∧ (∀ c i, c ≠ 7 → c ≠ 56 → ¬ (P ≤ c ∧ c ≤ P + 22) → I' c i = I c i) ∧ (∀ c i, c ≠ P + 2 → J' c i = J c i) ∧
    ((∃ j C, pG (KK t N) (I' 7) 2001 0 0 [] [] c00 s00 = (none, j, C) ∧ j ≤ m ∧ v = nI (tpos t N j)) ∨
     ∃ F j C, pG (KK t N) (I' 7) 2001 0 0 [] [] c00 s00 = (some F, j, C) ∧ FV (KK t N) m C F ∧ CV (KK t N) m C F.length ∧
      ((∃ e, exF (KK t N) (eqV (I' 7)) F = some e ∧ e ≤ m ∧ v = nI (tpos t N e)) ∨
       (exF (KK t N) (eqV (I' 7)) F = none ∧ ∃ u, C.foldl (fun u x => mnO u (ukO (eqV (I' 7)) F x)) (unF (eqV (I' 7)) F) = some u ∧ u ≤ m ∧ v = nI (tpos t N u)) ∨
       (exF (KK t N) (eqV (I' 7)) F = none ∧ C.foldl (fun u x => mnO u (ukO (eqV (I' 7)) F x)) (unF (eqV (I' 7)) F) = none ∧ v = mI 1 ∧ mS (KK t N) (I' 7) P I' F ∧ lkS (I' 7) P F C I' C.length ∧ I' P 3 = nI F.length ∧ I' (P + 4) 4 = nI C.length ∧ C.length ≤ 2000))) := by
  have hpp := isP_e hP
  obtain ⟨R', hR'⟩ : ∃ R', R' = u2 (u2 R 56 1 P) 56 2 (P + 4) := ⟨_, rfl⟩
  have r1 : R' 56 1 = P := by rw [hR', u2_i (by omega), u2_s]
  have r2 : R' 56 2 = P + 4 := by rw [hR', u2_s]
  have hmN := hT.2.1
  have hfin := hT.2.2.1
  have hk : kOK (KK t N) m := KK_ok hN hmN hfin
  obtain ⟨I1, J1, L1, e35, a1, a2, a3, a4, a5, a6, a7, a8, a9, a10, a11, a12, a13, a14, a15⟩ := c35 (d := d + 65) (A := A) (b := b) (h := h) (X := X) (R := R) (n := n) (P := P) hP hN hT hL
  rw [← hR'] at e35 ⊢
  obtain ⟨V, hV⟩ : ∃ V, V = I1 7 := ⟨_, rfl⟩
  have ht : tkc (KK t N) V m I1 := fun i hi => by
    have := a4 i hi
    refine ⟨this.1.trans KK_e.2, by rw [hV]⟩
  have hS0 : oS (KK t N) V m P I1 [] [] 0 := by
    refine ⟨ht, a5, seg_nil, a10, a6, Nat.le_refl _, by omega, ⟨fun p hp => ⟨0, by omega, (a12 p hp).1⟩, fun p hp => ⟨0, by omega, (a12 p hp).2⟩, fun q hq => ⟨0, by omega, a13 q hq⟩⟩, a11, a8, (fun x hx => by cases hx), fun _ => ⟨a9, (fun x hx => by cases hx), by simp, (fun p c hc => by simp at hc), fun p _ hp => ⟨(a12 p hp).1, (a12 p hp).2, fun k hk => a13 _ (by omega)⟩⟩⟩
  have hM0 : oM (KK t N) V m P I1 0 0 [] [] c00 s00 := ⟨hS0, by omega, a7, fun z => by omega, fun z => by omega⟩
  have eA : jcall A jcode (d + 70) 34 [.ref (b + 56), .ref (b + P)] (jH h b X I J R n) = M34 A (d + 69) 9 [some (.ref (b + 56)), some (.ref (b + P)), some (.int (nI 1)), some (.int (nI 0))] [] (jH h b X I1 J1 R' n) := by
    simp (disch := omega) [je34, r34_0, r34_1, r34_2, r34_5, r34_6, r34_7, r34_8, qa35, qo35, g56, List.getElem?_cons_zero, List.getElem?_cons_succ, List.length_cons, List.length_nil, ag_nx, ag_dn, ag_no, ag_if, jbr1, jbr2, jc1, jc2, jnul, jld, jsto, jstoL, jst1, jst2, jkill, jinc, jbI, jbL, jbS, juI, jl2i, jcmp, jisR, jisI, jisL, jret, jretv, jfits, jdup, jdup2, jpop, jmm, jcat, Value.category, jinv, jrcv, jthr, jhd, jput, jget, jlen, jald, jast, jaast, jgI, jgL, jgB, jtab, jlku, jacp, vf20, vf21, vf22, vf23, vf24, u2_s, u2_k, u2_i, uc_s, uc_k, uc_c, u2_c, LI0, LI1, LI2, LI3, LI4, LI5, LI6, LI7, LI8, LI9, LI10, LI11, LI12, LI13, LI14, LI15, LI16, LI17, LI18, LI19, LI20, LI21, LI22, LI23, LI24, LI25, LI26, LI27, LI28, LI29, LI30, LI31, LI32, LI33, LI34, LI35, LI36, LI37, LI40, LI42, LI43, LI45, LI48, LI60, LI61, LI64, LI80, LI300, LI400, LI1000, LI2000, LI2001, LI2047, LI2048, LI100000, LI1000000, LI38, LI39, LI41, LI44, LI46, LI47, LI49, LI50, LI51, LI52, LI53, LI54, LI55, LI56, LI57, LI58, LI59, LI62, LI63, LI65, LI66, LI67, LI68, LI69, LI70, LI71, LI72, LI73, LI74, LI75, LI76, LI77, LI78, LI79, LI81, LI82, LI83, LI84, LI85, LI86, LI87, LI88, LI89, LI90, LI91, LI92, LI93, LI94, LI95, LI96, LI97, LI98, LI99, LI100, LI101, LI102, LI103, LI104, LI105, LI106, LI107, LI108, LI109, LI110, LI111, LI112, LI113, LI114, LI115, LI116, LI117, LI118, LI119, LI120, LI121, LI122, LI123, LI124, LI125, LI126, LI127, LI255, LI256, LI999, LI1001, LI1002, LI1600, LI4096, LI1000001, LI2042, LM, nI_clamp, nI_pos', nI_lt, nI_nlt, nI_le, nI_ge, nI_ne, nI_add, nI_sub, mI_lt, mI_le, mI_nlt, mI_nle, mI_ne, mI_ne', mI_nem, e35]
  rw [eA]
  obtain ⟨I2, c3, hh⟩ := c34l (d := d + 1) (A := A) (b := b) (h := h) (X := X) (J := J1) (R := R') (n := n) hk hP r1 r2 2001 0 I1 0 0 [] [] c00 s00 rfl (by omega) hM0
  rw [show d + 1 + 68 = d + 69 from rfl] at hh
  -- what stays of the names
  have KEEP : ∀ I' : Nat → Nat → Int32, (∀ c i, c ≠ 56 → ¬ (c = P ∧ i = 3) → ¬ (P + 4 ≤ c ∧ c ≤ P + 22) → I' c i = I1 c i) → cNm I' J1 (P + 1) L1 ∧ 2 * L1 ≤ N + 1 ∧ I' P 1 = nI L1 ∧ (∀ i, i ≤ m → tk6 t N (tpos t N i) I' J1 (P + 1) L1 i) ∧ (∀ c i, c ≠ 7 → c ≠ 56 → ¬ (P ≤ c ∧ c ≤ P + 22) → I' c i = I c i) ∧ I' 7 = V := by
    intro I' hf
    have f1 : ∀ i, I' (P + 1 + 2) i = I1 (P + 1 + 2) i := fun i => hf _ _ (by omega) (by omega) (by omega)
    refine ⟨⟨by rw [hf _ _ (by omega) (by omega) (by omega)]; exact a1.1, a1.2.1, fun x y hx hy e => a1.2.2 x y hx hy ?_⟩, a2, by rw [hf _ _ (by omega) (by omega) (by omega)]; exact a3, fun i hi => ?_, fun c i b1 b2 b3 => by rw [hf c i (by omega) (by omega) (by omega)]; exact a14 c i b1 b2 b3, ?_⟩
    · unfold cnm at e ⊢
      rw [f1, f1] at e
      exact e
    · have := a4 i hi
      unfold tk6 cnm at this ⊢
      rw [hf 5 i (by omega) (by omega) (by omega), hf 6 i (by omega) (by omega) (by omega), hf 7 i (by omega) (by omega) (by omega), hf 9 i (by omega) (by omega) (by omega)]
      simp only [f1]
      exact this
    · rw [hV]
      funext i
      exact hf _ _ (by omega) (by omega) (by omega)
  have pl : ∀ (I' : Nat → Nat → Int32) (j : Nat), (∀ c i, c ≠ 56 → ¬ (c = P ∧ i = 3) → ¬ (P + 4 ≤ c ∧ c ≤ P + 22) → I' c i = I1 c i) → j ≤ m → jcall A jcode (d + 69) 85 [.ref (b + 3), .int (nI j)] (jH h b X I' J1 R' n) = some (.inl (some (.int (nI (tpos t N j)))), jH h b X I' J1 R' n) := by
    intro I' j hf hj
    have e := c85 (d := d + 68) (A := A) (b := b) (h := h) (X := X) (J := J1) (R := R') (n := n) (I := I') (m := m) (j := j) (by rw [hf _ _ (by omega) (by omega) (by omega)]; exact a5) hk.1 hj
    rw [hf 6 j (by omega) (by omega) (by omega), (a4 j hj).2.1] at e
    exact e
  rcases hh with ⟨j', C', b1, hF, b2, e2⟩ | ⟨F, j', C', b1, hS, hf, e2⟩
  · obtain ⟨k1, k2, k3, k4, k5, k6⟩ := KEEP I2 hF.2
    refine ⟨I2, J1, L1, nI (tpos t N j'), ?_, k1, k2, k3, k4, k5, a15, Or.inl ⟨j', C', by rw [k6]; exact b1, b2, rfl⟩⟩
    rw [e2]
    have e85 := pl I2 j' hF.2 b2
    have s3 := hF.1
    simp (disch := omega) [r34_0, r34_1, r34_2, r34_5, r34_6, r34_7, r34_8, r34_9, r34_10, r34_13, r34_16, r34_17, r34_20, r34_21, r34_24, r34_27, r34_28, r34_31, r34_32, r34_35, r34_38, r34_39, r34_42, r34_43, r34_46, r34_47, r34_50, r34_53, r34_54, r34_55, r34_58, r34_59, r34_62, r34_63, r34_66, r34_67, r34_70, r34_71, r34_74, r34_75, r34_78, r34_81, r34_82, r34_85, r34_86, r34_87, r34_88, r34_91, r34_92, r34_95, r34_96, r34_99, r34_100, r34_103, qa35, qo35, g56, qa36, qo36, qa37, qo37, vf4_0, t56_0, vf4_3, qa85, qo85, g3, vf4_5, qa69, qo69, vf4_6, List.getElem?_cons_zero, List.getElem?_cons_succ, List.length_cons, List.length_nil, ag_nx, ag_dn, ag_no, ag_if, jbr1, jbr2, jc1, jc2, jnul, jld, jsto, jstoL, jst1, jst2, jkill, jinc, jbI, jbL, jbS, juI, jl2i, jcmp, jisR, jisI, jisL, jret, jretv, jfits, jdup, jdup2, jpop, jmm, jcat, Value.category, jinv, jrcv, jthr, jhd, jput, jget, jlen, jald, jast, jaast, jgI, jgL, jgB, jtab, jlku, jacp, vf20, vf21, vf22, vf23, vf24, u2_s, u2_k, u2_i, uc_s, uc_k, uc_c, u2_c, LI0, LI1, LI2, LI3, LI4, LI5, LI6, LI7, LI8, LI9, LI10, LI11, LI12, LI13, LI14, LI15, LI16, LI17, LI18, LI19, LI20, LI21, LI22, LI23, LI24, LI25, LI26, LI27, LI28, LI29, LI30, LI31, LI32, LI33, LI34, LI35, LI36, LI37, LI40, LI42, LI43, LI45, LI48, LI60, LI61, LI64, LI80, LI300, LI400, LI1000, LI2000, LI2001, LI2047, LI2048, LI100000, LI1000000, LI38, LI39, LI41, LI44, LI46, LI47, LI49, LI50, LI51, LI52, LI53, LI54, LI55, LI56, LI57, LI58, LI59, LI62, LI63, LI65, LI66, LI67, LI68, LI69, LI70, LI71, LI72, LI73, LI74, LI75, LI76, LI77, LI78, LI79, LI81, LI82, LI83, LI84, LI85, LI86, LI87, LI88, LI89, LI90, LI91, LI92, LI93, LI94, LI95, LI96, LI97, LI98, LI99, LI100, LI101, LI102, LI103, LI104, LI105, LI106, LI107, LI108, LI109, LI110, LI111, LI112, LI113, LI114, LI115, LI116, LI117, LI118, LI119, LI120, LI121, LI122, LI123, LI124, LI125, LI126, LI127, LI255, LI256, LI999, LI1001, LI1002, LI1600, LI4096, LI1000001, LI2042, LM, nI_clamp, nI_pos', nI_lt, nI_nlt, nI_le, nI_ge, nI_ne, nI_add, nI_sub, mI_lt, mI_le, mI_nlt, mI_nle, mI_ne, mI_ne', mI_nem, g3, s3, e85]
  · obtain ⟨k1, k2, k3, k4, k5, k6⟩ := KEEP I2 hf
    obtain ⟨g1, g2, g3', g4⟩ := pG_V (U := V) hk.2.1 2001 0 0 [] [] c00 s00 F j' C' (by omega) (by omega) (fun p c hc => by simp at hc) (fun z => by omega) (fun z => by omega) (fun x hx => by cases hx) b1
    obtain ⟨q1, q2, q3, q4, q5, q6, q7, q8, q9, q10, q11, q12⟩ := hS
    have hk2000 := hk.1
    cases hex : exF (KK t N) (eqV V) F with
    | some e =>
      have he := q11 e hex
      rw [hex] at q10
      simp only [exI] at q10
      refine ⟨I2, J1, L1, nI (tpos t N e), ?_, k1, k2, k3, k4, k5, a15, Or.inr ⟨F, j', C', by rw [k6]; exact b1, g1, g2, Or.inl ⟨e, by rw [k6]; exact hex, by omega, rfl⟩⟩⟩
      rw [e2]
      have e85 := pl I2 e hf (by omega)
      simp (disch := omega) [r34_0, r34_1, r34_2, r34_5, r34_6, r34_7, r34_8, r34_9, r34_10, r34_13, r34_16, r34_17, r34_20, r34_21, r34_24, r34_27, r34_28, r34_31, r34_32, r34_35, r34_38, r34_39, r34_42, r34_43, r34_46, r34_47, r34_50, r34_53, r34_54, r34_55, r34_58, r34_59, r34_62, r34_63, r34_66, r34_67, r34_70, r34_71, r34_74, r34_75, r34_78, r34_81, r34_82, r34_85, r34_86, r34_87, r34_88, r34_91, r34_92, r34_95, r34_96, r34_99, r34_100, r34_103, qa35, qo35, g56, qa36, qo36, qa37, qo37, vf4_0, t56_0, vf4_3, qa85, qo85, g3, vf4_5, qa69, qo69, vf4_6, List.getElem?_cons_zero, List.getElem?_cons_succ, List.length_cons, List.length_nil, ag_nx, ag_dn, ag_no, ag_if, jbr1, jbr2, jc1, jc2, jnul, jld, jsto, jstoL, jst1, jst2, jkill, jinc, jbI, jbL, jbS, juI, jl2i, jcmp, jisR, jisI, jisL, jret, jretv, jfits, jdup, jdup2, jpop, jmm, jcat, Value.category, jinv, jrcv, jthr, jhd, jput, jget, jlen, jald, jast, jaast, jgI, jgL, jgB, jtab, jlku, jacp, vf20, vf21, vf22, vf23, vf24, u2_s, u2_k, u2_i, uc_s, uc_k, uc_c, u2_c, LI0, LI1, LI2, LI3, LI4, LI5, LI6, LI7, LI8, LI9, LI10, LI11, LI12, LI13, LI14, LI15, LI16, LI17, LI18, LI19, LI20, LI21, LI22, LI23, LI24, LI25, LI26, LI27, LI28, LI29, LI30, LI31, LI32, LI33, LI34, LI35, LI36, LI37, LI40, LI42, LI43, LI45, LI48, LI60, LI61, LI64, LI80, LI300, LI400, LI1000, LI2000, LI2001, LI2047, LI2048, LI100000, LI1000000, LI38, LI39, LI41, LI44, LI46, LI47, LI49, LI50, LI51, LI52, LI53, LI54, LI55, LI56, LI57, LI58, LI59, LI62, LI63, LI65, LI66, LI67, LI68, LI69, LI70, LI71, LI72, LI73, LI74, LI75, LI76, LI77, LI78, LI79, LI81, LI82, LI83, LI84, LI85, LI86, LI87, LI88, LI89, LI90, LI91, LI92, LI93, LI94, LI95, LI96, LI97, LI98, LI99, LI100, LI101, LI102, LI103, LI104, LI105, LI106, LI107, LI108, LI109, LI110, LI111, LI112, LI113, LI114, LI115, LI116, LI117, LI118, LI119, LI120, LI121, LI122, LI123, LI124, LI125, LI126, LI127, LI255, LI256, LI999, LI1001, LI1002, LI1600, LI4096, LI1000001, LI2042, LM, nI_clamp, nI_pos', nI_lt, nI_nlt, nI_le, nI_ge, nI_ne, nI_add, nI_sub, mI_lt, mI_le, mI_nlt, mI_nle, mI_ne, mI_ne', mI_nem, g3, q10, e85]
    | none =>
      obtain ⟨u1, u2', u3⟩ := q12 hex
      rw [hex] at q10
      simp only [exI] at q10
      have h6 := u3.1
      obtain ⟨I3, e69, w1, w2, w3⟩ := cLink (d := d + 66) (A := A) (b := b) (h := h) (X := X) (J := J1) (R := R') (n := n) (K := KK t N) (V := V) hP r1 r2 (F := F) (C := C') (by omega) (CV_lk hk.1 g2) u3 (by rw [q9]; congr 1; omega) q4 q3 u1 (fun x hx => by have := u2' x hx; omega)
      have hf3 : ∀ c i, c ≠ 56 → ¬ (c = P ∧ i = 3) → ¬ (P + 4 ≤ c ∧ c ≤ P + 22) → I3 c i = I1 c i := fun c i z1 z2 z3 => by rw [w3 c i (by omega) (by omega)]; exact hf c i z1 z2 z3
      obtain ⟨k1, k2, k3, k4, k5, k6⟩ := KEEP I3 hf3
      have q53 : I3 56 5 = mI 1 := by rw [w3 _ _ (by omega) (by omega)]; exact q10
      have hlt := fold_lt (E := eqV V) (F := F) (b := m + 1) C' (unF (eqV V) F) (fun x hx => by obtain ⟨_, _, _, z⟩ := g2 x hx; omega) (fun x hx => by have := u2' x hx; omega)
      cases hun : C'.foldl (fun u x => mnO u (ukO (eqV V) F x)) (unF (eqV V) F) with
      | some u =>
        have hu := hlt u hun
        rw [hun] at w2
        simp only [exI] at w2
        refine ⟨I3, J1, L1, nI (tpos t N u), ?_, k1, k2, k3, k4, k5, a15, Or.inr ⟨F, j', C', by rw [k6]; exact b1, g1, g2, Or.inr (Or.inl ⟨by rw [k6]; exact hex, u, by rw [k6]; exact hun, by omega, rfl⟩)⟩⟩
        rw [e2]
        have e85 := pl I3 u hf3 (by omega)
        simp (disch := omega) [r34_0, r34_1, r34_2, r34_5, r34_6, r34_7, r34_8, r34_9, r34_10, r34_13, r34_16, r34_17, r34_20, r34_21, r34_24, r34_27, r34_28, r34_31, r34_32, r34_35, r34_38, r34_39, r34_42, r34_43, r34_46, r34_47, r34_50, r34_53, r34_54, r34_55, r34_58, r34_59, r34_62, r34_63, r34_66, r34_67, r34_70, r34_71, r34_74, r34_75, r34_78, r34_81, r34_82, r34_85, r34_86, r34_87, r34_88, r34_91, r34_92, r34_95, r34_96, r34_99, r34_100, r34_103, qa35, qo35, g56, qa36, qo36, qa37, qo37, vf4_0, t56_0, vf4_3, qa85, qo85, g3, vf4_5, qa69, qo69, vf4_6, List.getElem?_cons_zero, List.getElem?_cons_succ, List.length_cons, List.length_nil, ag_nx, ag_dn, ag_no, ag_if, jbr1, jbr2, jc1, jc2, jnul, jld, jsto, jstoL, jst1, jst2, jkill, jinc, jbI, jbL, jbS, juI, jl2i, jcmp, jisR, jisI, jisL, jret, jretv, jfits, jdup, jdup2, jpop, jmm, jcat, Value.category, jinv, jrcv, jthr, jhd, jput, jget, jlen, jald, jast, jaast, jgI, jgL, jgB, jtab, jlku, jacp, vf20, vf21, vf22, vf23, vf24, u2_s, u2_k, u2_i, uc_s, uc_k, uc_c, u2_c, LI0, LI1, LI2, LI3, LI4, LI5, LI6, LI7, LI8, LI9, LI10, LI11, LI12, LI13, LI14, LI15, LI16, LI17, LI18, LI19, LI20, LI21, LI22, LI23, LI24, LI25, LI26, LI27, LI28, LI29, LI30, LI31, LI32, LI33, LI34, LI35, LI36, LI37, LI40, LI42, LI43, LI45, LI48, LI60, LI61, LI64, LI80, LI300, LI400, LI1000, LI2000, LI2001, LI2047, LI2048, LI100000, LI1000000, LI38, LI39, LI41, LI44, LI46, LI47, LI49, LI50, LI51, LI52, LI53, LI54, LI55, LI56, LI57, LI58, LI59, LI62, LI63, LI65, LI66, LI67, LI68, LI69, LI70, LI71, LI72, LI73, LI74, LI75, LI76, LI77, LI78, LI79, LI81, LI82, LI83, LI84, LI85, LI86, LI87, LI88, LI89, LI90, LI91, LI92, LI93, LI94, LI95, LI96, LI97, LI98, LI99, LI100, LI101, LI102, LI103, LI104, LI105, LI106, LI107, LI108, LI109, LI110, LI111, LI112, LI113, LI114, LI115, LI116, LI117, LI118, LI119, LI120, LI121, LI122, LI123, LI124, LI125, LI126, LI127, LI255, LI256, LI999, LI1001, LI1002, LI1600, LI4096, LI1000001, LI2042, LM, nI_clamp, nI_pos', nI_lt, nI_nlt, nI_le, nI_ge, nI_ne, nI_add, nI_sub, mI_lt, mI_le, mI_nlt, mI_nle, mI_ne, mI_ne', mI_nem, g3, q10, e69, q53, w2, e85]
      | none =>
        rw [hun] at w2
        simp only [exI] at w2
        refine ⟨I3, J1, L1, mI 1, ?_, k1, k2, k3, k4, k5, a15, Or.inr ⟨F, j', C', by rw [k6]; exact b1, g1, g2, Or.inr (Or.inr ⟨by rw [k6]; exact hex, by rw [k6]; exact hun, rfl, ?_, by rw [k6]; exact w1, ?_, ?_, by omega⟩)⟩⟩
        · rw [e2]
          simp (disch := omega) [r34_0, r34_1, r34_2, r34_5, r34_6, r34_7, r34_8, r34_9, r34_10, r34_13, r34_16, r34_17, r34_20, r34_21, r34_24, r34_27, r34_28, r34_31, r34_32, r34_35, r34_38, r34_39, r34_42, r34_43, r34_46, r34_47, r34_50, r34_53, r34_54, r34_55, r34_58, r34_59, r34_62, r34_63, r34_66, r34_67, r34_70, r34_71, r34_74, r34_75, r34_78, r34_81, r34_82, r34_85, r34_86, r34_87, r34_88, r34_91, r34_92, r34_95, r34_96, r34_99, r34_100, r34_103, qa35, qo35, g56, qa36, qo36, qa37, qo37, vf4_0, t56_0, vf4_3, qa85, qo85, g3, vf4_5, qa69, qo69, vf4_6, List.getElem?_cons_zero, List.getElem?_cons_succ, List.length_cons, List.length_nil, ag_nx, ag_dn, ag_no, ag_if, jbr1, jbr2, jc1, jc2, jnul, jld, jsto, jstoL, jst1, jst2, jkill, jinc, jbI, jbL, jbS, juI, jl2i, jcmp, jisR, jisI, jisL, jret, jretv, jfits, jdup, jdup2, jpop, jmm, jcat, Value.category, jinv, jrcv, jthr, jhd, jput, jget, jlen, jald, jast, jaast, jgI, jgL, jgB, jtab, jlku, jacp, vf20, vf21, vf22, vf23, vf24, u2_s, u2_k, u2_i, uc_s, uc_k, uc_c, u2_c, LI0, LI1, LI2, LI3, LI4, LI5, LI6, LI7, LI8, LI9, LI10, LI11, LI12, LI13, LI14, LI15, LI16, LI17, LI18, LI19, LI20, LI21, LI22, LI23, LI24, LI25, LI26, LI27, LI28, LI29, LI30, LI31, LI32, LI33, LI34, LI35, LI36, LI37, LI40, LI42, LI43, LI45, LI48, LI60, LI61, LI64, LI80, LI300, LI400, LI1000, LI2000, LI2001, LI2047, LI2048, LI100000, LI1000000, LI38, LI39, LI41, LI44, LI46, LI47, LI49, LI50, LI51, LI52, LI53, LI54, LI55, LI56, LI57, LI58, LI59, LI62, LI63, LI65, LI66, LI67, LI68, LI69, LI70, LI71, LI72, LI73, LI74, LI75, LI76, LI77, LI78, LI79, LI81, LI82, LI83, LI84, LI85, LI86, LI87, LI88, LI89, LI90, LI91, LI92, LI93, LI94, LI95, LI96, LI97, LI98, LI99, LI100, LI101, LI102, LI103, LI104, LI105, LI106, LI107, LI108, LI109, LI110, LI111, LI112, LI113, LI114, LI115, LI116, LI117, LI118, LI119, LI120, LI121, LI122, LI123, LI124, LI125, LI126, LI127, LI255, LI256, LI999, LI1001, LI1002, LI1600, LI4096, LI1000001, LI2042, LM, nI_clamp, nI_pos', nI_lt, nI_nlt, nI_le, nI_ge, nI_ne, nI_add, nI_sub, mI_lt, mI_le, mI_nlt, mI_nle, mI_ne, mI_ne', mI_nem, g3, q10, e69, q53, w2]
        · rw [k6]
          exact mS_fr (fun c i z1 z2 => w3 c i (by omega) (by omega)) u3
        · rw [w3 _ _ (by omega) (by omega), q9]; congr 1; omega
        · rw [w3 _ _ (by omega) (by omega)]; exact q4
end CRD
