/-! charts: what a text is; the class reads lines -/
section HSP
/-- a message: from, to, name; lines: names, or out -/
abbrev hM : Type := Nat × Nat × (Int64 × Int32)
abbrev hS : Type := List hM × List (Option (Int64 × Int32))
def yL (Y : Nat → Int64 × Int32) (K : Nat → Nat) (j : Nat) : Option (Int64 × Int32) := if K j = 24 then none else some (Y j)
def lnS (l : Option (Int64 × Int32)) (ls : List (Option (Int64 × Int32))) : Option (Nat × List (Option (Int64 × Int32))) := match ls.findIdx? (fun x => decide (x = l)) with | some i => some (i, ls) | none => if ls.length < 8 then some (ls.length, ls ++ [l]) else none
def msS (K : Nat → Nat) (Y : Nat → Int64 × Int32) (j : Nat) (s : hS) : Nat ⊕ hS :=
  if ¬ (K j = 26 ∨ K j = 24) then .inl j else
  match lnS (yL Y K j) s.2 with
  | none => .inl j
  | some (a, ls1) => if ¬ K (j + 1) = 62 then .inl (j + 1) else
    if ¬ (K (j + 2) = 26 ∨ K (j + 2) = 24) then .inl (j + 2) else
    if K (j + 2) = 24 ∧ ls1[a]? = some none then .inl (j + 2) else
    match lnS (yL Y K (j + 2)) ls1 with
    | none => .inl (j + 2)
    | some (c, ls2) => if ¬ K (j + 3) = 58 then .inl (j + 3) else if ¬ K (j + 4) = 26 then .inl (j + 4) else if ¬ K (j + 5) = 59 then .inl (j + 5) else .inr (s.1 ++ [(a, c, Y (j + 4))], ls2)
def chS (K : Nat → Nat) (Y : Nat → Int64 × Int32) : Nat → Nat → hS → Nat ⊕ hS
  | 0, j, s => if K j = 29 then .inr s else .inl j
  | r + 1, j, s => if K j = 29 then .inr s else match msS K Y j s with | .inl e => .inl e | .inr s' => chS K Y r (j + 6) s'
theorem lnS_lt {l : Option (Int64 × Int32)} {ls ls' : List (Option (Int64 × Int32))} {i : Nat} (h : lnS l ls = some (i, ls')) (h8 : ls.length ≤ 8) (hn : ls.Nodup) : i < ls'.length ∧ ls.length ≤ ls'.length ∧ ls'.length ≤ 8 ∧ ls'.Nodup ∧ ls'[i]? = some l ∧ (∀ (k : Nat) x, ls[k]? = some x → ls'[k]? = some x) ∧ ls'.length ≤ ls.length + 1 := by
  unfold lnS at h
  cases hf : ls.findIdx? (fun x => decide (x = l)) with
  | some k =>
    rw [hf] at h
    simp only [Option.some.injEq, Prod.mk.injEq] at h
    obtain ⟨rfl, rfl⟩ := h
    obtain ⟨h1, h2, _⟩ := List.findIdx?_eq_some_iff_getElem.mp hf
    refine ⟨h1, Nat.le_refl _, h8, hn, ?_, fun _ _ hx => hx, by omega⟩
    rw [List.getElem?_eq_getElem h1]
    simpa using h2
  | none =>
    rw [hf] at h
    replace h : (if ls.length < 8 then some (ls.length, ls ++ [l]) else none) = some (i, ls') := h
    by_cases h9 : ls.length < 8
    · rw [if_pos h9] at h
      simp only [Option.some.injEq, Prod.mk.injEq] at h
      obtain ⟨rfl, rfl⟩ := h
      refine ⟨by simp, by simp, by simp; omega, ?_, by simp, fun k x hx => some_ap hx, by simp⟩
      rw [List.nodup_append]
      refine ⟨hn, by simp, fun a ha c hc => ?_⟩
      simp only [List.mem_singleton] at hc
      subst hc
      intro e
      subst e
      have := List.findIdx?_eq_none_iff.mp hf a ha
      simp at this
    · rw [if_neg h9] at h
      cases h
end HSP
section CHC
variable {A : Nat → Nat} {d b n C N m : Nat} {h : Nat → Option jC} {X : jXX} {J : Nat → Nat → Int64} {R : Nat → Nat → Nat} {t : Nat → Int32}
theorem cLn_e {I : Nat → Nat → Int32} {p L : Nat} {x1 x2 : Int32} {l1 l2 : Option (Int64 × Int32)} (hL : L ≤ 2 ^ 20) (hm : cNm I J p L) (h1 : cLn I J p L x1 l1) (h2 : cLn I J p L x2 l2) : x1 = x2 ↔ l1 = l2 := by
  cases l1 with
  | none =>
    have e1 : x1 = mI 2 := h1
    cases l2 with
    | none => have e2 : x2 = mI 2 := h2; simp [e1, e2]
    | some y2 =>
      obtain ⟨u, u1, u2', u3⟩ := h2
      constructor
      · intro e; rw [e1, u2'] at e; exact absurd e (mI_ne' (by omega) (by omega) (by omega))
      · intro e; cases e
  | some y1 =>
    obtain ⟨u, u1, u2', u3⟩ := h1
    cases l2 with
    | none =>
      have e2 : x2 = mI 2 := h2
      constructor
      · intro e; rw [e2, u2'] at e; exact absurd e (mI_ne (by omega) (by omega) (by omega))
      · intro e; cases e
    | some y2 =>
      obtain ⟨w, w1, w2, w3⟩ := h2
      constructor
      · intro e
        rw [u2', w2] at e
        have := nI_inj (by omega) (by omega) e
        subst this
        rw [← u3, ← w3]
      · intro e
        have e' : y1 = y2 := Option.some.inj e
        have := hm.2.2 u w u1 w1 (by rw [u3, w3, e'])
        rw [u2', w2, this]
/-- the chart so far -/
def hC (I : Nat → Nat → Int32) (J : Nat → Nat → Int64) (C : Nat) (s : hS) (L : Nat) : Prop := cNm I J (C + 1) L ∧ I C 6 = nI s.1.length ∧ I C 2 = nI s.2.length ∧ s.2.length ≤ 8 ∧ s.1.length ≤ 40 ∧ s.2.Nodup ∧ (∀ (i : Nat) m, s.1[i]? = some m → m.1 < s.2.length ∧ m.2.1 < s.2.length ∧ I (C + 5) i = nI m.1 ∧ I (C + 6) i = nI m.2.1 ∧ cLn I J (C + 1) L (I (C + 7) i) (some m.2.2)) ∧ ∀ (i : Nat) l, s.2[i]? = some l → cLn I J (C + 1) L (I (C + 4) i) l
theorem isC_ee (hC : isC C) : C = 215 ∨ C = 228 := by
  unfold isC at hC
  simpa using hC
theorem isC_N (hC : isC C) : isN (C + 1) := by
  unfold isN
  rcases isC_ee hC with e | e <;> rw [e] <;> simp
theorem sC_c (hC : isC C) : (sT (C + 1 + 1)).2 = 48 := by
  have : ∀ C ∈ [215, 228], (sT (C + 1 + 1)).2 = 48 := by decide +kernel
  exact this C hC
theorem c4l {I : Nat → Nat → Int32} {x : Int32} {c : Nat} (hC : isC C) (h2 : I C 2 = nI c) (h8 : c ≤ 8) : ∀ (r k : Nat), k + r = c → M4 A d 2 [some (.ref (b + C)), some (.int x), some (.int (nI k))] [] (jH h b X I J R n) = some (.inl (some (.int (inO (fdP (fun i => decide (I (C + 4) i = x)) r k)))), (jH h b X I J R n)) := by
  intro r
  induction r with
  | zero =>
    intro k hk
    have : k = c := by omega
    subst this
    rw [r4_2]
    simp (disch := omega) [r4_0, r4_1, r4_3, r4_4, r4_7, r4_10, r4_11, r4_13, r4_16, r4_17, r4_20, r4_21, r4_22, r4_23, r4_26, r4_27, r4_28, r4_31, r4_34, r4_35, gC0 hC, vf0_2, vf0_1, tC0_1 hC, gC4 hC, List.getElem?_cons_zero, List.getElem?_cons_succ, List.length_cons, List.length_nil, ag_nx, ag_dn, ag_no, ag_if, jbr1, jbr2, jc1, jc2, jnul, jld, jsto, jstoL, jst1, jst2, jkill, jinc, jbI, jbL, jbS, juI, jl2i, jcmp, jisR, jisI, jisL, jret, jretv, jfits, jdup, jdup2, jpop, jmm, jcat, Value.category, jinv, jrcv, jthr, jhd, jput, jget, jlen, jald, jast, jaast, jgI, jgL, jgB, jtab, jlku, jacp, vf20, vf21, vf22, vf23, vf24, u2_s, u2_k, u2_i, uc_s, uc_k, uc_c, u2_c, LI0, LI1, LI2, LI3, LI4, LI5, LI6, LI7, LI8, LI9, LI10, LI11, LI12, LI13, LI14, LI15, LI16, LI17, LI18, LI19, LI20, LI21, LI22, LI23, LI24, LI25, LI26, LI27, LI28, LI29, LI30, LI31, LI32, LI33, LI34, LI35, LI36, LI37, LI40, LI42, LI43, LI45, LI48, LI60, LI61, LI64, LI80, LI300, LI400, LI1000, LI2000, LI2001, LI2047, LI2048, LI100000, LI1000000, LI38, LI39, LI41, LI44, LI46, LI47, LI49, LI50, LI51, LI52, LI53, LI54, LI55, LI56, LI57, LI58, LI59, LI62, LI63, LI65, LI66, LI67, LI68, LI69, LI70, LI71, LI72, LI73, LI74, LI75, LI76, LI77, LI78, LI79, LI81, LI82, LI83, LI84, LI85, LI86, LI87, LI88, LI89, LI90, LI91, LI92, LI93, LI94, LI95, LI96, LI97, LI98, LI99, LI100, LI101, LI102, LI103, LI104, LI105, LI106, LI107, LI108, LI109, LI110, LI111, LI112, LI113, LI114, LI115, LI116, LI117, LI118, LI119, LI120, LI121, LI122, LI123, LI124, LI125, LI126, LI127, LI255, LI256, LI999, LI1001, LI1002, LI1600, LI4096, LI1000001, LI2042, LM, nI_clamp, nI_pos', nI_lt, nI_nlt, nI_le, nI_ge, nI_ne, nI_add, nI_sub, mI_lt, mI_le, mI_nlt, mI_nle, mI_ne, mI_ne', mI_nem, h2, fdP, inO]
  | succ r ih =>
    intro k hk
    have k8 : k < 8 := by omega
    unfold fdP
    by_cases hx : I (C + 4) k = x
    · rw [if_pos (by simpa using hx), r4_2]
      simp (disch := omega) [r4_0, r4_1, r4_3, r4_4, r4_7, r4_10, r4_11, r4_13, r4_16, r4_17, r4_20, r4_21, r4_22, r4_23, r4_26, r4_27, r4_28, r4_31, r4_34, r4_35, gC0 hC, vf0_2, vf0_1, tC0_1 hC, gC4 hC, List.getElem?_cons_zero, List.getElem?_cons_succ, List.length_cons, List.length_nil, ag_nx, ag_dn, ag_no, ag_if, jbr1, jbr2, jc1, jc2, jnul, jld, jsto, jstoL, jst1, jst2, jkill, jinc, jbI, jbL, jbS, juI, jl2i, jcmp, jisR, jisI, jisL, jret, jretv, jfits, jdup, jdup2, jpop, jmm, jcat, Value.category, jinv, jrcv, jthr, jhd, jput, jget, jlen, jald, jast, jaast, jgI, jgL, jgB, jtab, jlku, jacp, vf20, vf21, vf22, vf23, vf24, u2_s, u2_k, u2_i, uc_s, uc_k, uc_c, u2_c, LI0, LI1, LI2, LI3, LI4, LI5, LI6, LI7, LI8, LI9, LI10, LI11, LI12, LI13, LI14, LI15, LI16, LI17, LI18, LI19, LI20, LI21, LI22, LI23, LI24, LI25, LI26, LI27, LI28, LI29, LI30, LI31, LI32, LI33, LI34, LI35, LI36, LI37, LI40, LI42, LI43, LI45, LI48, LI60, LI61, LI64, LI80, LI300, LI400, LI1000, LI2000, LI2001, LI2047, LI2048, LI100000, LI1000000, LI38, LI39, LI41, LI44, LI46, LI47, LI49, LI50, LI51, LI52, LI53, LI54, LI55, LI56, LI57, LI58, LI59, LI62, LI63, LI65, LI66, LI67, LI68, LI69, LI70, LI71, LI72, LI73, LI74, LI75, LI76, LI77, LI78, LI79, LI81, LI82, LI83, LI84, LI85, LI86, LI87, LI88, LI89, LI90, LI91, LI92, LI93, LI94, LI95, LI96, LI97, LI98, LI99, LI100, LI101, LI102, LI103, LI104, LI105, LI106, LI107, LI108, LI109, LI110, LI111, LI112, LI113, LI114, LI115, LI116, LI117, LI118, LI119, LI120, LI121, LI122, LI123, LI124, LI125, LI126, LI127, LI255, LI256, LI999, LI1001, LI1002, LI1600, LI4096, LI1000001, LI2042, LM, nI_clamp, nI_pos', nI_lt, nI_nlt, nI_le, nI_ge, nI_ne, nI_add, nI_sub, mI_lt, mI_le, mI_nlt, mI_nle, mI_ne, mI_ne', mI_nem, h2, k8, hx, inO]
    · rw [if_neg (by simpa using hx), ← ih (k + 1) (by omega), r4_2]
      simp (disch := omega) [r4_0, r4_1, r4_3, r4_4, r4_7, r4_10, r4_11, r4_13, r4_16, r4_17, r4_20, r4_21, r4_22, r4_23, r4_26, r4_27, r4_28, r4_31, r4_34, r4_35, gC0 hC, vf0_2, vf0_1, tC0_1 hC, gC4 hC, List.getElem?_cons_zero, List.getElem?_cons_succ, List.length_cons, List.length_nil, ag_nx, ag_dn, ag_no, ag_if, jbr1, jbr2, jc1, jc2, jnul, jld, jsto, jstoL, jst1, jst2, jkill, jinc, jbI, jbL, jbS, juI, jl2i, jcmp, jisR, jisI, jisL, jret, jretv, jfits, jdup, jdup2, jpop, jmm, jcat, Value.category, jinv, jrcv, jthr, jhd, jput, jget, jlen, jald, jast, jaast, jgI, jgL, jgB, jtab, jlku, jacp, vf20, vf21, vf22, vf23, vf24, u2_s, u2_k, u2_i, uc_s, uc_k, uc_c, u2_c, LI0, LI1, LI2, LI3, LI4, LI5, LI6, LI7, LI8, LI9, LI10, LI11, LI12, LI13, LI14, LI15, LI16, LI17, LI18, LI19, LI20, LI21, LI22, LI23, LI24, LI25, LI26, LI27, LI28, LI29, LI30, LI31, LI32, LI33, LI34, LI35, LI36, LI37, LI40, LI42, LI43, LI45, LI48, LI60, LI61, LI64, LI80, LI300, LI400, LI1000, LI2000, LI2001, LI2047, LI2048, LI100000, LI1000000, LI38, LI39, LI41, LI44, LI46, LI47, LI49, LI50, LI51, LI52, LI53, LI54, LI55, LI56, LI57, LI58, LI59, LI62, LI63, LI65, LI66, LI67, LI68, LI69, LI70, LI71, LI72, LI73, LI74, LI75, LI76, LI77, LI78, LI79, LI81, LI82, LI83, LI84, LI85, LI86, LI87, LI88, LI89, LI90, LI91, LI92, LI93, LI94, LI95, LI96, LI97, LI98, LI99, LI100, LI101, LI102, LI103, LI104, LI105, LI106, LI107, LI108, LI109, LI110, LI111, LI112, LI113, LI114, LI115, LI116, LI117, LI118, LI119, LI120, LI121, LI122, LI123, LI124, LI125, LI126, LI127, LI255, LI256, LI999, LI1001, LI1002, LI1600, LI4096, LI1000001, LI2042, LM, nI_clamp, nI_pos', nI_lt, nI_nlt, nI_le, nI_ge, nI_ne, nI_add, nI_sub, mI_lt, mI_le, mI_nlt, mI_nle, mI_ne, mI_ne', mI_nem, h2, k8, hx]
theorem c4 {I : Nat → Nat → Int32} {x : Int32} {c : Nat} (hC : isC C) (h2 : I C 2 = nI c) (h8 : c ≤ 8) : jcall A jcode (d + 1) 4 [.ref (b + C), .int x] (jH h b X I J R n) = some (.inl (some (.int (inO (fdP (fun i => decide (I (C + 4) i = x)) c 0)))), (jH h b X I J R n)) := by
  rw [← c4l (A := A) (d := d) (b := b) (h := h) (X := X) (J := J) (R := R) (n := n) hC h2 h8 c 0 (by omega)]
  simp (disch := omega) [je4, r4_0, r4_1, List.getElem?_cons_zero, List.getElem?_cons_succ, List.length_cons, List.length_nil, ag_nx, ag_dn, ag_no, ag_if, jbr1, jbr2, jc1, jc2, jnul, jld, jsto, jstoL, jst1, jst2, jkill, jinc, jbI, jbL, jbS, juI, jl2i, jcmp, jisR, jisI, jisL, jret, jretv, jfits, jdup, jdup2, jpop, jmm, jcat, Value.category, jinv, jrcv, jthr, jhd, jput, jget, jlen, jald, jast, jaast, jgI, jgL, jgB, jtab, jlku, jacp, vf20, vf21, vf22, vf23, vf24, u2_s, u2_k, u2_i, uc_s, uc_k, uc_c, u2_c, LI0, LI1, LI2, LI3, LI4, LI5, LI6, LI7, LI8, LI9, LI10, LI11, LI12, LI13, LI14, LI15, LI16, LI17, LI18, LI19, LI20, LI21, LI22, LI23, LI24, LI25, LI26, LI27, LI28, LI29, LI30, LI31, LI32, LI33, LI34, LI35, LI36, LI37, LI40, LI42, LI43, LI45, LI48, LI60, LI61, LI64, LI80, LI300, LI400, LI1000, LI2000, LI2001, LI2047, LI2048, LI100000, LI1000000, LI38, LI39, LI41, LI44, LI46, LI47, LI49, LI50, LI51, LI52, LI53, LI54, LI55, LI56, LI57, LI58, LI59, LI62, LI63, LI65, LI66, LI67, LI68, LI69, LI70, LI71, LI72, LI73, LI74, LI75, LI76, LI77, LI78, LI79, LI81, LI82, LI83, LI84, LI85, LI86, LI87, LI88, LI89, LI90, LI91, LI92, LI93, LI94, LI95, LI96, LI97, LI98, LI99, LI100, LI101, LI102, LI103, LI104, LI105, LI106, LI107, LI108, LI109, LI110, LI111, LI112, LI113, LI114, LI115, LI116, LI117, LI118, LI119, LI120, LI121, LI122, LI123, LI124, LI125, LI126, LI127, LI255, LI256, LI999, LI1001, LI1002, LI1600, LI4096, LI1000001, LI2042, LM, nI_clamp, nI_pos', nI_lt, nI_nlt, nI_le, nI_ge, nI_ne, nI_add, nI_sub, mI_lt, mI_le, mI_nlt, mI_nle, mI_ne, mI_ne', mI_nem]
/-- nothing but the chart's lines and names -/
def fLn (C : Nat) (I I' : Nat → Nat → Int32) : Prop := ∀ c i, ¬ (c = C ∧ i = 2) → ¬ (c = C + 1 ∧ i = 2) → c ≠ C + 3 → c ≠ C + 4 → I' c i = I c i
theorem hC_nm {I I' : Nat → Nat → Int32} {J' : Nat → Nat → Int64} {s : hS} {L L' : Nat} (hs : hC I J C s L) (hm : cNm I' J' (C + 1) L') (hL : L ≤ L') (hn : ∀ y, y < L → cnm I' J' (C + 1) y = cnm I J (C + 1) y) (hi : ∀ c i, ¬ (c = C + 1 ∧ i = 2) → c ≠ C + 3 → I' c i = I c i) : hC I' J' C s L' := by
  obtain ⟨a1, a3, a4, a5, a6, a7, a8, a9⟩ := hs
  have kc : ∀ (x : Int32) l, cLn I J (C + 1) L x l → cLn I' J' (C + 1) L' x l := by
    intro x l hl
    cases l with
    | none => exact hl
    | some y =>
      obtain ⟨u, u1, u2', u3⟩ := hl
      exact ⟨u, by omega, u2', (hn u u1).trans u3⟩
  refine ⟨hm, (hi _ _ (by omega) (by omega)).trans a3, (hi _ _ (by omega) (by omega)).trans a4, a5, a6, a7, fun i m hm' => ?_, fun i l hl => ?_⟩
  · rw [hi (C + 5) i (by omega) (by omega), hi (C + 6) i (by omega) (by omega), hi (C + 7) i (by omega) (by omega)]
    obtain ⟨d1, d2, d3, d4, d5⟩ := a8 i m hm'
    exact ⟨d1, d2, d3, d4, kc _ _ d5⟩
  · rw [hi (C + 4) i (by omega) (by omega)]
    exact kc _ _ (a9 i l hl)
end CHC
