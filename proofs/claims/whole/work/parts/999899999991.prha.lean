/-! charts: the reference reads a line -/
section RHA
variable {A : Nat → Nat} {d b : Nat} {h : Nat → Option jC} {J : Nat → Nat → Int64} {R : Nat → Nat → Nat} {t : Nat → Int32} {N m B0 M0 : Nat}
/-- cells of a chart that is read, and where it can't stand -/
def cHl (c i : Nat) : Prop := (c = 241 ∧ (i = 2 ∨ i = 86 ∨ i = 87)) ∨ (290 ≤ c ∧ c ≤ 292) ∨ c = 294
theorem rQ_c {z : rZ} {j dp : Nat} {I' : Nat → Nat → Int32} (hq : rQ t N m B0 M0 j dp z) (hi : ∀ c i, ¬ cHl c i → I' c i = z.2.1 c i) : rQ t N m B0 M0 j dp (z.1, I', z.2.2) := by
  obtain ⟨X, I, n, nn, nb, M⟩ := z
  obtain ⟨⟨b1, b2, b3, b4, b5, b6, b7, b8⟩, hT, h15, h30, hj, hM⟩ := hq
  simp only at b1 b2 b3 b4 b5 b6 b7 b8 hT h15 h30 hM hi
  have f : ∀ c i, ¬ ((c = 241 ∧ (i = 2 ∨ i = 86 ∨ i = 87)) ∨ (290 ≤ c ∧ c ≤ 292) ∨ c = 294) → I' c i = I c i := hi
  have frn : ∀ u, rnm I' u = rnm I u := fun u => rnm_e (fun c i c1 c2 => f c i (by omega))
  refine ⟨⟨(f _ _ (by omega)).trans b1, (funext fun i => f _ _ (by omega)).trans b2, rNm_s b3 (fun c i c1 c2 => f c i (by omega)) (f _ _ (by omega)) (f _ _ (by omega)), b4, b5, (f _ _ (by omega)).trans b6, b7, b8⟩, ?_, fun hne => ⟨(f _ _ (by omega)).trans (h15 hne).1, (h15 hne).2⟩, (f _ _ (by omega)).trans h30, hj, hM⟩
  obtain ⟨t1, k', t2, t3, t4, t5, t6, t7⟩ := hT
  refine ⟨(f _ _ (by omega)).trans t1, k', t2, t3, (f _ _ (by omega)).trans t4, fun z => ?_, fun z => (f _ _ (by omega)).trans (t6 z), fun z => (f _ _ (by omega)).trans (t7 z)⟩
  obtain ⟨w, v1, v2, v3⟩ := t5 z
  exact ⟨w, v1, (f _ _ (by omega)).trans v2, (frn w).trans v3⟩
/-- what reading a chart leaves: names and cells of the chart -/
def rSc (z z' : rZ) : Prop := (∀ c i, ¬ cHl c i → ¬ (243 ≤ c ∧ c ≤ 247) → ¬ (c = 241 ∧ (i = 8 ∨ i = 9 ∨ (15 ≤ i ∧ i ≤ 18) ∨ i = 20)) → z'.2.1 c i = z.2.1 c i) ∧ z.2.2.2.1 ≤ z'.2.2.2.1 ∧ (∀ u, u < z.2.2.2.1 → rnm z'.2.1 u = rnm z.2.1 u) ∧ gro z.1 z.2.2.1 z'.1 z'.2.2.1 ∧ cp z'.1 206 = cp z.1 206
theorem rSc_refl {z : rZ} : rSc z z := ⟨fun _ _ _ _ _ => rfl, Nat.le_refl _, fun _ _ => rfl, gro_refl, rfl⟩
theorem rSc_tr {z z1 z2 : rZ} (h1 : rSc z z1) (h2 : rSc z1 z2) : rSc z z2 := ⟨fun c i a e f => (h2.1 c i a e f).trans (h1.1 c i a e f), Nat.le_trans h1.2.1 h2.2.1, fun u hu => (h2.2.2.1 u (Nat.lt_of_lt_of_le hu h1.2.1)).trans (h1.2.2.1 u hu), gro_trans h1.2.2.2.1 h2.2.2.2.1, h2.2.2.2.2.trans h1.2.2.2.2⟩
theorem rSc_c {z : rZ} {I' : Nat → Nat → Int32} (hi : ∀ c i, ¬ cHl c i → I' c i = z.2.1 c i) : rSc z (z.1, I', z.2.2) := ⟨fun c i a _ _ => hi c i a, Nat.le_refl _, fun u _ => rnm_e (fun c i c1 c2 => hi c i (by unfold cHl; omega)), gro_refl, rfl⟩
/-- the chart so far -/
def rHc (I : Nat → Nat → Int32) (nn : Nat) (s : hS) : Prop := I 241 86 = nI s.1.length ∧ I 241 87 = nI s.2.length ∧ s.2.length ≤ 8 ∧ s.1.length ≤ 40 ∧ s.2.Nodup ∧ (∀ (i : Nat) m, s.1[i]? = some m → m.1 < s.2.length ∧ m.2.1 < s.2.length ∧ I 290 i = nI m.1 ∧ I 291 i = nI m.2.1 ∧ rLn I nn (I 292 i) (some m.2.2)) ∧ ∀ (i : Nat) l, s.2[i]? = some l → rLn I nn (I 294 i) l
theorem rLn_mo {I I' : Nat → Nat → Int32} {nn nn' : Nat} {x : Int32} {l : Option (Int64 × Int32)} (hn : nn ≤ nn') (hr : ∀ u, u < nn → rnm I' u = rnm I u) (hl : rLn I nn x l) : rLn I' nn' x l := by
  cases l with
  | none => exact hl
  | some y =>
    obtain ⟨u, u1, u2', u3⟩ := hl
    exact ⟨u, by omega, u2', (hr u u1).trans u3⟩
theorem rHc_fr {I I' : Nat → Nat → Int32} {nn nn' : Nat} {s : hS} (hs : rHc I nn s) (hn : nn ≤ nn') (hr : ∀ u, u < nn → rnm I' u = rnm I u) (hi : ∀ c i, (c = 241 ∧ (i = 86 ∨ i = 87)) ∨ (290 ≤ c ∧ c ≤ 292) ∨ c = 294 → I' c i = I c i) : rHc I' nn' s := by
  obtain ⟨a3, a4, a5, a6, a7, a8, a9⟩ := hs
  refine ⟨(hi _ _ (by omega)).trans a3, (hi _ _ (by omega)).trans a4, a5, a6, a7, fun i m hm' => ?_, fun i l' hl' => ?_⟩
  · obtain ⟨d1, d2, d3, d4, d5⟩ := a8 i m hm'
    rw [hi 290 i (by omega), hi 291 i (by omega), hi 292 i (by omega)]
    exact ⟨d1, d2, d3, d4, rLn_mo hn hr d5⟩
  · rw [hi 294 i (by omega)]
    exact rLn_mo hn hr (a9 i l' hl')
theorem rLn_e {I : Nat → Nat → Int32} {nn : Nat} {x1 x2 : Int32} {l1 l2 : Option (Int64 × Int32)} (hL : nn ≤ 2 ^ 20) (hm : ∀ w w', w < nn → w' < nn → rnm I w = rnm I w' → w = w') (h1 : rLn I nn x1 l1) (h2 : rLn I nn x2 l2) : x1 = x2 ↔ l1 = l2 := by
  cases l1 with
  | none =>
    have e1 : x1 = mI 2 := h1
    cases l2 with
    | none => have e2 : x2 = mI 2 := h2; simp [e1, e2]
    | some y2 =>
      obtain ⟨u, u1, u2', u3⟩ := h2
      constructor
      · intro e; rw [e1, u2'] at e; exact absurd e (mI_ne' (by omega) (by omega) (by omega))
      · intro e; cases e
  | some y1 =>
    obtain ⟨u, u1, u2', u3⟩ := h1
    cases l2 with
    | none =>
      have e2 : x2 = mI 2 := h2
      constructor
      · intro e; rw [e2, u2'] at e; exact absurd e (mI_ne (by omega) (by omega) (by omega))
      · intro e; cases e
    | some y2 =>
      obtain ⟨w, w1, w2, w3⟩ := h2
      constructor
      · intro e
        rw [u2', w2] at e
        have := nI_inj (by omega) (by omega) e
        subst this
        rw [← u3, ← w3]
      · intro e
        have e' : y1 = y2 := Option.some.inj e
        have := hm u w u1 w1 (by rw [u3, w3, e'])
        rw [u2', w2, this]
theorem r275l {X : jXX} {I : Nat → Nat → Int32} {n : Nat} {x v1 v3 : Int32} {c : Nat} (h2 : I 241 87 = nI c) (h8 : c ≤ 8) : ∀ (r k : Nat), k + r = c → M275 A d 45 [some (.ref (b + 241)), some (.int v1), some (.int x), some (.int v3), some (.int (nI k))] [] (jH h b X I J R n) = (match fdP (fun i => decide (I 294 i = x)) r k with | some i => some (.inl (some (.int (nI i))), (jH h b X I J R n)) | none => M275 A d 74 [some (.ref (b + 241)), some (.int v1), some (.int x), some (.int v3), some (.int (nI c))] [] (jH h b X I J R n)) := by
  intro r
  induction r with
  | zero =>
    intro k hk
    have : k = c := by omega
    subst this
    unfold fdP
    conv => lhs; rw [r275_45]
    simp (disch := omega) [r275_47, r275_48, r275_51, g241, vf12_18, qa187, qo187, qa177, qo177, qa185, qo185, qa192, qo192, vf12_87, vf12_96, t241_96, g294, p294, p241_87, ty12_87, List.getElem?_cons_zero, List.getElem?_cons_succ, List.length_cons, List.length_nil, ag_nx, ag_dn, ag_no, ag_if, jbr1, jbr2, jc1, jc2, jnul, jld, jsto, jstoL, jst1, jst2, jkill, jinc, jbI, jbL, jbS, juI, jl2i, jcmp, jisR, jisI, jisL, jret, jretv, jfits, jdup, jdup2, jpop, jmm, jcat, Value.category, jinv, jrcv, jthr, jhd, jput, jget, jlen, jald, jast, jaast, jgI, jgL, jgB, jtab, jlku, jacp, vf20, vf21, vf22, vf23, vf24, u2_s, u2_k, u2_i, uc_s, uc_k, uc_c, u2_c, LI0, LI1, LI2, LI3, LI4, LI5, LI6, LI7, LI8, LI9, LI10, LI11, LI12, LI13, LI14, LI15, LI16, LI17, LI18, LI19, LI20, LI21, LI22, LI23, LI24, LI25, LI26, LI27, LI28, LI29, LI30, LI31, LI32, LI33, LI34, LI35, LI36, LI37, LI40, LI42, LI43, LI45, LI48, LI60, LI61, LI64, LI80, LI300, LI400, LI1000, LI2000, LI2001, LI2047, LI2048, LI100000, LI1000000, LI38, LI39, LI41, LI44, LI46, LI47, LI49, LI50, LI51, LI52, LI53, LI54, LI55, LI56, LI57, LI58, LI59, LI62, LI63, LI65, LI66, LI67, LI68, LI69, LI70, LI71, LI72, LI73, LI74, LI75, LI76, LI77, LI78, LI79, LI81, LI82, LI83, LI84, LI85, LI86, LI87, LI88, LI89, LI90, LI91, LI92, LI93, LI94, LI95, LI96, LI97, LI98, LI99, LI100, LI101, LI102, LI103, LI104, LI105, LI106, LI107, LI108, LI109, LI110, LI111, LI112, LI113, LI114, LI115, LI116, LI117, LI118, LI119, LI120, LI121, LI122, LI123, LI124, LI125, LI126, LI127, LI255, LI256, LI999, LI1001, LI1002, LI1600, LI4096, LI1000001, LI2042, LM, nI_clamp, nI_pos', nI_lt, nI_nlt, nI_le, nI_ge, nI_ne, nI_add, nI_sub, mI_lt, mI_le, mI_nlt, mI_nle, mI_ne, mI_ne', mI_nem, h2]
  | succ r ih =>
    intro k hk
    have k8 : k < 8 := by omega
    unfold fdP
    by_cases hx : I 294 k = x
    · rw [if_pos (by simpa using hx)]
      conv => lhs; rw [r275_45]
      simp (disch := omega) [r275_47, r275_48, r275_51, r275_54, r275_55, r275_58, r275_60, r275_61, r275_62, r275_65, r275_67, g241, vf12_18, qa187, qo187, qa177, qo177, qa185, qo185, qa192, qo192, vf12_87, vf12_96, t241_96, g294, p294, p241_87, ty12_87, List.getElem?_cons_zero, List.getElem?_cons_succ, List.length_cons, List.length_nil, ag_nx, ag_dn, ag_no, ag_if, jbr1, jbr2, jc1, jc2, jnul, jld, jsto, jstoL, jst1, jst2, jkill, jinc, jbI, jbL, jbS, juI, jl2i, jcmp, jisR, jisI, jisL, jret, jretv, jfits, jdup, jdup2, jpop, jmm, jcat, Value.category, jinv, jrcv, jthr, jhd, jput, jget, jlen, jald, jast, jaast, jgI, jgL, jgB, jtab, jlku, jacp, vf20, vf21, vf22, vf23, vf24, u2_s, u2_k, u2_i, uc_s, uc_k, uc_c, u2_c, LI0, LI1, LI2, LI3, LI4, LI5, LI6, LI7, LI8, LI9, LI10, LI11, LI12, LI13, LI14, LI15, LI16, LI17, LI18, LI19, LI20, LI21, LI22, LI23, LI24, LI25, LI26, LI27, LI28, LI29, LI30, LI31, LI32, LI33, LI34, LI35, LI36, LI37, LI40, LI42, LI43, LI45, LI48, LI60, LI61, LI64, LI80, LI300, LI400, LI1000, LI2000, LI2001, LI2047, LI2048, LI100000, LI1000000, LI38, LI39, LI41, LI44, LI46, LI47, LI49, LI50, LI51, LI52, LI53, LI54, LI55, LI56, LI57, LI58, LI59, LI62, LI63, LI65, LI66, LI67, LI68, LI69, LI70, LI71, LI72, LI73, LI74, LI75, LI76, LI77, LI78, LI79, LI81, LI82, LI83, LI84, LI85, LI86, LI87, LI88, LI89, LI90, LI91, LI92, LI93, LI94, LI95, LI96, LI97, LI98, LI99, LI100, LI101, LI102, LI103, LI104, LI105, LI106, LI107, LI108, LI109, LI110, LI111, LI112, LI113, LI114, LI115, LI116, LI117, LI118, LI119, LI120, LI121, LI122, LI123, LI124, LI125, LI126, LI127, LI255, LI256, LI999, LI1001, LI1002, LI1600, LI4096, LI1000001, LI2042, LM, nI_clamp, nI_pos', nI_lt, nI_nlt, nI_le, nI_ge, nI_ne, nI_add, nI_sub, mI_lt, mI_le, mI_nlt, mI_nle, mI_ne, mI_ne', mI_nem, h2, k8, hx]
    · rw [if_neg (by simpa using hx), ← ih (k + 1) (by omega)]
      conv => lhs; rw [r275_45]
      simp (disch := omega) [r275_47, r275_48, r275_51, r275_54, r275_55, r275_58, r275_60, r275_61, r275_62, r275_68, r275_71, g241, vf12_18, qa187, qo187, qa177, qo177, qa185, qo185, qa192, qo192, vf12_87, vf12_96, t241_96, g294, p294, p241_87, ty12_87, List.getElem?_cons_zero, List.getElem?_cons_succ, List.length_cons, List.length_nil, ag_nx, ag_dn, ag_no, ag_if, jbr1, jbr2, jc1, jc2, jnul, jld, jsto, jstoL, jst1, jst2, jkill, jinc, jbI, jbL, jbS, juI, jl2i, jcmp, jisR, jisI, jisL, jret, jretv, jfits, jdup, jdup2, jpop, jmm, jcat, Value.category, jinv, jrcv, jthr, jhd, jput, jget, jlen, jald, jast, jaast, jgI, jgL, jgB, jtab, jlku, jacp, vf20, vf21, vf22, vf23, vf24, u2_s, u2_k, u2_i, uc_s, uc_k, uc_c, u2_c, LI0, LI1, LI2, LI3, LI4, LI5, LI6, LI7, LI8, LI9, LI10, LI11, LI12, LI13, LI14, LI15, LI16, LI17, LI18, LI19, LI20, LI21, LI22, LI23, LI24, LI25, LI26, LI27, LI28, LI29, LI30, LI31, LI32, LI33, LI34, LI35, LI36, LI37, LI40, LI42, LI43, LI45, LI48, LI60, LI61, LI64, LI80, LI300, LI400, LI1000, LI2000, LI2001, LI2047, LI2048, LI100000, LI1000000, LI38, LI39, LI41, LI44, LI46, LI47, LI49, LI50, LI51, LI52, LI53, LI54, LI55, LI56, LI57, LI58, LI59, LI62, LI63, LI65, LI66, LI67, LI68, LI69, LI70, LI71, LI72, LI73, LI74, LI75, LI76, LI77, LI78, LI79, LI81, LI82, LI83, LI84, LI85, LI86, LI87, LI88, LI89, LI90, LI91, LI92, LI93, LI94, LI95, LI96, LI97, LI98, LI99, LI100, LI101, LI102, LI103, LI104, LI105, LI106, LI107, LI108, LI109, LI110, LI111, LI112, LI113, LI114, LI115, LI116, LI117, LI118, LI119, LI120, LI121, LI122, LI123, LI124, LI125, LI126, LI127, LI255, LI256, LI999, LI1001, LI1002, LI1600, LI4096, LI1000001, LI2042, LM, nI_clamp, nI_pos', nI_lt, nI_nlt, nI_le, nI_ge, nI_ne, nI_add, nI_sub, mI_lt, mI_le, mI_nlt, mI_nle, mI_ne, mI_ne', mI_nem, h2, k8, hx]
theorem r177v {X : jXX} {I : Nat → Nat → Int32} {n : Nat} {x : Int32} : jcall A jcode (d + 1) 177 [.ref (b + 241), .int x] (jH h b X I J R n) = some (.inl (some (.ref (b + 242))), (jH h b X (u2 I 241 2 x) J R n)) := by
  simp (disch := omega) [je177, r177_0, r177_1, r177_2, r177_5, r177_6, r177_9, g241, p241_2, ty12_2, vf12_1, t241_1, List.getElem?_cons_zero, List.getElem?_cons_succ, List.length_cons, List.length_nil, ag_nx, ag_dn, ag_no, ag_if, jbr1, jbr2, jc1, jc2, jnul, jld, jsto, jstoL, jst1, jst2, jkill, jinc, jbI, jbL, jbS, juI, jl2i, jcmp, jisR, jisI, jisL, jret, jretv, jfits, jdup, jdup2, jpop, jmm, jcat, Value.category, jinv, jrcv, jthr, jhd, jput, jget, jlen, jald, jast, jaast, jgI, jgL, jgB, jtab, jlku, jacp, vf20, vf21, vf22, vf23, vf24, u2_s, u2_k, u2_i, uc_s, uc_k, uc_c, u2_c, LI0, LI1, LI2, LI3, LI4, LI5, LI6, LI7, LI8, LI9, LI10, LI11, LI12, LI13, LI14, LI15, LI16, LI17, LI18, LI19, LI20, LI21, LI22, LI23, LI24, LI25, LI26, LI27, LI28, LI29, LI30, LI31, LI32, LI33, LI34, LI35, LI36, LI37, LI40, LI42, LI43, LI45, LI48, LI60, LI61, LI64, LI80, LI300, LI400, LI1000, LI2000, LI2001, LI2047, LI2048, LI100000, LI1000000, LI38, LI39, LI41, LI44, LI46, LI47, LI49, LI50, LI51, LI52, LI53, LI54, LI55, LI56, LI57, LI58, LI59, LI62, LI63, LI65, LI66, LI67, LI68, LI69, LI70, LI71, LI72, LI73, LI74, LI75, LI76, LI77, LI78, LI79, LI81, LI82, LI83, LI84, LI85, LI86, LI87, LI88, LI89, LI90, LI91, LI92, LI93, LI94, LI95, LI96, LI97, LI98, LI99, LI100, LI101, LI102, LI103, LI104, LI105, LI106, LI107, LI108, LI109, LI110, LI111, LI112, LI113, LI114, LI115, LI116, LI117, LI118, LI119, LI120, LI121, LI122, LI123, LI124, LI125, LI126, LI127, LI255, LI256, LI999, LI1001, LI1002, LI1600, LI4096, LI1000001, LI2042, LM, nI_clamp, nI_pos', nI_lt, nI_nlt, nI_le, nI_ge, nI_ne, nI_add, nI_sub, mI_lt, mI_le, mI_nlt, mI_nle, mI_ne, mI_ne', mI_nem]
/-- a line is found, put behind, or there is no place for it -/
theorem r275k {z : rZ} {s : hS} {x v1 : Int32} {l : Option (Int64 × Int32)} {j j1 dp : Nat} (hq : rQ t N m B0 M0 j1 dp z) (hj : j ≤ m) (hs : rHc z.2.1 z.2.2.2.1 s) (hl : rLn z.2.1 z.2.2.2.1 x l) : ∃ z', rSc z z' ∧ ((lnS l s.2 = none ∧ M275 A (d + 1) 42 [some (.ref (b + 241)), some (.int v1), some (.int x), some (.int (nI (tpos t N j))), none] [] (HZ h b J R z) = some (.inr 11, HZ h b J R z') ∧ rF t N m B0 M0 j z') ∨ ∃ i ls', lnS l s.2 = some (i, ls') ∧ M275 A (d + 1) 42 [some (.ref (b + 241)), some (.int v1), some (.int x), some (.int (nI (tpos t N j))), none] [] (HZ h b J R z) = some (.inl (some (.int (nI i))), HZ h b J R z') ∧ rQ t N m B0 M0 j1 dp z' ∧ rHc z'.2.1 z'.2.2.2.1 (s.1, ls')) := by
  obtain ⟨X, I, n, nn, nb, M⟩ := z
  simp only at hs hl
  have hs' := hs
  obtain ⟨a3, a4, a5, a6, a7, a8, a9⟩ := hs'
  have hnm : rNm X I nn nb := hq.1.2.2.1
  have hinj : ∀ w w', w < nn → w' < nn → rnm I w = rnm I w' → w = w' := hnm.2.2.2.2.2.2.2.2.2.2.2.2.1
  have hnn : nn ≤ 2 ^ 20 := by obtain ⟨_, _, x3, _, _, _, _, _, x9, _⟩ := hnm; omega
  have el := r275l (A := A) (d := d + 1) (b := b) (h := h) (X := X) (J := J) (R := R) (n := n) (x := x) (v1 := v1) (v3 := nI (tpos t N j)) a4 a5 s.2.length 0 (by omega)
  have hfd : fdP (fun i => decide (I 294 i = x)) s.2.length 0 = s.2.findIdx? (fun y => decide (y = l)) := by
    rw [fdP_idx (f := fun y => decide (y = l)) s.2 0 (fun i y hy => ?_)]
    · cases s.2.findIdx? (fun y => decide (y = l)) with
      | none => rfl
      | some i => simp
    · rw [Nat.zero_add]
      exact decide_eq_decide.mpr (rLn_e hnn hinj (a9 i y hy) hl)
  rw [hfd] at el
  have e42 : M275 A (d + 1) 42 [some (.ref (b + 241)), some (.int v1), some (.int x), some (.int (nI (tpos t N j))), none] [] (jH h b X I J R n) = M275 A (d + 1) 45 [some (.ref (b + 241)), some (.int v1), some (.int x), some (.int (nI (tpos t N j))), some (.int (nI 0))] [] (jH h b X I J R n) := by
    simp (disch := omega) [r275_42, r275_43, List.getElem?_cons_zero, List.getElem?_cons_succ, List.length_cons, List.length_nil, ag_nx, ag_dn, ag_no, ag_if, jbr1, jbr2, jc1, jc2, jnul, jld, jsto, jstoL, jst1, jst2, jkill, jinc, jbI, jbL, jbS, juI, jl2i, jcmp, jisR, jisI, jisL, jret, jretv, jfits, jdup, jdup2, jpop, jmm, jcat, Value.category, jinv, jrcv, jthr, jhd, jput, jget, jlen, jald, jast, jaast, jgI, jgL, jgB, jtab, jlku, jacp, vf20, vf21, vf22, vf23, vf24, u2_s, u2_k, u2_i, uc_s, uc_k, uc_c, u2_c, LI0, LI1, LI2, LI3, LI4, LI5, LI6, LI7, LI8, LI9, LI10, LI11, LI12, LI13, LI14, LI15, LI16, LI17, LI18, LI19, LI20, LI21, LI22, LI23, LI24, LI25, LI26, LI27, LI28, LI29, LI30, LI31, LI32, LI33, LI34, LI35, LI36, LI37, LI40, LI42, LI43, LI45, LI48, LI60, LI61, LI64, LI80, LI300, LI400, LI1000, LI2000, LI2001, LI2047, LI2048, LI100000, LI1000000, LI38, LI39, LI41, LI44, LI46, LI47, LI49, LI50, LI51, LI52, LI53, LI54, LI55, LI56, LI57, LI58, LI59, LI62, LI63, LI65, LI66, LI67, LI68, LI69, LI70, LI71, LI72, LI73, LI74, LI75, LI76, LI77, LI78, LI79, LI81, LI82, LI83, LI84, LI85, LI86, LI87, LI88, LI89, LI90, LI91, LI92, LI93, LI94, LI95, LI96, LI97, LI98, LI99, LI100, LI101, LI102, LI103, LI104, LI105, LI106, LI107, LI108, LI109, LI110, LI111, LI112, LI113, LI114, LI115, LI116, LI117, LI118, LI119, LI120, LI121, LI122, LI123, LI124, LI125, LI126, LI127, LI255, LI256, LI999, LI1001, LI1002, LI1600, LI4096, LI1000001, LI2042, LM, nI_clamp, nI_pos', nI_lt, nI_nlt, nI_le, nI_ge, nI_ne, nI_add, nI_sub, mI_lt, mI_le, mI_nlt, mI_nle, mI_ne, mI_ne', mI_nem]
  have hpos := tpos_N (t := t) (N := N) (j := j)
  cases hf : s.2.findIdx? (fun y => decide (y = l)) with
  | some i =>
    rw [hf] at el
    exact ⟨(X, I, n, nn, nb, M), rSc_refl, Or.inr ⟨i, s.2, by unfold lnS; rw [hf], e42.trans el, hq, hs⟩⟩
  | none =>
    rw [hf] at el
    by_cases h8 : s.2.length < 8
    · obtain ⟨I', hI'⟩ : ∃ I', I' = u2 (u2 I 294 s.2.length x) 241 87 (nI (s.2.length + 1)) := ⟨_, rfl⟩
      have f : ∀ c i, ¬ (c = 241 ∧ i = 87) → ¬ (c = 294 ∧ i = s.2.length) → I' c i = I c i := fun c i h1 h2 => by rw [hI', u2_o _ _ h1, u2_o _ _ h2]
      have fc : ∀ c i, ¬ cHl c i → I' c i = I c i := fun c i hc => f c i (by unfold cHl at hc; omega) (by unfold cHl at hc; omega)
      have hr : ∀ u, rnm I' u = rnm I u := fun u => rnm_e (fun c i c1 c2 => f c i (by omega) (by omega))
      refine ⟨(X, I', n, nn, nb, M), rSc_c (z := (X, I, n, nn, nb, M)) fc, Or.inr ⟨s.2.length, s.2 ++ [l], by unfold lnS; rw [hf]; exact if_pos h8, ?_, rQ_c hq fc, ?_⟩⟩
      · refine (e42.trans el).trans ?_
        have n8 : ¬ nI s.2.length = nI 8 := nI_ne (by omega) (by omega) (by omega)
        show _ = (some (.inl (some (.int (nI s.2.length))), jH h b X I' J R n) : Option (jO × jS))
        rw [hI']
        simp (disch := omega) [r275_74, r275_75, r275_78, r275_80, r275_89, r275_90, r275_93, r275_94, r275_97, r275_98, r275_99, r275_100, r275_101, r275_104, r275_105, r275_106, r275_109, r275_110, r275_113, r275_114, r275_115, g241, vf12_18, qa187, qo187, qa177, qo177, qa185, qo185, qa192, qo192, vf12_87, vf12_96, t241_96, g294, p294, p241_87, ty12_87, List.getElem?_cons_zero, List.getElem?_cons_succ, List.length_cons, List.length_nil, ag_nx, ag_dn, ag_no, ag_if, jbr1, jbr2, jc1, jc2, jnul, jld, jsto, jstoL, jst1, jst2, jkill, jinc, jbI, jbL, jbS, juI, jl2i, jcmp, jisR, jisI, jisL, jret, jretv, jfits, jdup, jdup2, jpop, jmm, jcat, Value.category, jinv, jrcv, jthr, jhd, jput, jget, jlen, jald, jast, jaast, jgI, jgL, jgB, jtab, jlku, jacp, vf20, vf21, vf22, vf23, vf24, u2_s, u2_k, u2_i, uc_s, uc_k, uc_c, u2_c, LI0, LI1, LI2, LI3, LI4, LI5, LI6, LI7, LI8, LI9, LI10, LI11, LI12, LI13, LI14, LI15, LI16, LI17, LI18, LI19, LI20, LI21, LI22, LI23, LI24, LI25, LI26, LI27, LI28, LI29, LI30, LI31, LI32, LI33, LI34, LI35, LI36, LI37, LI40, LI42, LI43, LI45, LI48, LI60, LI61, LI64, LI80, LI300, LI400, LI1000, LI2000, LI2001, LI2047, LI2048, LI100000, LI1000000, LI38, LI39, LI41, LI44, LI46, LI47, LI49, LI50, LI51, LI52, LI53, LI54, LI55, LI56, LI57, LI58, LI59, LI62, LI63, LI65, LI66, LI67, LI68, LI69, LI70, LI71, LI72, LI73, LI74, LI75, LI76, LI77, LI78, LI79, LI81, LI82, LI83, LI84, LI85, LI86, LI87, LI88, LI89, LI90, LI91, LI92, LI93, LI94, LI95, LI96, LI97, LI98, LI99, LI100, LI101, LI102, LI103, LI104, LI105, LI106, LI107, LI108, LI109, LI110, LI111, LI112, LI113, LI114, LI115, LI116, LI117, LI118, LI119, LI120, LI121, LI122, LI123, LI124, LI125, LI126, LI127, LI255, LI256, LI999, LI1001, LI1002, LI1600, LI4096, LI1000001, LI2042, LM, nI_clamp, nI_pos', nI_lt, nI_nlt, nI_le, nI_ge, nI_ne, nI_add, nI_sub, mI_lt, mI_le, mI_nlt, mI_nle, mI_ne, mI_ne', mI_nem, a4, n8, h8]
      · show rHc I' nn (s.1, s.2 ++ [l])
        refine ⟨(f _ _ (by omega) (by omega)).trans a3, by rw [hI', u2_s]; simp, by simp; omega, a6, ?_, fun i m hm' => ?_, fun i l' hl' => ?_⟩
        · rw [List.nodup_append]
          refine ⟨a7, by simp, fun a ha c hc => ?_⟩
          simp only [List.mem_singleton] at hc
          subst hc
          intro e
          subst e
          have := List.findIdx?_eq_none_iff.mp hf a ha
          simp at this
        · obtain ⟨d1, d2, d3, d4, d5⟩ := a8 i m hm'
          rw [f 290 i (by omega) (by omega), f 291 i (by omega) (by omega), f 292 i (by omega) (by omega)]
          exact ⟨by simp; omega, by simp; omega, d3, d4, rLn_mo (Nat.le_refl _) (fun u _ => hr u) d5⟩
        · by_cases e : i = s.2.length
          · subst e
            have : l' = l := by simpa using hl'.symm
            subst this
            have e9 : I' 294 s.2.length = x := by rw [hI', u2_o _ _ (by omega), u2_s]
            rw [e9]
            exact rLn_mo (Nat.le_refl _) (fun u _ => hr u) hl
          · rw [f 294 i (by omega) (by omega)]
            have hi : i < s.2.length := by
              have := lt_of_some hl'
              simp at this
              omega
            rw [List.getElem?_append_left hi] at hl'
            exact rLn_mo (Nat.le_refl _) (fun u _ => hr u) (a9 i l' hl')
    · have e8 : s.2.length = 8 := by omega
      rw [e8] at el a4
      have fc : ∀ c i, ¬ cHl c i → u2 I 241 2 (nI (tpos t N j)) c i = I c i := fun c i hc => u2_o _ _ (by unfold cHl at hc; omega)
      refine ⟨(X, u2 I 241 2 (nI (tpos t N j)), n, nn, nb, M), rSc_c (z := (X, I, n, nn, nb, M)) fc, Or.inl ⟨by unfold lnS; rw [hf]; exact if_neg h8, ?_, (rQ_c hq fc).1, (by show u2 I 241 2 (nI (tpos t N j)) 241 2 = _; exact u2_s), hj⟩⟩
      refine (e42.trans el).trans ?_
      have e177 := r177v (A := A) (d := d) (b := b) (h := h) (X := X) (I := I) (J := J) (R := R) (n := n) (x := nI (tpos t N j))
      simp (disch := omega) [r275_74, r275_75, r275_78, r275_80, r275_83, r275_84, r275_85, r275_88, g241, vf12_18, qa187, qo187, qa177, qo177, qa185, qo185, qa192, qo192, vf12_87, vf12_96, t241_96, g294, p294, p241_87, ty12_87, List.getElem?_cons_zero, List.getElem?_cons_succ, List.length_cons, List.length_nil, ag_nx, ag_dn, ag_no, ag_if, jbr1, jbr2, jc1, jc2, jnul, jld, jsto, jstoL, jst1, jst2, jkill, jinc, jbI, jbL, jbS, juI, jl2i, jcmp, jisR, jisI, jisL, jret, jretv, jfits, jdup, jdup2, jpop, jmm, jcat, Value.category, jinv, jrcv, jthr, jhd, jput, jget, jlen, jald, jast, jaast, jgI, jgL, jgB, jtab, jlku, jacp, vf20, vf21, vf22, vf23, vf24, u2_s, u2_k, u2_i, uc_s, uc_k, uc_c, u2_c, LI0, LI1, LI2, LI3, LI4, LI5, LI6, LI7, LI8, LI9, LI10, LI11, LI12, LI13, LI14, LI15, LI16, LI17, LI18, LI19, LI20, LI21, LI22, LI23, LI24, LI25, LI26, LI27, LI28, LI29, LI30, LI31, LI32, LI33, LI34, LI35, LI36, LI37, LI40, LI42, LI43, LI45, LI48, LI60, LI61, LI64, LI80, LI300, LI400, LI1000, LI2000, LI2001, LI2047, LI2048, LI100000, LI1000000, LI38, LI39, LI41, LI44, LI46, LI47, LI49, LI50, LI51, LI52, LI53, LI54, LI55, LI56, LI57, LI58, LI59, LI62, LI63, LI65, LI66, LI67, LI68, LI69, LI70, LI71, LI72, LI73, LI74, LI75, LI76, LI77, LI78, LI79, LI81, LI82, LI83, LI84, LI85, LI86, LI87, LI88, LI89, LI90, LI91, LI92, LI93, LI94, LI95, LI96, LI97, LI98, LI99, LI100, LI101, LI102, LI103, LI104, LI105, LI106, LI107, LI108, LI109, LI110, LI111, LI112, LI113, LI114, LI115, LI116, LI117, LI118, LI119, LI120, LI121, LI122, LI123, LI124, LI125, LI126, LI127, LI255, LI256, LI999, LI1001, LI1002, LI1600, LI4096, LI1000001, LI2042, LM, nI_clamp, nI_pos', nI_lt, nI_nlt, nI_le, nI_ge, nI_ne, nI_add, nI_sub, mI_lt, mI_le, mI_nlt, mI_nle, mI_ne, mI_ne', mI_nem, a4, e177, jath, g242]
end RHA
