/-! the reference reads: its state, tokens -/
/-- rows, cells, slots taken, names, their bytes, nodes -/
abbrev rZ : Type := jXX × (Nat → Nat → Int32) × Nat × Nat × Nat × Nat
abbrev HZ (h : Nat → Option jC) (b : Nat) (J : Nat → Nat → Int64) (R : Nat → Nat → Nat) (z : rZ) : jS := jH h b z.1 z.2.1 J R z.2.2.1
def ndC (X : jXX) (M : Nat) : Prop := ∃ cap, (∀ v, 251 ≤ v → v ≤ 258 → cp X v = cap) ∧ M ≤ cap ∧ 1024 ≤ cap ∧ (cap ≤ 1024 + 2 * M ∨ cap ≤ 9100)
/-- names and nodes are as they must be -/
def rB (t : Nat → Int32) (N m B0 M0 : Nat) (z : rZ) : Prop := z.2.1 241 14 = nI N ∧ z.2.1 249 = t ∧ rNm z.1 z.2.1 z.2.2.2.1 z.2.2.2.2.1 ∧ cpT z.1 z.2.2.2.1 z.2.2.2.2.1 ∧ z.2.2.2.2.1 ≤ B0 + N + 12 ∧ z.2.1 241 29 = nI z.2.2.2.2.2 ∧ ndC z.1 z.2.2.2.2.2 ∧ z.2.2.2.2.2 ≤ M0 + m
/-- token j stands next, d brackets are open -/
def rQ (t : Nat → Int32) (N m B0 M0 : Nat) (j dp : Nat) (z : rZ) : Prop := rB t N m B0 M0 z ∧ rTk t N (tpos t N j) z.2.1 z.2.2.2.1 ∧ (KK t N j ≠ 28 → z.2.1 241 15 = nI (tkX t N (tpos t N j)) ∧ z.2.2.2.2.1 ≤ B0 + tkX t N (tpos t N j)) ∧ z.2.1 241 30 = nI dp ∧ j ≤ m ∧ z.2.2.2.2.2 ≤ M0 + j
/-- it can't stand: token j -/
def rF (t : Nat → Int32) (N m B0 M0 : Nat) (j : Nat) (z : rZ) : Prop := rB t N m B0 M0 z ∧ z.2.1 241 2 = nI (tpos t N j) ∧ j ≤ m
/-- nothing but names, new nodes and where it is -/
def fP (M : Nat) (I I' : Nat → Nat → Int32) : Prop := ∀ c i, ¬ (243 ≤ c ∧ c ≤ 247) → ¬ (251 ≤ c ∧ c ≤ 258 ∧ M ≤ i) → ¬ (c = 241 ∧ (i = 2 ∨ i = 8 ∨ i = 9 ∨ (15 ≤ i ∧ i ≤ 18) ∨ i = 20 ∨ i = 29 ∨ i = 30)) → I' c i = I c i
def rSt (z z' : rZ) : Prop := fP z.2.2.2.2.2 z.2.1 z'.2.1 ∧ z.2.2.2.1 ≤ z'.2.2.2.1 ∧ (∀ u, u < z.2.2.2.1 → rnm z'.2.1 u = rnm z.2.1 u) ∧ gro z.1 z.2.2.1 z'.1 z'.2.2.1 ∧ cp z'.1 206 = cp z.1 206 ∧ z.2.2.2.2.2 ≤ z'.2.2.2.2.2
theorem fP_trans {M M1 : Nat} {I I1 I2 : Nat → Nat → Int32} (h : fP M I I1) (h2 : fP M1 I1 I2) (hM : M ≤ M1) : fP M I I2 := fun c i a b e => (h2 c i a (by omega) e).trans (h c i a b e)
theorem rSt_refl {z : rZ} : rSt z z := ⟨fun _ _ _ _ _ => rfl, Nat.le_refl _, fun _ _ => rfl, gro_refl, rfl, Nat.le_refl _⟩
theorem rSt_trans {z z1 z2 : rZ} (h : rSt z z1) (h2 : rSt z1 z2) : rSt z z2 := ⟨fP_trans h.1 h2.1 h.2.2.2.2.2, Nat.le_trans h.2.1 h2.2.1, fun u hu => (h2.2.2.1 u (Nat.lt_of_lt_of_le hu h.2.1)).trans (h.2.2.1 u hu), gro_trans h.2.2.2.1 h2.2.2.2.1, h2.2.2.2.2.1.trans h.2.2.2.2.1, Nat.le_trans h.2.2.2.2.2 h2.2.2.2.2.2⟩
/-- what holds of the text and the room -/
def rCx (A : Nat → Nat) (t : Nat → Int32) (N m B0 M0 : Nat) : Prop := jAp0 A ∧ N ≤ 2000 ∧ kOK (KK t N) m ∧ B0 ≤ 2 ^ 17 ∧ M0 ≤ 2 ^ 17
theorem tpos_N {t : Nat → Int32} {N j : Nat} : tpos t N j ≤ N := tpos_le j
theorem rTk_k {t : Nat → Int32} {N j nn : Nat} {I : Nat → Nat → Int32} (h : rTk t N (tpos t N j) I nn) : I 241 18 = nI (tpos t N j) ∧ I 241 16 = kcd (KK t N j) ∧ (KK t N j = 26 → ∃ w, w < nn ∧ I 241 17 = nI w ∧ rnm I w = (tkH t N (tpos t N j), tkD t N (tpos t N j))) ∧ (KK t N j = 27 → I 241 17 = tkNu t N (tpos t N j)) ∧ (KK t N j ≤ 25 ∨ 30 ≤ KK t N j → I 241 17 = wcd (KK t N j)) := by
  obtain ⟨h1, k, h2, h3, h4, h5, h6, h7⟩ := h
  have hk := okK_lt h2
  have : KK t N j = k := by
    unfold KK
    rw [h3]
    exact nI_clamp (by omega)
  rw [this]
  exact ⟨h1, h4, h5, h6, h7⟩
theorem kcd_4 : ∀ k, k < 128 → (kcd k = nI 4 ↔ 30 ≤ k) := by decide
theorem kcd_2 : ∀ k, k < 128 → (kcd k = nI 2 ↔ k ≤ 25) := by decide
theorem kcd_1 : ∀ k, k < 128 → (kcd k = nI 1 ↔ k = 26) := by decide
theorem kcd_3 : ∀ k, k < 128 → (kcd k = nI 3 ↔ k = 27) := by decide
theorem kcd_0 : ∀ k, k < 128 → (kcd k = nI 0 ↔ k = 29) := by decide
theorem wcd_i4 : ∀ k, k < 128 → ∀ k0, k0 < 128 → 30 ≤ k → 30 ≤ k0 → (wcd k = wcd k0 ↔ k = k0) := by decide +kernel
theorem wcd_i2 : ∀ k, k < 26 → ∀ k0, k0 < 26 → 1 ≤ k → 1 ≤ k0 → (wcd k = wcd k0 ↔ k = k0) := by decide +kernel
theorem okK_1 {k : Nat} (h : okK k) : 1 ≤ k := by
  have : ∀ k ∈ ([1, 2, 3, 4, 5, 6, 7, 8, 9, 10, 11, 12, 13, 14, 15, 16, 17, 18, 19, 20, 21, 22, 23, 24, 25, 26, 27, 28, 29, 30, 123, 125, 40, 41, 59, 44, 61, 60, 43, 45, 42, 62, 58] : List Nat), 1 ≤ k := by decide
  exact this k h
section RLF
variable {A : Nat → Nat} {d b : Nat} {h : Nat → Option jC} {J : Nat → Nat → Int64} {R : Nat → Nat → Nat} {t : Nat → Int32} {N m B0 M0 : Nat}
theorem r186 {z : rZ} {j dp k0 : Nat} (hq : rQ t N m B0 M0 j dp z) (h0 : 30 ≤ k0) (h1 : k0 < 128) : jcall A jcode (d + 1) 186 [.ref (b + 241), .int (wcd k0)] (HZ h b J R z) = some (.inl (some (.int (if KK t N j = k0 then nI 1 else nI 0))), HZ h b J R z) := by
  obtain ⟨X, I, n, nn, nb, M⟩ := z
  obtain ⟨hB, hT, _⟩ := hq
  obtain ⟨_, s16, _, _, s17⟩ := rTk_k hT
  simp only at s16 s17 ⊢
  have hk := okK_lt (KK_e (t := t) (N := N) (j := j)).1
  by_cases h30 : 30 ≤ KK t N j
  · have e4 := (kcd_4 _ hk).mpr h30
    rw [e4] at s16
    have e17 := s17 (Or.inr h30)
    by_cases hkk : KK t N j = k0
    · rw [if_pos hkk]
      rw [hkk] at e17
      simp (disch := omega) [je186, r186_0, r186_1, r186_4, r186_5, r186_8, r186_9, r186_12, r186_13, r186_16, r186_17, r186_20, r186_21, g241, vf12_16, vf12_17, List.getElem?_cons_zero, List.getElem?_cons_succ, List.length_cons, List.length_nil, ag_nx, ag_dn, ag_no, ag_if, jbr1, jbr2, jc1, jc2, jnul, jld, jsto, jstoL, jst1, jst2, jkill, jinc, jbI, jbL, jbS, juI, jl2i, jcmp, jisR, jisI, jisL, jret, jretv, jfits, jdup, jdup2, jpop, jmm, jcat, Value.category, jinv, jrcv, jthr, jhd, jput, jget, jlen, jald, jast, jaast, jgI, jgL, jgB, jtab, jlku, jacp, vf20, vf21, vf22, vf23, vf24, u2_s, u2_k, u2_i, uc_s, uc_k, uc_c, u2_c, LI0, LI1, LI2, LI3, LI4, LI5, LI6, LI7, LI8, LI9, LI10, LI11, LI12, LI13, LI14, LI15, LI16, LI17, LI18, LI19, LI20, LI21, LI22, LI23, LI24, LI25, LI26, LI27, LI28, LI29, LI30, LI31, LI32, LI33, LI34, LI35, LI36, LI37, LI40, LI42, LI43, LI45, LI48, LI60, LI61, LI64, LI80, LI300, LI400, LI1000, LI2000, LI2001, LI2047, LI2048, LI100000, LI1000000, LI38, LI39, LI41, LI44, LI46, LI47, LI49, LI50, LI51, LI52, LI53, LI54, LI55, LI56, LI57, LI58, LI59, LI62, LI63, LI65, LI66, LI67, LI68, LI69, LI70, LI71, LI72, LI73, LI74, LI75, LI76, LI77, LI78, LI79, LI81, LI82, LI83, LI84, LI85, LI86, LI87, LI88, LI89, LI90, LI91, LI92, LI93, LI94, LI95, LI96, LI97, LI98, LI99, LI100, LI101, LI102, LI103, LI104, LI105, LI106, LI107, LI108, LI109, LI110, LI111, LI112, LI113, LI114, LI115, LI116, LI117, LI118, LI119, LI120, LI121, LI122, LI123, LI124, LI125, LI126, LI127, LI255, LI256, LI999, LI1001, LI1002, LI1600, LI4096, LI1000001, LI2042, LM, nI_clamp, nI_pos', nI_lt, nI_nlt, nI_le, nI_ge, nI_ne, nI_add, nI_sub, mI_lt, mI_le, mI_nlt, mI_nle, mI_ne, mI_ne', mI_nem, s16, e17]
    · rw [if_neg hkk]
      have hne : ¬ wcd (KK t N j) = wcd k0 := fun z => hkk ((wcd_i4 _ hk _ h1 h30 h0).mp z)
      simp (disch := omega) [je186, r186_0, r186_1, r186_4, r186_5, r186_8, r186_9, r186_12, r186_13, r186_16, r186_17, r186_20, r186_21, g241, vf12_16, vf12_17, List.getElem?_cons_zero, List.getElem?_cons_succ, List.length_cons, List.length_nil, ag_nx, ag_dn, ag_no, ag_if, jbr1, jbr2, jc1, jc2, jnul, jld, jsto, jstoL, jst1, jst2, jkill, jinc, jbI, jbL, jbS, juI, jl2i, jcmp, jisR, jisI, jisL, jret, jretv, jfits, jdup, jdup2, jpop, jmm, jcat, Value.category, jinv, jrcv, jthr, jhd, jput, jget, jlen, jald, jast, jaast, jgI, jgL, jgB, jtab, jlku, jacp, vf20, vf21, vf22, vf23, vf24, u2_s, u2_k, u2_i, uc_s, uc_k, uc_c, u2_c, LI0, LI1, LI2, LI3, LI4, LI5, LI6, LI7, LI8, LI9, LI10, LI11, LI12, LI13, LI14, LI15, LI16, LI17, LI18, LI19, LI20, LI21, LI22, LI23, LI24, LI25, LI26, LI27, LI28, LI29, LI30, LI31, LI32, LI33, LI34, LI35, LI36, LI37, LI40, LI42, LI43, LI45, LI48, LI60, LI61, LI64, LI80, LI300, LI400, LI1000, LI2000, LI2001, LI2047, LI2048, LI100000, LI1000000, LI38, LI39, LI41, LI44, LI46, LI47, LI49, LI50, LI51, LI52, LI53, LI54, LI55, LI56, LI57, LI58, LI59, LI62, LI63, LI65, LI66, LI67, LI68, LI69, LI70, LI71, LI72, LI73, LI74, LI75, LI76, LI77, LI78, LI79, LI81, LI82, LI83, LI84, LI85, LI86, LI87, LI88, LI89, LI90, LI91, LI92, LI93, LI94, LI95, LI96, LI97, LI98, LI99, LI100, LI101, LI102, LI103, LI104, LI105, LI106, LI107, LI108, LI109, LI110, LI111, LI112, LI113, LI114, LI115, LI116, LI117, LI118, LI119, LI120, LI121, LI122, LI123, LI124, LI125, LI126, LI127, LI255, LI256, LI999, LI1001, LI1002, LI1600, LI4096, LI1000001, LI2042, LM, nI_clamp, nI_pos', nI_lt, nI_nlt, nI_le, nI_ge, nI_ne, nI_add, nI_sub, mI_lt, mI_le, mI_nlt, mI_nle, mI_ne, mI_ne', mI_nem, s16, e17, hne]
  · rw [if_neg (by omega)]
    have hne : ¬ kcd (KK t N j) = nI 4 := fun z => h30 ((kcd_4 _ hk).mp z)
    simp (disch := omega) [je186, r186_0, r186_1, r186_4, r186_5, r186_8, r186_9, r186_12, r186_13, r186_16, r186_17, r186_20, r186_21, g241, vf12_16, vf12_17, List.getElem?_cons_zero, List.getElem?_cons_succ, List.length_cons, List.length_nil, ag_nx, ag_dn, ag_no, ag_if, jbr1, jbr2, jc1, jc2, jnul, jld, jsto, jstoL, jst1, jst2, jkill, jinc, jbI, jbL, jbS, juI, jl2i, jcmp, jisR, jisI, jisL, jret, jretv, jfits, jdup, jdup2, jpop, jmm, jcat, Value.category, jinv, jrcv, jthr, jhd, jput, jget, jlen, jald, jast, jaast, jgI, jgL, jgB, jtab, jlku, jacp, vf20, vf21, vf22, vf23, vf24, u2_s, u2_k, u2_i, uc_s, uc_k, uc_c, u2_c, LI0, LI1, LI2, LI3, LI4, LI5, LI6, LI7, LI8, LI9, LI10, LI11, LI12, LI13, LI14, LI15, LI16, LI17, LI18, LI19, LI20, LI21, LI22, LI23, LI24, LI25, LI26, LI27, LI28, LI29, LI30, LI31, LI32, LI33, LI34, LI35, LI36, LI37, LI40, LI42, LI43, LI45, LI48, LI60, LI61, LI64, LI80, LI300, LI400, LI1000, LI2000, LI2001, LI2047, LI2048, LI100000, LI1000000, LI38, LI39, LI41, LI44, LI46, LI47, LI49, LI50, LI51, LI52, LI53, LI54, LI55, LI56, LI57, LI58, LI59, LI62, LI63, LI65, LI66, LI67, LI68, LI69, LI70, LI71, LI72, LI73, LI74, LI75, LI76, LI77, LI78, LI79, LI81, LI82, LI83, LI84, LI85, LI86, LI87, LI88, LI89, LI90, LI91, LI92, LI93, LI94, LI95, LI96, LI97, LI98, LI99, LI100, LI101, LI102, LI103, LI104, LI105, LI106, LI107, LI108, LI109, LI110, LI111, LI112, LI113, LI114, LI115, LI116, LI117, LI118, LI119, LI120, LI121, LI122, LI123, LI124, LI125, LI126, LI127, LI255, LI256, LI999, LI1001, LI1002, LI1600, LI4096, LI1000001, LI2042, LM, nI_clamp, nI_pos', nI_lt, nI_nlt, nI_le, nI_ge, nI_ne, nI_add, nI_sub, mI_lt, mI_le, mI_nlt, mI_nle, mI_ne, mI_ne', mI_nem, s16, hne]
theorem r187 {z : rZ} {j dp k0 : Nat} (hq : rQ t N m B0 M0 j dp z) (h0 : 1 ≤ k0) (h1 : k0 ≤ 25) : jcall A jcode (d + 1) 187 [.ref (b + 241), .int (wcd k0)] (HZ h b J R z) = some (.inl (some (.int (if KK t N j = k0 then nI 1 else nI 0))), HZ h b J R z) := by
  obtain ⟨X, I, n, nn, nb, M⟩ := z
  obtain ⟨hB, hT, _⟩ := hq
  obtain ⟨_, s16, _, _, s17⟩ := rTk_k hT
  simp only at s16 s17 ⊢
  have hk := okK_lt (KK_e (t := t) (N := N) (j := j)).1
  have hk1 := okK_1 (KK_e (t := t) (N := N) (j := j)).1
  by_cases h30 : KK t N j ≤ 25
  · have e4 := (kcd_2 _ hk).mpr h30
    rw [e4] at s16
    have e17 := s17 (Or.inl h30)
    by_cases hkk : KK t N j = k0
    · rw [if_pos hkk]
      rw [hkk] at e17
      simp (disch := omega) [je187, r187_0, r187_1, r187_4, r187_5, r187_8, r187_9, r187_12, r187_13, r187_16, r187_17, r187_20, r187_21, g241, vf12_16, vf12_17, List.getElem?_cons_zero, List.getElem?_cons_succ, List.length_cons, List.length_nil, ag_nx, ag_dn, ag_no, ag_if, jbr1, jbr2, jc1, jc2, jnul, jld, jsto, jstoL, jst1, jst2, jkill, jinc, jbI, jbL, jbS, juI, jl2i, jcmp, jisR, jisI, jisL, jret, jretv, jfits, jdup, jdup2, jpop, jmm, jcat, Value.category, jinv, jrcv, jthr, jhd, jput, jget, jlen, jald, jast, jaast, jgI, jgL, jgB, jtab, jlku, jacp, vf20, vf21, vf22, vf23, vf24, u2_s, u2_k, u2_i, uc_s, uc_k, uc_c, u2_c, LI0, LI1, LI2, LI3, LI4, LI5, LI6, LI7, LI8, LI9, LI10, LI11, LI12, LI13, LI14, LI15, LI16, LI17, LI18, LI19, LI20, LI21, LI22, LI23, LI24, LI25, LI26, LI27, LI28, LI29, LI30, LI31, LI32, LI33, LI34, LI35, LI36, LI37, LI40, LI42, LI43, LI45, LI48, LI60, LI61, LI64, LI80, LI300, LI400, LI1000, LI2000, LI2001, LI2047, LI2048, LI100000, LI1000000, LI38, LI39, LI41, LI44, LI46, LI47, LI49, LI50, LI51, LI52, LI53, LI54, LI55, LI56, LI57, LI58, LI59, LI62, LI63, LI65, LI66, LI67, LI68, LI69, LI70, LI71, LI72, LI73, LI74, LI75, LI76, LI77, LI78, LI79, LI81, LI82, LI83, LI84, LI85, LI86, LI87, LI88, LI89, LI90, LI91, LI92, LI93, LI94, LI95, LI96, LI97, LI98, LI99, LI100, LI101, LI102, LI103, LI104, LI105, LI106, LI107, LI108, LI109, LI110, LI111, LI112, LI113, LI114, LI115, LI116, LI117, LI118, LI119, LI120, LI121, LI122, LI123, LI124, LI125, LI126, LI127, LI255, LI256, LI999, LI1001, LI1002, LI1600, LI4096, LI1000001, LI2042, LM, nI_clamp, nI_pos', nI_lt, nI_nlt, nI_le, nI_ge, nI_ne, nI_add, nI_sub, mI_lt, mI_le, mI_nlt, mI_nle, mI_ne, mI_ne', mI_nem, s16, e17]
    · rw [if_neg hkk]
      have hne : ¬ wcd (KK t N j) = wcd k0 := fun z => hkk ((wcd_i2 _ (by omega) _ (by omega) hk1 h0).mp z)
      simp (disch := omega) [je187, r187_0, r187_1, r187_4, r187_5, r187_8, r187_9, r187_12, r187_13, r187_16, r187_17, r187_20, r187_21, g241, vf12_16, vf12_17, List.getElem?_cons_zero, List.getElem?_cons_succ, List.length_cons, List.length_nil, ag_nx, ag_dn, ag_no, ag_if, jbr1, jbr2, jc1, jc2, jnul, jld, jsto, jstoL, jst1, jst2, jkill, jinc, jbI, jbL, jbS, juI, jl2i, jcmp, jisR, jisI, jisL, jret, jretv, jfits, jdup, jdup2, jpop, jmm, jcat, Value.category, jinv, jrcv, jthr, jhd, jput, jget, jlen, jald, jast, jaast, jgI, jgL, jgB, jtab, jlku, jacp, vf20, vf21, vf22, vf23, vf24, u2_s, u2_k, u2_i, uc_s, uc_k, uc_c, u2_c, LI0, LI1, LI2, LI3, LI4, LI5, LI6, LI7, LI8, LI9, LI10, LI11, LI12, LI13, LI14, LI15, LI16, LI17, LI18, LI19, LI20, LI21, LI22, LI23, LI24, LI25, LI26, LI27, LI28, LI29, LI30, LI31, LI32, LI33, LI34, LI35, LI36, LI37, LI40, LI42, LI43, LI45, LI48, LI60, LI61, LI64, LI80, LI300, LI400, LI1000, LI2000, LI2001, LI2047, LI2048, LI100000, LI1000000, LI38, LI39, LI41, LI44, LI46, LI47, LI49, LI50, LI51, LI52, LI53, LI54, LI55, LI56, LI57, LI58, LI59, LI62, LI63, LI65, LI66, LI67, LI68, LI69, LI70, LI71, LI72, LI73, LI74, LI75, LI76, LI77, LI78, LI79, LI81, LI82, LI83, LI84, LI85, LI86, LI87, LI88, LI89, LI90, LI91, LI92, LI93, LI94, LI95, LI96, LI97, LI98, LI99, LI100, LI101, LI102, LI103, LI104, LI105, LI106, LI107, LI108, LI109, LI110, LI111, LI112, LI113, LI114, LI115, LI116, LI117, LI118, LI119, LI120, LI121, LI122, LI123, LI124, LI125, LI126, LI127, LI255, LI256, LI999, LI1001, LI1002, LI1600, LI4096, LI1000001, LI2042, LM, nI_clamp, nI_pos', nI_lt, nI_nlt, nI_le, nI_ge, nI_ne, nI_add, nI_sub, mI_lt, mI_le, mI_nlt, mI_nle, mI_ne, mI_ne', mI_nem, s16, e17, hne]
  · rw [if_neg (by omega)]
    have hne : ¬ kcd (KK t N j) = nI 2 := fun z => h30 ((kcd_2 _ hk).mp z)
    simp (disch := omega) [je187, r187_0, r187_1, r187_4, r187_5, r187_8, r187_9, r187_12, r187_13, r187_16, r187_17, r187_20, r187_21, g241, vf12_16, vf12_17, List.getElem?_cons_zero, List.getElem?_cons_succ, List.length_cons, List.length_nil, ag_nx, ag_dn, ag_no, ag_if, jbr1, jbr2, jc1, jc2, jnul, jld, jsto, jstoL, jst1, jst2, jkill, jinc, jbI, jbL, jbS, juI, jl2i, jcmp, jisR, jisI, jisL, jret, jretv, jfits, jdup, jdup2, jpop, jmm, jcat, Value.category, jinv, jrcv, jthr, jhd, jput, jget, jlen, jald, jast, jaast, jgI, jgL, jgB, jtab, jlku, jacp, vf20, vf21, vf22, vf23, vf24, u2_s, u2_k, u2_i, uc_s, uc_k, uc_c, u2_c, LI0, LI1, LI2, LI3, LI4, LI5, LI6, LI7, LI8, LI9, LI10, LI11, LI12, LI13, LI14, LI15, LI16, LI17, LI18, LI19, LI20, LI21, LI22, LI23, LI24, LI25, LI26, LI27, LI28, LI29, LI30, LI31, LI32, LI33, LI34, LI35, LI36, LI37, LI40, LI42, LI43, LI45, LI48, LI60, LI61, LI64, LI80, LI300, LI400, LI1000, LI2000, LI2001, LI2047, LI2048, LI100000, LI1000000, LI38, LI39, LI41, LI44, LI46, LI47, LI49, LI50, LI51, LI52, LI53, LI54, LI55, LI56, LI57, LI58, LI59, LI62, LI63, LI65, LI66, LI67, LI68, LI69, LI70, LI71, LI72, LI73, LI74, LI75, LI76, LI77, LI78, LI79, LI81, LI82, LI83, LI84, LI85, LI86, LI87, LI88, LI89, LI90, LI91, LI92, LI93, LI94, LI95, LI96, LI97, LI98, LI99, LI100, LI101, LI102, LI103, LI104, LI105, LI106, LI107, LI108, LI109, LI110, LI111, LI112, LI113, LI114, LI115, LI116, LI117, LI118, LI119, LI120, LI121, LI122, LI123, LI124, LI125, LI126, LI127, LI255, LI256, LI999, LI1001, LI1002, LI1600, LI4096, LI1000001, LI2042, LM, nI_clamp, nI_pos', nI_lt, nI_nlt, nI_le, nI_ge, nI_ne, nI_add, nI_sub, mI_lt, mI_le, mI_nlt, mI_nle, mI_ne, mI_ne', mI_nem, s16, hne]
theorem cp_fX {X X' : jXX} {M : Nat} (hf : fX X X') (h : ndC X M) : ndC X' M := by
  obtain ⟨cap, a1, a2, a3, a4⟩ := h
  exact ⟨cap, fun v h1 h2 => (hf v (by omega)).1.trans (a1 v h1 h2), a2, a3, a4⟩
/-- the next token -/
theorem rTok (hc : rCx A t N m B0 M0) {z : rZ} {j dp : Nat} (hq : rQ t N m B0 M0 j dp z) (h8 : KK t N j ≠ 28) (h9 : KK t N j ≠ 29) : ∃ z', jcall A jcode (d + 6) 185 [.ref (b + 241)] (HZ h b J R z) = some (.inl none, HZ h b J R z') ∧ rQ t N m B0 M0 (j + 1) dp z' ∧ rSt z z' ∧ z'.2.2.2.2.2 = z.2.2.2.2.2 ∧ (∀ c i, ¬ (243 ≤ c ∧ c ≤ 247) → ¬ (c = 241 ∧ (i = 8 ∨ i = 9 ∨ (15 ≤ i ∧ i ≤ 18))) → z'.2.1 c i = z.2.1 c i) ∧ (∀ v, 251 ≤ v → v ≤ 258 → ad z'.1 v = ad z.1 v) := by
  obtain ⟨X, I, n, nn, nb, M⟩ := z
  obtain ⟨⟨b1, b2, b3, b4, b5, b6, b7, b8⟩, hT, h15, h30, hj, hM⟩ := hq
  obtain ⟨hA, hN, hk, hB0, hM0⟩ := hc
  simp only at b1 b2 b3 b4 b5 b6 b7 b8 hT h15 h30 hM ⊢
  obtain ⟨h15, hnb⟩ := h15 h8
  have hjm := hk.2.1 j hj h9
  have hX := tkX_le (t := t) (n := N) (q := tpos t N j) tpos_N
  obtain ⟨X', I', n', nn', nb', e, r1, r2, r3, r4, r5, r6, r7, r8, r9, r10, r11⟩ := rToken (d := d) (A := A) (b := b) (h := h) (J := J) (R := R) (X := X) (I := I) (n := n) (t := t) hA hN b1 b2 h15 hX.2 b3 (by omega)
  have hsk : sk t N (tkX t N (tpos t N j)) = tpos t N (j + 1) := rfl
  rw [hsk] at r1 r2
  refine ⟨(X', I', n', nn', nb', M), e, ⟨⟨?_, ?_, r3, r11 b4, ?_, ?_, cp_fX r9 b7, b8⟩, r1, ?_, ?_, by omega, by show M ≤ M0 + (j + 1); omega⟩, ⟨fun c i c1 c2 c3 => r8 c i c1 (by omega), r4, r7, r10, (r9 206 (by omega)).1, Nat.le_refl _⟩, rfl, (fun c i c1 c2 => r8 c i c1 c2), fun v h1 h2 => (r9 v (by omega)).2⟩
  · show I' 241 14 = nI N
    rw [r8 _ _ (by omega) (by omega)]; exact b1
  · show I' 249 = t
    rw [← b2]
    funext i
    exact r8 _ _ (by omega) (by omega)
  · show nb' ≤ B0 + N + 12
    omega
  · show I' 241 29 = nI M
    rw [r8 _ _ (by omega) (by omega)]; exact b6
  · intro hne
    have hne' : ¬ tkK t N (tpos t N (j + 1)) = nI 28 := fun z => hne (by
      have := KK_e (t := t) (N := N) (j := j + 1)
      have hlt := okK_lt this.1
      have e2 := this.2.symm.trans z
      rw [nI_eq (by omega) (by omega)] at e2
      exact e2)
    obtain ⟨q1, q2⟩ := r2 hne'
    refine ⟨q1, ?_⟩
    show nb' ≤ B0 + tkX t N (tpos t N (j + 1))
    omega
  · show I' 241 30 = nI dp
    rw [r8 _ _ (by omega) (by omega)]; exact h30
/-- it is told where -/
theorem r177 {z : rZ} {j dp : Nat} (hq : rQ t N m B0 M0 j dp z) : ∃ z', jcall A jcode (d + 1) 177 [.ref (b + 241), .int (z.2.1 241 18)] (HZ h b J R z) = some (.inl (some (.ref (b + 242))), HZ h b J R z') ∧ rF t N m B0 M0 j z' ∧ rSt z z' ∧ z'.2.1 = u2 z.2.1 241 2 (nI (tpos t N j)) ∧ z'.1 = z.1 ∧ z'.2.2.1 = z.2.2.1 := by
  obtain ⟨X, I, n, nn, nb, M⟩ := z
  obtain ⟨⟨b1, b2, b3, b4, b5, b6, b7, b8⟩, hT, h15, h30, hj, hM⟩ := hq
  obtain ⟨s18, _⟩ := rTk_k hT
  simp only at b1 b2 b3 b4 b5 b6 b7 b8 hT h15 h30 hM s18 ⊢
  refine ⟨(X, u2 I 241 2 (nI (tpos t N j)), n, nn, nb, M), ?_, ⟨⟨?_, ?_, rNm_u (by omega) b3, b4, b5, ?_, b7, b8⟩, (show u2 I 241 2 (nI (tpos t N j)) 241 2 = _ from u2_s), hj⟩, ⟨fun c i c1 c2 c3 => ?_, Nat.le_refl _, fun u hu => rnm_u, gro_refl, rfl, Nat.le_refl _⟩, rfl, rfl, rfl⟩
  · rw [s18]
    simp (disch := omega) [je177, r177_0, r177_1, r177_2, r177_5, r177_6, r177_9, g241, p241_2, ty12_2, vf12_1, t241_1, List.getElem?_cons_zero, List.getElem?_cons_succ, List.length_cons, List.length_nil, ag_nx, ag_dn, ag_no, ag_if, jbr1, jbr2, jc1, jc2, jnul, jld, jsto, jstoL, jst1, jst2, jkill, jinc, jbI, jbL, jbS, juI, jl2i, jcmp, jisR, jisI, jisL, jret, jretv, jfits, jdup, jdup2, jpop, jmm, jcat, Value.category, jinv, jrcv, jthr, jhd, jput, jget, jlen, jald, jast, jaast, jgI, jgL, jgB, jtab, jlku, jacp, vf20, vf21, vf22, vf23, vf24, u2_s, u2_k, u2_i, uc_s, uc_k, uc_c, u2_c, LI0, LI1, LI2, LI3, LI4, LI5, LI6, LI7, LI8, LI9, LI10, LI11, LI12, LI13, LI14, LI15, LI16, LI17, LI18, LI19, LI20, LI21, LI22, LI23, LI24, LI25, LI26, LI27, LI28, LI29, LI30, LI31, LI32, LI33, LI34, LI35, LI36, LI37, LI40, LI42, LI43, LI45, LI48, LI60, LI61, LI64, LI80, LI300, LI400, LI1000, LI2000, LI2001, LI2047, LI2048, LI100000, LI1000000, LI38, LI39, LI41, LI44, LI46, LI47, LI49, LI50, LI51, LI52, LI53, LI54, LI55, LI56, LI57, LI58, LI59, LI62, LI63, LI65, LI66, LI67, LI68, LI69, LI70, LI71, LI72, LI73, LI74, LI75, LI76, LI77, LI78, LI79, LI81, LI82, LI83, LI84, LI85, LI86, LI87, LI88, LI89, LI90, LI91, LI92, LI93, LI94, LI95, LI96, LI97, LI98, LI99, LI100, LI101, LI102, LI103, LI104, LI105, LI106, LI107, LI108, LI109, LI110, LI111, LI112, LI113, LI114, LI115, LI116, LI117, LI118, LI119, LI120, LI121, LI122, LI123, LI124, LI125, LI126, LI127, LI255, LI256, LI999, LI1001, LI1002, LI1600, LI4096, LI1000001, LI2042, LM, nI_clamp, nI_pos', nI_lt, nI_nlt, nI_le, nI_ge, nI_ne, nI_add, nI_sub, mI_lt, mI_le, mI_nlt, mI_nle, mI_ne, mI_ne', mI_nem]
  · show u2 I 241 2 (nI (tpos t N j)) 241 14 = nI N
    rw [u2_i (by omega)]; exact b1
  · show u2 I 241 2 (nI (tpos t N j)) 249 = t
    rw [← b2]
    funext i
    exact u2_k (by omega)
  · show u2 I 241 2 (nI (tpos t N j)) 241 29 = nI M
    rw [u2_i (by omega)]; exact b6
  · show u2 I 241 2 (nI (tpos t N j)) c i = I c i
    unfold u2
    rw [if_neg (by omega)]
end RLF
