/-! tokens speak of the bytes ahead of the end alone; the reference takes the tape -/
section TCG
variable {t t' : Nat → Int32} {n : Nat}
theorem skp_g (h : ∀ i, i < n → t i = t' i) : ∀ (r p : Nat), skp t n r p = skp t' n r p := by
  intro r
  induction r with
  | zero => intro p; rfl
  | succ r ih =>
    intro p
    unfold skp
    by_cases hp : p < n
    · rw [h p hp, ih]
    · rw [if_neg (fun z => hp z.1), if_neg (fun z => hp z.1)]
theorem nmE_g (h : ∀ i, i < n → t i = t' i) : ∀ (r p : Nat), nmE t n r p = nmE t' n r p := by
  intro r
  induction r with
  | zero => intro p; rfl
  | succ r ih =>
    intro p
    unfold nmE
    by_cases hp : p < n
    · rw [h p hp, ih]
    · rw [if_neg (fun z => hp z.1), if_neg (fun z => hp z.1)]
theorem dgE_g (h : ∀ i, i < n → t i = t' i) : ∀ (r p : Nat), dgE t n r p = dgE t' n r p := by
  intro r
  induction r with
  | zero => intro p; rfl
  | succ r ih =>
    intro p
    unfold dgE
    by_cases hp : p < n
    · rw [h p hp, ih]
    · rw [if_neg (fun z => hp z.1), if_neg (fun z => hp z.1)]
theorem dgV_g (h : ∀ i, i < n → t i = t' i) : ∀ (r p v : Nat), dgV t n r p v = dgV t' n r p v := by
  intro r
  induction r with
  | zero => intro p v; rfl
  | succ r ih =>
    intro p v
    unfold dgV
    by_cases hp : p < n
    · rw [h p hp, ih]
    · rw [if_neg (fun z => hp z.1), if_neg (fun z => hp z.1)]
theorem hdF_g {f g : Nat → Int32} : ∀ (k : Nat), (∀ i, i < k → f i = g i) → hdF f k = hdF g k := by
  intro k
  induction k with
  | zero => intro _; rfl
  | succ k ih =>
    intro hh
    unfold hdF
    rw [ih (fun i hi => hh i (by omega)), hh k (by omega)]
theorem tlF_g {f g : Nat → Int32} : ∀ (k : Nat), (∀ i, i < k → f i = g i) → tlF f k = tlF g k := by
  intro k
  induction k with
  | zero => intro _; rfl
  | succ k ih =>
    intro hh
    unfold tlF
    rw [ih (fun i hi => hh i (by omega)), hh k (by omega)]
theorem nmN_g (h : ∀ i, i < n → t i = t' i) (p : Nat) : nmN t n p = nmN t' n p := nmE_g h _ _
theorem dgW_g (h : ∀ i, i < n → t i = t' i) (p : Nat) : dgW t n p = dgW t' n p := dgV_g h _ _ _
theorem hdN_g (h : ∀ i, i < n → t i = t' i) {q : Nat} (hq : q < n) : hdF (fr t q) (nmN t' n q - q) = hdF (fr t' q) (nmN t' n q - q) := by
  have := (nmN_le (t := t') (n := n) (p := q) (by omega)).2
  exact hdF_g _ (fun i hi => h _ (by omega))
theorem tlN_g (h : ∀ i, i < n → t i = t' i) {q : Nat} (hq : q < n) : tlF (fr t q) (nmN t' n q - q) = tlF (fr t' q) (nmN t' n q - q) := by
  have := (nmN_le (t := t') (n := n) (p := q) (by omega)).2
  exact tlF_g _ (fun i hi => h _ (by omega))
theorem tkH_g (h : ∀ i, i < n → t i = t' i) (q : Nat) : tkH t n q = tkH t' n q := by
  unfold tkH
  by_cases hq : q < n
  · rw [nmN_g h, hdN_g h hq, h q hq]
  · rw [if_neg (fun z => hq z.1), if_neg (fun z => hq z.1)]
theorem tkD_g (h : ∀ i, i < n → t i = t' i) (q : Nat) : tkD t n q = tkD t' n q := by
  unfold tkD
  by_cases hq : q < n
  · rw [nmN_g h, tlN_g h hq, h q hq]
  · rw [if_neg (fun z => hq z.1), if_neg (fun z => hq z.1)]
theorem sg2_g (h : ∀ i, i < n → t i = t' i) {q : Nat} : (t' q = nI 61 ∧ q + 1 < n ∧ t (q + 1) = nI 61) = (t' q = nI 61 ∧ q + 1 < n ∧ t' (q + 1) = nI 61) := by
  by_cases hq : q + 1 < n
  · rw [h _ hq]
  · simp [hq]
theorem tkK_g (h : ∀ i, i < n → t i = t' i) (q : Nat) : tkK t n q = tkK t' n q := by
  unfold tkK
  by_cases hq : n ≤ q
  · rw [if_pos hq, if_pos hq]
  · rw [if_neg hq, if_neg hq, nmN_g h, hdN_g h (by omega), tlN_g h (by omega), dgW_g h, h q (by omega)]
    simp only [sg2_g h]
theorem tkNu_g (h : ∀ i, i < n → t i = t' i) (q : Nat) : tkNu t n q = tkNu t' n q := by
  unfold tkNu
  by_cases hq : q < n
  · rw [dgW_g h, h q hq]
  · rw [if_neg (fun z => hq z.1), if_neg (fun z => hq z.1)]
theorem tkX_g (h : ∀ i, i < n → t i = t' i) (q : Nat) : tkX t n q = tkX t' n q := by
  unfold tkX
  by_cases hq : n ≤ q
  · rw [if_pos hq, if_pos hq]
  · rw [if_neg hq, if_neg hq, nmN_g h, dgW_g h, h q (by omega)]
    have : dgN t n q = dgN t' n q := dgE_g h _ _
    rw [this]
    simp only [sg2_g h]
theorem tpos_g (h : ∀ i, i < n → t i = t' i) : ∀ j, tpos t n j = tpos t' n j := by
  intro j
  induction j with
  | zero => exact skp_g h _ _
  | succ j ih =>
    show sk t n (tkX t n (tpos t n j)) = sk t' n (tkX t' n (tpos t' n j))
    rw [ih, tkX_g h]
    exact skp_g h _ _
theorem tkS_g {I : Nat → Nat → Int32} {J : Nat → Nat → Int64} {m : Nat} (h : ∀ i, i < n → t i = t' i) (hT : tkS t n I J m) : tkS t' n I J m := by
  obtain ⟨a1, a2, a3, a4, a5⟩ := hT
  refine ⟨a1, a2, by rw [← tpos_g h]; exact a3, fun j hj => by rw [← tpos_g h]; exact a4 j hj, fun j hj => ?_⟩
  have := a5 j hj
  unfold tk5 at this ⊢
  rw [← tpos_g h, ← tkK_g h, ← tkNu_g h, ← tkH_g h, ← tkD_g h]
  exact this
end TCG
section RTT
variable {A : Nat → Nat} {d b n : Nat} {h : Nat → Option jC} {X : jXX} {J : Nat → Nat → Int64} {R : Nat → Nat → Nat}
theorem r245l {N : Nat} (hN : N ≤ 2000) : ∀ (r k : Nat) (I : Nat → Nat → Int32), k + r = N → I 241 14 = nI N → (∀ i, i < N → (I 248 i).toInt8.toInt32 = I 248 i) → ∃ I', M245 A d 15 [some (.ref (b + 241)), some (.int (nI k))] [] (jH h b X I J R n) = some (.inl none, jH h b X I' J R n) ∧ (∀ c i, ¬ (c = 249 ∧ k ≤ i ∧ i < N) → I' c i = I c i) ∧ ∀ i, k ≤ i → i < N → I' 249 i = I 248 i := by
  intro r
  induction r with
  | zero =>
    intro k I hk h14 hb
    have : k = N := by omega
    subst this
    refine ⟨I, ?_, fun _ _ _ => rfl, fun i h1 h2 => by omega⟩
    rw [r245_15]
    simp (disch := omega) [r245_0, r245_1, r245_2, r245_5, r245_8, r245_9, r245_10, r245_13, r245_14, r245_16, r245_17, r245_20, r245_23, r245_24, r245_27, r245_28, r245_29, r245_32, r245_33, r245_34, r245_35, r245_38, r245_41, g241, vf12_13, p241_14, ty12_14, p241_13, ty12_13, vf12_14, vf12_11, t241_11, g249, p249, vf12_10, t241_10, g248, p248, List.getElem?_cons_zero, List.getElem?_cons_succ, List.length_cons, List.length_nil, ag_nx, ag_dn, ag_no, ag_if, jbr1, jbr2, jc1, jc2, jnul, jld, jsto, jstoL, jst1, jst2, jkill, jinc, jbI, jbL, jbS, juI, jl2i, jcmp, jisR, jisI, jisL, jret, jretv, jfits, jdup, jdup2, jpop, jmm, jcat, Value.category, jinv, jrcv, jthr, jhd, jput, jget, jlen, jald, jast, jaast, jgI, jgL, jgB, jtab, jlku, jacp, vf20, vf21, vf22, vf23, vf24, u2_s, u2_k, u2_i, uc_s, uc_k, uc_c, u2_c, LI0, LI1, LI2, LI3, LI4, LI5, LI6, LI7, LI8, LI9, LI10, LI11, LI12, LI13, LI14, LI15, LI16, LI17, LI18, LI19, LI20, LI21, LI22, LI23, LI24, LI25, LI26, LI27, LI28, LI29, LI30, LI31, LI32, LI33, LI34, LI35, LI36, LI37, LI40, LI42, LI43, LI45, LI48, LI60, LI61, LI64, LI80, LI300, LI400, LI1000, LI2000, LI2001, LI2047, LI2048, LI100000, LI1000000, LI38, LI39, LI41, LI44, LI46, LI47, LI49, LI50, LI51, LI52, LI53, LI54, LI55, LI56, LI57, LI58, LI59, LI62, LI63, LI65, LI66, LI67, LI68, LI69, LI70, LI71, LI72, LI73, LI74, LI75, LI76, LI77, LI78, LI79, LI81, LI82, LI83, LI84, LI85, LI86, LI87, LI88, LI89, LI90, LI91, LI92, LI93, LI94, LI95, LI96, LI97, LI98, LI99, LI100, LI101, LI102, LI103, LI104, LI105, LI106, LI107, LI108, LI109, LI110, LI111, LI112, LI113, LI114, LI115, LI116, LI117, LI118, LI119, LI120, LI121, LI122, LI123, LI124, LI125, LI126, LI127, LI255, LI256, LI999, LI1001, LI1002, LI1600, LI4096, LI1000001, LI2042, LM, nI_clamp, nI_pos', nI_lt, nI_nlt, nI_le, nI_ge, nI_ne, nI_add, nI_sub, mI_lt, mI_le, mI_nlt, mI_nle, mI_ne, mI_ne', mI_nem, h14]
  | succ r ih =>
    intro k I hk h14 hb
    obtain ⟨I', e, f1, f2⟩ := ih (k + 1) (u2 I 249 k (I 248 k)) (by omega) (by rw [u2_k (by omega)]; exact h14) (fun i hi => by rw [u2_k (by omega)]; exact hb i hi)
    refine ⟨I', ?_, fun c i hc => ?_, fun i h1 h2 => ?_⟩
    · rw [← e, r245_15]
      have hbk := hb k (by omega)
      have hk2 : k < 2000 := by omega
      simp (disch := omega) [r245_0, r245_1, r245_2, r245_5, r245_8, r245_9, r245_10, r245_13, r245_14, r245_16, r245_17, r245_20, r245_23, r245_24, r245_27, r245_28, r245_29, r245_32, r245_33, r245_34, r245_35, r245_38, r245_41, g241, vf12_13, p241_14, ty12_14, p241_13, ty12_13, vf12_14, vf12_11, t241_11, g249, p249, vf12_10, t241_10, g248, p248, List.getElem?_cons_zero, List.getElem?_cons_succ, List.length_cons, List.length_nil, ag_nx, ag_dn, ag_no, ag_if, jbr1, jbr2, jc1, jc2, jnul, jld, jsto, jstoL, jst1, jst2, jkill, jinc, jbI, jbL, jbS, juI, jl2i, jcmp, jisR, jisI, jisL, jret, jretv, jfits, jdup, jdup2, jpop, jmm, jcat, Value.category, jinv, jrcv, jthr, jhd, jput, jget, jlen, jald, jast, jaast, jgI, jgL, jgB, jtab, jlku, jacp, vf20, vf21, vf22, vf23, vf24, u2_s, u2_k, u2_i, uc_s, uc_k, uc_c, u2_c, LI0, LI1, LI2, LI3, LI4, LI5, LI6, LI7, LI8, LI9, LI10, LI11, LI12, LI13, LI14, LI15, LI16, LI17, LI18, LI19, LI20, LI21, LI22, LI23, LI24, LI25, LI26, LI27, LI28, LI29, LI30, LI31, LI32, LI33, LI34, LI35, LI36, LI37, LI40, LI42, LI43, LI45, LI48, LI60, LI61, LI64, LI80, LI300, LI400, LI1000, LI2000, LI2001, LI2047, LI2048, LI100000, LI1000000, LI38, LI39, LI41, LI44, LI46, LI47, LI49, LI50, LI51, LI52, LI53, LI54, LI55, LI56, LI57, LI58, LI59, LI62, LI63, LI65, LI66, LI67, LI68, LI69, LI70, LI71, LI72, LI73, LI74, LI75, LI76, LI77, LI78, LI79, LI81, LI82, LI83, LI84, LI85, LI86, LI87, LI88, LI89, LI90, LI91, LI92, LI93, LI94, LI95, LI96, LI97, LI98, LI99, LI100, LI101, LI102, LI103, LI104, LI105, LI106, LI107, LI108, LI109, LI110, LI111, LI112, LI113, LI114, LI115, LI116, LI117, LI118, LI119, LI120, LI121, LI122, LI123, LI124, LI125, LI126, LI127, LI255, LI256, LI999, LI1001, LI1002, LI1600, LI4096, LI1000001, LI2042, LM, nI_clamp, nI_pos', nI_lt, nI_nlt, nI_le, nI_ge, nI_ne, nI_add, nI_sub, mI_lt, mI_le, mI_nlt, mI_nle, mI_ne, mI_ne', mI_nem, h14, hbk, hk2]
    · rw [f1 c i (by omega)]
      by_cases hc2 : c = 249
      · subst hc2; rw [u2_i (by omega)]
      · rw [u2_k hc2]
    · by_cases hi : i = k
      · subst hi; rw [f1 249 i (by omega), u2_s]
      · rw [f2 i (by omega) h2, u2_k (by omega)]
theorem r245 {I : Nat → Nat → Int32} {N : Nat} (hN : N ≤ 2000) (h13 : I 241 13 = nI N) (hb : ∀ i, i < N → (I 248 i).toInt8.toInt32 = I 248 i) : ∃ I', jcall A jcode (d + 1) 245 [.ref (b + 241)] (jH h b X I J R n) = some (.inl none, jH h b X I' J R n) ∧ (∀ c i, ¬ (c = 249 ∧ i < N) → ¬ (c = 241 ∧ (i = 13 ∨ i = 14)) → I' c i = I c i) ∧ I' 241 13 = nI 0 ∧ I' 241 14 = nI N ∧ ∀ i, i < N → I' 249 i = I 248 i := by
  obtain ⟨I', e, f1, f2⟩ := r245l (A := A) (d := d) (b := b) (h := h) (X := X) (J := J) (R := R) (n := n) hN N 0 (u2 (u2 I 241 14 (nI N)) 241 13 (nI 0)) (by omega) (by rw [u2_i (by omega), u2_s]) (fun i hi => by rw [u2_k (by omega), u2_k (by omega)]; exact hb i hi)
  refine ⟨I', ?_, fun c i h1 h2 => ?_, ?_, ?_, fun i hi => ?_⟩
  · rw [← e]
    simp (disch := omega) [je245, r245_0, r245_1, r245_2, r245_5, r245_8, r245_9, r245_10, r245_13, r245_14, r245_16, r245_17, r245_20, r245_23, r245_24, r245_27, r245_28, r245_29, r245_32, r245_33, r245_34, r245_35, r245_38, r245_41, g241, vf12_13, p241_14, ty12_14, p241_13, ty12_13, vf12_14, vf12_11, t241_11, g249, p249, vf12_10, t241_10, g248, p248, List.getElem?_cons_zero, List.getElem?_cons_succ, List.length_cons, List.length_nil, ag_nx, ag_dn, ag_no, ag_if, jbr1, jbr2, jc1, jc2, jnul, jld, jsto, jstoL, jst1, jst2, jkill, jinc, jbI, jbL, jbS, juI, jl2i, jcmp, jisR, jisI, jisL, jret, jretv, jfits, jdup, jdup2, jpop, jmm, jcat, Value.category, jinv, jrcv, jthr, jhd, jput, jget, jlen, jald, jast, jaast, jgI, jgL, jgB, jtab, jlku, jacp, vf20, vf21, vf22, vf23, vf24, u2_s, u2_k, u2_i, uc_s, uc_k, uc_c, u2_c, LI0, LI1, LI2, LI3, LI4, LI5, LI6, LI7, LI8, LI9, LI10, LI11, LI12, LI13, LI14, LI15, LI16, LI17, LI18, LI19, LI20, LI21, LI22, LI23, LI24, LI25, LI26, LI27, LI28, LI29, LI30, LI31, LI32, LI33, LI34, LI35, LI36, LI37, LI40, LI42, LI43, LI45, LI48, LI60, LI61, LI64, LI80, LI300, LI400, LI1000, LI2000, LI2001, LI2047, LI2048, LI100000, LI1000000, LI38, LI39, LI41, LI44, LI46, LI47, LI49, LI50, LI51, LI52, LI53, LI54, LI55, LI56, LI57, LI58, LI59, LI62, LI63, LI65, LI66, LI67, LI68, LI69, LI70, LI71, LI72, LI73, LI74, LI75, LI76, LI77, LI78, LI79, LI81, LI82, LI83, LI84, LI85, LI86, LI87, LI88, LI89, LI90, LI91, LI92, LI93, LI94, LI95, LI96, LI97, LI98, LI99, LI100, LI101, LI102, LI103, LI104, LI105, LI106, LI107, LI108, LI109, LI110, LI111, LI112, LI113, LI114, LI115, LI116, LI117, LI118, LI119, LI120, LI121, LI122, LI123, LI124, LI125, LI126, LI127, LI255, LI256, LI999, LI1001, LI1002, LI1600, LI4096, LI1000001, LI2042, LM, nI_clamp, nI_pos', nI_lt, nI_nlt, nI_le, nI_ge, nI_ne, nI_add, nI_sub, mI_lt, mI_le, mI_nlt, mI_nle, mI_ne, mI_ne', mI_nem, h13]
  · rw [f1 c i (by omega)]
    unfold u2
    rw [if_neg (by omega), if_neg (by omega)]
  · rw [f1 241 13 (by omega), u2_s]
  · rw [f1 241 14 (by omega), u2_i (by omega), u2_s]
  · rw [f2 i (by omega) hi, u2_k (by omega), u2_k (by omega)]
end RTT
