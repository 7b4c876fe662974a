/-! walk: when two rows of the reference are the same -/
def vwR (rN : Int32 → Nm) (D : Nat → Int32) (f nv q t : Nat) : aI Nm := ((D f, D (f + 1), D (f + 2), D (f + 3), D (f + 4), D (f + 5)), rl (fun i => D (f + 6 + i)) nv, rl (fun i => (rN (D (f + 13 + 3 * i)), D (f + 13 + 3 * i + 1), D (f + 13 + 3 * i + 2), 0)) q, rl (fun i => (rN (D (f + 38 + 2 * i)), D (f + 38 + 2 * i + 1))) t)
theorem qI_k {rN : Int32 → Nm} {D : Nat → Int32} {f : Nat} {now : Int32} {a : aI Nm} (h : qI rN D f now a) : kI now a = vwR rN D f a.2.1.length a.2.2.1.length a.2.2.2.length := by
  obtain ⟨h1, ⟨h2, _⟩, h3, ⟨h4, _⟩, h5, h6, _⟩ := h
  unfold kI vwR
  rw [← h1, ← h2, ← h4]
  congr 3
  conv => lhs; rw [h6]
  rw [rl_mapf]
  refine rl_congr fun i hi => ?_
  simp only [Int32.add_sub_cancel]
section KYR
variable {rN : Int32 → Nm} {N : Nat → Nat → Int32} {np : Nat} {D D' : Nat → Int32} {now now' : Int32}
theorem qI_eq {f f' : Nat} {a a' : aI Nm} (hj : ∀ x y, rN x = rN y → x = y) (h : qI rN D f now a) (h' : qI rN D' f' now' a') (he : kI now a = kI now' a') : ∀ i, i < 46 → D (f + i) = D' (f' + i) := by
  have k1 := qI_k h
  have k2 := qI_k h'
  have n1 : a.2.1.length = a'.2.1.length := by have := congrArg (fun z : aI Nm => z.2.1.length) he; simpa [kI] using this
  have n2 : a.2.2.1.length = a'.2.2.1.length := by have := congrArg (fun z : aI Nm => z.2.2.1.length) he; simpa [kI] using this
  have n3 : a.2.2.2.length = a'.2.2.2.length := by have := congrArg (fun z : aI Nm => z.2.2.2.length) he; simpa [kI] using this
  rw [k1, k2, ← n1, ← n2, ← n3] at he
  unfold vwR at he
  simp only [Prod.mk.injEq] at he
  obtain ⟨⟨b0, b1, b2, b3, b4, b5⟩, c1, c2, c3⟩ := he
  have c1' := (rl_eq c1).2
  have c2' := (rl_eq c2).2
  have c3' := (rl_eq c3).2
  obtain ⟨_, ⟨_, g2⟩, g3, ⟨_, g4⟩, g5, _, g6⟩ := h
  obtain ⟨_, ⟨_, u2⟩, u3, ⟨_, u4⟩, u5, _, u6⟩ := h'
  rw [← n1] at u2
  rw [← n2] at u3 u4
  rw [← n3] at u5 u6
  intro i hi
  by_cases i6 : i < 6
  · obtain rfl | rfl | rfl | rfl | rfl | rfl : i = 0 ∨ i = 1 ∨ i = 2 ∨ i = 3 ∨ i = 4 ∨ i = 5 := by omega
    · exact b0
    · exact b1
    · exact b2
    · exact b3
    · exact b4
    · exact b5
  by_cases iv : i < 12
  · have e : ∀ g, g + i = g + 6 + (i - 6) := fun g => by omega
    rw [e f, e f']
    by_cases c : i - 6 < a.2.1.length
    · exact c1' _ c
    · rw [g2 _ (by omega) (by omega), u2 _ (by omega) (by omega)]
  by_cases i0 : i = 12
  · rw [i0, g3, u3]
  by_cases iq : i < 37
  · obtain ⟨m, r, hm, hr, em⟩ : ∃ m r, m < 8 ∧ r < 3 ∧ i = 13 + 3 * m + r := ⟨(i - 13) / 3, (i - 13) % 3, by omega, by omega, by omega⟩
    have e : ∀ g, g + i = g + 13 + 3 * m + r := fun g => by omega
    rw [e f, e f']
    by_cases c : m < a.2.2.1.length
    · have := c2' m c
      simp only [Prod.mk.injEq] at this
      obtain ⟨d1, d2, d3, _⟩ := this
      obtain rfl | rfl | rfl : r = 0 ∨ r = 1 ∨ r = 2 := by omega
      · exact hj _ _ d1
      · exact d2
      · exact d3
    · obtain ⟨x1, x2, x3⟩ := g4 m (by omega) hm
      obtain ⟨y1, y2, y3⟩ := u4 m (by omega) hm
      obtain rfl | rfl | rfl : r = 0 ∨ r = 1 ∨ r = 2 := by omega
      · exact x1.trans y1.symm
      · exact x2.trans y2.symm
      · exact x3.trans y3.symm
  by_cases i7 : i = 37
  · rw [i7, g5, u5]
  obtain ⟨m, r, hm, hr, em⟩ : ∃ m r, m < 4 ∧ r < 2 ∧ i = 38 + 2 * m + r := ⟨(i - 38) / 2, (i - 38) % 2, by omega, by omega, by omega⟩
  have e : ∀ g, g + i = g + 38 + 2 * m + r := fun g => by omega
  rw [e f, e f']
  by_cases c : m < a.2.2.2.length
  · have := c3' m c
    simp only [Prod.mk.injEq] at this
    obtain ⟨d1, d2⟩ := this
    obtain rfl | rfl : r = 0 ∨ r = 1 := by omega
    · exact hj _ _ d1
    · exact d2
  · obtain ⟨x1, x2⟩ := g6 m (by omega) hm
    obtain ⟨y1, y2⟩ := u6 m (by omega) hm
    obtain rfl | rfl : r = 0 ∨ r = 1 := by omega
    · exact x1.trans y1.symm
    · exact x2.trans y2.symm
theorem qI_ne {f f' : Nat} {a a' : aI Nm} (o : okI N np a) (o' : okI N np a') (n6 : np ≤ 6) (l6 : ∀ p, p < np → (lets N p).length ≤ 6) (h : qI rN D f now a) (h' : qI rN D' f' now' a') (he : ∀ i, i < 46 → D (f + i) = D' (f' + i)) : kI now a = kI now' a' := by
  obtain ⟨p, hp, g1, g2, _, g3, g4⟩ := o
  obtain ⟨p', hp', g1', g2', _, g3', g4'⟩ := o'
  have l6p := l6 p hp
  have l6p' := l6 p' hp'
  have e1 : nI p = nI p' := by
    rw [← g1, ← g1', h.1, h'.1]
    exact he 1 (by omega)
  have ep : p = p' := nI_inj (by omega) (by omega) e1
  subst ep
  have n1 : a.2.1.length = a'.2.1.length := by rw [g2, g2']
  have e2 : nI a.2.2.1.length = nI a'.2.2.1.length := by
    rw [← h.2.2.1, ← h'.2.2.1]
    exact he _ (by omega)
  have n2 : a.2.2.1.length = a'.2.2.1.length := nI_inj (by omega) (by omega) e2
  have e3 : nI a.2.2.2.length = nI a'.2.2.2.length := by
    rw [← h.2.2.2.2.1, ← h'.2.2.2.2.1]
    exact he _ (by omega)
  have n3 : a.2.2.2.length = a'.2.2.2.length := nI_inj (by omega) (by omega) e3
  rw [qI_k h, qI_k h', ← n1, ← n2, ← n3]
  have e : ∀ g i, g = f + i → ∀ g', g' = f' + i → i < 46 → D g = D' g' := fun g i x g' x' hi => by rw [x, x']; exact he i hi
  unfold vwR
  rw [e f 0 rfl f' rfl (by omega), e (f + 1) 1 rfl (f' + 1) rfl (by omega), e (f + 2) 2 rfl (f' + 2) rfl (by omega), e (f + 3) 3 rfl (f' + 3) rfl (by omega), e (f + 4) 4 rfl (f' + 4) rfl (by omega), e (f + 5) 5 rfl (f' + 5) rfl (by omega)]
  congr 2
  · exact rl_congr fun i hi => e _ (6 + i) (by omega) _ (by omega) (by omega)
  · congr 1
    · refine rl_congr fun i hi => ?_
      rw [e _ (13 + 3 * i) (by omega) (f' + 13 + 3 * i) (by omega) (by omega), e _ (13 + 3 * i + 1) (by omega) (f' + 13 + 3 * i + 1) (by omega) (by omega), e _ (13 + 3 * i + 2) (by omega) (f' + 13 + 3 * i + 2) (by omega) (by omega)]
    · refine rl_congr fun i hi => ?_
      rw [e _ (38 + 2 * i) (by omega) (f' + 38 + 2 * i) (by omega) (by omega), e _ (38 + 2 * i + 1) (by omega) (f' + 38 + 2 * i + 1) (by omega) (by omega)]
/-- the reference's rows and the keys -/
theorem qW_ky {f f' : Nat} {W W' : aW Nm} (hj : ∀ x y, rN x = rN y → x = y) (n6 : np ≤ 6) (l6 : ∀ p, p < np → (lets N p).length ≤ 6) (o : ∀ a, a ∈ W.1 → okI N np a) (o' : ∀ a, a ∈ W'.1 → okI N np a) (l8 : W.1.length ≤ 8) (l8' : W'.1.length ≤ 8) (h : qW rN D f W) (h' : qW rN D' f' W') : (∀ i, i < 370 → D (f + i) = D' (f' + i)) ↔ ky W = ky W' := by
  obtain ⟨a1, a2, a3, a4, a5⟩ := h
  obtain ⟨b1, b2, b3, b4, b5⟩ := h'
  constructor
  · intro e
    have hl : W.1.length = W'.1.length := nI_inj (by omega) (by omega) (by rw [← a1, ← b1]; exact e 0 (by omega))
    have hg : W.2.1.1 = W'.2.1.1 := by rw [← a2, ← b2]; exact e 1 (by omega)
    unfold ky
    rw [hg]
    congr 1
    apply List.ext_getElem?
    intro k
    rw [List.getElem?_map, List.getElem?_map]
    rcases Nat.lt_or_ge k W.1.length with c | c
    · have h1 := List.getElem?_eq_getElem c
      have h2 := List.getElem?_eq_getElem (show k < W'.1.length by omega)
      rw [h1, h2]
      refine congrArg some (qI_ne (o _ (List.getElem_mem c)) (o' _ (List.getElem_mem (show k < W'.1.length by omega))) n6 l6 (a3 k _ h1) (b3 k _ h2) (fun i hi => ?_))
      have := e (2 + 46 * k + i) (by omega)
      rw [show f + 2 + 46 * k + i = f + (2 + 46 * k + i) by omega, show f' + 2 + 46 * k + i = f' + (2 + 46 * k + i) by omega]
      exact this
    · rw [List.getElem?_eq_none c, List.getElem?_eq_none (show W'.1.length ≤ k by omega)]
      rfl
  · intro e
    unfold ky at e
    simp only [Prod.mk.injEq] at e
    have hl : W.1.length = W'.1.length := by have := congrArg List.length e.2; simpa using this
    intro i hi
    by_cases c0 : i = 0
    · subst c0
      rw [← hl] at b1
      exact a1.trans b1.symm
    by_cases c1 : i = 1
    · subst c1
      exact a2.trans (e.1.trans b2.symm)
    by_cases c2 : i < 2 + 46 * W.1.length
    · obtain ⟨k, r, hk, hr, ek⟩ : ∃ k r, k < W.1.length ∧ r < 46 ∧ i = 2 + 46 * k + r := ⟨(i - 2) / 46, (i - 2) % 46, by omega, by omega, by omega⟩
      have h1 := List.getElem?_eq_getElem hk
      have h2 := List.getElem?_eq_getElem (show k < W'.1.length by omega)
      have ek2 := congrArg (fun L : List (aI Nm) => L[k]?) e.2
      simp only [List.getElem?_map, h1, h2] at ek2
      have := qI_eq hj (a3 k _ h1) (b3 k _ h2) (Option.some.inj ek2) r hr
      rw [ek, show f + (2 + 46 * k + r) = f + 2 + 46 * k + r by omega, show f' + (2 + 46 * k + r) = f' + 2 + 46 * k + r by omega]
      exact this
    · rw [a4 i (by omega) hi, b4 i (by omega) hi]
end KYR
section RKN
variable {A : Nat → Nat} {d b n : Nat} {h : Nat → Option jC} {X : jXX} {I : Nat → Nat → Int32} {J : Nat → Nat → Int64} {R : Nat → Nat → Nat}
theorem r267i {k m : Nat} (hk : k ≤ 1001) (hm : m ≤ 1001) : ∀ (t i : Nat), i + t = 370 → (∀ j, j < i → I 282 (435 * k + j) = I 282 (435 * m + j)) → ∃ v c4, M267 A d 30 [some (.ref (b + 241)), some (.int (nI m)), some (.int (nI k)), some (.int (nI 1)), some (.int (nI i))] [] (jH h b X I J R n) = M267 A d 83 [some (.ref (b + 241)), some (.int (nI m)), some (.int (nI k)), some (.int (nI v)), c4] [] (jH h b X I J R n) ∧ ((v = 1 ∧ ∀ j, j < 370 → I 282 (435 * k + j) = I 282 (435 * m + j)) ∨ (v = 0 ∧ ¬ ∀ j, j < 370 → I 282 (435 * k + j) = I 282 (435 * m + j))) := by
  intro t
  induction t with
  | zero =>
    intro i hi hj
    have : i = 370 := by omega
    subst this
    refine ⟨1, some (.int (nI 370)), ?_, Or.inl ⟨rfl, hj⟩⟩
    conv => lhs; rw [r267_30]
    simp (disch := omega) [r267_0, r267_1, r267_2, r267_3, r267_4, r267_7, r267_8, r267_11, r267_12, r267_13, r267_14, r267_17, r267_18, r267_19, r267_22, r267_25, r267_26, r267_27, r267_28, r267_32, r267_35, r267_38, r267_39, r267_42, r267_43, r267_46, r267_47, r267_50, r267_51, r267_53, r267_54, r267_55, r267_56, r267_59, r267_60, r267_63, r267_64, r267_66, r267_67, r267_68, r267_71, r267_72, r267_75, r267_76, r267_77, r267_80, r267_84, r267_87, r267_88, r267_89, r267_92, r267_95, r267_96, g241, vf12_76, t241_76, g283, vf12_75, t241_75, g282, List.getElem?_cons_zero, List.getElem?_cons_succ, List.length_cons, List.length_nil, ag_nx, ag_dn, ag_no, ag_if, jbr1, jbr2, jc1, jc2, jnul, jld, jsto, jstoL, jst1, jst2, jkill, jinc, jbI, jbL, jbS, juI, jl2i, jcmp, jisR, jisI, jisL, jret, jretv, jfits, jdup, jdup2, jpop, jmm, jcat, Value.category, jinv, jrcv, jthr, jhd, jput, jget, jlen, jald, jast, jaast, jgI, jgL, jgB, jtab, jlku, jacp, vf20, vf21, vf22, vf23, vf24, u2_s, u2_k, u2_i, uc_s, uc_k, uc_c, u2_c, LI0, LI1, LI2, LI3, LI4, LI5, LI6, LI7, LI8, LI9, LI10, LI11, LI12, LI13, LI14, LI15, LI16, LI17, LI18, LI19, LI20, LI21, LI22, LI23, LI24, LI25, LI26, LI27, LI28, LI29, LI30, LI31, LI32, LI33, LI34, LI35, LI36, LI37, LI40, LI42, LI43, LI45, LI48, LI60, LI61, LI64, LI80, LI300, LI400, LI1000, LI2000, LI2001, LI2047, LI2048, LI100000, LI1000000, LM, nI_clamp, nI_pos', nI_lt, nI_nlt, nI_le, nI_ge, nI_ne, nI_add, nI_sub, mI_lt, mI_le, mI_nlt, mI_nle, mI_ne, mI_ne', mI_nem, LI370, LI435, LI64, LI31, LI61]
  | succ t ih =>
    intro i hi hj
    by_cases c : I 282 (435 * k + i) = I 282 (435 * m + i)
    · obtain ⟨v, c4, e, hv⟩ := ih (i + 1) (by omega) (fun j hji => by
        by_cases e : j = i
        · rw [e]; exact c
        · exact hj j (by omega))
      refine ⟨v, c4, ?_, hv⟩
      conv => lhs; rw [r267_30]
      simp (disch := omega) [r267_0, r267_1, r267_2, r267_3, r267_4, r267_7, r267_8, r267_11, r267_12, r267_13, r267_14, r267_17, r267_18, r267_19, r267_22, r267_25, r267_26, r267_27, r267_28, r267_32, r267_35, r267_38, r267_39, r267_42, r267_43, r267_46, r267_47, r267_50, r267_51, r267_53, r267_54, r267_55, r267_56, r267_59, r267_60, r267_63, r267_64, r267_66, r267_67, r267_68, r267_71, r267_72, r267_75, r267_76, r267_77, r267_80, r267_84, r267_87, r267_88, r267_89, r267_92, r267_95, r267_96, g241, vf12_76, t241_76, g283, vf12_75, t241_75, g282, List.getElem?_cons_zero, List.getElem?_cons_succ, List.length_cons, List.length_nil, ag_nx, ag_dn, ag_no, ag_if, jbr1, jbr2, jc1, jc2, jnul, jld, jsto, jstoL, jst1, jst2, jkill, jinc, jbI, jbL, jbS, juI, jl2i, jcmp, jisR, jisI, jisL, jret, jretv, jfits, jdup, jdup2, jpop, jmm, jcat, Value.category, jinv, jrcv, jthr, jhd, jput, jget, jlen, jald, jast, jaast, jgI, jgL, jgB, jtab, jlku, jacp, vf20, vf21, vf22, vf23, vf24, u2_s, u2_k, u2_i, uc_s, uc_k, uc_c, u2_c, LI0, LI1, LI2, LI3, LI4, LI5, LI6, LI7, LI8, LI9, LI10, LI11, LI12, LI13, LI14, LI15, LI16, LI17, LI18, LI19, LI20, LI21, LI22, LI23, LI24, LI25, LI26, LI27, LI28, LI29, LI30, LI31, LI32, LI33, LI34, LI35, LI36, LI37, LI40, LI42, LI43, LI45, LI48, LI60, LI61, LI64, LI80, LI300, LI400, LI1000, LI2000, LI2001, LI2047, LI2048, LI100000, LI1000000, LM, nI_clamp, nI_pos', nI_lt, nI_nlt, nI_le, nI_ge, nI_ne, nI_add, nI_sub, mI_lt, mI_le, mI_nlt, mI_nle, mI_ne, mI_ne', mI_nem, LI370, LI435, LI64, LI31, LI61, nI_mul, Nat.mul_comm k 435, Nat.mul_comm m 435, show i < 370 by omega, show 435 * k + i < 435870 by omega, show 435 * m + i < 435870 by omega, c, e]
    · refine ⟨0, some (.int (nI (i + 1))), ?_, Or.inr ⟨rfl, fun z => c (z i (by omega))⟩⟩
      conv => lhs; rw [r267_30]
      simp (disch := omega) [r267_0, r267_1, r267_2, r267_3, r267_4, r267_7, r267_8, r267_11, r267_12, r267_13, r267_14, r267_17, r267_18, r267_19, r267_22, r267_25, r267_26, r267_27, r267_28, r267_32, r267_35, r267_38, r267_39, r267_42, r267_43, r267_46, r267_47, r267_50, r267_51, r267_53, r267_54, r267_55, r267_56, r267_59, r267_60, r267_63, r267_64, r267_66, r267_67, r267_68, r267_71, r267_72, r267_75, r267_76, r267_77, r267_80, r267_84, r267_87, r267_88, r267_89, r267_92, r267_95, r267_96, g241, vf12_76, t241_76, g283, vf12_75, t241_75, g282, List.getElem?_cons_zero, List.getElem?_cons_succ, List.length_cons, List.length_nil, ag_nx, ag_dn, ag_no, ag_if, jbr1, jbr2, jc1, jc2, jnul, jld, jsto, jstoL, jst1, jst2, jkill, jinc, jbI, jbL, jbS, juI, jl2i, jcmp, jisR, jisI, jisL, jret, jretv, jfits, jdup, jdup2, jpop, jmm, jcat, Value.category, jinv, jrcv, jthr, jhd, jput, jget, jlen, jald, jast, jaast, jgI, jgL, jgB, jtab, jlku, jacp, vf20, vf21, vf22, vf23, vf24, u2_s, u2_k, u2_i, uc_s, uc_k, uc_c, u2_c, LI0, LI1, LI2, LI3, LI4, LI5, LI6, LI7, LI8, LI9, LI10, LI11, LI12, LI13, LI14, LI15, LI16, LI17, LI18, LI19, LI20, LI21, LI22, LI23, LI24, LI25, LI26, LI27, LI28, LI29, LI30, LI31, LI32, LI33, LI34, LI35, LI36, LI37, LI40, LI42, LI43, LI45, LI48, LI60, LI61, LI64, LI80, LI300, LI400, LI1000, LI2000, LI2001, LI2047, LI2048, LI100000, LI1000000, LM, nI_clamp, nI_pos', nI_lt, nI_nlt, nI_le, nI_ge, nI_ne, nI_add, nI_sub, mI_lt, mI_le, mI_nlt, mI_nle, mI_ne, mI_ne', mI_nem, LI370, LI435, LI64, LI31, LI61, nI_mul, Nat.mul_comm k 435, Nat.mul_comm m 435, show i < 370 by omega, show 435 * k + i < 435870 by omega, show 435 * m + i < 435870 by omega, c]
      by_cases c5 : i + 1 < 370
      · conv => lhs; rw [r267_30]
        simp (disch := omega) [r267_0, r267_1, r267_2, r267_3, r267_4, r267_7, r267_8, r267_11, r267_12, r267_13, r267_14, r267_17, r267_18, r267_19, r267_22, r267_25, r267_26, r267_27, r267_28, r267_32, r267_35, r267_38, r267_39, r267_42, r267_43, r267_46, r267_47, r267_50, r267_51, r267_53, r267_54, r267_55, r267_56, r267_59, r267_60, r267_63, r267_64, r267_66, r267_67, r267_68, r267_71, r267_72, r267_75, r267_76, r267_77, r267_80, r267_84, r267_87, r267_88, r267_89, r267_92, r267_95, r267_96, g241, vf12_76, t241_76, g283, vf12_75, t241_75, g282, List.getElem?_cons_zero, List.getElem?_cons_succ, List.length_cons, List.length_nil, ag_nx, ag_dn, ag_no, ag_if, jbr1, jbr2, jc1, jc2, jnul, jld, jsto, jstoL, jst1, jst2, jkill, jinc, jbI, jbL, jbS, juI, jl2i, jcmp, jisR, jisI, jisL, jret, jretv, jfits, jdup, jdup2, jpop, jmm, jcat, Value.category, jinv, jrcv, jthr, jhd, jput, jget, jlen, jald, jast, jaast, jgI, jgL, jgB, jtab, jlku, jacp, vf20, vf21, vf22, vf23, vf24, u2_s, u2_k, u2_i, uc_s, uc_k, uc_c, u2_c, LI0, LI1, LI2, LI3, LI4, LI5, LI6, LI7, LI8, LI9, LI10, LI11, LI12, LI13, LI14, LI15, LI16, LI17, LI18, LI19, LI20, LI21, LI22, LI23, LI24, LI25, LI26, LI27, LI28, LI29, LI30, LI31, LI32, LI33, LI34, LI35, LI36, LI37, LI40, LI42, LI43, LI45, LI48, LI60, LI61, LI64, LI80, LI300, LI400, LI1000, LI2000, LI2001, LI2047, LI2048, LI100000, LI1000000, LM, nI_clamp, nI_pos', nI_lt, nI_nlt, nI_le, nI_ge, nI_ne, nI_add, nI_sub, mI_lt, mI_le, mI_nlt, mI_nle, mI_ne, mI_ne', mI_nem, LI370, LI435, LI64, LI31, LI61, c5]
      · conv => lhs; rw [r267_30]
        simp (disch := omega) [r267_0, r267_1, r267_2, r267_3, r267_4, r267_7, r267_8, r267_11, r267_12, r267_13, r267_14, r267_17, r267_18, r267_19, r267_22, r267_25, r267_26, r267_27, r267_28, r267_32, r267_35, r267_38, r267_39, r267_42, r267_43, r267_46, r267_47, r267_50, r267_51, r267_53, r267_54, r267_55, r267_56, r267_59, r267_60, r267_63, r267_64, r267_66, r267_67, r267_68, r267_71, r267_72, r267_75, r267_76, r267_77, r267_80, r267_84, r267_87, r267_88, r267_89, r267_92, r267_95, r267_96, g241, vf12_76, t241_76, g283, vf12_75, t241_75, g282, List.getElem?_cons_zero, List.getElem?_cons_succ, List.length_cons, List.length_nil, ag_nx, ag_dn, ag_no, ag_if, jbr1, jbr2, jc1, jc2, jnul, jld, jsto, jstoL, jst1, jst2, jkill, jinc, jbI, jbL, jbS, juI, jl2i, jcmp, jisR, jisI, jisL, jret, jretv, jfits, jdup, jdup2, jpop, jmm, jcat, Value.category, jinv, jrcv, jthr, jhd, jput, jget, jlen, jald, jast, jaast, jgI, jgL, jgB, jtab, jlku, jacp, vf20, vf21, vf22, vf23, vf24, u2_s, u2_k, u2_i, uc_s, uc_k, uc_c, u2_c, LI0, LI1, LI2, LI3, LI4, LI5, LI6, LI7, LI8, LI9, LI10, LI11, LI12, LI13, LI14, LI15, LI16, LI17, LI18, LI19, LI20, LI21, LI22, LI23, LI24, LI25, LI26, LI27, LI28, LI29, LI30, LI31, LI32, LI33, LI34, LI35, LI36, LI37, LI40, LI42, LI43, LI45, LI48, LI60, LI61, LI64, LI80, LI300, LI400, LI1000, LI2000, LI2001, LI2047, LI2048, LI100000, LI1000000, LM, nI_clamp, nI_pos', nI_lt, nI_nlt, nI_le, nI_ge, nI_ne, nI_add, nI_sub, mI_lt, mI_le, mI_nlt, mI_nle, mI_ne, mI_ne', mI_nem, LI370, LI435, LI64, LI31, LI61, c5, show 370 ≤ i + 1 by omega]
theorem r267l {m : Nat} (hm : m ≤ 1001) (hH : ∀ e, e ≤ m → I 283 e = hrF (I 282) 370 (435 * e) (nI 0)) : ∀ (t k : Nat) (c3 c4 : Option Value), k + t = m → (∀ e, e < k → ¬ ∀ j, j < 370 → I 282 (435 * e + j) = I 282 (435 * m + j)) → ∃ v, M267 A d 2 [some (.ref (b + 241)), some (.int (nI m)), some (.int (nI k)), c3, c4] [] (jH h b X I J R n) = some (.inl (some (.int (nI v))), jH h b X I J R n) ∧ ((v = 1 ∧ ∃ e, e < m ∧ ∀ j, j < 370 → I 282 (435 * e + j) = I 282 (435 * m + j)) ∨ (v = 0 ∧ ∀ e, e < m → ¬ ∀ j, j < 370 → I 282 (435 * e + j) = I 282 (435 * m + j))) := by
  intro t
  induction t with
  | zero =>
    intro k c3 c4 hk hn
    have : k = m := by omega
    subst this
    refine ⟨0, ?_, Or.inr ⟨rfl, hn⟩⟩
    conv => lhs; rw [r267_2]
    simp (disch := omega) [r267_0, r267_1, r267_3, r267_4, r267_7, r267_8, r267_11, r267_12, r267_13, r267_14, r267_17, r267_18, r267_19, r267_22, r267_25, r267_26, r267_27, r267_28, r267_30, r267_32, r267_35, r267_38, r267_39, r267_42, r267_43, r267_46, r267_47, r267_50, r267_51, r267_53, r267_54, r267_55, r267_56, r267_59, r267_60, r267_63, r267_64, r267_66, r267_67, r267_68, r267_71, r267_72, r267_75, r267_76, r267_77, r267_80, r267_83, r267_84, r267_87, r267_88, r267_89, r267_92, r267_95, r267_96, g241, vf12_76, t241_76, g283, vf12_75, t241_75, g282, List.getElem?_cons_zero, List.getElem?_cons_succ, List.length_cons, List.length_nil, ag_nx, ag_dn, ag_no, ag_if, jbr1, jbr2, jc1, jc2, jnul, jld, jsto, jstoL, jst1, jst2, jkill, jinc, jbI, jbL, jbS, juI, jl2i, jcmp, jisR, jisI, jisL, jret, jretv, jfits, jdup, jdup2, jpop, jmm, jcat, Value.category, jinv, jrcv, jthr, jhd, jput, jget, jlen, jald, jast, jaast, jgI, jgL, jgB, jtab, jlku, jacp, vf20, vf21, vf22, vf23, vf24, u2_s, u2_k, u2_i, uc_s, uc_k, uc_c, u2_c, LI0, LI1, LI2, LI3, LI4, LI5, LI6, LI7, LI8, LI9, LI10, LI11, LI12, LI13, LI14, LI15, LI16, LI17, LI18, LI19, LI20, LI21, LI22, LI23, LI24, LI25, LI26, LI27, LI28, LI29, LI30, LI31, LI32, LI33, LI34, LI35, LI36, LI37, LI40, LI42, LI43, LI45, LI48, LI60, LI61, LI64, LI80, LI300, LI400, LI1000, LI2000, LI2001, LI2047, LI2048, LI100000, LI1000000, LM, nI_clamp, nI_pos', nI_lt, nI_nlt, nI_le, nI_ge, nI_ne, nI_add, nI_sub, mI_lt, mI_le, mI_nlt, mI_nle, mI_ne, mI_ne', mI_nem, LI370, LI435, LI64, LI31, LI61]
  | succ t ih =>
    intro k c3 c4 hk hn
    by_cases ch : I 283 k = I 283 m
    · obtain ⟨v, c4', e, hv⟩ := r267i (A := A) (d := d) (b := b) (h := h) (X := X) (I := I) (J := J) (R := R) (n := n) (k := k) (m := m) (by omega) hm 370 0 (by omega) (fun j hj => by omega)
      rcases hv with ⟨rfl, hv⟩ | ⟨rfl, hv⟩
      · refine ⟨1, ?_, Or.inl ⟨rfl, k, by omega, hv⟩⟩
        conv => lhs; rw [r267_2]
        simp (disch := omega) [r267_0, r267_1, r267_3, r267_4, r267_7, r267_8, r267_11, r267_12, r267_13, r267_14, r267_17, r267_18, r267_19, r267_22, r267_25, r267_26, r267_27, r267_28, r267_32, r267_35, r267_38, r267_39, r267_42, r267_43, r267_46, r267_47, r267_50, r267_51, r267_53, r267_54, r267_55, r267_56, r267_59, r267_60, r267_63, r267_64, r267_66, r267_67, r267_68, r267_71, r267_72, r267_75, r267_76, r267_77, r267_80, r267_83, r267_84, r267_87, r267_88, r267_89, r267_92, r267_95, r267_96, g241, vf12_76, t241_76, g283, vf12_75, t241_75, g282, List.getElem?_cons_zero, List.getElem?_cons_succ, List.length_cons, List.length_nil, ag_nx, ag_dn, ag_no, ag_if, jbr1, jbr2, jc1, jc2, jnul, jld, jsto, jstoL, jst1, jst2, jkill, jinc, jbI, jbL, jbS, juI, jl2i, jcmp, jisR, jisI, jisL, jret, jretv, jfits, jdup, jdup2, jpop, jmm, jcat, Value.category, jinv, jrcv, jthr, jhd, jput, jget, jlen, jald, jast, jaast, jgI, jgL, jgB, jtab, jlku, jacp, vf20, vf21, vf22, vf23, vf24, u2_s, u2_k, u2_i, uc_s, uc_k, uc_c, u2_c, LI0, LI1, LI2, LI3, LI4, LI5, LI6, LI7, LI8, LI9, LI10, LI11, LI12, LI13, LI14, LI15, LI16, LI17, LI18, LI19, LI20, LI21, LI22, LI23, LI24, LI25, LI26, LI27, LI28, LI29, LI30, LI31, LI32, LI33, LI34, LI35, LI36, LI37, LI40, LI42, LI43, LI45, LI48, LI60, LI61, LI64, LI80, LI300, LI400, LI1000, LI2000, LI2001, LI2047, LI2048, LI100000, LI1000000, LM, nI_clamp, nI_pos', nI_lt, nI_nlt, nI_le, nI_ge, nI_ne, nI_add, nI_sub, mI_lt, mI_le, mI_nlt, mI_nle, mI_ne, mI_ne', mI_nem, LI370, LI435, LI64, LI31, LI61, show k < m by omega, show k < 1002 by omega, show m < 1002 by omega, ch, e]
      · obtain ⟨v, e2, hv2⟩ := ih (k + 1) (some (.int (nI 0))) c4' (by omega) (fun e he => by
          by_cases c : e = k
          · rw [c]; exact hv
          · exact hn e (by omega))
        refine ⟨v, ?_, hv2⟩
        conv => lhs; rw [r267_2]
        simp (disch := omega) [r267_0, r267_1, r267_3, r267_4, r267_7, r267_8, r267_11, r267_12, r267_13, r267_14, r267_17, r267_18, r267_19, r267_22, r267_25, r267_26, r267_27, r267_28, r267_32, r267_35, r267_38, r267_39, r267_42, r267_43, r267_46, r267_47, r267_50, r267_51, r267_53, r267_54, r267_55, r267_56, r267_59, r267_60, r267_63, r267_64, r267_66, r267_67, r267_68, r267_71, r267_72, r267_75, r267_76, r267_77, r267_80, r267_83, r267_84, r267_87, r267_88, r267_89, r267_92, r267_95, r267_96, g241, vf12_76, t241_76, g283, vf12_75, t241_75, g282, List.getElem?_cons_zero, List.getElem?_cons_succ, List.length_cons, List.length_nil, ag_nx, ag_dn, ag_no, ag_if, jbr1, jbr2, jc1, jc2, jnul, jld, jsto, jstoL, jst1, jst2, jkill, jinc, jbI, jbL, jbS, juI, jl2i, jcmp, jisR, jisI, jisL, jret, jretv, jfits, jdup, jdup2, jpop, jmm, jcat, Value.category, jinv, jrcv, jthr, jhd, jput, jget, jlen, jald, jast, jaast, jgI, jgL, jgB, jtab, jlku, jacp, vf20, vf21, vf22, vf23, vf24, u2_s, u2_k, u2_i, uc_s, uc_k, uc_c, u2_c, LI0, LI1, LI2, LI3, LI4, LI5, LI6, LI7, LI8, LI9, LI10, LI11, LI12, LI13, LI14, LI15, LI16, LI17, LI18, LI19, LI20, LI21, LI22, LI23, LI24, LI25, LI26, LI27, LI28, LI29, LI30, LI31, LI32, LI33, LI34, LI35, LI36, LI37, LI40, LI42, LI43, LI45, LI48, LI60, LI61, LI64, LI80, LI300, LI400, LI1000, LI2000, LI2001, LI2047, LI2048, LI100000, LI1000000, LM, nI_clamp, nI_pos', nI_lt, nI_nlt, nI_le, nI_ge, nI_ne, nI_add, nI_sub, mI_lt, mI_le, mI_nlt, mI_nle, mI_ne, mI_ne', mI_nem, LI370, LI435, LI64, LI31, LI61, show k < m by omega, show k < 1002 by omega, show m < 1002 by omega, ch, e, e2]
    · obtain ⟨v, e2, hv2⟩ := ih (k + 1) c3 c4 (by omega) (fun e he => by
        by_cases c : e = k
        · rw [c]
          intro z
          refine ch ?_
          rw [hH k (by omega), hH m (by omega)]
          exact hrF_congr _ _ _ _ z
        · exact hn e (by omega))
      refine ⟨v, ?_, hv2⟩
      conv => lhs; rw [r267_2]
      simp (disch := omega) [r267_0, r267_1, r267_3, r267_4, r267_7, r267_8, r267_11, r267_12, r267_13, r267_14, r267_17, r267_18, r267_19, r267_22, r267_25, r267_26, r267_27, r267_28, r267_32, r267_35, r267_38, r267_39, r267_42, r267_43, r267_46, r267_47, r267_50, r267_51, r267_53, r267_54, r267_55, r267_56, r267_59, r267_60, r267_63, r267_64, r267_66, r267_67, r267_68, r267_71, r267_72, r267_75, r267_76, r267_77, r267_80, r267_83, r267_84, r267_87, r267_88, r267_89, r267_92, r267_95, r267_96, g241, vf12_76, t241_76, g283, vf12_75, t241_75, g282, List.getElem?_cons_zero, List.getElem?_cons_succ, List.length_cons, List.length_nil, ag_nx, ag_dn, ag_no, ag_if, jbr1, jbr2, jc1, jc2, jnul, jld, jsto, jstoL, jst1, jst2, jkill, jinc, jbI, jbL, jbS, juI, jl2i, jcmp, jisR, jisI, jisL, jret, jretv, jfits, jdup, jdup2, jpop, jmm, jcat, Value.category, jinv, jrcv, jthr, jhd, jput, jget, jlen, jald, jast, jaast, jgI, jgL, jgB, jtab, jlku, jacp, vf20, vf21, vf22, vf23, vf24, u2_s, u2_k, u2_i, uc_s, uc_k, uc_c, u2_c, LI0, LI1, LI2, LI3, LI4, LI5, LI6, LI7, LI8, LI9, LI10, LI11, LI12, LI13, LI14, LI15, LI16, LI17, LI18, LI19, LI20, LI21, LI22, LI23, LI24, LI25, LI26, LI27, LI28, LI29, LI30, LI31, LI32, LI33, LI34, LI35, LI36, LI37, LI40, LI42, LI43, LI45, LI48, LI60, LI61, LI64, LI80, LI300, LI400, LI1000, LI2000, LI2001, LI2047, LI2048, LI100000, LI1000000, LM, nI_clamp, nI_pos', nI_lt, nI_nlt, nI_le, nI_ge, nI_ne, nI_add, nI_sub, mI_lt, mI_le, mI_nlt, mI_nle, mI_ne, mI_ne', mI_nem, LI370, LI435, LI64, LI31, LI61, show k < m by omega, show k < 1002 by omega, show m < 1002 by omega, ch, e2]
/-- isKnown -/
theorem r267 {m : Nat} (hm : m ≤ 1001) (hH : ∀ e, e ≤ m → I 283 e = hrF (I 282) 370 (435 * e) (nI 0)) : ∃ v, jcall A jcode (d + 1) 267 [.ref (b + 241), .int (nI m)] (jH h b X I J R n) = some (.inl (some (.int (nI v))), jH h b X I J R n) ∧ ((v = 1 ∧ ∃ e, e < m ∧ ∀ j, j < 370 → I 282 (435 * e + j) = I 282 (435 * m + j)) ∨ (v = 0 ∧ ∀ e, e < m → ¬ ∀ j, j < 370 → I 282 (435 * e + j) = I 282 (435 * m + j))) := by
  obtain ⟨v, e, hv⟩ := r267l (A := A) (d := d) (b := b) (h := h) (X := X) (I := I) (J := J) (R := R) (n := n) hm hH m 0 none none (by omega) (fun e he => by omega)
  refine ⟨v, ?_, hv⟩
  simp (disch := omega) [je267, r267_0, r267_1, r267_3, r267_4, r267_7, r267_8, r267_11, r267_12, r267_13, r267_14, r267_17, r267_18, r267_19, r267_22, r267_25, r267_26, r267_27, r267_28, r267_30, r267_32, r267_35, r267_38, r267_39, r267_42, r267_43, r267_46, r267_47, r267_50, r267_51, r267_53, r267_54, r267_55, r267_56, r267_59, r267_60, r267_63, r267_64, r267_66, r267_67, r267_68, r267_71, r267_72, r267_75, r267_76, r267_77, r267_80, r267_83, r267_84, r267_87, r267_88, r267_89, r267_92, r267_95, r267_96, g241, vf12_76, t241_76, g283, vf12_75, t241_75, g282, List.getElem?_cons_zero, List.getElem?_cons_succ, List.length_cons, List.length_nil, ag_nx, ag_dn, ag_no, ag_if, jbr1, jbr2, jc1, jc2, jnul, jld, jsto, jstoL, jst1, jst2, jkill, jinc, jbI, jbL, jbS, juI, jl2i, jcmp, jisR, jisI, jisL, jret, jretv, jfits, jdup, jdup2, jpop, jmm, jcat, Value.category, jinv, jrcv, jthr, jhd, jput, jget, jlen, jald, jast, jaast, jgI, jgL, jgB, jtab, jlku, jacp, vf20, vf21, vf22, vf23, vf24, u2_s, u2_k, u2_i, uc_s, uc_k, uc_c, u2_c, LI0, LI1, LI2, LI3, LI4, LI5, LI6, LI7, LI8, LI9, LI10, LI11, LI12, LI13, LI14, LI15, LI16, LI17, LI18, LI19, LI20, LI21, LI22, LI23, LI24, LI25, LI26, LI27, LI28, LI29, LI30, LI31, LI32, LI33, LI34, LI35, LI36, LI37, LI40, LI42, LI43, LI45, LI48, LI60, LI61, LI64, LI80, LI300, LI400, LI1000, LI2000, LI2001, LI2047, LI2048, LI100000, LI1000000, LM, nI_clamp, nI_pos', nI_lt, nI_nlt, nI_le, nI_ge, nI_ne, nI_add, nI_sub, mI_lt, mI_le, mI_nlt, mI_nle, mI_ne, mI_ne', mI_nem, LI370, LI435, LI64, LI31, LI61, e]
end RKN
