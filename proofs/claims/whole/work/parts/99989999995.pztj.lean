/-! steps: outside -/
section ZTJ
variable {A : Nat → Nat} {d b n s0 Ls i c : Nat} {h : Nat → Option jC} {X : jXX} {I : Nat → Nat → Int32} {J : Nat → Nat → Int64} {R : Nat → Nat → Nat} {xs : Nat → Int32}
theorem plC_fr3 {cN rN : Int32 → Nm} {N : Nat → Nat → Int32} {O G E : Nat → Int32} {np P L : Nat} {I I' : Nat → Nat → Int32} (hi : ∀ c i, P ≤ c → c ≤ P + 22 → c ≠ P + 1 → c ≠ P + 2 → c ≠ P + 3 → I' c i = I c i) (h : plC cN rN N O G E np P L I) : plC cN rN N O G E np P L I' := by
  have e : ∀ j, j ≤ 22 → j = 0 ∨ 4 ≤ j → I' (P + j) = I (P + j) := fun j hj hj1 => funext fun i => hi _ _ (by omega) (by omega) (by omega) (by omega) (by omega)
  have e0 : I' P = I P := e 0 (by omega) (by omega)
  unfold plC kP kC cdC at h ⊢
  rw [e0, e 4 (by omega) (by omega), e 5 (by omega) (by omega), e 6 (by omega) (by omega), e 7 (by omega) (by omega), e 9 (by omega) (by omega), e 10 (by omega) (by omega), e 11 (by omega) (by omega), e 12 (by omega) (by omega), e 13 (by omega) (by omega), e 14 (by omega) (by omega), e 15 (by omega) (by omega), e 16 (by omega) (by omega), e 17 (by omega) (by omega), e 18 (by omega) (by omega), e 19 (by omega) (by omega), e 20 (by omega) (by omega), e 21 (by omega) (by omega), e 22 (by omega) (by omega)]
  exact h
theorem ok_out {N : Nat → Nat → Int32} {np B D k : Nat} {W : aW Nm} {a : aI Nm} {x : Nm} {v : Int32} (h : okW N np B W) (hd : okD D W) (hk : W.1[k]? = some a) : okW N np B (aOut k a x v W) ∧ okD D (aOut k a x v W) := by
  unfold aOut
  by_cases hl : a.2.2.1.length < 8
  · rw [if_pos hl]
    obtain ⟨p, p1, p2, p3, p4, p5, p6⟩ := h.2.1 k a hk
    refine ⟨okW_eq (okW_put (a' := aAcc (x, v, -1, -1) a) h hk ⟨p, p1, p2, p3, p4, by unfold aAcc; simp; omega, p6⟩ rfl rfl) rfl rfl, hd.1, fun j c hc t ht => ?_⟩
    have hc' : (W.1.set k (aAcc (x, v, -1, -1) a))[j]? = some c := hc
    rw [List.getElem?_set] at hc'
    by_cases e : k = j
    · subst e
      rw [if_pos rfl, if_pos (lt_of_some hk)] at hc'
      cases hc'
      exact hd.2 k a hk t ht
    · rw [if_neg e] at hc'
      exact hd.2 j c hc' t ht
  · rw [if_neg hl]
    exact ⟨okW_eq h rfl rfl, hd⟩
theorem qq_out {np k : Nat} {W : aW Nm} {a : aI Nm} {x : Nm} {v : Int32} (h : okQ np W) (hk : W.1[k]? = some a) : okQ np (aOut k a x v W) := by
  unfold aOut
  have pa := okQ_at h hk
  by_cases hl : a.2.2.1.length < 8
  · rw [if_pos hl]
    refine okQ_add (okQ_put h (oI_acc pa (Or.inl rfl))) ⟨(show ¬ (0 : Int32) < 0 by decide), fun x' y' e => ?_⟩
    simp only [Option.some.injEq, Prod.mk.injEq] at e
    obtain ⟨e1, e2⟩ := e
    subst e1
    subst e2
    exact ⟨Or.inl rfl, Or.inr pa.1⟩
  · rw [if_neg hl]
    exact okQ_lose (okQ_add h (oE_n (by decide)))
theorem st_4 (hs0 : s0 < b) (hs : h s0 = some (25, Ls, fun j => .int (xs j))) (hL : Ls ≤ 3072) (hi : i + 6 ≤ Ls) (hA : jAp0 A) (hc : c < 590) (hR : Rel c X I J R n) (hk : xs i &&& 31 = nI 4) : stp A d b s0 i h c X I J R n := by
  intro x5 x6 x7
  have hR' := hR
  obtain ⟨T, nn, nb, M, P, P', L, C, C', a1, a2, a3, a4, a5, a6, ⟨a70, a7⟩, a8, a9, a10⟩ := hR'
  have hw := isW_57
  have hq : isI 66 := by unfold isI; simp
  have tT := a1.1
  have hnb : nb ≤ 2 ^ 17 := by have := a4.2.2; omega
  obtain ⟨hP, hP', hj⟩ := lkS_ok a6
  have hPe := isP_e hP
  have hPP := a6.1
  obtain ⟨I1, J1, m, e169, hT1, z1, f1, fj1⟩ := c169 (A := A) (d := d + 1392) (b := b) (h := h) (X := X) (R := R) (n := n) hA a1 a3.1
  obtain ⟨t, ht⟩ : ∃ t, t = tpT I T := ⟨_, rfl⟩
  rw [← ht] at hT1
  have e169' : jcall A jcode (d + 1399) 169 [.ref b] (jH h b X I J R n) = some (.inl none, (jH h b X I1 J1 R n)) := e169
  have g0 : ∀ c i, 241 ≤ c → I1 c i = I c i := fun c i hc => f1 c i (by omega) (by omega) (by omega)
  have gw : ∀ c i, 57 ≤ c → c ≤ 130 → I1 c i = I c i := fun c i h1 h2 => f1 c i (by omega) (by omega) (by omega)
  have hrm1 : rNm X I1 nn nb := rNm_s a4.1 (fun c i c1 c2 => g0 c i (by omega)) (g0 _ _ (by omega)) (g0 _ _ (by omega))
  have et : tpT I1 T = t := by rw [ht]; funext j; unfold tpT; rw [g0 _ _ (by omega), g0 _ _ (by omega)]
  have b248 : ∀ i, i < T → (I1 248 i).toInt8.toInt32 = I1 248 i := fun i hi => by rw [g0 _ _ (by omega)]; exact (a1.2.2.2 i (by omega)).2
  have h13 : I1 241 13 = nI T := (g0 _ _ (by omega)).trans a1.2.2.1
  have i10 : I1 0 10 = I 0 10 := f1 _ _ (by omega) (by omega) (by omega)
  -- an exception
  have EXR0 : ∀ (code : Nat) (X1 : jXX) (n1 : Nat) (J0 : Nat → Nat → Int64), (∀ v, cp X1 v = cp X v) → tp X1 ≤ tp X + 1 → n1 ≤ n + 6 → rNm X1 I1 nn nb → cpT X1 nn nb → (∀ c i, c ≠ 299 → J0 c i = J1 c i) → ∃ X' I' n' nn' nb' v, jcall A jcode (d + 1400) 251 [.ref (b + 241)] (jH h b X1 I1 J0 R n1) = some (.inl (some (.int v)), (jH h b X' I' J0 R n')) ∧ rKn X1 I1 n1 nn nb T X' I' n' nn' nb' ∧ (KK t T 0 = 26 ∧ KK t T 1 = 29 → ∃ w, w < nn' ∧ v = nI w ∧ rnm I' w = Yn t T 0) ∧ (¬ (KK t T 0 = 26 ∧ KK t T 1 = 29) → v = mI 1) ∧ Rel (c + 1) X' (u2 I' 241 0 (nI code)) J0 R n' := by
    intro code X1 n1 J0 hX1 htp hn1 hrX hcX hJ0
    obtain ⟨X', I', n', nn', nb', v, e, k, k1, k2⟩ := r251 (A := A) (d := d + 1393) (b := b) (h := h) (X := X1) (J := J0) (R := R) (n := n1) hA tT h13 b248 hrX hcX hnb
    rw [et] at k1 k2
    refine ⟨X', I', n', nn', nb', v, e, k, k1, k2, ?_⟩
    obtain ⟨g1, g2, g3, g4, g5, g6, g7, g8, g9⟩ := k
    exact Rel_N a1 a2 a3 a4 a5 a6 ⟨a70, a7⟩ a8 a9 a10 (X1 := X1) (n1 := n1) hX1 htp hn1 g6 g7 (rNm_s g1 (fun c i c1 c2 => u2_o _ _ (by omega)) (u2_o _ _ (by omega)) (u2_o _ _ (by omega))) g2 g3 g4 (fun u hu => by rw [rnm_e (fun c i c1 c2 => u2_o _ _ (by omega)), g5 u hu]; exact rnm_e (fun c i c1 c2 => g0 c i (by omega))) (by rw [u2_o _ _ (by omega), g9 _ _ (by omega) (by omega) (by omega)]; exact z1) (by rw [u2_o _ _ (by omega)]; exact g8) (fun c i h1 h2 h3 h4 h5 => by rw [u2_o _ _ (by omega), g9 c i (by omega) h4 h5, f1 c i (by omega) (by omega) h2]) (fun c i h1 h2 => (hJ0 c i h2).trans (fj1 c i h1))
  have EXR : ∀ (E code : Nat), ∃ X' I' n' nn' nb' v, jcall A jcode (d + 1400) 251 [.ref (b + 241)] (jH h b (xad X (jE E)) I1 J1 R (n + 6)) = some (.inl (some (.int v)), (jH h b X' I' J1 R n')) ∧ rKn (xad X (jE E)) I1 (n + 6) nn nb T X' I' n' nn' nb' ∧ (KK t T 0 = 26 ∧ KK t T 1 = 29 → ∃ w, w < nn' ∧ v = nI w ∧ rnm I' w = Yn t T 0) ∧ (¬ (KK t T 0 = 26 ∧ KK t T 1 = 29) → v = mI 1) ∧ Rel (c + 1) X' (u2 I' 241 0 (nI code)) J1 R n' := fun E code => EXR0 code (xad X (jE E)) (n + 6) J1 (fun _ => rfl) (Nat.le_refl _) (Nat.le_refl _) hrm1 a4.2.1 (fun _ _ _ => rfl)
  have hN := isP_N hP
  rcases a7 with ⟨s1, s2, s3, s4, s5⟩ | ⟨k, np, Lc, cap, B, D, N, O, G, E, W, a7⟩
  · have e173 := c173n (A := A) (d := d + 1397) (b := b) (h := h) (X := X) (I := I1) (J := J1) (R := R) (n := n) (x := xs (i + 1)) (i10.trans s1)
    have i33 : I1 241 33 = nI 0 := (g0 _ _ (by omega)).trans s2
    have e1 : jcall A jcode (d + 1400) 152 [.ref b, .int (xs (i + 1)), .int (xs (i + 2))] (jH h b X I J R n) = some (.inr 43, (jH h b (xad X (jE 43)) I1 J1 R (n + 6))) := by
      simp (disch := omega) [je152, r152_0, r152_1, r152_4, r152_5, r152_6, r152_9, r152_10, r152_11, r152_14, r152_17, r152_20, r152_30, r152_31, r152_34, r152_37, r152_38, r152_41, r152_42, r152_45, r152_46, r152_49, r152_50, r152_53, r152_56, r152_58, r152_59, r152_62, r152_63, r152_65, r152_66, r152_69, r152_72, r152_73, r152_76, r152_77, qa169, qo169, g0z, qa173, qo173, vf10_4, t0_4, qa90, qo90, g3, vf10_8, t0_8, gP0 hP, vf5_0, tP0_0 hP, qa87, qo87, qa88, qo88, qa30, qo30, gN0 hN, vf10_6, t0_6, qa119, qo119, gW0 hw, List.getElem?_cons_zero, List.getElem?_cons_succ, List.length_cons, List.length_nil, ag_nx, ag_dn, ag_no, ag_if, jbr1, jbr2, jc1, jc2, jnul, jld, jsto, jstoL, jst1, jst2, jkill, jinc, jbI, jbL, jbS, juI, jl2i, jcmp, jisR, jisI, jisL, jret, jretv, jfits, jdup, jdup2, jpop, jmm, jcat, Value.category, jinv, jrcv, jthr, jhd, jput, jget, jlen, jald, jast, jaast, jgI, jgL, jgB, jtab, jlku, jacp, vf20, vf21, vf22, vf23, vf24, u2_s, u2_k, u2_i, uc_s, uc_k, uc_c, u2_c, LI0, LI1, LI2, LI3, LI4, LI5, LI6, LI7, LI8, LI9, LI10, LI11, LI12, LI13, LI14, LI15, LI16, LI17, LI18, LI19, LI20, LI21, LI22, LI23, LI24, LI25, LI26, LI27, LI28, LI29, LI30, LI31, LI32, LI33, LI34, LI35, LI36, LI37, LI40, LI42, LI43, LI45, LI48, LI60, LI61, LI64, LI80, LI300, LI400, LI1000, LI2000, LI2001, LI2047, LI2048, LI100000, LI1000000, LI38, LI39, LI41, LI44, LI46, LI47, LI49, LI50, LI51, LI52, LI53, LI54, LI55, LI56, LI57, LI58, LI59, LI62, LI63, LI65, LI66, LI67, LI68, LI69, LI70, LI71, LI72, LI73, LI74, LI75, LI76, LI77, LI78, LI79, LI81, LI82, LI83, LI84, LI85, LI86, LI87, LI88, LI89, LI90, LI91, LI92, LI93, LI94, LI95, LI96, LI97, LI98, LI99, LI100, LI101, LI102, LI103, LI104, LI105, LI106, LI107, LI108, LI109, LI110, LI111, LI112, LI113, LI114, LI115, LI116, LI117, LI118, LI119, LI120, LI121, LI122, LI123, LI124, LI125, LI126, LI127, LI255, LI256, LI999, LI1001, LI1002, LI1600, LI4096, LI1000001, LI2042, LM, nI_clamp, nI_pos', nI_lt, nI_nlt, nI_le, nI_ge, nI_ne, nI_add, nI_sub, mI_lt, mI_le, mI_nlt, mI_nle, mI_ne, mI_ne', mI_nem, e169', e173]
    obtain ⟨X', I', n', nn', nb', v, e251, hk1, hv1, hv2, hRel⟩ := EXR 43 1
    have e176 := r176 (A := A) (d := d + 1399) (b := b) (h := h) (X := X') (I := I') (J := J1) (R := R) (n := n') (k := 1) (by omega)
    have gI : ∀ c i, ¬ (c = 241 ∧ (i = 8 ∨ i = 9 ∨ (13 ≤ i ∧ i ≤ 18))) → ¬ (243 ≤ c ∧ c ≤ 247) → c ≠ 249 → I' c i = I1 c i := hk1.2.2.2.2.2.2.2.2
    have i33' : I' 241 33 = nI 0 := (gI _ _ (by omega) (by omega) (by omega)).trans i33
    have e2 : jcall A jcode (d + 1401) 252 [.ref (b + 241), .int (xs (i + 1)), .int (xs (i + 2))] (jH h b (xad X (jE 43)) I1 J1 R (n + 6)) = some (.inl (some (.int (nI 0))), (jH h b X' (u2 I' 241 0 (nI 1)) J1 R n')) := by
      simp (disch := omega) [je252, r252_0, r252_1, r252_4, r252_5, r252_6, r252_9, r252_12, r252_13, r252_14, r252_17, r252_20, r252_21, r252_23, r252_24, r252_25, r252_28, r252_31, r252_32, r252_35, r252_37, r252_40, r252_41, r252_44, r252_45, r252_48, r252_49, r252_52, r252_53, r252_56, r252_59, r252_60, r252_61, r252_62, r252_65, r252_67, r252_68, r252_69, r252_70, r252_71, r252_72, r252_74, r252_75, r252_78, r252_80, r252_81, r252_84, r252_85, r252_87, r252_88, r252_89, r252_90, r252_92, r252_95, r252_98, r252_99, r252_100, r252_102, r252_105, r252_108, r252_109, r252_112, r252_114, r252_115, r252_116, r252_117, r252_118, r252_119, r252_120, r252_123, r252_124, qa251, qo251, g241, vf12_33, qa220, qo220, qa176, qo176, vf12_64, vf12_43, t241_43, g261, p261, qa218, qo218, qa226, qo226, vf12_63, t241_63, g281, p281, qa219, qo219, List.getElem?_cons_zero, List.getElem?_cons_succ, List.length_cons, List.length_nil, ag_nx, ag_dn, ag_no, ag_if, jbr1, jbr2, jc1, jc2, jnul, jld, jsto, jstoL, jst1, jst2, jkill, jinc, jbI, jbL, jbS, juI, jl2i, jcmp, jisR, jisI, jisL, jret, jretv, jfits, jdup, jdup2, jpop, jmm, jcat, Value.category, jinv, jrcv, jthr, jhd, jput, jget, jlen, jald, jast, jaast, jgI, jgL, jgB, jtab, jlku, jacp, vf20, vf21, vf22, vf23, vf24, u2_s, u2_k, u2_i, uc_s, uc_k, uc_c, u2_c, LI0, LI1, LI2, LI3, LI4, LI5, LI6, LI7, LI8, LI9, LI10, LI11, LI12, LI13, LI14, LI15, LI16, LI17, LI18, LI19, LI20, LI21, LI22, LI23, LI24, LI25, LI26, LI27, LI28, LI29, LI30, LI31, LI32, LI33, LI34, LI35, LI36, LI37, LI40, LI42, LI43, LI45, LI48, LI60, LI61, LI64, LI80, LI300, LI400, LI1000, LI2000, LI2001, LI2047, LI2048, LI100000, LI1000000, LI38, LI39, LI41, LI44, LI46, LI47, LI49, LI50, LI51, LI52, LI53, LI54, LI55, LI56, LI57, LI58, LI59, LI62, LI63, LI65, LI66, LI67, LI68, LI69, LI70, LI71, LI72, LI73, LI74, LI75, LI76, LI77, LI78, LI79, LI81, LI82, LI83, LI84, LI85, LI86, LI87, LI88, LI89, LI90, LI91, LI92, LI93, LI94, LI95, LI96, LI97, LI98, LI99, LI100, LI101, LI102, LI103, LI104, LI105, LI106, LI107, LI108, LI109, LI110, LI111, LI112, LI113, LI114, LI115, LI116, LI117, LI118, LI119, LI120, LI121, LI122, LI123, LI124, LI125, LI126, LI127, LI255, LI256, LI999, LI1001, LI1002, LI1600, LI4096, LI1000001, LI2042, LM, nI_clamp, nI_pos', nI_lt, nI_nlt, nI_le, nI_ge, nI_ne, nI_add, nI_sub, mI_lt, mI_le, mI_nlt, mI_nle, mI_ne, mI_ne', mI_nem, e251, i33', e176]
    exact ⟨_, _, _, _, _, _, _, _, (lwD_4 hs0 hs hL hi hk).trans (lw4_1 hs0 hs hL hi e1 e2 u2_s), hRel⟩
  · have hcap := zY_cap a5 a7
    obtain ⟨b1, b2, b3, b4, b5, b6, b7, b8, b9, b10, b11, b12, b13, b14, b15, b16, b17⟩ := a7
    have i33 : I1 241 33 = nI 1 := (g0 _ _ (by omega)).trans b2
    have w1 : wC (cNf (cnm I J (P + 1)) L) I1 R 57 W := wC_fr57 b12 gw (fun _ => rfl)
    have w2 : ∀ I', (∀ c i, (260 ≤ c ∧ c ≤ 281) ∨ (c = 241 ∧ 36 ≤ i ∧ i ≤ 68) → I' c i = I1 c i) → wR (rNf (rnm I) nn) I' true W := fun I' hI' => wR_fr b13 (fun c i hc => by rw [hI' c i hc, g0 c i (by omega)])
    cases hsl : aSlot W (xs (i + 1)) with
    | none =>
      have e173 := c173z (A := A) (d := d + 1397) (b := b) (h := h) (X := X) (J := J1) (n := n) (i10.trans b1) w1 hsl
      have e1 : jcall A jcode (d + 1400) 152 [.ref b, .int (xs (i + 1)), .int (xs (i + 2))] (jH h b X I J R n) = some (.inr 44, (jH h b (xad X (jE 44)) I1 J1 R (n + 6))) := by
        simp (disch := omega) [je152, r152_0, r152_1, r152_4, r152_5, r152_6, r152_9, r152_10, r152_11, r152_14, r152_17, r152_20, r152_30, r152_31, r152_34, r152_37, r152_38, r152_41, r152_42, r152_45, r152_46, r152_49, r152_50, r152_53, r152_56, r152_58, r152_59, r152_62, r152_63, r152_65, r152_66, r152_69, r152_72, r152_73, r152_76, r152_77, qa169, qo169, g0z, qa173, qo173, vf10_4, t0_4, qa90, qo90, g3, vf10_8, t0_8, gP0 hP, vf5_0, tP0_0 hP, qa87, qo87, qa88, qo88, qa30, qo30, gN0 hN, vf10_6, t0_6, qa119, qo119, gW0 hw, List.getElem?_cons_zero, List.getElem?_cons_succ, List.length_cons, List.length_nil, ag_nx, ag_dn, ag_no, ag_if, jbr1, jbr2, jc1, jc2, jnul, jld, jsto, jstoL, jst1, jst2, jkill, jinc, jbI, jbL, jbS, juI, jl2i, jcmp, jisR, jisI, jisL, jret, jretv, jfits, jdup, jdup2, jpop, jmm, jcat, Value.category, jinv, jrcv, jthr, jhd, jput, jget, jlen, jald, jast, jaast, jgI, jgL, jgB, jtab, jlku, jacp, vf20, vf21, vf22, vf23, vf24, u2_s, u2_k, u2_i, uc_s, uc_k, uc_c, u2_c, LI0, LI1, LI2, LI3, LI4, LI5, LI6, LI7, LI8, LI9, LI10, LI11, LI12, LI13, LI14, LI15, LI16, LI17, LI18, LI19, LI20, LI21, LI22, LI23, LI24, LI25, LI26, LI27, LI28, LI29, LI30, LI31, LI32, LI33, LI34, LI35, LI36, LI37, LI40, LI42, LI43, LI45, LI48, LI60, LI61, LI64, LI80, LI300, LI400, LI1000, LI2000, LI2001, LI2047, LI2048, LI100000, LI1000000, LI38, LI39, LI41, LI44, LI46, LI47, LI49, LI50, LI51, LI52, LI53, LI54, LI55, LI56, LI57, LI58, LI59, LI62, LI63, LI65, LI66, LI67, LI68, LI69, LI70, LI71, LI72, LI73, LI74, LI75, LI76, LI77, LI78, LI79, LI81, LI82, LI83, LI84, LI85, LI86, LI87, LI88, LI89, LI90, LI91, LI92, LI93, LI94, LI95, LI96, LI97, LI98, LI99, LI100, LI101, LI102, LI103, LI104, LI105, LI106, LI107, LI108, LI109, LI110, LI111, LI112, LI113, LI114, LI115, LI116, LI117, LI118, LI119, LI120, LI121, LI122, LI123, LI124, LI125, LI126, LI127, LI255, LI256, LI999, LI1001, LI1002, LI1600, LI4096, LI1000001, LI2042, LM, nI_clamp, nI_pos', nI_lt, nI_nlt, nI_le, nI_ge, nI_ne, nI_add, nI_sub, mI_lt, mI_le, mI_nlt, mI_nle, mI_ne, mI_ne', mI_nem, e169', e173]
      obtain ⟨X', I', n', nn', nb', v, e251, hk1, hv1, hv2, hRel⟩ := EXR 44 2
      have e176 := r176 (A := A) (d := d + 1399) (b := b) (h := h) (X := X') (I := I') (J := J1) (R := R) (n := n') (k := 2) (by omega)
      have gI : ∀ c i, ¬ (c = 241 ∧ (i = 8 ∨ i = 9 ∨ (13 ≤ i ∧ i ≤ 18))) → ¬ (243 ≤ c ∧ c ≤ 247) → c ≠ 249 → I' c i = I1 c i := hk1.2.2.2.2.2.2.2.2
      have i33' : I' 241 33 = nI 1 := (gI _ _ (by omega) (by omega) (by omega)).trans i33
      have e220 := rSlot (A := A) (d := d + 1399) (b := b) (h := h) (X := X') (J := J1) (R := R) (n := n') (x := xs (i + 1)) (w2 I' (fun c i hc => gI c i (by omega) (by omega) (by omega)))
      rw [hsl, show inO none = mI 1 from rfl] at e220
      have e2 : jcall A jcode (d + 1401) 252 [.ref (b + 241), .int (xs (i + 1)), .int (xs (i + 2))] (jH h b (xad X (jE 44)) I1 J1 R (n + 6)) = some (.inl (some (.int (nI 0))), (jH h b X' (u2 I' 241 0 (nI 2)) J1 R n')) := by
        simp (disch := omega) [je252, r252_0, r252_1, r252_4, r252_5, r252_6, r252_9, r252_12, r252_13, r252_14, r252_17, r252_20, r252_21, r252_23, r252_24, r252_25, r252_28, r252_31, r252_32, r252_35, r252_37, r252_40, r252_41, r252_44, r252_45, r252_48, r252_49, r252_52, r252_53, r252_56, r252_59, r252_60, r252_61, r252_62, r252_65, r252_67, r252_68, r252_69, r252_70, r252_71, r252_72, r252_74, r252_75, r252_78, r252_80, r252_81, r252_84, r252_85, r252_87, r252_88, r252_89, r252_90, r252_92, r252_95, r252_98, r252_99, r252_100, r252_102, r252_105, r252_108, r252_109, r252_112, r252_114, r252_115, r252_116, r252_117, r252_118, r252_119, r252_120, r252_123, r252_124, qa251, qo251, g241, vf12_33, qa220, qo220, qa176, qo176, vf12_64, vf12_43, t241_43, g261, p261, qa218, qo218, qa226, qo226, vf12_63, t241_63, g281, p281, qa219, qo219, List.getElem?_cons_zero, List.getElem?_cons_succ, List.length_cons, List.length_nil, ag_nx, ag_dn, ag_no, ag_if, jbr1, jbr2, jc1, jc2, jnul, jld, jsto, jstoL, jst1, jst2, jkill, jinc, jbI, jbL, jbS, juI, jl2i, jcmp, jisR, jisI, jisL, jret, jretv, jfits, jdup, jdup2, jpop, jmm, jcat, Value.category, jinv, jrcv, jthr, jhd, jput, jget, jlen, jald, jast, jaast, jgI, jgL, jgB, jtab, jlku, jacp, vf20, vf21, vf22, vf23, vf24, u2_s, u2_k, u2_i, uc_s, uc_k, uc_c, u2_c, LI0, LI1, LI2, LI3, LI4, LI5, LI6, LI7, LI8, LI9, LI10, LI11, LI12, LI13, LI14, LI15, LI16, LI17, LI18, LI19, LI20, LI21, LI22, LI23, LI24, LI25, LI26, LI27, LI28, LI29, LI30, LI31, LI32, LI33, LI34, LI35, LI36, LI37, LI40, LI42, LI43, LI45, LI48, LI60, LI61, LI64, LI80, LI300, LI400, LI1000, LI2000, LI2001, LI2047, LI2048, LI100000, LI1000000, LI38, LI39, LI41, LI44, LI46, LI47, LI49, LI50, LI51, LI52, LI53, LI54, LI55, LI56, LI57, LI58, LI59, LI62, LI63, LI65, LI66, LI67, LI68, LI69, LI70, LI71, LI72, LI73, LI74, LI75, LI76, LI77, LI78, LI79, LI81, LI82, LI83, LI84, LI85, LI86, LI87, LI88, LI89, LI90, LI91, LI92, LI93, LI94, LI95, LI96, LI97, LI98, LI99, LI100, LI101, LI102, LI103, LI104, LI105, LI106, LI107, LI108, LI109, LI110, LI111, LI112, LI113, LI114, LI115, LI116, LI117, LI118, LI119, LI120, LI121, LI122, LI123, LI124, LI125, LI126, LI127, LI255, LI256, LI999, LI1001, LI1002, LI1600, LI4096, LI1000001, LI2042, LM, nI_clamp, nI_pos', nI_lt, nI_nlt, nI_le, nI_ge, nI_ne, nI_add, nI_sub, mI_lt, mI_le, mI_nlt, mI_nle, mI_ne, mI_ne', mI_nem, e251, i33', e220, e176]
      exact ⟨_, _, _, _, _, _, _, _, (lwD_4 hs0 hs hL hi hk).trans (lw4_2 hs0 hs hL hi e1 e2 u2_s), hRel⟩
    | some q =>
      obtain ⟨a, ha⟩ := aSlot_at hsl
      have e173 := c173y (A := A) (d := d + 1397) (b := b) (h := h) (X := X) (J := J1) (n := n) (i10.trans b1) w1 hsl
      have q8 : q < 8 := by have := b14.1; have := lt_of_some ha; omega
      have hq : isI (R 65 q) := wA_I hw w1.1 q q8
      have e90 := c90 (A := A) (d := d + 1397) (b := b) (h := h) (X := X) (R := R) (n := n) hT1 tT
      have R8 := a6.2.1
      by_cases hone : KK t T 0 = 26 ∧ KK t T 1 = 29
      · rw [if_pos hone] at e90
        have hm1 := hT1.1
        have hmT := hT1.2.1
        have e87 := c87 (A := A) (d := d + 1398) (b := b) (h := h) (X := X) (I := I1) (J := J1) (R := R) (n := n) (j := 0) hm1 (by omega) (by omega)
        have e88 := c88 (A := A) (d := d + 1398) (b := b) (h := h) (X := X) (I := I1) (J := J1) (R := R) (n := n) (j := 0) hm1 (by omega) (by omega)
        obtain ⟨_, _, _, t8, t9⟩ := hT1.2.2.2.2 0 (by omega)
        rw [t8] at e87
        rw [t9] at e88
        have ec1 : cnm I1 J1 (P + 1) = cnm I J (P + 1) := funext fun x => by unfold cnm; rw [f1 _ _ (by omega) (by omega) (by omega), fj1 _ _ (by omega)]
        have hcN1 : cNm I1 J1 (P + 1) L := cNm_fr a6.2.2.2.1 (f1 _ _ (by omega) (by omega) (by omega)) (fun i => f1 _ _ (by omega) (by omega) (by omega)) (fun i => fj1 _ _ (by omega))
        have hcap16 : (sT (P + 1 + 1)).2 = 1600 := by
          have : ∀ P ∈ [10, 33], (sT (P + 1 + 1)).2 = 1600 := by decide +kernel
          exact this P hP
        obtain ⟨I2, J2, u, L2, e30, k1, k2, k3, k4, k5, k6, k7, k8⟩ := cKeep (A := A) (d := d + 1397) (b := b) (h := h) (X := X) (R := R) (n := n) (u := tkH t T (tpos t T 0)) (v := tkD t T (tpos t T 0)) hN hcN1 (by omega)
        have L2b : L2 ≤ 1600 := by have := k1.2.1; omega
        have f2 : ∀ c i, ¬ (3 ≤ c ∧ c ≤ 9) → ¬ (c = 0 ∧ i = 1) → ¬ (c = P + 1 ∧ i = 2) → c ≠ P + 3 → I2 c i = I c i := fun c i h1 h2 h3 h4 => by rw [k7 c i h3 (by omega), f1 c i (by omega) (by omega) h2]
        have fj2 : ∀ c i, c ≠ 8 → c ≠ P + 2 → J2 c i = J c i := fun c i h1 h2 => by rw [k8 c i (by omega), fj1 c i h1]
        have hcn : ∀ y, y < L → cnm I2 J2 (P + 1) y = cnm I J (P + 1) y := fun y hy => by rw [k6 y hy, ec1]
        have hleC := leP_f (C := cnm I J (P + 1)) (C' := cnm I2 J2 (P + 1)) (D := rnm I) (D' := rnm I) (L := nn) (L' := nn) k4 hcn (Nat.le_refl _) (fun _ _ => rfl)
        have wc2 : wC (cNf (cnm I J (P + 1)) L) I2 R 57 W := wC_fr57 b12 (fun c i h1 h2 => f2 c i (by omega) (by omega) (by omega) (by omega)) (fun _ => rfl)
        have wr2 : wR (rNf (rnm I) nn) I2 true W := wR_fr b13 (fun c i hc => f2 c i (by omega) (by omega) (by omega) (by omega))
        obtain ⟨wc2', _⟩ := wCR_mo hleC wc2 wr2
        obtain ⟨p, p1, p2, p3, p4, p5, p6⟩ := b14.2.1 q a ha
        have np6 := b9.1
        obtain ⟨I3, e119, y1, y2⟩ := c119 (A := A) (d := d + 1396) (b := b) (h := h) (X := X) (J := J2) (n := n) (x := nI u) (v := xs (i + 2)) wc2' ha p5 ⟨p, by omega, p2⟩
        have hnu : cNf (cnm I2 J2 (P + 1)) L2 (nI u) = .inl (Yn t T 0) := by rw [cNf_v k2 (by omega), k3]; rfl
        rw [hnu] at y1
        obtain ⟨v, hv⟩ : ∃ v, v = (if a.2.2.1.length < 8 then nI 1 else nI 0) := ⟨_, rfl⟩
        rw [← hv] at e119
        have e1 : jcall A jcode (d + 1400) 152 [.ref b, .int (xs (i + 1)), .int (xs (i + 2))] (jH h b X I J R n) = some (.inl (some (.int v)), (jH h b X I3 J2 R n)) := by
          by_cases hl : a.2.2.1.length < 8
          · rw [if_pos hl] at hv
            subst hv
            simp (disch := omega) [je152, r152_0, r152_1, r152_4, r152_5, r152_6, r152_9, r152_10, r152_11, r152_14, r152_17, r152_20, r152_30, r152_31, r152_34, r152_37, r152_38, r152_41, r152_42, r152_45, r152_46, r152_49, r152_50, r152_53, r152_56, r152_58, r152_59, r152_62, r152_63, r152_65, r152_66, r152_69, r152_72, r152_73, r152_76, r152_77, qa169, qo169, g0z, qa173, qo173, vf10_4, t0_4, qa90, qo90, g3, vf10_8, t0_8, gP0 hP, vf5_0, tP0_0 hP, qa87, qo87, qa88, qo88, qa30, qo30, gN0 hN, vf10_6, t0_6, qa119, qo119, gW0 hw, List.getElem?_cons_zero, List.getElem?_cons_succ, List.length_cons, List.length_nil, ag_nx, ag_dn, ag_no, ag_if, jbr1, jbr2, jc1, jc2, jnul, jld, jsto, jstoL, jst1, jst2, jkill, jinc, jbI, jbL, jbS, juI, jl2i, jcmp, jisR, jisI, jisL, jret, jretv, jfits, jdup, jdup2, jpop, jmm, jcat, Value.category, jinv, jrcv, jthr, jhd, jput, jget, jlen, jald, jast, jaast, jgI, jgL, jgB, jtab, jlku, jacp, vf20, vf21, vf22, vf23, vf24, u2_s, u2_k, u2_i, uc_s, uc_k, uc_c, u2_c, LI0, LI1, LI2, LI3, LI4, LI5, LI6, LI7, LI8, LI9, LI10, LI11, LI12, LI13, LI14, LI15, LI16, LI17, LI18, LI19, LI20, LI21, LI22, LI23, LI24, LI25, LI26, LI27, LI28, LI29, LI30, LI31, LI32, LI33, LI34, LI35, LI36, LI37, LI40, LI42, LI43, LI45, LI48, LI60, LI61, LI64, LI80, LI300, LI400, LI1000, LI2000, LI2001, LI2047, LI2048, LI100000, LI1000000, LI38, LI39, LI41, LI44, LI46, LI47, LI49, LI50, LI51, LI52, LI53, LI54, LI55, LI56, LI57, LI58, LI59, LI62, LI63, LI65, LI66, LI67, LI68, LI69, LI70, LI71, LI72, LI73, LI74, LI75, LI76, LI77, LI78, LI79, LI81, LI82, LI83, LI84, LI85, LI86, LI87, LI88, LI89, LI90, LI91, LI92, LI93, LI94, LI95, LI96, LI97, LI98, LI99, LI100, LI101, LI102, LI103, LI104, LI105, LI106, LI107, LI108, LI109, LI110, LI111, LI112, LI113, LI114, LI115, LI116, LI117, LI118, LI119, LI120, LI121, LI122, LI123, LI124, LI125, LI126, LI127, LI255, LI256, LI999, LI1001, LI1002, LI1600, LI4096, LI1000001, LI2042, LM, nI_clamp, nI_pos', nI_lt, nI_nlt, nI_le, nI_ge, nI_ne, nI_add, nI_sub, mI_lt, mI_le, mI_nlt, mI_nle, mI_ne, mI_ne', mI_nem, e169', e173, e90, R8, e87, e88, e30, e119]
          · rw [if_neg hl] at hv
            subst hv
            simp (disch := omega) [je152, r152_0, r152_1, r152_4, r152_5, r152_6, r152_9, r152_10, r152_11, r152_14, r152_17, r152_20, r152_30, r152_31, r152_34, r152_37, r152_38, r152_41, r152_42, r152_45, r152_46, r152_49, r152_50, r152_53, r152_56, r152_58, r152_59, r152_62, r152_63, r152_65, r152_66, r152_69, r152_72, r152_73, r152_76, r152_77, qa169, qo169, g0z, qa173, qo173, vf10_4, t0_4, qa90, qo90, g3, vf10_8, t0_8, gP0 hP, vf5_0, tP0_0 hP, qa87, qo87, qa88, qo88, qa30, qo30, gN0 hN, vf10_6, t0_6, qa119, qo119, gW0 hw, List.getElem?_cons_zero, List.getElem?_cons_succ, List.length_cons, List.length_nil, ag_nx, ag_dn, ag_no, ag_if, jbr1, jbr2, jc1, jc2, jnul, jld, jsto, jstoL, jst1, jst2, jkill, jinc, jbI, jbL, jbS, juI, jl2i, jcmp, jisR, jisI, jisL, jret, jretv, jfits, jdup, jdup2, jpop, jmm, jcat, Value.category, jinv, jrcv, jthr, jhd, jput, jget, jlen, jald, jast, jaast, jgI, jgL, jgB, jtab, jlku, jacp, vf20, vf21, vf22, vf23, vf24, u2_s, u2_k, u2_i, uc_s, uc_k, uc_c, u2_c, LI0, LI1, LI2, LI3, LI4, LI5, LI6, LI7, LI8, LI9, LI10, LI11, LI12, LI13, LI14, LI15, LI16, LI17, LI18, LI19, LI20, LI21, LI22, LI23, LI24, LI25, LI26, LI27, LI28, LI29, LI30, LI31, LI32, LI33, LI34, LI35, LI36, LI37, LI40, LI42, LI43, LI45, LI48, LI60, LI61, LI64, LI80, LI300, LI400, LI1000, LI2000, LI2001, LI2047, LI2048, LI100000, LI1000000, LI38, LI39, LI41, LI44, LI46, LI47, LI49, LI50, LI51, LI52, LI53, LI54, LI55, LI56, LI57, LI58, LI59, LI62, LI63, LI65, LI66, LI67, LI68, LI69, LI70, LI71, LI72, LI73, LI74, LI75, LI76, LI77, LI78, LI79, LI81, LI82, LI83, LI84, LI85, LI86, LI87, LI88, LI89, LI90, LI91, LI92, LI93, LI94, LI95, LI96, LI97, LI98, LI99, LI100, LI101, LI102, LI103, LI104, LI105, LI106, LI107, LI108, LI109, LI110, LI111, LI112, LI113, LI114, LI115, LI116, LI117, LI118, LI119, LI120, LI121, LI122, LI123, LI124, LI125, LI126, LI127, LI255, LI256, LI999, LI1001, LI1002, LI1600, LI4096, LI1000001, LI2042, LM, nI_clamp, nI_pos', nI_lt, nI_nlt, nI_le, nI_ge, nI_ne, nI_add, nI_sub, mI_lt, mI_le, mI_nlt, mI_nle, mI_ne, mI_ne', mI_nem, e169', e173, e90, R8, e87, e88, e30, e119]
        obtain ⟨J3, hJ3⟩ : ∃ J3, J3 = u2 J2 299 0 v.toInt64 := ⟨_, rfl⟩
        have f3 : ∀ c i, ¬ (3 ≤ c ∧ c ≤ 9) → ¬ (c = 0 ∧ i = 1) → ¬ (c = P + 1 ∧ i = 2) → c ≠ P + 3 → ¬ (57 ≤ c ∧ c ≤ 130) → I3 c i = I c i := fun c i h1 h2 h3 h4 h5 => by rw [y2.1 c i (by omega), f2 c i h1 h2 h3 h4]
        have g3 : ∀ c i, 241 ≤ c → I3 c i = I c i := fun c i hc => f3 c i (by omega) (by omega) (by omega) (by omega) (by omega)
        have et3 : tpT I3 T = t := by rw [ht]; funext j; unfold tpT; rw [g3 _ _ (by omega), g3 _ _ (by omega)]
        obtain ⟨X', I4, n', nn', nb', w, e251, hkn, hv1, _⟩ := r251 (A := A) (d := d + 1393) (b := b) (h := h) (X := X) (I := I3) (J := J3) (R := R) (n := n) hA tT ((g3 _ _ (by omega)).trans a1.2.2.1) (fun i hi => by rw [g3 _ _ (by omega)]; exact (a1.2.2.2 i (by omega)).2) (rNm_s a4.1 (fun c i c1 c2 => g3 c i (by omega)) (g3 _ _ (by omega)) (g3 _ _ (by omega))) a4.2.1 hnb
        rw [et3] at hv1
        obtain ⟨wi, wi1, wi2, wi3⟩ := hv1 hone
        subst wi2
        clear hv1 EXR EXR0
        obtain ⟨x1, x2, x3, x4, x5, x6, x7, x8, x9⟩ := hkn
        have hnn20 : nn' ≤ 2 ^ 20 := by obtain ⟨_, _, z3, _, _, _, _, _, z9, _⟩ := x1; omega
        have hrn : ∀ u, u < nn → rnm I4 u = rnm I u := fun u hu => (x5 u hu).trans (rnm_e (fun c i c1 c2 => g3 c i (by omega)))
        have f4r : ∀ c i, (251 ≤ c ∧ c ≤ 281) ∨ (c = 241 ∧ 33 ≤ i ∧ i ≤ 88) → I4 c i = I c i := fun c i hc => by rw [x9 c i (by omega) (by omega) (by omega), g3 c i (by omega)]
        -- names of both
        obtain ⟨Ih, hIh⟩ : ∃ Ih : Nat → Nat → Int32, Ih = fun c i => if c ≤ 240 then I2 c i else I4 c i := ⟨_, rfl⟩
        have hIh1 : ∀ c i, c ≤ 240 → Ih c i = I2 c i := fun c i hc => by rw [hIh]; exact if_pos hc
        have hIh2 : ∀ c i, 241 ≤ c → Ih c i = I4 c i := fun c i hc => by rw [hIh]; exact if_neg (by omega)
        have wch : wC (cNf (cnm I2 J2 (P + 1)) L2) Ih R 57 W := wC_fr57 wc2' (fun c i h1 h2 => hIh1 c i (by omega)) (fun _ => rfl)
        have wrh : wR (rNf (rnm I) nn) Ih true W := wR_fr b13 (fun c i hc => by rw [hIh2 c i (by omega), f4r c i (by omega)])
        obtain ⟨_, wrh'⟩ := wCR_mo (leP_f (C := cnm I2 J2 (P + 1)) (C' := cnm I2 J2 (P + 1)) (Nat.le_refl L2) (fun _ _ => rfl) x3 hrn) wch wrh
        have wr4 : wR (rNf (rnm I4) nn') (u2 I4 241 0 (nI 0)) true W := wR_fr wrh' (fun c i hc => by rw [u2_o _ _ (by omega), hIh2 c i (by omega)])
        obtain ⟨I5, e252, y3, y4⟩ := r252t (A := A) (d := d + 1397) (b := b) (h := h) (X := X') (J := J3) (R := R) (n := n') (x := nI wi) (v := xs (i + 2)) (c1 := xs (i + 1)) wr4 (okW_l hcap.2.2 b14) ha
        rw [rNf_v wi1 (by omega), wi3] at y3
        rw [← hv] at e252
        have e176 := r176 (A := A) (d := d + 1399) (b := b) (h := h) (X := X') (I := I4) (J := J3) (R := R) (n := n') (k := 0) (by omega)
        have i33' : I4 241 33 = nI 1 := (f4r _ _ (by omega)).trans b2
        have e220 := rSlot (A := A) (d := d + 1399) (b := b) (h := h) (X := X') (J := J3) (R := R) (n := n') (x := xs (i + 1)) (wR_fr b13 (I' := I4) (fun c i hc => f4r c i (by omega)))
        rw [hsl, show inO (some q) = nI q from rfl] at e220
        have hwn : ¬ nI wi < nI 0 := by rw [nI_ltI (by omega) (by omega)]; omega
        have hqn : ¬ nI q < nI 0 := by rw [nI_ltI (by omega) (by omega)]; omega
        have e2 : jcall A jcode (d + 1401) 252 [.ref (b + 241), .int (xs (i + 1)), .int (xs (i + 2))] (jH h b X I3 J3 R n) = some (.inl (some (.int v)), (jH h b X' I5 J3 R n')) := by
          have e252' : M252 A (d + 1400) 61 [some (.ref (b + 241)), some (.int (xs (i + 1))), some (.int (xs (i + 2))), some (.int (nI wi)), some (.int (nI q)), none] [] (jH h b X' (u2 I4 241 0 (nI 0)) J3 R n') = some (.inl (some (.int v)), (jH h b X' I5 J3 R n')) := e252
          have e251' : jcall A jcode (d + 1400) 251 [.ref (b + 241)] (jH h b X I3 J3 R n) = some (.inl (some (.int (nI wi))), (jH h b X' I4 J3 R n')) := e251
          rw [← e252']
          simp (disch := omega) [je252, r252_0, r252_1, r252_4, r252_5, r252_6, r252_9, r252_12, r252_13, r252_14, r252_17, r252_20, r252_21, r252_23, r252_24, r252_25, r252_28, r252_31, r252_32, r252_35, r252_37, r252_40, r252_41, r252_44, r252_45, r252_48, r252_49, r252_52, r252_53, r252_56, r252_59, r252_60, r252_62, r252_65, r252_67, r252_68, r252_69, r252_70, r252_71, r252_72, r252_74, r252_75, r252_78, r252_80, r252_81, r252_84, r252_85, r252_87, r252_88, r252_89, r252_90, r252_92, r252_95, r252_98, r252_99, r252_100, r252_102, r252_105, r252_108, r252_109, r252_112, r252_114, r252_115, r252_116, r252_117, r252_118, r252_119, r252_120, r252_123, r252_124, qa251, qo251, g241, vf12_33, qa220, qo220, qa176, qo176, vf12_64, vf12_43, t241_43, g261, p261, qa218, qo218, qa226, qo226, vf12_63, t241_63, g281, p281, qa219, qo219, List.getElem?_cons_zero, List.getElem?_cons_succ, List.length_cons, List.length_nil, ag_nx, ag_dn, ag_no, ag_if, jbr1, jbr2, jc1, jc2, jnul, jld, jsto, jstoL, jst1, jst2, jkill, jinc, jbI, jbL, jbS, juI, jl2i, jcmp, jisR, jisI, jisL, jret, jretv, jfits, jdup, jdup2, jpop, jmm, jcat, Value.category, jinv, jrcv, jthr, jhd, jput, jget, jlen, jald, jast, jaast, jgI, jgL, jgB, jtab, jlku, jacp, vf20, vf21, vf22, vf23, vf24, u2_s, u2_k, u2_i, uc_s, uc_k, uc_c, u2_c, LI0, LI1, LI2, LI3, LI4, LI5, LI6, LI7, LI8, LI9, LI10, LI11, LI12, LI13, LI14, LI15, LI16, LI17, LI18, LI19, LI20, LI21, LI22, LI23, LI24, LI25, LI26, LI27, LI28, LI29, LI30, LI31, LI32, LI33, LI34, LI35, LI36, LI37, LI40, LI42, LI43, LI45, LI48, LI60, LI61, LI64, LI80, LI300, LI400, LI1000, LI2000, LI2001, LI2047, LI2048, LI100000, LI1000000, LI38, LI39, LI41, LI44, LI46, LI47, LI49, LI50, LI51, LI52, LI53, LI54, LI55, LI56, LI57, LI58, LI59, LI62, LI63, LI65, LI66, LI67, LI68, LI69, LI70, LI71, LI72, LI73, LI74, LI75, LI76, LI77, LI78, LI79, LI81, LI82, LI83, LI84, LI85, LI86, LI87, LI88, LI89, LI90, LI91, LI92, LI93, LI94, LI95, LI96, LI97, LI98, LI99, LI100, LI101, LI102, LI103, LI104, LI105, LI106, LI107, LI108, LI109, LI110, LI111, LI112, LI113, LI114, LI115, LI116, LI117, LI118, LI119, LI120, LI121, LI122, LI123, LI124, LI125, LI126, LI127, LI255, LI256, LI999, LI1001, LI1002, LI1600, LI4096, LI1000001, LI2042, LM, nI_clamp, nI_pos', nI_lt, nI_nlt, nI_le, nI_ge, nI_ne, nI_add, nI_sub, mI_lt, mI_le, mI_nlt, mI_nle, mI_ne, mI_ne', mI_nem, e251', i33', e220, hwn, hqn, e176]
        rw [hJ3] at e2
        have h0 : I5 241 0 = nI 0 := by rw [y4.2.1 0 (by omega)]; exact u2_s
        have hJo : ∀ c i, c ≠ 299 → c ≠ 8 → c ≠ P + 2 → u2 J2 299 0 v.toInt64 c i = J c i := fun c i h1 h2 h3 => by rw [u2_k h1, fj2 c i h2 h3]
        have f5 : ∀ c i, ¬ (3 ≤ c ∧ c ≤ 9) → ¬ (c = 0 ∧ i = 1) → ¬ (c = P + 1 ∧ i = 2) → c ≠ P + 3 → ¬ (57 ≤ c ∧ c ≤ 130) → ¬ (c = 241 ∧ (i = 0 ∨ i = 8 ∨ i = 9 ∨ (13 ≤ i ∧ i ≤ 18) ∨ (36 ≤ i ∧ i ≤ 74))) → ¬ (243 ≤ c ∧ c ≤ 247) → c ≠ 249 → ¬ (260 ≤ c ∧ c ≤ 281) → I5 c i = I c i := fun c i h1 h2 h3 h4 h5 h6 h7 h8 h9 => by
          have e4 : u2 I4 241 0 (nI 0) c i = I c i := by rw [u2_o _ _ (by omega), x9 c i (by omega) h7 h8, f3 c i h1 h2 h3 h4 h5]
          by_cases e : c = 241
          · subst e; rw [y4.2.1 i (by omega), e4]
          · rw [y4.1 c i (by omega), e4]
        have f54 : ∀ c i, c ≤ 240 ∨ (241 < c ∧ c < 260) → I5 c i = I4 c i := fun c i hc => by rw [y4.1 c i (by omega), u2_o _ _ (by omega)]
        have f53 : ∀ c i, c ≤ 240 → I5 c i = I3 c i := fun c i hc => by rw [f54 c i (by omega), x9 c i (by omega) (by omega) (by omega)]
        have f52 : ∀ c i, c ≤ 56 → I5 c i = I2 c i := fun c i hc => by rw [f53 c i (by omega), y2.1 c i (by omega)]
        have er5 : rnm I5 = rnm I4 := funext fun u => rnm_e (fun c i c1 c2 => f54 c i (by omega))
        have ec5 : cnm I5 (u2 J2 299 0 v.toInt64) (P + 1) = cnm I2 J2 (P + 1) := funext fun x => by unfold cnm; rw [f52 _ _ (by omega), u2_k (by omega)]
        have hcp : ∀ v, ¬ (243 ≤ v ∧ v ≤ 246) → cp X' v = cp X v := fun v hv => (x7 v hv).1
        have hCC := a9.1
        obtain ⟨o1, o2⟩ := ok_out (x := .inl (Yn t T 0)) (v := xs (i + 2)) b14 b15.1 ha
        refine ⟨_, _, _, _, _, _, _, _, (lwD_4 hs0 hs hL hi hk).trans (lw4_0 hs0 hs hL hi e1 e2 h0 u2_s), ?_⟩
        refine ⟨0, nn', nb', M, P, P', L2, C, C', ⟨by omega, ?_, ?_, fun i hi => ?_⟩, zO_fr a2 (fun c i hc => f5 c i (by omega) (by omega) (by omega) (by omega) (by omega) (by omega) (by omega) (by omega) (by omega)), ⟨fun i hi => by rw [hJo _ _ (by omega) (by omega) (by omega)]; exact a3.1 i hi, by rw [y4.2.2, u2_o _ _ (by omega), f4r _ _ (by omega)]; exact a3.2.1, a3.2.2⟩, ⟨rNm_s x1 (fun c i c1 c2 => f54 c i (by omega)) (by rw [y4.2.1 _ (by omega), u2_o _ _ (by omega)]) (by rw [y4.2.1 _ (by omega), u2_o _ _ (by omega)]), x2, by have := a4.2.2; omega⟩, zM_fr a5 (f5 _ _ (by omega) (by omega) (by omega) (by omega) (by omega) (by omega) (by omega) (by omega) (by omega)) (fun v h1 h2 => hcp v (by omega)), ⟨hPP, R8, a6.2.2.1, cNm_fr k1 (f52 _ _ (by omega)) (fun i => f52 _ _ (by omega)) (fun i => u2_k (by omega)), ?_⟩, ⟨a70, Or.inr ⟨k, np, Lc, cap, B, D, N, O, G, E, aOut q a (.inl (Yn t T 0)) (xs (i + 2)) W, ?_⟩⟩, zK_fr a8 (fun c i hc => f5 c i (by omega) (by omega) (by omega) (by omega) (by omega) (by omega) (by omega) (by omega) (by omega)) (hcp _ (by omega)), zC_fr a9 (fun c i hc => f5 c i (by omega) (by omega) (by omega) (by omega) (by omega) (by omega) (by omega) (by omega) (by omega)) (fun i => hJo _ _ (by omega) (by omega) (by omega)) (fun _ _ => rfl) x3 (fun u hu => by rw [er5]; exact hrn u hu), zR_gro a10 x6⟩
        · rw [f52 _ _ (by omega), k7 _ _ (by omega) (by omega)]; exact z1
        · rw [y4.2.1 _ (by omega), u2_o _ _ (by omega)]; exact x8
        · rw [f5 1 i (by omega) (by omega) (by omega) (by omega) (by omega) (by omega) (by omega) (by omega) (by omega), f5 248 i (by omega) (by omega) (by omega) (by omega) (by omega) (by omega) (by omega) (by omega) (by omega)]
          exact a1.2.2.2 i hi
        · obtain ⟨L', hL'⟩ := a6.2.2.2.2
          exact ⟨L', cNm_fr hL' (f5 _ _ (by omega) (by omega) (by omega) (by omega) (by omega) (by omega) (by omega) (by omega) (by omega)) (fun i => f5 _ _ (by omega) (by omega) (by omega) (by omega) (by omega) (by omega) (by omega) (by omega) (by omega)) (fun i => hJo _ _ (by omega) (by omega) (by omega))⟩
        · unfold zY
          rw [ec5, er5]
          have hpl5 := plC_mo (leP_f (C := cnm I J (P + 1)) (C' := cnm I2 J2 (P + 1)) (Nat.le_refl k) (fun y hy => hcn y (by omega)) x3 hrn) b8
          exact ⟨(f5 _ _ (by omega) (by omega) (by omega) (by omega) (by omega) (by omega) (by omega) (by omega) (by omega)).trans b1, (f5 _ _ (by omega) (by omega) (by omega) (by omega) (by omega) (by omega) (by omega) (by omega) (by omega)).trans b2, b3, by omega, by omega, ⟨b6.1, vnm_fr b6.2 (fun c i hc => f5 c i (by omega) (by omega) (by omega) (by omega) (by omega) (by omega) (by omega) (by omega) (by omega))⟩, (f5 _ _ (by omega) (by omega) (by omega) (by omega) (by omega) (by omega) (by omega) (by omega) (by omega)).trans b7, plC_fr3 (fun c i h1 h2 h3 h4 h5 => f5 c i (by omega) (by omega) (by omega) (by omega) (by omega) (by omega) (by omega) (by omega) (by omega)) hpl5, b9, ⟨fun c i h1 h2 h3 => (f5 c i (by omega) (by omega) (by omega) (by omega) (by omega) (by omega) (by omega) (by omega) (by omega)).trans (b10.1 c i h1 h2 h3), fun v h1 h2 => (hcp v (by omega)).trans (b10.2.1 v h1 h2), b10.2.2⟩, (f5 _ _ (by omega) (by omega) (by omega) (by omega) (by omega) (by omega) (by omega) (by omega) (by omega)).trans b11, wC_fr57 y1 (fun c i h1 h2 => f53 c i (by omega)) (fun _ => rfl), y3, o1, ⟨o2, qq_out b15.2 ha⟩, by omega, by omega⟩
      · rw [if_neg hone] at e90
        have e1 : jcall A jcode (d + 1400) 152 [.ref b, .int (xs (i + 1)), .int (xs (i + 2))] (jH h b X I J R n) = some (.inr 45, (jH h b (xad X (jE 45)) I1 J1 R (n + 6))) := by
          simp (disch := omega) [je152, r152_0, r152_1, r152_4, r152_5, r152_6, r152_9, r152_10, r152_11, r152_14, r152_17, r152_20, r152_30, r152_31, r152_34, r152_37, r152_38, r152_41, r152_42, r152_45, r152_46, r152_49, r152_50, r152_53, r152_56, r152_58, r152_59, r152_62, r152_63, r152_65, r152_66, r152_69, r152_72, r152_73, r152_76, r152_77, qa169, qo169, g0z, qa173, qo173, vf10_4, t0_4, qa90, qo90, g3, vf10_8, t0_8, gP0 hP, vf5_0, tP0_0 hP, qa87, qo87, qa88, qo88, qa30, qo30, gN0 hN, vf10_6, t0_6, qa119, qo119, gW0 hw, List.getElem?_cons_zero, List.getElem?_cons_succ, List.length_cons, List.length_nil, ag_nx, ag_dn, ag_no, ag_if, jbr1, jbr2, jc1, jc2, jnul, jld, jsto, jstoL, jst1, jst2, jkill, jinc, jbI, jbL, jbS, juI, jl2i, jcmp, jisR, jisI, jisL, jret, jretv, jfits, jdup, jdup2, jpop, jmm, jcat, Value.category, jinv, jrcv, jthr, jhd, jput, jget, jlen, jald, jast, jaast, jgI, jgL, jgB, jtab, jlku, jacp, vf20, vf21, vf22, vf23, vf24, u2_s, u2_k, u2_i, uc_s, uc_k, uc_c, u2_c, LI0, LI1, LI2, LI3, LI4, LI5, LI6, LI7, LI8, LI9, LI10, LI11, LI12, LI13, LI14, LI15, LI16, LI17, LI18, LI19, LI20, LI21, LI22, LI23, LI24, LI25, LI26, LI27, LI28, LI29, LI30, LI31, LI32, LI33, LI34, LI35, LI36, LI37, LI40, LI42, LI43, LI45, LI48, LI60, LI61, LI64, LI80, LI300, LI400, LI1000, LI2000, LI2001, LI2047, LI2048, LI100000, LI1000000, LI38, LI39, LI41, LI44, LI46, LI47, LI49, LI50, LI51, LI52, LI53, LI54, LI55, LI56, LI57, LI58, LI59, LI62, LI63, LI65, LI66, LI67, LI68, LI69, LI70, LI71, LI72, LI73, LI74, LI75, LI76, LI77, LI78, LI79, LI81, LI82, LI83, LI84, LI85, LI86, LI87, LI88, LI89, LI90, LI91, LI92, LI93, LI94, LI95, LI96, LI97, LI98, LI99, LI100, LI101, LI102, LI103, LI104, LI105, LI106, LI107, LI108, LI109, LI110, LI111, LI112, LI113, LI114, LI115, LI116, LI117, LI118, LI119, LI120, LI121, LI122, LI123, LI124, LI125, LI126, LI127, LI255, LI256, LI999, LI1001, LI1002, LI1600, LI4096, LI1000001, LI2042, LM, nI_clamp, nI_pos', nI_lt, nI_nlt, nI_le, nI_ge, nI_ne, nI_add, nI_sub, mI_lt, mI_le, mI_nlt, mI_nle, mI_ne, mI_ne', mI_nem, e169', e173, e90, jtnew, H_new, jE]
        obtain ⟨X', I', n', nn', nb', v, e251, hk1, hv1, hv2, hRel⟩ := EXR 45 3
        have e176 := r176 (A := A) (d := d + 1399) (b := b) (h := h) (X := X') (I := I') (J := J1) (R := R) (n := n') (k := 3) (by omega)
        have gI : ∀ c i, ¬ (c = 241 ∧ (i = 8 ∨ i = 9 ∨ (13 ≤ i ∧ i ≤ 18))) → ¬ (243 ≤ c ∧ c ≤ 247) → c ≠ 249 → I' c i = I1 c i := hk1.2.2.2.2.2.2.2.2
        have hv := hv2 hone
        have i33' : I' 241 33 = nI 1 := (gI _ _ (by omega) (by omega) (by omega)).trans i33
        have e220 := rSlot (A := A) (d := d + 1399) (b := b) (h := h) (X := X') (J := J1) (R := R) (n := n') (x := xs (i + 1)) (w2 I' (fun c i hc => gI c i (by omega) (by omega) (by omega)))
        rw [hsl, show inO (some q) = nI q from rfl] at e220
        have e2 : jcall A jcode (d + 1401) 252 [.ref (b + 241), .int (xs (i + 1)), .int (xs (i + 2))] (jH h b (xad X (jE 45)) I1 J1 R (n + 6)) = some (.inl (some (.int (nI 0))), (jH h b X' (u2 I' 241 0 (nI 3)) J1 R n')) := by
          simp (disch := omega) [je252, r252_0, r252_1, r252_4, r252_5, r252_6, r252_9, r252_12, r252_13, r252_14, r252_17, r252_20, r252_21, r252_23, r252_24, r252_25, r252_28, r252_31, r252_32, r252_35, r252_37, r252_40, r252_41, r252_44, r252_45, r252_48, r252_49, r252_52, r252_53, r252_56, r252_59, r252_60, r252_61, r252_62, r252_65, r252_67, r252_68, r252_69, r252_70, r252_71, r252_72, r252_74, r252_75, r252_78, r252_80, r252_81, r252_84, r252_85, r252_87, r252_88, r252_89, r252_90, r252_92, r252_95, r252_98, r252_99, r252_100, r252_102, r252_105, r252_108, r252_109, r252_112, r252_114, r252_115, r252_116, r252_117, r252_118, r252_119, r252_120, r252_123, r252_124, qa251, qo251, g241, vf12_33, qa220, qo220, qa176, qo176, vf12_64, vf12_43, t241_43, g261, p261, qa218, qo218, qa226, qo226, vf12_63, t241_63, g281, p281, qa219, qo219, List.getElem?_cons_zero, List.getElem?_cons_succ, List.length_cons, List.length_nil, ag_nx, ag_dn, ag_no, ag_if, jbr1, jbr2, jc1, jc2, jnul, jld, jsto, jstoL, jst1, jst2, jkill, jinc, jbI, jbL, jbS, juI, jl2i, jcmp, jisR, jisI, jisL, jret, jretv, jfits, jdup, jdup2, jpop, jmm, jcat, Value.category, jinv, jrcv, jthr, jhd, jput, jget, jlen, jald, jast, jaast, jgI, jgL, jgB, jtab, jlku, jacp, vf20, vf21, vf22, vf23, vf24, u2_s, u2_k, u2_i, uc_s, uc_k, uc_c, u2_c, LI0, LI1, LI2, LI3, LI4, LI5, LI6, LI7, LI8, LI9, LI10, LI11, LI12, LI13, LI14, LI15, LI16, LI17, LI18, LI19, LI20, LI21, LI22, LI23, LI24, LI25, LI26, LI27, LI28, LI29, LI30, LI31, LI32, LI33, LI34, LI35, LI36, LI37, LI40, LI42, LI43, LI45, LI48, LI60, LI61, LI64, LI80, LI300, LI400, LI1000, LI2000, LI2001, LI2047, LI2048, LI100000, LI1000000, LI38, LI39, LI41, LI44, LI46, LI47, LI49, LI50, LI51, LI52, LI53, LI54, LI55, LI56, LI57, LI58, LI59, LI62, LI63, LI65, LI66, LI67, LI68, LI69, LI70, LI71, LI72, LI73, LI74, LI75, LI76, LI77, LI78, LI79, LI81, LI82, LI83, LI84, LI85, LI86, LI87, LI88, LI89, LI90, LI91, LI92, LI93, LI94, LI95, LI96, LI97, LI98, LI99, LI100, LI101, LI102, LI103, LI104, LI105, LI106, LI107, LI108, LI109, LI110, LI111, LI112, LI113, LI114, LI115, LI116, LI117, LI118, LI119, LI120, LI121, LI122, LI123, LI124, LI125, LI126, LI127, LI255, LI256, LI999, LI1001, LI1002, LI1600, LI4096, LI1000001, LI2042, LM, nI_clamp, nI_pos', nI_lt, nI_nlt, nI_le, nI_ge, nI_ne, nI_add, nI_sub, mI_lt, mI_le, mI_nlt, mI_nle, mI_ne, mI_ne', mI_nem, e251, i33', e220, hv, e176]
        exact ⟨_, _, _, _, _, _, _, _, (lwD_4 hs0 hs hL hi hk).trans (lw4_3 hs0 hs hL hi e1 e2 u2_s), hRel⟩
end ZTJ
