/-! system of the reference, up to the beginning -/
section RSZ
variable {A : Nat → Nat} {d b n N m M0 nn nb : Nat} {h : Nat → Option jC} {X : jXX} {I : Nat → Nat → Int32} {J : Nat → Nat → Int64} {R : Nat → Nat → Nat}
/-- what is kept by every call that reads a text: I to I' -/
def rKp (X : jXX) (I : Nat → Nat → Int32) (n nn nb N : Nat) (X' : jXX) (I' : Nat → Nat → Int32) (n' nn' nb' : Nat) : Prop := rNm X' I' nn' nb' ∧ cpT X' nn' nb' ∧ nn ≤ nn' ∧ nb' ≤ nb + N + 12 ∧ (∀ u, u < nn → rnm I' u = rnm I u) ∧ gro X n X' n' ∧ cp X' 206 = cp X 206 ∧ I' 241 13 = nI 0 ∧ (∀ c i, ¬ (c = 241 ∧ (i = 0 ∨ i = 2 ∨ i = 8 ∨ i = 9 ∨ (13 ≤ i ∧ i ≤ 18) ∨ i = 20 ∨ (29 ≤ i ∧ i ≤ 34))) → ¬ (243 ≤ c ∧ c ≤ 247) → c ≠ 249 → ¬ (251 ≤ c ∧ c ≤ 259) → I' c i = I c i)
theorem r246 (hA : jAp0 A) (hN : N ≤ 2000) (h13 : I 241 13 = nI N) (hb : ∀ i, i < N → (I 248 i).toInt8.toInt32 = I 248 i) (hnm : rNm X I nn nb) (hcT : cpT X nn nb) (h29 : I 241 29 = nI M0) (hnd : ndC X M0) (hnb : nb ≤ 2 ^ 17) (hM0 : M0 ≤ 2000) (hm : m ≤ N) (hfin : tpos (tpT I N) N m = N) : ∃ X' I' n' nn' nb', rKp X I n nn nb N X' I' n' nn' nb' ∧ I' 241 0 = nI 0 ∧
    ((∃ j, sysO (tpT I N) N = .inl j ∧ jcall A jcode (d + 1300) 246 [.ref (b + 241)] (jH h b X I J R n) = some (.inl (some (.int (mI 1 - nI (tpos (tpT I N) N j)))), jH h b X' I' J R n') ∧ I' 241 29 = nI M0 ∧ ndC X' M0 ∧ (∀ c i, 251 ≤ c → c ≤ 258 → i < M0 → I' c i = I c i) ∧ (∀ i, I' 259 i = I 259 i) ∧ I' 241 33 = I 241 33 ∧ I' 241 34 = I 241 34) ∨
     ∃ F C ps M' c2 c3 c4, sysO (tpT I N) N = .inr (F, C) ∧ jcall A jcode (d + 1300) 246 [.ref (b + 241)] (jH h b X I J R n) = M246 A (d + 1299) 133 [some (.ref (b + 241)), some (.int (nI M0)), some (.int c2), some (.int c3), some (.int c4)] [] (jH h b X' I' J R n') ∧ I' 241 29 = nI M' ∧ ndC X' M' ∧ M' ≤ 2000 ∧ prsRl (tpT I N) N I' nn' F 0 0 ps F M' ∧ (∀ p pd, ps[p]? = some pd → I' 259 p = nI pd) ∧ I' 241 34 = nI F.length ∧ I' 241 33 = nI 1 ∧ F.length ≤ 6 ∧ (∀ q, q ∈ F → KK (tpT I N) N (q.1 + 2) = 27)) := by
  obtain ⟨t, ht⟩ : ∃ t, t = tpT I N := ⟨_, rfl⟩
  rw [← ht] at hfin ⊢
  obtain ⟨I0, hI0⟩ : ∃ I0, I0 = u2 I 241 0 (nI 0) := ⟨_, rfl⟩
  have f0 : ∀ c i, ¬ (c = 241 ∧ i = 0) → I0 c i = I c i := fun c i hc => by rw [hI0]; unfold u2; rw [if_neg hc]
  have f00 : I0 241 0 = nI 0 := by rw [hI0]; exact u2_s
  obtain ⟨I1, e245, g1, g2, g3, g4⟩ := r245 (A := A) (d := d + 1298) (b := b) (h := h) (X := X) (J := J) (R := R) (n := n) (I := I0) hN ((f0 _ _ (by omega)).trans h13) (fun i hi => by rw [f0 _ _ (by omega)]; exact hb i hi)
  have g0 : I1 241 0 = nI 0 := (g1 241 0 (by omega) (by omega)).trans f00
  have g5 : ∀ c i, ¬ (c = 249 ∧ i < N) → ¬ (c = 241 ∧ (i = 0 ∨ i = 13 ∨ i = 14)) → I1 c i = I c i := fun c i a1 a2 => (g1 c i a1 (by omega)).trans (f0 c i (by omega))
  have h249 : I1 249 = t := by
    rw [ht]; funext i; unfold tpT
    by_cases hi : i < N
    · rw [if_pos hi, g4 i hi, f0 _ _ (by omega)]
    · rw [if_neg hi, g5 249 i (by omega) (by omega)]
  have hk : kOK (KK t N) m := KK_ok hN hm hfin
  have hc : rCx A t N m nb M0 := ⟨hA, hN, hk, hnb, by omega⟩
  obtain ⟨z, hz⟩ : ∃ z : rZ, z = (X, I1, n, nn, nb, M0) := ⟨_, rfl⟩
  have hB : rB t N m nb M0 z := by
    subst hz
    exact ⟨g3, h249, rNm_s hnm (fun c i c1 c2 => g5 c i (by omega) (by omega)) (g5 _ _ (by omega) (by omega)) (g5 _ _ (by omega) (by omega)), hcT, by show nb ≤ nb + N + 12; omega, (g5 241 29 (by omega) (by omega)).trans h29, hnd, by show M0 ≤ M0 + m; omega⟩
  have hmm := hk.1
  have h204 := r204 (d := d + 1236) (b := b) (h := h) (J := J) (R := R) (r := 2001) (c := c00) (s := s00) hc hB (by subst hz; exact Nat.le_refl _) (by subst hz; exact Nat.le_refl _) (by omega)
  have ehz : HZ h b J R z = jH h b X I1 J R n := by rw [hz]
  rw [ehz] at h204
  -- up to the reading
  have e1 : jcall A jcode (d + 1300) 246 [.ref (b + 241)] (jH h b X I J R n) = M246 A (d + 1299) 14 [some (.ref (b + 241)), some (.int (nI M0)), none, none, none] [] (jH h b X I1 J R n) := by
    have h29' : I1 241 29 = nI M0 := (g5 241 29 (by omega) (by omega)).trans h29
    rw [hI0] at e245
    simp (disch := omega) [je246, r246_0, r246_1, r246_2, r246_5, r246_6, r246_9, r246_10, r246_13, g241, p241_0, ty12_0, qa245, qo245, vf12_29, qa204, qo204, qa208, qo208, qa214, qo214, p241_29, ty12_29, vf12_2, vf12_14, qa249, qo249, p241_34, ty12_34, vf12_35, t241_35, g259, p259, vf12_34, vf12_25, t241_25, g255, p255, p241_33, ty12_33, qa227, qo227, List.getElem?_cons_zero, List.getElem?_cons_succ, List.length_cons, List.length_nil, ag_nx, ag_dn, ag_no, ag_if, jbr1, jbr2, jc1, jc2, jnul, jld, jsto, jstoL, jst1, jst2, jkill, jinc, jbI, jbL, jbS, juI, jl2i, jcmp, jisR, jisI, jisL, jret, jretv, jfits, jdup, jdup2, jpop, jmm, jcat, Value.category, jinv, jrcv, jthr, jhd, jput, jget, jlen, jald, jast, jaast, jgI, jgL, jgB, jtab, jlku, jacp, vf20, vf21, vf22, vf23, vf24, u2_s, u2_k, u2_i, uc_s, uc_k, uc_c, u2_c, LI0, LI1, LI2, LI3, LI4, LI5, LI6, LI7, LI8, LI9, LI10, LI11, LI12, LI13, LI14, LI15, LI16, LI17, LI18, LI19, LI20, LI21, LI22, LI23, LI24, LI25, LI26, LI27, LI28, LI29, LI30, LI31, LI32, LI33, LI34, LI35, LI36, LI37, LI40, LI42, LI43, LI45, LI48, LI60, LI61, LI64, LI80, LI300, LI400, LI1000, LI2000, LI2001, LI2047, LI2048, LI100000, LI1000000, LI38, LI39, LI41, LI44, LI46, LI47, LI49, LI50, LI51, LI52, LI53, LI54, LI55, LI56, LI57, LI58, LI59, LI62, LI63, LI65, LI66, LI67, LI68, LI69, LI70, LI71, LI72, LI73, LI74, LI75, LI76, LI77, LI78, LI79, LI81, LI82, LI83, LI84, LI85, LI86, LI87, LI88, LI89, LI90, LI91, LI92, LI93, LI94, LI95, LI96, LI97, LI98, LI99, LI100, LI101, LI102, LI103, LI104, LI105, LI106, LI107, LI108, LI109, LI110, LI111, LI112, LI113, LI114, LI115, LI116, LI117, LI118, LI119, LI120, LI121, LI122, LI123, LI124, LI125, LI126, LI127, LI255, LI256, LI999, LI1001, LI1002, LI1600, LI4096, LI1000001, LI2042, LM, nI_clamp, nI_pos', nI_lt, nI_nlt, nI_le, nI_ge, nI_ne, nI_add, nI_sub, mI_lt, mI_le, mI_nlt, mI_nle, mI_ne, mI_ne', mI_nem, e245, h29']
  -- what is kept
  have KP : ∀ (z' : rZ) (I3 : Nat → Nat → Int32), rB t N m nb M0 z' → rSt z z' → (∀ c i, 243 ≤ c → c ≤ 247 → I3 c i = z'.2.1 c i) → (∀ c i, ¬ (c = 241 ∧ (i = 0 ∨ i = 2 ∨ i = 8 ∨ i = 9 ∨ (13 ≤ i ∧ i ≤ 18) ∨ i = 20 ∨ (29 ≤ i ∧ i ≤ 34))) → ¬ (251 ≤ c ∧ c ≤ 259) → I3 c i = z'.2.1 c i) → I3 241 8 = z'.2.1 241 8 → I3 241 9 = z'.2.1 241 9 → I3 241 13 = z'.2.1 241 13 → rKp X I n nn nb N z'.1 I3 z'.2.2.1 z'.2.2.2.1 z'.2.2.2.2.1 := by
    intro z' I3 hB' hS k1 k2 k3 k4 k5
    obtain ⟨s1, s2, s3, s4, s5, s6⟩ := hS
    subst hz
    refine ⟨rNm_s hB'.2.2.1 k1 k3 k4, hB'.2.2.2.1, s2, hB'.2.2.2.2.1, fun u hu => ?_, s4, s5, ?_, fun c i a1 a2 a3 a4 => ?_⟩
    · rw [rnm_e (fun c i c1 c2 => k1 c i c1 (by omega)), s3 u hu]
      exact rnm_e (fun c i c1 c2 => g5 c i (by omega) (by omega))
    · rw [k5, s1 241 13 (by omega) (by omega) (by omega)]; exact g2
    · exact (k2 c i a1 a4).trans ((s1 c i (by omega) (by omega) (by omega)).trans (g5 c i (by omega) (by omega)))
  -- it can't stand
  have FAIL : ∀ (z' : rZ) (I2 : Nat → Nat → Int32) (j : Nat) (c2 : Option Value), sysO t N = .inl j → rB t N m nb M0 z' → rSt z z' → (∀ c i, ¬ (c = 241 ∧ (i = 2 ∨ i = 31 ∨ i = 32)) → ¬ (251 ≤ c ∧ c ≤ 258 ∧ M0 ≤ i) → I2 c i = z'.2.1 c i) → I2 241 2 = nI (tpos t N j) → M246 A (d + 1299) 14 [some (.ref (b + 241)), some (.int (nI M0)), none, none, none] [] (jH h b X I1 J R n) = M246 A (d + 1299) 33 [some (.ref (b + 241)), some (.int (nI M0)), c2, none, none] [] (jH h b z'.1 I2 J R z'.2.2.1) → ∃ X' I' n' nn' nb', rKp X I n nn nb N X' I' n' nn' nb' ∧ I' 241 0 = nI 0 ∧ ∃ j, sysO t N = .inl j ∧ jcall A jcode (d + 1300) 246 [.ref (b + 241)] (jH h b X I J R n) = some (.inl (some (.int (mI 1 - nI (tpos t N j)))), jH h b X' I' J R n') ∧ I' 241 29 = nI M0 ∧ ndC X' M0 ∧ (∀ c i, 251 ≤ c → c ≤ 258 → i < M0 → I' c i = I c i) ∧ (∀ i, I' 259 i = I 259 i) ∧ I' 241 33 = I 241 33 ∧ I' 241 34 = I 241 34 := by
    intro z' I2 j c2 hs hB' hS k1 k2 e
    have s1 := hS.1
    have hz2 : z.2.1 = I1 := by rw [hz]
    have hz6 : z.2.2.2.2.2 = M0 := by rw [hz]
    rw [hz2, hz6] at s1
    have k14 : I2 241 14 = nI N := (k1 _ _ (by omega) (by omega)).trans hB'.1
    have e3 := r246e (A := A) (d := d + 1299) (b := b) (h := h) (X := z'.1) (J := J) (R := R) (n := z'.2.2.1) (M0 := M0) (c2 := c2) (c4 := none) k2 k14 tpos_N hN
    have f3 : ∀ c i, ¬ (c = 241 ∧ i = 29) → u2 I2 241 29 (nI M0) c i = I2 c i := fun c i hc => by unfold u2; rw [if_neg hc]
    refine ⟨z'.1, u2 I2 241 29 (nI M0), z'.2.2.1, z'.2.2.2.1, z'.2.2.2.2.1, ?_, ?_, j, hs, ?_, u2_s, ?_, fun c i c1 c2 c3 => ?_, fun i => ?_, ?_, ?_⟩
    · refine KP z' _ hB' hS (fun c i c1 c2 => ?_) (fun c i a1 a2 => ?_) ?_ ?_ ?_
      · rw [f3 _ _ (by omega), k1 _ _ (by omega) (by omega)]
      · rw [f3 _ _ (by omega), k1 _ _ (by omega) (by omega)]
      · rw [f3 _ _ (by omega), k1 _ _ (by omega) (by omega)]
      · rw [f3 _ _ (by omega), k1 _ _ (by omega) (by omega)]
      · rw [f3 _ _ (by omega), k1 _ _ (by omega) (by omega)]
    · rw [f3 _ _ (by omega), k1 _ _ (by omega) (by omega), s1 _ _ (by omega) (by omega) (by omega)]; exact g0
    · rw [e1, e]; exact e3
    · obtain ⟨cap, q1, q2, q3, q4⟩ := hB'.2.2.2.2.2.2.1
      have q5 := hB'.2.2.2.2.2.2.2
      have q6 := hS.2.2.2.2.2
      rw [hz6] at q6
      exact ⟨cap, q1, by omega, q3, by omega⟩
    · rw [f3 _ _ (by omega), k1 _ _ (by omega) (by omega), s1 _ _ (by omega) (by omega) (by omega), g5 _ _ (by omega) (by omega)]
    · rw [f3 _ _ (by omega), k1 _ _ (by omega) (by omega), s1 _ _ (by omega) (by omega) (by omega), g5 _ _ (by omega) (by omega)]
    · rw [f3 _ _ (by omega), k1 _ _ (by omega) (by omega), s1 _ _ (by omega) (by omega) (by omega), g5 _ _ (by omega) (by omega)]
    · rw [f3 _ _ (by omega), k1 _ _ (by omega) (by omega), s1 _ _ (by omega) (by omega) (by omega), g5 _ _ (by omega) (by omega)]
  rcases h204 with ⟨z', j', C', p1, p2, p3, p4⟩ | ⟨z', j', C', F, ps, f, p1, p2, p3, p4, p5, p6, p7⟩
  · obtain ⟨X', I', n', nn', nb', w1, w0, w2⟩ := FAIL z' z'.2.1 j' none (sysO_1 p1) p3.1 p4 (fun _ _ _ _ => rfl) p3.2.1 (by
      simp (disch := omega) [r246_14, r246_15, g241, p241_0, ty12_0, qa245, qo245, vf12_29, qa204, qo204, qa208, qo208, qa214, qo214, p241_29, ty12_29, vf12_2, vf12_14, qa249, qo249, p241_34, ty12_34, vf12_35, t241_35, g259, p259, vf12_34, vf12_25, t241_25, g255, p255, p241_33, ty12_33, qa227, qo227, List.getElem?_cons_zero, List.getElem?_cons_succ, List.length_cons, List.length_nil, ag_nx, ag_dn, ag_no, ag_if, jbr1, jbr2, jc1, jc2, jnul, jld, jsto, jstoL, jst1, jst2, jkill, jinc, jbI, jbL, jbS, juI, jl2i, jcmp, jisR, jisI, jisL, jret, jretv, jfits, jdup, jdup2, jpop, jmm, jcat, Value.category, jinv, jrcv, jthr, jhd, jput, jget, jlen, jald, jast, jaast, jgI, jgL, jgB, jtab, jlku, jacp, vf20, vf21, vf22, vf23, vf24, u2_s, u2_k, u2_i, uc_s, uc_k, uc_c, u2_c, LI0, LI1, LI2, LI3, LI4, LI5, LI6, LI7, LI8, LI9, LI10, LI11, LI12, LI13, LI14, LI15, LI16, LI17, LI18, LI19, LI20, LI21, LI22, LI23, LI24, LI25, LI26, LI27, LI28, LI29, LI30, LI31, LI32, LI33, LI34, LI35, LI36, LI37, LI40, LI42, LI43, LI45, LI48, LI60, LI61, LI64, LI80, LI300, LI400, LI1000, LI2000, LI2001, LI2047, LI2048, LI100000, LI1000000, LI38, LI39, LI41, LI44, LI46, LI47, LI49, LI50, LI51, LI52, LI53, LI54, LI55, LI56, LI57, LI58, LI59, LI62, LI63, LI65, LI66, LI67, LI68, LI69, LI70, LI71, LI72, LI73, LI74, LI75, LI76, LI77, LI78, LI79, LI81, LI82, LI83, LI84, LI85, LI86, LI87, LI88, LI89, LI90, LI91, LI92, LI93, LI94, LI95, LI96, LI97, LI98, LI99, LI100, LI101, LI102, LI103, LI104, LI105, LI106, LI107, LI108, LI109, LI110, LI111, LI112, LI113, LI114, LI115, LI116, LI117, LI118, LI119, LI120, LI121, LI122, LI123, LI124, LI125, LI126, LI127, LI255, LI256, LI999, LI1001, LI1002, LI1600, LI4096, LI1000001, LI2042, LM, nI_clamp, nI_pos', nI_lt, nI_nlt, nI_le, nI_ge, nI_ne, nI_add, nI_sub, mI_lt, mI_le, mI_nlt, mI_nle, mI_ne, mI_ne', mI_nem, p2, ph246_32]
      rfl)
    exact ⟨X', I', n', nn', nb', w1, w0, Or.inl w2⟩
  · have hB' := p3.1
    have hz6 : z.2.2.2.2.2 = M0 := by rw [hz]
    rw [hz6] at p6
    obtain ⟨cap, q1, q2, q3, q4⟩ := hB'.2.2.2.2.2.2.1
    have q5 := hB'.2.2.2.2.2.2.2
    have hMM := p5.2.2.2.2.2
    rw [hz6] at hMM
    have hnm' := hB'.2.2.1
    have hnn' : z'.2.2.2.1 ≤ 2 ^ 20 := by
      obtain ⟨_, _, a3, _, _, _, _, _, a9, _⟩ := hnm'
      omega
    have hinj : ∀ w w', w < z'.2.2.2.1 → w' < z'.2.2.2.1 → rnm z'.2.1 w = rnm z'.2.1 w' → w = w' := hnm'.2.2.2.2.2.2.2.2.2.2.2.2.1
    have hcap : ∀ k, 251 ≤ k → k ≤ 258 → z'.2.2.2.2.2 ≤ cp z'.1 k := fun k c1 c2 => by rw [q1 k c1 c2]; exact q2
    have hps : ∀ v, v ∈ ps → M0 ≤ v ∧ v < z'.2.2.2.2.2 := (prsR_ge ps F 0 _ _ p6).2
    have e208 := r208 (A := A) (d := d + 1296) (b := b) (h := h) (X := z'.1) (I := z'.2.1) (J := J) (R := R) (n := z'.2.2.1) (t := t) (N := N) (nn := z'.2.2.2.1) (M := z'.2.2.2.2.2) hcap (by omega) hnn' hinj p7 (fun v hv => (hps v hv).2) (prsR_pw ps F 0 _ _ p6) (prL_of ps F 0 _ _ (Nat.le_refl _) p6)
    cases hex : exF (KK t N) (eqY t N) F with
    | some e =>
      rw [hex] at e208
      have e208' : jcall A jcode (d + 1299) 208 [.ref (b + 241), .int f] (HZ h b J R z') = some (.inr 11, jH h b z'.1 (u2 z'.2.1 241 2 (nI (tpos t N e))) J R z'.2.2.1) := e208
      obtain ⟨X', I', n', nn', nb', w1, w0, w2⟩ := FAIL z' (u2 z'.2.1 241 2 (nI (tpos t N e))) e (some (.int f)) (sysO_2 p1 hex) hB' p5 (fun c i a1 a2 => by unfold u2; rw [if_neg (by omega)]) u2_s (by
        simp (disch := omega) [r246_14, r246_15, r246_18, r246_19, r246_20, r246_21, g241, p241_0, ty12_0, qa245, qo245, vf12_29, qa204, qo204, qa208, qo208, qa214, qo214, p241_29, ty12_29, vf12_2, vf12_14, qa249, qo249, p241_34, ty12_34, vf12_35, t241_35, g259, p259, vf12_34, vf12_25, t241_25, g255, p255, p241_33, ty12_33, qa227, qo227, List.getElem?_cons_zero, List.getElem?_cons_succ, List.length_cons, List.length_nil, ag_nx, ag_dn, ag_no, ag_if, jbr1, jbr2, jc1, jc2, jnul, jld, jsto, jstoL, jst1, jst2, jkill, jinc, jbI, jbL, jbS, juI, jl2i, jcmp, jisR, jisI, jisL, jret, jretv, jfits, jdup, jdup2, jpop, jmm, jcat, Value.category, jinv, jrcv, jthr, jhd, jput, jget, jlen, jald, jast, jaast, jgI, jgL, jgB, jtab, jlku, jacp, vf20, vf21, vf22, vf23, vf24, u2_s, u2_k, u2_i, uc_s, uc_k, uc_c, u2_c, LI0, LI1, LI2, LI3, LI4, LI5, LI6, LI7, LI8, LI9, LI10, LI11, LI12, LI13, LI14, LI15, LI16, LI17, LI18, LI19, LI20, LI21, LI22, LI23, LI24, LI25, LI26, LI27, LI28, LI29, LI30, LI31, LI32, LI33, LI34, LI35, LI36, LI37, LI40, LI42, LI43, LI45, LI48, LI60, LI61, LI64, LI80, LI300, LI400, LI1000, LI2000, LI2001, LI2047, LI2048, LI100000, LI1000000, LI38, LI39, LI41, LI44, LI46, LI47, LI49, LI50, LI51, LI52, LI53, LI54, LI55, LI56, LI57, LI58, LI59, LI62, LI63, LI65, LI66, LI67, LI68, LI69, LI70, LI71, LI72, LI73, LI74, LI75, LI76, LI77, LI78, LI79, LI81, LI82, LI83, LI84, LI85, LI86, LI87, LI88, LI89, LI90, LI91, LI92, LI93, LI94, LI95, LI96, LI97, LI98, LI99, LI100, LI101, LI102, LI103, LI104, LI105, LI106, LI107, LI108, LI109, LI110, LI111, LI112, LI113, LI114, LI115, LI116, LI117, LI118, LI119, LI120, LI121, LI122, LI123, LI124, LI125, LI126, LI127, LI255, LI256, LI999, LI1001, LI1002, LI1600, LI4096, LI1000001, LI2042, LM, nI_clamp, nI_pos', nI_lt, nI_nlt, nI_le, nI_ge, nI_ne, nI_add, nI_sub, mI_lt, mI_le, mI_nlt, mI_nle, mI_ne, mI_ne', mI_nem, p2, e208', ph246_32]
        rfl)
      exact ⟨X', I', n', nn', nb', w1, w0, Or.inl w2⟩
    | none =>
      rw [hex] at e208
      have e208' : jcall A jcode (d + 1299) 208 [.ref (b + 241), .int f] (HZ h b J R z') = some (.inl none, HZ h b J R z') := e208
      have hF6 := exF_6 hex
      have htI := pG_T hk.2.1 2001 0 0 [] [] c00 s00 F j' C' (by omega) ⟨rfl, List.Pairwise.nil, fun s hs => by cases hs⟩ p1
      obtain ⟨I2, o1, o2⟩ := r214 (A := A) (d := d + 87) (b := b) (h := h) (X := z'.1) (J := J) (R := R) (n := z'.2.2.1) (t := t) (N := N) (nn := z'.2.2.2.1) (M := z'.2.2.2.2.2) (F := F) hcap (by omega) hnn' hN hF6 hinj p6 p7 (prU_ord htI) (Nat.le_refl _)
      obtain ⟨lu1, lu2⟩ := leaU htI
      rcases o2 with ⟨u, o2, o3⟩ | ⟨o2, o3, o4⟩
      · have o3' : jcall A jcode (d + 1299) 214 [.ref (b + 241), .int f] (HZ h b J R z') = some (.inr 11, jH h b z'.1 (u2 I2 241 2 (nI (tpos t N u))) J R z'.2.2.1) := o3
        have hfold : C'.foldl (fun u x => mnO u (ukO (eqY t N) F x)) (unF (eqY t N) F) = some u := by
          cases hf : C'.foldl (fun u x => mnO u (ukO (eqY t N) F x)) (unF (eqY t N) F) with
          | none =>
            have := (lu1.mp hf) (some u) o2.1
            cases this
          | some u' => rw [lsO_u (lu2 u' hf) o2]
        obtain ⟨X', I', n', nn', nb', w1, w0, w2⟩ := FAIL z' (u2 I2 241 2 (nI (tpos t N u))) u (some (.int f)) (sysO_3 p1 hex hfold) hB' p5 (fun c i a1 a2 => by unfold u2; rw [if_neg (by omega)]; exact o1 c i (by omega) (by omega)) u2_s (by
          simp (disch := omega) [r246_14, r246_15, r246_18, r246_19, r246_20, r246_21, r246_24, r246_25, r246_26, g241, p241_0, ty12_0, qa245, qo245, vf12_29, qa204, qo204, qa208, qo208, qa214, qo214, p241_29, ty12_29, vf12_2, vf12_14, qa249, qo249, p241_34, ty12_34, vf12_35, t241_35, g259, p259, vf12_34, vf12_25, t241_25, g255, p255, p241_33, ty12_33, qa227, qo227, List.getElem?_cons_zero, List.getElem?_cons_succ, List.length_cons, List.length_nil, ag_nx, ag_dn, ag_no, ag_if, jbr1, jbr2, jc1, jc2, jnul, jld, jsto, jstoL, jst1, jst2, jkill, jinc, jbI, jbL, jbS, juI, jl2i, jcmp, jisR, jisI, jisL, jret, jretv, jfits, jdup, jdup2, jpop, jmm, jcat, Value.category, jinv, jrcv, jthr, jhd, jput, jget, jlen, jald, jast, jaast, jgI, jgL, jgB, jtab, jlku, jacp, vf20, vf21, vf22, vf23, vf24, u2_s, u2_k, u2_i, uc_s, uc_k, uc_c, u2_c, LI0, LI1, LI2, LI3, LI4, LI5, LI6, LI7, LI8, LI9, LI10, LI11, LI12, LI13, LI14, LI15, LI16, LI17, LI18, LI19, LI20, LI21, LI22, LI23, LI24, LI25, LI26, LI27, LI28, LI29, LI30, LI31, LI32, LI33, LI34, LI35, LI36, LI37, LI40, LI42, LI43, LI45, LI48, LI60, LI61, LI64, LI80, LI300, LI400, LI1000, LI2000, LI2001, LI2047, LI2048, LI100000, LI1000000, LI38, LI39, LI41, LI44, LI46, LI47, LI49, LI50, LI51, LI52, LI53, LI54, LI55, LI56, LI57, LI58, LI59, LI62, LI63, LI65, LI66, LI67, LI68, LI69, LI70, LI71, LI72, LI73, LI74, LI75, LI76, LI77, LI78, LI79, LI81, LI82, LI83, LI84, LI85, LI86, LI87, LI88, LI89, LI90, LI91, LI92, LI93, LI94, LI95, LI96, LI97, LI98, LI99, LI100, LI101, LI102, LI103, LI104, LI105, LI106, LI107, LI108, LI109, LI110, LI111, LI112, LI113, LI114, LI115, LI116, LI117, LI118, LI119, LI120, LI121, LI122, LI123, LI124, LI125, LI126, LI127, LI255, LI256, LI999, LI1001, LI1002, LI1600, LI4096, LI1000001, LI2042, LM, nI_clamp, nI_pos', nI_lt, nI_nlt, nI_le, nI_ge, nI_ne, nI_add, nI_sub, mI_lt, mI_le, mI_nlt, mI_nle, mI_ne, mI_ne', mI_nem, p2, e208', o3', ph246_32]
          rfl)
        exact ⟨X', I', n', nn', nb', w1, w0, Or.inl w2⟩
      · have hfold := lu1.mpr o2
        have o3' : jcall A jcode (d + 1299) 214 [.ref (b + 241), .int f] (HZ h b J R z') = some (.inl none, jH h b z'.1 I2 J R z'.2.2.1) := o3
        obtain ⟨M', hM'⟩ : ∃ M', M' = z'.2.2.2.2.2 := ⟨_, rfl⟩
        rw [← hM'] at hcap hps hMM q5 q2 q4 p6 o4
        have h29' : I2 241 29 = nI M' := by rw [o1 _ _ (by omega) (by omega), hM']; exact hB'.2.2.2.2.2.1
        have e249 := r249 (A := A) (d := d + 1297) (b := b) (h := h) (X := z'.1) (I := I2) (J := J) (R := R) (n := z'.2.2.1) hcap (by omega) h29' hMM
        have hch2 : chn I2 f ps := chn_st ps _ (fun a ha => o1 _ _ (by omega) (by omega)) p7
        have hchT : chn (tfI M0 (M' - M0) I2) (shl (nI M0) f) (ps.map (fun a => a - M0)) := chn_sf sft_tf (by omega) ps f hps hch2
        obtain ⟨I4, hI4⟩ : ∃ I4, I4 = u2 (u2 (tfI M0 (M' - M0) I2) 241 29 (nI (M' - M0))) 241 34 (nI 0) := ⟨_, rfl⟩
        have f4 : ∀ c i, ¬ (c = 241 ∧ (i = 29 ∨ i = 34)) → I4 c i = tfI M0 (M' - M0) I2 c i := fun c i hc => by rw [hI4]; unfold u2; rw [if_neg (by omega), if_neg (by omega)]
        obtain ⟨hl1, hl2⟩ := prsRl_at _ _ _ _ _ o4
        obtain ⟨I5, c4', e90, w1, w2, w3⟩ := r246p (A := A) (d := d + 1299) (b := b) (h := h) (X := z'.1) (J := J) (R := R) (n := z'.2.2.1) (M := M') (M0 := M0) (ps.map (fun a => a - M0)) 0 (shl (nI M0) f) I4 (shl (nI M0) f) (shl (nI M0) f) (nI M0) (by rw [List.length_map, hl1]; omega) (by rw [hI4]; exact u2_s) (chn_st _ _ (fun a ha => f4 _ _ (by omega)) hchT) (fun a ha => by
          obtain ⟨y, hy, e⟩ := List.mem_map.mp ha
          replace e : y - M0 = a := e
          have := hps y hy
          omega) (by omega) (hcap 255 (by omega) (by omega))
        have EQ : M246 A (d + 1299) 14 [some (.ref (b + 241)), some (.int (nI M0)), none, none, none] [] (jH h b X I1 J R n) = M246 A (d + 1299) 90 [some (.ref (b + 241)), some (.int (nI M0)), some (.int (shl (nI M0) f)), some (.int (nI M0)), some (.int (shl (nI M0) f))] [] (jH h b z'.1 I4 J R z'.2.2.1) := by
          rw [hI4]
          cases ps with
          | nil =>
            have hf : f = mI 1 := p7
            subst hf
            rw [shl_m]
            simp (disch := omega) [r246_14, r246_15, r246_18, r246_19, r246_20, r246_21, r246_24, r246_25, r246_26, r246_29, r246_33, r246_34, r246_35, r246_38, r246_39, r246_40, r246_43, r246_44, r246_47, r246_50, r246_51, r246_54, r246_57, r246_58, r246_61, r246_62, r246_63, r246_64, r246_65, r246_66, r246_67, r246_70, r246_71, r246_74, r246_75, r246_78, r246_79, r246_80, r246_81, r246_82, r246_83, r246_84, r246_87, r246_88, r246_92, r246_95, r246_96, r246_99, r246_100, r246_103, r246_105, r246_106, r246_107, r246_108, r246_111, r246_112, r246_113, r246_116, r246_117, r246_120, r246_122, r246_123, r246_125, r246_128, r246_129, r246_130, r246_133, r246_134, r246_137, r246_138, r246_141, g241, p241_0, ty12_0, qa245, qo245, vf12_29, qa204, qo204, qa208, qo208, qa214, qo214, p241_29, ty12_29, vf12_2, vf12_14, qa249, qo249, p241_34, ty12_34, vf12_35, t241_35, g259, p259, vf12_34, vf12_25, t241_25, g255, p255, p241_33, ty12_33, qa227, qo227, List.getElem?_cons_zero, List.getElem?_cons_succ, List.length_cons, List.length_nil, ag_nx, ag_dn, ag_no, ag_if, jbr1, jbr2, jc1, jc2, jnul, jld, jsto, jstoL, jst1, jst2, jkill, jinc, jbI, jbL, jbS, juI, jl2i, jcmp, jisR, jisI, jisL, jret, jretv, jfits, jdup, jdup2, jpop, jmm, jcat, Value.category, jinv, jrcv, jthr, jhd, jput, jget, jlen, jald, jast, jaast, jgI, jgL, jgB, jtab, jlku, jacp, vf20, vf21, vf22, vf23, vf24, u2_s, u2_k, u2_i, uc_s, uc_k, uc_c, u2_c, LI0, LI1, LI2, LI3, LI4, LI5, LI6, LI7, LI8, LI9, LI10, LI11, LI12, LI13, LI14, LI15, LI16, LI17, LI18, LI19, LI20, LI21, LI22, LI23, LI24, LI25, LI26, LI27, LI28, LI29, LI30, LI31, LI32, LI33, LI34, LI35, LI36, LI37, LI40, LI42, LI43, LI45, LI48, LI60, LI61, LI64, LI80, LI300, LI400, LI1000, LI2000, LI2001, LI2047, LI2048, LI100000, LI1000000, LI38, LI39, LI41, LI44, LI46, LI47, LI49, LI50, LI51, LI52, LI53, LI54, LI55, LI56, LI57, LI58, LI59, LI62, LI63, LI65, LI66, LI67, LI68, LI69, LI70, LI71, LI72, LI73, LI74, LI75, LI76, LI77, LI78, LI79, LI81, LI82, LI83, LI84, LI85, LI86, LI87, LI88, LI89, LI90, LI91, LI92, LI93, LI94, LI95, LI96, LI97, LI98, LI99, LI100, LI101, LI102, LI103, LI104, LI105, LI106, LI107, LI108, LI109, LI110, LI111, LI112, LI113, LI114, LI115, LI116, LI117, LI118, LI119, LI120, LI121, LI122, LI123, LI124, LI125, LI126, LI127, LI255, LI256, LI999, LI1001, LI1002, LI1600, LI4096, LI1000001, LI2042, LM, nI_clamp, nI_pos', nI_lt, nI_nlt, nI_le, nI_ge, nI_ne, nI_add, nI_sub, mI_lt, mI_le, mI_nlt, mI_nle, mI_ne, mI_ne', mI_nem, p2, e208', o3', e249]
          | cons q0 qs0 =>
            have hf : f = nI q0 := p7.1
            have hq0 := hps q0 (List.mem_cons_self ..)
            subst hf
            rw [shl_n hq0.1 (by omega)]
            have hq00 : ¬ nI q0 < nI 0 := by rw [nI_ltI (by omega) (by omega)]; omega
            simp (disch := omega) [r246_14, r246_15, r246_18, r246_19, r246_20, r246_21, r246_24, r246_25, r246_26, r246_29, r246_33, r246_34, r246_35, r246_38, r246_39, r246_40, r246_43, r246_44, r246_47, r246_50, r246_51, r246_54, r246_57, r246_58, r246_61, r246_62, r246_63, r246_64, r246_65, r246_66, r246_67, r246_70, r246_71, r246_74, r246_75, r246_78, r246_79, r246_80, r246_81, r246_82, r246_83, r246_84, r246_87, r246_88, r246_92, r246_95, r246_96, r246_99, r246_100, r246_103, r246_105, r246_106, r246_107, r246_108, r246_111, r246_112, r246_113, r246_116, r246_117, r246_120, r246_122, r246_123, r246_125, r246_128, r246_129, r246_130, r246_133, r246_134, r246_137, r246_138, r246_141, g241, p241_0, ty12_0, qa245, qo245, vf12_29, qa204, qo204, qa208, qo208, qa214, qo214, p241_29, ty12_29, vf12_2, vf12_14, qa249, qo249, p241_34, ty12_34, vf12_35, t241_35, g259, p259, vf12_34, vf12_25, t241_25, g255, p255, p241_33, ty12_33, qa227, qo227, List.getElem?_cons_zero, List.getElem?_cons_succ, List.length_cons, List.length_nil, ag_nx, ag_dn, ag_no, ag_if, jbr1, jbr2, jc1, jc2, jnul, jld, jsto, jstoL, jst1, jst2, jkill, jinc, jbI, jbL, jbS, juI, jl2i, jcmp, jisR, jisI, jisL, jret, jretv, jfits, jdup, jdup2, jpop, jmm, jcat, Value.category, jinv, jrcv, jthr, jhd, jput, jget, jlen, jald, jast, jaast, jgI, jgL, jgB, jtab, jlku, jacp, vf20, vf21, vf22, vf23, vf24, u2_s, u2_k, u2_i, uc_s, uc_k, uc_c, u2_c, LI0, LI1, LI2, LI3, LI4, LI5, LI6, LI7, LI8, LI9, LI10, LI11, LI12, LI13, LI14, LI15, LI16, LI17, LI18, LI19, LI20, LI21, LI22, LI23, LI24, LI25, LI26, LI27, LI28, LI29, LI30, LI31, LI32, LI33, LI34, LI35, LI36, LI37, LI40, LI42, LI43, LI45, LI48, LI60, LI61, LI64, LI80, LI300, LI400, LI1000, LI2000, LI2001, LI2047, LI2048, LI100000, LI1000000, LI38, LI39, LI41, LI44, LI46, LI47, LI49, LI50, LI51, LI52, LI53, LI54, LI55, LI56, LI57, LI58, LI59, LI62, LI63, LI65, LI66, LI67, LI68, LI69, LI70, LI71, LI72, LI73, LI74, LI75, LI76, LI77, LI78, LI79, LI81, LI82, LI83, LI84, LI85, LI86, LI87, LI88, LI89, LI90, LI91, LI92, LI93, LI94, LI95, LI96, LI97, LI98, LI99, LI100, LI101, LI102, LI103, LI104, LI105, LI106, LI107, LI108, LI109, LI110, LI111, LI112, LI113, LI114, LI115, LI116, LI117, LI118, LI119, LI120, LI121, LI122, LI123, LI124, LI125, LI126, LI127, LI255, LI256, LI999, LI1001, LI1002, LI1600, LI4096, LI1000001, LI2042, LM, nI_clamp, nI_pos', nI_lt, nI_nlt, nI_le, nI_ge, nI_ne, nI_add, nI_sub, mI_lt, mI_le, mI_nlt, mI_nle, mI_ne, mI_ne', mI_nem, p2, e208', o3', e249, hq00]
        have EQ2 : M246 A (d + 1299) 128 [some (.ref (b + 241)), some (.int (nI M0)), some (.int (shl (nI M0) f)), some (.int (nI M0)), some (.int c4')] [] (jH h b z'.1 I5 J R z'.2.2.1) = M246 A (d + 1299) 133 [some (.ref (b + 241)), some (.int (nI M0)), some (.int (shl (nI M0) f)), some (.int (nI M0)), some (.int c4')] [] (jH h b z'.1 (u2 I5 241 33 (nI 1)) J R z'.2.2.1) := by
          simp (disch := omega) [r246_128, r246_129, r246_130, g241, p241_0, ty12_0, qa245, qo245, vf12_29, qa204, qo204, qa208, qo208, qa214, qo214, p241_29, ty12_29, vf12_2, vf12_14, qa249, qo249, p241_34, ty12_34, vf12_35, t241_35, g259, p259, vf12_34, vf12_25, t241_25, g255, p255, p241_33, ty12_33, qa227, qo227, List.getElem?_cons_zero, List.getElem?_cons_succ, List.length_cons, List.length_nil, ag_nx, ag_dn, ag_no, ag_if, jbr1, jbr2, jc1, jc2, jnul, jld, jsto, jstoL, jst1, jst2, jkill, jinc, jbI, jbL, jbS, juI, jl2i, jcmp, jisR, jisI, jisL, jret, jretv, jfits, jdup, jdup2, jpop, jmm, jcat, Value.category, jinv, jrcv, jthr, jhd, jput, jget, jlen, jald, jast, jaast, jgI, jgL, jgB, jtab, jlku, jacp, vf20, vf21, vf22, vf23, vf24, u2_s, u2_k, u2_i, uc_s, uc_k, uc_c, u2_c, LI0, LI1, LI2, LI3, LI4, LI5, LI6, LI7, LI8, LI9, LI10, LI11, LI12, LI13, LI14, LI15, LI16, LI17, LI18, LI19, LI20, LI21, LI22, LI23, LI24, LI25, LI26, LI27, LI28, LI29, LI30, LI31, LI32, LI33, LI34, LI35, LI36, LI37, LI40, LI42, LI43, LI45, LI48, LI60, LI61, LI64, LI80, LI300, LI400, LI1000, LI2000, LI2001, LI2047, LI2048, LI100000, LI1000000, LI38, LI39, LI41, LI44, LI46, LI47, LI49, LI50, LI51, LI52, LI53, LI54, LI55, LI56, LI57, LI58, LI59, LI62, LI63, LI65, LI66, LI67, LI68, LI69, LI70, LI71, LI72, LI73, LI74, LI75, LI76, LI77, LI78, LI79, LI81, LI82, LI83, LI84, LI85, LI86, LI87, LI88, LI89, LI90, LI91, LI92, LI93, LI94, LI95, LI96, LI97, LI98, LI99, LI100, LI101, LI102, LI103, LI104, LI105, LI106, LI107, LI108, LI109, LI110, LI111, LI112, LI113, LI114, LI115, LI116, LI117, LI118, LI119, LI120, LI121, LI122, LI123, LI124, LI125, LI126, LI127, LI255, LI256, LI999, LI1001, LI1002, LI1600, LI4096, LI1000001, LI2042, LM, nI_clamp, nI_pos', nI_lt, nI_nlt, nI_le, nI_ge, nI_ne, nI_add, nI_sub, mI_lt, mI_le, mI_nlt, mI_nle, mI_ne, mI_ne', mI_nem]
        obtain ⟨I6, hI6⟩ : ∃ I6, I6 = u2 I5 241 33 (nI 1) := ⟨_, rfl⟩
        have f6 : ∀ c i, ¬ (c = 241 ∧ i = 33) → I6 c i = I5 c i := fun c i hc => by rw [hI6]; unfold u2; rw [if_neg hc]
        have f7 : ∀ c i, c ≠ 259 → ¬ (c = 241 ∧ (i = 29 ∨ i = 33 ∨ i = 34)) → I6 c i = tfI M0 (M' - M0) I2 c i := fun c i h1 h2 => by rw [f6 c i (by omega), w1 c i (by omega) (by omega), f4 c i (by omega)]
        have f8 : ∀ c i, c ≠ 259 → ¬ (c = 241 ∧ (i = 29 ∨ (31 ≤ i ∧ i ≤ 34))) → ¬ (251 ≤ c ∧ c ≤ 258) → I6 c i = z'.2.1 c i := fun c i h1 h2 h3 => by rw [f7 c i h1 (by omega), tfI_n (by omega), o1 c i (by omega) (by omega)]
        have hsf : sft M0 M' I2 I6 := fun c i c1 c2 c3 c4 => by rw [f7 c _ (by omega) (by omega)]; exact sft_tf c i c1 c2 c3 c4
        have hrn : ∀ u, u < z'.2.2.2.1 → rnm I6 u = rnm I2 u := fun u _ => rnm_e (fun c i c1 c2 => by rw [f7 c i (by omega) (by omega), tfI_n (by omega)])
        have hfin2 := prsRl_sf hsf hrn (by omega) ps F 0 M0 M' (Nat.le_refl _) (Nat.le_refl _) o4
        rw [Nat.sub_self] at hfin2
        have s1 := p5.1
        have hz2 : z.2.1 = I1 := by rw [hz]
        rw [hz2, hz6] at s1
        refine ⟨z'.1, I6, z'.2.2.1, z'.2.2.2.1, z'.2.2.2.2.1, KP z' I6 hB' p5 (fun c i c1 c2 => f8 c i (by omega) (by omega) (by omega)) (fun c i a1 a2 => f8 c i (by omega) (by omega) (by omega)) (f8 _ _ (by omega) (by omega) (by omega)) (f8 _ _ (by omega) (by omega) (by omega)) (f8 _ _ (by omega) (by omega) (by omega)), ?_, Or.inr ⟨F, C', ps.map (fun a => a - M0), M' - M0, shl (nI M0) f, nI M0, c4', sysO_4 p1 hex hfold, ?_, ?_, ⟨cap, q1, by omega, q3, by omega⟩, by omega, hfin2, fun p pd hp => ?_, ?_, ?_, hF6, prsR_27 ps F 0 _ _ p6⟩⟩
        · rw [f8 _ _ (by omega) (by omega) (by omega), s1 _ _ (by omega) (by omega) (by omega)]; exact g0
        · rw [e1, EQ, e90, EQ2, hI6]
        · rw [f6 _ _ (by omega), w1 _ _ (by omega) (by omega), hI4, u2_i (by omega), u2_s]
        · have := w3 p pd hp
          rw [Nat.zero_add] at this
          rw [f6 _ _ (by omega)]; exact this
        · rw [f6 _ _ (by omega), w2, List.length_map, hl1, Nat.zero_add]
        · rw [hI6]; exact u2_s
end RSZ
