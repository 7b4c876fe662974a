/-! steps: chart -/
section ZTI
variable {A : Nat → Nat} {d b n s0 Ls i c : Nat} {h : Nat → Option jC} {X : jXX} {I : Nat → Nat → Int32} {J : Nat → Nat → Int64} {R : Nat → Nat → Nat} {xs : Nat → Int32}
theorem hC_li {C L : Nat} {s : hS} (hs : hC_ I J C s L) : cLi I C s.1.length (lnM s.1) := by
  obtain ⟨a1, a3, a4, a5, a6, a7, a8, a9⟩ := hs
  refine ⟨a6, lnM_8 (fun i m hm => by have := a8 i m hm; omega), fun e he => ?_⟩
  have hl : e / 2 < s.1.length := by omega
  have hx : s.1[e / 2]? = some s.1[e / 2] := List.getElem?_eq_getElem hl
  rw [lnM_g hx]
  obtain ⟨_, _, x3, x4, _⟩ := a8 _ _ hx
  split
  · exact x3
  · exact x4
theorem hC_cg {C L : Nat} {s : hS} {I' : Nat → Nat → Int32} {J' : Nat → Nat → Int64} (hs : hC_ I J C s L) (hf : fRa C I I') (hj : ∀ i, J' (C + 2) i = J (C + 2) i) : hC_ I' J' C s L := by
  obtain ⟨a1, a3, a4, a5, a6, a7, a8, a9⟩ := hs
  have kc : ∀ (x : Int32) l, cLn I J (C + 1) L x l → cLn I' J' (C + 1) L x l := by
    intro x l hl
    cases l with
    | none => exact hl
    | some y =>
      obtain ⟨u, u1, u2', u3⟩ := hl
      refine ⟨u, u1, u2', ?_⟩
      unfold cnm at u3 ⊢
      rw [hf _ _ (by omega) (by omega) (by omega), show C + 1 + 1 = C + 2 from rfl, hj]
      exact u3
  refine ⟨cNm_fr a1 (hf _ _ (by omega) (by omega) (by omega)) (fun i => hf _ _ (by omega) (by omega) (by omega)) (fun i => hj i), (hf _ _ (by omega) (by omega) (by omega)).trans a3, (hf _ _ (by omega) (by omega) (by omega)).trans a4, a5, a6, a7, fun i m hm => ?_, fun i l hl => ?_⟩
  · rw [hf (C + 5) i (by omega) (by omega) (by omega), hf (C + 6) i (by omega) (by omega) (by omega), hf (C + 7) i (by omega) (by omega) (by omega)]
    obtain ⟨d1, d2, d3, d4, d5⟩ := a8 i m hm
    exact ⟨d1, d2, d3, d4, kc _ _ d5⟩
  · rw [hf (C + 4) i (by omega) (by omega) (by omega)]
    exact kc _ _ (a9 i l hl)
/-- Chart.read -/
theorem c1 {t : Nat → Int32} {N m C : Nat} {I : Nat → Nat → Int32} {J : Nat → Nat → Int64} {L0 : Nat} (hC' : isC C) (hL0 : L0 ≤ 48) (h0 : I (C + 1) 2 = nI L0) (hN2 : N ≤ 2000) (hT : tkS t N I J m) : ∃ I' J' L', (∀ c i, ¬ (C ≤ c ∧ c ≤ C + 12) → I' c i = I c i) ∧ (∀ c i, ¬ (C ≤ c ∧ c ≤ C + 12) → J' c i = J c i) ∧ I' (C + 1) 2 = nI L' ∧ L' ≤ 48 ∧ ((∃ e, e ≤ m ∧ chS (KK t N) (Yn t N) 40 0 ([], []) = .inl e ∧ jcall A jcode (d + 5) 1 [.ref (b + C), .ref (b + 3)] (jH h b X I J R n) = some (.inl (some (.int (nI (tpos t N e)))), (jH h b X I' J' R n))) ∨ ∃ s' W, chS (KK t N) (Yn t N) 40 0 ([], []) = .inr s' ∧ jcall A jcode (d + 5) 1 [.ref (b + C), .ref (b + 3)] (jH h b X I J R n) = some (.inl (some (.int (mI 1))), (jH h b X I' J' R n)) ∧ hC_ I' J' C s' L' ∧ (∀ p q, p < 2 * s'.1.length → q < 2 * s'.1.length → (W p q = true ↔ bP (lnM s'.1) (2 * s'.1.length) p q)) ∧ cRa I' C (rcO W (lnM s'.1) (2 * s'.1.length) (2 * s'.1.length) 0)) := by
  have hC := hC'
  have hN := isC_N hC
  have hCe := isC_ee hC
  obtain ⟨I1, J1, L1, f1, fj1, n1, n1', r1⟩ := c1r (A := A) (d := d) (b := b) (h := h) (X := X) (R := R) (n := n) hC hL0 h0 hN2 hT
  have f1' : ∀ c i, ¬ (C ≤ c ∧ c ≤ C + 12) → I1 c i = I c i := fun c i hc => f1 c i (by omega) (by omega) (by omega)
  rcases r1 with ⟨e, em, q1, q2⟩ | ⟨s', c2, c3, c4', q1, q2, q3⟩
  · exact ⟨I1, J1, L1, f1', fun c i hc => fj1 c i (by omega), n1, n1', Or.inl ⟨e, em, q1, q2⟩⟩
  · obtain ⟨I2, J2, e6, f2, fj2, b2, r2⟩ := c6 (A := A) (d := d + 1) (b := b) (h := h) (X := X) (R := R) (n := n) (J := J1) hC (hC_li q3) q3.2.1
    have eb : ∀ p q, p < 2 * s'.1.length → q < 2 * s'.1.length → (bb J2 C q p = true ↔ bP (lnM s'.1) (2 * s'.1.length) p q) := fun p q hp hq => b2 q p hq (by have := q3.2.2.2.2.1; omega)
    refine ⟨I2, J2, L1, fun c i hc => (f2 c i (by omega) (by omega) (by omega)).trans (f1' c i hc), fun c i hc => (fj2 c i (by omega)).trans (fj1 c i (by omega)), (f2 _ _ (by omega) (by omega) (by omega)).trans n1, n1', Or.inr ⟨s', fun p q => bb J2 C q p, q1, ?_, ?_, eb, r2⟩⟩
    · rw [q2, r1_83]
      simp (disch := omega) [r1_84, r1_87, r1_88, gC0 hC, vf0_0, tC0_0 hC, qa28, qo28, gN0 hN, pC0_2 hC, ty0_2, pC0_6 hC, ty0_6, qa84, qo84, g3, qa2, qo2, qa85, qo85, qa6, qo6, List.getElem?_cons_zero, List.getElem?_cons_succ, List.length_cons, List.length_nil, ag_nx, ag_dn, ag_no, ag_if, jbr1, jbr2, jc1, jc2, jnul, jld, jsto, jstoL, jst1, jst2, jkill, jinc, jbI, jbL, jbS, juI, jl2i, jcmp, jisR, jisI, jisL, jret, jretv, jfits, jdup, jdup2, jpop, jmm, jcat, Value.category, jinv, jrcv, jthr, jhd, jput, jget, jlen, jald, jast, jaast, jgI, jgL, jgB, jtab, jlku, jacp, vf20, vf21, vf22, vf23, vf24, u2_s, u2_k, u2_i, uc_s, uc_k, uc_c, u2_c, LI0, LI1, LI2, LI3, LI4, LI5, LI6, LI7, LI8, LI9, LI10, LI11, LI12, LI13, LI14, LI15, LI16, LI17, LI18, LI19, LI20, LI21, LI22, LI23, LI24, LI25, LI26, LI27, LI28, LI29, LI30, LI31, LI32, LI33, LI34, LI35, LI36, LI37, LI40, LI42, LI43, LI45, LI48, LI60, LI61, LI64, LI80, LI300, LI400, LI1000, LI2000, LI2001, LI2047, LI2048, LI100000, LI1000000, LI38, LI39, LI41, LI44, LI46, LI47, LI49, LI50, LI51, LI52, LI53, LI54, LI55, LI56, LI57, LI58, LI59, LI62, LI63, LI65, LI66, LI67, LI68, LI69, LI70, LI71, LI72, LI73, LI74, LI75, LI76, LI77, LI78, LI79, LI81, LI82, LI83, LI84, LI85, LI86, LI87, LI88, LI89, LI90, LI91, LI92, LI93, LI94, LI95, LI96, LI97, LI98, LI99, LI100, LI101, LI102, LI103, LI104, LI105, LI106, LI107, LI108, LI109, LI110, LI111, LI112, LI113, LI114, LI115, LI116, LI117, LI118, LI119, LI120, LI121, LI122, LI123, LI124, LI125, LI126, LI127, LI255, LI256, LI999, LI1001, LI1002, LI1600, LI4096, LI1000001, LI2042, LM, nI_clamp, nI_pos', nI_lt, nI_nlt, nI_le, nI_ge, nI_ne, nI_add, nI_sub, mI_lt, mI_le, mI_nlt, mI_nle, mI_ne, mI_ne', mI_nem, e6]
    · exact hC_cg q3 f2 (fun i => fj2 _ _ (by omega))
/-- a text is read, and the chart may be another -/
theorem Rel_C {X' : jXX} {I3 : Nat → Nat → Int32} {J' : Nat → Nat → Int64} {R' : Nat → Nat → Nat} {T nn nb M P P' L C C' n' nn' nb' C1 C1' : Nat} (a1 : zT I T) (a2 : zO I) (a3 : zF I J R) (a4 : zN X I nn nb c T) (a5 : zM X I M) (a6 : zP I J R P P' L) (a70 : okS R 57) (a7 : (I 0 10 = nI 0 ∧ I 241 33 = nI 0 ∧ I 241 34 = nI 0 ∧ wC (cNf (cnm I J (P + 1)) L) I R 57 (eW (-1)) ∧ wR (rNf (rnm I) nn) I true (eW 0)) ∨ ∃ (k np Lc cap B D : Nat) (N : Nat → Nat → Int32) (O G E : Nat → Int32) (W : aW Nm), zY X I J R c P L nn M k np Lc cap B D N O G E W) (a8 : zK X I) (a10 : zR X n c) (g1 : rNm X' I3 nn' nb') (g2 : cpT X' nn' nb') (g3 : nn ≤ nn') (g4 : nb' ≤ nb + T + 12) (er : ∀ u, u < nn → rnm I3 u = rnm I u) (g6 : gro X n X' n') (g7 : cp X' 206 = cp X 206) (g8 : I3 241 13 = nI 0) (g9 : I3 241 29 = nI M) (g10 : ndC X' M) (z1 : I3 0 1 = nI 0) (f3 : ∀ c i, ¬ (c = 241 ∧ (i = 0 ∨ i = 2 ∨ i = 8 ∨ i = 9 ∨ (13 ≤ i ∧ i ≤ 18) ∨ i = 20 ∨ (83 ≤ i ∧ i ≤ 88))) → ¬ ((243 ≤ c ∧ c ≤ 247) ∨ c = 249 ∨ (287 ≤ c ∧ c ≤ 298) ∨ (3 ≤ c ∧ c ≤ 9) ∨ (215 ≤ c ∧ c ≤ 240)) → ¬ (c = 0 ∧ (i = 1 ∨ i = 13)) → I3 c i = I c i) (fj : ∀ c i, c ≠ 8 → ¬ (215 ≤ c ∧ c ≤ 240) → J' c i = J c i) (fR : ∀ c i, ¬ (c = 0 ∧ (i = 11 ∨ i = 12)) → R' c i = R c i) (hzC : zC I3 J' R' nn' C1 C1') : Rel (c + 1) X' I3 J' R' n' := by
  have hPP := a6.1
  have R8 := a6.2.1
  have R9 := a6.2.2.1
  obtain ⟨L0, hL0⟩ := a6.2.2.2.2
  have ec : cnm I3 J' (P + 1) = cnm I J (P + 1) := funext fun x => by unfold cnm; rw [f3 _ _ (by omega) (by omega) (by omega), fj _ _ (by omega) (by omega)]
  refine ⟨0, nn', nb', M, P, P', L, C1, C1', ⟨by omega, z1, g8, fun i hi => ?_⟩, zO_fr a2 (fun c i hc => f3 c i (by omega) (by omega) (by omega)), zF_fr a3 (f3 _ _ (by omega) (by omega) (by omega)) (fun i => fj _ _ (by omega) (by omega)) (by have := a3.2.2; unfold okS at this ⊢; rw [show R' (132 + 8) = R (132 + 8) from funext fun i => fR _ _ (by omega)]; exact this), ⟨g1, g2, by have := a4.2.2; omega⟩, ⟨g9, a5.2.1, g10⟩, ⟨hPP, (fR _ _ (by omega)).trans R8, (fR _ _ (by omega)).trans R9, cNm_fr a6.2.2.2.1 (f3 _ _ (by omega) (by omega) (by omega)) (fun i => f3 _ _ (by omega) (by omega) (by omega)) (fun i => fj _ _ (by omega) (by omega)), L0, cNm_fr hL0 (f3 _ _ (by omega) (by omega) (by omega)) (fun i => f3 _ _ (by omega) (by omega) (by omega)) (fun i => fj _ _ (by omega) (by omega))⟩, ⟨by unfold okS at a70 ⊢; rw [show R' (57 + 8) = R (57 + 8) from funext fun i => fR _ _ (by omega)]; exact a70, ?_⟩, zK_fr a8 (fun c i hc => f3 c i (by omega) (by omega) (by omega)) g7, hzC, zR_gro a10 g6⟩
  · rw [f3 1 i (by omega) (by omega) (by omega), f3 248 i (by omega) (by omega) (by omega)]
    exact a1.2.2.2 i hi
  · rw [ec]
    have hle := leP_f (C := cnm I J (P + 1)) (C' := cnm I J (P + 1)) (k := L) (k' := L) (Nat.le_refl _) (fun _ _ => rfl) g3 er
    have fw : ∀ c i, 57 ≤ c → c ≤ 130 → I3 c i = I c i := fun c i h1 h2 => f3 c i (by omega) (by omega) (by omega)
    have fr : ∀ c i, (260 ≤ c ∧ c ≤ 281) ∨ (c = 241 ∧ 36 ≤ i ∧ i ≤ 68) → I3 c i = I c i := fun c i hc => f3 c i (by omega) (by omega) (by omega)
    have i10 := f3 0 10 (by omega) (by omega) (by omega)
    have i33 := f3 241 33 (by omega) (by omega) (by omega)
    have i34 := f3 241 34 (by omega) (by omega) (by omega)
    rcases a7 with ⟨s1, s2, s3, s4, s5⟩ | ⟨k, np, Lc, cap, B, D, N, O, G, E, W, b1, b2, b3, b4, b5, b6, b7, b8, b9, b10, b11, b12, b13, b14, b15, b16, b17⟩
    · have s4' := wC_fr57 (I' := I3) (R' := R') s4 fw (fun i => fR _ _ (by omega))
      have s5' := wR_fr (I' := I3) s5 fr
      refine Or.inl ⟨i10.trans s1, i33.trans s2, i34.trans s3, s4', ?_⟩
      obtain ⟨x1, x2, x3, x4, x5⟩ := s5'
      refine ⟨⟨x1.1, x1.2.1, fun k a hka => by simp [eW] at hka⟩, x2, x3, fun hl => ?_, fun hl => by cases hl⟩
      obtain ⟨y1, y2, y3, y4, y5, y6, _, y8⟩ := x4 hl
      exact ⟨y1, y2, y3, y4, y5, y6, rfl, y8⟩
    · have b12' := wC_fr57 (I' := I3) (R' := R') b12 fw (fun i => fR _ _ (by omega))
      have b13' := wR_fr (I' := I3) b13 fr
      obtain ⟨c12, c13⟩ := wCR_mo hle b12' b13'
      obtain ⟨cap', y1, y2, y3, y4⟩ := g10
      refine Or.inr ⟨k, np, Lc, cap', B, D, N, O, G, E, W, ?_⟩
      unfold zY
      rw [ec]
      exact ⟨i10.trans b1, i33.trans b2, (fR _ _ (by omega)).trans b3, b4, by omega, ⟨b6.1, vnm_fr b6.2 (fun c i hc => f3 c i (by omega) (by omega) (by omega))⟩, (f3 _ _ (by omega) (by omega) (by omega)).trans b7, plC_fr (fun c i h1 h2 => f3 c i (by omega) (by omega) (by omega)) (plC_mo (leP_f (Nat.le_refl _) (fun _ _ => rfl) g3 er) b8), b9, ⟨fun c i c1 c2 h256 => (f3 c i (by omega) (by omega) (by omega)).trans (b10.1 c i c1 c2 h256), y1, by have := a5.2.1; omega⟩, i34.trans b11, c12, c13, b14, b15, by omega, by omega⟩
theorem st_15 (hs0 : s0 < b) (hs : h s0 = some (25, Ls, fun j => .int (xs j))) (hL : Ls ≤ 3072) (hi : i + 6 ≤ Ls) (hA : jAp0 A) (hc : c < 600) (hR : Rel c X I J R n) (hk : xs i &&& 31 = nI 15) : stp A d b s0 i h c X I J R n := by
  intro x5 x6 x7
  have hR' := hR
  obtain ⟨T, nn, nb, M, P, P', L, C, C', a1, a2, a3, a4, a5, a6, ⟨a70, a7⟩, a8, a9, a10⟩ := hR'
  have hw := isW_57
  have hq : isI 66 := by unfold isI; simp
  have hCC := a9.1
  have R11 := a9.2.1
  have R12 := a9.2.2.1
  obtain ⟨L0, hL0, hL0', hLC⟩ := a9.2.2.2.1
  have tT := a1.1
  have hnb : nb ≤ 2 ^ 17 := by have := a4.2.2; omega
  have hC : isC C := by unfold isC; rcases hCC with e | e <;> simp [e.1]
  have hC' : isC C' := by unfold isC; rcases hCC with e | e <;> simp [e.2]
  obtain ⟨I1, J1, m, e169, hT1, z1, f1, fj1⟩ := c169 (A := A) (d := d + 1393) (b := b) (h := h) (X := X) (R := R) (n := n) hA a1 a3.1
  have hmT := hT1.2.1
  have hfin := hT1.2.2.1
  obtain ⟨t, ht⟩ : ∃ t, t = tpT I T := ⟨_, rfl⟩
  rw [← ht] at hT1 hfin
  obtain ⟨I2, J2, L2, r1, r2, r3, r4, r5⟩ := c1 (A := A) (d := d + 1395) (b := b) (h := h) (X := X) (R := R) (n := n) hC' hL0 ((f1 _ _ (by omega) (by omega) (by omega)).trans hL0') tT hT1
  have f2 : ∀ c i, ¬ (3 ≤ c ∧ c ≤ 9) → ¬ (C' ≤ c ∧ c ≤ C' + 12) → ¬ (c = 0 ∧ i = 1) → I2 c i = I c i := fun c i h1 h3 h4 => by rw [r1 c i h3, f1 c i (by omega) (by omega) h4]
  have fj2 : ∀ c i, c ≠ 8 → ¬ (C' ≤ c ∧ c ≤ C' + 12) → J2 c i = J c i := fun c i h1 h2 => by rw [r2 c i h2, fj1 c i h1]
  have PRE : ∀ I' : Nat → Nat → Int32, (∀ c i, 241 ≤ c → I' c i = I c i) → I' 241 13 = nI T ∧ (∀ i, i < T → (I' 248 i).toInt8.toInt32 = I' 248 i) ∧ rNm X I' nn nb ∧ I' 241 29 = nI M ∧ tpT I' T = t := by
    intro I' hI'
    refine ⟨(hI' _ _ (by omega)).trans a1.2.2.1, fun i hi => ?_, rNm_s a4.1 (fun c i c1 c2 => hI' _ _ (by omega)) (hI' _ _ (by omega)) (hI' _ _ (by omega)), (hI' _ _ (by omega)).trans a5.1, ?_⟩
    · rw [hI' _ _ (by omega)]; exact (a1.2.2.2 i (by omega)).2
    · rw [ht]; funext j; unfold tpT; rw [hI' _ _ (by omega), hI' _ _ (by omega)]
  have e169' : jcall A jcode (d + 1400) 169 [.ref b] (jH h b X I J R n) = some (.inl none, (jH h b X I1 J1 R n)) := e169
  rcases r5 with ⟨e, em, o1, o2⟩ | ⟨s, W, o1, o2, o3, o4, o5⟩
  · -- it can't stand
    have hpos : tpos t T e ≤ T := tpos_N
    have e1 : jcall A jcode (d + 1401) 163 [.ref b] (jH h b X I J R n) = some (.inl (some (.int (mI 1 - nI (tpos t T e)))), (jH h b X I2 J2 R n)) := by
      have hnl : ¬ nI (tpos t T e) < nI 0 := by rw [nI_ltI (by omega) (by omega)]; omega
      have o2' : jcall A jcode (d + 1400) 1 [.ref (b + C'), .ref (b + 3)] (jH h b X I1 J1 R n) = some (.inl (some (.int (nI (tpos t T e)))), (jH h b X I2 J2 R n)) := o2
      have hC := hC'
      simp (disch := omega) [je163, r163_0, r163_1, r163_4, r163_5, r163_8, r163_9, r163_12, r163_15, r163_16, r163_17, r163_20, r163_21, r163_22, r163_23, r163_24, r163_25, r163_28, r163_29, r163_30, r163_31, r163_34, r163_37, r163_38, r163_39, r163_42, r163_43, r163_44, r163_47, r163_48, r163_51, r163_54, qa169, qo169, g0z, vf10_12, t0_12, vf10_4, t0_4, qa1, qo1, gC0 hC, vf10_11, t0_11, p0_11, ty10_11, p0_12, ty10_12, p0_13, ty10_13, vf0_6, List.getElem?_cons_zero, List.getElem?_cons_succ, List.length_cons, List.length_nil, ag_nx, ag_dn, ag_no, ag_if, jbr1, jbr2, jc1, jc2, jnul, jld, jsto, jstoL, jst1, jst2, jkill, jinc, jbI, jbL, jbS, juI, jl2i, jcmp, jisR, jisI, jisL, jret, jretv, jfits, jdup, jdup2, jpop, jmm, jcat, Value.category, jinv, jrcv, jthr, jhd, jput, jget, jlen, jald, jast, jaast, jgI, jgL, jgB, jtab, jlku, jacp, vf20, vf21, vf22, vf23, vf24, u2_s, u2_k, u2_i, uc_s, uc_k, uc_c, u2_c, LI0, LI1, LI2, LI3, LI4, LI5, LI6, LI7, LI8, LI9, LI10, LI11, LI12, LI13, LI14, LI15, LI16, LI17, LI18, LI19, LI20, LI21, LI22, LI23, LI24, LI25, LI26, LI27, LI28, LI29, LI30, LI31, LI32, LI33, LI34, LI35, LI36, LI37, LI40, LI42, LI43, LI45, LI48, LI60, LI61, LI64, LI80, LI300, LI400, LI1000, LI2000, LI2001, LI2047, LI2048, LI100000, LI1000000, LI38, LI39, LI41, LI44, LI46, LI47, LI49, LI50, LI51, LI52, LI53, LI54, LI55, LI56, LI57, LI58, LI59, LI62, LI63, LI65, LI66, LI67, LI68, LI69, LI70, LI71, LI72, LI73, LI74, LI75, LI76, LI77, LI78, LI79, LI81, LI82, LI83, LI84, LI85, LI86, LI87, LI88, LI89, LI90, LI91, LI92, LI93, LI94, LI95, LI96, LI97, LI98, LI99, LI100, LI101, LI102, LI103, LI104, LI105, LI106, LI107, LI108, LI109, LI110, LI111, LI112, LI113, LI114, LI115, LI116, LI117, LI118, LI119, LI120, LI121, LI122, LI123, LI124, LI125, LI126, LI127, LI255, LI256, LI999, LI1001, LI1002, LI1600, LI4096, LI1000001, LI2042, LM, nI_clamp, nI_pos', nI_lt, nI_nlt, nI_le, nI_ge, nI_ne, nI_add, nI_sub, mI_lt, mI_le, mI_nlt, mI_nle, mI_ne, mI_ne', mI_nem, e169', R12, o2', hnl]
    obtain ⟨q1, q2, q3, q4, q5⟩ := PRE I2 (fun c i hc => f2 c i (by omega) (by omega) (by omega))
    obtain ⟨X', I3, n', nn', nb', k1, k2⟩ := r280 (A := A) (d := d + 1381) (b := b) (h := h) (J := J2) (R := R) (n := n) hA tT q1 q2 q3 a4.2.1 q4 a5.2.2 hnb a5.2.1 hmT (by rw [q5]; exact hfin)
    rw [q5] at k2
    rcases k2 with ⟨e', w1, w2, w3⟩ | ⟨s', W', w1, _⟩
    · have ee : e' = e := Sum.inl.inj (w1.symm.trans o1)
      subst ee
      refine ⟨_, _, _, _, _, _, _, _, (lwD_15 hs0 hs hL hi hk).trans (lw15_0 e1 w2), ?_⟩
      obtain ⟨g1, g2, g3, g4, g5, g6, g7, g8, g9, g10, g11, g12⟩ := k1
      have er : ∀ u, u < nn → rnm I3 u = rnm I u := fun u hu => (g5 u hu).trans (rnm_e (fun c i c1 c2 => f2 c i (by omega) (by omega) (by omega)))
      refine Rel_C (C := C) (C' := C') a1 a2 a3 a4 a5 a6 a70 a7 a8 a10 g1 g2 g3 g4 er g6 g7 g8 g9 g10 ?_ (fun c i h1 h2 h3 => (g12 c i h1 (by omega) (by omega) (by omega)).trans (f2 c i (by omega) (by omega) (by omega))) (fun c i h1 h2 => fj2 c i h1 (by omega)) (fun _ _ _ => rfl) (C1 := C) (C1' := C') ?_
      · rw [g12 _ _ (by omega) (by omega) (by omega) (by omega), r1 _ _ (by omega)]; exact z1
      · obtain ⟨b1, b2, b3, b4, b5⟩ := a9
        have fz : ∀ c i, (c = 0 ∧ i = 13) ∨ (c = 241 ∧ 83 ≤ i ∧ i ≤ 88 ∧ i ≠ 86 ∧ i ≠ 87) ∨ (C ≤ c ∧ c ≤ C + 12 ∧ c ≠ C + 10) ∨ (287 ≤ c ∧ c ≤ 289) ∨ c = 293 ∨ c = 297 ∨ c = 298 → I3 c i = I c i := fun c i hc => by
          by_cases hr : (c = 241 ∧ 83 ≤ i ∧ i ≤ 88 ∧ i ≠ 86 ∧ i ≠ 87) ∨ (287 ≤ c ∧ c ≤ 289) ∨ c = 293 ∨ c = 297 ∨ c = 298
          · rw [w3 c i hr, f2 c i (by omega) (by omega) (by omega)]
          · rw [g12 c i (by omega) (by omega) (by omega) (by omega), f2 c i (by omega) (by omega) (by omega)]
        obtain ⟨_, _, _, Lq, hLq, hLq'⟩ := b4
        refine ⟨b1, b2, b3, ⟨L2, r4, by rw [g12 _ _ (by omega) (by omega) (by omega) (by omega)]; exact r3, Lq, hLq, (fz _ _ (by omega)).trans hLq'⟩, ?_⟩
        rcases b5 with ⟨x1, x2, x3, x4⟩ | ⟨x1, x2, x3⟩
        · exact Or.inl ⟨(fz _ _ (by omega)).trans x1, (fz _ _ (by omega)).trans x2, (fz _ _ (by omega)).trans x3, (fz _ _ (by omega)).trans x4⟩
        · exact Or.inr ⟨(fz _ _ (by omega)).trans x1, (fz _ _ (by omega)).trans x2, zH_fr hCC x3 (fun c i hc => fz c i (by omega)) (fun i => fj2 _ _ (by omega) (by omega)) g3 er⟩
    · rw [o1] at w1; cases w1
  · -- it is a chart
    obtain ⟨Ia, hIa⟩ : ∃ Ia, Ia = u2 I2 0 13 (nI 1) := ⟨_, rfl⟩
    have fa : ∀ c i, ¬ (c = 0 ∧ i = 13) → Ia c i = I2 c i := fun c i hc => by rw [hIa]; exact u2_o _ _ hc
    obtain ⟨R3, hR3⟩ : ∃ R3, R3 = u2 (u2 R 0 11 C') 0 12 C := ⟨_, rfl⟩
    have fR3 : ∀ c i, ¬ (c = 0 ∧ (i = 11 ∨ i = 12)) → R3 c i = R c i := fun c i hc => by rw [hR3]; unfold u2; rw [if_neg (by omega), if_neg (by omega)]
    have e1 : jcall A jcode (d + 1401) 163 [.ref b] (jH h b X I J R n) = some (.inl (some (.int (nI s.1.length))), (jH h b X Ia J2 R3 n)) := by
      have m0 : mI 1 < nI 0 := by decide
      have o2' : jcall A jcode (d + 1400) 1 [.ref (b + C'), .ref (b + 3)] (jH h b X I1 J1 R n) = some (.inl (some (.int (mI 1))), (jH h b X I2 J2 R n)) := o2
      have i6 : I2 C' 6 = nI s.1.length := o3.2.1
      rw [hIa, hR3]
      have hC0 := hC
      have g1 := gC0 (h := h) (b := b) (X := X) (I := I2) (J := J2) (R := R) (n := n) hC0
      have hC := hC'
      simp (disch := omega) [je163, r163_0, r163_1, r163_4, r163_5, r163_8, r163_9, r163_12, r163_15, r163_16, r163_17, r163_20, r163_21, r163_22, r163_23, r163_24, r163_25, r163_28, r163_29, r163_30, r163_31, r163_34, r163_37, r163_38, r163_39, r163_42, r163_43, r163_44, r163_47, r163_48, r163_51, r163_54, qa169, qo169, g0z, vf10_12, t0_12, vf10_4, t0_4, qa1, qo1, gC0 hC, vf10_11, t0_11, p0_11, ty10_11, p0_12, ty10_12, p0_13, ty10_13, vf0_6, List.getElem?_cons_zero, List.getElem?_cons_succ, List.length_cons, List.length_nil, ag_nx, ag_dn, ag_no, ag_if, jbr1, jbr2, jc1, jc2, jnul, jld, jsto, jstoL, jst1, jst2, jkill, jinc, jbI, jbL, jbS, juI, jl2i, jcmp, jisR, jisI, jisL, jret, jretv, jfits, jdup, jdup2, jpop, jmm, jcat, Value.category, jinv, jrcv, jthr, jhd, jput, jget, jlen, jald, jast, jaast, jgI, jgL, jgB, jtab, jlku, jacp, vf20, vf21, vf22, vf23, vf24, u2_s, u2_k, u2_i, uc_s, uc_k, uc_c, u2_c, LI0, LI1, LI2, LI3, LI4, LI5, LI6, LI7, LI8, LI9, LI10, LI11, LI12, LI13, LI14, LI15, LI16, LI17, LI18, LI19, LI20, LI21, LI22, LI23, LI24, LI25, LI26, LI27, LI28, LI29, LI30, LI31, LI32, LI33, LI34, LI35, LI36, LI37, LI40, LI42, LI43, LI45, LI48, LI60, LI61, LI64, LI80, LI300, LI400, LI1000, LI2000, LI2001, LI2047, LI2048, LI100000, LI1000000, LI38, LI39, LI41, LI44, LI46, LI47, LI49, LI50, LI51, LI52, LI53, LI54, LI55, LI56, LI57, LI58, LI59, LI62, LI63, LI65, LI66, LI67, LI68, LI69, LI70, LI71, LI72, LI73, LI74, LI75, LI76, LI77, LI78, LI79, LI81, LI82, LI83, LI84, LI85, LI86, LI87, LI88, LI89, LI90, LI91, LI92, LI93, LI94, LI95, LI96, LI97, LI98, LI99, LI100, LI101, LI102, LI103, LI104, LI105, LI106, LI107, LI108, LI109, LI110, LI111, LI112, LI113, LI114, LI115, LI116, LI117, LI118, LI119, LI120, LI121, LI122, LI123, LI124, LI125, LI126, LI127, LI255, LI256, LI999, LI1001, LI1002, LI1600, LI4096, LI1000001, LI2042, LM, nI_clamp, nI_pos', nI_lt, nI_nlt, nI_le, nI_ge, nI_ne, nI_add, nI_sub, mI_lt, mI_le, mI_nlt, mI_nle, mI_ne, mI_ne', mI_nem, e169', R11, R12, o2', m0, i6]
    obtain ⟨q1, q2, q3, q4, q5⟩ := PRE Ia (fun c i hc => by rw [fa _ _ (by omega), f2 c i (by omega) (by omega) (by omega)])
    obtain ⟨X', I3, n', nn', nb', k1, k2⟩ := r280 (A := A) (d := d + 1381) (b := b) (h := h) (J := J2) (R := R3) (n := n) hA tT q1 q2 q3 a4.2.1 q4 a5.2.2 hnb a5.2.1 hmT (by rw [q5]; exact hfin)
    rw [q5] at k2
    rcases k2 with ⟨e', w1, _⟩ | ⟨s', W', w1, w2, w3, w4, w5, w6⟩
    · rw [o1] at w1; cases w1
    have ee : s' = s := Sum.inr.inj (w1.symm.trans o1)
    subst ee
    refine ⟨_, _, _, _, _, _, _, _, (lwD_15 hs0 hs hL hi hk).trans (lw15_0 e1 w2), ?_⟩
    obtain ⟨g1, g2, g3, g4, g5, g6, g7, g8, g9, g10, g11, g12⟩ := k1
    have fc : ∀ c i, c ≤ 240 → I3 c i = Ia c i := fun c i hc => g12 c i (by omega) (by omega) (by omega) (by omega)
    have er : ∀ u, u < nn → rnm I3 u = rnm I u := fun u hu => (g5 u hu).trans (rnm_e (fun c i c1 c2 => by rw [fa _ _ (by omega), f2 c i (by omega) (by omega) (by omega)]))
    refine Rel_C (C := C) (C' := C') a1 a2 a3 a4 a5 a6 a70 a7 a8 a10 g1 g2 g3 g4 er g6 g7 g8 g9 g10 ?_ (fun c i h1 h2 h3 => by rw [g12 c i h1 (by omega) (by omega) (by omega), fa _ _ (by omega), f2 c i (by omega) (by omega) (by omega)]) (fun c i h1 h2 => fj2 c i h1 (by omega)) fR3 (C1 := C') (C1' := C) ?_
    · rw [fc _ _ (by omega), fa _ _ (by omega), r1 _ _ (by omega)]; exact z1
    · have _ := hCC
      obtain ⟨L', hL', hL''⟩ := hLC
      have hrs : rcO W' (lnM s'.1) (2 * s'.1.length) (2 * s'.1.length) 0 = rcO W (lnM s'.1) (2 * s'.1.length) (2 * s'.1.length) 0 := rcO_g (fun p q hp hq => by
        have x1 := w5 p q hp hq
        have x2 := o4 p q hp hq
        exact Bool.eq_iff_iff.mpr (x1.trans x2.symm)) _ _ (by omega)
      rw [hrs] at w6
      have hfC : ∀ c i, C' ≤ c → c ≤ C' + 12 → I3 c i = I2 c i := fun c i h1 h2 => by rw [fc _ _ (by omega), fa _ _ (by omega)]
      refine ⟨by omega, by rw [hR3, u2_i (by omega), u2_s], by rw [hR3, u2_s], ⟨L', hL', by rw [fc _ _ (by omega), fa _ _ (by omega), f2 _ _ (by omega) (by omega) (by omega)]; exact hL'', L2, r4, by rw [hfC _ _ (by omega) (by omega)]; exact r3⟩, Or.inr ⟨by rw [fc _ _ (by omega), hIa, u2_s], w4, ?_⟩⟩
      obtain ⟨p1, p2, p3, p4, p5, p6, p7, p8⟩ := o3
      obtain ⟨v1, v2, v3, v4, v5, v6, v7⟩ := w3
      have hl80 := rcO_l (bf := W) (ln := lnM s'.1) (n := 2 * s'.1.length) (2 * s'.1.length) 0 (by omega)
      have ht80 := tr_80 (2 * s'.1.length) (by omega)
      have kc : ∀ (x : Int32) l, cLn I2 J2 (C' + 1) L2 x l → cLn I3 J2 (C' + 1) L2 x l := by
        intro x l hl
        cases l with
        | none => exact hl
        | some y =>
          obtain ⟨u, u1, u2', u3⟩ := hl
          refine ⟨u, u1, u2', ?_⟩
          unfold cnm at u3 ⊢
          rw [hfC _ _ (by omega) (by omega)]
          exact u3
      refine ⟨s'.1, s'.2, rcO W (lnM s'.1) (2 * s'.1.length) (2 * s'.1.length) 0, L2, p5, p4, by omega, cNm_fr p1 (hfC _ _ (by omega) (by omega)) (fun i => hfC _ _ (by omega) (by omega)) (fun _ => rfl), r4, p6, (hfC _ _ (by omega) (by omega)).trans p2, (hfC _ _ (by omega) (by omega)).trans p3, (hfC _ _ (by omega) (by omega)).trans o5.1, v1, v2, w6.1, fun i x hx => ?_, fun i l hl => ?_, fun i r hr => ?_⟩
      · obtain ⟨y1, y2, y3, y4, y5⟩ := p7 i x hx
        obtain ⟨_, _, y6, y7, y8⟩ := v6 i x hx
        refine ⟨y1, y2, (hfC _ _ (by omega) (by omega)).trans y3, (hfC _ _ (by omega) (by omega)).trans y4, y6, y7, ?_, y8⟩
        rw [hfC _ _ (by omega) (by omega)]
        exact kc _ _ y5
      · rw [hfC _ _ (by omega) (by omega)]
        exact ⟨kc _ _ (p8 i l hl), v7 i l hl⟩
      · obtain ⟨y1, y2⟩ := o5.2 i r hr
        obtain ⟨y3, y4⟩ := w6.2 i r hr
        exact ⟨(hfC _ _ (by omega) (by omega)).trans y1, (hfC _ _ (by omega) (by omega)).trans y2, y3, y4⟩
end ZTI
