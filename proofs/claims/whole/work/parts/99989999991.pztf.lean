/-! steps: system -/
section ZTF
variable {A : Nat → Nat} {d b n s0 Ls i c : Nat} {h : Nat → Option jC} {X : jXX} {I : Nat → Nat → Int32} {J : Nat → Nat → Int64} {R : Nat → Nat → Nat} {xs : Nat → Int32}
theorem okW_cg {M np B : Nat} {N N' : Nat → Nat → Int32} {W : aW Nm} (hM : M < 2 ^ 20) (hag : agN M N N') (h9 : ∀ i, N' 259 i = N 259 i) (hv : vN N M np) (h : okW N np B W) : okW N' np B W := by
  obtain ⟨h1, h2, h3⟩ := h
  refine ⟨h1, fun k a hk => ?_, h3⟩
  obtain ⟨p, p1, p2, p3, p4, p5⟩ := h2 k a hk
  obtain ⟨_, e2, e3, _⟩ := pr_cg hM hag h9 (hv.2.2.2 p p1)
  exact ⟨p, p1, p2, by rw [e2]; exact p3, by rw [e3]; exact p4, p5⟩
theorem st_2 (hs0 : s0 < b) (hs : h s0 = some (25, Ls, fun j => .int (xs j))) (hL : Ls ≤ 3072) (hi : i + 6 ≤ Ls) (hA : jAp0 A) (hc : c < 600) (hR : Rel c X I J R n) (hk : xs i &&& 31 = nI 2) : stp A d b s0 i h c X I J R n := by
  intro x5 x6 x7
  have hR' := hR
  obtain ⟨T, nn, nb, M, P, P', L, C, C', a1, a2, a3, a4, a5, a6, ⟨a70, a7⟩, a8, a9, a10⟩ := hR'
  have hw := isW_57
  have hq : isI 66 := by unfold isI; simp
  obtain ⟨hP, hP', hj⟩ := lkS_ok a6
  have hPe := isP_e hP
  have hPe' := isP_e hP'
  have hPP := a6.1
  have hCC := a9.1
  have R8 := a6.2.1
  have R9 := a6.2.2.1
  obtain ⟨L0, hL0⟩ := a6.2.2.2.2
  have tT := a1.1
  have hnb : nb ≤ 2 ^ 17 := by have := a4.2.2; omega
  obtain ⟨I1, J1, m, e169, hT1, z1, f1, fj1⟩ := c169 (A := A) (d := d + 1393) (b := b) (h := h) (X := X) (R := R) (n := n) hA a1 a3.1
  have hmT := hT1.2.1
  have hfin := hT1.2.2.1
  obtain ⟨t, ht⟩ : ∃ t, t = tpT I T := ⟨_, rfl⟩
  rw [← ht] at hT1 hfin
  obtain ⟨I2, J2, L2, v, e34, r1, r2, r3, r4, r5, r6, r7⟩ := cSys (A := A) (d := d + 1330) (b := b) (h := h) (X := X) (R := R) (n := n) hP' tT hT1 (cNm_fr hL0 (f1 _ _ (by omega) (by omega) (by omega)) (fun i => f1 _ _ (by omega) (by omega) (by omega)) (fun i => fj1 _ _ (by omega)))
  have f2 : ∀ c i, ¬ (3 ≤ c ∧ c ≤ 9) → c ≠ 56 → ¬ (P' ≤ c ∧ c ≤ P' + 22) → ¬ (c = 0 ∧ i = 1) → I2 c i = I c i := fun c i h1 h2 h3 h4 => by rw [r5 c i (by omega) h2 h3, f1 c i (by omega) (by omega) h4]
  have fj2 : ∀ c i, c ≠ 8 → c ≠ P' + 2 → J2 c i = J c i := fun c i h1 h2 => by rw [r6 c i h2, fj1 c i h1]
  obtain ⟨R2, hR2⟩ : ∃ R2, R2 = u2 (u2 R 56 1 P') 56 2 (P' + 4) := ⟨_, rfl⟩
  rw [← hR2] at e34
  have fR2 : ∀ c j, c ≠ 56 → R2 c j = R c j := fun c j hc => by rw [hR2, u2_k hc, u2_k hc]
  -- what the reference wants
  have PRE : ∀ I' : Nat → Nat → Int32, (∀ c i, 241 ≤ c → I' c i = I c i) → I' 241 13 = nI T ∧ (∀ i, i < T → (I' 248 i).toInt8.toInt32 = I' 248 i) ∧ rNm X I' nn nb ∧ I' 241 29 = nI M ∧ tpT I' T = t := by
    intro I' hI'
    refine ⟨(hI' _ _ (by omega)).trans a1.2.2.1, fun i hi => ?_, rNm_s a4.1 (fun c i c1 c2 => hI' _ _ (by omega)) (hI' _ _ (by omega)) (hI' _ _ (by omega)), (hI' _ _ (by omega)).trans a5.1, ?_⟩
    · rw [hI' _ _ (by omega)]; exact (a1.2.2.2 i (by omega)).2
    · rw [ht]; funext j; unfold tpT; rw [hI' _ _ (by omega), hI' _ _ (by omega)]
  rcases r7 with ⟨j, o1, o2⟩ | ⟨F, C0, o1, o2, o3⟩
  · -- it can't stand
    have hpos : tpos t T j ≤ T := tpos_N
    have e1 : jcall A jcode (d + 1401) 150 [.ref b] (jH h b X I J R n) = some (.inl (some (.int (mI 1 - nI (tpos t T j)))), (jH h b X I2 J2 R2 n)) := by
      have R9' : R 0 9 = P' := R9
      have hnl : ¬ nI (tpos t T j) < nI 0 := by rw [nI_ltI (by omega) (by omega)]; omega
      have e169' : jcall A jcode (d + 1400) 169 [.ref b] (jH h b X I J R n) = some (.inl none, (jH h b X I1 J1 R n)) := e169
      have e34' : jcall A jcode (d + 1400) 34 [.ref (b + 56), .ref (b + P')] (jH h b X I1 J1 R n) = some (.inl (some (.int v)), (jH h b X I2 J2 R2 n)) := e34
      rw [o2] at e34'
      simp (disch := omega) [je150, r150_0, r150_1, r150_4, r150_5, r150_8, r150_9, r150_12, r150_15, r150_16, r150_17, r150_20, r150_21, r150_22, r150_23, r150_24, r150_25, r150_28, r150_29, r150_30, r150_31, r150_34, r150_37, r150_38, r150_39, r150_42, r150_43, r150_44, r150_47, r150_48, r150_51, r150_52, r150_55, r150_58, r150_59, r150_62, r150_65, qa169, qo169, g0z, vf10_5, t0_5, vf10_9, t0_9, qa34, qo34, g56, vf10_8, t0_8, p0_8, ty10_8, p0_9, ty10_9, p0_10, ty10_10, vf10_6, t0_6, qa115, qo115, gW0 hw, gP0 hP, vf5_3, List.getElem?_cons_zero, List.getElem?_cons_succ, List.length_cons, List.length_nil, ag_nx, ag_dn, ag_no, ag_if, jbr1, jbr2, jc1, jc2, jnul, jld, jsto, jstoL, jst1, jst2, jkill, jinc, jbI, jbL, jbS, juI, jl2i, jcmp, jisR, jisI, jisL, jret, jretv, jfits, jdup, jdup2, jpop, jmm, jcat, Value.category, jinv, jrcv, jthr, jhd, jput, jget, jlen, jald, jast, jaast, jgI, jgL, jgB, jtab, jlku, jacp, vf20, vf21, vf22, vf23, vf24, u2_s, u2_k, u2_i, uc_s, uc_k, uc_c, u2_c, LI0, LI1, LI2, LI3, LI4, LI5, LI6, LI7, LI8, LI9, LI10, LI11, LI12, LI13, LI14, LI15, LI16, LI17, LI18, LI19, LI20, LI21, LI22, LI23, LI24, LI25, LI26, LI27, LI28, LI29, LI30, LI31, LI32, LI33, LI34, LI35, LI36, LI37, LI40, LI42, LI43, LI45, LI48, LI60, LI61, LI64, LI80, LI300, LI400, LI1000, LI2000, LI2001, LI2047, LI2048, LI100000, LI1000000, LI38, LI39, LI41, LI44, LI46, LI47, LI49, LI50, LI51, LI52, LI53, LI54, LI55, LI56, LI57, LI58, LI59, LI62, LI63, LI65, LI66, LI67, LI68, LI69, LI70, LI71, LI72, LI73, LI74, LI75, LI76, LI77, LI78, LI79, LI81, LI82, LI83, LI84, LI85, LI86, LI87, LI88, LI89, LI90, LI91, LI92, LI93, LI94, LI95, LI96, LI97, LI98, LI99, LI100, LI101, LI102, LI103, LI104, LI105, LI106, LI107, LI108, LI109, LI110, LI111, LI112, LI113, LI114, LI115, LI116, LI117, LI118, LI119, LI120, LI121, LI122, LI123, LI124, LI125, LI126, LI127, LI255, LI256, LI999, LI1001, LI1002, LI1600, LI4096, LI1000001, LI2042, LM, nI_clamp, nI_pos', nI_lt, nI_nlt, nI_le, nI_ge, nI_ne, nI_add, nI_sub, mI_lt, mI_le, mI_nlt, mI_nle, mI_ne, mI_ne', mI_nem, e169', R9', e34', hnl]
    obtain ⟨q1, q2, q3, q4, q5⟩ := PRE I2 (fun c i hc => f2 c i (by omega) (by omega) (by omega) (by omega))
    obtain ⟨X', I3, n', nn', nb', k1, k0, k2⟩ := r246 (A := A) (d := d + 101) (b := b) (h := h) (J := J2) (R := R2) (n := n) hA tT q1 q2 q3 a4.2.1 q4 a5.2.2 hnb a5.2.1 hmT (by rw [q5]; exact hfin)
    rw [q5] at k2
    rcases k2 with ⟨j', w1, w2, w3, w4, w5, w6, w7, w8⟩ | ⟨F', C1, ps, M', c2, c3, c4, w1, _⟩
    · have ej : j' = j := Sum.inl.inj (w1.symm.trans o1)
      subst ej
      refine ⟨_, _, _, _, _, _, _, _, (lwD_2 hs0 hs hL hi hk).trans (lw2_0 e1 w2), ?_⟩
      obtain ⟨g1, g2, g3, g4, g5, g6, g7, g8, g9⟩ := k1
      have f3 : ∀ c i, ¬ (c = 241 ∧ (i = 0 ∨ i = 2 ∨ i = 8 ∨ i = 9 ∨ (13 ≤ i ∧ i ≤ 18) ∨ i = 20 ∨ (29 ≤ i ∧ i ≤ 34))) → ¬ (243 ≤ c ∧ c ≤ 247) → c ≠ 249 → ¬ (251 ≤ c ∧ c ≤ 259) → ¬ (3 ≤ c ∧ c ≤ 9) → c ≠ 56 → ¬ (P' ≤ c ∧ c ≤ P' + 22) → ¬ (c = 0 ∧ i = 1) → I3 c i = I c i := fun c i h1 h2 h3 h4 h5 h6 h7 h8 => (g9 c i h1 h2 h3 h4).trans (f2 c i h5 h6 h7 h8)
      have er : ∀ u, u < nn → rnm I3 u = rnm I u := fun u hu => (g5 u hu).trans (rnm_e (fun c i c1 c2 => f2 c i (by omega) (by omega) (by omega) (by omega)))
      have ec : cnm I3 J2 (P + 1) = cnm I J (P + 1) := funext fun x => by unfold cnm; rw [f3 _ _ (by omega) (by omega) (by omega) (by omega) (by omega) (by omega) (by omega) (by omega), fj2 _ _ (by omega) (by omega)]
      have hM3 : zM X' I3 M := ⟨w3, a5.2.1, w4⟩
      refine ⟨0, nn', nb', M, P, P', L, C, C', ⟨by omega, ?_, g8, fun i hi => ?_⟩, zO_fr a2 (fun c i hc => f3 c i (by omega) (by omega) (by omega) (by omega) (by omega) (by omega) (by omega) (by omega)), zF_fr a3 (f3 _ _ (by omega) (by omega) (by omega) (by omega) (by omega) (by omega) (by omega) (by omega)) (fun i => fj2 _ _ (by omega) (by omega)) (by have := a3.2.2; unfold okS at this ⊢; rw [show R2 (132 + 8) = R (132 + 8) from funext fun i => fR2 _ _ (by omega)]; exact this), ⟨g1, g2, by have := a4.2.2; omega⟩, hM3, ⟨hPP, (fR2 _ _ (by omega)).trans R8, (fR2 _ _ (by omega)).trans R9, cNm_fr a6.2.2.2.1 (f3 _ _ (by omega) (by omega) (by omega) (by omega) (by omega) (by omega) (by omega) (by omega)) (fun i => f3 _ _ (by omega) (by omega) (by omega) (by omega) (by omega) (by omega) (by omega) (by omega)) (fun i => fj2 _ _ (by omega) (by omega)), L2, cNm_fr r1 (g9 _ _ (by omega) (by omega) (by omega) (by omega)) (fun i => g9 _ _ (by omega) (by omega) (by omega) (by omega)) (fun _ => rfl)⟩, ⟨by unfold okS at a70 ⊢; rw [show R2 (57 + 8) = R (57 + 8) from funext fun i => fR2 _ _ (by omega)]; exact a70, ?_⟩, zK_fr a8 (fun c i hc => f3 c i (by omega) (by omega) (by omega) (by omega) (by omega) (by omega) (by omega) (by omega)) g7, zC_fr a9 (fun c i hc => f3 c i (by omega) (by omega) (by omega) (by omega) (by omega) (by omega) (by omega) (by omega)) (fun i => fj2 _ _ (by omega) (by omega)) (fun i _ => fR2 _ _ (by omega)) g3 er, zR_gro a10 g6⟩
      · rw [g9 _ _ (by omega) (by omega) (by omega) (by omega), r5 _ _ (by omega) (by omega) (by omega)]; exact z1
      · rw [f3 1 i (by omega) (by omega) (by omega) (by omega) (by omega) (by omega) (by omega) (by omega), f3 248 i (by omega) (by omega) (by omega) (by omega) (by omega) (by omega) (by omega) (by omega)]
        exact a1.2.2.2 i hi
      · rw [ec]
        have hle := leP_f (C := cnm I J (P + 1)) (C' := cnm I J (P + 1)) (k := L) (k' := L) (Nat.le_refl _) (fun _ _ => rfl) g3 er
        have fw : ∀ c i, 57 ≤ c → c ≤ 130 → I3 c i = I c i := fun c i h1 h2 => f3 c i (by omega) (by omega) (by omega) (by omega) (by omega) (by omega) (by omega) (by omega)
        have fr : ∀ c i, (260 ≤ c ∧ c ≤ 281) ∨ (c = 241 ∧ 36 ≤ i ∧ i ≤ 68) → I3 c i = I c i := fun c i hc => f3 c i (by omega) (by omega) (by omega) (by omega) (by omega) (by omega) (by omega) (by omega)
        have i10 := f3 0 10 (by omega) (by omega) (by omega) (by omega) (by omega) (by omega) (by omega) (by omega)
        have i33 : I3 241 33 = I 241 33 := w7.trans (f2 _ _ (by omega) (by omega) (by omega) (by omega))
        have i34 : I3 241 34 = I 241 34 := w8.trans (f2 _ _ (by omega) (by omega) (by omega) (by omega))
        rcases a7 with ⟨s1, s2, s3, s4, s5⟩ | ⟨k, np, Lc, cap, B, D, N, O, G, E, W, b1, b2, b3, b4, b5, b6, b7, b8, b9, b10, b11, b12, b13, b14, b15, b16, b17⟩
        · have s4' := wC_fr57 (I' := I3) (R' := R2) s4 fw (fun i => fR2 _ _ (by omega))
          have s5' := wR_fr (I' := I3) s5 fr
          refine Or.inl ⟨i10.trans s1, i33.trans s2, i34.trans s3, s4', ?_⟩
          obtain ⟨x1, x2, x3, x4, x5⟩ := s5'
          refine ⟨⟨x1.1, x1.2.1, fun k a hka => by simp [eW] at hka⟩, x2, x3, fun hl => ?_, fun hl => by cases hl⟩
          obtain ⟨y1, y2, y3, y4, y5, y6, _, y8⟩ := x4 hl
          exact ⟨y1, y2, y3, y4, y5, y6, rfl, y8⟩
        · have b12' := wC_fr57 (I' := I3) (R' := R2) b12 fw (fun i => fR2 _ _ (by omega))
          have b13' := wR_fr (I' := I3) b13 fr
          obtain ⟨c12, c13⟩ := wCR_mo hle b12' b13'
          obtain ⟨cap', y1, y2, y3, y4⟩ := w4
          obtain ⟨N', hN'⟩ : ∃ N' : Nat → Nat → Int32, N' = fun c i => if c = 256 then N c i else I3 c i := ⟨_, rfl⟩
          have eN : ∀ c i, c ≠ 256 → N' c i = I3 c i := fun c i hc => by rw [hN']; exact if_neg hc
          have hag : agN M N N' := fun c i c1 c2 hl => by
            by_cases h256 : c = 256
            · subst h256; rw [hN']; exact if_pos rfl
            · rw [eN c i h256, w5 c i c1 c2 hl, f2 _ _ (by omega) (by omega) (by omega) (by omega), b10.1 c i c1 (by omega) h256]
          have h9 : ∀ i, N' 259 i = N 259 i := fun i => by rw [eN _ _ (by omega), w6, f2 _ _ (by omega) (by omega) (by omega) (by omega), b10.1 259 i (by omega) (by omega) (by omega)]
          have h34' : N' 241 34 = N 241 34 := by rw [eN _ _ (by omega), i34, b11, b9.2.1]
          obtain ⟨v1, v2⟩ := plan_cg hag h9 h34' b9 b8
          refine Or.inr ⟨k, np, Lc, cap', B, D, N', O, G, E, W, ?_⟩
          unfold zY
          rw [ec]
          refine ⟨i10.trans b1, i33.trans b2, (fR2 _ _ (by omega)).trans b3, b4, by omega, ⟨b6.1, vnm_fr b6.2 (fun c i hc => f3 c i (by omega) (by omega) (by omega) (by omega) (by omega) (by omega) (by omega) (by omega))⟩, (f3 _ _ (by omega) (by omega) (by omega) (by omega) (by omega) (by omega) (by omega) (by omega)).trans b7, plC_fr (fun c i h1 h2 => f3 c i (by omega) (by omega) (by omega) (by omega) (by omega) (by omega) (by omega) (by omega)) (plC_mo (leP_f (Nat.le_refl _) (fun _ _ => rfl) g3 er) v2), v1, ⟨fun c i c1 c2 h256 => (eN c i h256).symm, y1, by have := a5.2.1; omega⟩, i34.trans b11, c12, c13, okW_cg b9.2.2.1 hag h9 b9 b14, b15, by omega, by omega⟩
    · rw [o1] at w1; cases w1
  · -- it is a system
    have hF6 : F.length ≤ 6 := o3.2.1.1
    obtain ⟨Ia, hIa⟩ : ∃ Ia, Ia = u2 I2 0 10 (nI 1) := ⟨_, rfl⟩
    obtain ⟨R3, hR3⟩ : ∃ R3, R3 = u2 (u2 R2 0 8 P') 0 9 P := ⟨_, rfl⟩
    have fa : ∀ c i, ¬ (c = 0 ∧ i = 10) → Ia c i = I2 c i := fun c i hc => by rw [hIa]; exact u2_o _ _ hc
    have fR3 : ∀ c j, c ≠ 56 → ¬ (c = 0 ∧ (j = 8 ∨ j = 9)) → R3 c j = R c j := fun c j h1 h2 => by rw [hR3]; unfold u2; rw [if_neg (by omega), if_neg (by omega)]; exact fR2 c j h1
    have g0 : ∀ c i, 241 ≤ c → Ia c i = I c i := fun c i hc => by rw [fa _ _ (by omega), f2 c i (by omega) (by omega) (by omega) (by omega)]
    obtain ⟨q1, q2, q3, q4, q5⟩ := PRE Ia g0
    obtain ⟨Xh, Ih, nh, nnh, nbh, k1, k0, k2⟩ := r246 (A := A) (d := d + 101) (b := b) (h := h) (J := J2) (R := R3) (n := n) hA tT q1 q2 q3 a4.2.1 q4 a5.2.2 hnb a5.2.1 hmT (by rw [q5]; exact hfin)
    rw [q5] at k2
    rcases k2 with ⟨j', w1, _⟩ | ⟨F', C1, psh, Mh, c2, c3, c4, w1, w2, w3, w4, w5, w6, w7, w8, w9, w10, w11⟩
    · rw [o1] at w1; cases w1
    have eFC := Sum.inr.inj (w1.symm.trans o1)
    have eF : F' = F := congrArg Prod.fst eFC
    subst eF
    have hinj : ∀ {X' : jXX} {I' : Nat → Nat → Int32} {nn' nb' : Nat}, rNm X' I' nn' nb' → (∀ w w', w < nn' → w' < nn' → rnm I' w = rnm I' w' → w = w') ∧ nn' ≤ 2 ^ 20 := fun hm => ⟨hm.2.2.2.2.2.2.2.2.2.2.2.2.1, by obtain ⟨_, _, x3, _, _, _, _, _, x9, _⟩ := hm; omega⟩
    obtain ⟨plh, vnh⟩ := sys_pl (Ic := Ia) (Jc := J2) tT hmT hfin (by omega) r1 r4 o3 (fun c i h1 h2 h3 => fa _ _ (by omega)) (fun _ => rfl) (hinj k1.1).1 (hinj k1.1).2 w5 w6 w7 w8 w11
    have hS3 : okS R3 57 := by unfold okS at a70 ⊢; rw [show R3 (57 + 8) = R (57 + 8) from funext fun i => fR3 _ _ (by omega) (by omega)]; exact a70
    have r1a := r1.1
    obtain ⟨I4, e115, y1, y2, y3, _⟩ := c115 (A := A) (d := d + 1397) (b := b) (h := h) (X := X) (J := J2) (R := R3) (n := n) (k := L2) (m := L2) hP' vnh plh ((fa _ _ (by omega)).trans r1.1) (by omega) (Nat.le_refl _) ((fa _ _ (by omega)).trans r3) hS3
    obtain ⟨R4, hR4⟩ : ∃ R4, R4 = u2 R3 57 0 P' := ⟨_, rfl⟩
    rw [← hR4] at e115 y1
    have fR4 : ∀ c j, c ≠ 56 → ¬ (c = 57 ∧ j = 0) → ¬ (c = 0 ∧ (j = 8 ∨ j = 9)) → R4 c j = R c j := fun c j h1 h2 h3 => by rw [hR4]; unfold u2; rw [if_neg h2]; exact fR3 c j h1 h3
    have e1 : jcall A jcode (d + 1401) 150 [.ref b] (jH h b X I J R n) = some (.inl (some (.int (nI F'.length))), (jH h b X I4 J2 R4 n)) := by
      have R9' : R 0 9 = P' := R9
      have e169' : jcall A jcode (d + 1400) 169 [.ref b] (jH h b X I J R n) = some (.inl none, (jH h b X I1 J1 R n)) := e169
      have e34' : jcall A jcode (d + 1400) 34 [.ref (b + 56), .ref (b + P')] (jH h b X I1 J1 R n) = some (.inl (some (.int v)), (jH h b X I2 J2 R2 n)) := e34
      rw [o2] at e34'
      have m0 : mI 1 < nI 0 := by decide
      have R28 : R2 0 8 = P := (fR2 _ _ (by omega)).trans R8
      have R29 : R2 0 9 = P' := (fR2 _ _ (by omega)).trans R9
      have p3' : I4 P' 3 = nI F'.length := by rw [y2 _ _ (by omega) (by omega), fa _ _ (by omega)]; exact o3.2.2.2.1
      have R48 : R4 0 8 = P' := by rw [hR4, u2_k (by omega), hR3, u2_i (by omega), u2_s]
      have e115' : jcall A jcode (d + 1400) 115 [.ref (b + 57), .ref (b + P')] (jH h b X (u2 I2 0 10 (nI 1)) J2 (u2 (u2 R2 0 8 P') 0 9 P) n) = some (.inl none, (jH h b X I4 J2 R4 n)) := by rw [← hIa, ← hR3]; exact e115
      have hN := isP_N hP'
      have hP := hP'
      simp (disch := omega) [je150, r150_0, r150_1, r150_4, r150_5, r150_8, r150_9, r150_12, r150_15, r150_16, r150_17, r150_20, r150_21, r150_22, r150_23, r150_24, r150_25, r150_28, r150_29, r150_30, r150_31, r150_34, r150_37, r150_38, r150_39, r150_42, r150_43, r150_44, r150_47, r150_48, r150_51, r150_52, r150_55, r150_58, r150_59, r150_62, r150_65, qa169, qo169, g0z, vf10_5, t0_5, vf10_9, t0_9, qa34, qo34, g56, vf10_8, t0_8, p0_8, ty10_8, p0_9, ty10_9, p0_10, ty10_10, vf10_6, t0_6, qa115, qo115, gW0 hw, gP0 hP, vf5_3, List.getElem?_cons_zero, List.getElem?_cons_succ, List.length_cons, List.length_nil, ag_nx, ag_dn, ag_no, ag_if, jbr1, jbr2, jc1, jc2, jnul, jld, jsto, jstoL, jst1, jst2, jkill, jinc, jbI, jbL, jbS, juI, jl2i, jcmp, jisR, jisI, jisL, jret, jretv, jfits, jdup, jdup2, jpop, jmm, jcat, Value.category, jinv, jrcv, jthr, jhd, jput, jget, jlen, jald, jast, jaast, jgI, jgL, jgB, jtab, jlku, jacp, vf20, vf21, vf22, vf23, vf24, u2_s, u2_k, u2_i, uc_s, uc_k, uc_c, u2_c, LI0, LI1, LI2, LI3, LI4, LI5, LI6, LI7, LI8, LI9, LI10, LI11, LI12, LI13, LI14, LI15, LI16, LI17, LI18, LI19, LI20, LI21, LI22, LI23, LI24, LI25, LI26, LI27, LI28, LI29, LI30, LI31, LI32, LI33, LI34, LI35, LI36, LI37, LI40, LI42, LI43, LI45, LI48, LI60, LI61, LI64, LI80, LI300, LI400, LI1000, LI2000, LI2001, LI2047, LI2048, LI100000, LI1000000, LI38, LI39, LI41, LI44, LI46, LI47, LI49, LI50, LI51, LI52, LI53, LI54, LI55, LI56, LI57, LI58, LI59, LI62, LI63, LI65, LI66, LI67, LI68, LI69, LI70, LI71, LI72, LI73, LI74, LI75, LI76, LI77, LI78, LI79, LI81, LI82, LI83, LI84, LI85, LI86, LI87, LI88, LI89, LI90, LI91, LI92, LI93, LI94, LI95, LI96, LI97, LI98, LI99, LI100, LI101, LI102, LI103, LI104, LI105, LI106, LI107, LI108, LI109, LI110, LI111, LI112, LI113, LI114, LI115, LI116, LI117, LI118, LI119, LI120, LI121, LI122, LI123, LI124, LI125, LI126, LI127, LI255, LI256, LI999, LI1001, LI1002, LI1600, LI4096, LI1000001, LI2042, LM, nI_clamp, nI_pos', nI_lt, nI_nlt, nI_le, nI_ge, nI_ne, nI_add, nI_sub, mI_lt, mI_le, mI_nlt, mI_nle, mI_ne, mI_ne', mI_nem, e169', R9', e34', m0, R28, R29, e115', R48, p3']
    have g4 : ∀ c i, 241 ≤ c → I4 c i = I c i := fun c i hc => by rw [y2 c i (by omega) (by omega), g0 c i hc]
    obtain ⟨q1, q2, q3, q4, q5⟩ := PRE I4 g4
    obtain ⟨X', I5, n', nn', nb', x1, x0, x2⟩ := r246 (A := A) (d := d + 101) (b := b) (h := h) (J := J2) (R := R4) (n := n) hA tT q1 q2 q3 a4.2.1 q4 a5.2.2 hnb a5.2.1 hmT (by rw [q5]; exact hfin)
    rw [q5] at x2
    rcases x2 with ⟨j', p1, _⟩ | ⟨F2, C2, ps, M', c2', c3', c4', p1, p2, p3, p4, p5, p6, p7, p8, p9, p10, p11⟩
    · rw [o1] at p1; cases p1
    have eFC2 := Sum.inr.inj (p1.symm.trans o1)
    have eF2 : F2 = F' := congrArg Prod.fst eFC2
    subst eF2
    obtain ⟨g1, g2, g3, g4', g5, g6, g7, g8, g9⟩ := x1
    have p4' := p4
    obtain ⟨cap, cp1, cp2, cp3, cp4⟩ := p4'
    have hplR : plR X' I5 I5 cap := ⟨fun _ _ _ _ _ => rfl, cp1, by omega⟩
    have f5c : ∀ c i, c ≤ 240 → I5 c i = I4 c i := fun c i hc => g9 c i (by omega) (by omega) (by omega) (by omega)
    obtain ⟨pl5, vn5⟩ := sys_pl (Ic := I5) (Jc := J2) tT hmT hfin (by omega) r1 r4 o3 (fun c i h1 h2 h3 => by rw [f5c _ _ (by omega), y2 _ _ (by omega) (by omega), fa _ _ (by omega)]) (fun _ => rfl) (hinj g1).1 (hinj g1).2 p5 p6 p7 p8 p11
    have h66 : I5 241 66 = nI 0 := by rw [g9 _ _ (by omega) (by omega) (by omega) (by omega), g4 _ _ (by omega)]; exact a3.2.1
    obtain ⟨I6, e227, y5, y6⟩ := r227 (A := A) (d := d + 1397) (b := b) (h := h) (X := X') (J := J2) (R := R4) (n := n') (rN := rNf (rnm I5) nn') (I := I5) (vN_mo cp2 (by omega) vn5) p8 hplR h66
    have e2 : jcall A jcode (d + 1401) 246 [.ref (b + 241)] (jH h b X I4 J2 R4 n) = some (.inl (some (.int (nI F2.length))), (jH h b X' I6 J2 R4 n')) := by
      have p2' : jcall A jcode (d + 1401) 246 [.ref (b + 241)] (jH h b X I4 J2 R4 n) = M246 A (d + 1400) 133 [some (.ref (b + 241)), some (.int (nI M)), some (.int c2'), some (.int c3'), some (.int c4')] [] (jH h b X' I5 J2 R4 n') := p2
      have i34 : I6 241 34 = nI F2.length := (y6.2.1 34 (by omega)).trans p8
      rw [p2']
      simp (disch := omega) [r246_133, r246_134, r246_137, r246_138, r246_141, g241, p241_0, ty12_0, qa245, qo245, vf12_29, qa204, qo204, qa208, qo208, qa214, qo214, p241_29, ty12_29, vf12_2, vf12_14, qa249, qo249, p241_34, ty12_34, vf12_35, t241_35, g259, p259, vf12_34, vf12_25, t241_25, g255, p255, p241_33, ty12_33, qa227, qo227, List.getElem?_cons_zero, List.getElem?_cons_succ, List.length_cons, List.length_nil, ag_nx, ag_dn, ag_no, ag_if, jbr1, jbr2, jc1, jc2, jnul, jld, jsto, jstoL, jst1, jst2, jkill, jinc, jbI, jbL, jbS, juI, jl2i, jcmp, jisR, jisI, jisL, jret, jretv, jfits, jdup, jdup2, jpop, jmm, jcat, Value.category, jinv, jrcv, jthr, jhd, jput, jget, jlen, jald, jast, jaast, jgI, jgL, jgB, jtab, jlku, jacp, vf20, vf21, vf22, vf23, vf24, u2_s, u2_k, u2_i, uc_s, uc_k, uc_c, u2_c, LI0, LI1, LI2, LI3, LI4, LI5, LI6, LI7, LI8, LI9, LI10, LI11, LI12, LI13, LI14, LI15, LI16, LI17, LI18, LI19, LI20, LI21, LI22, LI23, LI24, LI25, LI26, LI27, LI28, LI29, LI30, LI31, LI32, LI33, LI34, LI35, LI36, LI37, LI40, LI42, LI43, LI45, LI48, LI60, LI61, LI64, LI80, LI300, LI400, LI1000, LI2000, LI2001, LI2047, LI2048, LI100000, LI1000000, LI38, LI39, LI41, LI44, LI46, LI47, LI49, LI50, LI51, LI52, LI53, LI54, LI55, LI56, LI57, LI58, LI59, LI62, LI63, LI65, LI66, LI67, LI68, LI69, LI70, LI71, LI72, LI73, LI74, LI75, LI76, LI77, LI78, LI79, LI81, LI82, LI83, LI84, LI85, LI86, LI87, LI88, LI89, LI90, LI91, LI92, LI93, LI94, LI95, LI96, LI97, LI98, LI99, LI100, LI101, LI102, LI103, LI104, LI105, LI106, LI107, LI108, LI109, LI110, LI111, LI112, LI113, LI114, LI115, LI116, LI117, LI118, LI119, LI120, LI121, LI122, LI123, LI124, LI125, LI126, LI127, LI255, LI256, LI999, LI1001, LI1002, LI1600, LI4096, LI1000001, LI2042, LM, nI_clamp, nI_pos', nI_lt, nI_nlt, nI_le, nI_ge, nI_ne, nI_add, nI_sub, mI_lt, mI_le, mI_nlt, mI_nle, mI_ne, mI_ne', mI_nem, e227, i34]
    refine ⟨_, _, _, _, _, _, _, _, (lwD_2 hs0 hs hL hi hk).trans (lw2_0 e1 e2), ?_⟩
    -- what holds then
    have f6 : ∀ c i, ¬ (c = 241 ∧ (i = 0 ∨ i = 2 ∨ i = 8 ∨ i = 9 ∨ (13 ≤ i ∧ i ≤ 18) ∨ i = 20 ∨ (29 ≤ i ∧ i ≤ 34) ∨ (36 ≤ i ∧ i ≤ 74))) → ¬ (243 ≤ c ∧ c ≤ 247) → c ≠ 249 → ¬ (251 ≤ c ∧ c ≤ 281) → ¬ (3 ≤ c ∧ c ≤ 9) → c ≠ 56 → ¬ (P' ≤ c ∧ c ≤ P' + 22) → ¬ (c = 0 ∧ (i = 1 ∨ i = 10)) → ¬ (57 ≤ c ∧ c ≤ 130) → I6 c i = I c i := fun c i h1 h2 h3 h4 h5 h6 h7 h8 h9 => by
      have e5 : I5 c i = I c i := by
        rw [g9 c i (by omega) h2 h3 (by omega), y2 c i (by omega) (by omega), fa c i (by omega), f2 c i h5 h6 h7 (by omega)]
      by_cases e : c = 241
      · subst e; rw [y6.2.1 i (by omega), e5]
      · rw [y6.1 c i (by omega), e5]
    have f65 : ∀ c i, c ≤ 240 ∨ (241 < c ∧ c < 260) → I6 c i = I5 c i := fun c i hc => y6.1 c i (by omega)
    have fp : ∀ c i, P' ≤ c → c ≤ P' + 22 → c ≠ P' + 1 → I6 c i = I2 c i := fun c i h1 h2 h3 => by rw [f65 _ _ (by omega), f5c _ _ (by omega), y2 _ _ (by omega) (by omega), fa _ _ (by omega)]
    have er5 : rnm I6 = rnm I5 := funext fun u => rnm_e (fun c i c1 c2 => f65 c i (by omega))
    have er : ∀ u, u < nn → rnm I6 u = rnm I u := fun u hu => by rw [er5, g5 u hu]; exact rnm_e (fun c i c1 c2 => g4 c i (by omega))
    have ec6 : cnm I6 J2 (P' + 1) = cnm Ia J2 (P' + 1) := funext fun x => by unfold cnm; rw [fp _ _ (by omega) (by omega) (by omega), fa _ _ (by omega)]
    have ec5 : cnm I6 J2 (P' + 1) = cnm I5 J2 (P' + 1) := funext fun x => by unfold cnm; rw [f65 _ _ (by omega)]
    have hbeg : aBegin (rNf (rnm Ih) nnh) Ih F2.length = aBegin (rNf (rnm I5) nn') I5 F2.length := by
      rw [← ec5, ec6] at pl5
      exact aBeg_pl plh pl5 (fun c i h1 h2 => by rw [f5c _ _ (by omega), y2 _ _ (by omega) (by omega)])
    obtain ⟨k3, k4⟩ := ok_begin (rN := rNf (rnm I5) nn') (D := 0) (vN_mo cp2 (by omega) vn5)
    have w57 : wC (cNf (cnm I6 J2 (P' + 1)) L2) I6 R4 57 (aBegin (rNf (rnm I5) nn') I5 F2.length) := by
      rw [ec6, ← hbeg]
      exact wC_fr57 y1 (fun c i h1 h2 => by rw [f65 _ _ (by omega), f5c _ _ (by omega)]) (fun _ => rfl)
    have c0 : cNm I6 J2 (P' + 1) L2 := by
      refine ⟨?_, r1.2.1, fun x y hx hy => ?_⟩
      · rw [f65 _ _ (by omega), f5c _ _ (by omega)]; exact y3
      · rw [ec6, show cnm Ia J2 (P' + 1) = cnm I2 J2 (P' + 1) from funext fun x => by unfold cnm; rw [fa _ _ (by omega)]]
        exact r1.2.2 x y hx hy
    refine ⟨0, nn', nb', M', P', P, L2, C, C', ⟨by omega, ?_, ?_, fun i hi => ?_⟩, zO_fr a2 (fun c i hc => f6 c i (by omega) (by omega) (by omega) (by omega) (by omega) (by omega) (by omega) (by omega) (by omega)), ⟨fun i hi => by rw [fj2 _ _ (by omega) (by omega)]; exact a3.1 i hi, by rw [y6.2.2]; exact h66, by have := a3.2.2; unfold okS at this ⊢; rw [show R4 (132 + 8) = R (132 + 8) from funext fun i => fR4 _ _ (by omega) (by omega) (by omega)]; exact this⟩, ⟨rNm_s g1 (fun c i c1 c2 => f65 c i (by omega)) (y6.2.1 _ (by omega)) (y6.2.1 _ (by omega)), g2, by have := a4.2.2; omega⟩, ⟨(y6.2.1 _ (by omega)).trans p3, p5, p4⟩, ⟨by omega, by rw [hR4, u2_k (by omega), hR3, u2_i (by omega), u2_s], by rw [hR4, u2_k (by omega), hR3, u2_s], c0, L, cNm_fr a6.2.2.2.1 (f6 _ _ (by omega) (by omega) (by omega) (by omega) (by omega) (by omega) (by omega) (by omega) (by omega)) (fun i => f6 _ _ (by omega) (by omega) (by omega) (by omega) (by omega) (by omega) (by omega) (by omega) (by omega)) (fun i => fj2 _ _ (by omega) (by omega))⟩, ⟨w57.1.1, Or.inr ⟨L2, F2.length, C0.length, cap, 0, 0, I5, I6 (P' + 5), I6 (P' + 6), I6 (P' + 7), aBegin (rNf (rnm I5) nn') I5 F2.length, ?_⟩⟩, zK_fr a8 (fun c i hc => f6 c i (by omega) (by omega) (by omega) (by omega) (by omega) (by omega) (by omega) (by omega) (by omega)) g7, zC_fr a9 (fun c i hc => f6 c i (by omega) (by omega) (by omega) (by omega) (by omega) (by omega) (by omega) (by omega) (by omega)) (fun i => fj2 _ _ (by omega) (by omega)) (fun i _ => fR4 _ _ (by omega) (by omega) (by omega)) g3 er, zR_gro a10 g6⟩
    · rw [f65 _ _ (by omega), f5c _ _ (by omega), y2 _ _ (by omega) (by omega), fa _ _ (by omega), r5 _ _ (by omega) (by omega) (by omega)]; exact z1
    · rw [y6.2.1 _ (by omega)]; exact g8
    · rw [f6 1 i (by omega) (by omega) (by omega) (by omega) (by omega) (by omega) (by omega) (by omega) (by omega), f6 248 i (by omega) (by omega) (by omega) (by omega) (by omega) (by omega) (by omega) (by omega) (by omega)]
      exact a1.2.2.2 i hi
    · unfold zY
      rw [er5]
      have i10 : I6 0 10 = nI 1 := by rw [f65 _ _ (by omega), f5c _ _ (by omega), y2 _ _ (by omega) (by omega), hIa, u2_s]
      refine ⟨i10, (y6.2.1 _ (by omega)).trans p9, by rw [hR4, u2_s], Nat.le_refl _, by omega, ⟨by omega, sys_vn r4 o3 fp⟩, (fp _ _ (by omega) (by omega) (by omega)).trans r3, ?_, vn5, ⟨fun c i c1 c2 _ => f65 c i (by omega), cp1, by omega⟩, (y6.2.1 34 (by omega)).trans p8, w57, y5, k3, ⟨k4, qq_begin⟩, by omega, by omega⟩
      obtain ⟨pl6, _⟩ := sys_pl (Ic := I6) (Jc := J2) tT hmT hfin (by omega) r1 r4 o3 fp (fun _ => rfl) (hinj g1).1 (hinj g1).2 p5 p6 p7 p8 p11
      exact pl6
end ZTF
