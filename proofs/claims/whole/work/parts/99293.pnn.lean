/-! the reference names a text -/
theorem nI_b8 : ∀ c, c < 128 → (nI c).toInt8.toInt32 = nI c := by decide +kernel
theorem al_b8 {x : Int32} (h : isLet x = true ∨ isDig x = true) : x.toInt8.toInt32 = x := by
  obtain ⟨c, _, h2, e⟩ := al_e h
  rw [e]
  exact nI_b8 c h2
def nmI (I : Nat → Nat → Int32) (nn nb z s : Nat) : Nat → Nat → Int32 := u2 (u2 (u2 (u2 (u2 (u2 I 244 nn (nI nb)) 245 nn (nI z)) 246 nn (I 247 s)) 247 s (nI nn)) 241 9 (nI (nb + z))) 241 8 (nI (nn + 1))
theorem rNm_add {X : jXX} {I I3 : Nat → Nat → Int32} {nn nb z : Nat} {f : Nat → Int32} (hN : rNm X I nn nb) (h4 : nn < cp X 244) (h3 : nb + z ≤ cp X 243) (hz0 : 0 < z) (hz : z ≤ 12) (hb2 : nb + 12 < 2 ^ 19) (hal : alB f z) (hno : ∀ u, u < nn → ¬ eqN I f z u) (ho : ∀ v i, ¬ (v = 243 ∧ nb ≤ i ∧ i < nb + z) → I3 v i = I v i) (hf : ∀ j, j < z → I3 243 (nb + j) = f j) :
    rNm X (nmI I3 nn nb z (slN (hsh f z))) (nn + 1) (nb + z) ∧ rnm (nmI I3 nn nb z (slN (hsh f z))) nn = (hdF f z, tlF f z) ∧ ∀ u, u < nn → rnm (nmI I3 nn nb z (slN (hsh f z))) u = rnm I u := by
  obtain ⟨a1, a2, a3, a4, a5, a6, a7, a8, a9, a10, a11, a12, a13, a14, a15, a16⟩ := hN
  obtain ⟨_, hsl⟩ := slX_e (hsh f z)
  obtain ⟨s, hs⟩ : ∃ s, s = slN (hsh f z) := ⟨_, rfl⟩
  rw [← hs] at hsl ⊢
  obtain ⟨I4, hI4⟩ : ∃ I4, I4 = nmI I3 nn nb z s := ⟨_, rfl⟩
  rw [← hI4]
  have x8 : I4 241 8 = nI (nn + 1) := by rw [hI4]; unfold nmI; rw [u2_s]
  have x9 : I4 241 9 = nI (nb + z) := by rw [hI4]; unfold nmI; rw [u2_i (by omega), u2_s]
  have x7s : I4 247 s = nI nn := by rw [hI4]; unfold nmI; rw [u2_k (by omega), u2_k (by omega), u2_s]
  have x7 : ∀ i, i ≠ s → I4 247 i = I 247 i := fun i hi => by rw [hI4]; unfold nmI; rw [u2_k (by omega), u2_k (by omega), u2_i hi, u2_k (by omega), u2_k (by omega), u2_k (by omega)]; exact ho 247 i (by omega)
  have x6n : I4 246 nn = I 247 s := by rw [hI4]; unfold nmI; rw [u2_k (by omega), u2_k (by omega), u2_k (by omega), u2_s]; exact ho 247 s (by omega)
  have x6 : ∀ i, i ≠ nn → I4 246 i = I 246 i := fun i hi => by rw [hI4]; unfold nmI; rw [u2_k (by omega), u2_k (by omega), u2_k (by omega), u2_i hi, u2_k (by omega), u2_k (by omega)]; exact ho 246 i (by omega)
  have x5n : I4 245 nn = nI z := by rw [hI4]; unfold nmI; rw [u2_k (by omega), u2_k (by omega), u2_k (by omega), u2_k (by omega), u2_s]
  have x5 : ∀ i, i ≠ nn → I4 245 i = I 245 i := fun i hi => by rw [hI4]; unfold nmI; rw [u2_k (by omega), u2_k (by omega), u2_k (by omega), u2_k (by omega), u2_i hi, u2_k (by omega)]; exact ho 245 i (by omega)
  have x4n : I4 244 nn = nI nb := by rw [hI4]; unfold nmI; rw [u2_k (by omega), u2_k (by omega), u2_k (by omega), u2_k (by omega), u2_k (by omega), u2_s]
  have x4 : ∀ i, i ≠ nn → I4 244 i = I 244 i := fun i hi => by rw [hI4]; unfold nmI; rw [u2_k (by omega), u2_k (by omega), u2_k (by omega), u2_k (by omega), u2_k (by omega), u2_i hi]; exact ho 244 i (by omega)
  have x3 : ∀ i, I4 243 i = I3 243 i := fun i => by rw [hI4]; unfold nmI; rw [u2_k (by omega), u2_k (by omega), u2_k (by omega), u2_k (by omega), u2_k (by omega), u2_k (by omega)]
  have x3l : ∀ i, i < nb → I4 243 i = I 243 i := fun i hi => by rw [x3]; exact ho 243 i (by omega)
  have hold : ∀ u, u < nn → rnm I4 u = rnm I u ∧ rsl I4 u = rsl I u := fun u hu => by
    have := rnm_fr (a12 u hu) (x4 u (by omega)) (x5 u (by omega)) x3l
    exact ⟨this.1, this.2.1⟩
  have zn : rz I4 nn = z := by unfold rz; rw [x5n]; exact nI_clamp (by omega)
  have ixn : ix (I4 244 nn) = nb := by rw [x4n]; exact nI_clamp (by omega)
  have bn : ∀ k, k < z → rb I4 nn k = f k := fun k hk => by
    unfold rb
    rw [ixn, x3]
    exact hf k hk
  have hc := hdF_congr z bn
  have rn : rnm I4 nn = (hdF f z, tlF f z) := by unfold rnm; rw [zn, hc.1, hc.2]
  have rs : rsl I4 nn = s := by unfold rsl; rw [zn, hsh_congr z bn, hs]
  have hnew : ∀ u, u < nn → ¬ rnm I4 u = rnm I4 nn := fun u hu e => by
    rw [(hold u hu).1, rn] at e
    obtain ⟨g1, g2, g3, g4, g5, g6, g7⟩ := rn1_e (a12 u hu)
    have e1 : hdF (rb I u) (rz I u) = hdF f z := congrArg Prod.fst e
    have e2 : tlF (rb I u) (rz I u) = tlF f z := congrArg Prod.snd e
    obtain ⟨k1, k2⟩ := pk_inj g2 hz g7 hal e1 e2
    exact hno u hu ⟨k1, fun j hj => k2 j (by omega)⟩
  refine ⟨⟨x8, x9, by omega, a4, a5, h3, a7, a8, a9, a10, by omega, fun w hw => ?_, fun w w' hw hw' e => ?_, fun t ht => ?_, fun w hw => ?_, fun i hi => ?_⟩, rn, fun u hu => (hold u hu).1⟩
  · by_cases e : w = nn
    · subst e
      exact ⟨nb, z, x4n, x5n, hz0, hz, by omega, by omega, fun i hi => by
        show isLet (I4 243 (nb + i)) = true ∨ isDig (I4 243 (nb + i)) = true
        rw [x3, hf i hi]
        exact hal i hi⟩
    · exact rn1_fr (a12 w (by omega)) (by omega) (by omega) (x4 w e) (x5 w e) x3l
  · by_cases e1 : w = nn
    · by_cases e2 : w' = nn
      · omega
      · subst e1
        exact absurd e.symm (hnew w' (by omega))
    · by_cases e2 : w' = nn
      · subst e2
        exact absurd e (hnew w (by omega))
      · rw [(hold w (by omega)).1, (hold w' (by omega)).1] at e
        exact a13 w w' (by omega) (by omega) e
  · by_cases e1 : t = s
    · subst e1
      exact Or.inr ⟨nn, by omega, x7s, rs, fun w' h1 h2 => absurd h1 (by omega)⟩
    · rcases a14 t ht with ⟨g1, g2⟩ | ⟨w, g1, g2, g3, g4⟩
      · refine Or.inl ⟨by rw [x7 t e1]; exact g1, fun w hw => ?_⟩
        by_cases e2 : w = nn
        · rw [e2, rs]; exact fun z => e1 z.symm
        · rw [(hold w (by omega)).2]; exact g2 w (by omega)
      · refine Or.inr ⟨w, by omega, by rw [x7 t e1]; exact g2, by rw [(hold w g1).2]; exact g3, fun w' h1 h2 => ?_⟩
        by_cases e2 : w' = nn
        · rw [e2, rs]; exact fun z => e1 z.symm
        · rw [(hold w' (by omega)).2]; exact g4 w' h1 (by omega)
  · by_cases e1 : w = nn
    · subst e1
      rcases a14 s hsl with ⟨g1, g2⟩ | ⟨w', g1, g2, g3, g4⟩
      · refine Or.inl ⟨by rw [x6n]; exact g1, fun w' h1 => ?_⟩
        rw [(hold w' h1).2, rs]
        exact g2 w' h1
      · refine Or.inr ⟨w', g1, by rw [x6n]; exact g2, by rw [(hold w' g1).2, rs]; exact g3, fun u h1 h2 => ?_⟩
        rw [(hold u h2).2, rs]
        exact g4 u h1 h2
    · rcases a15 w (by omega) with ⟨g1, g2⟩ | ⟨w', g1, g2, g3, g4⟩
      · refine Or.inl ⟨by rw [x6 w e1]; exact g1, fun w' h1 => ?_⟩
        rw [(hold w' (by omega)).2, (hold w (by omega)).2]
        exact g2 w' h1
      · refine Or.inr ⟨w', g1, by rw [x6 w e1]; exact g2, by rw [(hold w' (by omega)).2, (hold w (by omega)).2]; exact g3, fun u h1 h2 => ?_⟩
        rw [(hold u (by omega)).2, (hold w (by omega)).2]
        exact g4 u h1 h2
  · rw [x3]
    by_cases hin : nb ≤ i ∧ i < nb + z
    · have := hf (i - nb) (by omega)
      rw [show nb + (i - nb) = i by omega] at this
      rw [this]
      exact al_b8 (hal _ (by omega))
    · rw [ho 243 i (by omega)]
      exact a16 i hi
section RNA2
variable {A : Nat → Nat} {d b n : Nat} {h : Nat → Option jC} {X : jXX} {I : Nat → Nat → Int32} {J : Nat → Nat → Int64} {R : Nat → Nat → Nat} {nn nb q z : Nat}
theorem rName (hN : rNm X I nn nb) (hb2 : nb + 12 < 2 ^ 19) (hq : q + z ≤ 2000) (hz0 : 0 < z) (hz : z ≤ 12) (hal : alB (fr (I 249) q) z) : ∃ X' I' n' w nn' nb', jcall A jcode (d + 2) 180 [.ref (b + 241), .ref (b + 249), .int (nI q), .int (nI z)] (jH h b X I J R n) = some (.inl (some (.int (nI w))), jH h b X' I' J R n') ∧ rNm X' I' nn' nb' ∧ w < nn' ∧ rnm I' w = (hdF (fr (I 249) q) z, tlF (fr (I 249) q) z) ∧ nn ≤ nn' ∧ nb ≤ nb' ∧ nb' ≤ nb + z ∧ (∀ u, u < nn → rnm I' u = rnm I u) ∧ fN I I' ∧ fX X X' ∧ gro X n X' n' ∧ (cpT X nn nb → cpT X' nn' nb') := by
  have hnn := hN.2.2.2.2.2.2.2.2.2.2.1
  rcases rSeek (d := d + 1) (A := A) (b := b) (h := h) (J := J) (R := R) (X := X) (n := n) (f := fr (I 249) q) hN hq hz (fun k _ => rfl) with ⟨w0, h1, h2, e⟩ | ⟨hno, c6, c7, c8, e⟩
  · refine ⟨X, I, n, w0, nn, nb, e, hN, h1, ?_, Nat.le_refl _, Nat.le_refl _, by omega, fun _ _ => rfl, fN_refl, fX_refl, gro_refl, id⟩
    have := hdF_congr z h2.2
    unfold rnm
    rw [h2.1, this.1, this.2]
  · obtain ⟨X1, I1, n1, e1, N1, k1, f1, x1, g1, s1, t1, v1, v1'⟩ := r180g1 (d := d) (A := A) (b := b) (h := h) (J := J) (R := R) (n := n) (q := q) (z := z) (c4 := some (.int (hsh (fr (I 249) q) z))) (c5 := some (.int (nI (slN (hsh (fr (I 249) q) z))))) (c6 := c6) (c7 := c7) (c8 := c8) hN (by omega)
    obtain ⟨X2, I2, n2, e2, N2, k2, k2', f2, x2, g2, s2, t2, v2⟩ := r180g2 (d := d) (A := A) (b := b) (h := h) (J := J) (R := R) (n := n1) (q := q) (z := z) (c4 := some (.int (hsh (fr (I 249) q) z))) (c5 := some (.int (nI (slN (hsh (fr (I 249) q) z))))) (c6 := c6) (c7 := c7) (c8 := c8) N1 hb2 hz
    have src : ∀ j, I2 249 j = I 249 j := fun j => by rw [f2 249 j (by omega) (by omega), f1 249 j (by omega) (by omega)]
    have hno2 : ∀ u, u < nn → ¬ eqN I2 (fr (I 249) q) z u := fun u hu he => by
      have q1 := rnm_fr (hN.2.2.2.2.2.2.2.2.2.2.2.1 u hu) (I' := I2) (by rw [s2 _ (by omega)]; exact (s1 u hu).1) (by rw [s2 _ (by omega)]; exact (s1 u hu).2) (fun i hi => (t2 i hi).trans (t1 i))
      refine hno u hu ⟨q1.2.2.1.symm.trans he.1, fun j hj => ?_⟩
      rw [← q1.2.2.2 j (by rw [← q1.2.2.1, he.1]; exact hj)]
      exact he.2 j hj
    have keep : ∀ u, u < nn → rnm I2 u = rnm I u := fun u hu => (rnm_fr (hN.2.2.2.2.2.2.2.2.2.2.2.1 u hu) (I' := I2) (by rw [s2 _ (by omega)]; exact (s1 u hu).1) (by rw [s2 _ (by omega)]; exact (s1 u hu).2) (fun i hi => (t2 i hi).trans (t1 i))).1
    have hcp3 := N2.2.2.2.2.2.2.2.2.2.1
    have hcp4 := N2.2.2.2.2.2.2.2.2.1
    obtain ⟨I3, c6', e3, o3, p3, _⟩ := r180b (d := d + 1) (A := A) (b := b) (h := h) (J := J) (R := R) (n := n2) (X := X2) (nb := nb) (q := q) (z := z) (f := fr (I 249) q) (s := slN (hsh (fr (I 249) q) z)) (c4 := some (.int (hsh (fr (I 249) q) z))) (c7 := c7) (c8 := c8) k2 hcp3 hz hq z 0 I2 (by omega) N2.2.1 (fun j hj => src _) (fun j hj => al_b8 (hal j hj))
    have k4 : nn < cp X2 244 := by omega
    obtain ⟨N4, r4, s4⟩ := rNm_add N2 k4 k2 hz0 hz hb2 hal hno2 o3 (fun j hj => p3 j (by omega) hj)
    have hsl := (slX_e (hsh (fr (I 249) q) z)).2
    refine ⟨X2, nmI I3 nn nb z (slN (hsh (fr (I 249) q) z)), n2, nn, nn + 1, nb + z, ?_, N4, by omega, r4, by omega, by omega, Nat.le_refl _, fun u hu => (s4 u hu).trans (keep u hu), ?_, fX_trans x1 x2, gro_trans g1 g2, fun hT => ⟨by have := hT.1; omega, by have := hT.2; omega⟩⟩
    · rw [e, e1, e2]
      have e4 : M180 A (d + 1) 226 [some (.ref (b + 241)), some (.ref (b + 249)), some (.int (nI q)), some (.int (nI z)), some (.int (hsh (fr (I 249) q) z)), some (.int (nI (slN (hsh (fr (I 249) q) z)))), c6, c7, c8] [] (jH h b X2 I2 J R n2) = M180 A (d + 1) 229 [some (.ref (b + 241)), some (.ref (b + 249)), some (.int (nI q)), some (.int (nI z)), some (.int (hsh (fr (I 249) q) z)), some (.int (nI (slN (hsh (fr (I 249) q) z)))), some (.int (nI 0)), c7, c8] [] (jH h b X2 I2 J R n2) := by
        rw [r180_226]
        simp (disch := omega) [r180_227, List.getElem?_cons_zero, List.getElem?_cons_succ, List.length_cons, List.length_nil, ag_nx, ag_dn, ag_no, ag_if, jbr1, jbr2, jc1, jc2, jnul, jld, jsto, jstoL, jst1, jst2, jkill, jinc, jbI, jbL, jbS, juI, jl2i, jcmp, jisR, jisI, jisL, jret, jretv, jfits, jdup, jdup2, jpop, jmm, jcat, Value.category, jinv, jrcv, jthr, jhd, jput, jget, jlen, jald, jast, jaast, jgI, jgL, jgB, jtab, jlku, jacp, vf20, vf21, vf22, vf23, vf24, u2_s, u2_k, u2_i, uc_s, uc_k, uc_c, u2_c, LI0, LI1, LI2, LI3, LI4, LI5, LI6, LI7, LI8, LI9, LI10, LI11, LI12, LI13, LI14, LI15, LI16, LI17, LI18, LI19, LI20, LI21, LI22, LI23, LI24, LI25, LI26, LI27, LI28, LI29, LI30, LI31, LI32, LI33, LI34, LI35, LI36, LI37, LI40, LI42, LI43, LI45, LI48, LI60, LI61, LI64, LI80, LI300, LI400, LI1000, LI2000, LI2001, LI2047, LI2048, LI100000, LI1000000, LI38, LI39, LI41, LI44, LI46, LI47, LI49, LI50, LI51, LI52, LI53, LI54, LI55, LI56, LI57, LI58, LI59, LI62, LI63, LI65, LI66, LI67, LI68, LI69, LI70, LI71, LI72, LI73, LI74, LI75, LI76, LI77, LI78, LI79, LI81, LI82, LI83, LI84, LI85, LI86, LI87, LI88, LI89, LI90, LI91, LI92, LI93, LI94, LI95, LI96, LI97, LI98, LI99, LI100, LI101, LI102, LI103, LI104, LI105, LI106, LI107, LI108, LI109, LI110, LI111, LI112, LI113, LI114, LI115, LI116, LI117, LI118, LI119, LI120, LI121, LI122, LI123, LI124, LI125, LI126, LI127, LI255, LI256, LI999, LI1001, LI1002, LI1600, LI4096, LI1000001, LI2042, LM, nI_clamp, nI_pos', nI_lt, nI_nlt, nI_le, nI_ge, nI_ne, nI_add, nI_sub, mI_lt, mI_le, mI_nlt, mI_nle, mI_ne, mI_ne', mI_nem]
      rw [e4, e3]
      have h8 : I3 241 8 = nI nn := (o3 241 8 (by omega)).trans N2.1
      have h9 : I3 241 9 = nI nb := (o3 241 9 (by omega)).trans N2.2.1
      have q5 : nn < cp X2 245 := by rw [N2.2.2.2.1]; exact k4
      have q6 : nn < cp X2 246 := by rw [N2.2.2.2.2.1]; exact k4
      generalize slN (hsh (fr (I 249) q) z) = s at hsl ⊢
      generalize hsh (fr (I 249) q) z = hh
      unfold nmI
      rw [r180_259]
      simp (disch := omega) [r180_260, r180_263, r180_264, r180_267, r180_268, r180_271, r180_272, r180_273, r180_276, r180_277, r180_280, r180_281, r180_282, r180_283, r180_286, r180_287, r180_290, r180_291, r180_294, r180_296, r180_297, r180_298, r180_299, r180_302, r180_304, r180_305, r180_308, r180_309, r180_310, r180_311, r180_314, r180_315, r180_316, r180_319, r180_320, r180_321, r180_324, r180_325, r180_326, r180_329, r180_330, r180_333, r180_334, r180_335, g241, vf12_3, t241_3, g243, vf12_4, t241_4, g244, p244, vf12_5, t241_5, g245, p245, vf12_6, t241_6, g246, p246, vf12_7, t241_7, g247, p247, vf12_8, p241_8, ty12_8, vf12_9, p241_9, ty12_9, g249, List.getElem?_cons_zero, List.getElem?_cons_succ, List.length_cons, List.length_nil, ag_nx, ag_dn, ag_no, ag_if, jbr1, jbr2, jc1, jc2, jnul, jld, jsto, jstoL, jst1, jst2, jkill, jinc, jbI, jbL, jbS, juI, jl2i, jcmp, jisR, jisI, jisL, jret, jretv, jfits, jdup, jdup2, jpop, jmm, jcat, Value.category, jinv, jrcv, jthr, jhd, jput, jget, jlen, jald, jast, jaast, jgI, jgL, jgB, jtab, jlku, jacp, vf20, vf21, vf22, vf23, vf24, u2_s, u2_k, u2_i, uc_s, uc_k, uc_c, u2_c, LI0, LI1, LI2, LI3, LI4, LI5, LI6, LI7, LI8, LI9, LI10, LI11, LI12, LI13, LI14, LI15, LI16, LI17, LI18, LI19, LI20, LI21, LI22, LI23, LI24, LI25, LI26, LI27, LI28, LI29, LI30, LI31, LI32, LI33, LI34, LI35, LI36, LI37, LI40, LI42, LI43, LI45, LI48, LI60, LI61, LI64, LI80, LI300, LI400, LI1000, LI2000, LI2001, LI2047, LI2048, LI100000, LI1000000, LI38, LI39, LI41, LI44, LI46, LI47, LI49, LI50, LI51, LI52, LI53, LI54, LI55, LI56, LI57, LI58, LI59, LI62, LI63, LI65, LI66, LI67, LI68, LI69, LI70, LI71, LI72, LI73, LI74, LI75, LI76, LI77, LI78, LI79, LI81, LI82, LI83, LI84, LI85, LI86, LI87, LI88, LI89, LI90, LI91, LI92, LI93, LI94, LI95, LI96, LI97, LI98, LI99, LI100, LI101, LI102, LI103, LI104, LI105, LI106, LI107, LI108, LI109, LI110, LI111, LI112, LI113, LI114, LI115, LI116, LI117, LI118, LI119, LI120, LI121, LI122, LI123, LI124, LI125, LI126, LI127, LI255, LI256, LI999, LI1001, LI1002, LI1600, LI4096, LI1000001, LI2042, LM, nI_clamp, nI_pos', nI_lt, nI_nlt, nI_le, nI_ge, nI_ne, nI_add, nI_sub, mI_lt, mI_le, mI_nlt, mI_nle, mI_ne, mI_ne', mI_nem, h8, h9, q5, q6, hsl, k4]
    · intro c i h1 h2
      unfold nmI
      have hc : c ≠ 241 ∨ (i ≠ 8 ∧ i ≠ 9) := by omega
      rw [show u2 (u2 (u2 (u2 (u2 (u2 I3 244 nn (nI nb)) 245 nn (nI z)) 246 nn (I3 247 (slN (hsh (fr (I 249) q) z)))) 247 (slN (hsh (fr (I 249) q) z)) (nI nn)) 241 9 (nI (nb + z))) 241 8 (nI (nn + 1)) c i = u2 (u2 (u2 (u2 I3 244 nn (nI nb)) 245 nn (nI z)) 246 nn (I3 247 (slN (hsh (fr (I 249) q) z)))) 247 (slN (hsh (fr (I 249) q) z)) (nI nn) c i by
        rcases hc with hc | hc
        · rw [u2_k hc, u2_k hc]
        · by_cases e : c = 241
          · subst e; rw [u2_i hc.1, u2_i hc.2]
          · rw [u2_k e, u2_k e]]
      rw [u2_k (by omega), u2_k (by omega), u2_k (by omega), u2_k (by omega), o3 c i (by omega), f2 c i h1 h2, f1 c i h1 h2]
end RNA2
