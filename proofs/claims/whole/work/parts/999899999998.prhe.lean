/-! charts: the reference's call -/
section RHE
variable {A : Nat → Nat} {d b : Nat} {h : Nat → Option jC} {J : Nat → Nat → Int64} {R : Nat → Nat → Nat} {t : Nat → Int32} {N m B0 M0 : Nat}
theorem rTok0f (hc : rCx A t N m B0 M0) {z : rZ} {dp : Nat} (hB : rB t N m B0 M0 z) (h15 : z.2.1 241 15 = nI 0) (h30 : z.2.1 241 30 = nI dp) (hnb : z.2.2.2.2.1 ≤ B0) (hM : z.2.2.2.2.2 ≤ M0) : ∃ z', jcall A jcode (d + 6) 185 [.ref (b + 241)] (HZ h b J R z) = some (.inl none, HZ h b J R z') ∧ rQ t N m B0 M0 0 dp z' ∧ rSt z z' ∧ z'.2.2.2.2.2 = z.2.2.2.2.2 ∧ ∀ c i, ¬ (243 ≤ c ∧ c ≤ 247) → ¬ (c = 241 ∧ (i = 8 ∨ i = 9 ∨ (15 ≤ i ∧ i ≤ 18))) → z'.2.1 c i = z.2.1 c i := by
  obtain ⟨X, I, n, nn, nb, M⟩ := z
  obtain ⟨b1, b2, b3, b4, b5, b6, b7, b8⟩ := hB
  obtain ⟨hA, hN, hk, hB0, hM0⟩ := hc
  simp only at b1 b2 b3 b4 b5 b6 b7 b8 h15 h30 hM hnb ⊢
  obtain ⟨X', I', n', nn', nb', e, r1, r2, r3, r4, r5, r6, r7, r8, r9, r10, r11⟩ := rToken (d := d) (A := A) (b := b) (h := h) (J := J) (R := R) (X := X) (I := I) (n := n) (t := t) hA hN b1 b2 h15 (Nat.zero_le _) b3 (by omega)
  have hsk : sk t N 0 = tpos t N 0 := rfl
  rw [hsk] at r1 r2
  refine ⟨(X', I', n', nn', nb', M), e, ⟨⟨?_, ?_, r3, r11 b4, ?_, ?_, cp_fX r9 b7, b8⟩, r1, ?_, ?_, Nat.zero_le _, by show M ≤ M0 + 0; omega⟩, ⟨fun c i c1 c2 c3 => r8 c i c1 (by omega), r4, r7, r10, (r9 206 (by omega)).1, Nat.le_refl _⟩, rfl, fun c i c1 c2 => r8 c i c1 (by omega)⟩
  · show I' 241 14 = nI N
    rw [r8 _ _ (by omega) (by omega)]; exact b1
  · show I' 249 = t
    rw [← b2]
    funext i
    exact r8 _ _ (by omega) (by omega)
  · show nb' ≤ B0 + N + 12
    omega
  · show I' 241 29 = nI M
    rw [r8 _ _ (by omega) (by omega)]; exact b6
  · intro hne
    have hne' : ¬ tkK t N (tpos t N 0) = nI 28 := fun z => hne (by
      have := KK_e (t := t) (N := N) (j := 0)
      have hlt := okK_lt this.1
      have e2 := this.2.symm.trans z
      rw [nI_eq (by omega) (by omega)] at e2
      exact e2)
    obtain ⟨q1, q2⟩ := r2 hne'
    refine ⟨q1, ?_⟩
    show nb' ≤ B0 + tkX t N (tpos t N 0)
    omega
  · show I' 241 30 = nI dp
    rw [r8 _ _ (by omega) (by omega)]; exact h30

theorem nI_any (x : Int32) : ∃ k, x = nI k := ⟨x.toBitVec.toNat, by apply Int32.toBitVec_inj.mp; simp [nI]⟩
/-- readChart -/
theorem r276 (hc : rCx A t N m B0 M0) {z : rZ} (hB : rB t N m B0 M0 z) (hnb : z.2.2.2.2.1 ≤ B0) (hM : z.2.2.2.2.2 ≤ M0) : ∃ z', rSc z z' ∧ rB t N m B0 M0 z' ∧ ((∃ e, e ≤ m ∧ chS (KK t N) (Yn t N) 40 0 ([], []) = .inl e ∧ jcall A jcode (d + 10) 276 [.ref (b + 241)] (HZ h b J R z) = some (.inr 11, HZ h b J R z') ∧ z'.2.1 241 2 = nI (tpos t N e)) ∨ ∃ s', chS (KK t N) (Yn t N) 40 0 ([], []) = .inr s' ∧ jcall A jcode (d + 10) 276 [.ref (b + 241)] (HZ h b J R z) = some (.inl none, HZ h b J R z') ∧ rHc z'.2.1 z'.2.2.2.1 s') := by
  obtain ⟨dp, hdp⟩ := nI_any (z.2.1 241 30)
  obtain ⟨I1, hI1⟩ : ∃ I1, I1 = u2 (u2 (u2 z.2.1 241 15 (nI 0)) 241 86 (nI 0)) 241 87 (nI 0) := ⟨_, rfl⟩
  have f1 : ∀ c i, ¬ (c = 241 ∧ (i = 15 ∨ i = 86 ∨ i = 87)) → I1 c i = z.2.1 c i := fun c i hc => by rw [hI1, u2_o _ _ (by omega), u2_o _ _ (by omega), u2_o _ _ (by omega)]
  obtain ⟨z1, hz1⟩ : ∃ z1 : rZ, z1 = (z.1, I1, z.2.2) := ⟨_, rfl⟩
  have hB1 : rB t N m B0 M0 z1 := by
    obtain ⟨b1, b2, b3, b4, b5, b6, b7, b8⟩ := hB
    rw [hz1]
    exact ⟨(f1 _ _ (by omega)).trans b1, (funext fun i => f1 _ _ (by omega)).trans b2, rNm_s b3 (fun c i c1 c2 => f1 c i (by omega)) (f1 _ _ (by omega)) (f1 _ _ (by omega)), b4, b5, (f1 _ _ (by omega)).trans b6, b7, b8⟩
  have s1 : rSc z z1 := by
    rw [hz1]
    exact ⟨fun c i c1 c2 c3 => f1 c i (by unfold cHl at c1; omega), Nat.le_refl _, fun u _ => rnm_e (fun c i c1 c2 => f1 c i (by omega)), gro_refl, rfl⟩
  have h15 : z1.2.1 241 15 = nI 0 := by rw [hz1]; show I1 241 15 = _; rw [hI1, u2_o _ _ (by omega), u2_o _ _ (by omega), u2_s]
  have h30 : z1.2.1 241 30 = nI dp := by rw [hz1]; exact (f1 _ _ (by omega)).trans hdp
  obtain ⟨z2, e2, q2, st2, _, f2⟩ := rTok0f (A := A) (d := d + 3) (b := b) (h := h) (J := J) (R := R) hc hB1 h15 h30 (by rw [hz1]; exact hnb) (by rw [hz1]; exact hM)
  have s2 : rSc z z2 := rSc_tr s1 (rSc_f st2 (fun c i e f => f2 c i e (by omega)))
  have hs : rHc z2.2.1 z2.2.2.2.1 ([], []) := by
    have e86 : z2.2.1 241 86 = nI 0 := by rw [f2 _ _ (by omega) (by omega), hz1]; show I1 241 86 = _; rw [hI1, u2_o _ _ (by omega), u2_s]
    have e87 : z2.2.1 241 87 = nI 0 := by rw [f2 _ _ (by omega) (by omega), hz1]; show I1 241 87 = _; rw [hI1, u2_s]
    exact ⟨e86, e87, by simp, by simp, List.nodup_nil, fun i m hm => by simp at hm, fun i l hl => by simp at hl⟩
  obtain ⟨z3, s3, b3, r3⟩ := r276l (A := A) (d := d) (b := b) (h := h) (J := J) (R := R) hc 40 0 dp z2 ([], []) none none rfl q2 hs
  have w : jcall A jcode (d + 10) 276 [.ref (b + 241)] (HZ h b J R z) = M276 A (d + 9) 19 [some (.ref (b + 241)), none, none] [] (HZ h b J R z2) := by
    rw [hz1, hI1] at e2
    simp (disch := omega) [je276, r276_0, r276_1, r276_2, r276_5, r276_6, r276_7, r276_10, r276_11, r276_12, r276_15, r276_16, g241, p241_15, ty12_15, p241_86, ty12_86, p241_87, ty12_87, qa185, qo185, vf12_16, qa187, qo187, vf12_86, vf12_18, qa177, qo177, qa275, qo275, qa190, qo190, vf12_96, t241_96, g294, p294, vf12_94, t241_94, g292, p292, qa192, qo192, vf12_92, t241_92, g290, p290, vf12_93, t241_93, g291, p291, List.getElem?_cons_zero, List.getElem?_cons_succ, List.length_cons, List.length_nil, ag_nx, ag_dn, ag_no, ag_if, jbr1, jbr2, jc1, jc2, jnul, jld, jsto, jstoL, jst1, jst2, jkill, jinc, jbI, jbL, jbS, juI, jl2i, jcmp, jisR, jisI, jisL, jret, jretv, jfits, jdup, jdup2, jpop, jmm, jcat, Value.category, jinv, jrcv, jthr, jhd, jput, jget, jlen, jald, jast, jaast, jgI, jgL, jgB, jtab, jlku, jacp, vf20, vf21, vf22, vf23, vf24, u2_s, u2_k, u2_i, uc_s, uc_k, uc_c, u2_c, LI0, LI1, LI2, LI3, LI4, LI5, LI6, LI7, LI8, LI9, LI10, LI11, LI12, LI13, LI14, LI15, LI16, LI17, LI18, LI19, LI20, LI21, LI22, LI23, LI24, LI25, LI26, LI27, LI28, LI29, LI30, LI31, LI32, LI33, LI34, LI35, LI36, LI37, LI40, LI42, LI43, LI45, LI48, LI60, LI61, LI64, LI80, LI300, LI400, LI1000, LI2000, LI2001, LI2047, LI2048, LI100000, LI1000000, LI38, LI39, LI41, LI44, LI46, LI47, LI49, LI50, LI51, LI52, LI53, LI54, LI55, LI56, LI57, LI58, LI59, LI62, LI63, LI65, LI66, LI67, LI68, LI69, LI70, LI71, LI72, LI73, LI74, LI75, LI76, LI77, LI78, LI79, LI81, LI82, LI83, LI84, LI85, LI86, LI87, LI88, LI89, LI90, LI91, LI92, LI93, LI94, LI95, LI96, LI97, LI98, LI99, LI100, LI101, LI102, LI103, LI104, LI105, LI106, LI107, LI108, LI109, LI110, LI111, LI112, LI113, LI114, LI115, LI116, LI117, LI118, LI119, LI120, LI121, LI122, LI123, LI124, LI125, LI126, LI127, LI255, LI256, LI999, LI1001, LI1002, LI1600, LI4096, LI1000001, LI2042, LM, nI_clamp, nI_pos', nI_lt, nI_nlt, nI_le, nI_ge, nI_ne, nI_add, nI_sub, mI_lt, mI_le, mI_nlt, mI_nle, mI_ne, mI_ne', mI_nem, e2]
  refine ⟨z3, rSc_tr s2 s3, b3, ?_⟩
  rcases r3 with ⟨e, em, q1, q2, q3⟩ | ⟨s', q1, q2, q3⟩
  · exact Or.inl ⟨e, em, q1, w.trans q2, q3⟩
  · exact Or.inr ⟨s', q1, w.trans q2, q3⟩
end RHE
section RHG
variable {A : Nat → Nat} {d b n : Nat} {h : Nat → Option jC} {X : jXX} {I : Nat → Nat → Int32} {J : Nat → Nat → Int64} {R : Nat → Nat → Nat}
theorem r280a {ml : Nat} (h40 : ml ≤ 40) : ∀ (r k : Nat) (I : Nat → Nat → Int32), k + r = ml → I 241 84 = nI ml → ∃ I', M280 A d 60 [some (.ref (b + 241)), some (.int (nI k))] [] (jH h b X I J R n) = M280 A d 110 [some (.ref (b + 241)), some (.int (nI ml))] [] (jH h b X I' J R n) ∧ (∀ c i, ¬ (287 ≤ c ∧ c ≤ 289 ∧ k ≤ i ∧ i < ml) → I' c i = I c i) ∧ ∀ i, k ≤ i → i < ml → I' 287 i = I 290 i ∧ I' 288 i = I 291 i ∧ I' 289 i = I 292 i := by
  intro r
  induction r with
  | zero =>
    intro k I hk h84
    have : k = ml := by omega
    subst this
    refine ⟨I, ?_, fun _ _ _ => rfl, fun i h1 h2 => by omega⟩
    conv => lhs; rw [r280_60]
    simp (disch := omega) [r280_61, r280_62, r280_65, g241, p241_0, ty12_0, qa245, qo245, qa276, qo276, vf12_2, vf12_14, vf12_86, p241_84, ty12_84, vf12_87, p241_85, ty12_85, vf12_84, vf12_89, t241_89, g287, p287, vf12_92, t241_92, g290, p290, vf12_90, t241_90, g288, p288, vf12_93, t241_93, g291, p291, vf12_91, t241_91, g289, p289, vf12_94, t241_94, g292, p292, vf12_85, vf12_95, t241_95, g293, p293, vf12_96, t241_96, g294, p294, p241_83, ty12_83, qa279, qo279, List.getElem?_cons_zero, List.getElem?_cons_succ, List.length_cons, List.length_nil, ag_nx, ag_dn, ag_no, ag_if, jbr1, jbr2, jc1, jc2, jnul, jld, jsto, jstoL, jst1, jst2, jkill, jinc, jbI, jbL, jbS, juI, jl2i, jcmp, jisR, jisI, jisL, jret, jretv, jfits, jdup, jdup2, jpop, jmm, jcat, Value.category, jinv, jrcv, jthr, jhd, jput, jget, jlen, jald, jast, jaast, jgI, jgL, jgB, jtab, jlku, jacp, vf20, vf21, vf22, vf23, vf24, u2_s, u2_k, u2_i, uc_s, uc_k, uc_c, u2_c, LI0, LI1, LI2, LI3, LI4, LI5, LI6, LI7, LI8, LI9, LI10, LI11, LI12, LI13, LI14, LI15, LI16, LI17, LI18, LI19, LI20, LI21, LI22, LI23, LI24, LI25, LI26, LI27, LI28, LI29, LI30, LI31, LI32, LI33, LI34, LI35, LI36, LI37, LI40, LI42, LI43, LI45, LI48, LI60, LI61, LI64, LI80, LI300, LI400, LI1000, LI2000, LI2001, LI2047, LI2048, LI100000, LI1000000, LI38, LI39, LI41, LI44, LI46, LI47, LI49, LI50, LI51, LI52, LI53, LI54, LI55, LI56, LI57, LI58, LI59, LI62, LI63, LI65, LI66, LI67, LI68, LI69, LI70, LI71, LI72, LI73, LI74, LI75, LI76, LI77, LI78, LI79, LI81, LI82, LI83, LI84, LI85, LI86, LI87, LI88, LI89, LI90, LI91, LI92, LI93, LI94, LI95, LI96, LI97, LI98, LI99, LI100, LI101, LI102, LI103, LI104, LI105, LI106, LI107, LI108, LI109, LI110, LI111, LI112, LI113, LI114, LI115, LI116, LI117, LI118, LI119, LI120, LI121, LI122, LI123, LI124, LI125, LI126, LI127, LI255, LI256, LI999, LI1001, LI1002, LI1600, LI4096, LI1000001, LI2042, LM, nI_clamp, nI_pos', nI_lt, nI_nlt, nI_le, nI_ge, nI_ne, nI_add, nI_sub, mI_lt, mI_le, mI_nlt, mI_nle, mI_ne, mI_ne', mI_nem, h84]
  | succ r ih =>
    intro k I hk h84
    have k40 : k < 40 := by omega
    obtain ⟨I1, hI1⟩ : ∃ I1, I1 = u2 (u2 (u2 I 287 k (I 290 k)) 288 k (I 291 k)) 289 k (I 292 k) := ⟨_, rfl⟩
    have f1 : ∀ c i, ¬ (287 ≤ c ∧ c ≤ 289 ∧ i = k) → I1 c i = I c i := fun c i hc => by rw [hI1, u2_o _ _ (by omega), u2_o _ _ (by omega), u2_o _ _ (by omega)]
    obtain ⟨I2, e2, f2, g2⟩ := ih (k + 1) I1 (by omega) ((f1 _ _ (by omega)).trans h84)
    refine ⟨I2, ?_, fun c i hc => (f2 c i (by omega)).trans (f1 c i (by omega)), fun i h1 h2 => ?_⟩
    · rw [← e2, hI1]
      conv => lhs; rw [r280_60]
      simp (disch := omega) [r280_61, r280_62, r280_65, r280_68, r280_69, r280_72, r280_73, r280_74, r280_77, r280_78, r280_79, r280_80, r280_81, r280_84, r280_85, r280_86, r280_89, r280_90, r280_91, r280_92, r280_93, r280_96, r280_97, r280_98, r280_101, r280_102, r280_103, r280_104, r280_107, g241, p241_0, ty12_0, qa245, qo245, qa276, qo276, vf12_2, vf12_14, vf12_86, p241_84, ty12_84, vf12_87, p241_85, ty12_85, vf12_84, vf12_89, t241_89, g287, p287, vf12_92, t241_92, g290, p290, vf12_90, t241_90, g288, p288, vf12_93, t241_93, g291, p291, vf12_91, t241_91, g289, p289, vf12_94, t241_94, g292, p292, vf12_85, vf12_95, t241_95, g293, p293, vf12_96, t241_96, g294, p294, p241_83, ty12_83, qa279, qo279, List.getElem?_cons_zero, List.getElem?_cons_succ, List.length_cons, List.length_nil, ag_nx, ag_dn, ag_no, ag_if, jbr1, jbr2, jc1, jc2, jnul, jld, jsto, jstoL, jst1, jst2, jkill, jinc, jbI, jbL, jbS, juI, jl2i, jcmp, jisR, jisI, jisL, jret, jretv, jfits, jdup, jdup2, jpop, jmm, jcat, Value.category, jinv, jrcv, jthr, jhd, jput, jget, jlen, jald, jast, jaast, jgI, jgL, jgB, jtab, jlku, jacp, vf20, vf21, vf22, vf23, vf24, u2_s, u2_k, u2_i, uc_s, uc_k, uc_c, u2_c, LI0, LI1, LI2, LI3, LI4, LI5, LI6, LI7, LI8, LI9, LI10, LI11, LI12, LI13, LI14, LI15, LI16, LI17, LI18, LI19, LI20, LI21, LI22, LI23, LI24, LI25, LI26, LI27, LI28, LI29, LI30, LI31, LI32, LI33, LI34, LI35, LI36, LI37, LI40, LI42, LI43, LI45, LI48, LI60, LI61, LI64, LI80, LI300, LI400, LI1000, LI2000, LI2001, LI2047, LI2048, LI100000, LI1000000, LI38, LI39, LI41, LI44, LI46, LI47, LI49, LI50, LI51, LI52, LI53, LI54, LI55, LI56, LI57, LI58, LI59, LI62, LI63, LI65, LI66, LI67, LI68, LI69, LI70, LI71, LI72, LI73, LI74, LI75, LI76, LI77, LI78, LI79, LI81, LI82, LI83, LI84, LI85, LI86, LI87, LI88, LI89, LI90, LI91, LI92, LI93, LI94, LI95, LI96, LI97, LI98, LI99, LI100, LI101, LI102, LI103, LI104, LI105, LI106, LI107, LI108, LI109, LI110, LI111, LI112, LI113, LI114, LI115, LI116, LI117, LI118, LI119, LI120, LI121, LI122, LI123, LI124, LI125, LI126, LI127, LI255, LI256, LI999, LI1001, LI1002, LI1600, LI4096, LI1000001, LI2042, LM, nI_clamp, nI_pos', nI_lt, nI_nlt, nI_le, nI_ge, nI_ne, nI_add, nI_sub, mI_lt, mI_le, mI_nlt, mI_nle, mI_ne, mI_ne', mI_nem, h84, k40]
    · by_cases hik : i = k
      · subst hik
        rw [f2 _ _ (by omega), f2 _ _ (by omega), f2 _ _ (by omega), hI1]
        refine ⟨by rw [u2_o _ _ (by omega), u2_o _ _ (by omega), u2_s], by rw [u2_o _ _ (by omega), u2_s], u2_s⟩
      · have := g2 i (by omega) h2
        rw [f1 290 _ (by omega), f1 291 _ (by omega), f1 292 _ (by omega)] at this
        exact this
theorem r280b {ml : Nat} (h8 : ml ≤ 8) : ∀ (r k : Nat) (I : Nat → Nat → Int32), k + r = ml → I 241 85 = nI ml → ∃ I', M280 A d 112 [some (.ref (b + 241)), some (.int (nI k))] [] (jH h b X I J R n) = M280 A d 138 [some (.ref (b + 241)), some (.int (nI ml))] [] (jH h b X I' J R n) ∧ (∀ c i, ¬ (c = 293 ∧ k ≤ i ∧ i < ml) → I' c i = I c i) ∧ ∀ i, k ≤ i → i < ml → I' 293 i = I 294 i := by
  intro r
  induction r with
  | zero =>
    intro k I hk h84
    have : k = ml := by omega
    subst this
    refine ⟨I, ?_, fun _ _ _ => rfl, fun i h1 h2 => by omega⟩
    conv => lhs; rw [r280_112]
    simp (disch := omega) [r280_113, r280_114, r280_117, g241, p241_0, ty12_0, qa245, qo245, qa276, qo276, vf12_2, vf12_14, vf12_86, p241_84, ty12_84, vf12_87, p241_85, ty12_85, vf12_84, vf12_89, t241_89, g287, p287, vf12_92, t241_92, g290, p290, vf12_90, t241_90, g288, p288, vf12_93, t241_93, g291, p291, vf12_91, t241_91, g289, p289, vf12_94, t241_94, g292, p292, vf12_85, vf12_95, t241_95, g293, p293, vf12_96, t241_96, g294, p294, p241_83, ty12_83, qa279, qo279, List.getElem?_cons_zero, List.getElem?_cons_succ, List.length_cons, List.length_nil, ag_nx, ag_dn, ag_no, ag_if, jbr1, jbr2, jc1, jc2, jnul, jld, jsto, jstoL, jst1, jst2, jkill, jinc, jbI, jbL, jbS, juI, jl2i, jcmp, jisR, jisI, jisL, jret, jretv, jfits, jdup, jdup2, jpop, jmm, jcat, Value.category, jinv, jrcv, jthr, jhd, jput, jget, jlen, jald, jast, jaast, jgI, jgL, jgB, jtab, jlku, jacp, vf20, vf21, vf22, vf23, vf24, u2_s, u2_k, u2_i, uc_s, uc_k, uc_c, u2_c, LI0, LI1, LI2, LI3, LI4, LI5, LI6, LI7, LI8, LI9, LI10, LI11, LI12, LI13, LI14, LI15, LI16, LI17, LI18, LI19, LI20, LI21, LI22, LI23, LI24, LI25, LI26, LI27, LI28, LI29, LI30, LI31, LI32, LI33, LI34, LI35, LI36, LI37, LI40, LI42, LI43, LI45, LI48, LI60, LI61, LI64, LI80, LI300, LI400, LI1000, LI2000, LI2001, LI2047, LI2048, LI100000, LI1000000, LI38, LI39, LI41, LI44, LI46, LI47, LI49, LI50, LI51, LI52, LI53, LI54, LI55, LI56, LI57, LI58, LI59, LI62, LI63, LI65, LI66, LI67, LI68, LI69, LI70, LI71, LI72, LI73, LI74, LI75, LI76, LI77, LI78, LI79, LI81, LI82, LI83, LI84, LI85, LI86, LI87, LI88, LI89, LI90, LI91, LI92, LI93, LI94, LI95, LI96, LI97, LI98, LI99, LI100, LI101, LI102, LI103, LI104, LI105, LI106, LI107, LI108, LI109, LI110, LI111, LI112, LI113, LI114, LI115, LI116, LI117, LI118, LI119, LI120, LI121, LI122, LI123, LI124, LI125, LI126, LI127, LI255, LI256, LI999, LI1001, LI1002, LI1600, LI4096, LI1000001, LI2042, LM, nI_clamp, nI_pos', nI_lt, nI_nlt, nI_le, nI_ge, nI_ne, nI_add, nI_sub, mI_lt, mI_le, mI_nlt, mI_nle, mI_ne, mI_ne', mI_nem, h84]
  | succ r ih =>
    intro k I hk h84
    have k8 : k < 8 := by omega
    have f1 : ∀ c i, ¬ (c = 293 ∧ i = k) → u2 I 293 k (I 294 k) c i = I c i := fun c i hc => u2_o _ _ (by omega)
    obtain ⟨I2, e2, f2, g2⟩ := ih (k + 1) (u2 I 293 k (I 294 k)) (by omega) ((f1 _ _ (by omega)).trans h84)
    refine ⟨I2, ?_, fun c i hc => (f2 c i (by omega)).trans (f1 c i (by omega)), fun i h1 h2 => ?_⟩
    · rw [← e2]
      conv => lhs; rw [r280_112]
      simp (disch := omega) [r280_113, r280_114, r280_117, r280_120, r280_121, r280_124, r280_125, r280_126, r280_129, r280_130, r280_131, r280_132, r280_135, g241, p241_0, ty12_0, qa245, qo245, qa276, qo276, vf12_2, vf12_14, vf12_86, p241_84, ty12_84, vf12_87, p241_85, ty12_85, vf12_84, vf12_89, t241_89, g287, p287, vf12_92, t241_92, g290, p290, vf12_90, t241_90, g288, p288, vf12_93, t241_93, g291, p291, vf12_91, t241_91, g289, p289, vf12_94, t241_94, g292, p292, vf12_85, vf12_95, t241_95, g293, p293, vf12_96, t241_96, g294, p294, p241_83, ty12_83, qa279, qo279, List.getElem?_cons_zero, List.getElem?_cons_succ, List.length_cons, List.length_nil, ag_nx, ag_dn, ag_no, ag_if, jbr1, jbr2, jc1, jc2, jnul, jld, jsto, jstoL, jst1, jst2, jkill, jinc, jbI, jbL, jbS, juI, jl2i, jcmp, jisR, jisI, jisL, jret, jretv, jfits, jdup, jdup2, jpop, jmm, jcat, Value.category, jinv, jrcv, jthr, jhd, jput, jget, jlen, jald, jast, jaast, jgI, jgL, jgB, jtab, jlku, jacp, vf20, vf21, vf22, vf23, vf24, u2_s, u2_k, u2_i, uc_s, uc_k, uc_c, u2_c, LI0, LI1, LI2, LI3, LI4, LI5, LI6, LI7, LI8, LI9, LI10, LI11, LI12, LI13, LI14, LI15, LI16, LI17, LI18, LI19, LI20, LI21, LI22, LI23, LI24, LI25, LI26, LI27, LI28, LI29, LI30, LI31, LI32, LI33, LI34, LI35, LI36, LI37, LI40, LI42, LI43, LI45, LI48, LI60, LI61, LI64, LI80, LI300, LI400, LI1000, LI2000, LI2001, LI2047, LI2048, LI100000, LI1000000, LI38, LI39, LI41, LI44, LI46, LI47, LI49, LI50, LI51, LI52, LI53, LI54, LI55, LI56, LI57, LI58, LI59, LI62, LI63, LI65, LI66, LI67, LI68, LI69, LI70, LI71, LI72, LI73, LI74, LI75, LI76, LI77, LI78, LI79, LI81, LI82, LI83, LI84, LI85, LI86, LI87, LI88, LI89, LI90, LI91, LI92, LI93, LI94, LI95, LI96, LI97, LI98, LI99, LI100, LI101, LI102, LI103, LI104, LI105, LI106, LI107, LI108, LI109, LI110, LI111, LI112, LI113, LI114, LI115, LI116, LI117, LI118, LI119, LI120, LI121, LI122, LI123, LI124, LI125, LI126, LI127, LI255, LI256, LI999, LI1001, LI1002, LI1600, LI4096, LI1000001, LI2042, LM, nI_clamp, nI_pos', nI_lt, nI_nlt, nI_le, nI_ge, nI_ne, nI_add, nI_sub, mI_lt, mI_le, mI_nlt, mI_nle, mI_ne, mI_ne', mI_nem, h84, k8]
    · by_cases hik : i = k
      · subst hik
        rw [f2 _ _ (by omega), u2_s]
      · have := g2 i (by omega) h2
        rw [f1 294 _ (by omega)] at this
        exact this
/-- the lines of the events of a list of messages -/
def lnM (ms : List hM) (e : Nat) : Nat := if e % 2 = 0 then (ms.getD (e / 2) (0, 0, (0, 0))).1 else (ms.getD (e / 2) (0, 0, (0, 0))).2.1
theorem lnM_g {ms : List hM} {e : Nat} {x : hM} (hx : ms[e / 2]? = some x) : lnM ms e = if e % 2 = 0 then x.1 else x.2.1 := by
  unfold lnM
  rw [List.getD_eq_getElem?_getD, hx]
  rfl
theorem lnM_8 {ms : List hM} (h : ∀ (i : Nat) m, ms[i]? = some m → m.1 < 8 ∧ m.2.1 < 8) (e : Nat) : lnM ms e < 8 := by
  cases hx : ms[e / 2]? with
  | none =>
    unfold lnM
    rw [List.getD_eq_getElem?_getD, hx]
    split <;> decide
  | some x =>
    rw [lnM_g hx]
    have := h _ _ hx
    split
    · exact this.1
    · exact this.2
/-- the chart that stands, at the reference -/
def rHst (I : Nat → Nat → Int32) (nn : Nat) (s : hS) : Prop := I 241 84 = nI s.1.length ∧ I 241 85 = nI s.2.length ∧ s.2.length ≤ 8 ∧ s.1.length ≤ 40 ∧ s.2.Nodup ∧ (∀ (i : Nat) m, s.1[i]? = some m → m.1 < s.2.length ∧ m.2.1 < s.2.length ∧ I 287 i = nI m.1 ∧ I 288 i = nI m.2.1 ∧ rLn I nn (I 289 i) (some m.2.2)) ∧ ∀ (i : Nat) l, s.2[i]? = some l → rLn I nn (I 293 i) l
theorem rHst_li {nn : Nat} {s : hS} (hs : rHst I nn s) : rLi I s.1.length (lnM s.1) := by
  obtain ⟨a1, a2, a3, a4, a5, a6, a7⟩ := hs
  refine ⟨a4, lnM_8 (fun i m hm => by have := a6 i m hm; omega), fun e he => ?_⟩
  have hl : e / 2 < s.1.length := by omega
  have hx : s.1[e / 2]? = some s.1[e / 2] := List.getElem?_eq_getElem hl
  rw [lnM_g hx]
  obtain ⟨_, _, x3, x4, _⟩ := a6 _ _ hx
  split
  · exact x3
  · exact x4
end RHG
