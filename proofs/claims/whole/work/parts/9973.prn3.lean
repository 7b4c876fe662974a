/-! the reference makes a node: all of it -/
/-- node M -/
def nd8 (I : Nat → Nat → Int32) (M : Nat) (k x1 x2 x3 fr : Int32) : Prop := I 251 M = k ∧ I 252 M = x1 ∧ I 253 M = x2 ∧ I 254 M = x3 ∧ I 255 M = mI 1 ∧ I 256 M = fr ∧ I 257 M = mI 1 ∧ I 258 M = mI 1
section RAE
variable {A : Nat → Nat} {d b : Nat} {h : Nat → Option jC} {J : Nat → Nat → Int64} {R : Nat → Nat → Nat} {t : Nat → Int32} {N m B0 M0 : Nat} {k x1 x2 x3 fr : Int32}
def adI (I : Nat → Nat → Int32) (M : Nat) (k x1 x2 x3 fr : Int32) : Nat → Nat → Int32 := u2 (u2 (u2 (u2 (u2 (u2 (u2 (u2 (u2 I 251 M k) 252 M x1) 253 M x2) 254 M x3) 255 M (mI 1)) 256 M fr) 257 M (mI 1)) 258 M (mI 1)) 241 29 (nI (M + 1))
theorem adI_o {I : Nat → Nat → Int32} {M c i : Nat} (h : ¬ (251 ≤ c ∧ c ≤ 258 ∧ i = M)) (h2 : ¬ (c = 241 ∧ i = 29)) : adI I M k x1 x2 x3 fr c i = I c i := by
  unfold adI
  simp only [u2_ap]
  repeat (rw [if_neg (by omega)])
theorem adI_8 {I : Nat → Nat → Int32} {M : Nat} : nd8 (adI I M k x1 x2 x3 fr) M k x1 x2 x3 fr := by
  unfold adI
  refine ⟨?_, ?_, ?_, ?_, ?_, ?_, ?_, ?_⟩ <;> simp [u2_ap]
theorem r193e {X : jXX} {I : Nat → Nat → Int32} {n c M : Nat} (a1 : ∀ v, 251 ≤ v → v ≤ 258 → cp X v = c) (hM : I 241 29 = nI M) (hMc : M < c) (hc : c ≤ 2 ^ 20) : M193 A d 100 [some (.ref (b + 241)), some (.int k), some (.int x1), some (.int x2), some (.int x3), some (.int fr)] [] (jH h b X I J R n) = some (.inl (some (.int (nI M))), jH h b X (adI I M k x1 x2 x3 fr) J R n) := by
  have q1 := a1 251 (by omega) (by omega)
  have q2 := a1 252 (by omega) (by omega)
  have q3 := a1 253 (by omega) (by omega)
  have q4 := a1 254 (by omega) (by omega)
  have q5 := a1 255 (by omega) (by omega)
  have q6 := a1 256 (by omega) (by omega)
  have q7 := a1 257 (by omega) (by omega)
  have q8 := a1 258 (by omega) (by omega)
  have p1 : ∀ I i x, jset (jH h b X I J R n) (b + ad X 251) (20, c, updV (vf b 20 X I J R 251) i (.int x)) = jH h b X (u2 I 251 i x) J R n := fun I i x => by rw [← q1]; exact p251
  have p2 : ∀ I i x, jset (jH h b X I J R n) (b + ad X 252) (20, c, updV (vf b 20 X I J R 252) i (.int x)) = jH h b X (u2 I 252 i x) J R n := fun I i x => by rw [← q2]; exact p252
  have p3 : ∀ I i x, jset (jH h b X I J R n) (b + ad X 253) (20, c, updV (vf b 20 X I J R 253) i (.int x)) = jH h b X (u2 I 253 i x) J R n := fun I i x => by rw [← q3]; exact p253
  have p4 : ∀ I i x, jset (jH h b X I J R n) (b + ad X 254) (20, c, updV (vf b 20 X I J R 254) i (.int x)) = jH h b X (u2 I 254 i x) J R n := fun I i x => by rw [← q4]; exact p254
  have p5 : ∀ I i x, jset (jH h b X I J R n) (b + ad X 255) (20, c, updV (vf b 20 X I J R 255) i (.int x)) = jH h b X (u2 I 255 i x) J R n := fun I i x => by rw [← q5]; exact p255
  have p6 : ∀ I i x, jset (jH h b X I J R n) (b + ad X 256) (20, c, updV (vf b 20 X I J R 256) i (.int x)) = jH h b X (u2 I 256 i x) J R n := fun I i x => by rw [← q6]; exact p256
  have p7 : ∀ I i x, jset (jH h b X I J R n) (b + ad X 257) (20, c, updV (vf b 20 X I J R 257) i (.int x)) = jH h b X (u2 I 257 i x) J R n := fun I i x => by rw [← q7]; exact p257
  have p8 : ∀ I i x, jset (jH h b X I J R n) (b + ad X 258) (20, c, updV (vf b 20 X I J R 258) i (.int x)) = jH h b X (u2 I 258 i x) J R n := fun I i x => by rw [← q8]; exact p258
  unfold adI
  rw [r193_100]
  simp (disch := omega) [r193_101, r193_104, r193_105, r193_108, r193_109, r193_110, r193_111, r193_114, r193_115, r193_118, r193_119, r193_120, r193_121, r193_124, r193_125, r193_128, r193_129, r193_130, r193_131, r193_134, r193_135, r193_138, r193_140, r193_141, r193_142, r193_145, r193_146, r193_149, r193_150, r193_151, r193_152, r193_155, r193_156, r193_159, r193_161, r193_162, r193_163, r193_166, r193_167, r193_170, r193_171, r193_172, r193_173, r193_176, r193_177, r193_180, r193_181, r193_182, r193_183, r193_184, r193_187, r193_188, r193_189, r193_192, r193_193, r193_196, r193_197, r193_198, g241, p241_29, ty12_29, vf12_29, vf12_21, t241_21, g251, vf12_22, t241_22, g252, vf12_23, t241_23, g253, vf12_24, t241_24, g254, vf12_25, t241_25, g255, vf12_26, t241_26, g256, vf12_27, t241_27, g257, vf12_28, t241_28, g258, List.getElem?_cons_zero, List.getElem?_cons_succ, List.length_cons, List.length_nil, ag_nx, ag_dn, ag_no, ag_if, jbr1, jbr2, jc1, jc2, jnul, jld, jsto, jstoL, jst1, jst2, jkill, jinc, jbI, jbL, jbS, juI, jl2i, jcmp, jisR, jisI, jisL, jret, jretv, jfits, jdup, jdup2, jpop, jmm, jcat, Value.category, jinv, jrcv, jthr, jhd, jput, jget, jlen, jald, jast, jaast, jgI, jgL, jgB, jtab, jlku, jacp, vf20, vf21, vf22, vf23, vf24, u2_s, u2_k, u2_i, uc_s, uc_k, uc_c, u2_c, LI0, LI1, LI2, LI3, LI4, LI5, LI6, LI7, LI8, LI9, LI10, LI11, LI12, LI13, LI14, LI15, LI16, LI17, LI18, LI19, LI20, LI21, LI22, LI23, LI24, LI25, LI26, LI27, LI28, LI29, LI30, LI31, LI32, LI33, LI34, LI35, LI36, LI37, LI40, LI42, LI43, LI45, LI48, LI60, LI61, LI64, LI80, LI300, LI400, LI1000, LI2000, LI2001, LI2047, LI2048, LI100000, LI1000000, LI38, LI39, LI41, LI44, LI46, LI47, LI49, LI50, LI51, LI52, LI53, LI54, LI55, LI56, LI57, LI58, LI59, LI62, LI63, LI65, LI66, LI67, LI68, LI69, LI70, LI71, LI72, LI73, LI74, LI75, LI76, LI77, LI78, LI79, LI81, LI82, LI83, LI84, LI85, LI86, LI87, LI88, LI89, LI90, LI91, LI92, LI93, LI94, LI95, LI96, LI97, LI98, LI99, LI100, LI101, LI102, LI103, LI104, LI105, LI106, LI107, LI108, LI109, LI110, LI111, LI112, LI113, LI114, LI115, LI116, LI117, LI118, LI119, LI120, LI121, LI122, LI123, LI124, LI125, LI126, LI127, LI255, LI256, LI999, LI1001, LI1002, LI1600, LI4096, LI1000001, LI2042, LM, nI_clamp, nI_pos', nI_lt, nI_nlt, nI_le, nI_ge, nI_ne, nI_add, nI_sub, mI_lt, mI_le, mI_nlt, mI_nle, mI_ne, mI_ne', mI_nem, hM, q1, q2, q3, q4, q5, q6, q7, q8, hMc, p1, p2, p3, p4, p5, p6, p7, p8]
theorem rNode (hc : rCx A t N m B0 M0) {z : rZ} {j dp : Nat} (hq : rQ t N m B0 M0 j dp z) (hM : z.2.2.2.2.2 < M0 + j) : ∃ z', jcall A jcode (d + 2) 193 [.ref (b + 241), .int k, .int x1, .int x2, .int x3, .int fr] (HZ h b J R z) = some (.inl (some (.int (nI z.2.2.2.2.2))), HZ h b J R z') ∧ rQ t N m B0 M0 j dp z' ∧ rSt z z' ∧ z'.2.2.2.2.2 = z.2.2.2.2.2 + 1 ∧ z'.2.2.2.1 = z.2.2.2.1 ∧ nd8 z'.2.1 z.2.2.2.2.2 k x1 x2 x3 fr ∧ ∀ c i, ¬ (251 ≤ c ∧ c ≤ 258 ∧ z.2.2.2.2.2 ≤ i) → ¬ (c = 241 ∧ i = 29) → z'.2.1 c i = z.2.1 c i := by
  obtain ⟨X, I, n, nn, nb, M⟩ := z
  obtain ⟨hA, hN, hk, hB0, hM0⟩ := hc
  have hk1 := hk.1
  -- what is left to show, once there is room
  have KEY : ∀ (X' : jXX) (I' : Nat → Nat → Int32) (n' c : Nat), (∀ v, 251 ≤ v → v ≤ 258 → cp X' v = c) → M < c → (c ≤ 1024 + 2 * M ∨ c ≤ 9100) → 1024 ≤ c → (∀ v, v < 251 ∨ 258 < v → cp X' v = cp X v) → (∀ v i, ¬ (251 ≤ v ∧ v ≤ 258 ∧ M ≤ i) → I' v i = I v i) → gro X n X' n' → jcall A jcode (d + 2) 193 [.ref (b + 241), .int k, .int x1, .int x2, .int x3, .int fr] (jH h b X I J R n) = M193 A (d + 1) 100 [some (.ref (b + 241)), some (.int k), some (.int x1), some (.int x2), some (.int x3), some (.int fr)] [] (jH h b X' I' J R n') → ∃ z' : rZ, jcall A jcode (d + 2) 193 [.ref (b + 241), .int k, .int x1, .int x2, .int x3, .int fr] (jH h b X I J R n) = some (.inl (some (.int (nI M))), HZ h b J R z') ∧ rQ t N m B0 M0 j dp z' ∧ rSt (X, I, n, nn, nb, M) z' ∧ z'.2.2.2.2.2 = M + 1 ∧ z'.2.2.2.1 = nn ∧ nd8 z'.2.1 M k x1 x2 x3 fr ∧ ∀ c i, ¬ (251 ≤ c ∧ c ≤ 258 ∧ M ≤ i) → ¬ (c = 241 ∧ i = 29) → z'.2.1 c i = I c i := by
    intro X' I' n' c g1 g2 g3 g3' g4 g5 g6 e
    obtain ⟨⟨b1, b2, b3, b4, b5, b6, b7, b8⟩, hT', h15, h30, hj, hMj⟩ := hq
    simp only at b1 b2 b3 b4 b5 b6 b7 b8 h30 hMj hM
    have e2 := r193e (d := d + 1) (A := A) (b := b) (h := h) (J := J) (R := R) (k := k) (x1 := x1) (x2 := x2) (x3 := x3) (fr := fr) (X := X') (I := I') (n := n') g1 ((g5 _ _ (by omega)).trans b6) g2 (by omega)
    have f : ∀ c i, ¬ (251 ≤ c ∧ c ≤ 258 ∧ M ≤ i) → ¬ (c = 241 ∧ i = 29) → adI I' M k x1 x2 x3 fr c i = I c i := fun c i h1 h2 => by rw [adI_o (by omega) h2, g5 c i h1]
    have frn : ∀ u, rnm (adI I' M k x1 x2 x3 fr) u = rnm I u := fun u => by
      unfold rnm rb rz
      rw [f 244 _ (by omega) (by omega), f 245 _ (by omega) (by omega)]
      have : (fun k_1 => adI I' M k x1 x2 x3 fr 243 (ix (I 244 u) + k_1)) = fun k => I 243 (ix (I 244 u) + k) := by funext k; exact f 243 _ (by omega) (by omega)
      show (hdF (fun k_1 => adI I' M k x1 x2 x3 fr 243 (ix (I 244 u) + k_1)) _, tlF (fun k_1 => adI I' M k x1 x2 x3 fr 243 (ix (I 244 u) + k_1)) _) = _
      rw [this]
    have f1 : ∀ i, i ≠ 29 → adI I' M k x1 x2 x3 fr 241 i = I 241 i := fun i hi => f _ _ (by omega) (by omega)
    have f249 : adI I' M k x1 x2 x3 fr 249 = I 249 := by funext i; exact f _ _ (by omega) (by omega)
    have f14 := f1 14 (by omega)
    have f15 := f1 15 (by omega)
    have f16 := f1 16 (by omega)
    have f17 := f1 17 (by omega)
    have f18 := f1 18 (by omega)
    have f30 := f1 30 (by omega)
    have f29 : adI I' M k x1 x2 x3 fr 241 29 = nI (M + 1) := u2_s
    have hMM : M + 1 ≤ M0 + m := by omega
    have hMj' : M + 1 ≤ M0 + j := by omega
    have c243 := g4 243 (by omega)
    have c244 := g4 244 (by omega)
    have c245 := g4 245 (by omega)
    have c246 := g4 246 (by omega)
    have c206 := g4 206 (by omega)
    have hnm : rNm X' (adI I' M k x1 x2 x3 fr) nn nb := by
      have b3' := b3
      obtain ⟨a1, a2, a3, a4, a5, a6, a7, a8, a9, a10, a11, a12, a13, a14, a15, a16⟩ := b3'
      exact rNm_fr b3 (f _ _ (by omega) (by omega)) (f _ _ (by omega) (by omega)) (by omega) (by omega) (by omega) (by omega) (by omega) (by omega) (fun w _ => f _ _ (by omega) (by omega)) (fun w _ => f _ _ (by omega) (by omega)) (fun w _ => f _ _ (by omega) (by omega)) (fun w => f _ _ (by omega) (by omega)) (fun w _ => f _ _ (by omega) (by omega)) (fun i hi => by rw [f _ _ (by omega) (by omega)]; exact a16 i (by omega))
    have hcT : cpT X' nn nb := ⟨by have := b4.1; omega, by have := b4.2; omega⟩
    have hnd : ndC X' (M + 1) := ⟨c, g1, by omega, g3', by omega⟩
    have hfr : ∀ c i, ¬ (243 ≤ c ∧ c ≤ 247) → ¬ (251 ≤ c ∧ c ≤ 258 ∧ M ≤ i) → ¬ (c = 241 ∧ (i = 2 ∨ i = 8 ∨ i = 9 ∨ (15 ≤ i ∧ i ≤ 18) ∨ i = 20 ∨ i = 29 ∨ i = 30)) → adI I' M k x1 x2 x3 fr c i = I c i := fun c i _ c2 c3 => f c i c2 (by omega)
    refine ⟨(X', adI I' M k x1 x2 x3 fr, n', nn, nb, M + 1), e.trans e2, ⟨⟨f14.trans b1, f249.trans b2, hnm, hcT, b5, f29, hnd, hMM⟩, ?_, fun hne => ⟨f15.trans (h15 hne).1, (h15 hne).2⟩, f30.trans h30, hj, hMj'⟩, ⟨hfr, Nat.le_refl _, fun u hu => frn u, g6, c206, Nat.le_succ _⟩, rfl, rfl, adI_8, f⟩
    obtain ⟨t1, k', t2, t3, t4, t5, t6, t7⟩ := hT'
    refine ⟨f18.trans t1, k', t2, t3, f16.trans t4, fun z => ?_, fun z => f17.trans (t6 z), fun z => f17.trans (t7 z)⟩
    obtain ⟨w, v1, v2, v3⟩ := t5 z
    exact ⟨w, v1, f17.trans v2, (frn w).trans v3⟩
  obtain ⟨c, c1, c2, c3, c4⟩ : ndC X M := hq.1.2.2.2.2.2.2.1
  have hM29 : I 241 29 = nI M := hq.1.2.2.2.2.2.1
  simp only at hM
  have hMm : M ≤ M0 + m := hq.1.2.2.2.2.2.2.2
  by_cases hMc : M = c
  · obtain ⟨X', I', n', e, g1, g2, g3, g4⟩ := r193g (d := d) (A := A) (b := b) (h := h) (J := J) (R := R) (k := k) (x1 := x1) (x2 := x2) (x3 := x3) (fr := fr) (X := X) (I := I) (n := n) (c := c) c1 (by omega) (by omega) (by rw [hM29, hMc])
    rw [← hMc] at g1 g3
    exact KEY X' I' n' (2 * M) g1 (by omega) (by omega) (by omega) g2 g3 g4 e
  · refine KEY X I n c c1 (by omega) c4 c3 (fun _ _ => rfl) (fun _ _ _ => rfl) gro_refl ?_
    have h251 := c1 251 (by omega) (by omega)
    have hne : ¬ nI M = nI c := nI_ne hMc (by omega) (by omega)
    simp (disch := omega) [je193, r193_0, r193_1, r193_4, r193_5, r193_8, r193_9, g241, vf12_29, vf12_21, t241_21, g251, List.getElem?_cons_zero, List.getElem?_cons_succ, List.length_cons, List.length_nil, ag_nx, ag_dn, ag_no, ag_if, jbr1, jbr2, jc1, jc2, jnul, jld, jsto, jstoL, jst1, jst2, jkill, jinc, jbI, jbL, jbS, juI, jl2i, jcmp, jisR, jisI, jisL, jret, jretv, jfits, jdup, jdup2, jpop, jmm, jcat, Value.category, jinv, jrcv, jthr, jhd, jput, jget, jlen, jald, jast, jaast, jgI, jgL, jgB, jtab, jlku, jacp, vf20, vf21, vf22, vf23, vf24, u2_s, u2_k, u2_i, uc_s, uc_k, uc_c, u2_c, LI0, LI1, LI2, LI3, LI4, LI5, LI6, LI7, LI8, LI9, LI10, LI11, LI12, LI13, LI14, LI15, LI16, LI17, LI18, LI19, LI20, LI21, LI22, LI23, LI24, LI25, LI26, LI27, LI28, LI29, LI30, LI31, LI32, LI33, LI34, LI35, LI36, LI37, LI40, LI42, LI43, LI45, LI48, LI60, LI61, LI64, LI80, LI300, LI400, LI1000, LI2000, LI2001, LI2047, LI2048, LI100000, LI1000000, LI38, LI39, LI41, LI44, LI46, LI47, LI49, LI50, LI51, LI52, LI53, LI54, LI55, LI56, LI57, LI58, LI59, LI62, LI63, LI65, LI66, LI67, LI68, LI69, LI70, LI71, LI72, LI73, LI74, LI75, LI76, LI77, LI78, LI79, LI81, LI82, LI83, LI84, LI85, LI86, LI87, LI88, LI89, LI90, LI91, LI92, LI93, LI94, LI95, LI96, LI97, LI98, LI99, LI100, LI101, LI102, LI103, LI104, LI105, LI106, LI107, LI108, LI109, LI110, LI111, LI112, LI113, LI114, LI115, LI116, LI117, LI118, LI119, LI120, LI121, LI122, LI123, LI124, LI125, LI126, LI127, LI255, LI256, LI999, LI1001, LI1002, LI1600, LI4096, LI1000001, LI2042, LM, nI_clamp, nI_pos', nI_lt, nI_nlt, nI_le, nI_ge, nI_ne, nI_add, nI_sub, mI_lt, mI_le, mI_nlt, mI_nle, mI_ne, mI_ne', mI_nem, hM29, h251, hne]
end RAE
