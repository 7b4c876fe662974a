/-! the reference reads an if, blocks -/
/-- a block, as B says -/
def rBk (A : Nat → Nat) (h : Nat → Option jC) (b : Nat) (J : Nat → Nat → Int64) (R : Nat → Nat → Nat) (t : Nat → Int32) (N m B0 M0 pr D dp g : Nat) (B : Nat → Nat → pR) : Prop :=
  ∀ (d : Nat) (z : rZ) (j L : Nat), rQ t N m B0 M0 j dp z → z.2.2.2.2.2 < M0 + j + 1 → (∃ z' j', B L j = (none, j') ∧ jcall A jcode (d + D) 199 [.ref (b + 241)] (HZ h b J R z) = some (.inr 11, HZ h b J R z') ∧ rF t N m B0 M0 j' z' ∧ rSt z z') ∨ ∃ z' l0 j' e, B L j = (some l0, j') ∧ jcall A jcode (d + D) 199 [.ref (b + 241)] (HZ h b J R z) = some (.inl (some (.int (nI e))), HZ h b J R z') ∧ rQ t N m B0 M0 j' dp z' ∧ rSt z z' ∧ j < j' ∧ z'.2.2.2.2.2 ≤ z.2.2.2.2.2 + (j' - j) ∧ QB t N pr g z z' e L l0
section RIF
variable {A : Nat → Nat} {d b : Nat} {h : Nat → Option jC} {J : Nat → Nat → Int64} {R : Nat → Nat → Nat} {t : Nat → Int32} {N m B0 M0 : Nat} {g dp D pr x : Nat}
theorem QB_z {z z1 z' : rZ} {e L : Nat} {l : List oT} (hs : rSt z1 z') (h : QB t N pr g z z1 e L l) : z'.2.1 251 e = nI 19 ∧ ∃ as, chn z'.2.1 (z'.2.1 252 e) as ∧ (∀ x, x ∈ as → x < z1.2.2.2.2.2) ∧ bR t N z'.2.1 z'.2.2.2.1 pr (z1.2.2.2.2.2 - e) g (e + 1) as L l := by
  obtain ⟨h1, h2, h3, as, h4, h5, h6⟩ := h
  have f : ∀ c i, 251 ≤ c → c ≤ 258 → i < z1.2.2.2.2.2 → z'.2.1 c i = z1.2.1 c i := fun c i c1 c2 c3 => hs.1 c i (by omega) (by omega) (by omega)
  refine ⟨(f 251 e (by omega) (by omega) h2).trans h3, as, ?_, h5, ?_⟩
  · rw [f 252 e (by omega) (by omega) h2]
    exact chn_st as _ (fun a ha => f 255 a (by omega) (by omega) (h5 a ha)) h4
  · exact bR_st _ _ _ z1.2.2.2.2.2 z1.2.2.2.2.2 as _ _ (fun c i c1 c2 c3 c4 c5 => f c i c1 c2 c4) (fun a ha => ⟨by have := h5 a ha; omega, h5 a ha⟩) hs.2.2.1 hs.2.1 h6
theorem r201i (hc : rCx A t N m B0 M0) (hg : g + 1 ≤ 8) {B : Nat → Nat → pR} (hB : rBk A h b J R t N m B0 M0 pr (x + 4 * (g + 1) + 14) (8 - (g + 1)) g B) (hBo : ∀ L j, j ≤ m → pOK m j (B L j)) {z : rZ} {j L : Nat} (hq : rQ t N m B0 M0 j (8 - (g + 1)) z) (hK : KK t N j = 18) : (∃ z' j', (pB (xB (KK t N) pr (g + 1) (j + 1)) (fun l j1 => pB (B (L + l.length + 1) j1) (fun l2 j2 =>
      if KK t N j2 = 19 then pB (B (L + l.length + 1 + l2.length + 1) (j2 + 1)) (fun l3 j3 => (some (l ++ [(26, .inl (nI (L + l.length + 1 + l2.length + 1)), .inl (nI pr), j1 - 1)] ++ l2 ++ [(27, .inl (nI (L + l.length + 1 + l2.length + 1 + l3.length)), .inl (nI pr), j2)] ++ l3), j3))
      else (some (l ++ [(26, .inl (nI (L + l.length + 1 + l2.length)), .inl (nI pr), j1 - 1)] ++ l2), j2)))) = (none, j') ∧ jcall A jcode (d + x + 4 * (g + 1) + 14 + 1) 201 [.ref (b + 241)] (HZ h b J R z) = some (.inr 11, HZ h b J R z') ∧ rF t N m B0 M0 j' z' ∧ rSt z z') ∨ ∃ z' l0 j' e, (pB (xB (KK t N) pr (g + 1) (j + 1)) (fun l j1 => pB (B (L + l.length + 1) j1) (fun l2 j2 =>
      if KK t N j2 = 19 then pB (B (L + l.length + 1 + l2.length + 1) (j2 + 1)) (fun l3 j3 => (some (l ++ [(26, .inl (nI (L + l.length + 1 + l2.length + 1)), .inl (nI pr), j1 - 1)] ++ l2 ++ [(27, .inl (nI (L + l.length + 1 + l2.length + 1 + l3.length)), .inl (nI pr), j2)] ++ l3), j3))
      else (some (l ++ [(26, .inl (nI (L + l.length + 1 + l2.length)), .inl (nI pr), j1 - 1)] ++ l2), j2)))) = (some l0, j') ∧ jcall A jcode (d + x + 4 * (g + 1) + 14 + 1) 201 [.ref (b + 241)] (HZ h b J R z) = some (.inl (some (.int (nI e))), HZ h b J R z') ∧ rQ t N m B0 M0 j' (8 - (g + 1)) z' ∧ rSt z z' ∧ j < j' ∧ z'.2.2.2.2.2 ≤ z.2.2.2.2.2 + (j' - j) ∧ QA t N pr (g + 1) z z' e L l0 := by
  have hk := okK_lt (KK_e (t := t) (N := N) (j := j)).1
  have hk1 := hc.2.2.1.1
  have hT := rTk_k hq.2.1
  have s16 := hT.2.1
  have s18 := hT.1
  have hMz := hq.2.2.2.2.2
  have nk : ¬ kcd (KK t N j) = nI 1 := fun z => absurd ((kcd_1 _ hk).mp z) (by omega)
  have t10 := r189 (d := d + x + 4 * (g + 1) + 7) (A := A) (b := b) (h := h) (J := J) (R := R) (k0 := 10) hc hq (by omega) (by omega)
  have t10 : jcall A jcode (d + x + 4 * (g + 1) + 14) 189 [.ref (b + 241), .int (nI 8)] (HZ h b J R z) = some (.inl (some (.int (nI 0))), HZ h b J R z) := by
    rcases t10 with ⟨z1, _⟩ | ⟨_, e⟩
    · omega
    · rw [show wcd 10 = nI 8 by decide] at e; exact e
  have t12 := r189 (d := d + x + 4 * (g + 1) + 7) (A := A) (b := b) (h := h) (J := J) (R := R) (k0 := 12) hc hq (by omega) (by omega)
  have t12 : jcall A jcode (d + x + 4 * (g + 1) + 14) 189 [.ref (b + 241), .int (nI 10)] (HZ h b J R z) = some (.inl (some (.int (nI 0))), HZ h b J R z) := by
    rcases t12 with ⟨z1, _⟩ | ⟨_, e⟩
    · omega
    · rw [show wcd 12 = nI 10 by decide] at e; exact e
  have t13 := r189 (d := d + x + 4 * (g + 1) + 7) (A := A) (b := b) (h := h) (J := J) (R := R) (k0 := 13) hc hq (by omega) (by omega)
  have t13 : jcall A jcode (d + x + 4 * (g + 1) + 14) 189 [.ref (b + 241), .int (nI 11)] (HZ h b J R z) = some (.inl (some (.int (nI 0))), HZ h b J R z) := by
    rcases t13 with ⟨z1, _⟩ | ⟨_, e⟩
    · omega
    · rw [show wcd 13 = nI 11 by decide] at e; exact e
  have t14 := r189 (d := d + x + 4 * (g + 1) + 7) (A := A) (b := b) (h := h) (J := J) (R := R) (k0 := 14) hc hq (by omega) (by omega)
  have t14 : jcall A jcode (d + x + 4 * (g + 1) + 14) 189 [.ref (b + 241), .int (nI 12)] (HZ h b J R z) = some (.inl (some (.int (nI 0))), HZ h b J R z) := by
    rcases t14 with ⟨z1, _⟩ | ⟨_, e⟩
    · omega
    · rw [show wcd 14 = nI 12 by decide] at e; exact e
  have t15 := r189 (d := d + x + 4 * (g + 1) + 7) (A := A) (b := b) (h := h) (J := J) (R := R) (k0 := 15) hc hq (by omega) (by omega)
  have t15 : jcall A jcode (d + x + 4 * (g + 1) + 14) 189 [.ref (b + 241), .int (nI 13)] (HZ h b J R z) = some (.inl (some (.int (nI 0))), HZ h b J R z) := by
    rcases t15 with ⟨z1, _⟩ | ⟨_, e⟩
    · omega
    · rw [show wcd 15 = nI 13 by decide] at e; exact e
  have t16 := r189 (d := d + x + 4 * (g + 1) + 7) (A := A) (b := b) (h := h) (J := J) (R := R) (k0 := 16) hc hq (by omega) (by omega)
  have t16 : jcall A jcode (d + x + 4 * (g + 1) + 14) 189 [.ref (b + 241), .int (nI 14)] (HZ h b J R z) = some (.inl (some (.int (nI 0))), HZ h b J R z) := by
    rcases t16 with ⟨z1, _⟩ | ⟨_, e⟩
    · omega
    · rw [show wcd 16 = nI 14 by decide] at e; exact e
  have t17 := r189 (d := d + x + 4 * (g + 1) + 7) (A := A) (b := b) (h := h) (J := J) (R := R) (k0 := 17) hc hq (by omega) (by omega)
  have t17 : jcall A jcode (d + x + 4 * (g + 1) + 14) 189 [.ref (b + 241), .int (nI 15)] (HZ h b J R z) = some (.inl (some (.int (nI 0))), HZ h b J R z) := by
    rcases t17 with ⟨z1, _⟩ | ⟨_, e⟩
    · omega
    · rw [show wcd 17 = nI 15 by decide] at e; exact e
  rcases r191 (d := d + x + 4 * (g + 1) + 6) (A := A) (b := b) (h := h) (J := J) (R := R) (k0 := 18) hc hq (by omega) (by omega) with ⟨_, z1, e1, q1, st1, n1, f1⟩ | ⟨hn, _⟩
  · rw [show wcd 18 = nI 16 by decide] at e1
    have o2 := xB_ok (pr := pr) hc.2.2.1.2.1 (g + 1) (j + 1) q1.2.2.2.2.1
    rcases rCond (A := A) (b := b) (h := h) (J := J) (R := R) (pr := pr) hc hg (d + x + 2) z1 (j + 1) q1 with ⟨z2, j2, a2, e2, F2, st2⟩ | ⟨z2, l2, j2, e, a2, e2, q2, st2, hj2, hn2, x2, he2⟩
    · rw [show d + x + 2 + (4 * (g + 1) + 12) = d + x + 4 * (g + 1) + 14 by omega] at e2
      rw [pB_n a2]
      refine Or.inl ⟨z2, j2, rfl, ?_, F2, rSt_trans st1 st2⟩
      simp (disch := omega) [je201, r201_0, r201_1, r201_4, r201_5, r201_6, r201_9, r201_10, r201_13, r201_14, r201_17, r201_18, r201_19, r201_21, r201_24, r201_25, r201_28, r201_29, r201_30, r201_32, r201_35, r201_36, r201_38, r201_39, r201_40, r201_41, r201_42, r201_45, r201_46, r201_47, r201_49, r201_52, r201_55, r201_56, r201_57, r201_60, r201_61, r201_62, r201_64, r201_67, r201_70, r201_71, r201_74, r201_75, r201_76, r201_79, r201_80, r201_81, r201_83, r201_86, r201_87, r201_89, r201_90, r201_91, r201_92, r201_93, r201_96, r201_97, r201_98, r201_100, r201_103, r201_106, r201_107, r201_109, r201_112, r201_113, r201_114, r201_116, r201_119, r201_122, r201_123, r201_125, r201_128, r201_129, r201_130, r201_132, r201_135, r201_138, r201_139, r201_141, r201_144, r201_145, r201_146, r201_148, r201_151, r201_154, r201_155, r201_157, r201_160, r201_161, r201_163, r201_164, r201_165, r201_166, r201_167, r201_170, r201_171, r201_172, r201_174, r201_177, r201_180, r201_181, r201_184, r201_185, r201_186, r201_188, r201_191, r201_192, r201_194, r201_195, r201_196, r201_197, r201_198, r201_201, r201_202, r201_203, r201_205, r201_208, r201_209, r201_212, r201_213, r201_214, r201_217, r201_218, r201_219, r201_221, r201_222, r201_224, r201_227, r201_230, r201_231, r201_234, r201_236, r201_237, r201_239, r201_240, r201_241, r201_243, r201_244, r201_247, g241, vf12_18, vf12_16, qa192, qo192, qa190, qo190, qa195, qo195, qa193, qo193, qa189, qo189, qa203, qo203, qa202, qo202, qa191, qo191, qa200, qo200, qa199, qo199, List.getElem?_cons_zero, List.getElem?_cons_succ, List.length_cons, List.length_nil, ag_nx, ag_dn, ag_no, ag_if, jbr1, jbr2, jc1, jc2, jnul, jld, jsto, jstoL, jst1, jst2, jkill, jinc, jbI, jbL, jbS, juI, jl2i, jcmp, jisR, jisI, jisL, jret, jretv, jfits, jdup, jdup2, jpop, jmm, jcat, Value.category, jinv, jrcv, jthr, jhd, jput, jget, jlen, jald, jast, jaast, jgI, jgL, jgB, jtab, jlku, jacp, vf20, vf21, vf22, vf23, vf24, u2_s, u2_k, u2_i, uc_s, uc_k, uc_c, u2_c, LI0, LI1, LI2, LI3, LI4, LI5, LI6, LI7, LI8, LI9, LI10, LI11, LI12, LI13, LI14, LI15, LI16, LI17, LI18, LI19, LI20, LI21, LI22, LI23, LI24, LI25, LI26, LI27, LI28, LI29, LI30, LI31, LI32, LI33, LI34, LI35, LI36, LI37, LI40, LI42, LI43, LI45, LI48, LI60, LI61, LI64, LI80, LI300, LI400, LI1000, LI2000, LI2001, LI2047, LI2048, LI100000, LI1000000, LI38, LI39, LI41, LI44, LI46, LI47, LI49, LI50, LI51, LI52, LI53, LI54, LI55, LI56, LI57, LI58, LI59, LI62, LI63, LI65, LI66, LI67, LI68, LI69, LI70, LI71, LI72, LI73, LI74, LI75, LI76, LI77, LI78, LI79, LI81, LI82, LI83, LI84, LI85, LI86, LI87, LI88, LI89, LI90, LI91, LI92, LI93, LI94, LI95, LI96, LI97, LI98, LI99, LI100, LI101, LI102, LI103, LI104, LI105, LI106, LI107, LI108, LI109, LI110, LI111, LI112, LI113, LI114, LI115, LI116, LI117, LI118, LI119, LI120, LI121, LI122, LI123, LI124, LI125, LI126, LI127, LI255, LI256, LI999, LI1001, LI1002, LI1600, LI4096, LI1000001, LI2042, LM, nI_clamp, nI_pos', nI_lt, nI_nlt, nI_le, nI_ge, nI_ne, nI_add, nI_sub, mI_lt, mI_le, mI_nlt, mI_nle, mI_ne, mI_ne', mI_nem, s16, nk, t10, t12, t13, t14, t15, t16, t17, e1, e2]
    · rw [show d + x + 2 + (4 * (g + 1) + 12) = d + x + 4 * (g + 1) + 14 by omega] at e2
      rw [pB_s a2]
      rw [a2] at o2
      obtain ⟨o21, o22, o23⟩ := o2
      obtain ⟨o24, o25⟩ := o23 l2 rfl
      simp only at o21 o22 o24 o25
      have o3 := hBo (L + l2.length + 1) j2 o22
      rcases hB d z2 j2 (L + l2.length + 1) q2 (by omega) with ⟨z3, j3, a3, e3, F3, st3⟩ | ⟨z3, l3, j3, f, a3, e3, q3, st3, hj3, hn3, x3⟩
      · rw [show d + (x + 4 * (g + 1) + 14) = d + x + 4 * (g + 1) + 14 by omega] at e3
        rw [pB_n a3]
        refine Or.inl ⟨z3, j3, rfl, ?_, F3, rSt_trans st1 (rSt_trans st2 st3)⟩
        simp (disch := omega) [je201, r201_0, r201_1, r201_4, r201_5, r201_6, r201_9, r201_10, r201_13, r201_14, r201_17, r201_18, r201_19, r201_21, r201_24, r201_25, r201_28, r201_29, r201_30, r201_32, r201_35, r201_36, r201_38, r201_39, r201_40, r201_41, r201_42, r201_45, r201_46, r201_47, r201_49, r201_52, r201_55, r201_56, r201_57, r201_60, r201_61, r201_62, r201_64, r201_67, r201_70, r201_71, r201_74, r201_75, r201_76, r201_79, r201_80, r201_81, r201_83, r201_86, r201_87, r201_89, r201_90, r201_91, r201_92, r201_93, r201_96, r201_97, r201_98, r201_100, r201_103, r201_106, r201_107, r201_109, r201_112, r201_113, r201_114, r201_116, r201_119, r201_122, r201_123, r201_125, r201_128, r201_129, r201_130, r201_132, r201_135, r201_138, r201_139, r201_141, r201_144, r201_145, r201_146, r201_148, r201_151, r201_154, r201_155, r201_157, r201_160, r201_161, r201_163, r201_164, r201_165, r201_166, r201_167, r201_170, r201_171, r201_172, r201_174, r201_177, r201_180, r201_181, r201_184, r201_185, r201_186, r201_188, r201_191, r201_192, r201_194, r201_195, r201_196, r201_197, r201_198, r201_201, r201_202, r201_203, r201_205, r201_208, r201_209, r201_212, r201_213, r201_214, r201_217, r201_218, r201_219, r201_221, r201_222, r201_224, r201_227, r201_230, r201_231, r201_234, r201_236, r201_237, r201_239, r201_240, r201_241, r201_243, r201_244, r201_247, g241, vf12_18, vf12_16, qa192, qo192, qa190, qo190, qa195, qo195, qa193, qo193, qa189, qo189, qa203, qo203, qa202, qo202, qa191, qo191, qa200, qo200, qa199, qo199, List.getElem?_cons_zero, List.getElem?_cons_succ, List.length_cons, List.length_nil, ag_nx, ag_dn, ag_no, ag_if, jbr1, jbr2, jc1, jc2, jnul, jld, jsto, jstoL, jst1, jst2, jkill, jinc, jbI, jbL, jbS, juI, jl2i, jcmp, jisR, jisI, jisL, jret, jretv, jfits, jdup, jdup2, jpop, jmm, jcat, Value.category, jinv, jrcv, jthr, jhd, jput, jget, jlen, jald, jast, jaast, jgI, jgL, jgB, jtab, jlku, jacp, vf20, vf21, vf22, vf23, vf24, u2_s, u2_k, u2_i, uc_s, uc_k, uc_c, u2_c, LI0, LI1, LI2, LI3, LI4, LI5, LI6, LI7, LI8, LI9, LI10, LI11, LI12, LI13, LI14, LI15, LI16, LI17, LI18, LI19, LI20, LI21, LI22, LI23, LI24, LI25, LI26, LI27, LI28, LI29, LI30, LI31, LI32, LI33, LI34, LI35, LI36, LI37, LI40, LI42, LI43, LI45, LI48, LI60, LI61, LI64, LI80, LI300, LI400, LI1000, LI2000, LI2001, LI2047, LI2048, LI100000, LI1000000, LI38, LI39, LI41, LI44, LI46, LI47, LI49, LI50, LI51, LI52, LI53, LI54, LI55, LI56, LI57, LI58, LI59, LI62, LI63, LI65, LI66, LI67, LI68, LI69, LI70, LI71, LI72, LI73, LI74, LI75, LI76, LI77, LI78, LI79, LI81, LI82, LI83, LI84, LI85, LI86, LI87, LI88, LI89, LI90, LI91, LI92, LI93, LI94, LI95, LI96, LI97, LI98, LI99, LI100, LI101, LI102, LI103, LI104, LI105, LI106, LI107, LI108, LI109, LI110, LI111, LI112, LI113, LI114, LI115, LI116, LI117, LI118, LI119, LI120, LI121, LI122, LI123, LI124, LI125, LI126, LI127, LI255, LI256, LI999, LI1001, LI1002, LI1600, LI4096, LI1000001, LI2042, LM, nI_clamp, nI_pos', nI_lt, nI_nlt, nI_le, nI_ge, nI_ne, nI_add, nI_sub, mI_lt, mI_le, mI_nlt, mI_nle, mI_ne, mI_ne', mI_nem, s16, nk, t10, t12, t13, t14, t15, t16, t17, e1, e2, e3]
      · rw [show d + (x + 4 * (g + 1) + 14) = d + x + 4 * (g + 1) + 14 by omega] at e3
        rw [pB_s a3]
        rw [a3] at o3
        obtain ⟨o31, o32, o33⟩ := o3
        obtain ⟨o34, o35⟩ := o33 l3 rfl
        simp only at o31 o32 o34 o35
        have hf := x3.1
        have hf2 := x3.2.1
        have hj1m := st2.2.2.2.2.2
        rcases r189 (d := d + x + 4 * (g + 1) + 7) (A := A) (b := b) (h := h) (J := J) (R := R) (k0 := 19) hc q3 (by omega) (by omega) with ⟨hK4, z4, e4, q4, st4, n4, f4⟩ | ⟨hK4, e4⟩
        · rw [if_pos hK4]
          rw [show wcd 19 = nI 17 by decide] at e4
          have o5 := hBo (L + l2.length + 1 + l3.length + 1) (j3 + 1) q4.2.2.2.2.1
          rcases hB d z4 (j3 + 1) (L + l2.length + 1 + l3.length + 1) q4 (by omega) with ⟨z5, j5, a5, e5, F5, st5⟩ | ⟨z5, l5, j5, q, a5, e5, q5, st5, hj5, hn5, x5⟩
          · rw [show d + (x + 4 * (g + 1) + 14) = d + x + 4 * (g + 1) + 14 by omega] at e5
            rw [pB_n a5]
            refine Or.inl ⟨z5, j5, rfl, ?_, F5, rSt_trans st1 (rSt_trans st2 (rSt_trans st3 (rSt_trans st4 st5)))⟩
            simp (disch := omega) [je201, r201_0, r201_1, r201_4, r201_5, r201_6, r201_9, r201_10, r201_13, r201_14, r201_17, r201_18, r201_19, r201_21, r201_24, r201_25, r201_28, r201_29, r201_30, r201_32, r201_35, r201_36, r201_38, r201_39, r201_40, r201_41, r201_42, r201_45, r201_46, r201_47, r201_49, r201_52, r201_55, r201_56, r201_57, r201_60, r201_61, r201_62, r201_64, r201_67, r201_70, r201_71, r201_74, r201_75, r201_76, r201_79, r201_80, r201_81, r201_83, r201_86, r201_87, r201_89, r201_90, r201_91, r201_92, r201_93, r201_96, r201_97, r201_98, r201_100, r201_103, r201_106, r201_107, r201_109, r201_112, r201_113, r201_114, r201_116, r201_119, r201_122, r201_123, r201_125, r201_128, r201_129, r201_130, r201_132, r201_135, r201_138, r201_139, r201_141, r201_144, r201_145, r201_146, r201_148, r201_151, r201_154, r201_155, r201_157, r201_160, r201_161, r201_163, r201_164, r201_165, r201_166, r201_167, r201_170, r201_171, r201_172, r201_174, r201_177, r201_180, r201_181, r201_184, r201_185, r201_186, r201_188, r201_191, r201_192, r201_194, r201_195, r201_196, r201_197, r201_198, r201_201, r201_202, r201_203, r201_205, r201_208, r201_209, r201_212, r201_213, r201_214, r201_217, r201_218, r201_219, r201_221, r201_222, r201_224, r201_227, r201_230, r201_231, r201_234, r201_236, r201_237, r201_239, r201_240, r201_241, r201_243, r201_244, r201_247, g241, vf12_18, vf12_16, qa192, qo192, qa190, qo190, qa195, qo195, qa193, qo193, qa189, qo189, qa203, qo203, qa202, qo202, qa191, qo191, qa200, qo200, qa199, qo199, List.getElem?_cons_zero, List.getElem?_cons_succ, List.length_cons, List.length_nil, ag_nx, ag_dn, ag_no, ag_if, jbr1, jbr2, jc1, jc2, jnul, jld, jsto, jstoL, jst1, jst2, jkill, jinc, jbI, jbL, jbS, juI, jl2i, jcmp, jisR, jisI, jisL, jret, jretv, jfits, jdup, jdup2, jpop, jmm, jcat, Value.category, jinv, jrcv, jthr, jhd, jput, jget, jlen, jald, jast, jaast, jgI, jgL, jgB, jtab, jlku, jacp, vf20, vf21, vf22, vf23, vf24, u2_s, u2_k, u2_i, uc_s, uc_k, uc_c, u2_c, LI0, LI1, LI2, LI3, LI4, LI5, LI6, LI7, LI8, LI9, LI10, LI11, LI12, LI13, LI14, LI15, LI16, LI17, LI18, LI19, LI20, LI21, LI22, LI23, LI24, LI25, LI26, LI27, LI28, LI29, LI30, LI31, LI32, LI33, LI34, LI35, LI36, LI37, LI40, LI42, LI43, LI45, LI48, LI60, LI61, LI64, LI80, LI300, LI400, LI1000, LI2000, LI2001, LI2047, LI2048, LI100000, LI1000000, LI38, LI39, LI41, LI44, LI46, LI47, LI49, LI50, LI51, LI52, LI53, LI54, LI55, LI56, LI57, LI58, LI59, LI62, LI63, LI65, LI66, LI67, LI68, LI69, LI70, LI71, LI72, LI73, LI74, LI75, LI76, LI77, LI78, LI79, LI81, LI82, LI83, LI84, LI85, LI86, LI87, LI88, LI89, LI90, LI91, LI92, LI93, LI94, LI95, LI96, LI97, LI98, LI99, LI100, LI101, LI102, LI103, LI104, LI105, LI106, LI107, LI108, LI109, LI110, LI111, LI112, LI113, LI114, LI115, LI116, LI117, LI118, LI119, LI120, LI121, LI122, LI123, LI124, LI125, LI126, LI127, LI255, LI256, LI999, LI1001, LI1002, LI1600, LI4096, LI1000001, LI2042, LM, nI_clamp, nI_pos', nI_lt, nI_nlt, nI_le, nI_ge, nI_ne, nI_add, nI_sub, mI_lt, mI_le, mI_nlt, mI_nle, mI_ne, mI_ne', mI_nem, s16, nk, t10, t12, t13, t14, t15, t16, t17, e1, e2, e3, e4, e5]
          · rw [show d + (x + 4 * (g + 1) + 14) = d + x + 4 * (g + 1) + 14 by omega] at e5
            rw [pB_s a5]
            rw [a5] at o5
            obtain ⟨o51, o52, o53⟩ := o5
            obtain ⟨o54, o55⟩ := o53 l5 rfl
            simp only at o51 o52 o54 o55
            obtain ⟨z6, e6, q6, st6, n6, _, d6, f6⟩ := rNode (d := d + x + 4 * (g + 1) + 12) (A := A) (b := b) (h := h) (J := J) (R := R) (k := nI 18) (x1 := nI e) (x2 := nI f) (x3 := nI q) (fr := nI (tpos t N j)) hc q5 (by omega)
            have hq1 := x5.1
            have hq2 := x5.2.1
            have hm3 := st3.2.2.2.2.2
            have hm5 := st5.2.2.2.2.2
            obtain ⟨y1, as1, y2, y3, y4⟩ := QB_z (rSt_trans st4 (rSt_trans st5 st6)) x3
            obtain ⟨y5, as2, y6, y7, y8⟩ := QB_z st6 x5
            refine Or.inr ⟨z6, _, j5, z5.2.2.2.2.2, rfl, ?_, q6, rSt_trans st1 (rSt_trans st2 (rSt_trans st3 (rSt_trans st4 (rSt_trans st5 st6)))), by omega, by omega, ?_, by omega, d6.2.2.2.2.1⟩
            · simp (disch := omega) [je201, r201_0, r201_1, r201_4, r201_5, r201_6, r201_9, r201_10, r201_13, r201_14, r201_17, r201_18, r201_19, r201_21, r201_24, r201_25, r201_28, r201_29, r201_30, r201_32, r201_35, r201_36, r201_38, r201_39, r201_40, r201_41, r201_42, r201_45, r201_46, r201_47, r201_49, r201_52, r201_55, r201_56, r201_57, r201_60, r201_61, r201_62, r201_64, r201_67, r201_70, r201_71, r201_74, r201_75, r201_76, r201_79, r201_80, r201_81, r201_83, r201_86, r201_87, r201_89, r201_90, r201_91, r201_92, r201_93, r201_96, r201_97, r201_98, r201_100, r201_103, r201_106, r201_107, r201_109, r201_112, r201_113, r201_114, r201_116, r201_119, r201_122, r201_123, r201_125, r201_128, r201_129, r201_130, r201_132, r201_135, r201_138, r201_139, r201_141, r201_144, r201_145, r201_146, r201_148, r201_151, r201_154, r201_155, r201_157, r201_160, r201_161, r201_163, r201_164, r201_165, r201_166, r201_167, r201_170, r201_171, r201_172, r201_174, r201_177, r201_180, r201_181, r201_184, r201_185, r201_186, r201_188, r201_191, r201_192, r201_194, r201_195, r201_196, r201_197, r201_198, r201_201, r201_202, r201_203, r201_205, r201_208, r201_209, r201_212, r201_213, r201_214, r201_217, r201_218, r201_219, r201_221, r201_222, r201_224, r201_227, r201_230, r201_231, r201_234, r201_236, r201_237, r201_239, r201_240, r201_241, r201_243, r201_244, r201_247, g241, vf12_18, vf12_16, qa192, qo192, qa190, qo190, qa195, qo195, qa193, qo193, qa189, qo189, qa203, qo203, qa202, qo202, qa191, qo191, qa200, qo200, qa199, qo199, List.getElem?_cons_zero, List.getElem?_cons_succ, List.length_cons, List.length_nil, ag_nx, ag_dn, ag_no, ag_if, jbr1, jbr2, jc1, jc2, jnul, jld, jsto, jstoL, jst1, jst2, jkill, jinc, jbI, jbL, jbS, juI, jl2i, jcmp, jisR, jisI, jisL, jret, jretv, jfits, jdup, jdup2, jpop, jmm, jcat, Value.category, jinv, jrcv, jthr, jhd, jput, jget, jlen, jald, jast, jaast, jgI, jgL, jgB, jtab, jlku, jacp, vf20, vf21, vf22, vf23, vf24, u2_s, u2_k, u2_i, uc_s, uc_k, uc_c, u2_c, LI0, LI1, LI2, LI3, LI4, LI5, LI6, LI7, LI8, LI9, LI10, LI11, LI12, LI13, LI14, LI15, LI16, LI17, LI18, LI19, LI20, LI21, LI22, LI23, LI24, LI25, LI26, LI27, LI28, LI29, LI30, LI31, LI32, LI33, LI34, LI35, LI36, LI37, LI40, LI42, LI43, LI45, LI48, LI60, LI61, LI64, LI80, LI300, LI400, LI1000, LI2000, LI2001, LI2047, LI2048, LI100000, LI1000000, LI38, LI39, LI41, LI44, LI46, LI47, LI49, LI50, LI51, LI52, LI53, LI54, LI55, LI56, LI57, LI58, LI59, LI62, LI63, LI65, LI66, LI67, LI68, LI69, LI70, LI71, LI72, LI73, LI74, LI75, LI76, LI77, LI78, LI79, LI81, LI82, LI83, LI84, LI85, LI86, LI87, LI88, LI89, LI90, LI91, LI92, LI93, LI94, LI95, LI96, LI97, LI98, LI99, LI100, LI101, LI102, LI103, LI104, LI105, LI106, LI107, LI108, LI109, LI110, LI111, LI112, LI113, LI114, LI115, LI116, LI117, LI118, LI119, LI120, LI121, LI122, LI123, LI124, LI125, LI126, LI127, LI255, LI256, LI999, LI1001, LI1002, LI1600, LI4096, LI1000001, LI2042, LM, nI_clamp, nI_pos', nI_lt, nI_nlt, nI_le, nI_ge, nI_ne, nI_add, nI_sub, mI_lt, mI_le, mI_nlt, mI_nle, mI_ne, mI_ne', mI_nem, s16, s18, nk, t10, t12, t13, t14, t15, t16, t17, e1, e2, e3, e4, e5, e6]
            · obtain ⟨r, hr⟩ : ∃ r, z6.2.2.2.2.2 - z.2.2.2.2.2 + 1 = r + 1 + 1 := ⟨z6.2.2.2.2.2 - z.2.2.2.2.2 - 1, by omega⟩
              rw [hr]
              refine ⟨_, [], (List.append_nil _).symm, by omega, rfl, ⟨j5, ?_, fun y hy => by cases hy⟩, Or.inr ⟨d6.1, g, e, f, l2, l3, j2 - 1, as1, j2, rfl, by omega, d6.2.1, ?_, by omega, by omega, d6.2.2.1, y1, y2, fun y hy => by have := y3 y hy; omega, bR_mono _ _ _ _ _ _ _ _ _ (by omega) (Nat.le_refl _) (Nat.le_refl _) y4, fun y hy => (o25 y hy).2, fun y hy => (o35 y hy).1, Or.inr ⟨q, l5, j3, as2, j3 + 1, d6.2.2.2.1, by omega, by omega, fun y hy => by have := y3 y hy; omega, y5, y6, fun y hy => by have := y7 y hy; omega, bR_mono _ _ _ _ _ _ _ _ _ (by omega) (Nat.le_refl _) (Nat.le_refl _) y8, fun y hy => by have := (o35 y hy).2; omega, fun y hy => (o55 y hy).1, by omega, rfl⟩⟩⟩
              · intro y hy
                simp only [List.mem_append, List.mem_cons, List.not_mem_nil, or_false] at hy
                rcases hy with (((hy | hy) | hy) | hy) | hy
                · have := (o25 y hy).2; omega
                · rw [hy]; show j2 - 1 < j5; omega
                · have := (o35 y hy).2; omega
                · rw [hy]; show j3 < j5; omega
                · exact (o55 y hy).2
              · exact xR_mono _ _ _ _ _ _ _ (by unfold ED; omega) (by omega) (by omega) (xR_z (rSt_trans st3 (rSt_trans st4 (rSt_trans st5 st6))) he2 x2)
        · rw [if_neg hK4]
          rw [show wcd 19 = nI 17 by decide] at e4
          obtain ⟨z6, e6, q6, st6, n6, _, d6, f6⟩ := rNode (d := d + x + 4 * (g + 1) + 12) (A := A) (b := b) (h := h) (J := J) (R := R) (k := nI 18) (x1 := nI e) (x2 := nI f) (x3 := mI 1) (fr := nI (tpos t N j)) hc q3 (by omega)
          have hm3 := st3.2.2.2.2.2
          obtain ⟨y1, as1, y2, y3, y4⟩ := QB_z st6 x3
          refine Or.inr ⟨z6, _, j3, z3.2.2.2.2.2, rfl, ?_, q6, rSt_trans st1 (rSt_trans st2 (rSt_trans st3 st6)), by omega, by omega, ?_, by omega, d6.2.2.2.2.1⟩
          · simp (disch := omega) [je201, r201_0, r201_1, r201_4, r201_5, r201_6, r201_9, r201_10, r201_13, r201_14, r201_17, r201_18, r201_19, r201_21, r201_24, r201_25, r201_28, r201_29, r201_30, r201_32, r201_35, r201_36, r201_38, r201_39, r201_40, r201_41, r201_42, r201_45, r201_46, r201_47, r201_49, r201_52, r201_55, r201_56, r201_57, r201_60, r201_61, r201_62, r201_64, r201_67, r201_70, r201_71, r201_74, r201_75, r201_76, r201_79, r201_80, r201_81, r201_83, r201_86, r201_87, r201_89, r201_90, r201_91, r201_92, r201_93, r201_96, r201_97, r201_98, r201_100, r201_103, r201_106, r201_107, r201_109, r201_112, r201_113, r201_114, r201_116, r201_119, r201_122, r201_123, r201_125, r201_128, r201_129, r201_130, r201_132, r201_135, r201_138, r201_139, r201_141, r201_144, r201_145, r201_146, r201_148, r201_151, r201_154, r201_155, r201_157, r201_160, r201_161, r201_163, r201_164, r201_165, r201_166, r201_167, r201_170, r201_171, r201_172, r201_174, r201_177, r201_180, r201_181, r201_184, r201_185, r201_186, r201_188, r201_191, r201_192, r201_194, r201_195, r201_196, r201_197, r201_198, r201_201, r201_202, r201_203, r201_205, r201_208, r201_209, r201_212, r201_213, r201_214, r201_217, r201_218, r201_219, r201_221, r201_222, r201_224, r201_227, r201_230, r201_231, r201_234, r201_236, r201_237, r201_239, r201_240, r201_241, r201_243, r201_244, r201_247, g241, vf12_18, vf12_16, qa192, qo192, qa190, qo190, qa195, qo195, qa193, qo193, qa189, qo189, qa203, qo203, qa202, qo202, qa191, qo191, qa200, qo200, qa199, qo199, List.getElem?_cons_zero, List.getElem?_cons_succ, List.length_cons, List.length_nil, ag_nx, ag_dn, ag_no, ag_if, jbr1, jbr2, jc1, jc2, jnul, jld, jsto, jstoL, jst1, jst2, jkill, jinc, jbI, jbL, jbS, juI, jl2i, jcmp, jisR, jisI, jisL, jret, jretv, jfits, jdup, jdup2, jpop, jmm, jcat, Value.category, jinv, jrcv, jthr, jhd, jput, jget, jlen, jald, jast, jaast, jgI, jgL, jgB, jtab, jlku, jacp, vf20, vf21, vf22, vf23, vf24, u2_s, u2_k, u2_i, uc_s, uc_k, uc_c, u2_c, LI0, LI1, LI2, LI3, LI4, LI5, LI6, LI7, LI8, LI9, LI10, LI11, LI12, LI13, LI14, LI15, LI16, LI17, LI18, LI19, LI20, LI21, LI22, LI23, LI24, LI25, LI26, LI27, LI28, LI29, LI30, LI31, LI32, LI33, LI34, LI35, LI36, LI37, LI40, LI42, LI43, LI45, LI48, LI60, LI61, LI64, LI80, LI300, LI400, LI1000, LI2000, LI2001, LI2047, LI2048, LI100000, LI1000000, LI38, LI39, LI41, LI44, LI46, LI47, LI49, LI50, LI51, LI52, LI53, LI54, LI55, LI56, LI57, LI58, LI59, LI62, LI63, LI65, LI66, LI67, LI68, LI69, LI70, LI71, LI72, LI73, LI74, LI75, LI76, LI77, LI78, LI79, LI81, LI82, LI83, LI84, LI85, LI86, LI87, LI88, LI89, LI90, LI91, LI92, LI93, LI94, LI95, LI96, LI97, LI98, LI99, LI100, LI101, LI102, LI103, LI104, LI105, LI106, LI107, LI108, LI109, LI110, LI111, LI112, LI113, LI114, LI115, LI116, LI117, LI118, LI119, LI120, LI121, LI122, LI123, LI124, LI125, LI126, LI127, LI255, LI256, LI999, LI1001, LI1002, LI1600, LI4096, LI1000001, LI2042, LM, nI_clamp, nI_pos', nI_lt, nI_nlt, nI_le, nI_ge, nI_ne, nI_add, nI_sub, mI_lt, mI_le, mI_nlt, mI_nle, mI_ne, mI_ne', mI_nem, s16, s18, nk, t10, t12, t13, t14, t15, t16, t17, e1, e2, e3, e4, e6]
          · obtain ⟨r, hr⟩ : ∃ r, z6.2.2.2.2.2 - z.2.2.2.2.2 + 1 = r + 1 + 1 := ⟨z6.2.2.2.2.2 - z.2.2.2.2.2 - 1, by omega⟩
            rw [hr]
            refine ⟨_, [], (List.append_nil _).symm, by omega, rfl, ⟨j3, ?_, fun y hy => by cases hy⟩, Or.inr ⟨d6.1, g, e, f, l2, l3, j2 - 1, as1, j2, rfl, by omega, d6.2.1, ?_, by omega, by omega, d6.2.2.1, y1, y2, fun y hy => by have := y3 y hy; omega, bR_mono _ _ _ _ _ _ _ _ _ (by omega) (Nat.le_refl _) (Nat.le_refl _) y4, fun y hy => (o25 y hy).2, fun y hy => (o35 y hy).1, Or.inl ⟨d6.2.2.2.1, rfl⟩⟩⟩
            · intro y hy
              simp only [List.mem_append, List.mem_cons, List.not_mem_nil, or_false] at hy
              rcases hy with (hy | hy) | hy
              · have := (o25 y hy).2; omega
              · rw [hy]; show j2 - 1 < j3; omega
              · exact (o35 y hy).2
            · exact xR_mono _ _ _ _ _ _ _ (by unfold ED; omega) (by omega) (by omega) (xR_z (rSt_trans st3 st6) he2 x2)
  · exact absurd hK hn
/-- anything else can't stand; an if where no bracket may be opened -/
theorem r201z (hc : rCx A t N m B0 M0) {z : rZ} {j : Nat} (hq : rQ t N m B0 M0 j (8 - g) z) (h26 : KK t N j ≠ 26) (h10 : KK t N j ≠ 10) (h12 : KK t N j ≠ 12) (h13 : KK t N j ≠ 13) (h14 : KK t N j ≠ 14) (h15 : KK t N j ≠ 15) (h16 : KK t N j ≠ 16) (h17 : KK t N j ≠ 17) (h18 : KK t N j ≠ 18) : ∃ z', jcall A jcode (d + x + 4 * g + 14 + 1) 201 [.ref (b + 241)] (HZ h b J R z) = some (.inr 11, HZ h b J R z') ∧ rF t N m B0 M0 j z' ∧ rSt z z' := by
  have hk := okK_lt (KK_e (t := t) (N := N) (j := j)).1
  have hT := rTk_k hq.2.1
  have s16 := hT.2.1
  have nk : ¬ kcd (KK t N j) = nI 1 := fun z => absurd ((kcd_1 _ hk).mp z) (by omega)
  have t10 := r189 (d := d + x + 4 * g + 7) (A := A) (b := b) (h := h) (J := J) (R := R) (k0 := 10) hc hq (by omega) (by omega)
  have t10 : jcall A jcode (d + x + 4 * g + 14) 189 [.ref (b + 241), .int (nI 8)] (HZ h b J R z) = some (.inl (some (.int (nI 0))), HZ h b J R z) := by
    rcases t10 with ⟨z1, _⟩ | ⟨_, e⟩
    · exact absurd z1 h10
    · rw [show wcd 10 = nI 8 by decide] at e; exact e
  have t12 := r189 (d := d + x + 4 * g + 7) (A := A) (b := b) (h := h) (J := J) (R := R) (k0 := 12) hc hq (by omega) (by omega)
  have t12 : jcall A jcode (d + x + 4 * g + 14) 189 [.ref (b + 241), .int (nI 10)] (HZ h b J R z) = some (.inl (some (.int (nI 0))), HZ h b J R z) := by
    rcases t12 with ⟨z1, _⟩ | ⟨_, e⟩
    · exact absurd z1 h12
    · rw [show wcd 12 = nI 10 by decide] at e; exact e
  have t13 := r189 (d := d + x + 4 * g + 7) (A := A) (b := b) (h := h) (J := J) (R := R) (k0 := 13) hc hq (by omega) (by omega)
  have t13 : jcall A jcode (d + x + 4 * g + 14) 189 [.ref (b + 241), .int (nI 11)] (HZ h b J R z) = some (.inl (some (.int (nI 0))), HZ h b J R z) := by
    rcases t13 with ⟨z1, _⟩ | ⟨_, e⟩
    · exact absurd z1 h13
    · rw [show wcd 13 = nI 11 by decide] at e; exact e
  have t14 := r189 (d := d + x + 4 * g + 7) (A := A) (b := b) (h := h) (J := J) (R := R) (k0 := 14) hc hq (by omega) (by omega)
  have t14 : jcall A jcode (d + x + 4 * g + 14) 189 [.ref (b + 241), .int (nI 12)] (HZ h b J R z) = some (.inl (some (.int (nI 0))), HZ h b J R z) := by
    rcases t14 with ⟨z1, _⟩ | ⟨_, e⟩
    · exact absurd z1 h14
    · rw [show wcd 14 = nI 12 by decide] at e; exact e
  have t15 := r189 (d := d + x + 4 * g + 7) (A := A) (b := b) (h := h) (J := J) (R := R) (k0 := 15) hc hq (by omega) (by omega)
  have t15 : jcall A jcode (d + x + 4 * g + 14) 189 [.ref (b + 241), .int (nI 13)] (HZ h b J R z) = some (.inl (some (.int (nI 0))), HZ h b J R z) := by
    rcases t15 with ⟨z1, _⟩ | ⟨_, e⟩
    · exact absurd z1 h15
    · rw [show wcd 15 = nI 13 by decide] at e; exact e
  have t16 := r189 (d := d + x + 4 * g + 7) (A := A) (b := b) (h := h) (J := J) (R := R) (k0 := 16) hc hq (by omega) (by omega)
  have t16 : jcall A jcode (d + x + 4 * g + 14) 189 [.ref (b + 241), .int (nI 14)] (HZ h b J R z) = some (.inl (some (.int (nI 0))), HZ h b J R z) := by
    rcases t16 with ⟨z1, _⟩ | ⟨_, e⟩
    · exact absurd z1 h16
    · rw [show wcd 16 = nI 14 by decide] at e; exact e
  have t17 := r189 (d := d + x + 4 * g + 7) (A := A) (b := b) (h := h) (J := J) (R := R) (k0 := 17) hc hq (by omega) (by omega)
  have t17 : jcall A jcode (d + x + 4 * g + 14) 189 [.ref (b + 241), .int (nI 15)] (HZ h b J R z) = some (.inl (some (.int (nI 0))), HZ h b J R z) := by
    rcases t17 with ⟨z1, _⟩ | ⟨_, e⟩
    · exact absurd z1 h17
    · rw [show wcd 17 = nI 15 by decide] at e; exact e
  rcases r191 (d := d + x + 4 * g + 6) (A := A) (b := b) (h := h) (J := J) (R := R) (k0 := 18) hc hq (by omega) (by omega) with ⟨hK, _⟩ | ⟨_, z1, e1, F1, st1⟩
  · exact absurd hK h18
  · rw [show wcd 18 = nI 16 by decide] at e1
    refine ⟨z1, ?_, F1, st1⟩
    simp (disch := omega) [je201, r201_0, r201_1, r201_4, r201_5, r201_6, r201_9, r201_10, r201_13, r201_14, r201_17, r201_18, r201_19, r201_21, r201_24, r201_25, r201_28, r201_29, r201_30, r201_32, r201_35, r201_36, r201_38, r201_39, r201_40, r201_41, r201_42, r201_45, r201_46, r201_47, r201_49, r201_52, r201_55, r201_56, r201_57, r201_60, r201_61, r201_62, r201_64, r201_67, r201_70, r201_71, r201_74, r201_75, r201_76, r201_79, r201_80, r201_81, r201_83, r201_86, r201_87, r201_89, r201_90, r201_91, r201_92, r201_93, r201_96, r201_97, r201_98, r201_100, r201_103, r201_106, r201_107, r201_109, r201_112, r201_113, r201_114, r201_116, r201_119, r201_122, r201_123, r201_125, r201_128, r201_129, r201_130, r201_132, r201_135, r201_138, r201_139, r201_141, r201_144, r201_145, r201_146, r201_148, r201_151, r201_154, r201_155, r201_157, r201_160, r201_161, r201_163, r201_164, r201_165, r201_166, r201_167, r201_170, r201_171, r201_172, r201_174, r201_177, r201_180, r201_181, r201_184, r201_185, r201_186, r201_188, r201_191, r201_192, r201_194, r201_195, r201_196, r201_197, r201_198, r201_201, r201_202, r201_203, r201_205, r201_208, r201_209, r201_212, r201_213, r201_214, r201_217, r201_218, r201_219, r201_221, r201_222, r201_224, r201_227, r201_230, r201_231, r201_234, r201_236, r201_237, r201_239, r201_240, r201_241, r201_243, r201_244, r201_247, g241, vf12_18, vf12_16, qa192, qo192, qa190, qo190, qa195, qo195, qa193, qo193, qa189, qo189, qa203, qo203, qa202, qo202, qa191, qo191, qa200, qo200, qa199, qo199, List.getElem?_cons_zero, List.getElem?_cons_succ, List.length_cons, List.length_nil, ag_nx, ag_dn, ag_no, ag_if, jbr1, jbr2, jc1, jc2, jnul, jld, jsto, jstoL, jst1, jst2, jkill, jinc, jbI, jbL, jbS, juI, jl2i, jcmp, jisR, jisI, jisL, jret, jretv, jfits, jdup, jdup2, jpop, jmm, jcat, Value.category, jinv, jrcv, jthr, jhd, jput, jget, jlen, jald, jast, jaast, jgI, jgL, jgB, jtab, jlku, jacp, vf20, vf21, vf22, vf23, vf24, u2_s, u2_k, u2_i, uc_s, uc_k, uc_c, u2_c, LI0, LI1, LI2, LI3, LI4, LI5, LI6, LI7, LI8, LI9, LI10, LI11, LI12, LI13, LI14, LI15, LI16, LI17, LI18, LI19, LI20, LI21, LI22, LI23, LI24, LI25, LI26, LI27, LI28, LI29, LI30, LI31, LI32, LI33, LI34, LI35, LI36, LI37, LI40, LI42, LI43, LI45, LI48, LI60, LI61, LI64, LI80, LI300, LI400, LI1000, LI2000, LI2001, LI2047, LI2048, LI100000, LI1000000, LI38, LI39, LI41, LI44, LI46, LI47, LI49, LI50, LI51, LI52, LI53, LI54, LI55, LI56, LI57, LI58, LI59, LI62, LI63, LI65, LI66, LI67, LI68, LI69, LI70, LI71, LI72, LI73, LI74, LI75, LI76, LI77, LI78, LI79, LI81, LI82, LI83, LI84, LI85, LI86, LI87, LI88, LI89, LI90, LI91, LI92, LI93, LI94, LI95, LI96, LI97, LI98, LI99, LI100, LI101, LI102, LI103, LI104, LI105, LI106, LI107, LI108, LI109, LI110, LI111, LI112, LI113, LI114, LI115, LI116, LI117, LI118, LI119, LI120, LI121, LI122, LI123, LI124, LI125, LI126, LI127, LI255, LI256, LI999, LI1001, LI1002, LI1600, LI4096, LI1000001, LI2042, LM, nI_clamp, nI_pos', nI_lt, nI_nlt, nI_le, nI_ge, nI_ne, nI_add, nI_sub, mI_lt, mI_le, mI_nlt, mI_nle, mI_ne, mI_ne', mI_nem, s16, nk, t10, t12, t13, t14, t15, t16, t17, e1]
theorem r201w (hc : rCx A t N m B0 M0) {z : rZ} {j : Nat} (hq : rQ t N m B0 M0 j 8 z) (hK : KK t N j = 18) : ∃ z', jcall A jcode (d + x + 4 * 0 + 14 + 1) 201 [.ref (b + 241)] (HZ h b J R z) = some (.inr 11, HZ h b J R z') ∧ rF t N m B0 M0 (j + 1) z' ∧ rSt z z' := by
  have hk := okK_lt (KK_e (t := t) (N := N) (j := j)).1
  have hT := rTk_k hq.2.1
  have s16 := hT.2.1
  have nk : ¬ kcd (KK t N j) = nI 1 := fun z => absurd ((kcd_1 _ hk).mp z) (by omega)
  have t10 := r189 (d := d + x + 4 * 0 + 7) (A := A) (b := b) (h := h) (J := J) (R := R) (k0 := 10) hc hq (by omega) (by omega)
  have t10 : jcall A jcode (d + x + 4 * 0 + 14) 189 [.ref (b + 241), .int (nI 8)] (HZ h b J R z) = some (.inl (some (.int (nI 0))), HZ h b J R z) := by
    rcases t10 with ⟨z1, _⟩ | ⟨_, e⟩
    · omega
    · rw [show wcd 10 = nI 8 by decide] at e; exact e
  have t12 := r189 (d := d + x + 4 * 0 + 7) (A := A) (b := b) (h := h) (J := J) (R := R) (k0 := 12) hc hq (by omega) (by omega)
  have t12 : jcall A jcode (d + x + 4 * 0 + 14) 189 [.ref (b + 241), .int (nI 10)] (HZ h b J R z) = some (.inl (some (.int (nI 0))), HZ h b J R z) := by
    rcases t12 with ⟨z1, _⟩ | ⟨_, e⟩
    · omega
    · rw [show wcd 12 = nI 10 by decide] at e; exact e
  have t13 := r189 (d := d + x + 4 * 0 + 7) (A := A) (b := b) (h := h) (J := J) (R := R) (k0 := 13) hc hq (by omega) (by omega)
  have t13 : jcall A jcode (d + x + 4 * 0 + 14) 189 [.ref (b + 241), .int (nI 11)] (HZ h b J R z) = some (.inl (some (.int (nI 0))), HZ h b J R z) := by
    rcases t13 with ⟨z1, _⟩ | ⟨_, e⟩
    · omega
    · rw [show wcd 13 = nI 11 by decide] at e; exact e
  have t14 := r189 (d := d + x + 4 * 0 + 7) (A := A) (b := b) (h := h) (J := J) (R := R) (k0 := 14) hc hq (by omega) (by omega)
  have t14 : jcall A jcode (d + x + 4 * 0 + 14) 189 [.ref (b + 241), .int (nI 12)] (HZ h b J R z) = some (.inl (some (.int (nI 0))), HZ h b J R z) := by
    rcases t14 with ⟨z1, _⟩ | ⟨_, e⟩
    · omega
    · rw [show wcd 14 = nI 12 by decide] at e; exact e
  have t15 := r189 (d := d + x + 4 * 0 + 7) (A := A) (b := b) (h := h) (J := J) (R := R) (k0 := 15) hc hq (by omega) (by omega)
  have t15 : jcall A jcode (d + x + 4 * 0 + 14) 189 [.ref (b + 241), .int (nI 13)] (HZ h b J R z) = some (.inl (some (.int (nI 0))), HZ h b J R z) := by
    rcases t15 with ⟨z1, _⟩ | ⟨_, e⟩
    · omega
    · rw [show wcd 15 = nI 13 by decide] at e; exact e
  have t16 := r189 (d := d + x + 4 * 0 + 7) (A := A) (b := b) (h := h) (J := J) (R := R) (k0 := 16) hc hq (by omega) (by omega)
  have t16 : jcall A jcode (d + x + 4 * 0 + 14) 189 [.ref (b + 241), .int (nI 14)] (HZ h b J R z) = some (.inl (some (.int (nI 0))), HZ h b J R z) := by
    rcases t16 with ⟨z1, _⟩ | ⟨_, e⟩
    · omega
    · rw [show wcd 16 = nI 14 by decide] at e; exact e
  have t17 := r189 (d := d + x + 4 * 0 + 7) (A := A) (b := b) (h := h) (J := J) (R := R) (k0 := 17) hc hq (by omega) (by omega)
  have t17 : jcall A jcode (d + x + 4 * 0 + 14) 189 [.ref (b + 241), .int (nI 15)] (HZ h b J R z) = some (.inl (some (.int (nI 0))), HZ h b J R z) := by
    rcases t17 with ⟨z1, _⟩ | ⟨_, e⟩
    · omega
    · rw [show wcd 17 = nI 15 by decide] at e; exact e
  rcases r191 (d := d + x + 4 * 0 + 6) (A := A) (b := b) (h := h) (J := J) (R := R) (k0 := 18) hc hq (by omega) (by omega) with ⟨_, z1, e1, q1, st1, n1, f1⟩ | ⟨hn, _⟩
  · rw [show wcd 18 = nI 16 by decide] at e1
    rcases rCond (A := A) (b := b) (h := h) (J := J) (R := R) (pr := 0) (g := 0) hc (by omega) (d + x + 2) z1 (j + 1) q1 with ⟨z2, j2, a2, e2, F2, st2⟩ | ⟨z2, l2, j2, e, a2, _⟩
    · have : j2 = j + 1 := by cases a2; rfl
      subst this
      rw [show d + x + 2 + (4 * 0 + 12) = d + x + 4 * 0 + 14 by omega] at e2
      refine ⟨z2, ?_, F2, rSt_trans st1 st2⟩
      simp (disch := omega) [je201, r201_0, r201_1, r201_4, r201_5, r201_6, r201_9, r201_10, r201_13, r201_14, r201_17, r201_18, r201_19, r201_21, r201_24, r201_25, r201_28, r201_29, r201_30, r201_32, r201_35, r201_36, r201_38, r201_39, r201_40, r201_41, r201_42, r201_45, r201_46, r201_47, r201_49, r201_52, r201_55, r201_56, r201_57, r201_60, r201_61, r201_62, r201_64, r201_67, r201_70, r201_71, r201_74, r201_75, r201_76, r201_79, r201_80, r201_81, r201_83, r201_86, r201_87, r201_89, r201_90, r201_91, r201_92, r201_93, r201_96, r201_97, r201_98, r201_100, r201_103, r201_106, r201_107, r201_109, r201_112, r201_113, r201_114, r201_116, r201_119, r201_122, r201_123, r201_125, r201_128, r201_129, r201_130, r201_132, r201_135, r201_138, r201_139, r201_141, r201_144, r201_145, r201_146, r201_148, r201_151, r201_154, r201_155, r201_157, r201_160, r201_161, r201_163, r201_164, r201_165, r201_166, r201_167, r201_170, r201_171, r201_172, r201_174, r201_177, r201_180, r201_181, r201_184, r201_185, r201_186, r201_188, r201_191, r201_192, r201_194, r201_195, r201_196, r201_197, r201_198, r201_201, r201_202, r201_203, r201_205, r201_208, r201_209, r201_212, r201_213, r201_214, r201_217, r201_218, r201_219, r201_221, r201_222, r201_224, r201_227, r201_230, r201_231, r201_234, r201_236, r201_237, r201_239, r201_240, r201_241, r201_243, r201_244, r201_247, g241, vf12_18, vf12_16, qa192, qo192, qa190, qo190, qa195, qo195, qa193, qo193, qa189, qo189, qa203, qo203, qa202, qo202, qa191, qo191, qa200, qo200, qa199, qo199, List.getElem?_cons_zero, List.getElem?_cons_succ, List.length_cons, List.length_nil, ag_nx, ag_dn, ag_no, ag_if, jbr1, jbr2, jc1, jc2, jnul, jld, jsto, jstoL, jst1, jst2, jkill, jinc, jbI, jbL, jbS, juI, jl2i, jcmp, jisR, jisI, jisL, jret, jretv, jfits, jdup, jdup2, jpop, jmm, jcat, Value.category, jinv, jrcv, jthr, jhd, jput, jget, jlen, jald, jast, jaast, jgI, jgL, jgB, jtab, jlku, jacp, vf20, vf21, vf22, vf23, vf24, u2_s, u2_k, u2_i, uc_s, uc_k, uc_c, u2_c, LI0, LI1, LI2, LI3, LI4, LI5, LI6, LI7, LI8, LI9, LI10, LI11, LI12, LI13, LI14, LI15, LI16, LI17, LI18, LI19, LI20, LI21, LI22, LI23, LI24, LI25, LI26, LI27, LI28, LI29, LI30, LI31, LI32, LI33, LI34, LI35, LI36, LI37, LI40, LI42, LI43, LI45, LI48, LI60, LI61, LI64, LI80, LI300, LI400, LI1000, LI2000, LI2001, LI2047, LI2048, LI100000, LI1000000, LI38, LI39, LI41, LI44, LI46, LI47, LI49, LI50, LI51, LI52, LI53, LI54, LI55, LI56, LI57, LI58, LI59, LI62, LI63, LI65, LI66, LI67, LI68, LI69, LI70, LI71, LI72, LI73, LI74, LI75, LI76, LI77, LI78, LI79, LI81, LI82, LI83, LI84, LI85, LI86, LI87, LI88, LI89, LI90, LI91, LI92, LI93, LI94, LI95, LI96, LI97, LI98, LI99, LI100, LI101, LI102, LI103, LI104, LI105, LI106, LI107, LI108, LI109, LI110, LI111, LI112, LI113, LI114, LI115, LI116, LI117, LI118, LI119, LI120, LI121, LI122, LI123, LI124, LI125, LI126, LI127, LI255, LI256, LI999, LI1001, LI1002, LI1600, LI4096, LI1000001, LI2042, LM, nI_clamp, nI_pos', nI_lt, nI_nlt, nI_le, nI_ge, nI_ne, nI_add, nI_sub, mI_lt, mI_le, mI_nlt, mI_nle, mI_ne, mI_ne', mI_nem, s16, nk, t10, t12, t13, t14, t15, t16, t17, e1, e2]
    · cases a2
  · exact absurd hK hn
end RIF
