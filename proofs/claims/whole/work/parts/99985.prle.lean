/-! names are looked up: blocks -/
section RLD
variable {A : Nat → Nat} {b n : Nat} {h : Nat → Option jC} {X : jXX} {J : Nat → Nat → Int64} {R : Nat → Nat → Nat} {t : Nat → Int32} {N M nn pr p : Nat} {fp : Int32} {ls ss ps : List Nat} {F : List qPr} {c0 : qPr} {G : Int32 → Int32}
theorem r215l (hcap : ∀ k, 251 ≤ k → k ≤ 258 → M ≤ cp X k) (hM : M ≤ 2 ^ 18) (hnn : nn ≤ 2 ^ 20) (hF : F[pr]? = some c0) (hpr : pr < 6) (hN : N ≤ 2000) : ∀ (r g lo : Nat) (as : List Nat) (L : Nat) (l : List oT) (I : Nat → Nat → Int32) (x : Int32) (d hi : Nat) (y1 : Int32), bR t N I nn pr r g lo as L l → chn I x as → (∀ a, a ∈ as → a < hi) → hi ≤ M → p < lo → lEn t N I nn M p fp ls ss ps c0 F G → lkQ A b n h X J R t N nn pr F G r g lo hi d (some (.int y1)) x as L l I := by
  intro r
  induction r with
  | zero => intro g lo as L l I x d hi y1 hb; exact hb.elim
  | succ r ih =>
    intro g lo as L l I x d hi y1 hb hch hx hhi hp hE
    cases as with
    | nil =>
      have hx : x = mI 1 := hch
      have hl : l = [] := hb
      refine ⟨I, fA_refl, Or.inr ⟨by rw [hl]; exact fun y hy => (by cases hy), ?_, hl⟩⟩
      rw [hx]
      conv => lhs; rw [r215_7]
      simp (disch := omega) [r215_0, r215_1, r215_4, r215_5, r215_6, r215_8, r215_11, r215_12, r215_15, r215_16, r215_17, r215_68, r215_69, r215_72, r215_73, r215_74, r215_75, r215_78, r215_79, r215_82, r215_83, r215_84, r215_87, r215_88, r215_89, r215_90, r215_93, r215_94, r215_95, r215_98, r215_99, r215_100, r215_101, r215_104, r215_105, r215_106, r215_109, r215_112, r215_113, r215_116, r215_117, r215_118, r215_121, r215_122, r215_123, r215_126, r215_127, r215_128, r215_131, r215_132, r215_135, r215_136, r215_137, r215_140, r215_141, r215_144, r215_145, r215_146, r215_147, r215_150, r215_151, r215_154, r215_155, r215_156, r215_157, r215_160, r215_161, r215_162, r215_165, r215_166, r215_169, r215_170, r215_171, r215_174, r215_175, r215_176, r215_179, r215_182, r215_183, r215_186, r215_187, r215_188, r215_189, r215_192, r215_193, r215_196, r215_197, r215_198, r215_199, r215_202, r215_203, r215_204, r215_207, r215_208, r215_211, r215_212, r215_215, r215_216, r215_217, r215_218, r215_221, r215_222, r215_225, r215_226, r215_227, r215_230, r215_231, r215_232, r215_233, r215_236, r215_237, r215_238, r215_241, r215_242, r215_245, r215_246, r215_247, r215_250, r215_251, r215_252, r215_255, r215_258, r215_259, r215_260, r215_263, r215_264, r215_265, r215_268, r215_269, r215_270, r215_273, r215_274, r215_275, r215_278, r215_279, r215_282, r215_283, r215_284, r215_287, r215_288, r215_289, r215_292, r215_293, r215_294, r215_297, r215_300, r215_301, r215_304, r215_305, r215_306, r215_307, r215_310, g241, vf12_22, t241_22, g252, p252, vf12_21, t241_21, g251, p251, vf12_24, t241_24, g254, p254, vf12_23, t241_23, g253, p253, vf12_32, vf12_26, t241_26, g256, p256, qa213, qo213, qa216, qo216, vf12_28, t241_28, g258, p258, vf12_27, t241_27, g257, p257, vf12_31, qa215, qo215, vf12_25, t241_25, g255, p255, List.getElem?_cons_zero, List.getElem?_cons_succ, List.length_cons, List.length_nil, ag_nx, ag_dn, ag_no, ag_if, jbr1, jbr2, jc1, jc2, jnul, jld, jsto, jstoL, jst1, jst2, jkill, jinc, jbI, jbL, jbS, juI, jl2i, jcmp, jisR, jisI, jisL, jret, jretv, jfits, jdup, jdup2, jpop, jmm, jcat, Value.category, jinv, jrcv, jthr, jhd, jput, jget, jlen, jald, jast, jaast, jgI, jgL, jgB, jtab, jlku, jacp, vf20, vf21, vf22, vf23, vf24, u2_s, u2_k, u2_i, uc_s, uc_k, uc_c, u2_c, LI0, LI1, LI2, LI3, LI4, LI5, LI6, LI7, LI8, LI9, LI10, LI11, LI12, LI13, LI14, LI15, LI16, LI17, LI18, LI19, LI20, LI21, LI22, LI23, LI24, LI25, LI26, LI27, LI28, LI29, LI30, LI31, LI32, LI33, LI34, LI35, LI36, LI37, LI40, LI42, LI43, LI45, LI48, LI60, LI61, LI64, LI80, LI300, LI400, LI1000, LI2000, LI2001, LI2047, LI2048, LI100000, LI1000000, LI38, LI39, LI41, LI44, LI46, LI47, LI49, LI50, LI51, LI52, LI53, LI54, LI55, LI56, LI57, LI58, LI59, LI62, LI63, LI65, LI66, LI67, LI68, LI69, LI70, LI71, LI72, LI73, LI74, LI75, LI76, LI77, LI78, LI79, LI81, LI82, LI83, LI84, LI85, LI86, LI87, LI88, LI89, LI90, LI91, LI92, LI93, LI94, LI95, LI96, LI97, LI98, LI99, LI100, LI101, LI102, LI103, LI104, LI105, LI106, LI107, LI108, LI109, LI110, LI111, LI112, LI113, LI114, LI115, LI116, LI117, LI118, LI119, LI120, LI121, LI122, LI123, LI124, LI125, LI126, LI127, LI255, LI256, LI999, LI1001, LI1002, LI1600, LI4096, LI1000001, LI2042, LM, nI_clamp, nI_pos', nI_lt, nI_nlt, nI_le, nI_ge, nI_ne, nI_add, nI_sub, mI_lt, mI_le, mI_nlt, mI_nle, mI_ne, mI_ne', mI_nem, nI_toInt]
    | cons a as =>
      obtain ⟨l1, l2, h1, h2, h3, ⟨mid, m1, m2⟩, h5⟩ := hb
      obtain ⟨r0, hr0⟩ : ∃ r0, r = r0 + 1 := by
        cases r with
        | zero => exact h3.elim
        | succ r => exact ⟨r, rfl⟩
      have hah := hx a List.mem_cons_self
      have ha : a < M := by omega
      have h255 : a < cp X 255 := Nat.lt_of_lt_of_le ha (hcap 255 (by omega) (by omega))
      have STEP : ∃ I1, fA lo (a + 1) I I1 ∧ ((∃ u, lsU (eqY t N) F u l1 ∧ M215 A (d + ED + 3 + g) 7 [some (.ref (b + 241)), some (.int y1), some (.int (nI a))] [] (jH h b X I J R n) = some (.inr 11, jH h b X (u2 I1 241 2 (nI (tpos t N u))) J R n)) ∨ (nnU (eqY t N) F l1 ∧ M215 A (d + ED + 3 + g) 7 [some (.ref (b + 241)), some (.int y1), some (.int (nI a))] [] (jH h b X I J R n) = M215 A (d + ED + 3 + g) 300 [some (.ref (b + 241)), some (.int y1), some (.int (nI a))] [] (jH h b X I1 J R n) ∧ bRl t N I1 nn pr G F (r + 1) g lo [a] L l1)) := by
        have hone : ∀ I1 : Nat → Nat → Int32, bRl t N I1 nn pr G F r g (a + 1) [] (L + l1.length) [] := fun I1 => by rw [hr0]; rfl
        rcases h5 with h5 | ⟨a0, g', e, f, le, lb, tk, as1, mm, d1, d2, d3, d4, d5, d6, d7, d8, d9, d10, d11, d12, d13, d14⟩
        · obtain ⟨I1, k1, k2⟩ := r215e (A := A) (b := b) (n := n) (h := h) (J := J) (R := R) (d := d + g) (v1 := some (.int y1)) hcap hM hnn hF hpr hN hp h2 ha hE h5
          rw [show d + g + ED + 3 = d + ED + 3 + g by omega] at k2
          refine ⟨I1, k1, ?_⟩
          rcases k2 with k2 | ⟨k2, k3, k4⟩
          · exact Or.inl k2
          · exact Or.inr ⟨k2, k3, l1, [], (List.append_nil _).symm, h2, hone I1, Or.inl k4⟩
        · obtain ⟨I1, k1, k2⟩ := r215f (A := A) (b := b) (n := n) (h := h) (J := J) (R := R) (d := d) (v1 := some (.int y1)) hcap hM hnn hF hpr hp h2 ha hE ih a0 d1 d2 d3 d4 d5 d6 d7 d8 d9 d10 d11 d12 d13 d14
          refine ⟨I1, k1, ?_⟩
          rcases k2 with k2 | ⟨k2, k3, k4⟩
          · exact Or.inl k2
          · exact Or.inr ⟨k2, k3, l1, [], (List.append_nil _).symm, h2, hone I1, Or.inr k4⟩
      obtain ⟨I1, f1, hr⟩ := STEP
      rw [show x = nI a from hch.1]
      rcases hr with ⟨u, r1, r2⟩ | ⟨r1, r2, r3⟩
      · refine ⟨I1, fA_mono f1 (Nat.le_refl _) (by omega), Or.inl ⟨u, ?_, r2⟩⟩
        rw [h1]
        exact lsU_l r1 m1 (fun y hy _ => m2 y hy)
      · have o1 : ∀ c i, a + 1 ≤ i → I1 c i = I c i := fun c i hi => f1 c i (by omega)
        have bge := bR_ge _ _ _ _ _ _ h3
        have hb1 : bR t N I1 nn pr r g (a + 1) as (L + l1.length) l2 := bR_st r g (a + 1) hi hi as _ l2 (fun c i c1 c2 c3 c4 c5 => o1 c i c3) (fun y hy => ⟨by have := hx y (List.mem_cons_of_mem _ hy); omega, hx y (List.mem_cons_of_mem _ hy)⟩) (fun u _ => fA_rnm f1) (Nat.le_refl _) h3
        have hch1 : chn I1 (I1 255 a) as := by
          rw [f1 255 a (by omega)]
          exact chn_st as _ (fun y hy => f1 _ _ (by omega)) hch.2
        obtain ⟨I2, f2, hr2⟩ := ih g (a + 1) as _ l2 I1 (I1 255 a) d hi y1 hb1 hch1 (fun y hy => hx y (List.mem_cons_of_mem _ hy)) hhi (by omega) (lEn_fA f1 hp hE)
        have e7 : M215 A (d + ED + 3 + g) 300 [some (.ref (b + 241)), some (.int y1), some (.int (nI a))] [] (jH h b X I1 J R n) = M215 A (d + ED + 3 + g) 7 [some (.ref (b + 241)), some (.int y1), some (.int (I1 255 a))] [] (jH h b X I1 J R n) := by
          conv => lhs; rw [r215_300]
          simp (disch := omega) [r215_0, r215_1, r215_4, r215_5, r215_6, r215_8, r215_11, r215_12, r215_15, r215_16, r215_17, r215_68, r215_69, r215_72, r215_73, r215_74, r215_75, r215_78, r215_79, r215_82, r215_83, r215_84, r215_87, r215_88, r215_89, r215_90, r215_93, r215_94, r215_95, r215_98, r215_99, r215_100, r215_101, r215_104, r215_105, r215_106, r215_109, r215_112, r215_113, r215_116, r215_117, r215_118, r215_121, r215_122, r215_123, r215_126, r215_127, r215_128, r215_131, r215_132, r215_135, r215_136, r215_137, r215_140, r215_141, r215_144, r215_145, r215_146, r215_147, r215_150, r215_151, r215_154, r215_155, r215_156, r215_157, r215_160, r215_161, r215_162, r215_165, r215_166, r215_169, r215_170, r215_171, r215_174, r215_175, r215_176, r215_179, r215_182, r215_183, r215_186, r215_187, r215_188, r215_189, r215_192, r215_193, r215_196, r215_197, r215_198, r215_199, r215_202, r215_203, r215_204, r215_207, r215_208, r215_211, r215_212, r215_215, r215_216, r215_217, r215_218, r215_221, r215_222, r215_225, r215_226, r215_227, r215_230, r215_231, r215_232, r215_233, r215_236, r215_237, r215_238, r215_241, r215_242, r215_245, r215_246, r215_247, r215_250, r215_251, r215_252, r215_255, r215_258, r215_259, r215_260, r215_263, r215_264, r215_265, r215_268, r215_269, r215_270, r215_273, r215_274, r215_275, r215_278, r215_279, r215_282, r215_283, r215_284, r215_287, r215_288, r215_289, r215_292, r215_293, r215_294, r215_297, r215_301, r215_304, r215_305, r215_306, r215_307, r215_310, g241, vf12_22, t241_22, g252, p252, vf12_21, t241_21, g251, p251, vf12_24, t241_24, g254, p254, vf12_23, t241_23, g253, p253, vf12_32, vf12_26, t241_26, g256, p256, qa213, qo213, qa216, qo216, vf12_28, t241_28, g258, p258, vf12_27, t241_27, g257, p257, vf12_31, qa215, qo215, vf12_25, t241_25, g255, p255, List.getElem?_cons_zero, List.getElem?_cons_succ, List.length_cons, List.length_nil, ag_nx, ag_dn, ag_no, ag_if, jbr1, jbr2, jc1, jc2, jnul, jld, jsto, jstoL, jst1, jst2, jkill, jinc, jbI, jbL, jbS, juI, jl2i, jcmp, jisR, jisI, jisL, jret, jretv, jfits, jdup, jdup2, jpop, jmm, jcat, Value.category, jinv, jrcv, jthr, jhd, jput, jget, jlen, jald, jast, jaast, jgI, jgL, jgB, jtab, jlku, jacp, vf20, vf21, vf22, vf23, vf24, u2_s, u2_k, u2_i, uc_s, uc_k, uc_c, u2_c, LI0, LI1, LI2, LI3, LI4, LI5, LI6, LI7, LI8, LI9, LI10, LI11, LI12, LI13, LI14, LI15, LI16, LI17, LI18, LI19, LI20, LI21, LI22, LI23, LI24, LI25, LI26, LI27, LI28, LI29, LI30, LI31, LI32, LI33, LI34, LI35, LI36, LI37, LI40, LI42, LI43, LI45, LI48, LI60, LI61, LI64, LI80, LI300, LI400, LI1000, LI2000, LI2001, LI2047, LI2048, LI100000, LI1000000, LI38, LI39, LI41, LI44, LI46, LI47, LI49, LI50, LI51, LI52, LI53, LI54, LI55, LI56, LI57, LI58, LI59, LI62, LI63, LI65, LI66, LI67, LI68, LI69, LI70, LI71, LI72, LI73, LI74, LI75, LI76, LI77, LI78, LI79, LI81, LI82, LI83, LI84, LI85, LI86, LI87, LI88, LI89, LI90, LI91, LI92, LI93, LI94, LI95, LI96, LI97, LI98, LI99, LI100, LI101, LI102, LI103, LI104, LI105, LI106, LI107, LI108, LI109, LI110, LI111, LI112, LI113, LI114, LI115, LI116, LI117, LI118, LI119, LI120, LI121, LI122, LI123, LI124, LI125, LI126, LI127, LI255, LI256, LI999, LI1001, LI1002, LI1600, LI4096, LI1000001, LI2042, LM, nI_clamp, nI_pos', nI_lt, nI_nlt, nI_le, nI_ge, nI_ne, nI_add, nI_sub, mI_lt, mI_le, mI_nlt, mI_nle, mI_ne, mI_ne', mI_nem, nI_toInt, h255]
        refine ⟨I2, fA_trans (fA_mono f1 (Nat.le_refl _) (by omega)) (fA_mono f2 (by omega) (Nat.le_refl _)), ?_⟩
        rcases hr2 with ⟨u, r4, r5⟩ | ⟨r4, r5, r6⟩
        · refine Or.inl ⟨u, by rw [h1]; exact lsU_r r1 r4, ?_⟩
          rw [r2, e7]
          exact r5
        · refine Or.inr ⟨by rw [h1]; exact nnU_app r1 r4, ?_, ?_⟩
          · rw [r2, e7]
            exact r5
          · have r7 := bRl_st (I' := I2) (r + 1) g lo (a + 1) [a] L l1 (by omega) (fun c i c1 c2 c3 c4 => f2 c i (by omega)) (fun y hy => by rw [List.mem_singleton.mp hy]; omega) (fun u _ => fA_rnm f2) r3
            obtain ⟨l1', l2', k1, k2, k3, k4⟩ := r7
            have k5 : l2' = [] := by rw [hr0] at k3; exact k3
            rw [k5, List.append_nil] at k1
            rw [← k1] at k4
            exact ⟨l1, l2, h1, h2, r6, k4⟩
/-- a whole body: the block x -/
theorem r215w (hcap : ∀ k, 251 ≤ k → k ≤ 258 → M ≤ cp X k) (hM : M ≤ 2 ^ 18) (hnn : nn ≤ 2 ^ 20) (hF : F[pr]? = some c0) (hpr : pr < 6) (hN : N ≤ 2000) {I : Nat → Nat → Int32} {x hi d : Nat} {o : Nat × List oT} (hb : bkR t N I nn pr hi x o) (hhi : hi ≤ M) (hp : p < x) (hE : lEn t N I nn M p fp ls ss ps c0 F G) : ∃ I', fA (x + 1) hi I I' ∧ ((∃ u, lsU (eqY t N) F u o.2 ∧ jcall A jcode (d + ED + 11) 215 [.ref (b + 241), .int (nI x)] (jH h b X I J R n) = some (.inr 11, jH h b X (u2 I' 241 2 (nI (tpos t N u))) J R n)) ∨ (nnU (eqY t N) F o.2 ∧ jcall A jcode (d + ED + 11) 215 [.ref (b + 241), .int (nI x)] (jH h b X I J R n) = some (.inl none, (jH h b X I' J R n)) ∧ ∃ as l tk, o.2 = l ++ [oz pr 28 tk] ∧ I' 251 x = nI 19 ∧ chn I' (I' 252 x) as ∧ (∀ y, y ∈ as → y < hi) ∧ bRl t N I' nn pr G F RD 7 (x + 1) as o.1 l)) := by
  obtain ⟨h1, h2, as, l, tk, h3, h4, h5, _, h6, h7⟩ := hb
  have c2 := hcap 252 (by omega) (by omega)
  have hu : nnU (eqY t N) F [oz pr 28 tk] := nnU_1 (ukO_z (pr := pr) (by omega))
  obtain ⟨I', f1, hr⟩ := r215l (A := A) (b := b) (n := n) (h := h) (J := J) (R := R) hcap hM hnn hF hpr hN RD 7 (x + 1) as o.1 l I (I 252 x) d hi (nI x) h6 h4 h5 hhi (by omega) hE
  have e := c215 (A := A) (b := b) (n := n) (h := h) (J := J) (R := R) (D := d + ED + 3 + 7) (f := x) (I := I) (X := X) (by omega) (by omega)
  rw [← e] at hr
  refine ⟨I', f1, ?_⟩
  rcases hr with ⟨u, r1, r2⟩ | ⟨r1, r2, r3⟩
  · exact Or.inl ⟨u, by rw [h3]; exact lsU_n r1 hu, r2⟩
  · refine Or.inr ⟨by rw [h3]; exact nnU_app r1 hu, r2, as, l, tk, h3, (f1 _ _ (by omega)).trans h2, ?_, h5, r3⟩
    rw [f1 252 x (by omega)]
    exact chn_st as _ (fun y hy => f1 _ _ (by omega)) h4
end RLD
