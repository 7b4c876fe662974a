/-! walk: the class remembers a state -/
section RN
variable {A : Nat → Nat} {d b n : Nat} {h : Nat → Option jC} {X : jXX} {I : Nat → Nat → Int32} {J : Nat → Nat → Int64} {R : Nat → Nat → Nat}
theorem H_pAc {v : Nat} {g : Nat → Int32} (hv : gw v = true) : jset (jH h b X I J R n) (b + ad X v) (gtag v, cp X v, fun i => .int (g i)) = jH h b X (uc I v g) J R n := by
  unfold jset jH
  simp only
  congr 1
  funext q
  unfold jup
  by_cases hq : q = b + ad X v
  · subst hq
    rw [if_pos rfl, if_neg (by omega), Nat.add_sub_cancel_left]
    unfold cl
    rw [if_neg (by rw [ad_fx hv]; decide), find_ad hv]
    simp only
    congr 3
    funext i'
    simp [uc]
  · rw [if_neg hq]
    show (if q < b then h q else cl b X I J R (q - b)) = _
    by_cases hb : q < b
    · rw [if_pos hb, if_pos hb]
    · rw [if_neg hb, if_neg hb]
      unfold cl
      by_cases hf : fx (q - b) = true
      · rw [if_pos hf, if_pos hf]
        have h3 : q - b ≠ v := by intro e; rw [e, gw_fx hv] at hf; cases hf
        have h1 : ∀ i', uc I v g (q - b) i' = I (q - b) i' := fun i' => by simp [uc, h3]
        unfold vf
        simp only [h1]
      · rw [if_neg hf, if_neg hf]
        cases hw : gL.find? (fun w => ad X w == q - b) with
        | none => rfl
        | some w =>
          have h1 := List.find?_some hw
          have h3 : ad X w = q - b := by simpa using h1
          have h2 : w ≠ v := by intro e; subst e; omega
          have h4 : ∀ i', uc I v g w i' = I w i' := fun i' => by simp [uc, h2]
          simp only [h4]
theorem cp206 {s d c : Nat} : jset (jH h b X I J R n) (b + ad X 206) (20, cp X 206, va_cpy (vf b 20 X I J R 213) (vf b 20 X I J R 206) s d c) = jH h b X (uc I 206 (cpI (I 213) (I 206) s d c)) J R n := by
  rw [cp_v]
  exact H_pAc (v := 206) (by decide)
theorem c112l {m : Nat} {x z1 z3 z4 z5 z6 : Int32} (ht : tbI I m) (hm0 : m ≤ 1000) : ∀ (r u : Nat), u + r = 2048 → (∀ v, v < u → ¬ I 212 ((hm x + v) % 2048) = mI 1) → ∃ t, t < 2048 ∧ M112 A d 170 [some (.ref (b + 131)), some (.int z1), some (.int x), some (.int z3), some (.int z4), some (.int z5), some (.int z6), some (.int (nI ((hm x + u) % 2048))), some (.int (nI (u)))] [] (jH h b X I J R n) = M112 A d 204 [some (.ref (b + 131)), some (.int z1), some (.int x), some (.int z3), some (.int z4), some (.int z5), some (.int z6), some (.int (nI ((hm x + t) % 2048))), some (.int (nI (t)))] [] (jH h b X I J R n) ∧ I 212 ((hm x + t) % 2048) = mI 1 ∧ ∀ v, v < t → ¬ I 212 ((hm x + v) % 2048) = mI 1 := by
  intro r
  induction r with
  | zero =>
    intro u hu hv
    have : u = 2048 := by omega
    subst this
    have hex : ∀ v, v < 2048 → ∃ e, e < m ∧ I 212 ((hm x + v) % 2048) = nI e := fun v hl => by
      rcases ht.1 _ (Nat.mod_lt (hm x + v) (by omega)) with c | c
      · exact absurd c (hv v hl)
      · exact c
    have := pig m 2048 (fun v => ix (I 212 ((hm x + v) % 2048))) (fun v hl => by
      obtain ⟨e, he, q⟩ := hex v hl
      show ix (I 212 ((hm x + v) % 2048)) < m
      rw [q, ix, nI_clamp (by omega)]
      exact he) (fun s s' hs hs' e => by
      obtain ⟨e1, he1, q1⟩ := hex s hs
      obtain ⟨e2, he2, q2⟩ := hex s' hs'
      have e' : ix (I 212 ((hm x + s) % 2048)) = ix (I 212 ((hm x + s') % 2048)) := e
      rw [q1, q2, ix, ix, nI_clamp (by omega), nI_clamp (by omega)] at e'
      subst e'
      have := ht.2.1 _ _ e1 (Nat.mod_lt (hm x + s) (by omega)) (Nat.mod_lt (hm x + s') (by omega)) he1 q1 q2
      omega)
    omega
  | succ r ih =>
    intro u hu hv
    have hsl : (hm x + u) % 2048 < 2048 := Nat.mod_lt _ (by omega)
    rcases ht.1 _ hsl with hf | ⟨e, he, hf⟩
    · refine ⟨u, by omega, ?_, hf, hv⟩
      conv => lhs; rw [r112_170]
      simp (disch := omega) [r112_0, r112_1, r112_4, r112_7, r112_8, r112_11, r112_14, r112_17, r112_18, r112_21, r112_22, r112_23, r112_26, r112_27, r112_30, r112_31, r112_32, r112_35, r112_38, r112_39, r112_42, r112_43, r112_46, r112_47, r112_50, r112_51, r112_53, r112_54, r112_56, r112_59, r112_61, r112_64, r112_66, r112_67, r112_70, r112_71, r112_72, r112_73, r112_76, r112_77, r112_78, r112_81, r112_82, r112_83, r112_86, r112_88, r112_89, r112_92, r112_93, r112_96, r112_97, r112_100, r112_102, r112_103, r112_104, r112_107, r112_108, r112_111, r112_112, r112_113, r112_115, r112_116, r112_117, r112_118, r112_119, r112_122, r112_123, r112_126, r112_128, r112_129, r112_130, r112_133, r112_134, r112_137, r112_138, r112_139, r112_140, r112_143, r112_144, r112_147, r112_149, r112_150, r112_151, r112_154, r112_155, r112_158, r112_159, r112_160, r112_161, r112_164, r112_165, r112_167, r112_168, r112_172, r112_175, r112_178, r112_179, r112_182, r112_184, r112_185, r112_188, r112_190, r112_191, r112_192, r112_195, r112_196, r112_198, r112_201, r112_205, r112_208, r112_210, r112_211, r112_214, r112_215, r112_216, r112_217, r112_220, r112_221, r112_222, r112_225, g131, vf8_9, vf8_8, t131_8, g213, p213, vf8_2, t131_2, g207, p207, qa113, qo113, vf8_1, t131_1, g206, p206, vf8_3, t131_3, g208, p208, vf8_4, t131_4, g209, p209, vf8_5, t131_5, g210, p210, vf8_6, t131_6, g211, p211, vf8_7, t131_7, g212, p212, p131_9, ty8_9, List.getElem?_cons_zero, List.getElem?_cons_succ, List.length_cons, List.length_nil, ag_nx, ag_dn, ag_no, ag_if, jbr1, jbr2, jc1, jc2, jnul, jld, jsto, jstoL, jst1, jst2, jkill, jinc, jbI, jbL, jbS, juI, jl2i, jcmp, jisR, jisI, jisL, jret, jretv, jfits, jdup, jdup2, jpop, jmm, jcat, Value.category, jinv, jrcv, jthr, jhd, jput, jget, jlen, jald, jast, jaast, jgI, jgL, jgB, jtab, jlku, jacp, vf20, vf21, vf22, vf23, vf24, u2_s, u2_k, u2_i, uc_s, uc_k, uc_c, u2_c, LI0, LI1, LI2, LI3, LI4, LI5, LI6, LI7, LI8, LI9, LI10, LI11, LI12, LI13, LI14, LI15, LI16, LI17, LI18, LI19, LI20, LI21, LI22, LI23, LI24, LI25, LI26, LI27, LI28, LI29, LI30, LI31, LI32, LI33, LI34, LI35, LI36, LI37, LI40, LI42, LI43, LI45, LI48, LI60, LI61, LI64, LI80, LI300, LI400, LI1000, LI2000, LI2001, LI2047, LI2048, LI100000, LI1000000, LM, nI_clamp, nI_pos', nI_lt, nI_nlt, nI_le, nI_ge, nI_ne, nI_add, nI_sub, mI_lt, mI_le, mI_nlt, mI_nle, mI_ne, mI_ne', mI_nem, LI46, LI370, LI370000, LI31, LI15, show u < 2048 by omega, hsl, hf]
    · have hnx := an2k _ hsl
      have hnx2 : ((hm x + u) % 2048 + 1) % 2048 = (hm x + (u + 1)) % 2048 := by omega
      rw [hnx2] at hnx
      obtain ⟨t, t0, e1, t1, t2⟩ := ih (u + 1) (by omega) (fun v hvu => by
        by_cases c : v = u
        · subst c
          rw [hf]
          exact mI_ne (by omega) (by omega) (by omega)
        · exact hv v (by omega))
      refine ⟨t, t0, ?_, t1, t2⟩
      conv => lhs; rw [r112_170]
      simp (disch := omega) [r112_0, r112_1, r112_4, r112_7, r112_8, r112_11, r112_14, r112_17, r112_18, r112_21, r112_22, r112_23, r112_26, r112_27, r112_30, r112_31, r112_32, r112_35, r112_38, r112_39, r112_42, r112_43, r112_46, r112_47, r112_50, r112_51, r112_53, r112_54, r112_56, r112_59, r112_61, r112_64, r112_66, r112_67, r112_70, r112_71, r112_72, r112_73, r112_76, r112_77, r112_78, r112_81, r112_82, r112_83, r112_86, r112_88, r112_89, r112_92, r112_93, r112_96, r112_97, r112_100, r112_102, r112_103, r112_104, r112_107, r112_108, r112_111, r112_112, r112_113, r112_115, r112_116, r112_117, r112_118, r112_119, r112_122, r112_123, r112_126, r112_128, r112_129, r112_130, r112_133, r112_134, r112_137, r112_138, r112_139, r112_140, r112_143, r112_144, r112_147, r112_149, r112_150, r112_151, r112_154, r112_155, r112_158, r112_159, r112_160, r112_161, r112_164, r112_165, r112_167, r112_168, r112_172, r112_175, r112_178, r112_179, r112_182, r112_184, r112_185, r112_188, r112_190, r112_191, r112_192, r112_195, r112_196, r112_198, r112_201, r112_205, r112_208, r112_210, r112_211, r112_214, r112_215, r112_216, r112_217, r112_220, r112_221, r112_222, r112_225, g131, vf8_9, vf8_8, t131_8, g213, p213, vf8_2, t131_2, g207, p207, qa113, qo113, vf8_1, t131_1, g206, p206, vf8_3, t131_3, g208, p208, vf8_4, t131_4, g209, p209, vf8_5, t131_5, g210, p210, vf8_6, t131_6, g211, p211, vf8_7, t131_7, g212, p212, p131_9, ty8_9, List.getElem?_cons_zero, List.getElem?_cons_succ, List.length_cons, List.length_nil, ag_nx, ag_dn, ag_no, ag_if, jbr1, jbr2, jc1, jc2, jnul, jld, jsto, jstoL, jst1, jst2, jkill, jinc, jbI, jbL, jbS, juI, jl2i, jcmp, jisR, jisI, jisL, jret, jretv, jfits, jdup, jdup2, jpop, jmm, jcat, Value.category, jinv, jrcv, jthr, jhd, jput, jget, jlen, jald, jast, jaast, jgI, jgL, jgB, jtab, jlku, jacp, vf20, vf21, vf22, vf23, vf24, u2_s, u2_k, u2_i, uc_s, uc_k, uc_c, u2_c, LI0, LI1, LI2, LI3, LI4, LI5, LI6, LI7, LI8, LI9, LI10, LI11, LI12, LI13, LI14, LI15, LI16, LI17, LI18, LI19, LI20, LI21, LI22, LI23, LI24, LI25, LI26, LI27, LI28, LI29, LI30, LI31, LI32, LI33, LI34, LI35, LI36, LI37, LI40, LI42, LI43, LI45, LI48, LI60, LI61, LI64, LI80, LI300, LI400, LI1000, LI2000, LI2001, LI2047, LI2048, LI100000, LI1000000, LM, nI_clamp, nI_pos', nI_lt, nI_nlt, nI_le, nI_ge, nI_ne, nI_add, nI_sub, mI_lt, mI_le, mI_nlt, mI_nle, mI_ne, mI_ne', mI_nem, LI46, LI370, LI370000, LI31, LI15, show u < 2048 by omega, hsl, hf, hnx, e1]
end RN
section RO
variable {A : Nat → Nat} {d b n : Nat} {h : Nat → Option jC} {X : jXX} {I : Nat → Nat → Int32} {J : Nat → Nat → Int64} {R : Nat → Nat → Nat} {cN : Int32 → Nm} {E : List bE} {F Z : Nat → Nat} {W : aW Nm}
/-- nothing but the walker's rows and how many there are -/
def fK (I I' : Nat → Nat → Int32) : Prop := ∀ c i, ¬ (206 ≤ c ∧ c ≤ 212) → ¬ (c = 131 ∧ i = 9) → I' c i = I c i
/-- Walker.remember -/
theorem c112 {from_ deed : Int32} (hC : bC cN X I E F Z) (hl : E.length < 1000) (hp : pW cN (I 213) 0 W) (hs : 2 + szL W.1 ≤ 370) : ∃ X' I' n' Z', jcall A jcode (d + 3) 112 [.ref (b + 131), .int (nI (2 + szL W.1)), .int (hwF (I 213) (2 + szL W.1) 0 (nI (2 + szL W.1))), .int from_, .int deed, .int W.2.1.2.1] (jH h b X I J R n) = some (.inl none, jH h b X' I' J R n') ∧ (∃ F', bC cN X' I' (E ++ [(bz W, from_, deed)]) F' Z') ∧ fK I I' ∧ gro X n X' n' ∧ fPo X X' := by
  obtain ⟨z, hz⟩ : ∃ z, z = 2 + szL W.1 := ⟨_, rfl⟩
  rw [← hz] at hs ⊢
  obtain ⟨c1, c2, c3, c4, c5, c6, c7, c8, c9⟩ := hC
  obtain ⟨m, hm0⟩ : ∃ m, m = E.length := ⟨_, rfl⟩
  rw [← hm0] at c1 c2 c3 c4 c8 hl
  have hb := zpl_b c5
  have hF := F_le c6 c7 (fun e he => (c8 e he).1) m (Nat.le_refl _)
  have hFc : F m ≤ cp X 206 := by
    cases m with
    | zero => rw [c6]; omega
    | succ k =>
      have := c8 k (by omega)
      rw [c7]
      omega
  have hbg : (if m = 0 then 0 else I 207 m) = nI (F m) := by
    cases m with
    | zero => rw [if_pos rfl, c6]; rfl
    | succ k =>
      rw [if_neg (by omega), (c4 k (by omega)).2.1, c7]
  obtain ⟨X1, I1, n1, e1, k1, q1, r1, z1, g1, f1, p1⟩ := c113 (A := A) (d := d) (b := b) (h := h) (X := X) (I := I) (J := J) (R := R) (n := n) (f := F m) c5 (by omega) hFc
  have hb1 := zpl_b z1
  obtain ⟨x, hx⟩ : ∃ x, x = hwF (I 213) z 0 (nI z) := ⟨_, rfl⟩
  rw [← hx]
  obtain ⟨I2, hI2⟩ : ∃ I2, I2 = u2 (u2 (u2 (u2 (u2 (u2 (uc I1 206 (cpI (I1 213) (I1 206) 0 (F m) z)) 207 m (nI (F m))) 207 (m + 1) (nI (F m + z))) 208 m W.2.1.2.1) 209 m from_) 210 m deed) 211 m x := ⟨_, rfl⟩
  have k2 : ∀ c i, ¬ (206 ≤ c ∧ c ≤ 211) → I2 c i = I c i := fun c i hc => by
    rw [hI2, u2_k (by omega), u2_k (by omega), u2_k (by omega), u2_k (by omega), u2_k (by omega), u2_k (by omega), uc_ap, if_neg (by omega), k1 c i (by omega)]
  have v206 : ∀ i, I2 206 i = if F m ≤ i ∧ i < F m + z then I 213 (i - F m) else I1 206 i := fun i => by
    rw [hI2, u2_k (by omega), u2_k (by omega), u2_k (by omega), u2_k (by omega), u2_k (by omega), u2_k (by omega), uc_ap, if_pos rfl]
    unfold cpI
    rw [Nat.zero_add, k1 213 _ (by omega)]
  have v207 : ∀ i, i ≠ m → i ≠ m + 1 → I2 207 i = I 207 i := fun i i1 i2 => by
    rw [hI2, u2_k (by omega), u2_k (by omega), u2_k (by omega), u2_k (by omega), u2_i (by omega), u2_i (by omega), uc_ap, if_neg (by omega), k1 _ _ (by omega)]
  have v207a : I2 207 m = nI (F m) := by
    rw [hI2, u2_k (by omega), u2_k (by omega), u2_k (by omega), u2_k (by omega), u2_i (by omega), u2_s]
  have v207b : I2 207 (m + 1) = nI (F m + z) := by
    rw [hI2, u2_k (by omega), u2_k (by omega), u2_k (by omega), u2_k (by omega), u2_s]
  have v208 : I2 208 m = W.2.1.2.1 := by rw [hI2, u2_k (by omega), u2_k (by omega), u2_k (by omega), u2_s]
  have v209 : I2 209 m = from_ := by rw [hI2, u2_k (by omega), u2_k (by omega), u2_s]
  have v210 : I2 210 m = deed := by rw [hI2, u2_k (by omega), u2_s]
  have v211 : I2 211 m = x := by rw [hI2, u2_s]
  have vne : ∀ c i, 208 ≤ c → c ≤ 211 → i ≠ m → I2 c i = I c i := fun c i h1 h2 hi => by
    rw [hI2]
    simp only [u2_ap]
    rw [if_neg (by omega), if_neg (by omega), if_neg (by omega), if_neg (by omega), if_neg (by omega), if_neg (by omega), uc_ap, if_neg (by omega), k1 _ _ (by omega)]
  have t2 : tbI I2 m := by
    refine ⟨fun s hsl => ?_, fun s s' e hs hs' he q1 q2 => ?_, fun e he => ?_⟩
    · rw [k2 _ _ (by omega)]; exact c3.1 s hsl
    · rw [k2 _ _ (by omega)] at q1 q2
      exact c3.2.1 s s' e hs hs' he q1 q2
    · obtain ⟨t, a1, a2, a3⟩ := c3.2.2 e he
      rw [vne 211 e (by omega) (by omega) (by omega)]
      exact ⟨t, a1, by rw [k2 _ _ (by omega)]; exact a2, fun u hu => by rw [k2 _ _ (by omega)]; exact a3 u hu⟩
  obtain ⟨t, t0, et, t1, t3⟩ := c112l (A := A) (d := d + 2) (b := b) (h := h) (X := X1) (I := I2) (J := J) (R := R) (n := n1) (x := x) (z1 := nI z) (z3 := from_) (z4 := deed) (z5 := W.2.1.2.1) (z6 := nI (F m)) t2 c2 2048 0 (by omega) (fun v hv => by omega)
  have hsl : (hm x + t) % 2048 < 2048 := Nat.mod_lt _ (by omega)
  obtain ⟨I3, hI3⟩ : ∃ I3, I3 = u2 (u2 I2 212 ((hm x + t) % 2048) (nI m)) 131 9 (nI (m + 1)) := ⟨_, rfl⟩
  have k3 : ∀ c i, c ≠ 212 → ¬ (c = 131 ∧ i = 9) → I3 c i = I2 c i := fun c i h1 h2 => by
    rw [hI3]
    simp only [u2_ap]
    rw [if_neg h2, if_neg (by omega)]
  have v212 : ∀ s, I3 212 s = if s = (hm x + t) % 2048 then nI m else I 212 s := fun s => by
    rw [hI3, u2_k (by omega)]
    simp only [u2_ap]
    by_cases c : s = (hm x + t) % 2048
    · rw [if_pos ⟨trivial, c⟩, if_pos c]
    · rw [if_neg (fun q => c q.2), if_neg c, k2 _ _ (by omega)]
  have F' : ∀ e, e < m → F e + Z e ≤ F m := fun e he => by rw [← c7]; exact F_mono c7 (e + 1) m (by omega)
  have w206 : ∀ e, e < m → ∀ i, i < Z e → I3 206 (F e + i) = I 206 (F e + i) := fun e he i hi => by
    have := F' e he
    have := (c8 e he).2
    rw [k3 _ _ (by omega) (by omega), v206, if_neg (by omega), q1 _ (by omega)]
  have hFF : ∀ e, (fun e => if e ≤ m then F e else if e = m + 1 then F m + z else F m + z + (e - (m + 1)) * 0) e = (if e ≤ m then F e else F m + z) := fun e => by
    show (if e ≤ m then F e else if e = m + 1 then F m + z else F m + z + (e - (m + 1)) * 0) = _
    by_cases a : e ≤ m
    · rw [if_pos a, if_pos a]
    · rw [if_neg a, if_neg a]
      by_cases c : e = m + 1
      · rw [if_pos c]
      · rw [if_neg c]; omega
  have F2 : ∀ e, e ≤ m → (if e ≤ m then F e else F m + z) = F e := fun e he => if_pos he
  have Z2 : ∀ e, e < m → (if e < m then Z e else if e = m then z else 0) = Z e := fun e he => if_pos he
  have Z3 : (if m < m then Z m else if m = m then z else 0) = z := by rw [if_neg (by omega), if_pos rfl]
  refine ⟨X1, I3, n1, fun e => if e < m then Z e else if e = m then z else 0, ?_, ⟨fun e => if e ≤ m then F e else F m + z, ?_, ?_, ?_, ?_, z1, ?_, ?_, ?_, ?_⟩, fun c i h1 h2 => ?_, g1, f1⟩
  · have h0 : (hm x + 0) % 2048 = hm x := by have := hm_lt x; omega
    rw [h0] at et
    rw [hI2] at et
    have b1 : I1 131 9 = nI m := by rw [k1 _ _ (by omega)]; exact c1
    have b2 : I2 131 9 = nI m := by rw [k2 _ _ (by omega)]; exact c1
    rw [hI3, hI2]
    rw [hI2] at b2
    have s1 : ¬ cp X1 206 - z < F m := by omega
    have s2 : F m ≤ cp X1 206 - z := by omega
    by_cases hm1 : m = 0
    · subst hm1
      rw [c6] at e1 et s1 s2 r1 b2 ⊢
      simp only [Nat.zero_add] at et b2 ⊢
      simp (disch := omega) [je112, r112_0, r112_1, r112_4, r112_7, r112_8, r112_11, r112_14, r112_17, r112_18, r112_21, r112_22, r112_23, r112_26, r112_27, r112_30, r112_31, r112_32, r112_35, r112_38, r112_39, r112_42, r112_43, r112_46, r112_47, r112_50, r112_51, r112_53, r112_54, r112_56, r112_59, r112_61, r112_64, r112_66, r112_67, r112_70, r112_71, r112_72, r112_73, r112_76, r112_77, r112_78, r112_81, r112_82, r112_83, r112_86, r112_88, r112_89, r112_92, r112_93, r112_96, r112_97, r112_100, r112_102, r112_103, r112_104, r112_107, r112_108, r112_111, r112_112, r112_113, r112_115, r112_116, r112_117, r112_118, r112_119, r112_122, r112_123, r112_126, r112_128, r112_129, r112_130, r112_133, r112_134, r112_137, r112_138, r112_139, r112_140, r112_143, r112_144, r112_147, r112_149, r112_150, r112_151, r112_154, r112_155, r112_158, r112_159, r112_160, r112_161, r112_164, r112_165, r112_167, r112_168, r112_172, r112_175, r112_178, r112_179, r112_182, r112_184, r112_185, r112_188, r112_190, r112_191, r112_192, r112_195, r112_196, r112_198, r112_201, r112_204, r112_205, r112_208, r112_210, r112_211, r112_214, r112_215, r112_216, r112_217, r112_220, r112_221, r112_222, r112_225, g131, vf8_9, vf8_8, t131_8, g213, p213, vf8_2, t131_2, g207, p207, qa113, qo113, vf8_1, t131_1, g206, p206, vf8_3, t131_3, g208, p208, vf8_4, t131_4, g209, p209, vf8_5, t131_5, g210, p210, vf8_6, t131_6, g211, p211, vf8_7, t131_7, g212, p212, p131_9, ty8_9, List.getElem?_cons_zero, List.getElem?_cons_succ, List.length_cons, List.length_nil, ag_nx, ag_dn, ag_no, ag_if, jbr1, jbr2, jc1, jc2, jnul, jld, jsto, jstoL, jst1, jst2, jkill, jinc, jbI, jbL, jbS, juI, jl2i, jcmp, jisR, jisI, jisL, jret, jretv, jfits, jdup, jdup2, jpop, jmm, jcat, Value.category, jinv, jrcv, jthr, jhd, jput, jget, jlen, jald, jast, jaast, jgI, jgL, jgB, jtab, jlku, jacp, vf20, vf21, vf22, vf23, vf24, u2_s, u2_k, u2_i, uc_s, uc_k, uc_c, u2_c, LI0, LI1, LI2, LI3, LI4, LI5, LI6, LI7, LI8, LI9, LI10, LI11, LI12, LI13, LI14, LI15, LI16, LI17, LI18, LI19, LI20, LI21, LI22, LI23, LI24, LI25, LI26, LI27, LI28, LI29, LI30, LI31, LI32, LI33, LI34, LI35, LI36, LI37, LI40, LI42, LI43, LI45, LI48, LI60, LI61, LI64, LI80, LI300, LI400, LI1000, LI2000, LI2001, LI2047, LI2048, LI100000, LI1000000, LM, nI_clamp, nI_pos', nI_lt, nI_nlt, nI_le, nI_ge, nI_ne, nI_add, nI_sub, mI_lt, mI_le, mI_nlt, mI_nle, mI_ne, mI_ne', mI_nem, LI46, LI370, LI370000, LI31, LI15, c1, b1, b2, e1, et, hs, s1, s2, g206, cp206, an2047, hsl, show z ≤ cp X1 206 by omega]
    · rw [if_neg hm1] at hbg
      simp (disch := omega) [je112, r112_0, r112_1, r112_4, r112_7, r112_8, r112_11, r112_14, r112_17, r112_18, r112_21, r112_22, r112_23, r112_26, r112_27, r112_30, r112_31, r112_32, r112_35, r112_38, r112_39, r112_42, r112_43, r112_46, r112_47, r112_50, r112_51, r112_53, r112_54, r112_56, r112_59, r112_61, r112_64, r112_66, r112_67, r112_70, r112_71, r112_72, r112_73, r112_76, r112_77, r112_78, r112_81, r112_82, r112_83, r112_86, r112_88, r112_89, r112_92, r112_93, r112_96, r112_97, r112_100, r112_102, r112_103, r112_104, r112_107, r112_108, r112_111, r112_112, r112_113, r112_115, r112_116, r112_117, r112_118, r112_119, r112_122, r112_123, r112_126, r112_128, r112_129, r112_130, r112_133, r112_134, r112_137, r112_138, r112_139, r112_140, r112_143, r112_144, r112_147, r112_149, r112_150, r112_151, r112_154, r112_155, r112_158, r112_159, r112_160, r112_161, r112_164, r112_165, r112_167, r112_168, r112_172, r112_175, r112_178, r112_179, r112_182, r112_184, r112_185, r112_188, r112_190, r112_191, r112_192, r112_195, r112_196, r112_198, r112_201, r112_204, r112_205, r112_208, r112_210, r112_211, r112_214, r112_215, r112_216, r112_217, r112_220, r112_221, r112_222, r112_225, g131, vf8_9, vf8_8, t131_8, g213, p213, vf8_2, t131_2, g207, p207, qa113, qo113, vf8_1, t131_1, g206, p206, vf8_3, t131_3, g208, p208, vf8_4, t131_4, g209, p209, vf8_5, t131_5, g210, p210, vf8_6, t131_6, g211, p211, vf8_7, t131_7, g212, p212, p131_9, ty8_9, List.getElem?_cons_zero, List.getElem?_cons_succ, List.length_cons, List.length_nil, ag_nx, ag_dn, ag_no, ag_if, jbr1, jbr2, jc1, jc2, jnul, jld, jsto, jstoL, jst1, jst2, jkill, jinc, jbI, jbL, jbS, juI, jl2i, jcmp, jisR, jisI, jisL, jret, jretv, jfits, jdup, jdup2, jpop, jmm, jcat, Value.category, jinv, jrcv, jthr, jhd, jput, jget, jlen, jald, jast, jaast, jgI, jgL, jgB, jtab, jlku, jacp, vf20, vf21, vf22, vf23, vf24, u2_s, u2_k, u2_i, uc_s, uc_k, uc_c, u2_c, LI0, LI1, LI2, LI3, LI4, LI5, LI6, LI7, LI8, LI9, LI10, LI11, LI12, LI13, LI14, LI15, LI16, LI17, LI18, LI19, LI20, LI21, LI22, LI23, LI24, LI25, LI26, LI27, LI28, LI29, LI30, LI31, LI32, LI33, LI34, LI35, LI36, LI37, LI40, LI42, LI43, LI45, LI48, LI60, LI61, LI64, LI80, LI300, LI400, LI1000, LI2000, LI2001, LI2047, LI2048, LI100000, LI1000000, LM, nI_clamp, nI_pos', nI_lt, nI_nlt, nI_le, nI_ge, nI_ne, nI_add, nI_sub, mI_lt, mI_le, mI_nlt, mI_nle, mI_ne, mI_ne', mI_nem, LI46, LI370, LI370000, LI31, LI15, c1, b1, b2, hbg, e1, et, hs, hl, hm1, s1, s2, g206, cp206, an2047, hsl, show m < 1001 by omega, show m + 1 < 1001 by omega, show F m + z ≤ cp X1 206 by omega]
  · rw [List.length_append, ← hm0, hI3, u2_s]; rfl
  · rw [List.length_append, ← hm0]; exact hl
  · rw [List.length_append, ← hm0]
    refine ⟨fun s hs1 => ?_, fun s s' e hs1 hs2 he a1 a2 => ?_, fun e he => ?_⟩
    · rw [v212]
      by_cases c : s = (hm x + t) % 2048
      · rw [if_pos c]; exact Or.inr ⟨m, Nat.lt_succ_self _, rfl⟩
      · rw [if_neg c]
        rcases c3.1 s hs1 with a | ⟨e, a, a'⟩
        · exact Or.inl a
        · exact Or.inr ⟨e, Nat.lt_succ_of_lt a, a'⟩
    · rw [v212] at a1 a2
      have he' : e < m + 1 := he
      have nom : ∀ s, s < 2048 → ¬ I 212 s = nI m := fun s hs1 q => by
        rcases c3.1 s hs1 with a | ⟨e, a, a'⟩
        · exact mI_ne (by omega) (by omega) (by omega) (q.symm.trans a)
        · have := nI_inj (by omega) (by omega) (q.symm.trans a')
          omega
      by_cases d1 : s = (hm x + t) % 2048
      · by_cases d2 : s' = (hm x + t) % 2048
        · rw [d1, d2]
        · rw [if_pos d1] at a1
          rw [if_neg d2] at a2
          exact absurd (a2.trans a1.symm) (nom s' hs2)
      · by_cases d2 : s' = (hm x + t) % 2048
        · rw [if_neg d1] at a1
          rw [if_pos d2] at a2
          exact absurd (a1.trans a2.symm) (nom s hs1)
        · rw [if_neg d1] at a1
          rw [if_neg d2] at a2
          have : e ≠ m := fun q => nom s hs1 (by rw [a1, q])
          exact c3.2.1 s s' e hs1 hs2 (by omega) a1 a2
    · have he' : e < m + 1 := he
      by_cases c : e = m
      · subst c
        rw [k3 211 _ (by omega) (by omega), v211]
        refine ⟨t, t0, by rw [v212, if_pos rfl], fun u hu => ?_⟩
        rw [v212, if_neg (by omega)]
        have := t3 u hu
        rw [k2 _ _ (by omega)] at this
        exact this
      · obtain ⟨t', a1, a2, a3⟩ := c3.2.2 e (by omega)
        rw [k3 211 _ (by omega) (by omega), vne 211 e (by omega) (by omega) c]
        have fr : I 212 ((hm x + t) % 2048) = mI 1 := by rw [← k2 _ _ (by omega)]; exact t1
        refine ⟨t', a1, ?_, fun u hu => ?_⟩
        · rw [v212, if_neg (fun q => ?_)]
          · exact a2
          · rw [q, fr] at a2
            exact absurd a2.symm (mI_ne (by omega) (by omega) (by omega))
        · rw [v212]
          by_cases c2 : (hm (I 211 e) + u) % 2048 = (hm x + t) % 2048
          · rw [if_pos c2]
            exact mI_ne (by omega) (by omega) (by omega)
          · rw [if_neg c2]
            exact a3 u hu
  · rw [List.length_append, ← hm0]
    intro e he
    have he' : e < m + 1 := he
    show I3 207 e = nI (if e ≤ m then F e else F m + z) ∧ I3 207 (e + 1) = nI ((if e ≤ m then F e else F m + z) + (if e < m then Z e else if e = m then z else 0)) ∧ (if e ≤ m then F e else F m + z) + (if e < m then Z e else if e = m then z else 0) ≤ cp X1 206 ∧ I3 211 e = hwF (fun j => I3 206 ((if e ≤ m then F e else F m + z) + j)) (if e < m then Z e else if e = m then z else 0) 0 (nI (if e < m then Z e else if e = m then z else 0))
    rw [F2 e (by omega)]
    by_cases c : e = m
    · subst c
      rw [Z3]
      refine ⟨by rw [k3 _ _ (by omega) (by omega)]; exact v207a, by rw [k3 _ _ (by omega) (by omega)]; exact v207b, by omega, ?_⟩
      rw [k3 _ _ (by omega) (by omega), v211, hx]
      refine hwF_congr _ _ _ (fun j j1 j2 => ?_)
      rw [k3 _ _ (by omega) (by omega), v206, if_pos (by omega)]
      congr 1
      omega
    · rw [Z2 e (by omega)]
      obtain ⟨a1, a2, a3, a4⟩ := c4 e (by omega)
      refine ⟨by rw [k3 _ _ (by omega) (by omega), v207 _ c (by omega)]; exact a1, ?_, by omega, ?_⟩
      · rw [k3 _ _ (by omega) (by omega)]
        by_cases c2 : e + 1 = m
        · rw [c2, v207a, ← c2, c7]
        · rw [v207 _ c2 (by omega)]; exact a2
      · rw [k3 _ _ (by omega) (by omega), vne 211 e (by omega) (by omega) c, a4]
        exact hwF_congr _ _ _ (fun j j1 j2 => (w206 e (by omega) j (by omega)).symm)
  · show (if 0 ≤ m then F 0 else F m + z) = 0
    rw [F2 0 (by omega), c6]
  · intro e
    show (if e + 1 ≤ m then F (e + 1) else F m + z) = (if e ≤ m then F e else F m + z) + (if e < m then Z e else if e = m then z else 0)
    by_cases a1 : e < m
    · rw [if_pos (by omega), if_pos (by omega), if_pos a1, c7]
    · by_cases a2 : e = m
      · subst a2
        rw [if_neg (by omega), if_pos (by omega), if_neg (by omega), if_pos rfl]
      · rw [if_neg (by omega), if_neg (by omega), if_neg (by omega), if_neg a2]; omega
  · rw [List.length_append, ← hm0]
    intro e he
    have he' : e < m + 1 := he
    show (if e < m then Z e else if e = m then z else 0) ≤ 370 ∧ (if e ≤ m then F e else F m + z) + 370 ≤ cp X1 206
    rw [F2 e (by omega)]
    by_cases c : e = m
    · subst c
      rw [Z3]
      exact ⟨hs, r1⟩
    · rw [Z2 e (by omega)]
      have := c8 e (by omega)
      exact ⟨this.1, by omega⟩
  · intro e y hy
    show pW cN (I3 206) (if e ≤ m then F e else F m + z) y.1 ∧ (if e < m then Z e else if e = m then z else 0) = 2 + szL y.1.1 ∧ _
    have he := lt_of_some hy
    rw [List.length_append, ← hm0] at he
    have he' : e < m + 1 := he
    rw [F2 e (by omega)]
    by_cases c : e = m
    · subst c
      rw [List.getElem?_append_right (by omega), ← hm0, Nat.sub_self] at hy
      have : y = (bz W, from_, deed) := by simpa using hy.symm
      subst this
      rw [Z3]
      refine ⟨pW_fr (pW_bz hp) (fun i hi => ?_), ?_, ?_, ?_, ?_⟩
      · have hi' : i < 2 + szL (W.1.map eI) := hi
        rw [szL_eI, ← hz] at hi'
        rw [k3 _ _ (by omega) (by omega), v206, if_pos (by omega)]
        congr 1
        omega
      · show z = 2 + szL (W.1.map eI)
        rw [szL_eI, hz]
      · rw [k3 _ _ (by omega) (by omega)]; exact v208
      · rw [k3 _ _ (by omega) (by omega)]; exact v209
      · rw [k3 _ _ (by omega) (by omega)]; exact v210
    · rw [Z2 e (by omega)]
      rw [List.getElem?_append_left (by omega)] at hy
      obtain ⟨a1, a2, a3, a4, a5⟩ := c9 e y hy
      refine ⟨pW_fr a1 (fun i hi => w206 e (by omega) i (by omega)), a2, ?_, ?_, ?_⟩
      · rw [k3 _ _ (by omega) (by omega), vne _ _ (by omega) (by omega) c]; exact a3
      · rw [k3 _ _ (by omega) (by omega), vne _ _ (by omega) (by omega) c]; exact a4
      · rw [k3 _ _ (by omega) (by omega), vne _ _ (by omega) (by omega) c]; exact a5
  · rw [k3 _ _ (by omega) h2, k2 _ _ (by omega)]
end RO
