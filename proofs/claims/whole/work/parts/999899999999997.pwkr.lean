/-! walk: the class's search, whole -/
theorem bLk_bz {rN : Int32 → Nm} {N : Nat → Nat → Int32} {wt : Nat} {p s : Int32} (W : aW Nm) : bLk rN N wt p s (bz W) = bLk rN N wt p s W := by
  have h : mq (bz W) (W.1, W.2.1, W.2.2.1, (0, 0)) := by
    unfold mq
    rw [bz_mp]
    rfl
  exact (bLk_mq h).trans rfl
/-- the first entry holds -/
theorem eV_0 {N : Nat → Nat → Int32} {np B D Gm : Nat} {W : aW Nm} {x y : Int32} (hok : okW N np B W) (hB : B + 8 ≤ Gm) (hd : okD D W) : eV N np Gm D [(bz W, x, y)] ∧ bOr [(bz W, x, y)] := by
  refine ⟨fun e z hz => ?_, fun e z hz he => ?_⟩
  · have he : e = 0 := by
      have := lt_of_some hz
      simpa using this
    subst he
    have : z = (bz W, x, y) := by simpa using hz.symm
    subst this
    refine ⟨bz_mp W, rfl, okW_le (by omega) (okW_bz hok), ?_, okD_le (okD_bz hd) (by omega)⟩
    obtain ⟨h1, _, _, g, _, h4, h5, _⟩ := hok
    exact ⟨g, by omega, h4⟩
  · have := lt_of_some hz
    have : e < 1 := by simpa using this
    omega
section CSR
variable {A : Nat → Nat} {d b : Nat} {h : Nat → Option jC} {J : Nat → Nat → Int64} {cN rN : Int32 → Nm} {N : Nat → Nat → Int32} {O G E' : Nat → Int32} {np P L M wt B D : Nat} {p s : Int32}
/-- Walker.search -/
theorem c104 {W : aW Nm} {X : jXX} {I : Nat → Nat → Int32} {R : Nat → Nat → Nat} {n : Nat} (hm1 : cN (-1) = rN (-1)) (hm : ∀ z, rN z = cN (-1) → z = -1) (hj : ∀ x y, cN x = cN y → x = y) (hP : isP P) (hvN : vN N M np) (hR : R 57 0 = P) (hS : okS R 132) (h133 : I 133 6 = 0) (hz : zpl X) (hpl : plC cN rN N O G E' np P L I) (hW : wC cN I R 57 W) (hok : okW N np B W) (hd : okD D W) (hB : B < 2 ^ 28) (hD : D + 1000000 * 1002 < 2 ^ 31 - 1) (hwt : wt ≤ 3) : ∃ X' I' R' n' z, z = bW0 rN N wt p s W ∧ jcall A jcode (d + 7) 104 [.ref (b + 131), .ref (b + 57), .int (nI wt), .int p, .int s] (jH h b X I J R n) = some (.inl (some (.int (if z.1 = 1 then nI z.2.1.length else if z.1 = 2 then mI 2 else mI 1))), jH h b X' I' J R' n') ∧ (∀ c i, c < 131 ∨ 214 < c → I' c i = I c i) ∧ fRk R R' ∧ okS R' 132 ∧ I' 133 6 = 0 ∧ zpl X' ∧ gro X n X' n' ∧ fPo X X' ∧ I' 131 14 = nI z.2.1.length ∧ z.2.1.length ≤ 1000 ∧ (∀ j, j < z.2.1.length → z.2.1[j]? = some (I' 214 j)) ∧ I' 131 15 = nI (if z.1 = 2 then 1000 else z.2.2.length) ∧ z.2.2.length ≤ 1000 ∧ z.1 ≤ 2 := by
  have hw : isW 57 := by simp [isW]
  have hw2 : isW 132 := by simp [isW]
  have hPe := isP_e hP
  have hq : isI 66 := by simp [isI]
  obtain ⟨Gm, hGm⟩ : ∃ Gm, Gm = B + 8 + 61 := ⟨_, rfl⟩
  have w5 : I 57 5 = W.2.1.2.1 := hW.2.2.1
  obtain ⟨I0, hI0⟩ : ∃ I0, I0 = u2 (u2 (u2 (u2 (u2 I 131 10 (nI wt)) 131 11 p) 131 12 s) 131 9 (nI 0)) 131 14 (nI 0) := ⟨_, rfl⟩
  have k0 : ∀ c i, c ≠ 131 → I0 c i = I c i := fun c i hc => by rw [hI0]; simp (disch := omega) [u2_k]
  have e290 := c290 (A := A) (d := d + 5) (b := b) (h := h) (X := X) (I := I0) (J := J) (R := R) (n := n) (k := 212) (len := 2048) (v := mI 1) (by decide +kernel) (by decide +kernel) (by omega)
  obtain ⟨I1, hI1⟩ : ∃ I1, I1 = uc I0 212 (fun x => if x < 2048 then mI 1 else I0 212 x) := ⟨_, rfl⟩
  rw [← hI1] at e290
  have k1 : ∀ c i, c ≠ 212 → I1 c i = I0 c i := fun c i hc => by rw [hI1, uc_ap, if_neg hc]
  have v212 : ∀ x, x < 2048 → I1 212 x = mI 1 := fun x hx => by rw [hI1, uc_ap, if_pos rfl, if_pos hx]
  have fr1 : ∀ c i, c ≠ 131 → c ≠ 212 → I1 c i = I c i := fun c i h1 h2 => (k1 c i h2).trans (k0 c i h1)
  have pl1 : plC cN rN N O G E' np P L I1 := plC_fr (fun c i h1 h2 => fr1 c i (by omega) (by omega)) hpl
  have w1 : wC cN I1 R 57 W := ⟨wA_fr (fun c i h1 h2 => fr1 c i (by omega) (by omega)) (fr1 _ _ (by omega) (by omega)) hW.1, tC_fr (fun c i h1 h2 => fr1 c i (by omega) (by omega)) (fun i h1 h2 => fr1 _ _ (by omega) (by omega)) hW.2⟩
  obtain ⟨I2, e144, k2, p2, s2⟩ := c144 (A := A) (d := d + 4) (b := b) (h := h) (X := X) (J := J) (n := n) hw hP hR pl1 w1 hok
  have fr2 : ∀ c i, c ≠ 131 → c ≠ 212 → c ≠ 213 → I2 c i = I c i := fun c i h1 h2 h3 => (k2 c i h3).trans (fr1 c i h1 h2)
  have x9 : I2 131 9 = nI 0 := by rw [k2 _ _ (by omega), k1 _ _ (by omega), hI0, u2_i (by omega), u2_s]
  have x10 : I2 131 10 = nI wt := by rw [k2 _ _ (by omega), k1 _ _ (by omega), hI0]; simp (disch := omega) [u2_i, u2_s]
  have x11 : I2 131 11 = p := by rw [k2 _ _ (by omega), k1 _ _ (by omega), hI0]; simp (disch := omega) [u2_i, u2_s]
  have x12 : I2 131 12 = s := by rw [k2 _ _ (by omega), k1 _ _ (by omega), hI0]; simp (disch := omega) [u2_i, u2_s]
  have x14 : I2 131 14 = nI 0 := by rw [k2 _ _ (by omega), k1 _ _ (by omega), hI0, u2_s]
  have C2 : bC cN X I2 [] (fun _ => 0) (fun _ => 0) := by
    refine ⟨x9, by simp, ⟨fun t ht => Or.inl (by rw [k2 _ _ (by omega)]; exact v212 t ht), fun t t' e _ _ he => absurd he (by simp), fun e he => absurd he (by simp)⟩, fun e he => absurd he (by simp), hz, rfl, fun e => rfl, fun e he => absurd he (by simp), fun e x hx => by simp at hx⟩
  have e109 := c109 (A := A) (d := d + 5) (b := b) (h := h) (X := X) (I := I2) (J := J) (R := R) (n := n) s2
  obtain ⟨X3, I3, n3, Z3, e112, ⟨F3, C3⟩, k3, g3, f3⟩ := c112 (A := A) (d := d + 3) (b := b) (h := h) (X := X) (I := I2) (J := J) (R := R) (n := n) (from_ := mI 1) (deed := mI 1) C2 (by simp) p2 s2
  rw [List.nil_append] at C3
  obtain ⟨ev, bo⟩ := eV_0 (x := mI 1) (y := mI 1) hok (show B + 8 ≤ Gm by omega) hd
  have fr3 : ∀ c i, c ≠ 131 → ¬ (206 ≤ c ∧ c ≤ 213) → I3 c i = I c i := fun c i h1 h2 => (k3 c i (by omega) (by omega)).trans (fr2 c i h1 (by omega) (by omega))
  have pl3 : plC cN rN N O G E' np P L I3 := plC_fr (fun c i h1 h2 => fr3 c i (by omega) (by omega)) hpl
  have hb3 := zpl_b C3.2.2.2.2.1
  have c30 := C3.2.2.2.2.2.2.2.2 0 (bz W, mI 1, mI 1) rfl
  have F0 : F3 0 = 0 := C3.2.2.2.2.2.1
  have h30 := (C3.2.2.2.2.2.2.2.1 0 (by simp)).2
  rw [F0] at h30
  have p30 := c30.1
  rw [F0] at p30
  have okz := okW_bz hok
  obtain ⟨I4, W4, e145, w4, m4, f4⟩ := c145 (A := A) (d := d + 3) (b := b) (h := h) (X := X3) (I := I3) (J := J) (R := R) (n := n3) (V := bz W) (f := 0) hP hS (by rw [fr3 _ _ (by omega) (by omega)]; exact h133) pl3 (by omega) h30 okz.1 p30 (okI_all okz) rfl
  have m4' : mq W4 (bz W) := m4
  have fr4 : ∀ c i, c < 132 ∨ 205 < c → I4 c i = I3 c i := fun c i hc => f4.1 c i (by omega)
  have S4 : cS cN rN N O G E' np P L wt p s X3 I4 (u2 R 132 0 P) [(bz W, mI 1, mI 1)] := by
    refine ⟨plC_fr (fun c i h1 h2 => fr4 c i (by omega)) pl3, u2_s, okS_u hS, (w4.2.2.2.2 rfl).2.2, ⟨F3, Z3, bC_fr C3 (fr4 _ _ (by omega)) (fun c j h1 h2 => fr4 _ _ (by omega))⟩, ?_, ?_, ?_⟩
    · rw [fr4 _ _ (by omega), k3 _ _ (by omega) (by omega)]; exact x10
    · rw [fr4 _ _ (by omega), k3 _ _ (by omega) (by omega)]; exact x11
    · rw [fr4 _ _ (by omega), k3 _ _ (by omega) (by omega)]; exact x12
  have ok4 := okW_q m4' okz
  have d4 := okD_q m4' (okD_bz hd)
  obtain ⟨I5, e107, o5⟩ := c107 (A := A) (d := d + 1) (b := b) (h := h) (X := X3) (I := I4) (J := J) (R := u2 R 132 0 P) (n := n3) (p := p) (s := s) hj hm hP u2_s S4.1 w4 ok4 (by omega) d4 hwt S4.2.2.2.2.2.1 S4.2.2.2.2.2.2.1 S4.2.2.2.2.2.2.2
  rw [bLk_mq m4', bLk_bz] at e107
  have fr5 : ∀ c i, c < 132 ∨ 205 < c → I5 c i = I4 c i := fun c i hc => o5 c i (by omega) (by omega)
  have S5 : cS cN rN N O G E' np P L wt p s X3 I5 (u2 R 132 0 P) [(bz W, mI 1, mI 1)] := cS_sc hP S4 fr5 u2_s (okS_u hS) (by rw [o5 _ _ (by omega) (by omega)]; exact S4.2.2.2.1)
  have y14 : I5 131 14 = nI 0 := by rw [fr5 _ _ (by omega), fr4 _ _ (by omega), k3 _ _ (by omega) (by omega)]; exact x14
  have y9 : I5 131 9 = nI 1 := by obtain ⟨F, Z, q⟩ := S5.2.2.2.2.1; exact q.1
  have frR : fRk R (u2 R 132 0 P) := fun c j h1 h2 => by
    simp only [u2_ap]
    rw [if_neg h2]
  have fr5' : ∀ c i, c < 131 ∨ 214 < c → I5 c i = I c i := fun c i hc => by rw [fr5 _ _ (by omega), fr4 _ _ (by omega), fr3 _ _ (by omega) (by omega)]
  have y57 : I3 57 5 = W.2.1.2.1 := by rw [fr3 _ _ (by omega) (by omega)]; exact w5
  have x57 : I2 57 5 = W.2.1.2.1 := by rw [fr2 _ _ (by omega) (by omega) (by omega)]; exact w5
  -- up to the loop
  have head : ∀ o : Nat, jcall A jcode (d + 6) 107 [.ref (b + 131)] (jH h b X3 I4 J (u2 R 132 0 P) n3) = some (.inl (some (.int (nI o))), jH h b X3 I5 J (u2 R 132 0 P) n3) → o ≤ 1 → jcall A jcode (d + 7) 104 [.ref (b + 131), .ref (b + 57), .int (nI wt), .int p, .int s] (jH h b X I J R n) = M104 A (d + 6) 99 [some (.ref (b + 131)), some (.ref (b + 57)), some (.int (nI wt)), some (.int p), some (.int s), some (.int (nI (2 + szL W.1))), some (.int (nI o)), some (.int (nI 0))] [] (jH h b X3 I5 J (u2 R 132 0 P) n3) := by
    intro o eo ho
    rw [hI0] at e290
    have e145' : jcall A jcode (d + 6) 145 [.ref (b + 132), .ref (b + P), .ref (b + ad X3 206), .int (nI 0), .int W.2.1.2.1] (jH h b X3 I3 J R n3) = some (.inl none, jH h b X3 I4 J (u2 R 132 0 P) n3) := e145
    obtain rfl | rfl : o = 0 ∨ o = 1 := by omega
    · simp (disch := omega) [je104, r104_0, r104_1, r104_2, r104_5, r104_6, r104_7, r104_10, r104_11, r104_13, r104_16, r104_17, r104_18, r104_21, r104_22, r104_23, r104_26, r104_27, r104_30, r104_31, r104_34, r104_35, r104_36, r104_39, r104_42, r104_44, r104_45, r104_47, r104_48, r104_50, r104_53, r104_54, r104_55, r104_56, r104_59, r104_62, r104_63, r104_66, r104_67, r104_70, r104_71, r104_74, r104_75, r104_76, r104_79, r104_82, r104_83, r104_86, r104_89, r104_90, r104_93, r104_94, r104_96, r104_97, r104_101, r104_102, r104_105, r104_108, r104_110, r104_113, r104_116, r104_118, r104_121, r104_122, r104_123, r104_126, r104_128, r104_131, r104_133, r104_136, r104_139, r104_140, r104_142, r104_143, r104_146, r104_149, r104_152, r104_153, r104_156, r104_159, r104_161, r104_162, r104_165, r104_166, r104_169, r104_170, r104_172, r104_173, r104_176, r104_178, r104_181, r104_182, g131, p131_10, ty8_10, p131_11, ty8_11, p131_12, ty8_12, p131_9, ty8_9, p131_14, ty8_14, vf8_7, t131_7, g212, qa290, vf8_8, t131_8, g213, qa144, qo144, gW0 hw, qa109, qo109, vf9_5, qa112, qo112, vf8_0, t131_0, vf9_0, tW0_0 hw, vf8_1, t131_1, g206, qa145, qo145, qa107, qo107, vf8_9, qa105, qo105, p131_15, ty8_15, vf8_14, List.getElem?_cons_zero, List.getElem?_cons_succ, List.length_cons, List.length_nil, ag_nx, ag_dn, ag_no, ag_if, jbr1, jbr2, jc1, jc2, jnul, jld, jsto, jstoL, jst1, jst2, jkill, jinc, jbI, jbL, jbS, juI, jl2i, jcmp, jisR, jisI, jisL, jret, jretv, jfits, jdup, jdup2, jpop, jmm, jcat, Value.category, jinv, jrcv, jthr, jhd, jput, jget, jlen, jald, jast, jaast, jgI, jgL, jgB, jtab, jlku, jacp, vf20, vf21, vf22, vf23, vf24, u2_s, u2_k, u2_i, uc_s, uc_k, uc_c, u2_c, LI0, LI1, LI2, LI3, LI4, LI5, LI6, LI7, LI8, LI9, LI10, LI11, LI12, LI13, LI14, LI15, LI16, LI17, LI18, LI19, LI20, LI21, LI22, LI23, LI24, LI25, LI26, LI27, LI28, LI29, LI30, LI31, LI32, LI33, LI34, LI35, LI36, LI37, LI40, LI42, LI43, LI45, LI48, LI60, LI61, LI64, LI80, LI300, LI400, LI1000, LI2000, LI2001, LI2047, LI2048, LI100000, LI1000000, LM, nI_clamp, nI_pos', nI_lt, nI_nlt, nI_le, nI_ge, nI_ne, nI_add, nI_sub, mI_lt, mI_le, mI_nlt, mI_nle, mI_ne, mI_ne', mI_nem, LI46, LI370, LI370000, LI31, LI15, g206, e290, e144, e109, x57, e112, hR, y57, e145', eo, g212, g213, gW0 hw2]
    · simp (disch := omega) [je104, r104_0, r104_1, r104_2, r104_5, r104_6, r104_7, r104_10, r104_11, r104_13, r104_16, r104_17, r104_18, r104_21, r104_22, r104_23, r104_26, r104_27, r104_30, r104_31, r104_34, r104_35, r104_36, r104_39, r104_42, r104_44, r104_45, r104_47, r104_48, r104_50, r104_53, r104_54, r104_55, r104_56, r104_59, r104_62, r104_63, r104_66, r104_67, r104_70, r104_71, r104_74, r104_75, r104_76, r104_79, r104_82, r104_83, r104_86, r104_89, r104_90, r104_93, r104_94, r104_96, r104_97, r104_101, r104_102, r104_105, r104_108, r104_110, r104_113, r104_116, r104_118, r104_121, r104_122, r104_123, r104_126, r104_128, r104_131, r104_133, r104_136, r104_139, r104_140, r104_142, r104_143, r104_146, r104_149, r104_152, r104_153, r104_156, r104_159, r104_161, r104_162, r104_165, r104_166, r104_169, r104_170, r104_172, r104_173, r104_176, r104_178, r104_181, r104_182, g131, p131_10, ty8_10, p131_11, ty8_11, p131_12, ty8_12, p131_9, ty8_9, p131_14, ty8_14, vf8_7, t131_7, g212, qa290, vf8_8, t131_8, g213, qa144, qo144, gW0 hw, qa109, qo109, vf9_5, qa112, qo112, vf8_0, t131_0, vf9_0, tW0_0 hw, vf8_1, t131_1, g206, qa145, qo145, qa107, qo107, vf8_9, qa105, qo105, p131_15, ty8_15, vf8_14, List.getElem?_cons_zero, List.getElem?_cons_succ, List.length_cons, List.length_nil, ag_nx, ag_dn, ag_no, ag_if, jbr1, jbr2, jc1, jc2, jnul, jld, jsto, jstoL, jst1, jst2, jkill, jinc, jbI, jbL, jbS, juI, jl2i, jcmp, jisR, jisI, jisL, jret, jretv, jfits, jdup, jdup2, jpop, jmm, jcat, Value.category, jinv, jrcv, jthr, jhd, jput, jget, jlen, jald, jast, jaast, jgI, jgL, jgB, jtab, jlku, jacp, vf20, vf21, vf22, vf23, vf24, u2_s, u2_k, u2_i, uc_s, uc_k, uc_c, u2_c, LI0, LI1, LI2, LI3, LI4, LI5, LI6, LI7, LI8, LI9, LI10, LI11, LI12, LI13, LI14, LI15, LI16, LI17, LI18, LI19, LI20, LI21, LI22, LI23, LI24, LI25, LI26, LI27, LI28, LI29, LI30, LI31, LI32, LI33, LI34, LI35, LI36, LI37, LI40, LI42, LI43, LI45, LI48, LI60, LI61, LI64, LI80, LI300, LI400, LI1000, LI2000, LI2001, LI2047, LI2048, LI100000, LI1000000, LM, nI_clamp, nI_pos', nI_lt, nI_nlt, nI_le, nI_ge, nI_ne, nI_add, nI_sub, mI_lt, mI_le, mI_nlt, mI_nle, mI_ne, mI_ne', mI_nem, LI46, LI370, LI370000, LI31, LI15, g206, e290, e144, e109, x57, e112, hR, y57, e145', eo, g212, g213, gW0 hw2]
  have em : mI 1 = (-1 : Int32) := by decide
  -- the end
  have fin : ∀ (X6 : jXX) (I6 : Nat → Nat → Int32) (R6 : Nat → Nat → Nat) (n6 o m rl_ : Nat) (y5 : Int32) (c7 : Option Value), o ≤ 2 → m ≤ 1000 → I6 131 9 = nI m → I6 131 14 = nI rl_ → M104 A (d + 6) 139 [some (.ref (b + 131)), some (.ref (b + 57)), some (.int (nI wt)), some (.int p), some (.int s), some (.int y5), some (.int (nI o)), c7] [] (jH h b X6 I6 J R6 n6) = some (.inl (some (.int (if o = 1 then nI rl_ else if o = 2 then mI 2 else mI 1))), jH h b X6 (u2 I6 131 15 (nI (if o = 2 then 1000 else m))) J R6 n6) := by
    intro X6 I6 R6 n6 o m rl_ y5 c7 ho hm' q9 q14
    obtain rfl | rfl | rfl : o = 0 ∨ o = 1 ∨ o = 2 := by omega
    · simp (disch := omega) [r104_0, r104_1, r104_2, r104_5, r104_6, r104_7, r104_10, r104_11, r104_13, r104_16, r104_17, r104_18, r104_21, r104_22, r104_23, r104_26, r104_27, r104_30, r104_31, r104_34, r104_35, r104_36, r104_39, r104_42, r104_44, r104_45, r104_47, r104_48, r104_50, r104_53, r104_54, r104_55, r104_56, r104_59, r104_62, r104_63, r104_66, r104_67, r104_70, r104_71, r104_74, r104_75, r104_76, r104_79, r104_82, r104_83, r104_86, r104_89, r104_90, r104_93, r104_94, r104_96, r104_97, r104_99, r104_101, r104_102, r104_105, r104_108, r104_110, r104_113, r104_116, r104_118, r104_121, r104_122, r104_123, r104_126, r104_128, r104_131, r104_133, r104_136, r104_139, r104_140, r104_142, r104_143, r104_146, r104_149, r104_152, r104_153, r104_156, r104_159, r104_161, r104_162, r104_165, r104_166, r104_169, r104_170, r104_172, r104_173, r104_176, r104_178, r104_181, r104_182, g131, p131_10, ty8_10, p131_11, ty8_11, p131_12, ty8_12, p131_9, ty8_9, p131_14, ty8_14, vf8_7, t131_7, g212, qa290, vf8_8, t131_8, g213, qa144, qo144, gW0 hw, qa109, qo109, vf9_5, qa112, qo112, vf8_0, t131_0, vf9_0, tW0_0 hw, vf8_1, t131_1, g206, qa145, qo145, qa107, qo107, vf8_9, qa105, qo105, p131_15, ty8_15, vf8_14, List.getElem?_cons_zero, List.getElem?_cons_succ, List.length_cons, List.length_nil, ag_nx, ag_dn, ag_no, ag_if, jbr1, jbr2, jc1, jc2, jnul, jld, jsto, jstoL, jst1, jst2, jkill, jinc, jbI, jbL, jbS, juI, jl2i, jcmp, jisR, jisI, jisL, jret, jretv, jfits, jdup, jdup2, jpop, jmm, jcat, Value.category, jinv, jrcv, jthr, jhd, jput, jget, jlen, jald, jast, jaast, jgI, jgL, jgB, jtab, jlku, jacp, vf20, vf21, vf22, vf23, vf24, u2_s, u2_k, u2_i, uc_s, uc_k, uc_c, u2_c, LI0, LI1, LI2, LI3, LI4, LI5, LI6, LI7, LI8, LI9, LI10, LI11, LI12, LI13, LI14, LI15, LI16, LI17, LI18, LI19, LI20, LI21, LI22, LI23, LI24, LI25, LI26, LI27, LI28, LI29, LI30, LI31, LI32, LI33, LI34, LI35, LI36, LI37, LI40, LI42, LI43, LI45, LI48, LI60, LI61, LI64, LI80, LI300, LI400, LI1000, LI2000, LI2001, LI2047, LI2048, LI100000, LI1000000, LM, nI_clamp, nI_pos', nI_lt, nI_nlt, nI_le, nI_ge, nI_ne, nI_add, nI_sub, mI_lt, mI_le, mI_nlt, mI_nle, mI_ne, mI_ne', mI_nem, LI46, LI370, LI370000, LI31, LI15, g206, q9, q14]
    · simp (disch := omega) [r104_0, r104_1, r104_2, r104_5, r104_6, r104_7, r104_10, r104_11, r104_13, r104_16, r104_17, r104_18, r104_21, r104_22, r104_23, r104_26, r104_27, r104_30, r104_31, r104_34, r104_35, r104_36, r104_39, r104_42, r104_44, r104_45, r104_47, r104_48, r104_50, r104_53, r104_54, r104_55, r104_56, r104_59, r104_62, r104_63, r104_66, r104_67, r104_70, r104_71, r104_74, r104_75, r104_76, r104_79, r104_82, r104_83, r104_86, r104_89, r104_90, r104_93, r104_94, r104_96, r104_97, r104_99, r104_101, r104_102, r104_105, r104_108, r104_110, r104_113, r104_116, r104_118, r104_121, r104_122, r104_123, r104_126, r104_128, r104_131, r104_133, r104_136, r104_139, r104_140, r104_142, r104_143, r104_146, r104_149, r104_152, r104_153, r104_156, r104_159, r104_161, r104_162, r104_165, r104_166, r104_169, r104_170, r104_172, r104_173, r104_176, r104_178, r104_181, r104_182, g131, p131_10, ty8_10, p131_11, ty8_11, p131_12, ty8_12, p131_9, ty8_9, p131_14, ty8_14, vf8_7, t131_7, g212, qa290, vf8_8, t131_8, g213, qa144, qo144, gW0 hw, qa109, qo109, vf9_5, qa112, qo112, vf8_0, t131_0, vf9_0, tW0_0 hw, vf8_1, t131_1, g206, qa145, qo145, qa107, qo107, vf8_9, qa105, qo105, p131_15, ty8_15, vf8_14, List.getElem?_cons_zero, List.getElem?_cons_succ, List.length_cons, List.length_nil, ag_nx, ag_dn, ag_no, ag_if, jbr1, jbr2, jc1, jc2, jnul, jld, jsto, jstoL, jst1, jst2, jkill, jinc, jbI, jbL, jbS, juI, jl2i, jcmp, jisR, jisI, jisL, jret, jretv, jfits, jdup, jdup2, jpop, jmm, jcat, Value.category, jinv, jrcv, jthr, jhd, jput, jget, jlen, jald, jast, jaast, jgI, jgL, jgB, jtab, jlku, jacp, vf20, vf21, vf22, vf23, vf24, u2_s, u2_k, u2_i, uc_s, uc_k, uc_c, u2_c, LI0, LI1, LI2, LI3, LI4, LI5, LI6, LI7, LI8, LI9, LI10, LI11, LI12, LI13, LI14, LI15, LI16, LI17, LI18, LI19, LI20, LI21, LI22, LI23, LI24, LI25, LI26, LI27, LI28, LI29, LI30, LI31, LI32, LI33, LI34, LI35, LI36, LI37, LI40, LI42, LI43, LI45, LI48, LI60, LI61, LI64, LI80, LI300, LI400, LI1000, LI2000, LI2001, LI2047, LI2048, LI100000, LI1000000, LM, nI_clamp, nI_pos', nI_lt, nI_nlt, nI_le, nI_ge, nI_ne, nI_add, nI_sub, mI_lt, mI_le, mI_nlt, mI_nle, mI_ne, mI_ne', mI_nem, LI46, LI370, LI370000, LI31, LI15, g206, q9, q14]
    · have l2 : (-2 : Int32) = mI 2 := by decide
      simp (disch := omega) [r104_0, r104_1, r104_2, r104_5, r104_6, r104_7, r104_10, r104_11, r104_13, r104_16, r104_17, r104_18, r104_21, r104_22, r104_23, r104_26, r104_27, r104_30, r104_31, r104_34, r104_35, r104_36, r104_39, r104_42, r104_44, r104_45, r104_47, r104_48, r104_50, r104_53, r104_54, r104_55, r104_56, r104_59, r104_62, r104_63, r104_66, r104_67, r104_70, r104_71, r104_74, r104_75, r104_76, r104_79, r104_82, r104_83, r104_86, r104_89, r104_90, r104_93, r104_94, r104_96, r104_97, r104_99, r104_101, r104_102, r104_105, r104_108, r104_110, r104_113, r104_116, r104_118, r104_121, r104_122, r104_123, r104_126, r104_128, r104_131, r104_133, r104_136, r104_139, r104_140, r104_142, r104_143, r104_146, r104_149, r104_152, r104_153, r104_156, r104_159, r104_161, r104_162, r104_165, r104_166, r104_169, r104_170, r104_172, r104_173, r104_176, r104_178, r104_181, r104_182, g131, p131_10, ty8_10, p131_11, ty8_11, p131_12, ty8_12, p131_9, ty8_9, p131_14, ty8_14, vf8_7, t131_7, g212, qa290, vf8_8, t131_8, g213, qa144, qo144, gW0 hw, qa109, qo109, vf9_5, qa112, qo112, vf8_0, t131_0, vf9_0, tW0_0 hw, vf8_1, t131_1, g206, qa145, qo145, qa107, qo107, vf8_9, qa105, qo105, p131_15, ty8_15, vf8_14, List.getElem?_cons_zero, List.getElem?_cons_succ, List.length_cons, List.length_nil, ag_nx, ag_dn, ag_no, ag_if, jbr1, jbr2, jc1, jc2, jnul, jld, jsto, jstoL, jst1, jst2, jkill, jinc, jbI, jbL, jbS, juI, jl2i, jcmp, jisR, jisI, jisL, jret, jretv, jfits, jdup, jdup2, jpop, jmm, jcat, Value.category, jinv, jrcv, jthr, jhd, jput, jget, jlen, jald, jast, jaast, jgI, jgL, jgB, jtab, jlku, jacp, vf20, vf21, vf22, vf23, vf24, u2_s, u2_k, u2_i, uc_s, uc_k, uc_c, u2_c, LI0, LI1, LI2, LI3, LI4, LI5, LI6, LI7, LI8, LI9, LI10, LI11, LI12, LI13, LI14, LI15, LI16, LI17, LI18, LI19, LI20, LI21, LI22, LI23, LI24, LI25, LI26, LI27, LI28, LI29, LI30, LI31, LI32, LI33, LI34, LI35, LI36, LI37, LI40, LI42, LI43, LI45, LI48, LI60, LI61, LI64, LI80, LI300, LI400, LI1000, LI2000, LI2001, LI2047, LI2048, LI100000, LI1000000, LM, nI_clamp, nI_pos', nI_lt, nI_nlt, nI_le, nI_ge, nI_ne, nI_add, nI_sub, mI_lt, mI_le, mI_nlt, mI_nle, mI_ne, mI_ne', mI_nem, LI46, LI370, LI370000, LI31, LI15, g206, q9, q14, l2]
  by_cases cl : bLk rN N wt p s W = true
  · rw [if_pos cl] at e107
    have hb0 : bW0 rN N wt p s W = (1, [], [(bz W, -1, -1)]) := by unfold bW0; rw [if_pos cl]
    have hh := head 1 e107 (by omega)
    have ex : M104 A (d + 6) 99 [some (.ref (b + 131)), some (.ref (b + 57)), some (.int (nI wt)), some (.int p), some (.int s), some (.int (nI (2 + szL W.1))), some (.int (nI 1)), some (.int (nI 0))] [] (jH h b X3 I5 J (u2 R 132 0 P) n3) = M104 A (d + 6) 139 [some (.ref (b + 131)), some (.ref (b + 57)), some (.int (nI wt)), some (.int p), some (.int s), some (.int (nI (2 + szL W.1))), some (.int (nI 1)), some (.int (nI 0))] [] (jH h b X3 I5 J (u2 R 132 0 P) n3) := by
      conv => lhs; rw [r104_99]
      simp (disch := omega) [r104_0, r104_1, r104_2, r104_5, r104_6, r104_7, r104_10, r104_11, r104_13, r104_16, r104_17, r104_18, r104_21, r104_22, r104_23, r104_26, r104_27, r104_30, r104_31, r104_34, r104_35, r104_36, r104_39, r104_42, r104_44, r104_45, r104_47, r104_48, r104_50, r104_53, r104_54, r104_55, r104_56, r104_59, r104_62, r104_63, r104_66, r104_67, r104_70, r104_71, r104_74, r104_75, r104_76, r104_79, r104_82, r104_83, r104_86, r104_89, r104_90, r104_93, r104_94, r104_96, r104_97, r104_101, r104_102, r104_105, r104_108, r104_110, r104_113, r104_116, r104_118, r104_121, r104_122, r104_123, r104_126, r104_128, r104_131, r104_133, r104_136, r104_140, r104_142, r104_143, r104_146, r104_149, r104_152, r104_153, r104_156, r104_159, r104_161, r104_162, r104_165, r104_166, r104_169, r104_170, r104_172, r104_173, r104_176, r104_178, r104_181, r104_182, g131, p131_10, ty8_10, p131_11, ty8_11, p131_12, ty8_12, p131_9, ty8_9, p131_14, ty8_14, vf8_7, t131_7, g212, qa290, vf8_8, t131_8, g213, qa144, qo144, gW0 hw, qa109, qo109, vf9_5, qa112, qo112, vf8_0, t131_0, vf9_0, tW0_0 hw, vf8_1, t131_1, g206, qa145, qo145, qa107, qo107, vf8_9, qa105, qo105, p131_15, ty8_15, vf8_14, List.getElem?_cons_zero, List.getElem?_cons_succ, List.length_cons, List.length_nil, ag_nx, ag_dn, ag_no, ag_if, jbr1, jbr2, jc1, jc2, jnul, jld, jsto, jstoL, jst1, jst2, jkill, jinc, jbI, jbL, jbS, juI, jl2i, jcmp, jisR, jisI, jisL, jret, jretv, jfits, jdup, jdup2, jpop, jmm, jcat, Value.category, jinv, jrcv, jthr, jhd, jput, jget, jlen, jald, jast, jaast, jgI, jgL, jgB, jtab, jlku, jacp, vf20, vf21, vf22, vf23, vf24, u2_s, u2_k, u2_i, uc_s, uc_k, uc_c, u2_c, LI0, LI1, LI2, LI3, LI4, LI5, LI6, LI7, LI8, LI9, LI10, LI11, LI12, LI13, LI14, LI15, LI16, LI17, LI18, LI19, LI20, LI21, LI22, LI23, LI24, LI25, LI26, LI27, LI28, LI29, LI30, LI31, LI32, LI33, LI34, LI35, LI36, LI37, LI40, LI42, LI43, LI45, LI48, LI60, LI61, LI64, LI80, LI300, LI400, LI1000, LI2000, LI2001, LI2047, LI2048, LI100000, LI1000000, LM, nI_clamp, nI_pos', nI_lt, nI_nlt, nI_le, nI_ge, nI_ne, nI_add, nI_sub, mI_lt, mI_le, mI_nlt, mI_nle, mI_ne, mI_ne', mI_nem, LI46, LI370, LI370000, LI31, LI15, g206, y9]
    have hf := fin X3 I5 (u2 R 132 0 P) n3 1 1 0 (nI (2 + szL W.1)) (some (.int (nI 0))) (by omega) (by omega) y9 y14
    refine ⟨X3, u2 I5 131 15 (nI 1), u2 R 132 0 P, n3, _, hb0.symm, ?_, fun c i hc => by rw [u2_k (by omega)]; exact fr5' c i hc, frR, okS_u hS, by rw [u2_k (by omega)]; exact S5.2.2.2.1, C3.2.2.2.2.1, g3, f3, by rw [u2_i (by omega)]; exact y14, by simp, fun j hj => by simp at hj, by rw [u2_s]; rfl, by simp, by simp⟩
    rw [hh, ex, hf]
    rfl
  · rw [if_neg cl] at e107
    have hh := head 0 e107 (by omega)
    have hcz : cZ cN rN N O G E' np P L wt Gm D p s X3 I5 (u2 R 132 0 P) [(bz W, mI 1, mI 1)] := ⟨S5, ev, bo, by simp⟩
    obtain ⟨X6, I6, R6, n6, z, c7, hz6, e6, b1, b2, b3, b4, b5, b6, b7, b8⟩ := c104l (A := A) (d := d) (b := b) (h := h) (J := J) (z2 := nI wt) (z3 := p) (z4 := s) (y5 := nI (2 + szL W.1)) hm1 hm hj hP hvN (by omega) (by omega) hD hwt 1000 0 _ X3 I5 (u2 R 132 0 P) n3 (by omega) (by rw [u2_k (by omega)]; exact hR) hcz
    have hb0 : bW0 rN N wt p s W = (z.1, if z.1 = 1 then bRw z.2.2.2 z.2.1 z.2.2.1 else [], z.2.2.2) := by
      unfold bW0
      rw [if_neg cl]
      simp only
      rw [hz6, em]
    have q9 : I6 131 9 = nI z.2.2.2.length := by obtain ⟨F, Z, q⟩ := b1.1.2.2.2.2.1; exact q.1
    have hzp : zpl X6 := by obtain ⟨F, Z, q⟩ := b1.1.2.2.2.2.1; exact q.2.2.2.2.1
    have fr6 : ∀ c i, c < 131 ∨ 214 < c → I6 c i = I c i := fun c i hc => (b2.1 c i hc).trans (fr5' c i hc)
    have frR6 : fRk R R6 := fun c j h1 h2 => (b3 c j h1 h2).trans (frR c j h1 h2)
    by_cases c1 : z.1 = 1
    · obtain ⟨t1, t2, t3⟩ := b6 c1
      have hf := fin X6 I6 R6 n6 z.1 z.2.2.2.length (bRw z.2.2.2 z.2.1 z.2.2.1).length (nI (2 + szL W.1)) c7 b8 b1.2.2.2 q9 t1
      rw [if_pos c1] at hb0
      refine ⟨X6, u2 I6 131 15 (nI (if z.1 = 2 then 1000 else z.2.2.2.length)), R6, n6, _, hb0.symm, ?_, fun c i hc => by rw [u2_k (by omega)]; exact fr6 c i hc, frR6, b1.1.2.2.1, by rw [u2_k (by omega)]; exact b1.1.2.2.2.1, hzp, gro_trans g3 b4, fPo_trans f3 b5, by rw [u2_i (by omega)]; exact t1, t2, fun j hj => by rw [u2_k (by omega)]; exact t3 j hj, by rw [u2_s], b1.2.2.2, b8⟩
      rw [hh, e6, hf]
    · have q14 : I6 131 14 = nI 0 := (b7 c1).trans y14
      have hf := fin X6 I6 R6 n6 z.1 z.2.2.2.length 0 (nI (2 + szL W.1)) c7 b8 b1.2.2.2 q9 q14
      rw [if_neg c1] at hb0
      refine ⟨X6, u2 I6 131 15 (nI (if z.1 = 2 then 1000 else z.2.2.2.length)), R6, n6, _, hb0.symm, ?_, fun c i hc => by rw [u2_k (by omega)]; exact fr6 c i hc, frR6, b1.1.2.2.1, by rw [u2_k (by omega)]; exact b1.1.2.2.2.1, hzp, gro_trans g3 b4, fPo_trans f3 b5, by rw [u2_i (by omega)]; exact q14, by simp, fun j hj => by simp at hj, by rw [u2_s], b1.2.2.2, b8⟩
      rw [hh, e6, hf]
      rfl
end CSR
