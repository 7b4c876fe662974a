/-! how much room is taken -/
def scp (X : jXX) : Nat := cp X 206 + cp X 243 + cp X 244 + cp X 245 + cp X 246 + cp X 251 + cp X 252 + cp X 253 + cp X 254 + cp X 255 + cp X 256 + cp X 257 + cp X 258
def gro (X : jXX) (n : Nat) (X' : jXX) (n' : Nat) : Prop := tp X' + scp X ≤ tp X + scp X' ∧ n' + 4 * scp X ≤ n + 4 * scp X' ∧ scp X ≤ scp X'
theorem gro_refl {X : jXX} {n : Nat} : gro X n X n := ⟨Nat.le_refl _, Nat.le_refl _, Nat.le_refl _⟩
theorem gro_trans {X X1 X2 : jXX} {n n1 n2 : Nat} (h : gro X n X1 n1) (h2 : gro X1 n1 X2 n2) : gro X n X2 n2 := by
  obtain ⟨a1, a2, a3⟩ := h
  obtain ⟨b1, b2, b3⟩ := h2
  exact ⟨by omega, by omega, by omega⟩
section GRO
variable {A : Nat → Nat} {d b n : Nat} {h : Nat → Option jC} {X : jXX} {I : Nat → Nat → Int32} {J : Nat → Nat → Int64} {R : Nat → Nat → Nat}
theorem gr243 {m : Nat} {g : Nat → Int32} : jset (jH h b (xad X (22, m, fun i => .int (g i))) I J R n) (b + 241) (12, 101, updV (vf b 12 (xad X (22, m, fun i => .int (g i))) I J R 241) 3 (.ref (b + tp X))) = jH h b (xgr X 243 (I 243) m (by decide)) (uc I 243 g) J R n := H_grow (v := 243) (k := 241) (f := 3) (t := 12) (M := 101) (by decide) (by decide) (by decide +kernel) (by decide +kernel) (by decide)
theorem gr244 {m : Nat} {g : Nat → Int32} : jset (jH h b (xad X (20, m, fun i => .int (g i))) I J R n) (b + 241) (12, 101, updV (vf b 12 (xad X (20, m, fun i => .int (g i))) I J R 241) 4 (.ref (b + tp X))) = jH h b (xgr X 244 (I 244) m (by decide)) (uc I 244 g) J R n := H_grow (v := 244) (k := 241) (f := 4) (t := 12) (M := 101) (by decide) (by decide) (by decide +kernel) (by decide +kernel) (by decide)
theorem gr245 {m : Nat} {g : Nat → Int32} : jset (jH h b (xad X (20, m, fun i => .int (g i))) I J R n) (b + 241) (12, 101, updV (vf b 12 (xad X (20, m, fun i => .int (g i))) I J R 241) 5 (.ref (b + tp X))) = jH h b (xgr X 245 (I 245) m (by decide)) (uc I 245 g) J R n := H_grow (v := 245) (k := 241) (f := 5) (t := 12) (M := 101) (by decide) (by decide) (by decide +kernel) (by decide +kernel) (by decide)
theorem gr246 {m : Nat} {g : Nat → Int32} : jset (jH h b (xad X (20, m, fun i => .int (g i))) I J R n) (b + 241) (12, 101, updV (vf b 12 (xad X (20, m, fun i => .int (g i))) I J R 241) 6 (.ref (b + tp X))) = jH h b (xgr X 246 (I 246) m (by decide)) (uc I 246 g) J R n := H_grow (v := 246) (k := 241) (f := 6) (t := 12) (M := 101) (by decide) (by decide) (by decide +kernel) (by decide +kernel) (by decide)
theorem gr251 {m : Nat} {g : Nat → Int32} : jset (jH h b (xad X (20, m, fun i => .int (g i))) I J R n) (b + 241) (12, 101, updV (vf b 12 (xad X (20, m, fun i => .int (g i))) I J R 241) 21 (.ref (b + tp X))) = jH h b (xgr X 251 (I 251) m (by decide)) (uc I 251 g) J R n := H_grow (v := 251) (k := 241) (f := 21) (t := 12) (M := 101) (by decide) (by decide) (by decide +kernel) (by decide +kernel) (by decide)
theorem gr252 {m : Nat} {g : Nat → Int32} : jset (jH h b (xad X (20, m, fun i => .int (g i))) I J R n) (b + 241) (12, 101, updV (vf b 12 (xad X (20, m, fun i => .int (g i))) I J R 241) 22 (.ref (b + tp X))) = jH h b (xgr X 252 (I 252) m (by decide)) (uc I 252 g) J R n := H_grow (v := 252) (k := 241) (f := 22) (t := 12) (M := 101) (by decide) (by decide) (by decide +kernel) (by decide +kernel) (by decide)
theorem gr253 {m : Nat} {g : Nat → Int32} : jset (jH h b (xad X (20, m, fun i => .int (g i))) I J R n) (b + 241) (12, 101, updV (vf b 12 (xad X (20, m, fun i => .int (g i))) I J R 241) 23 (.ref (b + tp X))) = jH h b (xgr X 253 (I 253) m (by decide)) (uc I 253 g) J R n := H_grow (v := 253) (k := 241) (f := 23) (t := 12) (M := 101) (by decide) (by decide) (by decide +kernel) (by decide +kernel) (by decide)
theorem gr254 {m : Nat} {g : Nat → Int32} : jset (jH h b (xad X (20, m, fun i => .int (g i))) I J R n) (b + 241) (12, 101, updV (vf b 12 (xad X (20, m, fun i => .int (g i))) I J R 241) 24 (.ref (b + tp X))) = jH h b (xgr X 254 (I 254) m (by decide)) (uc I 254 g) J R n := H_grow (v := 254) (k := 241) (f := 24) (t := 12) (M := 101) (by decide) (by decide) (by decide +kernel) (by decide +kernel) (by decide)
theorem gr255 {m : Nat} {g : Nat → Int32} : jset (jH h b (xad X (20, m, fun i => .int (g i))) I J R n) (b + 241) (12, 101, updV (vf b 12 (xad X (20, m, fun i => .int (g i))) I J R 241) 25 (.ref (b + tp X))) = jH h b (xgr X 255 (I 255) m (by decide)) (uc I 255 g) J R n := H_grow (v := 255) (k := 241) (f := 25) (t := 12) (M := 101) (by decide) (by decide) (by decide +kernel) (by decide +kernel) (by decide)
theorem gr256 {m : Nat} {g : Nat → Int32} : jset (jH h b (xad X (20, m, fun i => .int (g i))) I J R n) (b + 241) (12, 101, updV (vf b 12 (xad X (20, m, fun i => .int (g i))) I J R 241) 26 (.ref (b + tp X))) = jH h b (xgr X 256 (I 256) m (by decide)) (uc I 256 g) J R n := H_grow (v := 256) (k := 241) (f := 26) (t := 12) (M := 101) (by decide) (by decide) (by decide +kernel) (by decide +kernel) (by decide)
theorem gr257 {m : Nat} {g : Nat → Int32} : jset (jH h b (xad X (20, m, fun i => .int (g i))) I J R n) (b + 241) (12, 101, updV (vf b 12 (xad X (20, m, fun i => .int (g i))) I J R 241) 27 (.ref (b + tp X))) = jH h b (xgr X 257 (I 257) m (by decide)) (uc I 257 g) J R n := H_grow (v := 257) (k := 241) (f := 27) (t := 12) (M := 101) (by decide) (by decide) (by decide +kernel) (by decide +kernel) (by decide)
theorem gr258 {m : Nat} {g : Nat → Int32} : jset (jH h b (xad X (20, m, fun i => .int (g i))) I J R n) (b + 241) (12, 101, updV (vf b 12 (xad X (20, m, fun i => .int (g i))) I J R 241) 28 (.ref (b + tp X))) = jH h b (xgr X 258 (I 258) m (by decide)) (uc I 258 g) J R n := H_grow (v := 258) (k := 241) (f := 28) (t := 12) (M := 101) (by decide) (by decide) (by decide +kernel) (by decide +kernel) (by decide)
theorem scp243 {m : Nat} {row : Nat → Int32} {hv : gw 243 = true} : scp (xgr X 243 row m hv) + cp X 243 = scp X + m := by
  unfold scp
  simp only [xgr_cp]
  simp
  omega
theorem scp244 {m : Nat} {row : Nat → Int32} {hv : gw 244 = true} : scp (xgr X 244 row m hv) + cp X 244 = scp X + m := by
  unfold scp
  simp only [xgr_cp]
  simp
  omega
theorem scp245 {m : Nat} {row : Nat → Int32} {hv : gw 245 = true} : scp (xgr X 245 row m hv) + cp X 245 = scp X + m := by
  unfold scp
  simp only [xgr_cp]
  simp
  omega
theorem scp246 {m : Nat} {row : Nat → Int32} {hv : gw 246 = true} : scp (xgr X 246 row m hv) + cp X 246 = scp X + m := by
  unfold scp
  simp only [xgr_cp]
  simp
  omega
theorem scp251 {m : Nat} {row : Nat → Int32} {hv : gw 251 = true} : scp (xgr X 251 row m hv) + cp X 251 = scp X + m := by
  unfold scp
  simp only [xgr_cp]
  simp
  omega
theorem scp252 {m : Nat} {row : Nat → Int32} {hv : gw 252 = true} : scp (xgr X 252 row m hv) + cp X 252 = scp X + m := by
  unfold scp
  simp only [xgr_cp]
  simp
  omega
theorem scp253 {m : Nat} {row : Nat → Int32} {hv : gw 253 = true} : scp (xgr X 253 row m hv) + cp X 253 = scp X + m := by
  unfold scp
  simp only [xgr_cp]
  simp
  omega
theorem scp254 {m : Nat} {row : Nat → Int32} {hv : gw 254 = true} : scp (xgr X 254 row m hv) + cp X 254 = scp X + m := by
  unfold scp
  simp only [xgr_cp]
  simp
  omega
theorem scp255 {m : Nat} {row : Nat → Int32} {hv : gw 255 = true} : scp (xgr X 255 row m hv) + cp X 255 = scp X + m := by
  unfold scp
  simp only [xgr_cp]
  simp
  omega
theorem scp256 {m : Nat} {row : Nat → Int32} {hv : gw 256 = true} : scp (xgr X 256 row m hv) + cp X 256 = scp X + m := by
  unfold scp
  simp only [xgr_cp]
  simp
  omega
theorem scp257 {m : Nat} {row : Nat → Int32} {hv : gw 257 = true} : scp (xgr X 257 row m hv) + cp X 257 = scp X + m := by
  unfold scp
  simp only [xgr_cp]
  simp
  omega
theorem scp258 {m : Nat} {row : Nat → Int32} {hv : gw 258 = true} : scp (xgr X 258 row m hv) + cp X 258 = scp X + m := by
  unfold scp
  simp only [xgr_cp]
  simp
  omega
theorem gro_x {v m : Nat} {row : Nat → Int32} {hv : gw v = true} (hs : scp (xgr X v row m hv) + cp X v = scp X + m) (hm : 2 * cp X v ≤ m) (h0 : 0 < cp X v) : gro X n (xgr X v row m hv) (n + m) := by
  refine ⟨?_, ?_, ?_⟩
  · rw [xgr_tp]; omega
  · omega
  · omega
/-- row v goes on behind its old end -/
def gR (I : Nat → Nat → Int32) (v c : Nat) : Nat → Int32 := fun i => if i < c then I v i else nI 0
theorem gR_e {c : Nat} {v : Nat} : (fun i => Value.int (if i < c then I v i else nI 0)) = fun i => Value.int (gR I v c i) := rfl
theorem uc_at {v : Nat} {g : Nat → Int32} : uc I v g v = g := by funext i; rw [uc_ap, if_pos rfl]
theorem uc_ne {v w : Nat} {g : Nat → Int32} (hw : w ≠ v) : uc I v g w = I w := by funext i; rw [uc_ap, if_neg hw]
end GRO
/-- nothing but the reference's names -/
def fN (I I' : Nat → Nat → Int32) : Prop := ∀ c i, ¬ (243 ≤ c ∧ c ≤ 247) → ¬ (c = 241 ∧ 8 ≤ i ∧ i ≤ 9) → I' c i = I c i
def fX (X X' : jXX) : Prop := ∀ v, ¬ (243 ≤ v ∧ v ≤ 246) → cp X' v = cp X v ∧ ad X' v = ad X v
theorem fN_refl {I : Nat → Nat → Int32} : fN I I := fun _ _ _ _ => rfl
theorem fN_trans {I I1 I2 : Nat → Nat → Int32} (h : fN I I1) (h2 : fN I1 I2) : fN I I2 := fun c i a b => (h2 c i a b).trans (h c i a b)
theorem fX_refl {X : jXX} : fX X X := fun _ _ => ⟨rfl, rfl⟩
theorem fX_trans {X X1 X2 : jXX} (h : fX X X1) (h2 : fX X1 X2) : fX X X2 := fun v a => ⟨(h2 v a).1.trans (h v a).1, (h2 v a).2.trans (h v a).2⟩
/-- rows of names are no longer than they must be -/
def cpT (X : jXX) (nn nb : Nat) : Prop := cp X 244 ≤ 64 + 2 * nn ∧ cp X 243 ≤ 1024 + 2 * nb
section RNG
variable {A : Nat → Nat} {d b n : Nat} {h : Nat → Option jC} {X : jXX} {I : Nat → Nat → Int32} {J : Nat → Nat → Int64} {R : Nat → Nat → Nat} {nn nb q z : Nat} {c4 c5 c6 c7 c8 : Option Value}
theorem r180g1 (hN : rNm X I nn nb) (hnn : nn < 2 ^ 19) : ∃ X' I' n', M180 A (d + 1) 153 [some (.ref (b + 241)), some (.ref (b + 249)), some (.int (nI q)), some (.int (nI z)), c4, c5, c6, c7, c8] [] (jH h b X I J R n) = M180 A (d + 1) 198 [some (.ref (b + 241)), some (.ref (b + 249)), some (.int (nI q)), some (.int (nI z)), c4, c5, c6, c7, c8] [] (jH h b X' I' J R n') ∧ rNm X' I' nn nb ∧ nn < cp X' 244 ∧ fN I I' ∧ fX X X' ∧ gro X n X' n' ∧ (∀ w, w < nn → I' 244 w = I 244 w ∧ I' 245 w = I 245 w) ∧ (∀ i, I' 243 i = I 243 i) ∧ cp X' 243 = cp X 243 ∧ (cp X' 244 = cp X 244 ∨ cp X' 244 = 2 * nn) := by
  obtain ⟨a1, a2, a3, a4, a5, a6, a7, a8, a9, a10, a11, a12, a13, a14, a15, a16⟩ := hN
  by_cases hc : nn = cp X 244
  · obtain ⟨c, hcc⟩ : ∃ c, c = cp X 244 := ⟨_, rfl⟩
    rw [← hcc] at a3 a4 a5 a7 a9 hc
    -- one
    have l1 := rLonger20 (d := d) (A := A) (b := b) (h := h) (J := J) (R := R) (X := X) (I := I) (n := n) (v := 244) (cap := c) (by decide) (by decide) hcc.symm (by omega)
    obtain ⟨X1, hX1⟩ : ∃ X1, X1 = xgr X 244 (I 244) (2 * c) (by decide) := ⟨_, rfl⟩
    obtain ⟨I1, hI1⟩ : ∃ I1, I1 = uc I 244 (gR I 244 c) := ⟨_, rfl⟩
    have s1 : M180 A (d + 1) 153 [some (.ref (b + 241)), some (.ref (b + 249)), some (.int (nI q)), some (.int (nI z)), c4, c5, c6, c7, c8] [] (jH h b X I J R n) = M180 A (d + 1) 176 [some (.ref (b + 241)), some (.ref (b + 249)), some (.int (nI q)), some (.int (nI z)), c4, c5, c6, c7, c8] [] (jH h b X1 I1 J R (n + 2 * c)) := by
      rw [gR_e] at l1
      rw [r180_153, hX1, hI1]
      simp (disch := omega) [r180_154, r180_157, r180_158, r180_161, r180_162, r180_165, r180_166, r180_167, r180_170, r180_173, g241, vf12_3, t241_3, g243, vf12_4, t241_4, g244, vf12_5, t241_5, g245, vf12_6, t241_6, g246, vf12_7, t241_7, g247, vf12_8, vf12_9, g249, qa178, List.getElem?_cons_zero, List.getElem?_cons_succ, List.length_cons, List.length_nil, ag_nx, ag_dn, ag_no, ag_if, jbr1, jbr2, jc1, jc2, jnul, jld, jsto, jstoL, jst1, jst2, jkill, jinc, jbI, jbL, jbS, juI, jl2i, jcmp, jisR, jisI, jisL, jret, jretv, jfits, jdup, jdup2, jpop, jmm, jcat, Value.category, jinv, jrcv, jthr, jhd, jput, jget, jlen, jald, jast, jaast, jgI, jgL, jgB, jtab, jlku, jacp, vf20, vf21, vf22, vf23, vf24, u2_s, u2_k, u2_i, uc_s, uc_k, uc_c, u2_c, LI0, LI1, LI2, LI3, LI4, LI5, LI6, LI7, LI8, LI9, LI10, LI11, LI12, LI13, LI14, LI15, LI16, LI17, LI18, LI19, LI20, LI21, LI22, LI23, LI24, LI25, LI26, LI27, LI28, LI29, LI30, LI31, LI32, LI33, LI34, LI35, LI36, LI37, LI40, LI42, LI43, LI45, LI48, LI60, LI61, LI64, LI80, LI300, LI400, LI1000, LI2000, LI2001, LI2047, LI2048, LI100000, LI1000000, LI38, LI39, LI41, LI44, LI46, LI47, LI49, LI50, LI51, LI52, LI53, LI54, LI55, LI56, LI57, LI58, LI59, LI62, LI63, LI65, LI66, LI67, LI68, LI69, LI70, LI71, LI72, LI73, LI74, LI75, LI76, LI77, LI78, LI79, LI81, LI82, LI83, LI84, LI85, LI86, LI87, LI88, LI89, LI90, LI91, LI92, LI93, LI94, LI95, LI96, LI97, LI98, LI99, LI100, LI101, LI102, LI103, LI104, LI105, LI106, LI107, LI108, LI109, LI110, LI111, LI112, LI113, LI114, LI115, LI116, LI117, LI118, LI119, LI120, LI121, LI122, LI123, LI124, LI125, LI126, LI127, LI255, LI256, LI999, LI1001, LI1002, LI1600, LI4096, LI1000001, LI2042, LM, nI_clamp, nI_pos', nI_lt, nI_nlt, nI_le, nI_ge, nI_ne, nI_add, nI_sub, mI_lt, mI_le, mI_nlt, mI_nle, mI_ne, mI_ne', mI_nem, a1, ← hcc, hc, l1, gr244, ty12_4]
    have p1 : ∀ v, v ≠ 244 → cp X1 v = cp X v := fun v hv => by rw [hX1, xgr_cp, if_neg hv]
    have pa1 : ∀ v, v ≠ 244 → ad X1 v = ad X v := fun v hv => by rw [hX1, xgr_ad, if_neg hv]
    have q1 : ∀ v, v ≠ 244 → I1 v = I v := fun v hv => by rw [hI1, uc_ne hv]
    have l2 := rLonger20 (d := d) (A := A) (b := b) (h := h) (J := J) (R := R) (X := X1) (I := I1) (n := n + 2 * c) (v := 245) (cap := c) (by decide) (by decide) (by rw [p1 _ (by omega)]; exact a4) (by omega)
    obtain ⟨X2, hX2⟩ : ∃ X2, X2 = xgr X1 245 (I1 245) (2 * c) (by decide) := ⟨_, rfl⟩
    obtain ⟨I2, hI2⟩ : ∃ I2, I2 = uc I1 245 (gR I1 245 c) := ⟨_, rfl⟩
    have s2 : M180 A (d + 1) 176 [some (.ref (b + 241)), some (.ref (b + 249)), some (.int (nI q)), some (.int (nI z)), c4, c5, c6, c7, c8] [] (jH h b X1 I1 J R (n + 2 * c)) = M180 A (d + 1) 187 [some (.ref (b + 241)), some (.ref (b + 249)), some (.int (nI q)), some (.int (nI z)), c4, c5, c6, c7, c8] [] (jH h b X2 I2 J R (n + 2 * c + 2 * c)) := by
      rw [gR_e] at l2
      rw [r180_176, hX2, hI2]
      simp (disch := omega) [r180_177, r180_178, r180_181, r180_184, g241, vf12_3, t241_3, g243, vf12_4, t241_4, g244, vf12_5, t241_5, g245, vf12_6, t241_6, g246, vf12_7, t241_7, g247, vf12_8, vf12_9, g249, qa178, List.getElem?_cons_zero, List.getElem?_cons_succ, List.length_cons, List.length_nil, ag_nx, ag_dn, ag_no, ag_if, jbr1, jbr2, jc1, jc2, jnul, jld, jsto, jstoL, jst1, jst2, jkill, jinc, jbI, jbL, jbS, juI, jl2i, jcmp, jisR, jisI, jisL, jret, jretv, jfits, jdup, jdup2, jpop, jmm, jcat, Value.category, jinv, jrcv, jthr, jhd, jput, jget, jlen, jald, jast, jaast, jgI, jgL, jgB, jtab, jlku, jacp, vf20, vf21, vf22, vf23, vf24, u2_s, u2_k, u2_i, uc_s, uc_k, uc_c, u2_c, LI0, LI1, LI2, LI3, LI4, LI5, LI6, LI7, LI8, LI9, LI10, LI11, LI12, LI13, LI14, LI15, LI16, LI17, LI18, LI19, LI20, LI21, LI22, LI23, LI24, LI25, LI26, LI27, LI28, LI29, LI30, LI31, LI32, LI33, LI34, LI35, LI36, LI37, LI40, LI42, LI43, LI45, LI48, LI60, LI61, LI64, LI80, LI300, LI400, LI1000, LI2000, LI2001, LI2047, LI2048, LI100000, LI1000000, LI38, LI39, LI41, LI44, LI46, LI47, LI49, LI50, LI51, LI52, LI53, LI54, LI55, LI56, LI57, LI58, LI59, LI62, LI63, LI65, LI66, LI67, LI68, LI69, LI70, LI71, LI72, LI73, LI74, LI75, LI76, LI77, LI78, LI79, LI81, LI82, LI83, LI84, LI85, LI86, LI87, LI88, LI89, LI90, LI91, LI92, LI93, LI94, LI95, LI96, LI97, LI98, LI99, LI100, LI101, LI102, LI103, LI104, LI105, LI106, LI107, LI108, LI109, LI110, LI111, LI112, LI113, LI114, LI115, LI116, LI117, LI118, LI119, LI120, LI121, LI122, LI123, LI124, LI125, LI126, LI127, LI255, LI256, LI999, LI1001, LI1002, LI1600, LI4096, LI1000001, LI2042, LM, nI_clamp, nI_pos', nI_lt, nI_nlt, nI_le, nI_ge, nI_ne, nI_add, nI_sub, mI_lt, mI_le, mI_nlt, mI_nle, mI_ne, mI_ne', mI_nem, l2, gr245, ty12_5]
    have p2 : ∀ v, v ≠ 245 → cp X2 v = cp X1 v := fun v hv => by rw [hX2, xgr_cp, if_neg hv]
    have pa2 : ∀ v, v ≠ 245 → ad X2 v = ad X1 v := fun v hv => by rw [hX2, xgr_ad, if_neg hv]
    have q2 : ∀ v, v ≠ 245 → I2 v = I1 v := fun v hv => by rw [hI2, uc_ne hv]
    have l3 := rLonger20 (d := d) (A := A) (b := b) (h := h) (J := J) (R := R) (X := X2) (I := I2) (n := n + 2 * c + 2 * c) (v := 246) (cap := c) (by decide) (by decide) (by rw [p2 _ (by omega), p1 _ (by omega)]; exact a5) (by omega)
    obtain ⟨X3, hX3⟩ : ∃ X3, X3 = xgr X2 246 (I2 246) (2 * c) (by decide) := ⟨_, rfl⟩
    obtain ⟨I3, hI3⟩ : ∃ I3, I3 = uc I2 246 (gR I2 246 c) := ⟨_, rfl⟩
    have s3 : M180 A (d + 1) 187 [some (.ref (b + 241)), some (.ref (b + 249)), some (.int (nI q)), some (.int (nI z)), c4, c5, c6, c7, c8] [] (jH h b X2 I2 J R (n + 2 * c + 2 * c)) = M180 A (d + 1) 198 [some (.ref (b + 241)), some (.ref (b + 249)), some (.int (nI q)), some (.int (nI z)), c4, c5, c6, c7, c8] [] (jH h b X3 I3 J R (n + 2 * c + 2 * c + 2 * c)) := by
      rw [gR_e] at l3
      rw [r180_187, hX3, hI3]
      simp (disch := omega) [r180_188, r180_189, r180_192, r180_195, g241, vf12_3, t241_3, g243, vf12_4, t241_4, g244, vf12_5, t241_5, g245, vf12_6, t241_6, g246, vf12_7, t241_7, g247, vf12_8, vf12_9, g249, qa178, List.getElem?_cons_zero, List.getElem?_cons_succ, List.length_cons, List.length_nil, ag_nx, ag_dn, ag_no, ag_if, jbr1, jbr2, jc1, jc2, jnul, jld, jsto, jstoL, jst1, jst2, jkill, jinc, jbI, jbL, jbS, juI, jl2i, jcmp, jisR, jisI, jisL, jret, jretv, jfits, jdup, jdup2, jpop, jmm, jcat, Value.category, jinv, jrcv, jthr, jhd, jput, jget, jlen, jald, jast, jaast, jgI, jgL, jgB, jtab, jlku, jacp, vf20, vf21, vf22, vf23, vf24, u2_s, u2_k, u2_i, uc_s, uc_k, uc_c, u2_c, LI0, LI1, LI2, LI3, LI4, LI5, LI6, LI7, LI8, LI9, LI10, LI11, LI12, LI13, LI14, LI15, LI16, LI17, LI18, LI19, LI20, LI21, LI22, LI23, LI24, LI25, LI26, LI27, LI28, LI29, LI30, LI31, LI32, LI33, LI34, LI35, LI36, LI37, LI40, LI42, LI43, LI45, LI48, LI60, LI61, LI64, LI80, LI300, LI400, LI1000, LI2000, LI2001, LI2047, LI2048, LI100000, LI1000000, LI38, LI39, LI41, LI44, LI46, LI47, LI49, LI50, LI51, LI52, LI53, LI54, LI55, LI56, LI57, LI58, LI59, LI62, LI63, LI65, LI66, LI67, LI68, LI69, LI70, LI71, LI72, LI73, LI74, LI75, LI76, LI77, LI78, LI79, LI81, LI82, LI83, LI84, LI85, LI86, LI87, LI88, LI89, LI90, LI91, LI92, LI93, LI94, LI95, LI96, LI97, LI98, LI99, LI100, LI101, LI102, LI103, LI104, LI105, LI106, LI107, LI108, LI109, LI110, LI111, LI112, LI113, LI114, LI115, LI116, LI117, LI118, LI119, LI120, LI121, LI122, LI123, LI124, LI125, LI126, LI127, LI255, LI256, LI999, LI1001, LI1002, LI1600, LI4096, LI1000001, LI2042, LM, nI_clamp, nI_pos', nI_lt, nI_nlt, nI_le, nI_ge, nI_ne, nI_add, nI_sub, mI_lt, mI_le, mI_nlt, mI_nle, mI_ne, mI_ne', mI_nem, l3, gr246, ty12_6]
    have p3 : ∀ v, v ≠ 246 → cp X3 v = cp X2 v := fun v hv => by rw [hX3, xgr_cp, if_neg hv]
    have pa3 : ∀ v, v ≠ 246 → ad X3 v = ad X2 v := fun v hv => by rw [hX3, xgr_ad, if_neg hv]
    have q3 : ∀ v, v ≠ 246 → I3 v = I2 v := fun v hv => by rw [hI3, uc_ne hv]
    have e4 : cp X3 244 = 2 * c := by rw [p3 _ (by omega), p2 _ (by omega), hX1, xgr_cp, if_pos rfl]
    have e5 : cp X3 245 = 2 * c := by rw [p3 _ (by omega), hX2, xgr_cp, if_pos rfl]
    have e6 : cp X3 246 = 2 * c := by rw [hX3, xgr_cp, if_pos rfl]
    have e3 : cp X3 243 = cp X 243 := by rw [p3 _ (by omega), p2 _ (by omega), p1 _ (by omega)]
    have i4 : ∀ w, w < nn → I3 244 w = I 244 w := fun w hw => by
      rw [q3 _ (by omega), q2 _ (by omega), hI1, uc_at]
      unfold gR
      rw [if_pos (by omega)]
    have i5 : ∀ w, w < nn → I3 245 w = I 245 w := fun w hw => by
      rw [q3 _ (by omega), hI2, uc_at]
      unfold gR
      rw [if_pos (by omega), q1 _ (by omega)]
    have i6 : ∀ w, w < nn → I3 246 w = I 246 w := fun w hw => by
      rw [hI3, uc_at]
      unfold gR
      rw [if_pos (by omega), q2 _ (by omega), q1 _ (by omega)]
    have io : ∀ v, v ≠ 244 → v ≠ 245 → v ≠ 246 → I3 v = I v := fun v h1 h2 h3 => by rw [q3 v h3, q2 v h2, q1 v h1]
    refine ⟨X3, I3, n + 2 * c + 2 * c + 2 * c, by rw [s1, s2, s3], ?_, by omega, fun v i h1 h2 => by rw [io v (by omega) (by omega) (by omega)], fun v hv => ⟨by rw [p3 v (by omega), p2 v (by omega), p1 v (by omega)], by rw [pa3 v (by omega), pa2 v (by omega), pa1 v (by omega)]⟩, ?_, fun w hw => ⟨i4 w hw, i5 w hw⟩, fun i => by rw [io 243 (by omega) (by omega) (by omega)], e3, Or.inr (by omega)⟩
    · refine rNm_fr (X := X) (I := I) ⟨a1, a2, by omega, by omega, by omega, a6, by omega, a8, by omega, a10, a11, a12, a13, a14, a15, a16⟩ (by rw [io _ (by omega) (by omega) (by omega)]) (by rw [io _ (by omega) (by omega) (by omega)]) (by omega) (by omega) (by omega) (by omega) (by omega) (by omega) i4 i5 i6 (fun s => by rw [io _ (by omega) (by omega) (by omega)]) (fun i hi => by rw [io _ (by omega) (by omega) (by omega)]) (fun i hi => by rw [io _ (by omega) (by omega) (by omega)]; exact a16 i (by omega))
    · refine gro_trans (gro_trans (?_ : gro X n X1 (n + 2 * c)) (?_ : gro X1 (n + 2 * c) X2 (n + 2 * c + 2 * c))) (?_ : gro X2 (n + 2 * c + 2 * c) X3 (n + 2 * c + 2 * c + 2 * c))
      · rw [hX1]; exact gro_x scp244 (by omega) (by omega)
      · rw [hX2]; exact gro_x scp245 (by rw [p1 _ (by omega)]; omega) (by rw [p1 _ (by omega)]; omega)
      · rw [hX3]; exact gro_x scp246 (by rw [p2 _ (by omega), p1 _ (by omega)]; omega) (by rw [p2 _ (by omega), p1 _ (by omega)]; omega)
  · refine ⟨X, I, n, ?_, ⟨a1, a2, a3, a4, a5, a6, a7, a8, a9, a10, a11, a12, a13, a14, a15, a16⟩, by omega, fN_refl, fX_refl, gro_refl, fun w hw => ⟨rfl, rfl⟩, fun i => rfl, rfl, Or.inl rfl⟩
    rw [r180_153]
    simp (disch := omega) [r180_154, r180_157, r180_158, r180_161, r180_162, g241, vf12_3, t241_3, g243, vf12_4, t241_4, g244, vf12_5, t241_5, g245, vf12_6, t241_6, g246, vf12_7, t241_7, g247, vf12_8, vf12_9, g249, List.getElem?_cons_zero, List.getElem?_cons_succ, List.length_cons, List.length_nil, ag_nx, ag_dn, ag_no, ag_if, jbr1, jbr2, jc1, jc2, jnul, jld, jsto, jstoL, jst1, jst2, jkill, jinc, jbI, jbL, jbS, juI, jl2i, jcmp, jisR, jisI, jisL, jret, jretv, jfits, jdup, jdup2, jpop, jmm, jcat, Value.category, jinv, jrcv, jthr, jhd, jput, jget, jlen, jald, jast, jaast, jgI, jgL, jgB, jtab, jlku, jacp, vf20, vf21, vf22, vf23, vf24, u2_s, u2_k, u2_i, uc_s, uc_k, uc_c, u2_c, LI0, LI1, LI2, LI3, LI4, LI5, LI6, LI7, LI8, LI9, LI10, LI11, LI12, LI13, LI14, LI15, LI16, LI17, LI18, LI19, LI20, LI21, LI22, LI23, LI24, LI25, LI26, LI27, LI28, LI29, LI30, LI31, LI32, LI33, LI34, LI35, LI36, LI37, LI40, LI42, LI43, LI45, LI48, LI60, LI61, LI64, LI80, LI300, LI400, LI1000, LI2000, LI2001, LI2047, LI2048, LI100000, LI1000000, LI38, LI39, LI41, LI44, LI46, LI47, LI49, LI50, LI51, LI52, LI53, LI54, LI55, LI56, LI57, LI58, LI59, LI62, LI63, LI65, LI66, LI67, LI68, LI69, LI70, LI71, LI72, LI73, LI74, LI75, LI76, LI77, LI78, LI79, LI81, LI82, LI83, LI84, LI85, LI86, LI87, LI88, LI89, LI90, LI91, LI92, LI93, LI94, LI95, LI96, LI97, LI98, LI99, LI100, LI101, LI102, LI103, LI104, LI105, LI106, LI107, LI108, LI109, LI110, LI111, LI112, LI113, LI114, LI115, LI116, LI117, LI118, LI119, LI120, LI121, LI122, LI123, LI124, LI125, LI126, LI127, LI255, LI256, LI999, LI1001, LI1002, LI1600, LI4096, LI1000001, LI2042, LM, nI_clamp, nI_pos', nI_lt, nI_nlt, nI_le, nI_ge, nI_ne, nI_add, nI_sub, mI_lt, mI_le, mI_nlt, mI_nle, mI_ne, mI_ne', mI_nem, a1]
end RNG
