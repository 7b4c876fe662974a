/-! turns in a row -/
def aLast (x : Int32) (W : aW Nm) : aW Nm := (W.1, (W.2.1.1, W.2.1.2.1, W.2.1.2.2.1, W.2.1.2.2.2.1, x), W.2.2)
def aRuns (rN : Int32 → Nm) (N : Nat → Nat → Int32) : Nat → aW Nm → Nat × aW Nm
  | 0, W => (0, W)
  | r + 1, W => match aNext rN N W with
    | none => (0, W)
    | some k => ((aRuns rN N r (aTurn rN N true k (aLast (aAt W k).1.1 W)).2).1 + 1, (aRuns rN N r (aTurn rN N true k (aLast (aAt W k).1.1 W)).2).2)
theorem aRuns_le {rN : Int32 → Nm} {N : Nat → Nat → Int32} : ∀ (r : Nat) (W : aW Nm), (aRuns rN N r W).1 ≤ r := by
  intro r
  induction r with
  | zero => intro W; exact Nat.le_refl _
  | succ r ih =>
    intro W
    unfold aRuns
    cases aNext rN N W with
    | none => exact Nat.zero_le _
    | some k => exact Nat.succ_le_succ (ih _)
section CRS
variable {A : Nat → Nat} {d b n w P k : Nat} {h : Nat → Option jC} {X : jXX} {I : Nat → Nat → Int32} {J : Nat → Nat → Int64} {R : Nat → Nat → Nat} {cN rN : Int32 → Nm} {W : aW Nm} {N : Nat → Nat → Int32} {O G E : Nat → Int32} {np L B D M : Nat} {l : Bool}
theorem okW_last {x : Int32} (hok : okW N np B W) : okW N np B (aLast x W) := okW_eq hok rfl rfl
theorem okD_last {x : Int32} (hd : okD D W) : okD D (aLast x W) := hd
theorem okW_mono {B' : Nat} (hok : okW N np B W) (h : B ≤ B') : okW N np B' W := by
  obtain ⟨h1, h2, h3, g, ids, h4, h5, h6⟩ := hok
  exact ⟨h1, h2, h3, g, ids, h4, by omega, h6⟩
theorem wC_last {x : Int32} (hW : wC cN I R 57 W) : wC cN (u2 I 57 8 x) R 57 (aLast x W) := by
  obtain ⟨hA, h4, h5, hL, hQ⟩ := hW
  refine ⟨wA_fr (fun c i h1 h2 => by rw [u2_k (by omega)]) (by rw [u2_i (by omega)]) hA, by rw [u2_i (by omega)]; exact h4, by rw [u2_i (by omega)]; exact h5, fun e => ?_, fun e => absurd e (by omega)⟩
  obtain ⟨h6, h7, h8, hm, he, ht, hx⟩ := hL e
  refine ⟨by rw [u2_i (by omega)]; exact h6, by rw [u2_i (by omega)]; exact h7, u2_s, hm, by rw [u2_k (by omega)]; exact he, ?_, by rw [u2_k (by omega)]; exact hx⟩
  refine ht.trans (rl_congr fun j hj => ?_)
  unfold eC
  simp (disch := omega) [u2_k]
theorem cRuns (hm1 : cN (-1) = rN (-1)) (hm : ∀ z, rN z = cN (-1) → z = -1) (hP : isP P) (hj : ∀ x y, cN x = cN y → x = y) (hvN : vN N M np) : ∀ (r c B : Nat) (W : aW Nm) (I : Nat → Nat → Int32) (R : Nat → Nat → Nat) (c3 : Option Value), R 57 0 = P → plC cN rN N O G E np P L I → wC cN I R 57 W → okW N np B W → okD D W → B + r + 8 < 2 ^ 31 → c + r < 2 ^ 31 → ∃ I' R', M120 A (d + 5) 2 [some (.ref (b + 57)), some (.int (nI (c + r))), some (.int (nI c)), c3] [] (jH h b X I J R n) = some (.inl (some (.int (nI (c + (aRuns rN N r W).1)))), jH h b X I' J R' n) ∧ wC cN I' R' 57 (aRuns rN N r W).2 ∧ (∀ c i, c < 57 ∨ 57 + 73 < c → I' c i = I c i) ∧ (∀ c j, c ≠ 57 + 8 → R' c j = R c j) ∧ okW N np (B + r) (aRuns rN N r W).2 ∧ okD D (aRuns rN N r W).2 := by
  have hw : isW 57 := by simp [isW]
  have hPe := isP_e hP
  intro r
  induction r with
  | zero =>
    intro c B W I R c3 hR hpl hW hok hd hB hc
    refine ⟨I, R, ?_, hW, fun _ _ _ => rfl, fun _ _ _ => rfl, hok, hd⟩
    rw [r120_2]
    simp (disch := omega) [r120_3, r120_4, r120_39, r120_40, List.getElem?_cons_zero, List.getElem?_cons_succ, List.length_cons, List.length_nil, ag_nx, ag_dn, ag_no, ag_if, jbr1, jbr2, jc1, jc2, jnul, jld, jsto, jstoL, jst1, jst2, jkill, jinc, jbI, jbL, jbS, juI, jl2i, jcmp, jisR, jisI, jisL, jret, jretv, jfits, jdup, jdup2, jpop, jmm, jcat, Value.category, jinv, jrcv, jthr, jhd, jput, jget, jlen, jald, jast, jaast, jgI, jgL, jgB, jtab, jlku, jacp, vf20, vf21, vf22, vf23, vf24, u2_s, u2_k, u2_i, uc_s, uc_k, uc_c, u2_c, LI0, LI1, LI2, LI3, LI4, LI5, LI6, LI7, LI8, LI9, LI10, LI11, LI12, LI13, LI14, LI15, LI16, LI17, LI18, LI19, LI20, LI21, LI22, LI23, LI24, LI25, LI26, LI27, LI28, LI29, LI30, LI31, LI32, LI33, LI34, LI35, LI36, LI37, LI40, LI42, LI43, LI45, LI48, LI60, LI61, LI64, LI80, LI300, LI400, LI1000, LI2000, LI2001, LI2047, LI2048, LI100000, LI1000000, LM, nI_clamp, nI_pos', nI_lt, nI_nlt, nI_le, nI_ge, nI_ne, nI_add, nI_sub, mI_lt, mI_le, mI_nlt, mI_nle, mI_ne, mI_ne', mI_nem, aRuns]
  | succ r ih =>
    intro c B W I R c3 hR hpl hW hok hd hB hc
    obtain ⟨I2, e2, o2⟩ := cNextRun (d := d) (A := A) (b := b) (h := h) (X := X) (J := J) (n := n) rfl hP hR hj hm hpl hW hok
    have w2 := wC_onT hw o2 hW
    cases hx : aNext rN N W with
    | none =>
      rw [hx] at e2
      simp only [aRuns, hx]
      refine ⟨I2, R, ?_, w2, fun c i hc => o2 c i (by omega) (by omega), fun _ _ _ => rfl, okW_mono hok (by omega), hd⟩
      simp only [rfO] at e2
      rw [r120_2]
      have hi : isI 66 := by simp [isI]
      simp (disch := omega) [r120_0, r120_1, r120_3, r120_4, r120_7, r120_8, r120_11, r120_12, r120_13, r120_16, r120_19, r120_20, r120_21, r120_24, r120_27, r120_28, r120_29, r120_32, r120_33, r120_36, r120_39, r120_40, qa121, qo121, gW0 hw, gI0 hi, vf2_0, pW0_8 hw, ty9_8, qa122, qo122, List.getElem?_cons_zero, List.getElem?_cons_succ, List.length_cons, List.length_nil, ag_nx, ag_dn, ag_no, ag_if, jbr1, jbr2, jc1, jc2, jnul, jld, jsto, jstoL, jst1, jst2, jkill, jinc, jbI, jbL, jbS, juI, jl2i, jcmp, jisR, jisI, jisL, jret, jretv, jfits, jdup, jdup2, jpop, jmm, jcat, Value.category, jinv, jrcv, jthr, jhd, jput, jget, jlen, jald, jast, jaast, jgI, jgL, jgB, jtab, jlku, jacp, vf20, vf21, vf22, vf23, vf24, u2_s, u2_k, u2_i, uc_s, uc_k, uc_c, u2_c, LI0, LI1, LI2, LI3, LI4, LI5, LI6, LI7, LI8, LI9, LI10, LI11, LI12, LI13, LI14, LI15, LI16, LI17, LI18, LI19, LI20, LI21, LI22, LI23, LI24, LI25, LI26, LI27, LI28, LI29, LI30, LI31, LI32, LI33, LI34, LI35, LI36, LI37, LI40, LI42, LI43, LI45, LI48, LI60, LI61, LI64, LI80, LI300, LI400, LI1000, LI2000, LI2001, LI2047, LI2048, LI100000, LI1000000, LM, nI_clamp, nI_pos', nI_lt, nI_nlt, nI_le, nI_ge, nI_ne, nI_add, nI_sub, mI_lt, mI_le, mI_nlt, mI_nle, mI_ne, mI_ne', mI_nem, e2]
    | some k =>
      rw [hx] at e2
      obtain ⟨a, ha⟩ := aNext_at hx
      have k8 := wA_lt hW.1 ha
      have hi := wA_I hw hW.1 k k8
      have hr := okS_r hW.1.1 k8
      have w3 := wC_last (x := a.1.1) w2
      have p2 : plC cN rN N O G E np P L (u2 I2 57 8 a.1.1) := plC_fr (fun c i h1 h2 => by rw [u2_k (by omega)]; exact o2 c i (by omega) (by omega)) hpl
      have ha3 : (aLast a.1.1 W).1[k]? = some a := ha
      obtain ⟨I4, R4, e4, w4, f4, g4⟩ := cTurn (d := d) (A := A) (b := b) (h := h) (X := X) (J := J) (n := n) (R := R) (w := 57) (M := M) hm1 hm hw hP hR hj p2 w3 ha3 (okW_last hok) (by omega) hvN
      have hdec : decide ((57 : Nat) = 57) = true := by decide
      rw [hdec] at e4 w4
      obtain ⟨ok4, d4⟩ := ok_turn (rN := rN) (l := true) hvN (okW_last (x := a.1.1) hok) (okD_last hd) ha3
      have p4 : plC cN rN N O G E np P L I4 := plC_fr (fun c i h1 h2 => f4 c i (by omega)) p2
      obtain ⟨I5, R5, e5, w5, f5, g5, ok5, d5⟩ := ih (c + 1) (B + 1) _ I4 R4 (some (.ref (b + R (57 + 8) k))) (by rw [g4 _ _ (by omega)]; exact hR) p4 w4 ok4 d4 (by omega) (by omega)
      have h0 : I2 (R (57 + 8) k) 0 = a.1.1 := by rw [o2 _ _ (by omega) (by omega)]; exact (iC_01 (hW.1.2.2.2 k a ha)).1
      simp only [aRuns, hx]
      rw [aAt_of ha]
      refine ⟨I5, R5, ?_, w5, fun c i hc => ?_, fun c j hc => (g5 c j hc).trans (g4 c j hc), okW_mono ok5 (by omega), d5⟩
      · have hq : c + ((aRuns rN N r (aTurn rN N true k (aLast a.1.1 W)).2).1 + 1) = c + 1 + (aRuns rN N r (aTurn rN N true k (aLast a.1.1 W)).2).1 := by omega
        rw [hq, show c + (r + 1) = c + 1 + r by omega, ← e5, r120_2]
        simp only [rfO] at e2
        simp (disch := omega) [r120_0, r120_1, r120_3, r120_4, r120_7, r120_8, r120_11, r120_12, r120_13, r120_16, r120_19, r120_20, r120_21, r120_24, r120_27, r120_28, r120_29, r120_32, r120_33, r120_36, r120_39, r120_40, qa121, qo121, gW0 hw, gI0 hi, vf2_0, pW0_8 hw, ty9_8, qa122, qo122, List.getElem?_cons_zero, List.getElem?_cons_succ, List.length_cons, List.length_nil, ag_nx, ag_dn, ag_no, ag_if, jbr1, jbr2, jc1, jc2, jnul, jld, jsto, jstoL, jst1, jst2, jkill, jinc, jbI, jbL, jbS, juI, jl2i, jcmp, jisR, jisI, jisL, jret, jretv, jfits, jdup, jdup2, jpop, jmm, jcat, Value.category, jinv, jrcv, jthr, jhd, jput, jget, jlen, jald, jast, jaast, jgI, jgL, jgB, jtab, jlku, jacp, vf20, vf21, vf22, vf23, vf24, u2_s, u2_k, u2_i, uc_s, uc_k, uc_c, u2_c, LI0, LI1, LI2, LI3, LI4, LI5, LI6, LI7, LI8, LI9, LI10, LI11, LI12, LI13, LI14, LI15, LI16, LI17, LI18, LI19, LI20, LI21, LI22, LI23, LI24, LI25, LI26, LI27, LI28, LI29, LI30, LI31, LI32, LI33, LI34, LI35, LI36, LI37, LI40, LI42, LI43, LI45, LI48, LI60, LI61, LI64, LI80, LI300, LI400, LI1000, LI2000, LI2001, LI2047, LI2048, LI100000, LI1000000, LM, nI_clamp, nI_pos', nI_lt, nI_nlt, nI_le, nI_ge, nI_ne, nI_add, nI_sub, mI_lt, mI_le, mI_nlt, mI_nle, mI_ne, mI_ne', mI_nem, e2, h0, e4]
      · rw [f5 c i hc, f4 c i hc, u2_k (by omega)]
        exact o2 c i (by omega) (by omega)
end CRS
