/-! the class takes a turn -/
section CG
variable {A : Nat → Nat} {d b n w P p k : Nat} {h : Nat → Option jC} {X : jXX} {I : Nat → Nat → Int32} {J : Nat → Nat → Int64} {R : Nat → Nat → Nat} {cN rN : Int32 → Nm} {a : aI Nm} {W : aW Nm} {N : Nat → Nat → Int32} {O G E : Nat → Int32} {np L : Nat}
/-- a body, from its beginning to its end -/
theorem cExec {B M p_ x : Nat} (hm1 : cN (-1) = rN (-1)) (hw : isW w) (hP : isP P) (hR : R w 0 = P) (hj : ∀ x y, cN x = cN y → x = y) (hpl : plC cN rN N O G E np P L I) (hW : wC cN I R w W) (hk : W.1[k]? = some a) (hok : okW N np B W) (hB : B + 8 < 2 ^ 31) (hM : M < 2 ^ 20) (hp : p_ < np) (hpr : a.1.2.1 = nI p_) (hD : sD cN rN N O G E (lets N p_).length (sts N p_).length np L p x) (hv : vB N M (lets N p_).length (sts N p_).length np RD (acts N x)) :
    ∃ I' R', jcall A jcode (d + 4) 128 [.ref (b + w), .ref (b + R (w + 8) k), .int (nI p)] (jH h b X I J R n) = some (.inl none, jH h b X I' J R' n) ∧ wC cN I' R' w (if (aRun rN N (decide (w = 57)) k RD (acts N x) W).1 = 2 ∨ (aRun rN N (decide (w = 57)) k RD (acts N x) W).1 = 0 ∧ a.1.2.2.1 < 0 then aGone rN (decide (w = 57)) k (aRun rN N (decide (w = 57)) k RD (acts N x) W).2 else (aRun rN N (decide (w = 57)) k RD (acts N x) W).2) ∧ (∀ c i, c < w ∨ w + 73 < c → I' c i = I c i) ∧ ∀ c j, c ≠ w + 8 → R' c j = R c j := by
  have w1 := isW_e hw
  have n6 := hpl.1
  have k8 := wA_lt hW.1 hk
  have hi := wA_I hw hW.1 k k8
  have hr := okS_r hW.1.1 k8
  obtain ⟨q, hs, hq, h28⟩ := hD
  have wt := wC_top (v := nI 0) hw hW
  have pt := plC_out (I1 := u2 I w 10 (nI 0)) hw hP (fun c i hc => by rw [u2_k (by omega)]) hpl
  have kp := hpl.2.2.2 p_ hp
  have s8 : (sts N p_).length ≤ 8 := kp.2.2.2.2.2.2.2.1
  have ho := cRun (d := d) (A := A) (b := b) (h := h) (X := X) (J := J) (R := R) (n := n) (x2 := nI p) (k := k) hm1 hw hP hR hj hB hM hp kp.2.2.2.2.1 RD p (acts N x) q W (u2 I w 10 (nI 0)) a hs hv hq pt wt hok hk hpr u2_s
  have en : ∀ r, (M128 A (d + 3) 19 [some (.ref (b + w)), some (.ref (b + R (w + 8) k)), some (.int (nI p)), some (.ref (b + (P + 4))), some (.int (nI p)), some (.int (nI 0)), none, none, none] [] (jH h b X (u2 I w 10 (nI 0)) J R n) = r) → jcall A jcode (d + 4) 128 [.ref (b + w), .ref (b + R (w + 8) k), .int (nI p)] (jH h b X I J R n) = r := by
    intro r hr'
    simp (disch := omega) [je128, r128_0, r128_1, r128_4, r128_7, r128_8, r128_9, r128_11, r128_12, r128_13, r128_16, r128_17, gW0 hw, vf9_0, tW0_0 hw, gP0 hP, vf5_2, tP0_2 hP, pW0_10 hw, ty9_10, gP4 hP, vf1_4, vf1_0, tP4_0 hP, gP5 hP, vf1_1, tP4_1 hP, gP6 hP, vf1_2, tP4_2 hP, gP7 hP, qa131, qo131, qa17, qo17, gI0 hi, vf9_1, tW0_1 hw, vf2_0, vf2_1, qa102, qo102, gW1 hw, vf2_4, qa116, qo116, qa133, qo133, vf2_3, vf2_5, qa132, qo132, qa135, qo135, qa23, qo23, qa136, qo136, pI0_2 hi, ty2_2, qa138, qo138, vf2_2, qa129, qo129, List.getElem?_cons_zero, List.getElem?_cons_succ, List.length_cons, List.length_nil, ag_nx, ag_dn, ag_no, ag_if, jbr1, jbr2, jc1, jc2, jnul, jld, jsto, jstoL, jst1, jst2, jkill, jinc, jbI, jbL, jbS, juI, jl2i, jcmp, jisR, jisI, jisL, jret, jretv, jfits, jdup, jdup2, jpop, jmm, jcat, Value.category, jinv, jrcv, jthr, jhd, jput, jget, jlen, jald, jast, jaast, jgI, jgL, jgB, jtab, jlku, jacp, vf20, vf21, vf22, vf23, vf24, u2_s, u2_k, u2_i, uc_s, uc_k, uc_c, u2_c, LI0, LI1, LI2, LI3, LI4, LI5, LI6, LI7, LI8, LI9, LI10, LI11, LI12, LI13, LI14, LI15, LI16, LI17, LI18, LI19, LI20, LI21, LI22, LI23, LI24, LI25, LI26, LI27, LI28, LI29, LI30, LI31, LI32, LI33, LI34, LI35, LI36, LI37, LI40, LI42, LI43, LI45, LI48, LI60, LI61, LI64, LI80, LI300, LI400, LI1000, LI2000, LI2001, LI2047, LI2048, LI100000, LI1000000, LM, nI_clamp, nI_pos', nI_lt, nI_nlt, nI_le, nI_ge, nI_ne, nI_add, nI_sub, mI_lt, mI_le, mI_nlt, mI_nle, mI_ne, mI_ne', mI_nem, hR, hr']
  have f0 : ∀ c i, c < w ∨ w + 73 < c → u2 I w 10 (nI 0) c i = I c i := fun c i hc => u2_k (by omega)
  rcases ho with ⟨hz, I1, k1, wc1, f1, t1⟩ | ⟨hz, I1, k1, wc1, f1⟩ | ⟨hz, I1, R1, k1, wc1, f1, r1⟩
  · have hkr := ok_run (rN := rN) (l := decide (w = 57)) n6 hM hp rfl RD (acts N x) W a hok hk hpr hv
    have hst := st_run (rN := rN) (l := decide (w = 57)) n6 hM hp rfl RD (acts N x) W a hok hk hpr hv hz
    obtain ⟨a1, b1, b2⟩ := hst a hk
    obtain ⟨st, c6, c7, c8, hs1, e1⟩ := k1 0 none none none (by omega)
    have pl1 := plC_out hw hP f1 pt
    obtain ⟨p', q1, q2, q3, q4, _⟩ := hok.2.1 k a hk
    rcases q4 with q4 | ⟨s, hss, q4⟩
    · rw [if_pos (Or.inr ⟨hz, by rw [q4]; decide⟩)]
      obtain ⟨I2, R2, k2, w2, f2, r2⟩ := xStop (d := d + 1) (A := A) (b := b) (h := h) (X := X) (J := J) (R := R) (n := n) (x2 := nI p) hm1 hw hP hR hj pl1 wc1 b1 (fun j c hj' hc' => okW_ids hB hkr.1 hc' b1 hj') (Or.inr ⟨h28, b2.trans q4⟩) hq
      exact ⟨I2, R2, en _ (e1.trans (k2 st c6 c7 c8 hs1)), w2, fun c i hc => (f2.1 c i hc).trans ((f1 c i hc).trans (f0 c i hc)), r2⟩
    · have hpp : p' = p_ := by
        rw [hpr] at q2
        exact ((nI_eq (by omega) (by omega)).mp q2).symm
      subst hpp
      have hng : ¬ a.1.2.2.1 < 0 := by rw [q4]; exact nI_pos (by omega)
      rw [if_neg (fun h => h.elim (fun h => by rw [hz] at h; exact absurd h (by decide)) (fun h => hng h.2))]
      have k2 := xEnd (d := d + 3) (A := A) (b := b) (h := h) (X := X) (J := J) (R := R) (n := n) (x2 := nI p) hw hP hR hj pl1 wc1 b1 h28 (b2.trans q4) (by omega) hq st c6 c7 c8 hs1
      exact ⟨I1, R, en _ (e1.trans k2), wc1, fun c i hc => (f1 c i hc).trans (f0 c i hc), fun _ _ _ => rfl⟩
  · rw [if_neg (by rintro (h | ⟨h, _⟩) <;> (rw [hz] at h; exact absurd h (by decide)))]
    exact ⟨I1, R, en _ (k1 0 none none none (by omega)), wc1, fun c i hc => (f1 c i hc).trans (f0 c i hc), fun _ _ _ => rfl⟩
  · rw [if_pos (Or.inl hz)]
    exact ⟨I1, R1, en _ (k1 0 none none none (by omega)), wc1, fun c i hc => (f1 c i hc).trans (f0 c i hc), r1⟩
theorem wC_onT {I1 : Nat → Nat → Int32} (hw : isW w) (ho : onT w I I1) (hW : wC cN I R w W) : wC cN I1 R w W := by
  have w1 := isW_e hw
  exact ⟨wA_fr (fun c i h1 h2 => ho c i (by omega) (by omega)) (ho w 3 (by omega) (by omega)) hW.1, tC_fr (fun c i h1 h2 => ho c i (by omega) (by omega)) (fun i h1 h2 => ho w i (by omega) (by omega)) hW.2⟩
theorem clO_some {m c : Nat} : clO m (some c) = nI (m + c) := rfl
theorem clO_none {m : Nat} : clO m none = -1 := rfl
/-- a turn -/
theorem cTurn {B M : Nat} (hm1 : cN (-1) = rN (-1)) (hm : ∀ z, rN z = cN (-1) → z = -1) (hw : isW w) (hP : isP P) (hR : R w 0 = P) (hj : ∀ x y, cN x = cN y → x = y) (hpl : plC cN rN N O G E np P L I) (hW : wC cN I R w W) (hk : W.1[k]? = some a) (hok : okW N np B W) (hB : B + 8 < 2 ^ 31) (hvN : vN N M np) :
    ∃ I' R', jcall A jcode (d + 5) 122 [.ref (b + w), .ref (b + R (w + 8) k)] (jH h b X I J R n) = some (.inl (some (.int (aTurn rN N (decide (w = 57)) k W).1)), jH h b X I' J R' n) ∧ wC cN I' R' w (aTurn rN N (decide (w = 57)) k W).2 ∧ (∀ c i, c < w ∨ w + 73 < c → I' c i = I c i) ∧ ∀ c j, c ≠ w + 8 → R' c j = R c j := by
  have w1 := isW_e hw
  have w2 := isP_e hP
  have n6 := hpl.1
  have k8 := wA_lt hW.1 hk
  have hkl := lt_of_some hk
  have hi := wA_I hw hW.1 k k8
  have hr := okS_r hW.1.1 k8
  have hA := hW.1.2.2.2 k a hk
  obtain ⟨i0, i1, i2, _⟩ := iC_01 hA
  have haI := hok.2.1 k a hk
  obtain ⟨I1, e1, o1, c11, c12⟩ := cChoose (d := d) (A := A) (b := b) (h := h) (X := X) (J := J) (R := R) (n := n) hw hi hP hR hj hm hr hpl hA haI hW.2.2.1
  have wt := wC_onT hw o1 hW
  have plt := plC_on hw hP o1 hpl
  have f1 : ∀ c i, c < w ∨ w + 73 < c → I1 c i = I c i := fun c i hc => o1 c i (by omega) (by omega)
  obtain ⟨p_, hp, hpr, hva, hst, hq8, ht4⟩ := haI
  have vp := hvN.2.2.2 p_ hp
  have kp := hpl.2.2.2 p_ hp
  have hpx : ix a.1.2.1 = p_ := by rw [hpr]; exact nI_clamp (by omega)
  have z1 : I1 (R (w + 8) k) 1 = nI p_ := by rw [o1 _ _ (by omega) (by omega)]; exact i1.trans hpr
  have hat := aAt_of hk
  have hnw : W.2.1.2.1 = W.2.1.2.1 := rfl
  obtain ⟨kd, i, c, hpa⟩ : ∃ kd i c, aPlan rN N W.2.1.2.1 a = (kd, i, c) := ⟨_, _, _, rfl⟩
  have okl : okL W.1 := okW_L n6 (fun p hp => (hpl.2.2.2 p hp).2.2.2.2.1) hok
  rw [hpa] at e1 c11 c12
  simp only at e1 c11 c12
  -- behind the signal: a body at a clause
  have body : ∀ (c' cn : Nat) (W1 : aW Nm) (a1 : aI Nm) (I2 : Nat → Nat → Int32) (s : Nat), s < (sts N p_).length → (cls N p_ s)[c']? = some cn → (N 251 cn = 33 ∨ N 251 cn = 34 ∨ N 251 cn = 36 ∨ N 251 cn = 37) → I2 w 12 = nI ((p_ * 8 + s) * 8 + c') → (∀ c i, c < w ∨ w + 73 < c → I2 c i = I c i) → wC cN I2 R w W1 → okW N np B W1 → W1.1[k]? = some a1 → a1.1.2.1 = nI p_ → a1.1.2.2.1 = nI s →
      ∃ I' R', (∀ c2, M122 A (d + 4) 44 [some (.ref (b + w)), some (.ref (b + R (w + 8) k)), some (.int c2), some (.int (mI 1))] [] (jH h b X I2 J R n) = some (.inl (some (.int c2)), jH h b X I' J R' n)) ∧ wC cN I' R' w (if (aRun rN N (decide (w = 57)) k RD (acts N (ix (N 254 cn))) W1).1 = 2 then aGone rN (decide (w = 57)) k (aRun rN N (decide (w = 57)) k RD (acts N (ix (N 254 cn))) W1).2 else (aRun rN N (decide (w = 57)) k RD (acts N (ix (N 254 cn))) W1).2) ∧ (∀ c i, c < w ∨ w + 73 < c → I' c i = I c i) ∧ ∀ c j, c ≠ w + 8 → R' c j = R c j := by
    intro c' cn W1 a1 I2 s hs hcn hcl h12 f2 wc2 ok2 hk2 hpr2 hst2
    have pl2 := plC_out hw hP f2 hpl
    have kp2 := pl2.2.2.2 p_ hp
    have s8 : (sts N p_).length ≤ 8 := kp2.2.2.2.2.2.2.2.1
    obtain ⟨c8, _, kk⟩ := kp2.2.2.2.2.2.2.2.2.2.2.2 s hs
    have hc8 := lt_of_some hcn
    obtain ⟨y, hy⟩ : ∃ y, (sts N p_)[s]? = some y := ⟨_, List.getElem?_eq_getElem hs⟩
    have hvc := (vp.2.2.2.2.2.2.2.2 s y hy).2.2.2 c' cn hcn
    obtain ⟨pp, x, hx, h254, h22, hD⟩ : ∃ pp x, x < 2 ^ 20 ∧ N 254 cn = nI x ∧ I2 (P + 22) ((p_ * 8 + s) * 8 + c') = nI pp ∧ sD cN rN N O G E (lets N p_).length (sts N p_).length np L pp x := by
      rcases kk c' cn hcn with ⟨_, _, _, _, h⟩ | ⟨_, _, _, _, h⟩ | ⟨h, _⟩ | ⟨_, _, _, _, h⟩ | ⟨_, _, _, _, h⟩
      · exact h
      · exact h
      · rw [h] at hcl
        rcases hcl with hcl | hcl | hcl | hcl <;> exact absurd hcl (by decide)
      · exact h
      · exact h
    have hvb : vB N M (lets N p_).length (sts N p_).length np RD (acts N x) := by
      have hh : ∃ x', N 254 cn = nI x' ∧ vK N M x' ∧ vB N M (lets N p_).length (sts N p_).length np RD (acts N x') ∧ nB N 9 RD (acts N x') := by
        rcases hvc.2 with ⟨_, _, h⟩ | h | ⟨_, h⟩ | ⟨_, _, h⟩
        · exact h
        · rw [h] at hcl
          rcases hcl with hcl | hcl | hcl | hcl <;> exact absurd hcl (by decide)
        · exact h
        · exact h
      obtain ⟨x', h1, h2, h3⟩ := hh
      have : x' = x := by
        rw [h254] at h1
        exact ((nI_eq (by omega) (by have := h2.1; have := hvN.2.2.1; omega)).mp h1).symm
      subst this
      exact h3.1
    have hxx : ix (N 254 cn) = x := by rw [h254]; exact nI_clamp (by omega)
    have hpp : pp < 2048 := by
      obtain ⟨q, h1, h2, _⟩ := hD
      have := sB_le h1
      have := pl2.2.2.1.2.1
      omega
    obtain ⟨I3, R3, e3, w3, f3, r3⟩ := cExec (d := d) (A := A) (b := b) (h := h) (X := X) (J := J) (R := R) (n := n) hm1 hw hP hR hj pl2 wc2 hk2 ok2 hB hvN.2.2.1 hp hpr2 hD hvb
    have hng : ¬ a1.1.2.2.1 < 0 := by rw [hst2]; exact nI_pos (by omega)
    rw [hxx]
    have hif : ((aRun rN N (decide (w = 57)) k RD (acts N x) W1).1 = 2 ∨ (aRun rN N (decide (w = 57)) k RD (acts N x) W1).1 = 0 ∧ a1.1.2.2.1 < 0) = ((aRun rN N (decide (w = 57)) k RD (acts N x) W1).1 = 2) := by simp [hng]
    simp only [hif] at w3
    refine ⟨I3, R3, fun c2 => ?_, w3, fun c i hc => (f3 c i hc).trans (f2 c i hc), r3⟩
    rw [r122_44]
    simp (disch := omega) [r122_0, r122_1, r122_2, r122_5, r122_6, r122_7, r122_8, r122_9, r122_10, r122_13, r122_14, r122_17, r122_18, r122_21, r122_24, r122_25, r122_28, r122_29, r122_32, r122_33, r122_35, r122_38, r122_39, r122_40, r122_41, r122_45, r122_48, r122_51, r122_52, r122_55, r122_56, r122_59, r122_62, r122_63, r122_66, r122_67, r122_70, r122_73, r122_74, r122_77, r122_78, r122_79, r122_80, r122_83, r122_84, r122_85, r122_86, r122_89, r122_90, qa123, qo123, gW0 hw, vf9_0, tW0_0 hw, gI0 hi, vf2_1, qa81, qo81, gP0 hP, qa126, qo126, vf9_12, vf5_17, tP0_17 hP, gP22 hP, qa128, qo128, List.getElem?_cons_zero, List.getElem?_cons_succ, List.length_cons, List.length_nil, ag_nx, ag_dn, ag_no, ag_if, jbr1, jbr2, jc1, jc2, jnul, jld, jsto, jstoL, jst1, jst2, jkill, jinc, jbI, jbL, jbS, juI, jl2i, jcmp, jisR, jisI, jisL, jret, jretv, jfits, jdup, jdup2, jpop, jmm, jcat, Value.category, jinv, jrcv, jthr, jhd, jput, jget, jlen, jald, jast, jaast, jgI, jgL, jgB, jtab, jlku, jacp, vf20, vf21, vf22, vf23, vf24, u2_s, u2_k, u2_i, uc_s, uc_k, uc_c, u2_c, LI0, LI1, LI2, LI3, LI4, LI5, LI6, LI7, LI8, LI9, LI10, LI11, LI12, LI13, LI14, LI15, LI16, LI17, LI18, LI19, LI20, LI21, LI22, LI23, LI24, LI25, LI26, LI27, LI28, LI29, LI30, LI31, LI32, LI33, LI34, LI35, LI36, LI37, LI40, LI42, LI43, LI45, LI48, LI60, LI61, LI64, LI80, LI300, LI400, LI1000, LI2000, LI2001, LI2047, LI2048, LI100000, LI1000000, LM, nI_clamp, nI_pos', nI_lt, nI_nlt, nI_le, nI_ge, nI_ne, nI_add, nI_sub, mI_lt, mI_le, mI_nlt, mI_nle, mI_ne, mI_ne', mI_nem, hR, h12, h22, e3, show (p_ * 8 + s) * 8 + c' < 384 by omega]
  have hTu : aTurn rN N (decide (w = 57)) k W = aTurnB rN N (decide (w = 57)) k kd i c W := aTurn_B (by rw [hat]; exact hpa)
  rw [hTu]
  rcases aPlan_at hpa with ⟨rfl, rfl, rfl⟩ | ⟨rfl, hneg, rfl, rfl⟩ | ⟨hng, hcase⟩
  · -- nothing
    unfold aTurnB
    rw [if_pos rfl]
    simp only [LI0, LI1, LI2, LI3, LI4, LI5, LI6, LI7, LI8, LI9, LI10, LI11, LI12, LI13, LI14, LI15, LI16, LI17, LI18, LI19, LI20, LI21, LI22, LI23, LI24, LI25, LI26, LI27, LI28, LI29, LI30, LI31, LI32, LI33, LI34, LI35, LI36, LI37, LI40, LI42, LI43, LI45, LI48, LI60, LI61, LI64, LI80, LI300, LI400, LI1000, LI2000, LI2001, LI2047, LI2048, LI100000, LI1000000, LM] at e1
    refine ⟨I1, R, ?_, wt, f1, fun _ _ _ => rfl⟩
    simp (disch := omega) [je122, r122_0, r122_1, r122_2, r122_5, r122_6, r122_7, r122_8, r122_9, r122_10, r122_13, r122_14, r122_17, r122_18, r122_21, r122_24, r122_25, r122_28, r122_29, r122_32, r122_33, r122_35, r122_38, r122_39, r122_40, r122_41, r122_44, r122_45, r122_48, r122_51, r122_52, r122_55, r122_56, r122_59, r122_62, r122_63, r122_66, r122_67, r122_70, r122_73, r122_74, r122_77, r122_78, r122_79, r122_80, r122_83, r122_84, r122_85, r122_86, r122_89, r122_90, qa123, qo123, gW0 hw, vf9_0, tW0_0 hw, gI0 hi, vf2_1, qa81, qo81, gP0 hP, qa126, qo126, vf9_12, vf5_17, tP0_17 hP, gP22 hP, qa128, qo128, List.getElem?_cons_zero, List.getElem?_cons_succ, List.length_cons, List.length_nil, ag_nx, ag_dn, ag_no, ag_if, jbr1, jbr2, jc1, jc2, jnul, jld, jsto, jstoL, jst1, jst2, jkill, jinc, jbI, jbL, jbS, juI, jl2i, jcmp, jisR, jisI, jisL, jret, jretv, jfits, jdup, jdup2, jpop, jmm, jcat, Value.category, jinv, jrcv, jthr, jhd, jput, jget, jlen, jald, jast, jaast, jgI, jgL, jgB, jtab, jlku, jacp, vf20, vf21, vf22, vf23, vf24, u2_s, u2_k, u2_i, uc_s, uc_k, uc_c, u2_c, LI0, LI1, LI2, LI3, LI4, LI5, LI6, LI7, LI8, LI9, LI10, LI11, LI12, LI13, LI14, LI15, LI16, LI17, LI18, LI19, LI20, LI21, LI22, LI23, LI24, LI25, LI26, LI27, LI28, LI29, LI30, LI31, LI32, LI33, LI34, LI35, LI36, LI37, LI40, LI42, LI43, LI45, LI48, LI60, LI61, LI64, LI80, LI300, LI400, LI1000, LI2000, LI2001, LI2047, LI2048, LI100000, LI1000000, LM, nI_clamp, nI_pos', nI_lt, nI_nlt, nI_le, nI_ge, nI_ne, nI_add, nI_sub, mI_lt, mI_le, mI_nlt, mI_nle, mI_ne, mI_ne', mI_nem, e1]
  · -- its start
    obtain ⟨q, x, hx, h258, h11, hD⟩ := kp.2.2.2.2.2.2.2.2.2.2.1
    have hvb : vB N M (lets N p_).length (sts N p_).length np RD (acts N x) := by
      obtain ⟨x', h1, h2, h3⟩ := vp.2.2.2.2.2.2.2.1
      have : x' = x := by
        rw [h258] at h1
        exact ((nI_eq (by omega) (by have := h2.1; have := hvN.2.2.1; omega)).mp h1).symm
      subst this
      exact h3.1
    have hxx : ix (N 258 (pnd N p_)) = x := by rw [h258]; exact nI_clamp (by omega)
    have hqq : q < 2048 := by
      obtain ⟨q', h1, h2, _⟩ := hD
      have := sB_le h1
      have := hpl.2.2.1.2.1
      omega
    have e81 := c81 (d := d + 3) (A := A) (b := b) (h := h) (X := X) (J := J) (R := R) (n := n) (I := I1) (p := p_) hP (by omega)
    rw [o1 _ _ (by omega) (by omega), h11] at e81
    obtain ⟨I3, R3, e3, w3, f3, r3⟩ := cExec (d := d) (A := A) (b := b) (h := h) (X := X) (J := J) (R := R) (n := n) hm1 hw hP hR hj plt wt hk hok hB hvN.2.2.1 hp hpr hD hvb
    unfold aTurnB
    rw [if_neg (by decide), hat, hpx]
    simp only [if_true]
    rw [if_neg (by decide), hxx]
    have hif : ((aRun rN N (decide (w = 57)) k RD (acts N x) W).1 = 2 ∨ (aRun rN N (decide (w = 57)) k RD (acts N x) W).1 = 0 ∧ a.1.2.2.1 < 0) = ((aRun rN N (decide (w = 57)) k RD (acts N x) W).1 = 2 ∨ (aRun rN N (decide (w = 57)) k RD (acts N x) W).1 = 0 ∧ True) := by simp [hneg]
    simp only [hif] at w3
    simp only [LI0, LI1, LI2, LI3, LI4, LI5, LI6, LI7, LI8, LI9, LI10, LI11, LI12, LI13, LI14, LI15, LI16, LI17, LI18, LI19, LI20, LI21, LI22, LI23, LI24, LI25, LI26, LI27, LI28, LI29, LI30, LI31, LI32, LI33, LI34, LI35, LI36, LI37, LI40, LI42, LI43, LI45, LI48, LI60, LI61, LI64, LI80, LI300, LI400, LI1000, LI2000, LI2001, LI2047, LI2048, LI100000, LI1000000, LM] at e1
    refine ⟨I3, R3, ?_, w3, fun c i hc => (f3 c i hc).trans (f1 c i hc), r3⟩
    simp (disch := omega) [je122, r122_0, r122_1, r122_2, r122_5, r122_6, r122_7, r122_8, r122_9, r122_10, r122_13, r122_14, r122_17, r122_18, r122_21, r122_24, r122_25, r122_28, r122_29, r122_32, r122_33, r122_35, r122_38, r122_39, r122_40, r122_41, r122_44, r122_45, r122_48, r122_51, r122_52, r122_55, r122_56, r122_59, r122_62, r122_63, r122_66, r122_67, r122_70, r122_73, r122_74, r122_77, r122_78, r122_79, r122_80, r122_83, r122_84, r122_85, r122_86, r122_89, r122_90, qa123, qo123, gW0 hw, vf9_0, tW0_0 hw, gI0 hi, vf2_1, qa81, qo81, gP0 hP, qa126, qo126, vf9_12, vf5_17, tP0_17 hP, gP22 hP, qa128, qo128, List.getElem?_cons_zero, List.getElem?_cons_succ, List.length_cons, List.length_nil, ag_nx, ag_dn, ag_no, ag_if, jbr1, jbr2, jc1, jc2, jnul, jld, jsto, jstoL, jst1, jst2, jkill, jinc, jbI, jbL, jbS, juI, jl2i, jcmp, jisR, jisI, jisL, jret, jretv, jfits, jdup, jdup2, jpop, jmm, jcat, Value.category, jinv, jrcv, jthr, jhd, jput, jget, jlen, jald, jast, jaast, jgI, jgL, jgB, jtab, jlku, jacp, vf20, vf21, vf22, vf23, vf24, u2_s, u2_k, u2_i, uc_s, uc_k, uc_c, u2_c, LI0, LI1, LI2, LI3, LI4, LI5, LI6, LI7, LI8, LI9, LI10, LI11, LI12, LI13, LI14, LI15, LI16, LI17, LI18, LI19, LI20, LI21, LI22, LI23, LI24, LI25, LI26, LI27, LI28, LI29, LI30, LI31, LI32, LI33, LI34, LI35, LI36, LI37, LI40, LI42, LI43, LI45, LI48, LI60, LI61, LI64, LI80, LI300, LI400, LI1000, LI2000, LI2001, LI2047, LI2048, LI100000, LI1000000, LM, nI_clamp, nI_pos', nI_lt, nI_nlt, nI_le, nI_ge, nI_ne, nI_add, nI_sub, mI_lt, mI_le, mI_nlt, mI_nle, mI_ne, mI_ne', mI_nem, hR, e1, z1, e81, e3]
  · obtain ⟨s, hs, hst⟩ : ∃ s, s < (sts N p_).length ∧ a.1.2.2.1 = nI s := by
      rcases hst with hst | hst
      · rw [hst] at hng; exact absurd (by decide) hng
      · exact hst
    have s8 : (sts N p_).length ≤ 8 := kp.2.2.2.2.2.2.2.1
    have hsx : ix a.1.2.2.1 = s := by rw [hst]; exact nI_clamp (by omega)
    rw [hpx, hsx] at hcase c12
    unfold aTurnB
    rw [hat, hpx, hsx]
    rcases hcase with ⟨rfl, rfl, i', q, rfl, hqi⟩ | ⟨hkd, i', q, c', cn, rfl, hqi, rfl, hcn, hck⟩ | ⟨rfl, rfl, c', cn, rfl, hcn, hck⟩
    · -- thrown away
      have hi'8 := lt_of_some hqi
      obtain ⟨I3, e3, w3, f3, g3⟩ := cTake (d := d + 2) (A := A) (b := b) (h := h) (X := X) (J := J) (R := R) (n := n) (i := i') (kd := 5) (c := none) hw hP hR plt wt okl hk hqi (by rw [c11]; rfl) (Or.inl ⟨rfl, rfl⟩)
      have c12' : I3 w 12 = mI 1 := (g3 12 (by omega)).trans c12
      rw [if_neg (by decide)]
      simp only [if_true]
      rw [aTake_eq hk hqi]
      simp only [LI0, LI1, LI2, LI3, LI4, LI5, LI6, LI7, LI8, LI9, LI10, LI11, LI12, LI13, LI14, LI15, LI16, LI17, LI18, LI19, LI20, LI21, LI22, LI23, LI24, LI25, LI26, LI27, LI28, LI29, LI30, LI31, LI32, LI33, LI34, LI35, LI36, LI37, LI40, LI42, LI43, LI45, LI48, LI60, LI61, LI64, LI80, LI300, LI400, LI1000, LI2000, LI2001, LI2047, LI2048, LI100000, LI1000000, LM] at e1
      refine ⟨I3, R, ?_, w3, fun c i hc => (f3 c i hc).trans (f1 c i hc), fun _ _ _ => rfl⟩
      simp (disch := omega) [je122, r122_0, r122_1, r122_2, r122_5, r122_6, r122_7, r122_8, r122_9, r122_10, r122_13, r122_14, r122_17, r122_18, r122_21, r122_24, r122_25, r122_28, r122_29, r122_32, r122_33, r122_35, r122_38, r122_39, r122_40, r122_41, r122_44, r122_45, r122_48, r122_51, r122_52, r122_55, r122_56, r122_59, r122_62, r122_63, r122_66, r122_67, r122_70, r122_73, r122_74, r122_77, r122_78, r122_79, r122_80, r122_83, r122_84, r122_85, r122_86, r122_89, r122_90, qa123, qo123, gW0 hw, vf9_0, tW0_0 hw, gI0 hi, vf2_1, qa81, qo81, gP0 hP, qa126, qo126, vf9_12, vf5_17, tP0_17 hP, gP22 hP, qa128, qo128, List.getElem?_cons_zero, List.getElem?_cons_succ, List.length_cons, List.length_nil, ag_nx, ag_dn, ag_no, ag_if, jbr1, jbr2, jc1, jc2, jnul, jld, jsto, jstoL, jst1, jst2, jkill, jinc, jbI, jbL, jbS, juI, jl2i, jcmp, jisR, jisI, jisL, jret, jretv, jfits, jdup, jdup2, jpop, jmm, jcat, Value.category, jinv, jrcv, jthr, jhd, jput, jget, jlen, jald, jast, jaast, jgI, jgL, jgB, jtab, jlku, jacp, vf20, vf21, vf22, vf23, vf24, u2_s, u2_k, u2_i, uc_s, uc_k, uc_c, u2_c, LI0, LI1, LI2, LI3, LI4, LI5, LI6, LI7, LI8, LI9, LI10, LI11, LI12, LI13, LI14, LI15, LI16, LI17, LI18, LI19, LI20, LI21, LI22, LI23, LI24, LI25, LI26, LI27, LI28, LI29, LI30, LI31, LI32, LI33, LI34, LI35, LI36, LI37, LI40, LI42, LI43, LI45, LI48, LI60, LI61, LI64, LI80, LI300, LI400, LI1000, LI2000, LI2001, LI2047, LI2048, LI100000, LI1000000, LM, nI_clamp, nI_pos', nI_lt, nI_nlt, nI_le, nI_ge, nI_ne, nI_add, nI_sub, mI_lt, mI_le, mI_nlt, mI_nle, mI_ne, mI_ne', mI_nem, hR, e1, e3, c12']
    · -- taken
      have hi'8 := lt_of_some hqi
      have hc8 := lt_of_some hcn
      obtain ⟨cl8, _, kk⟩ := kp.2.2.2.2.2.2.2.2.2.2.2 s hs
      have hk20 := kk c' cn hcn
      obtain ⟨kn, hkn, hkn2⟩ : ∃ kn : Nat, kd = nI kn ∧ (kn = 4 ∨ kn = 3 ∨ kn = 2) := by
        rcases hkd with rfl | rfl | rfl
        · exact ⟨2, rfl, by omega⟩
        · exact ⟨3, rfl, by omega⟩
        · exact ⟨4, rfl, by omega⟩
      have hgd : (cls N p_ s).getD c' 0 = cn := by rw [List.getD_eq_getElem?_getD, hcn]; rfl
      have htk : (I1 (P + 20) ((p_ * 8 + s) * 8 + c') = -1 ∧ tkV N (nI kn) a (some c') q.2.1 = a.2.1) ∨ ∃ y, y < a.2.1.length ∧ I1 (P + 20) ((p_ * 8 + s) * 8 + c') = nI y ∧ tkV N (nI kn) a (some c') q.2.1 = a.2.1.set y q.2.1 := by
        have e20 : I1 (P + 20) ((p_ * 8 + s) * 8 + c') = I (P + 20) ((p_ * 8 + s) * 8 + c') := o1 _ _ (by omega) (by omega)
        rw [e20]
        have hvr : ∀ (hh : (N 258 cn = -1 ∧ I (P + 20) ((p_ * 8 + s) * 8 + c') = -1) ∨ ∃ y j, y < 2 ^ 20 ∧ N 258 cn = nI y ∧ j < (lets N p_).length ∧ N 253 cn = nI j ∧ I (P + 20) ((p_ * 8 + s) * 8 + c') = nI j), kn = 2 ∨ kn = 3 → (I (P + 20) ((p_ * 8 + s) * 8 + c') = -1 ∧ tkV N (nI kn) a (some c') q.2.1 = a.2.1) ∨ ∃ y, y < a.2.1.length ∧ I (P + 20) ((p_ * 8 + s) * 8 + c') = nI y ∧ tkV N (nI kn) a (some c') q.2.1 = a.2.1.set y q.2.1 := by
          intro hh hk23
          rcases hh with ⟨h1, h2⟩ | ⟨y, j, hy, h1, h2, h3, h4⟩
          · refine Or.inl ⟨h2, ?_⟩
            unfold tkV
            simp only
            rw [hpx, hsx, hgd, if_neg (by rw [h1]; rintro ⟨_, h⟩; exact absurd h (by decide))]
          · refine Or.inr ⟨j, by rw [hva]; exact h2, h4, ?_⟩
            unfold tkV
            simp only
            have l6 := kp.2.2.2.2.1
            rw [hpx, hsx, hgd, if_pos ⟨hk23.elim (fun z => Or.inl (by rw [z]; rfl)) (fun z => Or.inr (by rw [z]; rfl)), by rw [h1]; exact nI_pos' (by omega)⟩, h3]
            rw [show ix (nI j) = j from nI_clamp (by omega)]
        rcases hck with ⟨h1, h2⟩ | ⟨h1, h2⟩ | ⟨h1, h2⟩
        · have hk2 : kn = 2 := by
            rw [hkn] at h1
            rcases hkn2 with rfl | rfl | rfl
            · exact absurd h1 (by decide)
            · exact absurd h1 (by decide)
            · rfl
          rcases hk20 with ⟨k1, _⟩ | ⟨k1, _, _, k4, _⟩ | ⟨k1, _⟩ | ⟨k1, _⟩ | ⟨k1, _⟩
          · rw [k1] at h2; exact absurd h2 (by decide)
          · exact hvr k4 (Or.inl hk2)
          · rw [k1] at h2; exact absurd h2 (by decide)
          · rw [k1] at h2; exact absurd h2 (by decide)
          · rw [k1] at h2; exact absurd h2 (by decide)
        · have hk2 : kn = 3 := by
            rw [hkn] at h1
            rcases hkn2 with rfl | rfl | rfl
            · exact absurd h1 (by decide)
            · rfl
            · exact absurd h1 (by decide)
          rcases hk20 with ⟨k1, _, _, k4, _⟩ | ⟨k1, _⟩ | ⟨k1, _⟩ | ⟨k1, _⟩ | ⟨k1, _⟩
          · exact hvr k4 (Or.inr hk2)
          · rw [k1] at h2; exact absurd h2 (by decide)
          · rw [k1] at h2; exact absurd h2 (by decide)
          · rw [k1] at h2; exact absurd h2 (by decide)
          · rw [k1] at h2; exact absurd h2 (by decide)
        · have hk2 : kn = 4 := by
            rw [hkn] at h1
            rcases hkn2 with rfl | rfl | rfl
            · rfl
            · exact absurd h1 (by decide)
            · exact absurd h1 (by decide)
          subst hk2
          rcases hk20 with ⟨k1, _⟩ | ⟨k1, _⟩ | ⟨k1, _⟩ | ⟨k1, _, _, k4, _⟩ | ⟨k1, _⟩
          · rw [k1] at h2; exact absurd h2 (by decide)
          · rw [k1] at h2; exact absurd h2 (by decide)
          · rw [k1] at h2; exact absurd h2 (by decide)
          · refine Or.inl ⟨k4, ?_⟩
            unfold tkV
            simp only
            rw [if_neg (by rintro ⟨h, _⟩; rcases h with h | h <;> exact absurd h (by decide))]
          · rw [k1] at h2; exact absurd h2 (by decide)
      obtain ⟨I3, e3, w3, f3, g3⟩ := cTake (d := d + 2) (A := A) (b := b) (h := h) (X := X) (J := J) (R := R) (n := n) (i := i') (kd := kn) (c := some c') hw hP hR plt wt okl hk hqi (by rw [c11]; rfl) (Or.inr ⟨hkn2, c', (p_ * 8 + s) * 8 + c', rfl, by omega, by rw [c12]; rfl, htk⟩)
      have h5 : ¬ kn = 5 := by omega
      have h5' : ¬ nI kn = 5 := nI_ne (b := 5) h5 (by omega) (by omega)
      have h1' : ¬ nI kn = 1 := nI_ne (b := 1) (by omega) (by omega) (by omega)
      have h0' : ¬ nI kn = 0 := nI_ne (b := 0) (by omega) (by omega) (by omega)
      simp only [h5, if_false, false_or] at w3
      have hok2 := okW_eq (W' := aAdd (decide (w = 57)) (1, a.1.1, q.1, q.2.1, if q.2.2.2 = -2 then none else some (a.1.2.1, q.2.2.2)) (aPut k ((a.1.1, a.1.2.1, a.1.2.2.1, a.1.2.2.2.1, q.2.2.1, a.1.2.2.2.2.2), tkV N (nI kn) a (some c') q.2.1, a.2.2.1.eraseIdx i', a.2.2.2) W)) (okW_put (a' := ((a.1.1, a.1.2.1, a.1.2.2.1, a.1.2.2.2.1, q.2.2.1, a.1.2.2.2.2.2), tkV N (nI kn) a (some c') q.2.1, a.2.2.1.eraseIdx i', a.2.2.2)) hok hk ⟨p_, hp, hpr, (tkV_len (N := N) (kd := nI kn) (c := some c') (v := q.2.1) (a := a)).trans hva, Or.inr ⟨s, hs, hst⟩, Nat.le_trans (List.eraseIdx_sublist _ _).length_le hq8, ht4⟩ rfl rfl) rfl rfl
      obtain ⟨I4, R4, e4, w4, f4, r4⟩ := body c' cn _ _ I3 s hs hcn (by rcases hck with ⟨_, h⟩ | ⟨_, h⟩ | ⟨_, h⟩ <;> simp [h]) ((g3 12 (by omega)).trans (c12.trans rfl)) (fun c i hc => (f3 c i hc).trans (f1 c i hc)) w3 hok2 (aPut_at hkl) hpr hst
      have e4' := e4 (nI kn)
      rw [hkn, if_neg h0']
      simp only [h5', h1', if_false]
      rw [aTake_eq hk hqi, hgd]
      simp only [h5', if_false, false_or, and_false, or_false]
      rw [hkn] at e1
      refine ⟨I4, R4, ?_, w4, f4, r4⟩
      rcases hkn2 with rfl | rfl | rfl
      · simp (disch := omega) [je122, r122_0, r122_1, r122_2, r122_5, r122_6, r122_7, r122_8, r122_9, r122_10, r122_13, r122_14, r122_17, r122_18, r122_21, r122_24, r122_25, r122_28, r122_29, r122_32, r122_33, r122_35, r122_38, r122_39, r122_40, r122_41, r122_45, r122_48, r122_51, r122_52, r122_55, r122_56, r122_59, r122_62, r122_63, r122_66, r122_67, r122_70, r122_73, r122_74, r122_77, r122_78, r122_79, r122_80, r122_83, r122_84, r122_85, r122_86, r122_89, r122_90, qa123, qo123, gW0 hw, vf9_0, tW0_0 hw, gI0 hi, vf2_1, qa81, qo81, gP0 hP, qa126, qo126, vf9_12, vf5_17, tP0_17 hP, gP22 hP, qa128, qo128, List.getElem?_cons_zero, List.getElem?_cons_succ, List.length_cons, List.length_nil, ag_nx, ag_dn, ag_no, ag_if, jbr1, jbr2, jc1, jc2, jnul, jld, jsto, jstoL, jst1, jst2, jkill, jinc, jbI, jbL, jbS, juI, jl2i, jcmp, jisR, jisI, jisL, jret, jretv, jfits, jdup, jdup2, jpop, jmm, jcat, Value.category, jinv, jrcv, jthr, jhd, jput, jget, jlen, jald, jast, jaast, jgI, jgL, jgB, jtab, jlku, jacp, vf20, vf21, vf22, vf23, vf24, u2_s, u2_k, u2_i, uc_s, uc_k, uc_c, u2_c, LI0, LI1, LI2, LI3, LI4, LI5, LI6, LI7, LI8, LI9, LI10, LI11, LI12, LI13, LI14, LI15, LI16, LI17, LI18, LI19, LI20, LI21, LI22, LI23, LI24, LI25, LI26, LI27, LI28, LI29, LI30, LI31, LI32, LI33, LI34, LI35, LI36, LI37, LI40, LI42, LI43, LI45, LI48, LI60, LI61, LI64, LI80, LI300, LI400, LI1000, LI2000, LI2001, LI2047, LI2048, LI100000, LI1000000, LM, nI_clamp, nI_pos', nI_lt, nI_nlt, nI_le, nI_ge, nI_ne, nI_add, nI_sub, mI_lt, mI_le, mI_nlt, mI_nle, mI_ne, mI_ne', mI_nem, hR, e1, e3, e4']
      · simp (disch := omega) [je122, r122_0, r122_1, r122_2, r122_5, r122_6, r122_7, r122_8, r122_9, r122_10, r122_13, r122_14, r122_17, r122_18, r122_21, r122_24, r122_25, r122_28, r122_29, r122_32, r122_33, r122_35, r122_38, r122_39, r122_40, r122_41, r122_45, r122_48, r122_51, r122_52, r122_55, r122_56, r122_59, r122_62, r122_63, r122_66, r122_67, r122_70, r122_73, r122_74, r122_77, r122_78, r122_79, r122_80, r122_83, r122_84, r122_85, r122_86, r122_89, r122_90, qa123, qo123, gW0 hw, vf9_0, tW0_0 hw, gI0 hi, vf2_1, qa81, qo81, gP0 hP, qa126, qo126, vf9_12, vf5_17, tP0_17 hP, gP22 hP, qa128, qo128, List.getElem?_cons_zero, List.getElem?_cons_succ, List.length_cons, List.length_nil, ag_nx, ag_dn, ag_no, ag_if, jbr1, jbr2, jc1, jc2, jnul, jld, jsto, jstoL, jst1, jst2, jkill, jinc, jbI, jbL, jbS, juI, jl2i, jcmp, jisR, jisI, jisL, jret, jretv, jfits, jdup, jdup2, jpop, jmm, jcat, Value.category, jinv, jrcv, jthr, jhd, jput, jget, jlen, jald, jast, jaast, jgI, jgL, jgB, jtab, jlku, jacp, vf20, vf21, vf22, vf23, vf24, u2_s, u2_k, u2_i, uc_s, uc_k, uc_c, u2_c, LI0, LI1, LI2, LI3, LI4, LI5, LI6, LI7, LI8, LI9, LI10, LI11, LI12, LI13, LI14, LI15, LI16, LI17, LI18, LI19, LI20, LI21, LI22, LI23, LI24, LI25, LI26, LI27, LI28, LI29, LI30, LI31, LI32, LI33, LI34, LI35, LI36, LI37, LI40, LI42, LI43, LI45, LI48, LI60, LI61, LI64, LI80, LI300, LI400, LI1000, LI2000, LI2001, LI2047, LI2048, LI100000, LI1000000, LM, nI_clamp, nI_pos', nI_lt, nI_nlt, nI_le, nI_ge, nI_ne, nI_add, nI_sub, mI_lt, mI_le, mI_nlt, mI_nle, mI_ne, mI_ne', mI_nem, hR, e1, e3, e4']
      · simp (disch := omega) [je122, r122_0, r122_1, r122_2, r122_5, r122_6, r122_7, r122_8, r122_9, r122_10, r122_13, r122_14, r122_17, r122_18, r122_21, r122_24, r122_25, r122_28, r122_29, r122_32, r122_33, r122_35, r122_38, r122_39, r122_40, r122_41, r122_45, r122_48, r122_51, r122_52, r122_55, r122_56, r122_59, r122_62, r122_63, r122_66, r122_67, r122_70, r122_73, r122_74, r122_77, r122_78, r122_79, r122_80, r122_83, r122_84, r122_85, r122_86, r122_89, r122_90, qa123, qo123, gW0 hw, vf9_0, tW0_0 hw, gI0 hi, vf2_1, qa81, qo81, gP0 hP, qa126, qo126, vf9_12, vf5_17, tP0_17 hP, gP22 hP, qa128, qo128, List.getElem?_cons_zero, List.getElem?_cons_succ, List.length_cons, List.length_nil, ag_nx, ag_dn, ag_no, ag_if, jbr1, jbr2, jc1, jc2, jnul, jld, jsto, jstoL, jst1, jst2, jkill, jinc, jbI, jbL, jbS, juI, jl2i, jcmp, jisR, jisI, jisL, jret, jretv, jfits, jdup, jdup2, jpop, jmm, jcat, Value.category, jinv, jrcv, jthr, jhd, jput, jget, jlen, jald, jast, jaast, jgI, jgL, jgB, jtab, jlku, jacp, vf20, vf21, vf22, vf23, vf24, u2_s, u2_k, u2_i, uc_s, uc_k, uc_c, u2_c, LI0, LI1, LI2, LI3, LI4, LI5, LI6, LI7, LI8, LI9, LI10, LI11, LI12, LI13, LI14, LI15, LI16, LI17, LI18, LI19, LI20, LI21, LI22, LI23, LI24, LI25, LI26, LI27, LI28, LI29, LI30, LI31, LI32, LI33, LI34, LI35, LI36, LI37, LI40, LI42, LI43, LI45, LI48, LI60, LI61, LI64, LI80, LI300, LI400, LI1000, LI2000, LI2001, LI2047, LI2048, LI100000, LI1000000, LM, nI_clamp, nI_pos', nI_lt, nI_nlt, nI_le, nI_ge, nI_ne, nI_add, nI_sub, mI_lt, mI_le, mI_nlt, mI_nle, mI_ne, mI_ne', mI_nem, hR, e1, e3, e4']
    · -- continuous
      have hgd : (cls N p_ s).getD c' 0 = cn := by rw [List.getD_eq_getElem?_getD, hcn]; rfl
      obtain ⟨I4, R4, e4, w4, f4, r4⟩ := body c' cn W a I1 s hs hcn (by simp [hck]) (c12.trans rfl) f1 wt hok hk hpr hst
      have e4' := e4 (nI 6)
      rw [if_neg (by decide)]
      simp only
      rw [if_neg (by decide), hgd]
      have h61 : ¬ (6 : Int32) = 1 := by decide
      simp only [h61, if_false, and_false, or_false]
      simp only [LI0, LI1, LI2, LI3, LI4, LI5, LI6, LI7, LI8, LI9, LI10, LI11, LI12, LI13, LI14, LI15, LI16, LI17, LI18, LI19, LI20, LI21, LI22, LI23, LI24, LI25, LI26, LI27, LI28, LI29, LI30, LI31, LI32, LI33, LI34, LI35, LI36, LI37, LI40, LI42, LI43, LI45, LI48, LI60, LI61, LI64, LI80, LI300, LI400, LI1000, LI2000, LI2001, LI2047, LI2048, LI100000, LI1000000, LM] at e1
      refine ⟨I4, R4, ?_, w4, f4, r4⟩
      simp (disch := omega) [je122, r122_0, r122_1, r122_2, r122_5, r122_6, r122_7, r122_8, r122_9, r122_10, r122_13, r122_14, r122_17, r122_18, r122_21, r122_24, r122_25, r122_28, r122_29, r122_32, r122_33, r122_35, r122_38, r122_39, r122_40, r122_41, r122_45, r122_48, r122_51, r122_52, r122_55, r122_56, r122_59, r122_62, r122_63, r122_66, r122_67, r122_70, r122_73, r122_74, r122_77, r122_78, r122_79, r122_80, r122_83, r122_84, r122_85, r122_86, r122_89, r122_90, qa123, qo123, gW0 hw, vf9_0, tW0_0 hw, gI0 hi, vf2_1, qa81, qo81, gP0 hP, qa126, qo126, vf9_12, vf5_17, tP0_17 hP, gP22 hP, qa128, qo128, List.getElem?_cons_zero, List.getElem?_cons_succ, List.length_cons, List.length_nil, ag_nx, ag_dn, ag_no, ag_if, jbr1, jbr2, jc1, jc2, jnul, jld, jsto, jstoL, jst1, jst2, jkill, jinc, jbI, jbL, jbS, juI, jl2i, jcmp, jisR, jisI, jisL, jret, jretv, jfits, jdup, jdup2, jpop, jmm, jcat, Value.category, jinv, jrcv, jthr, jhd, jput, jget, jlen, jald, jast, jaast, jgI, jgL, jgB, jtab, jlku, jacp, vf20, vf21, vf22, vf23, vf24, u2_s, u2_k, u2_i, uc_s, uc_k, uc_c, u2_c, LI0, LI1, LI2, LI3, LI4, LI5, LI6, LI7, LI8, LI9, LI10, LI11, LI12, LI13, LI14, LI15, LI16, LI17, LI18, LI19, LI20, LI21, LI22, LI23, LI24, LI25, LI26, LI27, LI28, LI29, LI30, LI31, LI32, LI33, LI34, LI35, LI36, LI37, LI40, LI42, LI43, LI45, LI48, LI60, LI61, LI64, LI80, LI300, LI400, LI1000, LI2000, LI2001, LI2047, LI2048, LI100000, LI1000000, LM, nI_clamp, nI_pos', nI_lt, nI_nlt, nI_le, nI_ge, nI_ne, nI_add, nI_sub, mI_lt, mI_le, mI_nlt, mI_nle, mI_ne, mI_ne', mI_nem, hR, e1, e4']
end CG
