/-! walk: the scratch world out of a row; is one in a state -/
theorem dec_132 : decide ((132 : Nat) = 57) = false := by decide
theorem okS_u {R : Nat → Nat → Nat} {P : Nat} (hS : okS R 132) : okS (u2 R 132 0 P) 132 := by
  have e : ∀ k, u2 R 132 0 P (132 + 8) k = R (132 + 8) k := fun k => u2_k (by omega)
  unfold okS at hS ⊢
  simp only [e]
  exact hS
section UPW
variable {A : Nat → Nat} {d b n : Nat} {h : Nat → Option jC} {X : jXX} {J : Nat → Nat → Int64} {R : Nat → Nat → Nat} {cN rN : Int32 → Nm} {P np L : Nat} {now : Int32} {N : Nat → Nat → Int32} {O G E : Nat → Int32}
theorem c145l (hP : isP P) (hS : okS R 132) {lv : Nat} (l8 : lv ≤ 8) {f0 : Int32} (hcp : cp X 206 < 2 ^ 30) : ∀ (as : List (aI Nm)) (k f : Nat) (I : Nat → Nat → Int32), plC cN rN N O G E np P L I → I 132 3 = nI lv → k + as.length = lv → f + 46 * as.length ≤ cp X 206 → pkL cN (I 206) now f as → (∀ a, a ∈ as → okI N np a) → ∃ (I' : Nat → Nat → Int32) (as' : List (aI Nm)), M145 A (d + 2) 69 [some (.ref (b + 132)), some (.ref (b + P)), some (.ref (b + ad X 206)), some (.int f0), some (.int now), some (.int (nI f)), some (.int (nI k))] [] (jH h b X I J R n) = some (.inl none, jH h b X I' J R n) ∧ (∀ c j, c < 141 ∨ 204 < c → I' c j = I c j) ∧ (∀ k' c j, k' < k → R 140 k' ≤ c → c ≤ R 140 k' + 7 → I' c j = I c j) ∧ as'.map eI = as.map eI ∧ ∀ j a', as'[j]? = some a' → iC cN I' (R 140 (k + j)) a' := by
  have hw : isW 132 := by simp [isW]
  have hPe := isP_e hP
  intro as
  induction as with
  | nil =>
    intro k f I hpl h3 hk hf hp ho
    have : k = lv := by simpa using hk
    subst this
    have hq : isI 66 := by simp [isI]
    refine ⟨I, [], ?_, fun _ _ _ => rfl, fun _ _ _ _ _ _ => rfl, rfl, fun j a' hj => by simp at hj⟩
    conv => lhs; rw [r145_69]
    simp (disch := omega) [r145_0, r145_1, r145_2, r145_5, r145_6, r145_7, r145_10, r145_11, r145_12, r145_15, r145_16, r145_18, r145_21, r145_22, r145_25, r145_26, r145_27, r145_28, r145_31, r145_32, r145_35, r145_36, r145_37, r145_38, r145_39, r145_40, r145_43, r145_44, r145_45, r145_46, r145_47, r145_48, r145_49, r145_50, r145_52, r145_55, r145_58, r145_61, r145_62, r145_63, r145_64, r145_66, r145_67, r145_71, r145_72, r145_75, r145_78, r145_79, r145_82, r145_84, r145_85, r145_86, r145_88, r145_90, r145_91, r145_94, r145_96, r145_99, r145_102, gW0 hw, pW0_0 hw, ty9_0, pW0_6 hw, ty9_6, pW0_7 hw, ty9_7, pW0_5 hw, ty9_5, pW0_4 hw, ty9_4, pW0_3 hw, ty9_3, vf9_3, vf9_2, tW0_2 hw, gW8 hw, qa25, qo25, gI0 hq, List.getElem?_cons_zero, List.getElem?_cons_succ, List.length_cons, List.length_nil, ag_nx, ag_dn, ag_no, ag_if, jbr1, jbr2, jc1, jc2, jnul, jld, jsto, jstoL, jst1, jst2, jkill, jinc, jbI, jbL, jbS, juI, jl2i, jcmp, jisR, jisI, jisL, jret, jretv, jfits, jdup, jdup2, jpop, jmm, jcat, Value.category, jinv, jrcv, jthr, jhd, jput, jget, jlen, jald, jast, jaast, jgI, jgL, jgB, jtab, jlku, jacp, vf20, vf21, vf22, vf23, vf24, u2_s, u2_k, u2_i, uc_s, uc_k, uc_c, u2_c, LI0, LI1, LI2, LI3, LI4, LI5, LI6, LI7, LI8, LI9, LI10, LI11, LI12, LI13, LI14, LI15, LI16, LI17, LI18, LI19, LI20, LI21, LI22, LI23, LI24, LI25, LI26, LI27, LI28, LI29, LI30, LI31, LI32, LI33, LI34, LI35, LI36, LI37, LI40, LI42, LI43, LI45, LI48, LI60, LI61, LI64, LI80, LI300, LI400, LI1000, LI2000, LI2001, LI2047, LI2048, LI100000, LI1000000, LM, nI_clamp, nI_pos', nI_lt, nI_nlt, nI_le, nI_ge, nI_ne, nI_add, nI_sub, mI_lt, mI_le, mI_nlt, mI_nle, mI_ne, mI_ne', mI_nem, LI46, LI370, LI370000, g206, h3]
  | cons a as ih =>
    intro k f I hpl h3 hk hf hp ho
    have hk' : k + (as.length + 1) = lv := by simpa using hk
    have hf' : f + 46 * (as.length + 1) ≤ cp X 206 := by simpa using hf
    have k8 : k < 8 := by omega
    have hok := ho a (List.mem_cons_self ..)
    have h6 : ∀ p, p < np → (lets N p).length ≤ 6 := fun p hp => (hpl.2.2.2 p hp).2.2.2.2.1
    obtain ⟨b1, b2, b3⟩ := okI_b h6 hok
    have s46 := sz_46 b1 b2 b3
    have hq : isI (R 140 k) := by
      obtain ⟨j, hj, e⟩ := hS.1 k k8
      show isI (R (132 + 8) k)
      rw [e]
      exact isI_of hw hj
    have hr := okS_r hS k8
    have hr' : 141 ≤ R 140 k ∧ R 140 k ≤ 197 := by simpa using hr
    obtain ⟨I1, a1, e1, k1, i1, x1⟩ := c25 (d := d) (A := A) (b := b) (h := h) (X := X) (J := J) (R := R) (n := n) hq hP hpl hp.1 hok (by omega) (by omega) hcp
    obtain ⟨I2, as', e2, k2, k3, x2, i2⟩ := ih (k + 1) (f + sz a) I1 (plC_fr (fun c i h1 h2 => k1 c i (by omega)) hpl) (by rw [k1 _ _ (by omega)]; exact h3) (by omega) (by omega) (pkL_fr _ _ _ hp.2 (fun i hi => by rw [k1 _ _ (by omega)])) (fun c hc => ho c (List.mem_cons_of_mem _ hc))
    refine ⟨I2, a1 :: as', ?_, fun c j hc => (k2 c j hc).trans (k1 c j (by omega)), fun k' c j h1 h2 h4 => (k3 k' c j (by omega) h2 h4).trans (k1 c j ?_), by rw [List.map_cons, List.map_cons, x1, x2], fun j a' hj => ?_⟩
    · conv => lhs; rw [r145_69]
      simp (disch := omega) [r145_0, r145_1, r145_2, r145_5, r145_6, r145_7, r145_10, r145_11, r145_12, r145_15, r145_16, r145_18, r145_21, r145_22, r145_25, r145_26, r145_27, r145_28, r145_31, r145_32, r145_35, r145_36, r145_37, r145_38, r145_39, r145_40, r145_43, r145_44, r145_45, r145_46, r145_47, r145_48, r145_49, r145_50, r145_52, r145_55, r145_58, r145_61, r145_62, r145_63, r145_64, r145_66, r145_67, r145_71, r145_72, r145_75, r145_78, r145_79, r145_82, r145_84, r145_85, r145_86, r145_88, r145_90, r145_91, r145_94, r145_96, r145_99, r145_102, gW0 hw, pW0_0 hw, ty9_0, pW0_6 hw, ty9_6, pW0_7 hw, ty9_7, pW0_5 hw, ty9_5, pW0_4 hw, ty9_4, pW0_3 hw, ty9_3, vf9_3, vf9_2, tW0_2 hw, gW8 hw, qa25, qo25, gI0 hq, List.getElem?_cons_zero, List.getElem?_cons_succ, List.length_cons, List.length_nil, ag_nx, ag_dn, ag_no, ag_if, jbr1, jbr2, jc1, jc2, jnul, jld, jsto, jstoL, jst1, jst2, jkill, jinc, jbI, jbL, jbS, juI, jl2i, jcmp, jisR, jisI, jisL, jret, jretv, jfits, jdup, jdup2, jpop, jmm, jcat, Value.category, jinv, jrcv, jthr, jhd, jput, jget, jlen, jald, jast, jaast, jgI, jgL, jgB, jtab, jlku, jacp, vf20, vf21, vf22, vf23, vf24, u2_s, u2_k, u2_i, uc_s, uc_k, uc_c, u2_c, LI0, LI1, LI2, LI3, LI4, LI5, LI6, LI7, LI8, LI9, LI10, LI11, LI12, LI13, LI14, LI15, LI16, LI17, LI18, LI19, LI20, LI21, LI22, LI23, LI24, LI25, LI26, LI27, LI28, LI29, LI30, LI31, LI32, LI33, LI34, LI35, LI36, LI37, LI40, LI42, LI43, LI45, LI48, LI60, LI61, LI64, LI80, LI300, LI400, LI1000, LI2000, LI2001, LI2047, LI2048, LI100000, LI1000000, LM, nI_clamp, nI_pos', nI_lt, nI_nlt, nI_le, nI_ge, nI_ne, nI_add, nI_sub, mI_lt, mI_le, mI_nlt, mI_nle, mI_ne, mI_ne', mI_nem, LI46, LI370, LI370000, g206, gW8 hw, h3, e1, e2, k8, show k < lv by omega]
    · have hd := okS_d hS k8 (show k' < 8 by omega) (by omega)
      have hd' : R 140 k + 7 < R 140 k' ∨ R 140 k' + 7 < R 140 k := by simpa using hd
      omega
    · cases j with
      | zero =>
        have : a1 = a' := by simpa using hj
        subst this
        rw [Nat.add_zero]
        exact iC_fr (fun c i h1 h2 => k3 k c i (by omega) h1 h2) i1
      | succ j =>
        rw [show k + (j + 1) = k + 1 + j by omega]
        exact i2 j a' (by simpa using hj)
/-- World.unpack -/
theorem c145 {V : aW Nm} {f : Nat} {I : Nat → Nat → Int32} (hP : isP P) (hS0 : okS R 132) (h133 : I 133 6 = 0) (hpl : plC cN rN N O G E np P L I) (hcp : cp X 206 < 2 ^ 30) (hf : f + 370 ≤ cp X 206) (l8 : V.1.length ≤ 8) (hp : pW cN (I 206) f V) (ho : ∀ a, a ∈ V.1 → okI N np a) (hF : V.2.2.2 = (0, 0)) : ∃ I' W, jcall A jcode (d + 3) 145 [.ref (b + 132), .ref (b + P), .ref (b + ad X 206), .int (nI f), .int V.2.1.2.1] (jH h b X I J R n) = some (.inl none, jH h b X I' J (u2 R 132 0 P) n) ∧ wC cN I' (u2 R 132 0 P) 132 W ∧ mp W = mp V ∧ fC 132 I I' := by
  have hw : isW 132 := by simp [isW]
  have hS : okS (u2 R 132 0 P) 132 := okS_u hS0
  have hPe := isP_e hP
  obtain ⟨p1, p2, p3⟩ := hp
  obtain ⟨I0, hI0⟩ : ∃ I0, I0 = u2 (u2 (u2 (u2 (u2 I 132 6 (nI 0)) 132 7 (nI 0)) 132 5 V.2.1.2.1) 132 4 V.2.1.1) 132 3 (nI V.1.length) := ⟨_, rfl⟩
  have k0 : ∀ c j, c ≠ 132 → I0 c j = I c j := fun c j hc => by rw [hI0]; simp (disch := omega) [u2_k]
  obtain ⟨I1, as', e1, k1, _, x1, i1⟩ := c145l (d := d) (A := A) (b := b) (h := h) (X := X) (J := J) (R := u2 R 132 0 P) (n := n) (f0 := nI f) (now := V.2.1.2.1) (lv := V.1.length) hP hS l8 hcp V.1 0 (f + 2) I0 (plC_fr (fun c i h1 h2 => k0 c i (by omega)) hpl) (by rw [hI0, u2_s]) (by omega) (by omega) (pkL_fr _ _ _ p3 (fun i hi => by rw [k0 _ _ (by omega)])) ho
  have hl : as'.length = V.1.length := by rw [← List.length_map (f := eI), x1, List.length_map]
  have z1 : ∀ j, I1 132 j = I0 132 j := fun j => k1 _ _ (by omega)
  refine ⟨I1, (as', (V.2.1.1, V.2.1.2.1, 0, 0, 0), ([], false), (0, 0)), ?_, ⟨⟨hS, by show as'.length ≤ 8; omega, ?_, fun k a hk => ?_⟩, ?_, ?_, fun e => absurd e (by omega), fun _ => ⟨?_, ?_, ?_⟩⟩, ?_, fun c i hc => ?_, ?_⟩
  · rw [hI0] at e1
    have hq : isI 66 := by simp [isI]
    have l9 : ¬ 8 < V.1.length := by omega
    have mx : (if nI 0 < nI V.1.length then nI V.1.length else nI 0) = nI V.1.length := by
      by_cases e : V.1.length = 0
      · rw [e, if_neg (fun z => Int32.lt_irrefl z)]
      · rw [if_pos (nI_lt (by omega) (by omega))]
    simp (disch := omega) [je145, r145_0, r145_1, r145_2, r145_5, r145_6, r145_7, r145_10, r145_11, r145_12, r145_15, r145_16, r145_18, r145_21, r145_22, r145_25, r145_26, r145_27, r145_28, r145_31, r145_32, r145_35, r145_36, r145_37, r145_38, r145_39, r145_40, r145_43, r145_44, r145_45, r145_46, r145_47, r145_48, r145_49, r145_50, r145_52, r145_55, r145_58, r145_61, r145_62, r145_63, r145_64, r145_66, r145_67, r145_71, r145_72, r145_75, r145_78, r145_79, r145_82, r145_84, r145_85, r145_86, r145_88, r145_90, r145_91, r145_94, r145_96, r145_99, r145_102, gW0 hw, pW0_0 hw, ty9_0, pW0_6 hw, ty9_6, pW0_7 hw, ty9_7, pW0_5 hw, ty9_5, pW0_4 hw, ty9_4, pW0_3 hw, ty9_3, vf9_3, vf9_2, tW0_2 hw, gW8 hw, qa25, qo25, gI0 hq, List.getElem?_cons_zero, List.getElem?_cons_succ, List.length_cons, List.length_nil, ag_nx, ag_dn, ag_no, ag_if, jbr1, jbr2, jc1, jc2, jnul, jld, jsto, jstoL, jst1, jst2, jkill, jinc, jbI, jbL, jbS, juI, jl2i, jcmp, jisR, jisI, jisL, jret, jretv, jfits, jdup, jdup2, jpop, jmm, jcat, Value.category, jinv, jrcv, jthr, jhd, jput, jget, jlen, jald, jast, jaast, jgI, jgL, jgB, jtab, jlku, jacp, vf20, vf21, vf22, vf23, vf24, u2_s, u2_k, u2_i, uc_s, uc_k, uc_c, u2_c, LI0, LI1, LI2, LI3, LI4, LI5, LI6, LI7, LI8, LI9, LI10, LI11, LI12, LI13, LI14, LI15, LI16, LI17, LI18, LI19, LI20, LI21, LI22, LI23, LI24, LI25, LI26, LI27, LI28, LI29, LI30, LI31, LI32, LI33, LI34, LI35, LI36, LI37, LI40, LI42, LI43, LI45, LI48, LI60, LI61, LI64, LI80, LI300, LI400, LI1000, LI2000, LI2001, LI2047, LI2048, LI100000, LI1000000, LM, nI_clamp, nI_pos', nI_lt, nI_nlt, nI_le, nI_ge, nI_ne, nI_add, nI_sub, mI_lt, mI_le, mI_nlt, mI_nle, mI_ne, mI_ne', mI_nem, LI46, LI370, LI370000, g206, p1, p2, show f < cp X 206 by omega, show f + 1 < cp X 206 by omega, l9, mx, e1]
  · show I1 132 3 = nI as'.length
    rw [z1, hI0, u2_s, hl]
  · have := i1 k a hk
    rw [Nat.zero_add] at this
    exact this
  · rw [z1, hI0]; simp (disch := omega) [u2_s, u2_i]
  · rw [z1, hI0]; simp (disch := omega) [u2_s, u2_i]
  · rw [z1, hI0]; simp (disch := omega) [u2_s, u2_i]
  · rw [z1, hI0]; simp (disch := omega) [u2_s, u2_i]
  · rw [k1 _ _ (by omega), k0 _ _ (by omega)]; exact h133
  · show (as'.map eI, _, _, _) = (V.1.map eI, _, _, _)
    rw [x1, hF]
  · rw [k1 _ _ (by omega), k0 _ _ (by omega)]
  · rw [z1, hI0]; simp (disch := omega) [u2_i]
end UPW
