/-! the reference: make, and an instance goes -/
section RM
variable {A : Nat → Nat} {d b n : Nat} {h : Nat → Option jC} {X : jXX} {I : Nat → Nat → Int32} {J : Nat → Nat → Int64} {R : Nat → Nat → Nat} {k : Nat} {rN : Int32 → Nm} {l : Bool} {W : aW Nm} {a : aI Nm} {N : Nat → Nat → Int32} {M np p : Nat} {mk : Int32}
theorem iR_child {v : Int32} (hA : iR rN I k a) : iR rN (u2 I 265 k v) k ((a.1.1, a.1.2.1, a.1.2.2.1, a.1.2.2.2.1, a.1.2.2.2.2.1, v), a.2) := by
  obtain ⟨h1, h2, h3, h4, h5, h6⟩ := hA
  refine ⟨?_, ?_, ?_, ?_, ?_, ?_⟩
  · rw [h1]
    simp (disch := omega) [u2_k, u2_s]
  · refine ⟨h2.1.trans (rl_congr fun j hj => ?_), fun j hj hj6 => Eq.trans ?_ (h2.2 j hj hj6)⟩
    · simp (disch := omega) [u2_k]
    · simp (disch := omega) [u2_k]
  · rw [u2_k (by omega)]; exact h3
  · refine h4.trans (rl_congr fun j hj => ?_)
    simp (disch := omega) [u2_k]
  · rw [u2_k (by omega)]; exact h5
  · refine h6.trans (rl_congr fun j hj => ?_)
    simp (disch := omega) [u2_k]
theorem onR_1 {c : Nat} {v : Int32} (hc : 260 ≤ c ∧ c ≤ 265) : onR k I (u2 I c k v) :=
  ⟨fun c' i h' => u2_k (by omega), fun c' j a1 a2 a3 => by
    by_cases e : c' = c
    · subst e; exact u2_i a3
    · exact u2_k e, fun j a1 => u2_k (by omega), fun c' j a1 a2 a3 => u2_k (by omega), fun c' j a1 a2 a3 => u2_k (by omega)⟩
theorem okL_put {a' : aI Nm} (ok : okL W.1) (hk : W.1[k]? = some a) (h1 : a'.2 = a.2) (h2 : a'.1.2.1 = a.1.2.1) : okL (aPut k a' W).1 := by
  intro j c hj
  unfold aPut at hj
  simp only at hj
  rw [List.getElem?_set] at hj
  by_cases e : k = j
  · subst e
    rw [if_pos rfl, if_pos (lt_of_some hk)] at hj
    cases hj
    rw [h1, h2]
    exact ok k a hk
  · rw [if_neg e] at hj
    exact ok j c hj
theorem rMake (hpl : plR X I N M) (hvN : vN N M np) (hW : wR rN I l W) (ok : okL W.1) (hk : W.1[k]? = some a) (hp : p < np) (h4 : aMany W (nI p) ≤ 4) : ∃ I', jcall A jcode (d + 3) 236 [.ref (b + 241), .int (nI k), .int (nI p)] (jH h b X I J R n) = some (.inl none, jH h b X I' J R n) ∧ wR rN I' l (aMake rN N l k p W) ∧ fR I I' := by
  have n6 := hvN.1
  have hM := hvN.2.2.1
  have hkl := lt_of_some hk
  have k8 : k < 8 := by have := hW.1.1; omega
  have hA := hW.1.2.2 k a hk
  obtain ⟨i0, _⟩ := iR_01 hA
  have em := rMany (d := d + 1) (A := A) (b := b) (h := h) (X := X) (J := J) (R := R) (n := n) (x := nI p) hW
  have h3 : I 241 36 = nI W.1.length := hW.1.2.1
  have hl8 := hW.1.1
  have vp := hvN.2.2.2 p hp
  have v1 := vp.1
  by_cases hc : W.1.length = 8 ∨ aMany W (nI p) = 4
  · obtain ⟨wp, fp, gp⟩ := wR_put hW ok hkl (onR_1 (c := 265) (v := mI 1) (by omega)) (iR_child hA)
    have m2 := hpl.2.1 252 (by omega) (by omega)
    have p9 : I 259 p = nI (pnd N p) := by rw [hpl.1 259 p (by omega) (by omega) (by omega)]; exact vp.2.1
    have p2 : I 252 (pnd N p) = N 252 (pnd N p) := hpl.1 252 _ (by omega) (by omega) (by omega)
    obtain ⟨I2, e2, wl, f2, _⟩ := rLose (d := d) (A := A) (b := b) (h := h) (X := X) (J := J) (R := R) (n := n) (id := a.1.1) (x := N 252 (pnd N p)) (v := 0) wp
    simp only [LI0, LI1, LI2, LI3, LI4, LI5, LI6, LI7, LI8, LI9, LI10, LI11, LI12, LI13, LI14, LI15, LI16, LI17, LI18, LI19, LI20, LI21, LI22, LI23, LI24, LI25, LI26, LI27, LI28, LI29, LI30, LI31, LI32, LI33, LI34, LI35, LI36, LI37, LI40, LI42, LI43, LI45, LI48, LI60, LI61, LI64, LI80, LI300, LI400, LI1000, LI2000, LI2001, LI2047, LI2048, LI100000, LI1000000, LM] at e2
    refine ⟨I2, ?_, ?_, fR_trans fp f2⟩
    · by_cases h88 : W.1.length = 8
      · rw [h88] at h3
        simp (disch := omega) [je236, r236_0, r236_1, r236_4, r236_6, r236_9, r236_10, r236_11, r236_14, r236_15, r236_18, r236_19, r236_22, r236_23, r236_24, r236_25, r236_26, r236_27, r236_30, r236_31, r236_32, r236_33, r236_36, r236_37, r236_40, r236_41, r236_42, r236_43, r236_44, r236_47, r236_48, r236_49, r236_52, r236_53, r236_54, r236_57, r236_58, r236_59, r236_60, r236_61, r236_64, r236_65, r236_66, r236_69, g241, vf12_36, qa221, qo221, vf12_47, t241_47, g265, p265, vf12_42, t241_42, g260, p260, vf12_22, t241_22, g252, p252, vf12_35, t241_35, g259, p259, qa219, qo219, vf12_37, qa222, qo222, List.getElem?_cons_zero, List.getElem?_cons_succ, List.length_cons, List.length_nil, ag_nx, ag_dn, ag_no, ag_if, jbr1, jbr2, jc1, jc2, jnul, jld, jsto, jstoL, jst1, jst2, jkill, jinc, jbI, jbL, jbS, juI, jl2i, jcmp, jisR, jisI, jisL, jret, jretv, jfits, jdup, jdup2, jpop, jmm, jcat, Value.category, jinv, jrcv, jthr, jhd, jput, jget, jlen, jald, jast, jaast, jgI, jgL, jgB, jtab, jlku, jacp, vf20, vf21, vf22, vf23, vf24, u2_s, u2_k, u2_i, uc_s, uc_k, uc_c, u2_c, LI0, LI1, LI2, LI3, LI4, LI5, LI6, LI7, LI8, LI9, LI10, LI11, LI12, LI13, LI14, LI15, LI16, LI17, LI18, LI19, LI20, LI21, LI22, LI23, LI24, LI25, LI26, LI27, LI28, LI29, LI30, LI31, LI32, LI33, LI34, LI35, LI36, LI37, LI40, LI42, LI43, LI45, LI48, LI60, LI61, LI64, LI80, LI300, LI400, LI1000, LI2000, LI2001, LI2047, LI2048, LI100000, LI1000000, LM, nI_clamp, nI_pos', nI_lt, nI_nlt, nI_le, nI_ge, nI_ne, nI_add, nI_sub, mI_lt, mI_le, mI_nlt, mI_nle, mI_ne, mI_ne', mI_nem, h3, e2, i0, k8, p9, p2, m2, vp.1, show p < 6 by omega]
      · have h44 : aMany W (nI p) = 4 := hc.resolve_left h88
        rw [h44] at em
        simp (disch := omega) [je236, r236_0, r236_1, r236_4, r236_6, r236_9, r236_10, r236_11, r236_14, r236_15, r236_18, r236_19, r236_22, r236_23, r236_24, r236_25, r236_26, r236_27, r236_30, r236_31, r236_32, r236_33, r236_36, r236_37, r236_40, r236_41, r236_42, r236_43, r236_44, r236_47, r236_48, r236_49, r236_52, r236_53, r236_54, r236_57, r236_58, r236_59, r236_60, r236_61, r236_64, r236_65, r236_66, r236_69, g241, vf12_36, qa221, qo221, vf12_47, t241_47, g265, p265, vf12_42, t241_42, g260, p260, vf12_22, t241_22, g252, p252, vf12_35, t241_35, g259, p259, qa219, qo219, vf12_37, qa222, qo222, List.getElem?_cons_zero, List.getElem?_cons_succ, List.length_cons, List.length_nil, ag_nx, ag_dn, ag_no, ag_if, jbr1, jbr2, jc1, jc2, jnul, jld, jsto, jstoL, jst1, jst2, jkill, jinc, jbI, jbL, jbS, juI, jl2i, jcmp, jisR, jisI, jisL, jret, jretv, jfits, jdup, jdup2, jpop, jmm, jcat, Value.category, jinv, jrcv, jthr, jhd, jput, jget, jlen, jald, jast, jaast, jgI, jgL, jgB, jtab, jlku, jacp, vf20, vf21, vf22, vf23, vf24, u2_s, u2_k, u2_i, uc_s, uc_k, uc_c, u2_c, LI0, LI1, LI2, LI3, LI4, LI5, LI6, LI7, LI8, LI9, LI10, LI11, LI12, LI13, LI14, LI15, LI16, LI17, LI18, LI19, LI20, LI21, LI22, LI23, LI24, LI25, LI26, LI27, LI28, LI29, LI30, LI31, LI32, LI33, LI34, LI35, LI36, LI37, LI40, LI42, LI43, LI45, LI48, LI60, LI61, LI64, LI80, LI300, LI400, LI1000, LI2000, LI2001, LI2047, LI2048, LI100000, LI1000000, LM, nI_clamp, nI_pos', nI_lt, nI_nlt, nI_le, nI_ge, nI_ne, nI_add, nI_sub, mI_lt, mI_le, mI_nlt, mI_nle, mI_ne, mI_ne', mI_nem, em, h3, e2, i0, k8, p9, p2, m2, vp.1, show p < 6 by omega]
    · unfold aMake
      rw [if_pos hc, aAt_of hk]
      exact wl
  · have h88 : W.1.length < 8 := by omega
    have h44 : aMany W (nI p) < 4 := by omega
    obtain ⟨wp, fp, gp⟩ := wR_put hW ok hkl (onR_1 (c := 265) (v := I 241 37) (by omega)) (iR_child hA)
    obtain ⟨I2, e2, wl, f2⟩ := rFresh (d := d) (A := A) (b := b) (h := h) (X := X) (J := J) (R := R) (n := n) (mk := a.1.1) (plR_f fp hpl) hvN wp (okL_put ok hk rfl rfl) (by simp [aPut]; exact h88) hp
    refine ⟨I2, ?_, ?_, fR_trans fp f2⟩
    · simp (disch := omega) [je236, r236_0, r236_1, r236_4, r236_6, r236_9, r236_10, r236_11, r236_14, r236_15, r236_18, r236_19, r236_22, r236_23, r236_24, r236_25, r236_26, r236_27, r236_30, r236_31, r236_32, r236_33, r236_36, r236_37, r236_40, r236_41, r236_42, r236_43, r236_44, r236_47, r236_48, r236_49, r236_52, r236_53, r236_54, r236_57, r236_58, r236_59, r236_60, r236_61, r236_64, r236_65, r236_66, r236_69, g241, vf12_36, qa221, qo221, vf12_47, t241_47, g265, p265, vf12_42, t241_42, g260, p260, vf12_22, t241_22, g252, p252, vf12_35, t241_35, g259, p259, qa219, qo219, vf12_37, qa222, qo222, List.getElem?_cons_zero, List.getElem?_cons_succ, List.length_cons, List.length_nil, ag_nx, ag_dn, ag_no, ag_if, jbr1, jbr2, jc1, jc2, jnul, jld, jsto, jstoL, jst1, jst2, jkill, jinc, jbI, jbL, jbS, juI, jl2i, jcmp, jisR, jisI, jisL, jret, jretv, jfits, jdup, jdup2, jpop, jmm, jcat, Value.category, jinv, jrcv, jthr, jhd, jput, jget, jlen, jald, jast, jaast, jgI, jgL, jgB, jtab, jlku, jacp, vf20, vf21, vf22, vf23, vf24, u2_s, u2_k, u2_i, uc_s, uc_k, uc_c, u2_c, LI0, LI1, LI2, LI3, LI4, LI5, LI6, LI7, LI8, LI9, LI10, LI11, LI12, LI13, LI14, LI15, LI16, LI17, LI18, LI19, LI20, LI21, LI22, LI23, LI24, LI25, LI26, LI27, LI28, LI29, LI30, LI31, LI32, LI33, LI34, LI35, LI36, LI37, LI40, LI42, LI43, LI45, LI48, LI60, LI61, LI64, LI80, LI300, LI400, LI1000, LI2000, LI2001, LI2047, LI2048, LI100000, LI1000000, LM, nI_clamp, nI_pos', nI_lt, nI_nlt, nI_le, nI_ge, nI_ne, nI_add, nI_sub, mI_lt, mI_le, mI_nlt, mI_nle, mI_ne, mI_ne', mI_nem, em, h3, e2, i0, k8]
    · unfold aMake
      rw [if_neg hc, aAt_of hk]
      have hg : I 241 37 = W.2.1.1 := hW.2.1
      rw [hg] at wl
      exact wl
theorem r223a {k0 : Int32} (hk : k < 7) : ∀ (r i : Nat) (I : Nat → Nat → Int32), i + r = 6 → ∃ I', M223 A d 134 [some (.ref (b + 241)), some (.int k0), some (.int (nI k)), some (.int (nI i))] [] (jH h b X I J R n) = M223 A d 170 [some (.ref (b + 241)), some (.int k0), some (.int (nI k)), some (.int (nI 6))] [] (jH h b X I' J R n) ∧ (∀ c j, c ≠ 266 → I' c j = I c j) ∧ ∀ j, I' 266 j = if 6 * k + i ≤ j ∧ j < 6 * k + 6 then I 266 (j + 6) else I 266 j := by
  intro r
  induction r with
  | zero =>
    intro i I hi
    have : i = 6 := by omega
    subst this
    refine ⟨I, ?_, fun _ _ _ => rfl, fun j => by rw [if_neg (by omega)]⟩
    rw [r223_134]
    simp (disch := omega) [r223_135, r223_137, List.getElem?_cons_zero, List.getElem?_cons_succ, List.length_cons, List.length_nil, ag_nx, ag_dn, ag_no, ag_if, jbr1, jbr2, jc1, jc2, jnul, jld, jsto, jstoL, jst1, jst2, jkill, jinc, jbI, jbL, jbS, juI, jl2i, jcmp, jisR, jisI, jisL, jret, jretv, jfits, jdup, jdup2, jpop, jmm, jcat, Value.category, jinv, jrcv, jthr, jhd, jput, jget, jlen, jald, jast, jaast, jgI, jgL, jgB, jtab, jlku, jacp, vf20, vf21, vf22, vf23, vf24, u2_s, u2_k, u2_i, uc_s, uc_k, uc_c, u2_c, LI0, LI1, LI2, LI3, LI4, LI5, LI6, LI7, LI8, LI9, LI10, LI11, LI12, LI13, LI14, LI15, LI16, LI17, LI18, LI19, LI20, LI21, LI22, LI23, LI24, LI25, LI26, LI27, LI28, LI29, LI30, LI31, LI32, LI33, LI34, LI35, LI36, LI37, LI40, LI42, LI43, LI45, LI48, LI60, LI61, LI64, LI80, LI300, LI400, LI1000, LI2000, LI2001, LI2047, LI2048, LI100000, LI1000000, LM, nI_clamp, nI_pos', nI_lt, nI_nlt, nI_le, nI_ge, nI_ne, nI_add, nI_sub, mI_lt, mI_le, mI_nlt, mI_nle, mI_ne, mI_ne', mI_nem]
  | succ r ih =>
    intro i I hi
    obtain ⟨I', e, f1, f2⟩ := ih (i + 1) (u2 I 266 (6 * k + i) (I 266 (6 * (k + 1) + i))) (by omega)
    refine ⟨I', ?_, fun c j hc => (f1 c j hc).trans (u2_k hc), fun j => ?_⟩
    · rw [r223_134]
      simp (disch := omega) [r223_135, r223_137, r223_140, r223_141, r223_144, r223_145, r223_147, r223_148, r223_149, r223_150, r223_151, r223_154, r223_155, r223_156, r223_157, r223_159, r223_160, r223_161, r223_162, r223_163, r223_164, r223_167, g241, vf12_48, t241_48, g266, p266, List.getElem?_cons_zero, List.getElem?_cons_succ, List.length_cons, List.length_nil, ag_nx, ag_dn, ag_no, ag_if, jbr1, jbr2, jc1, jc2, jnul, jld, jsto, jstoL, jst1, jst2, jkill, jinc, jbI, jbL, jbS, juI, jl2i, jcmp, jisR, jisI, jisL, jret, jretv, jfits, jdup, jdup2, jpop, jmm, jcat, Value.category, jinv, jrcv, jthr, jhd, jput, jget, jlen, jald, jast, jaast, jgI, jgL, jgB, jtab, jlku, jacp, vf20, vf21, vf22, vf23, vf24, u2_s, u2_k, u2_i, uc_s, uc_k, uc_c, u2_c, LI0, LI1, LI2, LI3, LI4, LI5, LI6, LI7, LI8, LI9, LI10, LI11, LI12, LI13, LI14, LI15, LI16, LI17, LI18, LI19, LI20, LI21, LI22, LI23, LI24, LI25, LI26, LI27, LI28, LI29, LI30, LI31, LI32, LI33, LI34, LI35, LI36, LI37, LI40, LI42, LI43, LI45, LI48, LI60, LI61, LI64, LI80, LI300, LI400, LI1000, LI2000, LI2001, LI2047, LI2048, LI100000, LI1000000, LM, nI_clamp, nI_pos', nI_lt, nI_nlt, nI_le, nI_ge, nI_ne, nI_add, nI_sub, mI_lt, mI_le, mI_nlt, mI_nle, mI_ne, mI_ne', mI_nem, nI_mul, Nat.mul_comm k 6, Nat.mul_comm (k + 1) 6, e, show 6 * k + i < 48 by omega, show 6 * (k + 1) + i < 48 by omega]
    · rw [f2 j]
      by_cases c1 : j = 6 * k + i
      · subst c1
        rw [if_neg (by omega), u2_s, if_pos (by omega)]
        congr 1
        omega
      · by_cases c2 : 6 * k + (i + 1) ≤ j ∧ j < 6 * k + 6
        · rw [if_pos c2, if_pos (by omega), u2_i (by omega)]
        · rw [if_neg c2, if_neg (by omega), u2_i c1]
theorem r223b {k0 : Int32} (hk : k < 7) : ∀ (r i : Nat) (I : Nat → Nat → Int32), i + r = 8 → ∃ I', M223 A (d + 1) 172 [some (.ref (b + 241)), some (.int k0), some (.int (nI k)), some (.int (nI i))] [] (jH h b X I J R n) = M223 A (d + 1) 202 [some (.ref (b + 241)), some (.int k0), some (.int (nI k)), some (.int (nI 8))] [] (jH h b X I' J R n) ∧ (∀ c j, c < 268 ∨ 271 < c → I' c j = I c j) ∧ ∀ c j, 268 ≤ c → c ≤ 271 → I' c j = if 8 * k + i ≤ j ∧ j < 8 * k + 8 then I c (j + 8) else I c j := by
  intro r
  induction r with
  | zero =>
    intro i I hi
    have : i = 8 := by omega
    subst this
    refine ⟨I, ?_, fun _ _ _ => rfl, fun c j _ _ => by rw [if_neg (by omega)]⟩
    rw [r223_172]
    simp (disch := omega) [r223_173, r223_175, List.getElem?_cons_zero, List.getElem?_cons_succ, List.length_cons, List.length_nil, ag_nx, ag_dn, ag_no, ag_if, jbr1, jbr2, jc1, jc2, jnul, jld, jsto, jstoL, jst1, jst2, jkill, jinc, jbI, jbL, jbS, juI, jl2i, jcmp, jisR, jisI, jisL, jret, jretv, jfits, jdup, jdup2, jpop, jmm, jcat, Value.category, jinv, jrcv, jthr, jhd, jput, jget, jlen, jald, jast, jaast, jgI, jgL, jgB, jtab, jlku, jacp, vf20, vf21, vf22, vf23, vf24, u2_s, u2_k, u2_i, uc_s, uc_k, uc_c, u2_c, LI0, LI1, LI2, LI3, LI4, LI5, LI6, LI7, LI8, LI9, LI10, LI11, LI12, LI13, LI14, LI15, LI16, LI17, LI18, LI19, LI20, LI21, LI22, LI23, LI24, LI25, LI26, LI27, LI28, LI29, LI30, LI31, LI32, LI33, LI34, LI35, LI36, LI37, LI40, LI42, LI43, LI45, LI48, LI60, LI61, LI64, LI80, LI300, LI400, LI1000, LI2000, LI2001, LI2047, LI2048, LI100000, LI1000000, LM, nI_clamp, nI_pos', nI_lt, nI_nlt, nI_le, nI_ge, nI_ne, nI_add, nI_sub, mI_lt, mI_le, mI_nlt, mI_nle, mI_ne, mI_ne', mI_nem]
  | succ r ih =>
    intro i I hi
    have e1 := r224 (d := d) (A := A) (b := b) (h := h) (X := X) (J := J) (R := R) (n := n) (I := I) (x := 8 * (k + 1) + i) (y := 8 * k + i) (by omega) (by omega)
    obtain ⟨I', e2, f1, f2⟩ := ih (i + 1) (u2 (u2 (u2 (u2 I 268 (8 * k + i) (I 268 (8 * (k + 1) + i))) 269 (8 * k + i) (I 269 (8 * (k + 1) + i))) 270 (8 * k + i) (I 270 (8 * (k + 1) + i))) 271 (8 * k + i) (I 271 (8 * (k + 1) + i))) (by omega)
    refine ⟨I', ?_, fun c j hc => (f1 c j hc).trans (by simp (disch := omega) [u2_k]), fun c j h1 h2 => ?_⟩
    · rw [r223_172]
      simp (disch := omega) [r223_173, r223_175, r223_178, r223_179, r223_180, r223_181, r223_182, r223_184, r223_185, r223_186, r223_187, r223_188, r223_190, r223_191, r223_192, r223_193, r223_196, r223_199, g241, qa224, qo224, List.getElem?_cons_zero, List.getElem?_cons_succ, List.length_cons, List.length_nil, ag_nx, ag_dn, ag_no, ag_if, jbr1, jbr2, jc1, jc2, jnul, jld, jsto, jstoL, jst1, jst2, jkill, jinc, jbI, jbL, jbS, juI, jl2i, jcmp, jisR, jisI, jisL, jret, jretv, jfits, jdup, jdup2, jpop, jmm, jcat, Value.category, jinv, jrcv, jthr, jhd, jput, jget, jlen, jald, jast, jaast, jgI, jgL, jgB, jtab, jlku, jacp, vf20, vf21, vf22, vf23, vf24, u2_s, u2_k, u2_i, uc_s, uc_k, uc_c, u2_c, LI0, LI1, LI2, LI3, LI4, LI5, LI6, LI7, LI8, LI9, LI10, LI11, LI12, LI13, LI14, LI15, LI16, LI17, LI18, LI19, LI20, LI21, LI22, LI23, LI24, LI25, LI26, LI27, LI28, LI29, LI30, LI31, LI32, LI33, LI34, LI35, LI36, LI37, LI40, LI42, LI43, LI45, LI48, LI60, LI61, LI64, LI80, LI300, LI400, LI1000, LI2000, LI2001, LI2047, LI2048, LI100000, LI1000000, LM, nI_clamp, nI_pos', nI_lt, nI_nlt, nI_le, nI_ge, nI_ne, nI_add, nI_sub, mI_lt, mI_le, mI_nlt, mI_nle, mI_ne, mI_ne', mI_nem, nI_mul, Nat.mul_comm k 8, Nat.mul_comm (k + 1) 8, e1, e2]
    · rw [f2 c j h1 h2]
      have hv : ∀ j, (u2 (u2 (u2 (u2 I 268 (8 * k + i) (I 268 (8 * (k + 1) + i))) 269 (8 * k + i) (I 269 (8 * (k + 1) + i))) 270 (8 * k + i) (I 270 (8 * (k + 1) + i))) 271 (8 * k + i) (I 271 (8 * (k + 1) + i))) c j = if j = 8 * k + i then I c (8 * (k + 1) + i) else I c j := by
        intro j
        obtain rfl | rfl | rfl | rfl : c = 268 ∨ c = 269 ∨ c = 270 ∨ c = 271 := by omega
        · by_cases e : j = 8 * k + i
          · subst e; simp (disch := omega) [u2_k, u2_s]
          · simp (disch := omega) [u2_k, u2_i, e]
        · by_cases e : j = 8 * k + i
          · subst e; simp (disch := omega) [u2_k, u2_s]
          · simp (disch := omega) [u2_k, u2_i, e]
        · by_cases e : j = 8 * k + i
          · subst e; simp (disch := omega) [u2_k, u2_s]
          · simp (disch := omega) [u2_k, u2_i, e]
        · by_cases e : j = 8 * k + i
          · subst e; simp (disch := omega) [u2_s]
          · simp (disch := omega) [u2_k, u2_i, e]
      rw [hv, hv]
      by_cases c1 : 8 * k + (i + 1) ≤ j ∧ j < 8 * k + 8
      · rw [if_pos c1, if_neg (by omega), if_pos (by omega)]
      · rw [if_neg c1]
        by_cases c2 : j = 8 * k + i
        · rw [if_pos c2, if_pos (by omega), c2, show 8 * (k + 1) + i = 8 * k + i + 8 by omega]
        · rw [if_neg c2, if_neg (by omega)]
theorem r223c {k0 : Int32} (hk : k < 7) : ∀ (r i : Nat) (I : Nat → Nat → Int32), i + r = 4 → ∃ I', M223 A d 204 [some (.ref (b + 241)), some (.int k0), some (.int (nI k)), some (.int (nI i))] [] (jH h b X I J R n) = M223 A d 259 [some (.ref (b + 241)), some (.int k0), some (.int (nI k)), some (.int (nI 4))] [] (jH h b X I' J R n) ∧ (∀ c j, c < 273 ∨ 274 < c → I' c j = I c j) ∧ ∀ c j, 273 ≤ c → c ≤ 274 → I' c j = if 4 * k + i ≤ j ∧ j < 4 * k + 4 then I c (j + 4) else I c j := by
  intro r
  induction r with
  | zero =>
    intro i I hi
    have : i = 4 := by omega
    subst this
    refine ⟨I, ?_, fun _ _ _ => rfl, fun c j _ _ => by rw [if_neg (by omega)]⟩
    rw [r223_204]
    simp (disch := omega) [r223_205, r223_206, List.getElem?_cons_zero, List.getElem?_cons_succ, List.length_cons, List.length_nil, ag_nx, ag_dn, ag_no, ag_if, jbr1, jbr2, jc1, jc2, jnul, jld, jsto, jstoL, jst1, jst2, jkill, jinc, jbI, jbL, jbS, juI, jl2i, jcmp, jisR, jisI, jisL, jret, jretv, jfits, jdup, jdup2, jpop, jmm, jcat, Value.category, jinv, jrcv, jthr, jhd, jput, jget, jlen, jald, jast, jaast, jgI, jgL, jgB, jtab, jlku, jacp, vf20, vf21, vf22, vf23, vf24, u2_s, u2_k, u2_i, uc_s, uc_k, uc_c, u2_c, LI0, LI1, LI2, LI3, LI4, LI5, LI6, LI7, LI8, LI9, LI10, LI11, LI12, LI13, LI14, LI15, LI16, LI17, LI18, LI19, LI20, LI21, LI22, LI23, LI24, LI25, LI26, LI27, LI28, LI29, LI30, LI31, LI32, LI33, LI34, LI35, LI36, LI37, LI40, LI42, LI43, LI45, LI48, LI60, LI61, LI64, LI80, LI300, LI400, LI1000, LI2000, LI2001, LI2047, LI2048, LI100000, LI1000000, LM, nI_clamp, nI_pos', nI_lt, nI_nlt, nI_le, nI_ge, nI_ne, nI_add, nI_sub, mI_lt, mI_le, mI_nlt, mI_nle, mI_ne, mI_ne', mI_nem]
  | succ r ih =>
    intro i I hi
    obtain ⟨I', e2, f1, f2⟩ := ih (i + 1) (u2 (u2 I 273 (4 * k + i) (I 273 (4 * (k + 1) + i))) 274 (4 * k + i) (I 274 (4 * (k + 1) + i))) (by omega)
    refine ⟨I', ?_, fun c j hc => (f1 c j hc).trans (by simp (disch := omega) [u2_k]), fun c j h1 h2 => ?_⟩
    · rw [r223_204]
      simp (disch := omega) [r223_0, r223_1, r223_2, r223_5, r223_6, r223_7, r223_10, r223_11, r223_12, r223_13, r223_14, r223_17, r223_20, r223_21, r223_24, r223_25, r223_26, r223_29, r223_30, r223_31, r223_32, r223_33, r223_34, r223_35, r223_38, r223_39, r223_40, r223_43, r223_44, r223_45, r223_46, r223_47, r223_48, r223_49, r223_52, r223_53, r223_54, r223_57, r223_58, r223_59, r223_60, r223_61, r223_62, r223_63, r223_66, r223_67, r223_68, r223_71, r223_72, r223_73, r223_74, r223_75, r223_76, r223_77, r223_80, r223_81, r223_82, r223_85, r223_86, r223_87, r223_88, r223_89, r223_90, r223_91, r223_94, r223_95, r223_96, r223_99, r223_100, r223_101, r223_102, r223_103, r223_104, r223_105, r223_108, r223_109, r223_110, r223_113, r223_114, r223_115, r223_116, r223_117, r223_118, r223_119, r223_122, r223_123, r223_124, r223_127, r223_128, r223_129, r223_130, r223_131, r223_132, r223_133, r223_135, r223_137, r223_140, r223_141, r223_144, r223_145, r223_147, r223_148, r223_149, r223_150, r223_151, r223_154, r223_155, r223_156, r223_157, r223_159, r223_160, r223_161, r223_162, r223_163, r223_164, r223_167, r223_170, r223_171, r223_173, r223_175, r223_178, r223_179, r223_180, r223_181, r223_182, r223_184, r223_185, r223_186, r223_187, r223_188, r223_190, r223_191, r223_192, r223_193, r223_196, r223_199, r223_202, r223_203, r223_205, r223_206, r223_209, r223_210, r223_213, r223_214, r223_215, r223_216, r223_217, r223_218, r223_219, r223_222, r223_223, r223_224, r223_225, r223_226, r223_227, r223_228, r223_229, r223_230, r223_231, r223_232, r223_235, r223_236, r223_237, r223_238, r223_239, r223_240, r223_241, r223_244, r223_245, r223_246, r223_247, r223_248, r223_249, r223_250, r223_251, r223_252, r223_253, r223_256, r223_262, r223_265, g241, vf12_36, p241_36, ty12_36, vf12_42, t241_42, g260, p260, vf12_43, t241_43, g261, p261, vf12_44, t241_44, g262, p262, vf12_45, t241_45, g263, p263, vf12_46, t241_46, g264, p264, vf12_47, t241_47, g265, p265, vf12_49, t241_49, g267, p267, vf12_54, t241_54, g272, p272, vf12_48, t241_48, g266, p266, qa224, qo224, vf12_55, t241_55, g273, p273, vf12_56, t241_56, g274, p274, List.getElem?_cons_zero, List.getElem?_cons_succ, List.length_cons, List.length_nil, ag_nx, ag_dn, ag_no, ag_if, jbr1, jbr2, jc1, jc2, jnul, jld, jsto, jstoL, jst1, jst2, jkill, jinc, jbI, jbL, jbS, juI, jl2i, jcmp, jisR, jisI, jisL, jret, jretv, jfits, jdup, jdup2, jpop, jmm, jcat, Value.category, jinv, jrcv, jthr, jhd, jput, jget, jlen, jald, jast, jaast, jgI, jgL, jgB, jtab, jlku, jacp, vf20, vf21, vf22, vf23, vf24, u2_s, u2_k, u2_i, uc_s, uc_k, uc_c, u2_c, LI0, LI1, LI2, LI3, LI4, LI5, LI6, LI7, LI8, LI9, LI10, LI11, LI12, LI13, LI14, LI15, LI16, LI17, LI18, LI19, LI20, LI21, LI22, LI23, LI24, LI25, LI26, LI27, LI28, LI29, LI30, LI31, LI32, LI33, LI34, LI35, LI36, LI37, LI40, LI42, LI43, LI45, LI48, LI60, LI61, LI64, LI80, LI300, LI400, LI1000, LI2000, LI2001, LI2047, LI2048, LI100000, LI1000000, LM, nI_clamp, nI_pos', nI_lt, nI_nlt, nI_le, nI_ge, nI_ne, nI_add, nI_sub, mI_lt, mI_le, mI_nlt, mI_nle, mI_ne, mI_ne', mI_nem, nI_mul, Nat.mul_comm k 4, Nat.mul_comm (k + 1) 4, e2, show 4 * k + i < 32 by omega, show 4 * (k + 1) + i < 32 by omega]
    · rw [f2 c j h1 h2]
      have hv : ∀ j, (u2 (u2 I 273 (4 * k + i) (I 273 (4 * (k + 1) + i))) 274 (4 * k + i) (I 274 (4 * (k + 1) + i))) c j = if j = 4 * k + i then I c (4 * (k + 1) + i) else I c j := by
        intro j
        obtain rfl | rfl : c = 273 ∨ c = 274 := by omega
        · by_cases e : j = 4 * k + i
          · subst e; simp (disch := omega) [u2_k, u2_s]
          · simp (disch := omega) [u2_k, u2_i, e]
        · by_cases e : j = 4 * k + i
          · subst e; simp (disch := omega) [u2_s]
          · simp (disch := omega) [u2_k, u2_i, e]
      rw [hv, hv]
      by_cases c1 : 4 * k + (i + 1) ≤ j ∧ j < 4 * k + 4
      · rw [if_pos c1, if_neg (by omega), if_pos (by omega)]
      · rw [if_neg c1]
        by_cases c2 : j = 4 * k + i
        · rw [if_pos c2, if_pos (by omega), c2, show 4 * (k + 1) + i = 4 * k + i + 4 by omega]
        · rw [if_neg c2, if_neg (by omega)]
end RM
