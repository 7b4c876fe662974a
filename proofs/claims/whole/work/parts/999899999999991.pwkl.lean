/-! walk: the class tells the row -/
section TR
variable {A : Nat → Nat} {d b n : Nat} {h : Nat → Option jC} {X : jXX} {J : Nat → Nat → Int64} {R : Nat → Nat → Nat} {E : List bE} {fr dd : Int32}
def oE2 (I : Nat → Nat → Int32) (E : List bE) : Prop := ∀ (e : Nat) (x : bE), E[e]? = some x → I 209 e = x.2.1 ∧ I 210 e = x.2.2
theorem bPt_s {r i j : Nat} {x : bE} (hx : E[i]? = some x) (hi : i ≠ 0) (hj : x.2.1 = nI j) (j31 : j < 2 ^ 31) : bPt E (r + 1) i = bPt E r j ++ [x.2.2] := by
  show (if i = 0 then [] else match E[i]? with | none => [] | some x => bPt E r (ix x.2.1) ++ [x.2.2]) = _
  rw [if_neg hi, hx]
  simp only
  rw [hj, ix, nI_clamp j31]
theorem bPt_0 {r : Nat} : bPt E r 0 = [] := by
  cases r with
  | zero => rfl
  | succ r => show (if 0 = 0 then [] else _) = _; rw [if_pos rfl]
theorem c108a {I : Nat → Nat → Int32} {c5 : Option Value} (hE : bOr E) (hl : E.length ≤ 1000) (ho : oE2 I E) : ∀ (r a ln : Nat), a ≤ r → a < E.length → ln + (bPt E r a).length ≤ 1000 → M108 A d 5 [some (.ref (b + 131)), some (.int fr), some (.int dd), some (.int (nI (ln))), some (.int (nI (a))), c5] [] (jH h b X I J R n) = M108 A d 40 [some (.ref (b + 131)), some (.int fr), some (.int dd), some (.int (nI (ln + (bPt E r a).length))), some (.int (nI (0))), c5] [] (jH h b X I J R n) := by
  intro r
  induction r with
  | zero =>
    intro a ln h1 h2 h3
    have : a = 0 := by omega
    subst this
    rw [bPt_0]
    conv => lhs; rw [r108_5]
    simp (disch := omega) [r108_0, r108_1, r108_2, r108_3, r108_7, r108_10, r108_12, r108_15, r108_18, r108_19, r108_22, r108_25, r108_28, r108_29, r108_32, r108_34, r108_35, r108_37, r108_41, r108_42, r108_45, r108_46, r108_49, r108_50, r108_51, r108_52, r108_53, r108_54, r108_55, r108_57, r108_58, r108_59, r108_60, r108_62, r108_64, r108_67, r108_69, r108_72, r108_74, r108_77, r108_80, r108_81, r108_84, r108_86, r108_87, r108_90, r108_92, r108_93, r108_94, r108_95, r108_98, r108_100, r108_101, r108_103, r108_106, r108_109, g131, vf8_4, t131_4, g209, p209, p131_14, ty8_14, vf8_13, t131_13, g214, p214, vf8_5, t131_5, g210, p210, List.getElem?_cons_zero, List.getElem?_cons_succ, List.length_cons, List.length_nil, ag_nx, ag_dn, ag_no, ag_if, jbr1, jbr2, jc1, jc2, jnul, jld, jsto, jstoL, jst1, jst2, jkill, jinc, jbI, jbL, jbS, juI, jl2i, jcmp, jisR, jisI, jisL, jret, jretv, jfits, jdup, jdup2, jpop, jmm, jcat, Value.category, jinv, jrcv, jthr, jhd, jput, jget, jlen, jald, jast, jaast, jgI, jgL, jgB, jtab, jlku, jacp, vf20, vf21, vf22, vf23, vf24, u2_s, u2_k, u2_i, uc_s, uc_k, uc_c, u2_c, LI0, LI1, LI2, LI3, LI4, LI5, LI6, LI7, LI8, LI9, LI10, LI11, LI12, LI13, LI14, LI15, LI16, LI17, LI18, LI19, LI20, LI21, LI22, LI23, LI24, LI25, LI26, LI27, LI28, LI29, LI30, LI31, LI32, LI33, LI34, LI35, LI36, LI37, LI40, LI42, LI43, LI45, LI48, LI60, LI61, LI64, LI80, LI300, LI400, LI1000, LI2000, LI2001, LI2047, LI2048, LI100000, LI1000000, LM, nI_clamp, nI_pos', nI_lt, nI_nlt, nI_le, nI_ge, nI_ne, nI_add, nI_sub, mI_lt, mI_le, mI_nlt, mI_nle, mI_ne, mI_ne', mI_nem, LI46, LI370, LI370000, LI31, LI15, g206]
  | succ r ih =>
    intro a ln h1 h2 h3
    by_cases c : a = 0
    · subst c
      rw [bPt_0]
      conv => lhs; rw [r108_5]
      simp (disch := omega) [r108_0, r108_1, r108_2, r108_3, r108_7, r108_10, r108_12, r108_15, r108_18, r108_19, r108_22, r108_25, r108_28, r108_29, r108_32, r108_34, r108_35, r108_37, r108_41, r108_42, r108_45, r108_46, r108_49, r108_50, r108_51, r108_52, r108_53, r108_54, r108_55, r108_57, r108_58, r108_59, r108_60, r108_62, r108_64, r108_67, r108_69, r108_72, r108_74, r108_77, r108_80, r108_81, r108_84, r108_86, r108_87, r108_90, r108_92, r108_93, r108_94, r108_95, r108_98, r108_100, r108_101, r108_103, r108_106, r108_109, g131, vf8_4, t131_4, g209, p209, p131_14, ty8_14, vf8_13, t131_13, g214, p214, vf8_5, t131_5, g210, p210, List.getElem?_cons_zero, List.getElem?_cons_succ, List.length_cons, List.length_nil, ag_nx, ag_dn, ag_no, ag_if, jbr1, jbr2, jc1, jc2, jnul, jld, jsto, jstoL, jst1, jst2, jkill, jinc, jbI, jbL, jbS, juI, jl2i, jcmp, jisR, jisI, jisL, jret, jretv, jfits, jdup, jdup2, jpop, jmm, jcat, Value.category, jinv, jrcv, jthr, jhd, jput, jget, jlen, jald, jast, jaast, jgI, jgL, jgB, jtab, jlku, jacp, vf20, vf21, vf22, vf23, vf24, u2_s, u2_k, u2_i, uc_s, uc_k, uc_c, u2_c, LI0, LI1, LI2, LI3, LI4, LI5, LI6, LI7, LI8, LI9, LI10, LI11, LI12, LI13, LI14, LI15, LI16, LI17, LI18, LI19, LI20, LI21, LI22, LI23, LI24, LI25, LI26, LI27, LI28, LI29, LI30, LI31, LI32, LI33, LI34, LI35, LI36, LI37, LI40, LI42, LI43, LI45, LI48, LI60, LI61, LI64, LI80, LI300, LI400, LI1000, LI2000, LI2001, LI2047, LI2048, LI100000, LI1000000, LM, nI_clamp, nI_pos', nI_lt, nI_nlt, nI_le, nI_ge, nI_ne, nI_add, nI_sub, mI_lt, mI_le, mI_nlt, mI_nle, mI_ne, mI_ne', mI_nem, LI46, LI370, LI370000, LI31, LI15, g206]
    · have hx := List.getElem?_eq_getElem h2
      obtain ⟨j, hj, ej⟩ := hE a _ hx (by omega)
      have hp := bPt_s (r := r) hx c ej (by omega)
      rw [hp, List.length_append] at h3 ⊢
      have h3' : ln + ((bPt E r j).length + 1) ≤ 1000 := h3
      have e := ih j (ln + 1) (by omega) (by omega) (by omega)
      have o9 : I 209 a = nI j := (ho a _ hx).1.trans ej
      have e' : ln + 1 + (bPt E r j).length = ln + ((bPt E r j).length + [E[a].2.2].length) := by simp only [List.length_cons, List.length_nil]; omega
      rw [e'] at e
      conv => lhs; rw [r108_5]
      simp (disch := omega) [r108_0, r108_1, r108_2, r108_3, r108_7, r108_10, r108_12, r108_15, r108_18, r108_19, r108_22, r108_25, r108_28, r108_29, r108_32, r108_34, r108_35, r108_37, r108_41, r108_42, r108_45, r108_46, r108_49, r108_50, r108_51, r108_52, r108_53, r108_54, r108_55, r108_57, r108_58, r108_59, r108_60, r108_62, r108_64, r108_67, r108_69, r108_72, r108_74, r108_77, r108_80, r108_81, r108_84, r108_86, r108_87, r108_90, r108_92, r108_93, r108_94, r108_95, r108_98, r108_100, r108_101, r108_103, r108_106, r108_109, g131, vf8_4, t131_4, g209, p209, p131_14, ty8_14, vf8_13, t131_13, g214, p214, vf8_5, t131_5, g210, p210, List.getElem?_cons_zero, List.getElem?_cons_succ, List.length_cons, List.length_nil, ag_nx, ag_dn, ag_no, ag_if, jbr1, jbr2, jc1, jc2, jnul, jld, jsto, jstoL, jst1, jst2, jkill, jinc, jbI, jbL, jbS, juI, jl2i, jcmp, jisR, jisI, jisL, jret, jretv, jfits, jdup, jdup2, jpop, jmm, jcat, Value.category, jinv, jrcv, jthr, jhd, jput, jget, jlen, jald, jast, jaast, jgI, jgL, jgB, jtab, jlku, jacp, vf20, vf21, vf22, vf23, vf24, u2_s, u2_k, u2_i, uc_s, uc_k, uc_c, u2_c, LI0, LI1, LI2, LI3, LI4, LI5, LI6, LI7, LI8, LI9, LI10, LI11, LI12, LI13, LI14, LI15, LI16, LI17, LI18, LI19, LI20, LI21, LI22, LI23, LI24, LI25, LI26, LI27, LI28, LI29, LI30, LI31, LI32, LI33, LI34, LI35, LI36, LI37, LI40, LI42, LI43, LI45, LI48, LI60, LI61, LI64, LI80, LI300, LI400, LI1000, LI2000, LI2001, LI2047, LI2048, LI100000, LI1000000, LM, nI_clamp, nI_pos', nI_lt, nI_nlt, nI_le, nI_ge, nI_ne, nI_add, nI_sub, mI_lt, mI_le, mI_nlt, mI_nle, mI_ne, mI_ne', mI_nem, LI46, LI370, LI370000, LI31, LI15, g206, show 0 < a by omega, show a < 1000 by omega, show ln < 1000 by omega, c, o9, e]
theorem c108b {ln : Nat} (hE : bOr E) (hl : E.length ≤ 1000) : ∀ (r a : Nat) (I : Nat → Nat → Int32), oE2 I E → a ≤ r → a < E.length → (bPt E r a).length ≤ 999 → ∃ I', M108 A d 62 [some (.ref (b + 131)), some (.int fr), some (.int dd), some (.int (nI (ln))), some (.int (nI (a))), some (.int (nI (bPt E r a).length - nI 1))] [] (jH h b X I J R n) = some (.inl none, jH h b X I' J R n) ∧ (∀ c j, c ≠ 214 → I' c j = I c j) ∧ (∀ j, (bPt E r a).length ≤ j → I' 214 j = I 214 j) ∧ ∀ j, j < (bPt E r a).length → (bPt E r a)[j]? = some (I' 214 j) := by
  have z0 : ∀ (r : Nat) (I : Nat → Nat → Int32), ∃ I', M108 A d 62 [some (.ref (b + 131)), some (.int fr), some (.int dd), some (.int (nI (ln))), some (.int (nI (0))), some (.int (nI (bPt E r 0).length - nI 1))] [] (jH h b X I J R n) = some (.inl none, jH h b X I' J R n) ∧ (∀ c j, c ≠ 214 → I' c j = I c j) ∧ (∀ j, (bPt E r 0).length ≤ j → I' 214 j = I 214 j) ∧ ∀ j, j < (bPt E r 0).length → (bPt E r 0)[j]? = some (I' 214 j) := fun r I => by
    refine ⟨I, ?_, fun _ _ _ => rfl, fun _ _ => rfl, fun j hj => ?_⟩
    · rw [bPt_0]
      have em : nI ([] : List Int32).length - nI 1 = mI 1 := by decide
      rw [em]
      conv => lhs; rw [r108_62]
      simp (disch := omega) [r108_0, r108_1, r108_2, r108_3, r108_5, r108_7, r108_10, r108_12, r108_15, r108_18, r108_19, r108_22, r108_25, r108_28, r108_29, r108_32, r108_34, r108_35, r108_37, r108_40, r108_41, r108_42, r108_45, r108_46, r108_49, r108_50, r108_51, r108_52, r108_53, r108_54, r108_55, r108_57, r108_58, r108_59, r108_60, r108_64, r108_67, r108_69, r108_72, r108_74, r108_77, r108_80, r108_81, r108_84, r108_86, r108_87, r108_90, r108_92, r108_93, r108_94, r108_95, r108_98, r108_100, r108_101, r108_103, r108_106, r108_109, g131, vf8_4, t131_4, g209, p209, p131_14, ty8_14, vf8_13, t131_13, g214, p214, vf8_5, t131_5, g210, p210, List.getElem?_cons_zero, List.getElem?_cons_succ, List.length_cons, List.length_nil, ag_nx, ag_dn, ag_no, ag_if, jbr1, jbr2, jc1, jc2, jnul, jld, jsto, jstoL, jst1, jst2, jkill, jinc, jbI, jbL, jbS, juI, jl2i, jcmp, jisR, jisI, jisL, jret, jretv, jfits, jdup, jdup2, jpop, jmm, jcat, Value.category, jinv, jrcv, jthr, jhd, jput, jget, jlen, jald, jast, jaast, jgI, jgL, jgB, jtab, jlku, jacp, vf20, vf21, vf22, vf23, vf24, u2_s, u2_k, u2_i, uc_s, uc_k, uc_c, u2_c, LI0, LI1, LI2, LI3, LI4, LI5, LI6, LI7, LI8, LI9, LI10, LI11, LI12, LI13, LI14, LI15, LI16, LI17, LI18, LI19, LI20, LI21, LI22, LI23, LI24, LI25, LI26, LI27, LI28, LI29, LI30, LI31, LI32, LI33, LI34, LI35, LI36, LI37, LI40, LI42, LI43, LI45, LI48, LI60, LI61, LI64, LI80, LI300, LI400, LI1000, LI2000, LI2001, LI2047, LI2048, LI100000, LI1000000, LM, nI_clamp, nI_pos', nI_lt, nI_nlt, nI_le, nI_ge, nI_ne, nI_add, nI_sub, mI_lt, mI_le, mI_nlt, mI_nle, mI_ne, mI_ne', mI_nem, LI46, LI370, LI370000, LI31, LI15, g206]
    · rw [bPt_0] at hj; simp at hj
  intro r
  induction r with
  | zero =>
    intro a I ho h1 h2 h3
    have : a = 0 := by omega
    subst this
    exact z0 0 I
  | succ r ih =>
    intro a I ho h1 h2 h3
    by_cases c : a = 0
    · subst c
      exact z0 (r + 1) I
    · have hx := List.getElem?_eq_getElem h2
      obtain ⟨j, hj, ej⟩ := hE a _ hx (by omega)
      have hp := bPt_s (r := r) hx c ej (by omega)
      obtain ⟨o9, o10⟩ := ho a _ hx
      have o9' : I 209 a = nI j := o9.trans ej
      rw [hp, List.length_append] at h3 ⊢
      have h3' : (bPt E r j).length + 1 ≤ 999 := h3
      obtain ⟨I1, e1, k1, q1, v1⟩ := ih j (u2 I 214 (bPt E r j).length (I 210 a)) (fun e x hx => by rw [u2_k (by omega), u2_k (by omega)]; exact ho e x hx) (by omega) (by omega) (by omega)
      have es : nI ((bPt E r j).length + [E[a].2.2].length) - nI 1 = nI (bPt E r j).length := by
        show nI ((bPt E r j).length + 1) - nI 1 = _
        rw [nI_sub (by omega)]
        congr 1
      rw [es]
      refine ⟨I1, ?_, fun c j hc => (k1 c j hc).trans (u2_k hc), fun i hi => ?_, fun i hi => ?_⟩
      · have ed : nI (bPt E r j).length + mI 1 = nI (bPt E r j).length - nI 1 := by
          rw [Int32.sub_eq_add_neg]
          rfl
        conv => lhs; rw [r108_62]
        simp (disch := omega) [r108_0, r108_1, r108_2, r108_3, r108_5, r108_7, r108_10, r108_12, r108_15, r108_18, r108_19, r108_22, r108_25, r108_28, r108_29, r108_32, r108_34, r108_35, r108_37, r108_40, r108_41, r108_42, r108_45, r108_46, r108_49, r108_50, r108_51, r108_52, r108_53, r108_54, r108_55, r108_57, r108_58, r108_59, r108_60, r108_64, r108_67, r108_69, r108_72, r108_74, r108_77, r108_80, r108_81, r108_84, r108_86, r108_87, r108_90, r108_92, r108_93, r108_94, r108_95, r108_98, r108_100, r108_101, r108_103, r108_106, r108_109, g131, vf8_4, t131_4, g209, p209, p131_14, ty8_14, vf8_13, t131_13, g214, p214, vf8_5, t131_5, g210, p210, List.getElem?_cons_zero, List.getElem?_cons_succ, List.length_cons, List.length_nil, ag_nx, ag_dn, ag_no, ag_if, jbr1, jbr2, jc1, jc2, jnul, jld, jsto, jstoL, jst1, jst2, jkill, jinc, jbI, jbL, jbS, juI, jl2i, jcmp, jisR, jisI, jisL, jret, jretv, jfits, jdup, jdup2, jpop, jmm, jcat, Value.category, jinv, jrcv, jthr, jhd, jput, jget, jlen, jald, jast, jaast, jgI, jgL, jgB, jtab, jlku, jacp, vf20, vf21, vf22, vf23, vf24, u2_s, u2_k, u2_i, uc_s, uc_k, uc_c, u2_c, LI0, LI1, LI2, LI3, LI4, LI5, LI6, LI7, LI8, LI9, LI10, LI11, LI12, LI13, LI14, LI15, LI16, LI17, LI18, LI19, LI20, LI21, LI22, LI23, LI24, LI25, LI26, LI27, LI28, LI29, LI30, LI31, LI32, LI33, LI34, LI35, LI36, LI37, LI40, LI42, LI43, LI45, LI48, LI60, LI61, LI64, LI80, LI300, LI400, LI1000, LI2000, LI2001, LI2047, LI2048, LI100000, LI1000000, LM, nI_clamp, nI_pos', nI_lt, nI_nlt, nI_le, nI_ge, nI_ne, nI_add, nI_sub, mI_lt, mI_le, mI_nlt, mI_nle, mI_ne, mI_ne', mI_nem, LI46, LI370, LI370000, LI31, LI15, g206, show 0 < a by omega, show a < 1000 by omega, c, o9', show (bPt E r j).length < 1000 by omega, ed, e1]
      · have hi' : (bPt E r j).length + 1 ≤ i := hi
        rw [q1 i (by omega), u2_i (by omega)]
      · have hi' : i < (bPt E r j).length + 1 := hi
        by_cases ci : i < (bPt E r j).length
        · rw [List.getElem?_append_left ci]
          exact v1 i ci
        · have : i = (bPt E r j).length := by omega
          subst this
          rw [List.getElem?_append_right (Nat.le_refl _), q1 _ (Nat.le_refl _), u2_s, Nat.sub_self, o10]
          rfl
/-- the row that is told -/
def bRw (E : List bE) (i : Nat) (dd : Int32) : List Int32 := bPt E 1000 i ++ [dd]
/-- Walker.tellRow -/
theorem c108 {I : Nat → Nat → Int32} {i : Nat} (hE : bOr E) (hl : E.length ≤ 1000) (ho : oE2 I E) (hi : i < E.length) : ∃ I', jcall A jcode (d + 1) 108 [.ref (b + 131), .int (nI i), .int dd] (jH h b X I J R n) = some (.inl none, jH h b X I' J R n) ∧ (∀ c j, c ≠ 214 → ¬ (c = 131 ∧ j = 14) → I' c j = I c j) ∧ I' 131 14 = nI (bRw E i dd).length ∧ (bRw E i dd).length ≤ 1000 ∧ ∀ j, j < (bRw E i dd).length → (bRw E i dd)[j]? = some (I' 214 j) := by
  have hq := bPt_len hE hl 1000 i hi
  have e1 := c108a (A := A) (d := d) (b := b) (h := h) (X := X) (J := J) (R := R) (n := n) (fr := nI i) (dd := dd) (c5 := none) hE hl ho 1000 i 1 (by omega) hi (by omega)
  obtain ⟨I1, e2, k1, q1, v1⟩ := c108b (A := A) (d := d) (b := b) (h := h) (X := X) (J := J) (R := R) (n := n) (fr := nI i) (dd := dd) (ln := 1 + (bPt E 1000 i).length) hE hl 1000 i (u2 (u2 I 131 14 (nI (1 + (bPt E 1000 i).length))) 214 (bPt E 1000 i).length dd) (fun e x hx => by rw [u2_k (by omega), u2_k (by omega), u2_k (by omega), u2_k (by omega)]; exact ho e x hx) (by omega) hi (by omega)
  have hlen : (bRw E i dd).length = (bPt E 1000 i).length + 1 := by unfold bRw; rw [List.length_append]; rfl
  refine ⟨I1, ?_, fun c j h1 h2 => ?_, ?_, by omega, fun j hj => ?_⟩
  · have es : nI (1 + (bPt E 1000 i).length) - nI 1 = nI (bPt E 1000 i).length := by
      rw [nI_sub (by omega)]
      congr 1
      omega
    have es2 : nI (1 + (bPt E 1000 i).length) - nI 2 = nI (bPt E 1000 i).length - nI 1 := by
      have : nI 2 = nI 1 + nI 1 := by decide
      rw [this, ← es, Int32.sub_sub]
    simp (disch := omega) [je108, r108_0, r108_1, r108_2, r108_3, r108_7, r108_10, r108_12, r108_15, r108_18, r108_19, r108_22, r108_25, r108_28, r108_29, r108_32, r108_34, r108_35, r108_37, r108_40, r108_41, r108_42, r108_45, r108_46, r108_49, r108_50, r108_51, r108_52, r108_53, r108_54, r108_55, r108_57, r108_58, r108_59, r108_60, r108_64, r108_67, r108_69, r108_72, r108_74, r108_77, r108_80, r108_81, r108_84, r108_86, r108_87, r108_90, r108_92, r108_93, r108_94, r108_95, r108_98, r108_100, r108_101, r108_103, r108_106, r108_109, g131, vf8_4, t131_4, g209, p209, p131_14, ty8_14, vf8_13, t131_13, g214, p214, vf8_5, t131_5, g210, p210, List.getElem?_cons_zero, List.getElem?_cons_succ, List.length_cons, List.length_nil, ag_nx, ag_dn, ag_no, ag_if, jbr1, jbr2, jc1, jc2, jnul, jld, jsto, jstoL, jst1, jst2, jkill, jinc, jbI, jbL, jbS, juI, jl2i, jcmp, jisR, jisI, jisL, jret, jretv, jfits, jdup, jdup2, jpop, jmm, jcat, Value.category, jinv, jrcv, jthr, jhd, jput, jget, jlen, jald, jast, jaast, jgI, jgL, jgB, jtab, jlku, jacp, vf20, vf21, vf22, vf23, vf24, u2_s, u2_k, u2_i, uc_s, uc_k, uc_c, u2_c, LI0, LI1, LI2, LI3, LI4, LI5, LI6, LI7, LI8, LI9, LI10, LI11, LI12, LI13, LI14, LI15, LI16, LI17, LI18, LI19, LI20, LI21, LI22, LI23, LI24, LI25, LI26, LI27, LI28, LI29, LI30, LI31, LI32, LI33, LI34, LI35, LI36, LI37, LI40, LI42, LI43, LI45, LI48, LI60, LI61, LI64, LI80, LI300, LI400, LI1000, LI2000, LI2001, LI2047, LI2048, LI100000, LI1000000, LM, nI_clamp, nI_pos', nI_lt, nI_nlt, nI_le, nI_ge, nI_ne, nI_add, nI_sub, mI_lt, mI_le, mI_nlt, mI_nle, mI_ne, mI_ne', mI_nem, LI46, LI370, LI370000, LI31, LI15, g206, e1, es, es2, show (bPt E 1000 i).length < 1000 by omega, e2]
  · rw [k1 c j h1, u2_k h1]
    simp only [u2_ap]
    rw [if_neg h2]
  · rw [k1 _ _ (by omega), u2_k (by omega), u2_s, hlen, Nat.add_comm]
  · unfold bRw
    by_cases c : j < (bPt E 1000 i).length
    · rw [List.getElem?_append_left c]
      exact v1 j c
    · have : j = (bPt E 1000 i).length := by omega
      subst this
      rw [List.getElem?_append_right (Nat.le_refl _), q1 _ (Nat.le_refl _), u2_s, Nat.sub_self]
      rfl
end TR
