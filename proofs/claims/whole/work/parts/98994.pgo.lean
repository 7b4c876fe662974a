/-! time goes on -/
def tcnt (W : aW Nm) : Nat := (W.1.map (fun a => a.2.2.2.length)).sum
theorem sum_set {β : Type} (f : β → Nat) : ∀ (l : List β) (k : Nat) (a a' : β), l[k]? = some a → ((l.set k a').map f).sum + f a = (l.map f).sum + f a' := by
  intro l
  induction l with
  | nil => intro k a a' h; simp at h
  | cons x l ih =>
    intro k a a' h
    cases k with
    | zero =>
      have : x = a := by simpa using h
      subst this
      simp
      omega
    | succ k =>
      have := ih k a a' (by simpa using h)
      simp only [List.set_cons_succ, List.map_cons, List.sum_cons]
      omega
theorem aFire_1 {rN : Int32 → Nm} {l : Bool} {k i : Nat} {W : aW Nm} {a : aI Nm} (hk : W.1[k]? = some a) : ∃ a', (aFire rN l k i W).1 = W.1.set k a' ∧ a'.1 = a.1 ∧ a'.2.1 = a.2.1 ∧ (a'.2.2.1 = a.2.2.1 ∨ a.2.2.1.length < 8 ∧ a'.2.2.1.length = a.2.2.1.length + 1) ∧ a'.2.2.2 = a.2.2.2.eraseIdx i ∧ (aFire rN l k i W).2.1.1 = W.2.1.1 ∧ (aFire rN l k i W).2.1.2.1 = W.2.1.2.1 := by
  unfold aFire
  rw [aAt_of hk]
  simp only
  by_cases h8 : (aDropT i a).2.2.1.length < 8
  · rw [if_pos h8]
    exact ⟨_, rfl, rfl, rfl, Or.inr ⟨h8, by simp [aAcc, aDropT]⟩, rfl, rfl, rfl⟩
  · rw [if_neg h8]
    exact ⟨_, rfl, rfl, rfl, Or.inl rfl, rfl, rfl, rfl⟩
theorem tcnt_fire {rN : Int32 → Nm} {l : Bool} {k i : Nat} {W : aW Nm} {a : aI Nm} (hk : W.1[k]? = some a) (hi : i < a.2.2.2.length) : tcnt (aFire rN l k i W) + 1 = tcnt W := by
  obtain ⟨a', e, _, _, _, e4, _⟩ := aFire_1 (rN := rN) (l := l) (i := i) hk
  unfold tcnt
  rw [e]
  have := sum_set (fun a : aI Nm => a.2.2.2.length) W.1 k a a' hk
  have hl : a'.2.2.2.length = a.2.2.2.length - 1 := by rw [e4, List.length_eraseIdx, if_pos hi]
  omega
theorem okW_fire {rN : Int32 → Nm} {N : Nat → Nat → Int32} {np B : Nat} {l : Bool} {k i : Nat} {W : aW Nm} {a : aI Nm} (h : okW N np B W) (hk : W.1[k]? = some a) : okW N np B (aFire rN l k i W) := by
  obtain ⟨a', e, e1, e2, e3, e4, e5, e6⟩ := aFire_1 (rN := rN) (l := l) (i := i) hk
  have hok : okI N np a' := by
    obtain ⟨p, q1, q2, q3, q4, q5, q6⟩ := h.2.1 k a hk
    refine ⟨p, q1, by rw [e1]; exact q2, by rw [e2]; exact q3, by rw [e1]; exact q4, ?_, by rw [e4]; exact Nat.le_trans (List.eraseIdx_sublist _ _).length_le q6⟩
    rcases e3 with e3 | ⟨h8, e3⟩
    · rw [e3]; exact q5
    · omega
  exact okW_eq (okW_put h hk hok (by rw [e1]) (by rw [e1])) e e5
theorem okD_fire {rN : Int32 → Nm} {D : Nat} {l : Bool} {k i : Nat} {W : aW Nm} {a : aI Nm} (h : okD D W) (hk : W.1[k]? = some a) : okD D (aFire rN l k i W) := by
  obtain ⟨a', e, e1, e2, e3, e4, e5, e6⟩ := aFire_1 (rN := rN) (l := l) (i := i) hk
  refine ⟨by rw [e6]; exact h.1, fun j c hj t ht => ?_⟩
  rw [e, List.getElem?_set] at hj
  by_cases ej : k = j
  · subst ej
    rw [if_pos rfl, if_pos (lt_of_some hk)] at hj
    have := Option.some.inj hj
    subst this
    rw [e4] at ht
    exact h.2 k a hk t ((List.eraseIdx_sublist _ _).subset ht)
  · rw [if_neg ej] at hj
    exact h.2 j c hj t ht
theorem aFire_rN {cN rN : Int32 → Nm} {l : Bool} {k i : Nat} {W : aW Nm} (hm1 : cN (-1) = rN (-1)) : aFire cN l k i W = aFire rN l k i W := by
  unfold aFire
  rw [hm1]
section CGO
variable {A : Nat → Nat} {d b n w p k : Nat} {h : Nat → Option jC} {X : jXX} {I : Nat → Nat → Int32} {J : Nat → Nat → Int64} {R : Nat → Nat → Nat} {cN rN : Int32 → Nm} {a : aI Nm} {N : Nat → Nat → Int32} {np B D : Nat}
theorem c139l (hm1 : cN (-1) = rN (-1)) (hw : isW w) (h6 : np ≤ 6) (hlv : ∀ p, p < np → (lets N p).length ≤ 6) (hD : D + 1000000 < 2 ^ 31 - 1) : ∀ (r i c : Nat) (W : aW Nm) (I : Nat → Nat → Int32) (m : Int32) (c4 : Option Value), i + r = 32 → c ≤ i → tcnt W ≤ r → wC cN I R w W → okW N np B W → okD D W → ∃ I', M139 A (d + 3) 14 [some (.ref (b + w)), some (.int m), some (.int (nI c)), some (.int (nI i)), c4] [] (jH h b X I J R n) = some (.inl (some (.int (nI c + (aTime rN (decide (w = 57)) (r + 1) W).1))), jH h b X I' J R n) ∧ wC cN I' R w (aTime rN (decide (w = 57)) (r + 1) W).2 ∧ fC w I I' ∧ okW N np B (aTime rN (decide (w = 57)) (r + 1) W).2 ∧ okD D (aTime rN (decide (w = 57)) (r + 1) W).2 := by
  have w1 := isW_e hw
  intro r
  induction r with
  | zero =>
    intro i c W I m c4 hir hc ht hW hok hd
    have hdue : aDue W.1 0 none = none := by
      cases hx : aDue W.1 0 none with
      | none => rfl
      | some y =>
        exfalso
        obtain ⟨a, ha, hne, _⟩ := (cNext (A := A) (d := d) (b := b) (h := h) (X := X) (J := J) (n := n) hw hW (okW_L h6 hlv hok) hD hd).1 y hx
        have : a.2.2.2.length ≤ tcnt W := by
          unfold tcnt
          have := sum_set (fun a : aI Nm => a.2.2.2.length) W.1 y.2.1 a ((0, 0, 0, 0, 0, 0), [], [], []) ha
          simp at this
          omega
        have hp := List.length_pos_iff.mpr hne
        omega
    have ea : aTime rN (decide (w = 57)) (0 + 1) W = (0, W) := by
      simp only [aTime, hdue]
    rw [ea]
    have : i = 32 := by omega
    subst this
    refine ⟨I, ?_, hW, fC_refl, hok, hd⟩
    have hz : nI c + 0 = nI c := Int32.add_zero _
    rw [hz, r139_14]
    simp (disch := omega) [r139_15, r139_17, r139_61, r139_62, List.getElem?_cons_zero, List.getElem?_cons_succ, List.length_cons, List.length_nil, ag_nx, ag_dn, ag_no, ag_if, jbr1, jbr2, jc1, jc2, jnul, jld, jsto, jstoL, jst1, jst2, jkill, jinc, jbI, jbL, jbS, juI, jl2i, jcmp, jisR, jisI, jisL, jret, jretv, jfits, jdup, jdup2, jpop, jmm, jcat, Value.category, jinv, jrcv, jthr, jhd, jput, jget, jlen, jald, jast, jaast, jgI, jgL, jgB, jtab, jlku, jacp, vf20, vf21, vf22, vf23, vf24, u2_s, u2_k, u2_i, uc_s, uc_k, uc_c, u2_c, LI0, LI1, LI2, LI3, LI4, LI5, LI6, LI7, LI8, LI9, LI10, LI11, LI12, LI13, LI14, LI15, LI16, LI17, LI18, LI19, LI20, LI21, LI22, LI23, LI24, LI25, LI26, LI27, LI28, LI29, LI30, LI31, LI32, LI33, LI34, LI35, LI36, LI37, LI40, LI42, LI43, LI45, LI48, LI60, LI61, LI64, LI80, LI300, LI400, LI1000, LI2000, LI2001, LI2047, LI2048, LI100000, LI1000000, LM, nI_clamp, nI_pos', nI_lt, nI_nlt, nI_le, nI_ge, nI_ne, nI_add, nI_sub, mI_lt, mI_le, mI_nlt, mI_nle, mI_ne, mI_ne', mI_nem]
  | succ r ih =>
    intro i c W I m c4 hir hc ht hW hok hd
    have okl := okW_L h6 hlv hok
    obtain ⟨hq, en⟩ := cNext (d := d + 1) (A := A) (b := b) (h := h) (X := X) (J := J) (n := n) hw hW okl hD hd
    have h5 : I w 5 = W.2.1.2.1 := hW.2.2.1
    cases hx : aDue W.1 0 none with
    | none =>
      rw [hx] at en
      have ea : aTime rN (decide (w = 57)) (r + 1 + 1) W = (0, W) := by
        simp only [aTime, hx]
      rw [ea]
      refine ⟨I, ?_, hW, fC_refl, hok, hd⟩
      have hz : nI c + 0 = nI c := Int32.add_zero _
      simp only [ndS, Option.map, rfO] at en
      rw [hz, r139_14]
      simp (disch := omega) [r139_0, r139_1, r139_2, r139_5, r139_6, r139_7, r139_10, r139_11, r139_12, r139_13, r139_15, r139_17, r139_20, r139_21, r139_24, r139_26, r139_28, r139_31, r139_33, r139_36, r139_37, r139_40, r139_43, r139_46, r139_47, r139_49, r139_52, r139_55, r139_58, r139_61, r139_62, gW0 hw, vf9_5, pW0_5 hw, ty9_5, qa141, qo141, qa142, qa143, qo143, List.getElem?_cons_zero, List.getElem?_cons_succ, List.length_cons, List.length_nil, ag_nx, ag_dn, ag_no, ag_if, jbr1, jbr2, jc1, jc2, jnul, jld, jsto, jstoL, jst1, jst2, jkill, jinc, jbI, jbL, jbS, juI, jl2i, jcmp, jisR, jisI, jisL, jret, jretv, jfits, jdup, jdup2, jpop, jmm, jcat, Value.category, jinv, jrcv, jthr, jhd, jput, jget, jlen, jald, jast, jaast, jgI, jgL, jgB, jtab, jlku, jacp, vf20, vf21, vf22, vf23, vf24, u2_s, u2_k, u2_i, uc_s, uc_k, uc_c, u2_c, LI0, LI1, LI2, LI3, LI4, LI5, LI6, LI7, LI8, LI9, LI10, LI11, LI12, LI13, LI14, LI15, LI16, LI17, LI18, LI19, LI20, LI21, LI22, LI23, LI24, LI25, LI26, LI27, LI28, LI29, LI30, LI31, LI32, LI33, LI34, LI35, LI36, LI37, LI40, LI42, LI43, LI45, LI48, LI60, LI61, LI64, LI80, LI300, LI400, LI1000, LI2000, LI2001, LI2047, LI2048, LI100000, LI1000000, LM, nI_clamp, nI_pos', nI_lt, nI_nlt, nI_le, nI_ge, nI_ne, nI_add, nI_sub, mI_lt, mI_le, mI_nlt, mI_nle, mI_ne, mI_ne', mI_nem, en]
    | some y =>
      obtain ⟨a, ha, hne, hy1, hy2⟩ := hq y hx
      have hy8 := wA_lt hW.1 ha
      have hi := wA_I hw hW.1 y.2.1 hy8
      rw [hx] at en
      simp only [ndS, Option.map, rfO] at en
      have el := c142 (d := d + 2) (A := A) (b := b) (h := h) (X := X) (J := J) (R := R) (n := n) hi (hW.1.2.2.2 y.2.1 a ha) (okl y.2.1 a ha).2.2.1 hne hD (hd.2 y.2.1 a ha)
      rw [← hy1] at el
      obtain ⟨y1, y2, y3⟩ := y
      simp only at *
      by_cases hnow : W.2.1.2.1 < y1
      · have ea : aTime rN (decide (w = 57)) (r + 1 + 1) W = (0, W) := by
          simp only [aTime, hx, hnow, if_true]
        rw [ea]
        refine ⟨I, ?_, hW, fC_refl, hok, hd⟩
        have hz : nI c + 0 = nI c := Int32.add_zero _
        have hnow' : ¬ y1 ≤ W.2.1.2.1 := fun z => absurd hnow (i_nlt.mpr z)
        rw [hz, r139_14]
        simp (disch := omega) [r139_0, r139_1, r139_2, r139_5, r139_6, r139_7, r139_10, r139_11, r139_12, r139_13, r139_15, r139_17, r139_20, r139_21, r139_24, r139_26, r139_28, r139_31, r139_33, r139_36, r139_37, r139_40, r139_43, r139_46, r139_47, r139_49, r139_52, r139_55, r139_58, r139_61, r139_62, gW0 hw, vf9_5, pW0_5 hw, ty9_5, qa141, qo141, qa142, qa143, qo143, List.getElem?_cons_zero, List.getElem?_cons_succ, List.length_cons, List.length_nil, ag_nx, ag_dn, ag_no, ag_if, jbr1, jbr2, jc1, jc2, jnul, jld, jsto, jstoL, jst1, jst2, jkill, jinc, jbI, jbL, jbS, juI, jl2i, jcmp, jisR, jisI, jisL, jret, jretv, jfits, jdup, jdup2, jpop, jmm, jcat, Value.category, jinv, jrcv, jthr, jhd, jput, jget, jlen, jald, jast, jaast, jgI, jgL, jgB, jtab, jlku, jacp, vf20, vf21, vf22, vf23, vf24, u2_s, u2_k, u2_i, uc_s, uc_k, uc_c, u2_c, LI0, LI1, LI2, LI3, LI4, LI5, LI6, LI7, LI8, LI9, LI10, LI11, LI12, LI13, LI14, LI15, LI16, LI17, LI18, LI19, LI20, LI21, LI22, LI23, LI24, LI25, LI26, LI27, LI28, LI29, LI30, LI31, LI32, LI33, LI34, LI35, LI36, LI37, LI40, LI42, LI43, LI45, LI48, LI60, LI61, LI64, LI80, LI300, LI400, LI1000, LI2000, LI2001, LI2047, LI2048, LI100000, LI1000000, LM, nI_clamp, nI_pos', nI_lt, nI_nlt, nI_le, nI_ge, nI_ne, nI_add, nI_sub, mI_lt, mI_le, mI_nlt, mI_nle, mI_ne, mI_ne', mI_nem, en, el, h5, hnow']
      · obtain ⟨I1, e1, wf, f1⟩ := cFire (d := d) (A := A) (b := b) (h := h) (X := X) (J := J) (n := n) hw hW okl hD hd ha hne
        rw [aFire_rN hm1, ← hy2] at wf
        have hil : y3 < a.2.2.2.length := by rw [hy2]; exact (lst1_ix hne).1
        have htc := tcnt_fire (rN := rN) (l := decide (w = 57)) ha hil
        obtain ⟨I2, e2, w2, f2, o2, d2⟩ := ih (i + 1) (c + 1) (aFire rN (decide (w = 57)) y2 y3 W) I1 m (some (.ref (b + R (w + 8) y2))) (by omega) (by omega) (by omega) wf (okW_fire hok ha) (okD_fire hd ha)
        have ea : aTime rN (decide (w = 57)) (r + 1 + 1) W = ((aTime rN (decide (w = 57)) (r + 1) (aFire rN (decide (w = 57)) y2 y3 W)).1 + 1, (aTime rN (decide (w = 57)) (r + 1) (aFire rN (decide (w = 57)) y2 y3 W)).2) := by
          show (match aDue W.1 0 none with | none => ((0 : Int32), W) | some (d, k, i) => if W.2.1.2.1 < d then (0, W) else ((aTime rN (decide (w = 57)) (r + 1) (aFire rN (decide (w = 57)) k i W)).1 + 1, (aTime rN (decide (w = 57)) (r + 1) (aFire rN (decide (w = 57)) k i W)).2)) = _
          rw [hx]
          simp only [hnow, if_false]
        rw [ea]
        have hnow' : y1 ≤ W.2.1.2.1 := i_nlt.mp hnow
        refine ⟨I2, ?_, w2, fC_trans f1 f2, o2, d2⟩
        rw [r139_14]
        have hs : nI c + ((aTime rN (decide (w = 57)) (r + 1) (aFire rN (decide (w = 57)) y2 y3 W)).1 + 1) = nI (c + 1) + (aTime rN (decide (w = 57)) (r + 1) (aFire rN (decide (w = 57)) y2 y3 W)).1 := by
          rw [← nI_add c 1, Int32.add_assoc, Int32.add_comm (nI 1) _]
          rfl
        rw [hs]
        simp (disch := omega) [r139_0, r139_1, r139_2, r139_5, r139_6, r139_7, r139_10, r139_11, r139_12, r139_13, r139_15, r139_17, r139_20, r139_21, r139_24, r139_26, r139_28, r139_31, r139_33, r139_36, r139_37, r139_40, r139_43, r139_46, r139_47, r139_49, r139_52, r139_55, r139_58, r139_61, r139_62, gW0 hw, vf9_5, pW0_5 hw, ty9_5, qa141, qo141, qa142, qa143, qo143, List.getElem?_cons_zero, List.getElem?_cons_succ, List.length_cons, List.length_nil, ag_nx, ag_dn, ag_no, ag_if, jbr1, jbr2, jc1, jc2, jnul, jld, jsto, jstoL, jst1, jst2, jkill, jinc, jbI, jbL, jbS, juI, jl2i, jcmp, jisR, jisI, jisL, jret, jretv, jfits, jdup, jdup2, jpop, jmm, jcat, Value.category, jinv, jrcv, jthr, jhd, jput, jget, jlen, jald, jast, jaast, jgI, jgL, jgB, jtab, jlku, jacp, vf20, vf21, vf22, vf23, vf24, u2_s, u2_k, u2_i, uc_s, uc_k, uc_c, u2_c, LI0, LI1, LI2, LI3, LI4, LI5, LI6, LI7, LI8, LI9, LI10, LI11, LI12, LI13, LI14, LI15, LI16, LI17, LI18, LI19, LI20, LI21, LI22, LI23, LI24, LI25, LI26, LI27, LI28, LI29, LI30, LI31, LI32, LI33, LI34, LI35, LI36, LI37, LI40, LI42, LI43, LI45, LI48, LI60, LI61, LI64, LI80, LI300, LI400, LI1000, LI2000, LI2001, LI2047, LI2048, LI100000, LI1000000, LM, nI_clamp, nI_pos', nI_lt, nI_nlt, nI_le, nI_ge, nI_ne, nI_add, nI_sub, mI_lt, mI_le, mI_nlt, mI_nle, mI_ne, mI_ne', mI_nem, en, el, h5, hnow', e1, e2]
theorem tcnt_le {W : aW Nm} (ok : okL W.1) (h8 : W.1.length ≤ 8) : tcnt W ≤ 32 := by
  have : ∀ (l : List (aI Nm)), (∀ a, a ∈ l → a.2.2.2.length ≤ 4) → (l.map (fun a => a.2.2.2.length)).sum ≤ 4 * l.length := by
    intro l
    induction l with
    | nil => intro _; simp
    | cons x l ih =>
      intro hl
      have h1 := ih (fun a ha => hl a (List.mem_cons_of_mem _ ha))
      have h2 := hl x List.mem_cons_self
      simp only [List.map_cons, List.sum_cons, List.length_cons]
      omega
  have h1 := this W.1 (fun a ha => by
    obtain ⟨j, hj⟩ := List.mem_iff_getElem?.mp ha
    exact (ok j a hj).2.2.1)
  unfold tcnt
  omega
/-- TIME -/
def aGo (rN : Int32 → Nm) (l : Bool) (m : Int32) (W : aW Nm) : Int32 × aW Nm := aTime rN l 33 (W.1, (W.2.1.1, W.2.1.2.1 + m, W.2.1.2.2), W.2.2)
theorem cGoOn {m : Int32} {W : aW Nm} (hm1 : cN (-1) = rN (-1)) (hw : isW w) (h6 : np ≤ 6) (hlv : ∀ p, p < np → (lets N p).length ≤ 6) (hD : D + 1000000 < 2 ^ 31 - 1) (hW : wC cN I R w W) (hok : okW N np B W) (hd : okD D (W.1, (W.2.1.1, W.2.1.2.1 + m, W.2.1.2.2), W.2.2)) : ∃ I', jcall A jcode (d + 4) 139 [.ref (b + w), .int m] (jH h b X I J R n) = some (.inl (some (.int (aGo rN (decide (w = 57)) m W).1)), jH h b X I' J R n) ∧ wC cN I' R w (aGo rN (decide (w = 57)) m W).2 ∧ fC w I I' ∧ okW N np B (aGo rN (decide (w = 57)) m W).2 ∧ okD D (aGo rN (decide (w = 57)) m W).2 := by
  have w1 := isW_e hw
  have okl := okW_L h6 hlv hok
  have h5 : I w 5 = W.2.1.2.1 := hW.2.2.1
  have hW1 : wC cN (u2 I w 5 (I w 5 + m)) R w (W.1, (W.2.1.1, W.2.1.2.1 + m, W.2.1.2.2), W.2.2) := by
    obtain ⟨hA, h4, h5, hL, hQ⟩ := hW
    refine ⟨wA_fr (fun c i h1 h2 => by rw [u2_k (by omega)]) (by rw [u2_i (by omega)]) hA, by rw [u2_i (by omega)]; exact h4, by rw [u2_s, h5], fun e => ?_, fun e => ?_⟩
    · obtain ⟨h6, h7, h8, hm, he, ht, hx⟩ := hL e
      subst e
      refine ⟨by rw [u2_i (by omega)]; exact h6, by rw [u2_i (by omega)]; exact h7, by rw [u2_i (by omega)]; exact h8, hm, by rw [u2_k (by omega)]; exact he, ?_, by rw [u2_k (by omega)]; exact hx⟩
      refine ht.trans (rl_congr fun j hj => ?_)
      unfold eC
      simp (disch := omega) [u2_k]
    · obtain ⟨h6, h7, he⟩ := hQ e
      subst e
      exact ⟨by rw [u2_i (by omega)]; exact h6, by rw [u2_i (by omega)]; exact h7, by rw [u2_k (by omega)]; exact he⟩
  obtain ⟨I1, e1, w2, f2, o2, d2⟩ := c139l (d := d) (A := A) (b := b) (h := h) (X := X) (J := J) (n := n) (R := R) (D := D) hm1 hw h6 hlv hD 32 0 0 (W.1, (W.2.1.1, W.2.1.2.1 + m, W.2.1.2.2), W.2.2) (u2 I w 5 (I w 5 + m)) m none (by omega) (by omega) (tcnt_le okl hok.1) hW1 (okW_eq hok rfl rfl) hd
  refine ⟨I1, ?_, w2, ⟨fun c i hc => (f2.1 c i hc).trans (by rw [u2_k (by omega)]), f2.2.trans (by rw [u2_i (by omega)])⟩, o2, d2⟩
  have hz : nI 0 + (aTime rN (decide (w = 57)) (32 + 1) (W.1, (W.2.1.1, W.2.1.2.1 + m, W.2.1.2.2), W.2.2)).1 = (aGo rN (decide (w = 57)) m W).1 := by
    rw [show nI 0 = 0 by decide, Int32.zero_add]
    rfl
  rw [hz] at e1
  simp (disch := omega) [je139, r139_0, r139_1, r139_2, r139_5, r139_6, r139_7, r139_10, r139_11, r139_12, r139_13, gW0 hw, vf9_5, pW0_5 hw, ty9_5, qa141, qo141, qa142, qa143, qo143, List.getElem?_cons_zero, List.getElem?_cons_succ, List.length_cons, List.length_nil, ag_nx, ag_dn, ag_no, ag_if, jbr1, jbr2, jc1, jc2, jnul, jld, jsto, jstoL, jst1, jst2, jkill, jinc, jbI, jbL, jbS, juI, jl2i, jcmp, jisR, jisI, jisL, jret, jretv, jfits, jdup, jdup2, jpop, jmm, jcat, Value.category, jinv, jrcv, jthr, jhd, jput, jget, jlen, jald, jast, jaast, jgI, jgL, jgB, jtab, jlku, jacp, vf20, vf21, vf22, vf23, vf24, u2_s, u2_k, u2_i, uc_s, uc_k, uc_c, u2_c, LI0, LI1, LI2, LI3, LI4, LI5, LI6, LI7, LI8, LI9, LI10, LI11, LI12, LI13, LI14, LI15, LI16, LI17, LI18, LI19, LI20, LI21, LI22, LI23, LI24, LI25, LI26, LI27, LI28, LI29, LI30, LI31, LI32, LI33, LI34, LI35, LI36, LI37, LI40, LI42, LI43, LI45, LI48, LI60, LI61, LI64, LI80, LI300, LI400, LI1000, LI2000, LI2001, LI2047, LI2048, LI100000, LI1000000, LM, nI_clamp, nI_pos', nI_lt, nI_nlt, nI_le, nI_ge, nI_ne, nI_add, nI_sub, mI_lt, mI_le, mI_nlt, mI_nle, mI_ne, mI_ne', mI_nem, e1]
end CGO
