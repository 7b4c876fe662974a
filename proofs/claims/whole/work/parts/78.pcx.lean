/-! a world of the class: events, losses, signals that come -/
theorem fdx_idx {β : Type} {f : β → Int32} {D : Nat → Int32} {x : Int32} : ∀ (L : List β) (k : Nat), (∀ j a, L[j]? = some a → D (k + j) = f a) → fdx D x L.length k = (L.findIdx? (fun a => decide (f a = x))).map (fun j => k + j) := by
  intro L
  induction L with
  | nil => intro k _; rfl
  | cons a L ih =>
    intro k hD
    have h0 : D k = f a := hD 0 a rfl
    have e := ih (k + 1) (fun j c hj => by
      have := hD (j + 1) c (by simpa using hj)
      rwa [Nat.add_assoc, Nat.add_comm 1 j])
    show fdx D x (L.length + 1) k = _
    unfold fdx
    rw [h0, List.findIdx?_cons]
    by_cases hc : f a = x
    · simp [hc]
    · simp only [hc, if_false, decide_false, e]
      cases L.findIdx? (fun a => decide (f a = x)) with
      | none => rfl
      | some j =>
        simp
        omega
section CX
variable {A : Nat → Nat} {d b n w : Nat} {h : Nat → Option jC} {X : jXX} {I : Nat → Nat → Int32} {J : Nat → Nat → Int64} {R : Nat → Nat → Nat} {cN : Int32 → Nm} {W : aW Nm}
theorem wA_I {L : List (aI Nm)} (hw : isW w) (h : wA cN I R w L) : ∀ k, k < 8 → isI (R (w + 8) k) := by
  intro k hk
  obtain ⟨j, hj, e⟩ := h.1.1 k hk
  rw [e]
  exact isI_of hw hj
theorem cSlot {x : Int32} (hw : isW w) (hW : wC cN I R w W) : jcall A jcode (d + 1) 116 [.ref (b + w), .int x] (jH h b X I J R n) = some (.inl (some (rfO b (R (w + 8)) (aSlot W x))), jH h b X I J R n) := by
  have e := c116 (A := A) (d := d) (b := b) (h := h) (X := X) (J := J) (n := n) (x := x) hw hW.1.2.2.1 hW.1.2.1 (wA_I hw hW.1)
  rw [fdx_idx (f := fun a : aI Nm => a.1.1) W.1 0 (fun j a hj => by
    have := (hW.1.2.2.2 j a hj).1
    simp [this])] at e
  simpa [aSlot] using e
theorem cLeast {x : Int32} (hw : isW w) (hW : wC cN I R w W) : jcall A jcode (d + 1) 132 [.ref (b + w), .int x] (jH h b X I J R n) = some (.inl (some (rfO b (R (w + 8)) (aLeast W x))), jH h b X I J R n) := by
  have e := c132 (A := A) (d := d) (b := b) (h := h) (X := X) (J := J) (n := n) (x := x) hw hW.1.2.2.1 hW.1.2.1 (wA_I hw hW.1)
  rw [fdx_idx (f := fun a : aI Nm => a.1.2.1) W.1 0 (fun j a hj => by
    have := (hW.1.2.2.2 j a hj).1
    simp [this])] at e
  simpa [aLeast] using e
theorem cAdd {kd id x v o pe : Int32} (hw : isW w) (hW : wC cN I R w W) : ∃ I', jcall A jcode (d + 1) 102 [.ref (b + (w + 1)), .int kd, .int id, .int x, .int v, .int o, .int pe] (jH h b X I J R n) = some (.inl none, jH h b X I' J R n) ∧
    wC cN I' R w (aAdd (decide (w = 57)) (kd, id, cN x, v, if (kd = 0 ∨ kd = 1) ∧ ¬ pe = -2 then some (o, pe) else none) W) ∧ fC w I I' ∧ (∀ c i, w + 9 ≤ c → c ≤ w + 72 → I' c i = I c i) ∧ ∀ i, I' w i = I w i := by
  rcases isW_e hw with rfl | rfl
  · obtain ⟨hA, h4, h5, hL, _⟩ := hW
    obtain ⟨h6, h7, h8, hm, he, ht, hx⟩ := hL rfl
    by_cases hc : W.2.2.1.1.length < 400
    · refine ⟨_, c102 hw he hc rfl rfl rfl rfl rfl rfl, ⟨wA_fr ?_ ?_ hA, ?_⟩, ⟨?_, ?_⟩, ?_, ?_⟩
      · intro c i h1 h2; simp (disch := omega) [u2_k]
      · simp (disch := omega) [u2_k]
      · refine ⟨by simp (disch := omega) [u2_k, aAdd, h4], by simp (disch := omega) [u2_k, aAdd, h5], fun _ => ?_, fun e => by omega⟩
        simp only [aAdd, aEv, decide_true, if_true, hc]
        refine ⟨by simp (disch := omega) [u2_k, h6], by simp (disch := omega) [u2_k, h7], by simp (disch := omega) [u2_k, h8], by simp; omega, by simp (disch := omega) [u2_s], ?_, by simp (disch := omega) [u2_k, u2_i, hx]⟩
        rw [List.length_append]
        show _ = rl _ (W.2.2.1.1.length + 1)
        rw [rl_push]
        congr 1
        · refine ht.trans (rl_congr fun j hj => ?_)
          unfold eC
          simp (disch := omega) [u2_k, u2_i]
        · unfold eC
          simp (disch := omega) [u2_k, u2_s]
      · intro c i h1; simp (disch := omega) [u2_k]
      · simp (disch := omega) [u2_k]
      · intro c i h1 h2; simp (disch := omega) [u2_k]
      · intro i; simp (disch := omega) [u2_k]
    · have h400 : W.2.2.1.1.length = 400 := by omega
      refine ⟨_, c102f (m := 400) hw (by rw [← h400]; exact he) rfl (by omega), ⟨wA_fr ?_ ?_ hA, ?_⟩, ⟨?_, ?_⟩, ?_, ?_⟩
      · intro c i h1 h2; simp (disch := omega) [u2_k]
      · simp (disch := omega) [u2_k]
      · refine ⟨by simp (disch := omega) [u2_k, aAdd, h4], by simp (disch := omega) [u2_k, aAdd, h5], fun _ => ?_, fun e => by omega⟩
        simp only [aAdd, aEv, decide_true, if_true, hc, if_false]
        refine ⟨by simp (disch := omega) [u2_k, h6], by simp (disch := omega) [u2_k, h7], by simp (disch := omega) [u2_k, h8], hm, by simp (disch := omega) [u2_i, he], ?_, by simp (disch := omega) [u2_s]⟩
        refine ht.trans (rl_congr fun j hj => ?_)
        unfold eC
        simp (disch := omega) [u2_k]
      · intro c i h1; simp (disch := omega) [u2_k]
      · simp (disch := omega) [u2_k]
      · intro c i h1 h2; simp (disch := omega) [u2_k]
      · intro i; simp (disch := omega) [u2_k]
  · obtain ⟨hA, h4, h5, _, hL⟩ := hW
    obtain ⟨h6, h7, he⟩ := hL rfl
    refine ⟨_, c102f (m := 0) hw (by rw [he]; decide) rfl (by omega), ⟨wA_fr ?_ ?_ hA, ?_⟩, ⟨?_, ?_⟩, ?_, ?_⟩
    · intro c i h1 h2; simp (disch := omega) [u2_k]
    · simp (disch := omega) [u2_k]
    · refine ⟨by simp (disch := omega) [u2_k, aAdd, h4], by simp (disch := omega) [u2_k, aAdd, h5], fun e => by omega, fun _ => ?_⟩
      exact ⟨by simp (disch := omega) [u2_k, aAdd, h6], by simp (disch := omega) [u2_k, aAdd, h7], by simp (disch := omega) [u2_i, he]⟩
    · intro c i h1; simp (disch := omega) [u2_k]
    · simp (disch := omega) [u2_k]
    · intro c i h1 h2; simp (disch := omega) [u2_k]
    · intro i; simp (disch := omega) [u2_k]
theorem cLose {id x v : Int32} (hw : isW w) (hW : wC cN I R w W) : ∃ I', jcall A jcode (d + 2) 134 [.ref (b + w), .int id, .int x, .int v] (jH h b X I J R n) = some (.inl none, jH h b X I' J R n) ∧
    wC cN I' R w (aLose (decide (w = 57)) id (cN x) v W) ∧ fC w I I' ∧ (∀ c i, w + 9 ≤ c → c ≤ w + 72 → I' c i = I c i) ∧ ∀ i, i ≠ 6 → I' w i = I w i := by
  have hW1 : wC cN (u2 I w 6 (I w 6 + 1)) R w (W.1, (W.2.1.1, W.2.1.2.1, if decide (w = 57) = true then W.2.1.2.2.1 + 1 else W.2.1.2.2.1, W.2.1.2.2.2), W.2.2.1, (W.2.2.2.1 + 1, W.2.2.2.2)) := by
    obtain ⟨hA, h4, h5, hL, hQ⟩ := hW
    refine ⟨wA_fr (fun c i h1 h2 => by simp (disch := omega) [u2_k]) (by simp (disch := omega) [u2_i]) hA, by simp (disch := omega) [u2_i, h4], by simp (disch := omega) [u2_i, h5], fun e => ?_, fun e => ?_⟩
    · obtain ⟨h6, h7, h8, hm, he, ht, hx⟩ := hL e
      subst e
      refine ⟨by simp [u2_s, h6], by simp (disch := omega) [u2_i, h7], by simp (disch := omega) [u2_i, h8], hm, by simp (disch := omega) [u2_k, he], ?_, by simp (disch := omega) [u2_k, hx]⟩
      refine ht.trans (rl_congr fun j hj => ?_)
      unfold eC
      simp (disch := omega) [u2_k]
    · obtain ⟨h6, h7, he⟩ := hQ e
      subst e
      exact ⟨by rw [u2_s, h6]; exact nI_add _ 1, by simp (disch := omega) [u2_i, h7], by simp (disch := omega) [u2_k, he]⟩
  obtain ⟨I', e, h1, h2, h3, h4⟩ := cAdd (A := A) (d := d) (b := b) (h := h) (X := X) (J := J) (n := n) (kd := 3) (id := id) (x := x) (v := v) (o := -2) (pe := -2) hw hW1
  simp only [LI0, LI1, LI2, LI3, LI4, LI5, LI6, LI7, LI8, LI9, LI10, LI11, LI12, LI13, LI14, LI15, LI16, LI17, LI18, LI19, LI20, LI21, LI22, LI23, LI24, LI25, LI26, LI27, LI28, LI29, LI30, LI31, LI32, LI33, LI34, LI35, LI36, LI37, LI40, LI42, LI43, LI45, LI48, LI60, LI61, LI64, LI80, LI300, LI400, LI1000, LI2000, LI2001, LI2047, LI2048, LI100000, LI1000000, LM] at e
  refine ⟨I', by simp (disch := omega) [je134, r134_0, r134_1, r134_2, r134_5, r134_6, r134_7, r134_10, r134_11, r134_14, r134_15, r134_16, r134_17, r134_18, r134_20, r134_22, r134_25, gW0 hw, vf9_6, pW0_6 hw, ty9_6, vf9_1, tW0_1 hw, qa102, qo102, gW1 hw, List.getElem?_cons_zero, List.getElem?_cons_succ, List.length_cons, List.length_nil, ag_nx, ag_dn, ag_no, ag_if, jbr1, jbr2, jc1, jc2, jnul, jld, jsto, jstoL, jst1, jst2, jkill, jinc, jbI, jbL, jbS, juI, jl2i, jcmp, jisR, jisI, jisL, jret, jretv, jfits, jdup, jdup2, jpop, jmm, jcat, Value.category, jinv, jrcv, jthr, jhd, jput, jget, jlen, jald, jast, jaast, jgI, jgL, jgB, jtab, jlku, jacp, vf20, vf21, vf22, vf23, vf24, u2_s, u2_k, u2_i, uc_s, uc_k, uc_c, u2_c, LI0, LI1, LI2, LI3, LI4, LI5, LI6, LI7, LI8, LI9, LI10, LI11, LI12, LI13, LI14, LI15, LI16, LI17, LI18, LI19, LI20, LI21, LI22, LI23, LI24, LI25, LI26, LI27, LI28, LI29, LI30, LI31, LI32, LI33, LI34, LI35, LI36, LI37, LI40, LI42, LI43, LI45, LI48, LI60, LI61, LI64, LI80, LI300, LI400, LI1000, LI2000, LI2001, LI2047, LI2048, LI100000, LI1000000, LM, nI_clamp, nI_pos', nI_lt, nI_nlt, nI_le, nI_ge, nI_ne, nI_add, nI_sub, mI_lt, mI_le, mI_nlt, mI_nle, mI_ne, mI_ne', mI_nem, e], ?_, ⟨fun c i hc => (h2.1 c i hc).trans (by simp (disch := omega) [u2_k]), h2.2.trans (by simp (disch := omega) [u2_i])⟩, fun c i a1 a2 => (h3 c i a1 a2).trans (by simp (disch := omega) [u2_k]), fun i hi => (h4 i).trans (by simp (disch := omega) [u2_i])⟩
  simpa [aLose] using h1
/-- a signal comes to the instance at a slot -/
theorem iC_acc {p : Nat} {a : aI Nm} {x v f o : Int32} (h : iC cN I p a) : iC cN (u2 (u2 (u2 (u2 (u2 I (p + 2) a.2.2.1.length x) (p + 3) a.2.2.1.length v) (p + 4) a.2.2.1.length f) (p + 5) a.2.2.1.length o) p 7 (nI (a.2.2.1.length + 1))) p (aAcc (cN x, v, f, o) a) := by
  obtain ⟨h1, h2, h3, h4, h5, h6⟩ := h
  unfold aAcc
  refine ⟨?_, ?_, ?_, ?_, ?_, ?_⟩
  · simp (disch := omega) [u2_k, u2_i, h1]
  · refine h2.trans (rl_congr fun j hj => ?_)
    simp (disch := omega) [u2_k]
  · simp [u2_s]
  · show a.2.2.1 ++ _ = rl _ (a.2.2.1 ++ [_]).length
    rw [List.length_append]
    show _ = rl _ (a.2.2.1.length + 1)
    rw [rl_push]
    congr 1
    · refine h4.trans (rl_congr fun j hj => ?_)
      simp (disch := omega) [u2_k, u2_i]
    · simp (disch := omega) [u2_k, u2_s]
  · simp (disch := omega) [u2_k, u2_i, h5]
  · refine h6.trans (rl_congr fun j hj => ?_)
    simp (disch := omega) [u2_k]
theorem cAcc {k : Nat} {a : aI Nm} {x v f o : Int32} (hw : isW w) (hW : wC cN I R w W) (hk : W.1[k]? = some a) (h8 : a.2.2.1.length < 8) : ∃ I', jcall A jcode (d + 1) 18 [.ref (b + R (w + 8) k), .int x, .int v, .int f, .int o] (jH h b X I J R n) = some (.inl (some (.int 1)), jH h b X I' J R n) ∧
    wC cN I' R w (aPut k (aAcc (cN x, v, f, o) a) W) ∧ fC w I I' ∧ (∀ i, I' w i = I w i) ∧ ∀ c i, c < R (w + 8) k ∨ R (w + 8) k + 7 < c → I' c i = I c i := by
  have k8 := wA_lt hW.1 hk
  have hi := wA_I hw hW.1 k k8
  have hr := okS_r hW.1.1 k8
  have ha := hW.1.2.2.2 k a hk
  have hkl : k < W.1.length := by
    rcases Nat.lt_or_ge k W.1.length with h2 | h2
    · exact h2
    · rw [List.getElem?_eq_none h2] at hk; cases hk
  refine ⟨_, c18 hi ha.2.2.1 h8, ⟨wA_put hW.1 hkl ?_ ?_ (iC_acc ha), tC_fr ?_ ?_ hW.2⟩, ⟨?_, ?_⟩, ?_, ?_⟩
  · intro c i h1 h2 h3; simp (disch := omega) [u2_k]
  · simp (disch := omega) [u2_k]
  · intro c i h1 h2; simp (disch := omega) [u2_k]
  · intro i h1 h2; simp (disch := omega) [u2_k]
  · intro c i h1; simp (disch := omega) [u2_k]
  · simp (disch := omega) [u2_k]
  · intro i; simp (disch := omega) [u2_k]
  · intro c i h1; simp (disch := omega) [u2_k]
theorem cAccN {k : Nat} {a : aI Nm} {x v f o : Int32} (hw : isW w) (hW : wC cN I R w W) (hk : W.1[k]? = some a) (h8 : a.2.2.1.length = 8) : jcall A jcode (d + 1) 18 [.ref (b + R (w + 8) k), .int x, .int v, .int f, .int o] (jH h b X I J R n) = some (.inl (some (.int 0)), jH h b X I J R n) := by
  have k8 := wA_lt hW.1 hk
  have ha := hW.1.2.2.2 k a hk
  exact c18n (wA_I hw hW.1 k k8) (by rw [ha.2.2.1, h8])
end CX
