/-! the reference, in the same words -/
def okL {α : Type} (L : List (aI α)) : Prop := ∀ (k : Nat) (a : aI α), L[k]? = some a → a.2.1.length ≤ 6 ∧ a.2.2.1.length ≤ 8 ∧ a.2.2.2.length ≤ 4 ∧ ∃ p, p < 6 ∧ a.1.2.1 = nI p
theorem lt_of_some {β : Type} {L : List β} {k : Nat} {a : β} (hk : L[k]? = some a) : k < L.length := by
  rcases Nat.lt_or_ge k L.length with h2 | h2
  · exact h2
  · rw [List.getElem?_eq_none h2] at hk; cases hk
theorem wB_fr {α : Type} {rN : Int32 → α} {I I' : Nat → Nat → Int32} {L : List (aI α)} (hi : ∀ c i, 260 ≤ c → c ≤ 274 → I' c i = I c i) (h3 : I' 241 36 = I 241 36) (h : wB rN I L) : wB rN I' L := by
  refine ⟨h.1, h3.trans h.2.1, fun k a hk => ?_⟩
  exact iR_fr (fun c h1 h2 => hi c k (by omega) (by omega)) (fun j => Or.inl (hi 266 _ (by omega) (by omega))) (fun c j h1 h2 => Or.inl (hi c _ (by omega) (by omega))) (fun c j h1 h2 => Or.inl (hi c _ (by omega) (by omega))) (h.2.2 k a hk)
theorem wB_put {α : Type} {rN : Int32 → α} {I I' : Nat → Nat → Int32} {L : List (aI α)} {k : Nat} {a : aI α} (h : wB rN I L) (ok : okL L) (hk : k < L.length) (hi : ∀ c j, 260 ≤ c → c ≤ 265 ∨ c = 267 ∨ c = 272 → j ≠ k → I' c j = I c j) (h6 : ∀ j, j < 6 * k ∨ 6 * k + 6 ≤ j → I' 266 j = I 266 j) (h8 : ∀ c j, 268 ≤ c → c ≤ 271 → j < 8 * k ∨ 8 * k + 8 ≤ j → I' c j = I c j) (h4 : ∀ c j, 273 ≤ c → c ≤ 274 → j < 4 * k ∨ 4 * k + 4 ≤ j → I' c j = I c j) (h3 : I' 241 36 = I 241 36) (ha : iR rN I' k a) : wB rN I' (L.set k a) := by
  refine ⟨by rw [List.length_set]; exact h.1, by rw [List.length_set]; exact h3.trans h.2.1, fun k' a' hk' => ?_⟩
  rw [List.getElem?_set] at hk'
  by_cases e : k = k'
  · subst e
    rw [if_pos rfl, if_pos hk] at hk'
    cases hk'
    exact ha
  · rw [if_neg e] at hk'
    obtain ⟨o1, o2, o3, _⟩ := ok k' a' hk'
    refine iR_fr (fun c h1 h2 => hi c k' h1 h2 (fun x => e x.symm)) (fun j => ?_) (fun c j h1 h2 => ?_) (fun c j h1 h2 => ?_) (h.2.2 k' a' hk')
    · rcases Nat.lt_or_ge j 6 with hj | hj
      · exact Or.inl (h6 _ (by omega))
      · exact Or.inr ⟨hj, by omega⟩
    · rcases Nat.lt_or_ge j a'.2.2.1.length with hj | hj
      · exact Or.inl (h8 c _ h1 h2 (by omega))
      · exact Or.inr hj
    · rcases Nat.lt_or_ge j a'.2.2.2.length with hj | hj
      · exact Or.inl (h4 c _ h1 h2 (by omega))
      · exact Or.inr hj
section RX
variable {A : Nat → Nat} {d b n : Nat} {h : Nat → Option jC} {X : jXX} {I : Nat → Nat → Int32} {J : Nat → Nat → Int64} {R : Nat → Nat → Nat} {rN : Int32 → Nm} {l : Bool} {W : aW Nm}
theorem rSlot {x : Int32} (hW : wR rN I l W) : jcall A jcode (d + 1) 220 [.ref (b + 241), .int x] (jH h b X I J R n) = some (.inl (some (.int (inO (aSlot W x)))), jH h b X I J R n) := by
  have e := r220 (A := A) (d := d) (b := b) (h := h) (X := X) (J := J) (R := R) (n := n) (x := x) hW.1.2.1 hW.1.1
  rw [fdx_idx (f := fun a : aI Nm => a.1.1) W.1 0 (fun j a hj => by
    have := (hW.1.2.2 j a hj).1
    simp [this])] at e
  simpa [aSlot] using e
theorem cnx_cnt {β : Type} {f : β → Int32} {D : Nat → Int32} {x : Int32} : ∀ (L : List β) (k c : Nat), (∀ j a, L[j]? = some a → D (k + j) = f a) → cnx D x L.length k c = c + L.countP (fun a => decide (f a = x)) := by
  intro L
  induction L with
  | nil => intro k c _; rfl
  | cons a L ih =>
    intro k c hD
    have h0 : D k = f a := hD 0 a rfl
    have e := fun c => ih (k + 1) c (fun j c hj => by
      have := hD (j + 1) c (by simpa using hj)
      rwa [Nat.add_assoc, Nat.add_comm 1 j])
    show cnx D x (L.length + 1) k c = _
    unfold cnx
    rw [h0, e, List.countP_cons]
    by_cases hc : f a = x
    · simp [hc]; omega
    · simp [hc]
theorem rMany {x : Int32} (hW : wR rN I l W) : jcall A jcode (d + 1) 221 [.ref (b + 241), .int x] (jH h b X I J R n) = some (.inl (some (.int (nI (aMany W x)))), jH h b X I J R n) := by
  have e := r221 (A := A) (d := d) (b := b) (h := h) (X := X) (J := J) (R := R) (n := n) (x := x) hW.1.2.1 hW.1.1
  rw [cnx_cnt (f := fun a : aI Nm => a.1.2.1) W.1 0 0 (fun j a hj => by
    have := (hW.1.2.2 j a hj).1
    simp [this])] at e
  simpa [aMany] using e
theorem rAdd {kd id x v o pe : Int32} (hW : wR rN I l W) : ∃ I', jcall A jcode (d + 1) 218 [.ref (b + 241), .int kd, .int id, .int x, .int v, .int o, .int pe] (jH h b X I J R n) = some (.inl none, jH h b X I' J R n) ∧
    wR rN I' l (aAdd l (kd, id, rN x, v, if (kd = 0 ∨ kd = 1) ∧ ¬ pe = -3 then some (oR o, oR pe) else none) W) ∧ fR I I' ∧ (∀ c i, 260 ≤ c → c ≤ 274 → I' c i = I c i) ∧ ∀ i, i ≠ 64 → i ≠ 65 → I' 241 i = I 241 i := by
  cases l with
  | false =>
    obtain ⟨hA, h4, h5, hL, hQ⟩ := hW
    refine ⟨I, r218q (hQ rfl).1, ⟨hA, h4, h5, fun e => (by cases e), fun _ => hQ rfl⟩, fR_refl, fun _ _ _ _ => rfl, fun _ _ _ => rfl⟩
  | true =>
    obtain ⟨hA, h4, h5, hL, _⟩ := hW
    obtain ⟨hq, h6, h7, h8, hm, he, ht, hx⟩ := hL rfl
    by_cases hc : W.2.2.1.1.length < 400
    · refine ⟨_, r218 hq he hc, ⟨wB_fr ?_ ?_ hA, ?_⟩, ⟨?_, ?_, ?_⟩, ?_, ?_⟩
      · intro c i h1 h2; simp (disch := omega) [u2_k]
      · simp (disch := omega) [u2_k, u2_i]
      · refine ⟨by simp (disch := omega) [u2_k, u2_i, aAdd, h4], by simp (disch := omega) [u2_k, u2_i, aAdd, h5], fun _ => ?_, fun e => by cases e⟩
        simp only [aAdd, aEv, if_true, hc]
        refine ⟨by simp (disch := omega) [u2_k, u2_i, hq], by simp (disch := omega) [u2_k, u2_i, h6], by simp (disch := omega) [u2_k, u2_i, h7], by simp (disch := omega) [u2_k, u2_i, h8], by simp; omega, by simp (disch := omega) [u2_s], ?_, by simp (disch := omega) [u2_k, u2_i, hx]⟩
        rw [List.length_append]
        show _ = rl _ (W.2.2.1.1.length + 1)
        rw [rl_push]
        congr 1
        · refine ht.trans (rl_congr fun j hj => ?_)
          unfold eR
          simp (disch := omega) [u2_k, u2_i]
        · unfold eR
          simp (disch := omega) [u2_k, u2_s]
      · intro c i h1; simp (disch := omega) [u2_k]
      · intro i h1; simp (disch := omega) [u2_k, u2_i]
      · simp (disch := omega) [u2_k, u2_i]
      · intro c i h1 h2; simp (disch := omega) [u2_k]
      · intro i h1 h2; simp (disch := omega) [u2_k, u2_i]
    · have h400 : W.2.2.1.1.length = 400 := by omega
      refine ⟨_, r218f hq (by rw [← h400]; exact he), ⟨wB_fr ?_ ?_ hA, ?_⟩, ⟨?_, ?_, ?_⟩, ?_, ?_⟩
      · intro c i h1 h2; simp (disch := omega) [u2_k]
      · simp (disch := omega) [u2_k, u2_i]
      · refine ⟨by simp (disch := omega) [u2_k, u2_i, aAdd, h4], by simp (disch := omega) [u2_k, u2_i, aAdd, h5], fun _ => ?_, fun e => by cases e⟩
        simp only [aAdd, aEv, if_true, hc, if_false]
        refine ⟨by simp (disch := omega) [u2_k, u2_i, hq], by simp (disch := omega) [u2_k, u2_i, h6], by simp (disch := omega) [u2_k, u2_i, h7], by simp (disch := omega) [u2_k, u2_i, h8], hm, by simp (disch := omega) [u2_i, he], ?_, by simp (disch := omega) [u2_s]⟩
        refine ht.trans (rl_congr fun j hj => ?_)
        unfold eR
        simp (disch := omega) [u2_k]
      · intro c i h1; simp (disch := omega) [u2_k]
      · intro i h1; simp (disch := omega) [u2_k, u2_i]
      · simp (disch := omega) [u2_k, u2_i]
      · intro c i h1 h2; simp (disch := omega) [u2_k]
      · intro i h1 h2; simp (disch := omega) [u2_k, u2_i]
theorem rLose {id x v : Int32} (hW : wR rN I l W) : ∃ I', jcall A jcode (d + 2) 219 [.ref (b + 241), .int id, .int x, .int v] (jH h b X I J R n) = some (.inl none, jH h b X I' J R n) ∧
    wR rN I' l (aLose l id (rN x) v W) ∧ fR I I' ∧ (∀ c i, 260 ≤ c → c ≤ 274 → I' c i = I c i) ∧ ∀ i, i ≠ 64 → i ≠ 65 → i ≠ 39 → i ≠ 67 → I' 241 i = I 241 i := by
  cases l with
  | false =>
    have hW1 : wR rN (u2 I 241 67 1) false (W.1, (W.2.1.1, W.2.1.2.1, W.2.1.2.2.1, W.2.1.2.2.2), W.2.2.1, (W.2.2.2.1 + 1, W.2.2.2.2)) := by
      obtain ⟨hA, h4, h5, hL, hQ⟩ := hW
      obtain ⟨q1, q2, q3⟩ := hQ rfl
      exact ⟨wB_fr (fun c i h1 h2 => by simp (disch := omega) [u2_k]) (by simp (disch := omega) [u2_i]) hA, by simp (disch := omega) [u2_i, h4], by simp (disch := omega) [u2_i, h5], fun e => (by cases e), fun _ => ⟨by simp (disch := omega) [u2_i, q1], by rw [u2_s]; exact ⟨fun z => absurd z (by decide), fun z => absurd z (Nat.succ_ne_zero _)⟩, by rw [u2_i (by omega)]; exact q3.1, tQ_fr (fun c i h1 h2 => by simp (disch := omega) [u2_k]) (fun i h1 => by simp (disch := omega) [u2_i]) q3.2⟩⟩
    have hq := (hW.2.2.2.2 rfl).1
    obtain ⟨I', e, h1, h2, h3, h4⟩ := rAdd (A := A) (d := d) (b := b) (h := h) (X := X) (J := J) (R := R) (n := n) (kd := 3) (id := id) (x := x) (v := v) (o := -1) (pe := -1) hW1
    simp only [LI0, LI1, LI2, LI3, LI4, LI5, LI6, LI7, LI8, LI9, LI10, LI11, LI12, LI13, LI14, LI15, LI16, LI17, LI18, LI19, LI20, LI21, LI22, LI23, LI24, LI25, LI26, LI27, LI28, LI29, LI30, LI31, LI32, LI33, LI34, LI35, LI36, LI37, LI40, LI42, LI43, LI45, LI48, LI60, LI61, LI64, LI80, LI300, LI400, LI1000, LI2000, LI2001, LI2047, LI2048, LI100000, LI1000000, LM] at e hq
    refine ⟨I', by simp (disch := omega) [je219, r219_0, r219_1, r219_2, r219_5, r219_6, r219_9, r219_12, r219_13, r219_14, r219_17, r219_18, r219_19, r219_22, r219_23, r219_24, r219_25, r219_26, r219_27, r219_28, r219_29, r219_32, g241, p241_67, ty12_67, vf12_66, vf12_39, p241_39, ty12_39, qa218, qo218, List.getElem?_cons_zero, List.getElem?_cons_succ, List.length_cons, List.length_nil, ag_nx, ag_dn, ag_no, ag_if, jbr1, jbr2, jc1, jc2, jnul, jld, jsto, jstoL, jst1, jst2, jkill, jinc, jbI, jbL, jbS, juI, jl2i, jcmp, jisR, jisI, jisL, jret, jretv, jfits, jdup, jdup2, jpop, jmm, jcat, Value.category, jinv, jrcv, jthr, jhd, jput, jget, jlen, jald, jast, jaast, jgI, jgL, jgB, jtab, jlku, jacp, vf20, vf21, vf22, vf23, vf24, u2_s, u2_k, u2_i, uc_s, uc_k, uc_c, u2_c, LI0, LI1, LI2, LI3, LI4, LI5, LI6, LI7, LI8, LI9, LI10, LI11, LI12, LI13, LI14, LI15, LI16, LI17, LI18, LI19, LI20, LI21, LI22, LI23, LI24, LI25, LI26, LI27, LI28, LI29, LI30, LI31, LI32, LI33, LI34, LI35, LI36, LI37, LI40, LI42, LI43, LI45, LI48, LI60, LI61, LI64, LI80, LI300, LI400, LI1000, LI2000, LI2001, LI2047, LI2048, LI100000, LI1000000, LM, nI_clamp, nI_pos', nI_lt, nI_nlt, nI_le, nI_ge, nI_ne, nI_add, nI_sub, mI_lt, mI_le, mI_nlt, mI_nle, mI_ne, mI_ne', mI_nem, e, hq], ?_, ⟨fun c i hc => (h2.1 c i hc).trans (by simp (disch := omega) [u2_k]), fun i hi => (h2.2.1 i hi).trans (by simp (disch := omega) [u2_i]), h2.2.2.trans (by simp (disch := omega) [u2_i])⟩, fun c i a1 a2 => (h3 c i a1 a2).trans (by simp (disch := omega) [u2_k]), fun i a1 a2 a3 a4 => (h4 i a1 a2).trans (by simp (disch := omega) [u2_i])⟩
    simpa [aLose] using h1
  | true =>
    have hW1 : wR rN (u2 (u2 I 241 67 1) 241 39 (I 241 39 + 1)) true (W.1, (W.2.1.1, W.2.1.2.1, W.2.1.2.2.1 + 1, W.2.1.2.2.2), W.2.2.1, (W.2.2.2.1 + 1, W.2.2.2.2)) := by
      obtain ⟨hA, h4, h5, hL, hQ⟩ := hW
      obtain ⟨hq, h6, h7, h8, hm, he, ht, hx⟩ := hL rfl
      refine ⟨wB_fr (fun c i h1 h2 => by simp (disch := omega) [u2_k]) (by simp (disch := omega) [u2_i]) hA, by simp (disch := omega) [u2_i, h4], by simp (disch := omega) [u2_i, h5], fun _ => ⟨by simp (disch := omega) [u2_i, hq], by simp [u2_s, h6], by simp (disch := omega) [u2_i, h7], by simp (disch := omega) [u2_i, h8], hm, by simp (disch := omega) [u2_i, he], ?_, by simp (disch := omega) [u2_i, hx]⟩, fun e => (by cases e)⟩
      refine ht.trans (rl_congr fun j hj => ?_)
      unfold eR
      simp (disch := omega) [u2_k]
    have hq := (hW.2.2.2.1 rfl).1
    obtain ⟨I', e, h1, h2, h3, h4⟩ := rAdd (A := A) (d := d) (b := b) (h := h) (X := X) (J := J) (R := R) (n := n) (kd := 3) (id := id) (x := x) (v := v) (o := -1) (pe := -1) hW1
    simp only [LI0, LI1, LI2, LI3, LI4, LI5, LI6, LI7, LI8, LI9, LI10, LI11, LI12, LI13, LI14, LI15, LI16, LI17, LI18, LI19, LI20, LI21, LI22, LI23, LI24, LI25, LI26, LI27, LI28, LI29, LI30, LI31, LI32, LI33, LI34, LI35, LI36, LI37, LI40, LI42, LI43, LI45, LI48, LI60, LI61, LI64, LI80, LI300, LI400, LI1000, LI2000, LI2001, LI2047, LI2048, LI100000, LI1000000, LM] at e hq
    refine ⟨I', by simp (disch := omega) [je219, r219_0, r219_1, r219_2, r219_5, r219_6, r219_9, r219_12, r219_13, r219_14, r219_17, r219_18, r219_19, r219_22, r219_23, r219_24, r219_25, r219_26, r219_27, r219_28, r219_29, r219_32, g241, p241_67, ty12_67, vf12_66, vf12_39, p241_39, ty12_39, qa218, qo218, List.getElem?_cons_zero, List.getElem?_cons_succ, List.length_cons, List.length_nil, ag_nx, ag_dn, ag_no, ag_if, jbr1, jbr2, jc1, jc2, jnul, jld, jsto, jstoL, jst1, jst2, jkill, jinc, jbI, jbL, jbS, juI, jl2i, jcmp, jisR, jisI, jisL, jret, jretv, jfits, jdup, jdup2, jpop, jmm, jcat, Value.category, jinv, jrcv, jthr, jhd, jput, jget, jlen, jald, jast, jaast, jgI, jgL, jgB, jtab, jlku, jacp, vf20, vf21, vf22, vf23, vf24, u2_s, u2_k, u2_i, uc_s, uc_k, uc_c, u2_c, LI0, LI1, LI2, LI3, LI4, LI5, LI6, LI7, LI8, LI9, LI10, LI11, LI12, LI13, LI14, LI15, LI16, LI17, LI18, LI19, LI20, LI21, LI22, LI23, LI24, LI25, LI26, LI27, LI28, LI29, LI30, LI31, LI32, LI33, LI34, LI35, LI36, LI37, LI40, LI42, LI43, LI45, LI48, LI60, LI61, LI64, LI80, LI300, LI400, LI1000, LI2000, LI2001, LI2047, LI2048, LI100000, LI1000000, LM, nI_clamp, nI_pos', nI_lt, nI_nlt, nI_le, nI_ge, nI_ne, nI_add, nI_sub, mI_lt, mI_le, mI_nlt, mI_nle, mI_ne, mI_ne', mI_nem, e, hq], ?_, ⟨fun c i hc => (h2.1 c i hc).trans (by simp (disch := omega) [u2_k]), fun i hi => (h2.2.1 i hi).trans (by simp (disch := omega) [u2_i]), h2.2.2.trans (by simp (disch := omega) [u2_i])⟩, fun c i a1 a2 => (h3 c i a1 a2).trans (by simp (disch := omega) [u2_k]), fun i a1 a2 a3 a4 => (h4 i a1 a2).trans (by simp (disch := omega) [u2_i])⟩
    simpa [aLose] using h1
theorem iR_acc {k : Nat} {a : aI Nm} {x v f o : Int32} (h : iR rN I k a) : iR rN (u2 (u2 (u2 (u2 (u2 I 268 (8 * k + a.2.2.1.length) x) 269 (8 * k + a.2.2.1.length) v) 270 (8 * k + a.2.2.1.length) f) 271 (8 * k + a.2.2.1.length) o) 267 k (nI (a.2.2.1.length + 1))) k (aAcc (rN x, v, f, oR o) a) := by
  obtain ⟨h1, h2, h3, h4, h5, h6⟩ := h
  unfold aAcc
  refine ⟨?_, ?_, ?_, ?_, ?_, ?_⟩
  · simp (disch := omega) [u2_k, u2_i, h1]
  · refine ⟨h2.1.trans (rl_congr fun j hj => ?_), fun j hj hj6 => Eq.trans ?_ (h2.2 j hj hj6)⟩
    · simp (disch := omega) [u2_k]
    · simp (disch := omega) [u2_k]
  · simp [u2_s]
  · show a.2.2.1 ++ _ = rl _ (a.2.2.1 ++ [_]).length
    rw [List.length_append]
    show _ = rl _ (a.2.2.1.length + 1)
    rw [rl_push]
    congr 1
    · refine h4.trans (rl_congr fun j hj => ?_)
      simp (disch := omega) [u2_k, u2_i]
    · simp (disch := omega) [u2_k, u2_s]
  · simp (disch := omega) [u2_k, u2_i, h5]
  · refine h6.trans (rl_congr fun j hj => ?_)
    simp (disch := omega) [u2_k]
theorem rAcc {k : Nat} {a : aI Nm} {x v f o : Int32} (hW : wR rN I l W) (ok : okL W.1) (hk : W.1[k]? = some a) (h8 : a.2.2.1.length < 8) : ∃ I', jcall A jcode (d + 1) 226 [.ref (b + 241), .int (nI k), .int x, .int v, .int f, .int o] (jH h b X I J R n) = some (.inl (some (.int 1)), jH h b X I' J R n) ∧
    wR rN I' l (aPut k (aAcc (rN x, v, f, oR o) a) W) ∧ fR I I' ∧ (∀ i, I' 241 i = I 241 i) ∧ ∀ c i, c ≠ 267 → c < 268 ∨ 271 < c → I' c i = I c i := by
  have hkl := lt_of_some hk
  have k8 : k < 8 := by have := hW.1.1; omega
  have ha := hW.1.2.2 k a hk
  refine ⟨_, r226 k8 ha.2.2.1 h8, ⟨wB_put hW.1 ok hkl ?_ ?_ ?_ ?_ ?_ (iR_acc ha), tR_fr ?_ ?_ hW.2⟩, ⟨?_, ?_, ?_⟩, ?_, ?_⟩
  · intro c j h1 h2 h3
    by_cases hc : c = 267
    · subst hc; simp (disch := omega) [u2_k, u2_i]
    · simp (disch := omega) [u2_k]
  · intro j h1; simp (disch := omega) [u2_k]
  · intro c j h1 h2 h3
    rw [u2_k (by omega), u2_ap, u2_ap, u2_ap, u2_ap, if_neg (by omega), if_neg (by omega), if_neg (by omega), if_neg (by omega)]
  · intro c j h1 h2 h3; simp (disch := omega) [u2_k]
  · simp (disch := omega) [u2_k]
  · intro c i h1 h2; simp (disch := omega) [u2_k]
  · intro i h1 h2; simp (disch := omega) [u2_k]
  · intro c i h1; simp (disch := omega) [u2_k]
  · intro i h1; simp (disch := omega) [u2_k]
  · simp (disch := omega) [u2_k]
  · intro i; simp (disch := omega) [u2_k]
  · intro c i h1 h2; simp (disch := omega) [u2_k]
theorem rAccN {k : Nat} {a : aI Nm} {x v f o : Int32} (hW : wR rN I l W) (hk : W.1[k]? = some a) (h8 : a.2.2.1.length = 8) : jcall A jcode (d + 1) 226 [.ref (b + 241), .int (nI k), .int x, .int v, .int f, .int o] (jH h b X I J R n) = some (.inl (some (.int 0)), jH h b X I J R n) := by
  have hkl := lt_of_some hk
  have k8 : k < 8 := by have := hW.1.1; omega
  have ha := hW.1.2.2 k a hk
  exact r226n k8 (by rw [ha.2.2.1, h8])
end RX
