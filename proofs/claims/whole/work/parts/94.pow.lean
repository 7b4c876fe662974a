/-! what stays true of all that is there -/
def okW (N : Nat → Nat → Int32) (np B : Nat) (W : aW Nm) : Prop :=
  W.1.length ≤ 8 ∧ (∀ (k : Nat) (a : aI Nm), W.1[k]? = some a → okI N np a) ∧ (∀ p, p < np → (W.1.map (fun a => a.1.2.1)).countP (fun x => decide (x = nI p)) ≤ 4) ∧
  ∃ (g : Nat) (ids : List Nat), W.2.1.1 = nI g ∧ g ≤ B + W.1.length ∧ W.1.map (fun a => a.1.1) = ids.map nI ∧ ids.Pairwise (fun x y => x < y) ∧ ∀ x, x ∈ ids → x < g
theorem er_map {β γ : Type} (f : β → γ) : ∀ (l : List β) (k : Nat), (l.eraseIdx k).map f = (l.map f).eraseIdx k := by
  intro l
  induction l with
  | nil => intro k; rfl
  | cons a l ih =>
    intro k
    cases k with
    | zero => rfl
    | succ k =>
      show f a :: (l.eraseIdx k).map f = f a :: (l.map f).eraseIdx k
      rw [ih k]
section OW
variable {N : Nat → Nat → Int32} {np B : Nat} {W : aW Nm}
theorem okW_L (h6 : np ≤ 6) (hl : ∀ p, p < np → (lets N p).length ≤ 6) (h : okW N np B W) : okL W.1 := by
  intro k a hk
  obtain ⟨p, hp, h1, hv, hs, hq, ht⟩ := h.2.1 k a hk
  exact ⟨by have := hl p hp; omega, hq, ht, p, by omega, h1⟩
theorem okW_le {B' : Nat} (hB : B ≤ B') (h : okW N np B W) : okW N np B' W := by
  obtain ⟨h1, h2, h3, g, ids, h4, h5, h6⟩ := h
  exact ⟨h1, h2, h3, g, ids, h4, by omega, h6⟩
theorem okW_ids {i j : Nat} {a c : aI Nm} (hB : B + 8 < 2 ^ 31) (h : okW N np B W) (hi : W.1[i]? = some a) (hj : W.1[j]? = some c) (hij : i < j) : ¬ a.1.1 = c.1.1 := by
  obtain ⟨h1, h2, h3, g, ids, h4, h5, h6, h7, h8⟩ := h
  have e1 : ids[i]?.map nI = some a.1.1 := by rw [← List.getElem?_map, ← h6, List.getElem?_map, hi]; rfl
  have e2 : ids[j]?.map nI = some c.1.1 := by rw [← List.getElem?_map, ← h6, List.getElem?_map, hj]; rfl
  cases hx : ids[i]? with
  | none => rw [hx] at e1; cases e1
  | some x =>
    cases hy : ids[j]? with
    | none => rw [hy] at e2; cases e2
    | some y =>
      rw [hx] at e1
      rw [hy] at e2
      have e1' : nI x = a.1.1 := Option.some.inj e1
      have e2' : nI y = c.1.1 := Option.some.inj e2
      have hil := lt_of_some hx
      have hjl := lt_of_some hy
      have hxy : x < y := by
        have := List.pairwise_iff_getElem.mp h7 i j hil hjl hij
        rw [List.getElem?_eq_getElem hil] at hx
        rw [List.getElem?_eq_getElem hjl] at hy
        have a1 := Option.some.inj hx
        have a2 := Option.some.inj hy
        omega
      have hyg := h8 y (List.mem_of_getElem? hy)
      rw [← e1', ← e2']
      exact nI_ne (by omega) (by omega) (by omega)
theorem okW_put {k : Nat} {a a' : aI Nm} (h : okW N np B W) (hk : W.1[k]? = some a) (ha : okI N np a') (hi : a'.1.1 = a.1.1) (hp : a'.1.2.1 = a.1.2.1) : okW N np B (aPut k a' W) := by
  obtain ⟨h1, h2, h3, h4⟩ := h
  have hs : ∀ {β : Type} (f : aI Nm → β), f a' = f a → (W.1.set k a').map f = W.1.map f := by
    intro β f hf
    apply List.ext_getElem?
    intro i
    rw [List.getElem?_map, List.getElem?_map, List.getElem?_set]
    by_cases e : k = i
    · subst e
      rw [if_pos rfl, if_pos (lt_of_some hk), hk]
      simp [hf]
    · rw [if_neg e]
  unfold aPut
  refine ⟨by rw [List.length_set]; exact h1, fun j c hj => ?_, fun p hp' => ?_, ?_⟩
  · rw [List.getElem?_set] at hj
    by_cases e : k = j
    · subst e
      rw [if_pos rfl, if_pos (lt_of_some hk)] at hj
      cases hj
      exact ha
    · rw [if_neg e] at hj
      exact h2 j c hj
  · show ((W.1.set k a').map (fun a => a.1.2.1)).countP _ ≤ 4
    rw [hs (fun a => a.1.2.1) hp]
    exact h3 p hp'
  · show ∃ (g : Nat) (ids : List Nat), W.2.1.1 = nI g ∧ g ≤ B + (W.1.set k a').length ∧ (W.1.set k a').map (fun a => a.1.1) = ids.map nI ∧ _
    rw [hs (fun a => a.1.1) hi, List.length_set]
    exact h4
theorem okW_eq {W' : aW Nm} (h : okW N np B W) (h1 : W'.1 = W.1) (h2 : W'.2.1.1 = W.2.1.1) : okW N np B W' := by
  unfold okW at h ⊢
  rw [h1, h2]
  exact h
theorem okW_gone {k : Nat} {W' : aW Nm} (h : okW N np B W) (hk : k < W.1.length) (h1 : W'.1 = W.1.eraseIdx k) (h2 : W'.2.1.1 = W.2.1.1) : okW N np (B + 1) W' := by
  obtain ⟨a1, a2, a3, g, ids, a4, a5, a6, a7, a8⟩ := h
  have hsub : (W.1.eraseIdx k).Sublist W.1 := List.eraseIdx_sublist _ _
  unfold okW
  rw [h1, h2]
  refine ⟨Nat.le_trans hsub.length_le a1, fun j c hj => ?_, fun p hp => Nat.le_trans ((hsub.map _).countP_le) (a3 p hp), g, ids.eraseIdx k, a4, by rw [List.length_eraseIdx, if_pos hk]; omega, ?_, a7.sublist (List.eraseIdx_sublist _ _), fun x hx => a8 x ((List.eraseIdx_sublist _ _).subset hx)⟩
  · have hm := List.mem_of_getElem? hj
    have hm2 := hsub.subset hm
    obtain ⟨i, hi⟩ := List.mem_iff_getElem?.mp hm2
    exact a2 i c hi
  · rw [er_map, a6, ← er_map]
theorem okW_new {p : Nat} {mk : Int32} {W' : aW Nm} {g0 : Int32} (h : okW N np B W) (h8 : W.1.length < 8) (hp : p < np) (h6 : np ≤ 6) (hm : (W.1.map (fun a => a.1.2.1)).countP (fun x => decide (x = nI p)) < 4) (hg : g0 = W.2.1.1) (h1 : W'.1 = W.1 ++ [aNew N g0 p mk]) (h2 : W'.2.1.1 = W.2.1.1 + 1) : okW N np B W' := by
  obtain ⟨a1, a2, a3, g, ids, a4, a5, a6, a7, a8⟩ := h
  unfold okW
  rw [h1, h2, hg]
  refine ⟨by simp; omega, fun j c hj => ?_, fun q hq => ?_, g + 1, ids ++ [g], by rw [a4]; exact nI_add g 1, by simp; omega, ?_, ?_, ?_⟩
  · rcases Nat.lt_or_ge j W.1.length with hl | hl
    · rw [List.getElem?_append_left hl] at hj
      exact a2 j c hj
    · rw [List.getElem?_append_right hl] at hj
      have hj0 : j - W.1.length = 0 := by
        rcases Nat.lt_or_ge (j - W.1.length) 1 with h1 | h1
        · omega
        · rw [List.getElem?_eq_none (by simpa using h1)] at hj; cases hj
      rw [hj0] at hj
      have : c = aNew N W.2.1.1 p mk := (Option.some.inj hj).symm
      subst this
      exact ⟨p, hp, rfl, by simp [aNew], Or.inl rfl, by simp [aNew], by simp [aNew]⟩
  · rw [List.map_append, List.countP_append]
    by_cases e : q = p
    · subst e
      have : List.countP (fun x => decide (x = nI q)) (List.map (fun a : aI Nm => a.1.2.1) [aNew N W.2.1.1 q mk]) ≤ 1 := List.countP_le_length
      omega
    · have hne : ¬ nI p = nI q := nI_ne (fun x => e x.symm) (by omega) (by omega)
      have : List.countP (fun x => decide (x = nI q)) (List.map (fun a : aI Nm => a.1.2.1) [aNew N W.2.1.1 p mk]) = 0 := by simp [aNew, hne]
      have := a3 q hq
      omega
  · rw [List.map_append, List.map_append, a6]
    simp [aNew, a4]
  · rw [List.pairwise_append]
    refine ⟨a7, by simp, fun x hx y hy => ?_⟩
    have : y = g := by simpa using hy
    subst this
    exact a8 x hx
  · intro x hx
    rw [List.mem_append] at hx
    rcases hx with hx | hx
    · have := a8 x hx
      omega
    · have : x = g := by simpa using hx
      omega
end OW
