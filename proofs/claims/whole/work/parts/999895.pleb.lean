/-! the least unknown, told by the class as by the reference -/
section LEB
variable {t : Nat → Int32} {N : Nat} {F : List qPr}
theorem fsO : ∀ LL : List (List (Option Nat)), ordO LL → (∀ L, L ∈ LL → L.length ≤ 1) → (fs LL.flatten = none ↔ nnO LL.flatten) ∧ ∀ u, fs LL.flatten = some u → lsO u LL.flatten := by
  intro LL
  induction LL with
  | nil => intro _ _; exact ⟨⟨(fun _ o ho => by cases ho), fun _ => rfl⟩, (fun u h => by cases h)⟩
  | cons L LL ih =>
    intro ho hl
    obtain ⟨i1, i2⟩ := ih (List.pairwise_cons.mp ho).2 (fun L' h' => hl L' (List.mem_cons_of_mem _ h'))
    have h1 := hl L List.mem_cons_self
    show (fs (L ++ LL.flatten) = none ↔ nnO (L ++ LL.flatten)) ∧ ∀ u, fs (L ++ LL.flatten) = some u → lsO u (L ++ LL.flatten)
    rw [fs_app]
    match L, h1 with
    | [], _ =>
      rw [fs_0, List.nil_append]
      exact ⟨i1, i2⟩
    | [none], _ =>
      rw [fs_1]
      refine ⟨⟨fun h => nnO_app (fun o ho => List.mem_singleton.mp ho) (i1.mp h), fun h => i1.mpr (fun o ho => h o (List.mem_append_right _ ho))⟩, fun u h => lsO_r (fun o ho => List.mem_singleton.mp ho) (i2 u h)⟩
    | [some w], _ =>
      rw [fs_1]
      refine ⟨⟨(fun h => by cases h), (fun h => by have := h (some w) (List.mem_append_left _ List.mem_cons_self); cases this)⟩, fun u h => ?_⟩
      cases h
      exact lsO_l ⟨List.mem_cons_self, fun v hv => by have := List.mem_singleton.mp hv; cases this; exact Nat.le_refl _⟩ ho
    | _ :: _ :: _, h => simp at h
theorem unF_l {C : List oT} {j : Nat} {Q : List qPr} (h : tInv (KK t N) Q C j) : (unF (eqY t N) Q = none ↔ nnO (Q.flatMap (uP (eqY t N)))) ∧ ∀ u, unF (eqY t N) Q = some u → lsO u (Q.flatMap (uP (eqY t N))) := by
  have hs : ∀ q : qPr, sb2 ([] :: (uP (eqY t N) q).map (fun o => [o])) (segP (KK t N) q) := fun q => by
    refine ⟨fun u hu => (by cases hu), ?_⟩
    have : (uP (eqY t N) q).map (fun o => [o]) = q.2.2.2.flatMap (fun s => s.2.map (fun c => [unC (eqY t N) q.2.1 c])) := by
      unfold uP
      rw [List.map_flatMap]
      congr 1
      funext s
      rw [List.map_map]
      rfl
    rw [this]
    refine sb2_flat (fun s => sb2_map (fun c u hu => clU_sb (t := t) (N := N) (F := []) (vs := q.2.1) c u ?_) s.2) q.2.2.2
    unfold clU
    rw [List.mem_singleton.mp hu]
    exact List.mem_cons_self
  have ho := sb2_ord _ _ (sb2_flat hs Q) h.2.1
  have hf : (Q.flatMap (fun q => [] :: (uP (eqY t N) q).map (fun o => [o]))).flatten = Q.flatMap (uP (eqY t N)) := by
    clear h hs ho
    induction Q with
    | nil => rfl
    | cons q Q ih =>
      rw [List.flatMap_cons, List.flatMap_cons, List.flatten_append, ih]
      congr 1
      show ((uP (eqY t N) q).map (fun o => [o])).flatten = _
      induction uP (eqY t N) q with
      | nil => rfl
      | cons o l ih => show o :: (l.map (fun o => [o])).flatten = o :: l; rw [ih]
  have := fsO _ ho (fun L hL => by
    obtain ⟨q, _, hL⟩ := List.mem_flatMap.mp hL
    rcases List.mem_cons.mp hL with e | e
    · rw [e]; simp
    · obtain ⟨o, _, e⟩ := List.mem_map.mp e
      rw [← e]; simp)
  rw [hf] at this
  exact this
/-- the class's least unknown is the reference's -/
theorem leaU {C : List oT} {j : Nat} (h : tInv (KK t N) F C j) : (C.foldl (fun u x => mnO u (ukO (eqY t N) F x)) (unF (eqY t N) F) = none ↔ nnO (F.flatMap (prU t N F)).flatten) ∧ ∀ u, C.foldl (fun u x => mnO u (ukO (eqY t N) F x)) (unF (eqY t N) F) = some u → lsO u (F.flatMap (prU t N F)).flatten := by
  obtain ⟨m1, m2⟩ := mnO_fold (f := ukO (eqY t N) F) C (unF (eqY t N) F)
  obtain ⟨k1, k2⟩ := unF_l h
  have hC := h.1
  refine ⟨?_, fun u hu => ?_⟩
  · rw [m1, k1]
    constructor
    · rintro ⟨a, c⟩ o ho
      cases o with
      | none => rfl
      | some u =>
        rcases prU_mem.mp ho with e | ⟨x, hx, e⟩
        · exact a _ e
        · rw [← hC] at hx; rw [c x hx] at e; cases e
    · intro a
      refine ⟨fun o ho => ?_, fun x hx => ?_⟩
      · cases o with
        | none => rfl
        | some u => exact a _ (prU_mem.mpr (Or.inl ho))
      · cases hx2 : ukO (eqY t N) F x with
        | none => rfl
        | some u => have := a _ (prU_mem.mpr (Or.inr ⟨x, by rw [← hC]; exact hx, hx2⟩)); cases this
  · obtain ⟨a1, a2, a3⟩ := m2 u hu
    refine ⟨prU_mem.mpr ?_, fun v hv => ?_⟩
    · rcases a1 with a1 | ⟨x, hx, e⟩
      · exact Or.inl (k2 u a1).1
      · exact Or.inr ⟨x, by rw [← hC]; exact hx, e⟩
    · rcases prU_mem.mp hv with e | ⟨x, hx, e⟩
      · cases hn : unF (eqY t N) F with
        | none => have := k1.mp hn _ e; cases this
        | some w =>
          have := a2 w hn
          have := (k2 w hn).2 v e
          omega
      · exact a3 x (by rw [hC]; exact hx) v e
theorem lsO_u {u v : Nat} {L : List (Option Nat)} (h : lsO u L) (h' : lsO v L) : u = v := by
  have := h.2 v h'.1
  have := h'.2 u h.1
  omega
end LEB
