/-! the least unknown: the same for both -/
section LEA
variable {t : Nat → Int32} {N : Nat} {F : List qPr}
def sb2 : List (List (Option Nat)) → List (List Nat) → Prop
  | [], [] => True
  | L :: LL, S :: SS => (∀ u, some u ∈ L → u ∈ S) ∧ sb2 LL SS
  | _, _ => False
theorem sb2_app : ∀ (LL : List (List (Option Nat))) (SS : List (List Nat)) (LL' : List (List (Option Nat))) (SS' : List (List Nat)), sb2 LL SS → sb2 LL' SS' → sb2 (LL ++ LL') (SS ++ SS') := by
  intro LL
  induction LL with
  | nil => intro SS LL' SS' h h'; cases SS with | nil => exact h' | cons s ss => exact h.elim
  | cons L LL ih => intro SS LL' SS' h h'; cases SS with | nil => exact h.elim | cons s ss => exact ⟨h.1, ih ss LL' SS' h.2 h'⟩
theorem sb2_flat {β : Type} {f : β → List (List (Option Nat))} {g : β → List (List Nat)} (h : ∀ x, sb2 (f x) (g x)) : ∀ l : List β, sb2 (l.flatMap f) (l.flatMap g) := by
  intro l
  induction l with
  | nil => trivial
  | cons x l ih => rw [List.flatMap_cons, List.flatMap_cons]; exact sb2_app _ _ _ _ (h x) ih
theorem sb2_map {β : Type} {f : β → List (Option Nat)} {g : β → List Nat} (h : ∀ x u, some u ∈ f x → u ∈ g x) : ∀ l : List β, sb2 (l.map f) (l.map g) := by
  intro l
  induction l with
  | nil => trivial
  | cons x l ih => exact ⟨h x, ih⟩
theorem sb2_in : ∀ (LL : List (List (Option Nat))) (SS : List (List Nat)), sb2 LL SS → ∀ L, L ∈ LL → ∃ S, S ∈ SS ∧ ∀ u, some u ∈ L → u ∈ S := by
  intro LL
  induction LL with
  | nil => intro SS _ L hL; cases hL
  | cons L LL ih =>
    intro SS h L' hL
    cases SS with
    | nil => exact h.elim
    | cons S SS =>
      rcases List.mem_cons.mp hL with e | e
      · rw [e]; exact ⟨S, List.mem_cons_self, h.1⟩
      · obtain ⟨S', h1, h2⟩ := ih SS h.2 L' e
        exact ⟨S', List.mem_cons_of_mem _ h1, h2⟩
theorem sb2_ord : ∀ (LL : List (List (Option Nat))) (SS : List (List Nat)), sb2 LL SS → ordT SS → ordO LL := by
  intro LL
  induction LL with
  | nil => intro SS _ _; exact List.Pairwise.nil
  | cons L LL ih =>
    intro SS h ho
    cases SS with
    | nil => exact h.elim
    | cons S SS =>
      obtain ⟨o1, o2⟩ := List.pairwise_cons.mp ho
      refine List.pairwise_cons.mpr ⟨fun L' hL' u v hu hv => ?_, ih SS h.2 o2⟩
      obtain ⟨S', h1, h2⟩ := sb2_in LL SS h.2 L' hL'
      exact o1 S' h1 u v (h.1 u hu) (h2 v hv)
theorem clU_sb {vs : List Nat} (q : qCl) (u : Nat) (h : some u ∈ clU t N F vs q) : u ∈ segC (KK t N) q := by
  unfold clU at h
  unfold segC
  rcases List.mem_cons.mp h with e | e
  · refine List.mem_append_left _ ?_
    unfold unC at e
    split at e
    · next v hv =>
      rw [hv]
      split at e
      · cases e
      · cases e; exact List.mem_cons_self
    · cases e
  · obtain ⟨y, hy, hy2⟩ := List.mem_map.mp e
    exact List.mem_append_right _ (List.mem_map.mpr ⟨y, hy, (ukO_t hy2).symm⟩)
theorem prU_sb (q : qPr) : sb2 (prU t N F q) (segP (KK t N) q) := by
  refine ⟨fun u hu => ?_, sb2_flat (fun s => sb2_map (fun c u hu => clU_sb c u hu) s.2) q.2.2.2⟩
  obtain ⟨y, hy, hy2⟩ := List.mem_map.mp hu
  exact List.mem_map.mpr ⟨y, hy, (ukO_t hy2).symm⟩
/-- the order that checkNames wants -/
theorem prU_ord {C : List oT} {j : Nat} {Q : List qPr} (h : tInv (KK t N) Q C j) : ordO (Q.flatMap (prU t N F)) := sb2_ord _ _ (sb2_flat (fun q => prU_sb q) Q) h.2.1
/-- what is in it -/
theorem prU_mem {u : Nat} {Q : List qPr} : some u ∈ (Q.flatMap (prU t N F)).flatten ↔ some u ∈ Q.flatMap (uP (eqY t N)) ∨ ∃ x, x ∈ Q.flatMap (codP (KK t N)) ∧ ukO (eqY t N) F x = some u := by
  constructor
  · intro h
    obtain ⟨L, hL, hu⟩ := List.mem_flatten.mp h
    obtain ⟨q, hq, hL⟩ := List.mem_flatMap.mp hL
    rcases List.mem_cons.mp hL with e | e
    · rw [e] at hu
      obtain ⟨y, hy, hy2⟩ := List.mem_map.mp hu
      exact Or.inr ⟨y, List.mem_flatMap.mpr ⟨q, hq, List.mem_append_left _ hy⟩, hy2⟩
    · obtain ⟨s, hs, hc⟩ := List.mem_flatMap.mp e
      obtain ⟨c, hc, hc2⟩ := List.mem_map.mp hc
      rw [← hc2] at hu
      rcases List.mem_cons.mp hu with e | e
      · exact Or.inl (List.mem_flatMap.mpr ⟨q, hq, List.mem_flatMap.mpr ⟨s, hs, List.mem_map.mpr ⟨c, hc, e.symm⟩⟩⟩)
      · obtain ⟨y, hy, hy2⟩ := List.mem_map.mp e
        exact Or.inr ⟨y, List.mem_flatMap.mpr ⟨q, hq, List.mem_append_right _ (List.mem_flatMap.mpr ⟨s, hs, List.mem_flatMap.mpr ⟨c, hc, hy⟩⟩)⟩, hy2⟩
  · intro h
    rcases h with h | ⟨y, hy, hy2⟩
    · obtain ⟨q, hq, h⟩ := List.mem_flatMap.mp h
      obtain ⟨s, hs, h⟩ := List.mem_flatMap.mp h
      obtain ⟨c, hc, h⟩ := List.mem_map.mp h
      exact List.mem_flatten.mpr ⟨clU t N F q.2.1 c, List.mem_flatMap.mpr ⟨q, hq, List.mem_cons_of_mem _ (List.mem_flatMap.mpr ⟨s, hs, List.mem_map.mpr ⟨c, hc, rfl⟩⟩)⟩, by unfold clU; rw [h]; exact List.mem_cons_self⟩
    · obtain ⟨q, hq, h⟩ := List.mem_flatMap.mp hy
      rcases List.mem_append.mp h with h | h
      · exact List.mem_flatten.mpr ⟨_, List.mem_flatMap.mpr ⟨q, hq, List.mem_cons_self⟩, List.mem_map.mpr ⟨y, h, hy2⟩⟩
      · obtain ⟨s, hs, h⟩ := List.mem_flatMap.mp h
        obtain ⟨c, hc, h⟩ := List.mem_flatMap.mp h
        exact List.mem_flatten.mpr ⟨clU t N F q.2.1 c, List.mem_flatMap.mpr ⟨q, hq, List.mem_cons_of_mem _ (List.mem_flatMap.mpr ⟨s, hs, List.mem_map.mpr ⟨c, hc, rfl⟩⟩)⟩, List.mem_cons_of_mem _ (List.mem_map.mpr ⟨y, h, hy2⟩)⟩
theorem mnO_fold {β : Type} {f : β → Option Nat} : ∀ (l : List β) (o : Option Nat), (l.foldl (fun u x => mnO u (f x)) o = none ↔ o = none ∧ ∀ x, x ∈ l → f x = none) ∧ ∀ u, l.foldl (fun u x => mnO u (f x)) o = some u → (o = some u ∨ ∃ x, x ∈ l ∧ f x = some u) ∧ (∀ v, o = some v → u ≤ v) ∧ ∀ x, x ∈ l → ∀ v, f x = some v → u ≤ v := by
  intro l
  induction l with
  | nil => intro o; exact ⟨⟨fun h => ⟨h, fun x hx => by cases hx⟩, fun h => h.1⟩, fun u h => ⟨Or.inl h, fun v hv => by rw [show o = some u from h] at hv; cases hv; exact Nat.le_refl _, fun x hx => by cases hx⟩⟩
  | cons x l ih =>
    intro o
    obtain ⟨i1, i2⟩ := ih (mnO o (f x))
    have hn : mnO o (f x) = none ↔ o = none ∧ f x = none := by
      cases o <;> cases f x <;> simp [mnO]
    refine ⟨?_, fun u h => ?_⟩
    · show l.foldl (fun u x => mnO u (f x)) (mnO o (f x)) = none ↔ _
      rw [i1, hn]
      constructor
      · rintro ⟨⟨a, b⟩, c⟩
        exact ⟨a, fun y hy => by
          rcases List.mem_cons.mp hy with e | e
          · rw [e]; exact b
          · exact c y e⟩
      · rintro ⟨a, b⟩
        exact ⟨⟨a, b x List.mem_cons_self⟩, fun y hy => b y (List.mem_cons_of_mem _ hy)⟩
    · obtain ⟨k1, k2, k3⟩ := i2 u h
      have hm1 : ∀ v, o = some v → u ≤ v := fun v hv => by
        rw [hv] at k2
        cases hf : f x with
        | none => rw [hf] at k2; exact k2 v rfl
        | some w => rw [hf] at k2; have := k2 (min v w) rfl; omega
      have hm2 : ∀ v, f x = some v → u ≤ v := fun v hv => by
        rw [hv] at k2
        cases ho : o with
        | none => rw [ho] at k2; exact k2 v rfl
        | some w => rw [ho] at k2; have := k2 (min w v) rfl; omega
      refine ⟨?_, hm1, fun y hy v hv => ?_⟩
      · rcases k1 with k1 | ⟨y, hy, k1⟩
        · cases ho : o with
          | none => rw [ho] at k1; exact Or.inr ⟨x, List.mem_cons_self, k1⟩
          | some a =>
            rw [ho] at k1
            cases hf : f x with
            | none => rw [hf] at k1; exact Or.inl k1
            | some w =>
              rw [hf] at k1
              have k1 : some (min a w) = some u := k1
              cases k1
              by_cases haw : a ≤ w
              · exact Or.inl (by rw [Nat.min_eq_left haw])
              · exact Or.inr ⟨x, List.mem_cons_self, by rw [hf, Nat.min_eq_right (by omega)]⟩
        · exact Or.inr ⟨y, List.mem_cons_of_mem _ hy, k1⟩
      · rcases List.mem_cons.mp hy with e | e
        · rw [e] at hv; exact hm2 v hv
        · exact k3 y e v hv
end LEA
