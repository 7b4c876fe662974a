/-! the text's order, and all of its code -/
section PGT
variable {K : Nat → Nat} {m pr : Nat} {C : List oT}
/-- the tokens of a clause that may be told as unknown -/
def segC (K : Nat → Nat) (cl : qCl) : List Nat := (match cl.2.1 with | some v => [v] | none => []) ++ (clC K cl).map (fun x => x.2.2.2)
def segP (K : Nat → Nat) (c : qPr) : List (List Nat) := c.2.2.1.2.map (fun x => x.2.2.2) :: c.2.2.2.flatMap (fun s => s.2.map (segC K))
/-- the code of a process -/
def codP (K : Nat → Nat) (c : qPr) : List oT := c.2.2.1.2 ++ c.2.2.2.flatMap (fun s => s.2.flatMap (clC K))
def ordT (LL : List (List Nat)) : Prop := LL.Pairwise (fun s s' => ∀ u v, u ∈ s → v ∈ s' → u < v)
def tInv (K : Nat → Nat) (F : List qPr) (C : List oT) (j : Nat) : Prop := C = F.flatMap (codP K) ∧ ordT (F.flatMap (segP K)) ∧ ∀ s, s ∈ F.flatMap (segP K) → ∀ x, x ∈ s → x < j
theorem tInv_up {F : List qPr} {j j' : Nat} (h : tInv K F C j) (hj : j ≤ j') : tInv K F C j' := ⟨h.1, h.2.1, fun s hs x hx => by have := h.2.2 s hs x hx; omega⟩
theorem tInv_add {F F' : List qPr} {l : List oT} {j j' : Nat} {sg : List Nat} (h : tInv K F C j) (h1 : F'.flatMap (codP K) = F.flatMap (codP K) ++ l) (h2 : F'.flatMap (segP K) = F.flatMap (segP K) ++ [sg]) (h3 : ∀ x, x ∈ sg → j ≤ x ∧ x < j') (hj : j ≤ j') : tInv K F' (C ++ l) j' := by
  refine ⟨by rw [h1, ← h.1], ?_, fun s hs x hx => ?_⟩
  · unfold ordT
    rw [h2]
    refine List.pairwise_append.mpr ⟨h.2.1, List.pairwise_singleton _ _, fun s hs s' hs' u v hu hv => ?_⟩
    rw [List.mem_singleton.mp hs'] at hv
    have := h.2.2 s hs u hu
    have := h3 v hv
    omega
  · rw [h2] at hs
    rcases List.mem_append.mp hs with hs | hs
    · have := h.2.2 s hs x hx; omega
    · rw [List.mem_singleton.mp hs] at hx
      exact (h3 x hx).2
theorem bodyR_T {β : Type} {f : Nat × List oT → β} {j j' : Nat} {C' : List oT} {x : β} (hm : ∀ j, j ≤ m → K j ≠ 29 → j < m) (hj : j ≤ m) (h : bodyR K pr C j f = (some x, j', C')) : ∃ l, C' = C ++ l ∧ x = f (C.length, l) ∧ (∀ y, y ∈ l → j ≤ y.2.2.2 ∧ y.2.2.2 < j') ∧ j' ≤ m ∧ j ≤ j' := by
  unfold bodyR at h
  have o := bO_ok (pr := pr) hm (L := C.length) hj
  rcases hb : bO K pr C.length j with ⟨o1, j1⟩
  rw [hb] at h o
  cases o1 with
  | none => cases h
  | some l =>
    cases h
    obtain ⟨o1, o2, o3⟩ := o
    obtain ⟨o4, o5⟩ := o3 l rfl
    exact ⟨l, rfl, rfl, o5, o2, o1⟩
theorem pHd_T {U : Nat → Int32} (hm : ∀ j, j ≤ m → K j ≠ 29 → j < m) {j j' : Nat} {C' : List oT} {c : qPr} (hj : j ≤ m) (h : pHd K U pr C j = (some c, j', C')) : ∃ l, C' = C ++ l ∧ c.2.2.1.2 = l ∧ c.2.2.2 = [] ∧ (∀ y, y ∈ l → j ≤ y.2.2.2 ∧ y.2.2.2 < j') ∧ j' ≤ m ∧ j ≤ j' := by
  unfold pHd at h
  split at h
  · next e0 =>
    have h0 := hm j hj (by rw [e0]; decide)
    split at h
    · next e1 =>
      have h1 := hm (j + 1) (by omega) (by rw [e1]; decide)
      split at h
      · next e2 =>
        have h2 := hm (j + 2) (by omega) (by rw [e2]; decide)
        split at h
        · next e3 =>
          have h3 := hm (j + 3) (by omega) (by rw [e3.1]; decide)
          split at h
          · next e4 =>
            have h4 := hm (j + 4) (by omega) (by rw [e4]; decide)
            split at h
            · next e5 =>
              have h5 := hm (j + 5) (by omega) (by rw [e5]; decide)
              rcases hl : pLs K 2001 [] (j + 6) with ⟨o, jl⟩
              rw [hl] at h
              cases o with
              | none => cases h
              | some vs =>
                obtain ⟨v1, v2, v3⟩ := pLs_V hm 2001 [] (j + 6) vs jl (by omega) (by simp) hl
                simp only at h
                split at h
                · next e6 =>
                  have h6 := hm jl v2 (by rw [e6]; decide)
                  obtain ⟨l, b1, b2, b3, b4, b5⟩ := bodyR_T hm (by omega) h
                  subst b1
                  subst b2
                  exact ⟨l, rfl, rfl, rfl, fun y hy => by have := b3 y hy; omega, b4, by omega⟩
                · cases h
            · cases h
          · cases h
        · cases h
      · cases h
    · cases h
  · cases h
theorem pCs_T (hm : ∀ j, j ≤ m → K j ≠ 29 → j < m) {j j' : Nat} {C' : List oT} {cl : qCl} (hj : j ≤ m) (h : pCs K pr C j = (some cl, j', C')) : C' = C ++ clC K cl ∧ (∀ x, x ∈ segC K cl → j ≤ x ∧ x < j') ∧ j' ≤ m ∧ j ≤ j' := by
  unfold pCs at h
  split at h
  · next e0 =>
    have h0 := hm j hj (by rw [e0]; decide)
    obtain ⟨l, b1, b2, b3, b4, b5⟩ := bodyR_T hm (by omega) h
    subst b1
    subst b2
    have hC : clC K (j, none, (0, []), (C.length, l)) = l := by unfold clC; rw [if_neg (by show ¬ K j = 8; omega), if_neg (by show ¬ K j = 7; omega)]
    refine ⟨by rw [hC], fun x hx => ?_, b4, by omega⟩
    unfold segC at hx
    rw [hC] at hx
    obtain ⟨y, hy, rfl⟩ := List.mem_map.mp (show x ∈ l.map (fun x => x.2.2.2) from hx)
    have := b3 y hy
    omega
  split at h
  · next e0 =>
    have h0 := hm j hj (by rw [e0]; decide)
    have ox := xB_ok (pr := pr) hm 8 (j + 1) (by omega)
    rcases hx : xB K pr 8 (j + 1) with ⟨o, jx⟩
    rw [hx] at h ox
    cases o with
    | none => cases h
    | some lx =>
      have hlt := xB_lt hm (by omega) hx
      obtain ⟨o1, o2, o3⟩ := ox
      obtain ⟨o4, o5⟩ := o3 lx rfl
      simp only at o1 o2 o4 o5 h
      obtain ⟨l, b1, b2, b3, b4, b5⟩ := bodyR_T hm o2 h
      subst b1
      subst b2
      have hC : clC K (j, none, (C.length, lx ++ [oz pr 28 (jx - 1)]), ((C ++ (lx ++ [oz pr 28 (jx - 1)])).length, l)) = lx ++ [oz pr 28 (jx - 1)] ++ l := by unfold clC; rw [if_pos (show K j = 8 from e0)]
      refine ⟨by rw [hC, List.append_assoc C], fun x hx => ?_, b4, by omega⟩
      unfold segC at hx
      rw [hC] at hx
      obtain ⟨y, hy, rfl⟩ := List.mem_map.mp (by simpa using hx : x ∈ (lx ++ [oz pr 28 (jx - 1)] ++ l).map (fun x => x.2.2.2))
      rcases List.mem_append.mp hy with hy | hy
      · rcases List.mem_append.mp hy with hy | hy
        · have := o5 y hy; omega
        · rw [List.mem_singleton.mp hy]
          show j ≤ jx - 1 ∧ jx - 1 < j'
          omega
      · have := b3 y hy; omega
  split at h
  · next e0 =>
    have h0 := hm j hj (by rw [e0]; decide)
    split at h
    · next e1 =>
      have h1 := hm (j + 1) (by omega) (by rw [e1]; decide)
      split at h
      · next e2 =>
        have h2 := hm (j + 2) (by omega) (by rw [e2]; decide)
        cases h
        have hC : clC K (j, none, (0, []), (0, [])) = [] := by unfold clC; rw [if_neg (by show ¬ K j = 8; omega), if_pos (show K j = 7 from e0)]
        refine ⟨by rw [hC, List.append_nil], fun x hx => ?_, by omega, by omega⟩
        unfold segC at hx
        rw [hC] at hx
        simp at hx
      · cases h
    · cases h
  split at h
  · next e0 =>
    have h0 := hm j hj (by omega)
    split at h
    · next e1 =>
      have h1 := hm (j + 1) (by omega) (by rw [e1]; decide)
      split at h
      · next e2 =>
        have h2 := hm (j + 2) (by omega) (by rw [e2]; decide)
        split at h
        · next e3 =>
          have h3 := hm (j + 3) (by omega) (by rw [e3]; decide)
          split at h
          · next e4 =>
            have h4 := hm (j + 4) (by omega) (by rw [e4]; decide)
            obtain ⟨l, b1, b2, b3, b4, b5⟩ := bodyR_T hm (by omega) h
            subst b1
            subst b2
            have hC : clC K (j, some (j + 3), (0, []), (C.length, l)) = l := by unfold clC; rw [if_neg (by show ¬ K j = 8; omega), if_neg (by show ¬ K j = 7; omega)]
            refine ⟨by rw [hC], fun x hx => ?_, b4, by omega⟩
            unfold segC at hx
            rw [hC] at hx
            rcases List.mem_append.mp hx with hx | hx
            · rw [List.mem_singleton.mp hx]; omega
            · obtain ⟨y, hy, rfl⟩ := List.mem_map.mp hx
              have := b3 y hy
              omega
          · cases h
        · cases h
      · obtain ⟨l, b1, b2, b3, b4, b5⟩ := bodyR_T hm (by omega) h
        subst b1
        subst b2
        have hC : clC K (j, none, (0, []), (C.length, l)) = l := by unfold clC; rw [if_neg (by show ¬ K j = 8; omega), if_neg (by show ¬ K j = 7; omega)]
        refine ⟨by rw [hC], fun x hx => ?_, b4, by omega⟩
        unfold segC at hx
        rw [hC] at hx
        obtain ⟨y, hy, rfl⟩ := List.mem_map.mp (show x ∈ l.map (fun x => x.2.2.2) from hx)
        have := b3 y hy
        omega
    · cases h
  · cases h
/-- all that is read: its code, and its order -/
theorem pG_T {U : Nat → Int32} (hm : ∀ j, j ≤ m → K j ≠ 29 → j < m) : ∀ (r lev j : Nat) (C : List oT) (Q : List qPr) (c : qPr) (s : qSt) (F : List qPr) (j' : Nat) (C' : List oT), j ≤ m → tInv K (full lev Q c s) C j → pG K U r lev j C Q c s = (some F, j', C') → tInv K F C' j' := by
  intro r
  induction r with
  | zero => intro lev j C Q c s F j' C' _ _ h; cases h
  | succ r ih =>
    intro lev j C Q c s F j' C' hj hI h
    match lev with
    | 0 =>
      unfold pG at h
      split at h
      · cases h; exact hI
      · rcases hh : pHd K U (nPr Q) C j with ⟨o, j1, C1⟩
        rw [hh] at h
        cases o with
        | none => cases h
        | some c1 =>
          obtain ⟨l, a1, a2, a3, a4, a5, a6⟩ := pHd_T hm hj hh
          refine ih 1 j1 C1 Q c1 s F j' C' a5 ?_ h
          rw [a1]
          refine tInv_add (F := Q) (sg := l.map (fun x => x.2.2.2)) hI ?_ ?_ (fun x hx => ?_) a6
          · show (Q ++ [c1]).flatMap (codP K) = _
            rw [List.flatMap_append]
            simp [codP, a2, a3]
          · show (Q ++ [c1]).flatMap (segP K) = _
            rw [List.flatMap_append]
            simp [segP, a2, a3]
          · obtain ⟨y, hy, rfl⟩ := List.mem_map.mp hx
            exact a4 y hy
    | 1 =>
      unfold pG at h
      split at h
      · next e0 =>
        have h0 := hm j hj (by rw [e0]; decide)
        exact ih 0 (j + 1) C (Q ++ [c]) c s F j' C' (by omega) (tInv_up hI (by omega)) h
      · split at h
        · next e0 =>
          have h0 := hm j hj (by rw [e0]; decide)
          split at h
          · next e1 =>
            have h1 := hm (j + 1) (by omega) (by rw [e1]; decide)
            split at h
            · next e2 =>
              have h2 := hm (j + 2) (by omega) (by rw [e2]; decide)
              refine ih 2 (j + 3) C Q c (j + 1, []) F j' C' (by omega) ?_ h
              have hI2 : tInv K (Q ++ [c]) C (j + 3) := tInv_up hI (by omega)
              show tInv K (Q ++ [(c.1, c.2.1, c.2.2.1, c.2.2.2 ++ [(j + 1, [])])]) C (j + 3)
              have e3 : (Q ++ [(c.1, c.2.1, c.2.2.1, c.2.2.2 ++ [(j + 1, [])])]).flatMap (codP K) = (Q ++ [c]).flatMap (codP K) := by
                rw [List.flatMap_append, List.flatMap_append]; simp [codP]
              have e4 : (Q ++ [(c.1, c.2.1, c.2.2.1, c.2.2.2 ++ [(j + 1, [])])]).flatMap (segP K) = (Q ++ [c]).flatMap (segP K) := by
                rw [List.flatMap_append, List.flatMap_append]; simp [segP]
              unfold tInv
              rw [e3, e4]
              exact hI2
            · cases h
          · cases h
        · cases h
    | lev + 2 =>
      unfold pG at h
      split at h
      · next e0 =>
        have h0 := hm j hj (by rw [e0]; decide)
        exact ih 1 (j + 1) C Q (c.1, c.2.1, c.2.2.1, c.2.2.2 ++ [s]) s F j' C' (by omega) (tInv_up hI (by omega)) h
      · rcases hh : pCs K (nPr Q) C j with ⟨o, j1, C1⟩
        rw [hh] at h
        cases o with
        | none => cases h
        | some cl =>
          obtain ⟨a1, a2, a3, a4⟩ := pCs_T hm hj hh
          refine ih 2 j1 C1 Q c (s.1, s.2 ++ [cl]) F j' C' a3 ?_ h
          rw [a1]
          refine tInv_add (F := Q ++ [(c.1, c.2.1, c.2.2.1, c.2.2.2 ++ [s])]) (sg := segC K cl) hI ?_ ?_ a2 a4
          · show (Q ++ [(c.1, c.2.1, c.2.2.1, c.2.2.2 ++ [(s.1, s.2 ++ [cl])])]).flatMap (codP K) = _
            rw [List.flatMap_append, List.flatMap_append]; simp [codP]
          · show (Q ++ [(c.1, c.2.1, c.2.2.1, c.2.2.2 ++ [(s.1, s.2 ++ [cl])])]).flatMap (segP K) = _
            rw [List.flatMap_append, List.flatMap_append]; simp [segP]
end PGT
