/-! only numbers and names matter -/
section PGU
variable {K : Nat → Nat} {m pr : Nat} {C : List oT} {U U' : Nat → Int32}
theorem pHd_U (hm : ∀ j, j ≤ m → K j ≠ 29 → j < m) (hU : ∀ j, j ≤ m → K j = 27 → U j = U' j) {j : Nat} (hj : j ≤ m) : pHd K U pr C j = pHd K U' pr C j := by
  unfold pHd
  by_cases e0 : K j = 1
  · have h0 := hm j hj (by rw [e0]; decide)
    rw [if_pos e0, if_pos e0]
    by_cases e1 : K (j + 1) = 26
    · have h1 := hm (j + 1) (by omega) (by rw [e1]; decide)
      rw [if_pos e1, if_pos e1]
      by_cases e2 : K (j + 2) = 40
      · have h2 := hm (j + 2) (by omega) (by rw [e2]; decide)
        rw [if_pos e2, if_pos e2]
        by_cases e3 : K (j + 3) = 27
        · rw [hU (j + 3) (by omega) e3]
        · rw [if_neg (fun z => e3 z.1), if_neg (fun z => e3 z.1)]
      · rw [if_neg e2, if_neg e2]
    · rw [if_neg e1, if_neg e1]
  · rw [if_neg e0, if_neg e0]
theorem pG_U (hm : ∀ j, j ≤ m → K j ≠ 29 → j < m) (hU : ∀ j, j ≤ m → K j = 27 → U j = U' j) : ∀ (r lev j : Nat) (C : List oT) (Q : List qPr) (c : qPr) (s : qSt), j ≤ m → pG K U r lev j C Q c s = pG K U' r lev j C Q c s := by
  intro r
  induction r with
  | zero => intro lev j C Q c s _; rfl
  | succ r ih =>
    intro lev j C Q c s hj
    match lev with
    | 0 =>
      unfold pG
      by_cases e0 : K j = 29
      · rw [if_pos e0, if_pos e0]
      · rw [if_neg e0, if_neg e0, pHd_U (U' := U') hm hU hj]
        rcases hh : pHd K U' (nPr Q) C j with ⟨o, j1, C1⟩
        cases o with
        | none => rfl
        | some c1 =>
          obtain ⟨l, a1, a2, a3, a4, a5, a6⟩ := pHd_T hm hj hh
          exact ih 1 j1 C1 Q c1 s a5
    | 1 =>
      unfold pG
      by_cases e0 : K j = 125
      · have h0 := hm j hj (by rw [e0]; decide)
        rw [if_pos e0, if_pos e0]
        exact ih 0 (j + 1) C (Q ++ [c]) c s (by omega)
      · rw [if_neg e0, if_neg e0]
        by_cases e1 : K j = 4
        · have h0 := hm j hj (by rw [e1]; decide)
          rw [if_pos e1, if_pos e1]
          by_cases e2 : K (j + 1) = 26
          · have h1 := hm (j + 1) (by omega) (by rw [e2]; decide)
            rw [if_pos e2, if_pos e2]
            by_cases e3 : K (j + 2) = 123
            · have h2 := hm (j + 2) (by omega) (by rw [e3]; decide)
              rw [if_pos e3, if_pos e3]
              exact ih 2 (j + 3) C Q c (j + 1, []) (by omega)
            · rw [if_neg e3, if_neg e3]
          · rw [if_neg e2, if_neg e2]
        · rw [if_neg e1, if_neg e1]
    | lev + 2 =>
      unfold pG
      by_cases e0 : K j = 125
      · have h0 := hm j hj (by rw [e0]; decide)
        rw [if_pos e0, if_pos e0]
        exact ih 1 (j + 1) C Q (c.1, c.2.1, c.2.2.1, c.2.2.2 ++ [s]) s (by omega)
      · rw [if_neg e0, if_neg e0]
        rcases hh : pCs K (nPr Q) C j with ⟨o, j1, C1⟩
        cases o with
        | none => rfl
        | some cl =>
          obtain ⟨a1, a2, a3, a4⟩ := pCs_T hm hj hh
          exact ih 2 j1 C1 Q c (s.1, s.2 ++ [cl]) a3
end PGU
section EXE
variable {K : Nat → Nat} {m : Nat} {C : List oT} {E E' : Nat → Nat → Bool}
theorem scn_cg {β γ : Type} {f f' : List β → β → List γ} {P : β → Prop} (hf : ∀ seen x, (∀ y, y ∈ seen → P y) → P x → f seen x = f' seen x) : ∀ (xs seen : List β), (∀ y, y ∈ seen → P y) → (∀ y, y ∈ xs → P y) → scn f seen xs = scn f' seen xs := by
  intro xs
  induction xs with
  | nil => intro seen _ _; rfl
  | cons x xs ih =>
    intro seen hs hx
    have hx1 := hx x List.mem_cons_self
    show f seen x ++ scn f (seen ++ [x]) xs = f' seen x ++ scn f' (seen ++ [x]) xs
    rw [hf seen x hs hx1, ih (seen ++ [x]) (fun y hy => by
      rcases List.mem_append.mp hy with hy | hy
      · exact hs y hy
      · rw [List.mem_singleton.mp hy]; exact hx1) (fun y hy => hx y (List.mem_cons_of_mem _ hy))]
theorem any_cg {β : Type} {f g : β → Bool} : ∀ l : List β, (∀ x, x ∈ l → f x = g x) → l.any f = l.any g := by
  intro l
  induction l with
  | nil => intro _; rfl
  | cons x l ih => intro h; rw [List.any_cons, List.any_cons, h x List.mem_cons_self, ih (fun y hy => h y (List.mem_cons_of_mem _ hy))]
/-- a name -/
def nmT (K : Nat → Nat) (m x : Nat) : Prop := K x = 26 ∧ x ≤ m
theorem ckN_E {lim v : Nat} {seen : List Nat} (hE : ∀ x y, nmT K m x → nmT K m y → E x y = E' x y) (hs : ∀ y, y ∈ seen → nmT K m y) (hv : nmT K m v) : ckN E lim seen v = ckN E' lim seen v := by
  unfold ckN
  rw [any_cg seen (fun x hx => hE x v (hs x hx) hv)]
theorem ckC_E {c : qCl} {seen : List qCl} (hE : ∀ x y, nmT K m x → nmT K m y → E x y = E' x y) (hs : ∀ y : qCl, y ∈ seen → K y.1 ≤ 7 → nmT K m (y.1 + 1)) (hv : K c.1 ≤ 7 → nmT K m (c.1 + 1)) : ckC K E seen c = ckC K E' seen c := by
  unfold ckC
  by_cases h7 : K c.1 ≤ 7
  · rw [any_cg (f := fun q => decide (K q.1 ≤ 7) && E (q.1 + 1) (c.1 + 1)) (g := fun q => decide (K q.1 ≤ 7) && E' (q.1 + 1) (c.1 + 1)) seen (fun x hx => by
      by_cases hx7 : K x.1 ≤ 7
      · rw [hE _ _ (hs x hx hx7) (hv h7)]
      · simp [hx7])]
  · rw [if_neg (c := K c.1 ≤ 7 ∧ seen.any (fun q => decide (K q.1 ≤ 7) && E (q.1 + 1) (c.1 + 1)) = true) (fun z => h7 z.1), if_neg (c := K c.1 ≤ 7 ∧ seen.any (fun q => decide (K q.1 ≤ 7) && E' (q.1 + 1) (c.1 + 1)) = true) (fun z => h7 z.1)]
/-- one too much: only names matter -/
theorem exF_E {F : List qPr} (hE : ∀ x y, nmT K m x → nmT K m y → E x y = E' x y) (hF : FV K m C F) : exF K E F = exF K E' F := by
  have hq : ∀ c : qPr, c ∈ F → ∃ p, prV K m C p c := fun c hc => by
    obtain ⟨i, hi⟩ := List.mem_iff_getElem?.mp hc
    exact ⟨_, hF i c hi⟩
  unfold exF xkP
  rw [scn_cg (P := fun c : qPr => ∃ p, prV K m C p c) (fun seen c hs hc => ?_) F [] (fun y hy => by cases hy) hq]
  obtain ⟨p, v1, v2, v3, _, _, v6⟩ := hc
  have h1 : ckN E 6 (seen.map (fun c => c.1)) c.1 = ckN E' 6 (seen.map (fun c => c.1)) c.1 := ckN_E hE (fun y hy => by
    obtain ⟨z, hz, e⟩ := List.mem_map.mp hy
    obtain ⟨p', w⟩ := hs z hz
    rw [← e]; exact ⟨w.1, w.2.1⟩) ⟨v1, v2⟩
  have h2 : xkL E c.2.1 = xkL E' c.2.1 := scn_cg (P := nmT K m) (fun seen v hs hv => by rw [ckN_E hE hs hv]) c.2.1 [] (fun y hy => by cases hy) v3
  have h3 : xkS K E c.2.2.2 = xkS K E' c.2.2.2 := scn_cg (P := fun s : qSt => sV K m C p s) (fun seen s hs hv => by
    have g1 : ckN E 8 (seen.map (fun s => s.1)) s.1 = ckN E' 8 (seen.map (fun s => s.1)) s.1 := ckN_E hE (fun y hy => by
      obtain ⟨z, hz, e⟩ := List.mem_map.mp hy
      rw [← e]; exact ⟨(hs z hz).1, (hs z hz).2.1⟩) ⟨hv.1, hv.2.1⟩
    have g2 : xkC K E s.2 = xkC K E' s.2 := scn_cg (P := fun cl : qCl => K cl.1 ≤ 7 → nmT K m (cl.1 + 1)) (fun seen c hs hv => by rw [ckC_E hE hs hv]) s.2 [] (fun y hy => by cases hy) (fun cl hcl h7 => (hv.2.2 cl hcl).2.2.2.1 h7)
    rw [g1, g2]) c.2.2.2 [] (fun y hy => by cases hy) v6
  rw [h1, h2, h3]
end EXE
