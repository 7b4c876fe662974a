/-! what is looked up: only names matter -/
section LKE
variable {K : Nat → Nat} {m : Nat} {C : List oT} {E E' : Nat → Nat → Bool} {F : List qPr}
theorem fi_cg {β : Type} {f g : β → Bool} : ∀ l : List β, (∀ x, x ∈ l → f x = g x) → l.findIdx? f = l.findIdx? g := by
  intro l
  induction l with
  | nil => intro _; rfl
  | cons x l ih => intro h; rw [List.findIdx?_cons, List.findIdx?_cons, h x List.mem_cons_self, ih (fun y hy => h y (List.mem_cons_of_mem _ hy))]
theorem lkO_E (hE : ∀ x y, nmT K m x → nmT K m y → E x y = E' x y) (hF : FV K m C F) {pr : Nat} {x : oT} (hx : opV K pr x) (hm : x.2.2.2 ≤ m) : lkO E F x = lkO E' F x := by
  obtain ⟨_, o1, o2, o3, _⟩ := hx
  unfold lkO
  by_cases h1 : x.1 = 1 ∨ x.1 = 13
  · rw [if_pos h1, if_pos h1]
    obtain ⟨q1, q2, q3⟩ := o1 (by omega)
    rw [q1, q2]
    show some (fdVar E F (ix (nI pr)) x.2.2.2) = some (fdVar E' F (ix (nI pr)) x.2.2.2)
    unfold fdVar
    cases hc : F[ix (nI pr)]? with
    | none => rfl
    | some c =>
      have hv := hF _ c hc
      simp only
      rw [fi_cg c.2.1 (fun y hy => hE y _ (hv.2.2.1 y hy) ⟨q3, hm⟩)]
  rw [if_neg h1, if_neg h1]
  by_cases h2 : x.1 = 19
  · rw [if_pos h2, if_pos h2]
    obtain ⟨q1, q3⟩ := o3 h2
    rw [q1]
    show some (fdPro E F x.2.2.2) = some (fdPro E' F x.2.2.2)
    unfold fdPro
    rw [fi_cg F (fun c hc => by
      obtain ⟨i, hi⟩ := List.mem_iff_getElem?.mp hc
      exact hE _ _ ⟨(hF i c hi).1, (hF i c hi).2.1⟩ ⟨q3, hm⟩)]
  rw [if_neg h2, if_neg h2]
  by_cases h3 : x.1 = 22
  · rw [if_pos h3, if_pos h3]
    obtain ⟨q1, q3⟩ := o2 h3
    rw [q1]
    show some (fdPro E F x.2.2.2) = some (fdPro E' F x.2.2.2)
    unfold fdPro
    rw [fi_cg F (fun c hc => by
      obtain ⟨i, hi⟩ := List.mem_iff_getElem?.mp hc
      exact hE _ _ ⟨(hF i c hi).1, (hF i c hi).2.1⟩ ⟨q3, hm⟩)]
  rw [if_neg h3, if_neg h3]
  by_cases h4 : x.1 = 23
  · rw [if_pos h4, if_pos h4]
    obtain ⟨q1, q2, q3⟩ := o1 (by omega)
    rw [q1, q2]
    show some (fdSta E F (ix (nI pr)) x.2.2.2) = some (fdSta E' F (ix (nI pr)) x.2.2.2)
    unfold fdSta
    cases hc : F[ix (nI pr)]? with
    | none => rfl
    | some c =>
      have hv := hF _ c hc
      simp only
      rw [fi_cg c.2.2.2 (fun s hs => hE _ _ ⟨(hv.2.2.2.2.2 s hs).1, (hv.2.2.2.2.2 s hs).2.1⟩ ⟨q3, hm⟩)]
  · rw [if_neg h4, if_neg h4]
theorem ukO_E (hE : ∀ x y, nmT K m x → nmT K m y → E x y = E' x y) (hF : FV K m C F) {pr : Nat} {x : oT} (hx : opV K pr x) (hm : x.2.2.2 ≤ m) : ukO E F x = ukO E' F x := by
  unfold ukO
  rw [lkO_E hE hF hx hm]
theorem flat_cg {β γ : Type} {f g : β → List γ} : ∀ l : List β, (∀ x, x ∈ l → f x = g x) → l.flatMap f = l.flatMap g := by
  intro l
  induction l with
  | nil => intro _; rfl
  | cons x l ih => intro h; rw [List.flatMap_cons, List.flatMap_cons, h x List.mem_cons_self, ih (fun y hy => h y (List.mem_cons_of_mem _ hy))]
theorem unF_E (hE : ∀ x y, nmT K m x → nmT K m y → E x y = E' x y) (hF : FV K m C F) : unF E F = unF E' F := by
  unfold unF
  rw [flat_cg F (fun c hc => ?_)]
  obtain ⟨i, hi⟩ := List.mem_iff_getElem?.mp hc
  obtain ⟨_, _, v3, _, _, v6⟩ := hF i c hi
  unfold uP
  refine flat_cg c.2.2.2 (fun s hs => List.map_congr_left (fun cl hcl => ?_))
  have hv := ((v6 s hs).2.2 cl hcl).2.2.2.2.1
  unfold unC
  cases hq : cl.2.1 with
  | none => rfl
  | some v =>
    simp only
    rw [any_cg c.2.1 (fun y hy => hE y v (v3 y hy) (hv v hq))]
theorem fold_E (hE : ∀ x y, nmT K m x → nmT K m y → E x y = E' x y) (hF : FV K m C F) {k : Nat} (hC : CV K m C k) : C.foldl (fun u x => mnO u (ukO E F x)) (unF E F) = C.foldl (fun u x => mnO u (ukO E' F x)) (unF E' F) := by
  rw [unF_E hE hF]
  have : ∀ (l : List oT) (o : Option Nat), (∀ x, x ∈ l → ukO E F x = ukO E' F x) → l.foldl (fun u x => mnO u (ukO E F x)) o = l.foldl (fun u x => mnO u (ukO E' F x)) o := by
    intro l
    induction l with
    | nil => intro o _; rfl
    | cons x l ih => intro o h; show l.foldl _ (mnO o (ukO E F x)) = l.foldl _ (mnO o (ukO E' F x)); rw [h x List.mem_cons_self]; exact ih _ (fun y hy => h y (List.mem_cons_of_mem _ hy))
  exact this C _ (fun x hx => by
    obtain ⟨pr, _, h1, h2⟩ := hC x hx
    exact ukO_E hE hF h1 h2)
end LKE
