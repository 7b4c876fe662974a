/-! what a text says holds together: processes, states, clauses -/
def slc (C : List oT) (b : Nat × List oT) : Prop := ∃ pre post, C = pre ++ b.2 ++ post ∧ b.1 = pre.length
theorem slc_ap {C l : List oT} {b : Nat × List oT} (h : slc C b) : slc (C ++ l) b := by
  obtain ⟨pre, post, h1, h2⟩ := h
  exact ⟨pre, post ++ l, by rw [h1, List.append_assoc, List.append_assoc], h2⟩
theorem slc_new {C l : List oT} : slc (C ++ l) (C.length, l) := ⟨C, [], by simp, rfl⟩
section SV
variable (K : Nat → Nat) (m : Nat) (C : List oT) (pr : Nat)
def opL (l : List oT) : Prop := ∀ x, x ∈ l → opV K pr x ∧ x.2.2.2 ≤ m
def cV (cl : qCl) : Prop := 5 ≤ K cl.1 ∧ K cl.1 ≤ 9 ∧ cl.1 ≤ m ∧ (K cl.1 ≤ 7 → K (cl.1 + 1) = 26 ∧ cl.1 + 1 ≤ m) ∧ (∀ v, cl.2.1 = some v → K v = 26 ∧ v ≤ m) ∧ (K cl.1 = 8 → slc C cl.2.2.1 ∧ opL K m pr cl.2.2.1.2) ∧ (K cl.1 ≠ 7 → slc C cl.2.2.2 ∧ opL K m pr cl.2.2.2.2)
def sV (s : qSt) : Prop := K s.1 = 26 ∧ s.1 ≤ m ∧ ∀ cl, cl ∈ s.2 → cV K m C pr cl
def prV (c : qPr) : Prop := K c.1 = 26 ∧ c.1 ≤ m ∧ (∀ v, v ∈ c.2.1 → K v = 26 ∧ v ≤ m) ∧ slc C c.2.2.1 ∧ opL K m pr c.2.2.1.2 ∧ ∀ s, s ∈ c.2.2.2 → sV K m C pr s
def FV (F : List qPr) : Prop := ∀ p c, F[p]? = some c → prV K m C (min p 5) c
def CV (k : Nat) : Prop := ∀ x, x ∈ C → ∃ pr, pr < k ∧ opV K pr x ∧ x.2.2.2 ≤ m
end SV
section SVL
variable {K : Nat → Nat} {m : Nat} {C l : List oT} {pr : Nat}
theorem cV_ap {cl : qCl} (h : cV K m C pr cl) : cV K m (C ++ l) pr cl := ⟨h.1, h.2.1, h.2.2.1, h.2.2.2.1, h.2.2.2.2.1, fun z => ⟨slc_ap (h.2.2.2.2.2.1 z).1, (h.2.2.2.2.2.1 z).2⟩, fun z => ⟨slc_ap (h.2.2.2.2.2.2 z).1, (h.2.2.2.2.2.2 z).2⟩⟩
theorem sV_ap {s : qSt} (h : sV K m C pr s) : sV K m (C ++ l) pr s := ⟨h.1, h.2.1, fun cl hc => cV_ap (h.2.2 cl hc)⟩
theorem prV_ap {c : qPr} (h : prV K m C pr c) : prV K m (C ++ l) pr c := ⟨h.1, h.2.1, h.2.2.1, slc_ap h.2.2.2.1, h.2.2.2.2.1, fun s hs => sV_ap (h.2.2.2.2.2 s hs)⟩
theorem FV_ap {F : List qPr} (h : FV K m C F) : FV K m (C ++ l) F := fun p c hc => prV_ap (h p c hc)
theorem CV_ap {k k' : Nat} (h : CV K m C k) (hk : k ≤ k') (hp : pr < k') (hl : opL K m pr l) : CV K m (C ++ l) k' := fun x hx => by
  rcases List.mem_append.mp hx with hx | hx
  · obtain ⟨p, h1, h2⟩ := h x hx
    exact ⟨p, by omega, h2⟩
  · exact ⟨pr, hp, hl x hx⟩
theorem bodyR_V {β : Type} {f : Nat × List oT → β} {j j' : Nat} {C' : List oT} {x : β} (hm : ∀ j, j ≤ m → K j ≠ 29 → j < m) (hj : j ≤ m) (h : bodyR K pr C j f = (some x, j', C')) : ∃ l, C' = C ++ l ∧ x = f (C.length, l) ∧ opL K m pr l ∧ j' ≤ m ∧ j ≤ j' := by
  unfold bodyR at h
  have o := bO_ok (pr := pr) hm (L := C.length) hj
  have a := bO_al (pr := pr) hm (L := C.length) hj
  rcases hb : bO K pr C.length j with ⟨o1, j1⟩
  rw [hb] at h o a
  cases o1 with
  | none => cases h
  | some l =>
    cases h
    obtain ⟨o1, o2, o3⟩ := o
    obtain ⟨o4, o5⟩ := o3 l rfl
    refine ⟨l, rfl, rfl, fun x hx => ⟨a l rfl x hx, ?_⟩, o2, o1⟩
    have := o5 x hx
    simp only at this o2
    omega
theorem pLs_V (hm : ∀ j, j ≤ m → K j ≠ 29 → j < m) : ∀ (r : Nat) (vs : List Nat) (j : Nat) (vs' : List Nat) (j' : Nat), j ≤ m → (∀ v, v ∈ vs → K v = 26 ∧ v ≤ m) → pLs K r vs j = (some vs', j') → (∀ v, v ∈ vs' → K v = 26 ∧ v ≤ m) ∧ j' ≤ m ∧ j ≤ j' := by
  intro r
  induction r with
  | zero => intro vs j vs' j' hj h e; cases e; exact ⟨h, hj, Nat.le_refl _⟩
  | succ r ih =>
    intro vs j vs' j' hj h e
    unfold pLs at e
    split at e
    · next e0 =>
      have h0 := hm j hj (by rw [e0]; decide)
      split at e
      · next e1 =>
        have h1 := hm (j + 1) (by omega) (by rw [e1]; decide)
        split at e
        · next e2 =>
          have h2 := hm (j + 2) (by omega) (by rw [e2]; decide)
          split at e
          · next e3 =>
            have h3 := hm (j + 3) (by omega) (by rw [e3]; decide)
            split at e
            · next e4 =>
              have h4 := hm (j + 4) (by omega) (by rw [e4]; decide)
              have := ih _ _ _ _ (by omega) (fun v hv => by
                rcases List.mem_append.mp hv with hv | hv
                · exact h v hv
                · have : v = j + 1 := by simpa using hv
                  rw [this]; exact ⟨e1, by omega⟩) e
              exact ⟨this.1, this.2.1, by omega⟩
            · cases e
          · cases e
        · cases e
      · cases e
    · cases e; exact ⟨h, hj, Nat.le_refl _⟩
theorem pHd_V {U : Nat → Int32} (hm : ∀ j, j ≤ m → K j ≠ 29 → j < m) {j j' : Nat} {C' : List oT} {c : qPr} (hj : j ≤ m) (h : pHd K U pr C j = (some c, j', C')) : ∃ l, C' = C ++ l ∧ opL K m pr l ∧ prV K m C' pr c ∧ c.2.2.2 = [] ∧ j' ≤ m := by
  unfold pHd at h
  split at h
  · next e0 =>
    have h0 := hm j hj (by rw [e0]; decide)
    split at h
    · next e1 =>
      have h1 := hm (j + 1) (by omega) (by rw [e1]; decide)
      split at h
      · next e2 =>
        have h2 := hm (j + 2) (by omega) (by rw [e2]; decide)
        split at h
        · next e3 =>
          have h3 := hm (j + 3) (by omega) (by rw [e3.1]; decide)
          split at h
          · next e4 =>
            have h4 := hm (j + 4) (by omega) (by rw [e4]; decide)
            split at h
            · next e5 =>
              have h5 := hm (j + 5) (by omega) (by rw [e5]; decide)
              rcases hl : pLs K 2001 [] (j + 6) with ⟨o, jl⟩
              rw [hl] at h
              cases o with
              | none => cases h
              | some vs =>
                obtain ⟨v1, v2, v3⟩ := pLs_V hm 2001 [] (j + 6) vs jl (by omega) (by simp) hl
                simp only at h
                split at h
                · next e6 =>
                  have h6 := hm jl v2 (by rw [e6]; decide)
                  obtain ⟨l, b1, b2, b3, b4, b5⟩ := bodyR_V hm (by omega) h
                  subst b1
                  subst b2
                  exact ⟨l, rfl, b3, ⟨e1, by omega, v1, slc_new, b3, fun s hs => by cases hs⟩, rfl, b4⟩
                · cases h
            · cases h
          · cases h
        · cases h
      · cases h
    · cases h
  · cases h
theorem pCs_V (hm : ∀ j, j ≤ m → K j ≠ 29 → j < m) {j j' : Nat} {C' : List oT} {cl : qCl} (hj : j ≤ m) (h : pCs K pr C j = (some cl, j', C')) : ∃ l, C' = C ++ l ∧ opL K m pr l ∧ cV K m C' pr cl ∧ j' ≤ m := by
  unfold pCs at h
  split at h
  · next e0 =>
    have h0 := hm j hj (by rw [e0]; decide)
    obtain ⟨l, b1, b2, b3, b4, b5⟩ := bodyR_V hm (by omega) h
    subst b1
    subst b2
    refine ⟨l, rfl, b3, ⟨by show 5 ≤ K j; omega, by show K j ≤ 9; omega, by show j ≤ m; omega, fun z => ?_, (fun v hv => by cases hv), fun z => ?_, fun _ => ⟨slc_new, b3⟩⟩, b4⟩
    · have z : K j ≤ 7 := z
      omega
    · have z : K j = 8 := z
      omega
  split at h
  · next e0 =>
    have h0 := hm j hj (by rw [e0]; decide)
    have ox := xB_ok (pr := pr) hm 8 (j + 1) (by omega)
    have ax := xB_al (K := K) (pr := pr) (g := 8) (j := j + 1)
    rcases hx : xB K pr 8 (j + 1) with ⟨o, jx⟩
    rw [hx] at h ox ax
    cases o with
    | none => cases h
    | some lx =>
      obtain ⟨o1, o2, o3⟩ := ox
      obtain ⟨o4, o5⟩ := o3 lx rfl
      simp only at o1 o2 o4 o5 h
      obtain ⟨l, b1, b2, b3, b4, b5⟩ := bodyR_V hm o2 h
      subst b1
      subst b2
      have hx2 : opL K m pr (lx ++ [oz pr 28 (jx - 1)]) := fun x hx => by
        rcases List.mem_append.mp hx with hx | hx
        · exact ⟨ax lx rfl x hx, by have := o5 x hx; omega⟩
        · have : x = oz pr 28 (jx - 1) := by simpa using hx
          rw [this]
          exact ⟨oz_V (by omega) (by omega), by show jx - 1 ≤ m; omega⟩
      refine ⟨(lx ++ [oz pr 28 (jx - 1)]) ++ l, by rw [List.append_assoc], fun x hx => ?_, ⟨by show 5 ≤ K j; omega, by show K j ≤ 9; omega, by show j ≤ m; omega, fun z => ?_, (fun v hv => by cases hv), fun _ => ⟨slc_ap slc_new, hx2⟩, fun _ => ⟨slc_new, b3⟩⟩, b4⟩
      · rcases List.mem_append.mp hx with hx | hx
        · exact hx2 x hx
        · exact b3 x hx
      · have z : K j ≤ 7 := z
        omega
  split at h
  · next e0 =>
    have h0 := hm j hj (by rw [e0]; decide)
    split at h
    · next e1 =>
      have h1 := hm (j + 1) (by omega) (by rw [e1]; decide)
      split at h
      · next e2 =>
        have h2 := hm (j + 2) (by omega) (by rw [e2]; decide)
        cases h
        refine ⟨[], by simp, (fun x hx => by cases hx), ⟨by show 5 ≤ K j; omega, by show K j ≤ 9; omega, by show j ≤ m; omega, fun _ => ⟨e1, by show j + 1 ≤ m; omega⟩, (fun v hv => by cases hv), fun z => ?_, fun z => absurd e0 z⟩, by omega⟩
        have z : K j = 8 := z
        omega
      · cases h
    · cases h
  split at h
  · next e0 =>
    have h0 := hm j hj (by omega)
    split at h
    · next e1 =>
      have h1 := hm (j + 1) (by omega) (by rw [e1]; decide)
      split at h
      · next e2 =>
        have h2 := hm (j + 2) (by omega) (by rw [e2]; decide)
        split at h
        · next e3 =>
          have h3 := hm (j + 3) (by omega) (by rw [e3]; decide)
          split at h
          · next e4 =>
            have h4 := hm (j + 4) (by omega) (by rw [e4]; decide)
            obtain ⟨l, b1, b2, b3, b4, b5⟩ := bodyR_V hm (by omega) h
            subst b1
            subst b2
            refine ⟨l, rfl, b3, ⟨by show 5 ≤ K j; omega, by show K j ≤ 9; omega, by show j ≤ m; omega, fun _ => ⟨e1, by show j + 1 ≤ m; omega⟩, fun v hv => ?_, fun z => ?_, fun _ => ⟨slc_new, b3⟩⟩, b4⟩
            · cases hv; exact ⟨e3, by omega⟩
            · have z : K j = 8 := z
              omega
          · cases h
        · cases h
      · obtain ⟨l, b1, b2, b3, b4, b5⟩ := bodyR_V hm (by omega) h
        subst b1
        subst b2
        refine ⟨l, rfl, b3, ⟨by show 5 ≤ K j; omega, by show K j ≤ 9; omega, by show j ≤ m; omega, fun _ => ⟨e1, by show j + 1 ≤ m; omega⟩, (fun v hv => by cases hv), fun z => ?_, fun _ => ⟨slc_new, b3⟩⟩, b4⟩
        have z : K j = 8 := z
        omega
    · cases h
  · cases h
/-- all that is read holds together -/
theorem pG_V {U : Nat → Int32} (hm : ∀ j, j ≤ m → K j ≠ 29 → j < m) : ∀ (r lev j : Nat) (C : List oT) (Q : List qPr) (c : qPr) (s : qSt) (F : List qPr) (j' : Nat) (C' : List oT), j ≤ m → lev ≤ 2 → FV K m C Q → (1 ≤ lev → prV K m C (nPr Q) c) → (lev = 2 → sV K m C (nPr Q) s) → CV K m C (Q.length + min lev 1) → pG K U r lev j C Q c s = (some F, j', C') → FV K m C' F ∧ CV K m C' F.length ∧ j' ≤ m ∧ K j' = 29 := by
  intro r
  induction r with
  | zero => intro lev j C Q c s F j' C' _ _ _ _ _ _ e; cases e
  | succ r ih =>
    intro lev j C Q c s F j' C' hj hlev hQ hc hs hC e
    have hpl : nPr Q < Q.length + 1 := by unfold nPr; omega
    match lev, hlev, hc, hs, hC, e with
    | 0, _, hc, hs, hC, e =>
      unfold pG at e
      split at e
      · next e0 =>
        cases e
        exact ⟨hQ, by simpa using hC, hj, e0⟩
      · rcases hh : pHd K U (nPr Q) C j with ⟨o, j1, C1⟩
        rw [hh] at e
        cases o with
        | none => cases e
        | some c1 =>
          obtain ⟨l, b1, b2, b3, b4, b5⟩ := pHd_V hm hj hh
          subst b1
          exact ih 1 j1 _ Q c1 s F j' C' b5 (by omega) (FV_ap hQ) (fun _ => b3) (fun z => by omega) (CV_ap hC (by omega) (by simp; omega) b2) e
    | 1, _, hc, hs, hC, e =>
      unfold pG at e
      split at e
      · next e0 =>
        have := hm j hj (by rw [e0]; decide)
        refine ih 0 (j + 1) C (Q ++ [c]) c s F j' C' (by omega) (by omega) ?_ (fun z => by omega) (fun z => by omega) (by simpa using hC) e
        intro p x hx
        rcases Nat.lt_or_ge p Q.length with hp | hp
        · rw [List.getElem?_append_left hp] at hx
          exact hQ p x hx
        · rw [List.getElem?_append_right hp] at hx
          have hp0 := lt_some hx
          simp at hp0
          rw [show p - Q.length = 0 by omega] at hx
          simp at hx
          subst hx
          have hpe : min p 5 = nPr Q := by unfold nPr; omega
          rw [hpe]
          exact hc (by omega)
      · split at e
        · next e0 =>
          have h0 := hm j hj (by rw [e0]; decide)
          split at e
          · next e1 =>
            have h1 := hm (j + 1) (by omega) (by rw [e1]; decide)
            split at e
            · next e2 =>
              have h2 := hm (j + 2) (by omega) (by rw [e2]; decide)
              exact ih 2 (j + 3) C Q c (j + 1, []) F j' C' (by omega) (by omega) hQ (fun _ => hc (by omega)) (fun _ => ⟨e1, by show j + 1 ≤ m; omega, fun cl hcl => by cases hcl⟩) (by simpa using hC) e
            · cases e
          · cases e
        · cases e
    | 2, _, hc, hs, hC, e =>
      unfold pG at e
      split at e
      · next e0 =>
        have := hm j hj (by rw [e0]; decide)
        refine ih 1 (j + 1) C Q _ s F j' C' (by omega) (by omega) hQ (fun _ => ?_) (fun z => by omega) (by simpa using hC) e
        obtain ⟨a1, a2, a3, a4, a5, a6⟩ := hc (by omega)
        refine ⟨a1, a2, a3, a4, a5, fun x hx => ?_⟩
        rcases List.mem_append.mp hx with hx | hx
        · exact a6 x hx
        · have : x = s := by simpa using hx
          rw [this]; exact hs rfl
      · rcases hh : pCs K (nPr Q) C j with ⟨o, j1, C1⟩
        rw [hh] at e
        cases o with
        | none => cases e
        | some cl =>
          obtain ⟨l, b1, b2, b3, b4⟩ := pCs_V hm hj hh
          subst b1
          refine ih 2 j1 _ Q c _ F j' C' b4 (by omega) (FV_ap hQ) (fun _ => prV_ap (hc (by omega))) (fun _ => ?_) (CV_ap hC (by omega) (by simp; omega) b2) e
          obtain ⟨a1, a2, a3⟩ := sV_ap (l := l) (hs rfl)
          refine ⟨a1, a2, fun x hx => ?_⟩
          rcases List.mem_append.mp hx with hx | hx
          · exact a3 x hx
          · have : x = cl := by simpa using hx
            rw [this]; exact b3
    | lev + 3, hlev, _, _, _, _ => exact absurd hlev (by omega)
theorem CV_lk {F : List qPr} (hm2 : m ≤ 2000) (h : CV K m C F.length) : ∀ x, x ∈ C → lkW F x ∧ x.2.2.2 < 2 ^ 31 := fun x hx => by
  obtain ⟨p, h1, ⟨v1, v2, v3, v4, v5⟩, h3⟩ := h x hx
  exact ⟨⟨v1, fun z => ⟨_, p, (v2 z).1, (v2 z).2.1, h1⟩, fun z => ⟨_, (v3 z).1⟩, fun z => ⟨_, (v4 z).1⟩⟩, by have : x.2.2.2 ≤ 2000 := Nat.le_trans h3 hm2; exact Nat.lt_of_le_of_lt this (by decide)⟩
end SVL
