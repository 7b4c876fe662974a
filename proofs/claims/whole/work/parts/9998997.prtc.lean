/-! states and processes moved -/
section SHH
variable {t : Nat → Int32} {N : Nat} {I I' : Nat → Nat → Int32} {nn pr M0 M : Nat} {G : Int32 → Int32} {F : List qPr}
theorem stRl_sf (h : sft M0 M I I') (hn : ∀ u, u < nn → rnm I' u = rnm I u) (hM : M ≤ 2 ^ 20) {hi s : Nat} {q : qSt} (h0 : M0 ≤ s) (hh : hi ≤ M) (hx : stRl t N I nn pr G F hi s q) : stRl t N I' nn pr G F (hi - M0) (s - M0) q := by
  obtain ⟨h1, h2, h3, cs, h4, h5⟩ := hx
  have ha : s < M := by omega
  obtain ⟨g1, g2⟩ := clsRl_ge _ _ _ _ h5
  have e1 : s + 1 - M0 = s - M0 + 1 := by omega
  have i5 := clsRl_sf h hn hM cs _ _ hi (by omega) hh h5
  rw [e1] at i5
  refine ⟨by omega, (sf_c h h0 ha 251 h2 (by omega) (by omega) (by decide)).trans h2, by rw [sf_c h h0 ha 252 h2 (by omega) (by omega) (by decide)]; exact nmA_st hn (Nat.le_refl _) h3, cs.map (fun a => a - M0), ?_, i5⟩
  rw [sf_t h h0 ha 253 h2 (by omega) (by omega) (by decide)]
  exact chn_sf h hM cs _ (fun x hx => ⟨by have := g2 x hx; omega, by have := g2 x hx; omega⟩) h4
theorem stsRl_sf (h : sft M0 M I I') (hn : ∀ u, u < nn → rnm I' u = rnm I u) (hM : M ≤ 2 ^ 20) : ∀ (cs : List Nat) (qs : List qSt) (lo hi : Nat), M0 ≤ lo → hi ≤ M → stsRl t N I nn pr G F lo cs qs hi → stsRl t N I' nn pr G F (lo - M0) (cs.map (fun a => a - M0)) qs (hi - M0) := by
  intro cs
  induction cs with
  | nil =>
    intro qs lo hi h1 h2 hx
    cases qs with
    | nil => have hx' : lo ≤ hi := hx; show lo - M0 ≤ hi - M0; omega
    | cons q qs => exact hx.elim
  | cons c cs ih =>
    intro qs lo hi h1 h2 hx
    cases qs with
    | nil => exact hx.elim
    | cons q qs =>
      obtain ⟨k, k1, k2, k3⟩ := hx
      obtain ⟨g1, g2⟩ := stsRl_ge _ _ _ _ k3
      have := k2.1
      show stsRl t N I' nn pr G F (lo - M0) ((c - M0) :: cs.map (fun a => a - M0)) (q :: qs) (hi - M0)
      exact ⟨k - M0, by omega, stRl_sf h hn hM (by omega) (by omega) k2, ih qs k hi (by omega) h2 k3⟩
theorem ltsR_sf (h : sft M0 M I I') (hn : ∀ u, u < nn → rnm I' u = rnm I u) : ∀ (cs : List Nat) (qs : List Nat) (lo hi : Nat), M0 ≤ lo → hi ≤ M → ltsR t N I nn lo cs qs hi → ltsR t N I' nn (lo - M0) (cs.map (fun a => a - M0)) qs (hi - M0) := by
  intro cs
  induction cs with
  | nil =>
    intro qs lo hi h1 h2 hx
    cases qs with
    | nil => have hx' : lo ≤ hi := hx; show lo - M0 ≤ hi - M0; omega
    | cons q qs => exact hx.elim
  | cons c cs ih =>
    intro qs lo hi h1 h2 hx
    cases qs with
    | nil => exact hx.elim
    | cons q qs =>
      obtain ⟨k1, k2, k3, k4, k5, k6, k7, k8⟩ := hx
      have h0 : M0 ≤ c := by omega
      have ha : c < M := by omega
      have i8 := ih qs (c + 1) hi (by omega) h2 k8
      rw [show c + 1 - M0 = c - M0 + 1 by omega] at i8
      show ltsR t N I' nn (lo - M0) ((c - M0) :: cs.map (fun a => a - M0)) (q :: qs) (hi - M0)
      exact ⟨by omega, by omega, (sf_c h h0 ha 251 k3 (by omega) (by omega) (by decide)).trans k3, by rw [sf_c h h0 ha 252 k3 (by omega) (by omega) (by decide)]; exact nmA_st hn (Nat.le_refl _) k4, k5, (sf_c h h0 ha 253 k3 (by omega) (by omega) (by decide)).trans k6, (sf_c h h0 ha 256 k3 (by omega) (by omega) (by decide)).trans k7, i8⟩
theorem ltsR_gel : ∀ (cs : List Nat) (qs : List Nat) (lo hi : Nat), ltsR t N I nn lo cs qs hi → lo ≤ hi ∧ ∀ c, c ∈ cs → lo ≤ c ∧ c < hi := by
  intro cs
  induction cs with
  | nil =>
    intro qs lo hi hx
    cases qs with
    | nil => exact ⟨hx, fun c hc => by cases hc⟩
    | cons q qs => exact hx.elim
  | cons c cs ih =>
    intro qs lo hi hx
    cases qs with
    | nil => exact hx.elim
    | cons q qs =>
      obtain ⟨k1, k2, k3, k4, k5, k6, k7, k8⟩ := hx
      obtain ⟨g1, g2⟩ := ih qs (c + 1) hi k8
      refine ⟨by omega, fun x hx => ?_⟩
      rcases List.mem_cons.mp hx with e | e
      · omega
      · have := g2 x e; omega
theorem prRl_sf (h : sft M0 M I I') (hn : ∀ u, u < nn → rnm I' u = rnm I u) (hM : M ≤ 2 ^ 20) {hi p : Nat} {q : qPr} (h0 : M0 ≤ p) (hh : hi ≤ M) (hx : prRl t N I nn pr F hi p q) : prRl t N I' nn pr F (hi - M0) (p - M0) q := by
  obtain ⟨h1, h2, h3, h4, h5, G, ls, x, ss, k, k1, k2, k3, k4, k5, k6, k7⟩ := hx
  have ha : p < M := by omega
  obtain ⟨g1, g2⟩ := ltsR_gel _ _ _ _ k3
  obtain ⟨g3, g4⟩ := stsRl_ge _ _ _ _ k7
  have g5 := k5.1
  have i3 := ltsR_sf h hn ls _ _ x (by omega) (by omega) k3
  rw [show p + 1 - M0 = p - M0 + 1 by omega] at i3
  refine ⟨by omega, (sf_c h h0 ha 251 h2 (by omega) (by omega) (by decide)).trans h2, by rw [sf_c h h0 ha 252 h2 (by omega) (by omega) (by decide)]; exact nmA_st hn (Nat.le_refl _) h3, (sf_c h h0 ha 257 h2 (by omega) (by omega) (by decide)).trans h4, h5, G, ls.map (fun a => a - M0), x - M0, ss.map (fun a => a - M0), k - M0, ?_, ?_, i3, ?_, bkRl_sf h hn hM (by omega) (by omega) k5, ?_, stsRl_sf h hn hM ss _ k hi (by omega) hh k7⟩
  · intro x j hj
    exact k1 x j (nmA_st (fun u hu => (hn u hu).symm) (Nat.le_refl _) hj)
  · rw [sf_t h h0 ha 253 h2 (by omega) (by omega) (by decide)]
    exact chn_sf h hM ls _ (fun x hx => ⟨by have := g2 x hx; omega, by have := g2 x hx; omega⟩) k2
  · exact sf_f h hM h0 ha 258 h2 (by omega) (by omega) (by decide) k4 (by omega) (by omega)
  · rw [sf_t h h0 ha 254 h2 (by omega) (by omega) (by decide)]
    exact chn_sf h hM ss _ (fun x hx => ⟨by have := g4 x hx; omega, by have := g4 x hx; omega⟩) k6
theorem prsRl_gel : ∀ (cs : List Nat) (qs : List qPr) (i lo hi : Nat), prsRl t N I nn F i lo cs qs hi → lo ≤ hi ∧ ∀ c, c ∈ cs → lo ≤ c ∧ c < hi := by
  intro cs
  induction cs with
  | nil =>
    intro qs i lo hi hx
    cases qs with
    | nil => exact ⟨hx, fun c hc => by cases hc⟩
    | cons q qs => exact hx.elim
  | cons c cs ih =>
    intro qs i lo hi hx
    cases qs with
    | nil => exact hx.elim
    | cons q qs =>
      obtain ⟨k, k1, k2, k3⟩ := hx
      obtain ⟨g1, g2⟩ := ih qs _ k hi k3
      have := k2.1
      refine ⟨by omega, fun x hx => ?_⟩
      rcases List.mem_cons.mp hx with e | e
      · omega
      · have := g2 x e; omega
theorem prsRl_sf (h : sft M0 M I I') (hn : ∀ u, u < nn → rnm I' u = rnm I u) (hM : M ≤ 2 ^ 20) : ∀ (cs : List Nat) (qs : List qPr) (i lo hi : Nat), M0 ≤ lo → hi ≤ M → prsRl t N I nn F i lo cs qs hi → prsRl t N I' nn F i (lo - M0) (cs.map (fun a => a - M0)) qs (hi - M0) := by
  intro cs
  induction cs with
  | nil =>
    intro qs i lo hi h1 h2 hx
    cases qs with
    | nil => have hx' : lo ≤ hi := hx; show lo - M0 ≤ hi - M0; omega
    | cons q qs => exact hx.elim
  | cons c cs ih =>
    intro qs i lo hi h1 h2 hx
    cases qs with
    | nil => exact hx.elim
    | cons q qs =>
      obtain ⟨k, k1, k2, k3⟩ := hx
      obtain ⟨g1, g2⟩ := prsRl_gel _ _ _ _ _ k3
      have := k2.1
      show prsRl t N I' nn F i (lo - M0) ((c - M0) :: cs.map (fun a => a - M0)) (q :: qs) (hi - M0)
      exact ⟨k - M0, by omega, prRl_sf h hn hM (by omega) (by omega) k2, ih qs _ k hi (by omega) h2 k3⟩
theorem sft_tf : sft M0 M I (tfI M0 (M - M0) I) := by
  intro c i c1 c2 h1 h2
  unfold tfI
  rw [if_pos (by omega), show i - M0 + M0 = i by omega]
theorem rnm_tf {u : Nat} : rnm (tfI M0 (M - M0) I) u = rnm I u := rnm_e (fun c i c1 c2 => tfI_n (by omega))
end SHH
