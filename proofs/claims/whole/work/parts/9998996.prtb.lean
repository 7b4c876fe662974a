/-! blocks moved -/
section SHG
variable {t : Nat → Int32} {N : Nat} {I I' : Nat → Nat → Int32} {nn pr M0 M : Nat} {G : Int32 → Int32} {F : List qPr}
theorem aRl_sf (h : sft M0 M I I') (hn : ∀ u, u < nn → rnm I' u = rnm I u) (hM : M ≤ 2 ^ 20) {lo a : Nat} {l : List oT} (hlo : M0 ≤ lo) (hla : lo ≤ a) (ha : a < M) (hx : aRl t N I nn pr G F lo a l) : aRl t N I' nn pr G F (lo - M0) (a - M0) l := by
  have q1 : M0 ≤ a := by omega
  rcases hx with ⟨k, j, e, l1, b1, b2, ⟨i, b3, b3'⟩, b4, b5, b6, b7⟩ | ⟨k, sg, jt, op, l1, b1, b2, b3, b4⟩ | ⟨k, j, e, tk, l1, b1, b2, b3, b4, b5, b6⟩ | ⟨k, k0, k1, j, b1, b2, b3, b4⟩ | ⟨k, tk, b1⟩ | ⟨k, e, tk, l1, b1, b2, b3, b4, b5⟩
  · have z := xR_lo b6
    exact Or.inl ⟨(sf_c h q1 ha 251 k (by omega) (by omega) (by decide)).trans k, j, e - M0, l1, b1, by rw [sf_c h q1 ha 252 k (by omega) (by omega) (by decide)]; exact nmA_st hn (Nat.le_refl _) b2, ⟨i, b3, (sf_c h q1 ha 254 k (by omega) (by omega) (by decide)).trans b3'⟩, by omega, sf_f h hM q1 ha 253 k (by omega) (by omega) (by decide) b5 (by omega) (by omega), xR_sf h hn hM hlo _ e l1 64 (by omega) b6, xLk_sf h hM hlo _ e l1 64 (by omega) b6 b7⟩
  · refine Or.inr (Or.inl ⟨(sf_c h q1 ha 251 k (by omega) (by omega) (by decide)).trans k, sg, jt, op, l1, b1, by rw [sf_c h q1 ha 252 k (by omega) (by omega) (by decide)]; exact nmA_st hn (Nat.le_refl _) b2, ?_, ?_⟩)
    · rcases b3 with ⟨b3, b3'⟩ | ⟨e, c1, c2, c3, c4⟩
      · exact Or.inl ⟨by rw [sf_t h q1 ha 253 k (by omega) (by omega) (by decide), b3]; exact shl_m, b3'⟩
      · have z := xR_lo c3
        exact Or.inr ⟨e - M0, by omega, sf_f h hM q1 ha 253 k (by omega) (by omega) (by decide) c2 (by omega) (by omega), xR_sf h hn hM hlo _ e l1 64 (by omega) c3, xLk_sf h hM hlo _ e l1 64 (by omega) c3 c4⟩
    · rw [sf_c h q1 ha 254 k (by omega) (by omega) (by decide), sf_c h q1 ha 257 k (by omega) (by omega) (by decide), sf_c h q1 ha 258 k (by omega) (by omega) (by decide)]; exact b4
  · have z := xR_lo b5
    exact Or.inr (Or.inr (Or.inl ⟨(sf_c h q1 ha 251 k (by omega) (by omega) (by decide)).trans k, j, e - M0, tk, l1, b1, by rw [sf_c h q1 ha 252 k (by omega) (by omega) (by decide)]; exact nmA_st hn (Nat.le_refl _) b2, by omega, sf_f h hM q1 ha 253 k (by omega) (by omega) (by decide) b4 (by omega) (by omega), xR_sf h hn hM hlo _ e l1 64 (by omega) b5, xLk_sf h hM hlo _ e l1 64 (by omega) b5 b6⟩))
  · have hc : ∀ c, 251 ≤ c → c ≤ 258 → c = 251 ∨ c = 252 ∨ c = 253 → I' c (a - M0) = I c a := by
      intro c c1 c2 c3
      rcases k0 with e | e | e <;> subst e <;> rcases c3 with e | e | e <;> subst e <;> exact sf_c h q1 ha _ k1 (by omega) (by omega) (by decide)
    refine Or.inr (Or.inr (Or.inr (Or.inl ⟨k, k0, (hc 251 (by omega) (by omega) (by omega)).trans k1, j, b1, by rw [hc 252 (by omega) (by omega) (by omega)]; exact nmA_st hn (Nat.le_refl _) b2, ?_, ?_⟩)))
    · rw [hc 253 (by omega) (by omega) (by omega)]; exact b3
    · rw [hc 253 (by omega) (by omega) (by omega)]; exact b4
  · exact Or.inr (Or.inr (Or.inr (Or.inr (Or.inl ⟨(sf_c h q1 ha 251 k (by omega) (by omega) (by decide)).trans k, tk, b1⟩))))
  · have z := xR_lo b4
    exact Or.inr (Or.inr (Or.inr (Or.inr (Or.inr ⟨(sf_c h q1 ha 251 k (by omega) (by omega) (by decide)).trans k, e - M0, tk, l1, b1, by omega, sf_f h hM q1 ha 252 k (by omega) (by omega) (by decide) b3 (by omega) (by omega), xR_sf h hn hM hlo _ e l1 64 (by omega) b4, xLk_sf h hM hlo _ e l1 64 (by omega) b4 b5⟩))))
theorem bRl_sf (h : sft M0 M I I') (hn : ∀ u, u < nn → rnm I' u = rnm I u) (hM : M ≤ 2 ^ 20) : ∀ (r g lo : Nat) (as : List Nat) (L : Nat) (l : List oT), M0 ≤ lo → (∀ a, a ∈ as → a < M) → bRl t N I nn pr G F r g lo as L l → bRl t N I' nn pr G F r g (lo - M0) (as.map (fun a => a - M0)) L l := by
  intro r
  induction r with
  | zero => intro g lo as L l _ _ h; exact h
  | succ r ih =>
    intro g lo as L l hlo has hx
    cases as with
    | nil => exact hx
    | cons a as =>
      obtain ⟨l1, l2, h1, h2, h3, h4⟩ := hx
      have ha := has a (List.mem_cons_self ..)
      have q1 : M0 ≤ a := by omega
      have e1 : a + 1 - M0 = a - M0 + 1 := by omega
      have i3 := ih g (a + 1) as (L + l1.length) l2 (by omega) (fun x hx => has x (List.mem_cons_of_mem _ hx)) h3
      rw [e1] at i3
      show bRl t N I' nn pr G F (r + 1) g (lo - M0) ((a - M0) :: as.map (fun a => a - M0)) L l
      refine ⟨l1, l2, h1, by omega, i3, ?_⟩
      rcases h4 with h4 | ⟨k, g', e, f, le, lb, tk, as1, b1, b2, b3, ⟨b4, b4'⟩, b5, b6, b7, b8, b9, b10, b11, b12⟩
      · exact Or.inl (aRl_sf h hn hM hlo h2 ha h4)
      · have z := xR_lo b4
        have g1 := bRl_ge _ _ _ _ _ _ b11
        have e2 : f + 1 - M0 = f - M0 + 1 := by omega
        have i11 := ih g' (f + 1) as1 (L + le.length + 1) lb (by omega) (fun x hx => by have := b10 x hx; omega) b11
        rw [e2] at i11
        refine Or.inr ⟨(sf_c h q1 ha 251 k (by omega) (by omega) (by decide)).trans k, g', e - M0, f - M0, le, lb, tk, as1.map (fun a => a - M0), b1, by omega, sf_f h hM q1 ha 252 k (by omega) (by omega) (by decide) b3 (by omega) (by omega), ⟨xR_sf h hn hM hlo _ e le 64 (by omega) b4, xLk_sf h hM hlo _ e le 64 (by omega) b4 b4'⟩, by omega, by omega, sf_f h hM q1 ha 253 k (by omega) (by omega) (by decide) b7 (by omega) (by omega), (sf_c h (by omega) (by omega) 251 b8 (by omega) (by omega) (by decide)).trans b8, ?_, ?_, i11, ?_⟩
        · rw [sf_t h (by omega) (by omega) 252 b8 (by omega) (by omega) (by decide)]
          exact chn_sf h hM as1 _ (fun x hx => ⟨by have := g1 x hx; omega, by have := b10 x hx; omega⟩) b9
        · intro x hx
          obtain ⟨y, hy, e⟩ := List.mem_map.mp hx
          replace e : y - M0 = x := e
          have := b10 y hy
          have := g1 y hy
          omega
        · rcases b12 with ⟨c1, c2⟩ | ⟨q, lc, tk2, as2, c1, c2, c3, c4, c5, c6, c7, c8, c9⟩
          · exact Or.inl ⟨by rw [sf_t h q1 ha 254 k (by omega) (by omega) (by decide), c1]; exact shl_m, c2⟩
          · have g2 := bRl_ge _ _ _ _ _ _ c8
            have e3 : q + 1 - M0 = q - M0 + 1 := by omega
            have i8 := ih g' (q + 1) as2 _ lc (by omega) (fun x hx => by have := c7 x hx; omega) c8
            rw [e3] at i8
            refine Or.inr ⟨q - M0, lc, tk2, as2.map (fun a => a - M0), sf_f h hM q1 ha 254 k (by omega) (by omega) (by decide) c1 (by omega) (by omega), by omega, by omega, ?_, (sf_c h (by omega) (by omega) 251 c5 (by omega) (by omega) (by decide)).trans c5, ?_, ?_, i8, c9⟩
            · intro x hx
              obtain ⟨y, hy, e⟩ := List.mem_map.mp hx
              replace e : y - M0 = x := e
              have := c4 y hy
              have := g1 y hy
              omega
            · rw [sf_t h (by omega) (by omega) 252 c5 (by omega) (by omega) (by decide)]
              exact chn_sf h hM as2 _ (fun x hx => ⟨by have := g2 x hx; omega, by have := c7 x hx; omega⟩) c6
            · intro x hx
              obtain ⟨y, hy, e⟩ := List.mem_map.mp hx
              replace e : y - M0 = x := e
              have := c7 y hy
              have := g2 y hy
              omega
theorem bkRl_sf (h : sft M0 M I I') (hn : ∀ u, u < nn → rnm I' u = rnm I u) (hM : M ≤ 2 ^ 20) {hi x : Nat} {o : Nat × List oT} (h0 : M0 ≤ x) (hh : hi ≤ M) (hx : bkRl t N I nn pr G F hi x o) : bkRl t N I' nn pr G F (hi - M0) (x - M0) o := by
  obtain ⟨h1, h2, as, l, tk, h3, h4, h5, h6⟩ := hx
  have g1 := bRl_ge _ _ _ _ _ _ h6
  have e1 : x + 1 - M0 = x - M0 + 1 := by omega
  have i6 := bRl_sf h hn hM _ _ _ as o.1 l (by omega) (fun y hy => by have := h5 y hy; omega) h6
  rw [e1] at i6
  refine ⟨by omega, (sf_c h h0 (by omega) 251 h2 (by omega) (by omega) (by decide)).trans h2, as.map (fun a => a - M0), l, tk, h3, ?_, ?_, i6⟩
  · rw [sf_t h (by omega) (by omega) 252 h2 (by omega) (by omega) (by decide)]
    exact chn_sf h hM as _ (fun x hx => ⟨by have := g1 x hx; omega, by have := h5 x hx; omega⟩) h4
  · intro x hx
    obtain ⟨y, hy, e⟩ := List.mem_map.mp hx
    replace e : y - M0 = x := e
    have := h5 y hy
    have := g1 y hy
    omega
theorem clRl_sf (h : sft M0 M I I') (hn : ∀ u, u < nn → rnm I' u = rnm I u) (hM : M ≤ 2 ^ 20) {hi c : Nat} {q : qCl} (h0 : M0 ≤ c) (hh : hi ≤ M) (hx : clRl t N I nn pr G F hi c q) : clRl t N I' nn pr G F (hi - M0) (c - M0) q := by
  obtain ⟨hc, hx⟩ := hx
  have ha : c < M := by omega
  refine ⟨by omega, ?_⟩
  rcases hx with ⟨k, b1, b2, x, b3, b4, b5⟩ | ⟨k0, k, b1, b2, b3, b4⟩ | ⟨k0, k, b1, b2, b3, x, b4, b5, b6⟩ | ⟨k0, k, b1, b2, x, b3, b4, b5, e, l, tk, c1, c2, c3, c4, c5, c6⟩
  · obtain ⟨kk, hk, k1⟩ : ∃ kk, (kk = 33 ∨ kk = 34) ∧ I 251 c = nI kk := by
      rcases k with ⟨_, k⟩ | ⟨_, k⟩
      · exact ⟨33, Or.inl rfl, k⟩
      · exact ⟨34, Or.inr rfl, k⟩
    have hcc : ∀ d, d = 251 ∨ d = 252 ∨ d = 253 ∨ d = 258 → I' d (c - M0) = I d c := by
      intro d hd
      rcases hk with e | e <;> subst e <;> rcases hd with e | e | e | e <;> subst e <;> exact sf_c h h0 ha _ k1 (by omega) (by omega) (by decide)
    have h254 : I' 254 (c - M0) = nI (x - M0) := by
      have := b5.1
      rcases hk with e | e <;> subst e <;> exact sf_f h hM h0 ha 254 k1 (by omega) (by omega) (by decide) b4 (by omega) (by omega)
    refine Or.inl ⟨?_, ?_, ?_, x - M0, by omega, h254, bkRl_sf h hn hM (by omega) hh b5⟩
    · rw [hcc 251 (by omega)]; exact k
    · rw [hcc 252 (by omega)]; exact nmA_st hn (Nat.le_refl _) b1
    · rw [hcc 253 (by omega), hcc 258 (by omega)]; exact b2
  · exact Or.inr (Or.inl ⟨k0, (sf_c h h0 ha 251 k (by omega) (by omega) (by decide)).trans k, by rw [sf_c h h0 ha 252 k (by omega) (by omega) (by decide)]; exact nmA_st hn (Nat.le_refl _) b1, (sf_c h h0 ha 258 k (by omega) (by omega) (by decide)).trans b2, (sf_c h h0 ha 254 k (by omega) (by omega) (by decide)).trans b3, b4⟩)
  · have := b6.1
    exact Or.inr (Or.inr (Or.inl ⟨k0, (sf_c h h0 ha 251 k (by omega) (by omega) (by decide)).trans k, (sf_c h h0 ha 252 k (by omega) (by omega) (by decide)).trans b1, (sf_c h h0 ha 258 k (by omega) (by omega) (by decide)).trans b2, b3, x - M0, by omega, sf_f h hM h0 ha 254 k (by omega) (by omega) (by decide) b5 (by omega) (by omega), bkRl_sf h hn hM (by omega) hh b6⟩))
  · have := b5.1
    have e1 : c + 1 - M0 = c - M0 + 1 := by omega
    have x5 := xR_sf h hn hM (lo := c + 1) (by omega) _ e l 64 (by omega) c5
    rw [e1] at x5
    exact Or.inr (Or.inr (Or.inr ⟨k0, (sf_c h h0 ha 251 k (by omega) (by omega) (by decide)).trans k, (sf_c h h0 ha 258 k (by omega) (by omega) (by decide)).trans b1, b2, x - M0, by omega, sf_f h hM h0 ha 254 k (by omega) (by omega) (by decide) b4 (by omega) (by omega), bkRl_sf h hn hM (by omega) hh b5, e - M0, l, tk, c1, by omega, by omega, sf_f h hM h0 ha 252 k (by omega) (by omega) (by decide) c4 (by omega) (by omega), x5, xLk_sf h hM (lo := c + 1) (by omega) _ e l 64 (by omega) c5 c6⟩))
theorem clsRl_sf (h : sft M0 M I I') (hn : ∀ u, u < nn → rnm I' u = rnm I u) (hM : M ≤ 2 ^ 20) : ∀ (cs : List Nat) (qs : List qCl) (lo hi : Nat), M0 ≤ lo → hi ≤ M → clsRl t N I nn pr G F lo cs qs hi → clsRl t N I' nn pr G F (lo - M0) (cs.map (fun a => a - M0)) qs (hi - M0) := by
  intro cs
  induction cs with
  | nil =>
    intro qs lo hi h1 h2 hx
    cases qs with
    | nil => have hx' : lo ≤ hi := hx; show lo - M0 ≤ hi - M0; omega
    | cons q qs => exact hx.elim
  | cons c cs ih =>
    intro qs lo hi h1 h2 hx
    cases qs with
    | nil => exact hx.elim
    | cons q qs =>
      obtain ⟨k, k1, k2, k3⟩ := hx
      obtain ⟨g1, g2⟩ := clsRl_ge _ _ _ _ k3
      have := k2.1
      show clsRl t N I' nn pr G F (lo - M0) ((c - M0) :: cs.map (fun a => a - M0)) (q :: qs) (hi - M0)
      exact ⟨k - M0, by omega, clRl_sf h hn hM (by omega) (by omega) k2, ih qs k hi (by omega) h2 k3⟩
end SHG
