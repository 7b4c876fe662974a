/-! nodes moved are the same trees -/
/-- I' has the nodes of I from M0 on, at the front -/
def sft (M0 M : Nat) (I I' : Nat → Nat → Int32) : Prop := ∀ c i, 251 ≤ c → c ≤ 258 → M0 ≤ i → i < M → I' c (i - M0) = tfC M0 c (I 251 i) (I c i)
theorem shl_n {M0 f : Nat} (h1 : M0 ≤ f) (h2 : f < 2 ^ 20) : shl (nI M0) (nI f) = nI (f - M0) := by
  unfold shl
  rw [if_neg (by rw [nI_ltI (by omega) (by omega)]; omega), nI_sub h1]
theorem shl_m {M0 : Nat} : shl (nI M0) (mI 1) = mI 1 := by
  unfold shl
  rw [if_pos (by decide)]
theorem nI_clampx {k : Nat} (h : k < 2 ^ 31) : ix (nI k) = k := nI_clamp h
section SHF
variable {t : Nat → Int32} {N : Nat} {I I' : Nat → Nat → Int32} {nn pr M0 M : Nat} {G : Int32 → Int32} {F : List qPr}
theorem sf_c {i : Nat} (h : sft M0 M I I') (h1 : M0 ≤ i) (h2 : i < M) (c : Nat) {k : Nat} (hk : I 251 i = nI k) (c1 : 251 ≤ c) (c2 : c ≤ 258) (hn : ¬ ((c = 252 ∧ lkd0 (nI k) = true) ∨ (c = 253 ∧ lkd1 (nI k) = true) ∨ (c = 254 ∧ lkd2 (nI k) = true) ∨ c = 255 ∨ (c = 258 ∧ nI k = nI 30))) : I' c (i - M0) = I c i := by
  rw [h c i c1 c2 h1 h2, hk]
  unfold tfC
  rw [if_neg hn]
theorem sf_t {i : Nat} (h : sft M0 M I I') (h1 : M0 ≤ i) (h2 : i < M) (c : Nat) {k : Nat} (hk : I 251 i = nI k) (c1 : 251 ≤ c) (c2 : c ≤ 258) (hn : ((c = 252 ∧ lkd0 (nI k) = true) ∨ (c = 253 ∧ lkd1 (nI k) = true) ∨ (c = 254 ∧ lkd2 (nI k) = true) ∨ c = 255 ∨ (c = 258 ∧ nI k = nI 30))) : I' c (i - M0) = shl (nI M0) (I c i) := by
  rw [h c i c1 c2 h1 h2, hk]
  unfold tfC
  rw [if_pos hn]
theorem sf_f {i f : Nat} (h : sft M0 M I I') (hM : M ≤ 2 ^ 20) (h1 : M0 ≤ i) (h2 : i < M) (c : Nat) {k : Nat} (hk : I 251 i = nI k) (c1 : 251 ≤ c) (c2 : c ≤ 258) (hn : ((c = 252 ∧ lkd0 (nI k) = true) ∨ (c = 253 ∧ lkd1 (nI k) = true) ∨ (c = 254 ∧ lkd2 (nI k) = true) ∨ c = 255 ∨ (c = 258 ∧ nI k = nI 30))) (hf : I c i = nI f) (g1 : M0 ≤ f) (g2 : f < M) : I' c (i - M0) = nI (f - M0) := by
  rw [sf_t h h1 h2 c hk c1 c2 hn, hf, shl_n g1 (by omega)]
theorem chn_sf (h : sft M0 M I I') (hM : M ≤ 2 ^ 20) : ∀ (as : List Nat) (x : Int32), (∀ a, a ∈ as → M0 ≤ a ∧ a < M) → chn I x as → chn I' (shl (nI M0) x) (as.map (fun a => a - M0)) := by
  intro as
  induction as with
  | nil => intro x _ hx; show shl (nI M0) x = mI 1; rw [show x = mI 1 from hx]; exact shl_m
  | cons a as ih =>
    intro x ha hx
    obtain ⟨a1, a2⟩ := ha a (List.mem_cons_self ..)
    obtain ⟨hx1, hx2⟩ := hx
    refine ⟨?_, ?_⟩
    · rw [hx1, shl_n a1 (by omega)]
    · have e := h 255 a (by omega) (by omega) a1 a2
      have e2 : tfC M0 255 (I 251 a) (I 255 a) = shl (nI M0) (I 255 a) := by
        unfold tfC; rw [if_pos (by omega)]
      show chn I' (I' 255 (a - M0)) _
      rw [e, e2]
      exact ih _ (fun b hb => ha b (List.mem_cons_of_mem _ hb)) hx2
theorem xR_sf (h : sft M0 M I I') (hn : ∀ u, u < nn → rnm I' u = rnm I u) (hM : M ≤ 2 ^ 20) {lo : Nat} (hlo : M0 ≤ lo) : ∀ (r e : Nat) (l : List oT) (s : Nat), e < M → xR t N I nn pr lo r e l s → xR t N I' nn pr (lo - M0) r (e - M0) l s := by
  intro r
  induction r with
  | zero => intro e l s _ h; exact h
  | succ r ih =>
    intro e l s he hx
    obtain ⟨h0, hle, hx⟩ := hx
    have q1 : M0 ≤ e := by omega
    refine ⟨h0, by omega, ?_⟩
    rcases hx with ⟨a, j, b1, b2, b3⟩ | ⟨a, j, w, b1, b2, b3, b4, b5, b6⟩ | ⟨a, j, o, b1, b2⟩ | ⟨a, f, l1, tk, b1, b2, b3, b4⟩ | ⟨a, f, g, l1, l2, o, tk, c, mid, b1, b2, b3, b4, b5, b6, b7, b8, b9, b10, b11⟩
    · exact Or.inl ⟨(sf_c h q1 he 251 a (by omega) (by omega) (by decide)).trans a, j, b1, b2, (sf_c h q1 he 252 a (by omega) (by omega) (by decide)).trans b3⟩
    · exact Or.inr (Or.inl ⟨(sf_c h q1 he 251 a (by omega) (by omega) (by decide)).trans a, j, w, b1, b2, b3, (sf_c h q1 he 252 a (by omega) (by omega) (by decide)).trans b4, (hn w b3).trans b5, (sf_c h q1 he 256 a (by omega) (by omega) (by decide)).trans b6⟩)
    · refine Or.inr (Or.inr (Or.inl ⟨(sf_c h q1 he 251 a (by omega) (by omega) (by decide)).trans a, j, o, b1, ?_⟩))
      rw [sf_c h q1 he 252 a (by omega) (by omega) (by decide)]; exact b2
    · have z1 := xR_lo b4
      exact Or.inr (Or.inr (Or.inr (Or.inl ⟨(sf_c h q1 he 251 a (by omega) (by omega) (by decide)).trans a, f - M0, l1, tk, by omega, sf_f h hM q1 he 252 a (by omega) (by omega) (by decide) b2 (by omega) (by omega), b3, ih f l1 s (by omega) b4⟩)))
    · have z1 := xR_lo b7
      have z2 := xR_lo b8
      exact Or.inr (Or.inr (Or.inr (Or.inr ⟨(sf_c h q1 he 251 a (by omega) (by omega) (by decide)).trans a, f - M0, g - M0, l1, l2, o, tk, c, mid, by omega, by omega, sf_f h hM q1 he 253 a (by omega) (by omega) (by decide) b3 (by omega) (by omega), sf_f h hM q1 he 254 a (by omega) (by omega) (by decide) b4 (by omega) (by omega), (sf_c h q1 he 252 a (by omega) (by omega) (by decide)).trans b5, b6, ih f l1 s (by omega) b7, ih g l2 (s - 1) (by omega) b8, b9, b10, b11⟩)))
theorem xLk_sf (h : sft M0 M I I') (hM : M ≤ 2 ^ 20) {lo : Nat} (hlo : M0 ≤ lo) : ∀ (r e : Nat) (l : List oT) (s : Nat), e < M → xR t N I nn pr lo r e l s → xLk G I r e → xLk G I' r (e - M0) := by
  intro r
  induction r with
  | zero => intro e l s _ _ _; trivial
  | succ r ih =>
    intro e l s he hx hl
    obtain ⟨h0, hle, hx⟩ := hx
    obtain ⟨k1, k2, k3⟩ := hl
    have q1 : M0 ≤ e := by omega
    have i251 : ∀ k, I 251 e = nI k → I' 251 (e - M0) = nI k := fun k hk => (sf_c h q1 he 251 hk (by omega) (by omega) (by omega)).trans hk
    show (I' 251 (e - M0) = nI 1 → I' 253 (e - M0) = G (I' 252 (e - M0))) ∧ (I' 251 (e - M0) = nI 3 → xLk G I' r (ix (I' 252 (e - M0)))) ∧ (I' 251 (e - M0) = nI 4 → xLk G I' r (ix (I' 253 (e - M0))) ∧ xLk G I' r (ix (I' 254 (e - M0))))
    rcases hx with ⟨a, j, b1, b2, b3⟩ | ⟨a, j, w, b1, b2, b3, b4, b5, b6⟩ | ⟨a, j, o, b1, b2⟩ | ⟨a, f, l1, tk, b1, b2, b3, b4⟩ | ⟨a, f, g, l1, l2, o, tk, c, mid, b1, b2, b3, b4, b5, b6, b7, b8, b9, b10, b11⟩
    · rw [i251 _ a]
      exact ⟨fun z => absurd z (by decide), fun z => absurd z (by decide), fun z => absurd z (by decide)⟩
    · rw [i251 _ a, sf_c h q1 he 252 a (by omega) (by omega) (by decide), sf_c h q1 he 253 a (by omega) (by omega) (by decide)]
      exact ⟨fun _ => k1 a, fun z => absurd z (by decide), fun z => absurd z (by decide)⟩
    · rw [i251 _ a]
      exact ⟨fun z => absurd z (by decide), fun z => absurd z (by decide), fun z => absurd z (by decide)⟩
    · have z1 := xR_lo b4
      rw [i251 _ a, sf_f h hM q1 he 252 a (by omega) (by omega) (by decide) b2 (by omega) (by omega), nI_clampx (by omega)]
      have k2' := k2 a
      rw [b2, nI_clampx (by omega)] at k2'
      exact ⟨fun z => absurd z (by decide), fun _ => ih f l1 s (by omega) b4 k2', fun z => absurd z (by decide)⟩
    · have z1 := xR_lo b7
      have z2 := xR_lo b8
      rw [i251 _ a, sf_f h hM q1 he 253 a (by omega) (by omega) (by decide) b3 (by omega) (by omega), sf_f h hM q1 he 254 a (by omega) (by omega) (by decide) b4 (by omega) (by omega), nI_clampx (by omega), nI_clampx (by omega)]
      have k3' := k3 a
      rw [b3, b4, nI_clampx (by omega), nI_clampx (by omega)] at k3'
      exact ⟨fun z => absurd z (by decide), fun z => absurd z (by decide), fun _ => ⟨ih f l1 s (by omega) b7 k3'.1, ih g l2 (s - 1) (by omega) b8 k3'.2⟩⟩
end SHF
