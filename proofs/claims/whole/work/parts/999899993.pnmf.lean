/-! names of both sides, as bytes -/
def cNf (D : Nat → Int64 × Int32) (L : Nat) (x : Int32) : Nm := if x = mI 1 then .inr (false, mI 1) else if ix x < L ∧ x = nI (ix x) then .inl (D (ix x)) else .inr (true, x)
def rNf (D : Nat → Int64 × Int32) (L : Nat) (x : Int32) : Nm := if x = mI 1 then .inr (false, mI 1) else if ix x < L ∧ x = nI (ix x) then .inl (D (ix x)) else .inr (false, x)
section NMF
variable {D D' : Nat → Int64 × Int32} {L L' : Nat}
theorem cNf_m : cNf D L (-1) = .inr (false, mI 1) := by unfold cNf; rw [if_pos m1e.symm]
theorem rNf_m : rNf D L (-1) = .inr (false, mI 1) := by unfold rNf; rw [if_pos m1e.symm]
theorem cNf_v {k : Nat} (hk : k < L) (h : k < 2 ^ 31) : cNf D L (nI k) = .inl (D k) := by
  unfold cNf
  rw [if_neg (mI_ne (by omega) (by omega) h), nI_clampx h, if_pos ⟨hk, rfl⟩]
theorem rNf_v {k : Nat} (hk : k < L) (h : k < 2 ^ 31) : rNf D L (nI k) = .inl (D k) := by
  unfold rNf
  rw [if_neg (mI_ne (by omega) (by omega) h), nI_clampx h, if_pos ⟨hk, rfl⟩]
theorem cNf_l {x : Int32} {y : Int64 × Int32} (h : cNf D L x = .inl y) : ix x < L ∧ x = nI (ix x) ∧ D (ix x) = y := by
  unfold cNf at h
  split at h
  · cases h
  · split at h
    · rename_i h2
      exact ⟨h2.1, h2.2, Sum.inl.inj h⟩
    · cases h
theorem rNf_l {x : Int32} {y : Int64 × Int32} (h : rNf D L x = .inl y) : ix x < L ∧ x = nI (ix x) ∧ D (ix x) = y := by
  unfold rNf at h
  split at h
  · cases h
  · split at h
    · rename_i h2
      exact ⟨h2.1, h2.2, Sum.inl.inj h⟩
    · cases h
theorem cNf_i (hD : ∀ x y, x < L → y < L → D x = D y → x = y) : ∀ x y, cNf D L x = cNf D L y → x = y := by
  intro x y h
  cases hx : cNf D L x with
  | inl v =>
    rw [hx] at h
    obtain ⟨a1, a2, a3⟩ := cNf_l hx
    obtain ⟨b1, b2, b3⟩ := cNf_l h.symm
    rw [a2, b2, hD _ _ a1 b1 (a3.trans b3.symm)]
  | inr v =>
    rw [hx] at h
    unfold cNf at hx h
    split at hx
    · rename_i e1
      split at h
      · rename_i e2; rw [e1, e2]
      · split at h
        · cases h
        · cases hx; cases h
    · split at hx
      · cases hx
      · split at h
        · cases hx; cases h
        · split at h
          · cases h
          · cases hx; cases h; rfl
theorem rNf_i (hD : ∀ x y, x < L → y < L → D x = D y → x = y) : ∀ x y, rNf D L x = rNf D L y → x = y := by
  intro x y h
  cases hx : rNf D L x with
  | inl v =>
    rw [hx] at h
    obtain ⟨a1, a2, a3⟩ := rNf_l hx
    obtain ⟨b1, b2, b3⟩ := rNf_l h.symm
    rw [a2, b2, hD _ _ a1 b1 (a3.trans b3.symm)]
  | inr v =>
    rw [hx] at h
    unfold rNf at hx h
    split at hx
    · rename_i e1
      split at h
      · rename_i e2; rw [e1, e2]
      · rename_i e2
        split at h
        · cases h
        · cases hx; cases h; exact absurd rfl e2
    · rename_i e1
      split at hx
      · cases hx
      · split at h
        · cases hx; cases h; exact absurd rfl e1
        · split at h
          · cases h
          · cases hx; cases h; rfl
/-- names that both have stay the same -/
def leP (cN rN cN' rN' : Int32 → Nm) : Prop := ∀ x y, cN x = rN y → cN' x = cN x ∧ rN' y = rN y
theorem leP_f {C C' : Nat → Int64 × Int32} {k k' : Nat} (hk : k ≤ k') (hC : ∀ u, u < k → C' u = C u) (hL : L ≤ L') (hD : ∀ u, u < L → D' u = D u) : leP (cNf C k) (rNf D L) (cNf C' k') (rNf D' L') := by
  intro x y h
  have hx : ∀ v, cNf C k x = .inl v → cNf C' k' x = .inl v := by
    intro v hv
    obtain ⟨a1, a2, a3⟩ := cNf_l hv
    have hne : ¬ x = mI 1 := fun e => by rw [e] at hv; unfold cNf at hv; rw [if_pos rfl] at hv; cases hv
    unfold cNf
    rw [if_neg hne, if_pos ⟨by omega, a2⟩, hC _ a1, a3]
  have hy : ∀ v, rNf D L y = .inl v → rNf D' L' y = .inl v := by
    intro v hv
    obtain ⟨a1, a2, a3⟩ := rNf_l hv
    have hne : ¬ y = mI 1 := fun e => by rw [e] at hv; unfold rNf at hv; rw [if_pos rfl] at hv; cases hv
    unfold rNf
    rw [if_neg hne, if_pos ⟨by omega, a2⟩, hD _ a1, a3]
  cases hv : cNf C k x with
  | inl v => exact ⟨hx v hv, by rw [← h, hv]; exact hy v (by rw [← h]; exact hv)⟩
  | inr v =>
    have h1 : x = mI 1 := by
      rw [hv] at h
      unfold cNf at hv
      split at hv
      · assumption
      · split at hv
        · cases hv
        · cases hv
          unfold rNf at h
          split at h
          · cases h
          · split at h <;> cases h
    have h2 : y = mI 1 := by
      subst h1
      unfold cNf at h
      rw [if_pos rfl] at h
      unfold rNf at h
      split at h
      · assumption
      · split at h
        · cases h
        · cases h; rfl
    subst h1; subst h2
    refine ⟨?_, ?_⟩
    · rw [← hv]; unfold cNf; rw [if_pos rfl, if_pos rfl]
    · unfold rNf; rw [if_pos rfl, if_pos rfl]
end NMF
section PMO
variable {cN rN cN' rN' : Int32 → Nm} {N : Nat → Nat → Int32} {O G E : Nat → Int32} {nv ns np P L : Nat} {I : Nat → Nat → Int32}
theorem leP_e (h : leP cN rN cN' rN') {x y : Int32} (e : cN x = rN y) : cN' x = rN' y := by rw [(h x y e).1, (h x y e).2]; exact e
theorem sA_mo (h : leP cN rN cN' rN') {p a m : Nat} (hs : sA cN rN N O G E nv ns np p a m) : sA cN' rN' N O G E nv ns np p a m := by
  rcases hs with a1 | ⟨a1, m1, a2, a3, a4⟩ | ⟨a1, m1, e, a2, a3, a4, a5, a6, a7⟩ | ⟨a1, a2, a3, a4⟩ | a1 | a1 | a1 | a1
  · exact Or.inl a1
  · exact Or.inr (Or.inl ⟨a1, m1, a2, leP_e h a3, a4⟩)
  · exact Or.inr (Or.inr (Or.inl ⟨a1, m1, e, a2, a3, a4, a5, leP_e h a6, a7⟩))
  · exact Or.inr (Or.inr (Or.inr (Or.inl ⟨a1, a2, leP_e h a3, a4⟩)))
  · exact Or.inr (Or.inr (Or.inr (Or.inr (Or.inl a1))))
  · exact Or.inr (Or.inr (Or.inr (Or.inr (Or.inr (Or.inl a1)))))
  · exact Or.inr (Or.inr (Or.inr (Or.inr (Or.inr (Or.inr (Or.inl a1))))))
  · exact Or.inr (Or.inr (Or.inr (Or.inr (Or.inr (Or.inr (Or.inr a1))))))
theorem sB_mo (h : leP cN rN cN' rN') : ∀ (r p : Nat) (as : List Nat) (q : Nat), sB cN rN N O G E nv ns np r p as q → sB cN' rN' N O G E nv ns np r p as q := by
  intro r
  induction r with
  | zero => intro p as q hs; exact hs
  | succ r ih =>
    intro p as q hs
    cases as with
    | nil => exact hs
    | cons a as =>
      obtain ⟨m, h1, h2⟩ := hs
      refine ⟨m, ih _ _ _ h1, ?_⟩
      rcases h2 with h2 | ⟨a1, m1, m2, e, f, a2, a3, a4, a5, a6, a7, a8, a9⟩
      · exact Or.inl (sA_mo h h2)
      · refine Or.inr ⟨a1, m1, m2, e, f, a2, a3, a4, a5, a6, a7, ih _ _ _ a8, ?_⟩
        rcases a9 with z | ⟨g, z1, z2, z3, z4, z5, z6⟩
        · exact Or.inl z
        · exact Or.inr ⟨g, z1, z2, z3, z4, ih _ _ _ z5, z6⟩
theorem sD_mo (h : leP cN rN cN' rN') {p b : Nat} (hs : sD cN rN N O G E nv ns np L p b) : sD cN' rN' N O G E nv ns np L p b := by
  obtain ⟨q, h1, h2⟩ := hs
  exact ⟨q, sB_mo h _ _ _ _ h1, h2⟩
theorem kC_mo (h : leP cN rN cN' rN') {i c : Nat} (hs : kC cN rN N O G E nv ns np P L I i c) : kC cN' rN' N O G E nv ns np P L I i c := by
  rcases hs with ⟨a1, a2, a3, a4, p, x, a5, a6, a7, a8⟩ | ⟨a1, a2, a3, a4, p, x, a5, a6, a7, a8⟩ | ⟨a1, a2, a3⟩ | ⟨a1, a2, a3, a4, p, x, a5, a6, a7, a8⟩ | ⟨a1, a2, a3, a4, p, x, a5, a6, a7, a8⟩
  · exact Or.inl ⟨a1, a2, leP_e h a3, a4, p, x, a5, a6, a7, sD_mo h a8⟩
  · exact Or.inr (Or.inl ⟨a1, a2, leP_e h a3, a4, p, x, a5, a6, a7, sD_mo h a8⟩)
  · exact Or.inr (Or.inr (Or.inl ⟨a1, a2, leP_e h a3⟩))
  · exact Or.inr (Or.inr (Or.inr (Or.inl ⟨a1, a2, a3, a4, p, x, a5, a6, a7, sD_mo h a8⟩)))
  · exact Or.inr (Or.inr (Or.inr (Or.inr ⟨a1, a2, a3, a4, p, x, a5, a6, a7, sD_mo h a8⟩)))
theorem plC_mo (h : leP cN rN cN' rN') (hs : plC cN rN N O G E np P L I) : plC cN' rN' N O G E np P L I := by
  obtain ⟨h1, h2, h3, h4⟩ := hs
  refine ⟨h1, h2, h3, fun p hp => ?_⟩
  obtain ⟨a1, a2, a3, a4, a5, a6, a7, a8, a9, a10, ⟨q, x, b1, b2, b3, b4⟩, a12⟩ := h4 p hp
  refine ⟨a1, a2, leP_e h a3, a4, a5, a6, fun j c hc => ⟨leP_e h (a7 j c hc).1, (a7 j c hc).2⟩, a8, a9, fun j c hc => leP_e h (a10 j c hc), ⟨q, x, b1, b2, b3, sD_mo h b4⟩, fun s hs => ?_⟩
  obtain ⟨c1, c2, c3⟩ := a12 s hs
  exact ⟨c1, c2, fun j c hc => kC_mo h (c3 j c hc)⟩
theorem rl_in {β : Type} {f g : Nat → β} {m i : Nat} (h : rl f m = rl g m) (hi : i < m) : f i = g i := by
  have := congrArg (fun l => l[i]?) h
  simp only [rl_at hi] at this
  exact Option.some.inj this
variable {R : Nat → Nat → Nat} {w : Nat} {l : Bool} {W : aW Nm}
theorem wCR_mo (h : leP cN rN cN' rN') (hC : wC cN I R 57 W) (hR : wR rN I true W) : wC cN' I R 57 W ∧ wR rN' I true W := by
  obtain ⟨⟨s1, s2, s3, s4⟩, t1, t2, t3, t4⟩ := hC
  obtain ⟨⟨u1, u2', u3⟩, v1, v2, v3, v4⟩ := hR
  obtain ⟨t31, t32, t33, t34, t35, t36, t37⟩ := t3 rfl
  obtain ⟨v31, v32, v33, v34, v35, v36, v37, v38⟩ := v3 rfl
  have hI : ∀ k a, W.1[k]? = some a → iC cN' I (R (57 + 8) k) a ∧ iR rN' I k a := by
    intro k a hk
    obtain ⟨a1, a2, a3, a4, a5, a6⟩ := s4 k a hk
    obtain ⟨b1, b2, b3, b4, b5, b6⟩ := u3 k a hk
    have q1 : ∀ i, i < a.2.2.1.length → cN (I (R (57 + 8) k + 2) i) = rN (I 268 (8 * k + i)) := fun i hi => congrArg Prod.fst (rl_in (a4.symm.trans b4) hi)
    have q2 : ∀ i, i < a.2.2.2.length → cN (I (R (57 + 8) k + 6) i) = rN (I 273 (4 * k + i)) := fun i hi => congrArg Prod.fst (rl_in (a6.symm.trans b6) hi)
    refine ⟨⟨a1, a2, a3, a4.trans (rl_congr fun i hi => ?_), a5, a6.trans (rl_congr fun i hi => ?_)⟩, b1, b2, b3, b4.trans (rl_congr fun i hi => ?_), b5, b6.trans (rl_congr fun i hi => ?_)⟩
    · rw [(h _ _ (q1 i hi)).1]
    · rw [(h _ _ (q2 i hi)).1]
    · rw [(h _ _ (q1 i hi)).2]
    · rw [(h _ _ (q2 i hi)).2]
  have q3 : ∀ i, i < W.2.2.1.1.length → cN (I 61 i) = rN (I 277 i) := fun i hi => congrArg (fun e : aE Nm => e.2.2.1) (rl_in (t36.symm.trans v37) hi)
  refine ⟨⟨⟨s1, s2, s3, fun k a hk => (hI k a hk).1⟩, t1, t2, fun _ => ⟨t31, t32, t33, t34, t35, t36.trans (rl_congr fun i hi => ?_), t37⟩, t4⟩, ⟨u1, u2', fun k a hk => (hI k a hk).2⟩, v1, v2, fun _ => ⟨v31, v32, v33, v34, v35, v36, v37.trans (rl_congr fun i hi => ?_), v38⟩, fun e => (by cases e)⟩
  · unfold eC; rw [(h _ _ (q3 i hi)).1]
  · unfold eR; rw [(h _ _ (q3 i hi)).2]
end PMO
