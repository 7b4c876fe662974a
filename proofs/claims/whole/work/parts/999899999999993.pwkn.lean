/-! walk: counts behind a turn and behind time -/
section FT
variable {cN rN : Int32 → Nm} {N : Nat → Nat → Int32} {O G E : Nat → Int32} {np B P L : Nat} {l : Bool} {W : aW Nm} {I : Nat → Nat → Int32} {k : Nat} {a : aI Nm}
theorem aTake_c (i : Nat) (kd : Int32) (c : Option Nat) : (aTake rN N l k i kd c W).2.2.2 = W.2.2.2 := rfl
theorem fLo_gone {W1 : aW Nm} {j : Nat} (h : fLo j W W1) {c : Prop} [Decidable c] : fLo j W (if c then aGone rN l k W1 else W1) := by
  by_cases hc : c
  · rw [if_pos hc]; exact h
  · rw [if_neg hc]; exact h
theorem fLo_body {nv ns p x : Nat} {W1 : aW Nm} (hD : sD cN rN N O G E nv ns np L p x) (h1 : W1.2.2.2 = W.2.2.2) : fLo L W (aRun rN N l k RD (acts N x) W1).2 := by
  obtain ⟨q, hB, hq, _⟩ := hD
  have := fLo_run (l := l) RD p (acts N x) q k W1 hB
  exact fLo_tr (fLo_0 (j := 0) h1) this (by omega)
/-- a turn loses no more than there is code -/
theorem fLo_turn (hpl : plC cN rN N O G E np P L I) (hok : okW N np B W) (hk : W.1[k]? = some a) : (aTurn rN N l k W).2.2.2.2.1 ≤ W.2.2.2.1 + L ∧ (aTurn rN N l k W).2.2.2.2.2 ≤ W.2.2.2.2 + 1 := by
  have hat := aAt_of hk
  obtain ⟨p_, hp, hpr, hva, hst, hq8, ht4⟩ := hok.2.1 k a hk
  have n6 := hpl.1
  have kp := hpl.2.2.2 p_ hp
  have hpx : ix a.1.2.1 = p_ := by rw [hpr]; exact nI_clamp (by omega)
  obtain ⟨kd, i, c, hpa⟩ : ∃ kd i c, aPlan rN N W.2.1.2.1 a = (kd, i, c) := ⟨_, _, _, rfl⟩
  have hTu : aTurn rN N l k W = aTurnB rN N l k kd i c W := aTurn_B (by rw [hat]; exact hpa)
  rw [hTu]
  have fin : ∀ W', fLo L W W' → W'.2.2.2.1 ≤ W.2.2.2.1 + L ∧ W'.2.2.2.2 ≤ W.2.2.2.2 + 1 := fun W' h => ⟨h.1, by rw [h.2]; omega⟩
  rcases aPlan_at hpa with ⟨rfl, rfl, rfl⟩ | ⟨rfl, hneg, rfl, rfl⟩ | ⟨hng, hcase⟩
  · unfold aTurnB
    rw [if_pos rfl]
    exact ⟨by show W.2.2.2.1 ≤ _; omega, by show W.2.2.2.2 ≤ _; omega⟩
  · obtain ⟨q, x, hx, h258, _, hD⟩ := kp.2.2.2.2.2.2.2.2.2.2.1
    have hxx : ix (N 258 (pnd N p_)) = x := by rw [h258]; exact nI_clamp (by omega)
    unfold aTurnB
    rw [if_neg (by decide), hat, hpx]
    simp only [if_true]
    rw [if_neg (by decide), hxx]
    exact fin _ (fLo_gone (fLo_body hD rfl))
  · obtain ⟨s, hs, hst⟩ : ∃ s, s < (sts N p_).length ∧ a.1.2.2.1 = nI s := by
      rcases hst with hst | hst
      · rw [hst] at hng; exact absurd (by decide) hng
      · exact hst
    have s8 : (sts N p_).length ≤ 8 := kp.2.2.2.2.2.2.2.1
    have hsx : ix a.1.2.2.1 = s := by rw [hst]; exact nI_clamp (by omega)
    rw [hpx, hsx] at hcase
    unfold aTurnB
    rw [hat, hpx, hsx]
    obtain ⟨c8, _, kk⟩ := kp.2.2.2.2.2.2.2.2.2.2.2 s hs
    have bd : ∀ c' cn, (cls N p_ s)[c']? = some cn → (N 251 cn = 33 ∨ N 251 cn = 34 ∨ N 251 cn = 36 ∨ N 251 cn = 37) → ∃ pp, sD cN rN N O G E (lets N p_).length (sts N p_).length np L pp (ix (N 254 cn)) := fun c' cn hcn hcl => by
      have hh : ∃ pp x, x < 2 ^ 20 ∧ N 254 cn = nI x ∧ I (P + 22) ((p_ * 8 + s) * 8 + c') = nI pp ∧ sD cN rN N O G E (lets N p_).length (sts N p_).length np L pp x := by
        rcases kk c' cn hcn with ⟨_, _, _, _, h⟩ | ⟨_, _, _, _, h⟩ | ⟨h, _⟩ | ⟨_, _, _, _, h⟩ | ⟨_, _, _, _, h⟩
        · exact h
        · exact h
        · rw [h] at hcl
          rcases hcl with hcl | hcl | hcl | hcl <;> exact absurd hcl (by decide)
        · exact h
        · exact h
      obtain ⟨pp, x, hx, h254, _, hD⟩ := hh
      refine ⟨pp, ?_⟩
      rw [h254, ix, nI_clamp (by omega)]
      exact hD
    rcases hcase with ⟨rfl, rfl, i', q, rfl, hqi⟩ | ⟨hkd, i', q, c', cn, rfl, hqi, rfl, hcn, hck⟩ | ⟨rfl, rfl, c', cn, rfl, hcn, hck⟩
    · rw [if_neg (by decide)]
      simp only [if_true]
      refine ⟨?_, ?_⟩
      · show (aTake rN N l k i' 5 none W).2.2.2.1 ≤ _
        rw [aTake_c]; omega
      · show (aTake rN N l k i' 5 none W).2.2.2.2 + 1 ≤ _
        rw [aTake_c]; omega
    · have hgd : (cls N p_ s).getD c' 0 = cn := by rw [List.getD_eq_getElem?_getD, hcn]; rfl
      obtain ⟨pp, hD⟩ := bd c' cn hcn (by rcases hck with ⟨_, z⟩ | ⟨_, z⟩ | ⟨_, z⟩ <;> simp [z])
      have k0 : ¬ kd = 0 := by rcases hkd with rfl | rfl | rfl <;> decide
      have k5 : ¬ kd = 5 := by rcases hkd with rfl | rfl | rfl <;> decide
      have k1 : ¬ kd = 1 := by rcases hkd with rfl | rfl | rfl <;> decide
      rw [if_neg k0]
      simp only
      rw [if_neg k5, if_neg k1, hgd]
      exact fin _ (fLo_gone (fLo_body hD (aTake_c i' kd (some c'))))
    · have hgd : (cls N p_ s).getD c' 0 = cn := by rw [List.getD_eq_getElem?_getD, hcn]; rfl
      obtain ⟨pp, hD⟩ := bd c' cn hcn (by simp [hck])
      rw [if_neg (by decide)]
      simp only
      rw [if_neg (show ¬ (6 : Int32) = 5 by decide), if_neg (show ¬ (6 : Int32) = 1 by decide), hgd]
      exact fin _ (fLo_gone (fLo_body hD rfl))
theorem fLo_fire (i : Nat) : fLo 1 W (aFire rN l k i W) := by
  simp only [aFire]
  by_cases c : (aDropT i (aAt W k)).2.2.1.length < 8
  · rw [if_pos c]; exact fLo_0 rfl
  · rw [if_neg c]; exact fLo_lose rfl (by omega)
theorem fLo_time : ∀ (r : Nat) (W : aW Nm), fLo r W (aTime rN l r W).2 := by
  intro r
  induction r with
  | zero => intro W; exact fLo_0 rfl
  | succ r ih =>
    intro W
    unfold aTime
    cases aDue W.1 0 none with
    | none => exact fLo_0 rfl
    | some z =>
      obtain ⟨d, k, i⟩ := z
      simp only
      by_cases c : W.2.1.2.1 < d
      · rw [if_pos c]; exact fLo_0 rfl
      · rw [if_neg c]
        exact fLo_tr (fLo_fire i) (ih _) (by omega)
theorem fLo_go (m : Int32) : fLo 33 W (aGo rN l m W).2 := by
  have := fLo_time (rN := rN) (l := l) 33 (W.1, (W.2.1.1, W.2.1.2.1 + m, W.2.1.2.2), W.2.2)
  exact ⟨this.1, this.2⟩
/-- time goes on up to the next timer -/
theorem okD_up {D : Nat} {y : Int32 × Nat × Nat} (hd : okD D W) (hD : D + 1000000 < 2 ^ 31 - 1) (hy : ∃ q, y.1 = nI q ∧ q ≤ D + 1000000) : okD (D + 1000000) (W.1, (W.2.1.1, W.2.1.2.1 + aUp W y.1, W.2.1.2.2), W.2.2) := by
  obtain ⟨⟨q, h1, h2⟩, h3⟩ := hd
  obtain ⟨u, u1, u2⟩ := hy
  refine ⟨?_, fun k a hk t ht => ?_⟩
  · show ∃ q, W.2.1.2.1 + aUp W y.1 = nI q ∧ q ≤ D + 1000000
    unfold aUp
    by_cases c : 0 < y.1 - W.2.1.2.1
    · rw [if_pos c]
      refine ⟨u, ?_, u2⟩
      rw [← u1, Int32.add_comm, Int32.sub_add_cancel]
    · rw [if_neg c, Int32.add_zero]
      exact ⟨q, h1, by omega⟩
  · obtain ⟨q, a1, a2⟩ := h3 k a hk t ht
    exact ⟨q, a1, by omega⟩
end FT
