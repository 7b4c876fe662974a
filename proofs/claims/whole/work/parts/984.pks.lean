/-! acts that come to their end leave the state as it is -/
def kst (k : Nat) (W W' : aW Nm) : Prop := ∀ a, W.1[k]? = some a → ∃ a', W'.1[k]? = some a' ∧ a'.1.2.2.1 = a.1.2.2.1
theorem kst_refl {k : Nat} {W : aW Nm} : kst k W W := fun a h => ⟨a, h, rfl⟩
theorem kst_trans {k : Nat} {W W1 W2 : aW Nm} (h : kst k W W1) (h2 : kst k W1 W2) : kst k W W2 := by
  intro a ha
  obtain ⟨a1, b1, b2⟩ := h a ha
  obtain ⟨a2, c1, c2⟩ := h2 a1 b1
  exact ⟨a2, c1, c2.trans b2⟩
theorem kst_eq {k : Nat} {W W' : aW Nm} (h : W'.1 = W.1) : kst k W W' := fun a ha => ⟨a, by rw [h]; exact ha, rfl⟩
theorem kst_put {k j : Nat} {W : aW Nm} {a a' : aI Nm} (hj : W.1[j]? = some a) (hi : a'.1.2.2.1 = a.1.2.2.1) : kst k W (aPut j a' W) := by
  intro c hc
  by_cases e : j = k
  · subst e
    rw [hj] at hc
    cases hc
    exact ⟨a', aPut_at (lt_of_some hj), hi⟩
  · exact ⟨c, by simp [aPut, List.getElem?_set, e, hc], rfl⟩
section KS
variable {rN : Int32 → Nm} {N : Nat → Nat → Int32} {np k : Nat} {W : aW Nm} {a : aI Nm} {l : Bool}
theorem st_to {x : Nm} {v : Int32} {to : Option Nat} (ht : ∀ j, to = some j → j < W.1.length) : kst k W (aTo l k x v to W) := by
  unfold aTo
  cases to with
  | none => exact kst_eq rfl
  | some j =>
    obtain ⟨c, hc⟩ : ∃ c, W.1[j]? = some c := ⟨_, List.getElem?_eq_getElem (ht j rfl)⟩
    simp only
    rw [aAt_of hc]
    by_cases h8 : c.2.2.1.length < 8
    · rw [if_pos h8]
      exact kst_trans (kst_put (a' := aAcc (x, v, (aAt W k).1.1, (aAt W k).1.2.1) c) hc rfl) (kst_eq rfl)
    · rw [if_neg h8]
      exact kst_eq rfl
theorem reset_1 {x : Nm} : (aReset x a).1 = a.1 := by
  unfold aReset
  cases aTm x a with
  | none => rfl
  | some i => rfl
theorem st_setT {x : Nm} {v : Int32} (hk : W.1[k]? = some a) : kst k W (aSetT l k x v W) := by
  unfold aSetT
  rw [aAt_of hk]
  obtain ⟨c, hc, c2⟩ : ∃ c, c = (if (aTm x a).isSome = true then aReset x a else a) ∧ c.1 = a.1 := by
    by_cases e : (aTm x a).isSome = true
    · exact ⟨_, rfl, by rw [if_pos e]; exact reset_1⟩
    · exact ⟨_, rfl, by rw [if_neg e]⟩
  rw [← hc]
  simp only
  by_cases h4 : c.2.2.2.length < 4
  · rw [if_pos h4]
    exact kst_put hk (by simp [c2])
  · rw [if_neg h4]
    exact kst_trans (kst_put (a' := c) hk (by rw [c2])) (kst_eq rfl)
theorem st_make {p : Nat} (hk : W.1[k]? = some a) : kst k W (aMake rN N l k p W) := by
  unfold aMake
  rw [aAt_of hk]
  by_cases hc : W.1.length = 8 ∨ aMany W (nI p) = 4
  · rw [if_pos hc]
    exact kst_trans (kst_put (a' := ((a.1.1, a.1.2.1, a.1.2.2.1, a.1.2.2.2.1, a.1.2.2.2.2.1, -1), a.2)) hk rfl) (kst_eq rfl)
  · rw [if_neg hc]
    refine kst_trans (kst_put (a' := ((a.1.1, a.1.2.1, a.1.2.2.1, a.1.2.2.2.1, a.1.2.2.2.2.1, W.2.1.1), a.2)) hk rfl) (fun c hc' => ⟨c, ?_, rfl⟩)
    show ((aPut k _ W).1 ++ [_])[k]? = some c
    rw [List.getElem?_append_left (lt_of_some hc')]
    exact hc'
theorem st_act {M nv ns : Nat} {c : Nat} (hk : W.1[k]? = some a) (hv : vA N M nv ns np c) (hz : (aAct rN N l k c W).1 = 0) : kst k W (aAct rN N l k c W).2 := by
  rcases hv.2 with ⟨c1, e, j, _, _, _, _⟩ | ⟨c1, c2, c3⟩ | ⟨c1, _⟩ | c1 | ⟨c1, t, ht, c2⟩ | ⟨c1, s, hs, c2⟩ | c1 | ⟨c1, _⟩
  · have e : (aAct rN N l k c W).2 = aPut k (a.1, a.2.1.set (ix (N 254 c)) (aVal N W k (N 253 c)), a.2.2) W := by
      simp only [aAct, c1, aAt_of hk]
      rfl
    rw [e]
    exact kst_put hk rfl
  · have e : (aAct rN N l k c W).2 = (match aGoal N W k c with
      | none => aAdd l (0, (aAt W k).1.1, rN (N 252 c), if N 253 c < 0 then 0 else aVal N W k (N 253 c), some ((aAt W k).1.2.1, -1)) W
      | some to => aTo l k (rN (N 252 c)) (if N 253 c < 0 then 0 else aVal N W k (N 253 c)) to W) := by
      simp only [aAct, c1]
      rfl
    rw [e]
    cases hg : aGoal N W k c with
    | none => exact kst_eq rfl
    | some to =>
      refine st_to ?_
      intro j hj
      subst hj
      unfold aGoal at hg
      split at hg
      · have := Option.some.inj hg
        unfold aLeast at this
        exact (List.findIdx?_eq_some_iff_getElem.mp this).1
      · split at hg
        · cases hg
        · have := Option.some.inj hg
          unfold aSlot at this
          exact (List.findIdx?_eq_some_iff_getElem.mp this).1
  · have e : (aAct rN N l k c W).2 = aSetT l k (rN (N 252 c)) (aVal N W k (N 253 c)) W := by
      simp only [aAct, c1]
      rfl
    rw [e]
    exact st_setT hk
  · have e : (aAct rN N l k c W).2 = aPut k (aReset (rN (N 252 c)) a) W := by
      simp only [aAct, c1, aAt_of hk]
      rfl
    rw [e]
    exact kst_put hk (by rw [reset_1])
  · have e : (aAct rN N l k c W).2 = aMake rN N l k (ix (N 253 c)) W := by
      simp only [aAct, c1]
      rfl
    rw [e]
    exact st_make hk
  · have e : (aAct rN N l k c W).1 = 1 := by
      simp only [aAct, c1]
      rfl
    rw [e] at hz
    exact absurd hz (by decide)
  · have e : (aAct rN N l k c W).1 = 2 := by
      simp only [aAct, c1]
      rfl
    rw [e] at hz
    exact absurd hz (by decide)
  · have e : (aAct rN N l k c W).2 = aAdd l (7, (aAt W k).1.1, rN (-1), aVal N W k (N 252 c), none) W := by
      simp only [aAct, c1]
      rfl
    rw [e]
    exact kst_eq rfl
theorem st_run {M nv ns p B : Nat} (h6 : np ≤ 6) (hM : M < 2 ^ 20) (hp : p < np) (hns : ns = (sts N p).length) : ∀ (r : Nat) (as : List Nat) (W : aW Nm) (a : aI Nm), okW N np B W → W.1[k]? = some a → a.1.2.1 = nI p → vB N M nv ns np r as → (aRun rN N l k r as W).1 = 0 → kst k W (aRun rN N l k r as W).2 := by
  intro r
  induction r with
  | zero => intro as W a h hk hpr hv; exact hv.elim
  | succ r ih =>
    intro as W a h hk hpr hv hz0
    cases as with
    | nil => exact kst_refl
    | cons c as =>
      obtain ⟨hv1, hv2⟩ := hv
      have cont : ∀ (z : Int32 × aW Nm), okW N np B z.2 → kpt k W z.2 → (z.1 = 0 → kst k W z.2) → (if z.1 = 0 then aRun rN N l k r as z.2 else z).1 = 0 → kst k W (if z.1 = 0 then aRun rN N l k r as z.2 else z).2 := by
        intro z hz hkz hks h0
        by_cases e : z.1 = 0
        · rw [if_pos e] at h0 ⊢
          obtain ⟨a', q1, q2, q3⟩ := hkz a hk
          exact kst_trans (hks e) (ih as z.2 a' hz q1 (q3.trans hpr) hv1 h0)
        · rw [if_neg e] at h0
          exact absurd h0 e
      rcases hv2 with hv2 | ⟨_, c1, e, f, c2, xe, c3, vk, vb, hg⟩
      · have hne : ¬ N 251 c = 18 := by
          rcases hv2.2 with ⟨c1, _⟩ | ⟨c1, _⟩ | ⟨c1, _⟩ | c1 | ⟨c1, _⟩ | ⟨c1, _⟩ | c1 | ⟨c1, _⟩ <;> (rw [c1]; decide)
        have := ok_act (rN := rN) (l := l) h6 h hk hpr hp hns hv2
        have e : aRun rN N l k (r + 1) (c :: as) W = (if (aAct rN N l k c W).1 = 0 then aRun rN N l k r as (aAct rN N l k c W).2 else aAct rN N l k c W) := by
          simp only [aRun, hne, if_false]
        rw [e] at hz0 ⊢
        exact cont _ this.1 this.2 (fun z => st_act hk hv2 z) hz0
      · have hf : ix (N 253 c) = f := by rw [c3]; exact nI_clamp (by have := vk.1; omega)
        by_cases hz : ¬ aVal N W k (N 252 c) = 0
        · have e : aRun rN N l k (r + 1) (c :: as) W = (if (aRun rN N l k r (acts N f) W).1 = 0 then aRun rN N l k r as (aRun rN N l k r (acts N f) W).2 else aRun rN N l k r (acts N f) W) := by
            simp only [aRun, c1, if_true, hf]
            rw [if_pos hz]
          rw [e] at hz0 ⊢
          have := ok_run (rN := rN) (l := l) h6 hM hp hns r (acts N f) W a h hk hpr vb
          exact cont _ this.1 this.2 (fun z => ih (acts N f) W a h hk hpr vb z) hz0
        · rcases hg with hg | ⟨g, hg, vkg, vbg⟩
          · have e : aRun rN N l k (r + 1) (c :: as) W = aRun rN N l k r as W := by
              simp only [aRun, c1, if_true]
              rw [if_neg hz, if_pos (by rw [hg]; decide)]
            rw [e] at hz0 ⊢
            exact ih as W a h hk hpr hv1 hz0
          · have hgx : ix (N 254 c) = g := by rw [hg]; exact nI_clamp (by have := vkg.1; omega)
            have e : aRun rN N l k (r + 1) (c :: as) W = (if (aRun rN N l k r (acts N g) W).1 = 0 then aRun rN N l k r as (aRun rN N l k r (acts N g) W).2 else aRun rN N l k r (acts N g) W) := by
              simp only [aRun, c1, if_true, hgx]
              rw [if_neg hz, if_neg (by rw [hg]; exact nI_pos (by have := vkg.1; omega))]
            rw [e] at hz0 ⊢
            have := ok_run (rN := rN) (l := l) h6 hM hp hns r (acts N g) W a h hk hpr vbg
            exact cont _ this.1 this.2 (fun z => ih (acts N g) W a h hk hpr vbg z) hz0
end KS
