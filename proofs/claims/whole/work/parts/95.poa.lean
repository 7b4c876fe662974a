/-! acts that are valid keep it so -/
/-- a row of nodes ends -/
def chOK (N : Nat → Nat → Int32) (M : Nat) : Nat → Int32 → Prop
  | 0, _ => False
  | r + 1, x => x = -1 ∨ ∃ a, x = nI a ∧ a < M ∧ chOK N M r (N 255 a)
def vA (N : Nat → Nat → Int32) (M nv ns np a : Nat) : Prop := a < M ∧ (
  (N 251 a = 10 ∧ ∃ e j, N 253 a = nI e ∧ xOK N M nv ED e ∧ N 254 a = nI j ∧ j < nv) ∨
  (N 251 a = 11 ∧ (N 253 a = -1 ∨ ∃ e, N 253 a = nI e ∧ xOK N M nv ED e) ∧ ((∃ y t, y < 2 ^ 20 ∧ N 258 a = nI y ∧ t < np ∧ N 257 a = nI t) ∨ (N 258 a = -1 ∧ (N 254 a = 22 ∨ N 254 a = 18 ∨ N 254 a = 19 ∨ N 254 a = 20 ∨ N 254 a = 21)))) ∨
  (N 251 a = 12 ∧ ∃ e, N 253 a = nI e ∧ xOK N M nv ED e) ∨
  N 251 a = 13 ∨
  (N 251 a = 14 ∧ ∃ t, t < np ∧ N 253 a = nI t) ∨
  (N 251 a = 15 ∧ ∃ s, s < ns ∧ N 253 a = nI s) ∨
  N 251 a = 16 ∨
  (N 251 a = 17 ∧ ∃ e, N 252 a = nI e ∧ xOK N M nv ED e))
/-- a block -/
def vK (N : Nat → Nat → Int32) (M b : Nat) : Prop := b < M ∧ chOK N M 2000 (N 252 b)
def vB (N : Nat → Nat → Int32) (M nv ns np : Nat) : Nat → List Nat → Prop
  | 0, _ => False
  | _ + 1, [] => True
  | r + 1, a :: as => vB N M nv ns np r as ∧ (vA N M nv ns np a ∨ (a < M ∧ N 251 a = 18 ∧ ∃ e f, N 252 a = nI e ∧ xOK N M nv ED e ∧ N 253 a = nI f ∧ vK N M f ∧ vB N M nv ns np r (acts N f) ∧ (N 254 a = -1 ∨ ∃ g, N 254 a = nI g ∧ vK N M g ∧ vB N M nv ns np r (acts N g))))
/-- the instance at k is still the same one -/
def kpt (k : Nat) (W W' : aW Nm) : Prop := ∀ a, W.1[k]? = some a → ∃ a', W'.1[k]? = some a' ∧ a'.1.1 = a.1.1 ∧ a'.1.2.1 = a.1.2.1
theorem kpt_refl {k : Nat} {W : aW Nm} : kpt k W W := fun a h => ⟨a, h, rfl, rfl⟩
theorem kpt_trans {k : Nat} {W W1 W2 : aW Nm} (h : kpt k W W1) (h2 : kpt k W1 W2) : kpt k W W2 := by
  intro a ha
  obtain ⟨a1, b1, b2, b3⟩ := h a ha
  obtain ⟨a2, c1, c2, c3⟩ := h2 a1 b1
  exact ⟨a2, c1, c2.trans b2, c3.trans b3⟩
theorem kpt_eq {k : Nat} {W W' : aW Nm} (h : W'.1 = W.1) : kpt k W W' := fun a ha => ⟨a, by rw [h]; exact ha, rfl, rfl⟩
theorem kpt_put {k j : Nat} {W : aW Nm} {a a' : aI Nm} (hj : W.1[j]? = some a) (hi : a'.1.1 = a.1.1) (hp : a'.1.2.1 = a.1.2.1) : kpt k W (aPut j a' W) := by
  intro c hc
  by_cases e : j = k
  · subst e
    rw [hj] at hc
    cases hc
    exact ⟨a', aPut_at (lt_of_some hj), hi, hp⟩
  · exact ⟨c, by simp [aPut, List.getElem?_set, e, hc], rfl, rfl⟩
theorem aAdd_1 {l : Bool} {e : aE Nm} {W : aW Nm} : (aAdd l e W).1 = W.1 := rfl
theorem aAdd_21 {l : Bool} {e : aE Nm} {W : aW Nm} : (aAdd l e W).2.1 = W.2.1 := rfl
theorem aLose_1 {l : Bool} {i v : Int32} {x : Nm} {W : aW Nm} : (aLose l i x v W).1 = W.1 := rfl
theorem aLose_g {l : Bool} {i v : Int32} {x : Nm} {W : aW Nm} : (aLose l i x v W).2.1.1 = W.2.1.1 := rfl
section OA
variable {rN : Int32 → Nm} {N : Nat → Nat → Int32} {np B k : Nat} {W : aW Nm} {a : aI Nm} {l : Bool}
theorem ok_to {x : Nm} {v : Int32} {to : Option Nat} (h : okW N np B W) (ht : ∀ j, to = some j → j < W.1.length) : okW N np B (aTo l k x v to W) ∧ kpt k W (aTo l k x v to W) := by
  unfold aTo
  cases to with
  | none => exact ⟨okW_eq h rfl rfl, kpt_eq rfl⟩
  | some j =>
    obtain ⟨c, hc⟩ : ∃ c, W.1[j]? = some c := ⟨_, List.getElem?_eq_getElem (ht j rfl)⟩
    simp only
    rw [aAt_of hc]
    by_cases h8 : c.2.2.1.length < 8
    · rw [if_pos h8]
      have hok : okI N np (aAcc (x, v, (aAt W k).1.1, (aAt W k).1.2.1) c) := by
        obtain ⟨p, q1, q2, q3, q4, q5, q6⟩ := h.2.1 j c hc
        exact ⟨p, q1, q2, q3, q4, by simp [aAcc]; omega, q6⟩
      exact ⟨okW_eq (okW_put h hc hok rfl rfl) rfl rfl, kpt_trans (kpt_put (a' := aAcc (x, v, (aAt W k).1.1, (aAt W k).1.2.1) c) hc rfl rfl) (kpt_eq rfl)⟩
    · rw [if_neg h8]
      exact ⟨okW_eq h rfl rfl, kpt_eq rfl⟩
theorem ok_reset {x : Nm} (h : okI N np a) : okI N np (aReset x a) ∧ (aReset x a).1 = a.1 := by
  obtain ⟨p, q1, q2, q3, q4, q5, q6⟩ := h
  unfold aReset
  cases ht : aTm x a with
  | none =>
    refine ⟨⟨p, q1, q2, q3, q4, ?_, q6⟩, rfl⟩
    exact Nat.le_trans (List.length_filter_le _ _) q5
  | some i =>
    refine ⟨⟨p, q1, q2, q3, q4, ?_, ?_⟩, rfl⟩
    · exact Nat.le_trans (List.length_filter_le _ _) q5
    · exact Nat.le_trans (List.eraseIdx_sublist _ _).length_le q6
theorem ok_setT {x : Nm} {v : Int32} (h : okW N np B W) (hk : W.1[k]? = some a) : okW N np B (aSetT l k x v W) ∧ kpt k W (aSetT l k x v W) := by
  unfold aSetT
  rw [aAt_of hk]
  have ha := h.2.1 k a hk
  obtain ⟨c, hc, c1, c2⟩ : ∃ c, c = (if (aTm x a).isSome = true then aReset x a else a) ∧ okI N np c ∧ c.1 = a.1 := by
    by_cases e : (aTm x a).isSome = true
    · exact ⟨_, rfl, by rw [if_pos e]; exact (ok_reset ha).1, by rw [if_pos e]; exact (ok_reset ha).2⟩
    · exact ⟨_, rfl, by rw [if_neg e]; exact ha, by rw [if_neg e]⟩
  rw [← hc]
  simp only
  by_cases h4 : c.2.2.2.length < 4
  · rw [if_pos h4]
    have hok : okI N np (c.1, c.2.1, c.2.2.1, c.2.2.2 ++ [(x, W.2.1.2.1 + aWait v)]) := by
      obtain ⟨p, q1, q2, q3, q4, q5, q6⟩ := c1
      exact ⟨p, q1, q2, q3, q4, q5, by simp; omega⟩
    exact ⟨okW_put h hk hok (by simp [c2]) (by simp [c2]), kpt_put hk (by simp [c2]) (by simp [c2])⟩
  · rw [if_neg h4]
    exact ⟨okW_eq (okW_put h hk c1 (by rw [c2]) (by rw [c2])) rfl rfl, kpt_trans (kpt_put hk (by rw [c2]) (by rw [c2])) (kpt_eq rfl)⟩
theorem aMany_m {x : Int32} : aMany W x = (W.1.map (fun a => a.1.2.1)).countP (fun y => decide (y = x)) := by
  unfold aMany
  rw [List.countP_map]
  rfl
theorem ok_make {p : Nat} (h6 : np ≤ 6) (h : okW N np B W) (hk : W.1[k]? = some a) (hp : p < np) : okW N np B (aMake rN N l k p W) ∧ kpt k W (aMake rN N l k p W) := by
  unfold aMake
  rw [aAt_of hk]
  have ha := h.2.1 k a hk
  have hok : ∀ v, okI N np ((a.1.1, a.1.2.1, a.1.2.2.1, a.1.2.2.2.1, a.1.2.2.2.2.1, v), a.2) := fun v => ha
  by_cases hc : W.1.length = 8 ∨ aMany W (nI p) = 4
  · rw [if_pos hc]
    exact ⟨okW_le (by omega) (okW_eq (okW_put h hk (hok (-1)) rfl rfl) rfl rfl), kpt_trans (kpt_put (a' := ((a.1.1, a.1.2.1, a.1.2.2.1, a.1.2.2.2.1, a.1.2.2.2.2.1, -1), a.2)) hk rfl rfl) (kpt_eq rfl)⟩
  · rw [if_neg hc]
    have hl := h.1
    have h4 := h.2.2.1 p hp
    rw [← aMany_m] at h4
    have hw := okW_put h hk (hok W.2.1.1) rfl rfl
    have hmap : ((aPut k ((a.1.1, a.1.2.1, a.1.2.2.1, a.1.2.2.2.1, a.1.2.2.2.2.1, W.2.1.1), a.2) W).1.map (fun a => a.1.2.1)).countP (fun y => decide (y = nI p)) < 4 := by
      have e : (aPut k ((a.1.1, a.1.2.1, a.1.2.2.1, a.1.2.2.2.1, a.1.2.2.2.2.1, W.2.1.1), a.2) W).1.map (fun a => a.1.2.1) = W.1.map (fun a => a.1.2.1) := by
        apply List.ext_getElem?
        intro i
        rw [List.getElem?_map, List.getElem?_map]
        unfold aPut
        rw [List.getElem?_set]
        by_cases e : k = i
        · subst e
          rw [if_pos rfl, if_pos (lt_of_some hk), hk]
          rfl
        · rw [if_neg e]
      rw [e, ← aMany_m]
      omega
    refine ⟨okW_new (W := aPut k ((a.1.1, a.1.2.1, a.1.2.2.1, a.1.2.2.2.1, a.1.2.2.2.2.1, W.2.1.1), a.2) W) hw (by simp [aPut]; omega) hp h6 hmap rfl rfl rfl, ?_⟩
    refine kpt_trans (kpt_put (a' := ((a.1.1, a.1.2.1, a.1.2.2.1, a.1.2.2.2.1, a.1.2.2.2.2.1, W.2.1.1), a.2)) hk rfl rfl) (fun c hc' => ⟨c, ?_, rfl, rfl⟩)
    show ((aPut k _ W).1 ++ [_])[k]? = some c
    rw [List.getElem?_append_left (lt_of_some hc')]
    exact hc'
theorem ok_act {M nv ns p : Nat} {c : Nat} (h6 : np ≤ 6) (h : okW N np B W) (hk : W.1[k]? = some a) (hpr : a.1.2.1 = nI p) (hp : p < np) (hns : ns = (sts N p).length) (hv : vA N M nv ns np c) : okW N np B (aAct rN N l k c W).2 ∧ kpt k W (aAct rN N l k c W).2 := by
  have ha := h.2.1 k a hk
  obtain ⟨p', q1, q2, q3, q4, q5, q6⟩ := ha
  have hpp : p' = p := by
    rw [hpr] at q2
    exact ((nI_eq (by omega) (by omega)).mp q2).symm
  subst hpp
  have ha : okI N np a := ⟨p', q1, q2, q3, q4, q5, q6⟩
  rcases hv.2 with ⟨c1, e, j, _, _, _, _⟩ | ⟨c1, c2, c3⟩ | ⟨c1, _⟩ | c1 | ⟨c1, t, ht, c2⟩ | ⟨c1, s, hs, c2⟩ | c1 | ⟨c1, _⟩
  · simp only [aAct, c1]
    rw [if_pos trivial, aAt_of hk]
    have hok : okI N np (a.1, a.2.1.set (ix (N 254 c)) (aVal N W k (N 253 c)), a.2.2) := ⟨p', q1, q2, by simp [q3], q4, q5, q6⟩
    exact ⟨okW_le (by omega) (okW_put h hk hok rfl rfl), kpt_put hk rfl rfl⟩
  · have e : (aAct rN N l k c W).2 = (match aGoal N W k c with
      | none => aAdd l (0, (aAt W k).1.1, rN (N 252 c), if N 253 c < 0 then 0 else aVal N W k (N 253 c), some ((aAt W k).1.2.1, -1)) W
      | some to => aTo l k (rN (N 252 c)) (if N 253 c < 0 then 0 else aVal N W k (N 253 c)) to W) := by
      simp only [aAct, c1]
      rfl
    rw [e]
    cases hg : aGoal N W k c with
    | none => exact ⟨okW_le (by omega) (okW_eq h rfl rfl), kpt_eq rfl⟩
    | some to =>
      have ht : ∀ j, to = some j → j < W.1.length := by
        intro j hj
        subst hj
        unfold aGoal at hg
        split at hg
        · have := Option.some.inj hg
          unfold aLeast at this
          exact (List.findIdx?_eq_some_iff_getElem.mp this).1
        · split at hg
          · cases hg
          · have := Option.some.inj hg
            unfold aSlot at this
            exact (List.findIdx?_eq_some_iff_getElem.mp this).1
      have := ok_to (l := l) (k := k) (x := rN (N 252 c)) (v := if N 253 c < 0 then 0 else aVal N W k (N 253 c)) h ht
      exact ⟨okW_le (by omega) this.1, this.2⟩
  · have e : (aAct rN N l k c W).2 = aSetT l k (rN (N 252 c)) (aVal N W k (N 253 c)) W := by
      simp only [aAct, c1]
      rfl
    rw [e]
    have := ok_setT (l := l) (x := rN (N 252 c)) (v := aVal N W k (N 253 c)) h hk
    exact ⟨okW_le (by omega) this.1, this.2⟩
  · have e : (aAct rN N l k c W).2 = aPut k (aReset (rN (N 252 c)) a) W := by
      simp only [aAct, c1, aAt_of hk]
      rfl
    rw [e]
    have hr := ok_reset (x := rN (N 252 c)) ha
    exact ⟨okW_le (by omega) (okW_put h hk hr.1 (by rw [hr.2]) (by rw [hr.2])), kpt_put hk (by rw [hr.2]) (by rw [hr.2])⟩
  · have e : (aAct rN N l k c W).2 = aMake rN N l k t W := by
      have hx : ix (N 253 c) = t := by rw [c2]; exact nI_clamp (by omega)
      simp only [aAct, c1, hx]
      rfl
    rw [e]
    exact ok_make h6 h hk ht
  · have e : (aAct rN N l k c W).2 = aPut k ((a.1.1, a.1.2.1, N 253 c, a.1.2.2.2), a.2) W := by
      simp only [aAct, c1, aAt_of hk]
      rfl
    rw [e]
    have hok : okI N np ((a.1.1, a.1.2.1, N 253 c, a.1.2.2.2), a.2) := ⟨p', q1, q2, q3, Or.inr ⟨s, by rw [← hns]; exact hs, c2⟩, q5, q6⟩
    exact ⟨okW_le (by omega) (okW_put h hk hok rfl rfl), kpt_put hk rfl rfl⟩
  · have e : (aAct rN N l k c W).2 = W := by
      simp only [aAct, c1]
      rfl
    rw [e]
    exact ⟨okW_le (by omega) h, kpt_refl⟩
  · have e : (aAct rN N l k c W).2 = aAdd l (7, (aAt W k).1.1, rN (-1), aVal N W k (N 252 c), none) W := by
      simp only [aAct, c1]
      rfl
    rw [e]
    exact ⟨okW_le (by omega) (okW_eq h rfl rfl), kpt_eq rfl⟩
end OA
