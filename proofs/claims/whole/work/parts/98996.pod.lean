/-! a turn keeps it so -/
theorem okD_eq {D : Nat} {W W' : aW Nm} (h : okD D W) (h1 : W'.1 = W.1) (h2 : W'.2.1.2.1 = W.2.1.2.1) : okD D W' := by
  unfold okD at h ⊢
  rw [h1, h2]
  exact h
theorem okD_put {D k : Nat} {W : aW Nm} {a a' : aI Nm} (h : okD D W) (hk : W.1[k]? = some a) (ht : ∀ t, t ∈ a'.2.2.2 → t ∈ a.2.2.2 ∨ ∃ q, t.2 = nI q ∧ q ≤ D + 1000000) : okD D (aPut k a' W) := by
  refine ⟨h.1, fun j c hj t htt => ?_⟩
  unfold aPut at hj
  simp only at hj
  rw [List.getElem?_set] at hj
  by_cases e : k = j
  · subst e
    rw [if_pos rfl, if_pos (lt_of_some hk)] at hj
    have := Option.some.inj hj
    subst this
    rcases ht t htt with h1 | h1
    · exact h.2 k a hk t h1
    · exact h1
  · rw [if_neg e] at hj
    exact h.2 j c hj t htt
theorem okD_sub {D : Nat} {W W' : aW Nm} (h : okD D W) (h1 : ∀ c, c ∈ W'.1 → c ∈ W.1 ∨ c.2.2.2 = []) (h2 : W'.2.1.2.1 = W.2.1.2.1) : okD D W' := by
  refine ⟨by rw [h2]; exact h.1, fun j c hj t ht => ?_⟩
  rcases h1 c (List.mem_of_getElem? hj) with h3 | h3
  · obtain ⟨i, hi⟩ := List.mem_iff_getElem?.mp h3
    exact h.2 i c hi t ht
  · rw [h3] at ht
    cases ht
section OKD
variable {rN : Int32 → Nm} {N : Nat → Nat → Int32} {np k D : Nat} {W : aW Nm} {a : aI Nm} {l : Bool}
theorem dd_to {x : Nm} {v : Int32} {to : Option Nat} (h : okD D W) (ht : ∀ j, to = some j → j < W.1.length) : okD D (aTo l k x v to W) := by
  unfold aTo
  cases to with
  | none => exact okD_eq h rfl rfl
  | some j =>
    obtain ⟨c, hc⟩ : ∃ c, W.1[j]? = some c := ⟨_, List.getElem?_eq_getElem (ht j rfl)⟩
    simp only
    rw [aAt_of hc]
    by_cases h8 : c.2.2.1.length < 8
    · rw [if_pos h8]
      exact okD_eq (okD_put (a' := aAcc (x, v, (aAt W k).1.1, (aAt W k).1.2.1) c) h hc (fun t ht => Or.inl ht)) rfl rfl
    · rw [if_neg h8]
      exact okD_eq h rfl rfl
theorem reset_t {x : Nm} : ∀ t, t ∈ (aReset x a).2.2.2 → t ∈ a.2.2.2 := by
  intro t ht
  unfold aReset at ht
  cases e : aTm x a with
  | none => rw [e] at ht; exact ht
  | some i =>
    rw [e] at ht
    exact (List.eraseIdx_sublist _ _).subset ht
theorem aWait_le (v : Int32) : ∃ q, aWait v = nI q ∧ q ≤ 1000000 := by
  unfold aWait
  by_cases h1 : v < 1
  · rw [if_pos h1]; exact ⟨0, by decide, by omega⟩
  · rw [if_neg h1]
    by_cases h2 : (1000000 : Int32) < v
    · rw [if_pos h2]; exact ⟨1000000, by decide, by omega⟩
    · rw [if_neg h2]
      have hn : ¬ v < 0 := by
        intro h
        apply h1
        rw [Int32.lt_iff_toInt_lt] at *
        have e1 : (0 : Int32).toInt = 0 := by decide
        have e2 : (1 : Int32).toInt = 1 := by decide
        omega
      obtain ⟨q, hq, e⟩ := nI_of hn
      refine ⟨q, e, ?_⟩
      rw [e, show (1000000 : Int32) = nI 1000000 by decide, nI_ltI (by omega) hq] at h2
      omega
theorem dd_setT {x : Nm} {v : Int32} (h : okD D W) (hk : W.1[k]? = some a) : okD D (aSetT l k x v W) := by
  unfold aSetT
  rw [aAt_of hk]
  obtain ⟨c, hc, c2⟩ : ∃ c, c = (if (aTm x a).isSome = true then aReset x a else a) ∧ ∀ t, t ∈ c.2.2.2 → t ∈ a.2.2.2 := by
    by_cases e : (aTm x a).isSome = true
    · exact ⟨_, rfl, by rw [if_pos e]; exact reset_t⟩
    · exact ⟨_, rfl, by rw [if_neg e]; exact fun t ht => ht⟩
  rw [← hc]
  simp only
  by_cases h4 : c.2.2.2.length < 4
  · rw [if_pos h4]
    refine okD_put h hk (fun t ht => ?_)
    simp only [List.mem_append, List.mem_singleton] at ht
    rcases ht with ht | ht
    · exact Or.inl (c2 t ht)
    · obtain ⟨q, hq, hq2⟩ := h.1
      obtain ⟨r, hr, hr2⟩ := aWait_le v
      refine Or.inr ⟨q + r, ?_, by omega⟩
      rw [ht]
      simp only
      rw [hq, hr, nI_add]
  · rw [if_neg h4]
    exact okD_eq (okD_put (a' := c) h hk (fun t ht => Or.inl (c2 t ht))) rfl rfl
theorem dd_make {p : Nat} (h : okD D W) (hk : W.1[k]? = some a) : okD D (aMake rN N l k p W) := by
  unfold aMake
  rw [aAt_of hk]
  by_cases hc : W.1.length = 8 ∨ aMany W (nI p) = 4
  · rw [if_pos hc]
    exact okD_eq (okD_put (a' := ((a.1.1, a.1.2.1, a.1.2.2.1, a.1.2.2.2.1, a.1.2.2.2.2.1, -1), a.2)) h hk (fun t ht => Or.inl ht)) rfl rfl
  · rw [if_neg hc]
    have h1 := okD_put (a' := ((a.1.1, a.1.2.1, a.1.2.2.1, a.1.2.2.2.1, a.1.2.2.2.2.1, W.2.1.1), a.2)) h hk (fun t ht => Or.inl ht)
    refine okD_sub h1 (fun c hc => ?_) rfl
    have hc' : c ∈ (aPut k ((a.1.1, a.1.2.1, a.1.2.2.1, a.1.2.2.2.1, a.1.2.2.2.2.1, W.2.1.1), a.2) W).1 ++ [aNew N (aPut k ((a.1.1, a.1.2.1, a.1.2.2.1, a.1.2.2.2.1, a.1.2.2.2.2.1, W.2.1.1), a.2) W).2.1.1 p a.1.1] := hc
    rw [List.mem_append] at hc'
    rcases hc' with h2 | h2
    · exact Or.inl h2
    · have : c = aNew N (aPut k ((a.1.1, a.1.2.1, a.1.2.2.1, a.1.2.2.2.1, a.1.2.2.2.2.1, W.2.1.1), a.2) W).2.1.1 p a.1.1 := by simpa using h2
      rw [this]
      exact Or.inr rfl
theorem dd_act {M nv ns : Nat} {c : Nat} (h : okD D W) (hk : W.1[k]? = some a) (hv : vA N M nv ns np c) : okD D (aAct rN N l k c W).2 := by
  rcases hv.2 with ⟨c1, e, j, _, _, _, _⟩ | ⟨c1, c2, c3⟩ | ⟨c1, _⟩ | c1 | ⟨c1, t, ht, c2⟩ | ⟨c1, s, hs, c2⟩ | c1 | ⟨c1, _⟩
  · have e : (aAct rN N l k c W).2 = aPut k (a.1, a.2.1.set (ix (N 254 c)) (aVal N W k (N 253 c)), a.2.2) W := by
      simp only [aAct, c1, aAt_of hk]
      rfl
    rw [e]
    exact okD_put h hk (fun t ht => Or.inl ht)
  · have e : (aAct rN N l k c W).2 = (match aGoal N W k c with
      | none => aAdd l (0, (aAt W k).1.1, rN (N 252 c), if N 253 c < 0 then 0 else aVal N W k (N 253 c), some ((aAt W k).1.2.1, -1)) W
      | some to => aTo l k (rN (N 252 c)) (if N 253 c < 0 then 0 else aVal N W k (N 253 c)) to W) := by
      simp only [aAct, c1]
      rfl
    rw [e]
    cases hg : aGoal N W k c with
    | none => exact okD_eq h rfl rfl
    | some to =>
      refine dd_to h ?_
      intro j hj
      subst hj
      unfold aGoal at hg
      split at hg
      · have := Option.some.inj hg
        unfold aLeast at this
        exact (List.findIdx?_eq_some_iff_getElem.mp this).1
      · split at hg
        · cases hg
        · have := Option.some.inj hg
          unfold aSlot at this
          exact (List.findIdx?_eq_some_iff_getElem.mp this).1
  · have e : (aAct rN N l k c W).2 = aSetT l k (rN (N 252 c)) (aVal N W k (N 253 c)) W := by
      simp only [aAct, c1]
      rfl
    rw [e]
    exact dd_setT h hk
  · have e : (aAct rN N l k c W).2 = aPut k (aReset (rN (N 252 c)) a) W := by
      simp only [aAct, c1, aAt_of hk]
      rfl
    rw [e]
    exact okD_put h hk (fun t ht => Or.inl (reset_t t ht))
  · have e : (aAct rN N l k c W).2 = aMake rN N l k (ix (N 253 c)) W := by
      simp only [aAct, c1]
      rfl
    rw [e]
    exact dd_make h hk
  · have e : (aAct rN N l k c W).2 = aPut k ((a.1.1, a.1.2.1, N 253 c, a.1.2.2.2), a.2) W := by
      simp only [aAct, c1, aAt_of hk]
      rfl
    rw [e]
    exact okD_put h hk (fun t ht => Or.inl ht)
  · have e : (aAct rN N l k c W).2 = W := by
      simp only [aAct, c1]
      rfl
    rw [e]
    exact h
  · have e : (aAct rN N l k c W).2 = aAdd l (7, (aAt W k).1.1, rN (-1), aVal N W k (N 252 c), none) W := by
      simp only [aAct, c1]
      rfl
    rw [e]
    exact okD_eq h rfl rfl
theorem dd_run {M nv ns p B : Nat} (h6 : np ≤ 6) (hM : M < 2 ^ 20) (hp : p < np) (hns : ns = (sts N p).length) : ∀ (r : Nat) (as : List Nat) (W : aW Nm) (a : aI Nm), okW N np B W → okD D W → W.1[k]? = some a → a.1.2.1 = nI p → vB N M nv ns np r as → okD D (aRun rN N l k r as W).2 := by
  intro r
  induction r with
  | zero => intro as W a h hd hk hpr hv; exact hv.elim
  | succ r ih =>
    intro as W a h hd hk hpr hv
    cases as with
    | nil => exact hd
    | cons c as =>
      obtain ⟨hv1, hv2⟩ := hv
      have cont : ∀ (z : Int32 × aW Nm), okW N np B z.2 → okD D z.2 → kpt k W z.2 → okD D (if z.1 = 0 then aRun rN N l k r as z.2 else z).2 := by
        intro z hz hdz hkz
        by_cases e : z.1 = 0
        · rw [if_pos e]
          obtain ⟨a', q1, q2, q3⟩ := hkz a hk
          exact ih as z.2 a' hz hdz q1 (q3.trans hpr) hv1
        · rw [if_neg e]
          exact hdz
      rcases hv2 with hv2 | ⟨_, c1, e, f, c2, xe, c3, vk, vb, hg⟩
      · have hne : ¬ N 251 c = 18 := by
          rcases hv2.2 with ⟨c1, _⟩ | ⟨c1, _⟩ | ⟨c1, _⟩ | c1 | ⟨c1, _⟩ | ⟨c1, _⟩ | c1 | ⟨c1, _⟩ <;> (rw [c1]; decide)
        have := ok_act (rN := rN) (l := l) h6 h hk hpr hp hns hv2
        have e : aRun rN N l k (r + 1) (c :: as) W = (if (aAct rN N l k c W).1 = 0 then aRun rN N l k r as (aAct rN N l k c W).2 else aAct rN N l k c W) := by
          simp only [aRun, hne, if_false]
        rw [e]
        exact cont _ this.1 (dd_act hd hk hv2) this.2
      · have hf : ix (N 253 c) = f := by rw [c3]; exact nI_clamp (by have := vk.1; omega)
        by_cases hz : ¬ aVal N W k (N 252 c) = 0
        · have e : aRun rN N l k (r + 1) (c :: as) W = (if (aRun rN N l k r (acts N f) W).1 = 0 then aRun rN N l k r as (aRun rN N l k r (acts N f) W).2 else aRun rN N l k r (acts N f) W) := by
            simp only [aRun, c1, if_true, hf]
            rw [if_pos hz]
          rw [e]
          have := ok_run (rN := rN) (l := l) h6 hM hp hns r (acts N f) W a h hk hpr vb
          exact cont _ this.1 (ih (acts N f) W a h hd hk hpr vb) this.2
        · rcases hg with hg | ⟨g, hg, vkg, vbg⟩
          · have e : aRun rN N l k (r + 1) (c :: as) W = aRun rN N l k r as W := by
              simp only [aRun, c1, if_true]
              rw [if_neg hz, if_pos (by rw [hg]; decide)]
            rw [e]
            exact ih as W a h hd hk hpr hv1
          · have hgx : ix (N 254 c) = g := by rw [hg]; exact nI_clamp (by have := vkg.1; omega)
            have e : aRun rN N l k (r + 1) (c :: as) W = (if (aRun rN N l k r (acts N g) W).1 = 0 then aRun rN N l k r as (aRun rN N l k r (acts N g) W).2 else aRun rN N l k r (acts N g) W) := by
              simp only [aRun, c1, if_true, hgx]
              rw [if_neg hz, if_neg (by rw [hg]; exact nI_pos (by have := vkg.1; omega))]
            rw [e]
            have := ok_run (rN := rN) (l := l) h6 hM hp hns r (acts N g) W a h hk hpr vbg
            exact cont _ this.1 (ih (acts N g) W a h hd hk hpr vbg) this.2
/-- behind a body -/
theorem ok_body {M p B x : Nat} {c : Prop} [Decidable c] (hvN : vN N M np) (hp : p < np) (h : okW N np B W) (hd : okD D W) (hk : W.1[k]? = some a) (hpr : a.1.2.1 = nI p) (hvb : vB N M (lets N p).length (sts N p).length np RD (acts N x)) : okW N np (B + 1) (if c then aGone rN l k (aRun rN N l k RD (acts N x) W).2 else (aRun rN N l k RD (acts N x) W).2) ∧ okD D (if c then aGone rN l k (aRun rN N l k RD (acts N x) W).2 else (aRun rN N l k RD (acts N x) W).2) := by
  have hr := ok_run (rN := rN) (l := l) hvN.1 hvN.2.2.1 hp rfl RD (acts N x) W a h hk hpr hvb
  have hdr := dd_run (rN := rN) (l := l) hvN.1 hvN.2.2.1 hp rfl RD (acts N x) W a h hd hk hpr hvb
  obtain ⟨a1, b1, _⟩ := hr.2 a hk
  by_cases hc : c
  · rw [if_pos hc]
    refine ⟨okW_gone hr.1 (lt_of_some b1) rfl rfl, okD_sub hdr (fun c hc => Or.inl ?_) rfl⟩
    exact (List.eraseIdx_sublist _ _).subset hc
  · rw [if_neg hc]
    exact ⟨okW_le (by omega) hr.1, hdr⟩
theorem ok_turn {M B : Nat} (hvN : vN N M np) (h : okW N np B W) (hd : okD D W) (hk : W.1[k]? = some a) : okW N np (B + 1) (aTurn rN N l k W).2 ∧ okD D (aTurn rN N l k W).2 := by
  have hat := aAt_of hk
  obtain ⟨p_, hp, hpr, hva, hst, hq8, ht4⟩ := h.2.1 k a hk
  have n6 := hvN.1
  have hM := hvN.2.2.1
  have vp := hvN.2.2.2 p_ hp
  have hpx : ix a.1.2.1 = p_ := by rw [hpr]; exact nI_clamp (by omega)
  obtain ⟨kd, i, c, hpa⟩ : ∃ kd i c, aPlan rN N W.2.1.2.1 a = (kd, i, c) := ⟨_, _, _, rfl⟩
  have hTu : aTurn rN N l k W = aTurnB rN N l k kd i c W := aTurn_B (by rw [hat]; exact hpa)
  rw [hTu]
  rcases aPlan_at hpa with ⟨rfl, rfl, rfl⟩ | ⟨rfl, hneg, rfl, rfl⟩ | ⟨hng, hcase⟩
  · unfold aTurnB
    rw [if_pos rfl]
    exact ⟨okW_le (by omega) h, hd⟩
  · obtain ⟨x, h1, h2, h3, h4⟩ := vp.2.2.2.2.2.2.2.1
    have hxx : ix (N 258 (pnd N p_)) = x := by rw [h1]; exact nI_clamp (by have := h2.1; omega)
    unfold aTurnB
    rw [if_neg (by decide), hat, hpx]
    simp only [if_true]
    rw [if_neg (by decide), hxx]
    exact ok_body hvN hp h hd hk hpr h3
  · obtain ⟨s, hs, hst⟩ : ∃ s, s < (sts N p_).length ∧ a.1.2.2.1 = nI s := by
      rcases hst with hst | hst
      · rw [hst] at hng; exact absurd (by decide) hng
      · exact hst
    have s8 : (sts N p_).length ≤ 8 := vp.2.2.2.2.2.2.1
    have hsx : ix a.1.2.2.1 = s := by rw [hst]; exact nI_clamp (by omega)
    rw [hpx, hsx] at hcase
    unfold aTurnB
    rw [hat, hpx, hsx]
    obtain ⟨y, hy⟩ : ∃ y, (sts N p_)[s]? = some y := ⟨_, List.getElem?_eq_getElem hs⟩
    obtain ⟨y1, y2, y3, y4⟩ := vp.2.2.2.2.2.2.2.2 s y hy
    have tk : ∀ (kd : Int32) (i' : Nat) (q : aS Nm) (c : Option Nat), a.2.2.1[i']? = some q → okW N np B (aTake rN N l k i' kd c W) ∧ okD D (aTake rN N l k i' kd c W) ∧ ∃ a1, (aTake rN N l k i' kd c W).1[k]? = some a1 ∧ a1.1.2.1 = nI p_ := by
      intro kd i' q c hqi
      rw [aTake_eq hk hqi]
      refine ⟨okW_eq (okW_put (a' := ((a.1.1, a.1.2.1, a.1.2.2.1, a.1.2.2.2.1, q.2.2.1, a.1.2.2.2.2.2), tkV N kd a c q.2.1, a.2.2.1.eraseIdx i', a.2.2.2)) h hk ⟨p_, hp, hpr, (tkV_len (N := N) (kd := kd) (c := c) (v := q.2.1) (a := a)).trans hva, Or.inr ⟨s, hs, hst⟩, Nat.le_trans (List.eraseIdx_sublist _ _).length_le hq8, ht4⟩ rfl rfl) rfl rfl, okD_eq (okD_put (a' := ((a.1.1, a.1.2.1, a.1.2.2.1, a.1.2.2.2.1, q.2.2.1, a.1.2.2.2.2.2), tkV N kd a c q.2.1, a.2.2.1.eraseIdx i', a.2.2.2)) hd hk (fun t ht => Or.inl ht)) rfl rfl, _, aPut_at (lt_of_some hk), hpr⟩
    rcases hcase with ⟨rfl, rfl, i', q, rfl, hqi⟩ | ⟨hkd, i', q, c', cn, rfl, hqi, rfl, hcn, hck⟩ | ⟨rfl, rfl, c', cn, rfl, hcn, hck⟩
    · obtain ⟨k1, k2, _⟩ := tk 5 i' q none hqi
      rw [if_neg (by decide)]
      simp only [if_true]
      exact ⟨okW_le (by omega) (okW_eq k1 rfl rfl), okD_eq k2 rfl rfl⟩
    · obtain ⟨k1, k2, a1, k3, k4⟩ := tk kd i' q (some c') hqi
      have hgd : (cls N p_ s).getD c' 0 = cn := by rw [List.getD_eq_getElem?_getD, hcn]; rfl
      have hvc := y4 c' cn hcn
      obtain ⟨x, hx1, hx2, hx3, hx4⟩ : ∃ x, N 254 cn = nI x ∧ vK N M x ∧ vB N M (lets N p_).length (sts N p_).length np RD (acts N x) ∧ nB N 9 RD (acts N x) := by
        rcases hvc.2 with ⟨_, _, h⟩ | h | ⟨_, h⟩ | ⟨_, _, h⟩
        · exact h
        · rcases hck with ⟨_, h'⟩ | ⟨_, h'⟩ | ⟨_, h'⟩ <;> (rw [h] at h'; exact absurd h' (by decide))
        · exact h
        · exact h
      have hxx : ix (N 254 cn) = x := by rw [hx1]; exact nI_clamp (by have := hx2.1; omega)
      have g0 : ¬ kd = 0 := by rcases hkd with rfl | rfl | rfl <;> decide
      have g5 : ¬ kd = 5 := by rcases hkd with rfl | rfl | rfl <;> decide
      have g1 : ¬ kd = 1 := by rcases hkd with rfl | rfl | rfl <;> decide
      rw [if_neg g0]
      simp only [g5, if_false, g1]
      rw [hgd, hxx]
      exact ok_body hvN hp k1 k2 k3 k4 hx3
    · have hgd : (cls N p_ s).getD c' 0 = cn := by rw [List.getD_eq_getElem?_getD, hcn]; rfl
      have hvc := y4 c' cn hcn
      obtain ⟨x, hx1, hx2, hx3, hx4⟩ : ∃ x, N 254 cn = nI x ∧ vK N M x ∧ vB N M (lets N p_).length (sts N p_).length np RD (acts N x) ∧ nB N 9 RD (acts N x) := by
        rcases hvc.2 with ⟨h, _⟩ | h | ⟨h, _⟩ | ⟨_, _, h⟩
        · rcases h with h | h <;> (rw [h] at hck; exact absurd hck (by decide))
        · rw [h] at hck; exact absurd hck (by decide)
        · rw [h] at hck; exact absurd hck (by decide)
        · exact h
      have hxx : ix (N 254 cn) = x := by rw [hx1]; exact nI_clamp (by have := hx2.1; omega)
      rw [if_neg (by decide)]
      simp only
      rw [if_neg (by decide), hgd]
      have h61 : ¬ (6 : Int32) = 1 := by decide
      simp only [h61, if_false]
      rw [hxx]
      exact ok_body hvN hp h hd hk hpr hx3
end OKD
