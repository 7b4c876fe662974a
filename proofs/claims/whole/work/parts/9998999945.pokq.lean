/-! whose signals are: what the trace and the queues tell of processes -/
def oP (np : Nat) (x : Int32) : Prop := ∃ p, p < np ∧ x = nI p
def oE (np : Nat) (e : aE Nm) : Prop := ¬ e.1 < 0 ∧ ∀ x y, e.2.2.2.2 = some (x, y) → (x = -1 ∨ oP np x) ∧ (y = -1 ∨ oP np y)
def oI (np : Nat) (a : aI Nm) : Prop := oP np a.1.2.1 ∧ ∀ s, s ∈ a.2.2.1 → s.2.2.2 = -1 ∨ s.2.2.2 = -2 ∨ oP np s.2.2.2
def okQ (np : Nat) (W : aW Nm) : Prop := (∀ a, a ∈ W.1 → oI np a) ∧ ∀ e, e ∈ W.2.2.1.1 → oE np e
section OKQ
variable {rN : Int32 → Nm} {N : Nat → Nat → Int32} {np k : Nat} {W : aW Nm} {a : aI Nm} {l : Bool}
theorem oE_n {x0 x1 : Int32} {x2 : Nm} {x3 : Int32} (h0 : ¬ x0 < 0) : oE np (x0, x1, x2, x3, none) := ⟨h0, fun x y h => by cases h⟩
theorem okQ_eq {W' : aW Nm} (h : okQ np W) (h1 : W'.1 = W.1) (h2 : W'.2.2.1 = W.2.2.1) : okQ np W' := by
  unfold okQ at h ⊢
  rw [h1, h2]
  exact h
theorem okQ_add {e : aE Nm} (h : okQ np W) (he : oE np e) : okQ np (aAdd l e W) := by
  refine ⟨h.1, fun e' h' => ?_⟩
  have h'' : e' ∈ (aEv l e W.2.2.1).1 := h'
  unfold aEv at h''
  by_cases hl : l = true
  · rw [if_pos hl] at h''
    by_cases hn : W.2.2.1.1.length < 400
    · rw [if_pos hn] at h''
      rcases List.mem_append.mp h'' with x | x
      · exact h.2 e' x
      · rw [List.mem_singleton.mp x]; exact he
    · rw [if_neg hn] at h''
      exact h.2 e' h''
  · rw [if_neg hl] at h''
    exact h.2 e' h''
theorem okQ_lose {who : Int32} {x : Nm} {v : Int32} (h : okQ np W) : okQ np (aLose l who x v W) := okQ_add (okQ_eq (W' := (W.1, (W.2.1.1, W.2.1.2.1, if l = true then W.2.1.2.2.1 + 1 else W.2.1.2.2.1, W.2.1.2.2.2), W.2.2.1, (W.2.2.2.1 + 1, W.2.2.2.2))) h rfl rfl) (oE_n (by decide))
theorem okQ_put {a' : aI Nm} (h : okQ np W) (ha : oI np a') : okQ np (aPut k a' W) := by
  refine ⟨fun c hc => ?_, h.2⟩
  rcases List.mem_or_eq_of_mem_set hc with x | x
  · exact h.1 c x
  · rw [x]; exact ha
theorem okQ_at (h : okQ np W) (hk : W.1[k]? = some a) : oI np a := h.1 a (List.mem_of_getElem? hk)
theorem oI_s {a' : aI Nm} (h : oI np a) (h1 : a'.1.2.1 = a.1.2.1) (h2 : ∀ s, s ∈ a'.2.2.1 → s ∈ a.2.2.1) : oI np a' := ⟨by rw [h1]; exact h.1, fun s hs => h.2 s (h2 s hs)⟩
theorem oI_acc {s : aS Nm} (h : oI np a) (hs : s.2.2.2 = -1 ∨ s.2.2.2 = -2 ∨ oP np s.2.2.2) : oI np (aAcc s a) := ⟨h.1, fun s' h' => by
  rcases List.mem_append.mp h' with x | x
  · exact h.2 s' x
  · rw [List.mem_singleton.mp x]; exact hs⟩
theorem qq_to {x : Nm} {v : Int32} {to : Option Nat} (h : okQ np W) (hk : W.1[k]? = some a) (ht : ∀ j, to = some j → j < W.1.length) : okQ np (aTo l k x v to W) := by
  unfold aTo
  have pa := (okQ_at h hk).1
  cases to with
  | none => exact okQ_lose (okQ_add h (oE_n (by decide)))
  | some j =>
    obtain ⟨c, hc⟩ : ∃ c, W.1[j]? = some c := ⟨_, List.getElem?_eq_getElem (ht j rfl)⟩
    have pc := okQ_at h hc
    simp only
    rw [aAt_of hc, aAt_of hk]
    by_cases h8 : c.2.2.1.length < 8
    · rw [if_pos h8]
      refine okQ_add (okQ_put h (oI_acc pc (Or.inr (Or.inr pa)))) ⟨(show ¬ (0 : Int32) < 0 by decide), fun x' y' e => ?_⟩
      simp only [Option.some.injEq, Prod.mk.injEq] at e
      obtain ⟨e1, e2⟩ := e
      subst e1
      subst e2
      exact ⟨Or.inr pa, Or.inr pc.1⟩
    · rw [if_neg h8]
      exact okQ_lose (okQ_add h (oE_n (by decide)))
theorem reset_q {x : Nm} : (∀ s, s ∈ (aReset x a).2.2.1 → s ∈ a.2.2.1) ∧ (aReset x a).1 = a.1 := by
  unfold aReset aClean
  cases e : aTm x a with
  | none => exact ⟨fun s hs => (List.mem_filter.mp hs).1, rfl⟩
  | some i => exact ⟨fun s hs => (List.mem_filter.mp hs).1, rfl⟩
theorem oI_reset {x : Nm} (h : oI np a) : oI np (aReset x a) := oI_s h (by rw [reset_q.2]) reset_q.1
theorem qq_setT {x : Nm} {v : Int32} (h : okQ np W) (hk : W.1[k]? = some a) : okQ np (aSetT l k x v W) := by
  unfold aSetT
  rw [aAt_of hk]
  have pa := okQ_at h hk
  obtain ⟨c, hc, c2⟩ : ∃ c, c = (if (aTm x a).isSome = true then aReset x a else a) ∧ oI np c := by
    by_cases e : (aTm x a).isSome = true
    · exact ⟨_, rfl, by rw [if_pos e]; exact oI_reset pa⟩
    · exact ⟨_, rfl, by rw [if_neg e]; exact pa⟩
  rw [← hc]
  simp only
  by_cases h4 : c.2.2.2.length < 4
  · rw [if_pos h4]
    exact okQ_put h (oI_s c2 rfl (fun s hs => hs))
  · rw [if_neg h4]
    exact okQ_lose (okQ_put h c2)
theorem okQ_new {p : Nat} {mk : Int32} (h : okQ np W) (hp : p < np) : okQ np (aFresh rN N l p mk W) := by
  unfold aFresh
  refine okQ_add ⟨fun c hc => ?_, h.2⟩ (oE_n (by decide))
  rcases List.mem_append.mp hc with x | x
  · exact h.1 c x
  · rw [List.mem_singleton.mp x]
    exact ⟨⟨p, hp, rfl⟩, fun s hs => by cases hs⟩
theorem qq_make {p : Nat} (h : okQ np W) (hk : W.1[k]? = some a) (hp : p < np) : okQ np (aMake rN N l k p W) := by
  unfold aMake
  rw [aAt_of hk]
  have pa := okQ_at h hk
  by_cases hc : W.1.length = 8 ∨ aMany W (nI p) = 4
  · rw [if_pos hc]
    exact okQ_lose (okQ_put h (oI_s pa rfl (fun s hs => hs)))
  · rw [if_neg hc]
    exact okQ_new (okQ_put h (oI_s pa rfl (fun s hs => hs))) hp
theorem qq_act {M nv ns : Nat} {c : Nat} (h6 : np ≤ 6) (h : okQ np W) (hk : W.1[k]? = some a) (hv : vA N M nv ns np c) : okQ np (aAct rN N l k c W).2 := by
  have pa := okQ_at h hk
  rcases hv.2 with ⟨c1, e, j, _, _, _, _⟩ | ⟨c1, c2, c3⟩ | ⟨c1, _⟩ | c1 | ⟨c1, t, ht, c2⟩ | ⟨c1, s, hs, c2⟩ | c1 | ⟨c1, _⟩
  · have e : (aAct rN N l k c W).2 = aPut k (a.1, a.2.1.set (ix (N 254 c)) (aVal N W k (N 253 c)), a.2.2) W := by
      simp only [aAct, c1, aAt_of hk]
      rfl
    rw [e]
    exact okQ_put h (oI_s pa rfl (fun s hs => hs))
  · have e : (aAct rN N l k c W).2 = (match aGoal N W k c with
      | none => aAdd l (0, (aAt W k).1.1, rN (N 252 c), if N 253 c < 0 then 0 else aVal N W k (N 253 c), some ((aAt W k).1.2.1, -1)) W
      | some to => aTo l k (rN (N 252 c)) (if N 253 c < 0 then 0 else aVal N W k (N 253 c)) to W) := by
      simp only [aAct, c1]
      rfl
    rw [e]
    cases hg : aGoal N W k c with
    | none =>
      refine okQ_add h ⟨(show ¬ (0 : Int32) < 0 by decide), fun x' y' e => ?_⟩
      simp only [Option.some.injEq, Prod.mk.injEq] at e
      obtain ⟨e1, e2⟩ := e
      subst e1
      subst e2
      rw [aAt_of hk]
      exact ⟨Or.inr pa.1, Or.inl rfl⟩
    | some to =>
      refine qq_to h hk ?_
      intro j hj
      subst hj
      unfold aGoal at hg
      split at hg
      · have := Option.some.inj hg
        unfold aLeast at this
        exact (List.findIdx?_eq_some_iff_getElem.mp this).1
      · split at hg
        · cases hg
        · have := Option.some.inj hg
          unfold aSlot at this
          exact (List.findIdx?_eq_some_iff_getElem.mp this).1
  · have e : (aAct rN N l k c W).2 = aSetT l k (rN (N 252 c)) (aVal N W k (N 253 c)) W := by
      simp only [aAct, c1]
      rfl
    rw [e]
    exact qq_setT h hk
  · have e : (aAct rN N l k c W).2 = aPut k (aReset (rN (N 252 c)) a) W := by
      simp only [aAct, c1, aAt_of hk]
      rfl
    rw [e]
    exact okQ_put h (oI_reset pa)
  · have e : (aAct rN N l k c W).2 = aMake rN N l k (ix (N 253 c)) W := by
      simp only [aAct, c1]
      rfl
    rw [e]
    exact qq_make h hk (by rw [c2, show ix (nI t) = t from nI_clamp (by omega)]; exact ht)
  · have e : (aAct rN N l k c W).2 = aPut k ((a.1.1, a.1.2.1, N 253 c, a.1.2.2.2), a.2) W := by
      simp only [aAct, c1, aAt_of hk]
      rfl
    rw [e]
    exact okQ_put h (oI_s pa rfl (fun s hs => hs))
  · have e : (aAct rN N l k c W).2 = W := by
      simp only [aAct, c1]
      rfl
    rw [e]
    exact h
  · have e : (aAct rN N l k c W).2 = aAdd l (7, (aAt W k).1.1, rN (-1), aVal N W k (N 252 c), none) W := by
      simp only [aAct, c1]
      rfl
    rw [e]
    exact okQ_add h (oE_n (by decide))
theorem qq_run {M nv ns p B : Nat} (h6 : np ≤ 6) (hM : M < 2 ^ 20) (hp : p < np) (hns : ns = (sts N p).length) : ∀ (r : Nat) (as : List Nat) (W : aW Nm) (a : aI Nm), okW N np B W → okQ np W → W.1[k]? = some a → a.1.2.1 = nI p → vB N M nv ns np r as → okQ np (aRun rN N l k r as W).2 := by
  intro r
  induction r with
  | zero => intro as W a h hd hk hpr hv; exact hv.elim
  | succ r ih =>
    intro as W a h hd hk hpr hv
    cases as with
    | nil => exact hd
    | cons c as =>
      obtain ⟨hv1, hv2⟩ := hv
      have cont : ∀ (z : Int32 × aW Nm), okW N np B z.2 → okQ np z.2 → kpt k W z.2 → okQ np (if z.1 = 0 then aRun rN N l k r as z.2 else z).2 := by
        intro z hz hdz hkz
        by_cases e : z.1 = 0
        · rw [if_pos e]
          obtain ⟨a', q1, q2, q3⟩ := hkz a hk
          exact ih as z.2 a' hz hdz q1 (q3.trans hpr) hv1
        · rw [if_neg e]
          exact hdz
      rcases hv2 with hv2 | ⟨_, c1, e, f, c2, xe, c3, vk, vb, hg⟩
      · have hne : ¬ N 251 c = 18 := by
          rcases hv2.2 with ⟨c1, _⟩ | ⟨c1, _⟩ | ⟨c1, _⟩ | c1 | ⟨c1, _⟩ | ⟨c1, _⟩ | c1 | ⟨c1, _⟩ <;> (rw [c1]; decide)
        have := ok_act (rN := rN) (l := l) h6 h hk hpr hp hns hv2
        have e : aRun rN N l k (r + 1) (c :: as) W = (if (aAct rN N l k c W).1 = 0 then aRun rN N l k r as (aAct rN N l k c W).2 else aAct rN N l k c W) := by
          simp only [aRun, hne, if_false]
        rw [e]
        exact cont _ this.1 (qq_act h6 hd hk hv2) this.2
      · have hf : ix (N 253 c) = f := by rw [c3]; exact nI_clamp (by have := vk.1; omega)
        by_cases hz : ¬ aVal N W k (N 252 c) = 0
        · have e : aRun rN N l k (r + 1) (c :: as) W = (if (aRun rN N l k r (acts N f) W).1 = 0 then aRun rN N l k r as (aRun rN N l k r (acts N f) W).2 else aRun rN N l k r (acts N f) W) := by
            simp only [aRun, c1, if_true, hf]
            rw [if_pos hz]
          rw [e]
          have := ok_run (rN := rN) (l := l) h6 hM hp hns r (acts N f) W a h hk hpr vb
          exact cont _ this.1 (ih (acts N f) W a h hd hk hpr vb) this.2
        · rcases hg with hg | ⟨g, hg, vkg, vbg⟩
          · have e : aRun rN N l k (r + 1) (c :: as) W = aRun rN N l k r as W := by
              simp only [aRun, c1, if_true]
              rw [if_neg hz, if_pos (by rw [hg]; decide)]
            rw [e]
            exact ih as W a h hd hk hpr hv1
          · have hgx : ix (N 254 c) = g := by rw [hg]; exact nI_clamp (by have := vkg.1; omega)
            have e : aRun rN N l k (r + 1) (c :: as) W = (if (aRun rN N l k r (acts N g) W).1 = 0 then aRun rN N l k r as (aRun rN N l k r (acts N g) W).2 else aRun rN N l k r (acts N g) W) := by
              simp only [aRun, c1, if_true, hgx]
              rw [if_neg hz, if_neg (by rw [hg]; exact nI_pos (by have := vkg.1; omega))]
            rw [e]
            have := ok_run (rN := rN) (l := l) h6 hM hp hns r (acts N g) W a h hk hpr vbg
            exact cont _ this.1 (ih (acts N g) W a h hd hk hpr vbg) this.2
/-- behind a body -/
theorem qq_body {M p B x : Nat} {c : Prop} [Decidable c] (hvN : vN N M np) (hp : p < np) (h : okW N np B W) (hd : okQ np W) (hk : W.1[k]? = some a) (hpr : a.1.2.1 = nI p) (hvb : vB N M (lets N p).length (sts N p).length np RD (acts N x)) : okW N np (B + 1) (if c then aGone rN l k (aRun rN N l k RD (acts N x) W).2 else (aRun rN N l k RD (acts N x) W).2) ∧ okQ np (if c then aGone rN l k (aRun rN N l k RD (acts N x) W).2 else (aRun rN N l k RD (acts N x) W).2) := by
  have hr := ok_run (rN := rN) (l := l) hvN.1 hvN.2.2.1 hp rfl RD (acts N x) W a h hk hpr hvb
  have hdr := qq_run (rN := rN) (l := l) hvN.1 hvN.2.2.1 hp rfl RD (acts N x) W a h hd hk hpr hvb
  obtain ⟨a1, b1, _⟩ := hr.2 a hk
  by_cases hc : c
  · rw [if_pos hc]
    refine ⟨okW_gone hr.1 (lt_of_some b1) rfl rfl, ?_⟩
    unfold aGone
    exact okQ_add ⟨fun c hc => hdr.1 c ((List.eraseIdx_sublist _ _).subset hc), hdr.2⟩ (oE_n (by decide))
  · rw [if_neg hc]
    exact ⟨okW_le (by omega) hr.1, hdr⟩
theorem qq_turn {M B : Nat} (hvN : vN N M np) (h : okW N np B W) (hd : okQ np W) (hk : W.1[k]? = some a) : okW N np (B + 1) (aTurn rN N l k W).2 ∧ okQ np (aTurn rN N l k W).2 := by
  have hat := aAt_of hk
  obtain ⟨p_, hp, hpr, hva, hst, hq8, ht4⟩ := h.2.1 k a hk
  have n6 := hvN.1
  have hM := hvN.2.2.1
  have vp := hvN.2.2.2 p_ hp
  have hpx : ix a.1.2.1 = p_ := by rw [hpr]; exact nI_clamp (by omega)
  obtain ⟨kd, i, c, hpa⟩ : ∃ kd i c, aPlan rN N W.2.1.2.1 a = (kd, i, c) := ⟨_, _, _, rfl⟩
  have hTu : aTurn rN N l k W = aTurnB rN N l k kd i c W := aTurn_B (by rw [hat]; exact hpa)
  rw [hTu]
  rcases aPlan_at hpa with ⟨rfl, rfl, rfl⟩ | ⟨rfl, hneg, rfl, rfl⟩ | ⟨hng, hcase⟩
  · unfold aTurnB
    rw [if_pos rfl]
    exact ⟨okW_le (by omega) h, hd⟩
  · obtain ⟨x, h1, h2, h3, h4⟩ := vp.2.2.2.2.2.2.2.1
    have hxx : ix (N 258 (pnd N p_)) = x := by rw [h1]; exact nI_clamp (by have := h2.1; omega)
    unfold aTurnB
    rw [if_neg (by decide), hat, hpx]
    simp only [if_true]
    rw [if_neg (by decide), hxx]
    exact qq_body hvN hp h hd hk hpr h3
  · obtain ⟨s, hs, hst⟩ : ∃ s, s < (sts N p_).length ∧ a.1.2.2.1 = nI s := by
      rcases hst with hst | hst
      · rw [hst] at hng; exact absurd (by decide) hng
      · exact hst
    have s8 : (sts N p_).length ≤ 8 := vp.2.2.2.2.2.2.1
    have hsx : ix a.1.2.2.1 = s := by rw [hst]; exact nI_clamp (by omega)
    rw [hpx, hsx] at hcase
    unfold aTurnB
    rw [hat, hpx, hsx]
    obtain ⟨y, hy⟩ : ∃ y, (sts N p_)[s]? = some y := ⟨_, List.getElem?_eq_getElem hs⟩
    obtain ⟨y1, y2, y3, y4⟩ := vp.2.2.2.2.2.2.2.2 s y hy
    have tk : ∀ (kd : Int32) (i' : Nat) (q : aS Nm) (c : Option Nat), a.2.2.1[i']? = some q → okW N np B (aTake rN N l k i' kd c W) ∧ okQ np (aTake rN N l k i' kd c W) ∧ ∃ a1, (aTake rN N l k i' kd c W).1[k]? = some a1 ∧ a1.1.2.1 = nI p_ := by
      intro kd i' q c hqi
      rw [aTake_eq hk hqi]
      refine ⟨okW_eq (okW_put (a' := ((a.1.1, a.1.2.1, a.1.2.2.1, a.1.2.2.2.1, q.2.2.1, a.1.2.2.2.2.2), tkV N kd a c q.2.1, a.2.2.1.eraseIdx i', a.2.2.2)) h hk ⟨p_, hp, hpr, (tkV_len (N := N) (kd := kd) (c := c) (v := q.2.1) (a := a)).trans hva, Or.inr ⟨s, hs, hst⟩, Nat.le_trans (List.eraseIdx_sublist _ _).length_le hq8, ht4⟩ rfl rfl) rfl rfl, okQ_add (okQ_put hd (oI_s (okQ_at hd hk) rfl (fun s hs => (List.eraseIdx_sublist _ _).subset hs))) ⟨by show ¬ (if kd = 5 then (2 : Int32) else 1) < 0; split <;> decide, fun x' y' e => by
        have hq4 := (okQ_at hd hk).2 q (List.mem_of_getElem? hqi)
        have e0 : (if kd = 5 ∨ q.2.2.2 = -2 then none else some (a.1.2.1, q.2.2.2)) = some (x', y') := e
        by_cases hn : kd = 5 ∨ q.2.2.2 = -2
        · rw [if_pos hn] at e0; cases e0
        · rw [if_neg hn] at e0
          simp only [Option.some.injEq, Prod.mk.injEq] at e0
          obtain ⟨e1, e2⟩ := e0
          subst e1
          subst e2
          refine ⟨Or.inr (okQ_at hd hk).1, ?_⟩
          rcases hq4 with z | z | z
          · exact Or.inl z
          · exact absurd (Or.inr z) hn
          · exact Or.inr z⟩, _, aPut_at (lt_of_some hk), hpr⟩
    rcases hcase with ⟨rfl, rfl, i', q, rfl, hqi⟩ | ⟨hkd, i', q, c', cn, rfl, hqi, rfl, hcn, hck⟩ | ⟨rfl, rfl, c', cn, rfl, hcn, hck⟩
    · obtain ⟨k1, k2, _⟩ := tk 5 i' q none hqi
      rw [if_neg (by decide)]
      simp only [if_true]
      exact ⟨okW_le (by omega) (okW_eq k1 rfl rfl), okQ_eq k2 rfl rfl⟩
    · obtain ⟨k1, k2, a1, k3, k4⟩ := tk kd i' q (some c') hqi
      have hgd : (cls N p_ s).getD c' 0 = cn := by rw [List.getD_eq_getElem?_getD, hcn]; rfl
      have hvc := y4 c' cn hcn
      obtain ⟨x, hx1, hx2, hx3, hx4⟩ : ∃ x, N 254 cn = nI x ∧ vK N M x ∧ vB N M (lets N p_).length (sts N p_).length np RD (acts N x) ∧ nB N 9 RD (acts N x) := by
        rcases hvc.2 with ⟨_, _, h⟩ | h | ⟨_, h⟩ | ⟨_, _, h⟩
        · exact h
        · rcases hck with ⟨_, h'⟩ | ⟨_, h'⟩ | ⟨_, h'⟩ <;> (rw [h] at h'; exact absurd h' (by decide))
        · exact h
        · exact h
      have hxx : ix (N 254 cn) = x := by rw [hx1]; exact nI_clamp (by have := hx2.1; omega)
      have g0 : ¬ kd = 0 := by rcases hkd with rfl | rfl | rfl <;> decide
      have g5 : ¬ kd = 5 := by rcases hkd with rfl | rfl | rfl <;> decide
      have g1 : ¬ kd = 1 := by rcases hkd with rfl | rfl | rfl <;> decide
      rw [if_neg g0]
      simp only [g5, if_false, g1]
      rw [hgd, hxx]
      exact qq_body hvN hp k1 k2 k3 k4 hx3
    · have hgd : (cls N p_ s).getD c' 0 = cn := by rw [List.getD_eq_getElem?_getD, hcn]; rfl
      have hvc := y4 c' cn hcn
      obtain ⟨x, hx1, hx2, hx3, hx4⟩ : ∃ x, N 254 cn = nI x ∧ vK N M x ∧ vB N M (lets N p_).length (sts N p_).length np RD (acts N x) ∧ nB N 9 RD (acts N x) := by
        rcases hvc.2 with ⟨h, _⟩ | h | ⟨h, _⟩ | ⟨_, _, h⟩
        · rcases h with h | h <;> (rw [h] at hck; exact absurd hck (by decide))
        · rw [h] at hck; exact absurd hck (by decide)
        · rw [h] at hck; exact absurd hck (by decide)
        · exact h
      have hxx : ix (N 254 cn) = x := by rw [hx1]; exact nI_clamp (by have := hx2.1; omega)
      rw [if_neg (by decide)]
      simp only
      rw [if_neg (by decide), hgd]
      have h61 : ¬ (6 : Int32) = 1 := by decide
      simp only [h61, if_false]
      rw [hxx]
      exact qq_body hvN hp h hd hk hpr hx3
theorem qq_runs {M : Nat} (hvN : vN N M np) : ∀ (r B : Nat) (W : aW Nm), okW N np B W → okQ np W → (∀ k, aNext rN N W = some k → True) → okQ np (aRuns rN N r W).2 := by
  intro r
  induction r with
  | zero => intro B W _ hq _; exact hq
  | succ r ih =>
    intro B W hw hq _
    unfold aRuns
    cases hn : aNext rN N W with
    | none => exact hq
    | some k =>
      obtain ⟨a, hk⟩ := aNext_at hn
      replace hk : (aLast (aAt W k).1.1 W).1[k]? = some a := hk
      obtain ⟨k1, k2⟩ := qq_turn (rN := rN) (l := true) hvN (okW_last (x := (aAt W k).1.1) hw) (okQ_eq (W' := aLast (aAt W k).1.1 W) hq rfl rfl) hk
      exact ih (B + 1) _ k1 k2 (fun _ _ => trivial)
theorem qq_fire {i : Nat} (h : okQ np W) (hk : W.1[k]? = some a) : okQ np (aFire rN l k i W) := by
  unfold aFire
  rw [aAt_of hk]
  have pa := okQ_at h hk
  simp only
  have p1 : oI np (aDropT i a) := oI_s pa rfl (fun s hs => hs)
  by_cases h8 : (aDropT i a).2.2.1.length < 8
  · rw [if_pos h8]
    exact okQ_add (okQ_put h (oI_acc p1 (Or.inr (Or.inl rfl)))) (oE_n (by decide))
  · rw [if_neg h8]
    exact okQ_lose (okQ_add (okQ_put h p1) (oE_n (by decide)))
theorem qq_time : ∀ (r : Nat) (W : aW Nm), okQ np W → okQ np (aTime rN l r W).2 := by
  intro r
  induction r with
  | zero => intro W h; exact h
  | succ r ih =>
    intro W h
    unfold aTime
    cases hd : aDue W.1 0 none with
    | none => exact h
    | some y =>
      obtain ⟨d, k, i⟩ := y
      simp only
      by_cases hw : W.2.1.2.1 < d
      · rw [if_pos hw]; exact h
      · rw [if_neg hw]
        obtain ⟨a, ha, _⟩ := aDue_at (W := W) W.1 0 none (fun j => by rw [Nat.zero_add]) (fun y hy => by cases hy) _ hd
        exact ih _ (qq_fire h ha)
theorem qq_go {m : Int32} (h : okQ np W) : okQ np (aGo rN l m W).2 := qq_time 33 _ (okQ_eq (W' := (W.1, (W.2.1.1, W.2.1.2.1 + m, W.2.1.2.2), W.2.2)) h rfl rfl)
theorem qq_more {p : Nat} (hp : p < np) : ∀ (r : Nat) (W : aW Nm), okQ np W → okQ np (aMore rN N l p r W) := by
  intro r
  induction r with
  | zero => intro W h; exact h
  | succ r ih =>
    intro W h
    unfold aMore
    by_cases h8 : W.1.length < 8
    · rw [if_pos h8]; exact ih _ (okQ_new h hp)
    · rw [if_neg h8]; exact h
theorem qq_beg : ∀ (r p : Nat) (W : aW Nm), p + r ≤ np → okQ np W → okQ np (aBeg rN N l r p W) := by
  intro r
  induction r with
  | zero => intro p W _ h; exact h
  | succ r ih =>
    intro p W hp h
    unfold aBeg
    exact ih (p + 1) _ (by omega) (qq_more (by omega) _ _ h)
theorem qq_begin : okQ np (aBegin rN N np) := qq_beg np 0 _ (by omega) ⟨fun a ha => (by cases ha), fun e he => (by cases he)⟩
end OKQ
