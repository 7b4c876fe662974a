/-! walk: how often something may be lost in a turn; what holds of all entries -/
section FB
variable {cN rN : Int32 → Nm} {N : Nat → Nat → Int32} {O G E : Nat → Int32} {np : Nat} {l : Bool}
/-- counts: lost at most j more, thrown away as before -/
def fLo (j : Nat) (W W' : aW Nm) : Prop := W'.2.2.2.1 ≤ W.2.2.2.1 + j ∧ W'.2.2.2.2 = W.2.2.2.2
theorem fLo_0 {W W' : aW Nm} {j : Nat} (h : W'.2.2.2 = W.2.2.2) : fLo j W W' := by
  unfold fLo
  rw [h]
  exact ⟨by omega, rfl⟩
theorem fLo_lose {W W1 : aW Nm} {i : Int32} {x : Nm} {v : Int32} {j : Nat} (h : W1.2.2.2 = W.2.2.2) (hj : 1 ≤ j) : fLo j W (aLose l i x v W1) := by
  unfold fLo
  show W1.2.2.2.1 + 1 ≤ W.2.2.2.1 + j ∧ W1.2.2.2.2 = W.2.2.2.2
  rw [h]
  exact ⟨by omega, rfl⟩
theorem fLo_act (k a : Nat) (W : aW Nm) : fLo 1 W (aAct rN N l k a W).2 := by
  unfold aAct
  by_cases h10 : N 251 a = 10
  · rw [if_pos h10]; exact fLo_0 rfl
  rw [if_neg h10]
  by_cases h11 : N 251 a = 11
  · rw [if_pos h11]
    cases aGoal N W k a with
    | none => exact fLo_0 rfl
    | some to =>
      cases to with
      | none => exact fLo_lose rfl (by omega)
      | some j =>
        simp only [aTo]
        by_cases c : (aAt W j).2.2.1.length < 8
        · rw [if_pos c]; exact fLo_0 rfl
        · rw [if_neg c]; exact fLo_lose rfl (by omega)
  rw [if_neg h11]
  by_cases h12 : N 251 a = 12
  · rw [if_pos h12]
    simp only [aSetT]
    generalize (if (aTm (rN (N 252 a)) (aAt W k)).isSome = true then aReset (rN (N 252 a)) (aAt W k) else aAt W k) = c
    by_cases h4 : c.2.2.2.length < 4
    · rw [if_pos h4]; exact fLo_0 rfl
    · rw [if_neg h4]; exact fLo_lose rfl (by omega)
  rw [if_neg h12]
  by_cases h13 : N 251 a = 13
  · rw [if_pos h13]; exact fLo_0 rfl
  rw [if_neg h13]
  by_cases h14 : N 251 a = 14
  · rw [if_pos h14]
    simp only [aMake]
    by_cases c : W.1.length = 8 ∨ aMany W (nI (ix (N 253 a))) = 4
    · rw [if_pos c]; exact fLo_lose rfl (by omega)
    · rw [if_neg c]; exact fLo_0 rfl
  rw [if_neg h14]
  by_cases h15 : N 251 a = 15
  · rw [if_pos h15]; exact fLo_0 rfl
  rw [if_neg h15]
  by_cases h16 : N 251 a = 16
  · rw [if_pos h16]; exact fLo_0 rfl
  rw [if_neg h16]
  exact fLo_0 rfl
theorem fLo_tr {W W1 W2 : aW Nm} {i j m : Nat} (h : fLo i W W1) (h2 : fLo j W1 W2) (hm : i + j ≤ m) : fLo m W W2 := ⟨by have := h.1; have := h2.1; omega, h2.2.trans h.2⟩
theorem fLo_le {W W1 : aW Nm} {i m : Nat} (h : fLo i W W1) (hm : i ≤ m) : fLo m W W1 := ⟨by have := h.1; omega, h.2⟩
theorem sA_lt {nv ns p a m : Nat} (h : sA cN rN N O G E nv ns np p a m) : p + 1 ≤ m := by
  rcases h with ⟨_, m1, j, e, _, _, h1, _, _, _, _, h2⟩ | ⟨_, m1, h1, _, h2, _⟩ | ⟨_, m1, e, _, _, h1, _, _, h2⟩ | ⟨_, _, _, h2⟩ | ⟨_, _, _, h2⟩ | ⟨_, _, _, h2⟩ | ⟨_, _, h2⟩ | ⟨_, m1, e, _, _, h1, _, h2⟩
  · have := sE_lt h1; omega
  · rcases h1 with ⟨_, _, _, h3⟩ | ⟨e, _, _, h3⟩
    · omega
    · have := sE_lt h3; omega
  · have := sE_lt h1; omega
  · omega
  · omega
  · omega
  · omega
  · have := sE_lt h1; omega
theorem fLo_run {nv ns : Nat} : ∀ (r p : Nat) (as : List Nat) (q k : Nat) (W : aW Nm), sB cN rN N O G E nv ns np r p as q → fLo (q - p) W (aRun rN N l k r as W).2 := by
  intro r
  induction r with
  | zero => intro p as q k W h; exact h.elim
  | succ r ih =>
    intro p as q k W h
    cases as with
    | nil => exact fLo_0 rfl
    | cons a as =>
      obtain ⟨m, h1, h2⟩ := h
      have hmq := sB_le h1
      have tail : ∀ W1, fLo (m - p) W W1 → p ≤ m → fLo (q - p) W (aRun rN N l k r as W1).2 := fun W1 hw hpm => fLo_tr hw (ih m as q k W1 h1) (by omega)
      unfold aRun
      rcases h2 with h2 | ⟨h18, m1, m2, e, f, _, _, _, ef, hE, _, hB1, h3⟩
      · have hpm := sA_lt h2
        by_cases h18 : N 251 a = 18
        · exfalso
          rcases h2 with ⟨z, _⟩ | ⟨z, _⟩ | ⟨z, _⟩ | ⟨z, _⟩ | ⟨z, _⟩ | ⟨z, _⟩ | ⟨z, _⟩ | ⟨z, _⟩ <;> rw [z] at h18 <;> exact absurd h18 (by decide)
        · rw [if_neg h18]
          have ha := fLo_act (rN := rN) (N := N) (l := l) k a W
          simp only
          by_cases c : (aAct rN N l k a W).1 = 0
          · rw [if_pos c]
            exact tail _ (fLo_le ha (by omega)) (by omega)
          · rw [if_neg c]
            exact fLo_le ha (by omega)
      · rw [if_pos h18]
        have hpm := sE_lt hE
        have hb := sB_le hB1
        have ef' : ix (N 253 a) = f := by rw [ef, ix, nI_clamp (by omega)]
        have hm2 : m2 ≤ m := by
          rcases h3 with ⟨_, _, h3⟩ | ⟨g, _, _, _, _, h3, _⟩
          · omega
          · have := sB_le h3; omega
        by_cases hv : ¬ aVal N W k (N 252 a) = 0
        · rw [if_pos hv, ef']
          have hr := ih (m1 + 1) (acts N f) m2 k W hB1
          simp only
          by_cases c : (aRun rN N l k r (acts N f) W).1 = 0
          · rw [if_pos c]
            exact tail _ (fLo_le hr (by omega)) (by omega)
          · rw [if_neg c]
            exact fLo_le hr (by omega)
        · rw [if_neg hv]
          rcases h3 with ⟨g1, _, h3⟩ | ⟨g, g0, g1, _, _, h3, _⟩
          · rw [if_pos (by rw [g1]; decide)]
            exact tail _ (fLo_0 rfl) (by omega)
          · have hng : ¬ N 254 a < 0 := by
              rw [g1, Int32.lt_iff_toInt_lt, nI_toInt (by omega)]
              have : (0 : Int32).toInt = 0 := by decide
              omega
            have eg' : ix (N 254 a) = g := by rw [g1, ix, nI_clamp (by omega)]
            have hb3 := sB_le h3
            rw [if_neg hng, eg']
            have hr := ih (m2 + 1) (acts N g) m k W h3
            simp only
            by_cases c : (aRun rN N l k r (acts N g) W).1 = 0
            · rw [if_pos c]
              exact tail _ (fLo_le hr (by omega)) (by omega)
            · rw [if_neg c]
              exact fLo_le hr (by omega)
end FB
section EV
variable {cN rN : Int32 → Nm} {N : Nat → Nat → Int32} {O G E' : Nat → Int32} {np B D P L : Nat} {W V : aW Nm} {I : Nat → Nat → Int32}
theorem okI_e {a : aI Nm} : okI N np (eI a) ↔ okI N np a := by
  unfold okI
  have e3 : (eI a).2.2.1.length = a.2.2.1.length := eI_len a
  rw [e3]
  exact Iff.rfl
theorem okW_m1 (h : okW N np B W) : okW N np B (mp W) := by
  obtain ⟨h1, h2, h3, g, ids, h4, h5, h6, h7, h8⟩ := h
  have hm : ∀ {β : Type} (f : aI Nm → β), (∀ a, f (eI a) = f a) → (W.1.map eI).map f = W.1.map f := fun f hf => by
    rw [List.map_map]
    congr 1
    funext a
    exact hf a
  refine ⟨by show (W.1.map eI).length ≤ 8; rw [List.length_map]; exact h1, fun k a hk => ?_, fun p hp => ?_, g, ids, h4, ?_, ?_, h7, h8⟩
  · have hk' : (W.1.map eI)[k]? = some a := hk
    rw [List.getElem?_map] at hk'
    cases hw : W.1[k]? with
    | none => rw [hw] at hk'; cases hk'
    | some c =>
      rw [hw] at hk'
      have : eI c = a := by simpa using hk'
      rw [← this]
      exact okI_e.mpr (h2 k c hw)
  · have := h3 p hp
    show ((W.1.map eI).map (fun a => a.1.2.1)).countP _ ≤ 4
    rw [hm (fun a => a.1.2.1) (fun a => rfl)]
    exact this
  · show g ≤ B + (W.1.map eI).length
    rw [List.length_map]
    exact h5
  · show (W.1.map eI).map (fun a => a.1.1) = _
    rw [hm (fun a => a.1.1) (fun a => rfl)]
    exact h6
theorem okW_m2 (h : okW N np B (mp W)) : okW N np B W := by
  obtain ⟨h1, h2, h3, g, ids, h4, h5, h6, h7, h8⟩ := h
  have hm : ∀ {β : Type} (f : aI Nm → β), (∀ a, f (eI a) = f a) → (W.1.map eI).map f = W.1.map f := fun f hf => by
    rw [List.map_map]
    congr 1
    funext a
    exact hf a
  have h1' : (W.1.map eI).length ≤ 8 := h1
  have h5' : g ≤ B + (W.1.map eI).length := h5
  rw [List.length_map] at h1' h5'
  refine ⟨h1', fun k a hk => ?_, fun p hp => ?_, g, ids, h4, h5', ?_, h7, h8⟩
  · refine okI_e.mp (h2 k (eI a) ?_)
    show (W.1.map eI)[k]? = _
    rw [List.getElem?_map, hk]
    rfl
  · have := h3 p hp
    have h' : ((W.1.map eI).map (fun a => a.1.2.1)).countP (fun x => decide (x = nI p)) ≤ 4 := this
    rw [hm (fun a => a.1.2.1) (fun a => rfl)] at h'
    exact h'
  · have h' : (W.1.map eI).map (fun a => a.1.1) = ids.map nI := h6
    rw [hm (fun a => a.1.1) (fun a => rfl)] at h'
    exact h'
theorem okW_q (h : mq W V) (hok : okW N np B V) : okW N np B W := okW_m2 (by rw [show mp W = mp V from h]; exact okW_m1 hok)
theorem okD_m1 (h : okD D W) : okD D (mp W) := by
  refine ⟨h.1, fun k a hk => ?_⟩
  have hk' : (W.1.map eI)[k]? = some a := hk
  rw [List.getElem?_map] at hk'
  cases hw : W.1[k]? with
  | none => rw [hw] at hk'; cases hk'
  | some c =>
    rw [hw] at hk'
    have : eI c = a := by simpa using hk'
    rw [← this]
    exact h.2 k c hw
theorem okD_m2 (h : okD D (mp W)) : okD D W := by
  refine ⟨h.1, fun k a hk => ?_⟩
  refine h.2 k (eI a) ?_
  show (W.1.map eI)[k]? = _
  rw [List.getElem?_map, hk]
  rfl
theorem okD_q (h : mq W V) (hd : okD D V) : okD D W := okD_m2 (by rw [show mp W = mp V from h]; exact okD_m1 hd)
theorem okD_le {D' : Nat} (h : okD D W) (hD : D ≤ D') : okD D' W := by
  obtain ⟨⟨q, h1, h2⟩, h3⟩ := h
  exact ⟨⟨q, h1, by omega⟩, fun k a hk t ht => by obtain ⟨q, a1, a2⟩ := h3 k a hk t ht; exact ⟨q, a1, by omega⟩⟩
theorem okW_bz (h : okW N np B W) : okW N np B (bz W) := okW_m1 h
theorem okD_bz (h : okD D W) : okD D (bz W) := okD_m1 h
/-- what holds of all entries: ids up to Gm; time -/
def eV (N : Nat → Nat → Int32) (np Gm D0 : Nat) (E : List bE) : Prop := ∀ (e : Nat) (x : bE), E[e]? = some x → mp x.1 = x.1 ∧ x.1.2.2.2 = (0, 0) ∧ okW N np Gm x.1 ∧ (∃ g, g ≤ Gm ∧ x.1.2.1.1 = nI g) ∧ okD (D0 + 1000000 * e) x.1
theorem eV_ok {Gm D0 : Nat} {E : List bE} (h : eV N np Gm D0 E) : eOK N np E := by
  intro x hx
  obtain ⟨e, h1, h2⟩ := List.getElem_of_mem hx
  have := (h e x (by rw [List.getElem?_eq_getElem h1, h2])).2.2.1
  exact ⟨this.1, okI_all this⟩
theorem bM0_ok {Gm D0 i wt : Nat} {E : List bE} {g0 dd : Int32} (h6 : 61 ≤ Gm) (hG : Gm < 2 ^ 30) (hE : eV N np Gm D0 E) (hO : bOr E) (hl : E.length ≤ 1000) (hi : i < E.length) (hg : ∃ g, g ≤ Gm ∧ g0 = nI g) (hok : okW N np (Gm + 1) W) (hd : okD (D0 + 1000000 * (i + 1)) W) : eV N np Gm D0 (bM0 wt E (nI i) g0 dd W).2 ∧ bOr (bM0 wt E (nI i) g0 dd W).2 ∧ (bM0 wt E (nI i) g0 dd W).2.length ≤ 1000 ∧ i < (bM0 wt E (nI i) g0 dd W).2.length := by
  unfold bM0
  by_cases c1 : g0 < W.2.1.1 ∧ 61 < W.2.1.1
  · rw [if_pos c1]; exact ⟨hE, hO, hl, hi⟩
  rw [if_neg c1]
  by_cases c2 : bKn E W = true
  · rw [if_pos c2]; exact ⟨hE, hO, hl, hi⟩
  rw [if_neg c2]
  by_cases c3 : 1000 ≤ E.length
  · rw [if_pos c3]; exact ⟨hE, hO, hl, hi⟩
  rw [if_neg c3]
  obtain ⟨gv, gv1, gv2⟩ := hg
  have hgl : ∃ g, g ≤ Gm ∧ W.2.1.1 = nI g := by
    have h8 := hok.1
    have hok2 := hok
    obtain ⟨_, _, _, g, ids, h4, h5, _⟩ := hok2
    refine ⟨g, ?_, h4⟩
    rw [h4, gv2] at c1
    rcases Nat.lt_or_ge Gm g with c | c
    · exfalso
      refine c1 ⟨nI_lt (by omega) (by omega), ?_⟩
      have : (61 : Int32) = nI 61 := by decide
      rw [this]
      exact nI_lt (by omega) (by omega)
    · exact c
  refine ⟨fun e x hx => ?_, fun e x hx he => ?_, by simp; omega, by simp; omega⟩
  · rcases Nat.lt_or_ge e E.length with c | c
    · rw [List.getElem?_append_left c] at hx
      exact hE e x hx
    · rw [List.getElem?_append_right c] at hx
      have he : e = E.length := by
        have := lt_of_some hx
        simp at this
        omega
      subst he
      rw [Nat.sub_self] at hx
      have : x = (bz W, nI i, dd) := by simpa using hx.symm
      subst this
      refine ⟨bz_mp W, rfl, ?_, hgl, okD_le (okD_bz hd) (by omega)⟩
      obtain ⟨h1, h2, h3, g, ids, h4, h5, h7⟩ := okW_bz hok
      obtain ⟨g', a1, a2⟩ := hgl
      refine ⟨h1, h2, h3, g, ids, h4, ?_, h7⟩
      have h8 := h1
      have : nI g = nI g' := h4.symm.trans a2
      have : g = g' := (nI_eq (by omega) (by omega)).mp this
      omega
  · rcases Nat.lt_or_ge e E.length with c | c
    · rw [List.getElem?_append_left c] at hx
      exact hO e x hx he
    · rw [List.getElem?_append_right c] at hx
      have he' : e = E.length := by
        have := lt_of_some hx
        simp at this
        omega
      subst he'
      rw [Nat.sub_self] at hx
      have : x = (bz W, nI i, dd) := by simpa using hx.symm
      subst this
      exact ⟨i, hi, rfl⟩
end EV
