/-! words, of the class and of the reference -/
/-- word w of the reference: where it begins, how long it is -/
def WS : List (Nat × Nat) := [(0, 7), (8, 3), (12, 5), (18, 5), (24, 2), (27, 5), (33, 4), (38, 3), (42, 4), (47, 2), (50, 3), (54, 5), (60, 4), (65, 4), (70, 4), (75, 3), (79, 2), (82, 4), (87, 6), (94, 4), (99, 6), (106, 5), (112, 3), (116, 3), (120, 4)]
/-- the class's kind of it -/
def kk (w : Nat) : Nat := if w ≤ 6 then w + 1 else if w = 24 then 8 else w + 2
def wB2 (w i : Nat) : Int32 := nI ((jtx 2).getD ((WS.getD w (0, 0)).1 + i) 0)
def wL2 (w : Nat) : Nat := (WS.getD w (0, 0)).2
def isW2 (f : Nat → Int32) (z w : Nat) : Prop := wL2 w = z ∧ ∀ i, i < z → wB2 w i = f i
def wch (f : Nat → Int32) (z : Nat) : Nat → Nat → Int32
  | 0, _ => mI 1
  | r + 1, w => if wL2 w = z ∧ ∀ i, i < z → wB2 w i = f i then nI w else wch f z r (w + 1)
theorem wdR_sp {f : Nat → Int32} {z : Nat} : ∀ (m r k st wd : Nat), (∀ j, k ≤ j → j < k + m → ¬ (jtx 2).getD j 0 = 32) → wdR f z (r + m) k st wd = wdR f z r (k + m) st wd := by
  intro m
  induction m with
  | zero => intro r k st wd _; rfl
  | succ m ih =>
    intro r k st wd hj
    show wdR f z (r + m + 1) k st wd = _
    conv => lhs; unfold wdR
    rw [if_neg (hj k (by omega) (by omega)), ih r (k + 1) st wd (fun j h1 h2 => hj j (by omega) (by omega)), show k + 1 + m = k + (m + 1) by omega]
theorem WS_ok : ∀ w, w < 25 → (WS.getD w (0, 0)).1 + (WS.getD w (0, 0)).2 < 125 ∧ (jtx 2).getD ((WS.getD w (0, 0)).1 + (WS.getD w (0, 0)).2) 0 = 32 ∧ (∀ j, j < 125 → (WS.getD w (0, 0)).1 ≤ j → j < (WS.getD w (0, 0)).1 + (WS.getD w (0, 0)).2 → ¬ (jtx 2).getD j 0 = 32) ∧ (w < 24 → (WS.getD (w + 1) (0, 0)).1 = (WS.getD w (0, 0)).1 + (WS.getD w (0, 0)).2 + 1) ∧ (w = 24 → (WS.getD w (0, 0)).1 + (WS.getD w (0, 0)).2 = 124) := by decide +kernel
theorem wdR_wch {f : Nat → Int32} {z : Nat} : ∀ (r w k : Nat), w + r = 25 → 0 < r → k = (WS.getD w (0, 0)).1 → wdR f z (125 - k) k k w = wch f z r w := by
  intro r
  induction r with
  | zero => intro w k _ h0; exact absurd h0 (by omega)
  | succ r ih =>
    intro w k hw _ hk
    obtain ⟨h1, h2, h3, h4, h5⟩ := WS_ok w (by omega)
    obtain ⟨le, hle⟩ : ∃ le, le = (WS.getD w (0, 0)).2 := ⟨_, rfl⟩
    rw [← hk, ← hle] at h1 h2 h3
    rw [show 125 - k = (125 - k - le - 1 + 1) + le by omega, wdR_sp le _ k k w (fun j a1 a2 => h3 j (by omega) (by omega) (by omega))]
    unfold wdR wch
    rw [if_pos h2]
    have hc : (k + le - k = z ∧ ∀ i, i < z → nI ((jtx 2).getD (k + i) 0) = f i) ↔ (wL2 w = z ∧ ∀ i, i < z → wB2 w i = f i) := by
      unfold wL2 wB2
      rw [← hk, ← hle, show k + le - k = le by omega]
    by_cases hx : wL2 w = z ∧ ∀ i, i < z → wB2 w i = f i
    · rw [if_pos hx, if_pos (hc.mpr hx)]
    · rw [if_neg hx, if_neg (fun q => hx (hc.mp q))]
      by_cases h24 : w = 24
      · have := h5 h24
        rw [← hk, ← hle] at this
        have hr : r = 0 := by omega
        subst hr
        rw [show 125 - k - le - 1 = 0 by omega]
        rfl
      · have := h4 (by omega)
        rw [← hk, ← hle] at this
        rw [← ih (w + 1) (k + le + 1) (by omega) (by omega) this.symm, show 125 - (k + le + 1) = 125 - k - le - 1 by omega]
theorem wdR_e {f : Nat → Int32} {z : Nat} : wdR f z 125 0 0 0 = wch f z 25 0 := wdR_wch 25 0 0 (by omega) (by omega) rfl
theorem wch_no {f : Nat → Int32} {z : Nat} : ∀ (r w : Nat), (∀ u, w ≤ u → u < w + r → ¬ isW2 f z u) → wch f z r w = mI 1 := by
  intro r
  induction r with
  | zero => intro w _; rfl
  | succ r ih =>
    intro w h
    unfold wch
    rw [if_neg (show ¬ (wL2 w = z ∧ ∀ i, i < z → wB2 w i = f i) from h w (by omega) (by omega)), ih (w + 1) (fun u h1 h2 => h u (by omega) (by omega))]
theorem wch_at {f : Nat → Int32} {z u : Nat} : ∀ (r w : Nat), w ≤ u → u < w + r → isW2 f z u → (∀ v, w ≤ v → v < u → ¬ isW2 f z v) → wch f z r w = nI u := by
  intro r
  induction r with
  | zero => intro w h1 h2; exact absurd h2 (by omega)
  | succ r ih =>
    intro w h1 h2 h3 h4
    unfold wch
    by_cases e : w = u
    · subst e
      rw [if_pos (show (wL2 w = z ∧ ∀ i, i < z → wB2 w i = f i) from h3)]
    · rw [if_neg (show ¬ (wL2 w = z ∧ ∀ i, i < z → wB2 w i = f i) from h4 w (by omega) (by omega)), ih (w + 1) (by omega) (by omega) h3 (fun v g1 g2 => h4 v (by omega) g2)]
theorem kdF_no {x : Int64} : ∀ (r k : Nat), (∀ j, k ≤ j → j < k + r → ¬ tkW j = x) → kdF x r k = 26 := by
  intro r
  induction r with
  | zero => intro k _; rfl
  | succ r ih =>
    intro k h
    unfold kdF
    rw [if_neg (h k (by omega) (by omega)), ih (k + 1) (fun j h1 h2 => h j (by omega) (by omega))]
theorem kdF_at {x : Int64} {u : Nat} : ∀ (r k : Nat), k ≤ u → u < k + r → tkW u = x → (∀ j, k ≤ j → j < u → ¬ tkW j = x) → kdF x r k = u := by
  intro r
  induction r with
  | zero => intro k h1 h2; exact absurd h2 (by omega)
  | succ r ih =>
    intro k h1 h2 h3 h4
    unfold kdF
    by_cases e : k = u
    · subst e
      rw [if_pos h3]
    · rw [if_neg (h4 k (by omega) (by omega)), ih (k + 1) (by omega) (by omega) h3 (fun j g1 g2 => h4 j (by omega) g2)]
theorem wd_tab : ∀ w, w < 25 → tkW (kk w) = hdF (wB2 w) (wL2 w) ∧ tlF (wB2 w) (wL2 w) = nI 0 ∧ wL2 w ≤ 7 ∧ 0 < wL2 w ∧ 1 ≤ kk w ∧ kk w ≤ 25 := by decide +kernel
theorem wd_al : ∀ w, w < 25 → ∀ i, i < wL2 w → (isLet (wB2 w i) = true ∨ isDig (wB2 w i) = true) := by decide +kernel
theorem kk_sur : ∀ k, k < 26 → 1 ≤ k → ∃ w, w < 25 ∧ kk w = k := by
  have h : ∀ k, k < 26 → 1 ≤ k → kk (if k ≤ 7 then k - 1 else if k = 8 then 24 else k - 2) = k ∧ (if k ≤ 7 then k - 1 else if k = 8 then 24 else k - 2) < 25 := by decide +kernel
  exact fun k h1 h2 => ⟨_, (h k h1 h2).2, (h k h1 h2).1⟩
theorem kk_inj : ∀ w, w < 25 → ∀ u, u < 25 → kk w = kk u → w = u := by decide +kernel
theorem tkW_inj : ∀ j, j < 26 → ∀ k, k < 26 → 1 ≤ j → 1 ≤ k → tkW j = tkW k → j = k := by decide +kernel
/-- a word, or a name -/
theorem wd_kd {f : Nat → Int32} {z : Nat} (hal : alB f z) : (∃ w, w < 25 ∧ wdR f z 125 0 0 0 = nI w ∧ z ≤ 7 ∧ tlF f z = nI 0 ∧ kd (hdF f z) = kk w) ∨ (wdR f z 125 0 0 0 = mI 1 ∧ (z ≤ 12 → tlF f z = nI 0 → kd (hdF f z) = 26)) := by
  rw [wdR_e]
  by_cases hex : ∃ w, w < 25 ∧ isW2 f z w
  · obtain ⟨w, hw, hm⟩ := hex
    obtain ⟨t1, t2, t3, t4, t5, t6⟩ := wd_tab w hw
    have hc := hdF_congr z hm.2
    have hL := hm.1
    rw [hL] at t1 t2 t3
    have hH : tkW (kk w) = hdF f z := t1.trans hc.1
    have huniq : ∀ v, v < 25 → isW2 f z v → v = w := by
      intro v hv hv2
      obtain ⟨q1, q2, q3, q4, q5, q6⟩ := wd_tab v hv
      have hc2 := hdF_congr z hv2.2
      rw [hv2.1] at q1
      have : tkW (kk v) = tkW (kk w) := (q1.trans hc2.1).trans hH.symm
      exact kk_inj v hv w hw (tkW_inj _ (by omega) _ (by omega) q5 t5 this)
    left
    refine ⟨w, hw, wch_at 25 0 (by omega) (by omega) hm (fun v h1 h2 h3 => ?_), t3, hc.2.symm.trans t2, ?_⟩
    · have := huniq v (by omega) h3
      omega
    · unfold kd
      refine kdF_at 25 1 t5 (by omega) hH (fun j h1 h2 h3 => ?_)
      have := tkW_inj j (by omega) (kk w) (by omega) h1 t5 (h3.trans hH.symm)
      omega
  · right
    refine ⟨wch_no 25 0 (fun u h1 h2 h3 => hex ⟨u, by omega, h3⟩), fun h12 ht => ?_⟩
    unfold kd
    refine kdF_no 25 1 (fun j h1 h2 h3 => ?_)
    obtain ⟨w, hw, e⟩ := kk_sur j (by omega) h1
    obtain ⟨t1, t2, t3, t4, t5, t6⟩ := wd_tab w hw
    rw [e] at t1
    have e1 : hdF (wB2 w) (wL2 w) = hdF f z := t1.symm.trans h3
    have e2 : tlF (wB2 w) (wL2 w) = tlF f z := t2.trans ht.symm
    obtain ⟨g1, g2⟩ := pk_inj (by omega) h12 (fun i hi => wd_al w hw i hi) hal e1 e2
    exact hex ⟨w, hw, g1, fun i hi => g2 i (by omega)⟩
