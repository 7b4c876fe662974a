/-! walk: what no state is told apart by (whose signals are, the trace, sums) is of no account -/
def eS (s : aS Nm) : aS Nm := (s.1, s.2.1, s.2.2.1, 0)
def eI (a : aI Nm) : aI Nm := (a.1, a.2.1, a.2.2.1.map eS, a.2.2.2)
def mp (W : aW Nm) : aW Nm := (W.1.map eI, (W.2.1.1, W.2.1.2.1, 0, 0, 0), ([], false), W.2.2.2)
section MP
variable {rN : Int32 → Nm} {N : Nat → Nat → Int32} {W V : aW Nm}
theorem eI_eI (a : aI Nm) : eI (eI a) = eI a := by
  simp [eI, eS, Function.comp_def]
theorem mp_mp (W : aW Nm) : mp (mp W) = mp W := by
  simp [mp, eI_eI, Function.comp_def]
theorem mp_at (W : aW Nm) (k : Nat) : aAt (mp W) k = eI (aAt W k) := by
  unfold aAt mp
  rw [List.getD_eq_getElem?_getD, List.getD_eq_getElem?_getD, List.getElem?_map]
  cases W.1[k]? <;> rfl
theorem mp_put (k : Nat) (a : aI Nm) (W : aW Nm) : mp (aPut k a W) = aPut k (eI a) (mp W) := by
  simp [mp, aPut, List.map_set]
theorem mp_add (e : aE Nm) (W : aW Nm) : aAdd false e W = W := by
  simp [aAdd, aEv]
theorem mp_lose (i : Int32) (x : Nm) (v : Int32) (W : aW Nm) : mp (aLose false i x v W) = aLose false i x v (mp W) := by
  simp [mp, aLose, mp_add]
theorem eI_acc (s : aS Nm) (a : aI Nm) : eI (aAcc s a) = eI (aAcc s (eI a)) := by
  simp [eI, aAcc, eS, Function.comp_def]
theorem eI_len (a : aI Nm) : (eI a).2.2.1.length = a.2.2.1.length := by simp [eI]
theorem mp_to (k : Nat) (x : Nm) (v : Int32) (to : Option Nat) (W : aW Nm) : mp (aTo false k x v to W) = mp (aTo false k x v to (mp W)) := by
  cases to with
  | none => simp only [aTo, mp_add, mp_lose, mp_at, mp_mp]; rfl
  | some j =>
    simp only [aTo, mp_add, mp_at, eI_len]
    by_cases h : (aAt W j).2.2.1.length < 8
    · rw [if_pos h, if_pos h, mp_put, mp_put, mp_mp]
      congr 1
      simp [eI, aAcc, eS, Function.comp_def]
    · rw [if_neg h, if_neg h, mp_lose, mp_lose, mp_mp]
      rfl
theorem eI_clean (x : Nm) (a : aI Nm) : eI (aClean x a) = aClean x (eI a) := by
  simp [eI, aClean, List.filter_map, Function.comp_def, eS]
  rfl
theorem eI_tm (x : Nm) (a : aI Nm) : aTm x (eI a) = aTm x a := rfl
theorem eI_reset (x : Nm) (a : aI Nm) : eI (aReset x a) = aReset x (eI a) := by
  unfold aReset
  rw [eI_clean, eI_tm]
  cases aTm x a <;> rfl
theorem mp_setT (k : Nat) (x : Nm) (v : Int32) (W : aW Nm) : mp (aSetT false k x v W) = mp (aSetT false k x v (mp W)) := by
  unfold aSetT
  rw [mp_at, eI_tm]
  have hn : (mp W).2.1.2.1 = W.2.1.2.1 := rfl
  have e : (if (aTm x (aAt W k)).isSome = true then aReset x (eI (aAt W k)) else eI (aAt W k)) = eI (if (aTm x (aAt W k)).isSome = true then aReset x (aAt W k) else aAt W k) := by
    by_cases h : (aTm x (aAt W k)).isSome = true
    · rw [if_pos h, if_pos h, eI_reset]
    · rw [if_neg h, if_neg h]
  simp only [e]
  generalize (if (aTm x (aAt W k)).isSome = true then aReset x (aAt W k) else aAt W k) = a
  have e4 : (eI a).2.2.2 = a.2.2.2 := rfl
  rw [e4]
  by_cases h : a.2.2.2.length < 4
  · rw [if_pos h, if_pos h, mp_put, mp_put, mp_mp, hn]
    congr 1
    simp [eI, eS, Function.comp_def]
  · rw [if_neg h, if_neg h, mp_lose, mp_lose, mp_put, mp_put, mp_mp, eI_eI]
    rfl
theorem mp_many (W : aW Nm) (x : Int32) : aMany (mp W) x = aMany W x := by
  simp [aMany, mp, List.countP_map, Function.comp_def, eI]
  rfl
theorem mp_slot (W : aW Nm) (x : Int32) : aSlot (mp W) x = aSlot W x := by
  simp [aSlot, mp, List.findIdx?_map, Function.comp_def, eI]
  rfl
theorem mp_least (W : aW Nm) (x : Int32) : aLeast (mp W) x = aLeast W x := by
  simp [aLeast, mp, List.findIdx?_map, Function.comp_def, eI]
  rfl
theorem mp_fresh (p : Nat) (mk : Int32) (W : aW Nm) : mp (aFresh rN N false p mk W) = aFresh rN N false p mk (mp W) := by
  simp [aFresh, mp_add, mp, aNew, eI]
theorem mp_make (k p : Nat) (W : aW Nm) : mp (aMake rN N false k p W) = mp (aMake rN N false k p (mp W)) := by
  unfold aMake
  rw [mp_many]
  have hl : (mp W).1.length = W.1.length := by simp [mp]
  rw [hl]
  by_cases h : W.1.length = 8 ∨ aMany W (nI p) = 4
  · rw [if_pos h, if_pos h, mp_lose, mp_lose, mp_put, mp_put, mp_mp, mp_at]
    simp only [eI]
    simp [eS, Function.comp_def]
    rfl
  · rw [if_neg h, if_neg h, mp_fresh, mp_fresh, mp_put, mp_put, mp_mp, mp_at]
    simp only [eI]
    simp [eS, Function.comp_def, mp]
    rfl
theorem eI_evl (now : Int32) (a : aI Nm) : ∀ (r e : Nat), evl N now (eI a) r e = evl N now a r e := by
  intro r
  induction r with
  | zero => intro e; rfl
  | succ r ih =>
    intro e
    have h1 : (eI a).2.1 = a.2.1 := rfl
    have h2 : ∀ w, idOf (eI a) w = idOf a w := fun w => rfl
    simp only [evl, h1, h2, ih]
theorem mp_val (W : aW Nm) (k : Nat) (e : Int32) : aVal N (mp W) k e = aVal N W k e := by
  unfold aVal
  rw [mp_at, eI_evl]
  rfl
theorem mp_goal (W : aW Nm) (k a : Nat) : aGoal N (mp W) k a = aGoal N W k a := by
  unfold aGoal
  rw [mp_least, mp_slot, mp_at]
  rfl
theorem mp_act (k a : Nat) (W : aW Nm) : (aAct rN N false k a W).1 = (aAct rN N false k a (mp W)).1 ∧ mp (aAct rN N false k a W).2 = mp (aAct rN N false k a (mp W)).2 := by
  unfold aAct
  rw [mp_goal, mp_at]
  simp only [mp_val]
  by_cases h10 : N 251 a = 10
  · rw [if_pos h10, if_pos h10]
    refine ⟨rfl, ?_⟩
    rw [mp_put, mp_put, mp_mp]
    congr 1
    simp [eI, eS, Function.comp_def]
  rw [if_neg h10, if_neg h10]
  by_cases h11 : N 251 a = 11
  · rw [if_pos h11, if_pos h11]
    refine ⟨rfl, ?_⟩
    cases aGoal N W k a with
    | none => simp only [mp_add, mp_mp]
    | some to => exact mp_to _ _ _ _ _
  rw [if_neg h11, if_neg h11]
  by_cases h12 : N 251 a = 12
  · rw [if_pos h12, if_pos h12]
    exact ⟨rfl, mp_setT _ _ _ _⟩
  rw [if_neg h12, if_neg h12]
  by_cases h13 : N 251 a = 13
  · rw [if_pos h13, if_pos h13]
    refine ⟨rfl, ?_⟩
    rw [mp_put, mp_put, mp_mp, eI_reset, eI_reset, eI_eI]
  rw [if_neg h13, if_neg h13]
  by_cases h14 : N 251 a = 14
  · rw [if_pos h14, if_pos h14]
    exact ⟨rfl, mp_make _ _ _⟩
  rw [if_neg h14, if_neg h14]
  by_cases h15 : N 251 a = 15
  · rw [if_pos h15, if_pos h15]
    refine ⟨rfl, ?_⟩
    rw [mp_put, mp_put, mp_mp]
    congr 1
    simp [eI, eS, Function.comp_def]
  rw [if_neg h15, if_neg h15]
  by_cases h16 : N 251 a = 16
  · rw [if_pos h16, if_pos h16]
    exact ⟨rfl, (mp_mp W).symm⟩
  rw [if_neg h16, if_neg h16]
  exact ⟨rfl, by simp only [mp_add, mp_mp]⟩
/-- equal but for what is of no account -/
def mq (W V : aW Nm) : Prop := mp W = mp V
theorem mq_l {f : aW Nm → aW Nm} (hf : ∀ W, mp (f W) = mp (f (mp W))) (h : mq W V) : mq (f W) (f V) := by
  unfold mq at *
  rw [hf W, hf V, h]
theorem mq_val (h : mq W V) (k : Nat) (e : Int32) : aVal N W k e = aVal N V k e := by
  rw [← mp_val W, ← mp_val V, h]
theorem mq_act (h : mq W V) (k a : Nat) : (aAct rN N false k a W).1 = (aAct rN N false k a V).1 ∧ mq (aAct rN N false k a W).2 (aAct rN N false k a V).2 := by
  have h1 := mp_act (rN := rN) (N := N) k a W
  have h2 := mp_act (rN := rN) (N := N) k a V
  unfold mq at *
  rw [h1.1, h2.1, h1.2, h2.2, h]
  exact ⟨rfl, rfl⟩
theorem mq_run : ∀ (r : Nat) (as : List Nat) (W V : aW Nm) (k : Nat), mq W V → (aRun rN N false k r as W).1 = (aRun rN N false k r as V).1 ∧ mq (aRun rN N false k r as W).2 (aRun rN N false k r as V).2 := by
  intro r
  induction r with
  | zero => intro as W V k h; exact ⟨rfl, h⟩
  | succ r ih =>
    intro as W V k h
    cases as with
    | nil => exact ⟨rfl, h⟩
    | cons a as =>
      unfold aRun
      by_cases h18 : N 251 a = 18
      · rw [if_pos h18, if_pos h18]
        rw [mq_val h]
        by_cases hv : ¬ aVal N V k (N 252 a) = 0
        · rw [if_pos hv, if_pos hv]
          have h1 := ih (acts N (ix (N 253 a))) W V k h
          simp only
          rw [h1.1]
          by_cases hz : (aRun rN N false k r (acts N (ix (N 253 a))) V).1 = 0
          · rw [if_pos hz, if_pos hz]
            exact ih _ _ _ _ h1.2
          · rw [if_neg hz, if_neg hz]
            exact h1
        · rw [if_neg hv, if_neg hv]
          by_cases hn : N 254 a < 0
          · rw [if_pos hn, if_pos hn]
            exact ih _ _ _ _ h
          · rw [if_neg hn, if_neg hn]
            have h1 := ih (acts N (ix (N 254 a))) W V k h
            simp only
            rw [h1.1]
            by_cases hz : (aRun rN N false k r (acts N (ix (N 254 a))) V).1 = 0
            · rw [if_pos hz, if_pos hz]
              exact ih _ _ _ _ h1.2
            · rw [if_neg hz, if_neg hz]
              exact h1
      · rw [if_neg h18, if_neg h18]
        have h1 := mq_act (rN := rN) (N := N) h k a
        simp only
        rw [h1.1]
        by_cases hz : (aAct rN N false k a V).1 = 0
        · rw [if_pos hz, if_pos hz]
          exact ih _ _ _ _ h1.2
        · rw [if_neg hz, if_neg hz]
          exact h1
theorem mp_gone (k : Nat) (W : aW Nm) : mp (aGone rN false k W) = mp (aGone rN false k (mp W)) := by
  simp only [aGone, mp_add]
  simp [mp, er_map, eI_eI, Function.comp_def]
theorem eI_pri (p s : Nat) : ∀ (qs : List (aS Nm)) (i : Nat), aPri rN N p s (qs.map eS) i = aPri rN N p s qs i := by
  intro qs
  induction qs with
  | nil => intro i; rfl
  | cons q qs ih =>
    intro i
    show (match fcl rN N p s 34 q.1 with | some c => some (i, c) | none => aPri rN N p s (qs.map eS) (i + 1)) = _
    rw [ih]
    rfl
theorem eI_sig (p s : Nat) : ∀ (qs : List (aS Nm)) (i : Nat), aSig rN N p s (qs.map eS) i = (aSig rN N p s qs i).map (fun z => (z.1, eS z.2)) := by
  intro qs
  induction qs with
  | nil => intro i; rfl
  | cons q qs ih =>
    intro i
    show (match fcl rN N p s 35 q.1 with | some _ => aSig rN N p s (qs.map eS) (i + 1) | none => some (i, eS q)) = _
    rw [ih]
    show _ = Option.map (fun z => (z.1, eS z.2)) (match fcl rN N p s 35 q.1 with | some _ => aSig rN N p s qs (i + 1) | none => some (i, q))
    cases fcl rN N p s 35 q.1 <;> rfl
theorem eI_plan (now : Int32) (a : aI Nm) : aPlan rN N now (eI a) = aPlan rN N now a := by
  have h0 : (eI a).1 = a.1 := rfl
  have h2 : (eI a).2.2.1 = a.2.2.1.map eS := rfl
  unfold aPlan
  rw [h0, h2, eI_pri, eI_sig]
  simp only [eI_evl]
  by_cases hs : a.1.2.2.1 < 0
  · rw [if_pos hs, if_pos hs]
  · rw [if_neg hs, if_neg hs]
    cases aPri rN N (ix a.1.2.1) (ix a.1.2.2.1) a.2.2.1 0 with
    | some z => rfl
    | none =>
      cases aSig rN N (ix a.1.2.1) (ix a.1.2.2.1) a.2.2.1 0 with
      | some z => rfl
      | none => rfl
theorem mp_take (k i : Nat) (kd : Int32) (c : Option Nat) (W : aW Nm) : mp (aTake rN N false k i kd c W) = mp (aTake rN N false k i kd c (mp W)) := by
  have hg : ∀ (qs : List (aS Nm)), ((qs.map eS).getD i (rN (-1), 0, 0, 0)).1 = (qs.getD i (rN (-1), 0, 0, 0)).1 ∧ ((qs.map eS).getD i (rN (-1), 0, 0, 0)).2.1 = (qs.getD i (rN (-1), 0, 0, 0)).2.1 ∧ ((qs.map eS).getD i (rN (-1), 0, 0, 0)).2.2.1 = (qs.getD i (rN (-1), 0, 0, 0)).2.2.1 := by
    intro qs
    rw [List.getD_eq_getElem?_getD, List.getD_eq_getElem?_getD, List.getElem?_map]
    cases qs[i]? <;> exact ⟨rfl, rfl, rfl⟩
  have h0 : ∀ a, (eI a).1 = a.1 := fun _ => rfl
  have h1 : ∀ a, (eI a).2.1 = a.2.1 := fun _ => rfl
  have h2 : ∀ a, (eI a).2.2.1 = a.2.2.1.map eS := fun _ => rfl
  have h3 : ∀ a, (eI a).2.2.2 = a.2.2.2 := fun _ => rfl
  simp only [aTake, mp_add, mp_at, h0, h1, h2, h3, (hg _).1, (hg _).2.1, (hg _).2.2, mp_put, mp_mp]
  congr 1
  simp [eI, eS, Function.comp_def, er_map]
  rfl
theorem mq_tail {W1 V1 : aW Nm} (hW1 : mq W1 V1) (kd : Int32) (k : Nat) (as : List Nat) : (if kd = 5 then (5, (W1.1, (W1.2.1.1, W1.2.1.2.1, W1.2.1.2.2.1, if false = true then W1.2.1.2.2.2.1 + 1 else W1.2.1.2.2.2.1, W1.2.1.2.2.2.2), W1.2.2.1, (W1.2.2.2.1, W1.2.2.2.2 + 1)))
      else (kd, if (aRun rN N false k RD as W1).1 = 2 ∨ (aRun rN N false k RD as W1).1 = 0 ∧ kd = 1 then aGone rN false k (aRun rN N false k RD as W1).2 else (aRun rN N false k RD as W1).2)).1 = (if kd = 5 then (5, (V1.1, (V1.2.1.1, V1.2.1.2.1, V1.2.1.2.2.1, if false = true then V1.2.1.2.2.2.1 + 1 else V1.2.1.2.2.2.1, V1.2.1.2.2.2.2), V1.2.2.1, (V1.2.2.2.1, V1.2.2.2.2 + 1)))
      else (kd, if (aRun rN N false k RD as V1).1 = 2 ∨ (aRun rN N false k RD as V1).1 = 0 ∧ kd = 1 then aGone rN false k (aRun rN N false k RD as V1).2 else (aRun rN N false k RD as V1).2)).1 ∧ mq (if kd = 5 then (5, (W1.1, (W1.2.1.1, W1.2.1.2.1, W1.2.1.2.2.1, if false = true then W1.2.1.2.2.2.1 + 1 else W1.2.1.2.2.2.1, W1.2.1.2.2.2.2), W1.2.2.1, (W1.2.2.2.1, W1.2.2.2.2 + 1)))
      else (kd, if (aRun rN N false k RD as W1).1 = 2 ∨ (aRun rN N false k RD as W1).1 = 0 ∧ kd = 1 then aGone rN false k (aRun rN N false k RD as W1).2 else (aRun rN N false k RD as W1).2)).2 (if kd = 5 then (5, (V1.1, (V1.2.1.1, V1.2.1.2.1, V1.2.1.2.2.1, if false = true then V1.2.1.2.2.2.1 + 1 else V1.2.1.2.2.2.1, V1.2.1.2.2.2.2), V1.2.2.1, (V1.2.2.2.1, V1.2.2.2.2 + 1)))
      else (kd, if (aRun rN N false k RD as V1).1 = 2 ∨ (aRun rN N false k RD as V1).1 = 0 ∧ kd = 1 then aGone rN false k (aRun rN N false k RD as V1).2 else (aRun rN N false k RD as V1).2)).2 := by
  by_cases h6 : kd = 5
  · rw [if_pos h6, if_pos h6]
    refine ⟨rfl, ?_⟩
    unfold mq mp at hW1 ⊢
    simp only [Prod.mk.injEq] at hW1 ⊢
    obtain ⟨a1, ⟨a2, a3, _⟩, _, a4⟩ := hW1
    exact ⟨a1, ⟨a2, a3, trivial⟩, trivial, by rw [a4], by rw [a4]⟩
  rw [if_neg h6, if_neg h6]
  refine ⟨rfl, ?_⟩
  have hr := mq_run (rN := rN) (N := N) RD as W1 V1 k hW1
  simp only
  rw [hr.1]
  by_cases hz : (aRun rN N false k RD as V1).1 = 2 ∨ (aRun rN N false k RD as V1).1 = 0 ∧ kd = 1
  · rw [if_pos hz, if_pos hz]
    exact mq_l (mp_gone k) hr.2
  · rw [if_neg hz, if_neg hz]
    exact hr.2
theorem mq_turn (h : mq W V) (k : Nat) : (aTurn rN N false k W).1 = (aTurn rN N false k V).1 ∧ mq (aTurn rN N false k W).2 (aTurn rN N false k V).2 := by
  have hA : eI (aAt W k) = eI (aAt V k) := by rw [← mp_at, ← mp_at, h]
  have h0 : (aAt W k).1 = (aAt V k).1 := by
    have := congrArg (fun z : aI Nm => z.1) hA
    exact this
  have hn : W.2.1.2.1 = V.2.1.2.1 := by
    have := congrArg (fun z : aW Nm => z.2.1.2.1) (show mp W = mp V from h)
    exact this
  have hp : aPlan rN N W.2.1.2.1 (aAt W k) = aPlan rN N V.2.1.2.1 (aAt V k) := by rw [← eI_plan, hA, eI_plan, hn]
  unfold aTurn
  rw [hp, h0]
  obtain ⟨kd, i, c⟩ := aPlan rN N V.2.1.2.1 (aAt V k)
  simp only
  by_cases h5 : kd = 0
  · rw [if_pos h5, if_pos h5]
    exact ⟨rfl, h⟩
  rw [if_neg h5, if_neg h5]
  cases i with
  | none => exact mq_tail h kd k _
  | some i => exact mq_tail (mq_l (f := fun W => aTake rN N false k i kd c W) (mp_take k i kd c) h) kd k _
theorem mp_due : ∀ (L : List (aI Nm)) (k : Nat) (o : Option (Int32 × Nat × Nat)), aDue (L.map eI) k o = aDue L k o := by
  intro L
  induction L with
  | nil => intro k o; rfl
  | cons a L ih =>
    intro k o
    show aDue (L.map eI) (k + 1) (aDueT k a.2.2.2 0 o) = _
    rw [ih]
    rfl
theorem mq_due (h : mq W V) : aDue W.1 0 none = aDue V.1 0 none := by
  rw [← mp_due W.1, ← mp_due V.1]
  exact congrArg (fun z : aW Nm => aDue z.1 0 none) (show mp W = mp V from h)
theorem mp_fire (k i : Nat) (W : aW Nm) : mp (aFire rN false k i W) = mp (aFire rN false k i (mp W)) := by
  have h3 : ∀ a, (eI a).2.2.2 = a.2.2.2 := fun _ => rfl
  have hd : ∀ a, aDropT i (eI a) = eI (aDropT i a) := fun _ => rfl
  have h0 : ∀ a, (eI a).1 = a.1 := fun _ => rfl
  simp only [aFire, mp_add, mp_at, h3, hd, eI_len, h0]
  by_cases h : (aDropT i (aAt W k)).2.2.1.length < 8
  · rw [if_pos h, if_pos h, mp_put, mp_put, mp_mp, eI_acc]
  · rw [if_neg h, if_neg h, mp_lose, mp_lose, mp_put, mp_put, mp_mp, eI_eI]
theorem mq_time : ∀ (r : Nat) (W V : aW Nm), mq W V → (aTime rN false r W).1 = (aTime rN false r V).1 ∧ mq (aTime rN false r W).2 (aTime rN false r V).2 := by
  intro r
  induction r with
  | zero => intro W V h; exact ⟨rfl, h⟩
  | succ r ih =>
    intro W V h
    have hn : W.2.1.2.1 = V.2.1.2.1 := by
      have := congrArg (fun z : aW Nm => z.2.1.2.1) (show mp W = mp V from h)
      exact this
    unfold aTime
    rw [mq_due h, hn]
    cases aDue V.1 0 none with
    | none => exact ⟨rfl, h⟩
    | some z =>
      obtain ⟨d, k, i⟩ := z
      simp only
      by_cases hd : V.2.1.2.1 < d
      · rw [if_pos hd, if_pos hd]
        exact ⟨rfl, h⟩
      · rw [if_neg hd, if_neg hd]
        have h1 := ih _ _ (mq_l (mp_fire (rN := rN) k i) h)
        exact ⟨by simp only [h1.1], h1.2⟩
theorem mq_go (h : mq W V) (m : Int32) : (aGo rN false m W).1 = (aGo rN false m V).1 ∧ mq (aGo rN false m W).2 (aGo rN false m V).2 := by
  refine mq_time 33 _ _ ?_
  unfold mq mp at h ⊢
  simp only [Prod.mk.injEq] at h ⊢
  obtain ⟨a1, ⟨a2, a3, _⟩, _, a4⟩ := h
  exact ⟨a1, ⟨a2, by rw [a3], trivial⟩, trivial, a4⟩
end MP
