/-! walk: the reference does all that can be done in a state -/
/-- sums and trace are as before -/
def tT (W W' : aW Nm) : Prop := W'.2.1.2.2 = W.2.1.2.2 ∧ W'.2.2.1 = W.2.2.1
section TTT
variable {rN : Int32 → Nm} {N : Nat → Nat → Int32}
theorem tT_refl {W : aW Nm} : tT W W := ⟨rfl, rfl⟩
theorem tT_trans {W W1 W2 : aW Nm} (h : tT W W1) (h2 : tT W1 W2) : tT W W2 := ⟨h2.1.trans h.1, h2.2.trans h.2⟩
theorem tT_lose {W W1 : aW Nm} {i : Int32} {x : Nm} {v : Int32} (h : tT W W1) : tT W (aLose false i x v W1) := by
  have e : aLose false i x v W1 = (W1.1, W1.2.1, W1.2.2.1, (W1.2.2.2.1 + 1, W1.2.2.2.2)) := by simp [aLose, mp_add]
  rw [e]
  exact h
theorem tT_act (k a : Nat) (W : aW Nm) : tT W (aAct rN N false k a W).2 := by
  unfold aAct
  by_cases h10 : N 251 a = 10
  · rw [if_pos h10]; exact tT_refl
  rw [if_neg h10]
  by_cases h11 : N 251 a = 11
  · rw [if_pos h11]
    cases aGoal N W k a with
    | none => simp only [mp_add]; exact tT_refl
    | some to =>
      cases to with
      | none => simp only [aTo, mp_add]; exact tT_lose tT_refl
      | some j =>
        simp only [aTo, mp_add]
        by_cases c : (aAt W j).2.2.1.length < 8
        · rw [if_pos c]; exact tT_refl
        · rw [if_neg c]; exact tT_lose tT_refl
  rw [if_neg h11]
  by_cases h12 : N 251 a = 12
  · rw [if_pos h12]
    simp only [aSetT]
    generalize (if (aTm (rN (N 252 a)) (aAt W k)).isSome = true then aReset (rN (N 252 a)) (aAt W k) else aAt W k) = c
    by_cases h4 : c.2.2.2.length < 4
    · rw [if_pos h4]; exact tT_refl
    · rw [if_neg h4]; exact tT_lose tT_refl
  rw [if_neg h12]
  by_cases h13 : N 251 a = 13
  · rw [if_pos h13]; exact tT_refl
  rw [if_neg h13]
  by_cases h14 : N 251 a = 14
  · rw [if_pos h14]
    simp only [aMake]
    by_cases c : W.1.length = 8 ∨ aMany W (nI (ix (N 253 a))) = 4
    · rw [if_pos c]; exact tT_lose tT_refl
    · rw [if_neg c]; simp only [aFresh, mp_add]; exact tT_refl
  rw [if_neg h14]
  by_cases h15 : N 251 a = 15
  · rw [if_pos h15]; exact tT_refl
  rw [if_neg h15]
  by_cases h16 : N 251 a = 16
  · rw [if_pos h16]; exact tT_refl
  rw [if_neg h16]
  simp only [mp_add]
  exact tT_refl
theorem tT_run : ∀ (r : Nat) (as : List Nat) (k : Nat) (W : aW Nm), tT W (aRun rN N false k r as W).2 := by
  intro r
  induction r with
  | zero => intro as k W; exact tT_refl
  | succ r ih =>
    intro as k W
    cases as with
    | nil => exact tT_refl
    | cons a as =>
      unfold aRun
      by_cases h18 : N 251 a = 18
      · rw [if_pos h18]
        by_cases hv : ¬ aVal N W k (N 252 a) = 0
        · rw [if_pos hv]
          simp only
          by_cases hz : (aRun rN N false k r (acts N (ix (N 253 a))) W).1 = 0
          · rw [if_pos hz]; exact tT_trans (ih _ _ _) (ih _ _ _)
          · rw [if_neg hz]; exact ih _ _ _
        · rw [if_neg hv]
          by_cases hn : N 254 a < 0
          · rw [if_pos hn]; exact ih _ _ _
          · rw [if_neg hn]
            simp only
            by_cases hz : (aRun rN N false k r (acts N (ix (N 254 a))) W).1 = 0
            · rw [if_pos hz]; exact tT_trans (ih _ _ _) (ih _ _ _)
            · rw [if_neg hz]; exact ih _ _ _
      · rw [if_neg h18]
        simp only
        by_cases hz : (aAct rN N false k a W).1 = 0
        · rw [if_pos hz]; exact tT_trans (tT_act k a W) (ih _ _ _)
        · rw [if_neg hz]; exact tT_act k a W
theorem tT_gone {W : aW Nm} {k : Nat} : tT W (aGone rN false k W) := by
  simp only [aGone, mp_add]
  exact tT_refl
theorem tT_take {W : aW Nm} {k i : Nat} {kd : Int32} {c : Option Nat} : tT W (aTake rN N false k i kd c W) := by
  simp only [aTake, mp_add]
  exact tT_refl
theorem tT_tail {W1 : aW Nm} (kd : Int32) (k : Nat) (as : List Nat) : tT W1 (if kd = 5 then (5, (W1.1, (W1.2.1.1, W1.2.1.2.1, W1.2.1.2.2.1, if false = true then W1.2.1.2.2.2.1 + 1 else W1.2.1.2.2.2.1, W1.2.1.2.2.2.2), W1.2.2.1, (W1.2.2.2.1, W1.2.2.2.2 + 1)))
      else (kd, if (aRun rN N false k RD as W1).1 = 2 ∨ (aRun rN N false k RD as W1).1 = 0 ∧ kd = 1 then aGone rN false k (aRun rN N false k RD as W1).2 else (aRun rN N false k RD as W1).2)).2 ∧ (if kd = 5 then (5, (W1.1, (W1.2.1.1, W1.2.1.2.1, W1.2.1.2.2.1, if false = true then W1.2.1.2.2.2.1 + 1 else W1.2.1.2.2.2.1, W1.2.1.2.2.2.2), W1.2.2.1, (W1.2.2.2.1, W1.2.2.2.2 + 1)))
      else (kd, if (aRun rN N false k RD as W1).1 = 2 ∨ (aRun rN N false k RD as W1).1 = 0 ∧ kd = 1 then aGone rN false k (aRun rN N false k RD as W1).2 else (aRun rN N false k RD as W1).2)).1 = kd := by
  by_cases h5 : kd = 5
  · rw [if_pos h5]
    exact ⟨⟨by simp, rfl⟩, h5.symm⟩
  · rw [if_neg h5]
    refine ⟨?_, rfl⟩
    simp only
    by_cases hz : (aRun rN N false k RD as W1).1 = 2 ∨ (aRun rN N false k RD as W1).1 = 0 ∧ kd = 1
    · rw [if_pos hz]; exact tT_trans (tT_run _ _ _ _) tT_gone
    · rw [if_neg hz]; exact tT_run _ _ _ _
theorem tT_turn {W : aW Nm} {k : Nat} : tT W (aTurn rN N false k W).2 ∧ (aTurn rN N false k W).1 = (aPlan rN N W.2.1.2.1 (aAt W k)).1 := by
  obtain ⟨kd, i, c, hp⟩ : ∃ kd i c, aPlan rN N W.2.1.2.1 (aAt W k) = (kd, i, c) := ⟨_, _, _, rfl⟩
  rw [aTurn_B hp, hp]
  unfold aTurnB
  by_cases h0 : kd = 0
  · rw [if_pos h0]; exact ⟨tT_refl, h0.symm⟩
  rw [if_neg h0]
  cases i with
  | none => exact tT_tail kd k _
  | some i =>
    exact ⟨tT_trans tT_take (tT_tail kd k _).1, (tT_tail kd k _).2⟩
theorem tT_time : ∀ (r : Nat) (W : aW Nm), tT W (aTime rN false r W).2 := by
  intro r
  induction r with
  | zero => intro W; exact tT_refl
  | succ r ih =>
    intro W
    unfold aTime
    cases aDue W.1 0 none with
    | none => exact tT_refl
    | some z =>
      obtain ⟨d, k, i⟩ := z
      simp only
      by_cases c : W.2.1.2.1 < d
      · rw [if_pos c]; exact tT_refl
      · rw [if_neg c]
        refine tT_trans ?_ (ih _)
        simp only [aFire, mp_add]
        by_cases c2 : (aDropT i (aAt W k)).2.2.1.length < 8
        · rw [if_pos c2]; exact tT_refl
        · rw [if_neg c2]; exact tT_lose tT_refl
end TTT
/-- nothing but what the walk of the reference works with -/
def fZ (I I' : Nat → Nat → Int32) : Prop := (∀ c j, c < 241 ∨ (241 < c ∧ c < 260) ∨ 286 < c → I' c j = I c j) ∧ (∀ j, j < 36 ∨ 82 < j → I' 241 j = I 241 j) ∧ ∀ j, 435 * 1001 ≤ j → I' 282 j = I 282 j
theorem fZ_refl {I : Nat → Nat → Int32} : fZ I I := ⟨fun _ _ _ => rfl, fun _ _ => rfl, fun _ _ => rfl⟩
theorem fZ_trans {I I1 I2 : Nat → Nat → Int32} (h : fZ I I1) (h2 : fZ I1 I2) : fZ I I2 := ⟨fun c j a => (h2.1 c j a).trans (h.1 c j a), fun j a => (h2.2.1 j a).trans (h.2.1 j a), fun j a => (h2.2.2 j a).trans (h.2.2 j a)⟩
theorem fZ_U {I I' : Nat → Nat → Int32} (h : fU I I') : fZ I I' := ⟨fun c j a => h c j (by omega) (by omega), fun j a => h _ _ (by omega) (by omega), fun j a => h _ _ (by omega) (by omega)⟩
theorem fZ_Q {I I' : Nat → Nat → Int32} (h : fQ I I') : fZ I I' := ⟨fun c j a => h.1 c j (by omega) (by omega), fun j a => h.1 _ _ (by omega) (by omega), h.2⟩
theorem fZ_R {I I' : Nat → Nat → Int32} (h : fR I I') : fZ I I' := ⟨fun c j a => h.1 c j (by omega), fun j a => h.2.1 _ (by omega), fun j a => h.1 _ _ (by omega)⟩
theorem fZ_P {I I' : Nat → Nat → Int32} (h : onPQ I I') : fZ I I' := ⟨fun c j a => h.1 c j (by omega), fun j a => h.2 _ (by omega), fun j a => h.1 _ _ (by omega)⟩
theorem plR_fZ {X : jXX} {I I' N : Nat → Nat → Int32} {M : Nat} (h : fZ I I') (hp : plR X I N M) : plR X I' N M := plR_fr (fun c i a1 a2 => h.1 c i (by omega)) hp
section RFR
variable {rN : Int32 → Nm} {E : List bE} {W : aW Nm} {I I' : Nat → Nat → Int32} {l : Bool}
theorem rBe_e (hB : rBe rN I E) (h80 : I' 241 80 = I 241 80) (hr : ∀ c j, 282 ≤ c → c ≤ 285 → I' c j = I c j) : rBe rN I' E := by
  have e : ∀ c, 282 ≤ c → c ≤ 285 → I' c = I c := fun c h1 h2 => funext fun j => hr c j h1 h2
  unfold rBe at hB ⊢
  rw [h80, e 282 (by omega) (by omega), e 283 (by omega) (by omega), e 284 (by omega) (by omega), e 285 (by omega) (by omega)]
  exact hB
/-- the flags are cleared -/
theorem wR_0 (hW : wR rN I false W) : wR rN (u2 (u2 I 241 67 (nI 0)) 241 68 (nI 0)) false (W.1, W.2.1, W.2.2.1, (0, 0)) := by
  obtain ⟨hA, h4, h5, hL, hQ⟩ := hW
  obtain ⟨q1, q2, q3, q4⟩ := hQ rfl
  refine ⟨wB_fr (fun c i h1 h2 => by rw [u2_k (by omega), u2_k (by omega)]) (by rw [u2_i (by omega), u2_i (by omega)]) hA, by rw [u2_i (by omega), u2_i (by omega)]; exact h4, by rw [u2_i (by omega), u2_i (by omega)]; exact h5, fun e => (by cases e), fun _ => ⟨by rw [u2_i (by omega), u2_i (by omega)]; exact q1, by rw [u2_i (by omega), u2_s]; exact ⟨fun _ => rfl, fun _ => rfl⟩, by rw [u2_s]; exact ⟨fun _ => rfl, fun _ => rfl⟩, ?_⟩⟩
  exact tQ_fr (fun c i h1 h2 => by rw [u2_k (by omega), u2_k (by omega)]) (fun i h1 => by rw [u2_i (by omega), u2_i (by omega)]) q4
/-- time is set -/
theorem wR_now {v : Int32} (hW : wR rN I l W) : wR rN (u2 I 241 38 v) l (W.1, (W.2.1.1, v, W.2.1.2.2), W.2.2.1, W.2.2.2) := by
  obtain ⟨hA, h4, h5, hL, hQ⟩ := hW
  refine ⟨wB_fr (fun c i h1 h2 => by rw [u2_k (by omega)]) (by rw [u2_i (by omega)]) hA, by rw [u2_i (by omega)]; exact h4, u2_s, fun e => ?_, fun e => ?_⟩
  · obtain ⟨b1, b2, b3, b4, b5, b6, b7, b8⟩ := hL e
    refine ⟨by rw [u2_i (by omega)]; exact b1, by rw [u2_i (by omega)]; exact b2, by rw [u2_i (by omega)]; exact b3, by rw [u2_i (by omega)]; exact b4, b5, by rw [u2_i (by omega)]; exact b6, ?_, by rw [u2_i (by omega)]; exact b8⟩
    refine b7.trans (rl_congr fun j hj => ?_)
    unfold eR
    simp (disch := omega) [u2_k]
  · obtain ⟨b1, b2, b3, b4⟩ := hQ e
    exact ⟨by rw [u2_i (by omega)]; exact b1, by rw [u2_i (by omega)]; exact b2, by rw [u2_i (by omega)]; exact b3, tQ_fr (fun c i h1 h2 => by rw [u2_k (by omega)]) (fun i h1 => by rw [u2_i (by omega)]) b4⟩
end RFR
