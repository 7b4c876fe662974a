/-! the class does an act; acts in a row -/
section CV
variable {A : Nat → Nat} {d b n w P p k : Nat} {h : Nat → Option jC} {X : jXX} {I : Nat → Nat → Int32} {J : Nat → Nat → Int64} {R : Nat → Nat → Nat} {cN rN : Int32 → Nm} {a : aI Nm} {W : aW Nm} {N : Nat → Nat → Int32} {O G E : Nat → Int32} {np L : Nat} {x2 : Int32}
theorem cAct {B ns c m : Nat} (hm1 : cN (-1) = rN (-1)) (hw : isW w) (hP : isP P) (hR : R w 0 = P) (hj : ∀ x y, cN x = cN y → x = y) (hpl : plC cN rN N O G E np P L I) (hW : wC cN I R w W) (hk : W.1[k]? = some a) (hok : okW N np B W) (hB : B + 8 < 2 ^ 31) (hs : sA cN rN N O G E a.2.1.length ns np p c m) (hm : m ≤ L) (ht : I w 10 = nI 0) : oC A h (d + 3) b w k P X J R n x2 cN rN p I m (aAct rN N (decide (w = 57)) k c W) := by
  have w1 := isW_e hw
  have n6 := hpl.1
  have ha := hok.2.1 k a hk
  have okl : okL W.1 := okW_L n6 (fun p hp => (hpl.2.2.2 p hp).2.2.2.2.1) hok
  have h6v : a.2.1.length ≤ 6 := (okl k a hk).1
  have hat := aAt_of hk
  rcases hs with ⟨c1, m1, j, e, he, c2, xe, c3, c4, c5, c6, c7⟩ | ⟨c1, m1, hv, c3, c4, c5⟩ | ⟨c1, m1, e, he, c2, xe, c3, c4, c5⟩ | ⟨c1, c2, c3, c4⟩ | ⟨c1, c2, ⟨t, c3, c4, c5⟩, c6⟩ | ⟨c1, c2, ⟨s, c3, c4, c5⟩, c6⟩ | ⟨c1, c2, c3⟩ | ⟨c1, m1, e, he, c2, xe, c3, c4⟩
  · subst c7
    obtain ⟨I1, k1, s1, on1⟩ := cExp (d := d + 1) (A := A) (b := b) (h := h) (X := X) (J := J) (R := R) (n := n) (x2 := x2) hw hP hR hj hpl hW hk h6v xe (by omega) ht
    have hW1 := wC_on hw on1 hW
    have hp1 := plC_on hw hP (onS_T on1) hpl
    have fr1 : ∀ c i, c < w ∨ w + 73 < c → I1 c i = I c i := fun c i hc => on1 c i (by omega) (by omega)

    obtain ⟨I2, k2, w2, f2, t2⟩ := xSet (d := d + 2) (A := A) (b := b) (h := h) (X := X) (J := J) (R := R) (n := n) (x2 := x2) hw hP hR hj hp1 hW1 hk c3 c4 c6 h6v (by omega) s1.1
    have ex : ix (N 253 c) = e := by rw [c2]; exact nI_clamp (by omega)
    have ej : ix (N 254 c) = j := by rw [c5]; exact nI_clamp (by omega)
    have ea : aAct rN N (decide (w = 57)) k c W = (0, aPut k (a.1, a.2.1.set j (evl N W.2.1.2.1 a ED e), a.2.2) W) := by
      simp only [aAct, c1, hat, aVal, ex, ej]
      rfl
    rw [ea]
    rw [s1.2.1] at w2
    exact Or.inl ⟨rfl, I2, K_tr k1 k2, w2, fun c i hc => (f2 c i hc).trans (fr1 c i hc), t2⟩
  · subst c4
    obtain ⟨I1, k1, hv1, t1, on1⟩ : ∃ I1, K128 A h (d + 3) b w (R (w + 8) k) P X J R n x2 p I m1 I1 ∧ I1 (w + 73) 0 = (if N 253 c < 0 then 0 else aVal N W k (N 253 c)) ∧ I1 w 10 = nI 1 ∧ onS w I I1 := by
      rcases hv with ⟨q1, q2, q3, q4⟩ | ⟨e, he, q1, xe⟩
      · subst q4
        have k8 := wA_lt hW.1 hk
        have hi := wA_I hw hW.1 k k8
        obtain ⟨I1, e1, s1⟩ := c129_0 (d := d + 1) (A := A) (b := b) (h := h) (X := X) (J := J) (R := R) (n := n) (g := G p) (p := R (w + 8) k) hw hi ht (by omega)
        refine ⟨I1, fun st c6 c7 c8 hs => ⟨st + 1, _, _, _, by omega, stp128 hw hP hi (by omega) q2 (by omega) hpl.2.2.1 hs e1⟩, ?_, s1.1, s1.2.2.2⟩
        rw [s1.2.1, q3, if_pos (by rw [q1]; decide)]
      · obtain ⟨I1, k1, s1, on1⟩ := cExp (d := d + 1) (A := A) (b := b) (h := h) (X := X) (J := J) (R := R) (n := n) (x2 := x2) hw hP hR hj hpl hW hk h6v xe (by omega) ht
        refine ⟨I1, k1, ?_, s1.1, on1⟩
        have ex : ix (N 253 c) = e := by rw [q1]; exact nI_clamp (by omega)
        rw [s1.2.1, if_neg (by rw [q1]; exact nI_pos (by omega)), aVal, hat, ex]
    have hW1 := wC_on hw on1 hW
    have hp1 := plC_on hw hP (onS_T on1) hpl
    have fr1 : ∀ c i, c < w ∨ w + 73 < c → I1 c i = I c i := fun c i hc => on1 c i (by omega) (by omega)
    have ea : aAct rN N (decide (w = 57)) k c W = (0, match aGoal N W k c with
      | none => aAdd (decide (w = 57)) (0, a.1.1, rN (N 252 c), if N 253 c < 0 then 0 else aVal N W k (N 253 c), some (a.1.2.1, -1)) W
      | some to => aTo (decide (w = 57)) k (rN (N 252 c)) (if N 253 c < 0 then 0 else aVal N W k (N 253 c)) to W) := by
      simp only [aAct, c1, hat]
      rfl
    rw [ea]
    have hgo : ∀ o to, O m1 = nI o → aGoal N W k c = some to → ((o = 15 ∧ to = aSlot W a.1.2.2.2.2.1) ∨ (o = 16 ∧ to = some k) ∨ (o = 17 ∧ to = aSlot W a.1.2.2.2.1) ∨ (o = 18 ∧ to = aSlot W a.1.2.2.2.2.2) ∨ (o = 19 ∧ to = aLeast W (E m1))) → oC A h (d + 3) b w k P X J R n x2 cN rN p I (m1 + 1) (0, match aGoal N W k c with
      | none => aAdd (decide (w = 57)) (0, a.1.1, rN (N 252 c), if N 253 c < 0 then 0 else aVal N W k (N 253 c), some (a.1.2.1, -1)) W
      | some to => aTo (decide (w = 57)) k (rN (N 252 c)) (if N 253 c < 0 then 0 else aVal N W k (N 253 c)) to W) := by
      intro o to ho hg hto
      obtain ⟨I2, k2, w2, f2, t2⟩ := xSnd (d := d) (A := A) (b := b) (h := h) (X := X) (J := J) (R := R) (n := n) (x2 := x2) hw hP hR hj hp1 hW1 hk okl ho (by omega) t1 hto
      rw [hg]
      rw [hv1, c3] at w2
      exact Or.inl ⟨rfl, I2, K_tr k1 k2, w2, fun c i hc => (f2 c i hc).trans (fr1 c i hc), t2⟩
    rcases c5 with ⟨y, t, hy, q1, q2, q3, q4, q5⟩ | ⟨q1, q2⟩
    · have hg : aGoal N W k c = some (aLeast W (nI t)) := by
        unfold aGoal
        rw [if_pos (by rw [q1]; exact nI_pos' (by omega)), q3]
      exact hgo 19 _ q5 hg (by rw [q4]; simp)
    · have hneg : ¬ 0 ≤ N 258 c := by rw [q1]; decide
      rcases q2 with ⟨q2, q3⟩ | ⟨q2, q3⟩ | ⟨q2, q3⟩ | ⟨q2, q3⟩ | ⟨q2, q3⟩
      · have hg : aGoal N W k c = none := by
          unfold aGoal
          rw [if_neg hneg, if_pos q2]
        obtain ⟨I2, k2, w2, f2, t2⟩ := xOut (d := d + 2) (A := A) (b := b) (h := h) (X := X) (J := J) (R := R) (n := n) (x2 := x2) hw hP hR hj hp1 hW1 hk q3 (by omega) t1
        rw [hg]
        rw [hv1, c3] at w2
        exact Or.inl ⟨rfl, I2, K_tr k1 k2, w2, fun c i hc => (f2 c i hc).trans (fr1 c i hc), t2⟩
      · have hg : aGoal N W k c = some (aSlot W a.1.2.2.2.2.1) := by
          unfold aGoal
          rw [if_neg hneg, if_neg (by rw [q2]; decide), hat, q2]
          rfl
        exact hgo 15 _ q3 hg (by simp)
      · have hg : aGoal N W k c = some (aSlot W a.1.1) := by
          unfold aGoal
          rw [if_neg hneg, if_neg (by rw [q2]; decide), hat, q2]
          rfl
        have hself : aSlot W a.1.1 = some k := by
          unfold aSlot
          rw [List.findIdx?_eq_some_iff_getElem]
          refine ⟨lt_of_some hk, ?_, ?_⟩
          · rw [List.getElem?_eq_getElem (lt_of_some hk)] at hk
            rw [Option.some.inj hk]
            simp
          · intro j hj
            have hjk : W.1[j]? = some (W.1[j]'(by have := lt_of_some hk; omega)) := List.getElem?_eq_getElem _
            have := okW_ids hB hok hjk hk hj
            simp [this]
        rw [hself] at hg
        exact hgo 16 _ q3 hg (by simp)
      · have hg : aGoal N W k c = some (aSlot W a.1.2.2.2.1) := by
          unfold aGoal
          rw [if_neg hneg, if_neg (by rw [q2]; decide), hat, q2]
          rfl
        exact hgo 17 _ q3 hg (by simp)
      · have hg : aGoal N W k c = some (aSlot W a.1.2.2.2.2.2) := by
          unfold aGoal
          rw [if_neg hneg, if_neg (by rw [q2]; decide), hat, q2]
          rfl
        exact hgo 18 _ q3 hg (by simp)
  · subst c5
    obtain ⟨I1, k1, s1, on1⟩ := cExp (d := d + 1) (A := A) (b := b) (h := h) (X := X) (J := J) (R := R) (n := n) (x2 := x2) hw hP hR hj hpl hW hk h6v xe (by omega) ht
    have hW1 := wC_on hw on1 hW
    have hp1 := plC_on hw hP (onS_T on1) hpl
    have fr1 : ∀ c i, c < w ∨ w + 73 < c → I1 c i = I c i := fun c i hc => on1 c i (by omega) (by omega)

    obtain ⟨I2, k2, w2, f2, t2⟩ := xTim (d := d) (A := A) (b := b) (h := h) (X := X) (J := J) (R := R) (n := n) (x2 := x2) hw hP hR hj hp1 hW1 hk okl c3 (by omega) s1.1
    have ex : ix (N 253 c) = e := by rw [c2]; exact nI_clamp (by omega)
    have ea : aAct rN N (decide (w = 57)) k c W = (0, aSetT (decide (w = 57)) k (rN (N 252 c)) (evl N W.2.1.2.1 a ED e) W) := by
      simp only [aAct, c1, hat, aVal, ex]
      rfl
    rw [ea]
    rw [s1.2.1, c4] at w2
    exact Or.inl ⟨rfl, I2, K_tr k1 k2, w2, fun c i hc => (f2 c i hc).trans (fr1 c i hc), t2⟩
  · subst c4
    obtain ⟨I2, k2, w2, f2⟩ := xRes (d := d + 1) (A := A) (b := b) (h := h) (X := X) (J := J) (R := R) (n := n) (x2 := x2) hw hP hR hj hpl hW hk okl c2 (by omega)
    have ea : aAct rN N (decide (w = 57)) k c W = (0, aPut k (aReset (rN (N 252 c)) a) W) := by
      simp only [aAct, c1, hat]
      rfl
    rw [ea]
    rw [c3] at w2
    exact Or.inl ⟨rfl, I2, k2, w2, f2.1, f2.2.trans ht⟩
  · subst c6
    have h4 : aMany W (nI t) ≤ 4 := by rw [aMany_m]; exact hok.2.2.1 t c3
    obtain ⟨I2, k2, w2, f2⟩ := xMake (d := d) (A := A) (b := b) (h := h) (X := X) (J := J) (R := R) (n := n) (x2 := x2) hw hP hR hj hpl hW hk h4 c2 c5 c3 (by omega)
    have ex : ix (N 253 c) = t := by rw [c4]; exact nI_clamp (by omega)
    have ea : aAct rN N (decide (w = 57)) k c W = (0, aMake rN N (decide (w = 57)) k t W) := by
      simp only [aAct, c1, ex]
      rfl
    rw [ea]
    exact Or.inl ⟨rfl, I2, k2, w2, f2.1, f2.2.trans ht⟩
  · subst c6
    obtain ⟨I2, k2, w2, f2⟩ := xNext (d := d + 3) (A := A) (b := b) (h := h) (X := X) (J := J) (R := R) (n := n) (x2 := x2) hw hP hR hj hpl hW hk c2 c5 (by omega)
    have ea : aAct rN N (decide (w = 57)) k c W = (1, aPut k ((a.1.1, a.1.2.1, nI s, a.1.2.2.2), a.2) W) := by
      simp only [aAct, c1, hat, c4]
      rfl
    rw [ea]
    exact Or.inr (Or.inl ⟨rfl, I2, k2, w2, f2.1⟩)
  · subst c3
    obtain ⟨I2, R2, k2, w2, f2, r2⟩ := xStop (d := d + 1) (A := A) (b := b) (h := h) (X := X) (J := J) (R := R) (n := n) (x2 := x2) hm1 hw hP hR hj hpl hW hk (fun j c' hj' hc' => okW_ids hB hok hc' hk hj') (Or.inl c2) (by omega)
    have ea : aAct rN N (decide (w = 57)) k c W = (2, W) := by
      simp only [aAct, c1]
      rfl
    rw [ea]
    exact Or.inr (Or.inr ⟨rfl, I2, R2, k2, w2, f2.1, r2⟩)
  · subst c4
    obtain ⟨I1, k1, s1, on1⟩ := cExp (d := d + 1) (A := A) (b := b) (h := h) (X := X) (J := J) (R := R) (n := n) (x2 := x2) hw hP hR hj hpl hW hk h6v xe (by omega) ht
    have hW1 := wC_on hw on1 hW
    have hp1 := plC_on hw hP (onS_T on1) hpl
    have fr1 : ∀ c i, c < w ∨ w + 73 < c → I1 c i = I c i := fun c i hc => on1 c i (by omega) (by omega)

    obtain ⟨I2, k2, w2, f2, t2⟩ := xSay (d := d + 2) (A := A) (b := b) (h := h) (X := X) (J := J) (R := R) (n := n) (x2 := x2) hm1 hw hP hR hj hp1 hW1 hk c3 (by omega) s1.1
    have ex : ix (N 252 c) = e := by rw [c2]; exact nI_clamp (by omega)
    have ea : aAct rN N (decide (w = 57)) k c W = (0, aAdd (decide (w = 57)) (7, a.1.1, rN (-1), evl N W.2.1.2.1 a ED e, none) W) := by
      simp only [aAct, c1, hat, aVal, ex]
      rfl
    rw [ea]
    rw [s1.2.1] at w2
    exact Or.inl ⟨rfl, I2, K_tr k1 k2, w2, fun c i hc => (f2 c i hc).trans (fr1 c i hc), t2⟩
end CV
