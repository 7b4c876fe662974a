/-! rows that grow: a new row in the place of an old one -/
def xgr (X : jXX) (v : Nat) (row : Nat → Int32) (m : Nat) (hv : gw v = true) : jXX := ⟨(up X.1.1 v X.1.2.2.2, up X.1.2.1 v m, up X.1.2.2.1 (X.1.1 v) (some (gtag v, X.1.2.1 v, fun i => .int (row i))), X.1.2.2.2 + 1), by
  obtain ⟨⟨f, g, D, t⟩, h1, h2, h3, h4⟩ := X
  refine ⟨fun w hw => ?_, fun w u hw hu e => ?_, Nat.le_succ_of_le h3, fun k hk => ?_⟩
  · show (up f v t w = w ∨ 300 ≤ up f v t w) ∧ up f v t w < t + 1
    unfold up
    by_cases e : w = v
    · rw [if_pos e]
      exact ⟨Or.inr h3, Nat.lt_succ_self _⟩
    · rw [if_neg e]
      exact ⟨(h1 w hw).1, Nat.lt_succ_of_lt (h1 w hw).2⟩
  · have e' : up f v t w = up f v t u := e
    unfold up at e'
    by_cases e1 : w = v
    · by_cases e2 : u = v
      · rw [e1, e2]
      · rw [if_pos e1, if_neg e2] at e'
        have := (h1 u hu).2
        simp only at this
        omega
    · by_cases e2 : u = v
      · rw [if_neg e1, if_pos e2] at e'
        have := (h1 w hw).2
        simp only at this
        omega
      · rw [if_neg e1, if_neg e2] at e'
        exact h2 w u hw hu e'
  · show up D (f v) (some (gtag v, g v, fun i => .int (row i))) k = none
    have hk' : t + 1 ≤ k := hk
    have h5 := (h1 v hv).2
    simp only at h5
    unfold up
    rw [if_neg (by omega)]
    exact h4 k (by show t ≤ k; omega)⟩
section PG
variable {h : Nat → Option jC} {b : Nat} {X : jXX} {I : Nat → Nat → Int32} {J : Nat → Nat → Int64} {R : Nat → Nat → Nat} {n : Nat}
theorem xgr_ad {v m w : Nat} {row : Nat → Int32} {hv : gw v = true} : ad (xgr X v row m hv) w = if w = v then tp X else ad X w := rfl
theorem xgr_cp {v m w : Nat} {row : Nat → Int32} {hv : gw v = true} : cp (xgr X v row m hv) w = if w = v then m else cp X w := rfl
theorem xgr_tp {v m : Nat} {row : Nat → Int32} {hv : gw v = true} : tp (xgr X v row m hv) = tp X + 1 := rfl
theorem xad_ad {c : jC} {w : Nat} : ad (xad X c) w = ad X w := rfl
theorem xad_cp {c : jC} {w : Nat} : cp (xad X c) w = cp X w := rfl
theorem xad_tp {c : jC} : tp (xad X c) = tp X + 1 := rfl
theorem ad_lt {w : Nat} (hw : gw w = true) : ad X w < tp X := (X.2.1 w hw).2
theorem ad_inj {w u : Nat} (hw : gw w = true) (hu : gw u = true) (e : ad X w = ad X u) : w = u := X.2.2.1 w u hw hu e
theorem tp_300 : 300 ≤ tp X := X.2.2.2.1
theorem tp_fx : fx (tp X) = false := by
  have h3 : 300 ≤ tp X := tp_300
  unfold fx; simp; intro h; omega
theorem gL_gw {w : Nat} (h : w ∈ gL) : gw w = true := by unfold gw; simpa using h
/-- the last cell that was made -/
theorem H_last {c : jC} : (jH h b (xad X c) I J R n).1 (b + tp X) = some c := by
  rw [H_at]
  unfold cl
  have h4 : gL.find? (fun w => ad (xad X c) w == tp X) = none := by
    apply List.find?_eq_none.mpr
    intro w hw
    have h6 := ad_lt (X := X) (gL_gw hw)
    rw [xad_ad]
    simp
    omega
  rw [if_neg (by rw [tp_fx]; decide), h4]
  show up X.1.2.2.1 X.1.2.2.2 (some c) (tp X) = some c
  unfold up
  rw [if_pos (show tp X = X.1.2.2.2 from rfl)]
theorem xad_vf {c : jC} {t k i : Nat} : vf b t (xad X c) I J R k i = vf b t X I J R k i := rfl
/-- it is written -/
theorem H_lset {c c' : jC} : jset (jH h b (xad X c) I J R n) (b + tp X) c' = jH h b (xad X c') I J R n := by
  unfold jset jH
  have h1 : tp (xad X c) = tp (xad X c') := rfl
  rw [h1]
  simp only
  congr 1
  funext q
  unfold jup
  by_cases hq : q = b + tp X
  · subst hq
    rw [if_pos rfl, if_neg (by omega), Nat.add_sub_cancel_left]
    have := H_last (h := h) (b := b) (X := X) (I := I) (J := J) (R := R) (n := n) (c := c')
    rw [H_at] at this
    exact this.symm
  · rw [if_neg hq]
    show (if q < b then h q else cl b (xad X c) I J R (q - b)) = _
    by_cases hb : q < b
    · rw [if_pos hb, if_pos hb]
    · rw [if_neg hb, if_neg hb]
      unfold cl
      have h11 : (xad X c').1.2.2.1 (q - b) = (xad X c).1.2.2.1 (q - b) := by
        show up X.1.2.2.1 X.1.2.2.2 (some c') (q - b) = up X.1.2.2.1 X.1.2.2.2 (some c) (q - b)
        unfold up
        have : ¬ q - b = X.1.2.2.2 := by show ¬ q - b = tp X; omega
        rw [if_neg this, if_neg this]
      rw [h11]
      rfl
theorem gf_only {v k i k' i' : Nat} (h0 : gf k i = v) (h1 : gf k' i' = v) (hv : gw v = true) : k' = k ∧ i' = i := by
  have hv0 : v ≠ 0 := by intro e; subst e; revert hv; decide
  unfold gf at h0 h1
  by_cases a1 : k = 131 ∧ i = 1
  · rw [if_pos a1] at h0
    by_cases a2 : k' = 131 ∧ i' = 1
    · exact ⟨a2.1.trans a1.1.symm, a2.2.trans a1.2.symm⟩
    · rw [if_neg a2] at h1
      by_cases a3 : k' = 241 ∧ 3 ≤ i' ∧ i' ≤ 6
      · rw [if_pos a3] at h1; omega
      · rw [if_neg a3] at h1
        by_cases a4 : k' = 241 ∧ 21 ≤ i' ∧ i' ≤ 28
        · rw [if_pos a4] at h1; omega
        · rw [if_neg a4] at h1; omega
  · rw [if_neg a1] at h0
    by_cases a2 : k' = 131 ∧ i' = 1
    · rw [if_pos a2] at h1
      by_cases a3 : k = 241 ∧ 3 ≤ i ∧ i ≤ 6
      · rw [if_pos a3] at h0; omega
      · rw [if_neg a3] at h0
        by_cases a4 : k = 241 ∧ 21 ≤ i ∧ i ≤ 28
        · rw [if_pos a4] at h0; omega
        · rw [if_neg a4] at h0; omega
    · rw [if_neg a2] at h1
      by_cases a3 : k = 241 ∧ 3 ≤ i ∧ i ≤ 6
      · rw [if_pos a3] at h0
        by_cases b3 : k' = 241 ∧ 3 ≤ i' ∧ i' ≤ 6
        · rw [if_pos b3] at h1; omega
        · rw [if_neg b3] at h1
          by_cases b4 : k' = 241 ∧ 21 ≤ i' ∧ i' ≤ 28
          · rw [if_pos b4] at h1; omega
          · rw [if_neg b4] at h1; omega
      · rw [if_neg a3] at h0
        by_cases a4 : k = 241 ∧ 21 ≤ i ∧ i ≤ 28
        · rw [if_pos a4] at h0
          by_cases b3 : k' = 241 ∧ 3 ≤ i' ∧ i' ≤ 6
          · rw [if_pos b3] at h1; omega
          · rw [if_neg b3] at h1
            by_cases b4 : k' = 241 ∧ 21 ≤ i' ∧ i' ≤ 28
            · rw [if_pos b4] at h1; omega
            · rw [if_neg b4] at h1; omega
        · rw [if_neg a4] at h0; omega
theorem xgr_tgt {v m k i : Nat} {row : Nat → Int32} {hv : gw v = true} (hn : gf k i ≠ v) : tgt (xgr X v row m hv) R k i = tgt X R k i := by
  unfold tgt
  by_cases h0 : gf k i = 0
  · rw [if_pos h0, if_pos h0]
  · rw [if_neg h0, if_neg h0, xgr_ad, if_neg hn]
theorem H_grow {v k f m t M : Nat} {g : Nat → Int32} (hv : gw v = true) (hf : gf k f = v) (hk : fx k = true) (hs : sT k = (t, M)) (ht : t < 20 ∧ t ≠ 11 ∧ tyk t f = 2) :
    jset (jH h b (xad X (gtag v, m, fun i => .int (g i))) I J R n) (b + k) (t, M, updV (vf b t (xad X (gtag v, m, fun i => .int (g i))) I J R k) f (.ref (b + tp X))) = jH h b (xgr X v (I v) m hv) (uc I v g) J R n := by
  have hgk : gw k = false := by
    unfold fx at hk
    simp at hk
    exact hk.2
  have hvk : k ≠ v := by intro e; rw [e, hv] at hgk; cases hgk
  unfold jset jH
  have h1 : tp (xad X (gtag v, m, fun i => .int (g i))) = tp (xgr X v (I v) m hv) := rfl
  rw [h1]
  simp only
  congr 1
  funext q
  unfold jup
  by_cases hq : q = b + k
  · subst hq
    rw [if_pos rfl, if_neg (by omega), Nat.add_sub_cancel_left]
    unfold cl
    rw [if_pos hk, hs]
    simp only
    congr 3
    funext i
    unfold updV
    by_cases hi : i = f
    · subst hi
      rw [if_pos rfl]
      unfold vf
      have : ¬ (t = 20 ∨ t = 22 ∨ t = 23) := by omega
      rw [if_neg this, if_neg (by omega), if_neg (by omega), if_neg ht.2.1, if_neg (by rw [ht.2.2]; decide), if_pos ht.2.2]
      unfold tgt
      have hv0 : ¬ gf k i = 0 := by rw [hf]; intro e; rw [e] at hv; revert hv; decide
      rw [if_neg hv0, hf, xgr_ad, if_pos rfl]
    · rw [if_neg hi, xad_vf]
      unfold vf
      have hne : gf k i ≠ v := fun e => hi (gf_only hf e hv).2
      rw [xgr_tgt hne]
      have hI : uc I v g k i = I k i := by rw [uc_ap, if_neg hvk]
      rw [hI]
  · rw [if_neg hq]
    show (if q < b then h q else cl b (xad X (gtag v, m, fun i => Value.int (g i))) I J R (q - b)) = _
    by_cases hb : q < b
    · rw [if_pos hb, if_pos hb]
    · rw [if_neg hb, if_neg hb]
      unfold cl
      by_cases hfx : fx (q - b) = true
      · rw [if_pos hfx, if_pos hfx]
        congr 3
        funext i
        rw [xad_vf]
        have hne : gf (q - b) i ≠ v := fun e => by
          have := (gf_only hf e hv).1
          omega
        have hvq : q - b ≠ v := by
          intro e
          rw [e, gw_fx hv] at hfx
          cases hfx
        unfold vf
        rw [xgr_tgt hne]
        have hI : uc I v g (q - b) i = I (q - b) i := by rw [uc_ap, if_neg hvq]
        rw [hI]
      · rw [if_neg hfx, if_neg hfx]
        by_cases htp : q - b = tp X
        · -- the new row
          have f1 : gL.find? (fun w => ad (xad X (gtag v, m, fun i => .int (g i))) w == q - b) = none := by
            apply List.find?_eq_none.mpr
            intro w hw
            have h6 := ad_lt (X := X) (gL_gw hw)
            rw [xad_ad]
            simp
            omega
          have f2 : gL.find? (fun w => ad (xgr X v (I v) m hv) w == q - b) = some v := by
            have := find_ad (X := xgr X v (I v) m hv) hv
            rw [xgr_ad, if_pos rfl, ← htp] at this
            exact this
          rw [f1, f2]
          simp only
          rw [xgr_cp, if_pos rfl]
          show up X.1.2.2.1 X.1.2.2.2 (some (gtag v, m, fun i => .int (g i))) (q - b) = _
          unfold up
          rw [if_pos (show q - b = X.1.2.2.2 from htp)]
          congr 3
          funext i
          rw [uc_ap, if_pos rfl]
        · by_cases hod : q - b = ad X v
          · -- the old row
            have f1 : gL.find? (fun w => ad (xad X (gtag v, m, fun i => .int (g i))) w == q - b) = some v := by
              rw [hod]
              exact find_ad (X := X) hv
            have f2 : gL.find? (fun w => ad (xgr X v (I v) m hv) w == q - b) = none := by
              apply List.find?_eq_none.mpr
              intro w hw
              rw [xgr_ad]
              by_cases e : w = v
              · rw [if_pos e]
                simp
                exact fun z => htp z.symm
              · rw [if_neg e]
                simp
                intro z
                exact e (ad_inj (gL_gw hw) hv (z.trans hod))
            rw [f1, f2]
            simp only
            show some (gtag v, cp X v, fun i => Value.int (I v i)) = up X.1.2.2.1 (X.1.1 v) (some (gtag v, X.1.2.1 v, fun i => .int (I v i))) (q - b)
            unfold up
            rw [if_pos (show q - b = X.1.1 v from hod)]
            rfl
          · have fe : gL.find? (fun w => ad (xgr X v (I v) m hv) w == q - b) = gL.find? (fun w => ad X w == q - b) := by
              congr 1
              funext w
              rw [xgr_ad]
              by_cases e : w = v
              · rw [if_pos e, e]
                rw [Bool.eq_iff_iff]
                simp
                exact ⟨fun z => absurd z.symm htp, fun z => absurd z.symm hod⟩
              · rw [if_neg e]
            have fe2 : gL.find? (fun w => ad (xad X (gtag v, m, fun i => .int (g i))) w == q - b) = gL.find? (fun w => ad X w == q - b) := rfl
            rw [fe, fe2]
            cases hw : gL.find? (fun w => ad X w == q - b) with
            | none =>
              simp only
              show up X.1.2.2.1 X.1.2.2.2 (some (gtag v, m, fun i => .int (g i))) (q - b) = up X.1.2.2.1 (X.1.1 v) (some (gtag v, X.1.2.1 v, fun i => .int (I v i))) (q - b)
              unfold up
              rw [if_neg (show ¬ q - b = X.1.2.2.2 from htp), if_neg (show ¬ q - b = X.1.1 v from hod)]
            | some w =>
              simp only
              have h1 := List.find?_some hw
              have h3 : ad X w = q - b := by simpa using h1
              have h2 : w ≠ v := by intro e; subst e; exact hod h3.symm
              rw [xgr_cp, if_neg h2, xad_cp]
              congr 3
              funext i
              rw [uc_ap, if_neg h2]
end PG
