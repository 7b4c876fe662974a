/-! what a text says holds together -/
/-- an op of the process pr -/
def opV (K : Nat → Nat) (pr : Nat) (x : oT) : Prop := x.1 < 32 ∧ (x.1 = 1 ∨ x.1 = 13 ∨ x.1 = 23 → x.2.1 = .inr x.2.2.2 ∧ x.2.2.1 = .inl (nI pr) ∧ K x.2.2.2 = 26) ∧ (x.1 = 22 → x.2.1 = .inr x.2.2.2 ∧ K x.2.2.2 = 26) ∧ (x.1 = 19 → x.2.2.1 = .inr x.2.2.2 ∧ K x.2.2.2 = 26) ∧ (14 ≤ x.1 ∧ x.1 ≤ 21 → ∃ t, x.2.1 = .inr t ∧ K t = 26 ∧ t ≤ x.2.2.2)
def pAl (K : Nat → Nat) (pr : Nat) (a : pR) : Prop := ∀ l, a.1 = some l → ∀ x, x ∈ l → opV K pr x
section PV
variable {K : Nat → Nat} {pr m : Nat}
theorem pAl_n {j : Nat} : pAl K pr (none, j) := fun l h => by cases h
theorem pAl_s {l : List oT} {j : Nat} (h : ∀ x, x ∈ l → opV K pr x) : pAl K pr (some l, j) := fun l' h' => by cases h'; exact h
theorem pAl_B {a : pR} {f : List oT → Nat → pR} (h : pAl K pr a) (hf : ∀ l j, a = (some l, j) → (∀ x, x ∈ l → opV K pr x) → pAl K pr (f l j)) : pAl K pr (pB a f) := by
  obtain ⟨o, j⟩ := a
  cases o with
  | none => exact pAl_n
  | some l => exact hf l j rfl (h l rfl)
theorem oz_V {op tk : Nat} (h1 : op < 32) (h2 : op ≠ 1 ∧ op ≠ 13 ∧ op ≠ 23 ∧ op ≠ 22 ∧ ¬ (14 ≤ op ∧ op ≤ 21)) : opV K pr (oz pr op tk) := by
  refine ⟨h1, fun h => ?_, fun h => ?_, fun h => ?_, fun h => ?_⟩
  · have h : op = 1 ∨ op = 13 ∨ op = 23 := h
    omega
  · have h : op = 22 := h
    omega
  · have h : op = 19 := h
    omega
  · have h : 14 ≤ op ∧ op ≤ 21 := h
    omega
theorem al2 {l l' : List oT} (h : ∀ x, x ∈ l → opV K pr x) (h' : ∀ x, x ∈ l' → opV K pr x) : ∀ x, x ∈ l ++ l' → opV K pr x := fun x hx => by
  rcases List.mem_append.mp hx with hx | hx
  · exact h x hx
  · exact h' x hx
theorem al1 {o : oT} (h : opV K pr o) : ∀ x, x ∈ [o] → opV K pr x := fun x hx => by
  have : x = o := by simpa using hx
  rw [this]; exact h
theorem pN_al {k j : Nat} {l : List oT} (h : ∀ x, x ∈ l → opV K pr x) : pAl K pr (pN K k l j) := by
  unfold pN
  split
  · exact pAl_s h
  · exact pAl_n
theorem xA_al {j : Nat} : pAl K pr (xA K pr j) := by
  unfold xA
  cases h : aop (K j) with
  | none => exact pAl_n
  | some o =>
    have ho := aop_lt h
    refine pAl_s (al1 ⟨?_, fun z => ⟨rfl, rfl, ?_⟩, fun z => ?_, fun z => ?_, fun z => ?_⟩)
    · show o < 32; omega
    · have z : o = 1 ∨ o = 13 ∨ o = 23 := z
      have : o = 1 := by omega
      subst this
      show K j = 26
      unfold aop at h
      split at h
      · cases h
      · split at h
        · next e => exact e
        · repeat (split at h; · cases h)
          cases h
    · have z : o = 22 := z
      omega
    · have z : o = 19 := z
      omega
    · have z : 14 ≤ o ∧ o ≤ 21 := z
      omega
section PVX
variable {S : Nat → pR}
theorem xPl_al (hS : ∀ j, pAl K pr (S j)) : ∀ (r : Nat) (l : List oT) (j : Nat), (∀ x, x ∈ l → opV K pr x) → pAl K pr (xPl K pr S r l j) := by
  intro r
  induction r with
  | zero => intro l j h; exact pAl_s h
  | succ r ih =>
    intro l j h
    unfold xPl
    split
    · exact pAl_B (hS _) fun l1 j1 _ h1 => ih _ _ (al2 (al2 h h1) (al1 (oz_V (by omega) (by omega))))
    · exact pAl_s h
theorem xP_al (hS : ∀ j, pAl K pr (S j)) {j : Nat} : pAl K pr (xP K pr S j) := pAl_B (hS j) fun l j1 _ h => xPl_al hS _ _ _ h
theorem xQl_al (hS : ∀ j, pAl K pr (S j)) : ∀ (r : Nat) (l : List oT) (j : Nat), (∀ x, x ∈ l → opV K pr x) → pAl K pr (xQl K pr S r l j) := by
  intro r
  induction r with
  | zero => intro l j h; exact pAl_s h
  | succ r ih =>
    intro l j h
    unfold xQl
    split
    · exact pAl_B (xP_al hS) fun l1 j1 _ h1 => ih _ _ (al2 (al2 h h1) (al1 (oz_V (by split <;> omega) (by split <;> omega))))
    · exact pAl_s h
theorem xQ_al (hS : ∀ j, pAl K pr (S j)) {j : Nat} : pAl K pr (xQ K pr S j) := pAl_B (xP_al hS) fun l j1 _ h => xQl_al hS _ _ _ h
theorem xE_al (hS : ∀ j, pAl K pr (S j)) {j : Nat} : pAl K pr (xE K pr S j) := by
  refine pAl_B (xQ_al hS) fun l j1 _ h => ?_
  split
  · exact pAl_B (xQ_al hS) fun l2 j2 _ h2 => pAl_s (al2 (al2 h h2) (al1 (oz_V (by split <;> omega) (by split <;> omega))))
  · exact pAl_s h
end PVX
theorem xS_al : ∀ (g j : Nat), pAl K pr (xS K pr g j) := by
  intro g
  induction g with
  | zero => intro j; exact xA_al
  | succ g ih =>
    intro j
    unfold xS
    split
    · exact pAl_B (xE_al ih) fun l j1 _ h => pN_al h
    · split
      · exact pAl_B (ih _) fun l j1 _ h => pAl_s (al2 h (al1 (oz_V (by omega) (by omega))))
      · exact xA_al
theorem xB_al {g j : Nat} : pAl K pr (xB K pr g j) := by
  cases g with
  | zero => exact pAl_n
  | succ g =>
    show pAl K pr (if K j = 40 then pB (xE K pr (xS K pr g) (j + 1)) (fun l j1 => pN K 41 l j1) else (none, j))
    split
    · exact pAl_B (xE_al (xS_al g)) fun l j1 _ h => pN_al h
    · exact pAl_n
theorem bL_al {A : Nat → Nat → pR} (hA : ∀ L j, pAl K pr (A L j)) {L : Nat} : ∀ (r : Nat) (l : List oT) (j : Nat), (∀ x, x ∈ l → opV K pr x) → pAl K pr (bL K A L r l j) := by
  intro r
  induction r with
  | zero => intro l j h; exact pAl_s h
  | succ r ih =>
    intro l j h
    unfold bL
    split
    · exact pAl_s h
    · exact pAl_B (hA _ _) fun l1 j1 _ h1 => ih _ _ (al2 h h1)
theorem bI0_al {A : Nat → Nat → pR} (hA : ∀ L j, pAl K pr (A L j)) {L j : Nat} : pAl K pr (bI0 K A L j) := by
  unfold bI0
  split
  · exact pAl_B (bL_al hA _ _ _ (by simp)) fun l j1 _ h => pN_al h
  · exact pAl_n
theorem aT_al {sg j : Nat} {l : List oT} (h : ∀ x, x ∈ l → opV K pr x) (hsg : K sg = 26) (hsj : sg ≤ j) : pAl K pr (aT K sg l j) := by
  unfold aT
  cases ho : top0 (K j) with
  | none => exact pAl_n
  | some o =>
    have := top0_lt ho
    refine pN_al (al2 h (al1 ⟨?_, fun z => ?_, fun z => ?_, fun z => ⟨rfl, ?_⟩, fun z => ⟨sg, rfl, hsg, hsj⟩⟩))
    · show o < 32; omega
    · have z : o = 1 ∨ o = 13 ∨ o = 23 := z
      omega
    · have z : o = 22 := z
      omega
    · have z : o = 19 := z
      subst z
      show K j = 26
      unfold top0 at ho
      repeat (split at ho; · cases ho)
      split at ho
      · next e => exact e
      · cases ho
theorem a1_al (hm : ∀ j, j ≤ m → K j ≠ 29 → j < m) {g : Nat} {B : Nat → Nat → pR} (hB : ∀ L j, pAl K pr (B L j)) {L j : Nat} (hj : j ≤ m) : pAl K pr (a1 K pr g B L j) := by
  unfold a1
  have hE : ∀ j, pAl K pr (xE K pr (xS K pr g) j) := fun j => xE_al (xS_al g)
  split
  · next e =>
    split
    · refine pAl_B (hE _) fun l j1 _ h => pN_al (al2 h (al1 ⟨(by show 13 < 32; omega), fun z => ⟨rfl, rfl, e⟩, fun z => ?_, fun z => ?_, fun z => ?_⟩))
      · have z : 13 = 22 := z
        omega
      · have z : 13 = 19 := z
        omega
      · have z : 14 ≤ 13 ∧ 13 ≤ 21 := z
        omega
    · exact pAl_n
  split
  · next e =>
    have hj1 := hm j hj (by rw [e]; decide)
    split
    · next e2 =>
      have hj2 := hm (j + 1) (by omega) (by rw [e2]; decide)
      have hv : pAl K pr (if K (j + 2) = 40 then xB K pr g (j + 2) else (some [oz pr 0 (j + 1)], j + 2)) := by
        split
        · exact xB_al
        · exact pAl_s (al1 (oz_V (by omega) (by omega)))
      have hv2 : pOK m (j + 2) (if K (j + 2) = 40 then xB K pr g (j + 2) else (some [oz pr 0 (j + 1)], j + 2)) ∨ ∃ l, (if K (j + 2) = 40 then xB K pr g (j + 2) else (some [oz pr 0 (j + 1)], j + 2)) = (some l, j + 2) := by
        split
        · exact Or.inl (xB_ok hm g (j + 2) (by omega))
        · exact Or.inr ⟨_, rfl⟩
      refine pAl_B hv fun l j1 hq h => ?_
      have hj12 : j + 2 ≤ j1 := by
        rcases hv2 with z | ⟨l', z⟩
        · rw [hq] at z; exact z.1
        · rw [hq] at z; cases z; omega
      split
      · exact aT_al h e2 (by omega)
      · exact pAl_n
    · exact pAl_n
  split
  · next e =>
    have hj1 := hm j hj (by rw [e]; decide)
    split
    · next e2 =>
      have hj2 := hm (j + 1) (by omega) (by rw [e2]; decide)
      refine pAl_B (hE _) fun l j1 hq h => pN_al (al2 h (al1 ⟨(by show 20 < 32; omega), fun z => ?_, fun z => ?_, fun z => ?_, fun z => ⟨j + 1, rfl, e2, ?_⟩⟩))
      · have z : 20 = 1 ∨ 20 = 13 ∨ 20 = 23 := z
        omega
      · have z : 20 = 22 := z
        omega
      · have z : 20 = 19 := z
        omega
      · have o := xE_ok (pr := pr) hm (xS_ok (pr := pr) hm g) (j := j + 2) (by omega)
        rw [hq] at o
        have := o.1
        show j + 1 ≤ j1 - 1
        simp only at this
        omega
    · exact pAl_n
  split
  · next e =>
    split
    · next e2 =>
      refine pN_al (al1 ⟨?_, fun z => ⟨rfl, rfl, e2⟩, fun z => ⟨rfl, e2⟩, fun z => ?_, fun z => ⟨j + 1, rfl, e2, Nat.le_refl _⟩⟩)
      · show K j + 8 < 32; omega
      · have z : K j + 8 = 19 := z
        omega
    · exact pAl_n
  split
  · exact pN_al (al1 (oz_V (by omega) (by omega)))
  split
  · exact pAl_B (hE _) fun l j1 _ h => pN_al (al2 h (al1 (oz_V (by omega) (by omega))))
  split
  · refine pAl_B xB_al fun l j1 _ h => pAl_B (hB _ _) fun l2 j2 _ h2 => ?_
    have hs : ∀ (v : Int32) (tk : Nat), opV K pr (26, .inl v, .inl (nI pr), tk) := fun v tk => ⟨(by show 26 < 32; omega), fun z => by have z : 26 = 1 ∨ 26 = 13 ∨ 26 = 23 := z; omega, fun z => by have z : 26 = 22 := z; omega, fun z => by have z : 26 = 19 := z; omega, fun z => by have z : 14 ≤ 26 ∧ 26 ≤ 21 := z; omega⟩
    have ht : ∀ (v : Int32) (tk : Nat), opV K pr (27, .inl v, .inl (nI pr), tk) := fun v tk => ⟨(by show 27 < 32; omega), fun z => by have z : 27 = 1 ∨ 27 = 13 ∨ 27 = 23 := z; omega, fun z => by have z : 27 = 22 := z; omega, fun z => by have z : 27 = 19 := z; omega, fun z => by have z : 14 ≤ 27 ∧ 27 ≤ 21 := z; omega⟩
    split
    · exact pAl_B (hB _ _) fun l3 j3 _ h3 => pAl_s (al2 (al2 (al2 (al2 h (al1 (hs _ _))) h2) (al1 (ht _ _))) h3)
    · exact pAl_s (al2 (al2 h (al1 (hs _ _))) h2)
  · exact pAl_n
/-- where j is no token, nothing is read -/
theorem bO_al (hm : ∀ j, j ≤ m → K j ≠ 29 → j < m) {L j : Nat} (hj : j ≤ m) : ∀ l, (bO K pr L j).1 = some l → ∀ x, x ∈ l → opV K pr x := by
  have hA : ∀ (g L j : Nat), j ≤ m → pAl K pr (aA K pr g L j) := by
    intro g
    induction g with
    | zero => intro L j hj; exact a1_al hm (fun _ _ => pAl_n) hj
    | succ g ih =>
      intro L j hj
      have hbl : ∀ (L r : Nat) (l : List oT) (j : Nat), j ≤ m → (∀ x, x ∈ l → opV K pr x) → pAl K pr (bL K (aA K pr g) L r l j) := by
        intro L r
        induction r with
        | zero => intro l j _ h; exact pAl_s h
        | succ r ihr =>
          intro l j hj h
          unfold bL
          split
          · exact pAl_s h
          · refine pAl_B (ih _ _ hj) fun l1 j1 hq h1 => ihr _ _ ?_ (al2 h h1)
            have := aA_ok (pr := pr) hm g (L + l.length) j hj
            rw [hq] at this
            exact this.2.1
      have hb : ∀ L j, j ≤ m → pAl K pr (bI0 K (aA K pr g) L j) := by
        intro L j hj
        unfold bI0
        split
        · next e =>
          have := hm j hj (by rw [e]; decide)
          exact pAl_B (hbl _ _ _ _ (by omega) (by simp)) fun l j1 _ h => pN_al h
        · exact pAl_n
      -- blocks are read within the text only
      show pAl K pr (a1 K pr (g + 1) (bI0 K (aA K pr g)) L j)
      have e0 : a1 K pr (g + 1) (bI0 K (aA K pr g)) L j = a1 K pr (g + 1) (fun L j => if j ≤ m then bI0 K (aA K pr g) L j else (none, j)) L j := by
        unfold a1
        by_cases h18 : K j = 18
        · have hj1 := hm j hj (by rw [h18]; decide)
          simp only [h18]
          have ox := xB_ok (pr := pr) hm (g + 1) (j + 1) (by omega)
          rcases hx : xB K pr (g + 1) (j + 1) with ⟨o, j1⟩
          rw [hx] at ox
          cases o with
          | none => rfl
          | some l =>
            have o1 := ox.2.1
            simp only at o1
            simp only [pB, if_pos o1]
            have ob := bI0_ok hm (aA_ok (pr := pr) hm g) (L := L + l.length + 1) o1
            rcases hy : bI0 K (aA K pr g) (L + l.length + 1) j1 with ⟨o2, j2⟩
            rw [hy] at ob
            cases o2 with
            | none => rfl
            | some l2 =>
              have o22 := ob.2.1
              simp only at o22
              by_cases h19 : K j2 = 19
              · have := hm j2 o22 (by rw [h19]; decide)
                simp only [h19, if_pos (show j2 + 1 ≤ m by omega)]
              · simp only [h19, if_false]
        · simp only [h18, if_false]
      rw [e0]
      refine a1_al hm (fun L j => ?_) hj
      split
      · next hjm => exact hb _ _ hjm
      · exact pAl_n
  have hbl : ∀ (L r : Nat) (l : List oT) (j : Nat), j ≤ m → (∀ x, x ∈ l → opV K pr x) → pAl K pr (bL K (aA K pr 7) L r l j) := by
    intro L r
    induction r with
    | zero => intro l j _ h; exact pAl_s h
    | succ r ihr =>
      intro l j hj h
      unfold bL
      split
      · exact pAl_s h
      · refine pAl_B (hA 7 _ _ hj) fun l1 j1 hq h1 => ihr _ _ ?_ (al2 h h1)
        have := aA_ok (pr := pr) hm 7 (L + l.length) j hj
        rw [hq] at this
        exact this.2.1
  have : pAl K pr (bO K pr L j) := by
    unfold bO
    split
    · next e =>
      have := hm j hj (by rw [e]; decide)
      exact pAl_B (hbl _ _ _ _ (by omega) (by simp)) fun l j1 _ h => pN_al (al2 h (al1 (oz_V (by omega) (by omega))))
    · exact pAl_n
  exact this
end PV
