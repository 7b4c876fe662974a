/-! entry, runs, calls by depth -/
def jsv (as : List Value) : jL := as.flatMap fun v => if v.category = 2 then [some v, none] else [some v]
def jent (nL : Nat) (as : List Value) : jL := jsv as ++ List.replicate (nL - (jsv as).length) none
section JRUN
variable (C : Nat → List Value → jS → Option (jO × jS)) (A : Nat → Nat) (hs : List (Nat × Nat × Nat × Nat)) (ow na : Nat → Nat) (rt : Option FieldType) (code : Nat → Option (Instr × Nat))
theorem jexec_more : ∀ (k pc : Nat) (L : jL) (st : List Value) (σ : jS) (r : jO × jS), jexec C A hs ow na rt code k pc L st σ = some r → jexec C A hs ow na rt code (k + 1) pc L st σ = some r := by
  intro k
  induction k with
  | zero => intro pc L st σ r h; cases h
  | succ k ih =>
    intro pc L st σ r h
    unfold jexec at h ⊢
    cases hc : code pc with
    | none => rw [hc] at h; cases h
    | some x =>
      obtain ⟨ins, len⟩ := x
      rw [hc] at h
      simp only at h ⊢
      cases hr : jstep C A hs ow na rt code ins len pc L st σ with
      | none => rw [hr] at h; cases h
      | some y =>
        rw [hr] at h
        cases y with
        | inr z => exact h
        | inl z =>
          obtain ⟨pc', L', st', σ'⟩ := z
          exact ih _ _ _ _ _ h
theorem jexec_add (j : Nat) {k pc : Nat} {L : jL} {st : List Value} {σ : jS} {r : jO × jS} (h : jexec C A hs ow na rt code k pc L st σ = some r) : jexec C A hs ow na rt code (k + j) pc L st σ = some r := by
  induction j with
  | zero => exact h
  | succ j ih => exact jexec_more C A hs ow na rt code _ _ _ _ _ _ ih
/-- a run to its end -/
noncomputable def jrun (pc : Nat) (L : jL) (st : List Value) (σ : jS) : Option (jO × jS) :=
  @dite _ (∃ r k, jexec C A hs ow na rt code k pc L st σ = some r) (Classical.propDecidable _) (fun h => some (Classical.choose h)) (fun _ => none)
theorem jrun_iff {pc : Nat} {L : jL} {st : List Value} {σ : jS} {r : jO × jS} : jrun C A hs ow na rt code pc L st σ = some r ↔ ∃ k, jexec C A hs ow na rt code k pc L st σ = some r := by
  unfold jrun
  constructor
  · intro h
    split at h
    · next hx =>
      cases h
      exact Classical.choose_spec hx
    · cases h
  · rintro ⟨k, hk⟩
    have hx : ∃ r k, jexec C A hs ow na rt code k pc L st σ = some r := ⟨r, k, hk⟩
    rw [dif_pos hx]
    obtain ⟨j, hj⟩ := Classical.choose_spec hx
    have h1 := jexec_add C A hs ow na rt code j hk
    have h2 := jexec_add C A hs ow na rt code k hj
    rw [Nat.add_comm j k] at h2
    exact h2.symm.trans h1
/-- a run goes step by step -/
theorem jrun_step {pc len : Nat} {ins : Instr} {L : jL} {st : List Value} {σ : jS} (hc : code pc = some (ins, len)) {pc' : Nat} {L' : jL} {st' : List Value} {σ' : jS} (h : jstep C A hs ow na rt code ins len pc L st σ = some (.inl (pc', L', st', σ'))) {r : jO × jS} (k : jrun C A hs ow na rt code pc' L' st' σ' = some r) : jrun C A hs ow na rt code pc L st σ = some r := by
  rw [jrun_iff] at k ⊢
  obtain ⟨n, hn⟩ := k
  refine ⟨n + 1, ?_⟩
  unfold jexec
  rw [hc]
  simp only
  rw [h]
  exact hn
theorem jrun_end {pc len : Nat} {ins : Instr} {L : jL} {st : List Value} {σ : jS} (hc : code pc = some (ins, len)) {r : jO × jS} (h : jstep C A hs ow na rt code ins len pc L st σ = some (.inr r)) : jrun C A hs ow na rt code pc L st σ = some r := by
  rw [jrun_iff]
  refine ⟨1, ?_⟩
  unfold jexec
  rw [hc]
  simp only
  rw [h]
end JRUN
/-- which exception a table's row takes, by the class and the entry of its pool -/
def jct (own i : Nat) : Nat := if own = 12 then 11 else match i with
  | 13 => 41 | 19 => 42 | 25 => 43 | 31 => 44 | _ => 45
def jhn (n : Nat) : List (Nat × Nat × Nat × Nat) := (jhl n).map fun q => (q.1, q.2.1, q.2.2.1, jct (jow n) q.2.2.2)
def jfz : Value → Bool | .null => true | _ => false
/-- a Fault's constructor, of a new Fault: nothing changes -/
def jflt (as : List Value) (σ : jS) : Option (jO × jS) := match as with
  | [.ref a] => match σ.1 a with
    | some c => if c.1 = 11 ∧ jfz (c.2.2 0) = true ∧ jfz (c.2.2 1) = true ∧ jfz (c.2.2 2) = true ∧ jfz (c.2.2 3) = true then some (.inl none, σ) else none
    | none => none
  | _ => none
/-- a call of method n, calls within it at most d deep -/
noncomputable def jcall (A : Nat → Nat) (code : Nat → Nat → Option (Instr × Nat)) : Nat → Nat → List Value → jS → Option (jO × jS)
  | 0, _, _, _ => none
  | d + 1, n, as, σ => if n = jFI then jflt as σ else if (jsv as).length ≤ jmL n then jrun (jcall A code d) A (jhn n) jow jna (jrt n) (code n) 0 (jent (jmL n) as) [] σ else none
theorem jhn1 {n : Nat} (h : jisC n = 1) : jhn n = [] := by
  unfold jhn jhl
  rw [jcw1 h]
  rfl
