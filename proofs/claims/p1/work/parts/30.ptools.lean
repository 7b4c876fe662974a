/-! the J machine's runs as equations, step by step -/
/-- a run over one table -/
noncomputable def jM (A : Nat → Nat) (d : Nat) (hs : List (Nat × Nat × Nat × Nat)) (rt : Option FieldType) (t : List (Nat × Instr × Nat)) (pc : Nat) (L : jL) (st : List Value) (σ : jS) : Option (jO × jS) := jrun (jcall A jcode d) A hs jow jna rt (jfind t) pc L st σ
theorem jcode_at {n : Nat} {t : List (Nat × Instr × Nat)} (h : jtabs[n]? = some t) : jcode n = jfind t := by
  funext pc
  unfold jcode
  rw [h]
theorem jcall_eq {A : Nat → Nat} {d n nL : Nat} {t : List (Nat × Instr × Nat)} {hs : List (Nat × Nat × Nat × Nat)} {rt : Option FieldType} (ht : jtabs[n]? = some t) (hn : n ≠ 174) (hr : jrt n = rt) (hl : jmL n = nL) (hh : jhn n = hs) {as : List Value} {σ : jS} (ha : (jsv as).length ≤ nL) :
    jcall A jcode (d + 1) n as σ = jM A d hs rt t 0 (jent nL as) [] σ := by
  unfold jcall jM
  rw [if_neg (show ¬ n = jFI from hn), hl, if_pos ha, hr, hh, jcode_at ht]
section PSTEP
variable {A : Nat → Nat} {d : Nat} {hs : List (Nat × Nat × Nat × Nat)} {rt : Option FieldType} {t : List (Nat × Instr × Nat)} {pc len : Nat} {ins : Instr} {L : jL} {st : List Value} {σ : jS}
theorem jM_go {pc' : Nat} {L' : jL} {st' : List Value} {σ' : jS} (hc : jfind t pc = some (ins, len)) (h : jstep (jcall A jcode d) A hs jow jna rt (jfind t) ins len pc L st σ = some (.inl (pc', L', st', σ'))) : jM A d hs rt t pc L st σ = jM A d hs rt t pc' L' st' σ' := by
  unfold jM
  apply Option.ext
  intro r
  constructor
  · intro hr
    obtain ⟨k, hk⟩ := (jrun_iff _ _ _ _ _ _ _).mp hr
    cases k with
    | zero => cases hk
    | succ k =>
      unfold jexec at hk
      rw [hc] at hk
      simp only at hk
      rw [h] at hk
      exact (jrun_iff _ _ _ _ _ _ _).mpr ⟨k, hk⟩
  · exact jrun_step _ _ _ _ _ _ _ hc h
theorem jM_end {r : jO × jS} (hc : jfind t pc = some (ins, len)) (h : jstep (jcall A jcode d) A hs jow jna rt (jfind t) ins len pc L st σ = some (.inr r)) : jM A d hs rt t pc L st σ = some r := jrun_end _ _ _ _ _ _ _ hc h
/-- what a step gives -/
noncomputable def jAf (A : Nat → Nat) (d : Nat) (hs : List (Nat × Nat × Nat × Nat)) (rt : Option FieldType) (t : List (Nat × Instr × Nat)) (r : jN) : Option (jO × jS) := match r with
  | none => none
  | some (.inr z) => some z
  | some (.inl (pc, L, st, σ)) => jM A d hs rt t pc L st σ
theorem jM_at (hc : jfind t pc = some (ins, len)) : jM A d hs rt t pc L st σ = jAf A d hs rt t (jstep (jcall A jcode d) A hs jow jna rt (jfind t) ins len pc L st σ) := by
  cases h : jstep (jcall A jcode d) A hs jow jna rt (jfind t) ins len pc L st σ with
  | none =>
    unfold jM jAf
    apply Option.ext
    intro r
    constructor
    · intro hr
      obtain ⟨k, hk⟩ := (jrun_iff _ _ _ _ _ _ _).mp hr
      cases k with
      | zero => cases hk
      | succ k =>
        unfold jexec at hk
        rw [hc] at hk
        simp only at hk
        rw [h] at hk
        cases hk
    · intro hr; cases hr
  | some x =>
    cases x with
    | inr z => exact jM_end hc h
    | inl z =>
      obtain ⟨pc', L', st', σ'⟩ := z
      exact jM_go hc h
end PSTEP
/-- what a step gives, by what comes behind it -/
def jAg (k : Nat → jL → List Value → jS → Option (jO × jS)) (r : jN) : Option (jO × jS) := match r with
  | none => none
  | some (.inr z) => some z
  | some (.inl (pc, L, st, σ)) => k pc L st σ
theorem jM_ag {A : Nat → Nat} {d : Nat} {hs : List (Nat × Nat × Nat × Nat)} {rt : Option FieldType} {t : List (Nat × Instr × Nat)} {pc len : Nat} {ins : Instr} {L : jL} {st : List Value} {σ : jS} (hc : jfind t pc = some (ins, len)) : jM A d hs rt t pc L st σ = jAg (fun pc L st σ => jM A d hs rt t pc L st σ) (jstep (jcall A jcode d) A hs jow jna rt (jfind t) ins len pc L st σ) := by
  rw [jM_at hc]
  unfold jAf jAg
  rfl
theorem ag_nx {k : Nat → jL → List Value → jS → Option (jO × jS)} {pc : Nat} {L : jL} {st : List Value} {σ : jS} : jAg k (jnx pc L st σ) = k pc L st σ := rfl
theorem ag_dn {k : Nat → jL → List Value → jS → Option (jO × jS)} {o : jO} {σ : jS} : jAg k (jdn o σ) = some (o, σ) := rfl
theorem ag_no {k : Nat → jL → List Value → jS → Option (jO × jS)} : jAg k none = none := rfl
theorem ag_if {k : Nat → jL → List Value → jS → Option (jO × jS)} {p : Prop} {x y : jN} : (h : Decidable p) → jAg k (@ite _ p h x y) = @ite _ p h (jAg k x) (jAg k y) := by
  intro h
  by_cases hp : p
  · rw [if_pos hp, if_pos hp]
  · rw [if_neg hp, if_neg hp]
