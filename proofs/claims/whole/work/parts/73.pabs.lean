/-! what both sides do, said once over lists: instances, signals, timers, events, turns, time -/
def rl {β : Type} (f : Nat → β) (m : Nat) : List β := (List.range m).map f
section RL
variable {β : Type} {f g : Nat → β} {m i k : Nat}
theorem rl_len : (rl f m).length = m := by simp [rl]
theorem rl_0 : rl f 0 = [] := rfl
theorem rl_at (h : i < m) : (rl f m)[i]? = some (f i) := by simp [rl, h]
theorem rl_no (h : m ≤ i) : (rl f m)[i]? = none := by simp [rl, h]
theorem rl_congr (h : ∀ i, i < m → f i = g i) : rl f m = rl g m := by
  unfold rl
  apply List.map_congr_left
  intro i hi
  exact h i (List.mem_range.mp hi)
theorem rl_push : rl f (m + 1) = rl f m ++ [f m] := by simp [rl, List.range_succ]
theorem rl_ext {l : List β} (hl : l.length = m) (h : ∀ i, i < m → l[i]? = some (f i)) : l = rl f m := by
  apply List.ext_getElem?
  intro i
  by_cases hi : i < m
  · rw [h i hi, rl_at hi]
  · rw [rl_no (by omega), List.getElem?_eq_none (by omega)]
theorem rl_set (hk : k < m) (h : ∀ i, i < m → i ≠ k → g i = f i) : rl g m = (rl f m).set k (g k) := by
  symm
  apply rl_ext
  · rw [List.length_set, rl_len]
  · intro i hi
    rw [List.getElem?_set]
    by_cases e : k = i
    · subst e
      rw [if_pos rfl, rl_len, if_pos hk]
    · rw [if_neg e, rl_at hi, h i hi (fun x => e x.symm)]
theorem rl_erase (hk : k < m) (h1 : ∀ i, i < k → g i = f i) (h2 : ∀ i, k ≤ i → i + 1 < m → g i = f (i + 1)) : rl g (m - 1) = (rl f m).eraseIdx k := by
  symm
  apply rl_ext
  · rw [List.length_eraseIdx, rl_len, if_pos hk]
  · intro i hi
    rw [List.getElem?_eraseIdx]
    by_cases e : i < k
    · rw [if_pos e, rl_at (by omega), h1 i e]
    · rw [if_neg e, rl_at (by omega), h2 i (by omega) (by omega)]
end RL
/-- names, of both sides -/
abbrev Nm : Type := (Int64 × Int32) ⊕ (Bool × Int32)
abbrev aS (α : Type) : Type := α × Int32 × Int32 × Int32
/-- id, process, state, parent, sender, child; variables; the queue (name, value, sender, origin); timers (name, due) -/
abbrev aI (α : Type) : Type := (Int32 × Int32 × Int32 × Int32 × Int32 × Int32) × List Int32 × List (aS α) × List (α × Int32)
/-- kind, id, name, value; for charts: whose, and the other -/
abbrev aE (α : Type) : Type := Int32 × Int32 × α × Int32 × Option (Int32 × Int32)
/-- instances; given, now, lost, thrown, lastRun; the trace, and whether more were lost; how often something was lost, thrown away -/
abbrev aW (α : Type) : Type := List (aI α) × (Int32 × Int32 × Int32 × Int32 × Int32) × (List (aE α) × Bool) × (Nat × Nat)
section AB
def aEv (l : Bool) (e : aE Nm) (T : List (aE Nm) × Bool) : List (aE Nm) × Bool := if l = true then (if T.1.length < 400 then (T.1 ++ [e], T.2) else (T.1, true)) else T
def aAdd (l : Bool) (e : aE Nm) (W : aW Nm) : aW Nm := (W.1, W.2.1, aEv l e W.2.2.1, W.2.2.2)
def aLose (l : Bool) (who : Int32) (x : Nm) (v : Int32) (W : aW Nm) : aW Nm :=
  aAdd l (3, who, x, v, none) (W.1, (W.2.1.1, W.2.1.2.1, if l = true then W.2.1.2.2.1 + 1 else W.2.1.2.2.1, W.2.1.2.2.2), W.2.2.1, (W.2.2.2.1 + 1, W.2.2.2.2))
def aAcc (s : aS Nm) (a : aI Nm) : aI Nm := (a.1, a.2.1, a.2.2.1 ++ [s], a.2.2.2)
def aDrop (i : Nat) (a : aI Nm) : aI Nm := (a.1, a.2.1, a.2.2.1.eraseIdx i, a.2.2.2)
def aPut (k : Nat) (a : aI Nm) (W : aW Nm) : aW Nm := (W.1.set k a, W.2)
/-- the slot of an id -/
def aSlot (W : aW Nm) (x : Int32) : Option Nat := W.1.findIdx? (fun a => decide (a.1.1 = x))
def aLeast (W : aW Nm) (x : Int32) : Option Nat := W.1.findIdx? (fun a => decide (a.1.2.1 = x))
def aMany (W : aW Nm) (x : Int32) : Nat := W.1.countP (fun a => decide (a.1.2.1 = x))
def aTm (x : Nm) (a : aI Nm) : Option Nat := a.2.2.2.findIdx? (fun t => decide (t.1 = x))
def aDropT (i : Nat) (a : aI Nm) : aI Nm := (a.1, a.2.1, a.2.2.1, a.2.2.2.eraseIdx i)
/-- signals of a timer go -/
def aClean (x : Nm) (a : aI Nm) : aI Nm := (a.1, a.2.1, a.2.2.1.filter (fun s => !(decide (s.1 = x) && decide (s.2.2.1 = a.1.1))), a.2.2.2)
def aReset (x : Nm) (a : aI Nm) : aI Nm := aClean x (match aTm x a with | some i => aDropT i a | none => a)
/-- how long a timer waits -/
def aWait (v : Int32) : Int32 := if v < 1 then 0 else if 1000000 < v then 1000000 else v
end AB
