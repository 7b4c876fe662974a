/-! what a text says: processes, states, clauses; what is one too much; what is unknown -/
/-- first token; the variable that the value comes to; test and body: where their code begins, code -/
abbrev qCl : Type := Nat × Option Nat × (Nat × List oT) × (Nat × List oT)
/-- name; clauses -/
abbrev qSt : Type := Nat × List qCl
/-- name; variables; start; states -/
abbrev qPr : Type := Nat × List Nat × (Nat × List oT) × List qSt
/-- one after another, each with those ahead of it -/
def scn {β γ : Type} (f : List β → β → List γ) : List β → List β → List γ
  | _, [] => []
  | seen, x :: xs => f seen x ++ scn f (seen ++ [x]) xs
theorem scn_app {β γ : Type} {f : List β → β → List γ} {x : β} : ∀ (xs seen : List β), scn f seen (xs ++ [x]) = scn f seen xs ++ f (seen ++ xs) x := by
  intro xs
  induction xs with
  | nil => intro seen; simp [scn]
  | cons y ys ih =>
    intro seen
    show f seen y ++ scn f (seen ++ [y]) (ys ++ [x]) = f seen y ++ scn f (seen ++ [y]) ys ++ _
    rw [ih, List.append_assoc, List.append_assoc]
    rfl
section EX
variable (K : Nat → Nat) (E : Nat → Nat → Bool)
def ckN (lim : Nat) (seen : List Nat) (v : Nat) : Option Nat := if lim ≤ seen.length ∨ seen.any (fun x => E x v) = true then some v else none
def ckC (seen : List qCl) (c : qCl) : Option Nat :=
  if 8 ≤ seen.length then some c.1 else if K c.1 = 9 ∧ seen.any (fun q => decide (K q.1 = 9)) = true then some c.1 else
  if K c.1 ≤ 7 ∧ seen.any (fun q => decide (K q.1 ≤ 7) && E (q.1 + 1) (c.1 + 1)) = true then some (c.1 + 1) else none
def xkL (vs : List Nat) : List (Option Nat) := scn (fun seen v => [ckN E 6 seen v]) [] vs
def xkC (cs : List qCl) : List (Option Nat) := scn (fun seen c => [ckC K E seen c]) [] cs
def xkS (ss : List qSt) : List (Option Nat) := scn (fun seen s => [ckN E 8 (seen.map (fun s => s.1)) s.1] ++ xkC K E s.2) [] ss
def xkP (F : List qPr) : List (Option Nat) := scn (fun seen c => [ckN E 6 (seen.map (fun c => c.1)) c.1] ++ xkL E c.2.1 ++ xkS K E c.2.2.2) [] F
/-- the first that is there already, or one too much -/
def fs (l : List (Option Nat)) : Option Nat := l.findSome? id
def exF (F : List qPr) : Option Nat := fs (xkP K E F)
def unC (lets : List Nat) (c : qCl) : Option Nat := match c.2.1 with | some v => if lets.any (fun x => E x v) = true then none else some v | none => none
def uP (c : qPr) : List (Option Nat) := c.2.2.2.flatMap (fun s => s.2.map (unC E c.2.1))
/-- the first variable behind a signal that is not there -/
def unF (F : List qPr) : Option Nat := fs (F.flatMap (uP E))
theorem fs_app {l l' : List (Option Nat)} : fs (l ++ l') = (fs l).or (fs l') := List.findSome?_append
theorem fs_1 {o : Option Nat} : fs [o] = o := by unfold fs; cases o <;> rfl
theorem fs_0 : fs [] = none := rfl
variable {K E}
theorem exF_new {Q : List qPr} {a : Nat} {sb : Nat × List oT} : exF K E (Q ++ [(a, [], sb, [])]) = (exF K E Q).or (ckN E 6 (Q.map (fun c => c.1)) a) := by
  unfold exF xkP
  rw [scn_app, fs_app]
  simp [xkL, xkS, scn, fs_1]
theorem exF_let {Q : List qPr} {a v : Nat} {vs : List Nat} {sb sb' : Nat × List oT} : exF K E (Q ++ [(a, vs ++ [v], sb', [])]) = (exF K E (Q ++ [(a, vs, sb, [])])).or (ckN E 6 vs v) := by
  unfold exF xkP
  rw [scn_app, scn_app]
  simp only [xkL, xkS, scn, List.append_nil]
  rw [scn_app, ← List.append_assoc, ← List.append_assoc, fs_app, fs_1]
  simp
theorem exF_sb {Q : List qPr} {a : Nat} {vs : List Nat} {sb sb' : Nat × List oT} {ss : List qSt} : exF K E (Q ++ [(a, vs, sb', ss)]) = exF K E (Q ++ [(a, vs, sb, ss)]) := by
  unfold exF xkP
  rw [scn_app, scn_app]
theorem exF_st {Q : List qPr} {a t : Nat} {vs : List Nat} {sb : Nat × List oT} {ss : List qSt} : exF K E (Q ++ [(a, vs, sb, ss ++ [(t, [])])]) = (exF K E (Q ++ [(a, vs, sb, ss)])).or (ckN E 8 (ss.map (fun s => s.1)) t) := by
  unfold exF xkP
  rw [scn_app, scn_app]
  simp only [xkS]
  rw [scn_app]
  simp only [xkC, scn, List.append_nil, List.nil_append]
  rw [← List.append_assoc, ← List.append_assoc, fs_app, fs_1]
  simp only [List.append_assoc]
theorem exF_cl {Q : List qPr} {a t : Nat} {vs : List Nat} {sb : Nat × List oT} {ss : List qSt} {cs : List qCl} {c : qCl} : exF K E (Q ++ [(a, vs, sb, ss ++ [(t, cs ++ [c])])]) = (exF K E (Q ++ [(a, vs, sb, ss ++ [(t, cs)])])).or (ckC K E cs c) := by
  unfold exF xkP
  rw [scn_app, scn_app]
  simp only [xkS]
  rw [scn_app, scn_app]
  simp only [xkC]
  rw [scn_app]
  simp only [List.nil_append]
  rw [← List.append_assoc, ← List.append_assoc, ← List.append_assoc, ← List.append_assoc, ← List.append_assoc, fs_app, fs_1]
  simp only [List.append_assoc]
theorem unF_nil {Q : List qPr} {a : Nat} {vs : List Nat} {sb : Nat × List oT} : unF E (Q ++ [(a, vs, sb, [])]) = unF E Q := by
  unfold unF
  rw [List.flatMap_append, fs_app]
  simp [uP, fs_0]
theorem unF_st {Q : List qPr} {a t : Nat} {vs : List Nat} {sb : Nat × List oT} {ss : List qSt} : unF E (Q ++ [(a, vs, sb, ss ++ [(t, [])])]) = unF E (Q ++ [(a, vs, sb, ss)]) := by
  unfold unF
  rw [List.flatMap_append, List.flatMap_append]
  simp [uP]
theorem unF_cl {Q : List qPr} {a t : Nat} {vs : List Nat} {sb : Nat × List oT} {ss : List qSt} {cs : List qCl} {c : qCl} : unF E (Q ++ [(a, vs, sb, ss ++ [(t, cs ++ [c])])]) = (unF E (Q ++ [(a, vs, sb, ss ++ [(t, cs)])])).or (unC E vs c) := by
  unfold unF
  rw [List.flatMap_append, List.flatMap_append]
  simp only [uP, List.flatMap_cons, List.flatMap_nil, List.append_nil, List.flatMap_append, List.map_append, List.map_cons, List.map_nil]
  rw [← List.append_assoc, ← List.append_assoc, fs_app, fs_1]
  simp only [List.append_assoc]
end EX
/-- a part: what it is, or none; where it halts; code -/
abbrev hR (β : Type) : Type := Option β × Nat × List oT
section PG
variable (K : Nat → Nat) (U : Nat → Int32)
def bodyR {β : Type} (pr : Nat) (C : List oT) (j : Nat) (f : Nat × List oT → β) : hR β := match bO K pr C.length j with | (none, j') => (none, j', C) | (some l, j') => (some (f (C.length, l)), j', C ++ l)
/-- variables -/
def pLs : Nat → List Nat → Nat → Option (List Nat) × Nat
  | 0, vs, j => (some vs, j)
  | r + 1, vs, j => if K j = 2 then (if K (j + 1) = 26 then (if K (j + 2) = 61 then (if K (j + 3) = 27 then (if K (j + 4) = 59 then pLs r (vs ++ [j + 1]) (j + 5) else (none, j + 4)) else (none, j + 3)) else (none, j + 2)) else (none, j + 1)) else (some vs, j)
/-- the head of a process, up to its start's end -/
def pHd (pr : Nat) (C : List oT) (j : Nat) : hR qPr :=
  if K j = 1 then (if K (j + 1) = 26 then (if K (j + 2) = 40 then (if K (j + 3) = 27 ∧ U (j + 3) ≤ nI 3 then (if K (j + 4) = 41 then (if K (j + 5) = 123 then
    (match pLs K 2001 [] (j + 6) with
      | (none, j') => (none, j', C)
      | (some vs, j') => if K j' = 3 then bodyR K pr C (j' + 1) (fun sb => (j + 1, vs, sb, [])) else (none, j', C))
    else (none, j + 5, C)) else (none, j + 4, C)) else (none, j + 3, C)) else (none, j + 2, C)) else (none, j + 1, C)) else (none, j, C)
/-- a clause -/
def pCs (pr : Nat) (C : List oT) (j : Nat) : hR qCl :=
  if K j = 9 then bodyR K pr C (j + 1) (fun b => (j, none, (0, []), b)) else
  if K j = 8 then (match xB K pr 8 (j + 1) with
    | (none, j') => (none, j', C)
    | (some l, j') => bodyR K pr (C ++ (l ++ [oz pr 28 (j' - 1)])) j' (fun b => (j, none, (C.length, l ++ [oz pr 28 (j' - 1)]), b))) else
  if K j = 7 then (if K (j + 1) = 26 then (if K (j + 2) = 59 then (some (j, none, (0, []), (0, [])), j + 3, C) else (none, j + 2, C)) else (none, j + 1, C)) else
  if K j = 5 ∨ K j = 6 then (if K (j + 1) = 26 then
    (if K (j + 2) = 40 then (if K (j + 3) = 26 then (if K (j + 4) = 41 then bodyR K pr C (j + 5) (fun b => (j, some (j + 3), (0, []), b)) else (none, j + 4, C)) else (none, j + 3, C))
     else bodyR K pr C (j + 2) (fun b => (j, none, (0, []), b))) else (none, j + 1, C)) else (none, j, C)
def nPr (Q : List qPr) : Nat := min Q.length 5
/-- all of it: level, place, code, processes, the process and the state that are open -/
def pG : Nat → Nat → Nat → List oT → List qPr → qPr → qSt → Option (List qPr) × Nat × List oT
  | 0, _, j, C, _, _, _ => (none, j, C)
  | r + 1, 0, j, C, Q, c, s => if K j = 29 then (some Q, j, C) else (match pHd K U (nPr Q) C j with
      | (none, j', C') => (none, j', C')
      | (some c', j', C') => pG r 1 j' C' Q c' s)
  | r + 1, 1, j, C, Q, c, s => if K j = 125 then pG r 0 (j + 1) C (Q ++ [c]) c s else
      if K j = 4 then (if K (j + 1) = 26 then (if K (j + 2) = 123 then pG r 2 (j + 3) C Q c (j + 1, []) else (none, j + 2, C)) else (none, j + 1, C)) else (none, j, C)
  | r + 1, _ + 2, j, C, Q, c, s => if K j = 125 then pG r 1 (j + 1) C Q (c.1, c.2.1, c.2.2.1, c.2.2.2 ++ [s]) s else (match pCs K (nPr Q) C j with
      | (none, j', C') => (none, j', C')
      | (some cl, j', C') => pG r 2 j' C' Q c (s.1, s.2 ++ [cl]))
end PG
/-- all that has been told so far -/
def full (lev : Nat) (Q : List qPr) (c : qPr) (s : qSt) : List qPr := match lev with | 0 => Q | 1 => Q ++ [c] | _ => Q ++ [(c.1, c.2.1, c.2.2.1, c.2.2.2 ++ [s])]
