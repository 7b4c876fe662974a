/-! what both sides do, said once: a plan as nodes (N 251: kinds, 252 .. 254: A, B, C, 255: next, 257: P, 258: Q, 259: the processes' nodes; N 241 34: how many), what stands in it, turns and time -/
def ix (x : Int32) : Nat := x.toNatClampNeg
def chl (N : Nat → Nat → Int32) : Nat → Int32 → List Nat
  | 0, _ => []
  | r + 1, x => if x < 0 then [] else ix x :: chl N r (N 255 (ix x))
def pnd (N : Nat → Nat → Int32) (p : Nat) : Nat := ix (N 259 p)
def lets (N : Nat → Nat → Int32) (p : Nat) : List Nat := chl N 7 (N 253 (pnd N p))
def sts (N : Nat → Nat → Int32) (p : Nat) : List Nat := chl N 9 (N 254 (pnd N p))
def cls (N : Nat → Nat → Int32) (p s : Nat) : List Nat := chl N 9 (N 253 ((sts N p).getD s 0))
def acts (N : Nat → Nat → Int32) (b : Nat) : List Nat := chl N 2000 (N 252 b)
section AC
variable (rN : Int32 → Nm) (N : Nat → Nat → Int32)
def aNew (id : Int32) (p : Nat) (maker : Int32) : aI Nm := ((id, nI p, -1, maker, -1, -1), (lets N p).map (fun a => N 253 a), [], [])
def aFresh (l : Bool) (p : Nat) (maker : Int32) (W : aW Nm) : aW Nm :=
  aAdd l (4, W.2.1.1, rN (N 252 (pnd N p)), maker, none) (W.1 ++ [aNew N W.2.1.1 p maker], (W.2.1.1 + 1, W.2.1.2), W.2.2)
/-- the first clause of that kind, for that name -/
def fcl (p s : Nat) (kd : Int32) (x : Nm) : Option Nat := (cls N p s).findIdx? (fun c => decide (N 251 c = kd) && (decide (kd = 36) || decide (rN (N 252 c) = x)))
def idOf (a : aI Nm) (w : Int32) : Int32 := if w = 19 then a.1.1 else if w = 18 then a.1.2.2.2.2.1 else if w = 20 then a.1.2.2.2.1 else a.1.2.2.2.2.2
def evl (now : Int32) (a : aI Nm) : Nat → Nat → Int32
  | 0, _ => 0
  | r + 1, e => if N 251 e = 0 then N 252 e else if N 251 e = 1 then a.2.1.getD (ix (N 253 e)) 0 else if N 251 e = 2 then (if N 252 e = 23 then now else idOf a (N 252 e)) else if N 251 e = 3 then - evl now a r (ix (N 252 e)) else
      if N 252 e = 43 then evl now a r (ix (N 253 e)) + evl now a r (ix (N 254 e)) else if N 252 e = 45 then evl now a r (ix (N 253 e)) - evl now a r (ix (N 254 e)) else if N 252 e = 42 then evl now a r (ix (N 253 e)) * evl now a r (ix (N 254 e)) else if N 252 e = 60 then (if evl now a r (ix (N 253 e)) < evl now a r (ix (N 254 e)) then 1 else 0) else (if evl now a r (ix (N 253 e)) = evl now a r (ix (N 254 e)) then 1 else 0)
/-- depth of brackets that an expression may have -/
def ED : Nat := 1200
def aPri (p s : Nat) : List (aS Nm) → Nat → Option (Nat × Nat)
  | [], _ => none
  | q :: qs, i => match fcl rN N p s 34 q.1 with | some c => some (i, c) | none => aPri p s qs (i + 1)
def aSig (p s : Nat) : List (aS Nm) → Nat → Option (Nat × aS Nm)
  | [], _ => none
  | q :: qs, i => match fcl rN N p s 35 q.1 with | some _ => aSig p s qs (i + 1) | none => some (i, q)
/-- what a turn would be: kind, signal, clause -/
def aPlan (now : Int32) (a : aI Nm) : Int32 × Option Nat × Option Nat :=
  if a.1.2.2.1 < 0 then (1, none, none) else
  match aPri rN N (ix a.1.2.1) (ix a.1.2.2.1) a.2.2.1 0 with
  | some (i, c) => (2, some i, some c)
  | none => match aSig rN N (ix a.1.2.1) (ix a.1.2.2.1) a.2.2.1 0 with
    | some (i, q) => match fcl rN N (ix a.1.2.1) (ix a.1.2.2.1) 33 q.1 with
      | some c => (3, some i, some c)
      | none => match fcl rN N (ix a.1.2.1) (ix a.1.2.2.1) 36 q.1 with
        | some c => (4, some i, some c)
        | none => (5, some i, none)
    | none => match (cls N (ix a.1.2.1) (ix a.1.2.2.1)).findIdx? (fun c => decide (N 251 c = 37) && decide (¬ evl N now a ED (ix (N 252 c)) = 0)) with
      | some c => (6, none, some c)
      | none => (0, none, none)
def aAt (W : aW Nm) (k : Nat) : aI Nm := W.1.getD k ((0, 0, 0, 0, 0, 0), [], [], [])
/-- a signal to the instance at a slot, or to nobody -/
def aTo (l : Bool) (k : Nat) (x : Nm) (v : Int32) (to : Option Nat) (W : aW Nm) : aW Nm :=
  match to with
  | some j => if (aAt W j).2.2.1.length < 8 then aAdd l (0, (aAt W k).1.1, x, v, some ((aAt W k).1.2.1, (aAt W j).1.2.1)) (aPut j (aAcc (x, v, (aAt W k).1.1, (aAt W k).1.2.1) (aAt W j)) W)
      else aLose l (aAt W k).1.1 x v (aAdd l (0, (aAt W k).1.1, x, v, none) W)
  | none => aLose l (aAt W k).1.1 x v (aAdd l (0, (aAt W k).1.1, x, v, none) W)
def aSetT (l : Bool) (k : Nat) (x : Nm) (v : Int32) (W : aW Nm) : aW Nm :=
  let a := if (aTm x (aAt W k)).isSome then aReset x (aAt W k) else aAt W k
  if a.2.2.2.length < 4 then aPut k (a.1, a.2.1, a.2.2.1, a.2.2.2 ++ [(x, W.2.1.2.1 + aWait v)]) W else aLose l a.1.1 x 0 (aPut k a W)
def aMake (l : Bool) (k p : Nat) (W : aW Nm) : aW Nm :=
  if W.1.length = 8 ∨ aMany W (nI p) = 4 then
    aLose l (aAt W k).1.1 (rN (N 252 (pnd N p))) 0 (aPut k (((aAt W k).1.1, (aAt W k).1.2.1, (aAt W k).1.2.2.1, (aAt W k).1.2.2.2.1, (aAt W k).1.2.2.2.2.1, -1), (aAt W k).2) W)
  else aFresh rN N l p (aAt W k).1.1 (aPut k (((aAt W k).1.1, (aAt W k).1.2.1, (aAt W k).1.2.2.1, (aAt W k).1.2.2.2.1, (aAt W k).1.2.2.2.2.1, W.2.1.1), (aAt W k).2) W)
def aVal (W : aW Nm) (k : Nat) (e : Int32) : Int32 := evl N W.2.1.2.1 (aAt W k) ED (ix e)
/-- where a send goes: none: out -/
def aGoal (W : aW Nm) (k a : Nat) : Option (Option Nat) :=
  if 0 ≤ N 258 a then some (aLeast W (N 257 a)) else if N 254 a = 22 then none else some (aSlot W (idOf (aAt W k) (N 254 a)))
/-- one act that is no if -/
def aAct (l : Bool) (k a : Nat) (W : aW Nm) : Int32 × aW Nm :=
  if N 251 a = 10 then (0, aPut k ((aAt W k).1, (aAt W k).2.1.set (ix (N 254 a)) (aVal N W k (N 253 a)), (aAt W k).2.2) W)
  else if N 251 a = 11 then (0, match aGoal N W k a with
    | none => aAdd l (0, (aAt W k).1.1, rN (N 252 a), if N 253 a < 0 then 0 else aVal N W k (N 253 a), some ((aAt W k).1.2.1, -1)) W
    | some to => aTo l k (rN (N 252 a)) (if N 253 a < 0 then 0 else aVal N W k (N 253 a)) to W)
  else if N 251 a = 12 then (0, aSetT l k (rN (N 252 a)) (aVal N W k (N 253 a)) W)
  else if N 251 a = 13 then (0, aPut k (aReset (rN (N 252 a)) (aAt W k)) W)
  else if N 251 a = 14 then (0, aMake rN N l k (ix (N 253 a)) W)
  else if N 251 a = 15 then (1, aPut k (((aAt W k).1.1, (aAt W k).1.2.1, N 253 a, (aAt W k).1.2.2.2), (aAt W k).2) W)
  else if N 251 a = 16 then (2, W)
  else (0, aAdd l (7, (aAt W k).1.1, rN (-1), aVal N W k (N 252 a), none) W)
/-- acts in a row; 1: next, 2: stop, 0: the end -/
def aRun (l : Bool) (k : Nat) : Nat → List Nat → aW Nm → Int32 × aW Nm
  | 0, _, W => (0, W)
  | _ + 1, [], W => (0, W)
  | r + 1, a :: as, W =>
    if N 251 a = 18 then
      (if ¬ aVal N W k (N 252 a) = 0 then
        (let z := aRun l k r (acts N (ix (N 253 a))) W
         if z.1 = 0 then aRun l k r as z.2 else z)
      else if N 254 a < 0 then aRun l k r as W
      else (let z := aRun l k r (acts N (ix (N 254 a))) W
        if z.1 = 0 then aRun l k r as z.2 else z))
    else (let z := aAct rN N l k a W
      if z.1 = 0 then aRun l k r as z.2 else z)
def aGone (l : Bool) (k : Nat) (W : aW Nm) : aW Nm := aAdd l (5, (aAt W k).1.1, rN (-1), 0, none) (W.1.eraseIdx k, W.2)
/-- the signal at i is taken, or thrown away -/
def aTake (l : Bool) (k i : Nat) (kd : Int32) (c : Option Nat) (W : aW Nm) : aW Nm :=
  let a := aAt W k
  let s := a.2.2.1.getD i (rN (-1), 0, 0, 0)
  let vs := match c with
    | some c => if (kd = 2 ∨ kd = 3) ∧ 0 ≤ N 258 ((cls N (ix a.1.2.1) (ix a.1.2.2.1)).getD c 0) then a.2.1.set (ix (N 253 ((cls N (ix a.1.2.1) (ix a.1.2.2.1)).getD c 0))) s.2.1 else a.2.1
    | none => a.2.1
  aAdd l (if kd = 5 then 2 else 1, a.1.1, s.1, s.2.1, if kd = 5 ∨ s.2.2.2 = -2 then none else some (a.1.2.1, s.2.2.2)) (aPut k ((a.1.1, a.1.2.1, a.1.2.2.1, a.1.2.2.2.1, s.2.2.1, a.1.2.2.2.2.2), vs, a.2.2.1.eraseIdx i, a.2.2.2) W)
def RD : Nat := 4000
def aTurn (l : Bool) (k : Nat) (W : aW Nm) : Int32 × aW Nm :=
  match aPlan rN N W.2.1.2.1 (aAt W k) with
  | (kd, i, c) =>
    if kd = 0 then (0, W) else
    let W1 := match i with | some i => aTake rN N l k i kd c W | none => W
    if kd = 5 then (5, (W1.1, (W1.2.1.1, W1.2.1.2.1, W1.2.1.2.2.1, if l = true then W1.2.1.2.2.2.1 + 1 else W1.2.1.2.2.2.1, W1.2.1.2.2.2.2), W1.2.2.1, (W1.2.2.2.1, W1.2.2.2.2 + 1)))
    else
      let b := if kd = 1 then ix (N 258 (pnd N (ix (aAt W k).1.2.1))) else match c with | some c => ix (N 254 ((cls N (ix (aAt W k).1.2.1) (ix (aAt W k).1.2.2.1)).getD c 0)) | none => 0
      let z := aRun rN N l k RD (acts N b) W1
      (kd, if z.1 = 2 ∨ z.1 = 0 ∧ kd = 1 then aGone rN l k z.2 else z.2)
/-- the first timer that is due: due, slot, place -/
def aDueT (k : Nat) : List (Nm × Int32) → Nat → Option (Int32 × Nat × Nat) → Option (Int32 × Nat × Nat)
  | [], _, o => o
  | t :: ts, i, o => aDueT k ts (i + 1) (match o with | none => some (t.2, k, i) | some z => if t.2 < z.1 then some (t.2, k, i) else o)
def aDue : List (aI Nm) → Nat → Option (Int32 × Nat × Nat) → Option (Int32 × Nat × Nat)
  | [], _, o => o
  | a :: as, k, o => aDue as (k + 1) (aDueT k a.2.2.2 0 o)
/-- a timer comes due -/
def aFire (l : Bool) (k i : Nat) (W : aW Nm) : aW Nm :=
  let a := aAt W k
  let x := (a.2.2.2.getD i (rN (-1), 0)).1
  let a1 := aDropT i a
  if a1.2.2.1.length < 8 then aAdd l (6, a.1.1, x, 0, none) (aPut k (aAcc (x, 0, a.1.1, -2) a1) W)
  else aLose l a.1.1 x 0 (aAdd l (6, a.1.1, x, 0, none) (aPut k a1 W))
def aTime (l : Bool) : Nat → aW Nm → Int32 × aW Nm
  | 0, W => (0, W)
  | r + 1, W => match aDue W.1 0 none with
    | none => (0, W)
    | some (d, k, i) => if W.2.1.2.1 < d then (0, W) else
        let z := aTime l r (aFire rN l k i W)
        (z.1 + 1, z.2)
/-- all begins anew -/
def aMore (l : Bool) (p : Nat) : Nat → aW Nm → aW Nm
  | 0, W => W
  | r + 1, W => if W.1.length < 8 then aMore l p r (aFresh rN N l p (-1) W) else W
def aBeg (l : Bool) : Nat → Nat → aW Nm → aW Nm
  | 0, _, W => W
  | r + 1, p, W => aBeg l r (p + 1) (aMore rN N l p (ix (N 257 (pnd N p))) W)
def aBegin (np : Nat) : aW Nm := aBeg rN N true np 0 ([], (0, 0, 0, 0, -1), ([], false), (0, 0))
end AC
