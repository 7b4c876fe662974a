/-! the start: what both constructors leave is a heap in sight -/
def cp0 (v : Nat) : Nat := if v = 206 then 4096 else if v = 243 then 1024 else if v ≤ 246 then 64 else 1024
theorem gw_300 {v : Nat} (h : gw v = true) : v < 300 := by
  unfold gw gL at h
  simp at h
  omega
def X0 : jXX := ⟨(fun v => v, cp0, fun _ => none, 300), ⟨fun _ hv => ⟨Or.inl rfl, gw_300 hv⟩, fun _ _ _ _ e => e, Nat.le_refl _, fun _ _ => rfl⟩⟩
def I0 (c i : Nat) : Int32 := if c = 247 then mdH 256 i else if (c = 57 ∨ c = 132) ∧ i = 8 then -1 else 0
def J0 (c i : Nat) : Int64 := if c = 4 then tkW i else 0
def R0 (c i : Nat) : Nat := if c = 0 then (if i = 8 then 10 else if i = 9 then 33 else if i = 11 then 215 else 228) else if c = 56 then (if i = 1 then 33 else 37) else if c = 65 then 66 + 8 * i else if c = 140 then 141 + 8 * i else 10
theorem jfE {g F : Nat → Value} {vs : List Value} (h : ∀ i, vs.getD i (g i) = F i) : jfl9 g vs = F := funext h
theorem ck0 {b : Nat} : cl b X0 I0 J0 R0 0 = some (10, 14, jfl9 (jdf 10) [.ref (b + 1), .int 0, .ref (b + 2), .int 0, .ref (b + 3), .ref (b + 56), .ref (b + 57), .ref (b + 131), .ref (b + 10), .ref (b + 33), .int 0, .ref (b + 215), .ref (b + 228), .int 0]) := by
  show some (10, 14, fun i => vf b 10 X0 I0 J0 R0 0 i) = _
  congr 3
  refine (jfE fun i => ?_).symm
  match i with
  | 0 => rfl
  | 1 => rfl
  | 2 => rfl
  | 3 => rfl
  | 4 => rfl
  | 5 => rfl
  | 6 => rfl
  | 7 => rfl
  | 8 => rfl
  | 9 => rfl
  | 10 => rfl
  | 11 => rfl
  | 12 => rfl
  | 13 => rfl
  | n + 14 => rfl
theorem ck1 {b : Nat} : cl b X0 I0 J0 R0 1 = some (z22 2000) := rfl
theorem ck2 {b : Nat} : cl b X0 I0 J0 R0 2 = some (z22 12) := rfl
theorem ck3 {b : Nat} : cl b X0 I0 J0 R0 3 = some (6, 7, jfl9 (jdf 6) [.ref (b + 4), .ref (b + 5), .ref (b + 7), .ref (b + 6), .ref (b + 8), .ref (b + 9), .int 0]) := by
  show some (6, 7, fun i => vf b 6 X0 I0 J0 R0 3 i) = _
  congr 3
  refine (jfE fun i => ?_).symm
  match i with
  | 0 => rfl
  | 1 => rfl
  | 2 => rfl
  | 3 => rfl
  | 4 => rfl
  | 5 => rfl
  | 6 => rfl
  | n + 7 => rfl
theorem ck4 {b : Nat} : cl b X0 I0 J0 R0 4 = some (21, 26, fun i => .long (tkW i)) := rfl
theorem ck5 {b : Nat} : cl b X0 I0 J0 R0 5 = some (z20 2001) := rfl
theorem ck6 {b : Nat} : cl b X0 I0 J0 R0 6 = some (z20 2001) := rfl
theorem ck7 {b : Nat} : cl b X0 I0 J0 R0 7 = some (z20 2001) := rfl
theorem ck8 {b : Nat} : cl b X0 I0 J0 R0 8 = some (z21 2001) := rfl
theorem ck9 {b : Nat} : cl b X0 I0 J0 R0 9 = some (z20 2001) := rfl
theorem ck10 {b : Nat} : cl b X0 I0 J0 R0 10 = some (5, 18, jfl9 (jdf 5) [.ref (b + 11), .int 0, .ref (b + 14), .int 0, .ref (b + 19), .ref (b + 20), .ref (b + 21), .ref (b + 22), .ref (b + 23), .ref (b + 24), .ref (b + 25), .ref (b + 26), .ref (b + 27), .ref (b + 28), .ref (b + 29), .ref (b + 30), .ref (b + 31), .ref (b + 32)]) := by
  show some (5, 18, fun i => vf b 5 X0 I0 J0 R0 10 i) = _
  congr 3
  refine (jfE fun i => ?_).symm
  match i with
  | 0 => rfl
  | 1 => rfl
  | 2 => rfl
  | 3 => rfl
  | 4 => rfl
  | 5 => rfl
  | 6 => rfl
  | 7 => rfl
  | 8 => rfl
  | 9 => rfl
  | 10 => rfl
  | 11 => rfl
  | 12 => rfl
  | 13 => rfl
  | 14 => rfl
  | 15 => rfl
  | 16 => rfl
  | 17 => rfl
  | n + 18 => rfl
theorem ck11 {b : Nat} : cl b X0 I0 J0 R0 11 = some (3, 3, jfl9 (jdf 3) [.ref (b + 12), .ref (b + 13), .int 0]) := by
  show some (3, 3, fun i => vf b 3 X0 I0 J0 R0 11 i) = _
  congr 3
  refine (jfE fun i => ?_).symm
  match i with
  | 0 => rfl
  | 1 => rfl
  | 2 => rfl
  | n + 3 => rfl
theorem ck12 {b : Nat} : cl b X0 I0 J0 R0 12 = some (z21 1600) := rfl
theorem ck13 {b : Nat} : cl b X0 I0 J0 R0 13 = some (z20 1600) := rfl
theorem ck14 {b : Nat} : cl b X0 I0 J0 R0 14 = some (1, 5, jfl9 (jdf 1) [.ref (b + 15), .ref (b + 16), .ref (b + 17), .ref (b + 18), .int 0]) := by
  show some (1, 5, fun i => vf b 1 X0 I0 J0 R0 14 i) = _
  congr 3
  refine (jfE fun i => ?_).symm
  match i with
  | 0 => rfl
  | 1 => rfl
  | 2 => rfl
  | 3 => rfl
  | 4 => rfl
  | n + 5 => rfl
theorem ck15 {b : Nat} : cl b X0 I0 J0 R0 15 = some (z20 2048) := rfl
theorem ck16 {b : Nat} : cl b X0 I0 J0 R0 16 = some (z20 2048) := rfl
theorem ck17 {b : Nat} : cl b X0 I0 J0 R0 17 = some (z20 2048) := rfl
theorem ck18 {b : Nat} : cl b X0 I0 J0 R0 18 = some (z20 2048) := rfl
theorem ck19 {b : Nat} : cl b X0 I0 J0 R0 19 = some (z20 6) := rfl
theorem ck20 {b : Nat} : cl b X0 I0 J0 R0 20 = some (z20 6) := rfl
theorem ck21 {b : Nat} : cl b X0 I0 J0 R0 21 = some (z20 6) := rfl
theorem ck22 {b : Nat} : cl b X0 I0 J0 R0 22 = some (z20 6) := rfl
theorem ck23 {b : Nat} : cl b X0 I0 J0 R0 23 = some (z20 36) := rfl
theorem ck24 {b : Nat} : cl b X0 I0 J0 R0 24 = some (z20 36) := rfl
theorem ck25 {b : Nat} : cl b X0 I0 J0 R0 25 = some (z20 6) := rfl
theorem ck26 {b : Nat} : cl b X0 I0 J0 R0 26 = some (z20 48) := rfl
theorem ck27 {b : Nat} : cl b X0 I0 J0 R0 27 = some (z20 48) := rfl
theorem ck28 {b : Nat} : cl b X0 I0 J0 R0 28 = some (z20 384) := rfl
theorem ck29 {b : Nat} : cl b X0 I0 J0 R0 29 = some (z20 384) := rfl
theorem ck30 {b : Nat} : cl b X0 I0 J0 R0 30 = some (z20 384) := rfl
theorem ck31 {b : Nat} : cl b X0 I0 J0 R0 31 = some (z20 384) := rfl
theorem ck32 {b : Nat} : cl b X0 I0 J0 R0 32 = some (z20 384) := rfl
theorem ck33 {b : Nat} : cl b X0 I0 J0 R0 33 = some (5, 18, jfl9 (jdf 5) [.ref (b + 34), .int 0, .ref (b + 37), .int 0, .ref (b + 42), .ref (b + 43), .ref (b + 44), .ref (b + 45), .ref (b + 46), .ref (b + 47), .ref (b + 48), .ref (b + 49), .ref (b + 50), .ref (b + 51), .ref (b + 52), .ref (b + 53), .ref (b + 54), .ref (b + 55)]) := by
  show some (5, 18, fun i => vf b 5 X0 I0 J0 R0 33 i) = _
  congr 3
  refine (jfE fun i => ?_).symm
  match i with
  | 0 => rfl
  | 1 => rfl
  | 2 => rfl
  | 3 => rfl
  | 4 => rfl
  | 5 => rfl
  | 6 => rfl
  | 7 => rfl
  | 8 => rfl
  | 9 => rfl
  | 10 => rfl
  | 11 => rfl
  | 12 => rfl
  | 13 => rfl
  | 14 => rfl
  | 15 => rfl
  | 16 => rfl
  | 17 => rfl
  | n + 18 => rfl
theorem ck34 {b : Nat} : cl b X0 I0 J0 R0 34 = some (3, 3, jfl9 (jdf 3) [.ref (b + 35), .ref (b + 36), .int 0]) := by
  show some (3, 3, fun i => vf b 3 X0 I0 J0 R0 34 i) = _
  congr 3
  refine (jfE fun i => ?_).symm
  match i with
  | 0 => rfl
  | 1 => rfl
  | 2 => rfl
  | n + 3 => rfl
theorem ck35 {b : Nat} : cl b X0 I0 J0 R0 35 = some (z21 1600) := rfl
theorem ck36 {b : Nat} : cl b X0 I0 J0 R0 36 = some (z20 1600) := rfl
theorem ck37 {b : Nat} : cl b X0 I0 J0 R0 37 = some (1, 5, jfl9 (jdf 1) [.ref (b + 38), .ref (b + 39), .ref (b + 40), .ref (b + 41), .int 0]) := by
  show some (1, 5, fun i => vf b 1 X0 I0 J0 R0 37 i) = _
  congr 3
  refine (jfE fun i => ?_).symm
  match i with
  | 0 => rfl
  | 1 => rfl
  | 2 => rfl
  | 3 => rfl
  | 4 => rfl
  | n + 5 => rfl
theorem ck38 {b : Nat} : cl b X0 I0 J0 R0 38 = some (z20 2048) := rfl
theorem ck39 {b : Nat} : cl b X0 I0 J0 R0 39 = some (z20 2048) := rfl
theorem ck40 {b : Nat} : cl b X0 I0 J0 R0 40 = some (z20 2048) := rfl
theorem ck41 {b : Nat} : cl b X0 I0 J0 R0 41 = some (z20 2048) := rfl
theorem ck42 {b : Nat} : cl b X0 I0 J0 R0 42 = some (z20 6) := rfl
theorem ck43 {b : Nat} : cl b X0 I0 J0 R0 43 = some (z20 6) := rfl
theorem ck44 {b : Nat} : cl b X0 I0 J0 R0 44 = some (z20 6) := rfl
theorem ck45 {b : Nat} : cl b X0 I0 J0 R0 45 = some (z20 6) := rfl
theorem ck46 {b : Nat} : cl b X0 I0 J0 R0 46 = some (z20 36) := rfl
theorem ck47 {b : Nat} : cl b X0 I0 J0 R0 47 = some (z20 36) := rfl
theorem ck48 {b : Nat} : cl b X0 I0 J0 R0 48 = some (z20 6) := rfl
theorem ck49 {b : Nat} : cl b X0 I0 J0 R0 49 = some (z20 48) := rfl
theorem ck50 {b : Nat} : cl b X0 I0 J0 R0 50 = some (z20 48) := rfl
theorem ck51 {b : Nat} : cl b X0 I0 J0 R0 51 = some (z20 384) := rfl
theorem ck52 {b : Nat} : cl b X0 I0 J0 R0 52 = some (z20 384) := rfl
theorem ck53 {b : Nat} : cl b X0 I0 J0 R0 53 = some (z20 384) := rfl
theorem ck54 {b : Nat} : cl b X0 I0 J0 R0 54 = some (z20 384) := rfl
theorem ck55 {b : Nat} : cl b X0 I0 J0 R0 55 = some (z20 384) := rfl
theorem ck56 {b : Nat} : cl b X0 I0 J0 R0 56 = some (4, 10, jfl9 (jdf 4) [.ref (b + 3), .ref (b + 33), .ref (b + 37), .int 0, .int 0, .int 0, .int 0, .int 0, .int 0, .int 0]) := by
  show some (4, 10, fun i => vf b 4 X0 I0 J0 R0 56 i) = _
  congr 3
  refine (jfE fun i => ?_).symm
  match i with
  | 0 => rfl
  | 1 => rfl
  | 2 => rfl
  | 3 => rfl
  | 4 => rfl
  | 5 => rfl
  | 6 => rfl
  | 7 => rfl
  | 8 => rfl
  | 9 => rfl
  | n + 10 => rfl
theorem ck57 {b : Nat} : cl b X0 I0 J0 R0 57 = some (9, 13, jfl9 (jdf 9) [.ref (b + 10), .ref (b + 58), .ref (b + 65), .int 0, .int 0, .int 0, .int 0, .int 0, .int (-1), .ref (b + 130), .int 0, .int 0, .int 0]) := by
  show some (9, 13, fun i => vf b 9 X0 I0 J0 R0 57 i) = _
  congr 3
  refine (jfE fun i => ?_).symm
  match i with
  | 0 => rfl
  | 1 => rfl
  | 2 => rfl
  | 3 => rfl
  | 4 => rfl
  | 5 => rfl
  | 6 => rfl
  | 7 => rfl
  | 8 => rfl
  | 9 => rfl
  | 10 => rfl
  | 11 => rfl
  | 12 => rfl
  | n + 13 => rfl
theorem ck58 {b : Nat} : cl b X0 I0 J0 R0 58 = some (7, 8, jfl9 (jdf 7) [.ref (b + 59), .ref (b + 60), .ref (b + 61), .ref (b + 62), .ref (b + 63), .ref (b + 64), .int 0, .int 0]) := by
  show some (7, 8, fun i => vf b 7 X0 I0 J0 R0 58 i) = _
  congr 3
  refine (jfE fun i => ?_).symm
  match i with
  | 0 => rfl
  | 1 => rfl
  | 2 => rfl
  | 3 => rfl
  | 4 => rfl
  | 5 => rfl
  | 6 => rfl
  | 7 => rfl
  | n + 8 => rfl
theorem ck59 {b : Nat} : cl b X0 I0 J0 R0 59 = some (z20 400) := rfl
theorem ck60 {b : Nat} : cl b X0 I0 J0 R0 60 = some (z20 400) := rfl
theorem ck61 {b : Nat} : cl b X0 I0 J0 R0 61 = some (z20 400) := rfl
theorem ck62 {b : Nat} : cl b X0 I0 J0 R0 62 = some (z20 400) := rfl
theorem ck63 {b : Nat} : cl b X0 I0 J0 R0 63 = some (z20 400) := rfl
theorem ck64 {b : Nat} : cl b X0 I0 J0 R0 64 = some (z20 400) := rfl
theorem ck65 {b : Nat} : cl b X0 I0 J0 R0 65 = some (24, 8, jfl9 (fun _ => .null) [.ref (b + 66), .ref (b + 74), .ref (b + 82), .ref (b + 90), .ref (b + 98), .ref (b + 106), .ref (b + 114), .ref (b + 122)]) := by
  show some (24, 8, fun i => vf b 24 X0 I0 J0 R0 65 i) = _
  congr 3
  refine (jfE fun i => ?_).symm
  match i with
  | 0 => rfl
  | 1 => rfl
  | 2 => rfl
  | 3 => rfl
  | 4 => rfl
  | 5 => rfl
  | 6 => rfl
  | 7 => rfl
  | n + 8 => rfl
theorem ck66 {b : Nat} : cl b X0 I0 J0 R0 66 = some (2, 15, jfl9 (jdf 2) [.int 0, .int 0, .int 0, .int 0, .int 0, .int 0, .ref (b + 67), .int 0, .ref (b + 68), .ref (b + 69), .ref (b + 70), .ref (b + 71), .int 0, .ref (b + 72), .ref (b + 73)]) := by
  show some (2, 15, fun i => vf b 2 X0 I0 J0 R0 66 i) = _
  congr 3
  refine (jfE fun i => ?_).symm
  match i with
  | 0 => rfl
  | 1 => rfl
  | 2 => rfl
  | 3 => rfl
  | 4 => rfl
  | 5 => rfl
  | 6 => rfl
  | 7 => rfl
  | 8 => rfl
  | 9 => rfl
  | 10 => rfl
  | 11 => rfl
  | 12 => rfl
  | 13 => rfl
  | 14 => rfl
  | n + 15 => rfl
theorem ck67 {b : Nat} : cl b X0 I0 J0 R0 67 = some (z20 6) := rfl
theorem ck68 {b : Nat} : cl b X0 I0 J0 R0 68 = some (z20 8) := rfl
theorem ck69 {b : Nat} : cl b X0 I0 J0 R0 69 = some (z20 8) := rfl
theorem ck70 {b : Nat} : cl b X0 I0 J0 R0 70 = some (z20 8) := rfl
theorem ck71 {b : Nat} : cl b X0 I0 J0 R0 71 = some (z20 8) := rfl
theorem ck72 {b : Nat} : cl b X0 I0 J0 R0 72 = some (z20 4) := rfl
theorem ck73 {b : Nat} : cl b X0 I0 J0 R0 73 = some (z20 4) := rfl
theorem ck74 {b : Nat} : cl b X0 I0 J0 R0 74 = some (2, 15, jfl9 (jdf 2) [.int 0, .int 0, .int 0, .int 0, .int 0, .int 0, .ref (b + 75), .int 0, .ref (b + 76), .ref (b + 77), .ref (b + 78), .ref (b + 79), .int 0, .ref (b + 80), .ref (b + 81)]) := by
  show some (2, 15, fun i => vf b 2 X0 I0 J0 R0 74 i) = _
  congr 3
  refine (jfE fun i => ?_).symm
  match i with
  | 0 => rfl
  | 1 => rfl
  | 2 => rfl
  | 3 => rfl
  | 4 => rfl
  | 5 => rfl
  | 6 => rfl
  | 7 => rfl
  | 8 => rfl
  | 9 => rfl
  | 10 => rfl
  | 11 => rfl
  | 12 => rfl
  | 13 => rfl
  | 14 => rfl
  | n + 15 => rfl
theorem ck75 {b : Nat} : cl b X0 I0 J0 R0 75 = some (z20 6) := rfl
theorem ck76 {b : Nat} : cl b X0 I0 J0 R0 76 = some (z20 8) := rfl
theorem ck77 {b : Nat} : cl b X0 I0 J0 R0 77 = some (z20 8) := rfl
theorem ck78 {b : Nat} : cl b X0 I0 J0 R0 78 = some (z20 8) := rfl
theorem ck79 {b : Nat} : cl b X0 I0 J0 R0 79 = some (z20 8) := rfl
theorem ck80 {b : Nat} : cl b X0 I0 J0 R0 80 = some (z20 4) := rfl
theorem ck81 {b : Nat} : cl b X0 I0 J0 R0 81 = some (z20 4) := rfl
theorem ck82 {b : Nat} : cl b X0 I0 J0 R0 82 = some (2, 15, jfl9 (jdf 2) [.int 0, .int 0, .int 0, .int 0, .int 0, .int 0, .ref (b + 83), .int 0, .ref (b + 84), .ref (b + 85), .ref (b + 86), .ref (b + 87), .int 0, .ref (b + 88), .ref (b + 89)]) := by
  show some (2, 15, fun i => vf b 2 X0 I0 J0 R0 82 i) = _
  congr 3
  refine (jfE fun i => ?_).symm
  match i with
  | 0 => rfl
  | 1 => rfl
  | 2 => rfl
  | 3 => rfl
  | 4 => rfl
  | 5 => rfl
  | 6 => rfl
  | 7 => rfl
  | 8 => rfl
  | 9 => rfl
  | 10 => rfl
  | 11 => rfl
  | 12 => rfl
  | 13 => rfl
  | 14 => rfl
  | n + 15 => rfl
theorem ck83 {b : Nat} : cl b X0 I0 J0 R0 83 = some (z20 6) := rfl
theorem ck84 {b : Nat} : cl b X0 I0 J0 R0 84 = some (z20 8) := rfl
theorem ck85 {b : Nat} : cl b X0 I0 J0 R0 85 = some (z20 8) := rfl
theorem ck86 {b : Nat} : cl b X0 I0 J0 R0 86 = some (z20 8) := rfl
theorem ck87 {b : Nat} : cl b X0 I0 J0 R0 87 = some (z20 8) := rfl
theorem ck88 {b : Nat} : cl b X0 I0 J0 R0 88 = some (z20 4) := rfl
theorem ck89 {b : Nat} : cl b X0 I0 J0 R0 89 = some (z20 4) := rfl
theorem ck90 {b : Nat} : cl b X0 I0 J0 R0 90 = some (2, 15, jfl9 (jdf 2) [.int 0, .int 0, .int 0, .int 0, .int 0, .int 0, .ref (b + 91), .int 0, .ref (b + 92), .ref (b + 93), .ref (b + 94), .ref (b + 95), .int 0, .ref (b + 96), .ref (b + 97)]) := by
  show some (2, 15, fun i => vf b 2 X0 I0 J0 R0 90 i) = _
  congr 3
  refine (jfE fun i => ?_).symm
  match i with
  | 0 => rfl
  | 1 => rfl
  | 2 => rfl
  | 3 => rfl
  | 4 => rfl
  | 5 => rfl
  | 6 => rfl
  | 7 => rfl
  | 8 => rfl
  | 9 => rfl
  | 10 => rfl
  | 11 => rfl
  | 12 => rfl
  | 13 => rfl
  | 14 => rfl
  | n + 15 => rfl
theorem ck91 {b : Nat} : cl b X0 I0 J0 R0 91 = some (z20 6) := rfl
theorem ck92 {b : Nat} : cl b X0 I0 J0 R0 92 = some (z20 8) := rfl
theorem ck93 {b : Nat} : cl b X0 I0 J0 R0 93 = some (z20 8) := rfl
theorem ck94 {b : Nat} : cl b X0 I0 J0 R0 94 = some (z20 8) := rfl
theorem ck95 {b : Nat} : cl b X0 I0 J0 R0 95 = some (z20 8) := rfl
theorem ck96 {b : Nat} : cl b X0 I0 J0 R0 96 = some (z20 4) := rfl
theorem ck97 {b : Nat} : cl b X0 I0 J0 R0 97 = some (z20 4) := rfl
theorem ck98 {b : Nat} : cl b X0 I0 J0 R0 98 = some (2, 15, jfl9 (jdf 2) [.int 0, .int 0, .int 0, .int 0, .int 0, .int 0, .ref (b + 99), .int 0, .ref (b + 100), .ref (b + 101), .ref (b + 102), .ref (b + 103), .int 0, .ref (b + 104), .ref (b + 105)]) := by
  show some (2, 15, fun i => vf b 2 X0 I0 J0 R0 98 i) = _
  congr 3
  refine (jfE fun i => ?_).symm
  match i with
  | 0 => rfl
  | 1 => rfl
  | 2 => rfl
  | 3 => rfl
  | 4 => rfl
  | 5 => rfl
  | 6 => rfl
  | 7 => rfl
  | 8 => rfl
  | 9 => rfl
  | 10 => rfl
  | 11 => rfl
  | 12 => rfl
  | 13 => rfl
  | 14 => rfl
  | n + 15 => rfl
theorem ck99 {b : Nat} : cl b X0 I0 J0 R0 99 = some (z20 6) := rfl
theorem ck100 {b : Nat} : cl b X0 I0 J0 R0 100 = some (z20 8) := rfl
theorem ck101 {b : Nat} : cl b X0 I0 J0 R0 101 = some (z20 8) := rfl
theorem ck102 {b : Nat} : cl b X0 I0 J0 R0 102 = some (z20 8) := rfl
theorem ck103 {b : Nat} : cl b X0 I0 J0 R0 103 = some (z20 8) := rfl
theorem ck104 {b : Nat} : cl b X0 I0 J0 R0 104 = some (z20 4) := rfl
theorem ck105 {b : Nat} : cl b X0 I0 J0 R0 105 = some (z20 4) := rfl
theorem ck106 {b : Nat} : cl b X0 I0 J0 R0 106 = some (2, 15, jfl9 (jdf 2) [.int 0, .int 0, .int 0, .int 0, .int 0, .int 0, .ref (b + 107), .int 0, .ref (b + 108), .ref (b + 109), .ref (b + 110), .ref (b + 111), .int 0, .ref (b + 112), .ref (b + 113)]) := by
  show some (2, 15, fun i => vf b 2 X0 I0 J0 R0 106 i) = _
  congr 3
  refine (jfE fun i => ?_).symm
  match i with
  | 0 => rfl
  | 1 => rfl
  | 2 => rfl
  | 3 => rfl
  | 4 => rfl
  | 5 => rfl
  | 6 => rfl
  | 7 => rfl
  | 8 => rfl
  | 9 => rfl
  | 10 => rfl
  | 11 => rfl
  | 12 => rfl
  | 13 => rfl
  | 14 => rfl
  | n + 15 => rfl
theorem ck107 {b : Nat} : cl b X0 I0 J0 R0 107 = some (z20 6) := rfl
theorem ck108 {b : Nat} : cl b X0 I0 J0 R0 108 = some (z20 8) := rfl
theorem ck109 {b : Nat} : cl b X0 I0 J0 R0 109 = some (z20 8) := rfl
theorem ck110 {b : Nat} : cl b X0 I0 J0 R0 110 = some (z20 8) := rfl
theorem ck111 {b : Nat} : cl b X0 I0 J0 R0 111 = some (z20 8) := rfl
theorem ck112 {b : Nat} : cl b X0 I0 J0 R0 112 = some (z20 4) := rfl
theorem ck113 {b : Nat} : cl b X0 I0 J0 R0 113 = some (z20 4) := rfl
theorem ck114 {b : Nat} : cl b X0 I0 J0 R0 114 = some (2, 15, jfl9 (jdf 2) [.int 0, .int 0, .int 0, .int 0, .int 0, .int 0, .ref (b + 115), .int 0, .ref (b + 116), .ref (b + 117), .ref (b + 118), .ref (b + 119), .int 0, .ref (b + 120), .ref (b + 121)]) := by
  show some (2, 15, fun i => vf b 2 X0 I0 J0 R0 114 i) = _
  congr 3
  refine (jfE fun i => ?_).symm
  match i with
  | 0 => rfl
  | 1 => rfl
  | 2 => rfl
  | 3 => rfl
  | 4 => rfl
  | 5 => rfl
  | 6 => rfl
  | 7 => rfl
  | 8 => rfl
  | 9 => rfl
  | 10 => rfl
  | 11 => rfl
  | 12 => rfl
  | 13 => rfl
  | 14 => rfl
  | n + 15 => rfl
theorem ck115 {b : Nat} : cl b X0 I0 J0 R0 115 = some (z20 6) := rfl
theorem ck116 {b : Nat} : cl b X0 I0 J0 R0 116 = some (z20 8) := rfl
theorem ck117 {b : Nat} : cl b X0 I0 J0 R0 117 = some (z20 8) := rfl
theorem ck118 {b : Nat} : cl b X0 I0 J0 R0 118 = some (z20 8) := rfl
theorem ck119 {b : Nat} : cl b X0 I0 J0 R0 119 = some (z20 8) := rfl
theorem ck120 {b : Nat} : cl b X0 I0 J0 R0 120 = some (z20 4) := rfl
theorem ck121 {b : Nat} : cl b X0 I0 J0 R0 121 = some (z20 4) := rfl
theorem ck122 {b : Nat} : cl b X0 I0 J0 R0 122 = some (2, 15, jfl9 (jdf 2) [.int 0, .int 0, .int 0, .int 0, .int 0, .int 0, .ref (b + 123), .int 0, .ref (b + 124), .ref (b + 125), .ref (b + 126), .ref (b + 127), .int 0, .ref (b + 128), .ref (b + 129)]) := by
  show some (2, 15, fun i => vf b 2 X0 I0 J0 R0 122 i) = _
  congr 3
  refine (jfE fun i => ?_).symm
  match i with
  | 0 => rfl
  | 1 => rfl
  | 2 => rfl
  | 3 => rfl
  | 4 => rfl
  | 5 => rfl
  | 6 => rfl
  | 7 => rfl
  | 8 => rfl
  | 9 => rfl
  | 10 => rfl
  | 11 => rfl
  | 12 => rfl
  | 13 => rfl
  | 14 => rfl
  | n + 15 => rfl
theorem ck123 {b : Nat} : cl b X0 I0 J0 R0 123 = some (z20 6) := rfl
theorem ck124 {b : Nat} : cl b X0 I0 J0 R0 124 = some (z20 8) := rfl
theorem ck125 {b : Nat} : cl b X0 I0 J0 R0 125 = some (z20 8) := rfl
theorem ck126 {b : Nat} : cl b X0 I0 J0 R0 126 = some (z20 8) := rfl
theorem ck127 {b : Nat} : cl b X0 I0 J0 R0 127 = some (z20 8) := rfl
theorem ck128 {b : Nat} : cl b X0 I0 J0 R0 128 = some (z20 4) := rfl
theorem ck129 {b : Nat} : cl b X0 I0 J0 R0 129 = some (z20 4) := rfl
theorem ck130 {b : Nat} : cl b X0 I0 J0 R0 130 = some (z20 64) := rfl
theorem ck131 {b : Nat} : cl b X0 I0 J0 R0 131 = some (8, 16, jfl9 (jdf 8) [.ref (b + 132), .ref (b + 206), .ref (b + 207), .ref (b + 208), .ref (b + 209), .ref (b + 210), .ref (b + 211), .ref (b + 212), .ref (b + 213), .int 0, .int 0, .int 0, .int 0, .ref (b + 214), .int 0, .int 0]) := by
  show some (8, 16, fun i => vf b 8 X0 I0 J0 R0 131 i) = _
  congr 3
  refine (jfE fun i => ?_).symm
  match i with
  | 0 => rfl
  | 1 => rfl
  | 2 => rfl
  | 3 => rfl
  | 4 => rfl
  | 5 => rfl
  | 6 => rfl
  | 7 => rfl
  | 8 => rfl
  | 9 => rfl
  | 10 => rfl
  | 11 => rfl
  | 12 => rfl
  | 13 => rfl
  | 14 => rfl
  | 15 => rfl
  | n + 16 => rfl
theorem ck132 {b : Nat} : cl b X0 I0 J0 R0 132 = some (9, 13, jfl9 (jdf 9) [.ref (b + 10), .ref (b + 133), .ref (b + 140), .int 0, .int 0, .int 0, .int 0, .int 0, .int (-1), .ref (b + 205), .int 0, .int 0, .int 0]) := by
  show some (9, 13, fun i => vf b 9 X0 I0 J0 R0 132 i) = _
  congr 3
  refine (jfE fun i => ?_).symm
  match i with
  | 0 => rfl
  | 1 => rfl
  | 2 => rfl
  | 3 => rfl
  | 4 => rfl
  | 5 => rfl
  | 6 => rfl
  | 7 => rfl
  | 8 => rfl
  | 9 => rfl
  | 10 => rfl
  | 11 => rfl
  | 12 => rfl
  | n + 13 => rfl
theorem ck133 {b : Nat} : cl b X0 I0 J0 R0 133 = some (7, 8, jfl9 (jdf 7) [.ref (b + 134), .ref (b + 135), .ref (b + 136), .ref (b + 137), .ref (b + 138), .ref (b + 139), .int 0, .int 0]) := by
  show some (7, 8, fun i => vf b 7 X0 I0 J0 R0 133 i) = _
  congr 3
  refine (jfE fun i => ?_).symm
  match i with
  | 0 => rfl
  | 1 => rfl
  | 2 => rfl
  | 3 => rfl
  | 4 => rfl
  | 5 => rfl
  | 6 => rfl
  | 7 => rfl
  | n + 8 => rfl
theorem ck134 {b : Nat} : cl b X0 I0 J0 R0 134 = some (z20 0) := rfl
theorem ck135 {b : Nat} : cl b X0 I0 J0 R0 135 = some (z20 0) := rfl
theorem ck136 {b : Nat} : cl b X0 I0 J0 R0 136 = some (z20 0) := rfl
theorem ck137 {b : Nat} : cl b X0 I0 J0 R0 137 = some (z20 0) := rfl
theorem ck138 {b : Nat} : cl b X0 I0 J0 R0 138 = some (z20 0) := rfl
theorem ck139 {b : Nat} : cl b X0 I0 J0 R0 139 = some (z20 0) := rfl
theorem ck140 {b : Nat} : cl b X0 I0 J0 R0 140 = some (24, 8, jfl9 (fun _ => .null) [.ref (b + 141), .ref (b + 149), .ref (b + 157), .ref (b + 165), .ref (b + 173), .ref (b + 181), .ref (b + 189), .ref (b + 197)]) := by
  show some (24, 8, fun i => vf b 24 X0 I0 J0 R0 140 i) = _
  congr 3
  refine (jfE fun i => ?_).symm
  match i with
  | 0 => rfl
  | 1 => rfl
  | 2 => rfl
  | 3 => rfl
  | 4 => rfl
  | 5 => rfl
  | 6 => rfl
  | 7 => rfl
  | n + 8 => rfl
theorem ck141 {b : Nat} : cl b X0 I0 J0 R0 141 = some (2, 15, jfl9 (jdf 2) [.int 0, .int 0, .int 0, .int 0, .int 0, .int 0, .ref (b + 142), .int 0, .ref (b + 143), .ref (b + 144), .ref (b + 145), .ref (b + 146), .int 0, .ref (b + 147), .ref (b + 148)]) := by
  show some (2, 15, fun i => vf b 2 X0 I0 J0 R0 141 i) = _
  congr 3
  refine (jfE fun i => ?_).symm
  match i with
  | 0 => rfl
  | 1 => rfl
  | 2 => rfl
  | 3 => rfl
  | 4 => rfl
  | 5 => rfl
  | 6 => rfl
  | 7 => rfl
  | 8 => rfl
  | 9 => rfl
  | 10 => rfl
  | 11 => rfl
  | 12 => rfl
  | 13 => rfl
  | 14 => rfl
  | n + 15 => rfl
theorem ck142 {b : Nat} : cl b X0 I0 J0 R0 142 = some (z20 6) := rfl
theorem ck143 {b : Nat} : cl b X0 I0 J0 R0 143 = some (z20 8) := rfl
theorem ck144 {b : Nat} : cl b X0 I0 J0 R0 144 = some (z20 8) := rfl
theorem ck145 {b : Nat} : cl b X0 I0 J0 R0 145 = some (z20 8) := rfl
theorem ck146 {b : Nat} : cl b X0 I0 J0 R0 146 = some (z20 8) := rfl
theorem ck147 {b : Nat} : cl b X0 I0 J0 R0 147 = some (z20 4) := rfl
theorem ck148 {b : Nat} : cl b X0 I0 J0 R0 148 = some (z20 4) := rfl
theorem ck149 {b : Nat} : cl b X0 I0 J0 R0 149 = some (2, 15, jfl9 (jdf 2) [.int 0, .int 0, .int 0, .int 0, .int 0, .int 0, .ref (b + 150), .int 0, .ref (b + 151), .ref (b + 152), .ref (b + 153), .ref (b + 154), .int 0, .ref (b + 155), .ref (b + 156)]) := by
  show some (2, 15, fun i => vf b 2 X0 I0 J0 R0 149 i) = _
  congr 3
  refine (jfE fun i => ?_).symm
  match i with
  | 0 => rfl
  | 1 => rfl
  | 2 => rfl
  | 3 => rfl
  | 4 => rfl
  | 5 => rfl
  | 6 => rfl
  | 7 => rfl
  | 8 => rfl
  | 9 => rfl
  | 10 => rfl
  | 11 => rfl
  | 12 => rfl
  | 13 => rfl
  | 14 => rfl
  | n + 15 => rfl
theorem ck150 {b : Nat} : cl b X0 I0 J0 R0 150 = some (z20 6) := rfl
theorem ck151 {b : Nat} : cl b X0 I0 J0 R0 151 = some (z20 8) := rfl
theorem ck152 {b : Nat} : cl b X0 I0 J0 R0 152 = some (z20 8) := rfl
theorem ck153 {b : Nat} : cl b X0 I0 J0 R0 153 = some (z20 8) := rfl
theorem ck154 {b : Nat} : cl b X0 I0 J0 R0 154 = some (z20 8) := rfl
theorem ck155 {b : Nat} : cl b X0 I0 J0 R0 155 = some (z20 4) := rfl
theorem ck156 {b : Nat} : cl b X0 I0 J0 R0 156 = some (z20 4) := rfl
theorem ck157 {b : Nat} : cl b X0 I0 J0 R0 157 = some (2, 15, jfl9 (jdf 2) [.int 0, .int 0, .int 0, .int 0, .int 0, .int 0, .ref (b + 158), .int 0, .ref (b + 159), .ref (b + 160), .ref (b + 161), .ref (b + 162), .int 0, .ref (b + 163), .ref (b + 164)]) := by
  show some (2, 15, fun i => vf b 2 X0 I0 J0 R0 157 i) = _
  congr 3
  refine (jfE fun i => ?_).symm
  match i with
  | 0 => rfl
  | 1 => rfl
  | 2 => rfl
  | 3 => rfl
  | 4 => rfl
  | 5 => rfl
  | 6 => rfl
  | 7 => rfl
  | 8 => rfl
  | 9 => rfl
  | 10 => rfl
  | 11 => rfl
  | 12 => rfl
  | 13 => rfl
  | 14 => rfl
  | n + 15 => rfl
theorem ck158 {b : Nat} : cl b X0 I0 J0 R0 158 = some (z20 6) := rfl
theorem ck159 {b : Nat} : cl b X0 I0 J0 R0 159 = some (z20 8) := rfl
theorem ck160 {b : Nat} : cl b X0 I0 J0 R0 160 = some (z20 8) := rfl
theorem ck161 {b : Nat} : cl b X0 I0 J0 R0 161 = some (z20 8) := rfl
theorem ck162 {b : Nat} : cl b X0 I0 J0 R0 162 = some (z20 8) := rfl
theorem ck163 {b : Nat} : cl b X0 I0 J0 R0 163 = some (z20 4) := rfl
theorem ck164 {b : Nat} : cl b X0 I0 J0 R0 164 = some (z20 4) := rfl
theorem ck165 {b : Nat} : cl b X0 I0 J0 R0 165 = some (2, 15, jfl9 (jdf 2) [.int 0, .int 0, .int 0, .int 0, .int 0, .int 0, .ref (b + 166), .int 0, .ref (b + 167), .ref (b + 168), .ref (b + 169), .ref (b + 170), .int 0, .ref (b + 171), .ref (b + 172)]) := by
  show some (2, 15, fun i => vf b 2 X0 I0 J0 R0 165 i) = _
  congr 3
  refine (jfE fun i => ?_).symm
  match i with
  | 0 => rfl
  | 1 => rfl
  | 2 => rfl
  | 3 => rfl
  | 4 => rfl
  | 5 => rfl
  | 6 => rfl
  | 7 => rfl
  | 8 => rfl
  | 9 => rfl
  | 10 => rfl
  | 11 => rfl
  | 12 => rfl
  | 13 => rfl
  | 14 => rfl
  | n + 15 => rfl
theorem ck166 {b : Nat} : cl b X0 I0 J0 R0 166 = some (z20 6) := rfl
theorem ck167 {b : Nat} : cl b X0 I0 J0 R0 167 = some (z20 8) := rfl
theorem ck168 {b : Nat} : cl b X0 I0 J0 R0 168 = some (z20 8) := rfl
theorem ck169 {b : Nat} : cl b X0 I0 J0 R0 169 = some (z20 8) := rfl
theorem ck170 {b : Nat} : cl b X0 I0 J0 R0 170 = some (z20 8) := rfl
theorem ck171 {b : Nat} : cl b X0 I0 J0 R0 171 = some (z20 4) := rfl
theorem ck172 {b : Nat} : cl b X0 I0 J0 R0 172 = some (z20 4) := rfl
theorem ck173 {b : Nat} : cl b X0 I0 J0 R0 173 = some (2, 15, jfl9 (jdf 2) [.int 0, .int 0, .int 0, .int 0, .int 0, .int 0, .ref (b + 174), .int 0, .ref (b + 175), .ref (b + 176), .ref (b + 177), .ref (b + 178), .int 0, .ref (b + 179), .ref (b + 180)]) := by
  show some (2, 15, fun i => vf b 2 X0 I0 J0 R0 173 i) = _
  congr 3
  refine (jfE fun i => ?_).symm
  match i with
  | 0 => rfl
  | 1 => rfl
  | 2 => rfl
  | 3 => rfl
  | 4 => rfl
  | 5 => rfl
  | 6 => rfl
  | 7 => rfl
  | 8 => rfl
  | 9 => rfl
  | 10 => rfl
  | 11 => rfl
  | 12 => rfl
  | 13 => rfl
  | 14 => rfl
  | n + 15 => rfl
theorem ck174 {b : Nat} : cl b X0 I0 J0 R0 174 = some (z20 6) := rfl
theorem ck175 {b : Nat} : cl b X0 I0 J0 R0 175 = some (z20 8) := rfl
theorem ck176 {b : Nat} : cl b X0 I0 J0 R0 176 = some (z20 8) := rfl
theorem ck177 {b : Nat} : cl b X0 I0 J0 R0 177 = some (z20 8) := rfl
theorem ck178 {b : Nat} : cl b X0 I0 J0 R0 178 = some (z20 8) := rfl
theorem ck179 {b : Nat} : cl b X0 I0 J0 R0 179 = some (z20 4) := rfl
theorem ck180 {b : Nat} : cl b X0 I0 J0 R0 180 = some (z20 4) := rfl
theorem ck181 {b : Nat} : cl b X0 I0 J0 R0 181 = some (2, 15, jfl9 (jdf 2) [.int 0, .int 0, .int 0, .int 0, .int 0, .int 0, .ref (b + 182), .int 0, .ref (b + 183), .ref (b + 184), .ref (b + 185), .ref (b + 186), .int 0, .ref (b + 187), .ref (b + 188)]) := by
  show some (2, 15, fun i => vf b 2 X0 I0 J0 R0 181 i) = _
  congr 3
  refine (jfE fun i => ?_).symm
  match i with
  | 0 => rfl
  | 1 => rfl
  | 2 => rfl
  | 3 => rfl
  | 4 => rfl
  | 5 => rfl
  | 6 => rfl
  | 7 => rfl
  | 8 => rfl
  | 9 => rfl
  | 10 => rfl
  | 11 => rfl
  | 12 => rfl
  | 13 => rfl
  | 14 => rfl
  | n + 15 => rfl
theorem ck182 {b : Nat} : cl b X0 I0 J0 R0 182 = some (z20 6) := rfl
theorem ck183 {b : Nat} : cl b X0 I0 J0 R0 183 = some (z20 8) := rfl
theorem ck184 {b : Nat} : cl b X0 I0 J0 R0 184 = some (z20 8) := rfl
theorem ck185 {b : Nat} : cl b X0 I0 J0 R0 185 = some (z20 8) := rfl
theorem ck186 {b : Nat} : cl b X0 I0 J0 R0 186 = some (z20 8) := rfl
theorem ck187 {b : Nat} : cl b X0 I0 J0 R0 187 = some (z20 4) := rfl
theorem ck188 {b : Nat} : cl b X0 I0 J0 R0 188 = some (z20 4) := rfl
theorem ck189 {b : Nat} : cl b X0 I0 J0 R0 189 = some (2, 15, jfl9 (jdf 2) [.int 0, .int 0, .int 0, .int 0, .int 0, .int 0, .ref (b + 190), .int 0, .ref (b + 191), .ref (b + 192), .ref (b + 193), .ref (b + 194), .int 0, .ref (b + 195), .ref (b + 196)]) := by
  show some (2, 15, fun i => vf b 2 X0 I0 J0 R0 189 i) = _
  congr 3
  refine (jfE fun i => ?_).symm
  match i with
  | 0 => rfl
  | 1 => rfl
  | 2 => rfl
  | 3 => rfl
  | 4 => rfl
  | 5 => rfl
  | 6 => rfl
  | 7 => rfl
  | 8 => rfl
  | 9 => rfl
  | 10 => rfl
  | 11 => rfl
  | 12 => rfl
  | 13 => rfl
  | 14 => rfl
  | n + 15 => rfl
theorem ck190 {b : Nat} : cl b X0 I0 J0 R0 190 = some (z20 6) := rfl
theorem ck191 {b : Nat} : cl b X0 I0 J0 R0 191 = some (z20 8) := rfl
theorem ck192 {b : Nat} : cl b X0 I0 J0 R0 192 = some (z20 8) := rfl
theorem ck193 {b : Nat} : cl b X0 I0 J0 R0 193 = some (z20 8) := rfl
theorem ck194 {b : Nat} : cl b X0 I0 J0 R0 194 = some (z20 8) := rfl
theorem ck195 {b : Nat} : cl b X0 I0 J0 R0 195 = some (z20 4) := rfl
theorem ck196 {b : Nat} : cl b X0 I0 J0 R0 196 = some (z20 4) := rfl
theorem ck197 {b : Nat} : cl b X0 I0 J0 R0 197 = some (2, 15, jfl9 (jdf 2) [.int 0, .int 0, .int 0, .int 0, .int 0, .int 0, .ref (b + 198), .int 0, .ref (b + 199), .ref (b + 200), .ref (b + 201), .ref (b + 202), .int 0, .ref (b + 203), .ref (b + 204)]) := by
  show some (2, 15, fun i => vf b 2 X0 I0 J0 R0 197 i) = _
  congr 3
  refine (jfE fun i => ?_).symm
  match i with
  | 0 => rfl
  | 1 => rfl
  | 2 => rfl
  | 3 => rfl
  | 4 => rfl
  | 5 => rfl
  | 6 => rfl
  | 7 => rfl
  | 8 => rfl
  | 9 => rfl
  | 10 => rfl
  | 11 => rfl
  | 12 => rfl
  | 13 => rfl
  | 14 => rfl
  | n + 15 => rfl
theorem ck198 {b : Nat} : cl b X0 I0 J0 R0 198 = some (z20 6) := rfl
theorem ck199 {b : Nat} : cl b X0 I0 J0 R0 199 = some (z20 8) := rfl
theorem ck200 {b : Nat} : cl b X0 I0 J0 R0 200 = some (z20 8) := rfl
theorem ck201 {b : Nat} : cl b X0 I0 J0 R0 201 = some (z20 8) := rfl
theorem ck202 {b : Nat} : cl b X0 I0 J0 R0 202 = some (z20 8) := rfl
theorem ck203 {b : Nat} : cl b X0 I0 J0 R0 203 = some (z20 4) := rfl
theorem ck204 {b : Nat} : cl b X0 I0 J0 R0 204 = some (z20 4) := rfl
theorem ck205 {b : Nat} : cl b X0 I0 J0 R0 205 = some (z20 64) := rfl
theorem ck206 {b : Nat} : cl b X0 I0 J0 R0 206 = some (z20 4096) := rfl
theorem ck207 {b : Nat} : cl b X0 I0 J0 R0 207 = some (z20 1001) := rfl
theorem ck208 {b : Nat} : cl b X0 I0 J0 R0 208 = some (z20 1000) := rfl
theorem ck209 {b : Nat} : cl b X0 I0 J0 R0 209 = some (z20 1000) := rfl
theorem ck210 {b : Nat} : cl b X0 I0 J0 R0 210 = some (z20 1000) := rfl
theorem ck211 {b : Nat} : cl b X0 I0 J0 R0 211 = some (z20 1000) := rfl
theorem ck212 {b : Nat} : cl b X0 I0 J0 R0 212 = some (z20 2048) := rfl
theorem ck213 {b : Nat} : cl b X0 I0 J0 R0 213 = some (z20 370) := rfl
theorem ck214 {b : Nat} : cl b X0 I0 J0 R0 214 = some (z20 1000) := rfl
theorem ck215 {b : Nat} : cl b X0 I0 J0 R0 215 = some (0, 13, jfl9 (jdf 0) [.ref (b + 216), .ref (b + 219), .int 0, .ref (b + 220), .ref (b + 221), .ref (b + 222), .int 0, .ref (b + 223), .ref (b + 224), .ref (b + 225), .ref (b + 226), .ref (b + 227), .int 0]) := by
  show some (0, 13, fun i => vf b 0 X0 I0 J0 R0 215 i) = _
  congr 3
  refine (jfE fun i => ?_).symm
  match i with
  | 0 => rfl
  | 1 => rfl
  | 2 => rfl
  | 3 => rfl
  | 4 => rfl
  | 5 => rfl
  | 6 => rfl
  | 7 => rfl
  | 8 => rfl
  | 9 => rfl
  | 10 => rfl
  | 11 => rfl
  | 12 => rfl
  | n + 13 => rfl
theorem ck216 {b : Nat} : cl b X0 I0 J0 R0 216 = some (3, 3, jfl9 (jdf 3) [.ref (b + 217), .ref (b + 218), .int 0]) := by
  show some (3, 3, fun i => vf b 3 X0 I0 J0 R0 216 i) = _
  congr 3
  refine (jfE fun i => ?_).symm
  match i with
  | 0 => rfl
  | 1 => rfl
  | 2 => rfl
  | n + 3 => rfl
theorem ck217 {b : Nat} : cl b X0 I0 J0 R0 217 = some (z21 48) := rfl
theorem ck218 {b : Nat} : cl b X0 I0 J0 R0 218 = some (z20 48) := rfl
theorem ck219 {b : Nat} : cl b X0 I0 J0 R0 219 = some (z20 8) := rfl
theorem ck220 {b : Nat} : cl b X0 I0 J0 R0 220 = some (z20 40) := rfl
theorem ck221 {b : Nat} : cl b X0 I0 J0 R0 221 = some (z20 40) := rfl
theorem ck222 {b : Nat} : cl b X0 I0 J0 R0 222 = some (z20 40) := rfl
theorem ck223 {b : Nat} : cl b X0 I0 J0 R0 223 = some (z21 80) := rfl
theorem ck224 {b : Nat} : cl b X0 I0 J0 R0 224 = some (z21 80) := rfl
theorem ck225 {b : Nat} : cl b X0 I0 J0 R0 225 = some (z23 80) := rfl
theorem ck226 {b : Nat} : cl b X0 I0 J0 R0 226 = some (z20 3160) := rfl
theorem ck227 {b : Nat} : cl b X0 I0 J0 R0 227 = some (z20 3160) := rfl
theorem ck228 {b : Nat} : cl b X0 I0 J0 R0 228 = some (0, 13, jfl9 (jdf 0) [.ref (b + 229), .ref (b + 232), .int 0, .ref (b + 233), .ref (b + 234), .ref (b + 235), .int 0, .ref (b + 236), .ref (b + 237), .ref (b + 238), .ref (b + 239), .ref (b + 240), .int 0]) := by
  show some (0, 13, fun i => vf b 0 X0 I0 J0 R0 228 i) = _
  congr 3
  refine (jfE fun i => ?_).symm
  match i with
  | 0 => rfl
  | 1 => rfl
  | 2 => rfl
  | 3 => rfl
  | 4 => rfl
  | 5 => rfl
  | 6 => rfl
  | 7 => rfl
  | 8 => rfl
  | 9 => rfl
  | 10 => rfl
  | 11 => rfl
  | 12 => rfl
  | n + 13 => rfl
theorem ck229 {b : Nat} : cl b X0 I0 J0 R0 229 = some (3, 3, jfl9 (jdf 3) [.ref (b + 230), .ref (b + 231), .int 0]) := by
  show some (3, 3, fun i => vf b 3 X0 I0 J0 R0 229 i) = _
  congr 3
  refine (jfE fun i => ?_).symm
  match i with
  | 0 => rfl
  | 1 => rfl
  | 2 => rfl
  | n + 3 => rfl
theorem ck230 {b : Nat} : cl b X0 I0 J0 R0 230 = some (z21 48) := rfl
theorem ck231 {b : Nat} : cl b X0 I0 J0 R0 231 = some (z20 48) := rfl
theorem ck232 {b : Nat} : cl b X0 I0 J0 R0 232 = some (z20 8) := rfl
theorem ck233 {b : Nat} : cl b X0 I0 J0 R0 233 = some (z20 40) := rfl
theorem ck234 {b : Nat} : cl b X0 I0 J0 R0 234 = some (z20 40) := rfl
theorem ck235 {b : Nat} : cl b X0 I0 J0 R0 235 = some (z20 40) := rfl
theorem ck236 {b : Nat} : cl b X0 I0 J0 R0 236 = some (z21 80) := rfl
theorem ck237 {b : Nat} : cl b X0 I0 J0 R0 237 = some (z21 80) := rfl
theorem ck238 {b : Nat} : cl b X0 I0 J0 R0 238 = some (z23 80) := rfl
theorem ck239 {b : Nat} : cl b X0 I0 J0 R0 239 = some (z20 3160) := rfl
theorem ck240 {b : Nat} : cl b X0 I0 J0 R0 240 = some (z20 3160) := rfl
theorem ck241 {b : Nat} : cl b X0 I0 J0 R0 241 = some (12, 101, jfl9 (jdf 12) [.int 0, .ref (b + 241 + 1), .int 0, .ref (b + 241 + 2), .ref (b + 241 + 3), .ref (b + 241 + 4), .ref (b + 241 + 5), .ref (b + 241 + 6), .int 0, .int 0, .ref (b + 241 + 7), .ref (b + 241 + 8), .ref (b + 241 + 9), .int 0, .int 0, .int 0, .int 0, .int 0, .int 0, .int 0, .int 0, .ref (b + 241 + 10), .ref (b + 241 + 11), .ref (b + 241 + 12), .ref (b + 241 + 13), .ref (b + 241 + 14), .ref (b + 241 + 15), .ref (b + 241 + 16), .ref (b + 241 + 17), .int 0, .int 0, .int 0, .int 0, .int 0, .int 0, .ref (b + 241 + 18), .int 0, .int 0, .int 0, .int 0, .int 0, .int 0, .ref (b + 241 + 19), .ref (b + 241 + 20), .ref (b + 241 + 21), .ref (b + 241 + 22), .ref (b + 241 + 23), .ref (b + 241 + 24), .ref (b + 241 + 25), .ref (b + 241 + 26), .ref (b + 241 + 27), .ref (b + 241 + 28), .ref (b + 241 + 29), .ref (b + 241 + 30), .ref (b + 241 + 31), .ref (b + 241 + 32), .ref (b + 241 + 33), .ref (b + 241 + 34), .ref (b + 241 + 35), .ref (b + 241 + 36), .ref (b + 241 + 37), .ref (b + 241 + 38), .ref (b + 241 + 39), .ref (b + 241 + 40), .int 0, .int 0, .int 0, .int 0, .int 0, .int 0, .int 0, .int 0, .int 0, .int 0, .int 0, .ref (b + 241 + 41), .ref (b + 241 + 42), .ref (b + 241 + 43), .ref (b + 241 + 44), .ref (b + 241 + 45), .int 0, .int 0, .int 0, .int 0, .int 0, .int 0, .int 0, .int 0, .int 0, .ref (b + 241 + 46), .ref (b + 241 + 47), .ref (b + 241 + 48), .ref (b + 241 + 49), .ref (b + 241 + 50), .ref (b + 241 + 51), .ref (b + 241 + 52), .ref (b + 241 + 53), .ref (b + 241 + 54), .ref (b + 241 + 55), .ref (b + 241 + 56), .ref (b + 241 + 57)]) := by
  show some (12, 101, fun i => vf b 12 X0 I0 J0 R0 241 i) = _
  congr 3
  refine (jfE fun i => ?_).symm
  match i with
  | 0 => rfl
  | 1 => rfl
  | 2 => rfl
  | 3 => rfl
  | 4 => rfl
  | 5 => rfl
  | 6 => rfl
  | 7 => rfl
  | 8 => rfl
  | 9 => rfl
  | 10 => rfl
  | 11 => rfl
  | 12 => rfl
  | 13 => rfl
  | 14 => rfl
  | 15 => rfl
  | 16 => rfl
  | 17 => rfl
  | 18 => rfl
  | 19 => rfl
  | 20 => rfl
  | 21 => rfl
  | 22 => rfl
  | 23 => rfl
  | 24 => rfl
  | 25 => rfl
  | 26 => rfl
  | 27 => rfl
  | 28 => rfl
  | 29 => rfl
  | 30 => rfl
  | 31 => rfl
  | 32 => rfl
  | 33 => rfl
  | 34 => rfl
  | 35 => rfl
  | 36 => rfl
  | 37 => rfl
  | 38 => rfl
  | 39 => rfl
  | 40 => rfl
  | 41 => rfl
  | 42 => rfl
  | 43 => rfl
  | 44 => rfl
  | 45 => rfl
  | 46 => rfl
  | 47 => rfl
  | 48 => rfl
  | 49 => rfl
  | 50 => rfl
  | 51 => rfl
  | 52 => rfl
  | 53 => rfl
  | 54 => rfl
  | 55 => rfl
  | 56 => rfl
  | 57 => rfl
  | 58 => rfl
  | 59 => rfl
  | 60 => rfl
  | 61 => rfl
  | 62 => rfl
  | 63 => rfl
  | 64 => rfl
  | 65 => rfl
  | 66 => rfl
  | 67 => rfl
  | 68 => rfl
  | 69 => rfl
  | 70 => rfl
  | 71 => rfl
  | 72 => rfl
  | 73 => rfl
  | 74 => rfl
  | 75 => rfl
  | 76 => rfl
  | 77 => rfl
  | 78 => rfl
  | 79 => rfl
  | 80 => rfl
  | 81 => rfl
  | 82 => rfl
  | 83 => rfl
  | 84 => rfl
  | 85 => rfl
  | 86 => rfl
  | 87 => rfl
  | 88 => rfl
  | 89 => rfl
  | 90 => rfl
  | 91 => rfl
  | 92 => rfl
  | 93 => rfl
  | 94 => rfl
  | 95 => rfl
  | 96 => rfl
  | 97 => rfl
  | 98 => rfl
  | 99 => rfl
  | 100 => rfl
  | n + 101 => rfl
theorem ck242 {b : Nat} : cl b X0 I0 J0 R0 242 = some (11, 6, jfl9 (jdf 11) [.null, .null, .null, .null, .null, .int 0]) := by
  show some (11, 6, fun i => vf b 11 X0 I0 J0 R0 242 i) = _
  congr 3
  refine (jfE fun i => ?_).symm
  match i with
  | 0 => rfl
  | 1 => rfl
  | 2 => rfl
  | 3 => rfl
  | 4 => rfl
  | 5 => rfl
  | n + 6 => rfl
theorem ck243 {b : Nat} : cl b X0 I0 J0 R0 243 = some (z22 1024) := rfl
theorem ck244 {b : Nat} : cl b X0 I0 J0 R0 244 = some (z20 64) := rfl
theorem ck245 {b : Nat} : cl b X0 I0 J0 R0 245 = some (z20 64) := rfl
theorem ck246 {b : Nat} : cl b X0 I0 J0 R0 246 = some (z20 64) := rfl
theorem ck247 {b : Nat} : cl b X0 I0 J0 R0 247 = some (20, 256, fun i => .int (mdH 256 i)) := rfl
theorem ck248 {b : Nat} : cl b X0 I0 J0 R0 248 = some (z22 2000) := rfl
theorem ck249 {b : Nat} : cl b X0 I0 J0 R0 249 = some (z22 2000) := rfl
theorem ck250 {b : Nat} : cl b X0 I0 J0 R0 250 = some (z22 16) := rfl
theorem ck251 {b : Nat} : cl b X0 I0 J0 R0 251 = some (z20 1024) := rfl
theorem ck252 {b : Nat} : cl b X0 I0 J0 R0 252 = some (z20 1024) := rfl
theorem ck253 {b : Nat} : cl b X0 I0 J0 R0 253 = some (z20 1024) := rfl
theorem ck254 {b : Nat} : cl b X0 I0 J0 R0 254 = some (z20 1024) := rfl
theorem ck255 {b : Nat} : cl b X0 I0 J0 R0 255 = some (z20 1024) := rfl
theorem ck256 {b : Nat} : cl b X0 I0 J0 R0 256 = some (z20 1024) := rfl
theorem ck257 {b : Nat} : cl b X0 I0 J0 R0 257 = some (z20 1024) := rfl
theorem ck258 {b : Nat} : cl b X0 I0 J0 R0 258 = some (z20 1024) := rfl
theorem ck259 {b : Nat} : cl b X0 I0 J0 R0 259 = some (z20 6) := rfl
theorem ck260 {b : Nat} : cl b X0 I0 J0 R0 260 = some (z20 8) := rfl
theorem ck261 {b : Nat} : cl b X0 I0 J0 R0 261 = some (z20 8) := rfl
theorem ck262 {b : Nat} : cl b X0 I0 J0 R0 262 = some (z20 8) := rfl
theorem ck263 {b : Nat} : cl b X0 I0 J0 R0 263 = some (z20 8) := rfl
theorem ck264 {b : Nat} : cl b X0 I0 J0 R0 264 = some (z20 8) := rfl
theorem ck265 {b : Nat} : cl b X0 I0 J0 R0 265 = some (z20 8) := rfl
theorem ck266 {b : Nat} : cl b X0 I0 J0 R0 266 = some (z20 48) := rfl
theorem ck267 {b : Nat} : cl b X0 I0 J0 R0 267 = some (z20 8) := rfl
theorem ck268 {b : Nat} : cl b X0 I0 J0 R0 268 = some (z20 64) := rfl
theorem ck269 {b : Nat} : cl b X0 I0 J0 R0 269 = some (z20 64) := rfl
theorem ck270 {b : Nat} : cl b X0 I0 J0 R0 270 = some (z20 64) := rfl
theorem ck271 {b : Nat} : cl b X0 I0 J0 R0 271 = some (z20 64) := rfl
theorem ck272 {b : Nat} : cl b X0 I0 J0 R0 272 = some (z20 8) := rfl
theorem ck273 {b : Nat} : cl b X0 I0 J0 R0 273 = some (z20 32) := rfl
theorem ck274 {b : Nat} : cl b X0 I0 J0 R0 274 = some (z20 32) := rfl
theorem ck275 {b : Nat} : cl b X0 I0 J0 R0 275 = some (z20 400) := rfl
theorem ck276 {b : Nat} : cl b X0 I0 J0 R0 276 = some (z20 400) := rfl
theorem ck277 {b : Nat} : cl b X0 I0 J0 R0 277 = some (z20 400) := rfl
theorem ck278 {b : Nat} : cl b X0 I0 J0 R0 278 = some (z20 400) := rfl
theorem ck279 {b : Nat} : cl b X0 I0 J0 R0 279 = some (z20 400) := rfl
theorem ck280 {b : Nat} : cl b X0 I0 J0 R0 280 = some (z20 400) := rfl
theorem ck281 {b : Nat} : cl b X0 I0 J0 R0 281 = some (z23 400) := rfl
theorem ck282 {b : Nat} : cl b X0 I0 J0 R0 282 = some (z20 435870) := rfl
theorem ck283 {b : Nat} : cl b X0 I0 J0 R0 283 = some (z20 1002) := rfl
theorem ck284 {b : Nat} : cl b X0 I0 J0 R0 284 = some (z20 1002) := rfl
theorem ck285 {b : Nat} : cl b X0 I0 J0 R0 285 = some (z20 1002) := rfl
theorem ck286 {b : Nat} : cl b X0 I0 J0 R0 286 = some (z20 1002) := rfl
theorem ck287 {b : Nat} : cl b X0 I0 J0 R0 287 = some (z20 40) := rfl
theorem ck288 {b : Nat} : cl b X0 I0 J0 R0 288 = some (z20 40) := rfl
theorem ck289 {b : Nat} : cl b X0 I0 J0 R0 289 = some (z20 40) := rfl
theorem ck290 {b : Nat} : cl b X0 I0 J0 R0 290 = some (z20 40) := rfl
theorem ck291 {b : Nat} : cl b X0 I0 J0 R0 291 = some (z20 40) := rfl
theorem ck292 {b : Nat} : cl b X0 I0 J0 R0 292 = some (z20 40) := rfl
theorem ck293 {b : Nat} : cl b X0 I0 J0 R0 293 = some (z20 8) := rfl
theorem ck294 {b : Nat} : cl b X0 I0 J0 R0 294 = some (z20 8) := rfl
theorem ck295 {b : Nat} : cl b X0 I0 J0 R0 295 = some (z23 6400) := rfl
theorem ck296 {b : Nat} : cl b X0 I0 J0 R0 296 = some (z23 80) := rfl
theorem ck297 {b : Nat} : cl b X0 I0 J0 R0 297 = some (z20 6400) := rfl
theorem ck298 {b : Nat} : cl b X0 I0 J0 R0 298 = some (z20 6400) := rfl
theorem ck299 {b : Nat} : cl b X0 I0 J0 R0 299 = some (z21 1) := rfl
set_option maxRecDepth 100000 in
theorem ck_all {b : Nat} : ∀ k, k ∈ List.range 300 → (pL b)[k]? = cl b X0 I0 J0 R0 k := by
  rw [show List.range 300 = [0, 1, 2, 3, 4, 5, 6, 7, 8, 9, 10, 11, 12, 13, 14, 15, 16, 17, 18, 19, 20, 21, 22, 23, 24, 25, 26, 27, 28, 29, 30, 31, 32, 33, 34, 35, 36, 37, 38, 39, 40, 41, 42, 43, 44, 45, 46, 47, 48, 49, 50, 51, 52, 53, 54, 55, 56, 57, 58, 59, 60, 61, 62, 63, 64, 65, 66, 67, 68, 69, 70, 71, 72, 73, 74, 75, 76, 77, 78, 79, 80, 81, 82, 83, 84, 85, 86, 87, 88, 89, 90, 91, 92, 93, 94, 95, 96, 97, 98, 99, 100, 101, 102, 103, 104, 105, 106, 107, 108, 109, 110, 111, 112, 113, 114, 115, 116, 117, 118, 119, 120, 121, 122, 123, 124, 125, 126, 127, 128, 129, 130, 131, 132, 133, 134, 135, 136, 137, 138, 139, 140, 141, 142, 143, 144, 145, 146, 147, 148, 149, 150, 151, 152, 153, 154, 155, 156, 157, 158, 159, 160, 161, 162, 163, 164, 165, 166, 167, 168, 169, 170, 171, 172, 173, 174, 175, 176, 177, 178, 179, 180, 181, 182, 183, 184, 185, 186, 187, 188, 189, 190, 191, 192, 193, 194, 195, 196, 197, 198, 199, 200, 201, 202, 203, 204, 205, 206, 207, 208, 209, 210, 211, 212, 213, 214, 215, 216, 217, 218, 219, 220, 221, 222, 223, 224, 225, 226, 227, 228, 229, 230, 231, 232, 233, 234, 235, 236, 237, 238, 239, 240, 241, 242, 243, 244, 245, 246, 247, 248, 249, 250, 251, 252, 253, 254, 255, 256, 257, 258, 259, 260, 261, 262, 263, 264, 265, 266, 267, 268, 269, 270, 271, 272, 273, 274, 275, 276, 277, 278, 279, 280, 281, 282, 283, 284, 285, 286, 287, 288, 289, 290, 291, 292, 293, 294, 295, 296, 297, 298, 299] from rfl]
  exact List.forall_mem_cons.mpr ⟨ck0.symm, List.forall_mem_cons.mpr ⟨ck1.symm, List.forall_mem_cons.mpr ⟨ck2.symm, List.forall_mem_cons.mpr ⟨ck3.symm, List.forall_mem_cons.mpr ⟨ck4.symm, List.forall_mem_cons.mpr ⟨ck5.symm, List.forall_mem_cons.mpr ⟨ck6.symm, List.forall_mem_cons.mpr ⟨ck7.symm, List.forall_mem_cons.mpr ⟨ck8.symm, List.forall_mem_cons.mpr ⟨ck9.symm, List.forall_mem_cons.mpr ⟨ck10.symm, List.forall_mem_cons.mpr ⟨ck11.symm, List.forall_mem_cons.mpr ⟨ck12.symm, List.forall_mem_cons.mpr ⟨ck13.symm, List.forall_mem_cons.mpr ⟨ck14.symm, List.forall_mem_cons.mpr ⟨ck15.symm, List.forall_mem_cons.mpr ⟨ck16.symm, List.forall_mem_cons.mpr ⟨ck17.symm, List.forall_mem_cons.mpr ⟨ck18.symm, List.forall_mem_cons.mpr ⟨ck19.symm, List.forall_mem_cons.mpr ⟨ck20.symm, List.forall_mem_cons.mpr ⟨ck21.symm, List.forall_mem_cons.mpr ⟨ck22.symm, List.forall_mem_cons.mpr ⟨ck23.symm, List.forall_mem_cons.mpr ⟨ck24.symm, List.forall_mem_cons.mpr ⟨ck25.symm, List.forall_mem_cons.mpr ⟨ck26.symm, List.forall_mem_cons.mpr ⟨ck27.symm, List.forall_mem_cons.mpr ⟨ck28.symm, List.forall_mem_cons.mpr ⟨ck29.symm, List.forall_mem_cons.mpr ⟨ck30.symm, List.forall_mem_cons.mpr ⟨ck31.symm, List.forall_mem_cons.mpr ⟨ck32.symm, List.forall_mem_cons.mpr ⟨ck33.symm, List.forall_mem_cons.mpr ⟨ck34.symm, List.forall_mem_cons.mpr ⟨ck35.symm, List.forall_mem_cons.mpr ⟨ck36.symm, List.forall_mem_cons.mpr ⟨ck37.symm, List.forall_mem_cons.mpr ⟨ck38.symm, List.forall_mem_cons.mpr ⟨ck39.symm, List.forall_mem_cons.mpr ⟨ck40.symm, List.forall_mem_cons.mpr ⟨ck41.symm, List.forall_mem_cons.mpr ⟨ck42.symm, List.forall_mem_cons.mpr ⟨ck43.symm, List.forall_mem_cons.mpr ⟨ck44.symm, List.forall_mem_cons.mpr ⟨ck45.symm, List.forall_mem_cons.mpr ⟨ck46.symm, List.forall_mem_cons.mpr ⟨ck47.symm, List.forall_mem_cons.mpr ⟨ck48.symm, List.forall_mem_cons.mpr ⟨ck49.symm, List.forall_mem_cons.mpr ⟨ck50.symm, List.forall_mem_cons.mpr ⟨ck51.symm, List.forall_mem_cons.mpr ⟨ck52.symm, List.forall_mem_cons.mpr ⟨ck53.symm, List.forall_mem_cons.mpr ⟨ck54.symm, List.forall_mem_cons.mpr ⟨ck55.symm, List.forall_mem_cons.mpr ⟨ck56.symm, List.forall_mem_cons.mpr ⟨ck57.symm, List.forall_mem_cons.mpr ⟨ck58.symm, List.forall_mem_cons.mpr ⟨ck59.symm, List.forall_mem_cons.mpr ⟨ck60.symm, List.forall_mem_cons.mpr ⟨ck61.symm, List.forall_mem_cons.mpr ⟨ck62.symm, List.forall_mem_cons.mpr ⟨ck63.symm, List.forall_mem_cons.mpr ⟨ck64.symm, List.forall_mem_cons.mpr ⟨ck65.symm, List.forall_mem_cons.mpr ⟨ck66.symm, List.forall_mem_cons.mpr ⟨ck67.symm, List.forall_mem_cons.mpr ⟨ck68.symm, List.forall_mem_cons.mpr ⟨ck69.symm, List.forall_mem_cons.mpr ⟨ck70.symm, List.forall_mem_cons.mpr ⟨ck71.symm, List.forall_mem_cons.mpr ⟨ck72.symm, List.forall_mem_cons.mpr ⟨ck73.symm, List.forall_mem_cons.mpr ⟨ck74.symm, List.forall_mem_cons.mpr ⟨ck75.symm, List.forall_mem_cons.mpr ⟨ck76.symm, List.forall_mem_cons.mpr ⟨ck77.symm, List.forall_mem_cons.mpr ⟨ck78.symm, List.forall_mem_cons.mpr ⟨ck79.symm, List.forall_mem_cons.mpr ⟨ck80.symm, List.forall_mem_cons.mpr ⟨ck81.symm, List.forall_mem_cons.mpr ⟨ck82.symm, List.forall_mem_cons.mpr ⟨ck83.symm, List.forall_mem_cons.mpr ⟨ck84.symm, List.forall_mem_cons.mpr ⟨ck85.symm, List.forall_mem_cons.mpr ⟨ck86.symm, List.forall_mem_cons.mpr ⟨ck87.symm, List.forall_mem_cons.mpr ⟨ck88.symm, List.forall_mem_cons.mpr ⟨ck89.symm, List.forall_mem_cons.mpr ⟨ck90.symm, List.forall_mem_cons.mpr ⟨ck91.symm, List.forall_mem_cons.mpr ⟨ck92.symm, List.forall_mem_cons.mpr ⟨ck93.symm, List.forall_mem_cons.mpr ⟨ck94.symm, List.forall_mem_cons.mpr ⟨ck95.symm, List.forall_mem_cons.mpr ⟨ck96.symm, List.forall_mem_cons.mpr ⟨ck97.symm, List.forall_mem_cons.mpr ⟨ck98.symm, List.forall_mem_cons.mpr ⟨ck99.symm, List.forall_mem_cons.mpr ⟨ck100.symm, List.forall_mem_cons.mpr ⟨ck101.symm, List.forall_mem_cons.mpr ⟨ck102.symm, List.forall_mem_cons.mpr ⟨ck103.symm, List.forall_mem_cons.mpr ⟨ck104.symm, List.forall_mem_cons.mpr ⟨ck105.symm, List.forall_mem_cons.mpr ⟨ck106.symm, List.forall_mem_cons.mpr ⟨ck107.symm, List.forall_mem_cons.mpr ⟨ck108.symm, List.forall_mem_cons.mpr ⟨ck109.symm, List.forall_mem_cons.mpr ⟨ck110.symm, List.forall_mem_cons.mpr ⟨ck111.symm, List.forall_mem_cons.mpr ⟨ck112.symm, List.forall_mem_cons.mpr ⟨ck113.symm, List.forall_mem_cons.mpr ⟨ck114.symm, List.forall_mem_cons.mpr ⟨ck115.symm, List.forall_mem_cons.mpr ⟨ck116.symm, List.forall_mem_cons.mpr ⟨ck117.symm, List.forall_mem_cons.mpr ⟨ck118.symm, List.forall_mem_cons.mpr ⟨ck119.symm, List.forall_mem_cons.mpr ⟨ck120.symm, List.forall_mem_cons.mpr ⟨ck121.symm, List.forall_mem_cons.mpr ⟨ck122.symm, List.forall_mem_cons.mpr ⟨ck123.symm, List.forall_mem_cons.mpr ⟨ck124.symm, List.forall_mem_cons.mpr ⟨ck125.symm, List.forall_mem_cons.mpr ⟨ck126.symm, List.forall_mem_cons.mpr ⟨ck127.symm, List.forall_mem_cons.mpr ⟨ck128.symm, List.forall_mem_cons.mpr ⟨ck129.symm, List.forall_mem_cons.mpr ⟨ck130.symm, List.forall_mem_cons.mpr ⟨ck131.symm, List.forall_mem_cons.mpr ⟨ck132.symm, List.forall_mem_cons.mpr ⟨ck133.symm, List.forall_mem_cons.mpr ⟨ck134.symm, List.forall_mem_cons.mpr ⟨ck135.symm, List.forall_mem_cons.mpr ⟨ck136.symm, List.forall_mem_cons.mpr ⟨ck137.symm, List.forall_mem_cons.mpr ⟨ck138.symm, List.forall_mem_cons.mpr ⟨ck139.symm, List.forall_mem_cons.mpr ⟨ck140.symm, List.forall_mem_cons.mpr ⟨ck141.symm, List.forall_mem_cons.mpr ⟨ck142.symm, List.forall_mem_cons.mpr ⟨ck143.symm, List.forall_mem_cons.mpr ⟨ck144.symm, List.forall_mem_cons.mpr ⟨ck145.symm, List.forall_mem_cons.mpr ⟨ck146.symm, List.forall_mem_cons.mpr ⟨ck147.symm, List.forall_mem_cons.mpr ⟨ck148.symm, List.forall_mem_cons.mpr ⟨ck149.symm, List.forall_mem_cons.mpr ⟨ck150.symm, List.forall_mem_cons.mpr ⟨ck151.symm, List.forall_mem_cons.mpr ⟨ck152.symm, List.forall_mem_cons.mpr ⟨ck153.symm, List.forall_mem_cons.mpr ⟨ck154.symm, List.forall_mem_cons.mpr ⟨ck155.symm, List.forall_mem_cons.mpr ⟨ck156.symm, List.forall_mem_cons.mpr ⟨ck157.symm, List.forall_mem_cons.mpr ⟨ck158.symm, List.forall_mem_cons.mpr ⟨ck159.symm, List.forall_mem_cons.mpr ⟨ck160.symm, List.forall_mem_cons.mpr ⟨ck161.symm, List.forall_mem_cons.mpr ⟨ck162.symm, List.forall_mem_cons.mpr ⟨ck163.symm, List.forall_mem_cons.mpr ⟨ck164.symm, List.forall_mem_cons.mpr ⟨ck165.symm, List.forall_mem_cons.mpr ⟨ck166.symm, List.forall_mem_cons.mpr ⟨ck167.symm, List.forall_mem_cons.mpr ⟨ck168.symm, List.forall_mem_cons.mpr ⟨ck169.symm, List.forall_mem_cons.mpr ⟨ck170.symm, List.forall_mem_cons.mpr ⟨ck171.symm, List.forall_mem_cons.mpr ⟨ck172.symm, List.forall_mem_cons.mpr ⟨ck173.symm, List.forall_mem_cons.mpr ⟨ck174.symm, List.forall_mem_cons.mpr ⟨ck175.symm, List.forall_mem_cons.mpr ⟨ck176.symm, List.forall_mem_cons.mpr ⟨ck177.symm, List.forall_mem_cons.mpr ⟨ck178.symm, List.forall_mem_cons.mpr ⟨ck179.symm, List.forall_mem_cons.mpr ⟨ck180.symm, List.forall_mem_cons.mpr ⟨ck181.symm, List.forall_mem_cons.mpr ⟨ck182.symm, List.forall_mem_cons.mpr ⟨ck183.symm, List.forall_mem_cons.mpr ⟨ck184.symm, List.forall_mem_cons.mpr ⟨ck185.symm, List.forall_mem_cons.mpr ⟨ck186.symm, List.forall_mem_cons.mpr ⟨ck187.symm, List.forall_mem_cons.mpr ⟨ck188.symm, List.forall_mem_cons.mpr ⟨ck189.symm, List.forall_mem_cons.mpr ⟨ck190.symm, List.forall_mem_cons.mpr ⟨ck191.symm, List.forall_mem_cons.mpr ⟨ck192.symm, List.forall_mem_cons.mpr ⟨ck193.symm, List.forall_mem_cons.mpr ⟨ck194.symm, List.forall_mem_cons.mpr ⟨ck195.symm, List.forall_mem_cons.mpr ⟨ck196.symm, List.forall_mem_cons.mpr ⟨ck197.symm, List.forall_mem_cons.mpr ⟨ck198.symm, List.forall_mem_cons.mpr ⟨ck199.symm, List.forall_mem_cons.mpr ⟨ck200.symm, List.forall_mem_cons.mpr ⟨ck201.symm, List.forall_mem_cons.mpr ⟨ck202.symm, List.forall_mem_cons.mpr ⟨ck203.symm, List.forall_mem_cons.mpr ⟨ck204.symm, List.forall_mem_cons.mpr ⟨ck205.symm, List.forall_mem_cons.mpr ⟨ck206.symm, List.forall_mem_cons.mpr ⟨ck207.symm, List.forall_mem_cons.mpr ⟨ck208.symm, List.forall_mem_cons.mpr ⟨ck209.symm, List.forall_mem_cons.mpr ⟨ck210.symm, List.forall_mem_cons.mpr ⟨ck211.symm, List.forall_mem_cons.mpr ⟨ck212.symm, List.forall_mem_cons.mpr ⟨ck213.symm, List.forall_mem_cons.mpr ⟨ck214.symm, List.forall_mem_cons.mpr ⟨ck215.symm, List.forall_mem_cons.mpr ⟨ck216.symm, List.forall_mem_cons.mpr ⟨ck217.symm, List.forall_mem_cons.mpr ⟨ck218.symm, List.forall_mem_cons.mpr ⟨ck219.symm, List.forall_mem_cons.mpr ⟨ck220.symm, List.forall_mem_cons.mpr ⟨ck221.symm, List.forall_mem_cons.mpr ⟨ck222.symm, List.forall_mem_cons.mpr ⟨ck223.symm, List.forall_mem_cons.mpr ⟨ck224.symm, List.forall_mem_cons.mpr ⟨ck225.symm, List.forall_mem_cons.mpr ⟨ck226.symm, List.forall_mem_cons.mpr ⟨ck227.symm, List.forall_mem_cons.mpr ⟨ck228.symm, List.forall_mem_cons.mpr ⟨ck229.symm, List.forall_mem_cons.mpr ⟨ck230.symm, List.forall_mem_cons.mpr ⟨ck231.symm, List.forall_mem_cons.mpr ⟨ck232.symm, List.forall_mem_cons.mpr ⟨ck233.symm, List.forall_mem_cons.mpr ⟨ck234.symm, List.forall_mem_cons.mpr ⟨ck235.symm, List.forall_mem_cons.mpr ⟨ck236.symm, List.forall_mem_cons.mpr ⟨ck237.symm, List.forall_mem_cons.mpr ⟨ck238.symm, List.forall_mem_cons.mpr ⟨ck239.symm, List.forall_mem_cons.mpr ⟨ck240.symm, List.forall_mem_cons.mpr ⟨ck241.symm, List.forall_mem_cons.mpr ⟨ck242.symm, List.forall_mem_cons.mpr ⟨ck243.symm, List.forall_mem_cons.mpr ⟨ck244.symm, List.forall_mem_cons.mpr ⟨ck245.symm, List.forall_mem_cons.mpr ⟨ck246.symm, List.forall_mem_cons.mpr ⟨ck247.symm, List.forall_mem_cons.mpr ⟨ck248.symm, List.forall_mem_cons.mpr ⟨ck249.symm, List.forall_mem_cons.mpr ⟨ck250.symm, List.forall_mem_cons.mpr ⟨ck251.symm, List.forall_mem_cons.mpr ⟨ck252.symm, List.forall_mem_cons.mpr ⟨ck253.symm, List.forall_mem_cons.mpr ⟨ck254.symm, List.forall_mem_cons.mpr ⟨ck255.symm, List.forall_mem_cons.mpr ⟨ck256.symm, List.forall_mem_cons.mpr ⟨ck257.symm, List.forall_mem_cons.mpr ⟨ck258.symm, List.forall_mem_cons.mpr ⟨ck259.symm, List.forall_mem_cons.mpr ⟨ck260.symm, List.forall_mem_cons.mpr ⟨ck261.symm, List.forall_mem_cons.mpr ⟨ck262.symm, List.forall_mem_cons.mpr ⟨ck263.symm, List.forall_mem_cons.mpr ⟨ck264.symm, List.forall_mem_cons.mpr ⟨ck265.symm, List.forall_mem_cons.mpr ⟨ck266.symm, List.forall_mem_cons.mpr ⟨ck267.symm, List.forall_mem_cons.mpr ⟨ck268.symm, List.forall_mem_cons.mpr ⟨ck269.symm, List.forall_mem_cons.mpr ⟨ck270.symm, List.forall_mem_cons.mpr ⟨ck271.symm, List.forall_mem_cons.mpr ⟨ck272.symm, List.forall_mem_cons.mpr ⟨ck273.symm, List.forall_mem_cons.mpr ⟨ck274.symm, List.forall_mem_cons.mpr ⟨ck275.symm, List.forall_mem_cons.mpr ⟨ck276.symm, List.forall_mem_cons.mpr ⟨ck277.symm, List.forall_mem_cons.mpr ⟨ck278.symm, List.forall_mem_cons.mpr ⟨ck279.symm, List.forall_mem_cons.mpr ⟨ck280.symm, List.forall_mem_cons.mpr ⟨ck281.symm, List.forall_mem_cons.mpr ⟨ck282.symm, List.forall_mem_cons.mpr ⟨ck283.symm, List.forall_mem_cons.mpr ⟨ck284.symm, List.forall_mem_cons.mpr ⟨ck285.symm, List.forall_mem_cons.mpr ⟨ck286.symm, List.forall_mem_cons.mpr ⟨ck287.symm, List.forall_mem_cons.mpr ⟨ck288.symm, List.forall_mem_cons.mpr ⟨ck289.symm, List.forall_mem_cons.mpr ⟨ck290.symm, List.forall_mem_cons.mpr ⟨ck291.symm, List.forall_mem_cons.mpr ⟨ck292.symm, List.forall_mem_cons.mpr ⟨ck293.symm, List.forall_mem_cons.mpr ⟨ck294.symm, List.forall_mem_cons.mpr ⟨ck295.symm, List.forall_mem_cons.mpr ⟨ck296.symm, List.forall_mem_cons.mpr ⟨ck297.symm, List.forall_mem_cons.mpr ⟨ck298.symm, List.forall_mem_cons.mpr ⟨ck299.symm, fun _ h => by cases h⟩⟩⟩⟩⟩⟩⟩⟩⟩⟩⟩⟩⟩⟩⟩⟩⟩⟩⟩⟩⟩⟩⟩⟩⟩⟩⟩⟩⟩⟩⟩⟩⟩⟩⟩⟩⟩⟩⟩⟩⟩⟩⟩⟩⟩⟩⟩⟩⟩⟩⟩⟩⟩⟩⟩⟩⟩⟩⟩⟩⟩⟩⟩⟩⟩⟩⟩⟩⟩⟩⟩⟩⟩⟩⟩⟩⟩⟩⟩⟩⟩⟩⟩⟩⟩⟩⟩⟩⟩⟩⟩⟩⟩⟩⟩⟩⟩⟩⟩⟩⟩⟩⟩⟩⟩⟩⟩⟩⟩⟩⟩⟩⟩⟩⟩⟩⟩⟩⟩⟩⟩⟩⟩⟩⟩⟩⟩⟩⟩⟩⟩⟩⟩⟩⟩⟩⟩⟩⟩⟩⟩⟩⟩⟩⟩⟩⟩⟩⟩⟩⟩⟩⟩⟩⟩⟩⟩⟩⟩⟩⟩⟩⟩⟩⟩⟩⟩⟩⟩⟩⟩⟩⟩⟩⟩⟩⟩⟩⟩⟩⟩⟩⟩⟩⟩⟩⟩⟩⟩⟩⟩⟩⟩⟩⟩⟩⟩⟩⟩⟩⟩⟩⟩⟩⟩⟩⟩⟩⟩⟩⟩⟩⟩⟩⟩⟩⟩⟩⟩⟩⟩⟩⟩⟩⟩⟩⟩⟩⟩⟩⟩⟩⟩⟩⟩⟩⟩⟩⟩⟩⟩⟩⟩⟩⟩⟩⟩⟩⟩⟩⟩⟩⟩⟩⟩⟩⟩⟩⟩⟩⟩⟩⟩⟩⟩⟩⟩⟩⟩⟩⟩⟩⟩⟩⟩⟩⟩⟩⟩⟩⟩⟩⟩⟩⟩⟩⟩⟩⟩⟩⟩⟩⟩⟩⟩⟩⟩⟩⟩⟩
theorem pL_len {b : Nat} : (pL b).length = 300 := by
  unfold pL
  rw [List.length_append, List.length_append, kH_len, kM_len]
  rfl
/-- the start, in sight -/
theorem init_H {h : Nat → Option jC} {b n : Nat} : jB h b (pL b) n = jH h b X0 I0 J0 R0 n := by
  unfold jB jH
  rw [pL_len]
  congr 1
  funext q
  by_cases hq : q < b
  · rw [if_pos hq, if_pos hq]
  · rw [if_neg hq, if_neg hq]
    by_cases hk : q - b < 300
    · exact ck_all _ (List.mem_range.mpr hk)
    · rw [List.getElem?_eq_none (by rw [pL_len]; omega)]
      unfold cl
      rw [if_neg (by unfold fx; simp; intro z; omega)]
      have h4 : gL.find? (fun v => ad X0 v == q - b) = none := by
        apply List.find?_eq_none.mpr
        intro w hw
        have h6 := gw_300 (gL_gw hw)
        show ¬ ((w == q - b) = true)
        simp
        omega
      rw [h4]
      rfl
