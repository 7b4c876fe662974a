/-! the start: what both constructors leave is a heap in sight -/
def cp0 (v : Nat) : Nat := if v = 206 then 4096 else if v = 243 then 1024 else if v ≤ 246 then 64 else 1024
theorem gw_300 {v : Nat} (h : gw v = true) : v < 300 := by
  unfold gw gL at h
  simp at h
  omega
def X0 : jXX := ⟨(fun v => v, cp0, fun _ => none, 300), ⟨fun _ hv => ⟨Or.inl rfl, gw_300 hv⟩, fun _ _ _ _ e => e, Nat.le_refl _, fun _ _ => rfl⟩⟩
def I0 (c i : Nat) : Int32 := if c = 247 then mdH 256 i else if (c = 57 ∨ c = 132) ∧ i = 8 then -1 else 0
def J0 (c i : Nat) : Int64 := if c = 4 then tkW i else 0
def R0 (c i : Nat) : Nat := if c = 0 then (if i = 8 then 10 else if i = 9 then 33 else if i = 11 then 215 else 228) else if c = 56 then (if i = 1 then 33 else 37) else if c = 65 then 66 + 8 * i else if c = 140 then 141 + 8 * i else 10
theorem jfE {g F : Nat → Value} {vs : List Value} (h : ∀ i, vs.getD i (g i) = F i) : jfl9 g vs = F := funext h
theorem kc0 {b : Nat} : cl b X0 I0 J0 R0 0 = some (10, 14, jfl9 (jdf 10) [.ref (b + 1), .int 0, .ref (b + 2), .int 0, .ref (b + 3), .ref (b + 56), .ref (b + 57), .ref (b + 131), .ref (b + 10), .ref (b + 33), .int 0, .ref (b + 215), .ref (b + 228), .int 0]) := by
  show some (10, 14, fun i => vf b 10 X0 I0 J0 R0 0 i) = _
  congr 3
  refine (jfE fun i => ?_).symm
  match i with
  | 0 => rfl
  | 1 => rfl
  | 2 => rfl
  | 3 => rfl
  | 4 => rfl
  | 5 => rfl
  | 6 => rfl
  | 7 => rfl
  | 8 => rfl
  | 9 => rfl
  | 10 => rfl
  | 11 => rfl
  | 12 => rfl
  | 13 => rfl
  | n + 14 => rfl
theorem kc1 {b : Nat} : cl b X0 I0 J0 R0 1 = some (z22 2000) := rfl
theorem kc2 {b : Nat} : cl b X0 I0 J0 R0 2 = some (z22 12) := rfl
theorem kc3 {b : Nat} : cl b X0 I0 J0 R0 3 = some (6, 7, jfl9 (jdf 6) [.ref (b + 4), .ref (b + 5), .ref (b + 7), .ref (b + 6), .ref (b + 8), .ref (b + 9), .int 0]) := by
  show some (6, 7, fun i => vf b 6 X0 I0 J0 R0 3 i) = _
  congr 3
  refine (jfE fun i => ?_).symm
  match i with
  | 0 => rfl
  | 1 => rfl
  | 2 => rfl
  | 3 => rfl
  | 4 => rfl
  | 5 => rfl
  | 6 => rfl
  | n + 7 => rfl
theorem kc4 {b : Nat} : cl b X0 I0 J0 R0 4 = some (21, 26, fun i => .long (tkW i)) := rfl
theorem kc5 {b : Nat} : cl b X0 I0 J0 R0 5 = some (z20 2001) := rfl
theorem kc6 {b : Nat} : cl b X0 I0 J0 R0 6 = some (z20 2001) := rfl
theorem kc7 {b : Nat} : cl b X0 I0 J0 R0 7 = some (z20 2001) := rfl
theorem kc8 {b : Nat} : cl b X0 I0 J0 R0 8 = some (z21 2001) := rfl
theorem kc9 {b : Nat} : cl b X0 I0 J0 R0 9 = some (z20 2001) := rfl
theorem kc10 {b : Nat} : cl b X0 I0 J0 R0 10 = some (5, 18, jfl9 (jdf 5) [.ref (b + 11), .int 0, .ref (b + 14), .int 0, .ref (b + 19), .ref (b + 20), .ref (b + 21), .ref (b + 22), .ref (b + 23), .ref (b + 24), .ref (b + 25), .ref (b + 26), .ref (b + 27), .ref (b + 28), .ref (b + 29), .ref (b + 30), .ref (b + 31), .ref (b + 32)]) := by
  show some (5, 18, fun i => vf b 5 X0 I0 J0 R0 10 i) = _
  congr 3
  refine (jfE fun i => ?_).symm
  match i with
  | 0 => rfl
  | 1 => rfl
  | 2 => rfl
  | 3 => rfl
  | 4 => rfl
  | 5 => rfl
  | 6 => rfl
  | 7 => rfl
  | 8 => rfl
  | 9 => rfl
  | 10 => rfl
  | 11 => rfl
  | 12 => rfl
  | 13 => rfl
  | 14 => rfl
  | 15 => rfl
  | 16 => rfl
  | 17 => rfl
  | n + 18 => rfl
theorem kc11 {b : Nat} : cl b X0 I0 J0 R0 11 = some (3, 3, jfl9 (jdf 3) [.ref (b + 12), .ref (b + 13), .int 0]) := by
  show some (3, 3, fun i => vf b 3 X0 I0 J0 R0 11 i) = _
  congr 3
  refine (jfE fun i => ?_).symm
  match i with
  | 0 => rfl
  | 1 => rfl
  | 2 => rfl
  | n + 3 => rfl
theorem kc12 {b : Nat} : cl b X0 I0 J0 R0 12 = some (z21 1600) := rfl
theorem kc13 {b : Nat} : cl b X0 I0 J0 R0 13 = some (z20 1600) := rfl
theorem kc14 {b : Nat} : cl b X0 I0 J0 R0 14 = some (1, 5, jfl9 (jdf 1) [.ref (b + 15), .ref (b + 16), .ref (b + 17), .ref (b + 18), .int 0]) := by
  show some (1, 5, fun i => vf b 1 X0 I0 J0 R0 14 i) = _
  congr 3
  refine (jfE fun i => ?_).symm
  match i with
  | 0 => rfl
  | 1 => rfl
  | 2 => rfl
  | 3 => rfl
  | 4 => rfl
  | n + 5 => rfl
theorem kc15 {b : Nat} : cl b X0 I0 J0 R0 15 = some (z20 2048) := rfl
theorem kc16 {b : Nat} : cl b X0 I0 J0 R0 16 = some (z20 2048) := rfl
theorem kc17 {b : Nat} : cl b X0 I0 J0 R0 17 = some (z20 2048) := rfl
theorem kc18 {b : Nat} : cl b X0 I0 J0 R0 18 = some (z20 2048) := rfl
theorem kc19 {b : Nat} : cl b X0 I0 J0 R0 19 = some (z20 6) := rfl
theorem kc20 {b : Nat} : cl b X0 I0 J0 R0 20 = some (z20 6) := rfl
theorem kc21 {b : Nat} : cl b X0 I0 J0 R0 21 = some (z20 6) := rfl
theorem kc22 {b : Nat} : cl b X0 I0 J0 R0 22 = some (z20 6) := rfl
theorem kc23 {b : Nat} : cl b X0 I0 J0 R0 23 = some (z20 36) := rfl
theorem kc24 {b : Nat} : cl b X0 I0 J0 R0 24 = some (z20 36) := rfl
theorem kc25 {b : Nat} : cl b X0 I0 J0 R0 25 = some (z20 6) := rfl
theorem kc26 {b : Nat} : cl b X0 I0 J0 R0 26 = some (z20 48) := rfl
theorem kc27 {b : Nat} : cl b X0 I0 J0 R0 27 = some (z20 48) := rfl
theorem kc28 {b : Nat} : cl b X0 I0 J0 R0 28 = some (z20 384) := rfl
theorem kc29 {b : Nat} : cl b X0 I0 J0 R0 29 = some (z20 384) := rfl
theorem kc30 {b : Nat} : cl b X0 I0 J0 R0 30 = some (z20 384) := rfl
theorem kc31 {b : Nat} : cl b X0 I0 J0 R0 31 = some (z20 384) := rfl
theorem kc32 {b : Nat} : cl b X0 I0 J0 R0 32 = some (z20 384) := rfl
theorem kc33 {b : Nat} : cl b X0 I0 J0 R0 33 = some (5, 18, jfl9 (jdf 5) [.ref (b + 34), .int 0, .ref (b + 37), .int 0, .ref (b + 42), .ref (b + 43), .ref (b + 44), .ref (b + 45), .ref (b + 46), .ref (b + 47), .ref (b + 48), .ref (b + 49), .ref (b + 50), .ref (b + 51), .ref (b + 52), .ref (b + 53), .ref (b + 54), .ref (b + 55)]) := by
  show some (5, 18, fun i => vf b 5 X0 I0 J0 R0 33 i) = _
  congr 3
  refine (jfE fun i => ?_).symm
  match i with
  | 0 => rfl
  | 1 => rfl
  | 2 => rfl
  | 3 => rfl
  | 4 => rfl
  | 5 => rfl
  | 6 => rfl
  | 7 => rfl
  | 8 => rfl
  | 9 => rfl
  | 10 => rfl
  | 11 => rfl
  | 12 => rfl
  | 13 => rfl
  | 14 => rfl
  | 15 => rfl
  | 16 => rfl
  | 17 => rfl
  | n + 18 => rfl
theorem kc34 {b : Nat} : cl b X0 I0 J0 R0 34 = some (3, 3, jfl9 (jdf 3) [.ref (b + 35), .ref (b + 36), .int 0]) := by
  show some (3, 3, fun i => vf b 3 X0 I0 J0 R0 34 i) = _
  congr 3
  refine (jfE fun i => ?_).symm
  match i with
  | 0 => rfl
  | 1 => rfl
  | 2 => rfl
  | n + 3 => rfl
theorem kc35 {b : Nat} : cl b X0 I0 J0 R0 35 = some (z21 1600) := rfl
theorem kc36 {b : Nat} : cl b X0 I0 J0 R0 36 = some (z20 1600) := rfl
theorem kc37 {b : Nat} : cl b X0 I0 J0 R0 37 = some (1, 5, jfl9 (jdf 1) [.ref (b + 38), .ref (b + 39), .ref (b + 40), .ref (b + 41), .int 0]) := by
  show some (1, 5, fun i => vf b 1 X0 I0 J0 R0 37 i) = _
  congr 3
  refine (jfE fun i => ?_).symm
  match i with
  | 0 => rfl
  | 1 => rfl
  | 2 => rfl
  | 3 => rfl
  | 4 => rfl
  | n + 5 => rfl
theorem kc38 {b : Nat} : cl b X0 I0 J0 R0 38 = some (z20 2048) := rfl
theorem kc39 {b : Nat} : cl b X0 I0 J0 R0 39 = some (z20 2048) := rfl
theorem kc40 {b : Nat} : cl b X0 I0 J0 R0 40 = some (z20 2048) := rfl
theorem kc41 {b : Nat} : cl b X0 I0 J0 R0 41 = some (z20 2048) := rfl
theorem kc42 {b : Nat} : cl b X0 I0 J0 R0 42 = some (z20 6) := rfl
theorem kc43 {b : Nat} : cl b X0 I0 J0 R0 43 = some (z20 6) := rfl
theorem kc44 {b : Nat} : cl b X0 I0 J0 R0 44 = some (z20 6) := rfl
theorem kc45 {b : Nat} : cl b X0 I0 J0 R0 45 = some (z20 6) := rfl
theorem kc46 {b : Nat} : cl b X0 I0 J0 R0 46 = some (z20 36) := rfl
theorem kc47 {b : Nat} : cl b X0 I0 J0 R0 47 = some (z20 36) := rfl
theorem kc48 {b : Nat} : cl b X0 I0 J0 R0 48 = some (z20 6) := rfl
theorem kc49 {b : Nat} : cl b X0 I0 J0 R0 49 = some (z20 48) := rfl
theorem kc50 {b : Nat} : cl b X0 I0 J0 R0 50 = some (z20 48) := rfl
theorem kc51 {b : Nat} : cl b X0 I0 J0 R0 51 = some (z20 384) := rfl
theorem kc52 {b : Nat} : cl b X0 I0 J0 R0 52 = some (z20 384) := rfl
theorem kc53 {b : Nat} : cl b X0 I0 J0 R0 53 = some (z20 384) := rfl
theorem kc54 {b : Nat} : cl b X0 I0 J0 R0 54 = some (z20 384) := rfl
theorem kc55 {b : Nat} : cl b X0 I0 J0 R0 55 = some (z20 384) := rfl
theorem kc56 {b : Nat} : cl b X0 I0 J0 R0 56 = some (4, 10, jfl9 (jdf 4) [.ref (b + 3), .ref (b + 33), .ref (b + 37), .int 0, .int 0, .int 0, .int 0, .int 0, .int 0, .int 0]) := by
  show some (4, 10, fun i => vf b 4 X0 I0 J0 R0 56 i) = _
  congr 3
  refine (jfE fun i => ?_).symm
  match i with
  | 0 => rfl
  | 1 => rfl
  | 2 => rfl
  | 3 => rfl
  | 4 => rfl
  | 5 => rfl
  | 6 => rfl
  | 7 => rfl
  | 8 => rfl
  | 9 => rfl
  | n + 10 => rfl
theorem kc57 {b : Nat} : cl b X0 I0 J0 R0 57 = some (9, 13, jfl9 (jdf 9) [.ref (b + 10), .ref (b + 58), .ref (b + 65), .int 0, .int 0, .int 0, .int 0, .int 0, .int (-1), .ref (b + 130), .int 0, .int 0, .int 0]) := by
  show some (9, 13, fun i => vf b 9 X0 I0 J0 R0 57 i) = _
  congr 3
  refine (jfE fun i => ?_).symm
  match i with
  | 0 => rfl
  | 1 => rfl
  | 2 => rfl
  | 3 => rfl
  | 4 => rfl
  | 5 => rfl
  | 6 => rfl
  | 7 => rfl
  | 8 => rfl
  | 9 => rfl
  | 10 => rfl
  | 11 => rfl
  | 12 => rfl
  | n + 13 => rfl
theorem kc58 {b : Nat} : cl b X0 I0 J0 R0 58 = some (7, 8, jfl9 (jdf 7) [.ref (b + 59), .ref (b + 60), .ref (b + 61), .ref (b + 62), .ref (b + 63), .ref (b + 64), .int 0, .int 0]) := by
  show some (7, 8, fun i => vf b 7 X0 I0 J0 R0 58 i) = _
  congr 3
  refine (jfE fun i => ?_).symm
  match i with
  | 0 => rfl
  | 1 => rfl
  | 2 => rfl
  | 3 => rfl
  | 4 => rfl
  | 5 => rfl
  | 6 => rfl
  | 7 => rfl
  | n + 8 => rfl
theorem kc59 {b : Nat} : cl b X0 I0 J0 R0 59 = some (z20 400) := rfl
theorem kc60 {b : Nat} : cl b X0 I0 J0 R0 60 = some (z20 400) := rfl
theorem kc61 {b : Nat} : cl b X0 I0 J0 R0 61 = some (z20 400) := rfl
theorem kc62 {b : Nat} : cl b X0 I0 J0 R0 62 = some (z20 400) := rfl
theorem kc63 {b : Nat} : cl b X0 I0 J0 R0 63 = some (z20 400) := rfl
theorem kc64 {b : Nat} : cl b X0 I0 J0 R0 64 = some (z20 400) := rfl
theorem kc65 {b : Nat} : cl b X0 I0 J0 R0 65 = some (24, 8, jfl9 (fun _ => .null) [.ref (b + 66), .ref (b + 74), .ref (b + 82), .ref (b + 90), .ref (b + 98), .ref (b + 106), .ref (b + 114), .ref (b + 122)]) := by
  show some (24, 8, fun i => vf b 24 X0 I0 J0 R0 65 i) = _
  congr 3
  refine (jfE fun i => ?_).symm
  match i with
  | 0 => rfl
  | 1 => rfl
  | 2 => rfl
  | 3 => rfl
  | 4 => rfl
  | 5 => rfl
  | 6 => rfl
  | 7 => rfl
  | n + 8 => rfl
theorem kc66 {b : Nat} : cl b X0 I0 J0 R0 66 = some (2, 15, jfl9 (jdf 2) [.int 0, .int 0, .int 0, .int 0, .int 0, .int 0, .ref (b + 67), .int 0, .ref (b + 68), .ref (b + 69), .ref (b + 70), .ref (b + 71), .int 0, .ref (b + 72), .ref (b + 73)]) := by
  show some (2, 15, fun i => vf b 2 X0 I0 J0 R0 66 i) = _
  congr 3
  refine (jfE fun i => ?_).symm
  match i with
  | 0 => rfl
  | 1 => rfl
  | 2 => rfl
  | 3 => rfl
  | 4 => rfl
  | 5 => rfl
  | 6 => rfl
  | 7 => rfl
  | 8 => rfl
  | 9 => rfl
  | 10 => rfl
  | 11 => rfl
  | 12 => rfl
  | 13 => rfl
  | 14 => rfl
  | n + 15 => rfl
theorem kc67 {b : Nat} : cl b X0 I0 J0 R0 67 = some (z20 6) := rfl
theorem kc68 {b : Nat} : cl b X0 I0 J0 R0 68 = some (z20 8) := rfl
theorem kc69 {b : Nat} : cl b X0 I0 J0 R0 69 = some (z20 8) := rfl
theorem kc70 {b : Nat} : cl b X0 I0 J0 R0 70 = some (z20 8) := rfl
theorem kc71 {b : Nat} : cl b X0 I0 J0 R0 71 = some (z20 8) := rfl
theorem kc72 {b : Nat} : cl b X0 I0 J0 R0 72 = some (z20 4) := rfl
theorem kc73 {b : Nat} : cl b X0 I0 J0 R0 73 = some (z20 4) := rfl
theorem kc74 {b : Nat} : cl b X0 I0 J0 R0 74 = some (2, 15, jfl9 (jdf 2) [.int 0, .int 0, .int 0, .int 0, .int 0, .int 0, .ref (b + 75), .int 0, .ref (b + 76), .ref (b + 77), .ref (b + 78), .ref (b + 79), .int 0, .ref (b + 80), .ref (b + 81)]) := by
  show some (2, 15, fun i => vf b 2 X0 I0 J0 R0 74 i) = _
  congr 3
  refine (jfE fun i => ?_).symm
  match i with
  | 0 => rfl
  | 1 => rfl
  | 2 => rfl
  | 3 => rfl
  | 4 => rfl
  | 5 => rfl
  | 6 => rfl
  | 7 => rfl
  | 8 => rfl
  | 9 => rfl
  | 10 => rfl
  | 11 => rfl
  | 12 => rfl
  | 13 => rfl
  | 14 => rfl
  | n + 15 => rfl
theorem kc75 {b : Nat} : cl b X0 I0 J0 R0 75 = some (z20 6) := rfl
theorem kc76 {b : Nat} : cl b X0 I0 J0 R0 76 = some (z20 8) := rfl
theorem kc77 {b : Nat} : cl b X0 I0 J0 R0 77 = some (z20 8) := rfl
theorem kc78 {b : Nat} : cl b X0 I0 J0 R0 78 = some (z20 8) := rfl
theorem kc79 {b : Nat} : cl b X0 I0 J0 R0 79 = some (z20 8) := rfl
theorem kc80 {b : Nat} : cl b X0 I0 J0 R0 80 = some (z20 4) := rfl
theorem kc81 {b : Nat} : cl b X0 I0 J0 R0 81 = some (z20 4) := rfl
theorem kc82 {b : Nat} : cl b X0 I0 J0 R0 82 = some (2, 15, jfl9 (jdf 2) [.int 0, .int 0, .int 0, .int 0, .int 0, .int 0, .ref (b + 83), .int 0, .ref (b + 84), .ref (b + 85), .ref (b + 86), .ref (b + 87), .int 0, .ref (b + 88), .ref (b + 89)]) := by
  show some (2, 15, fun i => vf b 2 X0 I0 J0 R0 82 i) = _
  congr 3
  refine (jfE fun i => ?_).symm
  match i with
  | 0 => rfl
  | 1 => rfl
  | 2 => rfl
  | 3 => rfl
  | 4 => rfl
  | 5 => rfl
  | 6 => rfl
  | 7 => rfl
  | 8 => rfl
  | 9 => rfl
  | 10 => rfl
  | 11 => rfl
  | 12 => rfl
  | 13 => rfl
  | 14 => rfl
  | n + 15 => rfl
theorem kc83 {b : Nat} : cl b X0 I0 J0 R0 83 = some (z20 6) := rfl
theorem kc84 {b : Nat} : cl b X0 I0 J0 R0 84 = some (z20 8) := rfl
theorem kc85 {b : Nat} : cl b X0 I0 J0 R0 85 = some (z20 8) := rfl
theorem kc86 {b : Nat} : cl b X0 I0 J0 R0 86 = some (z20 8) := rfl
theorem kc87 {b : Nat} : cl b X0 I0 J0 R0 87 = some (z20 8) := rfl
theorem kc88 {b : Nat} : cl b X0 I0 J0 R0 88 = some (z20 4) := rfl
theorem kc89 {b : Nat} : cl b X0 I0 J0 R0 89 = some (z20 4) := rfl
theorem kc90 {b : Nat} : cl b X0 I0 J0 R0 90 = some (2, 15, jfl9 (jdf 2) [.int 0, .int 0, .int 0, .int 0, .int 0, .int 0, .ref (b + 91), .int 0, .ref (b + 92), .ref (b + 93), .ref (b + 94), .ref (b + 95), .int 0, .ref (b + 96), .ref (b + 97)]) := by
  show some (2, 15, fun i => vf b 2 X0 I0 J0 R0 90 i) = _
  congr 3
  refine (jfE fun i => ?_).symm
  match i with
  | 0 => rfl
  | 1 => rfl
  | 2 => rfl
  | 3 => rfl
  | 4 => rfl
  | 5 => rfl
  | 6 => rfl
  | 7 => rfl
  | 8 => rfl
  | 9 => rfl
  | 10 => rfl
  | 11 => rfl
  | 12 => rfl
  | 13 => rfl
  | 14 => rfl
  | n + 15 => rfl
theorem kc91 {b : Nat} : cl b X0 I0 J0 R0 91 = some (z20 6) := rfl
theorem kc92 {b : Nat} : cl b X0 I0 J0 R0 92 = some (z20 8) := rfl
theorem kc93 {b : Nat} : cl b X0 I0 J0 R0 93 = some (z20 8) := rfl
theorem kc94 {b : Nat} : cl b X0 I0 J0 R0 94 = some (z20 8) := rfl
theorem kc95 {b : Nat} : cl b X0 I0 J0 R0 95 = some (z20 8) := rfl
theorem kc96 {b : Nat} : cl b X0 I0 J0 R0 96 = some (z20 4) := rfl
theorem kc97 {b : Nat} : cl b X0 I0 J0 R0 97 = some (z20 4) := rfl
theorem kc98 {b : Nat} : cl b X0 I0 J0 R0 98 = some (2, 15, jfl9 (jdf 2) [.int 0, .int 0, .int 0, .int 0, .int 0, .int 0, .ref (b + 99), .int 0, .ref (b + 100), .ref (b + 101), .ref (b + 102), .ref (b + 103), .int 0, .ref (b + 104), .ref (b + 105)]) := by
  show some (2, 15, fun i => vf b 2 X0 I0 J0 R0 98 i) = _
  congr 3
  refine (jfE fun i => ?_).symm
  match i with
  | 0 => rfl
  | 1 => rfl
  | 2 => rfl
  | 3 => rfl
  | 4 => rfl
  | 5 => rfl
  | 6 => rfl
  | 7 => rfl
  | 8 => rfl
  | 9 => rfl
  | 10 => rfl
  | 11 => rfl
  | 12 => rfl
  | 13 => rfl
  | 14 => rfl
  | n + 15 => rfl
theorem kc99 {b : Nat} : cl b X0 I0 J0 R0 99 = some (z20 6) := rfl
theorem kc100 {b : Nat} : cl b X0 I0 J0 R0 100 = some (z20 8) := rfl
theorem kc101 {b : Nat} : cl b X0 I0 J0 R0 101 = some (z20 8) := rfl
theorem kc102 {b : Nat} : cl b X0 I0 J0 R0 102 = some (z20 8) := rfl
theorem kc103 {b : Nat} : cl b X0 I0 J0 R0 103 = some (z20 8) := rfl
theorem kc104 {b : Nat} : cl b X0 I0 J0 R0 104 = some (z20 4) := rfl
theorem kc105 {b : Nat} : cl b X0 I0 J0 R0 105 = some (z20 4) := rfl
theorem kc106 {b : Nat} : cl b X0 I0 J0 R0 106 = some (2, 15, jfl9 (jdf 2) [.int 0, .int 0, .int 0, .int 0, .int 0, .int 0, .ref (b + 107), .int 0, .ref (b + 108), .ref (b + 109), .ref (b + 110), .ref (b + 111), .int 0, .ref (b + 112), .ref (b + 113)]) := by
  show some (2, 15, fun i => vf b 2 X0 I0 J0 R0 106 i) = _
  congr 3
  refine (jfE fun i => ?_).symm
  match i with
  | 0 => rfl
  | 1 => rfl
  | 2 => rfl
  | 3 => rfl
  | 4 => rfl
  | 5 => rfl
  | 6 => rfl
  | 7 => rfl
  | 8 => rfl
  | 9 => rfl
  | 10 => rfl
  | 11 => rfl
  | 12 => rfl
  | 13 => rfl
  | 14 => rfl
  | n + 15 => rfl
theorem kc107 {b : Nat} : cl b X0 I0 J0 R0 107 = some (z20 6) := rfl
theorem kc108 {b : Nat} : cl b X0 I0 J0 R0 108 = some (z20 8) := rfl
theorem kc109 {b : Nat} : cl b X0 I0 J0 R0 109 = some (z20 8) := rfl
theorem kc110 {b : Nat} : cl b X0 I0 J0 R0 110 = some (z20 8) := rfl
theorem kc111 {b : Nat} : cl b X0 I0 J0 R0 111 = some (z20 8) := rfl
theorem kc112 {b : Nat} : cl b X0 I0 J0 R0 112 = some (z20 4) := rfl
theorem kc113 {b : Nat} : cl b X0 I0 J0 R0 113 = some (z20 4) := rfl
theorem kc114 {b : Nat} : cl b X0 I0 J0 R0 114 = some (2, 15, jfl9 (jdf 2) [.int 0, .int 0, .int 0, .int 0, .int 0, .int 0, .ref (b + 115), .int 0, .ref (b + 116), .ref (b + 117), .ref (b + 118), .ref (b + 119), .int 0, .ref (b + 120), .ref (b + 121)]) := by
  show some (2, 15, fun i => vf b 2 X0 I0 J0 R0 114 i) = _
  congr 3
  refine (jfE fun i => ?_).symm
  match i with
  | 0 => rfl
  | 1 => rfl
  | 2 => rfl
  | 3 => rfl
  | 4 => rfl
  | 5 => rfl
  | 6 => rfl
  | 7 => rfl
  | 8 => rfl
  | 9 => rfl
  | 10 => rfl
  | 11 => rfl
  | 12 => rfl
  | 13 => rfl
  | 14 => rfl
  | n + 15 => rfl
theorem kc115 {b : Nat} : cl b X0 I0 J0 R0 115 = some (z20 6) := rfl
theorem kc116 {b : Nat} : cl b X0 I0 J0 R0 116 = some (z20 8) := rfl
theorem kc117 {b : Nat} : cl b X0 I0 J0 R0 117 = some (z20 8) := rfl
theorem kc118 {b : Nat} : cl b X0 I0 J0 R0 118 = some (z20 8) := rfl
theorem kc119 {b : Nat} : cl b X0 I0 J0 R0 119 = some (z20 8) := rfl
theorem kc120 {b : Nat} : cl b X0 I0 J0 R0 120 = some (z20 4) := rfl
theorem kc121 {b : Nat} : cl b X0 I0 J0 R0 121 = some (z20 4) := rfl
theorem kc122 {b : Nat} : cl b X0 I0 J0 R0 122 = some (2, 15, jfl9 (jdf 2) [.int 0, .int 0, .int 0, .int 0, .int 0, .int 0, .ref (b + 123), .int 0, .ref (b + 124), .ref (b + 125), .ref (b + 126), .ref (b + 127), .int 0, .ref (b + 128), .ref (b + 129)]) := by
  show some (2, 15, fun i => vf b 2 X0 I0 J0 R0 122 i) = _
  congr 3
  refine (jfE fun i => ?_).symm
  match i with
  | 0 => rfl
  | 1 => rfl
  | 2 => rfl
  | 3 => rfl
  | 4 => rfl
  | 5 => rfl
  | 6 => rfl
  | 7 => rfl
  | 8 => rfl
  | 9 => rfl
  | 10 => rfl
  | 11 => rfl
  | 12 => rfl
  | 13 => rfl
  | 14 => rfl
  | n + 15 => rfl
theorem kc123 {b : Nat} : cl b X0 I0 J0 R0 123 = some (z20 6) := rfl
theorem kc124 {b : Nat} : cl b X0 I0 J0 R0 124 = some (z20 8) := rfl
theorem kc125 {b : Nat} : cl b X0 I0 J0 R0 125 = some (z20 8) := rfl
theorem kc126 {b : Nat} : cl b X0 I0 J0 R0 126 = some (z20 8) := rfl
theorem kc127 {b : Nat} : cl b X0 I0 J0 R0 127 = some (z20 8) := rfl
theorem kc128 {b : Nat} : cl b X0 I0 J0 R0 128 = some (z20 4) := rfl
theorem kc129 {b : Nat} : cl b X0 I0 J0 R0 129 = some (z20 4) := rfl
theorem kc130 {b : Nat} : cl b X0 I0 J0 R0 130 = some (z20 64) := rfl
theorem kc131 {b : Nat} : cl b X0 I0 J0 R0 131 = some (8, 16, jfl9 (jdf 8) [.ref (b + 132), .ref (b + 206), .ref (b + 207), .ref (b + 208), .ref (b + 209), .ref (b + 210), .ref (b + 211), .ref (b + 212), .ref (b + 213), .int 0, .int 0, .int 0, .int 0, .ref (b + 214), .int 0, .int 0]) := by
  show some (8, 16, fun i => vf b 8 X0 I0 J0 R0 131 i) = _
  congr 3
  refine (jfE fun i => ?_).symm
  match i with
  | 0 => rfl
  | 1 => rfl
  | 2 => rfl
  | 3 => rfl
  | 4 => rfl
  | 5 => rfl
  | 6 => rfl
  | 7 => rfl
  | 8 => rfl
  | 9 => rfl
  | 10 => rfl
  | 11 => rfl
  | 12 => rfl
  | 13 => rfl
  | 14 => rfl
  | 15 => rfl
  | n + 16 => rfl
theorem kc132 {b : Nat} : cl b X0 I0 J0 R0 132 = some (9, 13, jfl9 (jdf 9) [.ref (b + 10), .ref (b + 133), .ref (b + 140), .int 0, .int 0, .int 0, .int 0, .int 0, .int (-1), .ref (b + 205), .int 0, .int 0, .int 0]) := by
  show some (9, 13, fun i => vf b 9 X0 I0 J0 R0 132 i) = _
  congr 3
  refine (jfE fun i => ?_).symm
  match i with
  | 0 => rfl
  | 1 => rfl
  | 2 => rfl
  | 3 => rfl
  | 4 => rfl
  | 5 => rfl
  | 6 => rfl
  | 7 => rfl
  | 8 => rfl
  | 9 => rfl
  | 10 => rfl
  | 11 => rfl
  | 12 => rfl
  | n + 13 => rfl
theorem kc133 {b : Nat} : cl b X0 I0 J0 R0 133 = some (7, 8, jfl9 (jdf 7) [.ref (b + 134), .ref (b + 135), .ref (b + 136), .ref (b + 137), .ref (b + 138), .ref (b + 139), .int 0, .int 0]) := by
  show some (7, 8, fun i => vf b 7 X0 I0 J0 R0 133 i) = _
  congr 3
  refine (jfE fun i => ?_).symm
  match i with
  | 0 => rfl
  | 1 => rfl
  | 2 => rfl
  | 3 => rfl
  | 4 => rfl
  | 5 => rfl
  | 6 => rfl
  | 7 => rfl
  | n + 8 => rfl
theorem kc134 {b : Nat} : cl b X0 I0 J0 R0 134 = some (z20 0) := rfl
theorem kc135 {b : Nat} : cl b X0 I0 J0 R0 135 = some (z20 0) := rfl
theorem kc136 {b : Nat} : cl b X0 I0 J0 R0 136 = some (z20 0) := rfl
theorem kc137 {b : Nat} : cl b X0 I0 J0 R0 137 = some (z20 0) := rfl
theorem kc138 {b : Nat} : cl b X0 I0 J0 R0 138 = some (z20 0) := rfl
theorem kc139 {b : Nat} : cl b X0 I0 J0 R0 139 = some (z20 0) := rfl
theorem kc140 {b : Nat} : cl b X0 I0 J0 R0 140 = some (24, 8, jfl9 (fun _ => .null) [.ref (b + 141), .ref (b + 149), .ref (b + 157), .ref (b + 165), .ref (b + 173), .ref (b + 181), .ref (b + 189), .ref (b + 197)]) := by
  show some (24, 8, fun i => vf b 24 X0 I0 J0 R0 140 i) = _
  congr 3
  refine (jfE fun i => ?_).symm
  match i with
  | 0 => rfl
  | 1 => rfl
  | 2 => rfl
  | 3 => rfl
  | 4 => rfl
  | 5 => rfl
  | 6 => rfl
  | 7 => rfl
  | n + 8 => rfl
theorem kc141 {b : Nat} : cl b X0 I0 J0 R0 141 = some (2, 15, jfl9 (jdf 2) [.int 0, .int 0, .int 0, .int 0, .int 0, .int 0, .ref (b + 142), .int 0, .ref (b + 143), .ref (b + 144), .ref (b + 145), .ref (b + 146), .int 0, .ref (b + 147), .ref (b + 148)]) := by
  show some (2, 15, fun i => vf b 2 X0 I0 J0 R0 141 i) = _
  congr 3
  refine (jfE fun i => ?_).symm
  match i with
  | 0 => rfl
  | 1 => rfl
  | 2 => rfl
  | 3 => rfl
  | 4 => rfl
  | 5 => rfl
  | 6 => rfl
  | 7 => rfl
  | 8 => rfl
  | 9 => rfl
  | 10 => rfl
  | 11 => rfl
  | 12 => rfl
  | 13 => rfl
  | 14 => rfl
  | n + 15 => rfl
theorem kc142 {b : Nat} : cl b X0 I0 J0 R0 142 = some (z20 6) := rfl
theorem kc143 {b : Nat} : cl b X0 I0 J0 R0 143 = some (z20 8) := rfl
theorem kc144 {b : Nat} : cl b X0 I0 J0 R0 144 = some (z20 8) := rfl
theorem kc145 {b : Nat} : cl b X0 I0 J0 R0 145 = some (z20 8) := rfl
theorem kc146 {b : Nat} : cl b X0 I0 J0 R0 146 = some (z20 8) := rfl
theorem kc147 {b : Nat} : cl b X0 I0 J0 R0 147 = some (z20 4) := rfl
theorem kc148 {b : Nat} : cl b X0 I0 J0 R0 148 = some (z20 4) := rfl
theorem kc149 {b : Nat} : cl b X0 I0 J0 R0 149 = some (2, 15, jfl9 (jdf 2) [.int 0, .int 0, .int 0, .int 0, .int 0, .int 0, .ref (b + 150), .int 0, .ref (b + 151), .ref (b + 152), .ref (b + 153), .ref (b + 154), .int 0, .ref (b + 155), .ref (b + 156)]) := by
  show some (2, 15, fun i => vf b 2 X0 I0 J0 R0 149 i) = _
  congr 3
  refine (jfE fun i => ?_).symm
  match i with
  | 0 => rfl
  | 1 => rfl
  | 2 => rfl
  | 3 => rfl
  | 4 => rfl
  | 5 => rfl
  | 6 => rfl
  | 7 => rfl
  | 8 => rfl
  | 9 => rfl
  | 10 => rfl
  | 11 => rfl
  | 12 => rfl
  | 13 => rfl
  | 14 => rfl
  | n + 15 => rfl
theorem kc150 {b : Nat} : cl b X0 I0 J0 R0 150 = some (z20 6) := rfl
theorem kc151 {b : Nat} : cl b X0 I0 J0 R0 151 = some (z20 8) := rfl
theorem kc152 {b : Nat} : cl b X0 I0 J0 R0 152 = some (z20 8) := rfl
theorem kc153 {b : Nat} : cl b X0 I0 J0 R0 153 = some (z20 8) := rfl
theorem kc154 {b : Nat} : cl b X0 I0 J0 R0 154 = some (z20 8) := rfl
theorem kc155 {b : Nat} : cl b X0 I0 J0 R0 155 = some (z20 4) := rfl
theorem kc156 {b : Nat} : cl b X0 I0 J0 R0 156 = some (z20 4) := rfl
theorem kc157 {b : Nat} : cl b X0 I0 J0 R0 157 = some (2, 15, jfl9 (jdf 2) [.int 0, .int 0, .int 0, .int 0, .int 0, .int 0, .ref (b + 158), .int 0, .ref (b + 159), .ref (b + 160), .ref (b + 161), .ref (b + 162), .int 0, .ref (b + 163), .ref (b + 164)]) := by
  show some (2, 15, fun i => vf b 2 X0 I0 J0 R0 157 i) = _
  congr 3
  refine (jfE fun i => ?_).symm
  match i with
  | 0 => rfl
  | 1 => rfl
  | 2 => rfl
  | 3 => rfl
  | 4 => rfl
  | 5 => rfl
  | 6 => rfl
  | 7 => rfl
  | 8 => rfl
  | 9 => rfl
  | 10 => rfl
  | 11 => rfl
  | 12 => rfl
  | 13 => rfl
  | 14 => rfl
  | n + 15 => rfl
theorem kc158 {b : Nat} : cl b X0 I0 J0 R0 158 = some (z20 6) := rfl
theorem kc159 {b : Nat} : cl b X0 I0 J0 R0 159 = some (z20 8) := rfl
theorem kc160 {b : Nat} : cl b X0 I0 J0 R0 160 = some (z20 8) := rfl
theorem kc161 {b : Nat} : cl b X0 I0 J0 R0 161 = some (z20 8) := rfl
theorem kc162 {b : Nat} : cl b X0 I0 J0 R0 162 = some (z20 8) := rfl
theorem kc163 {b : Nat} : cl b X0 I0 J0 R0 163 = some (z20 4) := rfl
theorem kc164 {b : Nat} : cl b X0 I0 J0 R0 164 = some (z20 4) := rfl
theorem kc165 {b : Nat} : cl b X0 I0 J0 R0 165 = some (2, 15, jfl9 (jdf 2) [.int 0, .int 0, .int 0, .int 0, .int 0, .int 0, .ref (b + 166), .int 0, .ref (b + 167), .ref (b + 168), .ref (b + 169), .ref (b + 170), .int 0, .ref (b + 171), .ref (b + 172)]) := by
  show some (2, 15, fun i => vf b 2 X0 I0 J0 R0 165 i) = _
  congr 3
  refine (jfE fun i => ?_).symm
  match i with
  | 0 => rfl
  | 1 => rfl
  | 2 => rfl
  | 3 => rfl
  | 4 => rfl
  | 5 => rfl
  | 6 => rfl
  | 7 => rfl
  | 8 => rfl
  | 9 => rfl
  | 10 => rfl
  | 11 => rfl
  | 12 => rfl
  | 13 => rfl
  | 14 => rfl
  | n + 15 => rfl
theorem kc166 {b : Nat} : cl b X0 I0 J0 R0 166 = some (z20 6) := rfl
theorem kc167 {b : Nat} : cl b X0 I0 J0 R0 167 = some (z20 8) := rfl
theorem kc168 {b : Nat} : cl b X0 I0 J0 R0 168 = some (z20 8) := rfl
theorem kc169 {b : Nat} : cl b X0 I0 J0 R0 169 = some (z20 8) := rfl
theorem kc170 {b : Nat} : cl b X0 I0 J0 R0 170 = some (z20 8) := rfl
theorem kc171 {b : Nat} : cl b X0 I0 J0 R0 171 = some (z20 4) := rfl
theorem kc172 {b : Nat} : cl b X0 I0 J0 R0 172 = some (z20 4) := rfl
theorem kc173 {b : Nat} : cl b X0 I0 J0 R0 173 = some (2, 15, jfl9 (jdf 2) [.int 0, .int 0, .int 0, .int 0, .int 0, .int 0, .ref (b + 174), .int 0, .ref (b + 175), .ref (b + 176), .ref (b + 177), .ref (b + 178), .int 0, .ref (b + 179), .ref (b + 180)]) := by
  show some (2, 15, fun i => vf b 2 X0 I0 J0 R0 173 i) = _
  congr 3
  refine (jfE fun i => ?_).symm
  match i with
  | 0 => rfl
  | 1 => rfl
  | 2 => rfl
  | 3 => rfl
  | 4 => rfl
  | 5 => rfl
  | 6 => rfl
  | 7 => rfl
  | 8 => rfl
  | 9 => rfl
  | 10 => rfl
  | 11 => rfl
  | 12 => rfl
  | 13 => rfl
  | 14 => rfl
  | n + 15 => rfl
theorem kc174 {b : Nat} : cl b X0 I0 J0 R0 174 = some (z20 6) := rfl
theorem kc175 {b : Nat} : cl b X0 I0 J0 R0 175 = some (z20 8) := rfl
theorem kc176 {b : Nat} : cl b X0 I0 J0 R0 176 = some (z20 8) := rfl
theorem kc177 {b : Nat} : cl b X0 I0 J0 R0 177 = some (z20 8) := rfl
theorem kc178 {b : Nat} : cl b X0 I0 J0 R0 178 = some (z20 8) := rfl
theorem kc179 {b : Nat} : cl b X0 I0 J0 R0 179 = some (z20 4) := rfl
theorem kc180 {b : Nat} : cl b X0 I0 J0 R0 180 = some (z20 4) := rfl
theorem kc181 {b : Nat} : cl b X0 I0 J0 R0 181 = some (2, 15, jfl9 (jdf 2) [.int 0, .int 0, .int 0, .int 0, .int 0, .int 0, .ref (b + 182), .int 0, .ref (b + 183), .ref (b + 184), .ref (b + 185), .ref (b + 186), .int 0, .ref (b + 187), .ref (b + 188)]) := by
  show some (2, 15, fun i => vf b 2 X0 I0 J0 R0 181 i) = _
  congr 3
  refine (jfE fun i => ?_).symm
  match i with
  | 0 => rfl
  | 1 => rfl
  | 2 => rfl
  | 3 => rfl
  | 4 => rfl
  | 5 => rfl
  | 6 => rfl
  | 7 => rfl
  | 8 => rfl
  | 9 => rfl
  | 10 => rfl
  | 11 => rfl
  | 12 => rfl
  | 13 => rfl
  | 14 => rfl
  | n + 15 => rfl
theorem kc182 {b : Nat} : cl b X0 I0 J0 R0 182 = some (z20 6) := rfl
theorem kc183 {b : Nat} : cl b X0 I0 J0 R0 183 = some (z20 8) := rfl
theorem kc184 {b : Nat} : cl b X0 I0 J0 R0 184 = some (z20 8) := rfl
theorem kc185 {b : Nat} : cl b X0 I0 J0 R0 185 = some (z20 8) := rfl
theorem kc186 {b : Nat} : cl b X0 I0 J0 R0 186 = some (z20 8) := rfl
theorem kc187 {b : Nat} : cl b X0 I0 J0 R0 187 = some (z20 4) := rfl
theorem kc188 {b : Nat} : cl b X0 I0 J0 R0 188 = some (z20 4) := rfl
theorem kc189 {b : Nat} : cl b X0 I0 J0 R0 189 = some (2, 15, jfl9 (jdf 2) [.int 0, .int 0, .int 0, .int 0, .int 0, .int 0, .ref (b + 190), .int 0, .ref (b + 191), .ref (b + 192), .ref (b + 193), .ref (b + 194), .int 0, .ref (b + 195), .ref (b + 196)]) := by
  show some (2, 15, fun i => vf b 2 X0 I0 J0 R0 189 i) = _
  congr 3
  refine (jfE fun i => ?_).symm
  match i with
  | 0 => rfl
  | 1 => rfl
  | 2 => rfl
  | 3 => rfl
  | 4 => rfl
  | 5 => rfl
  | 6 => rfl
  | 7 => rfl
  | 8 => rfl
  | 9 => rfl
  | 10 => rfl
  | 11 => rfl
  | 12 => rfl
  | 13 => rfl
  | 14 => rfl
  | n + 15 => rfl
theorem kc190 {b : Nat} : cl b X0 I0 J0 R0 190 = some (z20 6) := rfl
theorem kc191 {b : Nat} : cl b X0 I0 J0 R0 191 = some (z20 8) := rfl
theorem kc192 {b : Nat} : cl b X0 I0 J0 R0 192 = some (z20 8) := rfl
theorem kc193 {b : Nat} : cl b X0 I0 J0 R0 193 = some (z20 8) := rfl
theorem kc194 {b : Nat} : cl b X0 I0 J0 R0 194 = some (z20 8) := rfl
theorem kc195 {b : Nat} : cl b X0 I0 J0 R0 195 = some (z20 4) := rfl
theorem kc196 {b : Nat} : cl b X0 I0 J0 R0 196 = some (z20 4) := rfl
theorem kc197 {b : Nat} : cl b X0 I0 J0 R0 197 = some (2, 15, jfl9 (jdf 2) [.int 0, .int 0, .int 0, .int 0, .int 0, .int 0, .ref (b + 198), .int 0, .ref (b + 199), .ref (b + 200), .ref (b + 201), .ref (b + 202), .int 0, .ref (b + 203), .ref (b + 204)]) := by
  show some (2, 15, fun i => vf b 2 X0 I0 J0 R0 197 i) = _
  congr 3
  refine (jfE fun i => ?_).symm
  match i with
  | 0 => rfl
  | 1 => rfl
  | 2 => rfl
  | 3 => rfl
  | 4 => rfl
  | 5 => rfl
  | 6 => rfl
  | 7 => rfl
  | 8 => rfl
  | 9 => rfl
  | 10 => rfl
  | 11 => rfl
  | 12 => rfl
  | 13 => rfl
  | 14 => rfl
  | n + 15 => rfl
theorem kc198 {b : Nat} : cl b X0 I0 J0 R0 198 = some (z20 6) := rfl
theorem kc199 {b : Nat} : cl b X0 I0 J0 R0 199 = some (z20 8) := rfl
theorem kc200 {b : Nat} : cl b X0 I0 J0 R0 200 = some (z20 8) := rfl
theorem kc201 {b : Nat} : cl b X0 I0 J0 R0 201 = some (z20 8) := rfl
theorem kc202 {b : Nat} : cl b X0 I0 J0 R0 202 = some (z20 8) := rfl
theorem kc203 {b : Nat} : cl b X0 I0 J0 R0 203 = some (z20 4) := rfl
theorem kc204 {b : Nat} : cl b X0 I0 J0 R0 204 = some (z20 4) := rfl
theorem kc205 {b : Nat} : cl b X0 I0 J0 R0 205 = some (z20 64) := rfl
theorem kc206 {b : Nat} : cl b X0 I0 J0 R0 206 = some (z20 4096) := rfl
theorem kc207 {b : Nat} : cl b X0 I0 J0 R0 207 = some (z20 1001) := rfl
theorem kc208 {b : Nat} : cl b X0 I0 J0 R0 208 = some (z20 1000) := rfl
theorem kc209 {b : Nat} : cl b X0 I0 J0 R0 209 = some (z20 1000) := rfl
theorem kc210 {b : Nat} : cl b X0 I0 J0 R0 210 = some (z20 1000) := rfl
theorem kc211 {b : Nat} : cl b X0 I0 J0 R0 211 = some (z20 1000) := rfl
theorem kc212 {b : Nat} : cl b X0 I0 J0 R0 212 = some (z20 2048) := rfl
theorem kc213 {b : Nat} : cl b X0 I0 J0 R0 213 = some (z20 370) := rfl
theorem kc214 {b : Nat} : cl b X0 I0 J0 R0 214 = some (z20 1000) := rfl
theorem kc215 {b : Nat} : cl b X0 I0 J0 R0 215 = some (0, 13, jfl9 (jdf 0) [.ref (b + 216), .ref (b + 219), .int 0, .ref (b + 220), .ref (b + 221), .ref (b + 222), .int 0, .ref (b + 223), .ref (b + 224), .ref (b + 225), .ref (b + 226), .ref (b + 227), .int 0]) := by
  show some (0, 13, fun i => vf b 0 X0 I0 J0 R0 215 i) = _
  congr 3
  refine (jfE fun i => ?_).symm
  match i with
  | 0 => rfl
  | 1 => rfl
  | 2 => rfl
  | 3 => rfl
  | 4 => rfl
  | 5 => rfl
  | 6 => rfl
  | 7 => rfl
  | 8 => rfl
  | 9 => rfl
  | 10 => rfl
  | 11 => rfl
  | 12 => rfl
  | n + 13 => rfl
theorem kc216 {b : Nat} : cl b X0 I0 J0 R0 216 = some (3, 3, jfl9 (jdf 3) [.ref (b + 217), .ref (b + 218), .int 0]) := by
  show some (3, 3, fun i => vf b 3 X0 I0 J0 R0 216 i) = _
  congr 3
  refine (jfE fun i => ?_).symm
  match i with
  | 0 => rfl
  | 1 => rfl
  | 2 => rfl
  | n + 3 => rfl
theorem kc217 {b : Nat} : cl b X0 I0 J0 R0 217 = some (z21 48) := rfl
theorem kc218 {b : Nat} : cl b X0 I0 J0 R0 218 = some (z20 48) := rfl
theorem kc219 {b : Nat} : cl b X0 I0 J0 R0 219 = some (z20 8) := rfl
theorem kc220 {b : Nat} : cl b X0 I0 J0 R0 220 = some (z20 40) := rfl
theorem kc221 {b : Nat} : cl b X0 I0 J0 R0 221 = some (z20 40) := rfl
theorem kc222 {b : Nat} : cl b X0 I0 J0 R0 222 = some (z20 40) := rfl
theorem kc223 {b : Nat} : cl b X0 I0 J0 R0 223 = some (z21 80) := rfl
theorem kc224 {b : Nat} : cl b X0 I0 J0 R0 224 = some (z21 80) := rfl
theorem kc225 {b : Nat} : cl b X0 I0 J0 R0 225 = some (z23 80) := rfl
theorem kc226 {b : Nat} : cl b X0 I0 J0 R0 226 = some (z20 3160) := rfl
theorem kc227 {b : Nat} : cl b X0 I0 J0 R0 227 = some (z20 3160) := rfl
theorem kc228 {b : Nat} : cl b X0 I0 J0 R0 228 = some (0, 13, jfl9 (jdf 0) [.ref (b + 229), .ref (b + 232), .int 0, .ref (b + 233), .ref (b + 234), .ref (b + 235), .int 0, .ref (b + 236), .ref (b + 237), .ref (b + 238), .ref (b + 239), .ref (b + 240), .int 0]) := by
  show some (0, 13, fun i => vf b 0 X0 I0 J0 R0 228 i) = _
  congr 3
  refine (jfE fun i => ?_).symm
  match i with
  | 0 => rfl
  | 1 => rfl
  | 2 => rfl
  | 3 => rfl
  | 4 => rfl
  | 5 => rfl
  | 6 => rfl
  | 7 => rfl
  | 8 => rfl
  | 9 => rfl
  | 10 => rfl
  | 11 => rfl
  | 12 => rfl
  | n + 13 => rfl
theorem kc229 {b : Nat} : cl b X0 I0 J0 R0 229 = some (3, 3, jfl9 (jdf 3) [.ref (b + 230), .ref (b + 231), .int 0]) := by
  show some (3, 3, fun i => vf b 3 X0 I0 J0 R0 229 i) = _
  congr 3
  refine (jfE fun i => ?_).symm
  match i with
  | 0 => rfl
  | 1 => rfl
  | 2 => rfl
  | n + 3 => rfl
theorem kc230 {b : Nat} : cl b X0 I0 J0 R0 230 = some (z21 48) := rfl
theorem kc231 {b : Nat} : cl b X0 I0 J0 R0 231 = some (z20 48) := rfl
theorem kc232 {b : Nat} : cl b X0 I0 J0 R0 232 = some (z20 8) := rfl
theorem kc233 {b : Nat} : cl b X0 I0 J0 R0 233 = some (z20 40) := rfl
theorem kc234 {b : Nat} : cl b X0 I0 J0 R0 234 = some (z20 40) := rfl
theorem kc235 {b : Nat} : cl b X0 I0 J0 R0 235 = some (z20 40) := rfl
theorem kc236 {b : Nat} : cl b X0 I0 J0 R0 236 = some (z21 80) := rfl
theorem kc237 {b : Nat} : cl b X0 I0 J0 R0 237 = some (z21 80) := rfl
theorem kc238 {b : Nat} : cl b X0 I0 J0 R0 238 = some (z23 80) := rfl
theorem kc239 {b : Nat} : cl b X0 I0 J0 R0 239 = some (z20 3160) := rfl
theorem kc240 {b : Nat} : cl b X0 I0 J0 R0 240 = some (z20 3160) := rfl
theorem kc241 {b : Nat} : cl b X0 I0 J0 R0 241 = some (12, 101, jfl9 (jdf 12) [.int 0, .ref (b + 241 + 1), .int 0, .ref (b + 241 + 2), .ref (b + 241 + 3), .ref (b + 241 + 4), .ref (b + 241 + 5), .ref (b + 241 + 6), .int 0, .int 0, .ref (b + 241 + 7), .ref (b + 241 + 8), .ref (b + 241 + 9), .int 0, .int 0, .int 0, .int 0, .int 0, .int 0, .int 0, .int 0, .ref (b + 241 + 10), .ref (b + 241 + 11), .ref (b + 241 + 12), .ref (b + 241 + 13), .ref (b + 241 + 14), .ref (b + 241 + 15), .ref (b + 241 + 16), .ref (b + 241 + 17), .int 0, .int 0, .int 0, .int 0, .int 0, .int 0, .ref (b + 241 + 18), .int 0, .int 0, .int 0, .int 0, .int 0, .int 0, .ref (b + 241 + 19), .ref (b + 241 + 20), .ref (b + 241 + 21), .ref (b + 241 + 22), .ref (b + 241 + 23), .ref (b + 241 + 24), .ref (b + 241 + 25), .ref (b + 241 + 26), .ref (b + 241 + 27), .ref (b + 241 + 28), .ref (b + 241 + 29), .ref (b + 241 + 30), .ref (b + 241 + 31), .ref (b + 241 + 32), .ref (b + 241 + 33), .ref (b + 241 + 34), .ref (b + 241 + 35), .ref (b + 241 + 36), .ref (b + 241 + 37), .ref (b + 241 + 38), .ref (b + 241 + 39), .ref (b + 241 + 40), .int 0, .int 0, .int 0, .int 0, .int 0, .int 0, .int 0, .int 0, .int 0, .int 0, .int 0, .ref (b + 241 + 41), .ref (b + 241 + 42), .ref (b + 241 + 43), .ref (b + 241 + 44), .ref (b + 241 + 45), .int 0, .int 0, .int 0, .int 0, .int 0, .int 0, .int 0, .int 0, .int 0, .ref (b + 241 + 46), .ref (b + 241 + 47), .ref (b + 241 + 48), .ref (b + 241 + 49), .ref (b + 241 + 50), .ref (b + 241 + 51), .ref (b + 241 + 52), .ref (b + 241 + 53), .ref (b + 241 + 54), .ref (b + 241 + 55), .ref (b + 241 + 56), .ref (b + 241 + 57)]) := by
  show some (12, 101, fun i => vf b 12 X0 I0 J0 R0 241 i) = _
  congr 3
  refine (jfE fun i => ?_).symm
  match i with
  | 0 => rfl
  | 1 => rfl
  | 2 => rfl
  | 3 => rfl
  | 4 => rfl
  | 5 => rfl
  | 6 => rfl
  | 7 => rfl
  | 8 => rfl
  | 9 => rfl
  | 10 => rfl
  | 11 => rfl
  | 12 => rfl
  | 13 => rfl
  | 14 => rfl
  | 15 => rfl
  | 16 => rfl
  | 17 => rfl
  | 18 => rfl
  | 19 => rfl
  | 20 => rfl
  | 21 => rfl
  | 22 => rfl
  | 23 => rfl
  | 24 => rfl
  | 25 => rfl
  | 26 => rfl
  | 27 => rfl
  | 28 => rfl
  | 29 => rfl
  | 30 => rfl
  | 31 => rfl
  | 32 => rfl
  | 33 => rfl
  | 34 => rfl
  | 35 => rfl
  | 36 => rfl
  | 37 => rfl
  | 38 => rfl
  | 39 => rfl
  | 40 => rfl
  | 41 => rfl
  | 42 => rfl
  | 43 => rfl
  | 44 => rfl
  | 45 => rfl
  | 46 => rfl
  | 47 => rfl
  | 48 => rfl
  | 49 => rfl
  | 50 => rfl
  | 51 => rfl
  | 52 => rfl
  | 53 => rfl
  | 54 => rfl
  | 55 => rfl
  | 56 => rfl
  | 57 => rfl
  | 58 => rfl
  | 59 => rfl
  | 60 => rfl
  | 61 => rfl
  | 62 => rfl
  | 63 => rfl
  | 64 => rfl
  | 65 => rfl
  | 66 => rfl
  | 67 => rfl
  | 68 => rfl
  | 69 => rfl
  | 70 => rfl
  | 71 => rfl
  | 72 => rfl
  | 73 => rfl
  | 74 => rfl
  | 75 => rfl
  | 76 => rfl
  | 77 => rfl
  | 78 => rfl
  | 79 => rfl
  | 80 => rfl
  | 81 => rfl
  | 82 => rfl
  | 83 => rfl
  | 84 => rfl
  | 85 => rfl
  | 86 => rfl
  | 87 => rfl
  | 88 => rfl
  | 89 => rfl
  | 90 => rfl
  | 91 => rfl
  | 92 => rfl
  | 93 => rfl
  | 94 => rfl
  | 95 => rfl
  | 96 => rfl
  | 97 => rfl
  | 98 => rfl
  | 99 => rfl
  | 100 => rfl
  | n + 101 => rfl
theorem kc242 {b : Nat} : cl b X0 I0 J0 R0 242 = some (11, 6, jfl9 (jdf 11) [.null, .null, .null, .null, .null, .int 0]) := by
  show some (11, 6, fun i => vf b 11 X0 I0 J0 R0 242 i) = _
  congr 3
  refine (jfE fun i => ?_).symm
  match i with
  | 0 => rfl
  | 1 => rfl
  | 2 => rfl
  | 3 => rfl
  | 4 => rfl
  | 5 => rfl
  | n + 6 => rfl
theorem kc243 {b : Nat} : cl b X0 I0 J0 R0 243 = some (z22 1024) := rfl
theorem kc244 {b : Nat} : cl b X0 I0 J0 R0 244 = some (z20 64) := rfl
theorem kc245 {b : Nat} : cl b X0 I0 J0 R0 245 = some (z20 64) := rfl
theorem kc246 {b : Nat} : cl b X0 I0 J0 R0 246 = some (z20 64) := rfl
theorem kc247 {b : Nat} : cl b X0 I0 J0 R0 247 = some (20, 256, fun i => .int (mdH 256 i)) := rfl
theorem kc248 {b : Nat} : cl b X0 I0 J0 R0 248 = some (z22 2000) := rfl
theorem kc249 {b : Nat} : cl b X0 I0 J0 R0 249 = some (z22 2000) := rfl
theorem kc250 {b : Nat} : cl b X0 I0 J0 R0 250 = some (z22 16) := rfl
theorem kc251 {b : Nat} : cl b X0 I0 J0 R0 251 = some (z20 1024) := rfl
theorem kc252 {b : Nat} : cl b X0 I0 J0 R0 252 = some (z20 1024) := rfl
theorem kc253 {b : Nat} : cl b X0 I0 J0 R0 253 = some (z20 1024) := rfl
theorem kc254 {b : Nat} : cl b X0 I0 J0 R0 254 = some (z20 1024) := rfl
theorem kc255 {b : Nat} : cl b X0 I0 J0 R0 255 = some (z20 1024) := rfl
theorem kc256 {b : Nat} : cl b X0 I0 J0 R0 256 = some (z20 1024) := rfl
theorem kc257 {b : Nat} : cl b X0 I0 J0 R0 257 = some (z20 1024) := rfl
theorem kc258 {b : Nat} : cl b X0 I0 J0 R0 258 = some (z20 1024) := rfl
theorem kc259 {b : Nat} : cl b X0 I0 J0 R0 259 = some (z20 6) := rfl
theorem kc260 {b : Nat} : cl b X0 I0 J0 R0 260 = some (z20 8) := rfl
theorem kc261 {b : Nat} : cl b X0 I0 J0 R0 261 = some (z20 8) := rfl
theorem kc262 {b : Nat} : cl b X0 I0 J0 R0 262 = some (z20 8) := rfl
theorem kc263 {b : Nat} : cl b X0 I0 J0 R0 263 = some (z20 8) := rfl
theorem kc264 {b : Nat} : cl b X0 I0 J0 R0 264 = some (z20 8) := rfl
theorem kc265 {b : Nat} : cl b X0 I0 J0 R0 265 = some (z20 8) := rfl
theorem kc266 {b : Nat} : cl b X0 I0 J0 R0 266 = some (z20 48) := rfl
theorem kc267 {b : Nat} : cl b X0 I0 J0 R0 267 = some (z20 8) := rfl
theorem kc268 {b : Nat} : cl b X0 I0 J0 R0 268 = some (z20 64) := rfl
theorem kc269 {b : Nat} : cl b X0 I0 J0 R0 269 = some (z20 64) := rfl
theorem kc270 {b : Nat} : cl b X0 I0 J0 R0 270 = some (z20 64) := rfl
theorem kc271 {b : Nat} : cl b X0 I0 J0 R0 271 = some (z20 64) := rfl
theorem kc272 {b : Nat} : cl b X0 I0 J0 R0 272 = some (z20 8) := rfl
theorem kc273 {b : Nat} : cl b X0 I0 J0 R0 273 = some (z20 32) := rfl
theorem kc274 {b : Nat} : cl b X0 I0 J0 R0 274 = some (z20 32) := rfl
theorem kc275 {b : Nat} : cl b X0 I0 J0 R0 275 = some (z20 400) := rfl
theorem kc276 {b : Nat} : cl b X0 I0 J0 R0 276 = some (z20 400) := rfl
theorem kc277 {b : Nat} : cl b X0 I0 J0 R0 277 = some (z20 400) := rfl
theorem kc278 {b : Nat} : cl b X0 I0 J0 R0 278 = some (z20 400) := rfl
theorem kc279 {b : Nat} : cl b X0 I0 J0 R0 279 = some (z20 400) := rfl
theorem kc280 {b : Nat} : cl b X0 I0 J0 R0 280 = some (z20 400) := rfl
theorem kc281 {b : Nat} : cl b X0 I0 J0 R0 281 = some (z23 400) := rfl
theorem kc282 {b : Nat} : cl b X0 I0 J0 R0 282 = some (z20 435870) := rfl
theorem kc283 {b : Nat} : cl b X0 I0 J0 R0 283 = some (z20 1002) := rfl
theorem kc284 {b : Nat} : cl b X0 I0 J0 R0 284 = some (z20 1002) := rfl
theorem kc285 {b : Nat} : cl b X0 I0 J0 R0 285 = some (z20 1002) := rfl
theorem kc286 {b : Nat} : cl b X0 I0 J0 R0 286 = some (z20 1002) := rfl
theorem kc287 {b : Nat} : cl b X0 I0 J0 R0 287 = some (z20 40) := rfl
theorem kc288 {b : Nat} : cl b X0 I0 J0 R0 288 = some (z20 40) := rfl
theorem kc289 {b : Nat} : cl b X0 I0 J0 R0 289 = some (z20 40) := rfl
theorem kc290 {b : Nat} : cl b X0 I0 J0 R0 290 = some (z20 40) := rfl
theorem kc291 {b : Nat} : cl b X0 I0 J0 R0 291 = some (z20 40) := rfl
theorem kc292 {b : Nat} : cl b X0 I0 J0 R0 292 = some (z20 40) := rfl
theorem kc293 {b : Nat} : cl b X0 I0 J0 R0 293 = some (z20 8) := rfl
theorem kc294 {b : Nat} : cl b X0 I0 J0 R0 294 = some (z20 8) := rfl
theorem kc295 {b : Nat} : cl b X0 I0 J0 R0 295 = some (z23 6400) := rfl
theorem kc296 {b : Nat} : cl b X0 I0 J0 R0 296 = some (z23 80) := rfl
theorem kc297 {b : Nat} : cl b X0 I0 J0 R0 297 = some (z20 6400) := rfl
theorem kc298 {b : Nat} : cl b X0 I0 J0 R0 298 = some (z20 6400) := rfl
theorem kc299 {b : Nat} : cl b X0 I0 J0 R0 299 = some (z21 1) := rfl
set_option maxRecDepth 100000 in
theorem kc_all {b : Nat} : ∀ k, k ∈ List.range 300 → (pL b)[k]? = cl b X0 I0 J0 R0 k := by
  rw [show List.range 300 = [0, 1, 2, 3, 4, 5, 6, 7, 8, 9, 10, 11, 12, 13, 14, 15, 16, 17, 18, 19, 20, 21, 22, 23, 24, 25, 26, 27, 28, 29, 30, 31, 32, 33, 34, 35, 36, 37, 38, 39, 40, 41, 42, 43, 44, 45, 46, 47, 48, 49, 50, 51, 52, 53, 54, 55, 56, 57, 58, 59, 60, 61, 62, 63, 64, 65, 66, 67, 68, 69, 70, 71, 72, 73, 74, 75, 76, 77, 78, 79, 80, 81, 82, 83, 84, 85, 86, 87, 88, 89, 90, 91, 92, 93, 94, 95, 96, 97, 98, 99, 100, 101, 102, 103, 104, 105, 106, 107, 108, 109, 110, 111, 112, 113, 114, 115, 116, 117, 118, 119, 120, 121, 122, 123, 124, 125, 126, 127, 128, 129, 130, 131, 132, 133, 134, 135, 136, 137, 138, 139, 140, 141, 142, 143, 144, 145, 146, 147, 148, 149, 150, 151, 152, 153, 154, 155, 156, 157, 158, 159, 160, 161, 162, 163, 164, 165, 166, 167, 168, 169, 170, 171, 172, 173, 174, 175, 176, 177, 178, 179, 180, 181, 182, 183, 184, 185, 186, 187, 188, 189, 190, 191, 192, 193, 194, 195, 196, 197, 198, 199, 200, 201, 202, 203, 204, 205, 206, 207, 208, 209, 210, 211, 212, 213, 214, 215, 216, 217, 218, 219, 220, 221, 222, 223, 224, 225, 226, 227, 228, 229, 230, 231, 232, 233, 234, 235, 236, 237, 238, 239, 240, 241, 242, 243, 244, 245, 246, 247, 248, 249, 250, 251, 252, 253, 254, 255, 256, 257, 258, 259, 260, 261, 262, 263, 264, 265, 266, 267, 268, 269, 270, 271, 272, 273, 274, 275, 276, 277, 278, 279, 280, 281, 282, 283, 284, 285, 286, 287, 288, 289, 290, 291, 292, 293, 294, 295, 296, 297, 298, 299] from rfl]
  exact List.forall_mem_cons.mpr ⟨kc0.symm, List.forall_mem_cons.mpr ⟨kc1.symm, List.forall_mem_cons.mpr ⟨kc2.symm, List.forall_mem_cons.mpr ⟨kc3.symm, List.forall_mem_cons.mpr ⟨kc4.symm, List.forall_mem_cons.mpr ⟨kc5.symm, List.forall_mem_cons.mpr ⟨kc6.symm, List.forall_mem_cons.mpr ⟨kc7.symm, List.forall_mem_cons.mpr ⟨kc8.symm, List.forall_mem_cons.mpr ⟨kc9.symm, List.forall_mem_cons.mpr ⟨kc10.symm, List.forall_mem_cons.mpr ⟨kc11.symm, List.forall_mem_cons.mpr ⟨kc12.symm, List.forall_mem_cons.mpr ⟨kc13.symm, List.forall_mem_cons.mpr ⟨kc14.symm, List.forall_mem_cons.mpr ⟨kc15.symm, List.forall_mem_cons.mpr ⟨kc16.symm, List.forall_mem_cons.mpr ⟨kc17.symm, List.forall_mem_cons.mpr ⟨kc18.symm, List.forall_mem_cons.mpr ⟨kc19.symm, List.forall_mem_cons.mpr ⟨kc20.symm, List.forall_mem_cons.mpr ⟨kc21.symm, List.forall_mem_cons.mpr ⟨kc22.symm, List.forall_mem_cons.mpr ⟨kc23.symm, List.forall_mem_cons.mpr ⟨kc24.symm, List.forall_mem_cons.mpr ⟨kc25.symm, List.forall_mem_cons.mpr ⟨kc26.symm, List.forall_mem_cons.mpr ⟨kc27.symm, List.forall_mem_cons.mpr ⟨kc28.symm, List.forall_mem_cons.mpr ⟨kc29.symm, List.forall_mem_cons.mpr ⟨kc30.symm, List.forall_mem_cons.mpr ⟨kc31.symm, List.forall_mem_cons.mpr ⟨kc32.symm, List.forall_mem_cons.mpr ⟨kc33.symm, List.forall_mem_cons.mpr ⟨kc34.symm, List.forall_mem_cons.mpr ⟨kc35.symm, List.forall_mem_cons.mpr ⟨kc36.symm, List.forall_mem_cons.mpr ⟨kc37.symm, List.forall_mem_cons.mpr ⟨kc38.symm, List.forall_mem_cons.mpr ⟨kc39.symm, List.forall_mem_cons.mpr ⟨kc40.symm, List.forall_mem_cons.mpr ⟨kc41.symm, List.forall_mem_cons.mpr ⟨kc42.symm, List.forall_mem_cons.mpr ⟨kc43.symm, List.forall_mem_cons.mpr ⟨kc44.symm, List.forall_mem_cons.mpr ⟨kc45.symm, List.forall_mem_cons.mpr ⟨kc46.symm, List.forall_mem_cons.mpr ⟨kc47.symm, List.forall_mem_cons.mpr ⟨kc48.symm, List.forall_mem_cons.mpr ⟨kc49.symm, List.forall_mem_cons.mpr ⟨kc50.symm, List.forall_mem_cons.mpr ⟨kc51.symm, List.forall_mem_cons.mpr ⟨kc52.symm, List.forall_mem_cons.mpr ⟨kc53.symm, List.forall_mem_cons.mpr ⟨kc54.symm, List.forall_mem_cons.mpr ⟨kc55.symm, List.forall_mem_cons.mpr ⟨kc56.symm, List.forall_mem_cons.mpr ⟨kc57.symm, List.forall_mem_cons.mpr ⟨kc58.symm, List.forall_mem_cons.mpr ⟨kc59.symm, List.forall_mem_cons.mpr ⟨kc60.symm, List.forall_mem_cons.mpr ⟨kc61.symm, List.forall_mem_cons.mpr ⟨kc62.symm, List.forall_mem_cons.mpr ⟨kc63.symm, List.forall_mem_cons.mpr ⟨kc64.symm, List.forall_mem_cons.mpr ⟨kc65.symm, List.forall_mem_cons.mpr ⟨kc66.symm, List.forall_mem_cons.mpr ⟨kc67.symm, List.forall_mem_cons.mpr ⟨kc68.symm, List.forall_mem_cons.mpr ⟨kc69.symm, List.forall_mem_cons.mpr ⟨kc70.symm, List.forall_mem_cons.mpr ⟨kc71.symm, List.forall_mem_cons.mpr ⟨kc72.symm, List.forall_mem_cons.mpr ⟨kc73.symm, List.forall_mem_cons.mpr ⟨kc74.symm, List.forall_mem_cons.mpr ⟨kc75.symm, List.forall_mem_cons.mpr ⟨kc76.symm, List.forall_mem_cons.mpr ⟨kc77.symm, List.forall_mem_cons.mpr ⟨kc78.symm, List.forall_mem_cons.mpr ⟨kc79.symm, List.forall_mem_cons.mpr ⟨kc80.symm, List.forall_mem_cons.mpr ⟨kc81.symm, List.forall_mem_cons.mpr ⟨kc82.symm, List.forall_mem_cons.mpr ⟨kc83.symm, List.forall_mem_cons.mpr ⟨kc84.symm, List.forall_mem_cons.mpr ⟨kc85.symm, List.forall_mem_cons.mpr ⟨kc86.symm, List.forall_mem_cons.mpr ⟨kc87.symm, List.forall_mem_cons.mpr ⟨kc88.symm, List.forall_mem_cons.mpr ⟨kc89.symm, List.forall_mem_cons.mpr ⟨kc90.symm, List.forall_mem_cons.mpr ⟨kc91.symm, List.forall_mem_cons.mpr ⟨kc92.symm, List.forall_mem_cons.mpr ⟨kc93.symm, List.forall_mem_cons.mpr ⟨kc94.symm, List.forall_mem_cons.mpr ⟨kc95.symm, List.forall_mem_cons.mpr ⟨kc96.symm, List.forall_mem_cons.mpr ⟨kc97.symm, List.forall_mem_cons.mpr ⟨kc98.symm, List.forall_mem_cons.mpr ⟨kc99.symm, List.forall_mem_cons.mpr ⟨kc100.symm, List.forall_mem_cons.mpr ⟨kc101.symm, List.forall_mem_cons.mpr ⟨kc102.symm, List.forall_mem_cons.mpr ⟨kc103.symm, List.forall_mem_cons.mpr ⟨kc104.symm, List.forall_mem_cons.mpr ⟨kc105.symm, List.forall_mem_cons.mpr ⟨kc106.symm, List.forall_mem_cons.mpr ⟨kc107.symm, List.forall_mem_cons.mpr ⟨kc108.symm, List.forall_mem_cons.mpr ⟨kc109.symm, List.forall_mem_cons.mpr ⟨kc110.symm, List.forall_mem_cons.mpr ⟨kc111.symm, List.forall_mem_cons.mpr ⟨kc112.symm, List.forall_mem_cons.mpr ⟨kc113.symm, List.forall_mem_cons.mpr ⟨kc114.symm, List.forall_mem_cons.mpr ⟨kc115.symm, List.forall_mem_cons.mpr ⟨kc116.symm, List.forall_mem_cons.mpr ⟨kc117.symm, List.forall_mem_cons.mpr ⟨kc118.symm, List.forall_mem_cons.mpr ⟨kc119.symm, List.forall_mem_cons.mpr ⟨kc120.symm, List.forall_mem_cons.mpr ⟨kc121.symm, List.forall_mem_cons.mpr ⟨kc122.symm, List.forall_mem_cons.mpr ⟨kc123.symm, List.forall_mem_cons.mpr ⟨kc124.symm, List.forall_mem_cons.mpr ⟨kc125.symm, List.forall_mem_cons.mpr ⟨kc126.symm, List.forall_mem_cons.mpr ⟨kc127.symm, List.forall_mem_cons.mpr ⟨kc128.symm, List.forall_mem_cons.mpr ⟨kc129.symm, List.forall_mem_cons.mpr ⟨kc130.symm, List.forall_mem_cons.mpr ⟨kc131.symm, List.forall_mem_cons.mpr ⟨kc132.symm, List.forall_mem_cons.mpr ⟨kc133.symm, List.forall_mem_cons.mpr ⟨kc134.symm, List.forall_mem_cons.mpr ⟨kc135.symm, List.forall_mem_cons.mpr ⟨kc136.symm, List.forall_mem_cons.mpr ⟨kc137.symm, List.forall_mem_cons.mpr ⟨kc138.symm, List.forall_mem_cons.mpr ⟨kc139.symm, List.forall_mem_cons.mpr ⟨kc140.symm, List.forall_mem_cons.mpr ⟨kc141.symm, List.forall_mem_cons.mpr ⟨kc142.symm, List.forall_mem_cons.mpr ⟨kc143.symm, List.forall_mem_cons.mpr ⟨kc144.symm, List.forall_mem_cons.mpr ⟨kc145.symm, List.forall_mem_cons.mpr ⟨kc146.symm, List.forall_mem_cons.mpr ⟨kc147.symm, List.forall_mem_cons.mpr ⟨kc148.symm, List.forall_mem_cons.mpr ⟨kc149.symm, List.forall_mem_cons.mpr ⟨kc150.symm, List.forall_mem_cons.mpr ⟨kc151.symm, List.forall_mem_cons.mpr ⟨kc152.symm, List.forall_mem_cons.mpr ⟨kc153.symm, List.forall_mem_cons.mpr ⟨kc154.symm, List.forall_mem_cons.mpr ⟨kc155.symm, List.forall_mem_cons.mpr ⟨kc156.symm, List.forall_mem_cons.mpr ⟨kc157.symm, List.forall_mem_cons.mpr ⟨kc158.symm, List.forall_mem_cons.mpr ⟨kc159.symm, List.forall_mem_cons.mpr ⟨kc160.symm, List.forall_mem_cons.mpr ⟨kc161.symm, List.forall_mem_cons.mpr ⟨kc162.symm, List.forall_mem_cons.mpr ⟨kc163.symm, List.forall_mem_cons.mpr ⟨kc164.symm, List.forall_mem_cons.mpr ⟨kc165.symm, List.forall_mem_cons.mpr ⟨kc166.symm, List.forall_mem_cons.mpr ⟨kc167.symm, List.forall_mem_cons.mpr ⟨kc168.symm, List.forall_mem_cons.mpr ⟨kc169.symm, List.forall_mem_cons.mpr ⟨kc170.symm, List.forall_mem_cons.mpr ⟨kc171.symm, List.forall_mem_cons.mpr ⟨kc172.symm, List.forall_mem_cons.mpr ⟨kc173.symm, List.forall_mem_cons.mpr ⟨kc174.symm, List.forall_mem_cons.mpr ⟨kc175.symm, List.forall_mem_cons.mpr ⟨kc176.symm, List.forall_mem_cons.mpr ⟨kc177.symm, List.forall_mem_cons.mpr ⟨kc178.symm, List.forall_mem_cons.mpr ⟨kc179.symm, List.forall_mem_cons.mpr ⟨kc180.symm, List.forall_mem_cons.mpr ⟨kc181.symm, List.forall_mem_cons.mpr ⟨kc182.symm, List.forall_mem_cons.mpr ⟨kc183.symm, List.forall_mem_cons.mpr ⟨kc184.symm, List.forall_mem_cons.mpr ⟨kc185.symm, List.forall_mem_cons.mpr ⟨kc186.symm, List.forall_mem_cons.mpr ⟨kc187.symm, List.forall_mem_cons.mpr ⟨kc188.symm, List.forall_mem_cons.mpr ⟨kc189.symm, List.forall_mem_cons.mpr ⟨kc190.symm, List.forall_mem_cons.mpr ⟨kc191.symm, List.forall_mem_cons.mpr ⟨kc192.symm, List.forall_mem_cons.mpr ⟨kc193.symm, List.forall_mem_cons.mpr ⟨kc194.symm, List.forall_mem_cons.mpr ⟨kc195.symm, List.forall_mem_cons.mpr ⟨kc196.symm, List.forall_mem_cons.mpr ⟨kc197.symm, List.forall_mem_cons.mpr ⟨kc198.symm, List.forall_mem_cons.mpr ⟨kc199.symm, List.forall_mem_cons.mpr ⟨kc200.symm, List.forall_mem_cons.mpr ⟨kc201.symm, List.forall_mem_cons.mpr ⟨kc202.symm, List.forall_mem_cons.mpr ⟨kc203.symm, List.forall_mem_cons.mpr ⟨kc204.symm, List.forall_mem_cons.mpr ⟨kc205.symm, List.forall_mem_cons.mpr ⟨kc206.symm, List.forall_mem_cons.mpr ⟨kc207.symm, List.forall_mem_cons.mpr ⟨kc208.symm, List.forall_mem_cons.mpr ⟨kc209.symm, List.forall_mem_cons.mpr ⟨kc210.symm, List.forall_mem_cons.mpr ⟨kc211.symm, List.forall_mem_cons.mpr ⟨kc212.symm, List.forall_mem_cons.mpr ⟨kc213.symm, List.forall_mem_cons.mpr ⟨kc214.symm, List.forall_mem_cons.mpr ⟨kc215.symm, List.forall_mem_cons.mpr ⟨kc216.symm, List.forall_mem_cons.mpr ⟨kc217.symm, List.forall_mem_cons.mpr ⟨kc218.symm, List.forall_mem_cons.mpr ⟨kc219.symm, List.forall_mem_cons.mpr ⟨kc220.symm, List.forall_mem_cons.mpr ⟨kc221.symm, List.forall_mem_cons.mpr ⟨kc222.symm, List.forall_mem_cons.mpr ⟨kc223.symm, List.forall_mem_cons.mpr ⟨kc224.symm, List.forall_mem_cons.mpr ⟨kc225.symm, List.forall_mem_cons.mpr ⟨kc226.symm, List.forall_mem_cons.mpr ⟨kc227.symm, List.forall_mem_cons.mpr ⟨kc228.symm, List.forall_mem_cons.mpr ⟨kc229.symm, List.forall_mem_cons.mpr ⟨kc230.symm, List.forall_mem_cons.mpr ⟨kc231.symm, List.forall_mem_cons.mpr ⟨kc232.symm, List.forall_mem_cons.mpr ⟨kc233.symm, List.forall_mem_cons.mpr ⟨kc234.symm, List.forall_mem_cons.mpr ⟨kc235.symm, List.forall_mem_cons.mpr ⟨kc236.symm, List.forall_mem_cons.mpr ⟨kc237.symm, List.forall_mem_cons.mpr ⟨kc238.symm, List.forall_mem_cons.mpr ⟨kc239.symm, List.forall_mem_cons.mpr ⟨kc240.symm, List.forall_mem_cons.mpr ⟨kc241.symm, List.forall_mem_cons.mpr ⟨kc242.symm, List.forall_mem_cons.mpr ⟨kc243.symm, List.forall_mem_cons.mpr ⟨kc244.symm, List.forall_mem_cons.mpr ⟨kc245.symm, List.forall_mem_cons.mpr ⟨kc246.symm, List.forall_mem_cons.mpr ⟨kc247.symm, List.forall_mem_cons.mpr ⟨kc248.symm, List.forall_mem_cons.mpr ⟨kc249.symm, List.forall_mem_cons.mpr ⟨kc250.symm, List.forall_mem_cons.mpr ⟨kc251.symm, List.forall_mem_cons.mpr ⟨kc252.symm, List.forall_mem_cons.mpr ⟨kc253.symm, List.forall_mem_cons.mpr ⟨kc254.symm, List.forall_mem_cons.mpr ⟨kc255.symm, List.forall_mem_cons.mpr ⟨kc256.symm, List.forall_mem_cons.mpr ⟨kc257.symm, List.forall_mem_cons.mpr ⟨kc258.symm, List.forall_mem_cons.mpr ⟨kc259.symm, List.forall_mem_cons.mpr ⟨kc260.symm, List.forall_mem_cons.mpr ⟨kc261.symm, List.forall_mem_cons.mpr ⟨kc262.symm, List.forall_mem_cons.mpr ⟨kc263.symm, List.forall_mem_cons.mpr ⟨kc264.symm, List.forall_mem_cons.mpr ⟨kc265.symm, List.forall_mem_cons.mpr ⟨kc266.symm, List.forall_mem_cons.mpr ⟨kc267.symm, List.forall_mem_cons.mpr ⟨kc268.symm, List.forall_mem_cons.mpr ⟨kc269.symm, List.forall_mem_cons.mpr ⟨kc270.symm, List.forall_mem_cons.mpr ⟨kc271.symm, List.forall_mem_cons.mpr ⟨kc272.symm, List.forall_mem_cons.mpr ⟨kc273.symm, List.forall_mem_cons.mpr ⟨kc274.symm, List.forall_mem_cons.mpr ⟨kc275.symm, List.forall_mem_cons.mpr ⟨kc276.symm, List.forall_mem_cons.mpr ⟨kc277.symm, List.forall_mem_cons.mpr ⟨kc278.symm, List.forall_mem_cons.mpr ⟨kc279.symm, List.forall_mem_cons.mpr ⟨kc280.symm, List.forall_mem_cons.mpr ⟨kc281.symm, List.forall_mem_cons.mpr ⟨kc282.symm, List.forall_mem_cons.mpr ⟨kc283.symm, List.forall_mem_cons.mpr ⟨kc284.symm, List.forall_mem_cons.mpr ⟨kc285.symm, List.forall_mem_cons.mpr ⟨kc286.symm, List.forall_mem_cons.mpr ⟨kc287.symm, List.forall_mem_cons.mpr ⟨kc288.symm, List.forall_mem_cons.mpr ⟨kc289.symm, List.forall_mem_cons.mpr ⟨kc290.symm, List.forall_mem_cons.mpr ⟨kc291.symm, List.forall_mem_cons.mpr ⟨kc292.symm, List.forall_mem_cons.mpr ⟨kc293.symm, List.forall_mem_cons.mpr ⟨kc294.symm, List.forall_mem_cons.mpr ⟨kc295.symm, List.forall_mem_cons.mpr ⟨kc296.symm, List.forall_mem_cons.mpr ⟨kc297.symm, List.forall_mem_cons.mpr ⟨kc298.symm, List.forall_mem_cons.mpr ⟨kc299.symm, fun _ h => by cases h⟩⟩⟩⟩⟩⟩⟩⟩⟩⟩⟩⟩⟩⟩⟩⟩⟩⟩⟩⟩⟩⟩⟩⟩⟩⟩⟩⟩⟩⟩⟩⟩⟩⟩⟩⟩⟩⟩⟩⟩⟩⟩⟩⟩⟩⟩⟩⟩⟩⟩⟩⟩⟩⟩⟩⟩⟩⟩⟩⟩⟩⟩⟩⟩⟩⟩⟩⟩⟩⟩⟩⟩⟩⟩⟩⟩⟩⟩⟩⟩⟩⟩⟩⟩⟩⟩⟩⟩⟩⟩⟩⟩⟩⟩⟩⟩⟩⟩⟩⟩⟩⟩⟩⟩⟩⟩⟩⟩⟩⟩⟩⟩⟩⟩⟩⟩⟩⟩⟩⟩⟩⟩⟩⟩⟩⟩⟩⟩⟩⟩⟩⟩⟩⟩⟩⟩⟩⟩⟩⟩⟩⟩⟩⟩⟩⟩⟩⟩⟩⟩⟩⟩⟩⟩⟩⟩⟩⟩⟩⟩⟩⟩⟩⟩⟩⟩⟩⟩⟩⟩⟩⟩⟩⟩⟩⟩⟩⟩⟩⟩⟩⟩⟩⟩⟩⟩⟩⟩⟩⟩⟩⟩⟩⟩⟩⟩⟩⟩⟩⟩⟩⟩⟩⟩⟩⟩⟩⟩⟩⟩⟩⟩⟩⟩⟩⟩⟩⟩⟩⟩⟩⟩⟩⟩⟩⟩⟩⟩⟩⟩⟩⟩⟩⟩⟩⟩⟩⟩⟩⟩⟩⟩⟩⟩⟩⟩⟩⟩⟩⟩⟩⟩⟩⟩⟩⟩⟩⟩⟩⟩⟩⟩⟩⟩⟩⟩⟩⟩⟩⟩⟩⟩⟩⟩⟩⟩⟩⟩⟩⟩⟩⟩⟩⟩⟩⟩⟩⟩⟩⟩⟩⟩⟩⟩⟩⟩⟩⟩⟩⟩
theorem pL_300 {b : Nat} : (pL b).length = 300 := by
  unfold pL
  rw [List.length_append, List.length_append, kH_len, kM_len]
  rfl
/-- the start, in sight -/
theorem init_H {h : Nat → Option jC} {b n : Nat} : jB h b (pL b) n = jH h b X0 I0 J0 R0 n := by
  unfold jB jH
  rw [pL_300]
  congr 1
  funext q
  by_cases hq : q < b
  · rw [if_pos hq, if_pos hq]
  · rw [if_neg hq, if_neg hq]
    by_cases hk : q - b < 300
    · exact kc_all _ (List.mem_range.mpr hk)
    · rw [List.getElem?_eq_none (by rw [pL_300]; omega)]
      unfold cl
      rw [if_neg (by unfold fx; simp; intro z; omega)]
      have h4 : gL.find? (fun v => ad X0 v == q - b) = none := by
        apply List.find?_eq_none.mpr
        intro w hw
        have h6 := gw_300 (gL_gw hw)
        show ¬ ((w == q - b) = true)
        simp
        omega
      rw [h4]
      rfl
