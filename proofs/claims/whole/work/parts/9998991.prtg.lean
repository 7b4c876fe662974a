/-! to the front -/
/-- a cell of a node, moved -/
def tfC (M0 c : Nat) (k x : Int32) : Int32 := if (c = 252 ∧ lkd0 k = true) ∨ (c = 253 ∧ lkd1 k = true) ∨ (c = 254 ∧ lkd2 k = true) ∨ c = 255 ∨ (c = 258 ∧ k = nI 30) then shl (nI M0) x else x
/-- s nodes are moved -/
def tfI (M0 s : Nat) (I : Nat → Nat → Int32) : Nat → Nat → Int32 := fun c i => if 251 ≤ c ∧ c ≤ 258 ∧ i < s then tfC M0 c (I 251 (i + M0)) (I c (i + M0)) else I c i
section RTG
variable {A : Nat → Nat} {d b n : Nat} {h : Nat → Option jC} {X : jXX} {I : Nat → Nat → Int32} {J : Nat → Nat → Int64} {R : Nat → Nat → Nat} {M0 M : Nat}
theorem tfI_o {s c i : Nat} (hi : s ≤ i) : tfI M0 s I c i = I c i := by unfold tfI; rw [if_neg (by omega)]
theorem tfI_n {s c i : Nat} (hc : c < 251 ∨ 258 < c) : tfI M0 s I c i = I c i := by unfold tfI; rw [if_neg (by omega)]
/-- one node more -/
theorem tfI_s {s : Nat} {k x2 x3 x4 x5 x6 x7 x8 : Int32} (e1 : k = I 251 (s + M0)) (e2 : x2 = tfC M0 252 k (I 252 (s + M0))) (e3 : x3 = tfC M0 253 k (I 253 (s + M0))) (e4 : x4 = tfC M0 254 k (I 254 (s + M0))) (e5 : x5 = tfC M0 255 k (I 255 (s + M0))) (e6 : x6 = I 256 (s + M0)) (e7 : x7 = I 257 (s + M0)) (e8 : x8 = tfC M0 258 k (I 258 (s + M0))) : u2 (u2 (u2 (u2 (u2 (u2 (u2 (u2 (tfI M0 s I) 251 s k) 252 s x2) 253 s x3) 254 s x4) 255 s x5) 256 s x6) 257 s x7) 258 s x8 = tfI M0 (s + 1) I := by
  funext c i
  by_cases hi : i = s
  · subst hi
    by_cases hc : 251 ≤ c ∧ c ≤ 258
    · have hr : tfI M0 (i + 1) I c i = tfC M0 c (I 251 (i + M0)) (I c (i + M0)) := by unfold tfI; rw [if_pos (by omega)]
      rw [hr, ← e1]
      obtain ⟨c1, c2⟩ := hc
      have : c = 251 ∨ c = 252 ∨ c = 253 ∨ c = 254 ∨ c = 255 ∨ c = 256 ∨ c = 257 ∨ c = 258 := by omega
      rcases this with h | h | h | h | h | h | h | h
      · subst h
        rw [u2_k (by omega), u2_k (by omega), u2_k (by omega), u2_k (by omega), u2_k (by omega), u2_k (by omega), u2_k (by omega), u2_s, ← e1]
        unfold tfC; rw [if_neg (by omega)]
      · subst h
        rw [u2_k (by omega), u2_k (by omega), u2_k (by omega), u2_k (by omega), u2_k (by omega), u2_k (by omega), u2_s]; exact e2
      · subst h
        rw [u2_k (by omega), u2_k (by omega), u2_k (by omega), u2_k (by omega), u2_k (by omega), u2_s]; exact e3
      · subst h
        rw [u2_k (by omega), u2_k (by omega), u2_k (by omega), u2_k (by omega), u2_s]; exact e4
      · subst h
        rw [u2_k (by omega), u2_k (by omega), u2_k (by omega), u2_s]; exact e5
      · subst h
        rw [u2_k (by omega), u2_k (by omega), u2_s, e6]
        unfold tfC; rw [if_neg (by omega)]
      · subst h
        rw [u2_k (by omega), u2_s, e7]
        unfold tfC; rw [if_neg (by omega)]
      · subst h
        rw [u2_s]; exact e8
    · rw [u2_k (by omega), u2_k (by omega), u2_k (by omega), u2_k (by omega), u2_k (by omega), u2_k (by omega), u2_k (by omega), u2_k (by omega), tfI_n (by omega), tfI_n (by omega)]
  · have hr : ∀ (I : Nat → Nat → Int32) (k : Nat) (v : Int32), u2 I k s v c i = I c i := fun I k v => by unfold u2; rw [if_neg (by omega)]
    rw [hr, hr, hr, hr, hr, hr, hr, hr]
    unfold tfI
    by_cases hs : 251 ≤ c ∧ c ≤ 258 ∧ i < s
    · rw [if_pos hs, if_pos (by omega)]
    · rw [if_neg hs, if_neg (by omega)]
end RTG
