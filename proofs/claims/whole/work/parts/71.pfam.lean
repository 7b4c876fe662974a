/-! printed: families of cells (worlds, instances, plans, charts, houses of names), and writing into each cell -/
section PF
variable {h : Nat → Option jC} {b : Nat} {X : jXX} {I : Nat → Nat → Int32} {J : Nat → Nat → Int64} {R : Nat → Nat → Nat} {n p : Nat}
def isW (p : Nat) : Prop := p ∈ [57, 132]
theorem hW0 : ∀ p ∈ [57, 132], fx (p) = true ∧ sT (p) = (9, 13) := by decide +kernel
theorem gW0 (hp : isW p) : (jH h b X I J R n).1 (b + p) = some (9, 13, vf b 9 X I J R (p)) := H_fx (hW0 p hp).1 (hW0 p hp).2
theorem tW0_0 (hp : isW p) : tgt X R (p) 0 = R (p) 0 := by
  have h1 : ∀ p ∈ [57, 132], gf (p) 0 = 0 ∧ vr (p) 0 = true := by decide +kernel
  unfold tgt
  rw [if_pos (h1 p hp).1, if_pos (h1 p hp).2]
theorem pW0_0 {v : Nat} (hp : isW p) : jset (jH h b X I J R n) (b + p) (9, 13, updV (vf b 9 X I J R (p)) 0 (.ref (b + v))) = jH h b X I J (u2 R (p) 0 v) n := by
  have h1 : ∀ p ∈ [57, 132], gf (p) 0 = 0 ∧ vr (p) 0 = true := by decide +kernel
  exact H_pR (hW0 p hp).1 (hW0 p hp).2 (h1 p hp).2 (h1 p hp).1 (by decide +kernel)
theorem tW0_1 (hp : isW p) : tgt X R (p) 1 = p + 1 := by
  have h1 : ∀ p ∈ [57, 132], gf (p) 1 = 0 ∧ vr (p) 1 = false ∧ c0 (p) 1 = p + 1 := by decide +kernel
  unfold tgt
  rw [if_pos (h1 p hp).1, if_neg (by rw [(h1 p hp).2.1]; decide), (h1 p hp).2.2]
theorem tW0_2 (hp : isW p) : tgt X R (p) 2 = p + 8 := by
  have h1 : ∀ p ∈ [57, 132], gf (p) 2 = 0 ∧ vr (p) 2 = false ∧ c0 (p) 2 = p + 8 := by decide +kernel
  unfold tgt
  rw [if_pos (h1 p hp).1, if_neg (by rw [(h1 p hp).2.1]; decide), (h1 p hp).2.2]
theorem pW0_3 {v : Int32} (hp : isW p) : jset (jH h b X I J R n) (b + p) (9, 13, updV (vf b 9 X I J R (p)) 3 (.int v)) = jH h b X (u2 I (p) 3 v) J R n := H_pI (hW0 p hp).1 (hW0 p hp).2 (by decide +kernel)
theorem pW0_4 {v : Int32} (hp : isW p) : jset (jH h b X I J R n) (b + p) (9, 13, updV (vf b 9 X I J R (p)) 4 (.int v)) = jH h b X (u2 I (p) 4 v) J R n := H_pI (hW0 p hp).1 (hW0 p hp).2 (by decide +kernel)
theorem pW0_5 {v : Int32} (hp : isW p) : jset (jH h b X I J R n) (b + p) (9, 13, updV (vf b 9 X I J R (p)) 5 (.int v)) = jH h b X (u2 I (p) 5 v) J R n := H_pI (hW0 p hp).1 (hW0 p hp).2 (by decide +kernel)
theorem pW0_6 {v : Int32} (hp : isW p) : jset (jH h b X I J R n) (b + p) (9, 13, updV (vf b 9 X I J R (p)) 6 (.int v)) = jH h b X (u2 I (p) 6 v) J R n := H_pI (hW0 p hp).1 (hW0 p hp).2 (by decide +kernel)
theorem pW0_7 {v : Int32} (hp : isW p) : jset (jH h b X I J R n) (b + p) (9, 13, updV (vf b 9 X I J R (p)) 7 (.int v)) = jH h b X (u2 I (p) 7 v) J R n := H_pI (hW0 p hp).1 (hW0 p hp).2 (by decide +kernel)
theorem pW0_8 {v : Int32} (hp : isW p) : jset (jH h b X I J R n) (b + p) (9, 13, updV (vf b 9 X I J R (p)) 8 (.int v)) = jH h b X (u2 I (p) 8 v) J R n := H_pI (hW0 p hp).1 (hW0 p hp).2 (by decide +kernel)
theorem tW0_9 (hp : isW p) : tgt X R (p) 9 = p + 73 := by
  have h1 : ∀ p ∈ [57, 132], gf (p) 9 = 0 ∧ vr (p) 9 = false ∧ c0 (p) 9 = p + 73 := by decide +kernel
  unfold tgt
  rw [if_pos (h1 p hp).1, if_neg (by rw [(h1 p hp).2.1]; decide), (h1 p hp).2.2]
theorem pW0_10 {v : Int32} (hp : isW p) : jset (jH h b X I J R n) (b + p) (9, 13, updV (vf b 9 X I J R (p)) 10 (.int v)) = jH h b X (u2 I (p) 10 v) J R n := H_pI (hW0 p hp).1 (hW0 p hp).2 (by decide +kernel)
theorem pW0_11 {v : Int32} (hp : isW p) : jset (jH h b X I J R n) (b + p) (9, 13, updV (vf b 9 X I J R (p)) 11 (.int v)) = jH h b X (u2 I (p) 11 v) J R n := H_pI (hW0 p hp).1 (hW0 p hp).2 (by decide +kernel)
theorem pW0_12 {v : Int32} (hp : isW p) : jset (jH h b X I J R n) (b + p) (9, 13, updV (vf b 9 X I J R (p)) 12 (.int v)) = jH h b X (u2 I (p) 12 v) J R n := H_pI (hW0 p hp).1 (hW0 p hp).2 (by decide +kernel)
theorem hW1 : ∀ p ∈ [57, 132], fx (p + 1) = true ∧ sT (p + 1) = (7, 8) := by decide +kernel
theorem gW1 (hp : isW p) : (jH h b X I J R n).1 (b + (p + 1)) = some (7, 8, vf b 7 X I J R (p + 1)) := H_fx (hW1 p hp).1 (hW1 p hp).2
theorem tW1_0 (hp : isW p) : tgt X R (p + 1) 0 = p + 2 := by
  have h1 : ∀ p ∈ [57, 132], gf (p + 1) 0 = 0 ∧ vr (p + 1) 0 = false ∧ c0 (p + 1) 0 = p + 2 := by decide +kernel
  unfold tgt
  rw [if_pos (h1 p hp).1, if_neg (by rw [(h1 p hp).2.1]; decide), (h1 p hp).2.2]
theorem tW1_1 (hp : isW p) : tgt X R (p + 1) 1 = p + 3 := by
  have h1 : ∀ p ∈ [57, 132], gf (p + 1) 1 = 0 ∧ vr (p + 1) 1 = false ∧ c0 (p + 1) 1 = p + 3 := by decide +kernel
  unfold tgt
  rw [if_pos (h1 p hp).1, if_neg (by rw [(h1 p hp).2.1]; decide), (h1 p hp).2.2]
theorem tW1_2 (hp : isW p) : tgt X R (p + 1) 2 = p + 4 := by
  have h1 : ∀ p ∈ [57, 132], gf (p + 1) 2 = 0 ∧ vr (p + 1) 2 = false ∧ c0 (p + 1) 2 = p + 4 := by decide +kernel
  unfold tgt
  rw [if_pos (h1 p hp).1, if_neg (by rw [(h1 p hp).2.1]; decide), (h1 p hp).2.2]
theorem tW1_3 (hp : isW p) : tgt X R (p + 1) 3 = p + 5 := by
  have h1 : ∀ p ∈ [57, 132], gf (p + 1) 3 = 0 ∧ vr (p + 1) 3 = false ∧ c0 (p + 1) 3 = p + 5 := by decide +kernel
  unfold tgt
  rw [if_pos (h1 p hp).1, if_neg (by rw [(h1 p hp).2.1]; decide), (h1 p hp).2.2]
theorem tW1_4 (hp : isW p) : tgt X R (p + 1) 4 = p + 6 := by
  have h1 : ∀ p ∈ [57, 132], gf (p + 1) 4 = 0 ∧ vr (p + 1) 4 = false ∧ c0 (p + 1) 4 = p + 6 := by decide +kernel
  unfold tgt
  rw [if_pos (h1 p hp).1, if_neg (by rw [(h1 p hp).2.1]; decide), (h1 p hp).2.2]
theorem tW1_5 (hp : isW p) : tgt X R (p + 1) 5 = p + 7 := by
  have h1 : ∀ p ∈ [57, 132], gf (p + 1) 5 = 0 ∧ vr (p + 1) 5 = false ∧ c0 (p + 1) 5 = p + 7 := by decide +kernel
  unfold tgt
  rw [if_pos (h1 p hp).1, if_neg (by rw [(h1 p hp).2.1]; decide), (h1 p hp).2.2]
theorem pW1_6 {v : Int32} (hp : isW p) : jset (jH h b X I J R n) (b + (p + 1)) (7, 8, updV (vf b 7 X I J R (p + 1)) 6 (.int v)) = jH h b X (u2 I (p + 1) 6 v) J R n := H_pI (hW1 p hp).1 (hW1 p hp).2 (by decide +kernel)
theorem pW1_7 {v : Int32} (hp : isW p) : jset (jH h b X I J R n) (b + (p + 1)) (7, 8, updV (vf b 7 X I J R (p + 1)) 7 (.int v)) = jH h b X (u2 I (p + 1) 7 v) J R n := H_pI (hW1 p hp).1 (hW1 p hp).2 (by decide +kernel)
theorem hW2 : ∀ p ∈ [57, 132], fx (p + 2) = true ∧ sT (p + 2) = (20, (sT (p + 2)).2) := by decide +kernel
theorem gW2 (hp : isW p) : (jH h b X I J R n).1 (b + (p + 2)) = some (20, (sT (p + 2)).2, vf b 20 X I J R (p + 2)) := H_fx (hW2 p hp).1 (hW2 p hp).2
theorem pW2 {i : Nat} {v : Int32} (hp : isW p) : jset (jH h b X I J R n) (b + (p + 2)) (20, (sT (p + 2)).2, updV (vf b 20 X I J R (p + 2)) i (.int v)) = jH h b X (u2 I (p + 2) i v) J R n := H_pI (hW2 p hp).1 (hW2 p hp).2 (by simp)
theorem hW3 : ∀ p ∈ [57, 132], fx (p + 3) = true ∧ sT (p + 3) = (20, (sT (p + 3)).2) := by decide +kernel
theorem gW3 (hp : isW p) : (jH h b X I J R n).1 (b + (p + 3)) = some (20, (sT (p + 3)).2, vf b 20 X I J R (p + 3)) := H_fx (hW3 p hp).1 (hW3 p hp).2
theorem pW3 {i : Nat} {v : Int32} (hp : isW p) : jset (jH h b X I J R n) (b + (p + 3)) (20, (sT (p + 3)).2, updV (vf b 20 X I J R (p + 3)) i (.int v)) = jH h b X (u2 I (p + 3) i v) J R n := H_pI (hW3 p hp).1 (hW3 p hp).2 (by simp)
theorem hW4 : ∀ p ∈ [57, 132], fx (p + 4) = true ∧ sT (p + 4) = (20, (sT (p + 4)).2) := by decide +kernel
theorem gW4 (hp : isW p) : (jH h b X I J R n).1 (b + (p + 4)) = some (20, (sT (p + 4)).2, vf b 20 X I J R (p + 4)) := H_fx (hW4 p hp).1 (hW4 p hp).2
theorem pW4 {i : Nat} {v : Int32} (hp : isW p) : jset (jH h b X I J R n) (b + (p + 4)) (20, (sT (p + 4)).2, updV (vf b 20 X I J R (p + 4)) i (.int v)) = jH h b X (u2 I (p + 4) i v) J R n := H_pI (hW4 p hp).1 (hW4 p hp).2 (by simp)
theorem hW5 : ∀ p ∈ [57, 132], fx (p + 5) = true ∧ sT (p + 5) = (20, (sT (p + 5)).2) := by decide +kernel
theorem gW5 (hp : isW p) : (jH h b X I J R n).1 (b + (p + 5)) = some (20, (sT (p + 5)).2, vf b 20 X I J R (p + 5)) := H_fx (hW5 p hp).1 (hW5 p hp).2
theorem pW5 {i : Nat} {v : Int32} (hp : isW p) : jset (jH h b X I J R n) (b + (p + 5)) (20, (sT (p + 5)).2, updV (vf b 20 X I J R (p + 5)) i (.int v)) = jH h b X (u2 I (p + 5) i v) J R n := H_pI (hW5 p hp).1 (hW5 p hp).2 (by simp)
theorem hW6 : ∀ p ∈ [57, 132], fx (p + 6) = true ∧ sT (p + 6) = (20, (sT (p + 6)).2) := by decide +kernel
theorem gW6 (hp : isW p) : (jH h b X I J R n).1 (b + (p + 6)) = some (20, (sT (p + 6)).2, vf b 20 X I J R (p + 6)) := H_fx (hW6 p hp).1 (hW6 p hp).2
theorem pW6 {i : Nat} {v : Int32} (hp : isW p) : jset (jH h b X I J R n) (b + (p + 6)) (20, (sT (p + 6)).2, updV (vf b 20 X I J R (p + 6)) i (.int v)) = jH h b X (u2 I (p + 6) i v) J R n := H_pI (hW6 p hp).1 (hW6 p hp).2 (by simp)
theorem hW7 : ∀ p ∈ [57, 132], fx (p + 7) = true ∧ sT (p + 7) = (20, (sT (p + 7)).2) := by decide +kernel
theorem gW7 (hp : isW p) : (jH h b X I J R n).1 (b + (p + 7)) = some (20, (sT (p + 7)).2, vf b 20 X I J R (p + 7)) := H_fx (hW7 p hp).1 (hW7 p hp).2
theorem pW7 {i : Nat} {v : Int32} (hp : isW p) : jset (jH h b X I J R n) (b + (p + 7)) (20, (sT (p + 7)).2, updV (vf b 20 X I J R (p + 7)) i (.int v)) = jH h b X (u2 I (p + 7) i v) J R n := H_pI (hW7 p hp).1 (hW7 p hp).2 (by simp)
theorem hW8 : ∀ p ∈ [57, 132], fx (p + 8) = true ∧ sT (p + 8) = (24, 8) := by decide +kernel
theorem gW8 (hp : isW p) : (jH h b X I J R n).1 (b + (p + 8)) = some (24, 8, vf b 24 X I J R (p + 8)) := H_fx (hW8 p hp).1 (hW8 p hp).2
theorem pW8 {i v : Nat} (hp : isW p) (h8 : i < 8) : jset (jH h b X I J R n) (b + (p + 8)) (24, 8, updV (vf b 24 X I J R (p + 8)) i (.ref (b + v))) = jH h b X I J (u2 R (p + 8) i v) n := H_pR (hW8 p hp).1 (hW8 p hp).2 (by rcases (show p = 57 ∨ p = 132 by simpa [isW] using hp) with rfl | rfl <;> simp [vr]) (by rcases (show p = 57 ∨ p = 132 by simpa [isW] using hp) with rfl | rfl <;> simp [gf]) (Or.inl ⟨rfl, h8⟩)
theorem hW73 : ∀ p ∈ [57, 132], fx (p + 73) = true ∧ sT (p + 73) = (20, 64) := by decide +kernel
theorem gW73 (hp : isW p) : (jH h b X I J R n).1 (b + (p + 73)) = some (20, 64, vf b 20 X I J R (p + 73)) := H_fx (hW73 p hp).1 (hW73 p hp).2
theorem pW73 {i : Nat} {v : Int32} (hp : isW p) : jset (jH h b X I J R n) (b + (p + 73)) (20, 64, updV (vf b 20 X I J R (p + 73)) i (.int v)) = jH h b X (u2 I (p + 73) i v) J R n := H_pI (hW73 p hp).1 (hW73 p hp).2 (by simp)
def isI (p : Nat) : Prop := p ∈ [66, 74, 82, 90, 98, 106, 114, 122, 141, 149, 157, 165, 173, 181, 189, 197]
theorem hI0 : ∀ p ∈ [66, 74, 82, 90, 98, 106, 114, 122, 141, 149, 157, 165, 173, 181, 189, 197], fx (p) = true ∧ sT (p) = (2, 15) := by decide +kernel
theorem gI0 (hp : isI p) : (jH h b X I J R n).1 (b + p) = some (2, 15, vf b 2 X I J R (p)) := H_fx (hI0 p hp).1 (hI0 p hp).2
theorem pI0_0 {v : Int32} (hp : isI p) : jset (jH h b X I J R n) (b + p) (2, 15, updV (vf b 2 X I J R (p)) 0 (.int v)) = jH h b X (u2 I (p) 0 v) J R n := H_pI (hI0 p hp).1 (hI0 p hp).2 (by decide +kernel)
theorem pI0_1 {v : Int32} (hp : isI p) : jset (jH h b X I J R n) (b + p) (2, 15, updV (vf b 2 X I J R (p)) 1 (.int v)) = jH h b X (u2 I (p) 1 v) J R n := H_pI (hI0 p hp).1 (hI0 p hp).2 (by decide +kernel)
theorem pI0_2 {v : Int32} (hp : isI p) : jset (jH h b X I J R n) (b + p) (2, 15, updV (vf b 2 X I J R (p)) 2 (.int v)) = jH h b X (u2 I (p) 2 v) J R n := H_pI (hI0 p hp).1 (hI0 p hp).2 (by decide +kernel)
theorem pI0_3 {v : Int32} (hp : isI p) : jset (jH h b X I J R n) (b + p) (2, 15, updV (vf b 2 X I J R (p)) 3 (.int v)) = jH h b X (u2 I (p) 3 v) J R n := H_pI (hI0 p hp).1 (hI0 p hp).2 (by decide +kernel)
theorem pI0_4 {v : Int32} (hp : isI p) : jset (jH h b X I J R n) (b + p) (2, 15, updV (vf b 2 X I J R (p)) 4 (.int v)) = jH h b X (u2 I (p) 4 v) J R n := H_pI (hI0 p hp).1 (hI0 p hp).2 (by decide +kernel)
theorem pI0_5 {v : Int32} (hp : isI p) : jset (jH h b X I J R n) (b + p) (2, 15, updV (vf b 2 X I J R (p)) 5 (.int v)) = jH h b X (u2 I (p) 5 v) J R n := H_pI (hI0 p hp).1 (hI0 p hp).2 (by decide +kernel)
theorem tI0_6 (hp : isI p) : tgt X R (p) 6 = p + 1 := by
  have h1 : ∀ p ∈ [66, 74, 82, 90, 98, 106, 114, 122, 141, 149, 157, 165, 173, 181, 189, 197], gf (p) 6 = 0 ∧ vr (p) 6 = false ∧ c0 (p) 6 = p + 1 := by decide +kernel
  unfold tgt
  rw [if_pos (h1 p hp).1, if_neg (by rw [(h1 p hp).2.1]; decide), (h1 p hp).2.2]
theorem pI0_7 {v : Int32} (hp : isI p) : jset (jH h b X I J R n) (b + p) (2, 15, updV (vf b 2 X I J R (p)) 7 (.int v)) = jH h b X (u2 I (p) 7 v) J R n := H_pI (hI0 p hp).1 (hI0 p hp).2 (by decide +kernel)
theorem tI0_8 (hp : isI p) : tgt X R (p) 8 = p + 2 := by
  have h1 : ∀ p ∈ [66, 74, 82, 90, 98, 106, 114, 122, 141, 149, 157, 165, 173, 181, 189, 197], gf (p) 8 = 0 ∧ vr (p) 8 = false ∧ c0 (p) 8 = p + 2 := by decide +kernel
  unfold tgt
  rw [if_pos (h1 p hp).1, if_neg (by rw [(h1 p hp).2.1]; decide), (h1 p hp).2.2]
theorem tI0_9 (hp : isI p) : tgt X R (p) 9 = p + 3 := by
  have h1 : ∀ p ∈ [66, 74, 82, 90, 98, 106, 114, 122, 141, 149, 157, 165, 173, 181, 189, 197], gf (p) 9 = 0 ∧ vr (p) 9 = false ∧ c0 (p) 9 = p + 3 := by decide +kernel
  unfold tgt
  rw [if_pos (h1 p hp).1, if_neg (by rw [(h1 p hp).2.1]; decide), (h1 p hp).2.2]
theorem tI0_10 (hp : isI p) : tgt X R (p) 10 = p + 4 := by
  have h1 : ∀ p ∈ [66, 74, 82, 90, 98, 106, 114, 122, 141, 149, 157, 165, 173, 181, 189, 197], gf (p) 10 = 0 ∧ vr (p) 10 = false ∧ c0 (p) 10 = p + 4 := by decide +kernel
  unfold tgt
  rw [if_pos (h1 p hp).1, if_neg (by rw [(h1 p hp).2.1]; decide), (h1 p hp).2.2]
theorem tI0_11 (hp : isI p) : tgt X R (p) 11 = p + 5 := by
  have h1 : ∀ p ∈ [66, 74, 82, 90, 98, 106, 114, 122, 141, 149, 157, 165, 173, 181, 189, 197], gf (p) 11 = 0 ∧ vr (p) 11 = false ∧ c0 (p) 11 = p + 5 := by decide +kernel
  unfold tgt
  rw [if_pos (h1 p hp).1, if_neg (by rw [(h1 p hp).2.1]; decide), (h1 p hp).2.2]
theorem pI0_12 {v : Int32} (hp : isI p) : jset (jH h b X I J R n) (b + p) (2, 15, updV (vf b 2 X I J R (p)) 12 (.int v)) = jH h b X (u2 I (p) 12 v) J R n := H_pI (hI0 p hp).1 (hI0 p hp).2 (by decide +kernel)
theorem tI0_13 (hp : isI p) : tgt X R (p) 13 = p + 6 := by
  have h1 : ∀ p ∈ [66, 74, 82, 90, 98, 106, 114, 122, 141, 149, 157, 165, 173, 181, 189, 197], gf (p) 13 = 0 ∧ vr (p) 13 = false ∧ c0 (p) 13 = p + 6 := by decide +kernel
  unfold tgt
  rw [if_pos (h1 p hp).1, if_neg (by rw [(h1 p hp).2.1]; decide), (h1 p hp).2.2]
theorem tI0_14 (hp : isI p) : tgt X R (p) 14 = p + 7 := by
  have h1 : ∀ p ∈ [66, 74, 82, 90, 98, 106, 114, 122, 141, 149, 157, 165, 173, 181, 189, 197], gf (p) 14 = 0 ∧ vr (p) 14 = false ∧ c0 (p) 14 = p + 7 := by decide +kernel
  unfold tgt
  rw [if_pos (h1 p hp).1, if_neg (by rw [(h1 p hp).2.1]; decide), (h1 p hp).2.2]
theorem hI1 : ∀ p ∈ [66, 74, 82, 90, 98, 106, 114, 122, 141, 149, 157, 165, 173, 181, 189, 197], fx (p + 1) = true ∧ sT (p + 1) = (20, 6) := by decide +kernel
theorem gI1 (hp : isI p) : (jH h b X I J R n).1 (b + (p + 1)) = some (20, 6, vf b 20 X I J R (p + 1)) := H_fx (hI1 p hp).1 (hI1 p hp).2
theorem pI1 {i : Nat} {v : Int32} (hp : isI p) : jset (jH h b X I J R n) (b + (p + 1)) (20, 6, updV (vf b 20 X I J R (p + 1)) i (.int v)) = jH h b X (u2 I (p + 1) i v) J R n := H_pI (hI1 p hp).1 (hI1 p hp).2 (by simp)
theorem hI2 : ∀ p ∈ [66, 74, 82, 90, 98, 106, 114, 122, 141, 149, 157, 165, 173, 181, 189, 197], fx (p + 2) = true ∧ sT (p + 2) = (20, 8) := by decide +kernel
theorem gI2 (hp : isI p) : (jH h b X I J R n).1 (b + (p + 2)) = some (20, 8, vf b 20 X I J R (p + 2)) := H_fx (hI2 p hp).1 (hI2 p hp).2
theorem pI2 {i : Nat} {v : Int32} (hp : isI p) : jset (jH h b X I J R n) (b + (p + 2)) (20, 8, updV (vf b 20 X I J R (p + 2)) i (.int v)) = jH h b X (u2 I (p + 2) i v) J R n := H_pI (hI2 p hp).1 (hI2 p hp).2 (by simp)
theorem hI3 : ∀ p ∈ [66, 74, 82, 90, 98, 106, 114, 122, 141, 149, 157, 165, 173, 181, 189, 197], fx (p + 3) = true ∧ sT (p + 3) = (20, 8) := by decide +kernel
theorem gI3 (hp : isI p) : (jH h b X I J R n).1 (b + (p + 3)) = some (20, 8, vf b 20 X I J R (p + 3)) := H_fx (hI3 p hp).1 (hI3 p hp).2
theorem pI3 {i : Nat} {v : Int32} (hp : isI p) : jset (jH h b X I J R n) (b + (p + 3)) (20, 8, updV (vf b 20 X I J R (p + 3)) i (.int v)) = jH h b X (u2 I (p + 3) i v) J R n := H_pI (hI3 p hp).1 (hI3 p hp).2 (by simp)
theorem hI4 : ∀ p ∈ [66, 74, 82, 90, 98, 106, 114, 122, 141, 149, 157, 165, 173, 181, 189, 197], fx (p + 4) = true ∧ sT (p + 4) = (20, 8) := by decide +kernel
theorem gI4 (hp : isI p) : (jH h b X I J R n).1 (b + (p + 4)) = some (20, 8, vf b 20 X I J R (p + 4)) := H_fx (hI4 p hp).1 (hI4 p hp).2
theorem pI4 {i : Nat} {v : Int32} (hp : isI p) : jset (jH h b X I J R n) (b + (p + 4)) (20, 8, updV (vf b 20 X I J R (p + 4)) i (.int v)) = jH h b X (u2 I (p + 4) i v) J R n := H_pI (hI4 p hp).1 (hI4 p hp).2 (by simp)
theorem hI5 : ∀ p ∈ [66, 74, 82, 90, 98, 106, 114, 122, 141, 149, 157, 165, 173, 181, 189, 197], fx (p + 5) = true ∧ sT (p + 5) = (20, 8) := by decide +kernel
theorem gI5 (hp : isI p) : (jH h b X I J R n).1 (b + (p + 5)) = some (20, 8, vf b 20 X I J R (p + 5)) := H_fx (hI5 p hp).1 (hI5 p hp).2
theorem pI5 {i : Nat} {v : Int32} (hp : isI p) : jset (jH h b X I J R n) (b + (p + 5)) (20, 8, updV (vf b 20 X I J R (p + 5)) i (.int v)) = jH h b X (u2 I (p + 5) i v) J R n := H_pI (hI5 p hp).1 (hI5 p hp).2 (by simp)
theorem hI6 : ∀ p ∈ [66, 74, 82, 90, 98, 106, 114, 122, 141, 149, 157, 165, 173, 181, 189, 197], fx (p + 6) = true ∧ sT (p + 6) = (20, 4) := by decide +kernel
theorem gI6 (hp : isI p) : (jH h b X I J R n).1 (b + (p + 6)) = some (20, 4, vf b 20 X I J R (p + 6)) := H_fx (hI6 p hp).1 (hI6 p hp).2
theorem pI6 {i : Nat} {v : Int32} (hp : isI p) : jset (jH h b X I J R n) (b + (p + 6)) (20, 4, updV (vf b 20 X I J R (p + 6)) i (.int v)) = jH h b X (u2 I (p + 6) i v) J R n := H_pI (hI6 p hp).1 (hI6 p hp).2 (by simp)
theorem hI7 : ∀ p ∈ [66, 74, 82, 90, 98, 106, 114, 122, 141, 149, 157, 165, 173, 181, 189, 197], fx (p + 7) = true ∧ sT (p + 7) = (20, 4) := by decide +kernel
theorem gI7 (hp : isI p) : (jH h b X I J R n).1 (b + (p + 7)) = some (20, 4, vf b 20 X I J R (p + 7)) := H_fx (hI7 p hp).1 (hI7 p hp).2
theorem pI7 {i : Nat} {v : Int32} (hp : isI p) : jset (jH h b X I J R n) (b + (p + 7)) (20, 4, updV (vf b 20 X I J R (p + 7)) i (.int v)) = jH h b X (u2 I (p + 7) i v) J R n := H_pI (hI7 p hp).1 (hI7 p hp).2 (by simp)
def isP (p : Nat) : Prop := p ∈ [10, 33]
theorem hP0 : ∀ p ∈ [10, 33], fx (p) = true ∧ sT (p) = (5, 18) := by decide +kernel
theorem gP0 (hp : isP p) : (jH h b X I J R n).1 (b + p) = some (5, 18, vf b 5 X I J R (p)) := H_fx (hP0 p hp).1 (hP0 p hp).2
theorem tP0_0 (hp : isP p) : tgt X R (p) 0 = p + 1 := by
  have h1 : ∀ p ∈ [10, 33], gf (p) 0 = 0 ∧ vr (p) 0 = false ∧ c0 (p) 0 = p + 1 := by decide +kernel
  unfold tgt
  rw [if_pos (h1 p hp).1, if_neg (by rw [(h1 p hp).2.1]; decide), (h1 p hp).2.2]
theorem pP0_1 {v : Int32} (hp : isP p) : jset (jH h b X I J R n) (b + p) (5, 18, updV (vf b 5 X I J R (p)) 1 (.int v)) = jH h b X (u2 I (p) 1 v) J R n := H_pI (hP0 p hp).1 (hP0 p hp).2 (by decide +kernel)
theorem tP0_2 (hp : isP p) : tgt X R (p) 2 = p + 4 := by
  have h1 : ∀ p ∈ [10, 33], gf (p) 2 = 0 ∧ vr (p) 2 = false ∧ c0 (p) 2 = p + 4 := by decide +kernel
  unfold tgt
  rw [if_pos (h1 p hp).1, if_neg (by rw [(h1 p hp).2.1]; decide), (h1 p hp).2.2]
theorem pP0_3 {v : Int32} (hp : isP p) : jset (jH h b X I J R n) (b + p) (5, 18, updV (vf b 5 X I J R (p)) 3 (.int v)) = jH h b X (u2 I (p) 3 v) J R n := H_pI (hP0 p hp).1 (hP0 p hp).2 (by decide +kernel)
theorem tP0_4 (hp : isP p) : tgt X R (p) 4 = p + 9 := by
  have h1 : ∀ p ∈ [10, 33], gf (p) 4 = 0 ∧ vr (p) 4 = false ∧ c0 (p) 4 = p + 9 := by decide +kernel
  unfold tgt
  rw [if_pos (h1 p hp).1, if_neg (by rw [(h1 p hp).2.1]; decide), (h1 p hp).2.2]
theorem tP0_5 (hp : isP p) : tgt X R (p) 5 = p + 10 := by
  have h1 : ∀ p ∈ [10, 33], gf (p) 5 = 0 ∧ vr (p) 5 = false ∧ c0 (p) 5 = p + 10 := by decide +kernel
  unfold tgt
  rw [if_pos (h1 p hp).1, if_neg (by rw [(h1 p hp).2.1]; decide), (h1 p hp).2.2]
theorem tP0_6 (hp : isP p) : tgt X R (p) 6 = p + 11 := by
  have h1 : ∀ p ∈ [10, 33], gf (p) 6 = 0 ∧ vr (p) 6 = false ∧ c0 (p) 6 = p + 11 := by decide +kernel
  unfold tgt
  rw [if_pos (h1 p hp).1, if_neg (by rw [(h1 p hp).2.1]; decide), (h1 p hp).2.2]
theorem tP0_7 (hp : isP p) : tgt X R (p) 7 = p + 12 := by
  have h1 : ∀ p ∈ [10, 33], gf (p) 7 = 0 ∧ vr (p) 7 = false ∧ c0 (p) 7 = p + 12 := by decide +kernel
  unfold tgt
  rw [if_pos (h1 p hp).1, if_neg (by rw [(h1 p hp).2.1]; decide), (h1 p hp).2.2]
theorem tP0_8 (hp : isP p) : tgt X R (p) 8 = p + 13 := by
  have h1 : ∀ p ∈ [10, 33], gf (p) 8 = 0 ∧ vr (p) 8 = false ∧ c0 (p) 8 = p + 13 := by decide +kernel
  unfold tgt
  rw [if_pos (h1 p hp).1, if_neg (by rw [(h1 p hp).2.1]; decide), (h1 p hp).2.2]
theorem tP0_9 (hp : isP p) : tgt X R (p) 9 = p + 14 := by
  have h1 : ∀ p ∈ [10, 33], gf (p) 9 = 0 ∧ vr (p) 9 = false ∧ c0 (p) 9 = p + 14 := by decide +kernel
  unfold tgt
  rw [if_pos (h1 p hp).1, if_neg (by rw [(h1 p hp).2.1]; decide), (h1 p hp).2.2]
theorem tP0_10 (hp : isP p) : tgt X R (p) 10 = p + 15 := by
  have h1 : ∀ p ∈ [10, 33], gf (p) 10 = 0 ∧ vr (p) 10 = false ∧ c0 (p) 10 = p + 15 := by decide +kernel
  unfold tgt
  rw [if_pos (h1 p hp).1, if_neg (by rw [(h1 p hp).2.1]; decide), (h1 p hp).2.2]
theorem tP0_11 (hp : isP p) : tgt X R (p) 11 = p + 16 := by
  have h1 : ∀ p ∈ [10, 33], gf (p) 11 = 0 ∧ vr (p) 11 = false ∧ c0 (p) 11 = p + 16 := by decide +kernel
  unfold tgt
  rw [if_pos (h1 p hp).1, if_neg (by rw [(h1 p hp).2.1]; decide), (h1 p hp).2.2]
theorem tP0_12 (hp : isP p) : tgt X R (p) 12 = p + 17 := by
  have h1 : ∀ p ∈ [10, 33], gf (p) 12 = 0 ∧ vr (p) 12 = false ∧ c0 (p) 12 = p + 17 := by decide +kernel
  unfold tgt
  rw [if_pos (h1 p hp).1, if_neg (by rw [(h1 p hp).2.1]; decide), (h1 p hp).2.2]
theorem tP0_13 (hp : isP p) : tgt X R (p) 13 = p + 18 := by
  have h1 : ∀ p ∈ [10, 33], gf (p) 13 = 0 ∧ vr (p) 13 = false ∧ c0 (p) 13 = p + 18 := by decide +kernel
  unfold tgt
  rw [if_pos (h1 p hp).1, if_neg (by rw [(h1 p hp).2.1]; decide), (h1 p hp).2.2]
theorem tP0_14 (hp : isP p) : tgt X R (p) 14 = p + 19 := by
  have h1 : ∀ p ∈ [10, 33], gf (p) 14 = 0 ∧ vr (p) 14 = false ∧ c0 (p) 14 = p + 19 := by decide +kernel
  unfold tgt
  rw [if_pos (h1 p hp).1, if_neg (by rw [(h1 p hp).2.1]; decide), (h1 p hp).2.2]
theorem tP0_15 (hp : isP p) : tgt X R (p) 15 = p + 20 := by
  have h1 : ∀ p ∈ [10, 33], gf (p) 15 = 0 ∧ vr (p) 15 = false ∧ c0 (p) 15 = p + 20 := by decide +kernel
  unfold tgt
  rw [if_pos (h1 p hp).1, if_neg (by rw [(h1 p hp).2.1]; decide), (h1 p hp).2.2]
theorem tP0_16 (hp : isP p) : tgt X R (p) 16 = p + 21 := by
  have h1 : ∀ p ∈ [10, 33], gf (p) 16 = 0 ∧ vr (p) 16 = false ∧ c0 (p) 16 = p + 21 := by decide +kernel
  unfold tgt
  rw [if_pos (h1 p hp).1, if_neg (by rw [(h1 p hp).2.1]; decide), (h1 p hp).2.2]
theorem tP0_17 (hp : isP p) : tgt X R (p) 17 = p + 22 := by
  have h1 : ∀ p ∈ [10, 33], gf (p) 17 = 0 ∧ vr (p) 17 = false ∧ c0 (p) 17 = p + 22 := by decide +kernel
  unfold tgt
  rw [if_pos (h1 p hp).1, if_neg (by rw [(h1 p hp).2.1]; decide), (h1 p hp).2.2]
theorem hP1 : ∀ p ∈ [10, 33], fx (p + 1) = true ∧ sT (p + 1) = (3, 3) := by decide +kernel
theorem gP1 (hp : isP p) : (jH h b X I J R n).1 (b + (p + 1)) = some (3, 3, vf b 3 X I J R (p + 1)) := H_fx (hP1 p hp).1 (hP1 p hp).2
theorem tP1_0 (hp : isP p) : tgt X R (p + 1) 0 = p + 2 := by
  have h1 : ∀ p ∈ [10, 33], gf (p + 1) 0 = 0 ∧ vr (p + 1) 0 = false ∧ c0 (p + 1) 0 = p + 2 := by decide +kernel
  unfold tgt
  rw [if_pos (h1 p hp).1, if_neg (by rw [(h1 p hp).2.1]; decide), (h1 p hp).2.2]
theorem tP1_1 (hp : isP p) : tgt X R (p + 1) 1 = p + 3 := by
  have h1 : ∀ p ∈ [10, 33], gf (p + 1) 1 = 0 ∧ vr (p + 1) 1 = false ∧ c0 (p + 1) 1 = p + 3 := by decide +kernel
  unfold tgt
  rw [if_pos (h1 p hp).1, if_neg (by rw [(h1 p hp).2.1]; decide), (h1 p hp).2.2]
theorem pP1_2 {v : Int32} (hp : isP p) : jset (jH h b X I J R n) (b + (p + 1)) (3, 3, updV (vf b 3 X I J R (p + 1)) 2 (.int v)) = jH h b X (u2 I (p + 1) 2 v) J R n := H_pI (hP1 p hp).1 (hP1 p hp).2 (by decide +kernel)
theorem hP2 : ∀ p ∈ [10, 33], fx (p + 2) = true ∧ sT (p + 2) = (21, 1600) := by decide +kernel
theorem gP2 (hp : isP p) : (jH h b X I J R n).1 (b + (p + 2)) = some (21, 1600, vf b 21 X I J R (p + 2)) := H_fx (hP2 p hp).1 (hP2 p hp).2
theorem pP2 {i : Nat} {v : Int64} (hp : isP p) : jset (jH h b X I J R n) (b + (p + 2)) (21, 1600, updV (vf b 21 X I J R (p + 2)) i (.long v)) = jH h b X I (u2 J (p + 2) i v) R n := H_pJ (hP2 p hp).1 (hP2 p hp).2
theorem hP3 : ∀ p ∈ [10, 33], fx (p + 3) = true ∧ sT (p + 3) = (20, 1600) := by decide +kernel
theorem gP3 (hp : isP p) : (jH h b X I J R n).1 (b + (p + 3)) = some (20, 1600, vf b 20 X I J R (p + 3)) := H_fx (hP3 p hp).1 (hP3 p hp).2
theorem pP3 {i : Nat} {v : Int32} (hp : isP p) : jset (jH h b X I J R n) (b + (p + 3)) (20, 1600, updV (vf b 20 X I J R (p + 3)) i (.int v)) = jH h b X (u2 I (p + 3) i v) J R n := H_pI (hP3 p hp).1 (hP3 p hp).2 (by simp)
theorem hP4 : ∀ p ∈ [10, 33], fx (p + 4) = true ∧ sT (p + 4) = (1, 5) := by decide +kernel
theorem gP4 (hp : isP p) : (jH h b X I J R n).1 (b + (p + 4)) = some (1, 5, vf b 1 X I J R (p + 4)) := H_fx (hP4 p hp).1 (hP4 p hp).2
theorem tP4_0 (hp : isP p) : tgt X R (p + 4) 0 = p + 5 := by
  have h1 : ∀ p ∈ [10, 33], gf (p + 4) 0 = 0 ∧ vr (p + 4) 0 = false ∧ c0 (p + 4) 0 = p + 5 := by decide +kernel
  unfold tgt
  rw [if_pos (h1 p hp).1, if_neg (by rw [(h1 p hp).2.1]; decide), (h1 p hp).2.2]
theorem tP4_1 (hp : isP p) : tgt X R (p + 4) 1 = p + 6 := by
  have h1 : ∀ p ∈ [10, 33], gf (p + 4) 1 = 0 ∧ vr (p + 4) 1 = false ∧ c0 (p + 4) 1 = p + 6 := by decide +kernel
  unfold tgt
  rw [if_pos (h1 p hp).1, if_neg (by rw [(h1 p hp).2.1]; decide), (h1 p hp).2.2]
theorem tP4_2 (hp : isP p) : tgt X R (p + 4) 2 = p + 7 := by
  have h1 : ∀ p ∈ [10, 33], gf (p + 4) 2 = 0 ∧ vr (p + 4) 2 = false ∧ c0 (p + 4) 2 = p + 7 := by decide +kernel
  unfold tgt
  rw [if_pos (h1 p hp).1, if_neg (by rw [(h1 p hp).2.1]; decide), (h1 p hp).2.2]
theorem tP4_3 (hp : isP p) : tgt X R (p + 4) 3 = p + 8 := by
  have h1 : ∀ p ∈ [10, 33], gf (p + 4) 3 = 0 ∧ vr (p + 4) 3 = false ∧ c0 (p + 4) 3 = p + 8 := by decide +kernel
  unfold tgt
  rw [if_pos (h1 p hp).1, if_neg (by rw [(h1 p hp).2.1]; decide), (h1 p hp).2.2]
theorem pP4_4 {v : Int32} (hp : isP p) : jset (jH h b X I J R n) (b + (p + 4)) (1, 5, updV (vf b 1 X I J R (p + 4)) 4 (.int v)) = jH h b X (u2 I (p + 4) 4 v) J R n := H_pI (hP4 p hp).1 (hP4 p hp).2 (by decide +kernel)
theorem hP5 : ∀ p ∈ [10, 33], fx (p + 5) = true ∧ sT (p + 5) = (20, 2048) := by decide +kernel
theorem gP5 (hp : isP p) : (jH h b X I J R n).1 (b + (p + 5)) = some (20, 2048, vf b 20 X I J R (p + 5)) := H_fx (hP5 p hp).1 (hP5 p hp).2
theorem pP5 {i : Nat} {v : Int32} (hp : isP p) : jset (jH h b X I J R n) (b + (p + 5)) (20, 2048, updV (vf b 20 X I J R (p + 5)) i (.int v)) = jH h b X (u2 I (p + 5) i v) J R n := H_pI (hP5 p hp).1 (hP5 p hp).2 (by simp)
theorem hP6 : ∀ p ∈ [10, 33], fx (p + 6) = true ∧ sT (p + 6) = (20, 2048) := by decide +kernel
theorem gP6 (hp : isP p) : (jH h b X I J R n).1 (b + (p + 6)) = some (20, 2048, vf b 20 X I J R (p + 6)) := H_fx (hP6 p hp).1 (hP6 p hp).2
theorem pP6 {i : Nat} {v : Int32} (hp : isP p) : jset (jH h b X I J R n) (b + (p + 6)) (20, 2048, updV (vf b 20 X I J R (p + 6)) i (.int v)) = jH h b X (u2 I (p + 6) i v) J R n := H_pI (hP6 p hp).1 (hP6 p hp).2 (by simp)
theorem hP7 : ∀ p ∈ [10, 33], fx (p + 7) = true ∧ sT (p + 7) = (20, 2048) := by decide +kernel
theorem gP7 (hp : isP p) : (jH h b X I J R n).1 (b + (p + 7)) = some (20, 2048, vf b 20 X I J R (p + 7)) := H_fx (hP7 p hp).1 (hP7 p hp).2
theorem pP7 {i : Nat} {v : Int32} (hp : isP p) : jset (jH h b X I J R n) (b + (p + 7)) (20, 2048, updV (vf b 20 X I J R (p + 7)) i (.int v)) = jH h b X (u2 I (p + 7) i v) J R n := H_pI (hP7 p hp).1 (hP7 p hp).2 (by simp)
theorem hP8 : ∀ p ∈ [10, 33], fx (p + 8) = true ∧ sT (p + 8) = (20, 2048) := by decide +kernel
theorem gP8 (hp : isP p) : (jH h b X I J R n).1 (b + (p + 8)) = some (20, 2048, vf b 20 X I J R (p + 8)) := H_fx (hP8 p hp).1 (hP8 p hp).2
theorem pP8 {i : Nat} {v : Int32} (hp : isP p) : jset (jH h b X I J R n) (b + (p + 8)) (20, 2048, updV (vf b 20 X I J R (p + 8)) i (.int v)) = jH h b X (u2 I (p + 8) i v) J R n := H_pI (hP8 p hp).1 (hP8 p hp).2 (by simp)
theorem hP9 : ∀ p ∈ [10, 33], fx (p + 9) = true ∧ sT (p + 9) = (20, 6) := by decide +kernel
theorem gP9 (hp : isP p) : (jH h b X I J R n).1 (b + (p + 9)) = some (20, 6, vf b 20 X I J R (p + 9)) := H_fx (hP9 p hp).1 (hP9 p hp).2
theorem pP9 {i : Nat} {v : Int32} (hp : isP p) : jset (jH h b X I J R n) (b + (p + 9)) (20, 6, updV (vf b 20 X I J R (p + 9)) i (.int v)) = jH h b X (u2 I (p + 9) i v) J R n := H_pI (hP9 p hp).1 (hP9 p hp).2 (by simp)
theorem hP10 : ∀ p ∈ [10, 33], fx (p + 10) = true ∧ sT (p + 10) = (20, 6) := by decide +kernel
theorem gP10 (hp : isP p) : (jH h b X I J R n).1 (b + (p + 10)) = some (20, 6, vf b 20 X I J R (p + 10)) := H_fx (hP10 p hp).1 (hP10 p hp).2
theorem pP10 {i : Nat} {v : Int32} (hp : isP p) : jset (jH h b X I J R n) (b + (p + 10)) (20, 6, updV (vf b 20 X I J R (p + 10)) i (.int v)) = jH h b X (u2 I (p + 10) i v) J R n := H_pI (hP10 p hp).1 (hP10 p hp).2 (by simp)
theorem hP11 : ∀ p ∈ [10, 33], fx (p + 11) = true ∧ sT (p + 11) = (20, 6) := by decide +kernel
theorem gP11 (hp : isP p) : (jH h b X I J R n).1 (b + (p + 11)) = some (20, 6, vf b 20 X I J R (p + 11)) := H_fx (hP11 p hp).1 (hP11 p hp).2
theorem pP11 {i : Nat} {v : Int32} (hp : isP p) : jset (jH h b X I J R n) (b + (p + 11)) (20, 6, updV (vf b 20 X I J R (p + 11)) i (.int v)) = jH h b X (u2 I (p + 11) i v) J R n := H_pI (hP11 p hp).1 (hP11 p hp).2 (by simp)
theorem hP12 : ∀ p ∈ [10, 33], fx (p + 12) = true ∧ sT (p + 12) = (20, 6) := by decide +kernel
theorem gP12 (hp : isP p) : (jH h b X I J R n).1 (b + (p + 12)) = some (20, 6, vf b 20 X I J R (p + 12)) := H_fx (hP12 p hp).1 (hP12 p hp).2
theorem pP12 {i : Nat} {v : Int32} (hp : isP p) : jset (jH h b X I J R n) (b + (p + 12)) (20, 6, updV (vf b 20 X I J R (p + 12)) i (.int v)) = jH h b X (u2 I (p + 12) i v) J R n := H_pI (hP12 p hp).1 (hP12 p hp).2 (by simp)
theorem hP13 : ∀ p ∈ [10, 33], fx (p + 13) = true ∧ sT (p + 13) = (20, 36) := by decide +kernel
theorem gP13 (hp : isP p) : (jH h b X I J R n).1 (b + (p + 13)) = some (20, 36, vf b 20 X I J R (p + 13)) := H_fx (hP13 p hp).1 (hP13 p hp).2
theorem pP13 {i : Nat} {v : Int32} (hp : isP p) : jset (jH h b X I J R n) (b + (p + 13)) (20, 36, updV (vf b 20 X I J R (p + 13)) i (.int v)) = jH h b X (u2 I (p + 13) i v) J R n := H_pI (hP13 p hp).1 (hP13 p hp).2 (by simp)
theorem hP14 : ∀ p ∈ [10, 33], fx (p + 14) = true ∧ sT (p + 14) = (20, 36) := by decide +kernel
theorem gP14 (hp : isP p) : (jH h b X I J R n).1 (b + (p + 14)) = some (20, 36, vf b 20 X I J R (p + 14)) := H_fx (hP14 p hp).1 (hP14 p hp).2
theorem pP14 {i : Nat} {v : Int32} (hp : isP p) : jset (jH h b X I J R n) (b + (p + 14)) (20, 36, updV (vf b 20 X I J R (p + 14)) i (.int v)) = jH h b X (u2 I (p + 14) i v) J R n := H_pI (hP14 p hp).1 (hP14 p hp).2 (by simp)
theorem hP15 : ∀ p ∈ [10, 33], fx (p + 15) = true ∧ sT (p + 15) = (20, 6) := by decide +kernel
theorem gP15 (hp : isP p) : (jH h b X I J R n).1 (b + (p + 15)) = some (20, 6, vf b 20 X I J R (p + 15)) := H_fx (hP15 p hp).1 (hP15 p hp).2
theorem pP15 {i : Nat} {v : Int32} (hp : isP p) : jset (jH h b X I J R n) (b + (p + 15)) (20, 6, updV (vf b 20 X I J R (p + 15)) i (.int v)) = jH h b X (u2 I (p + 15) i v) J R n := H_pI (hP15 p hp).1 (hP15 p hp).2 (by simp)
theorem hP16 : ∀ p ∈ [10, 33], fx (p + 16) = true ∧ sT (p + 16) = (20, 48) := by decide +kernel
theorem gP16 (hp : isP p) : (jH h b X I J R n).1 (b + (p + 16)) = some (20, 48, vf b 20 X I J R (p + 16)) := H_fx (hP16 p hp).1 (hP16 p hp).2
theorem pP16 {i : Nat} {v : Int32} (hp : isP p) : jset (jH h b X I J R n) (b + (p + 16)) (20, 48, updV (vf b 20 X I J R (p + 16)) i (.int v)) = jH h b X (u2 I (p + 16) i v) J R n := H_pI (hP16 p hp).1 (hP16 p hp).2 (by simp)
theorem hP17 : ∀ p ∈ [10, 33], fx (p + 17) = true ∧ sT (p + 17) = (20, 48) := by decide +kernel
theorem gP17 (hp : isP p) : (jH h b X I J R n).1 (b + (p + 17)) = some (20, 48, vf b 20 X I J R (p + 17)) := H_fx (hP17 p hp).1 (hP17 p hp).2
theorem pP17 {i : Nat} {v : Int32} (hp : isP p) : jset (jH h b X I J R n) (b + (p + 17)) (20, 48, updV (vf b 20 X I J R (p + 17)) i (.int v)) = jH h b X (u2 I (p + 17) i v) J R n := H_pI (hP17 p hp).1 (hP17 p hp).2 (by simp)
theorem hP18 : ∀ p ∈ [10, 33], fx (p + 18) = true ∧ sT (p + 18) = (20, 384) := by decide +kernel
theorem gP18 (hp : isP p) : (jH h b X I J R n).1 (b + (p + 18)) = some (20, 384, vf b 20 X I J R (p + 18)) := H_fx (hP18 p hp).1 (hP18 p hp).2
theorem pP18 {i : Nat} {v : Int32} (hp : isP p) : jset (jH h b X I J R n) (b + (p + 18)) (20, 384, updV (vf b 20 X I J R (p + 18)) i (.int v)) = jH h b X (u2 I (p + 18) i v) J R n := H_pI (hP18 p hp).1 (hP18 p hp).2 (by simp)
theorem hP19 : ∀ p ∈ [10, 33], fx (p + 19) = true ∧ sT (p + 19) = (20, 384) := by decide +kernel
theorem gP19 (hp : isP p) : (jH h b X I J R n).1 (b + (p + 19)) = some (20, 384, vf b 20 X I J R (p + 19)) := H_fx (hP19 p hp).1 (hP19 p hp).2
theorem pP19 {i : Nat} {v : Int32} (hp : isP p) : jset (jH h b X I J R n) (b + (p + 19)) (20, 384, updV (vf b 20 X I J R (p + 19)) i (.int v)) = jH h b X (u2 I (p + 19) i v) J R n := H_pI (hP19 p hp).1 (hP19 p hp).2 (by simp)
theorem hP20 : ∀ p ∈ [10, 33], fx (p + 20) = true ∧ sT (p + 20) = (20, 384) := by decide +kernel
theorem gP20 (hp : isP p) : (jH h b X I J R n).1 (b + (p + 20)) = some (20, 384, vf b 20 X I J R (p + 20)) := H_fx (hP20 p hp).1 (hP20 p hp).2
theorem pP20 {i : Nat} {v : Int32} (hp : isP p) : jset (jH h b X I J R n) (b + (p + 20)) (20, 384, updV (vf b 20 X I J R (p + 20)) i (.int v)) = jH h b X (u2 I (p + 20) i v) J R n := H_pI (hP20 p hp).1 (hP20 p hp).2 (by simp)
theorem hP21 : ∀ p ∈ [10, 33], fx (p + 21) = true ∧ sT (p + 21) = (20, 384) := by decide +kernel
theorem gP21 (hp : isP p) : (jH h b X I J R n).1 (b + (p + 21)) = some (20, 384, vf b 20 X I J R (p + 21)) := H_fx (hP21 p hp).1 (hP21 p hp).2
theorem pP21 {i : Nat} {v : Int32} (hp : isP p) : jset (jH h b X I J R n) (b + (p + 21)) (20, 384, updV (vf b 20 X I J R (p + 21)) i (.int v)) = jH h b X (u2 I (p + 21) i v) J R n := H_pI (hP21 p hp).1 (hP21 p hp).2 (by simp)
theorem hP22 : ∀ p ∈ [10, 33], fx (p + 22) = true ∧ sT (p + 22) = (20, 384) := by decide +kernel
theorem gP22 (hp : isP p) : (jH h b X I J R n).1 (b + (p + 22)) = some (20, 384, vf b 20 X I J R (p + 22)) := H_fx (hP22 p hp).1 (hP22 p hp).2
theorem pP22 {i : Nat} {v : Int32} (hp : isP p) : jset (jH h b X I J R n) (b + (p + 22)) (20, 384, updV (vf b 20 X I J R (p + 22)) i (.int v)) = jH h b X (u2 I (p + 22) i v) J R n := H_pI (hP22 p hp).1 (hP22 p hp).2 (by simp)
def isC (p : Nat) : Prop := p ∈ [215, 228]
theorem hC0 : ∀ p ∈ [215, 228], fx (p) = true ∧ sT (p) = (0, 13) := by decide +kernel
theorem gC0 (hp : isC p) : (jH h b X I J R n).1 (b + p) = some (0, 13, vf b 0 X I J R (p)) := H_fx (hC0 p hp).1 (hC0 p hp).2
theorem tC0_0 (hp : isC p) : tgt X R (p) 0 = p + 1 := by
  have h1 : ∀ p ∈ [215, 228], gf (p) 0 = 0 ∧ vr (p) 0 = false ∧ c0 (p) 0 = p + 1 := by decide +kernel
  unfold tgt
  rw [if_pos (h1 p hp).1, if_neg (by rw [(h1 p hp).2.1]; decide), (h1 p hp).2.2]
theorem tC0_1 (hp : isC p) : tgt X R (p) 1 = p + 4 := by
  have h1 : ∀ p ∈ [215, 228], gf (p) 1 = 0 ∧ vr (p) 1 = false ∧ c0 (p) 1 = p + 4 := by decide +kernel
  unfold tgt
  rw [if_pos (h1 p hp).1, if_neg (by rw [(h1 p hp).2.1]; decide), (h1 p hp).2.2]
theorem pC0_2 {v : Int32} (hp : isC p) : jset (jH h b X I J R n) (b + p) (0, 13, updV (vf b 0 X I J R (p)) 2 (.int v)) = jH h b X (u2 I (p) 2 v) J R n := H_pI (hC0 p hp).1 (hC0 p hp).2 (by decide +kernel)
theorem tC0_3 (hp : isC p) : tgt X R (p) 3 = p + 5 := by
  have h1 : ∀ p ∈ [215, 228], gf (p) 3 = 0 ∧ vr (p) 3 = false ∧ c0 (p) 3 = p + 5 := by decide +kernel
  unfold tgt
  rw [if_pos (h1 p hp).1, if_neg (by rw [(h1 p hp).2.1]; decide), (h1 p hp).2.2]
theorem tC0_4 (hp : isC p) : tgt X R (p) 4 = p + 6 := by
  have h1 : ∀ p ∈ [215, 228], gf (p) 4 = 0 ∧ vr (p) 4 = false ∧ c0 (p) 4 = p + 6 := by decide +kernel
  unfold tgt
  rw [if_pos (h1 p hp).1, if_neg (by rw [(h1 p hp).2.1]; decide), (h1 p hp).2.2]
theorem tC0_5 (hp : isC p) : tgt X R (p) 5 = p + 7 := by
  have h1 : ∀ p ∈ [215, 228], gf (p) 5 = 0 ∧ vr (p) 5 = false ∧ c0 (p) 5 = p + 7 := by decide +kernel
  unfold tgt
  rw [if_pos (h1 p hp).1, if_neg (by rw [(h1 p hp).2.1]; decide), (h1 p hp).2.2]
theorem pC0_6 {v : Int32} (hp : isC p) : jset (jH h b X I J R n) (b + p) (0, 13, updV (vf b 0 X I J R (p)) 6 (.int v)) = jH h b X (u2 I (p) 6 v) J R n := H_pI (hC0 p hp).1 (hC0 p hp).2 (by decide +kernel)
theorem tC0_7 (hp : isC p) : tgt X R (p) 7 = p + 8 := by
  have h1 : ∀ p ∈ [215, 228], gf (p) 7 = 0 ∧ vr (p) 7 = false ∧ c0 (p) 7 = p + 8 := by decide +kernel
  unfold tgt
  rw [if_pos (h1 p hp).1, if_neg (by rw [(h1 p hp).2.1]; decide), (h1 p hp).2.2]
theorem tC0_8 (hp : isC p) : tgt X R (p) 8 = p + 9 := by
  have h1 : ∀ p ∈ [215, 228], gf (p) 8 = 0 ∧ vr (p) 8 = false ∧ c0 (p) 8 = p + 9 := by decide +kernel
  unfold tgt
  rw [if_pos (h1 p hp).1, if_neg (by rw [(h1 p hp).2.1]; decide), (h1 p hp).2.2]
theorem tC0_9 (hp : isC p) : tgt X R (p) 9 = p + 10 := by
  have h1 : ∀ p ∈ [215, 228], gf (p) 9 = 0 ∧ vr (p) 9 = false ∧ c0 (p) 9 = p + 10 := by decide +kernel
  unfold tgt
  rw [if_pos (h1 p hp).1, if_neg (by rw [(h1 p hp).2.1]; decide), (h1 p hp).2.2]
theorem tC0_10 (hp : isC p) : tgt X R (p) 10 = p + 11 := by
  have h1 : ∀ p ∈ [215, 228], gf (p) 10 = 0 ∧ vr (p) 10 = false ∧ c0 (p) 10 = p + 11 := by decide +kernel
  unfold tgt
  rw [if_pos (h1 p hp).1, if_neg (by rw [(h1 p hp).2.1]; decide), (h1 p hp).2.2]
theorem tC0_11 (hp : isC p) : tgt X R (p) 11 = p + 12 := by
  have h1 : ∀ p ∈ [215, 228], gf (p) 11 = 0 ∧ vr (p) 11 = false ∧ c0 (p) 11 = p + 12 := by decide +kernel
  unfold tgt
  rw [if_pos (h1 p hp).1, if_neg (by rw [(h1 p hp).2.1]; decide), (h1 p hp).2.2]
theorem pC0_12 {v : Int32} (hp : isC p) : jset (jH h b X I J R n) (b + p) (0, 13, updV (vf b 0 X I J R (p)) 12 (.int v)) = jH h b X (u2 I (p) 12 v) J R n := H_pI (hC0 p hp).1 (hC0 p hp).2 (by decide +kernel)
theorem hC1 : ∀ p ∈ [215, 228], fx (p + 1) = true ∧ sT (p + 1) = (3, 3) := by decide +kernel
theorem gC1 (hp : isC p) : (jH h b X I J R n).1 (b + (p + 1)) = some (3, 3, vf b 3 X I J R (p + 1)) := H_fx (hC1 p hp).1 (hC1 p hp).2
theorem tC1_0 (hp : isC p) : tgt X R (p + 1) 0 = p + 2 := by
  have h1 : ∀ p ∈ [215, 228], gf (p + 1) 0 = 0 ∧ vr (p + 1) 0 = false ∧ c0 (p + 1) 0 = p + 2 := by decide +kernel
  unfold tgt
  rw [if_pos (h1 p hp).1, if_neg (by rw [(h1 p hp).2.1]; decide), (h1 p hp).2.2]
theorem tC1_1 (hp : isC p) : tgt X R (p + 1) 1 = p + 3 := by
  have h1 : ∀ p ∈ [215, 228], gf (p + 1) 1 = 0 ∧ vr (p + 1) 1 = false ∧ c0 (p + 1) 1 = p + 3 := by decide +kernel
  unfold tgt
  rw [if_pos (h1 p hp).1, if_neg (by rw [(h1 p hp).2.1]; decide), (h1 p hp).2.2]
theorem pC1_2 {v : Int32} (hp : isC p) : jset (jH h b X I J R n) (b + (p + 1)) (3, 3, updV (vf b 3 X I J R (p + 1)) 2 (.int v)) = jH h b X (u2 I (p + 1) 2 v) J R n := H_pI (hC1 p hp).1 (hC1 p hp).2 (by decide +kernel)
theorem hC2 : ∀ p ∈ [215, 228], fx (p + 2) = true ∧ sT (p + 2) = (21, 48) := by decide +kernel
theorem gC2 (hp : isC p) : (jH h b X I J R n).1 (b + (p + 2)) = some (21, 48, vf b 21 X I J R (p + 2)) := H_fx (hC2 p hp).1 (hC2 p hp).2
theorem pC2 {i : Nat} {v : Int64} (hp : isC p) : jset (jH h b X I J R n) (b + (p + 2)) (21, 48, updV (vf b 21 X I J R (p + 2)) i (.long v)) = jH h b X I (u2 J (p + 2) i v) R n := H_pJ (hC2 p hp).1 (hC2 p hp).2
theorem hC3 : ∀ p ∈ [215, 228], fx (p + 3) = true ∧ sT (p + 3) = (20, 48) := by decide +kernel
theorem gC3 (hp : isC p) : (jH h b X I J R n).1 (b + (p + 3)) = some (20, 48, vf b 20 X I J R (p + 3)) := H_fx (hC3 p hp).1 (hC3 p hp).2
theorem pC3 {i : Nat} {v : Int32} (hp : isC p) : jset (jH h b X I J R n) (b + (p + 3)) (20, 48, updV (vf b 20 X I J R (p + 3)) i (.int v)) = jH h b X (u2 I (p + 3) i v) J R n := H_pI (hC3 p hp).1 (hC3 p hp).2 (by simp)
theorem hC4 : ∀ p ∈ [215, 228], fx (p + 4) = true ∧ sT (p + 4) = (20, 8) := by decide +kernel
theorem gC4 (hp : isC p) : (jH h b X I J R n).1 (b + (p + 4)) = some (20, 8, vf b 20 X I J R (p + 4)) := H_fx (hC4 p hp).1 (hC4 p hp).2
theorem pC4 {i : Nat} {v : Int32} (hp : isC p) : jset (jH h b X I J R n) (b + (p + 4)) (20, 8, updV (vf b 20 X I J R (p + 4)) i (.int v)) = jH h b X (u2 I (p + 4) i v) J R n := H_pI (hC4 p hp).1 (hC4 p hp).2 (by simp)
theorem hC5 : ∀ p ∈ [215, 228], fx (p + 5) = true ∧ sT (p + 5) = (20, 40) := by decide +kernel
theorem gC5 (hp : isC p) : (jH h b X I J R n).1 (b + (p + 5)) = some (20, 40, vf b 20 X I J R (p + 5)) := H_fx (hC5 p hp).1 (hC5 p hp).2
theorem pC5 {i : Nat} {v : Int32} (hp : isC p) : jset (jH h b X I J R n) (b + (p + 5)) (20, 40, updV (vf b 20 X I J R (p + 5)) i (.int v)) = jH h b X (u2 I (p + 5) i v) J R n := H_pI (hC5 p hp).1 (hC5 p hp).2 (by simp)
theorem hC6 : ∀ p ∈ [215, 228], fx (p + 6) = true ∧ sT (p + 6) = (20, 40) := by decide +kernel
theorem gC6 (hp : isC p) : (jH h b X I J R n).1 (b + (p + 6)) = some (20, 40, vf b 20 X I J R (p + 6)) := H_fx (hC6 p hp).1 (hC6 p hp).2
theorem pC6 {i : Nat} {v : Int32} (hp : isC p) : jset (jH h b X I J R n) (b + (p + 6)) (20, 40, updV (vf b 20 X I J R (p + 6)) i (.int v)) = jH h b X (u2 I (p + 6) i v) J R n := H_pI (hC6 p hp).1 (hC6 p hp).2 (by simp)
theorem hC7 : ∀ p ∈ [215, 228], fx (p + 7) = true ∧ sT (p + 7) = (20, 40) := by decide +kernel
theorem gC7 (hp : isC p) : (jH h b X I J R n).1 (b + (p + 7)) = some (20, 40, vf b 20 X I J R (p + 7)) := H_fx (hC7 p hp).1 (hC7 p hp).2
theorem pC7 {i : Nat} {v : Int32} (hp : isC p) : jset (jH h b X I J R n) (b + (p + 7)) (20, 40, updV (vf b 20 X I J R (p + 7)) i (.int v)) = jH h b X (u2 I (p + 7) i v) J R n := H_pI (hC7 p hp).1 (hC7 p hp).2 (by simp)
theorem hC8 : ∀ p ∈ [215, 228], fx (p + 8) = true ∧ sT (p + 8) = (21, 80) := by decide +kernel
theorem gC8 (hp : isC p) : (jH h b X I J R n).1 (b + (p + 8)) = some (21, 80, vf b 21 X I J R (p + 8)) := H_fx (hC8 p hp).1 (hC8 p hp).2
theorem pC8 {i : Nat} {v : Int64} (hp : isC p) : jset (jH h b X I J R n) (b + (p + 8)) (21, 80, updV (vf b 21 X I J R (p + 8)) i (.long v)) = jH h b X I (u2 J (p + 8) i v) R n := H_pJ (hC8 p hp).1 (hC8 p hp).2
theorem hC9 : ∀ p ∈ [215, 228], fx (p + 9) = true ∧ sT (p + 9) = (21, 80) := by decide +kernel
theorem gC9 (hp : isC p) : (jH h b X I J R n).1 (b + (p + 9)) = some (21, 80, vf b 21 X I J R (p + 9)) := H_fx (hC9 p hp).1 (hC9 p hp).2
theorem pC9 {i : Nat} {v : Int64} (hp : isC p) : jset (jH h b X I J R n) (b + (p + 9)) (21, 80, updV (vf b 21 X I J R (p + 9)) i (.long v)) = jH h b X I (u2 J (p + 9) i v) R n := H_pJ (hC9 p hp).1 (hC9 p hp).2
theorem hC10 : ∀ p ∈ [215, 228], fx (p + 10) = true ∧ sT (p + 10) = (23, 80) := by decide +kernel
theorem gC10 (hp : isC p) : (jH h b X I J R n).1 (b + (p + 10)) = some (23, 80, vf b 23 X I J R (p + 10)) := H_fx (hC10 p hp).1 (hC10 p hp).2
theorem pC10 {i : Nat} {v : Int32} (hp : isC p) : jset (jH h b X I J R n) (b + (p + 10)) (23, 80, updV (vf b 23 X I J R (p + 10)) i (.int v)) = jH h b X (u2 I (p + 10) i v) J R n := H_pI (hC10 p hp).1 (hC10 p hp).2 (by simp)
theorem hC11 : ∀ p ∈ [215, 228], fx (p + 11) = true ∧ sT (p + 11) = (20, 3160) := by decide +kernel
theorem gC11 (hp : isC p) : (jH h b X I J R n).1 (b + (p + 11)) = some (20, 3160, vf b 20 X I J R (p + 11)) := H_fx (hC11 p hp).1 (hC11 p hp).2
theorem pC11 {i : Nat} {v : Int32} (hp : isC p) : jset (jH h b X I J R n) (b + (p + 11)) (20, 3160, updV (vf b 20 X I J R (p + 11)) i (.int v)) = jH h b X (u2 I (p + 11) i v) J R n := H_pI (hC11 p hp).1 (hC11 p hp).2 (by simp)
theorem hC12 : ∀ p ∈ [215, 228], fx (p + 12) = true ∧ sT (p + 12) = (20, 3160) := by decide +kernel
theorem gC12 (hp : isC p) : (jH h b X I J R n).1 (b + (p + 12)) = some (20, 3160, vf b 20 X I J R (p + 12)) := H_fx (hC12 p hp).1 (hC12 p hp).2
theorem pC12 {i : Nat} {v : Int32} (hp : isC p) : jset (jH h b X I J R n) (b + (p + 12)) (20, 3160, updV (vf b 20 X I J R (p + 12)) i (.int v)) = jH h b X (u2 I (p + 12) i v) J R n := H_pI (hC12 p hp).1 (hC12 p hp).2 (by simp)
def isN (p : Nat) : Prop := p ∈ [11, 34, 216, 229]
theorem hN0 : ∀ p ∈ [11, 34, 216, 229], fx (p) = true ∧ sT (p) = (3, 3) := by decide +kernel
theorem gN0 (hp : isN p) : (jH h b X I J R n).1 (b + p) = some (3, 3, vf b 3 X I J R (p)) := H_fx (hN0 p hp).1 (hN0 p hp).2
theorem tN0_0 (hp : isN p) : tgt X R (p) 0 = p + 1 := by
  have h1 : ∀ p ∈ [11, 34, 216, 229], gf (p) 0 = 0 ∧ vr (p) 0 = false ∧ c0 (p) 0 = p + 1 := by decide +kernel
  unfold tgt
  rw [if_pos (h1 p hp).1, if_neg (by rw [(h1 p hp).2.1]; decide), (h1 p hp).2.2]
theorem tN0_1 (hp : isN p) : tgt X R (p) 1 = p + 2 := by
  have h1 : ∀ p ∈ [11, 34, 216, 229], gf (p) 1 = 0 ∧ vr (p) 1 = false ∧ c0 (p) 1 = p + 2 := by decide +kernel
  unfold tgt
  rw [if_pos (h1 p hp).1, if_neg (by rw [(h1 p hp).2.1]; decide), (h1 p hp).2.2]
theorem pN0_2 {v : Int32} (hp : isN p) : jset (jH h b X I J R n) (b + p) (3, 3, updV (vf b 3 X I J R (p)) 2 (.int v)) = jH h b X (u2 I (p) 2 v) J R n := H_pI (hN0 p hp).1 (hN0 p hp).2 (by decide +kernel)
theorem hN1 : ∀ p ∈ [11, 34, 216, 229], fx (p + 1) = true ∧ sT (p + 1) = (21, (sT (p + 1)).2) := by decide +kernel
theorem gN1 (hp : isN p) : (jH h b X I J R n).1 (b + (p + 1)) = some (21, (sT (p + 1)).2, vf b 21 X I J R (p + 1)) := H_fx (hN1 p hp).1 (hN1 p hp).2
theorem pN1 {i : Nat} {v : Int64} (hp : isN p) : jset (jH h b X I J R n) (b + (p + 1)) (21, (sT (p + 1)).2, updV (vf b 21 X I J R (p + 1)) i (.long v)) = jH h b X I (u2 J (p + 1) i v) R n := H_pJ (hN1 p hp).1 (hN1 p hp).2
theorem hN2 : ∀ p ∈ [11, 34, 216, 229], fx (p + 2) = true ∧ sT (p + 2) = (20, (sT (p + 2)).2) := by decide +kernel
theorem gN2 (hp : isN p) : (jH h b X I J R n).1 (b + (p + 2)) = some (20, (sT (p + 2)).2, vf b 20 X I J R (p + 2)) := H_fx (hN2 p hp).1 (hN2 p hp).2
theorem pN2 {i : Nat} {v : Int32} (hp : isN p) : jset (jH h b X I J R n) (b + (p + 2)) (20, (sT (p + 2)).2, updV (vf b 20 X I J R (p + 2)) i (.int v)) = jH h b X (u2 I (p + 2) i v) J R n := H_pI (hN2 p hp).1 (hN2 p hp).2 (by simp)
end PF
section PS
variable {h : Nat → Option jC} {b : Nat} {X : jXX} {I : Nat → Nat → Int32} {J : Nat → Nat → Int64} {R : Nat → Nat → Nat} {n : Nat}
theorem p1 {i : Nat} {v : Int32} : jset (jH h b X I J R n) (b + 1) (22, 2000, updV (vf b 22 X I J R (1)) i (.int v)) = jH h b X (u2 I 1 i v) J R n := H_pI (by decide +kernel) (by decide +kernel) (by simp)
theorem p2 {i : Nat} {v : Int32} : jset (jH h b X I J R n) (b + 2) (22, 12, updV (vf b 22 X I J R (2)) i (.int v)) = jH h b X (u2 I 2 i v) J R n := H_pI (by decide +kernel) (by decide +kernel) (by simp)
theorem p3_6 {v : Int32} : jset (jH h b X I J R n) (b + 3) (6, 7, updV (vf b 6 X I J R (3)) 6 (.int v)) = jH h b X (u2 I 3 6 v) J R n := H_pI (by decide +kernel) (by decide +kernel) (by decide +kernel)
theorem p4 {i : Nat} {v : Int64} : jset (jH h b X I J R n) (b + 4) (21, 26, updV (vf b 21 X I J R (4)) i (.long v)) = jH h b X I (u2 J 4 i v) R n := H_pJ (by decide +kernel) (by decide +kernel)
theorem p5 {i : Nat} {v : Int32} : jset (jH h b X I J R n) (b + 5) (20, 2001, updV (vf b 20 X I J R (5)) i (.int v)) = jH h b X (u2 I 5 i v) J R n := H_pI (by decide +kernel) (by decide +kernel) (by simp)
theorem p6 {i : Nat} {v : Int32} : jset (jH h b X I J R n) (b + 6) (20, 2001, updV (vf b 20 X I J R (6)) i (.int v)) = jH h b X (u2 I 6 i v) J R n := H_pI (by decide +kernel) (by decide +kernel) (by simp)
theorem p7 {i : Nat} {v : Int32} : jset (jH h b X I J R n) (b + 7) (20, 2001, updV (vf b 20 X I J R (7)) i (.int v)) = jH h b X (u2 I 7 i v) J R n := H_pI (by decide +kernel) (by decide +kernel) (by simp)
theorem p8 {i : Nat} {v : Int64} : jset (jH h b X I J R n) (b + 8) (21, 2001, updV (vf b 21 X I J R (8)) i (.long v)) = jH h b X I (u2 J 8 i v) R n := H_pJ (by decide +kernel) (by decide +kernel)
theorem p9 {i : Nat} {v : Int32} : jset (jH h b X I J R n) (b + 9) (20, 2001, updV (vf b 20 X I J R (9)) i (.int v)) = jH h b X (u2 I 9 i v) J R n := H_pI (by decide +kernel) (by decide +kernel) (by simp)
theorem p56_1 {v : Nat} : jset (jH h b X I J R n) (b + 56) (4, 10, updV (vf b 4 X I J R (56)) 1 (.ref (b + v))) = jH h b X I J (u2 R 56 1 v) n := H_pR (by decide +kernel) (by decide +kernel) (by decide +kernel) (by decide +kernel) (by decide +kernel)
theorem p56_2 {v : Nat} : jset (jH h b X I J R n) (b + 56) (4, 10, updV (vf b 4 X I J R (56)) 2 (.ref (b + v))) = jH h b X I J (u2 R 56 2 v) n := H_pR (by decide +kernel) (by decide +kernel) (by decide +kernel) (by decide +kernel) (by decide +kernel)
theorem p56_3 {v : Int32} : jset (jH h b X I J R n) (b + 56) (4, 10, updV (vf b 4 X I J R (56)) 3 (.int v)) = jH h b X (u2 I 56 3 v) J R n := H_pI (by decide +kernel) (by decide +kernel) (by decide +kernel)
theorem p56_4 {v : Int32} : jset (jH h b X I J R n) (b + 56) (4, 10, updV (vf b 4 X I J R (56)) 4 (.int v)) = jH h b X (u2 I 56 4 v) J R n := H_pI (by decide +kernel) (by decide +kernel) (by decide +kernel)
theorem p56_5 {v : Int32} : jset (jH h b X I J R n) (b + 56) (4, 10, updV (vf b 4 X I J R (56)) 5 (.int v)) = jH h b X (u2 I 56 5 v) J R n := H_pI (by decide +kernel) (by decide +kernel) (by decide +kernel)
theorem p56_6 {v : Int32} : jset (jH h b X I J R n) (b + 56) (4, 10, updV (vf b 4 X I J R (56)) 6 (.int v)) = jH h b X (u2 I 56 6 v) J R n := H_pI (by decide +kernel) (by decide +kernel) (by decide +kernel)
theorem p56_7 {v : Int32} : jset (jH h b X I J R n) (b + 56) (4, 10, updV (vf b 4 X I J R (56)) 7 (.int v)) = jH h b X (u2 I 56 7 v) J R n := H_pI (by decide +kernel) (by decide +kernel) (by decide +kernel)
theorem p56_8 {v : Int32} : jset (jH h b X I J R n) (b + 56) (4, 10, updV (vf b 4 X I J R (56)) 8 (.int v)) = jH h b X (u2 I 56 8 v) J R n := H_pI (by decide +kernel) (by decide +kernel) (by decide +kernel)
theorem p56_9 {v : Int32} : jset (jH h b X I J R n) (b + 56) (4, 10, updV (vf b 4 X I J R (56)) 9 (.int v)) = jH h b X (u2 I 56 9 v) J R n := H_pI (by decide +kernel) (by decide +kernel) (by decide +kernel)
theorem p131_9 {v : Int32} : jset (jH h b X I J R n) (b + 131) (8, 16, updV (vf b 8 X I J R (131)) 9 (.int v)) = jH h b X (u2 I 131 9 v) J R n := H_pI (by decide +kernel) (by decide +kernel) (by decide +kernel)
theorem p131_10 {v : Int32} : jset (jH h b X I J R n) (b + 131) (8, 16, updV (vf b 8 X I J R (131)) 10 (.int v)) = jH h b X (u2 I 131 10 v) J R n := H_pI (by decide +kernel) (by decide +kernel) (by decide +kernel)
theorem p131_11 {v : Int32} : jset (jH h b X I J R n) (b + 131) (8, 16, updV (vf b 8 X I J R (131)) 11 (.int v)) = jH h b X (u2 I 131 11 v) J R n := H_pI (by decide +kernel) (by decide +kernel) (by decide +kernel)
theorem p131_12 {v : Int32} : jset (jH h b X I J R n) (b + 131) (8, 16, updV (vf b 8 X I J R (131)) 12 (.int v)) = jH h b X (u2 I 131 12 v) J R n := H_pI (by decide +kernel) (by decide +kernel) (by decide +kernel)
theorem p131_14 {v : Int32} : jset (jH h b X I J R n) (b + 131) (8, 16, updV (vf b 8 X I J R (131)) 14 (.int v)) = jH h b X (u2 I 131 14 v) J R n := H_pI (by decide +kernel) (by decide +kernel) (by decide +kernel)
theorem p131_15 {v : Int32} : jset (jH h b X I J R n) (b + 131) (8, 16, updV (vf b 8 X I J R (131)) 15 (.int v)) = jH h b X (u2 I 131 15 v) J R n := H_pI (by decide +kernel) (by decide +kernel) (by decide +kernel)
theorem p207 {i : Nat} {v : Int32} : jset (jH h b X I J R n) (b + 207) (20, 1001, updV (vf b 20 X I J R (207)) i (.int v)) = jH h b X (u2 I 207 i v) J R n := H_pI (by decide +kernel) (by decide +kernel) (by simp)
theorem p208 {i : Nat} {v : Int32} : jset (jH h b X I J R n) (b + 208) (20, 1000, updV (vf b 20 X I J R (208)) i (.int v)) = jH h b X (u2 I 208 i v) J R n := H_pI (by decide +kernel) (by decide +kernel) (by simp)
theorem p209 {i : Nat} {v : Int32} : jset (jH h b X I J R n) (b + 209) (20, 1000, updV (vf b 20 X I J R (209)) i (.int v)) = jH h b X (u2 I 209 i v) J R n := H_pI (by decide +kernel) (by decide +kernel) (by simp)
theorem p210 {i : Nat} {v : Int32} : jset (jH h b X I J R n) (b + 210) (20, 1000, updV (vf b 20 X I J R (210)) i (.int v)) = jH h b X (u2 I 210 i v) J R n := H_pI (by decide +kernel) (by decide +kernel) (by simp)
theorem p211 {i : Nat} {v : Int32} : jset (jH h b X I J R n) (b + 211) (20, 1000, updV (vf b 20 X I J R (211)) i (.int v)) = jH h b X (u2 I 211 i v) J R n := H_pI (by decide +kernel) (by decide +kernel) (by simp)
theorem p212 {i : Nat} {v : Int32} : jset (jH h b X I J R n) (b + 212) (20, 2048, updV (vf b 20 X I J R (212)) i (.int v)) = jH h b X (u2 I 212 i v) J R n := H_pI (by decide +kernel) (by decide +kernel) (by simp)
theorem p213 {i : Nat} {v : Int32} : jset (jH h b X I J R n) (b + 213) (20, 370, updV (vf b 20 X I J R (213)) i (.int v)) = jH h b X (u2 I 213 i v) J R n := H_pI (by decide +kernel) (by decide +kernel) (by simp)
theorem p214 {i : Nat} {v : Int32} : jset (jH h b X I J R n) (b + 214) (20, 1000, updV (vf b 20 X I J R (214)) i (.int v)) = jH h b X (u2 I 214 i v) J R n := H_pI (by decide +kernel) (by decide +kernel) (by simp)
theorem p241_0 {v : Int32} : jset (jH h b X I J R n) (b + 241) (12, 101, updV (vf b 12 X I J R (241)) 0 (.int v)) = jH h b X (u2 I 241 0 v) J R n := H_pI (by decide +kernel) (by decide +kernel) (by decide +kernel)
theorem p241_2 {v : Int32} : jset (jH h b X I J R n) (b + 241) (12, 101, updV (vf b 12 X I J R (241)) 2 (.int v)) = jH h b X (u2 I 241 2 v) J R n := H_pI (by decide +kernel) (by decide +kernel) (by decide +kernel)
theorem p241_8 {v : Int32} : jset (jH h b X I J R n) (b + 241) (12, 101, updV (vf b 12 X I J R (241)) 8 (.int v)) = jH h b X (u2 I 241 8 v) J R n := H_pI (by decide +kernel) (by decide +kernel) (by decide +kernel)
theorem p241_9 {v : Int32} : jset (jH h b X I J R n) (b + 241) (12, 101, updV (vf b 12 X I J R (241)) 9 (.int v)) = jH h b X (u2 I 241 9 v) J R n := H_pI (by decide +kernel) (by decide +kernel) (by decide +kernel)
theorem p241_13 {v : Int32} : jset (jH h b X I J R n) (b + 241) (12, 101, updV (vf b 12 X I J R (241)) 13 (.int v)) = jH h b X (u2 I 241 13 v) J R n := H_pI (by decide +kernel) (by decide +kernel) (by decide +kernel)
theorem p241_14 {v : Int32} : jset (jH h b X I J R n) (b + 241) (12, 101, updV (vf b 12 X I J R (241)) 14 (.int v)) = jH h b X (u2 I 241 14 v) J R n := H_pI (by decide +kernel) (by decide +kernel) (by decide +kernel)
theorem p241_15 {v : Int32} : jset (jH h b X I J R n) (b + 241) (12, 101, updV (vf b 12 X I J R (241)) 15 (.int v)) = jH h b X (u2 I 241 15 v) J R n := H_pI (by decide +kernel) (by decide +kernel) (by decide +kernel)
theorem p241_16 {v : Int32} : jset (jH h b X I J R n) (b + 241) (12, 101, updV (vf b 12 X I J R (241)) 16 (.int v)) = jH h b X (u2 I 241 16 v) J R n := H_pI (by decide +kernel) (by decide +kernel) (by decide +kernel)
theorem p241_17 {v : Int32} : jset (jH h b X I J R n) (b + 241) (12, 101, updV (vf b 12 X I J R (241)) 17 (.int v)) = jH h b X (u2 I 241 17 v) J R n := H_pI (by decide +kernel) (by decide +kernel) (by decide +kernel)
theorem p241_18 {v : Int32} : jset (jH h b X I J R n) (b + 241) (12, 101, updV (vf b 12 X I J R (241)) 18 (.int v)) = jH h b X (u2 I 241 18 v) J R n := H_pI (by decide +kernel) (by decide +kernel) (by decide +kernel)
theorem p241_19 {v : Int32} : jset (jH h b X I J R n) (b + 241) (12, 101, updV (vf b 12 X I J R (241)) 19 (.int v)) = jH h b X (u2 I 241 19 v) J R n := H_pI (by decide +kernel) (by decide +kernel) (by decide +kernel)
theorem p241_20 {v : Int32} : jset (jH h b X I J R n) (b + 241) (12, 101, updV (vf b 12 X I J R (241)) 20 (.int v)) = jH h b X (u2 I 241 20 v) J R n := H_pI (by decide +kernel) (by decide +kernel) (by decide +kernel)
theorem p241_29 {v : Int32} : jset (jH h b X I J R n) (b + 241) (12, 101, updV (vf b 12 X I J R (241)) 29 (.int v)) = jH h b X (u2 I 241 29 v) J R n := H_pI (by decide +kernel) (by decide +kernel) (by decide +kernel)
theorem p241_30 {v : Int32} : jset (jH h b X I J R n) (b + 241) (12, 101, updV (vf b 12 X I J R (241)) 30 (.int v)) = jH h b X (u2 I 241 30 v) J R n := H_pI (by decide +kernel) (by decide +kernel) (by decide +kernel)
theorem p241_31 {v : Int32} : jset (jH h b X I J R n) (b + 241) (12, 101, updV (vf b 12 X I J R (241)) 31 (.int v)) = jH h b X (u2 I 241 31 v) J R n := H_pI (by decide +kernel) (by decide +kernel) (by decide +kernel)
theorem p241_32 {v : Int32} : jset (jH h b X I J R n) (b + 241) (12, 101, updV (vf b 12 X I J R (241)) 32 (.int v)) = jH h b X (u2 I 241 32 v) J R n := H_pI (by decide +kernel) (by decide +kernel) (by decide +kernel)
theorem p241_33 {v : Int32} : jset (jH h b X I J R n) (b + 241) (12, 101, updV (vf b 12 X I J R (241)) 33 (.int v)) = jH h b X (u2 I 241 33 v) J R n := H_pI (by decide +kernel) (by decide +kernel) (by decide +kernel)
theorem p241_34 {v : Int32} : jset (jH h b X I J R n) (b + 241) (12, 101, updV (vf b 12 X I J R (241)) 34 (.int v)) = jH h b X (u2 I 241 34 v) J R n := H_pI (by decide +kernel) (by decide +kernel) (by decide +kernel)
theorem p241_36 {v : Int32} : jset (jH h b X I J R n) (b + 241) (12, 101, updV (vf b 12 X I J R (241)) 36 (.int v)) = jH h b X (u2 I 241 36 v) J R n := H_pI (by decide +kernel) (by decide +kernel) (by decide +kernel)
theorem p241_37 {v : Int32} : jset (jH h b X I J R n) (b + 241) (12, 101, updV (vf b 12 X I J R (241)) 37 (.int v)) = jH h b X (u2 I 241 37 v) J R n := H_pI (by decide +kernel) (by decide +kernel) (by decide +kernel)
theorem p241_38 {v : Int32} : jset (jH h b X I J R n) (b + 241) (12, 101, updV (vf b 12 X I J R (241)) 38 (.int v)) = jH h b X (u2 I 241 38 v) J R n := H_pI (by decide +kernel) (by decide +kernel) (by decide +kernel)
theorem p241_39 {v : Int32} : jset (jH h b X I J R n) (b + 241) (12, 101, updV (vf b 12 X I J R (241)) 39 (.int v)) = jH h b X (u2 I 241 39 v) J R n := H_pI (by decide +kernel) (by decide +kernel) (by decide +kernel)
theorem p241_40 {v : Int32} : jset (jH h b X I J R n) (b + 241) (12, 101, updV (vf b 12 X I J R (241)) 40 (.int v)) = jH h b X (u2 I 241 40 v) J R n := H_pI (by decide +kernel) (by decide +kernel) (by decide +kernel)
theorem p241_41 {v : Int32} : jset (jH h b X I J R n) (b + 241) (12, 101, updV (vf b 12 X I J R (241)) 41 (.int v)) = jH h b X (u2 I 241 41 v) J R n := H_pI (by decide +kernel) (by decide +kernel) (by decide +kernel)
theorem p241_64 {v : Int32} : jset (jH h b X I J R n) (b + 241) (12, 101, updV (vf b 12 X I J R (241)) 64 (.int v)) = jH h b X (u2 I 241 64 v) J R n := H_pI (by decide +kernel) (by decide +kernel) (by decide +kernel)
theorem p241_65 {v : Int32} : jset (jH h b X I J R n) (b + 241) (12, 101, updV (vf b 12 X I J R (241)) 65 (.int v)) = jH h b X (u2 I 241 65 v) J R n := H_pI (by decide +kernel) (by decide +kernel) (by decide +kernel)
theorem p241_66 {v : Int32} : jset (jH h b X I J R n) (b + 241) (12, 101, updV (vf b 12 X I J R (241)) 66 (.int v)) = jH h b X (u2 I 241 66 v) J R n := H_pI (by decide +kernel) (by decide +kernel) (by decide +kernel)
theorem p241_67 {v : Int32} : jset (jH h b X I J R n) (b + 241) (12, 101, updV (vf b 12 X I J R (241)) 67 (.int v)) = jH h b X (u2 I 241 67 v) J R n := H_pI (by decide +kernel) (by decide +kernel) (by decide +kernel)
theorem p241_68 {v : Int32} : jset (jH h b X I J R n) (b + 241) (12, 101, updV (vf b 12 X I J R (241)) 68 (.int v)) = jH h b X (u2 I 241 68 v) J R n := H_pI (by decide +kernel) (by decide +kernel) (by decide +kernel)
theorem p241_69 {v : Int32} : jset (jH h b X I J R n) (b + 241) (12, 101, updV (vf b 12 X I J R (241)) 69 (.int v)) = jH h b X (u2 I 241 69 v) J R n := H_pI (by decide +kernel) (by decide +kernel) (by decide +kernel)
theorem p241_70 {v : Int32} : jset (jH h b X I J R n) (b + 241) (12, 101, updV (vf b 12 X I J R (241)) 70 (.int v)) = jH h b X (u2 I 241 70 v) J R n := H_pI (by decide +kernel) (by decide +kernel) (by decide +kernel)
theorem p241_71 {v : Int32} : jset (jH h b X I J R n) (b + 241) (12, 101, updV (vf b 12 X I J R (241)) 71 (.int v)) = jH h b X (u2 I 241 71 v) J R n := H_pI (by decide +kernel) (by decide +kernel) (by decide +kernel)
theorem p241_72 {v : Int32} : jset (jH h b X I J R n) (b + 241) (12, 101, updV (vf b 12 X I J R (241)) 72 (.int v)) = jH h b X (u2 I 241 72 v) J R n := H_pI (by decide +kernel) (by decide +kernel) (by decide +kernel)
theorem p241_73 {v : Int32} : jset (jH h b X I J R n) (b + 241) (12, 101, updV (vf b 12 X I J R (241)) 73 (.int v)) = jH h b X (u2 I 241 73 v) J R n := H_pI (by decide +kernel) (by decide +kernel) (by decide +kernel)
theorem p241_74 {v : Int32} : jset (jH h b X I J R n) (b + 241) (12, 101, updV (vf b 12 X I J R (241)) 74 (.int v)) = jH h b X (u2 I 241 74 v) J R n := H_pI (by decide +kernel) (by decide +kernel) (by decide +kernel)
theorem p241_80 {v : Int32} : jset (jH h b X I J R n) (b + 241) (12, 101, updV (vf b 12 X I J R (241)) 80 (.int v)) = jH h b X (u2 I 241 80 v) J R n := H_pI (by decide +kernel) (by decide +kernel) (by decide +kernel)
theorem p241_81 {v : Int32} : jset (jH h b X I J R n) (b + 241) (12, 101, updV (vf b 12 X I J R (241)) 81 (.int v)) = jH h b X (u2 I 241 81 v) J R n := H_pI (by decide +kernel) (by decide +kernel) (by decide +kernel)
theorem p241_82 {v : Int32} : jset (jH h b X I J R n) (b + 241) (12, 101, updV (vf b 12 X I J R (241)) 82 (.int v)) = jH h b X (u2 I 241 82 v) J R n := H_pI (by decide +kernel) (by decide +kernel) (by decide +kernel)
theorem p241_83 {v : Int32} : jset (jH h b X I J R n) (b + 241) (12, 101, updV (vf b 12 X I J R (241)) 83 (.int v)) = jH h b X (u2 I 241 83 v) J R n := H_pI (by decide +kernel) (by decide +kernel) (by decide +kernel)
theorem p241_84 {v : Int32} : jset (jH h b X I J R n) (b + 241) (12, 101, updV (vf b 12 X I J R (241)) 84 (.int v)) = jH h b X (u2 I 241 84 v) J R n := H_pI (by decide +kernel) (by decide +kernel) (by decide +kernel)
theorem p241_85 {v : Int32} : jset (jH h b X I J R n) (b + 241) (12, 101, updV (vf b 12 X I J R (241)) 85 (.int v)) = jH h b X (u2 I 241 85 v) J R n := H_pI (by decide +kernel) (by decide +kernel) (by decide +kernel)
theorem p241_86 {v : Int32} : jset (jH h b X I J R n) (b + 241) (12, 101, updV (vf b 12 X I J R (241)) 86 (.int v)) = jH h b X (u2 I 241 86 v) J R n := H_pI (by decide +kernel) (by decide +kernel) (by decide +kernel)
theorem p241_87 {v : Int32} : jset (jH h b X I J R n) (b + 241) (12, 101, updV (vf b 12 X I J R (241)) 87 (.int v)) = jH h b X (u2 I 241 87 v) J R n := H_pI (by decide +kernel) (by decide +kernel) (by decide +kernel)
theorem p241_88 {v : Int32} : jset (jH h b X I J R n) (b + 241) (12, 101, updV (vf b 12 X I J R (241)) 88 (.int v)) = jH h b X (u2 I 241 88 v) J R n := H_pI (by decide +kernel) (by decide +kernel) (by decide +kernel)
theorem p247 {i : Nat} {v : Int32} : jset (jH h b X I J R n) (b + 247) (20, 256, updV (vf b 20 X I J R (247)) i (.int v)) = jH h b X (u2 I 247 i v) J R n := H_pI (by decide +kernel) (by decide +kernel) (by simp)
theorem p248 {i : Nat} {v : Int32} : jset (jH h b X I J R n) (b + 248) (22, 2000, updV (vf b 22 X I J R (248)) i (.int v)) = jH h b X (u2 I 248 i v) J R n := H_pI (by decide +kernel) (by decide +kernel) (by simp)
theorem p249 {i : Nat} {v : Int32} : jset (jH h b X I J R n) (b + 249) (22, 2000, updV (vf b 22 X I J R (249)) i (.int v)) = jH h b X (u2 I 249 i v) J R n := H_pI (by decide +kernel) (by decide +kernel) (by simp)
theorem p250 {i : Nat} {v : Int32} : jset (jH h b X I J R n) (b + 250) (22, 16, updV (vf b 22 X I J R (250)) i (.int v)) = jH h b X (u2 I 250 i v) J R n := H_pI (by decide +kernel) (by decide +kernel) (by simp)
theorem p259 {i : Nat} {v : Int32} : jset (jH h b X I J R n) (b + 259) (20, 6, updV (vf b 20 X I J R (259)) i (.int v)) = jH h b X (u2 I 259 i v) J R n := H_pI (by decide +kernel) (by decide +kernel) (by simp)
theorem p260 {i : Nat} {v : Int32} : jset (jH h b X I J R n) (b + 260) (20, 8, updV (vf b 20 X I J R (260)) i (.int v)) = jH h b X (u2 I 260 i v) J R n := H_pI (by decide +kernel) (by decide +kernel) (by simp)
theorem p261 {i : Nat} {v : Int32} : jset (jH h b X I J R n) (b + 261) (20, 8, updV (vf b 20 X I J R (261)) i (.int v)) = jH h b X (u2 I 261 i v) J R n := H_pI (by decide +kernel) (by decide +kernel) (by simp)
theorem p262 {i : Nat} {v : Int32} : jset (jH h b X I J R n) (b + 262) (20, 8, updV (vf b 20 X I J R (262)) i (.int v)) = jH h b X (u2 I 262 i v) J R n := H_pI (by decide +kernel) (by decide +kernel) (by simp)
theorem p263 {i : Nat} {v : Int32} : jset (jH h b X I J R n) (b + 263) (20, 8, updV (vf b 20 X I J R (263)) i (.int v)) = jH h b X (u2 I 263 i v) J R n := H_pI (by decide +kernel) (by decide +kernel) (by simp)
theorem p264 {i : Nat} {v : Int32} : jset (jH h b X I J R n) (b + 264) (20, 8, updV (vf b 20 X I J R (264)) i (.int v)) = jH h b X (u2 I 264 i v) J R n := H_pI (by decide +kernel) (by decide +kernel) (by simp)
theorem p265 {i : Nat} {v : Int32} : jset (jH h b X I J R n) (b + 265) (20, 8, updV (vf b 20 X I J R (265)) i (.int v)) = jH h b X (u2 I 265 i v) J R n := H_pI (by decide +kernel) (by decide +kernel) (by simp)
theorem p266 {i : Nat} {v : Int32} : jset (jH h b X I J R n) (b + 266) (20, 48, updV (vf b 20 X I J R (266)) i (.int v)) = jH h b X (u2 I 266 i v) J R n := H_pI (by decide +kernel) (by decide +kernel) (by simp)
theorem p267 {i : Nat} {v : Int32} : jset (jH h b X I J R n) (b + 267) (20, 8, updV (vf b 20 X I J R (267)) i (.int v)) = jH h b X (u2 I 267 i v) J R n := H_pI (by decide +kernel) (by decide +kernel) (by simp)
theorem p268 {i : Nat} {v : Int32} : jset (jH h b X I J R n) (b + 268) (20, 64, updV (vf b 20 X I J R (268)) i (.int v)) = jH h b X (u2 I 268 i v) J R n := H_pI (by decide +kernel) (by decide +kernel) (by simp)
theorem p269 {i : Nat} {v : Int32} : jset (jH h b X I J R n) (b + 269) (20, 64, updV (vf b 20 X I J R (269)) i (.int v)) = jH h b X (u2 I 269 i v) J R n := H_pI (by decide +kernel) (by decide +kernel) (by simp)
theorem p270 {i : Nat} {v : Int32} : jset (jH h b X I J R n) (b + 270) (20, 64, updV (vf b 20 X I J R (270)) i (.int v)) = jH h b X (u2 I 270 i v) J R n := H_pI (by decide +kernel) (by decide +kernel) (by simp)
theorem p271 {i : Nat} {v : Int32} : jset (jH h b X I J R n) (b + 271) (20, 64, updV (vf b 20 X I J R (271)) i (.int v)) = jH h b X (u2 I 271 i v) J R n := H_pI (by decide +kernel) (by decide +kernel) (by simp)
theorem p272 {i : Nat} {v : Int32} : jset (jH h b X I J R n) (b + 272) (20, 8, updV (vf b 20 X I J R (272)) i (.int v)) = jH h b X (u2 I 272 i v) J R n := H_pI (by decide +kernel) (by decide +kernel) (by simp)
theorem p273 {i : Nat} {v : Int32} : jset (jH h b X I J R n) (b + 273) (20, 32, updV (vf b 20 X I J R (273)) i (.int v)) = jH h b X (u2 I 273 i v) J R n := H_pI (by decide +kernel) (by decide +kernel) (by simp)
theorem p274 {i : Nat} {v : Int32} : jset (jH h b X I J R n) (b + 274) (20, 32, updV (vf b 20 X I J R (274)) i (.int v)) = jH h b X (u2 I 274 i v) J R n := H_pI (by decide +kernel) (by decide +kernel) (by simp)
theorem p275 {i : Nat} {v : Int32} : jset (jH h b X I J R n) (b + 275) (20, 400, updV (vf b 20 X I J R (275)) i (.int v)) = jH h b X (u2 I 275 i v) J R n := H_pI (by decide +kernel) (by decide +kernel) (by simp)
theorem p276 {i : Nat} {v : Int32} : jset (jH h b X I J R n) (b + 276) (20, 400, updV (vf b 20 X I J R (276)) i (.int v)) = jH h b X (u2 I 276 i v) J R n := H_pI (by decide +kernel) (by decide +kernel) (by simp)
theorem p277 {i : Nat} {v : Int32} : jset (jH h b X I J R n) (b + 277) (20, 400, updV (vf b 20 X I J R (277)) i (.int v)) = jH h b X (u2 I 277 i v) J R n := H_pI (by decide +kernel) (by decide +kernel) (by simp)
theorem p278 {i : Nat} {v : Int32} : jset (jH h b X I J R n) (b + 278) (20, 400, updV (vf b 20 X I J R (278)) i (.int v)) = jH h b X (u2 I 278 i v) J R n := H_pI (by decide +kernel) (by decide +kernel) (by simp)
theorem p279 {i : Nat} {v : Int32} : jset (jH h b X I J R n) (b + 279) (20, 400, updV (vf b 20 X I J R (279)) i (.int v)) = jH h b X (u2 I 279 i v) J R n := H_pI (by decide +kernel) (by decide +kernel) (by simp)
theorem p280 {i : Nat} {v : Int32} : jset (jH h b X I J R n) (b + 280) (20, 400, updV (vf b 20 X I J R (280)) i (.int v)) = jH h b X (u2 I 280 i v) J R n := H_pI (by decide +kernel) (by decide +kernel) (by simp)
theorem p281 {i : Nat} {v : Int32} : jset (jH h b X I J R n) (b + 281) (23, 400, updV (vf b 23 X I J R (281)) i (.int v)) = jH h b X (u2 I 281 i v) J R n := H_pI (by decide +kernel) (by decide +kernel) (by simp)
theorem p282 {i : Nat} {v : Int32} : jset (jH h b X I J R n) (b + 282) (20, 435870, updV (vf b 20 X I J R (282)) i (.int v)) = jH h b X (u2 I 282 i v) J R n := H_pI (by decide +kernel) (by decide +kernel) (by simp)
theorem p283 {i : Nat} {v : Int32} : jset (jH h b X I J R n) (b + 283) (20, 1002, updV (vf b 20 X I J R (283)) i (.int v)) = jH h b X (u2 I 283 i v) J R n := H_pI (by decide +kernel) (by decide +kernel) (by simp)
theorem p284 {i : Nat} {v : Int32} : jset (jH h b X I J R n) (b + 284) (20, 1002, updV (vf b 20 X I J R (284)) i (.int v)) = jH h b X (u2 I 284 i v) J R n := H_pI (by decide +kernel) (by decide +kernel) (by simp)
theorem p285 {i : Nat} {v : Int32} : jset (jH h b X I J R n) (b + 285) (20, 1002, updV (vf b 20 X I J R (285)) i (.int v)) = jH h b X (u2 I 285 i v) J R n := H_pI (by decide +kernel) (by decide +kernel) (by simp)
theorem p286 {i : Nat} {v : Int32} : jset (jH h b X I J R n) (b + 286) (20, 1002, updV (vf b 20 X I J R (286)) i (.int v)) = jH h b X (u2 I 286 i v) J R n := H_pI (by decide +kernel) (by decide +kernel) (by simp)
theorem p287 {i : Nat} {v : Int32} : jset (jH h b X I J R n) (b + 287) (20, 40, updV (vf b 20 X I J R (287)) i (.int v)) = jH h b X (u2 I 287 i v) J R n := H_pI (by decide +kernel) (by decide +kernel) (by simp)
theorem p288 {i : Nat} {v : Int32} : jset (jH h b X I J R n) (b + 288) (20, 40, updV (vf b 20 X I J R (288)) i (.int v)) = jH h b X (u2 I 288 i v) J R n := H_pI (by decide +kernel) (by decide +kernel) (by simp)
theorem p289 {i : Nat} {v : Int32} : jset (jH h b X I J R n) (b + 289) (20, 40, updV (vf b 20 X I J R (289)) i (.int v)) = jH h b X (u2 I 289 i v) J R n := H_pI (by decide +kernel) (by decide +kernel) (by simp)
theorem p290 {i : Nat} {v : Int32} : jset (jH h b X I J R n) (b + 290) (20, 40, updV (vf b 20 X I J R (290)) i (.int v)) = jH h b X (u2 I 290 i v) J R n := H_pI (by decide +kernel) (by decide +kernel) (by simp)
theorem p291 {i : Nat} {v : Int32} : jset (jH h b X I J R n) (b + 291) (20, 40, updV (vf b 20 X I J R (291)) i (.int v)) = jH h b X (u2 I 291 i v) J R n := H_pI (by decide +kernel) (by decide +kernel) (by simp)
theorem p292 {i : Nat} {v : Int32} : jset (jH h b X I J R n) (b + 292) (20, 40, updV (vf b 20 X I J R (292)) i (.int v)) = jH h b X (u2 I 292 i v) J R n := H_pI (by decide +kernel) (by decide +kernel) (by simp)
theorem p293 {i : Nat} {v : Int32} : jset (jH h b X I J R n) (b + 293) (20, 8, updV (vf b 20 X I J R (293)) i (.int v)) = jH h b X (u2 I 293 i v) J R n := H_pI (by decide +kernel) (by decide +kernel) (by simp)
theorem p294 {i : Nat} {v : Int32} : jset (jH h b X I J R n) (b + 294) (20, 8, updV (vf b 20 X I J R (294)) i (.int v)) = jH h b X (u2 I 294 i v) J R n := H_pI (by decide +kernel) (by decide +kernel) (by simp)
theorem p295 {i : Nat} {v : Int32} : jset (jH h b X I J R n) (b + 295) (23, 6400, updV (vf b 23 X I J R (295)) i (.int v)) = jH h b X (u2 I 295 i v) J R n := H_pI (by decide +kernel) (by decide +kernel) (by simp)
theorem p296 {i : Nat} {v : Int32} : jset (jH h b X I J R n) (b + 296) (23, 80, updV (vf b 23 X I J R (296)) i (.int v)) = jH h b X (u2 I 296 i v) J R n := H_pI (by decide +kernel) (by decide +kernel) (by simp)
theorem p297 {i : Nat} {v : Int32} : jset (jH h b X I J R n) (b + 297) (20, 6400, updV (vf b 20 X I J R (297)) i (.int v)) = jH h b X (u2 I 297 i v) J R n := H_pI (by decide +kernel) (by decide +kernel) (by simp)
theorem p298 {i : Nat} {v : Int32} : jset (jH h b X I J R n) (b + 298) (20, 6400, updV (vf b 20 X I J R (298)) i (.int v)) = jH h b X (u2 I 298 i v) J R n := H_pI (by decide +kernel) (by decide +kernel) (by simp)
theorem p299 {i : Nat} {v : Int64} : jset (jH h b X I J R n) (b + 299) (21, 1, updV (vf b 21 X I J R (299)) i (.long v)) = jH h b X I (u2 J 299 i v) R n := H_pJ (by decide +kernel) (by decide +kernel)
theorem g0z : (jH h b X I J R n).1 b = some (10, 14, vf b 10 X I J R 0) := H_fx (k := 0) (by decide +kernel) (by decide +kernel)
theorem p0_1 {v : Int32} : jset (jH h b X I J R n) b (10, 14, updV (vf b 10 X I J R 0) 1 (.int v)) = jH h b X (u2 I 0 1 v) J R n := H_pI (k := 0) (by decide +kernel) (by decide +kernel) (by decide +kernel)
theorem p0_3 {v : Int32} : jset (jH h b X I J R n) b (10, 14, updV (vf b 10 X I J R 0) 3 (.int v)) = jH h b X (u2 I 0 3 v) J R n := H_pI (k := 0) (by decide +kernel) (by decide +kernel) (by decide +kernel)
theorem p0_8 {v : Nat} : jset (jH h b X I J R n) b (10, 14, updV (vf b 10 X I J R 0) 8 (.ref (b + v))) = jH h b X I J (u2 R 0 8 v) n := H_pR (k := 0) (by decide +kernel) (by decide +kernel) (by decide +kernel) (by decide +kernel) (by decide +kernel)
theorem p0_9 {v : Nat} : jset (jH h b X I J R n) b (10, 14, updV (vf b 10 X I J R 0) 9 (.ref (b + v))) = jH h b X I J (u2 R 0 9 v) n := H_pR (k := 0) (by decide +kernel) (by decide +kernel) (by decide +kernel) (by decide +kernel) (by decide +kernel)
theorem p0_10 {v : Int32} : jset (jH h b X I J R n) b (10, 14, updV (vf b 10 X I J R 0) 10 (.int v)) = jH h b X (u2 I 0 10 v) J R n := H_pI (k := 0) (by decide +kernel) (by decide +kernel) (by decide +kernel)
theorem p0_11 {v : Nat} : jset (jH h b X I J R n) b (10, 14, updV (vf b 10 X I J R 0) 11 (.ref (b + v))) = jH h b X I J (u2 R 0 11 v) n := H_pR (k := 0) (by decide +kernel) (by decide +kernel) (by decide +kernel) (by decide +kernel) (by decide +kernel)
theorem p0_12 {v : Nat} : jset (jH h b X I J R n) b (10, 14, updV (vf b 10 X I J R 0) 12 (.ref (b + v))) = jH h b X I J (u2 R 0 12 v) n := H_pR (k := 0) (by decide +kernel) (by decide +kernel) (by decide +kernel) (by decide +kernel) (by decide +kernel)
theorem p0_13 {v : Int32} : jset (jH h b X I J R n) b (10, 14, updV (vf b 10 X I J R 0) 13 (.int v)) = jH h b X (u2 I 0 13 v) J R n := H_pI (k := 0) (by decide +kernel) (by decide +kernel) (by decide +kernel)
theorem p206 {i : Nat} {x : Int32} : jset (jH h b X I J R n) (b + ad X 206) (20, cp X 206, updV (vf b 20 X I J R 206) i (.int x)) = jH h b X (u2 I 206 i x) J R n := H_pA (v := 206) (by decide +kernel)
theorem p243 {i : Nat} {x : Int32} : jset (jH h b X I J R n) (b + ad X 243) (22, cp X 243, updV (vf b 22 X I J R 243) i (.int x)) = jH h b X (u2 I 243 i x) J R n := H_pA (v := 243) (by decide +kernel)
theorem p244 {i : Nat} {x : Int32} : jset (jH h b X I J R n) (b + ad X 244) (20, cp X 244, updV (vf b 20 X I J R 244) i (.int x)) = jH h b X (u2 I 244 i x) J R n := H_pA (v := 244) (by decide +kernel)
theorem p245 {i : Nat} {x : Int32} : jset (jH h b X I J R n) (b + ad X 245) (20, cp X 245, updV (vf b 20 X I J R 245) i (.int x)) = jH h b X (u2 I 245 i x) J R n := H_pA (v := 245) (by decide +kernel)
theorem p246 {i : Nat} {x : Int32} : jset (jH h b X I J R n) (b + ad X 246) (20, cp X 246, updV (vf b 20 X I J R 246) i (.int x)) = jH h b X (u2 I 246 i x) J R n := H_pA (v := 246) (by decide +kernel)
theorem p251 {i : Nat} {x : Int32} : jset (jH h b X I J R n) (b + ad X 251) (20, cp X 251, updV (vf b 20 X I J R 251) i (.int x)) = jH h b X (u2 I 251 i x) J R n := H_pA (v := 251) (by decide +kernel)
theorem p252 {i : Nat} {x : Int32} : jset (jH h b X I J R n) (b + ad X 252) (20, cp X 252, updV (vf b 20 X I J R 252) i (.int x)) = jH h b X (u2 I 252 i x) J R n := H_pA (v := 252) (by decide +kernel)
theorem p253 {i : Nat} {x : Int32} : jset (jH h b X I J R n) (b + ad X 253) (20, cp X 253, updV (vf b 20 X I J R 253) i (.int x)) = jH h b X (u2 I 253 i x) J R n := H_pA (v := 253) (by decide +kernel)
theorem p254 {i : Nat} {x : Int32} : jset (jH h b X I J R n) (b + ad X 254) (20, cp X 254, updV (vf b 20 X I J R 254) i (.int x)) = jH h b X (u2 I 254 i x) J R n := H_pA (v := 254) (by decide +kernel)
theorem p255 {i : Nat} {x : Int32} : jset (jH h b X I J R n) (b + ad X 255) (20, cp X 255, updV (vf b 20 X I J R 255) i (.int x)) = jH h b X (u2 I 255 i x) J R n := H_pA (v := 255) (by decide +kernel)
theorem p256 {i : Nat} {x : Int32} : jset (jH h b X I J R n) (b + ad X 256) (20, cp X 256, updV (vf b 20 X I J R 256) i (.int x)) = jH h b X (u2 I 256 i x) J R n := H_pA (v := 256) (by decide +kernel)
theorem p257 {i : Nat} {x : Int32} : jset (jH h b X I J R n) (b + ad X 257) (20, cp X 257, updV (vf b 20 X I J R 257) i (.int x)) = jH h b X (u2 I 257 i x) J R n := H_pA (v := 257) (by decide +kernel)
theorem p258 {i : Nat} {x : Int32} : jset (jH h b X I J R n) (b + ad X 258) (20, cp X 258, updV (vf b 20 X I J R 258) i (.int x)) = jH h b X (u2 I 258 i x) J R n := H_pA (v := 258) (by decide +kernel)
end PS
