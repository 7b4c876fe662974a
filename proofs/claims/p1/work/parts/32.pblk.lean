/-! heaps as a list of cells from an address on -/
def jB (h : Nat → Option jC) (b : Nat) (l : List jC) (n : Nat) : jS := (fun q => if q < b then h q else l[q - b]?, b + l.length, n)
theorem B_get {h : Nat → Option jC} {b k n : Nat} {l : List jC} : (jB h b l n).1 (b + k) = l[k]? := by
  show (if b + k < b then h (b + k) else l[b + k - b]?) = _
  rw [if_neg (by omega), Nat.add_sub_cancel_left]
theorem B_get0 {h : Nat → Option jC} {b n : Nat} {l : List jC} : (jB h b l n).1 b = l[0]? := by
  simp [jB]
theorem B_top {h : Nat → Option jC} {b n : Nat} {l : List jC} : (jB h b l n).2.1 = b + l.length := rfl
theorem B_slots {h : Nat → Option jC} {b n : Nat} {l : List jC} : (jB h b l n).2.2 = n := rfl
theorem B_low {h : Nat → Option jC} {b n q : Nat} {l : List jC} (hq : q < b) : (jB h b l n).1 q = h q := by
  simp [jB, hq]
theorem B_set {h : Nat → Option jC} {b k n : Nat} {l : List jC} {c : jC} (hk : k < l.length) : jset (jB h b l n) (b + k) c = jB h b (l.set k c) n := by
  unfold jset jB
  simp only [List.length_set]
  congr 1
  funext q
  unfold jup
  by_cases hq : q = b + k
  · subst hq
    rw [if_pos rfl, if_neg (by omega), Nat.add_sub_cancel_left, List.getElem?_set_self hk]
  · rw [if_neg hq]
    show (if q < b then h q else l[q - b]?) = _
    by_cases hb : q < b
    · rw [if_pos hb, if_pos hb]
    · rw [if_neg hb, if_neg hb, List.getElem?_set_ne (by omega)]
theorem B_set0 {h : Nat → Option jC} {b n : Nat} {l : List jC} {c : jC} (hk : 0 < l.length) : jset (jB h b l n) b c = jB h b (l.set 0 c) n := B_set (k := 0) hk
theorem B_new {h : Nat → Option jC} {b n m : Nat} {l : List jC} {c : jC} : jnew (jB h b l n) c m = jB h b (l ++ [c]) (n + m) := by
  unfold jnew jB
  simp only [List.length_append, List.length_cons, List.length_nil]
  congr 1
  funext q
  unfold jup
  by_cases hq : q = b + l.length
  · subst hq
    rw [if_pos rfl, if_neg (by omega), Nat.add_sub_cancel_left, List.getElem?_append_right (Nat.le_refl _), Nat.sub_self]
    rfl
  · rw [if_neg hq]
    show (if q < b then h q else l[q - b]?) = _
    by_cases hb : q < b
    · rw [if_pos hb, if_pos hb]
    · rw [if_neg hb, if_neg hb]
      by_cases hl : q - b < l.length
      · rw [List.getElem?_append_left hl]
      · rw [List.getElem?_append_right (by omega), List.getElem?_eq_none (by omega)]
        rw [List.getElem?_eq_none]
        simp only [List.length_cons, List.length_nil]
        omega
/-- fields by a list, the rest by g -/
def jfl9 (g : Nat → Value) (vs : List Value) : Nat → Value := fun i => vs.getD i (g i)
theorem fl_upd {g : Nat → Value} {vs : List Value} {i : Nat} {v : Value} (hi : i < vs.length) : updV (jfl9 g vs) i v = jfl9 g (vs.set i v) := by
  funext k
  unfold updV jfl9
  by_cases hk : k = i
  · subst hk
    rw [if_pos rfl, List.getD_eq_getElem?_getD, List.getElem?_set_self hi]
    rfl
  · rw [if_neg hk, List.getD_eq_getElem?_getD, List.getD_eq_getElem?_getD, List.getElem?_set_ne (Ne.symm hk)]
theorem fl_get {g : Nat → Value} {vs : List Value} {i : Nat} : jfl9 g vs i = vs.getD i (g i) := rfl
theorem fl_new {k n : Nat} : jfl9 (jdf k) (jdl k n) = fun f => defaultValue (jTy k f) := by
  funext i
  unfold jfl9 jdl
  rw [List.getD_eq_getElem?_getD, List.getElem?_map]
  by_cases hi : i < n
  · rw [List.getElem?_range hi]
    rfl
  · rw [List.getElem?_eq_none (by simp; omega)]
    rfl
theorem B_cut {h : Nat → Option jC} {b n : Nat} {l0 l1 : List jC} : jB h b (l0 ++ l1) n = jB (jB h b l0 n).1 (b + l0.length) l1 n := by
  unfold jB
  simp only [List.length_append, Nat.add_assoc]
  congr 1
  funext q
  by_cases h1 : q < b
  · rw [if_pos h1, if_pos (by omega), if_pos h1]
  · rw [if_neg h1]
    by_cases h2 : q < b + l0.length
    · rw [if_pos h2, if_neg h1, List.getElem?_append_left (by omega)]
    · rw [if_neg h2, List.getElem?_append_right (by omega)]
      congr 1
      omega
def z20 (n : Nat) : jC := (20, n, fun _ => .int 0)
def z21 (n : Nat) : jC := (21, n, fun _ => .long 0)
def z22 (n : Nat) : jC := (22, n, fun _ => .int 0)
def z23 (n : Nat) : jC := (23, n, fun _ => .int 0)
def z24 (n : Nat) : jC := (24, n, fun _ => .null)
theorem z20_e {n : Nat} : ((20, n, fun _ => defaultValue (jAt 20)) : jC) = z20 n := rfl
theorem z21_e {n : Nat} : ((21, n, fun _ => defaultValue (jAt 21)) : jC) = z21 n := rfl
theorem z22_e {n : Nat} : ((22, n, fun _ => defaultValue (jAt 22)) : jC) = z22 n := rfl
theorem z23_e {n : Nat} : ((23, n, fun _ => defaultValue (jAt 23)) : jC) = z23 n := rfl
theorem z24_e {n : Nat} : ((24, n, fun _ => defaultValue (jAt 24)) : jC) = z24 n := rfl
theorem nc_e {k n : Nat} : ((k, n, fun f => defaultValue (jTy k f)) : jC) = (k, n, jfl9 (jdf k) (jdl k n)) := by rw [fl_new]
theorem nf0 : jNf 0 = 13 := rfl
theorem nf1 : jNf 1 = 5 := rfl
theorem nf2 : jNf 2 = 15 := rfl
theorem nf3 : jNf 3 = 3 := rfl
theorem nf4 : jNf 4 = 10 := rfl
theorem nf5 : jNf 5 = 18 := rfl
theorem nf6 : jNf 6 = 7 := rfl
theorem nf7 : jNf 7 = 8 := rfl
theorem nf8 : jNf 8 = 16 := rfl
theorem nf9 : jNf 9 = 13 := rfl
theorem nf10 : jNf 10 = 14 := rfl
theorem nf11 : jNf 11 = 6 := rfl
theorem nf12 : jNf 12 = 101 := rfl
theorem z24_8 : z24 8 = (24, 8, jfl9 (fun _ => .null) [.null, .null, .null, .null, .null, .null, .null, .null]) := by
  unfold z24
  congr 2
  funext i
  unfold jfl9
  rw [List.getD_eq_getElem?_getD]
  match i with
  | 0 => rfl
  | 1 => rfl
  | 2 => rfl
  | 3 => rfl
  | 4 => rfl
  | 5 => rfl
  | 6 => rfl
  | 7 => rfl
  | i + 8 => rfl
