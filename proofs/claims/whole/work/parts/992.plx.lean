/-! tokens, said once over bytes: t i for i < n -/
theorem LI38 : (38 : Int32) = nI 38 := by decide
theorem LI39 : (39 : Int32) = nI 39 := by decide
theorem LI41 : (41 : Int32) = nI 41 := by decide
theorem LI44 : (44 : Int32) = nI 44 := by decide
theorem LI46 : (46 : Int32) = nI 46 := by decide
theorem LI47 : (47 : Int32) = nI 47 := by decide
theorem LI49 : (49 : Int32) = nI 49 := by decide
theorem LI50 : (50 : Int32) = nI 50 := by decide
theorem LI51 : (51 : Int32) = nI 51 := by decide
theorem LI52 : (52 : Int32) = nI 52 := by decide
theorem LI53 : (53 : Int32) = nI 53 := by decide
theorem LI54 : (54 : Int32) = nI 54 := by decide
theorem LI55 : (55 : Int32) = nI 55 := by decide
theorem LI56 : (56 : Int32) = nI 56 := by decide
theorem LI57 : (57 : Int32) = nI 57 := by decide
theorem LI58 : (58 : Int32) = nI 58 := by decide
theorem LI59 : (59 : Int32) = nI 59 := by decide
theorem LI62 : (62 : Int32) = nI 62 := by decide
theorem LI63 : (63 : Int32) = nI 63 := by decide
theorem LI65 : (65 : Int32) = nI 65 := by decide
theorem LI66 : (66 : Int32) = nI 66 := by decide
theorem LI67 : (67 : Int32) = nI 67 := by decide
theorem LI68 : (68 : Int32) = nI 68 := by decide
theorem LI69 : (69 : Int32) = nI 69 := by decide
theorem LI70 : (70 : Int32) = nI 70 := by decide
theorem LI71 : (71 : Int32) = nI 71 := by decide
theorem LI72 : (72 : Int32) = nI 72 := by decide
theorem LI73 : (73 : Int32) = nI 73 := by decide
theorem LI74 : (74 : Int32) = nI 74 := by decide
theorem LI75 : (75 : Int32) = nI 75 := by decide
theorem LI76 : (76 : Int32) = nI 76 := by decide
theorem LI77 : (77 : Int32) = nI 77 := by decide
theorem LI78 : (78 : Int32) = nI 78 := by decide
theorem LI79 : (79 : Int32) = nI 79 := by decide
theorem LI81 : (81 : Int32) = nI 81 := by decide
theorem LI82 : (82 : Int32) = nI 82 := by decide
theorem LI83 : (83 : Int32) = nI 83 := by decide
theorem LI84 : (84 : Int32) = nI 84 := by decide
theorem LI85 : (85 : Int32) = nI 85 := by decide
theorem LI86 : (86 : Int32) = nI 86 := by decide
theorem LI87 : (87 : Int32) = nI 87 := by decide
theorem LI88 : (88 : Int32) = nI 88 := by decide
theorem LI89 : (89 : Int32) = nI 89 := by decide
theorem LI90 : (90 : Int32) = nI 90 := by decide
theorem LI91 : (91 : Int32) = nI 91 := by decide
theorem LI92 : (92 : Int32) = nI 92 := by decide
theorem LI93 : (93 : Int32) = nI 93 := by decide
theorem LI94 : (94 : Int32) = nI 94 := by decide
theorem LI95 : (95 : Int32) = nI 95 := by decide
theorem LI96 : (96 : Int32) = nI 96 := by decide
theorem LI97 : (97 : Int32) = nI 97 := by decide
theorem LI98 : (98 : Int32) = nI 98 := by decide
theorem LI99 : (99 : Int32) = nI 99 := by decide
theorem LI100 : (100 : Int32) = nI 100 := by decide
theorem LI101 : (101 : Int32) = nI 101 := by decide
theorem LI102 : (102 : Int32) = nI 102 := by decide
theorem LI103 : (103 : Int32) = nI 103 := by decide
theorem LI104 : (104 : Int32) = nI 104 := by decide
theorem LI105 : (105 : Int32) = nI 105 := by decide
theorem LI106 : (106 : Int32) = nI 106 := by decide
theorem LI107 : (107 : Int32) = nI 107 := by decide
theorem LI108 : (108 : Int32) = nI 108 := by decide
theorem LI109 : (109 : Int32) = nI 109 := by decide
theorem LI110 : (110 : Int32) = nI 110 := by decide
theorem LI111 : (111 : Int32) = nI 111 := by decide
theorem LI112 : (112 : Int32) = nI 112 := by decide
theorem LI113 : (113 : Int32) = nI 113 := by decide
theorem LI114 : (114 : Int32) = nI 114 := by decide
theorem LI115 : (115 : Int32) = nI 115 := by decide
theorem LI116 : (116 : Int32) = nI 116 := by decide
theorem LI117 : (117 : Int32) = nI 117 := by decide
theorem LI118 : (118 : Int32) = nI 118 := by decide
theorem LI119 : (119 : Int32) = nI 119 := by decide
theorem LI120 : (120 : Int32) = nI 120 := by decide
theorem LI121 : (121 : Int32) = nI 121 := by decide
theorem LI122 : (122 : Int32) = nI 122 := by decide
theorem LI123 : (123 : Int32) = nI 123 := by decide
theorem LI124 : (124 : Int32) = nI 124 := by decide
theorem LI125 : (125 : Int32) = nI 125 := by decide
theorem LI126 : (126 : Int32) = nI 126 := by decide
theorem LI127 : (127 : Int32) = nI 127 := by decide
theorem LI255 : (255 : Int32) = nI 255 := by decide
theorem LI256 : (256 : Int32) = nI 256 := by decide
theorem LI999 : (999 : Int32) = nI 999 := by decide
theorem LI1001 : (1001 : Int32) = nI 1001 := by decide
theorem LI1002 : (1002 : Int32) = nI 1002 := by decide
theorem LI1600 : (1600 : Int32) = nI 1600 := by decide
theorem LI4096 : (4096 : Int32) = nI 4096 := by decide
theorem LI1000001 : (1000001 : Int32) = nI 1000001 := by decide
theorem LI2042 : (2042 : Int32) = nI 2042 := by decide
def skp (t : Nat → Int32) (n : Nat) : Nat → Nat → Nat
  | 0, p => p
  | r + 1, p => if p < n ∧ (t p = nI 10 ∨ t p = nI 32) then skp t n r (p + 1) else p
def nmE (t : Nat → Int32) (n : Nat) : Nat → Nat → Nat
  | 0, p => p
  | r + 1, p => if p < n ∧ (isLet (t p) = true ∨ isDig (t p) = true) then nmE t n r (p + 1) else p
def dgE (t : Nat → Int32) (n : Nat) : Nat → Nat → Nat
  | 0, p => p
  | r + 1, p => if p < n ∧ isDig (t p) = true then dgE t n r (p + 1) else p
/-- the number that is read from p on, never above 1000001 -/
def dgV (t : Nat → Int32) (n : Nat) : Nat → Nat → Nat → Nat
  | 0, _, v => v
  | r + 1, p, v => if p < n ∧ isDig (t p) = true then dgV t n r (p + 1) (min (10 * v + (ix (t p) - 48)) 1000001) else v
def sk (t : Nat → Int32) (n p : Nat) : Nat := skp t n (n - p) p
def nmN (t : Nat → Int32) (n p : Nat) : Nat := nmE t n (n - p) p
def dgN (t : Nat → Int32) (n p : Nat) : Nat := dgE t n (n - p) p
def dgW (t : Nat → Int32) (n p : Nat) : Nat := dgV t n (n - p) p 0
/-- head and tail of k bytes -/
def hdF (f : Nat → Int32) : Nat → Int64
  | 0 => 0
  | k + 1 => if k < 8 then hdF f k ||| (f k).toInt64 <<< ((nI (56 - 8 * k)).toInt64 &&& 63) else hdF f k
def tlF (f : Nat → Int32) : Nat → Int32
  | 0 => 0
  | k + 1 => if 8 ≤ k ∧ k < 12 then tlF f k ||| f k <<< (nI (88 - 8 * k) &&& nI 31) else tlF f k
def isSgn (x : Int32) : Bool := decide (x ∈ ([123, 125, 40, 41, 59, 44, 61, 60, 43, 45, 42, 62, 58] : List Int32))
def fr (t : Nat → Int32) (q : Nat) : Nat → Int32 := fun k => t (q + k)
/-- the token that begins at q: its kind (the class's), number, head, tail, and where it ends -/
def tkH (t : Nat → Int32) (n q : Nat) : Int64 := if q < n ∧ isLet (t q) = true ∧ nmN t n q - q ≤ 12 then hdF (fr t q) (nmN t n q - q) else 0
def tkD (t : Nat → Int32) (n q : Nat) : Int32 := if q < n ∧ isLet (t q) = true ∧ nmN t n q - q ≤ 12 then tlF (fr t q) (nmN t n q - q) else 0
def tkK (t : Nat → Int32) (n q : Nat) : Int32 :=
  if n ≤ q then nI 29 else
  if isLet (t q) = true then (if 12 < nmN t n q - q then nI 28 else if tlF (fr t q) (nmN t n q - q) = nI 0 then nI (kd (hdF (fr t q) (nmN t n q - q))) else nI 26) else
  if isDig (t q) = true then (if 1000000 < dgW t n q then nI 28 else nI 27) else
  if isSgn (t q) = true then (if t q = nI 61 ∧ q + 1 < n ∧ t (q + 1) = nI 61 then nI 30 else t q) else nI 28
def tkNu (t : Nat → Int32) (n q : Nat) : Int32 := if q < n ∧ isLet (t q) = false ∧ isDig (t q) = true ∧ dgW t n q ≤ 1000000 then nI (dgW t n q) else nI 0
def tkX (t : Nat → Int32) (n q : Nat) : Nat :=
  if n ≤ q then q else
  if isLet (t q) = true then (if 12 < nmN t n q - q then n else nmN t n q) else
  if isDig (t q) = true then (if 1000000 < dgW t n q then n else dgN t n q) else
  if isSgn (t q) = true then (if t q = nI 61 ∧ q + 1 < n ∧ t (q + 1) = nI 61 then q + 2 else q + 1) else n
/-- where token j begins -/
def tpos (t : Nat → Int32) (n : Nat) : Nat → Nat
  | 0 => sk t n 0
  | j + 1 => sk t n (tkX t n (tpos t n j))
section LXP
variable {t : Nat → Int32} {n : Nat}
theorem skp_le : ∀ (r p : Nat), p + r ≤ n → p ≤ skp t n r p ∧ skp t n r p ≤ n := by
  intro r
  induction r with
  | zero => intro p hp; exact ⟨Nat.le_refl _, hp⟩
  | succ r ih =>
    intro p hp
    unfold skp
    split
    · obtain ⟨h1, h2⟩ := ih (p + 1) (by omega)
      exact ⟨by omega, h2⟩
    · exact ⟨Nat.le_refl _, by omega⟩
theorem sk_le {p : Nat} (hp : p ≤ n) : p ≤ sk t n p ∧ sk t n p ≤ n := skp_le (n - p) p (by omega)
theorem sk_n : sk t n n = n := by unfold sk; rw [Nat.sub_self]; rfl
theorem sk_bl {p : Nat} (hp : p < n) (hb : t p = nI 10 ∨ t p = nI 32) : sk t n p = sk t n (p + 1) := by
  unfold sk
  rw [show n - p = (n - (p + 1)) + 1 by omega]
  show (if p < n ∧ (t p = nI 10 ∨ t p = nI 32) then skp t n (n - (p + 1)) (p + 1) else p) = _
  rw [if_pos ⟨hp, hb⟩]
theorem sk_no {p : Nat} (hp : p < n) (hb : ¬ (t p = nI 10 ∨ t p = nI 32)) : sk t n p = p := by
  unfold sk
  rw [show n - p = (n - (p + 1)) + 1 by omega]
  show (if p < n ∧ (t p = nI 10 ∨ t p = nI 32) then skp t n (n - (p + 1)) (p + 1) else p) = _
  rw [if_neg (fun x => hb x.2)]
theorem nmE_le : ∀ (r p : Nat), p + r ≤ n → p ≤ nmE t n r p ∧ nmE t n r p ≤ n := by
  intro r
  induction r with
  | zero => intro p hp; exact ⟨Nat.le_refl _, hp⟩
  | succ r ih =>
    intro p hp
    unfold nmE
    split
    · obtain ⟨h1, h2⟩ := ih (p + 1) (by omega)
      exact ⟨by omega, h2⟩
    · exact ⟨Nat.le_refl _, by omega⟩
theorem nmN_le {p : Nat} (hp : p ≤ n) : p ≤ nmN t n p ∧ nmN t n p ≤ n := nmE_le (n - p) p (by omega)
theorem nmN_go {p : Nat} (hp : p < n) (hb : isLet (t p) = true ∨ isDig (t p) = true) : nmN t n p = nmN t n (p + 1) := by
  unfold nmN
  rw [show n - p = (n - (p + 1)) + 1 by omega]
  show (if p < n ∧ (isLet (t p) = true ∨ isDig (t p) = true) then nmE t n (n - (p + 1)) (p + 1) else p) = _
  rw [if_pos ⟨hp, hb⟩]
theorem nmN_no {p : Nat} (hp : p < n) (hb : ¬ (isLet (t p) = true ∨ isDig (t p) = true)) : nmN t n p = p := by
  unfold nmN
  rw [show n - p = (n - (p + 1)) + 1 by omega]
  show (if p < n ∧ (isLet (t p) = true ∨ isDig (t p) = true) then nmE t n (n - (p + 1)) (p + 1) else p) = _
  rw [if_neg (fun x => hb x.2)]
theorem nmN_n : nmN t n n = n := by unfold nmN; rw [Nat.sub_self]; rfl
theorem nmE_in : ∀ (r p : Nat), p + r ≤ n → ∀ i, p ≤ i → i < nmE t n r p → isLet (t i) = true ∨ isDig (t i) = true := by
  intro r
  induction r with
  | zero => intro p hp i h1 h2; exact absurd h2 (by unfold nmE; omega)
  | succ r ih =>
    intro p hp i h1 h2
    unfold nmE at h2
    by_cases hc : p < n ∧ (isLet (t p) = true ∨ isDig (t p) = true)
    · rw [if_pos hc] at h2
      by_cases e : i = p
      · rw [e]; exact hc.2
      · exact ih (p + 1) (by omega) i (by omega) h2
    · rw [if_neg hc] at h2
      omega
theorem nmN_in {p i : Nat} (hp : p ≤ n) (h1 : p ≤ i) (h2 : i < nmN t n p) : isLet (t i) = true ∨ isDig (t i) = true := nmE_in (n - p) p (by omega) i h1 h2
theorem dgE_le : ∀ (r p : Nat), p + r ≤ n → p ≤ dgE t n r p ∧ dgE t n r p ≤ n := by
  intro r
  induction r with
  | zero => intro p hp; exact ⟨Nat.le_refl _, hp⟩
  | succ r ih =>
    intro p hp
    unfold dgE
    split
    · obtain ⟨h1, h2⟩ := ih (p + 1) (by omega)
      exact ⟨by omega, h2⟩
    · exact ⟨Nat.le_refl _, by omega⟩
theorem dgN_le {p : Nat} (hp : p ≤ n) : p ≤ dgN t n p ∧ dgN t n p ≤ n := dgE_le (n - p) p (by omega)
theorem dgN_go {p : Nat} (hp : p < n) (hb : isDig (t p) = true) : dgN t n p = dgN t n (p + 1) := by
  unfold dgN
  rw [show n - p = (n - (p + 1)) + 1 by omega]
  show (if p < n ∧ isDig (t p) = true then dgE t n (n - (p + 1)) (p + 1) else p) = _
  rw [if_pos ⟨hp, hb⟩]
theorem nmN_lt {p : Nat} (hp : p < n) (hb : isLet (t p) = true) : p < nmN t n p := by
  rw [nmN_go hp (Or.inl hb)]
  have := (nmN_le (t := t) (n := n) (p := p + 1) (by omega)).1
  omega
theorem dgN_lt {p : Nat} (hp : p < n) (hb : isDig (t p) = true) : p < dgN t n p := by
  rw [dgN_go hp hb]
  have := (dgN_le (t := t) (n := n) (p := p + 1) (by omega)).1
  omega
theorem tkX_le {q : Nat} (hq : q ≤ n) : q ≤ tkX t n q ∧ tkX t n q ≤ n := by
  unfold tkX
  by_cases h : n ≤ q
  · rw [if_pos h]; omega
  · rw [if_neg h]
    have h1 := nmN_le (t := t) hq
    have h2 := dgN_le (t := t) hq
    split
    · split
      · omega
      · omega
    · split
      · split
        · omega
        · omega
      · split
        · split
          · next hh => omega
          · omega
        · omega
theorem tkX_lt {q : Nat} (hq : q < n) : q < tkX t n q := by
  unfold tkX
  rw [if_neg (by omega)]
  split
  · next hl =>
    have := nmN_lt hq hl
    split <;> omega
  · split
    · next hd =>
      have := dgN_lt hq hd
      split <;> omega
    · split
      · split <;> omega
      · omega
theorem tpos_le : ∀ j, tpos t n j ≤ n := by
  intro j
  induction j with
  | zero => exact (sk_le (Nat.zero_le _)).2
  | succ j ih => exact (sk_le (tkX_le ih).2).2
theorem tpos_lt {j : Nat} (h : tpos t n j < n) : tpos t n j < tpos t n (j + 1) := by
  have h1 := tkX_lt (t := t) h
  have h2 := (sk_le (t := t) (tkX_le (t := t) (n := n) (q := tpos t n j) (by omega)).2).1
  show tpos t n j < sk t n (tkX t n (tpos t n j))
  omega
end LXP
