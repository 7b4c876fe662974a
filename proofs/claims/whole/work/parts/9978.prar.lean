/-! acts of the reference and the code that they are -/
/-- a chain of nodes -/
def chn (I : Nat → Nat → Int32) : Int32 → List Nat → Prop
  | x, [] => x = mI 1
  | x, a :: as => x = nI a ∧ chn I (I 255 a) as
section AR
variable (t : Nat → Int32) (N : Nat) (I : Nat → Nat → Int32) (nn pr : Nat)
def nmA (x : Int32) (j : Nat) : Prop := KK t N j = 26 ∧ ∃ w, w < nn ∧ x = nI w ∧ rnm I w = Yn t N j
/-- an act that is no if -/
def aR1 (lo a : Nat) (l : List oT) : Prop :=
  (I 251 a = nI 10 ∧ ∃ j e l1, l = l1 ++ [(13, .inr j, .inl (nI pr), j)] ∧ nmA t N I nn (I 252 a) j ∧ I 256 a = nI (tpos t N j) ∧ e < a ∧ I 253 a = nI e ∧ xR t N I nn pr lo ED e l1 64 ∧ ∀ x, x ∈ l1 → j < x.2.2.2) ∨
  (I 251 a = nI 11 ∧ ∃ sg jt op l1, l = l1 ++ [(op, .inr sg, .inr jt, jt)] ∧ nmA t N I nn (I 252 a) sg ∧ ((I 253 a = mI 1 ∧ ∃ tk, l1 = [oz pr 0 tk]) ∨ ∃ e, e < a ∧ I 253 a = nI e ∧ xR t N I nn pr lo ED e l1 64) ∧ (∀ x, x ∈ l1 → x.2.2.2 < jt) ∧
    ((op = 19 ∧ I 258 a = nI (tpos t N jt) ∧ nmA t N I nn (I 257 a) jt) ∨ (I 258 a = mI 1 ∧ ((op = 14 ∧ I 254 a = nI 22) ∨ (op = 15 ∧ I 254 a = nI 18) ∨ (op = 16 ∧ I 254 a = nI 19) ∨ (op = 17 ∧ I 254 a = nI 20) ∨ (op = 18 ∧ I 254 a = nI 21))))) ∨
  (I 251 a = nI 12 ∧ ∃ j e tk l1, l = l1 ++ [(20, .inr j, .inl (nI pr), tk)] ∧ nmA t N I nn (I 252 a) j ∧ e < a ∧ I 253 a = nI e ∧ xR t N I nn pr lo ED e l1 64) ∨
  (∃ k, (k = 13 ∨ k = 14 ∨ k = 15) ∧ I 251 a = nI k ∧ ∃ j, l = [(k + 8, .inr j, .inl (nI pr), j)] ∧ nmA t N I nn (I 252 a) j ∧ I 256 a = nI (tpos t N j)) ∨
  (I 251 a = nI 16 ∧ ∃ tk, l = [oz pr 24 tk]) ∨
  (I 251 a = nI 17 ∧ ∃ e tk l1, l = l1 ++ [oz pr 25 tk] ∧ e < a ∧ I 252 a = nI e ∧ xR t N I nn pr lo ED e l1 64)
/-- acts in a row, their code from L on; blocks at most g within one another -/
def bR : Nat → Nat → Nat → List Nat → Nat → List oT → Prop
  | 0, _, _, _, _, _ => False
  | _ + 1, _, _, [], _, l => l = []
  | r + 1, g, lo, a :: as, L, l => ∃ l1 l2, l = l1 ++ l2 ∧ lo ≤ a ∧ bR r g (a + 1) as (L + l1.length) l2 ∧ (∃ mid, (∀ x, x ∈ l1 → x.2.2.2 < mid) ∧ ∀ x, x ∈ l2 → mid ≤ x.2.2.2) ∧
      (aR1 t N I nn pr lo a l1 ∨
       (I 251 a = nI 18 ∧ ∃ g' e f le lb tk as1 m1, g = g' + 1 ∧ e < a ∧ I 252 a = nI e ∧ xR t N I nn pr lo ED e le 64 ∧ e < f ∧ f < a ∧ I 253 a = nI f ∧ I 251 f = nI 19 ∧ chn I (I 252 f) as1 ∧ (∀ x, x ∈ as1 → x < a) ∧ bR r g' (f + 1) as1 (L + le.length + 1) lb ∧ (∀ x, x ∈ le → x.2.2.2 < m1) ∧ (∀ x, x ∈ lb → m1 ≤ x.2.2.2) ∧
        ((I 254 a = mI 1 ∧ l1 = le ++ [(26, .inl (nI (L + le.length + 1 + lb.length)), .inl (nI pr), tk)] ++ lb) ∨
         ∃ q lc tk2 as2 m2, I 254 a = nI q ∧ f < q ∧ q < a ∧ (∀ x, x ∈ as1 → x < q) ∧ I 251 q = nI 19 ∧ chn I (I 252 q) as2 ∧ (∀ x, x ∈ as2 → x < a) ∧ bR r g' (q + 1) as2 (L + le.length + 1 + lb.length + 1) lc ∧ (∀ x, x ∈ lb → x.2.2.2 < m2) ∧ (∀ x, x ∈ lc → m2 ≤ x.2.2.2) ∧ m1 ≤ m2 ∧
          l1 = le ++ [(26, .inl (nI (L + le.length + 1 + lb.length + 1)), .inl (nI pr), tk)] ++ lb ++ [(27, .inl (nI (L + le.length + 1 + lb.length + 1 + lc.length)), .inl (nI pr), tk2)] ++ lc)))
end AR
section ARL
variable {t : Nat → Int32} {N : Nat} {I I' : Nat → Nat → Int32} {nn nn' pr : Nat}
theorem nmA_st {x : Int32} {j : Nat} (hn : ∀ u, u < nn → rnm I' u = rnm I u) (hnn : nn ≤ nn') (h : nmA t N I nn x j) : nmA t N I' nn' x j := by
  obtain ⟨h1, w, h2, h3, h4⟩ := h
  exact ⟨h1, w, by omega, h3, (hn w h2).trans h4⟩
theorem aR1_st {lo a : Nat} {l : List oT} (hf : ∀ c i, 251 ≤ c → c ≤ 258 → c ≠ 255 → lo ≤ i → i ≤ a → I' c i = I c i) (hlo : lo ≤ a) (hn : ∀ u, u < nn → rnm I' u = rnm I u) (hnn : nn ≤ nn') (h : aR1 t N I nn pr lo a l) : aR1 t N I' nn' pr lo a l := by
  have f1 := hf 251 a (by omega) (by omega) (by omega) hlo (Nat.le_refl _)
  have f2 := hf 252 a (by omega) (by omega) (by omega) hlo (Nat.le_refl _)
  have f3 := hf 253 a (by omega) (by omega) (by omega) hlo (Nat.le_refl _)
  have f4 := hf 254 a (by omega) (by omega) (by omega) hlo (Nat.le_refl _)
  have f6 := hf 256 a (by omega) (by omega) (by omega) hlo (Nat.le_refl _)
  have f7 := hf 257 a (by omega) (by omega) (by omega) hlo (Nat.le_refl _)
  have f8 := hf 258 a (by omega) (by omega) (by omega) hlo (Nat.le_refl _)
  have hx : ∀ (e : Nat) (l1 : List oT), e < a → xR t N I nn pr lo ED e l1 64 → xR t N I' nn' pr lo ED e l1 64 := fun e l1 he h => xR_st ED e l1 64 (fun c i c1 c2 c3 c4 c5 => hf c i c1 (by omega) c3 c4 (by omega)) hn hnn h
  unfold aR1 at h ⊢
  rw [f1, f2, f3, f4, f6, f7, f8]
  rcases h with ⟨a0, j, e, l1, b1, b2, b3, b4, b5, b6, b7⟩ | ⟨a0, sg, jt, op, l1, b1, b2, b3, b4, b5⟩ | ⟨a0, j, e, tk, l1, b1, b2, b3, b4, b5⟩ | ⟨k, a0, b0, j, b1, b2, b3⟩ | h | ⟨a0, e, tk, l1, b1, b2, b3, b4⟩
  · exact Or.inl ⟨a0, j, e, l1, b1, nmA_st hn hnn b2, b3, b4, b5, hx e l1 b4 b6, b7⟩
  · refine Or.inr (Or.inl ⟨a0, sg, jt, op, l1, b1, nmA_st hn hnn b2, ?_, b4, ?_⟩)
    · rcases b3 with b3 | ⟨e, c1, c2, c3⟩
      · exact Or.inl b3
      · exact Or.inr ⟨e, c1, c2, hx e l1 c1 c3⟩
    · rcases b5 with ⟨c1, c2, c3⟩ | b5
      · exact Or.inl ⟨c1, c2, nmA_st hn hnn c3⟩
      · exact Or.inr b5
  · exact Or.inr (Or.inr (Or.inl ⟨a0, j, e, tk, l1, b1, nmA_st hn hnn b2, b3, b4, hx e l1 b3 b5⟩))
  · exact Or.inr (Or.inr (Or.inr (Or.inl ⟨k, a0, b0, j, b1, nmA_st hn hnn b2, b3⟩)))
  · exact Or.inr (Or.inr (Or.inr (Or.inr (Or.inl h))))
  · exact Or.inr (Or.inr (Or.inr (Or.inr (Or.inr ⟨a0, e, tk, l1, b1, b2, b3, hx e l1 b2 b4⟩))))
theorem chn_st : ∀ (as : List Nat) (x : Int32), (∀ a, a ∈ as → I' 255 a = I 255 a) → chn I x as → chn I' x as := by
  intro as
  induction as with
  | nil => intro x _ h; exact h
  | cons a as ih =>
    intro x hf h
    refine ⟨h.1, ?_⟩
    rw [hf a List.mem_cons_self]
    exact ih _ (fun b hb => hf b (List.mem_cons_of_mem _ hb)) h.2
theorem bR_ge : ∀ (r g lo : Nat) (as : List Nat) (L : Nat) (l : List oT), bR t N I nn pr r g lo as L l → ∀ a, a ∈ as → lo ≤ a := by
  intro r
  induction r with
  | zero => intro g lo as L l h; exact h.elim
  | succ r ih =>
    intro g lo as L l h a ha
    cases as with
    | nil => cases ha
    | cons b as =>
      obtain ⟨l1, l2, h1, h2, h3, _⟩ := h
      rcases List.mem_cons.mp ha with e | e
      · rw [e]; exact h2
      · have := ih g (b + 1) as _ l2 h3 a e
        omega
theorem bR_st : ∀ (r g lo hi x : Nat) (as : List Nat) (L : Nat) (l : List oT), (∀ c i, 251 ≤ c → c ≤ 258 → lo ≤ i → i < hi → ¬ (c = 255 ∧ i = x) → I' c i = I c i) → (∀ a, a ∈ as → a ≤ x ∧ a < hi) → (∀ u, u < nn → rnm I' u = rnm I u) → nn ≤ nn' → bR t N I nn pr r g lo as L l → bR t N I' nn' pr r g lo as L l := by
  intro r
  induction r with
  | zero => intro g lo hi x as L l _ _ _ _ h; exact h
  | succ r ih =>
    intro g lo hi x as L l hf hx hn hnn h
    cases as with
    | nil => exact h
    | cons a as =>
      obtain ⟨l1, l2, h1, h2, h3, h4, h5⟩ := h
      have hax := hx a List.mem_cons_self
      refine ⟨l1, l2, h1, h2, ih g (a + 1) hi x as _ l2 (fun c i c1 c2 c3 c4 c5 => hf c i c1 c2 (by omega) c4 c5) (fun b hb => hx b (List.mem_cons_of_mem _ hb)) hn hnn h3, h4, ?_⟩
      rcases h5 with h5 | ⟨a0, g', e, f, le, lb, tk, as1, m1, d1, d2, d3, d4, d5, d6, d7, d8, d9, d10, d11, d12, d13, d14⟩
      · exact Or.inl (aR1_st (fun c i c1 c2 c3 c4 c5 => hf c i c1 c2 c4 (by omega) (by omega)) h2 hn hnn h5)
      · have f1 := hf 251 a (by omega) (by omega) h2 hax.2 (by omega)
        have f2 := hf 252 a (by omega) (by omega) h2 hax.2 (by omega)
        have f3 := hf 253 a (by omega) (by omega) h2 hax.2 (by omega)
        have f4 := hf 254 a (by omega) (by omega) h2 hax.2 (by omega)
        have hlo := xR_lo d4
        have g1 := hf 251 f (by omega) (by omega) (by omega) (by omega) (by omega)
        have g2 := hf 252 f (by omega) (by omega) (by omega) (by omega) (by omega)
        have hb1 := bR_ge _ _ _ _ _ _ d11
        refine Or.inr ⟨f1.trans a0, g', e, f, le, lb, tk, as1, m1, d1, d2, f2.trans d3, xR_st ED e le 64 (fun c i c1 c2 c3 c4 c5 => hf c i c1 (by omega) c4 (by omega) (by omega)) hn hnn d4, d5, d6, f3.trans d7, g1.trans d8, ?_, d10, ih g' (f + 1) a x as1 _ lb (fun c i c1 c2 c3 c4 c5 => hf c i c1 c2 (by omega) (by omega) c5) (fun b hb => ⟨by have := d10 b hb; omega, d10 b hb⟩) hn hnn d11, d12, d13, ?_⟩
        · rw [g2]
          exact chn_st as1 _ (fun b hb => hf 255 b (by omega) (by omega) (by have := hb1 b hb; omega) (by have := d10 b hb; omega) (by have := d10 b hb; omega)) d9
        · rw [f4]
          rcases d14 with d14 | ⟨q, lc, tk2, as2, m2, e1, e2, e3, e4, e5, e6, e7, e8, e9, e10⟩
          · exact Or.inl d14
          · have q1 := hf 251 q (by omega) (by omega) (by omega) (by omega) (by omega)
            have q2 := hf 252 q (by omega) (by omega) (by omega) (by omega) (by omega)
            have hb2 := bR_ge _ _ _ _ _ _ e8
            refine Or.inr ⟨q, lc, tk2, as2, m2, e1, e2, e3, e4, q1.trans e5, ?_, e7, ih g' (q + 1) a x as2 _ lc (fun c i c1 c2 c3 c4 c5 => hf c i c1 c2 (by omega) (by omega) c5) (fun b hb => ⟨by have := e7 b hb; omega, e7 b hb⟩) hn hnn e8, e9, e10⟩
            rw [q2]
            exact chn_st as2 _ (fun b hb => hf 255 b (by omega) (by omega) (by have := hb2 b hb; omega) (by have := e7 b hb; omega) (by have := e7 b hb; omega)) e6
theorem bR_mono : ∀ (r r' g g' lo lo' : Nat) (as : List Nat) (L : Nat) (l : List oT), r ≤ r' → g ≤ g' → lo' ≤ lo → bR t N I nn pr r g lo as L l → bR t N I nn pr r' g' lo' as L l := by
  intro r
  induction r with
  | zero => intro r' g g' lo lo' as L l _ _ _ h; exact h.elim
  | succ r ih =>
    intro r' g g' lo lo' as L l hr hg hl h
    obtain ⟨r2, hr2⟩ : ∃ r2, r' = r2 + 1 := ⟨r' - 1, by omega⟩
    subst hr2
    cases as with
    | nil => exact h
    | cons a as =>
      obtain ⟨l1, l2, h1, h2, h3, h4, h5⟩ := h
      refine ⟨l1, l2, h1, by omega, ih r2 g g' _ _ as _ l2 (by omega) hg (Nat.le_refl _) h3, h4, ?_⟩
      have hxm : ∀ (e : Nat) (l1 : List oT), xR t N I nn pr lo ED e l1 64 → xR t N I nn pr lo' ED e l1 64 := fun e l1 h => xR_mono _ _ _ _ _ _ _ (Nat.le_refl _) (Nat.le_refl _) hl h
      rcases h5 with h5 | ⟨a0, g1, e, f, le, lb, tk, as1, m1, d1, d2, d3, d4, d5, d6, d7, d8, d9, d10, d11, d12, d13, d14⟩
      · refine Or.inl ?_
        unfold aR1 at h5 ⊢
        rcases h5 with ⟨a0, j, e, l1, b1, b2, b3, b4, b5, b6, b7⟩ | ⟨a0, sg, jt, op, l1, b1, b2, b3, b4, b5⟩ | ⟨a0, j, e, tk, l1, b1, b2, b3, b4, b5⟩ | h5 | h5 | ⟨a0, e, tk, l1, b1, b2, b3, b4⟩
        · exact Or.inl ⟨a0, j, e, l1, b1, b2, b3, b4, b5, hxm e l1 b6, b7⟩
        · refine Or.inr (Or.inl ⟨a0, sg, jt, op, l1, b1, b2, ?_, b4, b5⟩)
          rcases b3 with b3 | ⟨e, c1, c2, c3⟩
          · exact Or.inl b3
          · exact Or.inr ⟨e, c1, c2, hxm e l1 c3⟩
        · exact Or.inr (Or.inr (Or.inl ⟨a0, j, e, tk, l1, b1, b2, b3, b4, hxm e l1 b5⟩))
        · exact Or.inr (Or.inr (Or.inr (Or.inl h5)))
        · exact Or.inr (Or.inr (Or.inr (Or.inr (Or.inl h5))))
        · exact Or.inr (Or.inr (Or.inr (Or.inr (Or.inr ⟨a0, e, tk, l1, b1, b2, b3, hxm e l1 b4⟩))))
      · obtain ⟨g2, hg2⟩ : ∃ g2, g' = g2 + 1 := ⟨g' - 1, by omega⟩
        refine Or.inr ⟨a0, g2, e, f, le, lb, tk, as1, m1, hg2, d2, d3, hxm e le d4, d5, d6, d7, d8, d9, d10, ih r2 g1 g2 _ _ as1 _ lb (by omega) (by omega) (Nat.le_refl _) d11, d12, d13, ?_⟩
        rcases d14 with d14 | ⟨q, lc, tk2, as2, m2, e1, e2, e3, e4, e5, e6, e7, e8, e9⟩
        · exact Or.inl d14
        · exact Or.inr ⟨q, lc, tk2, as2, m2, e1, e2, e3, e4, e5, e6, e7, ih r2 g1 g2 _ _ as2 _ lc (by omega) (by omega) (Nat.le_refl _) e8, e9⟩
/-- an act more at the end -/
theorem bR_app : ∀ (as : List Nat) (r r' g lo L : Nat) (l : List oT) (r1 lo1 a : Nat) (l1 : List oT), bR t N I nn pr r g lo as L l → bR t N I nn pr r1 g lo1 [a] (L + l.length) l1 → r ≤ r' → as.length + r1 ≤ r' → (∀ x, x ∈ as → x < lo1) → lo ≤ lo1 → (∃ mid, (∀ x, x ∈ l → x.2.2.2 < mid) ∧ ∀ x, x ∈ l1 → mid ≤ x.2.2.2) → bR t N I nn pr r' g lo (as ++ [a]) L (l ++ l1) := by
  intro as
  induction as with
  | nil =>
    intro r r' g lo L l r1 lo1 a l1 h h' hr hr2 hlt hlo hmid
    cases r with
    | zero => exact h.elim
    | succ r =>
      have : l = [] := h
      subst this
      exact bR_mono _ _ _ _ _ _ _ _ _ (by simpa using hr2) (Nat.le_refl _) hlo h'
  | cons b as ih =>
    intro r r' g lo L l r1 lo1 a l1 h h' hr hr2 hlt hlo hmid
    cases r with
    | zero => exact h.elim
    | succ r =>
      obtain ⟨r2, hr3⟩ : ∃ r2, r' = r2 + 1 := ⟨r' - 1, by omega⟩
      subst hr3
      obtain ⟨k1, k2, e1, e2, e3, ⟨md, m1, m2⟩, e5⟩ := h
      obtain ⟨mid, c1, c2⟩ := hmid
      have hb := hlt b List.mem_cons_self
      rw [List.length_cons] at hr2
      refine ⟨k1, k2 ++ l1, by rw [e1, List.append_assoc], e2, ?_, ⟨min md mid, fun x hx => ?_, fun x hx => ?_⟩, ?_⟩
      · refine ih r r2 g (b + 1) (L + k1.length) k2 r1 lo1 a l1 e3 (by rw [e1, List.length_append, ← Nat.add_assoc] at h'; exact h') (by omega) (by omega) (fun x hx => hlt x (List.mem_cons_of_mem _ hx)) (by omega) ⟨mid, fun x hx => c1 x (by rw [e1]; exact List.mem_append_right _ hx), c2⟩
      · have := m1 x hx
        have := c1 x (by rw [e1]; exact List.mem_append_left _ hx)
        omega
      · rcases List.mem_append.mp hx with hx | hx
        · have := m2 x hx; omega
        · have := c2 x hx; omega
      · rcases e5 with e5 | ⟨a0, g1, e, f, le, lb, tk, as1, m1, d1, d2, d3, d4, d5, d6, d7, d8, d9, d10, d11, d12, d13, d14⟩
        · exact Or.inl e5
        · refine Or.inr ⟨a0, g1, e, f, le, lb, tk, as1, m1, d1, d2, d3, d4, d5, d6, d7, d8, d9, d10, bR_mono _ _ _ _ _ _ _ _ _ (by omega) (Nat.le_refl _) (Nat.le_refl _) d11, d12, d13, ?_⟩
          rcases d14 with d14 | ⟨q, lc, tk2, as2, m2, z1, z2, z3, z4, z5, z6, z7, z8, z9⟩
          · exact Or.inl d14
          · exact Or.inr ⟨q, lc, tk2, as2, m2, z1, z2, z3, z4, z5, z6, z7, bR_mono _ _ _ _ _ _ _ _ _ (by omega) (Nat.le_refl _) (Nat.le_refl _) z8, z9⟩
/-- one act that is no if -/
theorem bR_1 {g lo a L r : Nat} {l : List oT} (h : aR1 t N I nn pr lo a l) (hlo : lo ≤ a) (hr : 2 ≤ r) : bR t N I nn pr r g lo [a] L l := by
  obtain ⟨r2, hr3⟩ : ∃ r2, r = r2 + 1 + 1 := ⟨r - 2, by omega⟩
  subst hr3
  obtain ⟨mid, hm⟩ : ∃ mid, ∀ x : oT, x ∈ l → x.2.2.2 < mid := by
    clear h
    induction l with
    | nil => exact ⟨0, fun x hx => by cases hx⟩
    | cons y ys ih =>
      obtain ⟨m, hm⟩ := ih
      refine ⟨max m (y.2.2.2 + 1), fun x hx => ?_⟩
      rcases List.mem_cons.mp hx with e | e
      · rw [e]; omega
      · have := hm x e; omega
  exact ⟨l, [], by simp, hlo, rfl, ⟨mid, hm, fun x hx => by cases hx⟩, Or.inl h⟩
end ARL
