/-! acts whose names are looked up -/
section ARK
variable (t : Nat → Int32) (N : Nat) (I : Nat → Nat → Int32) (nn pr : Nat) (G : Int32 → Int32) (F : List qPr)
/-- an act that is no if -/
def aRl (lo a : Nat) (l : List oT) : Prop :=
  (I 251 a = nI 10 ∧ ∃ j e l1, l = l1 ++ [(13, .inr j, .inl (nI pr), j)] ∧ nmA t N I nn (I 252 a) j ∧ (∃ i, fdVar (eqY t N) F pr j = some i ∧ I 254 a = nI i) ∧ e < a ∧ I 253 a = nI e ∧ xR t N I nn pr lo ED e l1 64 ∧ xLk G I ED e) ∨
  (I 251 a = nI 11 ∧ ∃ sg jt op l1, l = l1 ++ [(op, .inr sg, .inr jt, jt)] ∧ nmA t N I nn (I 252 a) sg ∧ ((I 253 a = mI 1 ∧ ∃ tk, l1 = [oz pr 0 tk]) ∨ ∃ e, e < a ∧ I 253 a = nI e ∧ xR t N I nn pr lo ED e l1 64 ∧ xLk G I ED e) ∧
    ((op = 19 ∧ I 258 a = nI (tpos t N jt) ∧ ∃ i, fdPro (eqY t N) F jt = some i ∧ I 257 a = nI i) ∨ (I 258 a = mI 1 ∧ ((op = 14 ∧ I 254 a = nI 22) ∨ (op = 15 ∧ I 254 a = nI 18) ∨ (op = 16 ∧ I 254 a = nI 19) ∨ (op = 17 ∧ I 254 a = nI 20) ∨ (op = 18 ∧ I 254 a = nI 21))))) ∨
  (I 251 a = nI 12 ∧ ∃ j e tk l1, l = l1 ++ [(20, .inr j, .inl (nI pr), tk)] ∧ nmA t N I nn (I 252 a) j ∧ e < a ∧ I 253 a = nI e ∧ xR t N I nn pr lo ED e l1 64 ∧ xLk G I ED e) ∨
  (∃ k, (k = 13 ∨ k = 14 ∨ k = 15) ∧ I 251 a = nI k ∧ ∃ j, l = [(k + 8, .inr j, .inl (nI pr), j)] ∧ nmA t N I nn (I 252 a) j ∧ (k = 14 → ∃ i, fdPro (eqY t N) F j = some i ∧ I 253 a = nI i) ∧ (k = 15 → ∃ i, fdSta (eqY t N) F pr j = some i ∧ I 253 a = nI i)) ∨
  (I 251 a = nI 16 ∧ ∃ tk, l = [oz pr 24 tk]) ∨
  (I 251 a = nI 17 ∧ ∃ e tk l1, l = l1 ++ [oz pr 25 tk] ∧ e < a ∧ I 252 a = nI e ∧ xR t N I nn pr lo ED e l1 64 ∧ xLk G I ED e)
/-- acts in a row -/
def bRl : Nat → Nat → Nat → List Nat → Nat → List oT → Prop
  | 0, _, _, _, _, _ => False
  | _ + 1, _, _, [], _, l => l = []
  | r + 1, g, lo, a :: as, L, l => ∃ l1 l2, l = l1 ++ l2 ∧ lo ≤ a ∧ bRl r g (a + 1) as (L + l1.length) l2 ∧
      (aRl t N I nn pr G F lo a l1 ∨
       (I 251 a = nI 18 ∧ ∃ g' e f le lb tk as1, g = g' + 1 ∧ e < a ∧ I 252 a = nI e ∧ (xR t N I nn pr lo ED e le 64 ∧ xLk G I ED e) ∧ e < f ∧ f < a ∧ I 253 a = nI f ∧ I 251 f = nI 19 ∧ chn I (I 252 f) as1 ∧ (∀ x, x ∈ as1 → x < a) ∧ bRl r g' (f + 1) as1 (L + le.length + 1) lb ∧
        ((I 254 a = mI 1 ∧ l1 = le ++ [(26, .inl (nI (L + le.length + 1 + lb.length)), .inl (nI pr), tk)] ++ lb) ∨
         ∃ q lc tk2 as2, I 254 a = nI q ∧ f < q ∧ q < a ∧ (∀ x, x ∈ as1 → x < q) ∧ I 251 q = nI 19 ∧ chn I (I 252 q) as2 ∧ (∀ x, x ∈ as2 → x < a) ∧ bRl r g' (q + 1) as2 (L + le.length + 1 + lb.length + 1) lc ∧
          l1 = le ++ [(26, .inl (nI (L + le.length + 1 + lb.length + 1)), .inl (nI pr), tk)] ++ lb ++ [(27, .inl (nI (L + le.length + 1 + lb.length + 1 + lc.length)), .inl (nI pr), tk2)] ++ lc)))
end ARK
section ARM
variable {t : Nat → Int32} {N : Nat} {I I' : Nat → Nat → Int32} {nn pr : Nat} {G : Int32 → Int32} {F : List qPr}
theorem xLk_st {lo : Nat} : ∀ (r e : Nat) (l : List oT) (s : Nat), e < 2 ^ 20 → (∀ c i, 251 ≤ c → c ≤ 256 → c ≠ 255 → lo ≤ i → i ≤ e → I' c i = I c i) → xR t N I nn pr lo r e l s → xLk G I r e → xLk G I' r e := by
  intro r
  induction r with
  | zero => intro e l s _ _ _ _; trivial
  | succ r ih =>
    intro e l s he hf h hl
    obtain ⟨_, h2, h⟩ := h
    obtain ⟨k1, k2, k3⟩ := hl
    have f1 := hf 251 e (by omega) (by omega) (by omega) h2 (Nat.le_refl _)
    have f2 := hf 252 e (by omega) (by omega) (by omega) h2 (Nat.le_refl _)
    have f3 := hf 253 e (by omega) (by omega) (by omega) h2 (Nat.le_refl _)
    have f4 := hf 254 e (by omega) (by omega) (by omega) h2 (Nat.le_refl _)
    show (I' 251 e = nI 1 → I' 253 e = G (I' 252 e)) ∧ (I' 251 e = nI 3 → xLk G I' r (ix (I' 252 e))) ∧ (I' 251 e = nI 4 → xLk G I' r (ix (I' 253 e)) ∧ xLk G I' r (ix (I' 254 e)))
    rw [f1, f2, f3, f4]
    refine ⟨k1, fun k => ?_, fun k => ?_⟩
    · replace k2 := k2 k
      rcases h with ⟨a1, _⟩ | ⟨a1, _⟩ | ⟨a1, _⟩ | ⟨a1, f, l1, tk, a2, a3, a4, a5⟩ | ⟨a1, _⟩
      · rw [a1] at k; exact absurd k (by decide)
      · rw [a1] at k; exact absurd k (by decide)
      · rw [a1] at k; exact absurd k (by decide)
      · rw [a3, show ix (nI f) = f from nI_clamp (by omega)] at k2 ⊢
        exact ih f l1 s (by omega) (fun c i c1 c2 c3 c4 c5 => hf c i c1 c2 c3 c4 (by omega)) a5 k2
      · rw [a1] at k; exact absurd k (by decide)
    · replace k3 := k3 k
      rcases h with ⟨a1, _⟩ | ⟨a1, _⟩ | ⟨a1, _⟩ | ⟨a1, _⟩ | ⟨a1, f, g, l1, l2, o, tk, c, mid, b1, b2, b3, b4, b5, b6, b7, b8, b9, b10, b11⟩
      · rw [a1] at k; exact absurd k (by decide)
      · rw [a1] at k; exact absurd k (by decide)
      · rw [a1] at k; exact absurd k (by decide)
      · rw [a1] at k; exact absurd k (by decide)
      · rw [b3, b4, show ix (nI f) = f from nI_clamp (by omega), show ix (nI g) = g from nI_clamp (by omega)] at k3 ⊢
        exact ⟨ih f l1 s (by omega) (fun c i c1 c2 c3 c4 c5 => hf c i c1 c2 c3 c4 (by omega)) b7 k3.1, ih g l2 (s - 1) (by omega) (fun c i c1 c2 c3 c4 c5 => hf c i c1 c2 c3 c4 (by omega)) b8 k3.2⟩
theorem aRl_st {lo a : Nat} {l : List oT} (ha : a < 2 ^ 20) (hf : ∀ c i, 251 ≤ c → c ≤ 258 → c ≠ 255 → lo ≤ i → i ≤ a → I' c i = I c i) (hlo : lo ≤ a) (hn : ∀ u, u < nn → rnm I' u = rnm I u) (h : aRl t N I nn pr G F lo a l) : aRl t N I' nn pr G F lo a l := by
  have f1 := hf 251 a (by omega) (by omega) (by omega) hlo (Nat.le_refl _)
  have f2 := hf 252 a (by omega) (by omega) (by omega) hlo (Nat.le_refl _)
  have f3 := hf 253 a (by omega) (by omega) (by omega) hlo (Nat.le_refl _)
  have f4 := hf 254 a (by omega) (by omega) (by omega) hlo (Nat.le_refl _)
  have f7 := hf 257 a (by omega) (by omega) (by omega) hlo (Nat.le_refl _)
  have f8 := hf 258 a (by omega) (by omega) (by omega) hlo (Nat.le_refl _)
  have hx : ∀ (e : Nat) (l1 : List oT), e < a → (xR t N I nn pr lo ED e l1 64 ∧ xLk G I ED e) → (xR t N I' nn pr lo ED e l1 64 ∧ xLk G I' ED e) := fun e l1 he h => ⟨xR_st ED e l1 64 (fun c i c1 c2 c3 c4 c5 => hf c i c1 (by omega) c3 c4 (by omega)) hn (Nat.le_refl _) h.1, xLk_st ED e l1 64 (by omega) (fun c i c1 c2 c3 c4 c5 => hf c i c1 (by omega) c3 c4 (by omega)) h.1 h.2⟩
  have hm : ∀ {x : Int32} {j : Nat}, nmA t N I nn x j → nmA t N I' nn x j := fun h => nmA_st hn (Nat.le_refl _) h
  unfold aRl at h ⊢
  rw [f1, f2, f3, f4, f7, f8]
  rcases h with ⟨a0, j, e, l1, b1, b2, b3, b4, b5, b6⟩ | ⟨a0, sg, jt, op, l1, b1, b2, b3, b5⟩ | ⟨a0, j, e, tk, l1, b1, b2, b3, b4, b5⟩ | ⟨k, a0, b0, j, b1, b2, b3⟩ | h | ⟨a0, e, tk, l1, b1, b2, b3, b4⟩
  · exact Or.inl ⟨a0, j, e, l1, b1, hm b2, b3, b4, b5, hx e l1 b4 b6⟩
  · refine Or.inr (Or.inl ⟨a0, sg, jt, op, l1, b1, hm b2, ?_, b5⟩)
    rcases b3 with b3 | ⟨e, c1, c2, c3⟩
    · exact Or.inl b3
    · exact Or.inr ⟨e, c1, c2, hx e l1 c1 c3⟩
  · exact Or.inr (Or.inr (Or.inl ⟨a0, j, e, tk, l1, b1, hm b2, b3, b4, hx e l1 b3 b5⟩))
  · exact Or.inr (Or.inr (Or.inr (Or.inl ⟨k, a0, b0, j, b1, hm b2, b3⟩)))
  · exact Or.inr (Or.inr (Or.inr (Or.inr (Or.inl h))))
  · exact Or.inr (Or.inr (Or.inr (Or.inr (Or.inr ⟨a0, e, tk, l1, b1, b2, b3, hx e l1 b2 b4⟩))))
theorem bRl_ge : ∀ (r g lo : Nat) (as : List Nat) (L : Nat) (l : List oT), bRl t N I nn pr G F r g lo as L l → ∀ a, a ∈ as → lo ≤ a := by
  intro r
  induction r with
  | zero => intro g lo as L l h; exact h.elim
  | succ r ih =>
    intro g lo as L l h a ha
    cases as with
    | nil => cases ha
    | cons b as =>
      obtain ⟨l1, l2, h1, h2, h3, _⟩ := h
      rcases List.mem_cons.mp ha with e | e
      · rw [e]; exact h2
      · have := ih g (b + 1) as _ l2 h3 a e
        omega
theorem bRl_st : ∀ (r g lo hi : Nat) (as : List Nat) (L : Nat) (l : List oT), hi ≤ 2 ^ 20 → (∀ c i, 251 ≤ c → c ≤ 258 → lo ≤ i → i < hi → I' c i = I c i) → (∀ a, a ∈ as → a < hi) → (∀ u, u < nn → rnm I' u = rnm I u) → bRl t N I nn pr G F r g lo as L l → bRl t N I' nn pr G F r g lo as L l := by
  intro r
  induction r with
  | zero => intro g lo hi as L l _ _ _ _ h; exact h
  | succ r ih =>
    intro g lo hi as L l hh hf hx hn h
    cases as with
    | nil => exact h
    | cons a as =>
      obtain ⟨l1, l2, h1, h2, h3, h5⟩ := h
      have hax := hx a List.mem_cons_self
      refine ⟨l1, l2, h1, h2, ih g (a + 1) hi as _ l2 hh (fun c i c1 c2 c3 c4 => hf c i c1 c2 (by omega) c4) (fun b hb => hx b (List.mem_cons_of_mem _ hb)) hn h3, ?_⟩
      rcases h5 with h5 | ⟨a0, g', e, f, le, lb, tk, as1, d1, d2, d3, d4, d5, d6, d7, d8, d9, d10, d11, d14⟩
      · exact Or.inl (aRl_st (by omega) (fun c i c1 c2 c3 c4 c5 => hf c i c1 c2 c4 (by omega)) h2 hn h5)
      · have f1 := hf 251 a (by omega) (by omega) h2 hax
        have f2 := hf 252 a (by omega) (by omega) h2 hax
        have f3 := hf 253 a (by omega) (by omega) h2 hax
        have f4 := hf 254 a (by omega) (by omega) h2 hax
        have hlo := xR_lo d4.1
        have g1 := hf 251 f (by omega) (by omega) (by omega) (by omega)
        have g2 := hf 252 f (by omega) (by omega) (by omega) (by omega)
        have hb1 := bRl_ge _ _ _ _ _ _ d11
        refine Or.inr ⟨f1.trans a0, g', e, f, le, lb, tk, as1, d1, d2, f2.trans d3, ⟨xR_st ED e le 64 (fun c i c1 c2 c3 c4 c5 => hf c i c1 (by omega) c4 (by omega)) hn (Nat.le_refl _) d4.1, xLk_st ED e le 64 (by omega) (fun c i c1 c2 c3 c4 c5 => hf c i c1 (by omega) c4 (by omega)) d4.1 d4.2⟩, d5, d6, f3.trans d7, g1.trans d8, ?_, d10, ih g' (f + 1) a as1 _ lb (by omega) (fun c i c1 c2 c3 c4 => hf c i c1 c2 (by omega) (by omega)) d10 hn d11, ?_⟩
        · rw [g2]
          exact chn_st as1 _ (fun b hb => hf 255 b (by omega) (by omega) (by have := hb1 b hb; omega) (by have := d10 b hb; omega)) d9
        · rw [f4]
          rcases d14 with d14 | ⟨q, lc, tk2, as2, e1, e2, e3, e4, e5, e6, e7, e8, e9⟩
          · exact Or.inl d14
          · have q1 := hf 251 q (by omega) (by omega) (by omega) (by omega)
            have q2 := hf 252 q (by omega) (by omega) (by omega) (by omega)
            have hb2 := bRl_ge _ _ _ _ _ _ e8
            refine Or.inr ⟨q, lc, tk2, as2, e1, e2, e3, e4, q1.trans e5, ?_, e7, ih g' (q + 1) a as2 _ lc (by omega) (fun c i c1 c2 c3 c4 => hf c i c1 c2 (by omega) (by omega)) e7 hn e8, e9⟩
            rw [q2]
            exact chn_st as2 _ (fun b hb => hf 255 b (by omega) (by omega) (by have := hb2 b hb; omega) (by have := e7 b hb; omega)) e6
end ARM
