/-! what holds between two calls -/
section ZDF
/-- the tape: T bytes -/
def zT (I : Nat → Nat → Int32) (T : Nat) : Prop := T ≤ 2000 ∧ I 0 1 = nI T ∧ I 241 13 = nI T ∧ ∀ i, i < 2000 → I 1 i = I 248 i ∧ (I 248 i).toInt8.toInt32 = I 248 i
/-- out -/
def zO (I : Nat → Nat → Int32) : Prop := ∃ o, o ≤ 12 ∧ I 0 3 = nI o ∧ I 241 19 = nI o ∧ ∀ i, i < o → I 2 i = I 250 i
/-- what never changes -/
def zF (I : Nat → Nat → Int32) (J : Nat → Nat → Int64) (R : Nat → Nat → Nat) : Prop := (∀ i, i ≤ 25 → J 4 i = tkW i) ∧ I 241 66 = nI 0 ∧ okS R 132
/-- the reference's names: c calls are done -/
def zN (X : jXX) (I : Nat → Nat → Int32) (nn nb c T : Nat) : Prop := rNm X I nn nb ∧ cpT X nn nb ∧ nb + T ≤ 32 * c
/-- its nodes -/
def zM (X : jXX) (I : Nat → Nat → Int32) (M : Nat) : Prop := I 241 29 = nI M ∧ M ≤ 2000 ∧ ndC X M
/-- the class's plans: P, and P' to be written -/
def zP (I : Nat → Nat → Int32) (J : Nat → Nat → Int64) (R : Nat → Nat → Nat) (P P' L : Nat) : Prop := ((P = 10 ∧ P' = 33) ∨ (P = 33 ∧ P' = 10)) ∧ R 0 8 = P ∧ R 0 9 = P' ∧ cNm I J (P + 1) L ∧ ∃ L', cNm I J (P' + 1) L'
def eW (lr : Int32) : aW Nm := ([], (0, 0, 0, 0, lr), ([], false), (0, 0))
/-- variables have names -/
def vnm (I : Nat → Nat → Int32) (P k np : Nat) : Prop := ∀ p c j, p < np → I (P + 12) p = nI c → c ≤ 6 → j < c → ∃ u, u < k ∧ I (P + 13) (p * 6 + j) = nI u
theorem vnm_fr {I I' : Nat → Nat → Int32} {P k np : Nat} (h : vnm I P k np) (hi : ∀ c i, c = P + 12 ∨ c = P + 13 → I' c i = I c i) : vnm I' P k np := by
  intro p c j hp hc c6 hj
  rw [hi _ _ (by omega)] at hc ⊢
  exact h p c j hp hc c6 hj
/-- a system, its plan and its world -/
def zY (X : jXX) (I : Nat → Nat → Int32) (J : Nat → Nat → Int64) (R : Nat → Nat → Nat) (c P L nn M k np Lc cap B D : Nat) (N : Nat → Nat → Int32) (O G E : Nat → Int32) (W : aW Nm) : Prop := I 0 10 = nI 1 ∧ I 241 33 = nI 1 ∧ R 57 0 = P ∧ k ≤ L ∧ L ≤ 1001 + c ∧ (k ≤ 1001 ∧ vnm I P k np) ∧ I P 1 = nI k ∧ plC (cNf (cnm I J (P + 1)) k) (rNf (rnm I) nn) N O G E np P Lc I ∧ vN N M np ∧ plR X I N cap ∧ I 241 34 = nI np ∧ wC (cNf (cnm I J (P + 1)) L) I R 57 W ∧ wR (rNf (rnm I) nn) I true W ∧ okW N np B W ∧ (okD D W ∧ okQ np W) ∧ B ≤ 1000 * c ∧ D ≤ 100000 * c
def zS (X : jXX) (I : Nat → Nat → Int32) (J : Nat → Nat → Int64) (R : Nat → Nat → Nat) (c P L nn M : Nat) : Prop := okS R 57 ∧
  ((I 0 10 = nI 0 ∧ I 241 33 = nI 0 ∧ I 241 34 = nI 0 ∧ wC (cNf (cnm I J (P + 1)) L) I R 57 (eW (-1)) ∧ wR (rNf (rnm I) nn) I true (eW 0)) ∨
   ∃ (k np Lc cap B D : Nat) (N : Nat → Nat → Int32) (O G E : Nat → Int32) (W : aW Nm), zY X I J R c P L nn M k np Lc cap B D N O G E W)
/-- the walk -/
def zK (X : jXX) (I : Nat → Nat → Int32) : Prop := (((∃ k, k ≤ 6 ∧ cp X 206 = 4096 * 2 ^ k) ∨ cp X 206 = 370000) ∧ I 133 6 = nI 0) ∧ ∃ r, r ≤ 1000 ∧ I 131 14 = nI r ∧ I 241 81 = nI r ∧ I 131 15 = I 241 80 ∧ ∀ i, i < r → I 214 i = I 286 i
/-- a line of a chart, and a message -/
def cLn (I : Nat → Nat → Int32) (J : Nat → Nat → Int64) (p L : Nat) (x : Int32) (l : Option (Int64 × Int32)) : Prop := match l with | none => x = mI 2 | some y => ∃ u, u < L ∧ x = nI u ∧ cnm I J p u = y
def rLn (I : Nat → Nat → Int32) (nn : Nat) (x : Int32) (l : Option (Int64 × Int32)) : Prop := match l with | none => x = mI 2 | some y => ∃ u, u < nn ∧ x = nI u ∧ rnm I u = y
/-- the chart C -/
def zH (I : Nat → Nat → Int32) (J : Nat → Nat → Int64) (C nn : Nat) : Prop := ∃ (ms : List (Nat × Nat × (Int64 × Int32))) (ls : List (Option (Int64 × Int32))) (rs : List (Nat × Nat)) (L : Nat), ms.length ≤ 40 ∧ ls.length ≤ 8 ∧ rs.length ≤ 3160 ∧ cNm I J (C + 1) L ∧ L ≤ 48 ∧ ls.Nodup ∧
  I C 6 = nI ms.length ∧ I C 2 = nI ls.length ∧ I C 12 = nI rs.length ∧ I 241 84 = nI ms.length ∧ I 241 85 = nI ls.length ∧ I 241 88 = nI rs.length ∧
  (∀ (i : Nat) m, ms[i]? = some m → m.1 < ls.length ∧ m.2.1 < ls.length ∧ I (C + 5) i = nI m.1 ∧ I (C + 6) i = nI m.2.1 ∧ I 287 i = nI m.1 ∧ I 288 i = nI m.2.1 ∧ cLn I J (C + 1) L (I (C + 7) i) (some m.2.2) ∧ rLn I nn (I 289 i) (some m.2.2)) ∧
  (∀ (i : Nat) l, ls[i]? = some l → cLn I J (C + 1) L (I (C + 4) i) l ∧ rLn I nn (I 293 i) l) ∧
  ∀ (i : Nat) r, rs[i]? = some r → I (C + 11) i = nI r.1 ∧ I (C + 12) i = nI r.2 ∧ I 297 i = nI r.1 ∧ I 298 i = nI r.2
def zC (I : Nat → Nat → Int32) (J : Nat → Nat → Int64) (R : Nat → Nat → Nat) (nn C C' : Nat) : Prop := ((C = 215 ∧ C' = 228) ∨ (C = 228 ∧ C' = 215)) ∧ R 0 11 = C ∧ R 0 12 = C' ∧ (∃ L', L' ≤ 48 ∧ (I (C' + 1) 2 = nI L' ∧ ∃ L2, L2 ≤ 48 ∧ I (C + 1) 2 = nI L2)) ∧ ((I 0 13 = nI 0 ∧ I 241 83 = nI 0 ∧ I C 6 = nI 0 ∧ I 241 84 = nI 0) ∨ (I 0 13 = nI 1 ∧ I 241 83 = nI 1 ∧ zH I J C nn))
/-- room: c calls are done -/
def zR (X : jXX) (n c : Nat) : Prop := tp X + 13504 ≤ 300 + scp X + c ∧ n + 4 * 13504 ≤ 545279 + 4 * scp X + 6 * c
def Rel (c : Nat) (X : jXX) (I : Nat → Nat → Int32) (J : Nat → Nat → Int64) (R : Nat → Nat → Nat) (n : Nat) : Prop := ∃ T nn nb M P P' L C C', zT I T ∧ zO I ∧ zF I J R ∧ zN X I nn nb c T ∧ zM X I M ∧ zP I J R P P' L ∧ zS X I J R c P L nn M ∧ zK X I ∧ zC I J R nn C C' ∧ zR X n c
end ZDF
section ZFR
variable {X X' : jXX} {I I' : Nat → Nat → Int32} {J J' : Nat → Nat → Int64} {R R' : Nat → Nat → Nat} {c T nn nb M P P' L C C' n : Nat}
theorem zT_fr (h : zT I T) (hi : ∀ c i, (c = 0 ∧ i = 1) ∨ (c = 241 ∧ i = 13) ∨ c = 1 ∨ c = 248 → I' c i = I c i) : zT I' T := by
  obtain ⟨h1, h2, h3, h4⟩ := h
  refine ⟨h1, (hi _ _ (by omega)).trans h2, (hi _ _ (by omega)).trans h3, fun i hl => ?_⟩
  rw [hi 1 i (by omega), hi 248 i (by omega)]
  exact h4 i hl
theorem zO_fr (h : zO I) (hi : ∀ c i, (c = 0 ∧ i = 3) ∨ (c = 241 ∧ i = 19) ∨ c = 2 ∨ c = 250 → I' c i = I c i) : zO I' := by
  obtain ⟨o, h1, h2, h3, h4⟩ := h
  refine ⟨o, h1, (hi _ _ (by omega)).trans h2, (hi _ _ (by omega)).trans h3, fun i hl => ?_⟩
  rw [hi 2 i (by omega), hi 250 i (by omega)]
  exact h4 i hl
theorem zF_fr (h : zF I J R) (hi : I' 241 66 = I 241 66) (hJ : ∀ i, J' 4 i = J 4 i) (hR : okS R' 132) : zF I' J' R' := by
  obtain ⟨h1, h2, h3⟩ := h
  exact ⟨fun i hl => by rw [hJ]; exact h1 i hl, hi.trans h2, hR⟩
theorem zN_fr (h : zN X I nn nb c T) (hi : ∀ c i, (c = 241 ∧ (i = 8 ∨ i = 9)) ∨ (243 ≤ c ∧ c ≤ 247) → I' c i = I c i) (hX : ∀ v, 243 ≤ v → v ≤ 246 → cp X' v = cp X v) : zN X' I' nn nb (c + 1) T := by
  obtain ⟨h1, h2, h3⟩ := h
  have h1' := h1
  obtain ⟨a1, a2, a3, a4, a5, a6, a7, a8, a9, a10, a11, a12, a13, a14, a15, a16⟩ := h1'
  have x3 := hX 243 (by omega) (by omega)
  have x4 := hX 244 (by omega) (by omega)
  have x5 := hX 245 (by omega) (by omega)
  have x6 := hX 246 (by omega) (by omega)
  refine ⟨rNm_fr h1 (hi _ _ (by omega)) (hi _ _ (by omega)) (by omega) (by omega) (by omega) (by omega) (by omega) (by omega) (fun w _ => hi _ _ (by omega)) (fun w _ => hi _ _ (by omega)) (fun w _ => hi _ _ (by omega)) (fun w => hi _ _ (by omega)) (fun i _ => hi _ _ (by omega)) (fun i hl => by rw [hi 243 i (by omega)]; exact a16 i (by omega)), ⟨by have := h2.1; omega, by have := h2.2; omega⟩, by omega⟩
theorem zM_fr (h : zM X I M) (hi : I' 241 29 = I 241 29) (hX : ∀ v, 251 ≤ v → v ≤ 258 → cp X' v = cp X v) : zM X' I' M := by
  obtain ⟨h1, h2, cap, h3, h4⟩ := h
  exact ⟨hi.trans h1, h2, cap, fun v v1 v2 => (hX v v1 v2).trans (h3 v v1 v2), h4⟩
theorem cNm_fr {p m : Nat} (h : cNm I J p m) (hi : I' p 2 = I p 2) (h2 : ∀ i, I' (p + 2) i = I (p + 2) i) (hJ : ∀ i, J' (p + 1) i = J (p + 1) i) : cNm I' J' p m := by
  have e : ∀ x, cnm I' J' p x = cnm I J p x := fun x => by unfold cnm; rw [h2, hJ]
  exact ⟨hi.trans h.1, h.2.1, fun x y hx hy => by rw [e, e]; exact h.2.2 x y hx hy⟩
theorem zP_fr (h : zP I J R P P' L) (hi : ∀ c i, 10 ≤ c → c ≤ 55 → I' c i = I c i) (hJ : ∀ c i, 10 ≤ c → c ≤ 55 → J' c i = J c i) (hR : ∀ i, i = 8 ∨ i = 9 → R' 0 i = R 0 i) : zP I' J' R' P P' L := by
  obtain ⟨h1, h2, h3, h4, L', h5⟩ := h
  exact ⟨h1, (hR _ (by omega)).trans h2, (hR _ (by omega)).trans h3, cNm_fr h4 (hi _ _ (by omega) (by omega)) (fun i => hi _ _ (by omega) (by omega)) (fun i => hJ _ _ (by omega) (by omega)), L', cNm_fr h5 (hi _ _ (by omega) (by omega)) (fun i => hi _ _ (by omega) (by omega)) (fun i => hJ _ _ (by omega) (by omega))⟩
theorem zK_fr (h : zK X I) (hi : ∀ c i, (c = 131 ∧ (i = 14 ∨ i = 15)) ∨ (c = 133 ∧ i = 6) ∨ (c = 241 ∧ (i = 80 ∨ i = 81)) ∨ c = 214 ∨ c = 286 → I' c i = I c i) (hX : cp X' 206 = cp X 206) : zK X' I' := by
  obtain ⟨h1, r, h2, h3, h4, h5, h6⟩ := h
  refine ⟨⟨by rw [hX]; exact h1.1, (hi _ _ (by omega)).trans h1.2⟩, r, h2, (hi _ _ (by omega)).trans h3, (hi _ _ (by omega)).trans h4, ?_, fun i hl => ?_⟩
  · rw [hi 131 15 (by omega), hi 241 80 (by omega)]; exact h5
  · rw [hi 214 i (by omega), hi 286 i (by omega)]; exact h6 i hl
theorem wC_fr57 {cN : Int32 → Nm} {W : aW Nm} (h : wC cN I R 57 W) (hi : ∀ c i, 57 ≤ c → c ≤ 130 → I' c i = I c i) (hR : ∀ i, R' 65 i = R 65 i) : wC cN I' R' 57 W := by
  have e : R' (57 + 8) = R (57 + 8) := funext fun i => hR i
  have a := wA_fr (I' := I') (fun c i h1 h2 => hi c i (by omega) (by omega)) (hi _ _ (by omega) (by omega)) h.1
  refine ⟨?_, tC_fr (fun c i h1 h2 => hi c i (by omega) (by omega)) (fun i h1 h2 => hi _ _ (by omega) (by omega)) h.2⟩
  unfold wA okS at a ⊢
  rw [e]
  exact a
theorem wR_fr {rN : Int32 → Nm} {l : Bool} {W : aW Nm} (h : wR rN I l W) (hi : ∀ c i, (260 ≤ c ∧ c ≤ 281) ∨ (c = 241 ∧ 36 ≤ i ∧ i ≤ 68) → I' c i = I c i) : wR rN I' l W := ⟨wB_fr (fun c i h1 h2 => hi c i (by omega)) (hi _ _ (by omega)) h.1, tR_fr (fun c i h1 h2 => hi c i (by omega)) (fun i h1 h2 => hi _ _ (by omega)) h.2⟩
theorem zS_fr (hP : (P = 10 ∧ P' = 33) ∨ (P = 33 ∧ P' = 10)) (h : zS X I J R c P L nn M) (hi : ∀ c i, (c = 0 ∧ i = 10) ∨ (c = 241 ∧ ((33 ≤ i ∧ i ≤ 34) ∨ (36 ≤ i ∧ i ≤ 68))) ∨ (P ≤ c ∧ c ≤ P + 22) ∨ (57 ≤ c ∧ c ≤ 130) ∨ (243 ≤ c ∧ c ≤ 245) ∨ (251 ≤ c ∧ c ≤ 281) → I' c i = I c i) (hJ : ∀ i, J' (P + 2) i = J (P + 2) i) (hR : ∀ i, R' 65 i = R 65 i) (hR0 : R' 57 0 = R 57 0) (hX : ∀ v, 251 ≤ v → v ≤ 258 → cp X' v = cp X v) : zS X' I' J' R' (c + 1) P L nn M := by
  have e1 : cnm I' J' (P + 1) = cnm I J (P + 1) := funext fun x => by unfold cnm; rw [hi _ _ (by omega), hJ]
  have e2 : rnm I' = rnm I := funext fun u => rnm_e (fun c i c1 c2 => hi c i (by omega))
  have e : R' (57 + 8) = R (57 + 8) := funext fun i => hR i
  obtain ⟨h0, h⟩ := h
  refine ⟨by unfold okS at h0 ⊢; rw [e]; exact h0, ?_⟩
  unfold zY at h ⊢
  rw [e1, e2]
  rcases h with ⟨a1, a2, a3, a4, a5⟩ | ⟨k, np, Lc, cap, B, D, N, O, G, E, W, a1, a2, a3, b1, b2, b3, b4, b5, b6, b7, b8, b9, b10, b11, b12, b13, b14⟩
  · exact Or.inl ⟨(hi _ _ (by omega)).trans a1, (hi _ _ (by omega)).trans a2, (hi _ _ (by omega)).trans a3, wC_fr57 a4 (fun c i h1 h2 => hi c i (by omega)) hR, wR_fr a5 (fun c i hc => hi c i (by omega))⟩
  · refine Or.inr ⟨k, np, Lc, cap, B, D, N, O, G, E, W, (hi _ _ (by omega)).trans a1, (hi _ _ (by omega)).trans a2, hR0.trans a3, b1, by omega, ⟨b3.1, vnm_fr b3.2 (fun c i hc => hi c i (by omega))⟩, (hi _ _ (by omega)).trans b4, plC_fr (fun c i h1 h2 => hi c i (by omega)) b5, b6, ⟨fun c i h1 h2 h3 => (hi c i (by omega)).trans (b7.1 c i h1 h2 h3), fun v h1 h2 => (hX v h1 h2).trans (b7.2.1 v h1 h2), b7.2.2⟩, (hi _ _ (by omega)).trans b8, wC_fr57 b9 (fun c i h1 h2 => hi c i (by omega)) hR, wR_fr b10 (fun c i hc => hi c i (by omega)), b11, b12, by omega, by omega⟩
theorem zH_fr (hC : (C = 215 ∧ C' = 228) ∨ (C = 228 ∧ C' = 215)) (h : zH I J C nn) (hi : ∀ c i, (c = 241 ∧ 83 ≤ i ∧ i ≤ 88 ∧ i ≠ 86 ∧ i ≠ 87) ∨ (C ≤ c ∧ c ≤ C + 12 ∧ c ≠ C + 10) ∨ (287 ≤ c ∧ c ≤ 289) ∨ c = 293 ∨ c = 297 ∨ c = 298 → I' c i = I c i) (hJ : ∀ i, J' (C + 2) i = J (C + 2) i) {nn' : Nat} (hnn : nn ≤ nn') (hr : ∀ u, u < nn → rnm I' u = rnm I u) : zH I' J' C nn' := by
  obtain ⟨ms, ls, rs, L, a1, a2, a3, a4, a5, a6, b1, b2, b3, b4, b5, b6, c1, c2, c3⟩ := h
  have ec : ∀ x, cnm I' J' (C + 1) x = cnm I J (C + 1) x := fun x => by unfold cnm; rw [hi _ _ (by omega), hJ]
  have kc : ∀ (x : Int32) l, cLn I J (C + 1) L x l → cLn I' J' (C + 1) L x l := by
    intro x l hl
    cases l with
    | none => exact hl
    | some y =>
      obtain ⟨u, u1, u2', u3⟩ := hl
      exact ⟨u, u1, u2', (ec u).trans u3⟩
  have kr : ∀ (x : Int32) l, rLn I nn x l → rLn I' nn' x l := by
    intro x l hl
    cases l with
    | none => exact hl
    | some y =>
      obtain ⟨u, u1, u2', u3⟩ := hl
      exact ⟨u, by omega, u2', (hr u u1).trans u3⟩
  refine ⟨ms, ls, rs, L, a1, a2, a3, cNm_fr a4 (hi _ _ (by omega)) (fun i => hi _ _ (by omega)) hJ, a5, a6, (hi _ _ (by omega)).trans b1, (hi _ _ (by omega)).trans b2, (hi _ _ (by omega)).trans b3, (hi _ _ (by omega)).trans b4, (hi _ _ (by omega)).trans b5, (hi _ _ (by omega)).trans b6, fun i m hm => ?_, fun i l hl => ?_, fun i r hr' => ?_⟩
  · rw [hi (C + 5) i (by omega), hi (C + 6) i (by omega), hi (C + 7) i (by omega), hi 287 i (by omega), hi 288 i (by omega), hi 289 i (by omega)]
    obtain ⟨d1, d2, d3, d4, d5, d6, d7, d8⟩ := c1 i m hm
    exact ⟨d1, d2, d3, d4, d5, d6, kc _ _ d7, kr _ _ d8⟩
  · rw [hi (C + 4) i (by omega), hi 293 i (by omega)]
    exact ⟨kc _ _ (c2 i l hl).1, kr _ _ (c2 i l hl).2⟩
  · rw [hi (C + 11) i (by omega), hi (C + 12) i (by omega), hi 297 i (by omega), hi 298 i (by omega)]
    exact c3 i r hr'
theorem zC_fr (h : zC I J R nn C C') (hi : ∀ c i, (c = 0 ∧ i = 13) ∨ (c = 241 ∧ 83 ≤ i ∧ i ≤ 88 ∧ i ≠ 86 ∧ i ≠ 87) ∨ (C ≤ c ∧ c ≤ C + 12 ∧ c ≠ C + 10) ∨ (c = C' + 1 ∧ i = 2) ∨ (287 ≤ c ∧ c ≤ 289) ∨ c = 293 ∨ c = 297 ∨ c = 298 → I' c i = I c i) (hJ : ∀ i, J' (C + 2) i = J (C + 2) i) (hR : ∀ i, i = 11 ∨ i = 12 → R' 0 i = R 0 i) {nn' : Nat} (hnn : nn ≤ nn') (hr : ∀ u, u < nn → rnm I' u = rnm I u) : zC I' J' R' nn' C C' := by
  obtain ⟨h1, h2, h3, ⟨L', h4, h4', L2, h6, h6'⟩, h5⟩ := h
  refine ⟨h1, (hR _ (by omega)).trans h2, (hR _ (by omega)).trans h3, ⟨L', h4, (hi _ _ (by omega)).trans h4', L2, h6, (hi _ _ (by omega)).trans h6'⟩, ?_⟩
  rcases h5 with ⟨a1, a2, a3, a4⟩ | ⟨a1, a2, a3⟩
  · exact Or.inl ⟨(hi _ _ (by omega)).trans a1, (hi _ _ (by omega)).trans a2, (hi _ _ (by omega)).trans a3, (hi _ _ (by omega)).trans a4⟩
  · exact Or.inr ⟨(hi _ _ (by omega)).trans a1, (hi _ _ (by omega)).trans a2, zH_fr h1 a3 (fun c i hc => hi c i (by omega)) hJ hnn hr⟩
theorem zR_fr (h : zR X n c) (h1 : tp X' ≤ tp X + 1) (h2 : scp X' = scp X) {n' : Nat} (h3 : n' ≤ n + 6) : zR X' n' (c + 1) := by
  obtain ⟨a, b⟩ := h
  exact ⟨by omega, by omega⟩
theorem zR_gro (h : zR X n c) {n' : Nat} (hg : gro X n X' n') : zR X' n' (c + 1) := by
  obtain ⟨a, b⟩ := h
  obtain ⟨g1, g2, g3⟩ := hg
  exact ⟨by omega, by omega⟩
/-- what a call that changes little leaves: I may change at thrown, the trace of what was done aside -/
theorem Rel_lit (h : Rel c X I J R n) (hi : ∀ c i, ¬ (c = 241 ∧ i = 0) → I' c i = I c i) (hJ : ∀ c i, c ≠ 299 → J' c i = J c i) (h1 : tp X' ≤ tp X + 1) (h2 : ∀ v, cp X' v = cp X v) {n' : Nat} (h3 : n' ≤ n + 6) : Rel (c + 1) X' I' J' R n' := by
  obtain ⟨T, nn, nb, M, P, P', L, C, C', a1, a2, a3, a4, a5, a6, a7, a8, a9, a10⟩ := h
  have hP := a6.1
  have hC := a9.1
  exact ⟨T, nn, nb, M, P, P', L, C, C', zT_fr a1 (fun c i hc => hi c i (by omega)), zO_fr a2 (fun c i hc => hi c i (by omega)), zF_fr a3 (hi _ _ (by omega)) (fun i => hJ _ _ (by omega)) a3.2.2, zN_fr a4 (fun c i hc => hi c i (by omega)) (fun v _ _ => h2 v), zM_fr a5 (hi _ _ (by omega)) (fun v _ _ => h2 v), zP_fr a6 (fun c i _ _ => hi c i (by omega)) (fun c i _ _ => hJ _ _ (by omega)) (fun _ _ => rfl), zS_fr hP a7 (fun c i hc => hi c i (by omega)) (fun i => hJ _ _ (by omega)) (fun _ => rfl) rfl (fun v _ _ => h2 v), zK_fr a8 (fun c i hc => hi c i (by omega)) (h2 _), zC_fr a9 (fun c i hc => hi c i (by omega)) (fun i => hJ _ _ (by omega)) (fun _ _ => rfl) (Nat.le_refl _) (fun u _ => rnm_e (fun c i c1 c2 => hi c i (by omega))), zR_fr a10 h1 (by unfold scp; simp only [h2]) h3⟩
/-- the world has changed -/
theorem Rel_W {k np Lc cap B D B' D' : Nat} {N : Nat → Nat → Int32} {O G E : Nat → Int32} {W W' : aW Nm} (a1 : zT I T) (a2 : zO I) (a3 : zF I J R) (a4 : zN X I nn nb c T) (a5 : zM X I M) (a6 : zP I J R P P' L) (a7 : zY X I J R c P L nn M k np Lc cap B D N O G E W) (a8 : zK X I) (a9 : zC I J R nn C C') (a10 : zR X n c) (hi : ∀ c i, ¬ (57 ≤ c ∧ c ≤ 130) → ¬ (260 ≤ c ∧ c ≤ 281) → ¬ (c = 241 ∧ (i = 0 ∨ (36 ≤ i ∧ i ≤ 74))) → I' c i = I c i) (h66 : I' 241 66 = I 241 66) (hJ : ∀ c i, c ≠ 299 → J' c i = J c i) (hR : ∀ c j, c ≠ 65 → R' c j = R c j) (w1 : wC (cNf (cnm I J (P + 1)) L) I' R' 57 W') (w2 : wR (rNf (rnm I) nn) I' true W') (w3 : okW N np B' W') (w4 : okD D' W' ∧ okQ np W') (hB : B' ≤ 1000 * (c + 1)) (hD : D' ≤ 100000 * (c + 1)) : Rel (c + 1) X I' J' R' n := by
  have hP := a6.1
  have hC := a9.1
  have e1 : cnm I' J' (P + 1) = cnm I J (P + 1) := funext fun x => by unfold cnm; rw [hi _ _ (by omega) (by omega) (by omega), hJ _ _ (by omega)]
  have e2 : rnm I' = rnm I := funext fun u => rnm_e (fun c i c1 c2 => hi c i (by omega) (by omega) (by omega))
  have e140 : R' (132 + 8) = R (132 + 8) := funext fun i => hR _ _ (by omega)
  obtain ⟨b1, b2, b3, b4, b5, b6, b7, b8, b9, b10, b11, b12, b13, b14, b15, b16, b17⟩ := a7
  refine ⟨T, nn, nb, M, P, P', L, C, C', zT_fr a1 (fun c i hc => hi c i (by omega) (by omega) (by omega)), zO_fr a2 (fun c i hc => hi c i (by omega) (by omega) (by omega)), zF_fr a3 h66 (fun i => hJ _ _ (by omega)) (by have := a3.2.2; unfold okS at this ⊢; rw [e140]; exact this), zN_fr a4 (fun c i hc => hi c i (by omega) (by omega) (by omega)) (fun v _ _ => rfl), zM_fr a5 (hi _ _ (by omega) (by omega) (by omega)) (fun v _ _ => rfl), zP_fr a6 (fun c i _ _ => hi c i (by omega) (by omega) (by omega)) (fun c i _ _ => hJ _ _ (by omega)) (fun _ _ => hR _ _ (by omega)), ⟨w1.1.1, Or.inr ⟨k, np, Lc, cap, B', D', N, O, G, E, W', ?_⟩⟩, zK_fr a8 (fun c i hc => hi c i (by omega) (by omega) (by omega)) rfl, zC_fr a9 (fun c i hc => hi c i (by omega) (by omega) (by omega)) (fun i => hJ _ _ (by omega)) (fun _ _ => hR _ _ (by omega)) (Nat.le_refl _) (fun u _ => by rw [e2]), zR_fr a10 (Nat.le_succ _) rfl (Nat.le_add_right _ _)⟩
  unfold zY
  rw [e1, e2]
  exact ⟨(hi _ _ (by omega) (by omega) (by omega)).trans b1, (hi _ _ (by omega) (by omega) (by omega)).trans b2, (hR _ _ (by omega)).trans b3, b4, by omega, ⟨b6.1, vnm_fr b6.2 (fun c i hc => hi c i (by omega) (by omega) (by omega))⟩, (hi _ _ (by omega) (by omega) (by omega)).trans b7, plC_fr (fun c i h1 h2 => hi c i (by omega) (by omega) (by omega)) b8, b9, ⟨fun c i h1 h2 h3 => (hi c i (by omega) (by omega) (by omega)).trans (b10.1 c i h1 h2 h3), b10.2⟩, (hi _ _ (by omega) (by omega) (by omega)).trans b11, w1, w2, w3, w4, hB, hD⟩
end ZFR
