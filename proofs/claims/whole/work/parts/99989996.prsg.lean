/-! system of the reference: the text's outcome -/
/-- the source, once the tape is taken -/
def tpT (I : Nat → Nat → Int32) (N : Nat) : Nat → Int32 := fun i => if i < N then I 248 i else I 249 i
/-- what a text is: the token that can't stand, or all processes and their code -/
def sysO (t : Nat → Int32) (N : Nat) : Nat ⊕ (List qPr × List oT) :=
  match pG (KK t N) (fun j => tkNu t N (tpos t N j)) 2001 0 0 [] [] c00 s00 with
  | (none, j, _) => .inl j
  | (some F, _, C) => match exF (KK t N) (eqY t N) F with
    | some e => .inl e
    | none => match C.foldl (fun u x => mnO u (ukO (eqY t N) F x)) (unF (eqY t N) F) with
      | some u => .inl u
      | none => .inr (F, C)
section SYO
variable {t : Nat → Int32} {N : Nat}
theorem sysO_1 {j : Nat} {C : List oT} (h : pG (KK t N) (fun j => tkNu t N (tpos t N j)) 2001 0 0 [] [] c00 s00 = (none, j, C)) : sysO t N = .inl j := by unfold sysO; rw [h]
theorem sysO_2 {F : List qPr} {j e : Nat} {C : List oT} (h : pG (KK t N) (fun j => tkNu t N (tpos t N j)) 2001 0 0 [] [] c00 s00 = (some F, j, C)) (h2 : exF (KK t N) (eqY t N) F = some e) : sysO t N = .inl e := by unfold sysO; rw [h]; simp only [h2]
theorem sysO_3 {F : List qPr} {j u : Nat} {C : List oT} (h : pG (KK t N) (fun j => tkNu t N (tpos t N j)) 2001 0 0 [] [] c00 s00 = (some F, j, C)) (h2 : exF (KK t N) (eqY t N) F = none) (h3 : C.foldl (fun u x => mnO u (ukO (eqY t N) F x)) (unF (eqY t N) F) = some u) : sysO t N = .inl u := by unfold sysO; rw [h]; simp only [h2, h3]
theorem sysO_4 {F : List qPr} {j : Nat} {C : List oT} (h : pG (KK t N) (fun j => tkNu t N (tpos t N j)) 2001 0 0 [] [] c00 s00 = (some F, j, C)) (h2 : exF (KK t N) (eqY t N) F = none) (h3 : C.foldl (fun u x => mnO u (ukO (eqY t N) F x)) (unF (eqY t N) F) = none) : sysO t N = .inr (F, C) := by unfold sysO; rw [h]; simp only [h2, h3]
theorem fs_al {l l' : List (Option Nat)} (h : fs (l ++ l') = none) : fs l = none ∧ fs l' = none := by
  rw [fs_app] at h
  cases h1 : fs l with
  | none => rw [h1] at h; exact ⟨rfl, by simpa using h⟩
  | some x => rw [h1] at h; cases h
theorem ck6 {K : Nat → Nat} {E : Nat → Nat → Bool} : ∀ (F seen : List qPr), seen.length ≤ 6 → fs (scn (fun seen c => [ckN E 6 (seen.map (fun c => c.1)) c.1] ++ xkL E c.2.1 ++ xkS K E c.2.2.2) seen F) = none → seen.length + F.length ≤ 6 := by
  intro F
  induction F with
  | nil => intro seen hs _; simpa using hs
  | cons c F ih =>
    intro seen hs h
    unfold scn at h
    obtain ⟨h1, h2⟩ := fs_al h
    have h3 := (fs_al (fs_al h1).1).1
    rw [fs_1] at h3
    have hlt : seen.length < 6 := by
      rcases Nat.lt_or_ge seen.length 6 with q | q
      · exact q
      · exfalso
        unfold ckN at h3
        rw [if_pos (Or.inl (by simpa using q))] at h3
        cases h3
    have := ih (seen ++ [c]) (by simp; omega) h2
    simp only [List.length_append, List.length_cons, List.length_nil] at this
    simp only [List.length_cons]
    omega
theorem exF_6 {K : Nat → Nat} {E : Nat → Nat → Bool} {F : List qPr} (h : exF K E F = none) : F.length ≤ 6 := by
  have := ck6 (K := K) (E := E) F [] (by simp) h
  simpa using this
theorem prsR_27 {I : Nat → Nat → Int32} {nn : Nat} : ∀ (cs : List Nat) (qs : List qPr) (i : Nat) (lo hi : Nat), prsR t N I nn i lo cs qs hi → ∀ q, q ∈ qs → KK t N (q.1 + 2) = 27 := by
  intro cs
  induction cs with
  | nil =>
    intro qs i lo hi h
    cases qs with
    | nil => intro q hq; cases hq
    | cons q qs => exact h.elim
  | cons c cs ih =>
    intro qs i lo hi h
    cases qs with
    | nil => exact h.elim
    | cons q qs =>
      obtain ⟨k, h1, h2, h3⟩ := h
      intro x hx
      rcases List.mem_cons.mp hx with e | e
      · subst e; exact h2.2.2.2.2.1
      · exact ih qs _ k hi h3 x e
theorem rNm_s {X : jXX} {I I' : Nat → Nat → Int32} {nn nb : Nat} (h : rNm X I nn nb) (hf : ∀ c i, 243 ≤ c → c ≤ 247 → I' c i = I c i) (h8 : I' 241 8 = I 241 8) (h9 : I' 241 9 = I 241 9) : rNm X I' nn nb := by
  have h' := h
  obtain ⟨a1, a2, a3, a4, a5, a6, a7, a8, a9, a10, a11, a12, a13, a14, a15, a16⟩ := h'
  exact rNm_fr h h8 h9 (Nat.le_refl _) a9 a4 a5 (Nat.le_refl _) a10 (fun w _ => hf _ _ (by omega) (by omega)) (fun w _ => hf _ _ (by omega) (by omega)) (fun w _ => hf _ _ (by omega) (by omega)) (fun w => hf _ _ (by omega) (by omega)) (fun i _ => hf _ _ (by omega) (by omega)) (fun i hi => by rw [hf _ _ (by omega) (by omega)]; exact a16 i hi)
end SYO
