/-! entry, calls by depth: what J does, the JVM does -/
theorem jsv_len (as : List Value) : (jsv as).length = (lg_sl as).length := by
  induction as with
  | nil => rfl
  | cons v as ih =>
    simp only [jsv, lg_sl, List.flatMap_cons, List.length_append] at ih ⊢
    rw [ih]
    split <;> rfl
theorem jsv_args : ∀ (as : List Value) (off i : Nat) (v : Value), (jsv as)[i]? = some (some v) → (off + i, v) ∈ lv_args off as := by
  intro as
  induction as with
  | nil => intro off i v h; simp [jsv] at h
  | cons w as ih =>
    intro off i v h
    have e : jsv (w :: as) = (if w.category = 2 then [some w, none] else [some w]) ++ jsv as := rfl
    rw [e] at h
    unfold lv_args
    by_cases hw : w.category = 2
    · rw [if_pos hw] at h ⊢
      match i, h with
      | 0, h =>
        simp at h
        subst h
        exact List.mem_cons_self
      | 1, h => simp at h
      | j + 2, h =>
        have h2 : (jsv as)[j]? = some (some v) := by simpa using h
        have h3 := ih (off + 2) j v h2
        rw [show off + 2 + j = off + (j + 2) by omega] at h3
        exact List.mem_cons_of_mem _ h3
    · rw [if_neg hw] at h ⊢
      match i, h with
      | 0, h =>
        simp at h
        subst h
        exact List.mem_cons_self
      | j + 1, h =>
        have h2 : (jsv as)[j]? = some (some v) := by simpa using h
        have h3 := ih (off + 1) j v h2
        rw [show off + 1 + j = off + (j + 1) by omega] at h3
        exact List.mem_cons_of_mem _ h3
theorem jent_LR {nL : Nat} {as : List Value} (h : (jsv as).length ≤ nL) : jLR ((lg_sl as ++ List.replicate (nL - (lg_sl as).length) Slot.unset).toArray) nL (jent nL as) := by
  have hl := lv_entry as (n := nL) (by rw [← jsv_len]; exact h)
  refine ⟨by simp only [jent, List.length_append, List.length_replicate]; omega, hl.1, hl.2.1, fun q hq => hl.2.2 q ?_⟩
  obtain ⟨i, v⟩ := q
  rw [jpr_mem] at hq
  unfold jent at hq
  by_cases hi : i < (jsv as).length
  · rw [List.getElem?_append_left hi] at hq
    have h2 := jsv_args as 0 i v hq
    rw [Nat.zero_add] at h2
    exact h2
  · rw [List.getElem?_append_right (by omega)] at hq
    have h3 := List.mem_of_getElem? hq
    have h4 := List.eq_of_mem_replicate h3
    cases h4
section JSOUND
variable {l : Launch} {A : Nat → Nat} {code : Nat → Nat → Option (Instr × Nat)}
/-- a method without a table -/
theorem jsound1 {d n : Nat} {as : List Value} {σ : jS} {o : jO} {τ : jS} (hl : l.stackTraces = false) (hn : n < jnm) (h1 : jisC n = 1)
    (hcode : ∀ pc ins len, code n pc = some (ins, len) → jchk (jow n) (jkd n == 2) (jby n) (pc, ins, len) = true) (hIH : ∀ n as σ o τ, jcall A code d n as σ = some (o, τ) → jMet A l d n as σ o τ)
    (has : (jsv as).length ≤ jmL n) (h : jrun (jcall A code d) A (jhn n) jow jna (jrt n) (code n) 0 (jent (jmL n) as) [] σ = some (o, τ)) : jMet A l (d + 1) n as σ o τ := by
  obtain ⟨a1, a2, a3, a4, a5, a6, a7, a8, a9, a10, a11⟩ := jmeth hn
  rw [jhn1 h1, jrun_iff] at h
  obtain ⟨k, hk⟩ := h
  have hmono : ∀ n as σ o τ, jcall A code d n as σ = some (o, τ) → jle σ τ := fun n as σ o τ h => ⟨(hIH n as σ o τ h).1, (hIH n as σ o τ h).2.1⟩
  have hle : jle σ τ := jmo_exec hmono _ _ _ _ _ _ _ hk
  refine ⟨hle.1, hle.2, fun D base H0 => ?_⟩
  refine vx_ofW (cc := jby n) (maxL := jmL n) (ret := jrt n) a11 (jws1 h1) ?_
  intro p e s m args below meth c s₁ B hml hnt hP
  obtain ⟨rfl, hE, hR⟩ := hP
  have hts := atoms_spec (ws := jws n) B.pre
  have hown : s.vm.findClass (jRN (jow n)) = some m.cls := by rw [← a6]; exact findClass_of_methodNamed B.named
  have htsW : ∀ w ∈ jW, w.before as.toArray s = true := fun w hw => hts w (by rw [jws1 h1]; exact List.mem_cons_of_mem _ hw)
  have C : jCx p s m as.toArray c D (jRN (jow n)) (jby n) := ⟨B.exec, B.bytes, hown, htsW, hE.2.1⟩
  have hini : (jkd n == 2) = true → meth.name = "<init>" := by
    intro hk2
    rw [(name_of_methodNamed B.named B.method).1]
    exact a9 (by simpa using hk2)
  have key := jbodyX (l := l) (e := e) (R := (headSpec (jws n) (jrm (d + 1) (τ.2.1 - σ.2.1) (τ.2.2 - σ.2.2))).room) (below := below) (σ0 := σ) (σF := τ) (oF := o) (d := d) (A := A) (hs := []) C hml B.returns B.notSynchronized hl hE hR (Or.inl ⟨hnt, rfl⟩) hini hcode hIH
    (by show d + 9 ≤ d + 1 + 8; omega) (by show _ ≤ 41 * (d + 1) + 200; omega) (by show τ.2.1 ≤ σ.2.1 + (τ.2.1 - σ.2.1); omega) (by show τ.2.2 ≤ σ.2.2 + (τ.2.2 - σ.2.2); omega) (jX_nil B.notSynchronized hnt) k 0 (jent (jmL n) as) [] σ hk jle.rf
  rw [lg_entry_eq]
  exact key s.heap [] 0 0 _ hR (jent_LR has) (fun q hq => by cases hq) (by omega) (by omega)
end JSOUND
