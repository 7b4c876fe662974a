/-! texts: what holds of them at the start, and the steps that read them -/
theorem jtf_some {A : Nat → Nat} {a t : Nat} (h : jtf A a = some t) : t < 3 ∧ a = A t := by
  unfold jtf at h
  split at h
  · next e => cases h; exact ⟨by decide, e⟩
  · split at h
    · next e => cases h; exact ⟨by decide, e⟩
    · split at h
      · next e => cases h; exact ⟨by decide, e⟩
      · cases h
def jtxe (A : Nat → Nat) (U : State) (base : Nat) (H0 : Heap) : Prop :=
  va_Z "java/lang/String" "COMPACT_STRINGS" "Z" (.int 1) (fun q => base ≤ q) U H0 ∧
  va_Z "jdk/internal/util/Preconditions" "SIOOBE_FORMATTER" "Ljava/util/function/BiFunction;" (jfmt A) (fun q => base ≤ q) U H0 ∧
  (∀ t, t < 3 → va_O "java/lang/String" (A t) (fun q => base ≤ q) U H0 ∧ va_OF "java/lang/String" "value" "[B" (.ref (A (50 + t))) (A t) (fun q => base ≤ q) U H0 ∧ va_OF "java/lang/String" "coder" "B" (.int 0) (A t) (fun q => base ≤ q) U H0 ∧ va_T .byte (A (50 + t)) (jtx t).length (fun j => .int (nI ((jtx t).getD j 0))) (fun q => base ≤ q) U H0) ∧
  ∀ q ∈ jTXt, ∃ tx, vk_R (jRN q.1) q.2.1 tx (A q.2.2.1) U
theorem jtxe.warm {A : Nat → Nat} {s U : State} {base : Nat} {H0 : Heap} (hW : s.WarmedH U.vm) (h : jtxe A s base H0) : jtxe A U base H0 := by
  obtain ⟨h1, h2, h3, h4⟩ := h
  refine ⟨va_Z.moved hW.alike h1, va_Z.moved hW.alike h2, fun t ht => ?_, fun q hq => ?_⟩
  · obtain ⟨g1, g2, g3, g4⟩ := h3 t ht
    exact ⟨va_O.moved hW.alike g1, va_OF.moved hW.alike g2, va_OF.moved hW.alike g3, va_T.moved hW.alike g4⟩
  · obtain ⟨tx, hs⟩ := h4 q hq
    exact ⟨tx, vk_R.warm hW hs⟩
/-- the statics and the fields that are read, by number -/
def jgsC (f : Nat) : String := if f = 0 then "java/lang/String" else "jdk/internal/util/Preconditions"
def jgsN (f : Nat) : String := if f = 0 then "COMPACT_STRINGS" else "SIOOBE_FORMATTER"
def jgsD (f : Nat) : String := if f = 0 then "Z" else "Ljava/util/function/BiFunction;"
def jtfN (f : Nat) : String := if f = 0 then "value" else "coder"
def jtfD (f : Nat) : String := if f = 0 then "[B" else "B"
theorem jFTt_w {a b c : Nat} (h : jhas3 jFTt a b c = true) : Cond.fieldLink (jRN a) b "java/lang/String" (jtfN c) (jtfD c) ∈ jW := by
  obtain ⟨p, hp⟩ := jhas3_mem h
  have h0 : jFTt.all (fun q => decide (jtw q.2.2.2 = some (Cond.fieldLink (jRN q.1) q.2.1 "java/lang/String" (jtfN q.2.2.1) (jtfD q.2.2.1))) && goodWord (Cond.fieldLink (jRN q.1) q.2.1 "java/lang/String" (jtfN q.2.2.1) (jtfD q.2.2.1))) = true := by decide +kernel
  have h1 := List.all_eq_true.mp h0 _ hp
  simp only [Bool.and_eq_true, decide_eq_true_eq] at h1
  exact jW_tw h1.1 h1.2
theorem jGSt_w {a b c : Nat} (h : jhas3 jGSt a b c = true) : Cond.fieldLink (jRN a) b (jgsC c) (jgsN c) (jgsD c) ∈ jW := by
  obtain ⟨p, hp⟩ := jhas3_mem h
  have h0 : jGSt.all (fun q => decide (jtw q.2.2.2 = some (Cond.fieldLink (jRN q.1) q.2.1 (jgsC q.2.2.1) (jgsN q.2.2.1) (jgsD q.2.2.1))) && goodWord (Cond.fieldLink (jRN q.1) q.2.1 (jgsC q.2.2.1) (jgsN q.2.2.1) (jgsD q.2.2.1))) = true := by decide +kernel
  have h1 := List.all_eq_true.mp h0 _ hp
  simp only [Bool.and_eq_true, decide_eq_true_eq] at h1
  exact jW_tw h1.1 h1.2
section JTX
variable {A : Nat → Nat} {p : Program} {l : Launch} {e : Env} {R : Room} {s : State} {m : MethodId} {args : Array Value} {below : List Frame} {meth : Method} {c : Code} {D : va_G} {base : Nat} {H0 : Heap} {nL : Nat} {σ0 : jS} {Q : State → Prop} {own : String} {cc : ByteArray} {pc pc' len : Nat} {L L' : jL} {st st' : List Value} {σ σ' : jS}
theorem jg_gets {i : Nat} {ref n dd : String} {v : Value} (C : jCx p s m args c D own cc) (hd : decode cc pc = .ok (.getstatic i, 3)) (hw : Cond.fieldLink own i ref n dd ∈ jW) (hZ : va_Z ref n dd v (fun q => base ≤ q) s H0) (g : jG p l e R s m args below meth c D base H0 nL σ0 Q (pc + 3) L (v :: st) σ) : jG p l e R s m args below meth c D base H0 nL σ0 Q pc L st σ := by
  intro H locs cells slots ls hR hL hl hc hs
  obtain ⟨cf, kf, fi, f, a, cell, h1, h2, h3, h4, h5, h6, h7, h8⟩ := hZ
  exact W.gets C.1 C.2.1 C.2.2.1 (C.2.2.2.1 _ hw) h1 h2 h3 h4 (by rw [hR.2.2.1 a (Nat.lt_of_not_le h8)]; exact h5) (fun e => by rw [e] at h6; cases h6) h7 rfl hd (g H locs cells slots ls hR hL hl hc hs)
theorem jg_gst {i f : Nat} (C : jCx p s m args c D own cc) (hX : jtxe A s base H0) (hd : decode cc pc = .ok (.getstatic i, 3)) (hf : f < 2) (hw : Cond.fieldLink own i (jgsC f) (jgsN f) (jgsD f) ∈ jW)
    (h : jnx (pc + 3) L ((if f = 0 then .int 1 else jfmt A) :: st) σ = some (.inl (pc', L', st', σ'))) (g : jG p l e R s m args below meth c D base H0 nL σ0 Q pc' L' st' σ') : jG p l e R s m args below meth c D base H0 nL σ0 Q pc L st σ := by
  obtain ⟨rfl, rfl, rfl, rfl⟩ := jnx_inv h
  match f, hf with
  | 0, _ => exact jg_gets C hd hw hX.1 g
  | 1, _ => exact jg_gets C hd hw hX.2.1 g
theorem jg_gtx {i f : Nat} (C : jCx p s m args c D own cc) (hX : jtxe A s base H0) (hd : decode cc pc = .ok (.getfield i, 3)) (hf : f < 2) (hw : Cond.fieldLink own i "java/lang/String" (jtfN f) (jtfD f) ∈ jW)
    (h : jgtx A f pc L st σ = some (.inl (pc', L', st', σ'))) (g : jG p l e R s m args below meth c D base H0 nL σ0 Q pc' L' st' σ') : jG p l e R s m args below meth c D base H0 nL σ0 Q pc L st σ := by
  intro H locs cells slots ls hR hL hl hc hs
  unfold jgtx at h
  split at h
  · next a r =>
    split at h
    · next t ht =>
      obtain ⟨rfl, rfl, rfl, rfl⟩ := jnx_inv h
      obtain ⟨ht3, rfl⟩ := jtf_some ht
      obtain ⟨-, h1, h2, -⟩ := hX.2.2.1 t ht3
      match f, hf with
      | 0, _ =>
        obtain ⟨cf, kf, fi, fd, cell, g1, g2, g3, g4, g5, g6⟩ := h1
        exact W.getf C.1 C.2.1 C.2.2.1 (C.2.2.2.1 _ hw) g1 g2 ((hR.2.2.1 _ (Nat.lt_of_not_le g6)).trans g3) g4 (v := .ref (A (50 + t))) g5 rfl rfl hd (g H locs cells slots ls hR hL hl hc hs)
      | 1, _ =>
        obtain ⟨cf, kf, fi, fd, cell, g1, g2, g3, g4, g5, g6⟩ := h2
        exact W.getf C.1 C.2.1 C.2.2.1 (C.2.2.2.1 _ hw) g1 g2 ((hR.2.2.1 _ (Nat.lt_of_not_le g6)).trans g3) g4 (v := .int 0) g5 rfl rfl hd (g H locs cells slots ls hR hL hl hc hs)
    · cases h
  · cases h
theorem jg_tln (C : jCx p s m args c D own cc) (hX : jtxe A s base H0) (hd : decode cc pc = .ok (.arraylength, 1)) (h : jtln A pc L st σ = some (.inl (pc', L', st', σ'))) (g : jG p l e R s m args below meth c D base H0 nL σ0 Q pc' L' st' σ') : jG p l e R s m args below meth c D base H0 nL σ0 Q pc L st σ := by
  intro H locs cells slots ls hR hL hl hc hs
  unfold jtln at h
  split at h
  · next a r =>
    split at h
    · next t ht =>
      obtain ⟨rfl, rfl, rfl, rfl⟩ := jnx_inv h
      obtain ⟨ht3, rfl⟩ := jtf_some ht
      obtain ⟨cell, v1, v2, v3, v4, v5, v6, v7⟩ := (hX.2.2.1 t ht3).2.2.2
      exact W.alen C.1 C.2.1 ((hR.2.2.1 _ (Nat.lt_of_not_le v7)).trans v1) v2 (by rw [v5]; rfl) rfl rfl hd (g H locs cells slots ls hR hL hl hc hs)
    · cases h
  · cases h
theorem jg_tch (C : jCx p s m args c D own cc) (hX : jtxe A s base H0) (hd : decode cc pc = .ok (.baload, 1)) (h : jtch A pc L st σ = some (.inl (pc', L', st', σ'))) (g : jG p l e R s m args below meth c D base H0 nL σ0 Q pc' L' st' σ') : jG p l e R s m args below meth c D base H0 nL σ0 Q pc L st σ := by
  intro H locs cells slots ls hR hL hl hc hs
  unfold jtch at h
  split at h
  · next j a r =>
    split at h
    · next t ht =>
      split at h
      · next hj =>
        obtain ⟨rfl, rfl, rfl, rfl⟩ := jnx_inv h
        obtain ⟨ht3, rfl⟩ := jtf_some ht
        obtain ⟨cell, v1, v2, v3, v4, v5, v6, v7⟩ := (hX.2.2.1 t ht3).2.2.2
        exact W.bald C.1 C.2.1 ((hR.2.2.1 _ (Nat.lt_of_not_le v7)).trans v1) v2 v3 (jin hj.1 (Nat.lt_of_lt_of_le hj.2 v4)) (v6 _ hj.2) rfl rfl hd (g H locs cells slots ls hR hL hl hc hs)
      · cases h
    · cases h
  · cases h
theorem jg_ldcs {i t : Nat} {tx : String} (C : jCx p s m args c D own cc) (hd : decode cc pc = .ok (.ldc i, 2)) (hK : vk_R own i tx (A t) s) (h : jnx (pc + 2) L (.ref (A t) :: st) σ = some (.inl (pc', L', st', σ'))) (g : jG p l e R s m args below meth c D base H0 nL σ0 Q pc' L' st' σ') : jG p l e R s m args below meth c D base H0 nL σ0 Q pc L st σ := by
  intro H locs cells slots ls hR hL hl hc hs
  obtain ⟨rfl, rfl, rfl, rfl⟩ := jnx_inv h
  exact va_ldcS C.1 C.2.1 C.2.2.1 hK hd (g H locs cells slots ls hR hL hl hc hs)
end JTX
