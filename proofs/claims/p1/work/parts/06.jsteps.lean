/-! single steps: what the J machine does, the JVM does -/
def jCx (p : Program) (s : State) (m : MethodId) (args : Array Value) (c : Code) (D : va_G) (own : String) (cc : ByteArray) : Prop :=
  p.tables.exec = Jvm.exec ∧ c.code = cc ∧ s.vm.findClass own = some m.cls ∧ (∀ w ∈ jW, w.before args s = true) ∧ va_K D vwCl [] s
/-- from the J state on, from every JVM state that it speaks of, the JVM comes to Q -/
def jG (p : Program) (l : Launch) (e : Env) (R : Room) (s : State) (m : MethodId) (args : Array Value) (below : List Frame) (meth : Method) (c : Code) (D : va_G) (base : Nat) (H0 : Heap) (nL : Nat) (σ0 : jS) (Q : State → Prop) (pc : Nat) (L : jL) (st : List Value) (σ : jS) : Prop :=
  ∀ (H : Heap) (locs : List Loc) (cells slots : Nat) (ls : Array Slot), jR D s base H0 σ H → jLR ls nL L → (∀ q ∈ locs, base ≤ q.base) → cells + σ0.2.1 = σ.2.1 → slots + σ0.2.2 = σ.2.2 → W p l e R s m args below meth c H locs cells slots Q (F0 m pc ls st)
section JSTEPS
variable {p : Program} {l : Launch} {e : Env} {R : Room} {s : State} {m : MethodId} {args : Array Value} {below : List Frame} {meth : Method} {c : Code} {D : va_G} {base : Nat} {H0 : Heap} {nL : Nat} {σ0 : jS} {Q : State → Prop} {own : String} {cc : ByteArray} {pc pc' len : Nat} {L L' : jL} {st st' : List Value} {σ σ' : jS}
theorem jnx_inv {pc1 : Nat} {L1 : jL} {st1 : List Value} {σ1 : jS} (h : jnx pc1 L1 st1 σ1 = some (.inl (pc', L', st', σ'))) : pc' = pc1 ∧ L' = L1 ∧ st' = st1 ∧ σ' = σ1 := by
  unfold jnx at h
  cases h
  exact ⟨rfl, rfl, rfl, rfl⟩
theorem jg_iload {i : Nat} (C : jCx p s m args c D own cc) (hd : decode cc pc = .ok (.iload i, 2)) (h : jld i (pc + 2) jisI L st σ = some (.inl (pc', L', st', σ'))) (g : jG p l e R s m args below meth c D base H0 nL σ0 Q pc' L' st' σ') : jG p l e R s m args below meth c D base H0 nL σ0 Q pc L st σ := by
  intro H locs cells slots ls hR hL hl hc hs
  unfold jld at h
  split at h
  · next v hv =>
    split at h
    · next hk =>
      obtain ⟨rfl, rfl, rfl, rfl⟩ := jnx_inv h
      cases v <;> simp [jisI] at hk
      exact lv_iload C.1 C.2.1 hd (hL.at hv) (g H locs cells slots ls hR hL hl hc hs)
    · cases h
  · cases h
theorem jg_iload_n {i : Fin 4} (C : jCx p s m args c D own cc) (hd : decode cc pc = .ok (.iload_n i, 1)) (h : jld i.val (pc + 1) jisI L st σ = some (.inl (pc', L', st', σ'))) (g : jG p l e R s m args below meth c D base H0 nL σ0 Q pc' L' st' σ') : jG p l e R s m args below meth c D base H0 nL σ0 Q pc L st σ := by
  intro H locs cells slots ls hR hL hl hc hs
  unfold jld at h
  split at h
  · next v hv =>
    split at h
    · next hk =>
      obtain ⟨rfl, rfl, rfl, rfl⟩ := jnx_inv h
      cases v <;> simp [jisI] at hk
      exact lv_iload_n C.1 C.2.1 hd rfl (hL.at hv) (g H locs cells slots ls hR hL hl hc hs)
    · cases h
  · cases h
theorem jg_lload {i : Nat} (C : jCx p s m args c D own cc) (hd : decode cc pc = .ok (.lload i, 2)) (h : jld i (pc + 2) jisL L st σ = some (.inl (pc', L', st', σ'))) (g : jG p l e R s m args below meth c D base H0 nL σ0 Q pc' L' st' σ') : jG p l e R s m args below meth c D base H0 nL σ0 Q pc L st σ := by
  intro H locs cells slots ls hR hL hl hc hs
  unfold jld at h
  split at h
  · next v hv =>
    split at h
    · next hk =>
      obtain ⟨rfl, rfl, rfl, rfl⟩ := jnx_inv h
      cases v <;> simp [jisL] at hk
      exact lv_lload C.1 C.2.1 hd (hL.at hv) (g H locs cells slots ls hR hL hl hc hs)
    · cases h
  · cases h
theorem jg_lload_n {i : Fin 4} (C : jCx p s m args c D own cc) (hd : decode cc pc = .ok (.lload_n i, 1)) (h : jld i.val (pc + 1) jisL L st σ = some (.inl (pc', L', st', σ'))) (g : jG p l e R s m args below meth c D base H0 nL σ0 Q pc' L' st' σ') : jG p l e R s m args below meth c D base H0 nL σ0 Q pc L st σ := by
  intro H locs cells slots ls hR hL hl hc hs
  unfold jld at h
  split at h
  · next v hv =>
    split at h
    · next hk =>
      obtain ⟨rfl, rfl, rfl, rfl⟩ := jnx_inv h
      cases v <;> simp [jisL] at hk
      exact lv_lload_n C.1 C.2.1 hd rfl (hL.at hv) (g H locs cells slots ls hR hL hl hc hs)
    · cases h
  · cases h
theorem jg_aload {i : Nat} (C : jCx p s m args c D own cc) (hd : decode cc pc = .ok (.aload i, 2)) (h : jld i (pc + 2) jisR L st σ = some (.inl (pc', L', st', σ'))) (g : jG p l e R s m args below meth c D base H0 nL σ0 Q pc' L' st' σ') : jG p l e R s m args below meth c D base H0 nL σ0 Q pc L st σ := by
  intro H locs cells slots ls hR hL hl hc hs
  unfold jld at h
  split at h
  · next v hv =>
    split at h
    · next hk =>
      obtain ⟨rfl, rfl, rfl, rfl⟩ := jnx_inv h
      cases v <;> simp [jisR] at hk
      · exact lv_aloadN C.1 C.2.1 hd (hL.at hv) (g H locs cells slots ls hR hL hl hc hs)
      · exact lv_aload C.1 C.2.1 hd (hL.at hv) (g H locs cells slots ls hR hL hl hc hs)
    · cases h
  · cases h
theorem jg_aload_n {i : Fin 4} (C : jCx p s m args c D own cc) (hd : decode cc pc = .ok (.aload_n i, 1)) (h : jld i.val (pc + 1) jisR L st σ = some (.inl (pc', L', st', σ'))) (g : jG p l e R s m args below meth c D base H0 nL σ0 Q pc' L' st' σ') : jG p l e R s m args below meth c D base H0 nL σ0 Q pc L st σ := by
  intro H locs cells slots ls hR hL hl hc hs
  unfold jld at h
  split at h
  · next v hv =>
    split at h
    · next hk =>
      obtain ⟨rfl, rfl, rfl, rfl⟩ := jnx_inv h
      cases v <;> simp [jisR] at hk
      · exact lv_aload_nN C.1 C.2.1 hd rfl (hL.at hv) (g H locs cells slots ls hR hL hl hc hs)
      · exact lv_aload_n C.1 C.2.1 hd rfl (hL.at hv) (g H locs cells slots ls hR hL hl hc hs)
    · cases h
  · cases h
theorem jg_istore {i : Nat} (C : jCx p s m args c D own cc) (hd : decode cc pc = .ok (.istore i, 2)) (h : jsto i (pc + 2) jisI L st σ = some (.inl (pc', L', st', σ'))) (g : jG p l e R s m args below meth c D base H0 nL σ0 Q pc' L' st' σ') : jG p l e R s m args below meth c D base H0 nL σ0 Q pc L st σ := by
  intro H locs cells slots ls hR hL hl hc hs
  unfold jsto at h
  split at h
  · next v r =>
    split at h
    · next hk =>
      obtain ⟨hk, hi⟩ := hk
      obtain ⟨rfl, rfl, rfl, rfl⟩ := jnx_inv h
      cases v <;> simp [jisI] at hk
      exact lv_istore C.1 C.2.1 hd hL.2 (by rw [← hL.1]; exact hi) rfl (fun ls' hl' => g H locs cells slots ls' hR (hL.st1 hl') hl hc hs)
    · cases h
  · cases h
theorem jg_istore_n {i : Fin 4} (C : jCx p s m args c D own cc) (hd : decode cc pc = .ok (.istore_n i, 1)) (h : jsto i.val (pc + 1) jisI L st σ = some (.inl (pc', L', st', σ'))) (g : jG p l e R s m args below meth c D base H0 nL σ0 Q pc' L' st' σ') : jG p l e R s m args below meth c D base H0 nL σ0 Q pc L st σ := by
  intro H locs cells slots ls hR hL hl hc hs
  unfold jsto at h
  split at h
  · next v r =>
    split at h
    · next hk =>
      obtain ⟨hk, hi⟩ := hk
      obtain ⟨rfl, rfl, rfl, rfl⟩ := jnx_inv h
      cases v <;> simp [jisI] at hk
      exact lv_istore_n C.1 C.2.1 hd rfl hL.2 (by rw [← hL.1]; exact hi) rfl (fun ls' hl' => g H locs cells slots ls' hR (hL.st1 hl') hl hc hs)
    · cases h
  · cases h
theorem jg_astore {i : Nat} (C : jCx p s m args c D own cc) (hd : decode cc pc = .ok (.astore i, 2)) (h : jsto i (pc + 2) jisR L st σ = some (.inl (pc', L', st', σ'))) (g : jG p l e R s m args below meth c D base H0 nL σ0 Q pc' L' st' σ') : jG p l e R s m args below meth c D base H0 nL σ0 Q pc L st σ := by
  intro H locs cells slots ls hR hL hl hc hs
  unfold jsto at h
  split at h
  · next v r =>
    split at h
    · next hk =>
      obtain ⟨hk, hi⟩ := hk
      obtain ⟨rfl, rfl, rfl, rfl⟩ := jnx_inv h
      cases v <;> simp [jisR] at hk
      · exact lv_astoreN C.1 C.2.1 hd hL.2 (by rw [← hL.1]; exact hi) rfl (fun ls' hl' => g H locs cells slots ls' hR (hL.st1 hl') hl hc hs)
      · exact lv_astore C.1 C.2.1 hd hL.2 (by rw [← hL.1]; exact hi) rfl (fun ls' hl' => g H locs cells slots ls' hR (hL.st1 hl') hl hc hs)
    · cases h
  · cases h
theorem jg_astore_n {i : Fin 4} (C : jCx p s m args c D own cc) (hd : decode cc pc = .ok (.astore_n i, 1)) (h : jsto i.val (pc + 1) jisR L st σ = some (.inl (pc', L', st', σ'))) (g : jG p l e R s m args below meth c D base H0 nL σ0 Q pc' L' st' σ') : jG p l e R s m args below meth c D base H0 nL σ0 Q pc L st σ := by
  intro H locs cells slots ls hR hL hl hc hs
  unfold jsto at h
  split at h
  · next v r =>
    split at h
    · next hk =>
      obtain ⟨hk, hi⟩ := hk
      obtain ⟨rfl, rfl, rfl, rfl⟩ := jnx_inv h
      cases v <;> simp [jisR] at hk
      · exact lv_astore_nN C.1 C.2.1 hd rfl hL.2 (by rw [← hL.1]; exact hi) rfl (fun ls' hl' => g H locs cells slots ls' hR (hL.st1 hl') hl hc hs)
      · exact lv_astore_n C.1 C.2.1 hd rfl hL.2 (by rw [← hL.1]; exact hi) rfl (fun ls' hl' => g H locs cells slots ls' hR (hL.st1 hl') hl hc hs)
    · cases h
  · cases h
theorem jg_lstore {i : Nat} (C : jCx p s m args c D own cc) (hd : decode cc pc = .ok (.lstore i, 2)) (h : jstoL i (pc + 2) L st σ = some (.inl (pc', L', st', σ'))) (g : jG p l e R s m args below meth c D base H0 nL σ0 Q pc' L' st' σ') : jG p l e R s m args below meth c D base H0 nL σ0 Q pc L st σ := by
  intro H locs cells slots ls hR hL hl hc hs
  unfold jstoL at h
  split at h
  · next v r =>
    split at h
    · next hi =>
      obtain ⟨rfl, rfl, rfl, rfl⟩ := jnx_inv h
      exact lv_lstore C.1 C.2.1 hd hL.2 (by rw [← hL.1]; exact hi) rfl (fun ls' hl' => g H locs cells slots ls' hR (hL.st2 hl') hl hc hs)
    · cases h
  · cases h
theorem jg_lstore_n {i : Fin 4} (C : jCx p s m args c D own cc) (hd : decode cc pc = .ok (.lstore_n i, 1)) (h : jstoL i.val (pc + 1) L st σ = some (.inl (pc', L', st', σ'))) (g : jG p l e R s m args below meth c D base H0 nL σ0 Q pc' L' st' σ') : jG p l e R s m args below meth c D base H0 nL σ0 Q pc L st σ := by
  intro H locs cells slots ls hR hL hl hc hs
  unfold jstoL at h
  split at h
  · next v r =>
    split at h
    · next hi =>
      obtain ⟨rfl, rfl, rfl, rfl⟩ := jnx_inv h
      exact lv_lstore_n C.1 C.2.1 hd rfl hL.2 (by rw [← hL.1]; exact hi) rfl (fun ls' hl' => g H locs cells slots ls' hR (hL.st2 hl') hl hc hs)
    · cases h
  · cases h
theorem jg_iinc {i : Nat} {n : Int} (C : jCx p s m args c D own cc) (hd : decode cc pc = .ok (.iinc i n, 3)) (h : jinc i n (pc + 3) L st σ = some (.inl (pc', L', st', σ'))) (g : jG p l e R s m args below meth c D base H0 nL σ0 Q pc' L' st' σ') : jG p l e R s m args below meth c D base H0 nL σ0 Q pc L st σ := by
  intro H locs cells slots ls hR hL hl hc hs
  unfold jinc at h
  split at h
  · next x hv =>
    obtain ⟨rfl, rfl, rfl, rfl⟩ := jnx_inv h
    obtain ⟨k, hk⟩ := List.getElem?_of_mem (jpr_mem.mpr hv)
    exact lv_iinc C.1 C.2.1 hd hL.2 hk rfl (by rw [← hL.1]; exact (List.getElem?_eq_some_iff.mp hv).1) rfl (fun ls' hl' => g H locs cells slots ls' hR (hL.st1 hl') hl hc hs)
  · cases h
end JSTEPS
