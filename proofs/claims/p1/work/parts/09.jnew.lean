/-! steps that make cells, and calls of the library -/
section JNEW
variable {p : Program} {l : Launch} {e : Env} {R : Room} {s : State} {m : MethodId} {args : Array Value} {below : List Frame} {meth : Method} {c : Code} {D : va_G} {base : Nat} {H0 : Heap} {nL : Nat} {σ0 : jS} {Q : State → Prop} {own : String} {cc : ByteArray} {pc pc' len : Nat} {L L' : jL} {st st' : List Value} {σ σ' : jS}
theorem jg_newc {i k : Nat} (C : jCx p s m args c D own cc) (hd : decode cc pc = .ok (.new i, 3)) (hk : k < 13) (hw : Cond.classLink own i (jRN k) ∈ jW) (hi : Cond.instantiable (jRN k) (jNf k) ∈ jW) (hini : Cond.initialized (jRN k) ∈ jW) (h1 : σ'.2.1 ≤ σ0.2.1 + R.cells) (h2 : σ'.2.2 ≤ σ0.2.2 + R.slots)
    (h : jnewc k pc L st σ = some (.inl (pc', L', st', σ'))) (g : jG p l e R s m args below meth c D base H0 nL σ0 Q pc' L' st' σ') : jG p l e R s m args below meth c D base H0 nL σ0 Q pc L st σ := by
  intro H locs cells slots ls hR hL hl hc hs
  unfold jnewc at h
  obtain ⟨rfl, rfl, rfl, rfl⟩ := jnx_inv h
  simp only [jnew] at h1 h2
  have hKn := C.2.2.2.2.1 k _ (jvw hk)
  refine W.newcK C.1 C.2.1 C.2.2.1 (C.2.2.2.1 _ hw) (C.2.2.2.1 _ hi) (C.2.2.2.1 _ hini) rfl hd (by omega) (by omega) hKn.2.1 hR.1 fun H1 kC hkC e1 z1 o1 => ?_
  refine g H1 locs (cells + 1) (slots + jNf k) ls (hR.new (by rw [z1, hR.1]) (fun q hq => o1 q (by rw [← hR.1]; exact hq)) ⟨fun _ => (by obtain ⟨cl9, b1, b2, b3, b4⟩ := u_born (jTy k) C.2.2.2.1 (jlays hk) hKn hkC e1 (jtys hk); exact ⟨cl9, b1, b2, b3, fun z hz => b4 z (Nat.lt_of_lt_of_le hz (jNt_le _))⟩), fun q => by simp only at q; omega⟩) hL hl ?_ ?_
  · simp only [jnew]; omega
  · simp only [jnew]; omega
theorem jg_newa {k : ArrayType} {t : Nat} (C : jCx p s m args c D own cc) (hd : decode cc pc = .ok (.newarray k, 2)) (hk : jAk k = some t) (hw : Cond.arrayClass (newarray.typeOf k) ∈ jW) (h1 : σ'.2.1 ≤ σ0.2.1 + R.cells) (h2 : σ'.2.2 ≤ σ0.2.2 + R.slots)
    (h : jnewa t 2 pc L st σ = some (.inl (pc', L', st', σ'))) (g : jG p l e R s m args below meth c D base H0 nL σ0 Q pc' L' st' σ') : jG p l e R s m args below meth c D base H0 nL σ0 Q pc L st σ := by
  intro H locs cells slots ls hR hL hl hc hs
  unfold jnewa at h
  split at h
  · next n r =>
    split at h
    · next hn =>
      obtain ⟨hn0, hn1⟩ := hn
      obtain ⟨rfl, rfl, rfl, rfl⟩ := jnx_inv h
      simp only [jnew] at h1 h2
      have hty : newarray.typeOf k = jAt t ∧ 20 ≤ t ∧ t < 24 ∧ componentBytes (newarray.typeOf k) ≤ 8 ∧ fits (jAt t) (defaultValue (jAt t)) = true := by
        cases k <;> simp [jAk] at hk <;> subst hk <;> exact ⟨rfl, by decide, by decide, by decide, by decide⟩
      obtain ⟨ht, t1, t2, t3, t4⟩ := hty
      refine W.newaK C.1 C.2.1 (C.2.2.2.1 _ hw) rfl hd rfl (Int32.not_lt.mpr hn0) rfl (Nat.le_trans (Nat.mul_le_mul hn1 t3) (by decide)) (by omega) (by omega) hR.1 fun H1 cA e1 z1 o1 hA => ?_
      refine g H1 locs (cells + 1) (slots + n.toNatClampNeg) ls (hR.new (by rw [z1, hR.1]) (fun q hq => o1 q (by rw [← hR.1]; exact hq)) ⟨fun q => by simp only at q; omega, fun _ _ => ?_⟩) hL hl ?_ ?_
      · obtain ⟨-, kA, a1, comp, a2⟩ := hA n.toNatClampNeg (fun _ => defaultValue (newarray.typeOf k))
        refine ⟨(by simp only; omega), _, kA, comp, e1, fun _ h => (by cases h), fun h => (by cases h), a1, (by rw [← ht]; exact a2), (fun h => by simp only at h; omega), arrV_size _ _ _, fun i hi => ⟨?_, t4⟩⟩
        rw [arrV_read _ _ hi, ht]
      · simp only [jnew]; omega
      · simp only [jnew]; omega
    · cases h
  · cases h
theorem jg_anew {i : Nat} (C : jCx p s m args c D own cc) (hd : decode cc pc = .ok (.anewarray i, 3)) (hw : Cond.classLink own i RX2 ∈ jW) (ho : (Cond.arrayOver (.object RX2)).before args s = true) (h1 : σ'.2.1 ≤ σ0.2.1 + R.cells) (h2 : σ'.2.2 ≤ σ0.2.2 + R.slots)
    (h : jnewa 24 3 pc L st σ = some (.inl (pc', L', st', σ'))) (g : jG p l e R s m args below meth c D base H0 nL σ0 Q pc' L' st' σ') : jG p l e R s m args below meth c D base H0 nL σ0 Q pc L st σ := by
  intro H locs cells slots ls hR hL hl hc hs
  unfold jnewa at h
  split at h
  · next n r =>
    split at h
    · next hn =>
      obtain ⟨hn0, hn1⟩ := hn
      obtain ⟨rfl, rfl, rfl, rfl⟩ := jnx_inv h
      simp only [jnew] at h1 h2
      refine W.anew C.1 C.2.1 C.2.2.1 (C.2.2.2.1 _ hw) ho rfl hd rfl (Int32.not_lt.mpr hn0) (by omega) (by omega) (by omega) fun cA kA comp a1 a2 a3 a4 => ?_
      have hz := hR.1
      rw [show (Value.ref H.size) = Value.ref σ.2.1 by rw [hz]]
      refine g _ locs (cells + 1) (slots + n.toNatClampNeg) ls (hR.new (by simp) (fun q hq => by rw [Array.getElem?_push, if_neg (Nat.ne_of_lt hq)]) ⟨fun q => by simp only at q; omega, fun _ _ => ?_⟩) hL hl ?_ ?_
      · refine ⟨(by simp only; omega), _, kA, comp, (by rw [← hz]; exact Array.getElem?_push_size), fun _ h => (by cases h), fun h => (by cases h), a2, a3, fun _ => a4, (by simp), fun i hi => ⟨?_, rfl⟩⟩
        simp only [Array.getElem?_replicate, hi, if_true]
        rfl
      · simp only [jnew]; omega
      · simp only [jnew]; omega
    · cases h
  · cases h
theorem jg_obj {i : Nat} (C : jCx p s m args c D own cc) (hml : c.maxLocals = nL) (hd : decode cc pc = .ok (.invokespecial i, 3)) (hw : Cond.methodLink own i Lib.objectInit ∈ jW) (hi : Cond.instanceMethod Lib.objectInit ∈ jW) (ho : Cond.code Lib.objectInit ⟨#[0xb1]⟩ 1 none ∈ jW) (h1 : 1 ≤ R.frames) (h2 : 20 ≤ R.locals)
    (h : jobj pc L st σ = some (.inl (pc', L', st', σ'))) (g : jG p l e R s m args below meth c D base H0 nL σ0 Q pc' L' st' σ') : jG p l e R s m args below meth c D base H0 nL σ0 Q pc L st σ := by
  intro H locs cells slots ls hR hL hl hc hs
  unfold jobj at h
  split at h
  · next a r =>
    split at h
    · next hr =>
      obtain ⟨rfl, rfl, rfl, rfl⟩ := jnx_inv h
      unfold jcat at hr
      refine W.objInit C.1 C.2.1 C.2.2.1 (C.2.2.2.1 _ hw) (C.2.2.2.1 _ hi) (C.2.2.2.1 _ ho) rfl (by rw [hml]; exact hL.2.1) rfl hd h1 (by have := lv_room (m := m) (pc := pc) (ls := ls) (rest := .ref a :: st') hr; omega) ?_
      exact g H locs cells slots ls hR hL hl hc hs
    · cases h
  · cases h
theorem jg_min {i : Nat} (C : jCx p s m args c D own cc) (hml : c.maxLocals = nL) (hd : decode cc pc = .ok (.invokestatic i, 3)) (hw : Cond.methodLink own i Lib.Math.min.name ∈ jW) (hst : Cond.static Lib.Math.min.name ∈ jW) (hini : Cond.initialized "java/lang/Math" ∈ jW) (ho : Cond.code Lib.Math.min.name Lib.Math.min.code 2 (some .int) ∈ jW) (h1 : 1 ≤ R.frames) (h2 : 21 ≤ R.locals) (h3 : σ'.2.1 ≤ σ0.2.1 + R.cells) (h4 : σ'.2.2 ≤ σ0.2.2 + R.slots)
    (h : jmm (fun x y => if y < x then y else x) pc L st σ = some (.inl (pc', L', st', σ'))) (g : jG p l e R s m args below meth c D base H0 nL σ0 Q pc' L' st' σ') : jG p l e R s m args below meth c D base H0 nL σ0 Q pc L st σ := by
  intro H locs cells slots ls hR hL hl hc hs
  unfold jmm at h
  split at h
  · next y x r =>
    split at h
    · next hr =>
      obtain ⟨rfl, rfl, rfl, rfl⟩ := jnx_inv h
      unfold jcat at hr
      exact va_mmin C.1 C.2.1 (by rw [hml]; exact hL.2.1.symm) C.2.2.1 (C.2.2.2.1 _ hw) (C.2.2.2.1 _ hst) (C.2.2.2.1 _ hini) (C.2.2.2.1 _ ho) h1 (by omega) (by omega) (by omega) hd (g H locs cells slots ls hR hL hl hc hs)
    · cases h
  · cases h
theorem jg_max {i : Nat} (C : jCx p s m args c D own cc) (hml : c.maxLocals = nL) (hd : decode cc pc = .ok (.invokestatic i, 3)) (hw : Cond.methodLink own i Lib.Math.max.name ∈ jW) (hst : Cond.static Lib.Math.max.name ∈ jW) (hini : Cond.initialized "java/lang/Math" ∈ jW) (ho : Cond.code Lib.Math.max.name Lib.Math.max.code 2 (some .int) ∈ jW) (h1 : 1 ≤ R.frames) (h2 : 21 ≤ R.locals) (h3 : σ'.2.1 ≤ σ0.2.1 + R.cells) (h4 : σ'.2.2 ≤ σ0.2.2 + R.slots)
    (h : jmm (fun x y => if x < y then y else x) pc L st σ = some (.inl (pc', L', st', σ'))) (g : jG p l e R s m args below meth c D base H0 nL σ0 Q pc' L' st' σ') : jG p l e R s m args below meth c D base H0 nL σ0 Q pc L st σ := by
  intro H locs cells slots ls hR hL hl hc hs
  unfold jmm at h
  split at h
  · next y x r =>
    split at h
    · next hr =>
      obtain ⟨rfl, rfl, rfl, rfl⟩ := jnx_inv h
      unfold jcat at hr
      exact va_mmax C.1 C.2.1 (by rw [hml]; exact hL.2.1.symm) C.2.2.1 (C.2.2.2.1 _ hw) (C.2.2.2.1 _ hst) (C.2.2.2.1 _ hini) (C.2.2.2.1 _ ho) h1 (by omega) (by omega) (by omega) hd (g H locs cells slots ls hR hL hl hc hs)
    · cases h
  · cases h
end JNEW
