/-! calls -/
theorem jkd_ow : (List.range jnm).all (fun k => decide (jkd k = 1 → jow k < 13 ∨ jow k = 27)) = true := by decide +kernel
theorem jkd_lt {k : Nat} (h : jkd k ≠ 9) : k < jnm := by
  unfold jkd at h
  have hlen : jkl.length = jnm := by decide +kernel
  by_cases hk : k < jkl.length
  · omega
  · exact absurd (by rw [List.getD_eq_getElem?_getD, List.getElem?_eq_none (by omega)]; rfl) h
section JCALL
variable {A : Nat → Nat} {p : Program} {l : Launch} {e : Env} {R : Room} {s : State} {m : MethodId} {args : Array Value} {below : List Frame} {meth : Method} {c : Code} {D : va_G} {base : Nat} {H0 : Heap} {nL : Nat} {σ0 : jS} {Q : State → Prop} {own : Nat} {cc : ByteArray} {pc : Nat} {L : jL} {σ τ : jS} {d k i : Nat} {o : jO} {H : Heap} {locs : List Loc} {cells slots : Nat} {ls : Array Slot} {rest As : List Value} {b : Addr}
theorem jcallB {mc ms : Nat} (C : jCx p s m args c D (jRN own) cc) (hk : k < jnm) (h1 : jisC k = 1) (hf : d + 9 ≤ R.frames) (hlo : 41 * (d + 1) + 200 ≤ R.locals) (hl : Cond.methodLink (jRN own) i (jy k) ∈ jW) :
    CallB R s args (jRN own) i (jy k) (jby k) (jmL k) (jrt k) (jws k) (jrm d mc ms) mc ms (if jkd k = 0 then jna k else jna k - 1) := by
  obtain ⟨a1, a2, a3, a4, a5, a6, a7, a8, a9, a10, a11⟩ := jmeth hk
  have hc : Cond.code (jy k) (jby k) (jmL k) (jrt k) ∈ jws k := by rw [jws1 h1]; exact List.mem_cons_self
  refine ⟨rfl, rfl, (by simp only [jrm]; omega), (by simp only [jrm]; omega), fun w hw a' U hW => jW_move hW (jws_sub a1 w hw) (C.2.2.2.1 w (jws_sub a1 w hw)), hc, C.2.2.2.1 _ (jws_sub a1 _ hc), C.2.2.2.1 _ a5, (by rw [a6]; exact jRN_ne _), fun sig h => ?_, C.2.2.2.1 _ hl⟩
  rw [h] at a7
  exact (Option.some.inj a7).symm
theorem jcallV {mc ms : Nat} (C : jCx p s m args c D (jRN own) cc) (hk : k < jnm) (h1 : jisC k = 2) (hkd : jkd k = 1) (hf : d + 9 ≤ R.frames) (hlo : 41 * (d + 1) + 200 ≤ R.locals) (hl : Cond.methodLink (jRN own) i (jy k) ∈ jW) :
    vx_CVW R s args (jRN own) (jRN (jow k)) i (jy k) (jby k) (jmL k) (jrt k) (jhl k) (jws k) (jrm d mc ms) mc ms (jna k - 1) := by
  obtain ⟨a1, a2, a3, a4, a5, a6, a7, a8, a9, a10, a11⟩ := jmeth hk
  have hc : Cond.codeWith (jy k) (jby k) (jmL k) (jrt k) (jhl k) ∈ jws k := by rw [jws2 h1]; exact List.mem_cons_self
  refine ⟨⟨rfl, rfl, (by simp only [jrm]; omega), (by simp only [jrm]; omega), fun w hw a' U hW => jW_move hW (jws_sub a1 w hw) (C.2.2.2.1 w (jws_sub a1 w hw)), hc⟩, C.2.2.2.1 _ (jws_sub a1 _ hc), C.2.2.2.1 _ a5, (by rw [a6]; exact jRN_ne _), fun sig h => ?_, C.2.2.2.1 _ hl, C.2.2.2.1 _ (a3 (by omega)), C.2.2.2.1 _ (a4 hkd)⟩
  rw [h, if_neg (by omega)] at a7
  exact (Option.some.inj a7).symm
theorem jcallS {mc ms : Nat} (C : jCx p s m args c D (jRN own) cc) (hk : k < jnm) (h1 : jisC k = 2) (hkd : jkd k = 0) (hf : d + 9 ≤ R.frames) (hlo : 41 * (d + 1) + 200 ≤ R.locals) (hl : Cond.methodLink (jRN own) i (jy k) ∈ jW) :
    vx_CSW R s args (jRN own) i (jy k) (jby k) (jmL k) (jrt k) (jhl k) (jws k) (jrm d mc ms) mc ms (jna k) := by
  obtain ⟨a1, a2, a3, a4, a5, a6, a7, a8, a9, a10, a11⟩ := jmeth hk
  have hc : Cond.codeWith (jy k) (jby k) (jmL k) (jrt k) (jhl k) ∈ jws k := by rw [jws2 h1]; exact List.mem_cons_self
  refine ⟨⟨rfl, rfl, (by simp only [jrm]; omega), (by simp only [jrm]; omega), fun w hw a' U hW => jW_move hW (jws_sub a1 w hw) (C.2.2.2.1 w (jws_sub a1 w hw)), hc⟩, C.2.2.2.1 _ (jws_sub a1 _ hc), C.2.2.2.1 _ a5, (by rw [a6]; exact jRN_ne _), fun sig h => ?_, C.2.2.2.1 _ hl, C.2.2.2.1 _ (a2 hkd)⟩
  rw [h, if_pos hkd] at a7
  exact (Option.some.inj a7).symm
theorem jrunV (C : jCx p s m args c D (jRN own) cc) (hml : c.maxLocals = nL) (E : jenv A D s base H0) (M : jMet A l d k (.ref b :: As) σ o τ) (hkd : jkd k = 1) (hA : As.length + 1 = jna k) (hrc : (jow k = 27 ∧ ∃ t, t < 3 ∧ b = A t) ∨ (jow k ≠ 27 ∧ ∃ q, σ.1 b = some q ∧ q.1 = jow k)) (hR : jR D s base H0 σ H) (hL : jLR ls nL L) (hcat : jcat rest ≤ 8) (hf : d + 9 ≤ R.frames) (hlo : 41 * (d + 1) + 200 ≤ R.locals) (hl : Cond.methodLink (jRN own) i (jy k) ∈ jW) (hd : decode cc pc = .ok (.invokevirtual i, 3)) (h1 : cells + (τ.2.1 - σ.2.1) ≤ R.cells) (h2 : slots + (τ.2.2 - σ.2.2) ≤ R.slots) :
    vx_Run p l e R s m args below meth c H locs cells slots (τ.2.1 - σ.2.1) (τ.2.2 - σ.2.2) (F0 m pc ls (As.reverse ++ .ref b :: rest)) rest (jQc D base H0 o τ (Value.ref b :: As).toArray) (jXc D base H0 o τ) (fun q => base ≤ q) := by
  have hk : k < jnm := jkd_lt (by omega)
  obtain ⟨a1, a2, a3, a4, a5, a6, a7, a8, a9, a10, a11⟩ := jmeth hk
  have hM := M.2.2 D base H0
  have how : jow k < 13 ∨ jow k = 27 := by
    have h9 := List.all_eq_true.mp jkd_ow k (List.mem_range.mpr hk)
    simp only [decide_eq_true_eq] at h9
    exact h9 hkd
  have hp : PreV s H (jRN (jow k)) b (jPc A D base H0 (.ref b :: As) σ) As := by
    refine ⟨jPc_blind, ?_, fun U hU hW => ⟨rfl, E.warm hW, by rw [hU]; exact hR.moved hW.alike⟩⟩
    rcases hrc with ⟨h27, t, ht, rfl⟩ | ⟨h27, q, hq, hqo⟩
    · obtain ⟨cell, g1, g2, g3, g4⟩ := (E.2.2.2.2.2.2.2.2.2.2.2.1 t ht).1
      exact ⟨cell, (hR.2.2.1 _ (Nat.lt_of_not_le g4)).trans g1, g2, by rw [h27]; exact g3⟩
    · have hk13 : jow k < 13 := by
        rcases how with h | h
        · exact h
        · exact absurd h h27
      obtain ⟨cell, g1, g2, g3, -⟩ := (hR.2.2.2 b q hq).2.2.1 (by omega)
      refine ⟨cell, g1, by rw [g3]; rfl, ?_⟩
      rw [g2, hqo]
      exact (C.2.2.2.2.1 (jow k) _ (jvw hk13)).2.1
  have hW : 2 * (F0 m pc ls (As.reverse ++ .ref b :: rest)).monitorRoom + (rest.map fun v => v.category).sum ≤ 8 := lv_room hcat
  rcases a1 with hc1 | hc1
  · have cb := jcallB (mc := τ.2.1 - σ.2.1) (ms := τ.2.2 - σ.2.2) C hk hc1 hf hlo hl
    rw [if_neg (by omega)] at cb
    exact vx_runV ⟨C.1, C.2.1, hml, C.2.2.1, C.2.2.2.1⟩ hM ⟨cb, C.2.2.2.1 _ (a3 (by omega)), C.2.2.2.1 _ (a4 hkd)⟩ hp rfl (by omega) hL.2.1 rfl hW hd ⟨h1, h2⟩
  · exact vx_runVX ⟨C.1, C.2.1, hml, C.2.2.1, C.2.2.2.1⟩ hM (jcallV C hk hc1 hkd hf hlo hl) hp rfl (by omega) hL.2.1 rfl hW hd ⟨h1, h2⟩
theorem jrunS (C : jCx p s m args c D (jRN own) cc) (hml : c.maxLocals = nL) (E : jenv A D s base H0) (M : jMet A l d k As σ o τ) (hkd : jkd k = 0) (hA : As.length = jna k) (hR : jR D s base H0 σ H) (hL : jLR ls nL L) (hcat : jcat rest ≤ 8) (hf : d + 9 ≤ R.frames) (hlo : 41 * (d + 1) + 200 ≤ R.locals) (hl : Cond.methodLink (jRN own) i (jy k) ∈ jW) (hd : decode cc pc = .ok (.invokestatic i, 3)) (h1 : cells + (τ.2.1 - σ.2.1) ≤ R.cells) (h2 : slots + (τ.2.2 - σ.2.2) ≤ R.slots) :
    vx_Run p l e R s m args below meth c H locs cells slots (τ.2.1 - σ.2.1) (τ.2.2 - σ.2.2) (F0 m pc ls (As.reverse ++ rest)) rest (jQc D base H0 o τ As.toArray) (jXc D base H0 o τ) (fun q => base ≤ q) := by
  have hk : k < jnm := jkd_lt (by omega)
  obtain ⟨a1, a2, a3, a4, a5, a6, a7, a8, a9, a10, a11⟩ := jmeth hk
  have hM := M.2.2 D base H0
  have hp : PreS s H (jPc A D base H0 As σ) As := ⟨jPc_blind, fun U hU hW => ⟨rfl, E.warm hW, by rw [hU]; exact hR.moved hW.alike⟩⟩
  have hW : 2 * (F0 m pc ls (As.reverse ++ rest)).monitorRoom + (rest.map fun v => v.category).sum ≤ 8 := lv_room hcat
  rcases a1 with hc1 | hc1
  · have cb := jcallB (mc := τ.2.1 - σ.2.1) (ms := τ.2.2 - σ.2.2) C hk hc1 hf hlo hl
    rw [if_pos hkd] at cb
    exact vx_runS ⟨C.1, C.2.1, hml, C.2.2.1, C.2.2.2.1⟩ hM ⟨cb, C.2.2.2.1 _ (a2 hkd)⟩ hp rfl hA hL.2.1 rfl hW hd ⟨h1, h2⟩
  · exact vx_runSX ⟨C.1, C.2.1, hml, C.2.2.1, C.2.2.2.1⟩ hM (jcallS C hk hc1 hkd hf hlo hl) hp rfl hA hL.2.1 rfl hW hd ⟨h1, h2⟩
/-- behind a call of an object's or a static method -/
theorem jW_run {st0 : List Value} {a : Array Value} (M : jMet A l d k As σ o τ) (hr : vx_Run p l e R s m args below meth c H locs cells slots (τ.2.1 - σ.2.1) (τ.2.2 - σ.2.2) (F0 m pc ls st0) rest (jQc D base H0 o τ a) (jXc D base H0 o τ) (fun q => base ≤ q)) (hL : jLR ls nL L) (hl : ∀ q ∈ locs, base ≤ q.base) (hc : cells + σ0.2.1 = σ.2.1) (hs : slots + σ0.2.2 = σ.2.2)
    (kr : ∀ v, o = .inl v → jG p l e R s m args below meth c D base H0 nL σ0 Q (pc + 3) L (v.toList ++ rest) τ)
    (kx : ∀ E, o = .inr E → E ∈ jEs → ∀ (H1 : Heap) (locs1 : List Loc) (cells1 slots1 : Nat) (q : Addr) (ce : Cell), jR D s base H0 τ H1 → (∀ q ∈ locs1, base ≤ q.base) → cells1 + σ0.2.1 = τ.2.1 → slots1 + σ0.2.2 = τ.2.2 → H1[q]? = some ce → ce.vm = .none → s.vm.findClass (jEN E) = some ce.cls → vx_W p l e R s m args below meth c H1 locs1 cells1 slots1 Q (F0 m pc ls rest) q) :
    W p l e R s m args below meth c H locs cells slots Q (F0 m pc ls st0) := by
  obtain ⟨m1, m2, -⟩ := M
  intro T hT X
  rcases hr T hT X with ⟨v, st₀, t, T', L', h0, X', hL', e1, e2, ⟨v2, ho, hv, hR2⟩, st⟩ | ⟨q, st₀, t, T', L', E, ce, h0, X', hL', e1, e2, ⟨E2, ho, hE, rfl, hR2⟩, hce, hcv, hcl, st⟩
  · cases hv
    have hlocs : ∀ q ∈ locs ++ L', base ≤ q.base := fun q hq => (List.mem_append.mp hq).elim (hl q) (hL' q)
    obtain ⟨t2, a1, b1⟩ := kr v ho T'.heap (locs ++ L') (cells + (τ.2.1 - σ.2.1)) (slots + (τ.2.2 - σ.2.2)) ls (by rw [e1]; exact hR2.moved (by rw [← e2]; exact X'.warmed.alike.symm)) hL hlocs (by omega) (by omega) T' rfl X'
    exact ⟨t2, st t2 a1, b1⟩
  · have hlocs : ∀ q ∈ locs ++ L', base ≤ q.base := fun q hq => (List.mem_append.mp hq).elim (hl q) (hL' q)
    obtain ⟨t2, a1, b1⟩ := kx E2 ho hE T'.heap (locs ++ L') (cells + (τ.2.1 - σ.2.1)) (slots + (τ.2.2 - σ.2.2)) q ce (by rw [e1]; exact hR2.moved (by rw [← e2]; exact X'.warmed.alike.symm)) hlocs (by omega) (by omega) (by rw [e1]; exact hce) hcv hcl T' rfl X'
    exact ⟨t2, st.trans a1, b1⟩
/-- a constructor's contract: it only returns -/
theorem jMet.met {v : Option Value} (M : jMet A l d k As σ (.inl v) τ) (D : va_G) (base : Nat) (H0 : Heap) : Met l (jy k) (jws k) (jrm d (τ.2.1 - σ.2.1) (τ.2.2 - σ.2.2)) (jPc A D base H0 As σ) (jQc D base H0 (.inl v) τ) (τ.2.1 - σ.2.1) (τ.2.2 - σ.2.2) (fun q => base ≤ q) := by
  have hM := M.2.2 D base H0
  intro p e h1 h2 h3 s m args below h4 h5 h6 h7
  obtain ⟨n, o, a1, a2, a3, a4⟩ := hM p e h1 h2 h3 s m args below h4 h5 h6 h7
  rcases a4 with a4 | ⟨q, -, E, ce, L, ⟨x, hx, -⟩, -⟩
  · exact ⟨n, o, a1, a2, a3, a4⟩
  · cases hx
theorem jW_runI {v : Option Value} {st0 : List Value} {a : Array Value} (M : jMet A l d k As σ (.inl v) τ) (hr : va_Run p l e R s m args below meth c H locs cells slots (τ.2.1 - σ.2.1) (τ.2.2 - σ.2.2) (F0 m pc ls st0) rest (jQc D base H0 (.inl v) τ a) (fun q => base ≤ q)) (hL : jLR ls nL L) (hl : ∀ q ∈ locs, base ≤ q.base) (hc : cells + σ0.2.1 = σ.2.1) (hs : slots + σ0.2.2 = σ.2.2)
    (kr : jG p l e R s m args below meth c D base H0 nL σ0 Q (pc + 3) L (v.toList ++ rest) τ) : W p l e R s m args below meth c H locs cells slots Q (F0 m pc ls st0) := by
  obtain ⟨m1, m2, -⟩ := M
  intro T hT X
  obtain ⟨v3, st₀, t, T', L', h0, X', hL', e1, e2, ⟨v2, ho, hv, hR2⟩, st⟩ := hr T hT X
  cases hv
  cases ho
  have hlocs : ∀ q ∈ locs ++ L', base ≤ q.base := fun q hq => (List.mem_append.mp hq).elim (hl q) (hL' q)
  obtain ⟨t2, a1, b1⟩ := kr T'.heap (locs ++ L') (cells + (τ.2.1 - σ.2.1)) (slots + (τ.2.2 - σ.2.2)) ls (by rw [e1]; exact hR2.moved (by rw [← e2]; exact X'.warmed.alike.symm)) hL hlocs (by omega) (by omega) T' rfl X'
  exact ⟨t2, st t2 a1, b1⟩
end JCALL
