/-! a method's body: what the J machine does from its entry to its end, the JVM does -/
section JBODY
variable {A : Nat → Nat} {p : Program} {l : Launch} {e : Env} {R : Room} {s : State} {m : MethodId} {args : Array Value} {below : List Frame} {meth : Method} {c : Code} {D : va_G} {base : Nat} {H0 : Heap} {nL : Nat} {σ0 : jS} {own : Nat} {cc : ByteArray} {pc : Nat} {L : jL} {st : List Value} {σ σF : jS} {oF : jO} {d : Nat} {rt : Option FieldType}
theorem jva_S {H : Heap} {locs : List Loc} (hS0 : jR D s base H0 σ0 s.heap) (hR : jR D s base H0 σ H) (hl : ∀ q ∈ locs, base ≤ q.base) (h : σ0.2.1 ≤ σ.2.1) : va_S (fun q => base ≤ q) s.heap H locs :=
  ⟨by rw [hS0.1, hR.1]; exact h, fun q _ hq => by
    have hq' : q < base := Nat.not_le.mp hq
    rw [hR.2.2.1 q hq', hS0.2.2.1 q hq'], hl⟩
theorem jthrB_spec {E : Nat} (h : jthrB own cc pc E = true) : own = 10 ∧ ∃ ik is ic, (ik, is, ic, E) ∈ jEXt ∧ decode cc pc = .ok (.new ik, 3) ∧ decode cc (pc + 3) = .ok (.dup, 1) ∧
    ((decode cc (pc + 4) = .ok (.ldc is, 2) ∧ decode cc (pc + 6) = .ok (.invokespecial ic, 3) ∧ decode cc (pc + 9) = .ok (.athrow, 1)) ∨ (decode cc (pc + 4) = .ok (.ldc_w is, 3) ∧ decode cc (pc + 7) = .ok (.invokespecial ic, 3) ∧ decode cc (pc + 10) = .ok (.athrow, 1))) := by
  unfold jthrB at h
  simp only [Bool.and_eq_true, beq_iff_eq] at h
  refine ⟨h.1, ?_⟩
  have h2 := h.2
  split at h2
  · next ik is d1 d2 d3 =>
    split at h2
    · next ic d4 d5 =>
      obtain ⟨q, q1, q2⟩ := List.any_eq_true.mp h2
      simp only [Bool.and_eq_true, beq_iff_eq] at q2
      obtain ⟨a1, a2, a3, a4⟩ := q
      obtain ⟨⟨⟨rfl, rfl⟩, rfl⟩, rfl⟩ := q2
      exact ⟨_, _, _, q1, d1, d2, Or.inl ⟨d3, d4, d5⟩⟩
    · cases h2
  · next ik is d1 d2 d3 =>
    split at h2
    · next ic d4 d5 =>
      obtain ⟨q, q1, q2⟩ := List.any_eq_true.mp h2
      simp only [Bool.and_eq_true, beq_iff_eq] at q2
      obtain ⟨a1, a2, a3, a4⟩ := q
      obtain ⟨⟨⟨rfl, rfl⟩, rfl⟩, rfl⟩ := q2
      exact ⟨_, _, _, q1, d1, d2, Or.inr ⟨d3, d4, d5⟩⟩
    · cases h2
  · cases h2
theorem jEs_big {E : Nat} (h : E ∈ jEs) (h11 : E ≠ 11) : 26 ≤ E := by
  simp only [jEs, List.mem_cons, List.not_mem_nil, or_false] at h
  omega
set_option maxHeartbeats 1000000 in
theorem jg_throw {E mc ms : Nat} {Qc : Array Value → State → Outcome → State → Prop} (C : jCx p s m args c D (jRN own) cc) (hml : c.maxLocals = nL) (E0 : jenv A D s base H0) (hS0 : jR D s base H0 σ0 s.heap) (hl : l.stackTraces = false) (hlk : meth.locks = false) (hnt : ∀ x ∈ c.exceptionTable.toList, False) (hb : jthrB own cc pc E = true) (hf : 6 ≤ R.frames) (hlo : 100 ≤ R.locals) (h1 : σ.2.1 + 1 = σ0.2.1 + mc) (h2 : σ.2.2 + 6 = σ0.2.2 + ms) (h3 : mc ≤ R.cells) (h4 : ms ≤ R.slots) :
    jG p l e R s m args below meth c D base H0 nL σ0 (vx_MQ below Qc (jXc D base H0 (.inr E) (jnew σ (E, 0, fun _ => .null) 6)) args s mc ms (fun q => base ≤ q)) pc L [] σ := by
  intro H locs cells slots ls hR hL hlc hc hs
  obtain ⟨rfl, ik, is, ic, hm, d0, d3, hd⟩ := jthrB_spec hb
  obtain ⟨w1, w2, ⟨tx, w3⟩, w4, w5, w6⟩ := jthw hm
  obtain ⟨e1, e2, e3, e4, e5, e6, e7, e8, e9⟩ := E0
  obtain ⟨sa, hstr⟩ := e8 _ w3
  have hkeep : ∀ a : Nat, a < H0.size → ¬ (fun q => base ≤ q) a → s.heap[a]? = H0[a]? := fun a ha _ => hS0.2.2.1 a (by omega)
  have hU := vx_Zq.kept e5 hkeep
  have hN := vx_Zq.kept e6 hkeep
  have hS := jva_S hS0 hR hlc (by omega)
  have hat : ∀ w ∈ vx_atX RX10 ic (jEN E) (jix E) (jrx E) jnames, w.before args s = true := by
    intro w hw
    rcases (w4 w hw).1 with h9 | h9
    · exact C.2.2.2.1 w h9
    · exact jV_any h9 (e4 w h9)
  have hgood : ∀ w ∈ Cond.classLink RX10 ik (jEN E) :: Cond.initialized (jEN E) :: vx_atX RX10 ic (jEN E) (jix E) (jrx E) jnames, vx_ot w = true := by
    intro w hw
    rcases List.mem_cons.mp hw with rfl | hw
    · rfl
    rcases List.mem_cons.mp hw with rfl | hw
    · rfl
    exact (w4 w hw).2
  have hx : ∀ t : State, s.vm.Alike t.vm → t.heap.size = H.size + 1 → (∀ q : Nat, q < H.size → t.heap[q]? = H[q]?) → jXc D base H0 (.inr E) (jnew σ (E, 0, fun _ => .null) 6) (jEN E) s t := by
    intro t hA hz ho
    have hE : E ≠ 11 := by
      intro h
      subst h
      revert hm
      exact fun hm => absurd hm (by
        intro h9
        have h8 := List.all_eq_true.mp (show jEXt.all (fun q => decide (q.2.2.2 ≠ 11)) = true by decide +kernel) _ h9
        simp at h8)
    have hb := jEs_big w6 hE
    refine ⟨E, rfl, w6, rfl, (hR.new hz ho ⟨fun q => ?_, fun _ q => ?_⟩).moved hA⟩
    · simp only at q; omega
    · simp only at q; omega
  have hnm : ∀ n ∈ jnames, Bundle.fit n = true := by decide +kernel
  obtain ⟨x0, x1, x2, x5⟩ := jrx_ok E
  rcases hd with ⟨d4, d6, d9⟩ | ⟨d4, d6, d9⟩
  · exact vx_throwS C.1 C.2.1 hl x0 x1 x2 x5 C.2.2.1 w5 hnm (C.2.2.2.1 _ w1) (C.2.2.2.1 _ w2) hstr hat hgood hU hN hS (hL.2.1.trans hml.symm) d0 d3 d4 d6 d9 (fun x h9 => (hnt x h9).elim) (by show 2 + 3 < R.frames; omega) (by show 0 + (13 * (2 + 1) + 43) ≤ R.locals; omega) (by omega) (by omega) hlk hx hlc (by omega) (by omega)
  · exact vx_throwSW C.1 C.2.1 hl x0 x1 x2 x5 C.2.2.1 w5 hnm (C.2.2.2.1 _ w1) (C.2.2.2.1 _ w2) hstr hat hgood hU hN hS (hL.2.1.trans hml.symm) d0 d3 d4 d6 d9 (fun x h9 => (hnt x h9).elim) (by show 2 + 3 < R.frames; omega) (by show 0 + (13 * (2 + 1) + 43) ≤ R.locals; omega) (by omega) (by omega) hlk hx hlc (by omega) (by omega)
/-- a Fault is thrown -/
theorem jg_athrow {mc ms a : Nat} {r : List Value} {q : jC} {Qc : Array Value → State → Outcome → State → Prop} (C : jCx p s m args c D (jRN own) cc) (hlk : meth.locks = false) (hnt : ∀ x ∈ c.exceptionTable.toList, False) (hd : decode cc pc = .ok (.athrow, 1)) (hq : σ.1 a = some q) (hq1 : q.1 = 11) (h1 : σ.2.1 = σ0.2.1 + mc) (h2 : σ.2.2 = σ0.2.2 + ms) :
    jG p l e R s m args below meth c D base H0 nL σ0 (vx_MQ below Qc (jXc D base H0 (.inr 11) σ) args s mc ms (fun q => base ≤ q)) pc L (.ref a :: r) σ := by
  intro H locs cells slots ls hR hL hlc hc hs
  obtain ⟨cell, g1, g2, g3, -⟩ := (hR.2.2.2 a q hq).2.2.1 (by omega)
  have hcl : s.vm.findClass RX11 = some cell.cls := by
    rw [g2, hq1]
    exact (C.2.2.2.2.1 11 _ (jvw (by decide))).2.1
  intro T hT X
  obtain ⟨st1, hrun, hend, hW, hsm⟩ := X.athrowLeaves C.1 (g := F0 m pc ls (.ref a :: r)) rfl rfl rfl (fun x h9 => (hnt x h9).elim) (a := a) (rest := r) rfl (by rw [C.2.1]; exact hd) hlk
  refine ⟨_, st1, .threw a, hrun, hend, Or.inr ⟨a, rfl, RX11, cell, locs, ⟨11, rfl, by decide, rfl, ?_⟩, ?_, g3, hcl, hW, hsm.mono (by omega) (by omega), hlc⟩⟩
  · show jR D _ base H0 σ T.heap
    rw [hT]
    exact hR.moved hW.alike
  · show T.heap[a]? = some cell
    rw [hT]
    exact g1
end JBODY
