section JCOPY
variable {p : Program} {l : Launch} {e : Env} {R : Room} {s : State} {m : MethodId} {args : Array Value} {below : List Frame} {meth : Method} {c : Code} {D : va_G} {base : Nat} {H0 : Heap} {nL : Nat} {σ0 : jS} {Q : State → Prop} {own : String} {cc : ByteArray} {pc pc' len : Nat} {L L' : jL} {st st' : List Value} {σ σ' : jS}
theorem jnn {z : Int32} (hz : 0 ≤ z) : z.toInt = (z.toNatClampNeg : Int) := by
  have hz0 : (0 : Int) ≤ z.toInt := by simpa using Int32.le_iff_toInt_le.mp hz
  show z.toInt = ((z.toInt.toNat : Nat) : Int)
  omega
set_option maxHeartbeats 1000000 in
theorem jg_copy {i : Nat} (C : jCx p s m args c D own cc) (hml : c.maxLocals = nL) (hd : decode cc pc = .ok (.invokestatic i, 3)) (hw : Cond.methodLink own i arraycopyName ∈ jW) (hnat : Cond.native arraycopyName ∈ jW) (hst : Cond.static arraycopyName ∈ jW) (hini : Cond.initialized "java/lang/System" ∈ jW) (h1 : 1 ≤ R.frames) (h2 : 40 ≤ R.locals)
    (h : jacp pc L st σ = some (.inl (pc', L', st', σ'))) (g : jG p l e R s m args below meth c D base H0 nL σ0 Q pc' L' st' σ') : jG p l e R s m args below meth c D base H0 nL σ0 Q pc L st σ := by
  intro H locs cells slots ls hR hL hl hc hs
  unfold jacp at h
  split at h
  · next n dp b sp a r =>
    split at h
    · next q d hq hb =>
      split at h
      · next ht =>
        obtain ⟨hr, t1, t2, n0, sp0, dp0, hs1, hd1⟩ := ht
        obtain ⟨rfl, rfl, rfl, rfl⟩ := jnx_inv h
        unfold jcat at hr
        obtain ⟨-, -, hat⟩ := hR.2.2.2 a q hq
        obtain ⟨-, cell, kA, comp, q1, q2, q3, q4, q5, q6, q7, q8⟩ := hat.2 (by omega) (by omega)
        obtain ⟨-, hbb, hatb⟩ := hR.2.2.2 b d hb
        obtain ⟨hlt, cellB, kB, compB, b1, b2, b3, b4, b5, b6, b7, b8⟩ := hatb.2 (by omega) (by omega)
        have hty : jAt q.1 = .int := by rw [t1]; rfl
        have htyB : jAt d.1 = .int := by rw [t2]; rfl
        rw [hty] at q5
        intro T hT X
        have hgd : ∀ i : Nat, i < n.toNatClampNeg → cell.slots.getD (sp.toNatClampNeg + i) .null = q.2.2 (sp.toNatClampNeg + i) := by
          intro i hi
          rw [Array.getD_eq_getD_getElem?, (q8 _ (by omega)).1]
          rfl
        obtain ⟨vm', X', step⟩ := X.arraycopy C.1 C.2.2.1 (C.2.2.2.1 _ hw) (C.2.2.2.1 _ hnat) (C.2.2.2.1 _ hst) (C.2.2.2.1 _ hini) (src := a) (dst := b) (cs := cell) (cd := cellB) (srcPos := sp) (destPos := dp) (n := n) (by rw [hT]; exact q1) (by rw [hT]; exact b1)
          q2 b2 q3 b3 q4 b4 q5 (htyB ▸ b5) (by decide) (Int32.not_lt.mpr sp0) (Int32.not_lt.mpr dp0) (Int32.not_lt.mpr n0)
          (by rw [jnn sp0, jnn n0, q7]; omega) (by rw [jnn dp0, jnn n0, b7]; omega)
          (fun vm₁ _ i hi => by
            have hf := (q8 (sp.toNatClampNeg + i) (by omega)).2
            rw [hty] at hf
            rw [hgd i hi]
            refine ⟨hf, ?_⟩
            cases hv : q.2.2 (sp.toNatClampNeg + i) <;> rw [hv] at hf <;> first | exact trivial | (simp [fits] at hf))
          (g := F0 m pc ls (.int n :: .int dp :: .ref b :: .int sp :: .ref a :: st')) rfl (by rw [hml]; exact hL.2.1) (rest := st') rfl (by rw [C.2.1]; exact hd) h1 (by
            have h9 := lv_room (m := m) (pc := pc) (ls := ls) (rest := .int n :: .int dp :: .ref b :: .int sp :: .ref a :: st') hr
            have h8 : nativeFrameWords "java/lang/System" "arraycopy" 5 = 7 := by decide
            omega)
        have hbl : b < H.size := (Array.getElem?_eq_some_iff.mp b1).1
        have hbT : b < (T.setVm vm').heap.size := by show b < T.heap.size; rw [hT]; exact hbl
        have hlen : (cell.stretch sp.toNatClampNeg n.toNatClampNeg).length = n.toNatClampNeg := by simp [Cell.stretch]
        have hcop : copied cell cellB sp dp n = cellB.storeRun dp.toNatClampNeg (cell.stretch sp.toNatClampNeg n.toNatClampNeg) := rfl
        have hfacts := Cell.storeRun_facts cellB dp.toNatClampNeg (cell.stretch sp.toNatClampNeg n.toNatClampNeg)
        have hget := fun j => Cell.storeRun_get cellB dp.toNatClampNeg (cell.stretch sp.toNatClampNeg n.toNatClampNeg) j (by rw [hlen, b7]; omega)
        rw [hcop] at X' step
        generalize cellB.storeRun dp.toNatClampNeg (cell.stretch sp.toNatClampNeg n.toNatClampNeg) = cn at X' step hfacts hget
        have hnew : jat D s b (d.1, d.2.1, va_cpy q.2.2 d.2.2 sp.toNatClampNeg dp.toNatClampNeg n.toNatClampNeg) ((T.setVm vm').setCell b cn).heap := by
          refine ⟨fun hz => by simp only at hz; omega, fun _ _ => ⟨hlt, cn, kB, compB, heapAt_setCell_self _ hbT, ?_, ?_, ?_, b5, b6, ?_, fun j hj => ?_⟩⟩
          · rw [hfacts.2.1]; exact b2
          · rw [hfacts.2.1]; exact b3
          · rw [hfacts.1]; exact b4
          · rw [hfacts.2.2.1]; exact b7
          · simp only at hj
            simp only [va_cpy]
            rw [hget j, hlen]
            by_cases hin : dp.toNatClampNeg ≤ j ∧ j < dp.toNatClampNeg + n.toNatClampNeg
            · rw [if_pos hin, if_pos hin]
              refine ⟨?_, by rw [htyB, ← hty]; exact (q8 _ (by omega)).2⟩
              simp only [Cell.stretch, List.getElem?_map]
              rw [List.getElem?_range (by omega)]
              simp only [Option.map_some]
              rw [hgd _ (by omega)]
            · rw [if_neg hin, if_neg hin]
              exact b8 j hj
        obtain ⟨t, a1, a2⟩ := g ((T.setVm vm').setCell b cn).heap _ cells slots ls (hR.set hb (by omega) (by rw [size_setCell]; show T.heap.size = _; rw [hT]) (fun z hz => by rw [heapAt_setCell_ne _ (Ne.symm hz)]; show T.heap[z]? = _; rw [hT]) hnew) hL (fun z hz => by
          rcases List.mem_append.mp hz with h3 | h3
          · exact hl z h3
          · obtain ⟨w, -, hw⟩ := List.mem_map.mp h3
            rw [← hw]
            exact hbb (by omega)) hc hs _ rfl X'
        exact ⟨t, step t a1, a2⟩
      · cases h
    · cases h
  · cases h
end JCOPY
