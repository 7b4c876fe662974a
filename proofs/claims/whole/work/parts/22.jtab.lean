/-! methods with a table of their own: what they catch -/
def jEok (own : Nat) (q : Nat × Nat × Nat × Nat) : Prop := q.2.2.2 ≠ 0 ∧ jct own q.2.2.2 ∈ jEs ∧ Cond.classLink (jRN own) q.2.2.2 (jEN (jct own q.2.2.2)) ∈ jW
section JTAB
variable {A : Nat → Nat} {p : Program} {l : Launch} {e : Env} {R : Room} {s : State} {m : MethodId} {args : Array Value} {below : List Frame} {meth : Method} {c : Code} {D : va_G} {base : Nat} {H0 : Heap} {nL : Nat} {σ0 : jS} {own : Nat} {cc : ByteArray} {σF : jS} {oF : jO} {code : Nat → Option (Instr × Nat)} {ini : Bool}
theorem jcov {q : Nat × Nat × Nat × Nat} {pc : Nat} : covers (⟨q.1, q.2.1, q.2.2.1, q.2.2.2⟩ : ExceptionTableEntry) pc = (decide (q.1 ≤ pc) && decide (pc < q.2.1)) := by
  simp [covers]
theorem jpass {E pc : Nat} {q : Nat × Nat × Nat × Nat} (C : jCx p s m args c D (jRN own) cc) (E0 : jenv A D s base H0) (hE : E ∈ jEs) (hq : jEok own q) (hn : ¬ (decide (q.1 ≤ pc) && decide (pc < q.2.1) && decide (jct own q.2.2.2 = E)) = true) :
    covers (⟨q.1, q.2.1, q.2.2.1, q.2.2.2⟩ : ExceptionTableEntry) pc = false ∨ ((⟨q.1, q.2.1, q.2.2.1, q.2.2.2⟩ : ExceptionTableEntry).catchType ≠ 0 ∧ ∃ nm : String, (Cond.classLink (jRN own) (⟨q.1, q.2.1, q.2.2.1, q.2.2.2⟩ : ExceptionTableEntry).catchType nm).before args s = true ∧ va_Nc (jEN E) nm s) := by
  rw [jcov]
  cases hc : (decide (q.1 ≤ pc) && decide (pc < q.2.1)) with
  | false => exact Or.inl rfl
  | true =>
    rw [hc, Bool.true_and] at hn
    have hne : jct own q.2.2.2 ≠ E := by simpa using hn
    exact Or.inr ⟨hq.1, _, C.2.2.2.1 _ hq.2.2, E0.2.2.2.2.2.2.1 E hE _ hq.2.1 (fun h => hne h.symm)⟩
theorem jcast_ok : jEs.all (fun E => decide (Cond.castable (jEN E) (jEN E) ∈ lw_tbl)) = true := by decide +kernel
theorem jcast {E : Nat} (E0 : jenv A D s base H0) (hE : E ∈ jEs) : (Cond.castable (jEN E) (jEN E)).before args s = true := by
  have h1 := List.all_eq_true.mp jcast_ok E hE
  simp only [decide_eq_true_eq] at h1
  have h2 : Cond.castable (jEN E) (jEN E) ∈ jV := List.mem_filter.mpr ⟨h1, rfl⟩
  exact jV_any h2 (E0.2.2.2.1 _ h2)
set_option maxHeartbeats 1000000 in
theorem jX_tab {hh : List (Nat × Nat × Nat × Nat)} (C : jCx p s m args c D (jRN own) cc) (hlk : meth.locks = false) (E0 : jenv A D s base H0) (ht : c.exceptionTable.toList = tableOf hh) (hh1 : ∀ q ∈ hh, jEok own q) (hcode : ∀ pc ins len, code pc = some (ins, len) → jchk own ini cc (pc, ins, len) = true) :
    ∀ (pc E : Nat) (L : jL) (τ : jS) (r : jX ⊕ (jO × jS)), E ∈ jEs → jthr (hh.map fun q => (q.1, q.2.1, q.2.2.1, jct own q.2.2.2)) code pc E L τ = some r → ((∃ pc' L' st' σ', r = .inl (pc', L', st', σ') ∧ jG p l e R s m args below meth c D base H0 nL σ0 (vx_MQ below (jQc D base H0 oF σF) (jXc D base H0 oF σF) args s (σF.2.1 - σ0.2.1) (σF.2.2 - σ0.2.2) (fun q => base ≤ q)) pc' L' st' σ') ∨ r = .inr (oF, σF)) → σ0.2.1 ≤ τ.2.1 → σ0.2.2 ≤ τ.2.2 → ∀ (H1 : Heap) (locs1 : List Loc) (cells1 slots1 : Nat) (q : Addr) (ce : Cell) (ls : Array Slot) (rest : List Value), jR D s base H0 τ H1 → jLR ls nL L → (∀ q ∈ locs1, base ≤ q.base) → cells1 + σ0.2.1 = τ.2.1 → slots1 + σ0.2.2 = τ.2.2 → H1[q]? = some ce → ce.vm = .none → s.vm.findClass (jEN E) = some ce.cls → vx_W p l e R s m args below meth c H1 locs1 cells1 slots1 (vx_MQ below (jQc D base H0 oF σF) (jXc D base H0 oF σF) args s (σF.2.1 - σ0.2.1) (σF.2.2 - σ0.2.2) (fun q => base ≤ q)) (F0 m pc ls rest) q := by
  intro pc E L τ r hE h hcase h1 h2 H1 locs1 cells1 slots1 q ce ls rest hR hL hl hc hs g1 g2 g3
  unfold jthr jhd at h
  rw [List.find?_map] at h
  cases hf : hh.find? ((fun q => decide (q.1 ≤ pc) && decide (pc < q.2.1) && decide (q.2.2.2 = E)) ∘ fun q => (q.1, q.2.1, q.2.2.1, jct own q.2.2.2)) with
  | none =>
    rw [hf] at h
    simp only [Option.map_none] at h
    unfold jdn at h
    cases h
    rcases hcase with ⟨_, _, _, _, e9, -⟩ | e9
    · cases e9
    · cases e9
      refine vx_outP C.2.2.1 hlk ?_ g1 g2 g3 (fun t hT hA => ⟨E, rfl, hE, rfl, by rw [hT]; exact hR.moved hA⟩) hl (by omega) (by omega)
      intro z hz
      rw [ht] at hz
      obtain ⟨q9, hq9, rfl⟩ := List.mem_map.mp hz
      exact jpass C E0 hE (hh1 q9 hq9) (by
        have h9 := List.find?_eq_none.mp hf q9 hq9
        exact h9)
  | some x =>
    rw [hf] at h
    simp only [Option.map_some] at h
    obtain ⟨hx, pre, suf, hsp, hpre⟩ := List.find?_eq_some_iff_append.mp hf
    have hx' : (decide (x.1 ≤ pc) && decide (pc < x.2.1) && decide (jct own x.2.2.2 = E)) = true := hx
    have hxm : x ∈ hh := by rw [hsp]; exact List.mem_append_right _ List.mem_cons_self
    have hxo := hh1 x hxm
    simp only [Bool.and_eq_true, decide_eq_true_eq] at hx'
    have hlk1 : (Cond.classLink (jRN own) x.2.2.2 (jEN E)).before args s = true := by
      have h9 := C.2.2.2.1 _ hxo.2.2
      rw [hx'.2] at h9
      exact h9
    refine vx_catch (name := jEN E) C.2.2.1 (tableOf pre) ⟨x.1, x.2.1, x.2.2.1, x.2.2.2⟩ (tableOf suf) (by rw [ht, hsp]; simp [tableOf]) ?_ (by rw [jcov]; simp [hx'.1.1, hx'.1.2]) hxo.1 hlk1 (jcast E0 hE) g1 g2 g3 ?_
    · intro z hz
      obtain ⟨q9, hq9, rfl⟩ := List.mem_map.mp hz
      refine jpass C E0 hE (hh1 q9 (by rw [hsp]; exact List.mem_append_left _ hq9)) ?_
      have h9 := hpre q9 hq9
      intro hc9
      simp only [Function.comp] at h9
      rw [hc9] at h9
      cases h9
    · show W p l e R s m args below meth c H1 locs1 cells1 slots1 _ (F0 m x.2.2.1 ls [.ref q])
      cases hcd : code x.2.2.1 with
      | none => rw [hcd] at h; cases h
      | some y =>
        obtain ⟨ins, len⟩ := y
        rw [hcd] at h
        have hck := hcode _ _ _ hcd
        rcases hcase with ⟨pc', L', st', σ', rfl, g⟩ | rfl
        · split at h
          · next i n e9 =>
            cases e9
            split at h
            · next hi =>
              obtain ⟨rfl, rfl, rfl, rfl⟩ := jnx_inv h
              obtain ⟨raw, hd, hmt⟩ := jchk_spec hck (fun q e => by cases e)
              have hraw : raw = .astore i ∧ len = 2 := by
                cases raw <;> first | (simp [jmt] at hmt; done) | (simp [jmt] at hmt; exact ⟨by rw [hmt.1.1], hmt.1.2.symm⟩)
              obtain ⟨rfl, rfl⟩ := hraw
              exact lv_astore C.1 C.2.1 hd hL.2 (by rw [← hL.1]; exact hi) rfl (fun ls' hl' => g H1 locs1 cells1 slots1 ls' hR (hL.st0 hl') hl hc hs)
            · cases h
          · next i n e9 =>
            cases e9
            split at h
            · next hi =>
              obtain ⟨rfl, rfl, rfl, rfl⟩ := jnx_inv h
              obtain ⟨raw, hd, hmt⟩ := jchk_spec hck (fun q e => by cases e)
              have hraw : raw = .astore_n i ∧ len = 1 := by
                cases raw <;> first | (simp [jmt] at hmt; done) | (simp [jmt] at hmt; exact ⟨by rw [hmt.1.1], hmt.1.2.symm⟩)
              obtain ⟨rfl, rfl⟩ := hraw
              exact lv_astore_n C.1 C.2.1 hd rfl hL.2 (by rw [← hL.1]; exact hi) rfl (fun ls' hl' => g H1 locs1 cells1 slots1 ls' hR (hL.st0 hl') hl hc hs)
            · cases h
          · cases h
        · split at h
          · split at h
            · cases h
            · cases h
          · split at h
            · cases h
            · cases h
          · cases h
end JTAB
/-- all that the tables catch -/
theorem jtab_ok : (List.range jnm).all (fun n => (jhl n).all fun q => decide (q.2.2.2 ≠ 0) && decide (jct (jow n) q.2.2.2 ∈ jEs) && decide (Cond.classLink (jRN (jow n)) q.2.2.2 (jEN (jct (jow n) q.2.2.2)) ∈ lw_tbl)) = true := by decide +kernel
theorem jtabE {n : Nat} (h : n < jnm) : ∀ q ∈ jhl n, jEok (jow n) q := by
  intro q hq
  have h1 := List.all_eq_true.mp (List.all_eq_true.mp jtab_ok n (List.mem_range.mpr h)) q hq
  simp only [Bool.and_eq_true, decide_eq_true_eq] at h1
  exact ⟨h1.1.1, h1.1.2, jW_of h1.2 rfl⟩
section JSOUND2
variable {l : Launch} {A : Nat → Nat} {code : Nat → Nat → Option (Instr × Nat)}
/-- a method with a table, that throws nothing itself -/
theorem jsound2 {d n : Nat} {as : List Value} {σ : jS} {o : jO} {τ : jS} (hl : l.stackTraces = false) (hn : n < jnm) (h1 : jisC n = 2) (hnj : ∀ pc ins len, code n pc = some (ins, len) → (∀ q, ins ≠ .jsr q) ∧ ins ≠ .athrow)
    (hcode : ∀ pc ins len, code n pc = some (ins, len) → jchk (jow n) (jkd n == 2) (jby n) (pc, ins, len) = true) (hIH : ∀ n as σ o τ, jcall A code d n as σ = some (o, τ) → jMet A l d n as σ o τ)
    (has : (jsv as).length ≤ jmL n) (h : jrun (jcall A code d) A (jhn n) jow jna (jrt n) (code n) 0 (jent (jmL n) as) [] σ = some (o, τ)) : jMet A l (d + 1) n as σ o τ := by
  obtain ⟨a1, a2, a3, a4, a5, a6, a7, a8, a9, a10, a11⟩ := jmeth hn
  rw [jrun_iff] at h
  obtain ⟨k, hk⟩ := h
  have hmono : ∀ n as σ o τ, jcall A code d n as σ = some (o, τ) → jle σ τ := fun n as σ o τ h => ⟨(hIH n as σ o τ h).1, (hIH n as σ o τ h).2.1⟩
  have hle : jle σ τ := jmo_exec hmono _ _ _ _ _ _ _ hk
  refine ⟨hle.1, hle.2, fun D base H0 => ?_⟩
  refine vx_ofWH (cc := jby n) (maxL := jmL n) (ret := jrt n) (hh := jhl n) a11 (jws2 h1) ?_
  intro p e s m args below meth c s₁ B hml hP
  obtain ⟨rfl, hE, hR⟩ := hP
  have hts := atoms_spec (ws := jws n) B.pre
  have hown : s.vm.findClass (jRN (jow n)) = some m.cls := by rw [← a6]; exact findClass_of_methodNamed B.named
  have htsW : ∀ w ∈ jW, w.before as.toArray s = true := fun w hw => hts w (by rw [jws2 h1]; exact List.mem_cons_of_mem _ hw)
  have C : jCx p s m as.toArray c D (jRN (jow n)) (jby n) := ⟨B.exec, B.bytes, hown, htsW, hE.2.1⟩
  have ht : c.exceptionTable.toList = tableOf (jhl n) := vx_table (x := jy n) B (hts _ (by rw [jws2 h1]; exact List.mem_cons_self))
  have hini : (jkd n == 2) = true → meth.name = "<init>" := by
    intro hk2
    rw [(name_of_methodNamed B.named B.method).1]
    exact a9 (by simpa using hk2)
  have key := jbodyX (l := l) (e := e) (R := (headSpec (jws n) (jrm (d + 1) (τ.2.1 - σ.2.1) (τ.2.2 - σ.2.2))).room) (below := below) (σ0 := σ) (σF := τ) (oF := o) (d := d) (A := A) (hs := jhn n) C hml B.returns B.notSynchronized hl hE hR (Or.inr hnj) hini hcode hIH
    (by show d + 9 ≤ d + 1 + 8; omega) (by show _ ≤ 41 * (d + 1) + 200; omega) (by show τ.2.1 ≤ σ.2.1 + (τ.2.1 - σ.2.1); omega) (by show τ.2.2 ≤ σ.2.2 + (τ.2.2 - σ.2.2); omega) (jX_tab C B.notSynchronized hE ht (jtabE hn) hcode) k 0 (jent (jmL n) as) [] σ hk jle.rf
  rw [lg_entry_eq]
  exact key s.heap [] 0 0 _ hR (jent_LR has) (fun q hq => by cases hq) (by omega) (by omega)
/-- ALL METHODS: what the J machine does, the JVM does (but for a Fault's constructor, which is asked for) -/
theorem jsound_open (hl : l.stackTraces = false) (hcn : ∀ n pc ins len, code n pc = some (ins, len) → n < jnm) (hnj : ∀ n pc ins len, jisC n = 2 → code n pc = some (ins, len) → (∀ q, ins ≠ .jsr q) ∧ ins ≠ .athrow)
    (hcode : ∀ n pc ins len, code n pc = some (ins, len) → jchk (jow n) (jkd n == 2) (jby n) (pc, ins, len) = true) (hF : ∀ d as σ o τ, jflt as σ = some (o, τ) → jMet A l (d + 1) jFI as σ o τ) :
    ∀ (d n : Nat) (as : List Value) (σ : jS) (o : jO) (τ : jS), jcall A code d n as σ = some (o, τ) → jMet A l d n as σ o τ := by
  intro d
  induction d with
  | zero => intro n as σ o τ h; cases h
  | succ d ih =>
    intro n as σ o τ h
    unfold jcall at h
    split at h
    · next e => subst e; exact hF d as σ o τ h
    · split at h
      · next has =>
        have hn : n < jnm := by
          obtain ⟨k, hk⟩ := (jrun_iff _ _ _ _ _ _ _).mp h
          cases k with
          | zero => cases hk
          | succ k =>
            unfold jexec at hk
            cases hc : code n 0 with
            | none => rw [hc] at hk; cases hk
            | some x => exact hcn n 0 x.1 x.2 hc
        rcases (jmeth hn).1 with h1 | h1
        · exact jsound1 hl hn h1 (hcode n) ih has h
        · exact jsound2 hl hn h1 (fun pc ins len => hnj n pc ins len h1) (hcode n) ih has h
      · cases h
end JSOUND2
