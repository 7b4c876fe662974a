def R_law : String := "ChartHouseLaw"
def lw_P (b : Addr) (xs : List Int32) (args : Array Value) (s : State) : Prop := args = #[.ref b] ∧ s.IntsAt b xs ∧ xs.length ≤ 3072 ∧ (Jvm.Cond.and given_1 narrow_1).before args s = true
def lw_Q (_ : Array Value) (s : State) (o : Outcome) (t : State) : Prop := o = .returned (some (.int 1)) ∧ Framed s o t [] 601024 7293034
def lw_Z (below : List Frame) (a : Array Value) (s : State) : State → Prop := fun t => ∃ o, t.status = .running ∧ Ended t below o ∧ lw_Q a s o t
/-- the law's own end, with 1 on the stack, nothing written that was there before, its room as the claim has it -/
theorem lw_ret {p : Program} {l : Launch} {e : Env} {s : State} {m : MethodId} {below : List Frame} {meth : Method} {c : Code} {b : Nat} (hx : p.tables.exec = Jvm.exec) (hb : c.code = code) (hr : meth.sig.returnType = ret) (hlocks : meth.locks = false) {pc : Nat} {H : Heap} {ls : Array Slot} (hdg : decode code pc = .ok (.ireturn, 1)) : W p l e room_1 s m #[Value.ref b] below meth c H [] 601024 7293034 (lw_Z below #[Value.ref b] s) (F0 m pc ls [.int 1]) := by
  intro T hT X
  obtain ⟨fs, hret, hrun, hended, hW, hframe⟩ := X.leave (v := some (.int 1)) (hlocks := hlocks) (fun h => by rw [hr] at h; cases h)
  have hmeth' : T.vm.method? m = some meth := X.method'
  refine ⟨T.setFrames fs, ?_, .returned (some (.int 1)), hrun, hended, rfl, ⟨_, rfl⟩, hW, hframe⟩
  jvm_step X.here [X.here.top, hx, hb, hdg, hmeth', hr, ret, narrow_b1]
  (try refine ⟨rfl, ?_⟩); (try refine ⟨rfl, ?_⟩)
  first | (intro acts; rw [hret _ acts rfl rfl rfl]) | rw [hret _ _ rfl rfl rfl]
  exact Steps.refl _
/-- what holds at the law's entry: the machine, the code, the tables' words (any of lw_tbl by 'hts w (by decide +kernel)'), the script of L ints xs at the cell b, what the Statement gives of the start (any of its parts by flat_of_before) -/
def lw_At (p : Program) (s : State) (m : MethodId) (meth : Method) (c : Code) (b L : Nat) (xs : Nat → Int32) : Prop :=
  p.tables.exec = Jvm.exec ∧ c.code = code ∧ meth.sig.returnType = ret ∧ c.maxLocals = 8 ∧ s.vm.findClass R_law = some m.cls ∧ (∀ w ∈ lw_tbl, w.before #[Value.ref b] s = true) ∧ va_X b L xs s s.heap ∧ b < s.heap.size ∧ meth.locks = false ∧ (Jvm.Cond.and given_1 narrow_1).before #[Value.ref b] s = true
/-! the law's own body: from a run of the J machine that answers 1 -/
/-- the J machine's start: the script alone -/
def jσ0 (b L top : Nat) (xs : Nat → Int32) : jS := (fun a => if a = b then some (25, L, fun j => .int (xs j)) else none, top, 0)
theorem jσ0_R {D : va_G} {s : State} {b L : Nat} {xs : Nat → Int32} (hL : L ≤ 3072) (hX : va_X b L xs s s.heap) (hb : b < s.heap.size) : jR D s s.heap.size s.heap (jσ0 b L s.heap.size xs) s.heap := by
  refine ⟨rfl, Nat.le_refl _, fun q _ => rfl, fun a c hc => ?_⟩
  unfold jσ0 at hc
  simp only at hc
  split at hc
  · next e =>
    subst e
    cases hc
    obtain ⟨scr, h1, ⟨h2, kA, h3, comp, h4⟩, h5, h6, h7⟩ := hX
    refine ⟨hb, fun h => absurd rfl h, fun h => (by simp only at h; omega), fun _ _ => ⟨by simp only; omega, scr, kA, comp, h1, h2, h5, h3, h4, fun h => (by simp only at h; omega), h6, fun i hi => ⟨h7 i hi, rfl⟩⟩⟩
  · cases hc
theorem jW_mono {p : Program} {l : Launch} {e : Env} {R : Room} {s : State} {m : MethodId} {args : Array Value} {below : List Frame} {meth : Method} {c : Code} {H : Heap} {locs : List Loc} {cells slots : Nat} {Q Q' : State → Prop} {g : JFrame} (h : ∀ t, Q t → Q' t) (k : W p l e R s m args below meth c H locs cells slots Q g) : W p l e R s m args below meth c H locs cells slots Q' g := by
  intro T hT X
  obtain ⟨t, a, b⟩ := k T hT X
  exact ⟨t, a, h t b⟩
theorem jlaw {p : Program} {e : Env} {s : State} {m : MethodId} {below : List Frame} {meth : Method} {c : Code} {l : Launch} {b L : Nat} {xs : Nat → Int32} {jcode : Nat → Nat → Option (Instr × Nat)} {lawcode : Nat → Option (Instr × Nat)} {d : Nat} (hd : d ≤ 2039) (hl : l.stackTraces = false) (hL : L ≤ 3072) (C0 : lw_At p s m meth c b L xs)
    (hlaw : ∀ pc ins len, lawcode pc = some (ins, len) → jchk 13 false code (pc, ins, len) = true) (hnj : ∀ pc ins len, lawcode pc = some (ins, len) → (∀ q, ins ≠ .jsr q) ∧ ins ≠ .athrow)
    (hIH : ∀ A n as σ o τ, jcall A jcode d n as σ = some (o, τ) → jMet A l d n as σ o τ)
    (hrun : ∀ A, jAp A → ∃ τ, jrun (jcall A jcode d) A [] jow jna ret lawcode 0 (jent 8 [.ref b]) [] (jσ0 b L s.heap.size xs) = some (.inl (some (.int 1)), τ) ∧ τ.2.1 ≤ s.heap.size + 601024 ∧ τ.2.2 ≤ 7293034) :
    W p l e room_1 s m #[Value.ref b] below meth c s.heap [] 0 0 (lw_Z below #[Value.ref b] s) (entryFrame m ([Value.ref b] : List Value).toArray 8) := by
  obtain ⟨hx, hb, hr, hml, hown, hts, hX, hbl, hlocks, hgv⟩ := C0
  obtain ⟨A, D, hE, hAp⟩ := jstart hts hgv
  obtain ⟨τ, hrun, t1, t2⟩ := hrun A hAp
  replace hIH := hIH A
  obtain ⟨k, hk⟩ := (jrun_iff _ _ _ _ _ _ _).mp hrun
  have C : jCx p s m #[Value.ref b] c D (jRN 13) code := ⟨hx, hb, hown, fun w hw => hts w (List.mem_filter.mp hw).1, hE.2.1⟩
  have hR := jσ0_R (D := D) hL hX hbl
  have hmono : ∀ n as σ o τ, jcall A jcode d n as σ = some (o, τ) → jle σ τ := fun n as σ o τ h => ⟨(hIH n as σ o τ h).1, (hIH n as σ o τ h).2.1⟩
  have hle : jle (jσ0 b L s.heap.size xs) τ := jmo_exec hmono _ _ _ _ _ _ _ hk
  have key := jbodyX (l := l) (e := e) (R := room_1) (below := below) (σ0 := jσ0 b L s.heap.size xs) (σF := τ) (oF := .inl (some (.int 1))) (d := d) (A := A) (hs := []) (own := 13) (ini := false) C hml hr hlocks hl hE hR (Or.inr hnj) (fun h => by cases h) hlaw hIH
    (by have e9 : room_1.frames = 2048 := rfl; rw [e9]; omega) (by have e9 : room_1.locals = 84000 := rfl; rw [e9]; omega) (by have e9 : room_1.cells = 601024 := rfl; rw [e9]; exact t1) (by have e9 : room_1.slots = 7293034 := rfl; rw [e9]; have e8 : (jσ0 b L s.heap.size xs).2.2 = 0 := rfl; rw [e8]; omega)
    (fun pc E L τ' r hE9 h hcase => by
      rw [jthr_nil] at h
      unfold jdn at h
      cases h
      rcases hcase with ⟨_, _, _, _, e9, -⟩ | e9
      · cases e9
      · cases e9) k 0 (jent 8 [.ref b]) [] (jσ0 b L s.heap.size xs) hk jle.rf
  rw [lg_entry_eq]
  refine jW_mono ?_ (key s.heap [] 0 0 _ hR (jent_LR (by simp [jsv, Value.category])) (fun q hq => by cases hq) (by show 0 + s.heap.size = s.heap.size; omega) rfl)
  intro t ht
  obtain ⟨o, h1, h2, h3⟩ := ht
  rcases h3 with ⟨⟨v, hv, ho, -⟩, L9, ⟨hret, hW, hsm⟩, hL9⟩ | ⟨q, -, E, ce, L9, ⟨k9, hk9, -⟩, -⟩
  · cases hv
    refine ⟨o, h1, h2, ho, hret, hW, ?_⟩
    have hsm2 := hsm.mono (show τ.2.1 - (jσ0 b L s.heap.size xs).2.1 ≤ 601024 by simp only [jσ0]; omega) (show τ.2.2 - (jσ0 b L s.heap.size xs).2.2 ≤ 7293034 by simp only [jσ0]; omega)
    obtain ⟨z1, z2, z3, z4, z5, z6⟩ := hsm2
    refine ⟨z1, z2, z3, z4, z5, fun a c9 hc9 => ?_⟩
    obtain ⟨c', y1, y2, y3, y4⟩ := z6 a c9 hc9
    refine ⟨c', y1, y2, y3, fun i _ => y4 i (fun hm => ?_)⟩
    have h9 := hL9 _ hm
    have h8 : a < s.heap.size := (Array.getElem?_eq_some_iff.mp hc9).1
    exact absurd h9 (Nat.not_le.mpr h8)
  · cases hk9
