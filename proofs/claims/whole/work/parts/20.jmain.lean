/-! the main induction over a body without a table of its own -/
theorem jchk_spec {own : Nat} {ini : Bool} {cc : ByteArray} {pc len : Nat} {ins : Instr} (h : jchk own ini cc (pc, ins, len) = true) (hj : ∀ q, ins ≠ .jsr q) : ∃ raw, decode cc pc = .ok (raw, len) ∧ jmt own ini pc len raw ins = true := by
  unfold jchk at h
  split at h
  · next q e => exact absurd e (hj q)
  · split at h
    · next raw n e =>
      simp only [Bool.and_eq_true, beq_iff_eq] at h
      obtain ⟨rfl, h2⟩ := h
      exact ⟨raw, e, h2⟩
    · cases h
theorem jchk_jsr {own : Nat} {ini : Bool} {cc : ByteArray} {pc len : Nat} {q : Int} (h : jchk own ini cc (pc, .jsr q, len) = true) : jthrB own cc pc q.toNat = true := h
theorem jmt_v {own : Nat} {ini : Bool} {pc n k : Nat} {raw : Instr} (h : jmt own ini pc n raw (.invokevirtual k) = true) : ∃ i, raw = .invokevirtual i ∧ n = 3 ∧ jhas3 jMLt own i k = true ∧ jkd k = 1 := by
  cases raw
  case invokevirtual i =>
    simp only [jmt, Bool.and_eq_true, beq_iff_eq] at h
    exact ⟨i, rfl, h.1.1, h.1.2, h.2⟩
  all_goals exact absurd h (by simp [jmt])
theorem jmt_s {own : Nat} {ini : Bool} {pc n k : Nat} {raw : Instr} (h : jmt own ini pc n raw (.invokestatic k) = true) : ∃ i, raw = .invokestatic i ∧ n = 3 ∧ jhas3 jMLt own i k = true ∧ jkd k = 0 := by
  cases raw
  case invokestatic i =>
    simp only [jmt, Bool.and_eq_true, beq_iff_eq] at h
    exact ⟨i, rfl, h.1.1, h.1.2, h.2⟩
  all_goals exact absurd h (by simp [jmt])
theorem jmt_i {own : Nat} {ini : Bool} {pc n k : Nat} {raw : Instr} (h : jmt own ini pc n raw (.invokespecial k) = true) : ∃ i, raw = .invokespecial i ∧ n = 3 ∧ (jhas3 jMLt own i k = true ∨ (own = 12 ∧ i = 633 ∧ k = 174)) ∧ jkd k = 2 := by
  cases raw
  case invokespecial i =>
    simp only [jmt, Bool.and_eq_true, beq_iff_eq, Bool.or_eq_true] at h
    exact ⟨i, rfl, h.1.1, h.1.2.elim Or.inl (fun z => Or.inr ⟨z.1.1, z.1.2, z.2⟩), h.2⟩
  all_goals exact absurd h (by simp [jmt])
theorem jmt_r {own : Nat} {ini : Bool} {pc n : Nat} {raw res : Instr} (hr : res = .ireturn ∨ res = .lreturn ∨ res = .areturn ∨ res = .return_ ∨ res = .athrow) (h : jmt own ini pc n raw res = true) : raw = res ∧ n = 1 := by
  rcases hr with rfl | rfl | rfl | rfl | rfl
  all_goals
    cases raw
    all_goals first
      | (simp [jmt] at h; done)
      | (simp [jmt] at h; exact ⟨rfl, h.1.symm⟩)
theorem jkd_ini : (List.range jnm).all (fun k => decide (jkd k = 2 → jisC k = 1 ∧ jrt k = none)) = true := by decide +kernel
def jNi (r : jN) : Prop := ∀ x, r ≠ some (.inr x)
theorem jni_nx {τ : jS} {pc : Nat} {L : jL} {st : List Value} : jNi (jnx pc L st τ) := fun x h => by unfold jnx at h; cases h
theorem jni_no : jNi none := fun x h => by cases h
section JNI
variable {C : Nat → List Value → jS → Option (jO × jS)} {A : Nat → Nat} {hs : List (Nat × Nat × Nat × Nat)} {ow na : Nat → Nat} {rt : Option FieldType} {code : Nat → Option (Instr × Nat)} {pc len : Nat} {L : jL} {st : List Value} {σ : jS}
theorem jni_get {k : Nat} : jNi (jget k pc L st σ) := by
  unfold jget; repeat' split
  all_goals first | exact jni_nx | exact jni_no
theorem jni_put {k : Nat} : jNi (jput k pc L st σ) := by
  unfold jput; repeat' split
  all_goals first | exact jni_nx | exact jni_no
theorem jni_ld {i : Nat} {ok : Value → Bool} : jNi (jld i pc ok L st σ) := by
  unfold jld; repeat' split
  all_goals first | exact jni_nx | exact jni_no
theorem jni_sto {i : Nat} {ok : Value → Bool} : jNi (jsto i pc ok L st σ) := by
  unfold jsto; repeat' split
  all_goals first | exact jni_nx | exact jni_no
theorem jni_stoL {i : Nat} : jNi (jstoL i pc L st σ) := by
  unfold jstoL; repeat' split
  all_goals first | exact jni_nx | exact jni_no
theorem jni_bI {f : Int32 → Int32 → Int32} : jNi (jbI f pc L st σ) := by
  unfold jbI; repeat' split
  all_goals first | exact jni_nx | exact jni_no
theorem jni_bL {f : Int64 → Int64 → Int64} : jNi (jbL f pc L st σ) := by
  unfold jbL; repeat' split
  all_goals first | exact jni_nx | exact jni_no
theorem jni_bS {f : Int64 → Int32 → Int64} : jNi (jbS f pc L st σ) := by
  unfold jbS; repeat' split
  all_goals first | exact jni_nx | exact jni_no
theorem jni_uI {f : Int32 → Value} : jNi (juI f pc L st σ) := by
  unfold juI; repeat' split
  all_goals first | exact jni_nx | exact jni_no
theorem jni_div {f : Int32 → Int32 → Int32} : jNi (jdiv f pc L st σ) := by
  unfold jdiv; repeat' split
  all_goals first | exact jni_nx | exact jni_no
theorem jni_br1 {f : Int32 → Bool} {o : Int} : jNi (jbr1 f pc o L st σ) := by
  unfold jbr1; repeat' split
  all_goals first | exact jni_nx | exact jni_no
theorem jni_br2 {f : Int32 → Int32 → Bool} {o : Int} : jNi (jbr2 f pc o L st σ) := by
  unfold jbr2; repeat' split
  all_goals first | exact jni_nx | exact jni_no
theorem jni_nul {b : Bool} {o : Int} : jNi (jnul b pc o L st σ) := by
  unfold jnul; repeat' split
  all_goals first | exact jni_nx | exact jni_no
theorem jni_ald {ok : Nat → Bool} : jNi (jald ok pc L st σ) := by
  unfold jald; repeat' split
  all_goals first | exact jni_nx | exact jni_no
theorem jni_ast {ok : Nat → Bool} {g : Nat → Value → Option Value} : jNi (jast ok g pc L st σ) := by
  unfold jast; repeat' split
  all_goals first | exact jni_nx | exact jni_no
theorem jni_aast : jNi (jaast pc L st σ) := by
  unfold jaast; repeat' split
  all_goals first | exact jni_nx | exact jni_no
theorem jni_len : jNi (jlen pc L st σ) := by
  unfold jlen; repeat' split
  all_goals first | exact jni_nx | exact jni_no
theorem jni_newa {t : Nat} : jNi (jnewa t len pc L st σ) := by
  unfold jnewa; repeat' split
  all_goals first | exact jni_nx | exact jni_no
theorem jni_newc {k : Nat} : jNi (jnewc k pc L st σ) := jni_nx
theorem jni_dup : jNi (jdup pc L st σ) := by
  unfold jdup; repeat' split
  all_goals first | exact jni_nx | exact jni_no
theorem jni_dup2 : jNi (jdup2 pc L st σ) := by
  unfold jdup2; repeat' split
  all_goals first | exact jni_nx | exact jni_no
theorem jni_pop : jNi (jpop pc L st σ) := by
  unfold jpop; repeat' split
  all_goals first | exact jni_nx | exact jni_no
theorem jni_obj : jNi (jobj pc L st σ) := by
  unfold jobj; repeat' split
  all_goals first | exact jni_nx | exact jni_no
theorem jni_cmp : jNi (jcmp pc L st σ) := by
  unfold jcmp; repeat' split
  all_goals first | exact jni_nx | exact jni_no
theorem jni_l2i : jNi (jl2i pc L st σ) := by
  unfold jl2i; repeat' split
  all_goals first | exact jni_nx | exact jni_no
theorem jni_inc {i : Nat} {n : Int} : jNi (jinc i n pc L st σ) := by
  unfold jinc; repeat' split
  all_goals first | exact jni_nx | exact jni_no
theorem jni_tab {d lo hi : Int} {os : Array Int} : jNi (jtab d lo hi os L st σ) := by
  unfold jtab; repeat' split
  all_goals first | exact jni_nx | exact jni_no
theorem jni_lku {d : Int} {ps : Array (Int × Int)} : jNi (jlku d ps L st σ) := by
  unfold jlku; repeat' split
  all_goals first | exact jni_nx | exact jni_no
theorem jni_gtx {f : Nat} : jNi (jgtx A f pc L st σ) := by
  unfold jgtx; repeat' split
  all_goals first | exact jni_nx | exact jni_no
theorem jni_tln : jNi (jtln A pc L st σ) := by
  unfold jtln; repeat' split
  all_goals first | exact jni_nx | exact jni_no
theorem jni_tch : jNi (jtch A pc L st σ) := by
  unfold jtch; repeat' split
  all_goals first | exact jni_nx | exact jni_no
theorem jni_mm {f : Int32 → Int32 → Int32} : jNi (jmm f pc L st σ) := by
  unfold jmm; repeat' split
  all_goals first | exact jni_nx | exact jni_no
theorem jni_acp : jNi (jacp pc L st σ) := by
  unfold jacp; repeat' split
  all_goals first | exact jni_nx | exact jni_no
theorem jni_newar {k : ArrayType} : jNi (match jAk k with | some t => jnewa t 2 pc L st σ | none => none) := by
  split
  · exact jni_newa
  · exact jni_no
theorem jni_step (ins : Instr) (h1 : ¬ (ins = .ireturn ∨ ins = .lreturn ∨ ins = .areturn ∨ ins = .return_ ∨ ins = .athrow)) (h2 : ¬ ∃ q, ins = .jsr q) (h3 : ¬ ∃ n, ins = .invokevirtual n) (h4 : ¬ ∃ n, ins = .invokestatic n) (h5 : ¬ ∃ n, ins = .invokespecial n) : jNi (jstep C A hs ow na rt code ins len pc L st σ) := by
  cases ins
  case aaload => exact jni_ald (ok := fun t => t == 24)
  case baload => exact jni_ald (ok := fun t => t == 22 || t == 23)
  case iaload => exact jni_ald (ok := fun t => t == 20 || t == 25)
  case laload => exact jni_ald (ok := fun t => t == 21)
  case iastore => exact jni_ast (ok := fun t => t == 20) (g := jgI)
  case lastore => exact jni_ast (ok := fun t => t == 21) (g := jgL)
  case bastore => exact jni_ast (ok := fun t => t == 22 || t == 23) (g := jgB)
  case ireturn => exact absurd (Or.inl rfl) h1
  case lreturn => exact absurd (Or.inr (Or.inl rfl)) h1
  case areturn => exact absurd (Or.inr (Or.inr (Or.inl rfl))) h1
  case return_ => exact absurd (Or.inr (Or.inr (Or.inr (Or.inl rfl)))) h1
  case athrow => exact absurd (Or.inr (Or.inr (Or.inr (Or.inr rfl)))) h1
  case jsr q => exact absurd ⟨q, rfl⟩ h2
  case invokevirtual n => exact absurd ⟨n, rfl⟩ h3
  case invokestatic n => exact absurd ⟨n, rfl⟩ h4
  case invokespecial n => exact absurd ⟨n, rfl⟩ h5
  all_goals first | exact jni_no | exact jni_nx | exact jni_ld | exact jni_sto | exact jni_stoL | exact jni_inc | exact jni_get | exact jni_put | exact jni_aast | exact jni_len | exact jni_newar | exact jni_newa | exact jni_newc | exact jni_dup | exact jni_dup2 | exact jni_pop | exact jni_bI | exact jni_div | exact jni_bL | exact jni_bS | exact jni_cmp | exact jni_uI | exact jni_l2i | exact jni_br1 | exact jni_br2 | exact jni_nul | exact jni_tab | exact jni_lku | exact jni_obj | exact jni_tln | exact jni_tch | exact jni_gtx | exact jni_mm | exact jni_acp
end JNI
section JMAIN
variable {p : Program} {l : Launch} {e : Env} {R : Room} {s : State} {m : MethodId} {args : Array Value} {below : List Frame} {meth : Method} {c : Code} {D : va_G} {base : Nat} {H0 : Heap} {nL : Nat} {σ0 : jS} {own : Nat} {cc : ByteArray} {σF : jS} {oF : jO} {d : Nat} {rt : Option FieldType} {CC : Nat → List Value → jS → Option (jO × jS)} {A : Nat → Nat} {code : Nat → Option (Instr × Nat)} {ini : Bool}
theorem jthr_nil {pc E : Nat} {L : jL} {τ : jS} : jthr [] code pc E L τ = jdn (.inr E) τ := rfl
/-- out of a call that threw -/
theorem jout {Q : State → Prop} {mc ms pc E : Nat} {Qc : Array Value → State → Outcome → State → Prop} {τ : jS} (hlk : meth.locks = false) (hnt : ∀ x ∈ c.exceptionTable.toList, False) (hE : E ∈ jEs) (h1 : τ.2.1 = σ0.2.1 + mc) (h2 : τ.2.2 = σ0.2.2 + ms) {H1 : Heap} {locs1 : List Loc} {cells1 slots1 : Nat} {q : Addr} {ce : Cell} {ls : Array Slot} {rest : List Value} (hR : jR D s base H0 τ H1) (hl : ∀ q ∈ locs1, base ≤ q.base) (hc : cells1 + σ0.2.1 = τ.2.1) (hs : slots1 + σ0.2.2 = τ.2.2) (hce : H1[q]? = some ce) (hv : ce.vm = .none) (hcl : s.vm.findClass (jEN E) = some ce.cls) :
    vx_W p l e R s m args below meth c H1 locs1 cells1 slots1 (vx_MQ below Qc (jXc D base H0 (.inr E) τ) args s mc ms (fun q => base ≤ q)) (F0 m pc ls rest) q :=
  vx_out (fun x h9 => (hnt x h9).elim) hlk hce hv hcl (fun t ht hA => ⟨E, rfl, hE, rfl, by rw [ht]; exact hR.moved hA⟩) hl (by omega) (by omega)
theorem jinv_inv {hs : List (Nat × Nat × Nat × Nat)} {ow na : Nat → Nat} {b n pc : Nat} {L : jL} {st : List Value} {σ : jS} {r : jX ⊕ (jO × jS)} (h : jinv CC A hs ow na code b n pc L st σ = some r) : na n ≤ st.length ∧ jcat (st.drop (na n)) ≤ 8 ∧ jrcv A ow b n (st.take (na n)).reverse σ = true ∧
    ∃ o τ, CC n (st.take (na n)).reverse σ = some (o, τ) ∧ ((∃ v, o = .inl v ∧ r = .inl (pc + 3, L, v.toList ++ st.drop (na n), τ)) ∨ (∃ E, o = .inr E ∧ b ≠ 2 ∧ jthr hs code pc E L τ = some r)) := by
  unfold jinv at h
  split at h
  · next hc =>
    refine ⟨hc.1, hc.2.1, hc.2.2, ?_⟩
    split at h
    · next v τ e =>
      unfold jnx at h
      cases h
      exact ⟨_, _, e, Or.inl ⟨v, rfl, rfl⟩⟩
    · next E τ e =>
      split at h
      · cases h
      · next hb => exact ⟨_, _, e, Or.inr ⟨E, rfl, hb, h⟩⟩
    · cases h
  · cases h
theorem jrcv_inv {ow : Nat → Nat} {b n : Nat} {as : List Value} {σ : jS} (hb : b ≠ 0) (h : jrcv A ow b n as σ = true) : ∃ a As, as = .ref a :: As ∧ ((ow n = 27 ∧ ∃ t, t < 3 ∧ a = A t) ∨ (ow n ≠ 27 ∧ ∃ q, σ.1 a = some q ∧ q.1 = ow n)) := by
  unfold jrcv at h
  split at h
  · exact absurd rfl hb
  · split at h
    · next a As =>
      refine ⟨a, As, rfl, ?_⟩
      split at h
      · next h27 =>
        obtain ⟨t, ht⟩ := Option.isSome_iff_exists.mp h
        exact Or.inl ⟨h27, t, jtf_some ht⟩
      · next h27 =>
        split at h
        · next q hq => exact Or.inr ⟨h27, q, hq, by simpa using h⟩
        · cases h
    · cases h
/-- the stack at a call of an object's method -/
theorem jstk {st : List Value} {n a : Nat} {As : List Value} (hn : n ≤ st.length) (h : (st.take n).reverse = .ref a :: As) : st = As.reverse ++ .ref a :: st.drop n ∧ As.length + 1 = n := by
  have h1 : st.take n = As.reverse ++ [.ref a] := by
    have h2 := congrArg List.reverse h
    rw [List.reverse_reverse, List.reverse_cons] at h2
    exact h2
  constructor
  · have h3 := (List.take_append_drop n st).symm
    rw [h1, List.append_assoc] at h3
    exact h3
  · have h4 := congrArg List.length h
    rw [List.length_reverse, List.length_take, List.length_cons] at h4
    omega
theorem jstk0 {st : List Value} {n : Nat} (hn : n ≤ st.length) : st = (st.take n).reverse.reverse ++ st.drop n ∧ (st.take n).reverse.length = n := by
  rw [List.reverse_reverse, List.take_append_drop, List.length_reverse, List.length_take]
  exact ⟨rfl, by omega⟩
theorem jthr_σ {hs : List (Nat × Nat × Nat × Nat)} {pc E : Nat} {L : jL} {τ : jS} {r : jX ⊕ (jO × jS)} (h : jthr hs code pc E L τ = some r) : (∀ pc' L' st' σ', r = .inl (pc', L', st', σ') → σ' = τ) ∧ (∀ o σ', r = .inr (o, σ') → o = .inr E ∧ σ' = τ) := by
  unfold jthr at h
  split at h
  · unfold jdn at h
    cases h
    exact ⟨fun _ _ _ _ e => (by cases e), fun _ _ e => (by cases e; exact ⟨rfl, rfl⟩)⟩
  · split at h
    · split at h
      · unfold jnx at h
        cases h
        exact ⟨fun _ _ _ _ e => (by cases e; rfl), fun _ _ e => (by cases e)⟩
      · cases h
    · split at h
      · unfold jnx at h
        cases h
        exact ⟨fun _ _ _ _ e => (by cases e; rfl), fun _ _ e => (by cases e)⟩
      · cases h
    · cases h
set_option maxHeartbeats 4000000 in
theorem jbodyX {hs : List (Nat × Nat × Nat × Nat)} (C : jCx p s m args c D (jRN own) cc) (hml : c.maxLocals = nL) (hr : meth.sig.returnType = rt) (hlk : meth.locks = false) (hl : l.stackTraces = false) (E0 : jenv A D s base H0) (hS0 : jR D s base H0 σ0 s.heap) (hnt : ((∀ x ∈ c.exceptionTable.toList, False) ∧ hs = []) ∨ ∀ pc ins len, code pc = some (ins, len) → (∀ q, ins ≠ .jsr q) ∧ ins ≠ .athrow) (hini : ini = true → meth.name = "<init>")
    (hcode : ∀ pc ins len, code pc = some (ins, len) → jchk own ini cc (pc, ins, len) = true) (hIH : ∀ n as σ o τ, CC n as σ = some (o, τ) → jMet A l d n as σ o τ) (hf : d + 9 ≤ R.frames) (hlo : 41 * (d + 1) + 200 ≤ R.locals) (hRc : σF.2.1 ≤ σ0.2.1 + R.cells) (hRs : σF.2.2 ≤ σ0.2.2 + R.slots)
    (hX : ∀ (pc E : Nat) (L : jL) (τ : jS) (r : jX ⊕ (jO × jS)), E ∈ jEs → jthr hs code pc E L τ = some r → ((∃ pc' L' st' σ', r = .inl (pc', L', st', σ') ∧ jG p l e R s m args below meth c D base H0 nL σ0 (vx_MQ below (jQc D base H0 oF σF) (jXc D base H0 oF σF) args s (σF.2.1 - σ0.2.1) (σF.2.2 - σ0.2.2) (fun q => base ≤ q)) pc' L' st' σ') ∨ r = .inr (oF, σF)) → σ0.2.1 ≤ τ.2.1 → σ0.2.2 ≤ τ.2.2 → ∀ (H1 : Heap) (locs1 : List Loc) (cells1 slots1 : Nat) (q : Addr) (ce : Cell) (ls : Array Slot) (rest : List Value), jR D s base H0 τ H1 → jLR ls nL L → (∀ q ∈ locs1, base ≤ q.base) → cells1 + σ0.2.1 = τ.2.1 → slots1 + σ0.2.2 = τ.2.2 → H1[q]? = some ce → ce.vm = .none → s.vm.findClass (jEN E) = some ce.cls → vx_W p l e R s m args below meth c H1 locs1 cells1 slots1 (vx_MQ below (jQc D base H0 oF σF) (jXc D base H0 oF σF) args s (σF.2.1 - σ0.2.1) (σF.2.2 - σ0.2.2) (fun q => base ≤ q)) (F0 m pc ls rest) q) :
    ∀ (k pc : Nat) (L : jL) (st : List Value) (σ : jS), jexec CC A hs jow jna rt code k pc L st σ = some (oF, σF) → jle σ0 σ → jG p l e R s m args below meth c D base H0 nL σ0 (vx_MQ below (jQc D base H0 oF σF) (jXc D base H0 oF σF) args s (σF.2.1 - σ0.2.1) (σF.2.2 - σ0.2.2) (fun q => base ≤ q)) pc L st σ := by
  have hmono : ∀ n as σ o τ, CC n as σ = some (o, τ) → jle σ τ := fun n as σ o τ h => ⟨(hIH n as σ o τ h).1, (hIH n as σ o τ h).2.1⟩
  intro k
  induction k with
  | zero => intro pc L st σ h; cases h
  | succ k ih =>
    intro pc L st σ h hle
    unfold jexec at h
    cases hc : code pc with
    | none => rw [hc] at h; cases h
    | some x =>
    obtain ⟨ins, len⟩ := x
    rw [hc] at h
    simp only at h
    have hck := hcode pc ins len hc
    have hst := jmo_step (A := A) (hs := hs) (ow := jow) (na := jna) (rt := rt) (code := code) (len := len) (pc := pc) (L := L) (st := st) (σ := σ) hmono ins
    obtain ⟨r, hr0, hcase⟩ : ∃ r, jstep CC A hs jow jna rt code ins len pc L st σ = some r ∧ ((∃ pc' L' st' σ', r = .inl (pc', L', st', σ') ∧ jle σ σ' ∧ jle σ' σF ∧ jG p l e R s m args below meth c D base H0 nL σ0 (vx_MQ below (jQc D base H0 oF σF) (jXc D base H0 oF σF) args s (σF.2.1 - σ0.2.1) (σF.2.2 - σ0.2.2) (fun q => base ≤ q)) pc' L' st' σ') ∨ (r = .inr (oF, σF) ∧ jle σ σF)) := by
      cases hr0 : jstep CC A hs jow jna rt code ins len pc L st σ with
      | none => rw [hr0] at h; cases h
      | some r =>
        rw [hr0] at h hst
        refine ⟨r, rfl, ?_⟩
        cases r with
        | inl x =>
          obtain ⟨pc', L', st', σ'⟩ := x
          exact Or.inl ⟨pc', L', st', σ', rfl, hst, jmo_exec hmono _ _ _ _ _ _ _ h, ih pc' L' st' σ' h (jle.tr hle hst)⟩
        | inr x =>
          obtain ⟨o, τ⟩ := x
          cases h
          exact Or.inr ⟨rfl, hst⟩
    clear h hst
    by_cases hj : ∃ q, ins = .jsr q
    · obtain ⟨q, rfl⟩ := hj
      have h2 : jtnew q.toNat st σ = some r := hr0
      unfold jtnew at h2
      split at h2
      · unfold jdn at h2
        cases h2
        rcases hcase with ⟨_, _, _, _, e, -⟩ | ⟨e, h9⟩
        · cases e
        · cases e
          simp only [jle, jnew] at hle h9 hRc hRs
          have hnt1 : ∀ x ∈ c.exceptionTable.toList, False := by
            rcases hnt with hnt | hnt
            · exact hnt.1
            · exact absurd rfl ((hnt _ _ _ hc).1 q)
          exact jg_throw C hml E0 hS0 hl hlk hnt1 (jchk_jsr hck) (by omega) (by omega) (by simp only [jnew]; omega) (by simp only [jnew]; omega) (by simp only [jnew]; omega) (by simp only [jnew]; omega)
      · cases h2
    obtain ⟨raw, hd, hmt⟩ := jchk_spec hck (fun q e => hj ⟨q, e⟩)
    by_cases hv : ∃ n, ins = .invokevirtual n
    · obtain ⟨n, rfl⟩ := hv
      obtain ⟨i, rfl, rfl, m1, m2⟩ := jmt_v hmt
      obtain ⟨i1, i2, i3, o, τ, i4, i5⟩ := jinv_inv (show jinv CC A hs jow jna code 1 n pc L st σ = some r from hr0)
      obtain ⟨a, As, i6, i7⟩ := jrcv_inv (by decide) i3
      obtain ⟨i9, i10⟩ := jstk i1 i6
      rw [i6] at i4
      have M := hIH _ _ _ _ _ i4
      intro H locs cells slots ls hR hL hlc hcc hss
      have hτ : jle τ σF := by
        rcases i5 with ⟨v, -, rfl⟩ | ⟨E, -, -, i11⟩
        · rcases hcase with ⟨_, _, _, _, e, -, h9, -⟩ | ⟨e, -⟩
          · cases e; exact h9
          · cases e
        · rcases hcase with ⟨_, _, _, _, rfl, -, h9, -⟩ | ⟨rfl, -⟩
          · rw [← (jthr_σ i11).1 _ _ _ _ rfl]; exact h9
          · rw [← ((jthr_σ i11).2 _ _ rfl).2]; exact jle.rf
      have hm1 := M.1
      have hm2 := M.2.1
      simp only [jle] at hle hτ
      rw [i9]
      refine jW_run M (jrunV C hml E0 M m2 i10 i7 hR hL i2 hf hlo (jMLt_w m1) hd (by omega) (by omega)) hL hlc hcc hss (fun v ho => ?_) (fun E ho hE H1 locs1 cells1 slots1 q1 ce hR1 hl1 hc1 hs1 g1 g2 g3 => ?_)
      · subst ho
        rcases i5 with ⟨v', e1, rfl⟩ | ⟨E, e1, -⟩
        · cases e1
          rcases hcase with ⟨_, _, _, _, e, -, -, g⟩ | ⟨e, -⟩
          · cases e; exact g
          · cases e
        · cases e1
      · subst ho
        rcases i5 with ⟨v', e1, -⟩ | ⟨E', e1, -, i11⟩
        · cases e1
        · cases e1
          refine hX pc E L τ r hE i11 ?_ (by omega) (by omega) H1 locs1 cells1 slots1 q1 ce ls _ hR1 hL hl1 hc1 hs1 g1 g2 g3
          rcases hcase with ⟨x1, x2, x3, x4, e, -, -, g⟩ | ⟨e, -⟩
          · exact Or.inl ⟨x1, x2, x3, x4, e, g⟩
          · exact Or.inr e
    by_cases hv2 : ∃ n, ins = .invokestatic n
    · obtain ⟨n, rfl⟩ := hv2
      obtain ⟨i, rfl, rfl, m1, m2⟩ := jmt_s hmt
      obtain ⟨i1, i2, i3, o, τ, i4, i5⟩ := jinv_inv (show jinv CC A hs jow jna code 0 n pc L st σ = some r from hr0)
      obtain ⟨i9, i10⟩ := jstk0 i1
      have M := hIH _ _ _ _ _ i4
      intro H locs cells slots ls hR hL hlc hcc hss
      have hτ : jle τ σF := by
        rcases i5 with ⟨v, -, rfl⟩ | ⟨E, -, -, i11⟩
        · rcases hcase with ⟨_, _, _, _, e, -, h9, -⟩ | ⟨e, -⟩
          · cases e; exact h9
          · cases e
        · rcases hcase with ⟨_, _, _, _, rfl, -, h9, -⟩ | ⟨rfl, -⟩
          · rw [← (jthr_σ i11).1 _ _ _ _ rfl]; exact h9
          · rw [← ((jthr_σ i11).2 _ _ rfl).2]; exact jle.rf
      have hm1 := M.1
      have hm2 := M.2.1
      simp only [jle] at hle hτ
      rw [i9]
      refine jW_run M (jrunS C hml E0 M m2 i10 hR hL i2 hf hlo (jMLt_w m1) hd (by omega) (by omega)) hL hlc hcc hss (fun v ho => ?_) (fun E ho hE H1 locs1 cells1 slots1 q1 ce hR1 hl1 hc1 hs1 g1 g2 g3 => ?_)
      · subst ho
        rcases i5 with ⟨v', e1, rfl⟩ | ⟨E, e1, -⟩
        · cases e1
          rcases hcase with ⟨_, _, _, _, e, -, -, g⟩ | ⟨e, -⟩
          · cases e; exact g
          · cases e
        · cases e1
      · subst ho
        rcases i5 with ⟨v', e1, -⟩ | ⟨E', e1, -, i11⟩
        · cases e1
        · cases e1
          refine hX pc E L τ r hE i11 ?_ (by omega) (by omega) H1 locs1 cells1 slots1 q1 ce ls _ hR1 hL hl1 hc1 hs1 g1 g2 g3
          rcases hcase with ⟨x1, x2, x3, x4, e, -, -, g⟩ | ⟨e, -⟩
          · exact Or.inl ⟨x1, x2, x3, x4, e, g⟩
          · exact Or.inr e
    by_cases hv3 : ∃ n, ins = .invokespecial n
    · obtain ⟨n, rfl⟩ := hv3
      obtain ⟨i, rfl, rfl, m1, m2⟩ := jmt_i hmt
      obtain ⟨i1, i2, i3, o, τ, i4, i5⟩ := jinv_inv (show jinv CC A hs jow jna code 2 n pc L st σ = some r from hr0)
      obtain ⟨a, As, i6, -⟩ := jrcv_inv (by decide) i3
      obtain ⟨i9, i10⟩ := jstk i1 i6
      rw [i6] at i4
      obtain ⟨v, rfl, rfl⟩ : ∃ v, o = .inl v ∧ r = .inl (pc + 3, L, v.toList ++ st.drop (jna n), τ) := by
        rcases i5 with i5 | ⟨E, -, hb, -⟩
        · exact i5
        · exact absurd rfl hb
      rcases hcase with ⟨_, _, _, _, e9, h8, h9, g⟩ | ⟨e9, -⟩
      · cases e9
        have M := hIH _ _ _ _ _ i4
        intro H locs cells slots ls hR hL hlc hcc hss
        have hm1 := M.1
        have hm2 := M.2.1
        simp only [jle] at hle h9
        have hk : n < jnm := jkd_lt (by omega)
        obtain ⟨a1, a2, a3, a4, a5, a6, a7, a8, a9, a10, a11⟩ := jmeth hk
        have hp : PreS s H (jPc A D base H0 (.ref a :: As) σ) (.ref a :: As) := ⟨jPc_blind, fun U hU hW => ⟨rfl, E0.warm hW, by rw [hU]; exact hR.moved hW.alike⟩⟩
        have hW : 2 * (F0 m pc ls (As.reverse ++ .ref a :: st.drop (jna n))).monitorRoom + ((st.drop (jna n)).map fun v => v.category).sum ≤ 8 := lv_room i2
        have hMm := M.met D base H0
        have hki := List.all_eq_true.mp jkd_ini n (List.mem_range.mpr hk)
        simp only [decide_eq_true_eq] at hki
        obtain ⟨hc1, hrn⟩ := hki m2
        have hrun : va_Run p l e R s m args below meth c H locs cells slots (τ.2.1 - σ.2.1) (τ.2.2 - σ.2.2) (F0 m pc ls (As.reverse ++ .ref a :: st.drop (jna n))) (st.drop (jna n)) (jQc D base H0 (.inl v) τ (Value.ref a :: As).toArray) (fun q => base ≤ q) := by
          rcases m1 with m1 | ⟨rfl, rfl, rfl⟩
          · have cb := jcallB (mc := τ.2.1 - σ.2.1) (ms := τ.2.2 - σ.2.2) C hk hc1 hf hlo (jMLt_w m1)
            rw [if_neg (by omega), hrn] at cb
            exact va_runI ⟨C.1, C.2.1, hml, C.2.2.1, C.2.2.2.1⟩ hMm ⟨cb, a9 m2, C.2.2.2.1 _ (a3 (by omega))⟩ hp rfl (by omega) hL.2.1 rfl hW hd ⟨by omega, by omega⟩
          · have hcw : Cond.code (jy 174) (jby 174) (jmL 174) none ∈ jws 174 := by rw [jws1 hc1, hrn]; exact List.mem_cons_self
            have cn : va_CN R s args (jRN 12) 633 (jy 174) RX12 (jby 174) (jmL 174) none (jws 174) (jrm d (τ.2.1 - σ.2.1) (τ.2.2 - σ.2.2)) (τ.2.1 - σ.2.1) (τ.2.2 - σ.2.2) (jna 174 - 1) := by
              refine ⟨⟨rfl, rfl, (by simp only [jrm]; omega), (by simp only [jrm]; omega), fun w hw a' U hW => jW_move hW (jws_sub a1 w hw) (C.2.2.2.1 w (jws_sub a1 w hw)), hcw⟩, C.2.2.2.1 _ (jws_sub a1 _ hcw), C.2.2.2.1 _ a5, (by rw [a6]; exact jRN_ne _), fun sig h => ?_, va_Nw.use rfl E0.2.2.2.2.2.2.2.2.1⟩
              rw [h, if_neg (by omega)] at a7
              exact (Option.some.inj a7).symm
            exact va_runIN ⟨C.1, C.2.1, hml, C.2.2.1, C.2.2.2.1⟩ hMm ⟨cn, a9 m2, C.2.2.2.1 _ (a3 (by omega))⟩ hp rfl (by omega) hL.2.1 rfl hW hd ⟨by omega, by omega⟩
        conv => arg 16; rw [i9]
        exact jW_runI M hrun hL hlc hcc hss g
      · cases e9
    by_cases hra : ins = .ireturn ∨ ins = .lreturn ∨ ins = .areturn ∨ ins = .return_ ∨ ins = .athrow
    · obtain ⟨rfl, rfl⟩ := jmt_r hra hmt
      rcases hra with rfl | rfl | rfl | rfl | rfl
      · rcases hcase with ⟨_, _, _, _, rfl, -⟩ | ⟨rfl, h9⟩
        · exact absurd hr0 jret_ni
        · simp only [jle] at hle h9
          exact jend_i C hr hlk hd hr0 (by omega) (by omega)
      · rcases hcase with ⟨_, _, _, _, rfl, -⟩ | ⟨rfl, h9⟩
        · exact absurd hr0 jret_ni
        · simp only [jle] at hle h9
          exact jend_l C hr hlk hd hr0 (by omega) (by omega)
      · rcases hcase with ⟨_, _, _, _, rfl, -⟩ | ⟨rfl, h9⟩
        · exact absurd hr0 jret_ni
        · simp only [jle] at hle h9
          exact jend_a C hr hlk hd hr0 (by omega) (by omega)
      · rcases hcase with ⟨_, _, _, _, rfl, -⟩ | ⟨rfl, h9⟩
        · exact absurd hr0 jretv_ni
        · simp only [jle] at hle h9
          exact jend_v C hr hlk hd hr0 (by omega) (by omega)
      · have hnt1 : (∀ x ∈ c.exceptionTable.toList, False) ∧ hs = [] := by
          rcases hnt with hnt | hnt
          · exact hnt
          · exact absurd rfl (hnt _ _ _ hc).2
        obtain ⟨hnt1, rfl⟩ := hnt1
        have h2 : jath [] code pc L st σ = some r := hr0
        unfold jath at h2
        split at h2
        · next a r9 =>
          split at h2
          · next q hq =>
            split at h2
            · next hq1 =>
              rw [jthr_nil] at h2
              unfold jdn at h2
              cases h2
              rcases hcase with ⟨_, _, _, _, e9, -⟩ | ⟨e9, h9⟩
              · cases e9
              · cases e9
                simp only [jle] at hle
                exact jg_athrow C hlk hnt1 hd hq hq1 (by omega) (by omega)
            · cases h2
          · cases h2
        · cases h2
    · rcases hcase with ⟨pc', L', st', σ', rfl, h8, h9, g⟩ | ⟨rfl, h9⟩
      · simp only [jle] at hle h9
        exact jone C hml E0.2.2.1 E0.2.2.2.2.2.2.2.2.2 hini hmt hd (by omega) (by omega) (by omega) (by omega) (fun q => hra (Or.inr (Or.inr (Or.inr (Or.inr q))))) (fun k q => hv ⟨k, q⟩) (fun k q => hv2 ⟨k, q⟩) (fun k q => hv3 ⟨k, q⟩) hr0 g
      · exact absurd hr0 (jni_step ins hra hj hv hv2 hv3 _)
/-- a body without a table -/
theorem jX_nil (hlk : meth.locks = false) (hnt : ∀ x ∈ c.exceptionTable.toList, False) : ∀ (pc E : Nat) (L : jL) (τ : jS) (r : jX ⊕ (jO × jS)), E ∈ jEs → jthr [] code pc E L τ = some r → ((∃ pc' L' st' σ', r = .inl (pc', L', st', σ') ∧ jG p l e R s m args below meth c D base H0 nL σ0 (vx_MQ below (jQc D base H0 oF σF) (jXc D base H0 oF σF) args s (σF.2.1 - σ0.2.1) (σF.2.2 - σ0.2.2) (fun q => base ≤ q)) pc' L' st' σ') ∨ r = .inr (oF, σF)) → σ0.2.1 ≤ τ.2.1 → σ0.2.2 ≤ τ.2.2 → ∀ (H1 : Heap) (locs1 : List Loc) (cells1 slots1 : Nat) (q : Addr) (ce : Cell) (ls : Array Slot) (rest : List Value), jR D s base H0 τ H1 → jLR ls nL L → (∀ q ∈ locs1, base ≤ q.base) → cells1 + σ0.2.1 = τ.2.1 → slots1 + σ0.2.2 = τ.2.2 → H1[q]? = some ce → ce.vm = .none → s.vm.findClass (jEN E) = some ce.cls → vx_W p l e R s m args below meth c H1 locs1 cells1 slots1 (vx_MQ below (jQc D base H0 oF σF) (jXc D base H0 oF σF) args s (σF.2.1 - σ0.2.1) (σF.2.2 - σ0.2.2) (fun q => base ≤ q)) (F0 m pc ls rest) q := by
  intro pc E L τ r hE h hcase h1 h2 H1 locs1 cells1 slots1 q ce ls rest hR hL hl hc hs g1 g2 g3
  rw [jthr_nil] at h
  unfold jdn at h
  cases h
  rcases hcase with ⟨_, _, _, _, e, -⟩ | e
  · cases e
  · cases e
    exact jout (Q := fun _ => True) hlk hnt hE (by omega) (by omega) hR hl hc hs g1 g2 g3
end JMAIN
