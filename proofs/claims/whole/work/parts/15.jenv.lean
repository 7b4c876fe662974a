def jSRt : List (Nat × Nat × String) := [(10, 93, "the tape is full"), (10, 103, "not a length of the tape"), (10, 135, "the tape is not a name"), (10, 162, "turns out of range"), (10, 168, "time out of range"), (10, 173, "nothing to look at"), (10, 205, "no such variable"), (10, 210, "nothing to ask of a signal"), (10, 212, "no such signal"), (10, 226, "nothing to ask of an event"), (10, 235, "no such event"), (10, 245, "no such byte of out"), (10, 247, "nothing to look for"), (10, 249, "no such process or state"), (10, 258, "no such act"), (10, 277, "a race has two sides"), (10, 279, "no such race"), (10, 287, "nothing to count"), (10, 320, "there is no system"), (10, 323, "there is no chart"), (10, 330, "no such instance")]
/-! what holds at the start of every method, and what a method owes -/
def jEN (k : Nat) : String := match k with
  | 11 => RX11
  | 41 => "java/lang/IndexOutOfBoundsException"
  | 42 => "java/lang/IllegalArgumentException"
  | 43 => "java/lang/IllegalStateException"
  | 44 => "java/util/NoSuchElementException"
  | _ => "java/lang/UnsupportedOperationException"
def jEs : List Nat := [11, 41, 42, 43, 44, 45]
/-- words that no warming takes away, beside the good ones -/
def jV : List Cond := lw_tbl.filter (fun w => w.onTables && w.keepsFace)
def jenv (A : Nat → Nat) (D : va_G) (U : State) (base : Nat) (H0 : Heap) : Prop :=
  H0.size = base ∧ va_K D vwCl [] U ∧ va_AO RX2 U ∧ (∀ w ∈ jV, w.before #[] U = true) ∧ vx_Zq Bundle.tN "UNASSIGNED_STACK" Bundle.steD (fun q => base ≤ q) U H0 ∧ vx_Zq Bundle.tN "SUPPRESSED_SENTINEL" Bundle.listD (fun q => base ≤ q) U H0 ∧
  (∀ a ∈ jEs, ∀ b ∈ jEs, a ≠ b → va_Nc (jEN a) (jEN b) U) ∧ (∀ q ∈ jSRt, ∃ sa, vk_R (jRN q.1) q.2.1 q.2.2 sa U) ∧ va_Nw (.methodLinkNest RX12 633 (jy jFI) RX12) U ∧ jtxe A U base H0
theorem jV_any {w : Cond} (hw : w ∈ jV) {A A' : Array Value} {U : State} (h : w.before A U = true) : w.before A' U = true := by
  have h1 := (List.mem_filter.mp hw).2
  simp only [Bool.and_eq_true] at h1
  exact va_any h1.1 h
theorem jenv.warm {A : Nat → Nat} {D : va_G} {s U : State} {base : Nat} {H0 : Heap} (hW : s.WarmedH U.vm) (h : jenv A D s base H0) : jenv A D U base H0 := by
  obtain ⟨h1, h2, h3, h4, h5, h6, h7, h8, h9, h10⟩ := h
  refine ⟨h1, va_K.moved hW.alike h2, va_AO.moved hW.alike h3, fun w hw => ?_, vx_Zq.moved hW.alike h5, vx_Zq.moved hW.alike h6, fun a ha b hb hab => va_Nc.moved hW.alike (h7 a ha b hb hab), fun q hq => ?_, va_Nw.warmM hW h9, jtxe.warm hW h10⟩
  · have g1 := (List.mem_filter.mp hw).2
    simp only [Bool.and_eq_true] at g1
    exact va_tabs g1.1 (rfl : (s.setVm U.vm).vm = U.vm) (Cond.before_shiftedFace (State.Shifted.of_warmed hW) w g1.2 (h4 w hw))
  · obtain ⟨sa, hs⟩ := h8 q hq
    exact ⟨sa, vk_R.warm hW hs⟩
theorem jenv.same {A : Nat → Nat} {D : va_G} {s U : State} {base : Nat} {H0 : Heap} (hv : U.vm = s.vm) (h : jenv A D s base H0) : jenv A D U base H0 := h.warm (by rw [hv]; exact State.WarmedH.refl s)
def jPc (A : Nat → Nat) (D : va_G) (base : Nat) (H0 : Heap) (as : List Value) (σ : jS) : Array Value → State → Prop := fun a U => a = as.toArray ∧ jenv A D U base H0 ∧ jR D U base H0 σ U.heap
def jQc (D : va_G) (base : Nat) (H0 : Heap) (o : jO) (σ' : jS) : Array Value → State → Outcome → State → Prop := fun _ st oc t => ∃ v, o = .inl v ∧ oc = .returned v ∧ jR D t base H0 σ' t.heap
def jXc (D : va_G) (base : Nat) (H0 : Heap) (o : jO) (σ' : jS) : String → State → State → Prop := fun E st t => ∃ k, o = .inr k ∧ k ∈ jEs ∧ E = jEN k ∧ jR D t base H0 σ' t.heap
theorem jPc_blind {A : Nat → Nat} {D : va_G} {base : Nat} {H0 : Heap} {as : List Value} {σ : jS} : FrameBlind (jPc A D base H0 as σ) := by
  intro a U g mk h
  obtain ⟨h1, h2, h3⟩ := h
  exact ⟨h1, jenv.same (s := U) (U := U.calling g mk a) rfl h2, jR.moved (u := U) (U := U.calling g mk a) (Vm.Alike.refl U.vm) h3⟩
def jrm (d mc ms : Nat) : Room := { frames := d + 8, cells := mc, slots := ms, locals := 41 * d + 200 }
/-- the contract of method n at depth d: from the J state σ it comes to σ', and ends with o -/
def jMet (A : Nat → Nat) (l : Launch) (d n : Nat) (as : List Value) (σ : jS) (o : jO) (σ' : jS) : Prop :=
  σ.2.1 ≤ σ'.2.1 ∧ σ.2.2 ≤ σ'.2.2 ∧ ∀ (D : va_G) (base : Nat) (H0 : Heap), vx_Met l (jy n) (jws n) (jrm d (σ'.2.1 - σ.2.1) (σ'.2.2 - σ.2.2)) (jPc A D base H0 as σ) (jQc D base H0 o σ') (jXc D base H0 o σ') (σ'.2.1 - σ.2.1) (σ'.2.2 - σ.2.2) (fun q => base ≤ q)
section JRET
variable {p : Program} {l : Launch} {e : Env} {R : Room} {s : State} {m : MethodId} {args : Array Value} {below : List Frame} {meth : Method} {c : Code} {D : va_G} {base : Nat} {H0 : Heap} {nL : Nat} {σ0 : jS} {own : String} {cc : ByteArray} {pc : Nat} {L : jL} {st : List Value} {σ σ' : jS} {o : jO} {rt : Option FieldType} {mc ms : Nat} {XC : String → State → State → Prop}
theorem jend_i (C : jCx p s m args c D own cc) (hr : meth.sig.returnType = rt) (hlk : meth.locks = false) (hd : decode cc pc = .ok (.ireturn, 1)) (h : jret rt jisI st σ = some (.inr (o, σ'))) (h1 : σ'.2.1 = σ0.2.1 + mc) (h2 : σ'.2.2 = σ0.2.2 + ms) :
    jG p l e R s m args below meth c D base H0 nL σ0 (vx_MQ below (jQc D base H0 o σ') XC args s mc ms (fun q => base ≤ q)) pc L st σ := by
  intro H locs cells slots ls hR hL hl hc hs
  unfold jret at h
  split at h
  · next v ty =>
    split at h
    · next hv =>
      unfold jdn at h
      cases h
      have e1 : cells = mc := by omega
      have e2 : slots = ms := by omega
      subst e1; subst e2
      obtain ⟨hv, hf⟩ := hv
      cases v <;> simp [jisI] at hv
      exact vx_ret (W.zret C.1 C.2.1 hr (jfits_spec hf).1 (fun t ht hW => ⟨_, rfl, rfl, by rw [ht]; exact hR.moved hW.alike⟩) hl hd hlk)
    · cases h
  · cases h
theorem jend_l (C : jCx p s m args c D own cc) (hr : meth.sig.returnType = rt) (hlk : meth.locks = false) (hd : decode cc pc = .ok (.lreturn, 1)) (h : jret rt jisL st σ = some (.inr (o, σ'))) (h1 : σ'.2.1 = σ0.2.1 + mc) (h2 : σ'.2.2 = σ0.2.2 + ms) :
    jG p l e R s m args below meth c D base H0 nL σ0 (vx_MQ below (jQc D base H0 o σ') XC args s mc ms (fun q => base ≤ q)) pc L st σ := by
  intro H locs cells slots ls hR hL hl hc hs
  unfold jret at h
  split at h
  · next v ty =>
    split at h
    · next hv =>
      unfold jdn at h
      cases h
      have e1 : cells = mc := by omega
      have e2 : slots = ms := by omega
      subst e1; subst e2
      obtain ⟨hv, hf⟩ := hv
      cases v <;> simp [jisL] at hv
      have hty : ty = .long := by
        cases ty <;> simp [jfits] at hf
        rfl
      subst hty
      exact vx_ret (W.lret C.1 C.2.1 hr (fun t ht hW => ⟨_, rfl, rfl, by rw [ht]; exact hR.moved hW.alike⟩) hl hd hlk)
    · cases h
  · cases h
theorem jend_a (C : jCx p s m args c D own cc) (hr : meth.sig.returnType = rt) (hlk : meth.locks = false) (hd : decode cc pc = .ok (.areturn, 1)) (h : jret rt jisR st σ = some (.inr (o, σ'))) (h1 : σ'.2.1 = σ0.2.1 + mc) (h2 : σ'.2.2 = σ0.2.2 + ms) :
    jG p l e R s m args below meth c D base H0 nL σ0 (vx_MQ below (jQc D base H0 o σ') XC args s mc ms (fun q => base ≤ q)) pc L st σ := by
  intro H locs cells slots ls hR hL hl hc hs
  unfold jret at h
  split at h
  · next v ty =>
    split at h
    · next hv =>
      unfold jdn at h
      cases h
      have e1 : cells = mc := by omega
      have e2 : slots = ms := by omega
      subst e1; subst e2
      obtain ⟨hv, hf⟩ := hv
      have hv2 : v = .null ∨ ∃ a, v = .ref a := by
        cases v <;> simp [jisR] at hv
        · exact Or.inl rfl
        · exact Or.inr ⟨_, rfl⟩
      have hty : (∃ n, ty = .object n) ∨ ∃ t, ty = .array t := by
        rcases hv2 with rfl | ⟨a, rfl⟩ <;> cases ty <;> simp [jfits] at hf <;> first | exact Or.inl ⟨_, rfl⟩ | exact Or.inr ⟨_, rfl⟩
      exact vx_ret (W.aret C.1 C.2.1 hr hty hv2 (fun t ht hW => ⟨_, rfl, rfl, by rw [ht]; exact hR.moved hW.alike⟩) hl hd hlk)
    · cases h
  · cases h
theorem jend_v (C : jCx p s m args c D own cc) (hr : meth.sig.returnType = rt) (hlk : meth.locks = false) (hd : decode cc pc = .ok (.return_, 1)) (h : jretv rt st σ = some (.inr (o, σ'))) (h1 : σ'.2.1 = σ0.2.1 + mc) (h2 : σ'.2.2 = σ0.2.2 + ms) :
    jG p l e R s m args below meth c D base H0 nL σ0 (vx_MQ below (jQc D base H0 o σ') XC args s mc ms (fun q => base ≤ q)) pc L st σ := by
  intro H locs cells slots ls hR hL hl hc hs
  unfold jretv at h
  split at h
  · unfold jdn at h
    cases h
    have e1 : cells = mc := by omega
    have e2 : slots = ms := by omega
    subst e1; subst e2
    exact vx_ret (W.vret C.1 C.2.1 hr (fun t ht hW => ⟨_, rfl, rfl, by rw [ht]; exact hR.moved hW.alike⟩) hl hd hlk)
  · cases h
end JRET
