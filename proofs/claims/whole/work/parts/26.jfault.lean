/-! printed by gen.py (head) and 26.head.txt: the constructors that a Fault runs through -/
def jfN1 : String := "java/lang/RuntimeException"
def jfy1 : MethodName := ⟨jfN1, "<init>", "(Ljava/lang/String;Ljava/lang/Throwable;ZZ)V"⟩
def jfb1 : ByteArray := prog_22_method_5_code
theorem jfc1 : Cond.code jfy1 jfb1 5 none ∈ jW := jW_tw (p := 9170) (by decide +kernel) (by decide +kernel)
theorem jfi1 : Cond.instanceMethod jfy1 ∈ jW := jW_tw (p := 9169) (by decide +kernel) (by decide +kernel)
theorem jfn1 : Cond.initialized jfN1 ∈ jW := jW_tw (p := 1020) (by decide +kernel) (by decide +kernel)
def jfN2 : String := "java/lang/Exception"
def jfy2 : MethodName := ⟨jfN2, "<init>", "(Ljava/lang/String;Ljava/lang/Throwable;ZZ)V"⟩
def jfb2 : ByteArray := prog_17_method_5_code
theorem jfc2 : Cond.code jfy2 jfb2 5 none ∈ jW := jW_tw (p := 9173) (by decide +kernel) (by decide +kernel)
theorem jfi2 : Cond.instanceMethod jfy2 ∈ jW := jW_tw (p := 9172) (by decide +kernel) (by decide +kernel)
theorem jfn2 : Cond.initialized jfN2 ∈ jW := jW_tw (p := 1019) (by decide +kernel) (by decide +kernel)
def jfN3 : String := "java/lang/Throwable"
def jfy3 : MethodName := ⟨jfN3, "<init>", "(Ljava/lang/String;Ljava/lang/Throwable;ZZ)V"⟩
def jfb3 : ByteArray := prog_27_method_5_code
theorem jfc3 : Cond.code jfy3 jfb3 5 none ∈ jW := jW_tw (p := 9176) (by decide +kernel) (by decide +kernel)
theorem jfi3 : Cond.instanceMethod jfy3 ∈ jW := jW_tw (p := 9175) (by decide +kernel) (by decide +kernel)
theorem jfn3 : Cond.initialized jfN3 ∈ jW := jW_tw (p := 1018) (by decide +kernel) (by decide +kernel)
theorem jfl1 : Cond.methodLink RX11 1 jfy1 ∈ jW := jW_tw (p := 9168) (by decide +kernel) (by decide +kernel)
theorem jfl2 : Cond.methodLink jfN1 16 jfy2 ∈ jW := jW_tw (p := 9171) (by decide +kernel) (by decide +kernel)
theorem jfl3 : Cond.methodLink jfN2 16 jfy3 ∈ jW := jW_tw (p := 9174) (by decide +kernel) (by decide +kernel)
theorem jfl4 : Cond.methodLink jfN3 1 Lib.objectInit ∈ jW := jW_tw (p := 5113) (by decide +kernel) (by decide +kernel)
theorem jff7 : Cond.fieldLink jfN3 7 jfN3 "cause" "Ljava/lang/Throwable;" ∈ jW := jW_tw (p := 5147) (by decide +kernel) (by decide +kernel)
theorem jff13 : Cond.fieldLink jfN3 13 jfN3 "UNASSIGNED_STACK" "[Ljava/lang/StackTraceElement;" ∈ jW := jW_tw (p := 5114) (by decide +kernel) (by decide +kernel)
theorem jff17 : Cond.fieldLink jfN3 17 jfN3 "stackTrace" "[Ljava/lang/StackTraceElement;" ∈ jW := jW_tw (p := 5148) (by decide +kernel) (by decide +kernel)
theorem jff20 : Cond.fieldLink jfN3 20 jfN3 "SUPPRESSED_SENTINEL" "Ljava/util/List;" ∈ jW := jW_tw (p := 5116) (by decide +kernel) (by decide +kernel)
theorem jff24 : Cond.fieldLink jfN3 24 jfN3 "suppressedExceptions" "Ljava/util/List;" ∈ jW := jW_tw (p := 5149) (by decide +kernel) (by decide +kernel)
theorem jff31 : Cond.fieldLink jfN3 31 jfN3 "detailMessage" "Ljava/lang/String;" ∈ jW := jW_tw (p := 5146) (by decide +kernel) (by decide +kernel)
section JFAULT
variable {A : Nat → Nat} {p : Program} {l : Launch} {e : Env} {R : Room} {s : State} {m : MethodId} {args : Array Value} {below : List Frame} {meth : Method} {c : Code} {D : va_G} {base : Nat} {H0 : Heap} {nL : Nat} {σ0 : jS} {Q : State → Prop} {own : String} {cc : ByteArray} {pc : Nat} {L : jL} {st : List Value} {σ : jS}
theorem jset_at {σ : jS} {a : Nat} {c : jC} : (jset σ a c).1 a = some c := jup_self
theorem jset_set {σ : jS} {a : Nat} {c c' : jC} : jset (jset σ a c) a c' = jset σ a c' := by
  unfold jset
  congr 1
  funext b
  simp only [jup]
  split <;> rfl
theorem jset_self {σ : jS} {a : Nat} {c : jC} (h : σ.1 a = some c) : jset σ a c = σ := by
  unfold jset
  obtain ⟨f, r⟩ := σ
  congr 1
  funext b
  simp only [jup]
  split
  · next e => subst e; exact h.symm
  · rfl
theorem jf_put {i f a n : Nat} {v : Value} {w : Nat → Value} {r : List Value} (C : jCx p s m args c D own cc) (hd : decode cc pc = .ok (.putfield i, 3)) (hf : f < 6) (hw : Cond.fieldLink own i (TX11 f).1 (TX11 f).2.1 (TX11 f).2.2.1 ∈ jW) (hfin : (TX11 f).2.2.2 = false) (hv : jfits (tyX11 f) v = true)
    (g : jG p l e R s m args below meth c D base H0 nL σ0 Q (pc + 3) L r (jset σ a (11, n, updV w f v))) : jG p l e R s m args below meth c D base H0 nL σ0 Q pc L (v :: .ref a :: r) (jset σ a (11, n, w)) := by
  have e1 : (2816 + f) / 256 = 11 := by omega
  have e2 : (2816 + f) % 256 = f := by omega
  refine jg_put (k := 2816 + f) C hd (by omega) (by rw [e1, e2]; exact hf) (by rw [e1, e2]; exact hw) (Or.inl (by rw [e1, e2]; exact hfin)) (pc' := pc + 3) (L' := L) (st' := r) (σ' := jset σ a (11, n, updV w f v)) ?_ g
  unfold jput
  simp only
  rw [jset_at]
  simp only [e1, e2]
  rw [if_pos ⟨trivial, hv⟩, jset_set]
  rfl
theorem jf_ald {i : Fin 4} {v : Value} (C : jCx p s m args c D own cc) (hd : decode cc pc = .ok (.aload_n i, 1)) (hL : L[i.val]? = some (some v)) (hv : jisR v = true) (g : jG p l e R s m args below meth c D base H0 nL σ0 Q (pc + 1) L (v :: st) σ) : jG p l e R s m args below meth c D base H0 nL σ0 Q pc L st σ :=
  jg_aload_n C hd (by unfold jld; rw [hL]; simp only; rw [if_pos hv]; rfl) g
theorem jf_ildn {i : Fin 4} {v : Value} (C : jCx p s m args c D own cc) (hd : decode cc pc = .ok (.iload_n i, 1)) (hL : L[i.val]? = some (some v)) (hv : jisI v = true) (g : jG p l e R s m args below meth c D base H0 nL σ0 Q (pc + 1) L (v :: st) σ) : jG p l e R s m args below meth c D base H0 nL σ0 Q pc L st σ :=
  jg_iload_n C hd (by unfold jld; rw [hL]; simp only; rw [if_pos hv]; rfl) g
theorem jf_ild {i : Nat} {v : Value} (C : jCx p s m args c D own cc) (hd : decode cc pc = .ok (.iload i, 2)) (hL : L[i]? = some (some v)) (hv : jisI v = true) (g : jG p l e R s m args below meth c D base H0 nL σ0 Q (pc + 2) L (v :: st) σ) : jG p l e R s m args below meth c D base H0 nL σ0 Q pc L st σ :=
  jg_iload C hd (by unfold jld; rw [hL]; simp only; rw [if_pos hv]; rfl) g
end JFAULT
def jfas (a : Nat) : List Value := [.ref a, .null, .null, .int 0, .int 0]
def jfr (k : Nat) : Room := { frames := k + 1, cells := 0, slots := 0, locals := 41 * k + 60 }
def jfok (a : Nat) (σ : jS) : Prop := ∃ n w, σ.1 a = some (11, n, w) ∧ w 0 = .null ∧ w 1 = .null ∧ w 2 = .null ∧ w 3 = .null
/-- the contract of one of these constructors -/
def jfM (A : Nat → Nat) (l : Launch) (y : MethodName) (b : ByteArray) (k : Nat) : Prop := ∀ (D : va_G) (base : Nat) (H0 : Heap) (a : Nat) (σ : jS), jfok a σ →
  vx_Met l y (Cond.code y b 5 none :: jW) (jfr k) (jPc A D base H0 (jfas a) σ) (jQc D base H0 (.inl none) σ) (jXc D base H0 (.inl none) σ) 0 0 (fun q => base ≤ q)
theorem jfT0 : decode jfb3 0 = .ok (.aload_n 0, 1) := by decide +kernel
theorem jfT1 : decode jfb3 1 = .ok (.invokespecial 1, 3) := by decide +kernel
theorem jfT4 : decode jfb3 4 = .ok (.aload_n 0, 1) := by decide +kernel
theorem jfT5 : decode jfb3 5 = .ok (.aload_n 0, 1) := by decide +kernel
theorem jfT6 : decode jfb3 6 = .ok (.putfield 7, 3) := by decide +kernel
theorem jfT9 : decode jfb3 9 = .ok (.aload_n 0, 1) := by decide +kernel
theorem jfT10 : decode jfb3 10 = .ok (.getstatic 13, 3) := by decide +kernel
theorem jfT13 : decode jfb3 13 = .ok (.putfield 17, 3) := by decide +kernel
theorem jfT16 : decode jfb3 16 = .ok (.aload_n 0, 1) := by decide +kernel
theorem jfT17 : decode jfb3 17 = .ok (.getstatic 20, 3) := by decide +kernel
theorem jfT20 : decode jfb3 20 = .ok (.putfield 24, 3) := by decide +kernel
theorem jfT23 : decode jfb3 23 = .ok (.iload 4, 2) := by decide +kernel
theorem jfT25 : decode jfb3 25 = .ok (.ifCond .eq 11, 3) := by decide +kernel
theorem jfT36 : decode jfb3 36 = .ok (.aload_n 0, 1) := by decide +kernel
theorem jfT37 : decode jfb3 37 = .ok (.aconst_null, 1) := by decide +kernel
theorem jfT38 : decode jfb3 38 = .ok (.putfield 17, 3) := by decide +kernel
theorem jfT41 : decode jfb3 41 = .ok (.aload_n 0, 1) := by decide +kernel
theorem jfT42 : decode jfb3 42 = .ok (.aload_n 1, 1) := by decide +kernel
theorem jfT43 : decode jfb3 43 = .ok (.putfield 31, 3) := by decide +kernel
theorem jfT46 : decode jfb3 46 = .ok (.aload_n 0, 1) := by decide +kernel
theorem jfT47 : decode jfb3 47 = .ok (.aload_n 2, 1) := by decide +kernel
theorem jfT48 : decode jfb3 48 = .ok (.putfield 7, 3) := by decide +kernel
theorem jfT51 : decode jfb3 51 = .ok (.iload_n 3, 1) := by decide +kernel
theorem jfT52 : decode jfb3 52 = .ok (.ifCond .ne 8, 3) := by decide +kernel
theorem jfT55 : decode jfb3 55 = .ok (.aload_n 0, 1) := by decide +kernel
theorem jfT56 : decode jfb3 56 = .ok (.aconst_null, 1) := by decide +kernel
theorem jfT57 : decode jfb3 57 = .ok (.putfield 24, 3) := by decide +kernel
theorem jfT60 : decode jfb3 60 = .ok (.return_, 1) := by decide +kernel
def jfL (a : Nat) : jL := [some (.ref a), some .null, some .null, some (.int 0), some (.int 0)]
theorem jf_back {w : Nat → Value} (h0 : w 0 = .null) (h1 : w 1 = .null) (h2 : w 2 = .null) (h3 : w 3 = .null) (v0 v1 v2 : Value) : updV (updV (updV (updV (updV (updV (updV w 0 v0) 1 v1) 2 v2) 1 .null) 3 .null) 0 .null) 2 .null = w := by
  funext i
  unfold updV
  by_cases e0 : i = 0
  · subst e0; simp [h0]
  by_cases e1 : i = 1
  · subst e1; simp [h1]
  by_cases e2 : i = 2
  · subst e2; simp [h2]
  by_cases e3 : i = 3
  · subst e3; simp [h3]
  simp [e0, e1, e2, e3]
theorem jf_ref {C n d : String} {A : Nat → Prop} {U : State} {H : Heap} (h : va_Zq C n d A U H) : ∃ v, va_Z C n d v A U H ∧ (∀ t, jfits (.object t) v = true) ∧ ∀ t, jfits (.array t) v = true := by
  rcases h with h | ⟨t, h⟩
  · exact ⟨_, h, fun _ => rfl, fun _ => rfl⟩
  · exact ⟨_, h, fun _ => rfl, fun _ => rfl⟩
theorem jfM3 {A : Nat → Nat} {l : Launch} : jfM A l jfy3 jfb3 0 := by
  intro D base H0 a σ hok
  obtain ⟨n, w, hσ, w0, w1, w2, w3⟩ := hok
  refine vx_ofW (cc := jfb3) (maxL := 5) (ret := none) (by decide +kernel) rfl ?_
  intro p e s m args below meth c s₁ B hml hnt hP
  obtain ⟨rfl, hE, hR⟩ := hP
  have hts := atoms_spec (ws := Cond.code jfy3 jfb3 5 none :: jW) B.pre
  have hown : s.vm.findClass jfN3 = some m.cls := findClass_of_methodNamed (x := jfy3) B.named
  have C : jCx p s m (jfas a).toArray c D jfN3 jfb3 := ⟨B.exec, B.bytes, hown, fun w hw => hts w (List.mem_cons_of_mem _ hw), hE.2.1⟩
  obtain ⟨vU, hU, -, uU⟩ := jf_ref hE.2.2.2.2.1.1
  obtain ⟨vN, hN, uN, -⟩ := jf_ref hE.2.2.2.2.2.1.1
  have key : jG p l e (headSpec (Cond.code jfy3 jfb3 5 none :: jW) (jfr 0)).room s m (jfas a).toArray below meth c D base H0 5 σ (vx_MQ below (jQc D base H0 (.inl none) σ) (jXc D base H0 (.inl none) σ) (jfas a).toArray s 0 0 (fun q => base ≤ q)) 0 (jfL a) [] σ := by
    refine jf_ald C jfT0 rfl rfl ?_
    refine jg_obj C hml jfT1 jfl4 jw_objI jw_objC (by show 1 ≤ 0 + 1; omega) (by show 20 ≤ 41 * 0 + 60; omega) (pc' := 4) (L' := jfL a) (st' := []) (σ' := σ) rfl ?_
    refine jf_ald C jfT4 rfl rfl (jf_ald C jfT5 rfl rfl ?_)
    have hgo : ∀ τ, τ = σ → jG p l e (headSpec (Cond.code jfy3 jfb3 5 none :: jW) (jfr 0)).room s m (jfas a).toArray below meth c D base H0 5 σ (vx_MQ below (jQc D base H0 (.inl none) σ) (jXc D base H0 (.inl none) σ) (jfas a).toArray s 0 0 (fun q => base ≤ q)) 60 (jfL a) [] τ := by
      intro τ hτ
      subst hτ
      exact jend_v C B.returns B.notSynchronized jfT60 rfl rfl rfl
    have hst : σ = jset σ a (11, n, w) := (jset_self hσ).symm
    refine Eq.mpr (congrArg (fun z => jG p l e (headSpec (Cond.code jfy3 jfb3 5 none :: jW) (jfr 0)).room s m (jfas a).toArray below meth c D base H0 5 σ (vx_MQ below (jQc D base H0 (.inl none) σ) (jXc D base H0 (.inl none) σ) (jfas a).toArray s 0 0 (fun q => base ≤ q)) 6 (jfL a) [.ref a, .ref a] z) hst) ?_
    refine jf_put C jfT6 (f := 0) (by omega) jff7 rfl rfl ?_
    refine jf_ald C jfT9 rfl rfl (jg_gets C jfT10 jff13 hU ?_)
    refine jf_put C jfT13 (f := 1) (by omega) jff17 rfl (uU _) ?_
    refine jf_ald C jfT16 rfl rfl (jg_gets C jfT17 jff20 hN ?_)
    refine jf_put C jfT20 (f := 2) (by omega) jff24 rfl (uN _) ?_
    refine jf_ild C jfT23 (v := .int 0) rfl rfl ?_
    refine jg_if_eq C jfT25 (t := 36) (by decide) (by decide) (pc' := 36) rfl ?_
    refine jf_ald C jfT36 rfl rfl (jg_null C jfT37 (pc' := 38) rfl ?_)
    refine jf_put C jfT38 (f := 1) (by omega) jff17 rfl rfl ?_
    refine jf_ald C jfT41 rfl rfl (jf_ald C jfT42 (v := .null) rfl rfl ?_)
    refine jf_put C jfT43 (f := 3) (by omega) jff31 rfl rfl ?_
    refine jf_ald C jfT46 rfl rfl (jf_ald C jfT47 (v := .null) rfl rfl ?_)
    refine jf_put C jfT48 (f := 0) (by omega) jff7 rfl rfl ?_
    refine jf_ildn C jfT51 (v := .int 0) rfl rfl ?_
    refine jg_if_ne C jfT52 (t := 60) (by decide) (by decide) (pc' := 55) rfl ?_
    refine jf_ald C jfT55 rfl rfl (jg_null C jfT56 (pc' := 57) rfl ?_)
    refine jf_put C jfT57 (f := 2) (by omega) jff24 rfl rfl ?_
    exact hgo _ (by rw [jf_back w0 w1 w2 w3, jset_self hσ])
  rw [lg_entry_eq]
  exact key s.heap [] 0 0 _ hR (jent_LR (nL := 5) (as := jfas a) (Nat.le_refl 5)) (fun q hq => by cases hq) (by omega) (by omega)
theorem jf_W {y : MethodName} {b : ByteArray} (hc : Cond.code y b 5 none ∈ jW) : ∀ w ∈ (Cond.code y b 5 none :: jW), w ∈ jW := by
  intro w hw
  rcases List.mem_cons.mp hw with rfl | h
  · exact hc
  · exact h
section JFCALL
variable {A : Nat → Nat} {p : Program} {l : Launch} {e : Env} {R : Room} {s : State} {m : MethodId} {args : Array Value} {below : List Frame} {meth : Method} {c : Code} {D : va_G} {base : Nat} {H0 : Heap} {nL : Nat} {σ0 : jS} {Q : State → Prop} {own : String} {cc : ByteArray} {pc : Nat} {L : jL} {σ : jS}
theorem jfM.met {y : MethodName} {b : ByteArray} {k a : Nat} (M : jfM A l y b k) (hok : jfok a σ) (D : va_G) (base : Nat) (H0 : Heap) : Met l y (Cond.code y b 5 none :: jW) (jfr k) (jPc A D base H0 (jfas a) σ) (jQc D base H0 (.inl none) σ) 0 0 (fun q => base ≤ q) := by
  have hM := M D base H0 a σ hok
  intro p e h1 h2 h3 s m args below h4 h5 h6 h7
  obtain ⟨n, o, a1, a2, a3, a4⟩ := hM p e h1 h2 h3 s m args below h4 h5 h6 h7
  rcases a4 with a4 | ⟨q, -, E, ce, L, ⟨x, hx, -⟩, -⟩
  · exact ⟨n, o, a1, a2, a3, a4⟩
  · cases hx
theorem jf_call {y : MethodName} {b : ByteArray} {i k a : Nat} (C : jCx p s m args c D own cc) (hml : c.maxLocals = nL) (E : jenv A D s base H0) (M : jfM A l y b k) (hok : jfok a σ) (hc : Cond.code y b 5 none ∈ jW) (hi : Cond.instanceMethod y ∈ jW) (hn : Cond.initialized y.cls ∈ jW) (hy : y.name = "<init>") (hne : y.cls ≠ "java/lang/invoke/MethodHandle" ∧ y.cls ≠ "java/lang/invoke/VarHandle")
    (hlen : (parseMethodDescriptor y.desc).map (fun d => d.parameters.length) = some 4) (hl : Cond.methodLink own i y ∈ jW) (hd : decode cc pc = .ok (.invokespecial i, 3)) (hf : k + 2 ≤ R.frames) (hlo : 41 * (k + 1) + 60 ≤ R.locals) (s1 : σ.2.1 = σ0.2.1) (s2 : σ.2.2 = σ0.2.2)
    (g : jG p l e R s m args below meth c D base H0 nL σ0 Q (pc + 3) L [] σ) : jG p l e R s m args below meth c D base H0 nL σ0 Q pc L [.int 0, .int 0, .null, .null, .ref a] σ := by
  intro H locs cells slots ls hR hL hlc hcc hss
  have hp : PreS s H (jPc A D base H0 (jfas a) σ) (.ref a :: [.null, .null, .int 0, .int 0]) := ⟨jPc_blind, fun U hU hW => ⟨rfl, E.warm hW, by rw [hU]; exact hR.moved hW.alike⟩⟩
  have cb : CallB R s args own i y b 5 none (Cond.code y b 5 none :: jW) (jfr k) 0 0 4 := by
    refine ⟨rfl, rfl, (by simp only [jfr]; omega), (by simp only [jfr]; omega), fun w hw a' U hW => jW_move hW (jf_W hc w hw) (C.2.2.2.1 w (jf_W hc w hw)), List.mem_cons_self, C.2.2.2.1 _ hc, C.2.2.2.1 _ hn, hne, fun sig h => ?_, C.2.2.2.1 _ hl⟩
    rw [h] at hlen
    exact (Option.some.inj hlen).symm
  have hW : 2 * (F0 m pc ls ([Value.null, .null, .int 0, .int 0].reverse ++ .ref a :: [])).monitorRoom + (([] : List Value).map fun v => v.category).sum ≤ 8 := lv_room (by decide)
  have hr := va_runI (g := F0 m pc ls ([Value.null, .null, .int 0, .int 0].reverse ++ .ref a :: [])) (rest := []) (e := e) (below := below) (meth := meth) (locs := locs) (cells := cells) (slots := slots) ⟨C.1, C.2.1, hml, C.2.2.1, C.2.2.2.1⟩ (M.met hok D base H0) ⟨cb, hy, C.2.2.2.1 _ hi⟩ hp rfl rfl hL.2.1 rfl hW hd ⟨by omega, by omega⟩
  intro T hT X
  obtain ⟨v3, st₀, t, T', L', h0, X', hL', e1, e2, ⟨v2, ho, hv, hR2⟩, st⟩ := hr T hT X
  cases ho
  cases hv
  have hlocs : ∀ q ∈ locs ++ L', base ≤ q.base := fun q hq => (List.mem_append.mp hq).elim (hlc q) (hL' q)
  obtain ⟨t2, a1, b1⟩ := g T'.heap (locs ++ L') (cells + 0) (slots + 0) ls (by rw [e1]; exact hR2.moved (by rw [← e2]; exact X'.warmed.alike.symm)) hL hlocs hcc hss T' rfl X'
  exact ⟨t2, st t2 a1, b1⟩
end JFCALL
/-- a constructor that hands its four arguments on -/
theorem jf_fwd {A : Nat → Nat} {l : Launch} {y y' : MethodName} {b b' : ByteArray} {k : Nat} (hpl : plainName y'.cls = true) (M : jfM A l y b k) (hc : Cond.code y b 5 none ∈ jW) (hi : Cond.instanceMethod y ∈ jW) (hn : Cond.initialized y.cls ∈ jW) (hy : y.name = "<init>") (hne : y.cls ≠ "java/lang/invoke/MethodHandle" ∧ y.cls ≠ "java/lang/invoke/VarHandle")
    (hlen : (parseMethodDescriptor y.desc).map (fun d => d.parameters.length) = some 4) (hl : Cond.methodLink y'.cls 16 y ∈ jW)
    (d0 : decode b' 0 = .ok (.aload_n 0, 1)) (d1 : decode b' 1 = .ok (.aload_n 1, 1)) (d2 : decode b' 2 = .ok (.aload_n 2, 1)) (d3 : decode b' 3 = .ok (.iload_n 3, 1)) (d4 : decode b' 4 = .ok (.iload 4, 2)) (d6 : decode b' 6 = .ok (.invokespecial 16, 3)) (d9 : decode b' 9 = .ok (.return_, 1)) : jfM A l y' b' (k + 1) := by
  intro D base H0 a σ hok
  refine vx_ofW (cc := b') (maxL := 5) (ret := none) hpl rfl ?_
  intro p e s m args below meth c s₁ B hml hnt hP
  obtain ⟨rfl, hE, hR⟩ := hP
  have hts := atoms_spec (ws := Cond.code y' b' 5 none :: jW) B.pre
  have hown : s.vm.findClass y'.cls = some m.cls := findClass_of_methodNamed B.named
  have C : jCx p s m (jfas a).toArray c D y'.cls b' := ⟨B.exec, B.bytes, hown, fun w hw => hts w (List.mem_cons_of_mem _ hw), hE.2.1⟩
  have key : jG p l e (headSpec (Cond.code y' b' 5 none :: jW) (jfr (k + 1))).room s m (jfas a).toArray below meth c D base H0 5 σ (vx_MQ below (jQc D base H0 (.inl none) σ) (jXc D base H0 (.inl none) σ) (jfas a).toArray s 0 0 (fun q => base ≤ q)) 0 (jfL a) [] σ := by
    refine jf_ald C d0 rfl rfl (jf_ald C d1 (v := .null) rfl rfl (jf_ald C d2 (v := .null) rfl rfl (jf_ildn C d3 (v := .int 0) rfl rfl (jf_ild C d4 (v := .int 0) rfl rfl ?_))))
    refine jf_call C hml hE M hok hc hi hn hy hne hlen hl d6 (by show k + 2 ≤ k + 1 + 1; omega) (by show 41 * (k + 1) + 60 ≤ 41 * (k + 1) + 60; omega) rfl rfl ?_
    exact jend_v C B.returns B.notSynchronized d9 rfl rfl rfl
  rw [lg_entry_eq]
  exact key s.heap [] 0 0 _ hR (jent_LR (nL := 5) (as := jfas a) (Nat.le_refl 5)) (fun q hq => by cases hq) (by omega) (by omega)
theorem jfM2 {A : Nat → Nat} {l : Launch} : jfM A l jfy2 jfb2 1 := jf_fwd (by decide +kernel) jfM3 jfc3 jfi3 jfn3 rfl (by decide) (by decide +kernel) jfl3 (by decide +kernel) (by decide +kernel) (by decide +kernel) (by decide +kernel) (by decide +kernel) (by decide +kernel) (by decide +kernel)
theorem jfM1 {A : Nat → Nat} {l : Launch} : jfM A l jfy1 jfb1 2 := jf_fwd (by decide +kernel) jfM2 jfc2 jfi2 jfn2 rfl (by decide) (by decide +kernel) jfl2 (by decide +kernel) (by decide +kernel) (by decide +kernel) (by decide +kernel) (by decide +kernel) (by decide +kernel) (by decide +kernel)
theorem jf_isC : jisC jFI = 1 := by decide +kernel
theorem jf_mL : jmL jFI = 1 := by decide +kernel
theorem jf_rt : jrt jFI = none := by decide +kernel
theorem jf_d0 : decode (jby jFI) 0 = .ok (.aload_n 0, 1) := by decide +kernel
theorem jf_d1 : decode (jby jFI) 1 = .ok (.aconst_null, 1) := by decide +kernel
theorem jf_d2 : decode (jby jFI) 2 = .ok (.aconst_null, 1) := by decide +kernel
theorem jf_d3 : decode (jby jFI) 3 = .ok (.iconst 0, 1) := by decide +kernel
theorem jf_d4 : decode (jby jFI) 4 = .ok (.iconst 0, 1) := by decide +kernel
theorem jf_d5 : decode (jby jFI) 5 = .ok (.invokespecial 1, 3) := by decide +kernel
theorem jf_d8 : decode (jby jFI) 8 = .ok (.return_, 1) := by decide +kernel
theorem jf_ow : jRN (jow jFI) = RX11 := by decide +kernel
theorem jfz_null {v : Value} (h : jfz v = true) : v = .null := by cases v <;> first | rfl | cases h
/-- THE CONTRACT OF A FAULT'S CONSTRUCTOR -/
theorem jF {A : Nat → Nat} {l : Launch} : ∀ (d : Nat) (as : List Value) (σ : jS) (o : jO) (τ : jS), jflt as σ = some (o, τ) → jMet A l (d + 1) jFI as σ o τ := by
  intro d as σ o τ h
  unfold jflt at h
  split at h
  · next a =>
    split at h
    · next cq hq =>
      split at h
      · next hz =>
        obtain ⟨t, n, w⟩ := cq
        obtain ⟨z, z0, z1, z2, z3⟩ := hz
        simp only at z z0 z1 z2 z3
        subst z
        cases h
        have hok : jfok a σ := ⟨n, w, hq, jfz_null z0, jfz_null z1, jfz_null z2, jfz_null z3⟩
        have hn : jFI < jnm := by decide
        obtain ⟨a1, a2, a3, a4, a5, a6, a7, a8, a9, a10, a11⟩ := jmeth hn
        refine ⟨Nat.le_refl _, Nat.le_refl _, fun D base H0 => ?_⟩
        rw [Nat.sub_self, Nat.sub_self]
        refine vx_ofW (cc := jby jFI) (maxL := jmL jFI) (ret := jrt jFI) a11 (jws1 jf_isC) ?_
        intro p e s m args below meth c s₁ B hml hnt hP
        obtain ⟨rfl, hE, hR⟩ := hP
        have hts := atoms_spec (ws := jws jFI) B.pre
        have hown : s.vm.findClass RX11 = some m.cls := by rw [← jf_ow, ← a6]; exact findClass_of_methodNamed B.named
        have C : jCx p s m [Value.ref a].toArray c D RX11 (jby jFI) := ⟨B.exec, B.bytes, hown, fun w hw => hts w (by rw [jws1 jf_isC]; exact List.mem_cons_of_mem _ hw), hE.2.1⟩
        have hret := B.returns
        rw [jf_rt] at hret
        rw [jf_mL] at hml ⊢
        have e0 : Int32.ofInt 0 = 0 := by decide
        have key : jG p l e (headSpec (jws jFI) (jrm (d + 1) 0 0)).room s m [Value.ref a].toArray below meth c D base H0 1 σ (vx_MQ below (jQc D base H0 (.inl none) σ) (jXc D base H0 (.inl none) σ) [Value.ref a].toArray s 0 0 (fun q => base ≤ q)) 0 [some (.ref a)] [] σ := by
          refine jf_ald C jf_d0 rfl rfl (jg_null C jf_d1 (pc' := 2) rfl (jg_null C jf_d2 (pc' := 3) rfl ?_))
          refine jg_iconst C jf_d3 (pc' := 4) (st' := [.int 0, .null, .null, .ref a]) (by rw [e0]; rfl) ?_
          refine jg_iconst C jf_d4 (pc' := 5) (st' := [.int 0, .int 0, .null, .null, .ref a]) (by rw [e0]; rfl) ?_
          refine jf_call C hml hE jfM1 hok jfc1 jfi1 jfn1 rfl (by decide) (by decide +kernel) jfl1 jf_d5 (by show 2 + 2 ≤ d + 1 + 8; omega) (by show 41 * (2 + 1) + 60 ≤ 41 * (d + 1) + 200; omega) rfl rfl ?_
          exact jend_v C hret B.notSynchronized jf_d8 rfl rfl rfl
        rw [lg_entry_eq]
        exact key s.heap [] 0 0 _ hR (jent_LR (nL := 1) (as := [.ref a]) (by simp [jsv, Value.category])) (fun q hq => by cases hq) (by omega) (by omega)
      · cases h
    · cases h
  · cases h

