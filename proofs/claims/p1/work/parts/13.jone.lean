section JONE
variable {p : Program} {l : Launch} {e : Env} {R : Room} {s : State} {m : MethodId} {args : Array Value} {below : List Frame} {meth : Method} {c : Code} {D : va_G} {base : Nat} {H0 : Heap} {nL : Nat} {σ0 : jS} {Q : State → Prop} {own : Nat} {cc : ByteArray} {pc pc' n : Nat} {L L' : jL} {st st' : List Value} {σ σ' : jS}
variable {CC : Nat → List Value → jS → Option (jO × jS)} {A : Nat → Nat} {hs : List (Nat × Nat × Nat × Nat)} {ow na : Nat → Nat} {rt : Option FieldType} {code : Nat → Option (Instr × Nat)}
theorem jret_ni {ok : Value → Bool} {x : jX} : jret rt ok st σ ≠ some (.inl x) := by
  intro h
  unfold jret jdn at h
  split at h
  · split at h
    · cases h
    · cases h
  · cases h
theorem jretv_ni {x : jX} : jretv rt st σ ≠ some (.inl x) := by
  intro h
  unfold jretv jdn at h
  split at h
  · cases h
  · cases h
/-- the instructions that stand in the table as they are, where they go on -/
theorem jone_same {a : Instr} (C : jCx p s m args c D (jRN own) cc) (hj : jsl a = n) (h0 : 0 < n) (hna : a ≠ .athrow) (hd : decode cc pc = .ok (a, n)) (h1 : σ'.2.1 ≤ σ0.2.1 + R.cells) (h2 : σ'.2.2 ≤ σ0.2.2 + R.slots)
    (h : jstep CC A hs ow na rt code a n pc L st σ = some (.inl (pc', L', st', σ'))) (g : jG p l e R s m args below meth c D base H0 nL σ0 Q pc' L' st' σ') : jG p l e R s m args below meth c D base H0 nL σ0 Q pc L st σ := by
  cases a
  case aload i => subst hj; exact jg_aload C hd h g
  case iload i => subst hj; exact jg_iload C hd h g
  case lload i => subst hj; exact jg_lload C hd h g
  case astore i => subst hj; exact jg_astore C hd h g
  case istore i => subst hj; exact jg_istore C hd h g
  case lstore i => subst hj; exact jg_lstore C hd h g
  case aload_n i => subst hj; exact jg_aload_n C hd h g
  case iload_n i => subst hj; exact jg_iload_n C hd h g
  case lload_n i => subst hj; exact jg_lload_n C hd h g
  case astore_n i => subst hj; exact jg_astore_n C hd h g
  case istore_n i => subst hj; exact jg_istore_n C hd h g
  case lstore_n i => subst hj; exact jg_lstore_n C hd h g
  case iinc i k => subst hj; exact jg_iinc C hd h g
  case iconst i => subst hj; exact jg_iconst C hd h g
  case lconst i => subst hj; exact jg_lconst C hd h g
  case aconst_null => subst hj; exact jg_null C hd h g
  case iaload => subst hj; exact jg_iald C hd h g
  case laload => subst hj; exact jg_lald C hd h g
  case baload => subst hj; exact jg_bald C hd h g
  case aaload => subst hj; exact jg_aald C hd h g
  case iastore => subst hj; exact jg_iast C hd h g
  case lastore => subst hj; exact jg_last C hd h g
  case bastore => subst hj; exact jg_bast C hd h g
  case aastore => subst hj; exact jg_aast C hd h g
  case arraylength => subst hj; exact jg_alen C hd h g
  case dup => subst hj; exact jg_dup C hd h g
  case dup2 => subst hj; exact jg_dup2 C hd h g
  case pop => subst hj; exact jg_pop C hd h g
  case iadd => subst hj; exact jg_iadd C hd h g
  case isub => subst hj; exact jg_isub C hd h g
  case imul => subst hj; exact jg_imul C hd h g
  case iand => subst hj; exact jg_iand C hd h g
  case ior => subst hj; exact jg_ior C hd h g
  case ixor => subst hj; exact jg_ixor C hd h g
  case ishl => subst hj; exact jg_ishl C hd h g
  case ishr => subst hj; exact jg_ishr C hd h g
  case iushr => subst hj; exact jg_iushr C hd h g
  case idiv => subst hj; exact jg_idiv C hd h g
  case irem => subst hj; exact jg_irem C hd h g
  case land => subst hj; exact jg_land C hd h g
  case lor => subst hj; exact jg_lor C hd h g
  case lshl => subst hj; exact jg_lshl C hd h g
  case lushr => subst hj; exact jg_lushr C hd h g
  case lcmp => subst hj; exact jg_lcmp C hd h g
  case ineg => subst hj; exact jg_ineg C hd h g
  case i2l => subst hj; exact jg_i2l C hd h g
  case i2b => subst hj; exact jg_i2b C hd h g
  case i2c => subst hj; exact jg_i2c C hd h g
  case l2i => subst hj; exact jg_l2i C hd h g
  case newarray k =>
    cases k <;> first | (exact absurd (show 0 = n from hj) (by omega)) | skip
    · subst hj; exact jg_newa C hd rfl jw_aboolean h1 h2 h g
    · subst hj; exact jg_newa C hd rfl jw_abyte h1 h2 h g
    · subst hj; exact jg_newa C hd rfl jw_aint h1 h2 h g
    · subst hj; exact jg_newa C hd rfl jw_along h1 h2 h g
  case ireturn => exact absurd h jret_ni
  case lreturn => exact absurd h jret_ni
  case areturn => exact absurd h jret_ni
  case return_ => exact absurd h jretv_ni
  case athrow => exact absurd rfl hna
  all_goals exact absurd (show 0 = n from hj) (by omega)
/-- one step that goes on, no call and no throw -/
theorem jone {ini : Bool} {raw res : Instr} (C : jCx p s m args c D (jRN own) cc) (hml : c.maxLocals = nL) (hAO : va_AO RX2 s) (hX : jtxe A s base H0) (hini : ini = true → meth.name = "<init>") (mt : jmt own ini pc n raw res = true) (hd : decode cc pc = .ok (raw, n)) (hf : 1 ≤ R.frames) (hlo : 40 ≤ R.locals) (h1 : σ'.2.1 ≤ σ0.2.1 + R.cells) (h2 : σ'.2.2 ≤ σ0.2.2 + R.slots)
    (hna : res ≠ .athrow) (hc1 : ∀ k, res ≠ .invokevirtual k) (hc2 : ∀ k, res ≠ .invokestatic k) (hc3 : ∀ k, res ≠ .invokespecial k)
    (h : jstep CC A hs ow na rt code res n pc L st σ = some (.inl (pc', L', st', σ'))) (g : jG p l e R s m args below meth c D base H0 nL σ0 Q pc' L' st' σ') : jG p l e R s m args below meth c D base H0 nL σ0 Q pc L st σ := by
  unfold jmt at mt
  split at mt
  · next i k =>
    simp only [Bool.and_eq_true, beq_iff_eq, decide_eq_true_eq] at mt
    obtain ⟨⟨⟨rfl, m1⟩, m2⟩, m3⟩ := mt
    exact jg_get C hd m2 m3 (jFLt_w m1) h g
  · next i k =>
    simp only [Bool.and_eq_true, beq_iff_eq, decide_eq_true_eq, Bool.or_eq_true, Bool.not_eq_true'] at mt
    obtain ⟨⟨⟨⟨rfl, m1⟩, m2⟩, m3⟩, m4⟩ := mt
    refine jg_put C hd m2 m3 (jFLt_w m1) ?_ h g
    cases hb : (jTX (k / 256) (k % 256)).2.2.2 with
    | false => exact Or.inl rfl
    | true =>
      rcases m4 with m4 | ⟨m4, m5⟩
      · rw [hb] at m4; cases m4
      · exact Or.inr ⟨rfl, hini m4, m5⟩
  · simp only [Bool.and_eq_true, beq_iff_eq, decide_eq_true_eq] at mt
    obtain ⟨⟨rfl, m1⟩, m2⟩ := mt
    exact jg_gtx C hX hd m2 (jFTt_w m1) h g
  · simp only [beq_iff_eq] at mt
    subst mt
    exact jg_tln C hX hd h g
  · simp only [beq_iff_eq] at mt
    subst mt
    exact jg_tch C hX hd h g
  · simp only [Bool.and_eq_true, beq_iff_eq, decide_eq_true_eq] at mt
    obtain ⟨⟨rfl, m1⟩, m2⟩ := mt
    exact jg_gst C hX hd m2 (jGSt_w m1) h g
  · simp only [Bool.and_eq_true, beq_iff_eq] at mt
    obtain ⟨rfl, m1⟩ := mt
    obtain ⟨p9, hp9⟩ := jhas3_mem m1
    obtain ⟨tx, htx⟩ := hX.2.2.2 _ hp9
    exact jg_ldcs C hd htx h g
  · simp only [Bool.and_eq_true, beq_iff_eq, decide_eq_true_eq] at mt
    obtain ⟨⟨rfl, m1⟩, m2⟩ := mt
    exact jg_goto C hd m1 m2 h g
  · simp only [Bool.and_eq_true, beq_iff_eq, decide_eq_true_eq] at mt
    obtain ⟨⟨rfl, m1⟩, m2⟩ := mt
    exact jg_ifnull C hd m1 m2 h g
  · simp only [Bool.and_eq_true, beq_iff_eq, decide_eq_true_eq] at mt
    obtain ⟨⟨rfl, m1⟩, m2⟩ := mt
    exact jg_ifnonnull C hd m1 m2 h g
  · next q o q' t =>
    simp only [Bool.and_eq_true, beq_iff_eq, decide_eq_true_eq] at mt
    obtain ⟨⟨⟨rfl, rfl⟩, m1⟩, m2⟩ := mt
    cases q with
    | eq => exact jg_if_eq C hd m1 m2 h g
    | ne => exact jg_if_ne C hd m1 m2 h g
    | lt => exact jg_if_lt C hd m1 m2 h g
    | ge => exact jg_if_ge C hd m1 m2 h g
    | gt => exact jg_if_gt C hd m1 m2 h g
    | le => exact jg_if_le C hd m1 m2 h g
  · next q o q' t =>
    simp only [Bool.and_eq_true, beq_iff_eq, decide_eq_true_eq] at mt
    obtain ⟨⟨⟨rfl, rfl⟩, m1⟩, m2⟩ := mt
    cases q with
    | eq => exact jg_icmp_eq C hd m1 m2 h g
    | ne => exact jg_icmp_ne C hd m1 m2 h g
    | lt => exact jg_icmp_lt C hd m1 m2 h g
    | ge => exact jg_icmp_ge C hd m1 m2 h g
    | gt => exact jg_icmp_gt C hd m1 m2 h g
    | le => exact jg_icmp_le C hd m1 m2 h g
  · simp only [Bool.and_eq_true, decide_eq_true_eq] at mt
    obtain ⟨⟨⟨⟨⟨m1, m2⟩, rfl⟩, rfl⟩, m3⟩, m4⟩ := mt
    exact jg_table C hd m1 m2 m3 m4 h g
  · simp only [Bool.and_eq_true, decide_eq_true_eq, List.all_eq_true] at mt
    obtain ⟨⟨⟨⟨m1, m2⟩, m3⟩, m4⟩, m5⟩ := mt
    exact jg_lookup C hd m1 m2 m3 (fun q hq => m4 q hq) (by simpa [List.all_eq_true] using m5) h g
  · exact absurd rfl (hc1 _)
  · exact absurd rfl (hc2 _)
  · exact absurd rfl (hc3 _)
  · simp only [Bool.and_eq_true, beq_iff_eq] at mt
    obtain ⟨rfl, m1⟩ := mt
    exact jg_obj C hml hd (jOBt_w m1) jw_objI jw_objC hf (by omega) h g
  · simp only [Bool.and_eq_true, beq_iff_eq] at mt
    obtain ⟨rfl, m1⟩ := mt
    exact jg_min C hml hd (jMNt_w m1) jw_minS jw_math jw_minC hf (by omega) h1 h2 h g
  · simp only [Bool.and_eq_true, beq_iff_eq] at mt
    obtain ⟨rfl, m1⟩ := mt
    exact jg_max C hml hd (jMXt_w m1) jw_maxS jw_math jw_maxC hf (by omega) h1 h2 h g
  · simp only [Bool.and_eq_true, beq_iff_eq] at mt
    obtain ⟨rfl, m1⟩ := mt
    exact jg_copy C hml hd (jCPt_w m1) jw_cpN jw_cpS jw_sys hf hlo h g
  · simp only [Bool.and_eq_true, beq_iff_eq, decide_eq_true_eq] at mt
    obtain ⟨⟨rfl, m1⟩, m2⟩ := mt
    exact jg_newc C hd m2 (jCLt_w m1) (jw_ins m2) (jw_ini m2) h1 h2 h g
  · simp only [Bool.and_eq_true, beq_iff_eq] at mt
    obtain ⟨rfl, m1⟩ := mt
    exact jg_anew C hd (jANt_w m1) (va_AO.use hAO) h1 h2 h g
  · simp only [Bool.and_eq_true, beq_iff_eq] at mt
    obtain ⟨rfl, m1⟩ := mt
    exact jg_ldc C hd (jKIt_w m1) h g
  · simp only [Bool.and_eq_true, beq_iff_eq] at mt
    obtain ⟨rfl, m1⟩ := mt
    exact jg_ldcw C hd (jKIt_w m1) h g
  · simp only [Bool.and_eq_true, beq_iff_eq] at mt
    obtain ⟨rfl, m1⟩ := mt
    exact jg_ldc2 C hd (jKLt_w m1) h g
  · simp only [Bool.and_eq_true, beq_iff_eq, decide_eq_true_eq] at mt
    obtain ⟨⟨rfl, rfl⟩, m1⟩ := mt
    exact jg_bipush C hd m1 h g
  · simp only [Bool.and_eq_true, beq_iff_eq, decide_eq_true_eq] at mt
    obtain ⟨⟨rfl, rfl⟩, m1⟩ := mt
    exact jg_sipush C hd m1 h g
  · simp only [Bool.and_eq_true, decide_eq_true_eq] at mt
    obtain ⟨⟨rfl, m1⟩, m2⟩ := mt
    exact jone_same C m1 m2 hna hd h1 h2 h g
end JONE
