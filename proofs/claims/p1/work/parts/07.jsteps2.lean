section JSTEPS2
variable {p : Program} {l : Launch} {e : Env} {R : Room} {s : State} {m : MethodId} {args : Array Value} {below : List Frame} {meth : Method} {c : Code} {D : va_G} {base : Nat} {H0 : Heap} {nL : Nat} {σ0 : jS} {Q : State → Prop} {own : String} {cc : ByteArray} {pc pc' len : Nat} {L L' : jL} {st st' : List Value} {σ σ' : jS}
theorem jg_iconst {i : Int} (C : jCx p s m args c D own cc) (hd : decode cc pc = .ok (.iconst i, 1)) (h : jnx (pc + 1) L (.int (Int32.ofInt i) :: st) σ = some (.inl (pc', L', st', σ'))) (g : jG p l e R s m args below meth c D base H0 nL σ0 Q pc' L' st' σ') : jG p l e R s m args below meth c D base H0 nL σ0 Q pc L st σ := by
  intro H locs cells slots ls hR hL hl hc hs
  obtain ⟨rfl, rfl, rfl, rfl⟩ := jnx_inv h
  exact lv_iconst C.1 C.2.1 hd rfl (g H locs cells slots ls hR hL hl hc hs)
theorem jg_bipush {i : Int} (C : jCx p s m args c D own cc) (hd : decode cc pc = .ok (.bipush i, 2)) (hi : (Int8.ofInt i).toInt32 = Int32.ofInt i) (h : jnx (pc + 2) L (.int (Int32.ofInt i) :: st) σ = some (.inl (pc', L', st', σ'))) (g : jG p l e R s m args below meth c D base H0 nL σ0 Q pc' L' st' σ') : jG p l e R s m args below meth c D base H0 nL σ0 Q pc L st σ := by
  intro H locs cells slots ls hR hL hl hc hs
  obtain ⟨rfl, rfl, rfl, rfl⟩ := jnx_inv h
  exact lv_bipush C.1 C.2.1 hd hi (g H locs cells slots ls hR hL hl hc hs)
theorem jg_sipush {i : Int} (C : jCx p s m args c D own cc) (hd : decode cc pc = .ok (.sipush i, 3)) (hi : (Int16.ofInt i).toInt32 = Int32.ofInt i) (h : jnx (pc + 3) L (.int (Int32.ofInt i) :: st) σ = some (.inl (pc', L', st', σ'))) (g : jG p l e R s m args below meth c D base H0 nL σ0 Q pc' L' st' σ') : jG p l e R s m args below meth c D base H0 nL σ0 Q pc L st σ := by
  intro H locs cells slots ls hR hL hl hc hs
  obtain ⟨rfl, rfl, rfl, rfl⟩ := jnx_inv h
  exact lv_sipush C.1 C.2.1 hd hi (g H locs cells slots ls hR hL hl hc hs)
theorem jg_lconst {i : Fin 2} (C : jCx p s m args c D own cc) (hd : decode cc pc = .ok (.lconst i, 1)) (h : jnx (pc + 1) L (.long (Int64.ofNat i.val) :: st) σ = some (.inl (pc', L', st', σ'))) (g : jG p l e R s m args below meth c D base H0 nL σ0 Q pc' L' st' σ') : jG p l e R s m args below meth c D base H0 nL σ0 Q pc L st σ := by
  intro H locs cells slots ls hR hL hl hc hs
  obtain ⟨rfl, rfl, rfl, rfl⟩ := jnx_inv h
  exact lv_lconst C.1 C.2.1 hd rfl (g H locs cells slots ls hR hL hl hc hs)
theorem jg_ldc {i n : Nat} (C : jCx p s m args c D own cc) (hd : decode cc pc = .ok (.ldc i, 2)) (hw : Cond.constant own i (nI n) ∈ jW) (h : jnx (pc + 2) L (.int (nI n) :: st) σ = some (.inl (pc', L', st', σ'))) (g : jG p l e R s m args below meth c D base H0 nL σ0 Q pc' L' st' σ') : jG p l e R s m args below meth c D base H0 nL σ0 Q pc L st σ := by
  intro H locs cells slots ls hR hL hl hc hs
  obtain ⟨rfl, rfl, rfl, rfl⟩ := jnx_inv h
  exact lv_ldc C.1 C.2.1 C.2.2.1 (C.2.2.2.1 _ hw) hd (g H locs cells slots ls hR hL hl hc hs)
theorem jg_ldcw {i n : Nat} (C : jCx p s m args c D own cc) (hd : decode cc pc = .ok (.ldc_w i, 3)) (hw : Cond.constant own i (nI n) ∈ jW) (h : jnx (pc + 3) L (.int (nI n) :: st) σ = some (.inl (pc', L', st', σ'))) (g : jG p l e R s m args below meth c D base H0 nL σ0 Q pc' L' st' σ') : jG p l e R s m args below meth c D base H0 nL σ0 Q pc L st σ := by
  intro H locs cells slots ls hR hL hl hc hs
  obtain ⟨rfl, rfl, rfl, rfl⟩ := jnx_inv h
  exact lv_ldcw C.1 C.2.1 C.2.2.1 (C.2.2.2.1 _ hw) hd (g H locs cells slots ls hR hL hl hc hs)
theorem jg_ldc2 {i n : Nat} (C : jCx p s m args c D own cc) (hd : decode cc pc = .ok (.ldc2_w i, 3)) (hw : Cond.constantLong own i (lN n) ∈ jW) (h : jnx (pc + 3) L (.long (lN n) :: st) σ = some (.inl (pc', L', st', σ'))) (g : jG p l e R s m args below meth c D base H0 nL σ0 Q pc' L' st' σ') : jG p l e R s m args below meth c D base H0 nL σ0 Q pc L st σ := by
  intro H locs cells slots ls hR hL hl hc hs
  obtain ⟨rfl, rfl, rfl, rfl⟩ := jnx_inv h
  exact lv_ldc2 C.1 C.2.1 C.2.2.1 (C.2.2.2.1 _ hw) hd (g H locs cells slots ls hR hL hl hc hs)
theorem jg_null (C : jCx p s m args c D own cc) (hd : decode cc pc = .ok (.aconst_null, 1)) (h : jnx (pc + 1) L (.null :: st) σ = some (.inl (pc', L', st', σ'))) (g : jG p l e R s m args below meth c D base H0 nL σ0 Q pc' L' st' σ') : jG p l e R s m args below meth c D base H0 nL σ0 Q pc L st σ := by
  intro H locs cells slots ls hR hL hl hc hs
  obtain ⟨rfl, rfl, rfl, rfl⟩ := jnx_inv h
  exact lv_null C.1 C.2.1 hd (g H locs cells slots ls hR hL hl hc hs)
theorem jg_goto {o t : Int} (C : jCx p s m args c D own cc) (hd : decode cc pc = .ok (.goto o, 3)) (ht : (pc : Int) + o = t) (h0 : 0 ≤ t) (h : jnx t.toNat L st σ = some (.inl (pc', L', st', σ'))) (g : jG p l e R s m args below meth c D base H0 nL σ0 Q pc' L' st' σ') : jG p l e R s m args below meth c D base H0 nL σ0 Q pc L st σ := by
  intro H locs cells slots ls hR hL hl hc hs
  obtain ⟨rfl, rfl, rfl, rfl⟩ := jnx_inv h
  exact lv_goto C.1 C.2.1 hd (by omega) (g H locs cells slots ls hR hL hl hc hs)
theorem jg_iadd (C : jCx p s m args c D own cc) (hd : decode cc pc = .ok (.iadd, 1)) (h : jbI (fun x y => x + y) (pc + 1) L st σ = some (.inl (pc', L', st', σ'))) (g : jG p l e R s m args below meth c D base H0 nL σ0 Q pc' L' st' σ') : jG p l e R s m args below meth c D base H0 nL σ0 Q pc L st σ := by
  intro H locs cells slots ls hR hL hl hc hs
  unfold jbI at h
  split at h
  · obtain ⟨rfl, rfl, rfl, rfl⟩ := jnx_inv h
    exact lv_iadd C.1 C.2.1 hd (g H locs cells slots ls hR hL hl hc hs)
  · cases h
theorem jg_isub (C : jCx p s m args c D own cc) (hd : decode cc pc = .ok (.isub, 1)) (h : jbI (fun x y => x - y) (pc + 1) L st σ = some (.inl (pc', L', st', σ'))) (g : jG p l e R s m args below meth c D base H0 nL σ0 Q pc' L' st' σ') : jG p l e R s m args below meth c D base H0 nL σ0 Q pc L st σ := by
  intro H locs cells slots ls hR hL hl hc hs
  unfold jbI at h
  split at h
  · obtain ⟨rfl, rfl, rfl, rfl⟩ := jnx_inv h
    exact lv_isub C.1 C.2.1 hd (g H locs cells slots ls hR hL hl hc hs)
  · cases h
theorem jg_imul (C : jCx p s m args c D own cc) (hd : decode cc pc = .ok (.imul, 1)) (h : jbI (fun x y => x * y) (pc + 1) L st σ = some (.inl (pc', L', st', σ'))) (g : jG p l e R s m args below meth c D base H0 nL σ0 Q pc' L' st' σ') : jG p l e R s m args below meth c D base H0 nL σ0 Q pc L st σ := by
  intro H locs cells slots ls hR hL hl hc hs
  unfold jbI at h
  split at h
  · obtain ⟨rfl, rfl, rfl, rfl⟩ := jnx_inv h
    exact lv_imul C.1 C.2.1 hd (g H locs cells slots ls hR hL hl hc hs)
  · cases h
theorem jg_iand (C : jCx p s m args c D own cc) (hd : decode cc pc = .ok (.iand, 1)) (h : jbI (fun x y => x &&& y) (pc + 1) L st σ = some (.inl (pc', L', st', σ'))) (g : jG p l e R s m args below meth c D base H0 nL σ0 Q pc' L' st' σ') : jG p l e R s m args below meth c D base H0 nL σ0 Q pc L st σ := by
  intro H locs cells slots ls hR hL hl hc hs
  unfold jbI at h
  split at h
  · obtain ⟨rfl, rfl, rfl, rfl⟩ := jnx_inv h
    exact lv_iand C.1 C.2.1 hd (g H locs cells slots ls hR hL hl hc hs)
  · cases h
theorem jg_ior (C : jCx p s m args c D own cc) (hd : decode cc pc = .ok (.ior, 1)) (h : jbI (fun x y => x ||| y) (pc + 1) L st σ = some (.inl (pc', L', st', σ'))) (g : jG p l e R s m args below meth c D base H0 nL σ0 Q pc' L' st' σ') : jG p l e R s m args below meth c D base H0 nL σ0 Q pc L st σ := by
  intro H locs cells slots ls hR hL hl hc hs
  unfold jbI at h
  split at h
  · obtain ⟨rfl, rfl, rfl, rfl⟩ := jnx_inv h
    exact lv_ior C.1 C.2.1 hd (g H locs cells slots ls hR hL hl hc hs)
  · cases h
theorem jg_ixor (C : jCx p s m args c D own cc) (hd : decode cc pc = .ok (.ixor, 1)) (h : jbI (fun x y => x ^^^ y) (pc + 1) L st σ = some (.inl (pc', L', st', σ'))) (g : jG p l e R s m args below meth c D base H0 nL σ0 Q pc' L' st' σ') : jG p l e R s m args below meth c D base H0 nL σ0 Q pc L st σ := by
  intro H locs cells slots ls hR hL hl hc hs
  unfold jbI at h
  split at h
  · obtain ⟨rfl, rfl, rfl, rfl⟩ := jnx_inv h
    exact lv_ixor C.1 C.2.1 hd (g H locs cells slots ls hR hL hl hc hs)
  · cases h
theorem jg_ishl (C : jCx p s m args c D own cc) (hd : decode cc pc = .ok (.ishl, 1)) (h : jbI (fun x y => x <<< (y &&& 31)) (pc + 1) L st σ = some (.inl (pc', L', st', σ'))) (g : jG p l e R s m args below meth c D base H0 nL σ0 Q pc' L' st' σ') : jG p l e R s m args below meth c D base H0 nL σ0 Q pc L st σ := by
  intro H locs cells slots ls hR hL hl hc hs
  unfold jbI at h
  split at h
  · obtain ⟨rfl, rfl, rfl, rfl⟩ := jnx_inv h
    exact lv_ishl C.1 C.2.1 hd (g H locs cells slots ls hR hL hl hc hs)
  · cases h
theorem jg_ishr (C : jCx p s m args c D own cc) (hd : decode cc pc = .ok (.ishr, 1)) (h : jbI (fun x y => x >>> (y &&& 31)) (pc + 1) L st σ = some (.inl (pc', L', st', σ'))) (g : jG p l e R s m args below meth c D base H0 nL σ0 Q pc' L' st' σ') : jG p l e R s m args below meth c D base H0 nL σ0 Q pc L st σ := by
  intro H locs cells slots ls hR hL hl hc hs
  unfold jbI at h
  split at h
  · obtain ⟨rfl, rfl, rfl, rfl⟩ := jnx_inv h
    exact lv_ishr C.1 C.2.1 hd (g H locs cells slots ls hR hL hl hc hs)
  · cases h
theorem jg_iushr (C : jCx p s m args c D own cc) (hd : decode cc pc = .ok (.iushr, 1)) (h : jbI (fun x y => (x.toUInt32 >>> (y.toUInt32 &&& Int32.toUInt32 31)).toInt32) (pc + 1) L st σ = some (.inl (pc', L', st', σ'))) (g : jG p l e R s m args below meth c D base H0 nL σ0 Q pc' L' st' σ') : jG p l e R s m args below meth c D base H0 nL σ0 Q pc L st σ := by
  intro H locs cells slots ls hR hL hl hc hs
  unfold jbI at h
  split at h
  · obtain ⟨rfl, rfl, rfl, rfl⟩ := jnx_inv h
    exact lv_iushr C.1 C.2.1 hd rfl (g H locs cells slots ls hR hL hl hc hs)
  · cases h
theorem jg_idiv (C : jCx p s m args c D own cc) (hd : decode cc pc = .ok (.idiv, 1)) (h : jdiv (fun x y => x / y) (pc + 1) L st σ = some (.inl (pc', L', st', σ'))) (g : jG p l e R s m args below meth c D base H0 nL σ0 Q pc' L' st' σ') : jG p l e R s m args below meth c D base H0 nL σ0 Q pc L st σ := by
  intro H locs cells slots ls hR hL hl hc hs
  unfold jdiv at h
  split at h
  · split at h
    · cases h
    · next hy =>
      obtain ⟨rfl, rfl, rfl, rfl⟩ := jnx_inv h
      exact lv_idiv C.1 C.2.1 hd hy (g H locs cells slots ls hR hL hl hc hs)
  · cases h
theorem jg_irem (C : jCx p s m args c D own cc) (hd : decode cc pc = .ok (.irem, 1)) (h : jdiv (fun x y => x - x / y * y) (pc + 1) L st σ = some (.inl (pc', L', st', σ'))) (g : jG p l e R s m args below meth c D base H0 nL σ0 Q pc' L' st' σ') : jG p l e R s m args below meth c D base H0 nL σ0 Q pc L st σ := by
  intro H locs cells slots ls hR hL hl hc hs
  unfold jdiv at h
  split at h
  · split at h
    · cases h
    · next hy =>
      obtain ⟨rfl, rfl, rfl, rfl⟩ := jnx_inv h
      exact lv_irem C.1 C.2.1 hd hy (g H locs cells slots ls hR hL hl hc hs)
  · cases h
theorem jg_land (C : jCx p s m args c D own cc) (hd : decode cc pc = .ok (.land, 1)) (h : jbL (fun x y => x &&& y) (pc + 1) L st σ = some (.inl (pc', L', st', σ'))) (g : jG p l e R s m args below meth c D base H0 nL σ0 Q pc' L' st' σ') : jG p l e R s m args below meth c D base H0 nL σ0 Q pc L st σ := by
  intro H locs cells slots ls hR hL hl hc hs
  unfold jbL at h
  split at h
  · obtain ⟨rfl, rfl, rfl, rfl⟩ := jnx_inv h
    exact lv_land C.1 C.2.1 hd (g H locs cells slots ls hR hL hl hc hs)
  · cases h
theorem jg_lor (C : jCx p s m args c D own cc) (hd : decode cc pc = .ok (.lor, 1)) (h : jbL (fun x y => x ||| y) (pc + 1) L st σ = some (.inl (pc', L', st', σ'))) (g : jG p l e R s m args below meth c D base H0 nL σ0 Q pc' L' st' σ') : jG p l e R s m args below meth c D base H0 nL σ0 Q pc L st σ := by
  intro H locs cells slots ls hR hL hl hc hs
  unfold jbL at h
  split at h
  · obtain ⟨rfl, rfl, rfl, rfl⟩ := jnx_inv h
    exact lv_lor C.1 C.2.1 hd (g H locs cells slots ls hR hL hl hc hs)
  · cases h
theorem jg_lshl (C : jCx p s m args c D own cc) (hd : decode cc pc = .ok (.lshl, 1)) (h : jbS (fun x y => x <<< (y.toInt64 &&& 63)) (pc + 1) L st σ = some (.inl (pc', L', st', σ'))) (g : jG p l e R s m args below meth c D base H0 nL σ0 Q pc' L' st' σ') : jG p l e R s m args below meth c D base H0 nL σ0 Q pc L st σ := by
  intro H locs cells slots ls hR hL hl hc hs
  unfold jbS at h
  split at h
  · obtain ⟨rfl, rfl, rfl, rfl⟩ := jnx_inv h
    exact lv_lshl C.1 C.2.1 hd rfl (g H locs cells slots ls hR hL hl hc hs)
  · cases h
theorem jg_lushr (C : jCx p s m args c D own cc) (hd : decode cc pc = .ok (.lushr, 1)) (h : jbS (fun x y => (x.toUInt64 >>> (y.toInt64.toUInt64 &&& Int64.toUInt64 63)).toInt64) (pc + 1) L st σ = some (.inl (pc', L', st', σ'))) (g : jG p l e R s m args below meth c D base H0 nL σ0 Q pc' L' st' σ') : jG p l e R s m args below meth c D base H0 nL σ0 Q pc L st σ := by
  intro H locs cells slots ls hR hL hl hc hs
  unfold jbS at h
  split at h
  · obtain ⟨rfl, rfl, rfl, rfl⟩ := jnx_inv h
    exact lv_lushr C.1 C.2.1 hd rfl (g H locs cells slots ls hR hL hl hc hs)
  · cases h
theorem jg_lcmp (C : jCx p s m args c D own cc) (hd : decode cc pc = .ok (.lcmp, 1)) (h : jcmp pc L st σ = some (.inl (pc', L', st', σ'))) (g : jG p l e R s m args below meth c D base H0 nL σ0 Q pc' L' st' σ') : jG p l e R s m args below meth c D base H0 nL σ0 Q pc L st σ := by
  intro H locs cells slots ls hR hL hl hc hs
  unfold jcmp at h
  split at h
  · obtain ⟨rfl, rfl, rfl, rfl⟩ := jnx_inv h
    exact W.lcmp C.1 C.2.1 hd (g H locs cells slots ls hR hL hl hc hs)
  · cases h
theorem jg_ineg (C : jCx p s m args c D own cc) (hd : decode cc pc = .ok (.ineg, 1)) (h : juI (fun x => .int (-x)) (pc + 1) L st σ = some (.inl (pc', L', st', σ'))) (g : jG p l e R s m args below meth c D base H0 nL σ0 Q pc' L' st' σ') : jG p l e R s m args below meth c D base H0 nL σ0 Q pc L st σ := by
  intro H locs cells slots ls hR hL hl hc hs
  unfold juI at h
  split at h
  · obtain ⟨rfl, rfl, rfl, rfl⟩ := jnx_inv h
    exact lv_ineg C.1 C.2.1 hd (g H locs cells slots ls hR hL hl hc hs)
  · cases h
theorem jg_i2l (C : jCx p s m args c D own cc) (hd : decode cc pc = .ok (.i2l, 1)) (h : juI (fun x => .long x.toInt64) (pc + 1) L st σ = some (.inl (pc', L', st', σ'))) (g : jG p l e R s m args below meth c D base H0 nL σ0 Q pc' L' st' σ') : jG p l e R s m args below meth c D base H0 nL σ0 Q pc L st σ := by
  intro H locs cells slots ls hR hL hl hc hs
  unfold juI at h
  split at h
  · obtain ⟨rfl, rfl, rfl, rfl⟩ := jnx_inv h
    exact lv_i2l C.1 C.2.1 hd rfl (g H locs cells slots ls hR hL hl hc hs)
  · cases h
theorem jg_i2b (C : jCx p s m args c D own cc) (hd : decode cc pc = .ok (.i2b, 1)) (h : juI (fun x => .int x.toInt8.toInt32) (pc + 1) L st σ = some (.inl (pc', L', st', σ'))) (g : jG p l e R s m args below meth c D base H0 nL σ0 Q pc' L' st' σ') : jG p l e R s m args below meth c D base H0 nL σ0 Q pc L st σ := by
  intro H locs cells slots ls hR hL hl hc hs
  unfold juI at h
  split at h
  · obtain ⟨rfl, rfl, rfl, rfl⟩ := jnx_inv h
    exact lv_i2b C.1 C.2.1 hd rfl (g H locs cells slots ls hR hL hl hc hs)
  · cases h
theorem jg_i2c (C : jCx p s m args c D own cc) (hd : decode cc pc = .ok (.i2c, 1)) (h : juI (fun x => .int (x.toUInt32 % 65536).toInt32) (pc + 1) L st σ = some (.inl (pc', L', st', σ'))) (g : jG p l e R s m args below meth c D base H0 nL σ0 Q pc' L' st' σ') : jG p l e R s m args below meth c D base H0 nL σ0 Q pc L st σ := by
  intro H locs cells slots ls hR hL hl hc hs
  unfold juI at h
  split at h
  · obtain ⟨rfl, rfl, rfl, rfl⟩ := jnx_inv h
    exact lv_i2c C.1 C.2.1 hd rfl (g H locs cells slots ls hR hL hl hc hs)
  · cases h
theorem jg_l2i (C : jCx p s m args c D own cc) (hd : decode cc pc = .ok (.l2i, 1)) (h : jl2i pc L st σ = some (.inl (pc', L', st', σ'))) (g : jG p l e R s m args below meth c D base H0 nL σ0 Q pc' L' st' σ') : jG p l e R s m args below meth c D base H0 nL σ0 Q pc L st σ := by
  intro H locs cells slots ls hR hL hl hc hs
  unfold jl2i at h
  split at h
  · obtain ⟨rfl, rfl, rfl, rfl⟩ := jnx_inv h
    exact lv_l2i C.1 C.2.1 hd rfl (g H locs cells slots ls hR hL hl hc hs)
  · cases h
theorem jg_dup (C : jCx p s m args c D own cc) (hd : decode cc pc = .ok (.dup, 1)) (h : jdup pc L st σ = some (.inl (pc', L', st', σ'))) (g : jG p l e R s m args below meth c D base H0 nL σ0 Q pc' L' st' σ') : jG p l e R s m args below meth c D base H0 nL σ0 Q pc L st σ := by
  intro H locs cells slots ls hR hL hl hc hs
  unfold jdup at h
  split at h
  · split at h
    · next hv =>
      obtain ⟨rfl, rfl, rfl, rfl⟩ := jnx_inv h
      exact lv_dup C.1 C.2.1 hd hv (g H locs cells slots ls hR hL hl hc hs)
    · cases h
  · cases h
theorem jg_pop (C : jCx p s m args c D own cc) (hd : decode cc pc = .ok (.pop, 1)) (h : jpop pc L st σ = some (.inl (pc', L', st', σ'))) (g : jG p l e R s m args below meth c D base H0 nL σ0 Q pc' L' st' σ') : jG p l e R s m args below meth c D base H0 nL σ0 Q pc L st σ := by
  intro H locs cells slots ls hR hL hl hc hs
  unfold jpop at h
  split at h
  · split at h
    · next hv =>
      obtain ⟨rfl, rfl, rfl, rfl⟩ := jnx_inv h
      exact lv_pop C.1 C.2.1 hd hv (g H locs cells slots ls hR hL hl hc hs)
    · cases h
  · cases h
theorem jg_dup2 (C : jCx p s m args c D own cc) (hd : decode cc pc = .ok (.dup2, 1)) (h : jdup2 pc L st σ = some (.inl (pc', L', st', σ'))) (g : jG p l e R s m args below meth c D base H0 nL σ0 Q pc' L' st' σ') : jG p l e R s m args below meth c D base H0 nL σ0 Q pc L st σ := by
  intro H locs cells slots ls hR hL hl hc hs
  unfold jdup2 at h
  split at h
  · split at h
    · next hv =>
      obtain ⟨rfl, rfl, rfl, rfl⟩ := jnx_inv h
      exact lv_dup2_11 C.1 C.2.1 hd hv.1 hv.2 (g H locs cells slots ls hR hL hl hc hs)
    · cases h
  · cases h
theorem jg_if_eq {o t : Int} (C : jCx p s m args c D own cc) (hd : decode cc pc = .ok (.ifCond .eq o, 3)) (ht : (pc : Int) + o = t) (h0 : 0 ≤ t) (h : jbr1 (jc1 .eq) pc t L st σ = some (.inl (pc', L', st', σ'))) (g : jG p l e R s m args below meth c D base H0 nL σ0 Q pc' L' st' σ') : jG p l e R s m args below meth c D base H0 nL σ0 Q pc L st σ := by
  intro H locs cells slots ls hR hL hl hc hs
  unfold jbr1 at h
  split at h
  · next x r =>
    refine lv_if_eq (tgt := t.toNat) C.1 C.2.1 hd (by omega) (fun hx => ?_) (fun hx => ?_)
    · rw [if_pos (by simpa [jc1] using hx)] at h
      obtain ⟨rfl, rfl, rfl, rfl⟩ := jnx_inv h
      exact (g H locs cells slots ls hR hL hl hc hs)
    · rw [if_neg (by simpa [jc1] using hx)] at h
      obtain ⟨rfl, rfl, rfl, rfl⟩ := jnx_inv h
      exact (g H locs cells slots ls hR hL hl hc hs)
  · cases h
theorem jg_icmp_eq {o t : Int} (C : jCx p s m args c D own cc) (hd : decode cc pc = .ok (.if_icmp .eq o, 3)) (ht : (pc : Int) + o = t) (h0 : 0 ≤ t) (h : jbr2 (jc2 .eq) pc t L st σ = some (.inl (pc', L', st', σ'))) (g : jG p l e R s m args below meth c D base H0 nL σ0 Q pc' L' st' σ') : jG p l e R s m args below meth c D base H0 nL σ0 Q pc L st σ := by
  intro H locs cells slots ls hR hL hl hc hs
  unfold jbr2 at h
  split at h
  · next x r =>
    refine lv_icmp_eq (tgt := t.toNat) C.1 C.2.1 hd (by omega) (fun hx => ?_) (fun hx => ?_)
    · rw [if_pos (by simpa [jc2] using hx)] at h
      obtain ⟨rfl, rfl, rfl, rfl⟩ := jnx_inv h
      exact (g H locs cells slots ls hR hL hl hc hs)
    · rw [if_neg (by simpa [jc2] using hx)] at h
      obtain ⟨rfl, rfl, rfl, rfl⟩ := jnx_inv h
      exact (g H locs cells slots ls hR hL hl hc hs)
  · cases h
theorem jg_if_ne {o t : Int} (C : jCx p s m args c D own cc) (hd : decode cc pc = .ok (.ifCond .ne o, 3)) (ht : (pc : Int) + o = t) (h0 : 0 ≤ t) (h : jbr1 (jc1 .ne) pc t L st σ = some (.inl (pc', L', st', σ'))) (g : jG p l e R s m args below meth c D base H0 nL σ0 Q pc' L' st' σ') : jG p l e R s m args below meth c D base H0 nL σ0 Q pc L st σ := by
  intro H locs cells slots ls hR hL hl hc hs
  unfold jbr1 at h
  split at h
  · next x r =>
    refine lv_if_ne (tgt := t.toNat) C.1 C.2.1 hd (by omega) (fun hx => ?_) (fun hx => ?_)
    · rw [if_pos (by simpa [jc1] using hx)] at h
      obtain ⟨rfl, rfl, rfl, rfl⟩ := jnx_inv h
      exact (g H locs cells slots ls hR hL hl hc hs)
    · rw [if_neg (by simpa [jc1] using hx)] at h
      obtain ⟨rfl, rfl, rfl, rfl⟩ := jnx_inv h
      exact (g H locs cells slots ls hR hL hl hc hs)
  · cases h
theorem jg_icmp_ne {o t : Int} (C : jCx p s m args c D own cc) (hd : decode cc pc = .ok (.if_icmp .ne o, 3)) (ht : (pc : Int) + o = t) (h0 : 0 ≤ t) (h : jbr2 (jc2 .ne) pc t L st σ = some (.inl (pc', L', st', σ'))) (g : jG p l e R s m args below meth c D base H0 nL σ0 Q pc' L' st' σ') : jG p l e R s m args below meth c D base H0 nL σ0 Q pc L st σ := by
  intro H locs cells slots ls hR hL hl hc hs
  unfold jbr2 at h
  split at h
  · next x r =>
    refine lv_icmp_ne (tgt := t.toNat) C.1 C.2.1 hd (by omega) (fun hx => ?_) (fun hx => ?_)
    · rw [if_pos (by simpa [jc2] using hx)] at h
      obtain ⟨rfl, rfl, rfl, rfl⟩ := jnx_inv h
      exact (g H locs cells slots ls hR hL hl hc hs)
    · rw [if_neg (by simpa [jc2] using hx)] at h
      obtain ⟨rfl, rfl, rfl, rfl⟩ := jnx_inv h
      exact (g H locs cells slots ls hR hL hl hc hs)
  · cases h
theorem jg_if_lt {o t : Int} (C : jCx p s m args c D own cc) (hd : decode cc pc = .ok (.ifCond .lt o, 3)) (ht : (pc : Int) + o = t) (h0 : 0 ≤ t) (h : jbr1 (jc1 .lt) pc t L st σ = some (.inl (pc', L', st', σ'))) (g : jG p l e R s m args below meth c D base H0 nL σ0 Q pc' L' st' σ') : jG p l e R s m args below meth c D base H0 nL σ0 Q pc L st σ := by
  intro H locs cells slots ls hR hL hl hc hs
  unfold jbr1 at h
  split at h
  · next x r =>
    refine lv_if_lt (tgt := t.toNat) C.1 C.2.1 hd (by omega) (fun hx => ?_) (fun hx => ?_)
    · rw [if_pos (by simpa [jc1] using hx)] at h
      obtain ⟨rfl, rfl, rfl, rfl⟩ := jnx_inv h
      exact (g H locs cells slots ls hR hL hl hc hs)
    · rw [if_neg (by simpa [jc1] using hx)] at h
      obtain ⟨rfl, rfl, rfl, rfl⟩ := jnx_inv h
      exact (g H locs cells slots ls hR hL hl hc hs)
  · cases h
theorem jg_icmp_lt {o t : Int} (C : jCx p s m args c D own cc) (hd : decode cc pc = .ok (.if_icmp .lt o, 3)) (ht : (pc : Int) + o = t) (h0 : 0 ≤ t) (h : jbr2 (jc2 .lt) pc t L st σ = some (.inl (pc', L', st', σ'))) (g : jG p l e R s m args below meth c D base H0 nL σ0 Q pc' L' st' σ') : jG p l e R s m args below meth c D base H0 nL σ0 Q pc L st σ := by
  intro H locs cells slots ls hR hL hl hc hs
  unfold jbr2 at h
  split at h
  · next x r =>
    refine lv_icmp_lt (tgt := t.toNat) C.1 C.2.1 hd (by omega) (fun hx => ?_) (fun hx => ?_)
    · rw [if_pos (by simpa [jc2] using hx)] at h
      obtain ⟨rfl, rfl, rfl, rfl⟩ := jnx_inv h
      exact (g H locs cells slots ls hR hL hl hc hs)
    · rw [if_neg (by simpa [jc2] using hx)] at h
      obtain ⟨rfl, rfl, rfl, rfl⟩ := jnx_inv h
      exact (g H locs cells slots ls hR hL hl hc hs)
  · cases h
theorem jg_if_ge {o t : Int} (C : jCx p s m args c D own cc) (hd : decode cc pc = .ok (.ifCond .ge o, 3)) (ht : (pc : Int) + o = t) (h0 : 0 ≤ t) (h : jbr1 (jc1 .ge) pc t L st σ = some (.inl (pc', L', st', σ'))) (g : jG p l e R s m args below meth c D base H0 nL σ0 Q pc' L' st' σ') : jG p l e R s m args below meth c D base H0 nL σ0 Q pc L st σ := by
  intro H locs cells slots ls hR hL hl hc hs
  unfold jbr1 at h
  split at h
  · next x r =>
    refine lv_if_ge (tgt := t.toNat) C.1 C.2.1 hd (by omega) (fun hx => ?_) (fun hx => ?_)
    · rw [if_pos (by simpa [jc1] using hx)] at h
      obtain ⟨rfl, rfl, rfl, rfl⟩ := jnx_inv h
      exact (g H locs cells slots ls hR hL hl hc hs)
    · rw [if_neg (by simpa [jc1] using hx)] at h
      obtain ⟨rfl, rfl, rfl, rfl⟩ := jnx_inv h
      exact (g H locs cells slots ls hR hL hl hc hs)
  · cases h
theorem jg_icmp_ge {o t : Int} (C : jCx p s m args c D own cc) (hd : decode cc pc = .ok (.if_icmp .ge o, 3)) (ht : (pc : Int) + o = t) (h0 : 0 ≤ t) (h : jbr2 (jc2 .ge) pc t L st σ = some (.inl (pc', L', st', σ'))) (g : jG p l e R s m args below meth c D base H0 nL σ0 Q pc' L' st' σ') : jG p l e R s m args below meth c D base H0 nL σ0 Q pc L st σ := by
  intro H locs cells slots ls hR hL hl hc hs
  unfold jbr2 at h
  split at h
  · next x r =>
    refine lv_icmp_ge (tgt := t.toNat) C.1 C.2.1 hd (by omega) (fun hx => ?_) (fun hx => ?_)
    · rw [if_pos (by simpa [jc2] using hx)] at h
      obtain ⟨rfl, rfl, rfl, rfl⟩ := jnx_inv h
      exact (g H locs cells slots ls hR hL hl hc hs)
    · rw [if_neg (by simpa [jc2] using hx)] at h
      obtain ⟨rfl, rfl, rfl, rfl⟩ := jnx_inv h
      exact (g H locs cells slots ls hR hL hl hc hs)
  · cases h
theorem jg_if_gt {o t : Int} (C : jCx p s m args c D own cc) (hd : decode cc pc = .ok (.ifCond .gt o, 3)) (ht : (pc : Int) + o = t) (h0 : 0 ≤ t) (h : jbr1 (jc1 .gt) pc t L st σ = some (.inl (pc', L', st', σ'))) (g : jG p l e R s m args below meth c D base H0 nL σ0 Q pc' L' st' σ') : jG p l e R s m args below meth c D base H0 nL σ0 Q pc L st σ := by
  intro H locs cells slots ls hR hL hl hc hs
  unfold jbr1 at h
  split at h
  · next x r =>
    refine lv_if_gt (tgt := t.toNat) C.1 C.2.1 hd (by omega) (fun hx => ?_) (fun hx => ?_)
    · rw [if_pos (by simpa [jc1] using hx)] at h
      obtain ⟨rfl, rfl, rfl, rfl⟩ := jnx_inv h
      exact (g H locs cells slots ls hR hL hl hc hs)
    · rw [if_neg (by simpa [jc1] using hx)] at h
      obtain ⟨rfl, rfl, rfl, rfl⟩ := jnx_inv h
      exact (g H locs cells slots ls hR hL hl hc hs)
  · cases h
theorem jg_icmp_gt {o t : Int} (C : jCx p s m args c D own cc) (hd : decode cc pc = .ok (.if_icmp .gt o, 3)) (ht : (pc : Int) + o = t) (h0 : 0 ≤ t) (h : jbr2 (jc2 .gt) pc t L st σ = some (.inl (pc', L', st', σ'))) (g : jG p l e R s m args below meth c D base H0 nL σ0 Q pc' L' st' σ') : jG p l e R s m args below meth c D base H0 nL σ0 Q pc L st σ := by
  intro H locs cells slots ls hR hL hl hc hs
  unfold jbr2 at h
  split at h
  · next x r =>
    refine lv_icmp_gt (tgt := t.toNat) C.1 C.2.1 hd (by omega) (fun hx => ?_) (fun hx => ?_)
    · rw [if_pos (by simpa [jc2] using hx)] at h
      obtain ⟨rfl, rfl, rfl, rfl⟩ := jnx_inv h
      exact (g H locs cells slots ls hR hL hl hc hs)
    · rw [if_neg (by simpa [jc2] using hx)] at h
      obtain ⟨rfl, rfl, rfl, rfl⟩ := jnx_inv h
      exact (g H locs cells slots ls hR hL hl hc hs)
  · cases h
theorem jg_if_le {o t : Int} (C : jCx p s m args c D own cc) (hd : decode cc pc = .ok (.ifCond .le o, 3)) (ht : (pc : Int) + o = t) (h0 : 0 ≤ t) (h : jbr1 (jc1 .le) pc t L st σ = some (.inl (pc', L', st', σ'))) (g : jG p l e R s m args below meth c D base H0 nL σ0 Q pc' L' st' σ') : jG p l e R s m args below meth c D base H0 nL σ0 Q pc L st σ := by
  intro H locs cells slots ls hR hL hl hc hs
  unfold jbr1 at h
  split at h
  · next x r =>
    refine lv_if_le (tgt := t.toNat) C.1 C.2.1 hd (by omega) (fun hx => ?_) (fun hx => ?_)
    · rw [if_pos (by simpa [jc1] using hx)] at h
      obtain ⟨rfl, rfl, rfl, rfl⟩ := jnx_inv h
      exact (g H locs cells slots ls hR hL hl hc hs)
    · rw [if_neg (by simpa [jc1] using hx)] at h
      obtain ⟨rfl, rfl, rfl, rfl⟩ := jnx_inv h
      exact (g H locs cells slots ls hR hL hl hc hs)
  · cases h
theorem jg_icmp_le {o t : Int} (C : jCx p s m args c D own cc) (hd : decode cc pc = .ok (.if_icmp .le o, 3)) (ht : (pc : Int) + o = t) (h0 : 0 ≤ t) (h : jbr2 (jc2 .le) pc t L st σ = some (.inl (pc', L', st', σ'))) (g : jG p l e R s m args below meth c D base H0 nL σ0 Q pc' L' st' σ') : jG p l e R s m args below meth c D base H0 nL σ0 Q pc L st σ := by
  intro H locs cells slots ls hR hL hl hc hs
  unfold jbr2 at h
  split at h
  · next x r =>
    refine lv_icmp_le (tgt := t.toNat) C.1 C.2.1 hd (by omega) (fun hx => ?_) (fun hx => ?_)
    · rw [if_pos (by simpa [jc2] using hx)] at h
      obtain ⟨rfl, rfl, rfl, rfl⟩ := jnx_inv h
      exact (g H locs cells slots ls hR hL hl hc hs)
    · rw [if_neg (by simpa [jc2] using hx)] at h
      obtain ⟨rfl, rfl, rfl, rfl⟩ := jnx_inv h
      exact (g H locs cells slots ls hR hL hl hc hs)
  · cases h
theorem jg_ifnull {o t : Int} (C : jCx p s m args c D own cc) (hd : decode cc pc = .ok (.ifnull o, 3)) (ht : (pc : Int) + o = t) (h0 : 0 ≤ t) (h : jnul true pc t L st σ = some (.inl (pc', L', st', σ'))) (g : jG p l e R s m args below meth c D base H0 nL σ0 Q pc' L' st' σ') : jG p l e R s m args below meth c D base H0 nL σ0 Q pc L st σ := by
  intro H locs cells slots ls hR hL hl hc hs
  unfold jnul at h
  split at h
  · rw [if_pos rfl] at h
    obtain ⟨rfl, rfl, rfl, rfl⟩ := jnx_inv h
    exact lv_ifnullN (tgt := t.toNat) C.1 C.2.1 hd (by omega) (g H locs cells slots ls hR hL hl hc hs)
  · rw [if_pos rfl] at h
    obtain ⟨rfl, rfl, rfl, rfl⟩ := jnx_inv h
    exact lv_ifnull C.1 C.2.1 hd (g H locs cells slots ls hR hL hl hc hs)
  · cases h
theorem jg_ifnonnull {o t : Int} (C : jCx p s m args c D own cc) (hd : decode cc pc = .ok (.ifnonnull o, 3)) (ht : (pc : Int) + o = t) (h0 : 0 ≤ t) (h : jnul false pc t L st σ = some (.inl (pc', L', st', σ'))) (g : jG p l e R s m args below meth c D base H0 nL σ0 Q pc' L' st' σ') : jG p l e R s m args below meth c D base H0 nL σ0 Q pc L st σ := by
  intro H locs cells slots ls hR hL hl hc hs
  unfold jnul at h
  split at h
  · rw [if_neg (by decide)] at h
    obtain ⟨rfl, rfl, rfl, rfl⟩ := jnx_inv h
    exact lv_ifnonnullN C.1 C.2.1 hd (g H locs cells slots ls hR hL hl hc hs)
  · rw [if_neg (by decide)] at h
    obtain ⟨rfl, rfl, rfl, rfl⟩ := jnx_inv h
    exact lv_ifnonnull (tgt := t.toNat) C.1 C.2.1 hd (by omega) (g H locs cells slots ls hR hL hl hc hs)
  · cases h
theorem jg_table {d d' lo hi : Int} {os ts : Array Int} (C : jCx p s m args c D own cc) (hd : decode cc pc = .ok (.tableswitch d lo hi os, len)) (h1 : (pc : Int) + d = d') (h0 : 0 ≤ d') (hts : ts = os.map (fun o => (pc : Int) + o)) (ht0 : ts.all (fun t => decide (0 ≤ t)) = true) (h : jtab d' lo hi ts L st σ = some (.inl (pc', L', st', σ'))) (g : jG p l e R s m args below meth c D base H0 nL σ0 Q pc' L' st' σ') : jG p l e R s m args below meth c D base H0 nL σ0 Q pc L st σ := by
  intro H locs cells slots ls hR hL hl hc hs
  unfold jtab at h
  split at h
  · next x r =>
    split at h
    · next hx =>
      obtain ⟨rfl, rfl, rfl, rfl⟩ := jnx_inv h
      exact lv_tableOut (tgt := d'.toNat) C.1 C.2.1 hd hx (by omega) (g H locs cells slots ls hR hL hl hc hs)
    · next hx =>
      split at h
      · next t hg =>
        obtain ⟨rfl, rfl, rfl, rfl⟩ := jnx_inv h
        have hn : 0 ≤ t := by
          have h3 := Array.all_eq_true_iff_forall_mem.mp ht0 t (Array.mem_of_getElem? hg)
          simpa using h3
        rw [hts, Array.getElem?_map, Option.map_eq_some_iff] at hg
        obtain ⟨o, ho, he⟩ := hg
        exact lv_tableIn (off := o) (tgt := t.toNat) C.1 C.2.1 hd (fun q => hx (Or.inl q)) (fun q => hx (Or.inr q)) ho (by omega) (g H locs cells slots ls hR hL hl hc hs)
      · cases h
  · cases h
theorem jlk_off (ps : List (Int × Int)) (d k x : Int) : Op.lookupswitch.offset (ps.map (fun q => (q.1, k + q.2))) (k + d) x = k + Op.lookupswitch.offset ps d x := by
  induction ps with
  | nil => rfl
  | cons q ps ih =>
    obtain ⟨a, b⟩ := q
    simp only [List.map_cons, Op.lookupswitch.offset]
    split
    · rfl
    · exact ih
theorem jlk_nn (ps : List (Int × Int)) (d x : Int) (h0 : 0 ≤ d) (h : ∀ q ∈ ps, 0 ≤ q.2) : 0 ≤ Op.lookupswitch.offset ps d x := by
  induction ps with
  | nil => exact h0
  | cons q ps ih =>
    obtain ⟨a, b⟩ := q
    simp only [Op.lookupswitch.offset]
    split
    · exact h (a, b) List.mem_cons_self
    · exact ih (fun q hq => h q (List.mem_cons_of_mem _ hq))
theorem jg_lookup {d d' : Int} {os ts : Array (Int × Int)} (C : jCx p s m args c D own cc) (hd : decode cc pc = .ok (.lookupswitch d os, len)) (h1 : (pc : Int) + d = d') (h0 : 0 ≤ d') (hts : ts.toList = os.toList.map (fun q => (q.1, (pc : Int) + q.2))) (ht0 : ∀ q ∈ ts.toList, 0 ≤ q.2) (hp : (os.toList.zip (os.toList.drop 1)).all (fun (a, next) => a.1 < next.1) = true) (h : jlku d' ts L st σ = some (.inl (pc', L', st', σ'))) (g : jG p l e R s m args below meth c D base H0 nL σ0 Q pc' L' st' σ') : jG p l e R s m args below meth c D base H0 nL σ0 Q pc L st σ := by
  intro H locs cells slots ls hR hL hl hc hs
  unfold jlku at h
  split at h
  · next x r =>
    obtain ⟨rfl, rfl, rfl, rfl⟩ := jnx_inv h
    have hn := jlk_nn ts.toList d' x.toInt h0 ht0
    have ho : Op.lookupswitch.offset ts.toList d' x.toInt = (pc : Int) + Op.lookupswitch.offset os.toList d x.toInt := by rw [hts, ← h1, jlk_off]
    exact lv_lookup (tgt := (Op.lookupswitch.offset ts.toList d' x.toInt).toNat) C.1 C.2.1 hd hp rfl (by omega) (g H locs cells slots ls hR hL hl hc hs)
  · cases h
end JSTEPS2
