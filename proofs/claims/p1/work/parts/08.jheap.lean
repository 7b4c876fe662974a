/-! steps that read and write cells -/
section JHEAP
variable {p : Program} {l : Launch} {e : Env} {R : Room} {s : State} {m : MethodId} {args : Array Value} {below : List Frame} {meth : Method} {c : Code} {D : va_G} {base : Nat} {H0 : Heap} {nL : Nat} {σ0 : jS} {Q : State → Prop} {own : String} {cc : ByteArray} {pc pc' len : Nat} {L L' : jL} {st st' : List Value} {σ σ' : jS}
theorem jg_get {i k : Nat} (C : jCx p s m args c D own cc) (hd : decode cc pc = .ok (.getfield i, 3)) (hk : k / 256 < 13) (hf : k % 256 < jNt (k / 256)) (hw : Cond.fieldLink own i (jTX (k / 256) (k % 256)).1 (jTX (k / 256) (k % 256)).2.1 (jTX (k / 256) (k % 256)).2.2.1 ∈ jW)
    (h : jget k pc L st σ = some (.inl (pc', L', st', σ'))) (g : jG p l e R s m args below meth c D base H0 nL σ0 Q pc' L' st' σ') : jG p l e R s m args below meth c D base H0 nL σ0 Q pc L st σ := by
  intro H locs cells slots ls hR hL hl hc hs
  unfold jget at h
  split at h
  · next a r =>
    split at h
    · next q hq =>
      split at h
      · next ht =>
        obtain ⟨rfl, rfl, rfl, rfl⟩ := jnx_inv h
        obtain ⟨-, -, hat⟩ := hR.2.2.2 a q hq
        obtain ⟨cell, q1, q2, q3, q4⟩ := hat.1 (by omega)
        rw [ht] at q2 q4
        have hf' := Nat.lt_of_lt_of_le hf (jNt_le _)
        obtain ⟨hS, hfc, kC, hkC, hkind⟩ := C.2.2.2.2.1 (k / 256) _ (jvw hk)
        obtain ⟨cf, kf, fi, f, hi, hsl⟩ := hS (k % 256) hf'
        refine W.getf C.1 C.2.1 C.2.2.1 (C.2.2.2.1 _ hw) hi (u_facts hfc hkC (u_lays C.2.2.2.1 (jlays hk) hf') hi).1 q1 (by rw [q3]; exact fun h => by cases h) (v := q.2.2 (k % 256)) ?_ rfl rfl hd (g H locs cells slots ls hR hL hl hc hs)
        rw [hsl, q4 (k % 256) hf]
      · cases h
    · cases h
  · cases h
theorem jat_set {a : Nat} {q : jC} {cell : Cell} {H1 : Heap} {f : Nat} {v : Value} (hk : q.1 < 13) (hf : f < jNt q.1) (hap : ∀ x y, x < jNt q.1 → y < jNt q.1 → x ≠ y → (D.2 q.1) x ≠ (D.2 q.1) y) (h1 : H1[a]? = some (cell.setSlot ((D.2 q.1) f) v)) (q2 : cell.cls = D.1 q.1) (q3 : cell.vm = .none) (q4 : ∀ k, k < jNt q.1 → cell.slots[(D.2 q.1) k]? = some (q.2.2 k)) : jat D s a (q.1, q.2.1, updV q.2.2 f v) H1 :=
  ⟨fun _ => ⟨_, h1, q2, q3, t_set q4 hap hf v⟩, fun h => by simp only at h; omega⟩
theorem jg_put {i k : Nat} (C : jCx p s m args c D own cc) (hd : decode cc pc = .ok (.putfield i, 3)) (hk : k / 256 < 13) (hf : k % 256 < jNt (k / 256)) (hw : Cond.fieldLink own i (jTX (k / 256) (k % 256)).1 (jTX (k / 256) (k % 256)).2.1 (jTX (k / 256) (k % 256)).2.2.1 ∈ jW)
    (hfin : (jTX (k / 256) (k % 256)).2.2.2 = false ∨ ((jTX (k / 256) (k % 256)).2.2.2 = true ∧ meth.name = "<init>" ∧ (jTX (k / 256) (k % 256)).1 = own))
    (h : jput k pc L st σ = some (.inl (pc', L', st', σ'))) (g : jG p l e R s m args below meth c D base H0 nL σ0 Q pc' L' st' σ') : jG p l e R s m args below meth c D base H0 nL σ0 Q pc L st σ := by
  intro H locs cells slots ls hR hL hl hc hs
  unfold jput at h
  split at h
  · next v a r =>
    split at h
    · next q hq =>
      split at h
      · next ht =>
        obtain ⟨ht, hv⟩ := ht
        obtain ⟨rfl, rfl, rfl, rfl⟩ := jnx_inv h
        obtain ⟨-, hbs, hat⟩ := hR.2.2.2 a q hq
        have hb := hbs (by omega)
        obtain ⟨hn, hfit⟩ := jfits_spec hv
        obtain ⟨cell, q1, q2, q3, q4⟩ := hat.1 (by omega)
        have hap := va_apart (own := own) C.2.2.2.1 (jlays hk) (jTy (k / 256)) (jtys hk) (jnms hk) C.2.2.2.2 (jvw hk)
        rw [← ht] at hap hk hf hw hfin hn hfit
        have hap : ∀ x y, x < jNt q.1 → y < jNt q.1 → x ≠ y → (D.2 q.1) x ≠ (D.2 q.1) y := fun x y hx hy => hap x y (Nat.lt_of_lt_of_le hx (jNt_le _)) (Nat.lt_of_lt_of_le hy (jNt_le _))
        have hf' := Nat.lt_of_lt_of_le hf (jNt_le _)
        obtain ⟨hS, hfc, kC, hkC, hkind⟩ := C.2.2.2.2.1 q.1 _ (jvw hk)
        obtain ⟨cf, kf, fi, f, hi, hsl⟩ := hS (k % 256) hf'
        have hst := (u_facts hfc hkC (u_lays C.2.2.2.1 (jlays hk) hf') hi).1
        have hty := jtys hk (k % 256) hf'
        have hlay := C.2.2.2.1 _ (jlays hk _ (u_in_lay hf'))
        have hlocs : ∀ z ∈ locs ++ [⟨a, f.slot⟩], base ≤ z.base := by
          intro z hz
          rcases List.mem_append.mp hz with h1 | h1
          · exact hl z h1
          · rw [List.mem_singleton] at h1
            subst h1
            exact hb
        rcases hfin with hfin | ⟨hfin, hin, hdecl⟩
        · unfold u_lay at hlay
          rw [if_neg (by rw [hfin]; decide)] at hlay
          have h6 := u_store hfc hkC hkind hlay hi hty hn hfit
          refine W.putK C.1 C.2.1 (f := f) ⟨C.2.2.1, C.2.2.2.1 _ hw, ⟨_, _, _, hi⟩, hst⟩ (by rw [q2]; exact h6) q1 q3 (by rw [hsl]; exact k2_hasslot (q4 (k % 256) hf)) rfl rfl hd fun H' e1 e2 e3 => ?_
          rw [hsl] at e1
          exact g H' _ cells slots ls (hR.set hq (by omega) e2 e3 (jat_set hk hf hap e1 q2 q3 q4)) hL hlocs hc hs
        · unfold u_lay at hlay
          rw [if_pos hfin] at hlay
          have hcf : m.cls = cf := by
            obtain ⟨_, _, c', _, _, _, -, -, hf', -, -, -, hown2, -⟩ := Cond.laysFinal_spec hlay
            have e1 : c' = cf := by have := hi.symm.trans hf'; simp at this; exact this.1.symm
            rw [hdecl] at hown2
            rw [← e1]; exact Option.some.inj (C.2.2.1.symm.trans hown2)
          have h6 := u_fits hfc hkC hkind (Or.inr hlay) hi hty hn hfit
          refine W.putFinK C.1 C.2.1 C.2.2.1 (C.2.2.2.1 _ hw) hi hst hcf hin (by rw [q2]; exact h6) q1 q3 (by rw [hsl]; exact k2_hasslot (q4 (k % 256) hf)) rfl rfl hd fun H' e1 e2 e3 => ?_
          rw [hsl] at e1
          exact g H' _ cells slots ls (hR.set hq (by omega) e2 e3 (jat_set hk hf hap e1 q2 q3 q4)) hL hlocs hc hs
      · cases h
    · cases h
  · cases h
theorem jin {j : Int32} {n : Nat} (h0 : 0 ≤ j) (h : j.toNatClampNeg < n) : ¬ (j < 0 ∨ n ≤ j.toNatClampNeg) := by
  rintro (h1 | h1)
  · exact absurd h0 (Int32.not_le.mpr h1)
  · omega
theorem jlocs {locs : List Loc} {a i : Nat} (hl : ∀ z ∈ locs, base ≤ z.base) (hb : base ≤ a) : ∀ z ∈ locs ++ [(⟨a, i⟩ : Loc)], base ≤ z.base := by
  intro z hz
  rcases List.mem_append.mp hz with h1 | h1
  · exact hl z h1
  · rw [List.mem_singleton] at h1
    subst h1
    exact hb
theorem jald_inv {ok : Nat → Bool} (h : jald ok pc L st σ = some (.inl (pc', L', st', σ'))) : ∃ (j : Int32) (a : Nat) (r : List Value) (q : jC), st = .int j :: .ref a :: r ∧ σ.1 a = some q ∧ ok q.1 = true ∧ 0 ≤ j ∧ j.toNatClampNeg < q.2.1 ∧ pc' = pc + 1 ∧ L' = L ∧ st' = q.2.2 j.toNatClampNeg :: r ∧ σ' = σ := by
  unfold jald at h
  split at h
  · next j a r =>
    split at h
    · next q hq =>
      split at h
      · next ht =>
        obtain ⟨rfl, rfl, rfl, rfl⟩ := jnx_inv h
        exact ⟨j, a, r, q, rfl, hq, ht.1, ht.2.1, ht.2.2, rfl, rfl, rfl, rfl⟩
      · cases h
    · cases h
  · cases h
theorem jg_iald (C : jCx p s m args c D own cc) (hd : decode cc pc = .ok (.iaload, 1)) (h : jald (fun t => t == 20 || t == 25) pc L st σ = some (.inl (pc', L', st', σ'))) (g : jG p l e R s m args below meth c D base H0 nL σ0 Q pc' L' st' σ') : jG p l e R s m args below meth c D base H0 nL σ0 Q pc L st σ := by
  intro H locs cells slots ls hR hL hl hc hs
  obtain ⟨j, a, r, q, rfl, hq, hok, h0, hj, rfl, rfl, rfl, rfl⟩ := jald_inv h
  simp only [Bool.or_eq_true, beq_iff_eq] at hok
  obtain ⟨-, -, hat⟩ := hR.2.2.2 a q hq
  obtain ⟨hlt, cell, kA, comp, q1, q2, q3, q4, q5, q6, q7, q8⟩ := hat.2 (by omega) (by omega)
  have hty : jAt q.1 = .int := by rcases hok with h | h <;> rw [h] <;> rfl
  rw [hty] at q5
  exact W.iald C.1 C.2.1 q1 (jarr q2 q4 q5) q3 (by rw [q7]; exact jin h0 hj) (q8 _ hj).1 rfl rfl hd (g H locs cells slots ls hR hL hl hc hs)
theorem jg_lald (C : jCx p s m args c D own cc) (hd : decode cc pc = .ok (.laload, 1)) (h : jald (fun t => t == 21) pc L st σ = some (.inl (pc', L', st', σ'))) (g : jG p l e R s m args below meth c D base H0 nL σ0 Q pc' L' st' σ') : jG p l e R s m args below meth c D base H0 nL σ0 Q pc L st σ := by
  intro H locs cells slots ls hR hL hl hc hs
  obtain ⟨j, a, r, q, rfl, hq, hok, h0, hj, rfl, rfl, rfl, rfl⟩ := jald_inv h
  simp only [beq_iff_eq] at hok
  obtain ⟨-, -, hat⟩ := hR.2.2.2 a q hq
  obtain ⟨hlt, cell, kA, comp, q1, q2, q3, q4, q5, q6, q7, q8⟩ := hat.2 (by omega) (by omega)
  rw [show jAt q.1 = .long by rw [hok]; rfl] at q5
  exact W.lald C.1 C.2.1 q1 (jarr q2 q4 q5) q3 (by rw [q7]; exact jin h0 hj) (q8 _ hj).1 rfl rfl hd (g H locs cells slots ls hR hL hl hc hs)
theorem jg_bald (C : jCx p s m args c D own cc) (hd : decode cc pc = .ok (.baload, 1)) (h : jald (fun t => t == 22 || t == 23) pc L st σ = some (.inl (pc', L', st', σ'))) (g : jG p l e R s m args below meth c D base H0 nL σ0 Q pc' L' st' σ') : jG p l e R s m args below meth c D base H0 nL σ0 Q pc L st σ := by
  intro H locs cells slots ls hR hL hl hc hs
  obtain ⟨j, a, r, q, rfl, hq, hok, h0, hj, rfl, rfl, rfl, rfl⟩ := jald_inv h
  simp only [Bool.or_eq_true, beq_iff_eq] at hok
  obtain ⟨-, -, hat⟩ := hR.2.2.2 a q hq
  obtain ⟨hlt, cell, kA, comp, q1, q2, q3, q4, q5, q6, q7, q8⟩ := hat.2 (by omega) (by omega)
  rcases hok with hok | hok
  · rw [show jAt q.1 = .byte by rw [hok]; rfl] at q5
    exact W.bald C.1 C.2.1 q1 (jarr q2 q4 q5) q3 (by rw [q7]; exact jin h0 hj) (q8 _ hj).1 rfl rfl hd (g H locs cells slots ls hR hL hl hc hs)
  · rw [show jAt q.1 = .boolean by rw [hok]; rfl] at q5
    exact W.zald C.1 C.2.1 q1 (jarr q2 q4 q5) q3 (by rw [q7]; exact jin h0 hj) (q8 _ hj).1 rfl rfl hd (g H locs cells slots ls hR hL hl hc hs)
theorem jg_aald (C : jCx p s m args c D own cc) (hd : decode cc pc = .ok (.aaload, 1)) (h : jald (fun t => t == 24) pc L st σ = some (.inl (pc', L', st', σ'))) (g : jG p l e R s m args below meth c D base H0 nL σ0 Q pc' L' st' σ') : jG p l e R s m args below meth c D base H0 nL σ0 Q pc L st σ := by
  intro H locs cells slots ls hR hL hl hc hs
  obtain ⟨j, a, r, q, rfl, hq, hok, h0, hj, rfl, rfl, rfl, rfl⟩ := jald_inv h
  simp only [beq_iff_eq] at hok
  obtain ⟨-, -, hat⟩ := hR.2.2.2 a q hq
  obtain ⟨hlt, cell, kA, comp, q1, q2, q3, q4, q5, q6, q7, q8⟩ := hat.2 (by omega) (by omega)
  rw [show jAt q.1 = .object RX2 by rw [hok]; rfl] at q5
  exact W.aald C.1 C.2.1 q1 (jarr q2 q4 q5) rfl q3 (by rw [q7]; exact jin h0 hj) (q8 _ hj).1 rfl rfl hd (g H locs cells slots ls hR hL hl hc hs)
theorem jast_inv {ok : Nat → Bool} {gg : Nat → Value → Option Value} (h : jast ok gg pc L st σ = some (.inl (pc', L', st', σ'))) : ∃ (v w : Value) (j : Int32) (a : Nat) (r : List Value) (q : jC), st = v :: .int j :: .ref a :: r ∧ σ.1 a = some q ∧ gg q.1 v = some w ∧ ok q.1 = true ∧ 0 ≤ j ∧ j.toNatClampNeg < q.2.1 ∧ pc' = pc + 1 ∧ L' = L ∧ st' = r ∧ σ' = jset σ a (q.1, q.2.1, updV q.2.2 j.toNatClampNeg w) := by
  unfold jast at h
  split at h
  · next v j a r =>
    split at h
    · next q hq =>
      split at h
      · next w hw =>
        split at h
        · next ht =>
          obtain ⟨rfl, rfl, rfl, rfl⟩ := jnx_inv h
          exact ⟨v, w, j, a, _, q, rfl, hq, hw, ht.1, ht.2.1, ht.2.2, rfl, rfl, rfl, rfl⟩
        · cases h
      · cases h
    · cases h
  · cases h
theorem jg_iast (C : jCx p s m args c D own cc) (hd : decode cc pc = .ok (.iastore, 1)) (h : jast (fun t => t == 20) jgI pc L st σ = some (.inl (pc', L', st', σ'))) (g : jG p l e R s m args below meth c D base H0 nL σ0 Q pc' L' st' σ') : jG p l e R s m args below meth c D base H0 nL σ0 Q pc L st σ := by
  intro H locs cells slots ls hR hL hl hc hs
  obtain ⟨v, w, j, a, r, q, rfl, hq, hw, hok, h0, hj, rfl, rfl, rfl, rfl⟩ := jast_inv h
  simp only [beq_iff_eq] at hok
  cases v <;> simp [jgI] at hw
  subst hw
  obtain ⟨-, hb, hat⟩ := hR.2.2.2 a q hq
  obtain ⟨hlt, cell, kA, comp, q1, q2, q3, q4, q5, q6, q7, q8⟩ := hat.2 (by omega) (by omega)
  have hty : jAt q.1 = .int := by rw [hok]; rfl
  refine W.iast C.1 C.2.1 q1 (jarr q2 q4 (hty ▸ q5)) q3 (by rw [q7]; exact jin h0 hj) rfl rfl hd fun H' e1 e2 e3 => ?_
  exact g H' _ cells slots ls (hR.set hq (by omega) e2 e3 (jarr_set e1 (by omega) hlt q2 q3 q4 q5 q6 q7 q8 hj (by rw [hty]; rfl))) hL (jlocs hl (hb (by omega))) hc hs
theorem jg_last (C : jCx p s m args c D own cc) (hd : decode cc pc = .ok (.lastore, 1)) (h : jast (fun t => t == 21) jgL pc L st σ = some (.inl (pc', L', st', σ'))) (g : jG p l e R s m args below meth c D base H0 nL σ0 Q pc' L' st' σ') : jG p l e R s m args below meth c D base H0 nL σ0 Q pc L st σ := by
  intro H locs cells slots ls hR hL hl hc hs
  obtain ⟨v, w, j, a, r, q, rfl, hq, hw, hok, h0, hj, rfl, rfl, rfl, rfl⟩ := jast_inv h
  simp only [beq_iff_eq] at hok
  cases v <;> simp [jgL] at hw
  subst hw
  obtain ⟨-, hb, hat⟩ := hR.2.2.2 a q hq
  obtain ⟨hlt, cell, kA, comp, q1, q2, q3, q4, q5, q6, q7, q8⟩ := hat.2 (by omega) (by omega)
  have hty : jAt q.1 = .long := by rw [hok]; rfl
  refine W.last C.1 C.2.1 q1 (jarr q2 q4 (hty ▸ q5)) q3 (by rw [q7]; exact jin h0 hj) rfl rfl hd fun H' e1 e2 e3 => ?_
  exact g H' _ cells slots ls (hR.set hq (by omega) e2 e3 (jarr_set e1 (by omega) hlt q2 q3 q4 q5 q6 q7 q8 hj (by rw [hty]; rfl))) hL (jlocs hl (hb (by omega))) hc hs
theorem jg_bast (C : jCx p s m args c D own cc) (hd : decode cc pc = .ok (.bastore, 1)) (h : jast (fun t => t == 22 || t == 23) jgB pc L st σ = some (.inl (pc', L', st', σ'))) (g : jG p l e R s m args below meth c D base H0 nL σ0 Q pc' L' st' σ') : jG p l e R s m args below meth c D base H0 nL σ0 Q pc L st σ := by
  intro H locs cells slots ls hR hL hl hc hs
  obtain ⟨v, w, j, a, r, q, rfl, hq, hw, hok, h0, hj, rfl, rfl, rfl, rfl⟩ := jast_inv h
  simp only [Bool.or_eq_true, beq_iff_eq] at hok
  obtain ⟨-, hb, hat⟩ := hR.2.2.2 a q hq
  obtain ⟨hlt, cell, kA, comp, q1, q2, q3, q4, q5, q6, q7, q8⟩ := hat.2 (by omega) (by omega)
  rcases hok with hok | hok
  · have hty : jAt q.1 = .byte := by rw [hok]; rfl
    rw [hok] at hw
    cases v <;> simp [jgB] at hw
    subst hw
    refine W.bast C.1 C.2.1 q1 (jarr q2 q4 (hty ▸ q5)) q3 (by rw [q7]; exact jin h0 hj) rfl rfl hd fun H' e1 e2 e3 => ?_
    exact g H' _ cells slots ls (hR.set hq (by omega) e2 e3 (jarr_set e1 (by omega) hlt q2 q3 q4 q5 q6 q7 q8 hj (by rw [hty]; exact fits_narrow_byte _))) hL (jlocs hl (hb (by omega))) hc hs
  · have hty : jAt q.1 = .boolean := by rw [hok]; rfl
    rw [hok] at hw
    cases v <;> simp [jgB] at hw
    subst hw
    refine W.zast C.1 C.2.1 q1 (jarr q2 q4 (hty ▸ q5)) q3 (by rw [q7]; exact jin h0 hj) rfl rfl hd fun H' e1 e2 e3 => ?_
    exact g H' _ cells slots ls (hR.set hq (by omega) e2 e3 (jarr_set e1 (by omega) hlt q2 q3 q4 q5 q6 q7 q8 hj (by rw [hty]; exact fits_narrow_boolean _))) hL (jlocs hl (hb (by omega))) hc hs
theorem jg_aast (C : jCx p s m args c D own cc) (hd : decode cc pc = .ok (.aastore, 1)) (h : jaast pc L st σ = some (.inl (pc', L', st', σ'))) (g : jG p l e R s m args below meth c D base H0 nL σ0 Q pc' L' st' σ') : jG p l e R s m args below meth c D base H0 nL σ0 Q pc L st σ := by
  intro H locs cells slots ls hR hL hl hc hs
  unfold jaast at h
  split at h
  · next v j a r =>
    split at h
    · next q d hq hv =>
      split at h
      · next ht =>
        obtain ⟨t1, t2, h0, hj⟩ := ht
        obtain ⟨rfl, rfl, rfl, rfl⟩ := jnx_inv h
        obtain ⟨-, hb, hat⟩ := hR.2.2.2 a q hq
        obtain ⟨hlt, cell, kA, comp, q1, q2, q3, q4, q5, q6, q7, q8⟩ := hat.2 (by omega) (by omega)
        obtain ⟨-, -, hav⟩ := hR.2.2.2 v d hv
        obtain ⟨cellV, g1, g2, g3, -⟩ := hav.1 (by omega)
        have hcls := (C.2.2.2.2.1 2 _ (jvw (by decide))).2
        have hcomp : comp = D.1 2 := Option.some.inj ((q6 t1).symm.trans hcls.1)
        obtain ⟨kC, hkC, -⟩ := hcls.2
        rw [t2] at g2
        refine W.aast C.1 C.2.1 q1 q2 q3 q4 q5 (by rw [t1]; rfl) (by rw [hcomp]; exact hkC) ⟨Int32.not_lt.mpr h0, by rw [q7]; exact hj⟩ g1 (fun z hz => by rw [g3] at hz; cases hz) (by rw [g2]; exact hkC) (by rw [g2, hcomp]; exact va_assign hcls) rfl rfl hd fun H' e1 e2 e3 => ?_
        exact g H' _ cells slots ls (hR.set hq (by omega) e2 e3 (jarr_set e1 (by omega) hlt q2 q3 q4 q5 q6 q7 q8 hj (by rw [t1]; rfl))) hL (jlocs hl (hb (by omega))) hc hs
      · cases h
    · cases h
  · cases h
theorem jg_alen (C : jCx p s m args c D own cc) (hd : decode cc pc = .ok (.arraylength, 1)) (h : jlen pc L st σ = some (.inl (pc', L', st', σ'))) (g : jG p l e R s m args below meth c D base H0 nL σ0 Q pc' L' st' σ') : jG p l e R s m args below meth c D base H0 nL σ0 Q pc L st σ := by
  intro H locs cells slots ls hR hL hl hc hs
  unfold jlen at h
  split at h
  · next a r =>
    split at h
    · next q hq =>
      split at h
      · next ht =>
        obtain ⟨rfl, rfl, rfl, rfl⟩ := jnx_inv h
        obtain ⟨-, -, hat⟩ := hR.2.2.2 a q hq
        obtain ⟨hlt, cell, kA, comp, q1, q2, q3, q4, q5, q6, q7, q8⟩ := hat.2 ht.1 ht.2
        exact W.alen C.1 C.2.1 q1 (jarr q2 q4 q5) (by rw [q7]; rfl) rfl rfl hd (g H locs cells slots ls hR hL hl hc hs)
      · cases h
    · cases h
  · cases h
end JHEAP
