/-! walk: the class's expand -/
section XL
variable (rN : Int32 → Nm) (N : Nat → Nat → Int32) (wt : Nat) (p s : Int32)
noncomputable def bXl (V : aW Nm) (i : Int32) (r k : Nat) (q : Bool) (E : List bE) : Nat × Int32 × List bE :=
  let z := bTs rN N wt p s V i r k q E
  if z.1 = 0 ∧ z.2.2.2 = true then
    (match aDue V.1 0 none with
     | none => (0, -1, z.2.2.1)
     | some y =>
       let u := bMt rN N wt p s z.2.2.1 i V.2.1.1 (-1) (aGo rN false (aUp V y.1) V).2
       (u.1, -1, u.2))
  else (z.1, z.2.1, z.2.2.1)
end XL
section XM
variable {rN : Int32 → Nm} {N : Nat → Nat → Int32} {wt : Nat} {p s : Int32} {V W : aW Nm} {i : Int32} {E : List bE}
theorem bXl_n {r k : Nat} {q : Bool} (h : (aTurn rN N false k V).1 = 0) : bXl rN N wt p s V i (r + 1) k q E = bXl rN N wt p s V i r (k + 1) q E := by
  unfold bXl
  have e : bTs rN N wt p s V i (r + 1) k q E = bTs rN N wt p s V i r (k + 1) q E := by
    show (if (aTurn rN N false k V).1 = 0 then bTs rN N wt p s V i r (k + 1) q E else _) = _
    rw [if_pos h]
  rw [e]
theorem bXl_g {r k : Nat} {q : Bool} {z : Nat × List bE} (h : ¬ (aTurn rN N false k V).1 = 0) (hz : z = bMt rN N wt p s E i V.2.1.1 (aAt V k).1.1 (aTurn rN N false k V).2) (h0 : z.1 = 0) : bXl rN N wt p s V i (r + 1) k q E = bXl rN N wt p s V i r (k + 1) false z.2 := by
  unfold bXl
  have e : bTs rN N wt p s V i (r + 1) k q E = bTs rN N wt p s V i r (k + 1) false z.2 := by
    show (if (aTurn rN N false k V).1 = 0 then bTs rN N wt p s V i r (k + 1) q E else _) = _
    rw [if_neg h]
    simp only
    rw [← hz, if_pos h0]
  rw [e]
theorem bXl_s {r k : Nat} {q : Bool} {z : Nat × List bE} (h : ¬ (aTurn rN N false k V).1 = 0) (hz : z = bMt rN N wt p s E i V.2.1.1 (aAt V k).1.1 (aTurn rN N false k V).2) (h0 : ¬ z.1 = 0) : bXl rN N wt p s V i (r + 1) k q E = (z.1, (aAt V k).1.1, z.2) := by
  unfold bXl
  have e : bTs rN N wt p s V i (r + 1) k q E = (z.1, (aAt V k).1.1, z.2, false) := by
    show (if (aTurn rN N false k V).1 = 0 then bTs rN N wt p s V i r (k + 1) q E else _) = _
    rw [if_neg h]
    simp only
    rw [← hz, if_neg h0]
  rw [e]
  simp only
  rw [if_neg (fun c => h0 c.1)]
theorem bXl_f {k : Nat} : bXl rN N wt p s V i 0 k false E = (0, -1, E) := by
  unfold bXl bTs
  simp
theorem bXl_t {k : Nat} : bXl rN N wt p s V i 0 k true E = (match aDue V.1 0 none with | none => (0, -1, E) | some y => ((bMt rN N wt p s E i V.2.1.1 (-1) (aGo rN false (aUp V y.1) V).2).1, -1, (bMt rN N wt p s E i V.2.1.1 (-1) (aGo rN false (aUp V y.1) V).2).2)) := by
  unfold bXl bTs
  simp only [and_self, if_true]
theorem aTurn_0 {l : Bool} {k : Nat} (h : (aTurn rN N l k W).1 = 0) : (aTurn rN N l k W).2 = W := by
  obtain ⟨kd, i, c, hp⟩ : ∃ kd i c, aPlan rN N W.2.1.2.1 (aAt W k) = (kd, i, c) := ⟨_, _, _, rfl⟩
  rw [aTurn_B hp] at h ⊢
  by_cases h0 : kd = 0
  · unfold aTurnB
    rw [if_pos h0]
  · exfalso
    unfold aTurnB at h
    rw [if_neg h0] at h
    simp only at h
    by_cases h5 : kd = 5
    · rw [if_pos h5] at h
      exact absurd h (by simp only; decide)
    · rw [if_neg h5] at h
      exact h0 h
theorem lsT_mem : ∀ (ts : List (Nm × Int32)) (i : Nat) (z : Int32 × Nat), (∃ t, t ∈ ts ∧ t.2 = (lsT ts i z).1) ∨ (lsT ts i z).1 = z.1 := by
  intro ts
  induction ts with
  | nil => intro i z; exact Or.inr rfl
  | cons t ts ih =>
    intro i z
    unfold lsT
    rcases ih (i + 1) (if t.2 < z.1 then (t.2, i) else z) with ⟨u, u1, u2⟩ | u
    · exact Or.inl ⟨u, List.mem_cons_of_mem _ u1, u2⟩
    · rw [u]
      by_cases c : t.2 < z.1
      · rw [if_pos c]; exact Or.inl ⟨t, List.mem_cons_self .., rfl⟩
      · rw [if_neg c]; exact Or.inr rfl
theorem lst1_mem {ts : List (Nm × Int32)} (h : ts ≠ []) : ∃ t, t ∈ ts ∧ t.2 = (lst1 ts).1 := by
  cases ts with
  | nil => exact absurd rfl h
  | cons t ts =>
    rcases lsT_mem ts 1 (t.2, 0) with ⟨u, u1, u2⟩ | u
    · exact ⟨u, List.mem_cons_of_mem _ u1, u2⟩
    · exact ⟨t, List.mem_cons_self .., u.symm⟩
theorem bMt_pre {g0 dd : Int32} {e : Nat} {x : bE} (hx : E[e]? = some x) : (bMt rN N wt p s E i g0 dd W).2[e]? = some x := by
  show (bM0 wt E i g0 dd W).2[e]? = some x
  unfold bM0
  have he := lt_of_some hx
  by_cases c1 : g0 < W.2.1.1 ∧ 61 < W.2.1.1
  · rw [if_pos c1]; exact hx
  rw [if_neg c1]
  by_cases c2 : bKn E W = true
  · rw [if_pos c2]; exact hx
  rw [if_neg c2]
  by_cases c3 : 1000 ≤ E.length
  · rw [if_pos c3]; exact hx
  rw [if_neg c3]
  show (E ++ _)[e]? = _
  rw [List.getElem?_append_left he]
  exact hx
theorem mq_at {W V : aW Nm} (h : mq W V) (k : Nat) : (aAt W k).1 = (aAt V k).1 := by
  have hA : eI (aAt W k) = eI (aAt V k) := by rw [← mp_at, ← mp_at, show mp W = mp V from h]
  have := congrArg (fun z : aI Nm => z.1) hA
  exact this
theorem mq_len {W V : aW Nm} (h : mq W V) : W.1.length = V.1.length := by
  have := congrArg List.length (mq_map h)
  rwa [List.length_map, List.length_map] at this
end XM
theorem hDi_a {D0 i m : Nat} (h1 : i < m) (h2 : m ≤ 1000) (h3 : D0 + 1000000 * 1002 < 2 ^ 31 - 1) : D0 + 1000000 * i + 2000000 < 2 ^ 31 - 1 := by omega
theorem hDi_of {D0 i m : Nat} (h1 : i < m) (h2 : m ≤ 1000) (h3 : D0 + 1000000 * 1002 < 2 ^ 31 - 1) : D0 + 1000000 * (i + 1) + 1000000 < 2 ^ 31 - 1 := by
  have e : D0 + 1000000 * (i + 1) + 1000000 = D0 + 1000000 * i + 2000000 := by
    rw [Nat.mul_succ]
    simp only [Nat.add_assoc, Nat.reduceAdd]
  rw [e]
  exact hDi_a h1 h2 h3
def fRk (R R' : Nat → Nat → Nat) : Prop := ∀ c j, c ≠ 140 → ¬ (c = 132 ∧ j = 0) → R' c j = R c j
section CXL
variable {A : Nat → Nat} {d b : Nat} {h : Nat → Option jC} {J : Nat → Nat → Int64} {cN rN : Int32 → Nm} {V : aW Nm} {N : Nat → Nat → Int32} {O G E' : Nat → Int32} {np P L M wt Gm D0 i : Nat} {p s : Int32}
/-- all that expand must find, and leave -/
def cZ (cN rN : Int32 → Nm) (N : Nat → Nat → Int32) (O G E' : Nat → Int32) (np P L wt Gm D0 : Nat) (p s : Int32) (X : jXX) (I : Nat → Nat → Int32) (R : Nat → Nat → Nat) (E : List bE) : Prop := cS cN rN N O G E' np P L wt p s X I R E ∧ eV N np Gm D0 E ∧ bOr E ∧ E.length ≤ 1000
theorem unp {X : jXX} {I : Nat → Nat → Int32} {R : Nat → Nat → Nat} {n : Nat} {E : List bE} {x : bE} (hP : isP P) (hZ : cZ cN rN N O G E' np P L wt Gm D0 p s X I R E) (hx : E[i]? = some x) : ∃ I1 W f, I 207 i = nI f ∧ I 208 i = x.1.2.1.2.1 ∧ jcall A jcode (d + 3) 145 [.ref (b + 132), .ref (b + P), .ref (b + ad X 206), .int (nI f), .int x.1.2.1.2.1] (jH h b X I J R n) = some (.inl none, jH h b X I1 J R n) ∧ wC cN I1 R 132 W ∧ mq W x.1 ∧ cZ cN rN N O G E' np P L wt Gm D0 p s X I1 R E ∧ fWk I I1 ∧ I1 131 14 = I 131 14 := by
  obtain ⟨hS, hE, hO, hl⟩ := hZ
  have hS' := hS
  obtain ⟨a1, a2, a3, a4, ⟨F, Z, a5⟩, a6, a7, a8⟩ := hS'
  obtain ⟨c1, c2, c3, c4, c5, c6, c7, c8, c9⟩ := a5
  have hi := lt_of_some hx
  obtain ⟨v1, v2, v3, v4, v5⟩ := hE i x hx
  obtain ⟨y1, y2, y3, y4, y5⟩ := c9 i x hx
  have hb := zpl_b c5
  obtain ⟨I1, W, e1, w1, m1, f1⟩ := c145 (A := A) (d := d) (b := b) (h := h) (X := X) (I := I) (J := J) (R := R) (n := n) hP a3 a4 a1 (by omega) (c8 i hi).2 v3.1 y1 (okI_all v3) v2
  rw [u2_same a2] at e1 w1
  have h6 : I1 133 6 = 0 := (w1.2.2.2.2 rfl).2.2
  have fr : ∀ c i, c < 132 ∨ 205 < c → I1 c i = I c i := fun c i hc => f1.1 c i (by omega)
  exact ⟨I1, W, F i, (c4 i hi).1, y3, e1, w1, m1, ⟨cS_sc hP hS fr a2 a3 h6, hE, hO, hl⟩, ⟨fun c i hc => fr c i (by omega), fun i _ _ => fr _ _ (by omega)⟩, fr _ _ (by omega)⟩
theorem c105l (hm1 : cN (-1) = rN (-1)) (hm : ∀ z, rN z = cN (-1) → z = -1) (hj : ∀ x y, cN x = cN y → x = y) (hP : isP P) (hvN : vN N M np) (hG6 : 61 ≤ Gm) (hG : Gm < 2 ^ 29) (hD : D0 + 1000000 * 1002 < 2 ^ 31 - 1) (hwt : wt ≤ 3) {lv : Nat} {x : bE} (hlv : lv = x.1.1.length) : ∀ (r k : Nat) (q : Bool) (mv : Nat) (E : List bE) (X : jXX) (I : Nat → Nat → Int32) (R : Nat → Nat → Nat) (n : Nat) (c7 c8 c9 : Option Value), k + r = lv → mv ≤ 1 → E[i]? = some x → cZ cN rN N O G E' np P L wt Gm D0 p s X I R E → (mv = 0 → ∃ W, wC cN I R 132 W ∧ mq W x.1) → ∃ X' I' R' n', M105 A (d + 5) 41 [some (.ref (b + 131)), some (.ref (b + P)), some (.int (nI i)), some (.int (nI lv)), some (.int (nI q.toNat)), some (.int (nI mv)), some (.int (nI (k))), c7, c8, c9] [] (jH h b X I J R n) = some (.inl (some (.int (nI (bXl rN N wt p s x.1 (nI i) r k q E).1))), jH h b X' I' J R' n') ∧ cZ cN rN N O G E' np P L wt Gm D0 p s X' I' R' (bXl rN N wt p s x.1 (nI i) r k q E).2.2 ∧ fWk I I' ∧ fRk R R' ∧ gro X n X' n' ∧ fPo X X' ∧ ((bXl rN N wt p s x.1 (nI i) r k q E).1 = 1 → told I' (bXl rN N wt p s x.1 (nI i) r k q E).2.2 i (bXl rN N wt p s x.1 (nI i) r k q E).2.1) ∧ ((bXl rN N wt p s x.1 (nI i) r k q E).1 ≠ 1 → I' 131 14 = I 131 14) ∧ (bXl rN N wt p s x.1 (nI i) r k q E).1 ≤ 2 := by
  have hw : isW 132 := by simp [isW]
  have hPe := isP_e hP
  intro r
  -- the head: the scratch world is the entry's
  have head : ∀ (k : Nat) (q : Bool) (mv : Nat) (E : List bE) (X : jXX) (I : Nat → Nat → Int32) (R : Nat → Nat → Nat) (n : Nat) (c7 c8 c9 : Option Value), k ≤ lv → mv ≤ 1 → E[i]? = some x → cZ cN rN N O G E' np P L wt Gm D0 p s X I R E → (mv = 0 → ∃ W, wC cN I R 132 W ∧ mq W x.1) → ∃ I1 W, M105 A (d + 5) 41 [some (.ref (b + 131)), some (.ref (b + P)), some (.int (nI i)), some (.int (nI lv)), some (.int (nI q.toNat)), some (.int (nI mv)), some (.int (nI (k))), c7, c8, c9] [] (jH h b X I J R n) = M105 A (d + 5) 83 [some (.ref (b + 131)), some (.ref (b + P)), some (.int (nI i)), some (.int (nI lv)), some (.int (nI q.toNat)), some (.int (nI mv)), some (.int (nI (k))), c7, c8, c9] [] (jH h b X I1 J R n) ∧ wC cN I1 R 132 W ∧ mq W x.1 ∧ cZ cN rN N O G E' np P L wt Gm D0 p s X I1 R E ∧ fWk I I1 ∧ I1 131 14 = I 131 14 := by
    intro k q mv E X I R n c7 c8 c9 hk hmv hx hZ hw0
    have hi := lt_of_some hx
    have hl8 : lv ≤ 8 := by rw [hlv]; exact (hZ.2.1 i x hx).2.2.1.1
    have hl1000 := hZ.2.2.2
    have hq : isI 66 := by simp [isI]
    by_cases c : mv = 0
    · subst c
      obtain ⟨W, w1, w2⟩ := hw0 rfl
      refine ⟨I, W, ?_, w1, w2, hZ, fWk_refl, rfl⟩
      conv => lhs; rw [r105_41]
      simp (disch := omega) [r105_0, r105_1, r105_4, r105_5, r105_6, r105_9, r105_10, r105_13, r105_14, r105_15, r105_16, r105_19, r105_20, r105_21, r105_24, r105_25, r105_28, r105_31, r105_32, r105_33, r105_35, r105_36, r105_38, r105_39, r105_43, r105_44, r105_47, r105_49, r105_51, r105_54, r105_56, r105_59, r105_60, r105_63, r105_64, r105_65, r105_68, r105_69, r105_72, r105_73, r105_74, r105_75, r105_78, r105_79, r105_80, r105_84, r105_87, r105_90, r105_92, r105_93, r105_95, r105_97, r105_98, r105_101, r105_103, r105_105, r105_108, r105_109, r105_112, r105_115, r105_117, r105_118, r105_121, r105_123, r105_124, r105_127, r105_128, r105_131, r105_134, r105_136, r105_137, r105_140, r105_143, r105_144, r105_147, r105_148, r105_150, r105_152, r105_155, r105_157, r105_160, r105_161, r105_164, r105_165, r105_167, r105_170, r105_171, r105_174, r105_177, r105_179, r105_181, r105_184, r105_186, r105_189, r105_190, r105_193, r105_194, r105_196, r105_198, r105_201, r105_202, r105_205, r105_207, r105_210, r105_211, r105_213, r105_216, r105_217, r105_218, r105_220, r105_222, r105_225, r105_228, r105_229, r105_231, r105_233, r105_234, r105_237, r105_238, r105_241, r105_244, r105_245, r105_248, r105_249, r105_251, r105_253, r105_254, r105_257, r105_258, r105_259, r105_261, r105_264, r105_266, r105_269, r105_271, r105_272, r105_275, r105_278, r105_279, g131, vf8_0, t131_0, vf8_1, t131_1, g206, vf8_2, t131_2, g207, vf8_3, t131_3, g208, qa145, qo145, gW0 hw, vf9_3, vf9_4, vf9_2, tW0_2 hw, gW8 hw, gI0 hq, vf2_0, qa122, qo122, qa140, qo140, qa139, qo139, qa106, qo106, qa107, qo107, qa108, qo108, List.getElem?_cons_zero, List.getElem?_cons_succ, List.length_cons, List.length_nil, ag_nx, ag_dn, ag_no, ag_if, jbr1, jbr2, jc1, jc2, jnul, jld, jsto, jstoL, jst1, jst2, jkill, jinc, jbI, jbL, jbS, juI, jl2i, jcmp, jisR, jisI, jisL, jret, jretv, jfits, jdup, jdup2, jpop, jmm, jcat, Value.category, jinv, jrcv, jthr, jhd, jput, jget, jlen, jald, jast, jaast, jgI, jgL, jgB, jtab, jlku, jacp, vf20, vf21, vf22, vf23, vf24, u2_s, u2_k, u2_i, uc_s, uc_k, uc_c, u2_c, LI0, LI1, LI2, LI3, LI4, LI5, LI6, LI7, LI8, LI9, LI10, LI11, LI12, LI13, LI14, LI15, LI16, LI17, LI18, LI19, LI20, LI21, LI22, LI23, LI24, LI25, LI26, LI27, LI28, LI29, LI30, LI31, LI32, LI33, LI34, LI35, LI36, LI37, LI40, LI42, LI43, LI45, LI48, LI60, LI61, LI64, LI80, LI300, LI400, LI1000, LI2000, LI2001, LI2047, LI2048, LI100000, LI1000000, LM, nI_clamp, nI_pos', nI_lt, nI_nlt, nI_le, nI_ge, nI_ne, nI_add, nI_sub, mI_lt, mI_le, mI_nlt, mI_nle, mI_ne, mI_ne', mI_nem, LI46, LI370, LI370000, LI31, LI15, g206, show k ≤ lv from hk, show k ≤ 8 by omega]
    · have : mv = 1 := by omega
      subst this
      obtain ⟨I1, W, f, b1, b2, e1, w1, w2, z1, f1, o1⟩ := unp (A := A) (d := d + 2) (b := b) (h := h) (J := J) (n := n) hP hZ hx
      refine ⟨I1, W, ?_, w1, w2, z1, f1, o1⟩
      conv => lhs; rw [r105_41]
      simp (disch := omega) [r105_0, r105_1, r105_4, r105_5, r105_6, r105_9, r105_10, r105_13, r105_14, r105_15, r105_16, r105_19, r105_20, r105_21, r105_24, r105_25, r105_28, r105_31, r105_32, r105_33, r105_35, r105_36, r105_38, r105_39, r105_43, r105_44, r105_47, r105_49, r105_51, r105_54, r105_56, r105_59, r105_60, r105_63, r105_64, r105_65, r105_68, r105_69, r105_72, r105_73, r105_74, r105_75, r105_78, r105_79, r105_80, r105_84, r105_87, r105_90, r105_92, r105_93, r105_95, r105_97, r105_98, r105_101, r105_103, r105_105, r105_108, r105_109, r105_112, r105_115, r105_117, r105_118, r105_121, r105_123, r105_124, r105_127, r105_128, r105_131, r105_134, r105_136, r105_137, r105_140, r105_143, r105_144, r105_147, r105_148, r105_150, r105_152, r105_155, r105_157, r105_160, r105_161, r105_164, r105_165, r105_167, r105_170, r105_171, r105_174, r105_177, r105_179, r105_181, r105_184, r105_186, r105_189, r105_190, r105_193, r105_194, r105_196, r105_198, r105_201, r105_202, r105_205, r105_207, r105_210, r105_211, r105_213, r105_216, r105_217, r105_218, r105_220, r105_222, r105_225, r105_228, r105_229, r105_231, r105_233, r105_234, r105_237, r105_238, r105_241, r105_244, r105_245, r105_248, r105_249, r105_251, r105_253, r105_254, r105_257, r105_258, r105_259, r105_261, r105_264, r105_266, r105_269, r105_271, r105_272, r105_275, r105_278, r105_279, g131, vf8_0, t131_0, vf8_1, t131_1, g206, vf8_2, t131_2, g207, vf8_3, t131_3, g208, qa145, qo145, gW0 hw, vf9_3, vf9_4, vf9_2, tW0_2 hw, gW8 hw, gI0 hq, vf2_0, qa122, qo122, qa140, qo140, qa139, qo139, qa106, qo106, qa107, qo107, qa108, qo108, List.getElem?_cons_zero, List.getElem?_cons_succ, List.length_cons, List.length_nil, ag_nx, ag_dn, ag_no, ag_if, jbr1, jbr2, jc1, jc2, jnul, jld, jsto, jstoL, jst1, jst2, jkill, jinc, jbI, jbL, jbS, juI, jl2i, jcmp, jisR, jisI, jisL, jret, jretv, jfits, jdup, jdup2, jpop, jmm, jcat, Value.category, jinv, jrcv, jthr, jhd, jput, jget, jlen, jald, jast, jaast, jgI, jgL, jgB, jtab, jlku, jacp, vf20, vf21, vf22, vf23, vf24, u2_s, u2_k, u2_i, uc_s, uc_k, uc_c, u2_c, LI0, LI1, LI2, LI3, LI4, LI5, LI6, LI7, LI8, LI9, LI10, LI11, LI12, LI13, LI14, LI15, LI16, LI17, LI18, LI19, LI20, LI21, LI22, LI23, LI24, LI25, LI26, LI27, LI28, LI29, LI30, LI31, LI32, LI33, LI34, LI35, LI36, LI37, LI40, LI42, LI43, LI45, LI48, LI60, LI61, LI64, LI80, LI300, LI400, LI1000, LI2000, LI2001, LI2047, LI2048, LI100000, LI1000000, LM, nI_clamp, nI_pos', nI_lt, nI_nlt, nI_le, nI_ge, nI_ne, nI_add, nI_sub, mI_lt, mI_le, mI_nlt, mI_nle, mI_ne, mI_ne', mI_nem, LI46, LI370, LI370000, LI31, LI15, g206, show k ≤ lv from hk, show k ≤ 8 by omega, b1, b2, e1, show i < 1001 by omega, show i < 1000 by omega]
  induction r with
  | zero =>
    intro k q mv E X I R n c7 c8 c9 hk hmv hx hZ hw0
    have hkl : k = lv := by omega
    subst hkl
    obtain ⟨I1, W, e1, w1, m1, z1, f1, o1⟩ := head k q mv E X I R n c7 c8 c9 (by omega) hmv hx hZ hw0
    have hi := lt_of_some hx
    obtain ⟨v1, v2, v3, v4, v5⟩ := hZ.2.1 i x hx
    have k8 : k ≤ 8 := by rw [hlv]; exact v3.1
    have hok := okW_q m1 v3
    have hd := okD_q m1 v5
    have hpl := z1.1.1
    have l6 : ∀ p, p < np → (lets N p).length ≤ 6 := fun p hp => (hpl.2.2.2 p hp).2.2.2.2.1
    have okl := okW_L hpl.1 l6 hok
    have hl1000 := hZ.2.2.2
    have w4 : I1 132 4 = x.1.2.1.1 := w1.2.1.trans (mq_giv m1)
    have hq : isI 66 := by simp [isI]
    have hD' : D0 + 1000000 * i + 1000000 < 2 ^ 31 - 1 := by omega
    have e2 := c140 (A := A) (d := d + 2) (b := b) (h := h) (X := X) (I := I1) (J := J) (R := R) (n := n) w1 okl hD' hd
    rw [mq_due m1] at e2
    -- the end of the loop
    have stop : ∀ (X2 : jXX) (I2 : Nat → Nat → Int32) (R2 : Nat → Nat → Nat) (n2 mv2 : Nat) (q2 : Nat) (y7 y8 y9 : Option Value), M105 A (d + 5) 41 [some (.ref (b + 131)), some (.ref (b + P)), some (.int (nI i)), some (.int (nI k)), some (.int (nI q2)), some (.int (nI mv2)), some (.int (nI (k + 1))), y7, y8, y9] [] (jH h b X2 I2 J R2 n2) = some (.inl (some (.int (nI 0))), jH h b X2 I2 J R2 n2) := by
      intro X2 I2 R2 n2 mv2 q2 y7 y8 y9
      conv => lhs; rw [r105_41]
      simp (disch := omega) [r105_0, r105_1, r105_4, r105_5, r105_6, r105_9, r105_10, r105_13, r105_14, r105_15, r105_16, r105_19, r105_20, r105_21, r105_24, r105_25, r105_28, r105_31, r105_32, r105_33, r105_35, r105_36, r105_38, r105_39, r105_43, r105_44, r105_47, r105_49, r105_51, r105_54, r105_56, r105_59, r105_60, r105_63, r105_64, r105_65, r105_68, r105_69, r105_72, r105_73, r105_74, r105_75, r105_78, r105_79, r105_80, r105_84, r105_87, r105_90, r105_92, r105_93, r105_95, r105_97, r105_98, r105_101, r105_103, r105_105, r105_108, r105_109, r105_112, r105_115, r105_117, r105_118, r105_121, r105_123, r105_124, r105_127, r105_128, r105_131, r105_134, r105_136, r105_137, r105_140, r105_143, r105_144, r105_147, r105_148, r105_150, r105_152, r105_155, r105_157, r105_160, r105_161, r105_164, r105_165, r105_167, r105_170, r105_171, r105_174, r105_177, r105_179, r105_181, r105_184, r105_186, r105_189, r105_190, r105_193, r105_194, r105_196, r105_198, r105_201, r105_202, r105_205, r105_207, r105_210, r105_211, r105_213, r105_216, r105_217, r105_218, r105_220, r105_222, r105_225, r105_228, r105_229, r105_231, r105_233, r105_234, r105_237, r105_238, r105_241, r105_244, r105_245, r105_248, r105_249, r105_251, r105_253, r105_254, r105_257, r105_258, r105_259, r105_261, r105_264, r105_266, r105_269, r105_271, r105_272, r105_275, r105_278, r105_279, g131, vf8_0, t131_0, vf8_1, t131_1, g206, vf8_2, t131_2, g207, vf8_3, t131_3, g208, qa145, qo145, gW0 hw, vf9_3, vf9_4, vf9_2, tW0_2 hw, gW8 hw, gI0 hq, vf2_0, qa122, qo122, qa140, qo140, qa139, qo139, qa106, qo106, qa107, qo107, qa108, qo108, List.getElem?_cons_zero, List.getElem?_cons_succ, List.length_cons, List.length_nil, ag_nx, ag_dn, ag_no, ag_if, jbr1, jbr2, jc1, jc2, jnul, jld, jsto, jstoL, jst1, jst2, jkill, jinc, jbI, jbL, jbS, juI, jl2i, jcmp, jisR, jisI, jisL, jret, jretv, jfits, jdup, jdup2, jpop, jmm, jcat, Value.category, jinv, jrcv, jthr, jhd, jput, jget, jlen, jald, jast, jaast, jgI, jgL, jgB, jtab, jlku, jacp, vf20, vf21, vf22, vf23, vf24, u2_s, u2_k, u2_i, uc_s, uc_k, uc_c, u2_c, LI0, LI1, LI2, LI3, LI4, LI5, LI6, LI7, LI8, LI9, LI10, LI11, LI12, LI13, LI14, LI15, LI16, LI17, LI18, LI19, LI20, LI21, LI22, LI23, LI24, LI25, LI26, LI27, LI28, LI29, LI30, LI31, LI32, LI33, LI34, LI35, LI36, LI37, LI40, LI42, LI43, LI45, LI48, LI60, LI61, LI64, LI80, LI300, LI400, LI1000, LI2000, LI2001, LI2047, LI2048, LI100000, LI1000000, LM, nI_clamp, nI_pos', nI_lt, nI_nlt, nI_le, nI_ge, nI_ne, nI_add, nI_sub, mI_lt, mI_le, mI_nlt, mI_nle, mI_ne, mI_ne', mI_nem, LI46, LI370, LI370000, LI31, LI15, g206]
    have idle0 : ∀ (wt0 : Int32) (q2 : Nat), (q2 = 0 ∨ wt0 = mI 1) → q2 ≤ 1 → jcall A jcode (d + 5) 140 [.ref (b + 132)] (jH h b X I1 J R n) = some (.inl (some (.int wt0)), jH h b X I1 J R n) → M105 A (d + 5) 83 [some (.ref (b + 131)), some (.ref (b + P)), some (.int (nI i)), some (.int (nI k)), some (.int (nI q2)), some (.int (nI mv)), some (.int (nI k)), c7, c8, c9] [] (jH h b X I1 J R n) = some (.inl (some (.int (nI 0))), jH h b X I1 J R n) := by
      intro wt0 q2 hc hq2 ew
      have st := stop X I1 R n 0 q2 (some (.int (x.1.2.1.1))) (some (.int (mI 1))) (some (.int (nI 0)))
      rcases hc with rfl | rfl
      · simp (disch := omega) [r105_0, r105_1, r105_4, r105_5, r105_6, r105_9, r105_10, r105_13, r105_14, r105_15, r105_16, r105_19, r105_20, r105_21, r105_24, r105_25, r105_28, r105_31, r105_32, r105_33, r105_35, r105_36, r105_38, r105_39, r105_43, r105_44, r105_47, r105_49, r105_51, r105_54, r105_56, r105_59, r105_60, r105_63, r105_64, r105_65, r105_68, r105_69, r105_72, r105_73, r105_74, r105_75, r105_78, r105_79, r105_80, r105_83, r105_84, r105_87, r105_90, r105_92, r105_93, r105_95, r105_97, r105_98, r105_101, r105_103, r105_105, r105_108, r105_109, r105_112, r105_115, r105_117, r105_118, r105_121, r105_123, r105_124, r105_127, r105_128, r105_131, r105_134, r105_136, r105_137, r105_140, r105_143, r105_144, r105_147, r105_148, r105_150, r105_152, r105_155, r105_157, r105_160, r105_161, r105_164, r105_165, r105_167, r105_170, r105_171, r105_174, r105_177, r105_179, r105_181, r105_184, r105_186, r105_189, r105_190, r105_193, r105_194, r105_196, r105_198, r105_201, r105_202, r105_205, r105_207, r105_210, r105_211, r105_213, r105_216, r105_217, r105_218, r105_220, r105_222, r105_225, r105_228, r105_229, r105_231, r105_233, r105_234, r105_237, r105_238, r105_241, r105_244, r105_245, r105_248, r105_249, r105_251, r105_253, r105_254, r105_257, r105_258, r105_259, r105_261, r105_264, r105_266, r105_269, r105_271, r105_272, r105_275, r105_278, r105_279, g131, vf8_0, t131_0, vf8_1, t131_1, g206, vf8_2, t131_2, g207, vf8_3, t131_3, g208, qa145, qo145, gW0 hw, vf9_3, vf9_4, vf9_2, tW0_2 hw, gW8 hw, gI0 hq, vf2_0, qa122, qo122, qa140, qo140, qa139, qo139, qa106, qo106, qa107, qo107, qa108, qo108, List.getElem?_cons_zero, List.getElem?_cons_succ, List.length_cons, List.length_nil, ag_nx, ag_dn, ag_no, ag_if, jbr1, jbr2, jc1, jc2, jnul, jld, jsto, jstoL, jst1, jst2, jkill, jinc, jbI, jbL, jbS, juI, jl2i, jcmp, jisR, jisI, jisL, jret, jretv, jfits, jdup, jdup2, jpop, jmm, jcat, Value.category, jinv, jrcv, jthr, jhd, jput, jget, jlen, jald, jast, jaast, jgI, jgL, jgB, jtab, jlku, jacp, vf20, vf21, vf22, vf23, vf24, u2_s, u2_k, u2_i, uc_s, uc_k, uc_c, u2_c, LI0, LI1, LI2, LI3, LI4, LI5, LI6, LI7, LI8, LI9, LI10, LI11, LI12, LI13, LI14, LI15, LI16, LI17, LI18, LI19, LI20, LI21, LI22, LI23, LI24, LI25, LI26, LI27, LI28, LI29, LI30, LI31, LI32, LI33, LI34, LI35, LI36, LI37, LI40, LI42, LI43, LI45, LI48, LI60, LI61, LI64, LI80, LI300, LI400, LI1000, LI2000, LI2001, LI2047, LI2048, LI100000, LI1000000, LM, nI_clamp, nI_pos', nI_lt, nI_nlt, nI_le, nI_ge, nI_ne, nI_add, nI_sub, mI_lt, mI_le, mI_nlt, mI_nle, mI_ne, mI_ne', mI_nem, LI46, LI370, LI370000, LI31, LI15, g206, w4, ew, st]
      · by_cases c0 : q2 = 0
        · subst c0
          simp (disch := omega) [r105_0, r105_1, r105_4, r105_5, r105_6, r105_9, r105_10, r105_13, r105_14, r105_15, r105_16, r105_19, r105_20, r105_21, r105_24, r105_25, r105_28, r105_31, r105_32, r105_33, r105_35, r105_36, r105_38, r105_39, r105_43, r105_44, r105_47, r105_49, r105_51, r105_54, r105_56, r105_59, r105_60, r105_63, r105_64, r105_65, r105_68, r105_69, r105_72, r105_73, r105_74, r105_75, r105_78, r105_79, r105_80, r105_83, r105_84, r105_87, r105_90, r105_92, r105_93, r105_95, r105_97, r105_98, r105_101, r105_103, r105_105, r105_108, r105_109, r105_112, r105_115, r105_117, r105_118, r105_121, r105_123, r105_124, r105_127, r105_128, r105_131, r105_134, r105_136, r105_137, r105_140, r105_143, r105_144, r105_147, r105_148, r105_150, r105_152, r105_155, r105_157, r105_160, r105_161, r105_164, r105_165, r105_167, r105_170, r105_171, r105_174, r105_177, r105_179, r105_181, r105_184, r105_186, r105_189, r105_190, r105_193, r105_194, r105_196, r105_198, r105_201, r105_202, r105_205, r105_207, r105_210, r105_211, r105_213, r105_216, r105_217, r105_218, r105_220, r105_222, r105_225, r105_228, r105_229, r105_231, r105_233, r105_234, r105_237, r105_238, r105_241, r105_244, r105_245, r105_248, r105_249, r105_251, r105_253, r105_254, r105_257, r105_258, r105_259, r105_261, r105_264, r105_266, r105_269, r105_271, r105_272, r105_275, r105_278, r105_279, g131, vf8_0, t131_0, vf8_1, t131_1, g206, vf8_2, t131_2, g207, vf8_3, t131_3, g208, qa145, qo145, gW0 hw, vf9_3, vf9_4, vf9_2, tW0_2 hw, gW8 hw, gI0 hq, vf2_0, qa122, qo122, qa140, qo140, qa139, qo139, qa106, qo106, qa107, qo107, qa108, qo108, List.getElem?_cons_zero, List.getElem?_cons_succ, List.length_cons, List.length_nil, ag_nx, ag_dn, ag_no, ag_if, jbr1, jbr2, jc1, jc2, jnul, jld, jsto, jstoL, jst1, jst2, jkill, jinc, jbI, jbL, jbS, juI, jl2i, jcmp, jisR, jisI, jisL, jret, jretv, jfits, jdup, jdup2, jpop, jmm, jcat, Value.category, jinv, jrcv, jthr, jhd, jput, jget, jlen, jald, jast, jaast, jgI, jgL, jgB, jtab, jlku, jacp, vf20, vf21, vf22, vf23, vf24, u2_s, u2_k, u2_i, uc_s, uc_k, uc_c, u2_c, LI0, LI1, LI2, LI3, LI4, LI5, LI6, LI7, LI8, LI9, LI10, LI11, LI12, LI13, LI14, LI15, LI16, LI17, LI18, LI19, LI20, LI21, LI22, LI23, LI24, LI25, LI26, LI27, LI28, LI29, LI30, LI31, LI32, LI33, LI34, LI35, LI36, LI37, LI40, LI42, LI43, LI45, LI48, LI60, LI61, LI64, LI80, LI300, LI400, LI1000, LI2000, LI2001, LI2047, LI2048, LI100000, LI1000000, LM, nI_clamp, nI_pos', nI_lt, nI_nlt, nI_le, nI_ge, nI_ne, nI_add, nI_sub, mI_lt, mI_le, mI_nlt, mI_nle, mI_ne, mI_ne', mI_nem, LI46, LI370, LI370000, LI31, LI15, g206, w4, ew, st]
        · have : q2 = 1 := by omega
          subst this
          simp (disch := omega) [r105_0, r105_1, r105_4, r105_5, r105_6, r105_9, r105_10, r105_13, r105_14, r105_15, r105_16, r105_19, r105_20, r105_21, r105_24, r105_25, r105_28, r105_31, r105_32, r105_33, r105_35, r105_36, r105_38, r105_39, r105_43, r105_44, r105_47, r105_49, r105_51, r105_54, r105_56, r105_59, r105_60, r105_63, r105_64, r105_65, r105_68, r105_69, r105_72, r105_73, r105_74, r105_75, r105_78, r105_79, r105_80, r105_83, r105_84, r105_87, r105_90, r105_92, r105_93, r105_95, r105_97, r105_98, r105_101, r105_103, r105_105, r105_108, r105_109, r105_112, r105_115, r105_117, r105_118, r105_121, r105_123, r105_124, r105_127, r105_128, r105_131, r105_134, r105_136, r105_137, r105_140, r105_143, r105_144, r105_147, r105_148, r105_150, r105_152, r105_155, r105_157, r105_160, r105_161, r105_164, r105_165, r105_167, r105_170, r105_171, r105_174, r105_177, r105_179, r105_181, r105_184, r105_186, r105_189, r105_190, r105_193, r105_194, r105_196, r105_198, r105_201, r105_202, r105_205, r105_207, r105_210, r105_211, r105_213, r105_216, r105_217, r105_218, r105_220, r105_222, r105_225, r105_228, r105_229, r105_231, r105_233, r105_234, r105_237, r105_238, r105_241, r105_244, r105_245, r105_248, r105_249, r105_251, r105_253, r105_254, r105_257, r105_258, r105_259, r105_261, r105_264, r105_266, r105_269, r105_271, r105_272, r105_275, r105_278, r105_279, g131, vf8_0, t131_0, vf8_1, t131_1, g206, vf8_2, t131_2, g207, vf8_3, t131_3, g208, qa145, qo145, gW0 hw, vf9_3, vf9_4, vf9_2, tW0_2 hw, gW8 hw, gI0 hq, vf2_0, qa122, qo122, qa140, qo140, qa139, qo139, qa106, qo106, qa107, qo107, qa108, qo108, List.getElem?_cons_zero, List.getElem?_cons_succ, List.length_cons, List.length_nil, ag_nx, ag_dn, ag_no, ag_if, jbr1, jbr2, jc1, jc2, jnul, jld, jsto, jstoL, jst1, jst2, jkill, jinc, jbI, jbL, jbS, juI, jl2i, jcmp, jisR, jisI, jisL, jret, jretv, jfits, jdup, jdup2, jpop, jmm, jcat, Value.category, jinv, jrcv, jthr, jhd, jput, jget, jlen, jald, jast, jaast, jgI, jgL, jgB, jtab, jlku, jacp, vf20, vf21, vf22, vf23, vf24, u2_s, u2_k, u2_i, uc_s, uc_k, uc_c, u2_c, LI0, LI1, LI2, LI3, LI4, LI5, LI6, LI7, LI8, LI9, LI10, LI11, LI12, LI13, LI14, LI15, LI16, LI17, LI18, LI19, LI20, LI21, LI22, LI23, LI24, LI25, LI26, LI27, LI28, LI29, LI30, LI31, LI32, LI33, LI34, LI35, LI36, LI37, LI40, LI42, LI43, LI45, LI48, LI60, LI61, LI64, LI80, LI300, LI400, LI1000, LI2000, LI2001, LI2047, LI2048, LI100000, LI1000000, LM, nI_clamp, nI_pos', nI_lt, nI_nlt, nI_le, nI_ge, nI_ne, nI_add, nI_sub, mI_lt, mI_le, mI_nlt, mI_nle, mI_ne, mI_ne', mI_nem, LI46, LI370, LI370000, LI31, LI15, g206, w4, ew, st]
    cases q with
    | false =>
      rw [bXl_f]
      refine ⟨X, I1, R, n, ?_, z1, f1, fun _ _ _ _ => rfl, gro_refl, fPo_refl, fun z => absurd z (by simp), fun _ => o1, by simp⟩
      rw [e1]
      exact idle0 _ 0 (Or.inl rfl) (by omega) e2
    | true =>
      rw [bXl_t]
      cases hy : aDue x.1.1 0 none with
      | none =>
        rw [hy] at e2
        simp only at e2 ⊢
        refine ⟨X, I1, R, n, ?_, z1, f1, fun _ _ _ _ => rfl, gro_refl, fPo_refl, fun z => absurd z (by simp), fun _ => o1, by simp⟩
        rw [e1]
        exact idle0 _ 1 (Or.inr rfl) (by omega) e2
      | some y =>
        rw [hy] at e2
        simp only at e2 ⊢
        have hup : aUp W y.1 = aUp x.1 y.1 := by unfold aUp; rw [mq_now m1]
        have hu0 : ¬ aUp W y.1 < nI 0 := by
          unfold aUp
          by_cases c : 0 < y.1 - W.2.1.2.1
          · rw [if_pos c]
            intro z
            exact Int32.lt_irrefl (i_lt_trans c z)
          · rw [if_neg c]
            exact fun z => Int32.lt_irrefl z
        obtain ⟨a, ha, hne, y1, y2⟩ := (cNext (A := A) (d := d) (b := b) (h := h) (X := X) (I := I1) (J := J) (R := R) (n := n) hw w1 okl hD' hd).1 y (by rw [mq_due m1]; exact hy)
        have hyD : ∃ u, y.1 = nI u ∧ u ≤ D0 + 1000000 * i + 1000000 := by
          have hmem : ∃ t, t ∈ a.2.2.2 ∧ t.2 = y.1 := by
            rw [y1]
            exact lst1_mem hne
          obtain ⟨t, t1, t2⟩ := hmem
          obtain ⟨u, u1, u2⟩ := hd.2 _ a ha t t1
          exact ⟨u, by rw [← t2]; exact u1, u2⟩
        have hd2 := okD_up hd hD' hyD
        obtain ⟨I2, e3, w2, fc2, ok2, d2⟩ := cGoOn (A := A) (d := d + 1) (b := b) (h := h) (X := X) (I := I1) (J := J) (R := R) (n := n) (m := aUp W y.1) hm1 hw hpl.1 l6 (by omega) w1 hok hd2
        rw [dec_132] at e3 w2 ok2 d2
        have mg := mq_go (rN := rN) m1 (aUp W y.1)
        have fl := fLo_go (rN := rN) (l := false) (W := W) (aUp W y.1)
        have F0 : W.2.2.2 = (0, 0) := (mq_cnt m1).trans v2
        have k2 : ∀ c i, c < 132 ∨ 205 < c → I2 c i = I1 c i := fun c i hc => fc2.1 c i (by omega)
        have S2 : cS cN rN N O G E' np P L wt p s X I2 R E := cS_sc hP z1.1 k2 z1.1.2.1 z1.1.2.2.1 (w2.2.2.2.2 rfl).2.2
        have hDi : D0 + 1000000 * (i + 1) + 1000000 < 2 ^ 31 - 1 := hDi_of hi hl1000 hD
        obtain ⟨X3, I3, n3, z, hz, e4, S3, f3, g3, p3, t3, u3, l3⟩ := c105t (A := A) (d := d) (b := b) (h := h) (X := X) (I := I2) (J := J) (R := R) (n := n) (k := k) (q := 1) (lv := k) (g0 := x.1.2.1.1) (dd := mI 1) (c9 := some (.int (aUp W y.1))) (D0 := D0) hj hm hP S2 w2 (okW_le (by omega) ok2) hG6 (by omega) hDi (okD_le d2 (by omega)) z1.2.1 z1.2.2.1 hi hl1000 v4 hwt (by have := fl.1; rw [F0] at this; simp only at this; omega) (by have := fl.2; rw [F0] at this; rw [this]; decide)
        have hzz : bMt rN N wt p s E (nI i) x.1.2.1.1 (-1) (aGo rN false (aUp x.1 y.1) x.1).2 = z := by
          rw [hz, ← hup]
          exact (bMt_mq mg.2).symm
        rw [hzz]
        have bo := bM0_ok (wt := wt) (g0 := x.1.2.1.1) (dd := mI 1) hG6 (by omega) z1.2.1 z1.2.2.1 hl1000 hi v4 (okW_le (by omega) ok2 : okW N np (Gm + 1) _) (okD_le d2 (by omega))
        have hz2 : z.2 = (bM0 wt E (nI i) x.1.2.1.1 (mI 1) (aGo rN false (aUp W y.1) W).2).2 := by rw [hz]; rfl
        rw [← hz2] at bo
        have fw : fWk I I3 := fWk_trans f1 (fWk_trans ⟨fun c i hc => k2 c i (by omega), fun i _ _ => k2 _ _ (by omega)⟩ f3)
        refine ⟨X3, I3, R, n3, ?_, ⟨S3, bo.1, bo.2.1, bo.2.2.1⟩, fw, fun _ _ _ _ => rfl, g3, p3, t3, fun hne => (u3 hne).trans ((k2 _ _ (by omega)).trans o1), l3⟩
        rw [e1]
        have hmv : M105 A (d + 5) 83 [some (.ref (b + 131)), some (.ref (b + P)), some (.int (nI i)), some (.int (nI k)), some (.int (nI true.toNat)), some (.int (nI mv)), some (.int (nI (k))), c7, c8, c9] [] (jH h b X I1 J R n) = M105 A (d + 5) 211 [some (.ref (b + 131)), some (.ref (b + P)), some (.int (nI i)), some (.int (nI k)), some (.int (nI 1)), some (.int (nI 1)), some (.int (nI (k))), some (.int x.1.2.1.1), some (.int (mI 1)), some (.int (aUp W y.1))] [] (jH h b X I2 J R n) := by
          simp (disch := omega) [r105_0, r105_1, r105_4, r105_5, r105_6, r105_9, r105_10, r105_13, r105_14, r105_15, r105_16, r105_19, r105_20, r105_21, r105_24, r105_25, r105_28, r105_31, r105_32, r105_33, r105_35, r105_36, r105_38, r105_39, r105_43, r105_44, r105_47, r105_49, r105_51, r105_54, r105_56, r105_59, r105_60, r105_63, r105_64, r105_65, r105_68, r105_69, r105_72, r105_73, r105_74, r105_75, r105_78, r105_79, r105_80, r105_83, r105_84, r105_87, r105_90, r105_92, r105_93, r105_95, r105_97, r105_98, r105_101, r105_103, r105_105, r105_108, r105_109, r105_112, r105_115, r105_117, r105_118, r105_121, r105_123, r105_124, r105_127, r105_128, r105_131, r105_134, r105_136, r105_137, r105_140, r105_143, r105_144, r105_147, r105_148, r105_150, r105_152, r105_155, r105_157, r105_160, r105_161, r105_164, r105_165, r105_167, r105_170, r105_171, r105_174, r105_177, r105_179, r105_181, r105_184, r105_186, r105_189, r105_190, r105_193, r105_194, r105_196, r105_198, r105_201, r105_202, r105_205, r105_207, r105_210, r105_213, r105_216, r105_217, r105_218, r105_220, r105_222, r105_225, r105_228, r105_229, r105_231, r105_233, r105_234, r105_237, r105_238, r105_241, r105_244, r105_245, r105_248, r105_249, r105_251, r105_253, r105_254, r105_257, r105_258, r105_259, r105_261, r105_264, r105_266, r105_269, r105_271, r105_272, r105_275, r105_278, r105_279, g131, vf8_0, t131_0, vf8_1, t131_1, g206, vf8_2, t131_2, g207, vf8_3, t131_3, g208, qa145, qo145, gW0 hw, vf9_3, vf9_4, vf9_2, tW0_2 hw, gW8 hw, gI0 hq, vf2_0, qa122, qo122, qa140, qo140, qa139, qo139, qa106, qo106, qa107, qo107, qa108, qo108, List.getElem?_cons_zero, List.getElem?_cons_succ, List.length_cons, List.length_nil, ag_nx, ag_dn, ag_no, ag_if, jbr1, jbr2, jc1, jc2, jnul, jld, jsto, jstoL, jst1, jst2, jkill, jinc, jbI, jbL, jbS, juI, jl2i, jcmp, jisR, jisI, jisL, jret, jretv, jfits, jdup, jdup2, jpop, jmm, jcat, Value.category, jinv, jrcv, jthr, jhd, jput, jget, jlen, jald, jast, jaast, jgI, jgL, jgB, jtab, jlku, jacp, vf20, vf21, vf22, vf23, vf24, u2_s, u2_k, u2_i, uc_s, uc_k, uc_c, u2_c, LI0, LI1, LI2, LI3, LI4, LI5, LI6, LI7, LI8, LI9, LI10, LI11, LI12, LI13, LI14, LI15, LI16, LI17, LI18, LI19, LI20, LI21, LI22, LI23, LI24, LI25, LI26, LI27, LI28, LI29, LI30, LI31, LI32, LI33, LI34, LI35, LI36, LI37, LI40, LI42, LI43, LI45, LI48, LI60, LI61, LI64, LI80, LI300, LI400, LI1000, LI2000, LI2001, LI2047, LI2048, LI100000, LI1000000, LM, nI_clamp, nI_pos', nI_lt, nI_nlt, nI_le, nI_ge, nI_ne, nI_add, nI_sub, mI_lt, mI_le, mI_nlt, mI_nle, mI_ne, mI_ne', mI_nem, LI46, LI370, LI370000, LI31, LI15, g206, w4, e2, hu0, e3]
        rw [hmv, e4]
        have st := stop X3 I3 R n3 1 1 (some (.int (x.1.2.1.1))) (some (.int (mI 1))) (some (.int (nI z.1)))
        obtain c0 | c0 | c0 : z.1 = 0 ∨ z.1 = 1 ∨ z.1 = 2 := by omega
        · rw [c0] at st ⊢
          simp (disch := omega) [r105_264, r105_266, r105_269, r105_271, r105_272, r105_275, List.getElem?_cons_zero, List.getElem?_cons_succ, List.length_cons, List.length_nil, ag_nx, ag_dn, ag_no, ag_if, jbr1, jbr2, jc1, jc2, jnul, jld, jsto, jstoL, jst1, jst2, jkill, jinc, jbI, jbL, jbS, juI, jl2i, jcmp, jisR, jisI, jisL, jret, jretv, jfits, jdup, jdup2, jpop, jmm, jcat, Value.category, jinv, jrcv, jthr, jhd, jput, jget, jlen, jald, jast, jaast, jgI, jgL, jgB, jtab, jlku, jacp, vf20, vf21, vf22, vf23, vf24, u2_s, u2_k, u2_i, uc_s, uc_k, uc_c, u2_c, LI0, LI1, LI2, LI3, LI4, LI5, LI6, LI7, LI8, LI9, LI10, LI11, LI12, LI13, LI14, LI15, LI16, LI17, LI18, LI19, LI20, LI21, LI22, LI23, LI24, LI25, LI26, LI27, LI28, LI29, LI30, LI31, LI32, LI33, LI34, LI35, LI36, LI37, LI40, LI42, LI43, LI45, LI48, LI60, LI61, LI64, LI80, LI300, LI400, LI1000, LI2000, LI2001, LI2047, LI2048, LI100000, LI1000000, LM, nI_clamp, nI_pos', nI_lt, nI_nlt, nI_le, nI_ge, nI_ne, nI_add, nI_sub, mI_lt, mI_le, mI_nlt, mI_nle, mI_ne, mI_ne', mI_nem, st]
        · rw [c0]
          simp (disch := omega) [r105_264, r105_266, r105_269, r105_271, r105_272, r105_275, List.getElem?_cons_zero, List.getElem?_cons_succ, List.length_cons, List.length_nil, ag_nx, ag_dn, ag_no, ag_if, jbr1, jbr2, jc1, jc2, jnul, jld, jsto, jstoL, jst1, jst2, jkill, jinc, jbI, jbL, jbS, juI, jl2i, jcmp, jisR, jisI, jisL, jret, jretv, jfits, jdup, jdup2, jpop, jmm, jcat, Value.category, jinv, jrcv, jthr, jhd, jput, jget, jlen, jald, jast, jaast, jgI, jgL, jgB, jtab, jlku, jacp, vf20, vf21, vf22, vf23, vf24, u2_s, u2_k, u2_i, uc_s, uc_k, uc_c, u2_c, LI0, LI1, LI2, LI3, LI4, LI5, LI6, LI7, LI8, LI9, LI10, LI11, LI12, LI13, LI14, LI15, LI16, LI17, LI18, LI19, LI20, LI21, LI22, LI23, LI24, LI25, LI26, LI27, LI28, LI29, LI30, LI31, LI32, LI33, LI34, LI35, LI36, LI37, LI40, LI42, LI43, LI45, LI48, LI60, LI61, LI64, LI80, LI300, LI400, LI1000, LI2000, LI2001, LI2047, LI2048, LI100000, LI1000000, LM, nI_clamp, nI_pos', nI_lt, nI_nlt, nI_le, nI_ge, nI_ne, nI_add, nI_sub, mI_lt, mI_le, mI_nlt, mI_nle, mI_ne, mI_ne', mI_nem]
        · rw [c0]
          simp (disch := omega) [r105_264, r105_266, r105_269, r105_271, r105_272, r105_275, List.getElem?_cons_zero, List.getElem?_cons_succ, List.length_cons, List.length_nil, ag_nx, ag_dn, ag_no, ag_if, jbr1, jbr2, jc1, jc2, jnul, jld, jsto, jstoL, jst1, jst2, jkill, jinc, jbI, jbL, jbS, juI, jl2i, jcmp, jisR, jisI, jisL, jret, jretv, jfits, jdup, jdup2, jpop, jmm, jcat, Value.category, jinv, jrcv, jthr, jhd, jput, jget, jlen, jald, jast, jaast, jgI, jgL, jgB, jtab, jlku, jacp, vf20, vf21, vf22, vf23, vf24, u2_s, u2_k, u2_i, uc_s, uc_k, uc_c, u2_c, LI0, LI1, LI2, LI3, LI4, LI5, LI6, LI7, LI8, LI9, LI10, LI11, LI12, LI13, LI14, LI15, LI16, LI17, LI18, LI19, LI20, LI21, LI22, LI23, LI24, LI25, LI26, LI27, LI28, LI29, LI30, LI31, LI32, LI33, LI34, LI35, LI36, LI37, LI40, LI42, LI43, LI45, LI48, LI60, LI61, LI64, LI80, LI300, LI400, LI1000, LI2000, LI2001, LI2047, LI2048, LI100000, LI1000000, LM, nI_clamp, nI_pos', nI_lt, nI_nlt, nI_le, nI_ge, nI_ne, nI_add, nI_sub, mI_lt, mI_le, mI_nlt, mI_nle, mI_ne, mI_ne', mI_nem]
  | succ r ih =>
    intro k q mv E X I R n c7 c8 c9 hk hmv hx hZ hw0
    obtain ⟨I1, W, e1, w1, m1, z1, f1, o1⟩ := head k q mv E X I R n c7 c8 c9 (by omega) hmv hx hZ hw0
    have hi := lt_of_some hx
    obtain ⟨v1, v2, v3, v4, v5⟩ := hZ.2.1 i x hx
    have k8 : lv ≤ 8 := by rw [hlv]; exact v3.1
    have hok := okW_q m1 v3
    have hd := okD_q m1 v5
    have hpl := z1.1.1
    have hl1000 := hZ.2.2.2
    have w4 : I1 132 4 = x.1.2.1.1 := w1.2.1.trans (mq_giv m1)
    have hkl : k < W.1.length := by rw [mq_len m1, ← hlv]; omega
    have ha := List.getElem?_eq_getElem hkl
    have hat : aAt W k = W.1[k] := aAt_of ha
    have hA := w1.1.2.2.2 k _ ha
    have hq : isI (R (132 + 8) k) := wA_I hw w1.1 _ (by omega)
    have hq' : isI (R 140 k) := hq
    have i0 : I1 (R 140 k) 0 = (aAt x.1 k).1.1 := by
      rw [← mq_at m1 k, hat, hA.1]
    obtain ⟨I2, R2, e2, w2, k2, r2⟩ := cTurn (A := A) (d := d) (b := b) (h := h) (X := X) (I := I1) (J := J) (R := R) (n := n) hm1 hm hw hP z1.1.2.1 hj hpl w1 ha hok (by omega) hvN
    rw [dec_132] at e2 w2
    have e2' : jcall A jcode (d + 5) 122 [.ref (b + 132), .ref (b + R 140 k)] (jH h b X I1 J R n) = some (.inl (some (.int (aTurn rN N false k W).1)), jH h b X I2 J R2 n) := e2
    have mt := mq_turn (rN := rN) (N := N) m1 k
    have k2' : ∀ c i, c < 132 ∨ 205 < c → I2 c i = I1 c i := fun c i hc => k2 c i (by omega)
    have S2 : cS cN rN N O G E' np P L wt p s X I2 R2 E := cS_sc hP z1.1 k2' ((r2 132 0 (by omega)).trans z1.1.2.1) w2.1.1 (w2.2.2.2.2 rfl).2.2
    have fr2 : fRk R R2 := fun c j h1 h2 => r2 c j (by omega)
    have fw2 : fWk I1 I2 := ⟨fun c i hc => k2' c i (by omega), fun i _ _ => k2' _ _ (by omega)⟩
    by_cases c0 : (aTurn rN N false k W).1 = 0
    · have hV0 : (aTurn rN N false k x.1).1 = 0 := mt.1.symm.trans c0
      rw [bXl_n hV0]
      rw [aTurn_0 c0] at w2
      rw [c0] at e2'
      simp only [LI0] at e2'
      obtain ⟨X', I', R', n', e5, a1, a2, a3, a4, a5, a6, a7, a8⟩ := ih (k + 1) q 0 E X I2 R2 n (some (.int x.1.2.1.1)) (some (.int (aAt x.1 k).1.1)) (some (.int (nI 0))) (by omega) (by omega) hx ⟨S2, z1.2⟩ (fun _ => ⟨W, w2, m1⟩)
      refine ⟨X', I', R', n', ?_, a1, fWk_trans f1 (fWk_trans fw2 a2), fun c j h1 h2 => (a3 c j h1 h2).trans (fr2 c j h1 h2), a4, a5, a6, fun hne => (a7 hne).trans ((k2' _ _ (by omega)).trans o1), a8⟩
      rw [e1, ← e5]
      cases q with
      | false => simp (disch := omega) [r105_0, r105_1, r105_4, r105_5, r105_6, r105_9, r105_10, r105_13, r105_14, r105_15, r105_16, r105_19, r105_20, r105_21, r105_24, r105_25, r105_28, r105_31, r105_32, r105_33, r105_35, r105_36, r105_38, r105_39, r105_43, r105_44, r105_47, r105_49, r105_51, r105_54, r105_56, r105_59, r105_60, r105_63, r105_64, r105_65, r105_68, r105_69, r105_72, r105_73, r105_74, r105_75, r105_78, r105_79, r105_80, r105_83, r105_84, r105_87, r105_90, r105_92, r105_93, r105_95, r105_97, r105_98, r105_101, r105_103, r105_105, r105_108, r105_109, r105_112, r105_115, r105_117, r105_118, r105_121, r105_123, r105_124, r105_127, r105_128, r105_131, r105_134, r105_136, r105_137, r105_140, r105_143, r105_144, r105_147, r105_148, r105_150, r105_152, r105_155, r105_157, r105_160, r105_161, r105_164, r105_165, r105_167, r105_170, r105_171, r105_174, r105_177, r105_179, r105_181, r105_184, r105_186, r105_189, r105_190, r105_193, r105_194, r105_196, r105_198, r105_201, r105_202, r105_205, r105_207, r105_210, r105_211, r105_213, r105_216, r105_217, r105_218, r105_220, r105_222, r105_225, r105_228, r105_229, r105_231, r105_233, r105_234, r105_237, r105_238, r105_241, r105_244, r105_245, r105_248, r105_249, r105_251, r105_253, r105_254, r105_257, r105_258, r105_259, r105_261, r105_264, r105_266, r105_269, r105_271, r105_272, r105_275, r105_278, r105_279, g131, vf8_0, t131_0, vf8_1, t131_1, g206, vf8_2, t131_2, g207, vf8_3, t131_3, g208, qa145, qo145, gW0 hw, vf9_3, vf9_4, vf9_2, tW0_2 hw, gW8 hw, gI0 hq, vf2_0, qa122, qo122, qa140, qo140, qa139, qo139, qa106, qo106, qa107, qo107, qa108, qo108, List.getElem?_cons_zero, List.getElem?_cons_succ, List.length_cons, List.length_nil, ag_nx, ag_dn, ag_no, ag_if, jbr1, jbr2, jc1, jc2, jnul, jld, jsto, jstoL, jst1, jst2, jkill, jinc, jbI, jbL, jbS, juI, jl2i, jcmp, jisR, jisI, jisL, jret, jretv, jfits, jdup, jdup2, jpop, jmm, jcat, Value.category, jinv, jrcv, jthr, jhd, jput, jget, jlen, jald, jast, jaast, jgI, jgL, jgB, jtab, jlku, jacp, vf20, vf21, vf22, vf23, vf24, u2_s, u2_k, u2_i, uc_s, uc_k, uc_c, u2_c, LI0, LI1, LI2, LI3, LI4, LI5, LI6, LI7, LI8, LI9, LI10, LI11, LI12, LI13, LI14, LI15, LI16, LI17, LI18, LI19, LI20, LI21, LI22, LI23, LI24, LI25, LI26, LI27, LI28, LI29, LI30, LI31, LI32, LI33, LI34, LI35, LI36, LI37, LI40, LI42, LI43, LI45, LI48, LI60, LI61, LI64, LI80, LI300, LI400, LI1000, LI2000, LI2001, LI2047, LI2048, LI100000, LI1000000, LM, nI_clamp, nI_pos', nI_lt, nI_nlt, nI_le, nI_ge, nI_ne, nI_add, nI_sub, mI_lt, mI_le, mI_nlt, mI_nle, mI_ne, mI_ne', mI_nem, LI46, LI370, LI370000, LI31, LI15, g206, gW8 hw, w4, i0, e2', show k < lv by omega, show k < 8 by omega]
      | true => simp (disch := omega) [r105_0, r105_1, r105_4, r105_5, r105_6, r105_9, r105_10, r105_13, r105_14, r105_15, r105_16, r105_19, r105_20, r105_21, r105_24, r105_25, r105_28, r105_31, r105_32, r105_33, r105_35, r105_36, r105_38, r105_39, r105_43, r105_44, r105_47, r105_49, r105_51, r105_54, r105_56, r105_59, r105_60, r105_63, r105_64, r105_65, r105_68, r105_69, r105_72, r105_73, r105_74, r105_75, r105_78, r105_79, r105_80, r105_83, r105_84, r105_87, r105_90, r105_92, r105_93, r105_95, r105_97, r105_98, r105_101, r105_103, r105_105, r105_108, r105_109, r105_112, r105_115, r105_117, r105_118, r105_121, r105_123, r105_124, r105_127, r105_128, r105_131, r105_134, r105_136, r105_137, r105_140, r105_143, r105_144, r105_147, r105_148, r105_150, r105_152, r105_155, r105_157, r105_160, r105_161, r105_164, r105_165, r105_167, r105_170, r105_171, r105_174, r105_177, r105_179, r105_181, r105_184, r105_186, r105_189, r105_190, r105_193, r105_194, r105_196, r105_198, r105_201, r105_202, r105_205, r105_207, r105_210, r105_211, r105_213, r105_216, r105_217, r105_218, r105_220, r105_222, r105_225, r105_228, r105_229, r105_231, r105_233, r105_234, r105_237, r105_238, r105_241, r105_244, r105_245, r105_248, r105_249, r105_251, r105_253, r105_254, r105_257, r105_258, r105_259, r105_261, r105_264, r105_266, r105_269, r105_271, r105_272, r105_275, r105_278, r105_279, g131, vf8_0, t131_0, vf8_1, t131_1, g206, vf8_2, t131_2, g207, vf8_3, t131_3, g208, qa145, qo145, gW0 hw, vf9_3, vf9_4, vf9_2, tW0_2 hw, gW8 hw, gI0 hq, vf2_0, qa122, qo122, qa140, qo140, qa139, qo139, qa106, qo106, qa107, qo107, qa108, qo108, List.getElem?_cons_zero, List.getElem?_cons_succ, List.length_cons, List.length_nil, ag_nx, ag_dn, ag_no, ag_if, jbr1, jbr2, jc1, jc2, jnul, jld, jsto, jstoL, jst1, jst2, jkill, jinc, jbI, jbL, jbS, juI, jl2i, jcmp, jisR, jisI, jisL, jret, jretv, jfits, jdup, jdup2, jpop, jmm, jcat, Value.category, jinv, jrcv, jthr, jhd, jput, jget, jlen, jald, jast, jaast, jgI, jgL, jgB, jtab, jlku, jacp, vf20, vf21, vf22, vf23, vf24, u2_s, u2_k, u2_i, uc_s, uc_k, uc_c, u2_c, LI0, LI1, LI2, LI3, LI4, LI5, LI6, LI7, LI8, LI9, LI10, LI11, LI12, LI13, LI14, LI15, LI16, LI17, LI18, LI19, LI20, LI21, LI22, LI23, LI24, LI25, LI26, LI27, LI28, LI29, LI30, LI31, LI32, LI33, LI34, LI35, LI36, LI37, LI40, LI42, LI43, LI45, LI48, LI60, LI61, LI64, LI80, LI300, LI400, LI1000, LI2000, LI2001, LI2047, LI2048, LI100000, LI1000000, LM, nI_clamp, nI_pos', nI_lt, nI_nlt, nI_le, nI_ge, nI_ne, nI_add, nI_sub, mI_lt, mI_le, mI_nlt, mI_nle, mI_ne, mI_ne', mI_nem, LI46, LI370, LI370000, LI31, LI15, g206, gW8 hw, w4, i0, e2', show k < lv by omega, show k < 8 by omega]
    · have hV0 : ¬ (aTurn rN N false k x.1).1 = 0 := fun z => c0 (mt.1.trans z)
      have c0' : ¬ (aTurn rN N false k W).1 = nI 0 := c0
      obtain ⟨ok2, d2⟩ := ok_turn (rN := rN) (l := false) hvN hok hd ha
      have fl := fLo_turn (l := false) hpl hok ha
      have F0 : W.2.2.2 = (0, 0) := (mq_cnt m1).trans v2
      have L2 : L ≤ 2048 := hpl.2.2.1.2.1
      have hDi : D0 + 1000000 * (i + 1) + 1000000 < 2 ^ 31 - 1 := hDi_of hi hl1000 hD
      obtain ⟨X3, I3, n3, z, hz, e4, S3, f3, g3, p3, t3, u3, l3⟩ := c105t (A := A) (d := d) (b := b) (h := h) (X := X) (I := I2) (J := J) (R := R2) (n := n) (k := k) (q := 0) (lv := lv) (g0 := x.1.2.1.1) (dd := (aAt x.1 k).1.1) (c9 := c9) (D0 := D0) hj hm hP S2 w2 ok2 hG6 (by omega) hDi (okD_le d2 (by omega)) z1.2.1 z1.2.2.1 hi hl1000 v4 hwt (by have := fl.1; rw [F0] at this; simp only at this; omega) (by have := fl.2; rw [F0] at this; simp only at this; omega)
      have hzz : z = bMt rN N wt p s E (nI i) x.1.2.1.1 (aAt x.1 k).1.1 (aTurn rN N false k x.1).2 := by
        rw [hz]
        exact bMt_mq mt.2
      have bo := bM0_ok (wt := wt) (g0 := x.1.2.1.1) (dd := (aAt x.1 k).1.1) hG6 (by omega) z1.2.1 z1.2.2.1 hl1000 hi v4 ok2 (okD_le d2 (by omega))
      have hz2 : z.2 = (bM0 wt E (nI i) x.1.2.1.1 (aAt x.1 k).1.1 (aTurn rN N false k W).2).2 := by rw [hz]; rfl
      rw [← hz2] at bo
      have hmv : M105 A (d + 5) 83 [some (.ref (b + 131)), some (.ref (b + P)), some (.int (nI i)), some (.int (nI lv)), some (.int (nI q.toNat)), some (.int (nI mv)), some (.int (nI (k))), c7, c8, c9] [] (jH h b X I1 J R n) = M105 A (d + 5) 211 [some (.ref (b + 131)), some (.ref (b + P)), some (.int (nI i)), some (.int (nI lv)), some (.int (nI 0)), some (.int (nI 1)), some (.int (nI (k))), some (.int x.1.2.1.1), some (.int (aAt x.1 k).1.1), c9] [] (jH h b X I2 J R2 n) := by
        cases q with
        | false => simp (disch := omega) [r105_0, r105_1, r105_4, r105_5, r105_6, r105_9, r105_10, r105_13, r105_14, r105_15, r105_16, r105_19, r105_20, r105_21, r105_24, r105_25, r105_28, r105_31, r105_32, r105_33, r105_35, r105_36, r105_38, r105_39, r105_43, r105_44, r105_47, r105_49, r105_51, r105_54, r105_56, r105_59, r105_60, r105_63, r105_64, r105_65, r105_68, r105_69, r105_72, r105_73, r105_74, r105_75, r105_78, r105_79, r105_80, r105_83, r105_84, r105_87, r105_90, r105_92, r105_93, r105_95, r105_97, r105_98, r105_101, r105_103, r105_105, r105_108, r105_109, r105_112, r105_115, r105_117, r105_118, r105_121, r105_123, r105_124, r105_127, r105_128, r105_131, r105_134, r105_136, r105_137, r105_140, r105_143, r105_144, r105_147, r105_148, r105_150, r105_152, r105_155, r105_157, r105_160, r105_161, r105_164, r105_165, r105_167, r105_170, r105_171, r105_174, r105_177, r105_179, r105_181, r105_184, r105_186, r105_189, r105_190, r105_193, r105_194, r105_196, r105_198, r105_201, r105_202, r105_205, r105_207, r105_210, r105_213, r105_216, r105_217, r105_218, r105_220, r105_222, r105_225, r105_228, r105_229, r105_231, r105_233, r105_234, r105_237, r105_238, r105_241, r105_244, r105_245, r105_248, r105_249, r105_251, r105_253, r105_254, r105_257, r105_258, r105_259, r105_261, r105_264, r105_266, r105_269, r105_271, r105_272, r105_275, r105_278, r105_279, g131, vf8_0, t131_0, vf8_1, t131_1, g206, vf8_2, t131_2, g207, vf8_3, t131_3, g208, qa145, qo145, gW0 hw, vf9_3, vf9_4, vf9_2, tW0_2 hw, gW8 hw, gI0 hq, vf2_0, qa122, qo122, qa140, qo140, qa139, qo139, qa106, qo106, qa107, qo107, qa108, qo108, List.getElem?_cons_zero, List.getElem?_cons_succ, List.length_cons, List.length_nil, ag_nx, ag_dn, ag_no, ag_if, jbr1, jbr2, jc1, jc2, jnul, jld, jsto, jstoL, jst1, jst2, jkill, jinc, jbI, jbL, jbS, juI, jl2i, jcmp, jisR, jisI, jisL, jret, jretv, jfits, jdup, jdup2, jpop, jmm, jcat, Value.category, jinv, jrcv, jthr, jhd, jput, jget, jlen, jald, jast, jaast, jgI, jgL, jgB, jtab, jlku, jacp, vf20, vf21, vf22, vf23, vf24, u2_s, u2_k, u2_i, uc_s, uc_k, uc_c, u2_c, LI0, LI1, LI2, LI3, LI4, LI5, LI6, LI7, LI8, LI9, LI10, LI11, LI12, LI13, LI14, LI15, LI16, LI17, LI18, LI19, LI20, LI21, LI22, LI23, LI24, LI25, LI26, LI27, LI28, LI29, LI30, LI31, LI32, LI33, LI34, LI35, LI36, LI37, LI40, LI42, LI43, LI45, LI48, LI60, LI61, LI64, LI80, LI300, LI400, LI1000, LI2000, LI2001, LI2047, LI2048, LI100000, LI1000000, LM, nI_clamp, nI_pos', nI_lt, nI_nlt, nI_le, nI_ge, nI_ne, nI_add, nI_sub, mI_lt, mI_le, mI_nlt, mI_nle, mI_ne, mI_ne', mI_nem, LI46, LI370, LI370000, LI31, LI15, g206, gW8 hw, w4, i0, e2', c0', show k < lv by omega, show k < 8 by omega]
        | true => simp (disch := omega) [r105_0, r105_1, r105_4, r105_5, r105_6, r105_9, r105_10, r105_13, r105_14, r105_15, r105_16, r105_19, r105_20, r105_21, r105_24, r105_25, r105_28, r105_31, r105_32, r105_33, r105_35, r105_36, r105_38, r105_39, r105_43, r105_44, r105_47, r105_49, r105_51, r105_54, r105_56, r105_59, r105_60, r105_63, r105_64, r105_65, r105_68, r105_69, r105_72, r105_73, r105_74, r105_75, r105_78, r105_79, r105_80, r105_83, r105_84, r105_87, r105_90, r105_92, r105_93, r105_95, r105_97, r105_98, r105_101, r105_103, r105_105, r105_108, r105_109, r105_112, r105_115, r105_117, r105_118, r105_121, r105_123, r105_124, r105_127, r105_128, r105_131, r105_134, r105_136, r105_137, r105_140, r105_143, r105_144, r105_147, r105_148, r105_150, r105_152, r105_155, r105_157, r105_160, r105_161, r105_164, r105_165, r105_167, r105_170, r105_171, r105_174, r105_177, r105_179, r105_181, r105_184, r105_186, r105_189, r105_190, r105_193, r105_194, r105_196, r105_198, r105_201, r105_202, r105_205, r105_207, r105_210, r105_213, r105_216, r105_217, r105_218, r105_220, r105_222, r105_225, r105_228, r105_229, r105_231, r105_233, r105_234, r105_237, r105_238, r105_241, r105_244, r105_245, r105_248, r105_249, r105_251, r105_253, r105_254, r105_257, r105_258, r105_259, r105_261, r105_264, r105_266, r105_269, r105_271, r105_272, r105_275, r105_278, r105_279, g131, vf8_0, t131_0, vf8_1, t131_1, g206, vf8_2, t131_2, g207, vf8_3, t131_3, g208, qa145, qo145, gW0 hw, vf9_3, vf9_4, vf9_2, tW0_2 hw, gW8 hw, gI0 hq, vf2_0, qa122, qo122, qa140, qo140, qa139, qo139, qa106, qo106, qa107, qo107, qa108, qo108, List.getElem?_cons_zero, List.getElem?_cons_succ, List.length_cons, List.length_nil, ag_nx, ag_dn, ag_no, ag_if, jbr1, jbr2, jc1, jc2, jnul, jld, jsto, jstoL, jst1, jst2, jkill, jinc, jbI, jbL, jbS, juI, jl2i, jcmp, jisR, jisI, jisL, jret, jretv, jfits, jdup, jdup2, jpop, jmm, jcat, Value.category, jinv, jrcv, jthr, jhd, jput, jget, jlen, jald, jast, jaast, jgI, jgL, jgB, jtab, jlku, jacp, vf20, vf21, vf22, vf23, vf24, u2_s, u2_k, u2_i, uc_s, uc_k, uc_c, u2_c, LI0, LI1, LI2, LI3, LI4, LI5, LI6, LI7, LI8, LI9, LI10, LI11, LI12, LI13, LI14, LI15, LI16, LI17, LI18, LI19, LI20, LI21, LI22, LI23, LI24, LI25, LI26, LI27, LI28, LI29, LI30, LI31, LI32, LI33, LI34, LI35, LI36, LI37, LI40, LI42, LI43, LI45, LI48, LI60, LI61, LI64, LI80, LI300, LI400, LI1000, LI2000, LI2001, LI2047, LI2048, LI100000, LI1000000, LM, nI_clamp, nI_pos', nI_lt, nI_nlt, nI_le, nI_ge, nI_ne, nI_add, nI_sub, mI_lt, mI_le, mI_nlt, mI_nle, mI_ne, mI_ne', mI_nem, LI46, LI370, LI370000, LI31, LI15, g206, gW8 hw, w4, i0, e2', c0', show k < lv by omega, show k < 8 by omega]
      have fw : fWk I I3 := fWk_trans f1 (fWk_trans fw2 f3)
      by_cases cz : z.1 = 0
      · rw [bXl_g hV0 hzz cz]
        have hx3 : z.2[i]? = some x := by rw [hz]; exact bMt_pre hx
        obtain ⟨X', I', R', n', e5, a1, a2, a3, a4, a5, a6, a7, a8⟩ := ih (k + 1) false 1 z.2 X3 I3 R2 n3 (some (.int x.1.2.1.1)) (some (.int (aAt x.1 k).1.1)) (some (.int (nI 0))) (by omega) (by omega) hx3 ⟨S3, bo.1, bo.2.1, bo.2.2.1⟩ (fun z => absurd z (by omega))
        refine ⟨X', I', R', n', ?_, a1, fWk_trans fw a2, fun c j h1 h2 => (a3 c j h1 h2).trans (fr2 c j h1 h2), gro_trans g3 a4, fPo_trans p3 a5, a6, fun hne => (a7 hne).trans ((u3 (by omega)).trans ((k2' _ _ (by omega)).trans o1)), a8⟩
        rw [e1, hmv, e4, ← e5, cz]
        simp (disch := omega) [r105_264, r105_266, r105_269, r105_271, r105_272, r105_275, List.getElem?_cons_zero, List.getElem?_cons_succ, List.length_cons, List.length_nil, ag_nx, ag_dn, ag_no, ag_if, jbr1, jbr2, jc1, jc2, jnul, jld, jsto, jstoL, jst1, jst2, jkill, jinc, jbI, jbL, jbS, juI, jl2i, jcmp, jisR, jisI, jisL, jret, jretv, jfits, jdup, jdup2, jpop, jmm, jcat, Value.category, jinv, jrcv, jthr, jhd, jput, jget, jlen, jald, jast, jaast, jgI, jgL, jgB, jtab, jlku, jacp, vf20, vf21, vf22, vf23, vf24, u2_s, u2_k, u2_i, uc_s, uc_k, uc_c, u2_c, LI0, LI1, LI2, LI3, LI4, LI5, LI6, LI7, LI8, LI9, LI10, LI11, LI12, LI13, LI14, LI15, LI16, LI17, LI18, LI19, LI20, LI21, LI22, LI23, LI24, LI25, LI26, LI27, LI28, LI29, LI30, LI31, LI32, LI33, LI34, LI35, LI36, LI37, LI40, LI42, LI43, LI45, LI48, LI60, LI61, LI64, LI80, LI300, LI400, LI1000, LI2000, LI2001, LI2047, LI2048, LI100000, LI1000000, LM, nI_clamp, nI_pos', nI_lt, nI_nlt, nI_le, nI_ge, nI_ne, nI_add, nI_sub, mI_lt, mI_le, mI_nlt, mI_nle, mI_ne, mI_ne', mI_nem]
      · rw [bXl_s hV0 hzz cz]
        refine ⟨X3, I3, R2, n3, ?_, ⟨S3, bo.1, bo.2.1, bo.2.2.1⟩, fw, fr2, g3, p3, t3, fun hne => (u3 hne).trans ((k2' _ _ (by omega)).trans o1), l3⟩
        rw [e1, hmv, e4]
        obtain c1 | c1 : z.1 = 1 ∨ z.1 = 2 := by omega
        · rw [c1]
          simp (disch := omega) [r105_264, r105_266, r105_269, r105_271, r105_272, r105_275, List.getElem?_cons_zero, List.getElem?_cons_succ, List.length_cons, List.length_nil, ag_nx, ag_dn, ag_no, ag_if, jbr1, jbr2, jc1, jc2, jnul, jld, jsto, jstoL, jst1, jst2, jkill, jinc, jbI, jbL, jbS, juI, jl2i, jcmp, jisR, jisI, jisL, jret, jretv, jfits, jdup, jdup2, jpop, jmm, jcat, Value.category, jinv, jrcv, jthr, jhd, jput, jget, jlen, jald, jast, jaast, jgI, jgL, jgB, jtab, jlku, jacp, vf20, vf21, vf22, vf23, vf24, u2_s, u2_k, u2_i, uc_s, uc_k, uc_c, u2_c, LI0, LI1, LI2, LI3, LI4, LI5, LI6, LI7, LI8, LI9, LI10, LI11, LI12, LI13, LI14, LI15, LI16, LI17, LI18, LI19, LI20, LI21, LI22, LI23, LI24, LI25, LI26, LI27, LI28, LI29, LI30, LI31, LI32, LI33, LI34, LI35, LI36, LI37, LI40, LI42, LI43, LI45, LI48, LI60, LI61, LI64, LI80, LI300, LI400, LI1000, LI2000, LI2001, LI2047, LI2048, LI100000, LI1000000, LM, nI_clamp, nI_pos', nI_lt, nI_nlt, nI_le, nI_ge, nI_ne, nI_add, nI_sub, mI_lt, mI_le, mI_nlt, mI_nle, mI_ne, mI_ne', mI_nem]
        · rw [c1]
          simp (disch := omega) [r105_264, r105_266, r105_269, r105_271, r105_272, r105_275, List.getElem?_cons_zero, List.getElem?_cons_succ, List.length_cons, List.length_nil, ag_nx, ag_dn, ag_no, ag_if, jbr1, jbr2, jc1, jc2, jnul, jld, jsto, jstoL, jst1, jst2, jkill, jinc, jbI, jbL, jbS, juI, jl2i, jcmp, jisR, jisI, jisL, jret, jretv, jfits, jdup, jdup2, jpop, jmm, jcat, Value.category, jinv, jrcv, jthr, jhd, jput, jget, jlen, jald, jast, jaast, jgI, jgL, jgB, jtab, jlku, jacp, vf20, vf21, vf22, vf23, vf24, u2_s, u2_k, u2_i, uc_s, uc_k, uc_c, u2_c, LI0, LI1, LI2, LI3, LI4, LI5, LI6, LI7, LI8, LI9, LI10, LI11, LI12, LI13, LI14, LI15, LI16, LI17, LI18, LI19, LI20, LI21, LI22, LI23, LI24, LI25, LI26, LI27, LI28, LI29, LI30, LI31, LI32, LI33, LI34, LI35, LI36, LI37, LI40, LI42, LI43, LI45, LI48, LI60, LI61, LI64, LI80, LI300, LI400, LI1000, LI2000, LI2001, LI2047, LI2048, LI100000, LI1000000, LM, nI_clamp, nI_pos', nI_lt, nI_nlt, nI_le, nI_ge, nI_ne, nI_add, nI_sub, mI_lt, mI_le, mI_nlt, mI_nle, mI_ne, mI_ne', mI_nem]
end CXL
