/-! walk: what both do, state by state -/
section BFS
variable (rN : Int32 → Nm) (N : Nat → Nat → Int32) (wt : Nat) (p s : Int32)
/-- is it one that is looked for, whatever led to it -/
def bLk (W : aW Nm) : Bool := if wt = 3 then W.1.any (fun a => decide (a.1.2.1 = p) && decide (a.1.2.2.1 = s)) else if wt = 0 then ((aDue W.1 0 none).isNone && W.1.all (fun a => decide ((aPlan rN N W.2.1.2.1 a).1 = 0))) else false
/-- was something lost, or thrown away -/
def bHit (W : aW Nm) : Bool := (decide (wt = 1) && decide (0 < W.2.2.2.1)) || (decide (wt = 2) && decide (0 < W.2.2.2.2))
noncomputable def bKn (E : List bE) (W : aW Nm) : Bool := E.any (fun e => @decide (ky e.1 = ky W) (Classical.propDecidable _))
/-- Walker.meet: 0 nothing, 1 found, 2 too much, 3 new -/
noncomputable def bM0 (E : List bE) (i g0 dd : Int32) (W : aW Nm) : Nat × List bE :=
  if g0 < W.2.1.1 ∧ 61 < W.2.1.1 then (2, E) else if bKn E W = true then (if bHit wt W = true then 1 else 0, E)
  else if 1000 ≤ E.length then (2, E) else (if bHit wt W = true then 1 else 3, E ++ [(bz W, i, dd)])
/-- and whether a new one is looked for -/
noncomputable def bMt (E : List bE) (i g0 dd : Int32) (W : aW Nm) : Nat × List bE :=
  let z := bM0 wt E i g0 dd W
  (if z.1 = 3 then (if bLk rN N wt p s W = true then 1 else 0) else z.1, z.2)
/-- turns from slot k on: what came of it, by whom, entries, was all idle -/
noncomputable def bTs (V : aW Nm) (i : Int32) : Nat → Nat → Bool → List bE → Nat × Int32 × List bE × Bool
  | 0, _, q, E => (0, -1, E, q)
  | r + 1, k, q, E =>
    if (aTurn rN N false k V).1 = 0 then bTs V i r (k + 1) q E
    else
      let z := bMt rN N wt p s E i V.2.1.1 (aAt V k).1.1 (aTurn rN N false k V).2
      if z.1 = 0 then bTs V i r (k + 1) false z.2 else (z.1, (aAt V k).1.1, z.2, false)
/-- how long it is up to the next timer -/
def aUp (W : aW Nm) (x : Int32) : Int32 := if 0 < x - W.2.1.2.1 then x - W.2.1.2.1 else 0
/-- all that can be done in a state -/
noncomputable def bXp (V : aW Nm) (i : Int32) (E : List bE) : Nat × Int32 × List bE :=
  let z := bTs rN N wt p s V i V.1.length 0 true E
  if z.1 = 0 ∧ z.2.2.2 = true then
    (match aDue V.1 0 none with
     | none => (0, -1, z.2.2.1)
     | some y =>
       let u := bMt rN N wt p s z.2.2.1 i V.2.1.1 (-1) (aGo rN false (aUp V y.1) V).2
       (u.1, -1, u.2))
  else (z.1, z.2.1, z.2.2.1)
/-- from entry i on: what came of it, at which entry, by whom, entries -/
noncomputable def bWk : Nat → Nat → List bE → Nat × Nat × Int32 × List bE
  | 0, i, E => (0, i, -1, E)
  | r + 1, i, E => match E[i]? with
    | none => (0, i, -1, E)
    | some x =>
      let z := bXp rN N wt p s x.1 (nI i) E
      if z.1 = 0 then bWk r (i + 1) z.2.2 else (z.1, i, z.2.1, z.2.2)
end BFS
section BFM
variable {rN : Int32 → Nm} {N : Nat → Nat → Int32} {wt : Nat} {p s : Int32} {W V : aW Nm}
theorem mq_now (h : mq W V) : W.2.1.2.1 = V.2.1.2.1 := by
  have := congrArg (fun z : aW Nm => z.2.1.2.1) (show mp W = mp V from h)
  exact this
theorem mq_giv (h : mq W V) : W.2.1.1 = V.2.1.1 := by
  have := congrArg (fun z : aW Nm => z.2.1.1) (show mp W = mp V from h)
  exact this
theorem mq_cnt (h : mq W V) : W.2.2.2 = V.2.2.2 := by
  have := congrArg (fun z : aW Nm => z.2.2.2) (show mp W = mp V from h)
  exact this
theorem mq_map (h : mq W V) : W.1.map eI = V.1.map eI := by
  have := congrArg (fun z : aW Nm => z.1) (show mp W = mp V from h)
  exact this
theorem mq_any {f : aI Nm → Bool} (hf : ∀ a, f (eI a) = f a) (h : mq W V) : W.1.any f = V.1.any f ∧ W.1.all f = V.1.all f := by
  have e := mq_map h
  have e1 : ∀ L : List (aI Nm), (L.map eI).any f = L.any f ∧ (L.map eI).all f = L.all f := by
    intro L
    induction L with
    | nil => exact ⟨rfl, rfl⟩
    | cons a L ih => simp [hf, ih.1, ih.2]
  rw [← (e1 W.1).1, ← (e1 W.1).2, ← (e1 V.1).1, ← (e1 V.1).2, e]
  exact ⟨rfl, rfl⟩
theorem bLk_mq (h : mq W V) : bLk rN N wt p s W = bLk rN N wt p s V := by
  unfold bLk
  rw [(mq_any (f := fun a => decide (a.1.2.1 = p) && decide (a.1.2.2.1 = s)) (fun a => rfl) h).1, mq_due h, mq_now h, (mq_any (f := fun a => decide ((aPlan rN N V.2.1.2.1 a).1 = 0)) (fun a => by simp only [eI_plan]) h).2]
theorem bM0_mq {E : List bE} {i g0 dd : Int32} (h : mq W V) : bM0 wt E i g0 dd W = bM0 wt E i g0 dd V := by
  unfold bM0 bKn bHit
  rw [mq_giv h, ky_mq h, mq_cnt h, bz_mq h]
theorem bMt_mq {E : List bE} {i g0 dd : Int32} (h : mq W V) : bMt rN N wt p s E i g0 dd W = bMt rN N wt p s E i g0 dd V := by
  unfold bMt
  rw [bM0_mq h, bLk_mq h]
end BFM
/-- the entries are whole -/
def eOK (N : Nat → Nat → Int32) (np : Nat) (E : List bE) : Prop := ∀ x, x ∈ E → x.1.1.length ≤ 8 ∧ ∀ a, a ∈ x.1.1 → okI N np a
section CM
variable {A : Nat → Nat} {d b n : Nat} {h : Nat → Option jC} {X : jXX} {I : Nat → Nat → Int32} {J : Nat → Nat → Int64} {R : Nat → Nat → Nat} {cN rN : Int32 → Nm} {E : List bE} {F Z : Nat → Nat} {W : aW Nm} {N : Nat → Nat → Int32} {O G E' : Nat → Int32} {np P L B wt : Nat}
theorem okI_all (h : okW N np B W) : ∀ a, a ∈ W.1 → okI N np a := by
  intro a ha
  obtain ⟨k, hk, e⟩ := List.getElem_of_mem ha
  exact h.2.1 k a (by rw [List.getElem?_eq_getElem hk, e])
theorem wC_fr {I' : Nat → Nat → Int32} (hi : ∀ c i, 132 ≤ c → c ≤ 205 → I' c i = I c i) (hW : wC cN I R 132 W) : wC cN I' R 132 W :=
  ⟨wA_fr (fun c i h1 h2 => hi c i (by omega) (by omega)) (hi _ _ (by omega) (by omega)) hW.1, tC_fr (fun c i h1 h2 => hi c i (by omega) (by omega)) (fun i h1 h2 => hi _ _ (by omega) (by omega)) hW.2⟩
/-- known, or not -/
theorem bKn_iff {I1 : Nat → Nat → Int32} (hj : ∀ x y, cN x = cN y → x = y) (n6 : np ≤ 6) (l6 : ∀ p, p < np → (lets N p).length ≤ 6) (ho : eOK N np E) (hok : okW N np B W) (hp : pW cN (I1 213) 0 W) (hE : ∀ (e : Nat) (x : bE), E[e]? = some x → pW cN (I1 206) (F e) x.1 ∧ Z e = 2 + szL x.1.1) : (bKn E W = true) ↔ ∃ e, e < E.length ∧ mtc I1 F Z (2 + szL W.1) e := by
  have key : ∀ e x, E[e]? = some x → (mtc I1 F Z (2 + szL W.1) e ↔ ky x.1 = ky W) := fun e x hx => by
    obtain ⟨a1, a2⟩ := hE e x hx
    have hm := List.mem_of_getElem? hx
    have o := ho x hm
    rw [← pW_ky hj n6 l6 o.2 (okI_all hok) o.1 hok.1 a1 hp]
    unfold mtc
    rw [a2]
    constructor
    · rintro ⟨b1, b2⟩
      refine ⟨b1, fun i hi => ?_⟩
      rw [Nat.zero_add]
      exact b2 i (by omega)
    · rintro ⟨b1, b2⟩
      refine ⟨b1, fun i hi => ?_⟩
      have := b2 i (by omega)
      rw [Nat.zero_add] at this
      exact this
  unfold bKn
  rw [List.any_eq_true]
  constructor
  · rintro ⟨x, hx, he⟩
    obtain ⟨e, h1, h2⟩ := List.getElem_of_mem hx
    have hx' : E[e]? = some x := by rw [List.getElem?_eq_getElem h1, h2]
    exact ⟨e, h1, (key e x hx').mpr (by simpa using he)⟩
  · rintro ⟨e, h1, h2⟩
    have hx' := List.getElem?_eq_getElem h1
    exact ⟨E[e], List.getElem_mem h1, by simpa using (key e _ hx').mp h2⟩
/-- nothing but the walker's rows, what is packed, and how many there are -/
def fK2 (I I' : Nat → Nat → Int32) : Prop := ∀ c i, ¬ (206 ≤ c ∧ c ≤ 213) → ¬ (c = 131 ∧ i = 9) → I' c i = I c i
theorem bC_213 {I1 : Nat → Nat → Int32} (hC : bC cN X I E F Z) (k1 : ∀ c j, c ≠ 213 → I1 c j = I c j) : bC cN X I1 E F Z := by
  have e : ∀ c, c ≠ 213 → I1 c = I c := fun c hc => funext fun j => k1 c j hc
  unfold bC tbI bgI at hC ⊢
  rw [e 131 (by omega), e 206 (by omega), e 207 (by omega), e 208 (by omega), e 209 (by omega), e 210 (by omega), e 211 (by omega), e 212 (by omega)]
  exact hC
/-- Walker.meet -/
theorem c106 {g0 g1 from_ deed : Int32} (hj : ∀ x y, cN x = cN y → x = y) (hP : isP P) (hR : R 132 0 = P) (hpl : plC cN rN N O G E' np P L I) (hW : wC cN I R 132 W) (hok : okW N np B W) (hB : B + 8 < 2 ^ 31) (hC : bC cN X I E F Z) (ho : eOK N np E) (hwt : wt ≤ 3) (h10 : I 131 10 = nI wt) (hF1 : W.2.2.2.1 < 2 ^ 20) (hF2 : W.2.2.2.2 < 2 ^ 20) : ∃ X' I' n', jcall A jcode (d + 4) 106 [.ref (b + 131), .int from_, .int deed, .int g0] (jH h b X I J R n) = some (.inl (some (.int (nI (bM0 wt E from_ g0 deed W).1))), jH h b X' I' J R n') ∧ (∃ F' Z', bC cN X' I' (bM0 wt E from_ g0 deed W).2 F' Z') ∧ fK2 I I' ∧ gro X n X' n' ∧ fPo X X' := by
  have hPe := isP_e hP
  have hw : isW 132 := by simp [isW]
  have l6 : ∀ p, p < np → (lets N p).length ≤ 6 := fun p hp => (hpl.2.2.2 p hp).2.2.2.2.1
  have n6 := hpl.1
  have w4 : I 132 4 = W.2.1.1 := hW.2.1
  have w5 : I 132 5 = W.2.1.2.1 := hW.2.2.1
  have w6 : I 132 6 = nI W.2.2.2.1 := (hW.2.2.2.2 rfl).1
  have w7 : I 132 7 = nI W.2.2.2.2 := (hW.2.2.2.2 rfl).2.1
  by_cases cg : g0 < W.2.1.1 ∧ 61 < W.2.1.1
  · have e0 : bM0 wt E from_ g0 deed W = (2, E) := by unfold bM0; rw [if_pos cg]
    rw [e0]
    refine ⟨X, I, n, ?_, ⟨F, Z, hC⟩, fun _ _ _ _ => rfl, gro_refl, fun _ _ => ⟨rfl, rfl⟩⟩
    have cg1 : ¬ W.2.1.1 ≤ g0 := Int32.not_le.mpr cg.1
    have cg2 : ¬ W.2.1.1 ≤ nI 61 := Int32.not_le.mpr cg.2
    simp (disch := omega) [je106, r106_0, r106_1, r106_4, r106_7, r106_8, r106_11, r106_12, r106_15, r106_18, r106_20, r106_23, r106_24, r106_25, r106_26, r106_29, r106_30, r106_33, r106_36, r106_38, r106_39, r106_41, r106_44, r106_46, r106_47, r106_49, r106_51, r106_54, r106_56, r106_58, r106_61, r106_62, r106_65, r106_68, r106_71, r106_72, r106_73, r106_74, r106_76, r106_78, r106_79, r106_80, r106_81, r106_84, r106_87, r106_90, r106_91, r106_94, r106_95, r106_98, r106_99, r106_102, r106_105, r106_108, r106_109, r106_112, r106_113, r106_116, r106_117, r106_120, r106_123, r106_126, r106_127, r106_128, r106_130, r106_133, r106_134, r106_137, r106_138, g131, vf8_0, t131_0, gW0 hw, vf9_4, vf8_8, t131_8, g213, qa144, qo144, qa109, qo109, qa110, qo110, vf8_9, vf9_5, qa112, qo112, vf8_10, vf9_6, vf9_7, List.getElem?_cons_zero, List.getElem?_cons_succ, List.length_cons, List.length_nil, ag_nx, ag_dn, ag_no, ag_if, jbr1, jbr2, jc1, jc2, jnul, jld, jsto, jstoL, jst1, jst2, jkill, jinc, jbI, jbL, jbS, juI, jl2i, jcmp, jisR, jisI, jisL, jret, jretv, jfits, jdup, jdup2, jpop, jmm, jcat, Value.category, jinv, jrcv, jthr, jhd, jput, jget, jlen, jald, jast, jaast, jgI, jgL, jgB, jtab, jlku, jacp, vf20, vf21, vf22, vf23, vf24, u2_s, u2_k, u2_i, uc_s, uc_k, uc_c, u2_c, LI0, LI1, LI2, LI3, LI4, LI5, LI6, LI7, LI8, LI9, LI10, LI11, LI12, LI13, LI14, LI15, LI16, LI17, LI18, LI19, LI20, LI21, LI22, LI23, LI24, LI25, LI26, LI27, LI28, LI29, LI30, LI31, LI32, LI33, LI34, LI35, LI36, LI37, LI40, LI42, LI43, LI45, LI48, LI60, LI61, LI64, LI80, LI300, LI400, LI1000, LI2000, LI2001, LI2047, LI2048, LI100000, LI1000000, LM, nI_clamp, nI_pos', nI_lt, nI_nlt, nI_le, nI_ge, nI_ne, nI_add, nI_sub, mI_lt, mI_le, mI_nlt, mI_nle, mI_ne, mI_ne', mI_nem, LI46, LI370, LI370000, LI31, LI15, g206, w4, cg1, cg2]
  have hch : M106 A (d + 3) 0 [some (.ref (b + 131)), some (.int from_), some (.int deed), some (.int g0), none, none, none] [] (jH h b X I J R n) = M106 A (d + 3) 25 [some (.ref (b + 131)), some (.int from_), some (.int deed), some (.int g0), none, none, none] [] (jH h b X I J R n) := by
    by_cases c1 : W.2.1.1 ≤ g0
    · simp (disch := omega) [r106_0, r106_1, r106_4, r106_7, r106_8, r106_11, r106_12, r106_15, r106_18, r106_20, r106_23, r106_24, r106_26, r106_29, r106_30, r106_33, r106_36, r106_38, r106_39, r106_41, r106_44, r106_46, r106_47, r106_49, r106_51, r106_54, r106_56, r106_58, r106_61, r106_62, r106_65, r106_68, r106_71, r106_72, r106_73, r106_74, r106_76, r106_78, r106_79, r106_80, r106_81, r106_84, r106_87, r106_90, r106_91, r106_94, r106_95, r106_98, r106_99, r106_102, r106_105, r106_108, r106_109, r106_112, r106_113, r106_116, r106_117, r106_120, r106_123, r106_126, r106_127, r106_128, r106_130, r106_133, r106_134, r106_137, r106_138, g131, vf8_0, t131_0, gW0 hw, vf9_4, vf8_8, t131_8, g213, qa144, qo144, qa109, qo109, qa110, qo110, vf8_9, vf9_5, qa112, qo112, vf8_10, vf9_6, vf9_7, List.getElem?_cons_zero, List.getElem?_cons_succ, List.length_cons, List.length_nil, ag_nx, ag_dn, ag_no, ag_if, jbr1, jbr2, jc1, jc2, jnul, jld, jsto, jstoL, jst1, jst2, jkill, jinc, jbI, jbL, jbS, juI, jl2i, jcmp, jisR, jisI, jisL, jret, jretv, jfits, jdup, jdup2, jpop, jmm, jcat, Value.category, jinv, jrcv, jthr, jhd, jput, jget, jlen, jald, jast, jaast, jgI, jgL, jgB, jtab, jlku, jacp, vf20, vf21, vf22, vf23, vf24, u2_s, u2_k, u2_i, uc_s, uc_k, uc_c, u2_c, LI0, LI1, LI2, LI3, LI4, LI5, LI6, LI7, LI8, LI9, LI10, LI11, LI12, LI13, LI14, LI15, LI16, LI17, LI18, LI19, LI20, LI21, LI22, LI23, LI24, LI25, LI26, LI27, LI28, LI29, LI30, LI31, LI32, LI33, LI34, LI35, LI36, LI37, LI40, LI42, LI43, LI45, LI48, LI60, LI61, LI64, LI80, LI300, LI400, LI1000, LI2000, LI2001, LI2047, LI2048, LI100000, LI1000000, LM, nI_clamp, nI_pos', nI_lt, nI_nlt, nI_le, nI_ge, nI_ne, nI_add, nI_sub, mI_lt, mI_le, mI_nlt, mI_nle, mI_ne, mI_ne', mI_nem, LI46, LI370, LI370000, LI31, LI15, g206, w4, c1]
    · have c2 : W.2.1.1 ≤ nI 61 := by
        apply Int32.not_lt.mp
        intro z
        exact cg ⟨Int32.not_le.mp c1, z⟩
      simp (disch := omega) [r106_0, r106_1, r106_4, r106_7, r106_8, r106_11, r106_12, r106_15, r106_18, r106_20, r106_23, r106_24, r106_26, r106_29, r106_30, r106_33, r106_36, r106_38, r106_39, r106_41, r106_44, r106_46, r106_47, r106_49, r106_51, r106_54, r106_56, r106_58, r106_61, r106_62, r106_65, r106_68, r106_71, r106_72, r106_73, r106_74, r106_76, r106_78, r106_79, r106_80, r106_81, r106_84, r106_87, r106_90, r106_91, r106_94, r106_95, r106_98, r106_99, r106_102, r106_105, r106_108, r106_109, r106_112, r106_113, r106_116, r106_117, r106_120, r106_123, r106_126, r106_127, r106_128, r106_130, r106_133, r106_134, r106_137, r106_138, g131, vf8_0, t131_0, gW0 hw, vf9_4, vf8_8, t131_8, g213, qa144, qo144, qa109, qo109, qa110, qo110, vf8_9, vf9_5, qa112, qo112, vf8_10, vf9_6, vf9_7, List.getElem?_cons_zero, List.getElem?_cons_succ, List.length_cons, List.length_nil, ag_nx, ag_dn, ag_no, ag_if, jbr1, jbr2, jc1, jc2, jnul, jld, jsto, jstoL, jst1, jst2, jkill, jinc, jbI, jbL, jbS, juI, jl2i, jcmp, jisR, jisI, jisL, jret, jretv, jfits, jdup, jdup2, jpop, jmm, jcat, Value.category, jinv, jrcv, jthr, jhd, jput, jget, jlen, jald, jast, jaast, jgI, jgL, jgB, jtab, jlku, jacp, vf20, vf21, vf22, vf23, vf24, u2_s, u2_k, u2_i, uc_s, uc_k, uc_c, u2_c, LI0, LI1, LI2, LI3, LI4, LI5, LI6, LI7, LI8, LI9, LI10, LI11, LI12, LI13, LI14, LI15, LI16, LI17, LI18, LI19, LI20, LI21, LI22, LI23, LI24, LI25, LI26, LI27, LI28, LI29, LI30, LI31, LI32, LI33, LI34, LI35, LI36, LI37, LI40, LI42, LI43, LI45, LI48, LI60, LI61, LI64, LI80, LI300, LI400, LI1000, LI2000, LI2001, LI2047, LI2048, LI100000, LI1000000, LM, nI_clamp, nI_pos', nI_lt, nI_nlt, nI_le, nI_ge, nI_ne, nI_add, nI_sub, mI_lt, mI_le, mI_nlt, mI_nle, mI_ne, mI_ne', mI_nem, LI46, LI370, LI370000, LI31, LI15, g206, w4, c1, c2]
  obtain ⟨I1, e1, k1, p1, s1⟩ := c144 (A := A) (d := d + 1) (b := b) (h := h) (X := X) (J := J) (n := n) hw hP hR hpl hW hok
  have hC1 := bC_213 hC k1
  have e2 := c109 (A := A) (d := d + 2) (b := b) (h := h) (X := X) (I := I1) (J := J) (R := R) (n := n) s1
  have hC1' := hC1
  obtain ⟨c1, c2, c3, c4, c5, c6, c7, c8, c9⟩ := hC1'
  have hcp := zpl_b c5
  obtain ⟨v, e3, hv⟩ := c110 (A := A) (d := d + 1) (b := b) (h := h) (X := X) (I := I1) (J := J) (R := R) (n := n) s1 c2 c3 c4 (by omega)
  have hkn := bKn_iff hj n6 l6 ho hok p1 (fun e x hx => ⟨(c9 e x hx).1, (c9 e x hx).2.1⟩)
  have v10 : I1 131 10 = nI wt := by rw [k1 _ _ (by omega)]; exact h10
  have v9 : I1 131 9 = nI E.length := c1
  have x5 : I1 132 5 = W.2.1.2.1 := by rw [k1 _ _ (by omega)]; exact w5
  have x6 : I1 132 6 = nI W.2.2.2.1 := by rw [k1 _ _ (by omega)]; exact w6
  have x7 : I1 132 7 = nI W.2.2.2.2 := by rw [k1 _ _ (by omega)]; exact w7
  have je : jcall A jcode (d + 4) 106 [.ref (b + 131), .int from_, .int deed, .int g0] (jH h b X I J R n) = M106 A (d + 3) 0 [some (.ref (b + 131)), some (.int from_), some (.int deed), some (.int g0), none, none, none] [] (jH h b X I J R n) := by
    simp only [je106]
  rw [je, hch]
  have fin : ∀ (X2 : jXX) (I2 : Nat → Nat → Int32) (n2 kn : Nat), kn ≤ 1 → I2 131 10 = nI wt → I2 132 6 = nI W.2.2.2.1 → I2 132 7 = nI W.2.2.2.2 → ∀ y4 y5 : Int32, M106 A (d + 3) 90 [some (.ref (b + 131)), some (.int from_), some (.int deed), some (.int g0), some (.int y4), some (.int y5), some (.int (nI kn))] [] (jH h b X2 I2 J R n2) = some (.inl (some (.int (nI (if bHit wt W = true then 1 else if kn = 1 then 0 else 3)))), jH h b X2 I2 J R n2) := by
    intro X2 I2 n2 kn hkn a10 a6 a7 y4 y5
    have hkk : kn = 0 ∨ kn = 1 := by omega
    obtain rfl | rfl | rfl | rfl : wt = 0 ∨ wt = 1 ∨ wt = 2 ∨ wt = 3 := by omega
    · have hb : ¬ bHit 0 W = true := by simp [bHit]
      rw [if_neg hb]
      rcases hkk with rfl | rfl
      · simp (disch := omega) [r106_0, r106_1, r106_4, r106_7, r106_8, r106_11, r106_12, r106_15, r106_18, r106_20, r106_23, r106_24, r106_25, r106_26, r106_29, r106_30, r106_33, r106_36, r106_38, r106_39, r106_41, r106_44, r106_46, r106_47, r106_49, r106_51, r106_54, r106_56, r106_58, r106_61, r106_62, r106_65, r106_68, r106_71, r106_72, r106_73, r106_74, r106_76, r106_78, r106_79, r106_80, r106_81, r106_84, r106_87, r106_90, r106_91, r106_94, r106_95, r106_98, r106_99, r106_102, r106_105, r106_108, r106_109, r106_112, r106_113, r106_116, r106_117, r106_120, r106_123, r106_126, r106_127, r106_128, r106_130, r106_133, r106_134, r106_137, r106_138, g131, vf8_0, t131_0, gW0 hw, vf9_4, vf8_8, t131_8, g213, qa144, qo144, qa109, qo109, qa110, qo110, vf8_9, vf9_5, qa112, qo112, vf8_10, vf9_6, vf9_7, List.getElem?_cons_zero, List.getElem?_cons_succ, List.length_cons, List.length_nil, ag_nx, ag_dn, ag_no, ag_if, jbr1, jbr2, jc1, jc2, jnul, jld, jsto, jstoL, jst1, jst2, jkill, jinc, jbI, jbL, jbS, juI, jl2i, jcmp, jisR, jisI, jisL, jret, jretv, jfits, jdup, jdup2, jpop, jmm, jcat, Value.category, jinv, jrcv, jthr, jhd, jput, jget, jlen, jald, jast, jaast, jgI, jgL, jgB, jtab, jlku, jacp, vf20, vf21, vf22, vf23, vf24, u2_s, u2_k, u2_i, uc_s, uc_k, uc_c, u2_c, LI0, LI1, LI2, LI3, LI4, LI5, LI6, LI7, LI8, LI9, LI10, LI11, LI12, LI13, LI14, LI15, LI16, LI17, LI18, LI19, LI20, LI21, LI22, LI23, LI24, LI25, LI26, LI27, LI28, LI29, LI30, LI31, LI32, LI33, LI34, LI35, LI36, LI37, LI40, LI42, LI43, LI45, LI48, LI60, LI61, LI64, LI80, LI300, LI400, LI1000, LI2000, LI2001, LI2047, LI2048, LI100000, LI1000000, LM, nI_clamp, nI_pos', nI_lt, nI_nlt, nI_le, nI_ge, nI_ne, nI_add, nI_sub, mI_lt, mI_le, mI_nlt, mI_nle, mI_ne, mI_ne', mI_nem, LI46, LI370, LI370000, LI31, LI15, g206, a10, a6, a7]
      · simp (disch := omega) [r106_0, r106_1, r106_4, r106_7, r106_8, r106_11, r106_12, r106_15, r106_18, r106_20, r106_23, r106_24, r106_25, r106_26, r106_29, r106_30, r106_33, r106_36, r106_38, r106_39, r106_41, r106_44, r106_46, r106_47, r106_49, r106_51, r106_54, r106_56, r106_58, r106_61, r106_62, r106_65, r106_68, r106_71, r106_72, r106_73, r106_74, r106_76, r106_78, r106_79, r106_80, r106_81, r106_84, r106_87, r106_90, r106_91, r106_94, r106_95, r106_98, r106_99, r106_102, r106_105, r106_108, r106_109, r106_112, r106_113, r106_116, r106_117, r106_120, r106_123, r106_126, r106_127, r106_128, r106_130, r106_133, r106_134, r106_137, r106_138, g131, vf8_0, t131_0, gW0 hw, vf9_4, vf8_8, t131_8, g213, qa144, qo144, qa109, qo109, qa110, qo110, vf8_9, vf9_5, qa112, qo112, vf8_10, vf9_6, vf9_7, List.getElem?_cons_zero, List.getElem?_cons_succ, List.length_cons, List.length_nil, ag_nx, ag_dn, ag_no, ag_if, jbr1, jbr2, jc1, jc2, jnul, jld, jsto, jstoL, jst1, jst2, jkill, jinc, jbI, jbL, jbS, juI, jl2i, jcmp, jisR, jisI, jisL, jret, jretv, jfits, jdup, jdup2, jpop, jmm, jcat, Value.category, jinv, jrcv, jthr, jhd, jput, jget, jlen, jald, jast, jaast, jgI, jgL, jgB, jtab, jlku, jacp, vf20, vf21, vf22, vf23, vf24, u2_s, u2_k, u2_i, uc_s, uc_k, uc_c, u2_c, LI0, LI1, LI2, LI3, LI4, LI5, LI6, LI7, LI8, LI9, LI10, LI11, LI12, LI13, LI14, LI15, LI16, LI17, LI18, LI19, LI20, LI21, LI22, LI23, LI24, LI25, LI26, LI27, LI28, LI29, LI30, LI31, LI32, LI33, LI34, LI35, LI36, LI37, LI40, LI42, LI43, LI45, LI48, LI60, LI61, LI64, LI80, LI300, LI400, LI1000, LI2000, LI2001, LI2047, LI2048, LI100000, LI1000000, LM, nI_clamp, nI_pos', nI_lt, nI_nlt, nI_le, nI_ge, nI_ne, nI_add, nI_sub, mI_lt, mI_le, mI_nlt, mI_nle, mI_ne, mI_ne', mI_nem, LI46, LI370, LI370000, LI31, LI15, g206, a10, a6, a7]
    · by_cases c : 0 < W.2.2.2.1
      · have hb : bHit 1 W = true := by simp [bHit, c]
        rw [if_pos hb]
        simp (disch := omega) [r106_0, r106_1, r106_4, r106_7, r106_8, r106_11, r106_12, r106_15, r106_18, r106_20, r106_23, r106_24, r106_25, r106_26, r106_29, r106_30, r106_33, r106_36, r106_38, r106_39, r106_41, r106_44, r106_46, r106_47, r106_49, r106_51, r106_54, r106_56, r106_58, r106_61, r106_62, r106_65, r106_68, r106_71, r106_72, r106_73, r106_74, r106_76, r106_78, r106_79, r106_80, r106_81, r106_84, r106_87, r106_90, r106_91, r106_94, r106_95, r106_98, r106_99, r106_102, r106_105, r106_108, r106_109, r106_112, r106_113, r106_116, r106_117, r106_120, r106_123, r106_126, r106_127, r106_128, r106_130, r106_133, r106_134, r106_137, r106_138, g131, vf8_0, t131_0, gW0 hw, vf9_4, vf8_8, t131_8, g213, qa144, qo144, qa109, qo109, qa110, qo110, vf8_9, vf9_5, qa112, qo112, vf8_10, vf9_6, vf9_7, List.getElem?_cons_zero, List.getElem?_cons_succ, List.length_cons, List.length_nil, ag_nx, ag_dn, ag_no, ag_if, jbr1, jbr2, jc1, jc2, jnul, jld, jsto, jstoL, jst1, jst2, jkill, jinc, jbI, jbL, jbS, juI, jl2i, jcmp, jisR, jisI, jisL, jret, jretv, jfits, jdup, jdup2, jpop, jmm, jcat, Value.category, jinv, jrcv, jthr, jhd, jput, jget, jlen, jald, jast, jaast, jgI, jgL, jgB, jtab, jlku, jacp, vf20, vf21, vf22, vf23, vf24, u2_s, u2_k, u2_i, uc_s, uc_k, uc_c, u2_c, LI0, LI1, LI2, LI3, LI4, LI5, LI6, LI7, LI8, LI9, LI10, LI11, LI12, LI13, LI14, LI15, LI16, LI17, LI18, LI19, LI20, LI21, LI22, LI23, LI24, LI25, LI26, LI27, LI28, LI29, LI30, LI31, LI32, LI33, LI34, LI35, LI36, LI37, LI40, LI42, LI43, LI45, LI48, LI60, LI61, LI64, LI80, LI300, LI400, LI1000, LI2000, LI2001, LI2047, LI2048, LI100000, LI1000000, LM, nI_clamp, nI_pos', nI_lt, nI_nlt, nI_le, nI_ge, nI_ne, nI_add, nI_sub, mI_lt, mI_le, mI_nlt, mI_nle, mI_ne, mI_ne', mI_nem, LI46, LI370, LI370000, LI31, LI15, g206, a10, a6, a7, c]
      · have hb : ¬ bHit 1 W = true := by simp [bHit, c]
        rw [if_neg hb]
        have c0 : W.2.2.2.1 = 0 := by omega
        rw [c0] at a6
        rcases hkk with rfl | rfl
        · simp (disch := omega) [r106_0, r106_1, r106_4, r106_7, r106_8, r106_11, r106_12, r106_15, r106_18, r106_20, r106_23, r106_24, r106_25, r106_26, r106_29, r106_30, r106_33, r106_36, r106_38, r106_39, r106_41, r106_44, r106_46, r106_47, r106_49, r106_51, r106_54, r106_56, r106_58, r106_61, r106_62, r106_65, r106_68, r106_71, r106_72, r106_73, r106_74, r106_76, r106_78, r106_79, r106_80, r106_81, r106_84, r106_87, r106_90, r106_91, r106_94, r106_95, r106_98, r106_99, r106_102, r106_105, r106_108, r106_109, r106_112, r106_113, r106_116, r106_117, r106_120, r106_123, r106_126, r106_127, r106_128, r106_130, r106_133, r106_134, r106_137, r106_138, g131, vf8_0, t131_0, gW0 hw, vf9_4, vf8_8, t131_8, g213, qa144, qo144, qa109, qo109, qa110, qo110, vf8_9, vf9_5, qa112, qo112, vf8_10, vf9_6, vf9_7, List.getElem?_cons_zero, List.getElem?_cons_succ, List.length_cons, List.length_nil, ag_nx, ag_dn, ag_no, ag_if, jbr1, jbr2, jc1, jc2, jnul, jld, jsto, jstoL, jst1, jst2, jkill, jinc, jbI, jbL, jbS, juI, jl2i, jcmp, jisR, jisI, jisL, jret, jretv, jfits, jdup, jdup2, jpop, jmm, jcat, Value.category, jinv, jrcv, jthr, jhd, jput, jget, jlen, jald, jast, jaast, jgI, jgL, jgB, jtab, jlku, jacp, vf20, vf21, vf22, vf23, vf24, u2_s, u2_k, u2_i, uc_s, uc_k, uc_c, u2_c, LI0, LI1, LI2, LI3, LI4, LI5, LI6, LI7, LI8, LI9, LI10, LI11, LI12, LI13, LI14, LI15, LI16, LI17, LI18, LI19, LI20, LI21, LI22, LI23, LI24, LI25, LI26, LI27, LI28, LI29, LI30, LI31, LI32, LI33, LI34, LI35, LI36, LI37, LI40, LI42, LI43, LI45, LI48, LI60, LI61, LI64, LI80, LI300, LI400, LI1000, LI2000, LI2001, LI2047, LI2048, LI100000, LI1000000, LM, nI_clamp, nI_pos', nI_lt, nI_nlt, nI_le, nI_ge, nI_ne, nI_add, nI_sub, mI_lt, mI_le, mI_nlt, mI_nle, mI_ne, mI_ne', mI_nem, LI46, LI370, LI370000, LI31, LI15, g206, a10, a6, a7]
        · simp (disch := omega) [r106_0, r106_1, r106_4, r106_7, r106_8, r106_11, r106_12, r106_15, r106_18, r106_20, r106_23, r106_24, r106_25, r106_26, r106_29, r106_30, r106_33, r106_36, r106_38, r106_39, r106_41, r106_44, r106_46, r106_47, r106_49, r106_51, r106_54, r106_56, r106_58, r106_61, r106_62, r106_65, r106_68, r106_71, r106_72, r106_73, r106_74, r106_76, r106_78, r106_79, r106_80, r106_81, r106_84, r106_87, r106_90, r106_91, r106_94, r106_95, r106_98, r106_99, r106_102, r106_105, r106_108, r106_109, r106_112, r106_113, r106_116, r106_117, r106_120, r106_123, r106_126, r106_127, r106_128, r106_130, r106_133, r106_134, r106_137, r106_138, g131, vf8_0, t131_0, gW0 hw, vf9_4, vf8_8, t131_8, g213, qa144, qo144, qa109, qo109, qa110, qo110, vf8_9, vf9_5, qa112, qo112, vf8_10, vf9_6, vf9_7, List.getElem?_cons_zero, List.getElem?_cons_succ, List.length_cons, List.length_nil, ag_nx, ag_dn, ag_no, ag_if, jbr1, jbr2, jc1, jc2, jnul, jld, jsto, jstoL, jst1, jst2, jkill, jinc, jbI, jbL, jbS, juI, jl2i, jcmp, jisR, jisI, jisL, jret, jretv, jfits, jdup, jdup2, jpop, jmm, jcat, Value.category, jinv, jrcv, jthr, jhd, jput, jget, jlen, jald, jast, jaast, jgI, jgL, jgB, jtab, jlku, jacp, vf20, vf21, vf22, vf23, vf24, u2_s, u2_k, u2_i, uc_s, uc_k, uc_c, u2_c, LI0, LI1, LI2, LI3, LI4, LI5, LI6, LI7, LI8, LI9, LI10, LI11, LI12, LI13, LI14, LI15, LI16, LI17, LI18, LI19, LI20, LI21, LI22, LI23, LI24, LI25, LI26, LI27, LI28, LI29, LI30, LI31, LI32, LI33, LI34, LI35, LI36, LI37, LI40, LI42, LI43, LI45, LI48, LI60, LI61, LI64, LI80, LI300, LI400, LI1000, LI2000, LI2001, LI2047, LI2048, LI100000, LI1000000, LM, nI_clamp, nI_pos', nI_lt, nI_nlt, nI_le, nI_ge, nI_ne, nI_add, nI_sub, mI_lt, mI_le, mI_nlt, mI_nle, mI_ne, mI_ne', mI_nem, LI46, LI370, LI370000, LI31, LI15, g206, a10, a6, a7]
    · by_cases c : 0 < W.2.2.2.2
      · have hb : bHit 2 W = true := by simp [bHit, c]
        rw [if_pos hb]
        simp (disch := omega) [r106_0, r106_1, r106_4, r106_7, r106_8, r106_11, r106_12, r106_15, r106_18, r106_20, r106_23, r106_24, r106_25, r106_26, r106_29, r106_30, r106_33, r106_36, r106_38, r106_39, r106_41, r106_44, r106_46, r106_47, r106_49, r106_51, r106_54, r106_56, r106_58, r106_61, r106_62, r106_65, r106_68, r106_71, r106_72, r106_73, r106_74, r106_76, r106_78, r106_79, r106_80, r106_81, r106_84, r106_87, r106_90, r106_91, r106_94, r106_95, r106_98, r106_99, r106_102, r106_105, r106_108, r106_109, r106_112, r106_113, r106_116, r106_117, r106_120, r106_123, r106_126, r106_127, r106_128, r106_130, r106_133, r106_134, r106_137, r106_138, g131, vf8_0, t131_0, gW0 hw, vf9_4, vf8_8, t131_8, g213, qa144, qo144, qa109, qo109, qa110, qo110, vf8_9, vf9_5, qa112, qo112, vf8_10, vf9_6, vf9_7, List.getElem?_cons_zero, List.getElem?_cons_succ, List.length_cons, List.length_nil, ag_nx, ag_dn, ag_no, ag_if, jbr1, jbr2, jc1, jc2, jnul, jld, jsto, jstoL, jst1, jst2, jkill, jinc, jbI, jbL, jbS, juI, jl2i, jcmp, jisR, jisI, jisL, jret, jretv, jfits, jdup, jdup2, jpop, jmm, jcat, Value.category, jinv, jrcv, jthr, jhd, jput, jget, jlen, jald, jast, jaast, jgI, jgL, jgB, jtab, jlku, jacp, vf20, vf21, vf22, vf23, vf24, u2_s, u2_k, u2_i, uc_s, uc_k, uc_c, u2_c, LI0, LI1, LI2, LI3, LI4, LI5, LI6, LI7, LI8, LI9, LI10, LI11, LI12, LI13, LI14, LI15, LI16, LI17, LI18, LI19, LI20, LI21, LI22, LI23, LI24, LI25, LI26, LI27, LI28, LI29, LI30, LI31, LI32, LI33, LI34, LI35, LI36, LI37, LI40, LI42, LI43, LI45, LI48, LI60, LI61, LI64, LI80, LI300, LI400, LI1000, LI2000, LI2001, LI2047, LI2048, LI100000, LI1000000, LM, nI_clamp, nI_pos', nI_lt, nI_nlt, nI_le, nI_ge, nI_ne, nI_add, nI_sub, mI_lt, mI_le, mI_nlt, mI_nle, mI_ne, mI_ne', mI_nem, LI46, LI370, LI370000, LI31, LI15, g206, a10, a6, a7, c]
      · have hb : ¬ bHit 2 W = true := by simp [bHit, c]
        rw [if_neg hb]
        have c0 : W.2.2.2.2 = 0 := by omega
        rw [c0] at a7
        rcases hkk with rfl | rfl
        · simp (disch := omega) [r106_0, r106_1, r106_4, r106_7, r106_8, r106_11, r106_12, r106_15, r106_18, r106_20, r106_23, r106_24, r106_25, r106_26, r106_29, r106_30, r106_33, r106_36, r106_38, r106_39, r106_41, r106_44, r106_46, r106_47, r106_49, r106_51, r106_54, r106_56, r106_58, r106_61, r106_62, r106_65, r106_68, r106_71, r106_72, r106_73, r106_74, r106_76, r106_78, r106_79, r106_80, r106_81, r106_84, r106_87, r106_90, r106_91, r106_94, r106_95, r106_98, r106_99, r106_102, r106_105, r106_108, r106_109, r106_112, r106_113, r106_116, r106_117, r106_120, r106_123, r106_126, r106_127, r106_128, r106_130, r106_133, r106_134, r106_137, r106_138, g131, vf8_0, t131_0, gW0 hw, vf9_4, vf8_8, t131_8, g213, qa144, qo144, qa109, qo109, qa110, qo110, vf8_9, vf9_5, qa112, qo112, vf8_10, vf9_6, vf9_7, List.getElem?_cons_zero, List.getElem?_cons_succ, List.length_cons, List.length_nil, ag_nx, ag_dn, ag_no, ag_if, jbr1, jbr2, jc1, jc2, jnul, jld, jsto, jstoL, jst1, jst2, jkill, jinc, jbI, jbL, jbS, juI, jl2i, jcmp, jisR, jisI, jisL, jret, jretv, jfits, jdup, jdup2, jpop, jmm, jcat, Value.category, jinv, jrcv, jthr, jhd, jput, jget, jlen, jald, jast, jaast, jgI, jgL, jgB, jtab, jlku, jacp, vf20, vf21, vf22, vf23, vf24, u2_s, u2_k, u2_i, uc_s, uc_k, uc_c, u2_c, LI0, LI1, LI2, LI3, LI4, LI5, LI6, LI7, LI8, LI9, LI10, LI11, LI12, LI13, LI14, LI15, LI16, LI17, LI18, LI19, LI20, LI21, LI22, LI23, LI24, LI25, LI26, LI27, LI28, LI29, LI30, LI31, LI32, LI33, LI34, LI35, LI36, LI37, LI40, LI42, LI43, LI45, LI48, LI60, LI61, LI64, LI80, LI300, LI400, LI1000, LI2000, LI2001, LI2047, LI2048, LI100000, LI1000000, LM, nI_clamp, nI_pos', nI_lt, nI_nlt, nI_le, nI_ge, nI_ne, nI_add, nI_sub, mI_lt, mI_le, mI_nlt, mI_nle, mI_ne, mI_ne', mI_nem, LI46, LI370, LI370000, LI31, LI15, g206, a10, a6, a7]
        · simp (disch := omega) [r106_0, r106_1, r106_4, r106_7, r106_8, r106_11, r106_12, r106_15, r106_18, r106_20, r106_23, r106_24, r106_25, r106_26, r106_29, r106_30, r106_33, r106_36, r106_38, r106_39, r106_41, r106_44, r106_46, r106_47, r106_49, r106_51, r106_54, r106_56, r106_58, r106_61, r106_62, r106_65, r106_68, r106_71, r106_72, r106_73, r106_74, r106_76, r106_78, r106_79, r106_80, r106_81, r106_84, r106_87, r106_90, r106_91, r106_94, r106_95, r106_98, r106_99, r106_102, r106_105, r106_108, r106_109, r106_112, r106_113, r106_116, r106_117, r106_120, r106_123, r106_126, r106_127, r106_128, r106_130, r106_133, r106_134, r106_137, r106_138, g131, vf8_0, t131_0, gW0 hw, vf9_4, vf8_8, t131_8, g213, qa144, qo144, qa109, qo109, qa110, qo110, vf8_9, vf9_5, qa112, qo112, vf8_10, vf9_6, vf9_7, List.getElem?_cons_zero, List.getElem?_cons_succ, List.length_cons, List.length_nil, ag_nx, ag_dn, ag_no, ag_if, jbr1, jbr2, jc1, jc2, jnul, jld, jsto, jstoL, jst1, jst2, jkill, jinc, jbI, jbL, jbS, juI, jl2i, jcmp, jisR, jisI, jisL, jret, jretv, jfits, jdup, jdup2, jpop, jmm, jcat, Value.category, jinv, jrcv, jthr, jhd, jput, jget, jlen, jald, jast, jaast, jgI, jgL, jgB, jtab, jlku, jacp, vf20, vf21, vf22, vf23, vf24, u2_s, u2_k, u2_i, uc_s, uc_k, uc_c, u2_c, LI0, LI1, LI2, LI3, LI4, LI5, LI6, LI7, LI8, LI9, LI10, LI11, LI12, LI13, LI14, LI15, LI16, LI17, LI18, LI19, LI20, LI21, LI22, LI23, LI24, LI25, LI26, LI27, LI28, LI29, LI30, LI31, LI32, LI33, LI34, LI35, LI36, LI37, LI40, LI42, LI43, LI45, LI48, LI60, LI61, LI64, LI80, LI300, LI400, LI1000, LI2000, LI2001, LI2047, LI2048, LI100000, LI1000000, LM, nI_clamp, nI_pos', nI_lt, nI_nlt, nI_le, nI_ge, nI_ne, nI_add, nI_sub, mI_lt, mI_le, mI_nlt, mI_nle, mI_ne, mI_ne', mI_nem, LI46, LI370, LI370000, LI31, LI15, g206, a10, a6, a7]
    · have hb : ¬ bHit 3 W = true := by simp [bHit]
      rw [if_neg hb]
      rcases hkk with rfl | rfl
      · simp (disch := omega) [r106_0, r106_1, r106_4, r106_7, r106_8, r106_11, r106_12, r106_15, r106_18, r106_20, r106_23, r106_24, r106_25, r106_26, r106_29, r106_30, r106_33, r106_36, r106_38, r106_39, r106_41, r106_44, r106_46, r106_47, r106_49, r106_51, r106_54, r106_56, r106_58, r106_61, r106_62, r106_65, r106_68, r106_71, r106_72, r106_73, r106_74, r106_76, r106_78, r106_79, r106_80, r106_81, r106_84, r106_87, r106_90, r106_91, r106_94, r106_95, r106_98, r106_99, r106_102, r106_105, r106_108, r106_109, r106_112, r106_113, r106_116, r106_117, r106_120, r106_123, r106_126, r106_127, r106_128, r106_130, r106_133, r106_134, r106_137, r106_138, g131, vf8_0, t131_0, gW0 hw, vf9_4, vf8_8, t131_8, g213, qa144, qo144, qa109, qo109, qa110, qo110, vf8_9, vf9_5, qa112, qo112, vf8_10, vf9_6, vf9_7, List.getElem?_cons_zero, List.getElem?_cons_succ, List.length_cons, List.length_nil, ag_nx, ag_dn, ag_no, ag_if, jbr1, jbr2, jc1, jc2, jnul, jld, jsto, jstoL, jst1, jst2, jkill, jinc, jbI, jbL, jbS, juI, jl2i, jcmp, jisR, jisI, jisL, jret, jretv, jfits, jdup, jdup2, jpop, jmm, jcat, Value.category, jinv, jrcv, jthr, jhd, jput, jget, jlen, jald, jast, jaast, jgI, jgL, jgB, jtab, jlku, jacp, vf20, vf21, vf22, vf23, vf24, u2_s, u2_k, u2_i, uc_s, uc_k, uc_c, u2_c, LI0, LI1, LI2, LI3, LI4, LI5, LI6, LI7, LI8, LI9, LI10, LI11, LI12, LI13, LI14, LI15, LI16, LI17, LI18, LI19, LI20, LI21, LI22, LI23, LI24, LI25, LI26, LI27, LI28, LI29, LI30, LI31, LI32, LI33, LI34, LI35, LI36, LI37, LI40, LI42, LI43, LI45, LI48, LI60, LI61, LI64, LI80, LI300, LI400, LI1000, LI2000, LI2001, LI2047, LI2048, LI100000, LI1000000, LM, nI_clamp, nI_pos', nI_lt, nI_nlt, nI_le, nI_ge, nI_ne, nI_add, nI_sub, mI_lt, mI_le, mI_nlt, mI_nle, mI_ne, mI_ne', mI_nem, LI46, LI370, LI370000, LI31, LI15, g206, a10, a6, a7]
      · simp (disch := omega) [r106_0, r106_1, r106_4, r106_7, r106_8, r106_11, r106_12, r106_15, r106_18, r106_20, r106_23, r106_24, r106_25, r106_26, r106_29, r106_30, r106_33, r106_36, r106_38, r106_39, r106_41, r106_44, r106_46, r106_47, r106_49, r106_51, r106_54, r106_56, r106_58, r106_61, r106_62, r106_65, r106_68, r106_71, r106_72, r106_73, r106_74, r106_76, r106_78, r106_79, r106_80, r106_81, r106_84, r106_87, r106_90, r106_91, r106_94, r106_95, r106_98, r106_99, r106_102, r106_105, r106_108, r106_109, r106_112, r106_113, r106_116, r106_117, r106_120, r106_123, r106_126, r106_127, r106_128, r106_130, r106_133, r106_134, r106_137, r106_138, g131, vf8_0, t131_0, gW0 hw, vf9_4, vf8_8, t131_8, g213, qa144, qo144, qa109, qo109, qa110, qo110, vf8_9, vf9_5, qa112, qo112, vf8_10, vf9_6, vf9_7, List.getElem?_cons_zero, List.getElem?_cons_succ, List.length_cons, List.length_nil, ag_nx, ag_dn, ag_no, ag_if, jbr1, jbr2, jc1, jc2, jnul, jld, jsto, jstoL, jst1, jst2, jkill, jinc, jbI, jbL, jbS, juI, jl2i, jcmp, jisR, jisI, jisL, jret, jretv, jfits, jdup, jdup2, jpop, jmm, jcat, Value.category, jinv, jrcv, jthr, jhd, jput, jget, jlen, jald, jast, jaast, jgI, jgL, jgB, jtab, jlku, jacp, vf20, vf21, vf22, vf23, vf24, u2_s, u2_k, u2_i, uc_s, uc_k, uc_c, u2_c, LI0, LI1, LI2, LI3, LI4, LI5, LI6, LI7, LI8, LI9, LI10, LI11, LI12, LI13, LI14, LI15, LI16, LI17, LI18, LI19, LI20, LI21, LI22, LI23, LI24, LI25, LI26, LI27, LI28, LI29, LI30, LI31, LI32, LI33, LI34, LI35, LI36, LI37, LI40, LI42, LI43, LI45, LI48, LI60, LI61, LI64, LI80, LI300, LI400, LI1000, LI2000, LI2001, LI2047, LI2048, LI100000, LI1000000, LM, nI_clamp, nI_pos', nI_lt, nI_nlt, nI_le, nI_ge, nI_ne, nI_add, nI_sub, mI_lt, mI_le, mI_nlt, mI_nle, mI_ne, mI_ne', mI_nem, LI46, LI370, LI370000, LI31, LI15, g206, a10, a6, a7]
  have hr2 : R 132 0 = R 132 0 := rfl
  rcases hv with ⟨rfl, hv⟩ | ⟨rfl, hv⟩
  · have hk : bKn E W = true := hkn.mpr hv
    have e0 : bM0 wt E from_ g0 deed W = (if bHit wt W = true then 1 else 0, E) := by unfold bM0; rw [if_neg cg, if_pos hk]
    rw [e0]
    refine ⟨X, I1, n, ?_, ⟨F, Z, hC1⟩, fun c i a1 a2 => k1 c i (by omega), gro_refl, fun _ _ => ⟨rfl, rfl⟩⟩
    have ef := fin X I1 n 1 (by omega) v10 x6 x7 (nI (2 + szL W.1)) (hwF (I1 213) (2 + szL W.1) 0 (nI (2 + szL W.1)))
    simp only [if_true] at ef
    simp (disch := omega) [r106_0, r106_1, r106_4, r106_7, r106_8, r106_11, r106_12, r106_15, r106_18, r106_20, r106_23, r106_24, r106_25, r106_26, r106_29, r106_30, r106_33, r106_36, r106_38, r106_39, r106_41, r106_44, r106_46, r106_47, r106_49, r106_51, r106_54, r106_56, r106_58, r106_61, r106_62, r106_65, r106_68, r106_71, r106_72, r106_73, r106_74, r106_76, r106_78, r106_79, r106_80, r106_81, r106_84, r106_87, r106_91, r106_94, r106_95, r106_98, r106_99, r106_102, r106_105, r106_108, r106_109, r106_112, r106_113, r106_116, r106_117, r106_120, r106_123, r106_126, r106_127, r106_128, r106_130, r106_133, r106_134, r106_137, r106_138, g131, vf8_0, t131_0, gW0 hw, vf9_4, vf8_8, t131_8, g213, qa144, qo144, qa109, qo109, qa110, qo110, vf8_9, vf9_5, qa112, qo112, vf8_10, vf9_6, vf9_7, List.getElem?_cons_zero, List.getElem?_cons_succ, List.length_cons, List.length_nil, ag_nx, ag_dn, ag_no, ag_if, jbr1, jbr2, jc1, jc2, jnul, jld, jsto, jstoL, jst1, jst2, jkill, jinc, jbI, jbL, jbS, juI, jl2i, jcmp, jisR, jisI, jisL, jret, jretv, jfits, jdup, jdup2, jpop, jmm, jcat, Value.category, jinv, jrcv, jthr, jhd, jput, jget, jlen, jald, jast, jaast, jgI, jgL, jgB, jtab, jlku, jacp, vf20, vf21, vf22, vf23, vf24, u2_s, u2_k, u2_i, uc_s, uc_k, uc_c, u2_c, LI0, LI1, LI2, LI3, LI4, LI5, LI6, LI7, LI8, LI9, LI10, LI11, LI12, LI13, LI14, LI15, LI16, LI17, LI18, LI19, LI20, LI21, LI22, LI23, LI24, LI25, LI26, LI27, LI28, LI29, LI30, LI31, LI32, LI33, LI34, LI35, LI36, LI37, LI40, LI42, LI43, LI45, LI48, LI60, LI61, LI64, LI80, LI300, LI400, LI1000, LI2000, LI2001, LI2047, LI2048, LI100000, LI1000000, LM, nI_clamp, nI_pos', nI_lt, nI_nlt, nI_le, nI_ge, nI_ne, nI_add, nI_sub, mI_lt, mI_le, mI_nlt, mI_nle, mI_ne, mI_ne', mI_nem, LI46, LI370, LI370000, LI31, LI15, g206, e1, e2, e3, ef]
  · have hk : ¬ bKn E W = true := fun q => by
      obtain ⟨e, a1, a2⟩ := hkn.mp q
      exact hv e a1 a2
    by_cases hl : 1000 ≤ E.length
    · have e0 : bM0 wt E from_ g0 deed W = (2, E) := by unfold bM0; rw [if_neg cg, if_neg hk, if_pos hl]
      rw [e0]
      refine ⟨X, I1, n, ?_, ⟨F, Z, hC1⟩, fun c i a1 a2 => k1 c i (by omega), gro_refl, fun _ _ => ⟨rfl, rfl⟩⟩
      have hl' : E.length = 1000 := by omega
      rw [hl'] at v9
      simp (disch := omega) [r106_0, r106_1, r106_4, r106_7, r106_8, r106_11, r106_12, r106_15, r106_18, r106_20, r106_23, r106_24, r106_25, r106_26, r106_29, r106_30, r106_33, r106_36, r106_38, r106_39, r106_41, r106_44, r106_46, r106_47, r106_49, r106_51, r106_54, r106_56, r106_58, r106_61, r106_62, r106_65, r106_68, r106_71, r106_72, r106_73, r106_74, r106_76, r106_78, r106_79, r106_80, r106_81, r106_84, r106_87, r106_91, r106_94, r106_95, r106_98, r106_99, r106_102, r106_105, r106_108, r106_109, r106_112, r106_113, r106_116, r106_117, r106_120, r106_123, r106_126, r106_127, r106_128, r106_130, r106_133, r106_134, r106_137, r106_138, g131, vf8_0, t131_0, gW0 hw, vf9_4, vf8_8, t131_8, g213, qa144, qo144, qa109, qo109, qa110, qo110, vf8_9, vf9_5, qa112, qo112, vf8_10, vf9_6, vf9_7, List.getElem?_cons_zero, List.getElem?_cons_succ, List.length_cons, List.length_nil, ag_nx, ag_dn, ag_no, ag_if, jbr1, jbr2, jc1, jc2, jnul, jld, jsto, jstoL, jst1, jst2, jkill, jinc, jbI, jbL, jbS, juI, jl2i, jcmp, jisR, jisI, jisL, jret, jretv, jfits, jdup, jdup2, jpop, jmm, jcat, Value.category, jinv, jrcv, jthr, jhd, jput, jget, jlen, jald, jast, jaast, jgI, jgL, jgB, jtab, jlku, jacp, vf20, vf21, vf22, vf23, vf24, u2_s, u2_k, u2_i, uc_s, uc_k, uc_c, u2_c, LI0, LI1, LI2, LI3, LI4, LI5, LI6, LI7, LI8, LI9, LI10, LI11, LI12, LI13, LI14, LI15, LI16, LI17, LI18, LI19, LI20, LI21, LI22, LI23, LI24, LI25, LI26, LI27, LI28, LI29, LI30, LI31, LI32, LI33, LI34, LI35, LI36, LI37, LI40, LI42, LI43, LI45, LI48, LI60, LI61, LI64, LI80, LI300, LI400, LI1000, LI2000, LI2001, LI2047, LI2048, LI100000, LI1000000, LM, nI_clamp, nI_pos', nI_lt, nI_nlt, nI_le, nI_ge, nI_ne, nI_add, nI_sub, mI_lt, mI_le, mI_nlt, mI_nle, mI_ne, mI_ne', mI_nem, LI46, LI370, LI370000, LI31, LI15, g206, e1, e2, e3, v9]
    · have e0 : bM0 wt E from_ g0 deed W = (if bHit wt W = true then 1 else 3, E ++ [(bz W, from_, deed)]) := by unfold bM0; rw [if_neg cg, if_neg hk, if_neg hl]
      rw [e0]
      obtain ⟨X2, I2, n2, Z2, e4, ⟨F2, b2⟩, k2, g2, f2⟩ := c112 (A := A) (d := d) (b := b) (h := h) (X := X) (I := I1) (J := J) (R := R) (n := n) (from_ := from_) (deed := deed) hC1 (by omega) p1 s1
      refine ⟨X2, I2, n2, ?_, ⟨F2, Z2, b2⟩, fun c i a1 a2 => (k2 c i (by omega) a2).trans (k1 c i (by omega)), g2, f2⟩
      have ef := fin X2 I2 n2 0 (by omega) (by rw [k2 _ _ (by omega) (by omega)]; exact v10) (by rw [k2 _ _ (by omega) (by omega)]; exact x6) (by rw [k2 _ _ (by omega) (by omega)]; exact x7) (nI (2 + szL W.1)) (hwF (I1 213) (2 + szL W.1) 0 (nI (2 + szL W.1)))
      simp only [show ¬ (0 = 1) by omega, if_false] at ef
      simp (disch := omega) [r106_0, r106_1, r106_4, r106_7, r106_8, r106_11, r106_12, r106_15, r106_18, r106_20, r106_23, r106_24, r106_25, r106_26, r106_29, r106_30, r106_33, r106_36, r106_38, r106_39, r106_41, r106_44, r106_46, r106_47, r106_49, r106_51, r106_54, r106_56, r106_58, r106_61, r106_62, r106_65, r106_68, r106_71, r106_72, r106_73, r106_74, r106_76, r106_78, r106_79, r106_80, r106_81, r106_84, r106_87, r106_91, r106_94, r106_95, r106_98, r106_99, r106_102, r106_105, r106_108, r106_109, r106_112, r106_113, r106_116, r106_117, r106_120, r106_123, r106_126, r106_127, r106_128, r106_130, r106_133, r106_134, r106_137, r106_138, g131, vf8_0, t131_0, gW0 hw, vf9_4, vf8_8, t131_8, g213, qa144, qo144, qa109, qo109, qa110, qo110, vf8_9, vf9_5, qa112, qo112, vf8_10, vf9_6, vf9_7, List.getElem?_cons_zero, List.getElem?_cons_succ, List.length_cons, List.length_nil, ag_nx, ag_dn, ag_no, ag_if, jbr1, jbr2, jc1, jc2, jnul, jld, jsto, jstoL, jst1, jst2, jkill, jinc, jbI, jbL, jbS, juI, jl2i, jcmp, jisR, jisI, jisL, jret, jretv, jfits, jdup, jdup2, jpop, jmm, jcat, Value.category, jinv, jrcv, jthr, jhd, jput, jget, jlen, jald, jast, jaast, jgI, jgL, jgB, jtab, jlku, jacp, vf20, vf21, vf22, vf23, vf24, u2_s, u2_k, u2_i, uc_s, uc_k, uc_c, u2_c, LI0, LI1, LI2, LI3, LI4, LI5, LI6, LI7, LI8, LI9, LI10, LI11, LI12, LI13, LI14, LI15, LI16, LI17, LI18, LI19, LI20, LI21, LI22, LI23, LI24, LI25, LI26, LI27, LI28, LI29, LI30, LI31, LI32, LI33, LI34, LI35, LI36, LI37, LI40, LI42, LI43, LI45, LI48, LI60, LI61, LI64, LI80, LI300, LI400, LI1000, LI2000, LI2001, LI2047, LI2048, LI100000, LI1000000, LM, nI_clamp, nI_pos', nI_lt, nI_nlt, nI_le, nI_ge, nI_ne, nI_add, nI_sub, mI_lt, mI_le, mI_nlt, mI_nle, mI_ne, mI_ne', mI_nem, LI46, LI370, LI370000, LI31, LI15, g206, e1, e2, e3, v9, x5, show E.length < 1000 by omega, e4, ef]
end CM
