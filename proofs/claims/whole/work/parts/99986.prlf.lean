/-! names are looked up: clauses -/
section RLF2
variable (t : Nat → Int32) (N : Nat) (I : Nat → Nat → Int32) (nn pr : Nat) (G : Int32 → Int32) (F : List qPr)
/-- a body whose names are looked up -/
def bkRl (hi x : Nat) (o : Nat × List oT) : Prop := x < hi ∧ I 251 x = nI 19 ∧ ∃ as l tk, o.2 = l ++ [oz pr 28 tk] ∧ chn I (I 252 x) as ∧ (∀ y, y ∈ as → y < hi) ∧ bRl t N I nn pr G F RD 7 (x + 1) as o.1 l
/-- a clause whose names are looked up -/
def clRl (hi c : Nat) (q : qCl) : Prop := c < hi ∧ (
  ((KK t N q.1 = 5 ∧ I 251 c = nI 33 ∨ KK t N q.1 = 6 ∧ I 251 c = nI 34) ∧ nmA t N I nn (I 252 c) (q.1 + 1) ∧ (match q.2.1 with | none => I 258 c = mI 1 | some v => I 258 c = nI (tpos t N v) ∧ ∃ i, fdVar (eqY t N) F pr v = some i ∧ I 253 c = nI i) ∧ ∃ x, c < x ∧ I 254 c = nI x ∧ bkRl t N I nn pr G F hi x q.2.2.2) ∨
  (KK t N q.1 = 7 ∧ I 251 c = nI 35 ∧ nmA t N I nn (I 252 c) (q.1 + 1) ∧ I 258 c = mI 1 ∧ I 254 c = mI 1 ∧ q.2.1 = none) ∨
  (KK t N q.1 = 9 ∧ I 251 c = nI 36 ∧ I 252 c = mI 1 ∧ I 258 c = mI 1 ∧ q.2.1 = none ∧ ∃ x, c < x ∧ I 254 c = nI x ∧ bkRl t N I nn pr G F hi x q.2.2.2) ∨
  (KK t N q.1 = 8 ∧ I 251 c = nI 37 ∧ I 258 c = mI 1 ∧ q.2.1 = none ∧ ∃ x, c < x ∧ I 254 c = nI x ∧ bkRl t N I nn pr G F hi x q.2.2.2 ∧ ∃ e l tk, q.2.2.1.2 = l ++ [oz pr 28 tk] ∧ c < e ∧ e < x ∧ I 252 c = nI e ∧ xR t N I nn pr (c + 1) ED e l 64 ∧ xLk G I ED e))
/-- the code of a clause -/
def clC (K : Nat → Nat) (q : qCl) : List oT := if K q.1 = 8 then q.2.2.1.2 ++ q.2.2.2.2 else if K q.1 = 7 then [] else q.2.2.2.2
/-- what may be unknown in it -/
def clU (vs : List Nat) (q : qCl) : List (Option Nat) := unC (eqY t N) vs q :: (clC (KK t N) q).map (ukO (eqY t N) F)
end RLF2
/-- the least of them -/
def lsO (u : Nat) (L : List (Option Nat)) : Prop := some u ∈ L ∧ ∀ v, some v ∈ L → u ≤ v
def nnO (L : List (Option Nat)) : Prop := ∀ o, o ∈ L → o = none
section RLG
variable {A : Nat → Nat} {d b n : Nat} {h : Nat → Option jC} {X : jXX} {J : Nat → Nat → Int64} {R : Nat → Nat → Nat} {t : Nat → Int32} {N M nn pr p : Nat} {fp : Int32} {ls ss ps : List Nat} {F : List qPr} {c0 : qPr} {G : Int32 → Int32} {v1 : Option Value} {y3 : Int32}
theorem lsO_m {E : Nat → Nat → Bool} {l : List oT} {u : Nat} (h : lsU E F u l) : lsO u (l.map (ukO E F)) := by
  obtain ⟨⟨x, hx, hu⟩, hm⟩ := h
  refine ⟨List.mem_map.mpr ⟨x, hx, hu⟩, fun v hv => ?_⟩
  obtain ⟨y, hy, hy2⟩ := List.mem_map.mp hv
  exact hm y hy v hy2
theorem nnO_m {E : Nat → Nat → Bool} {l : List oT} (h : nnU E F l) : nnO (l.map (ukO E F)) := fun o ho => by
  obtain ⟨y, hy, hy2⟩ := List.mem_map.mp ho
  rw [← hy2]; exact h y hy
theorem lsO_c {L : List (Option Nat)} {u : Nat} (h : lsO u L) : lsO u (none :: L) := ⟨List.mem_cons_of_mem _ h.1, fun v hv => by
  rcases List.mem_cons.mp hv with e | e
  · cases e
  · exact h.2 v e⟩
theorem nnO_c {L : List (Option Nat)} (h : nnO L) : nnO (none :: L) := fun o ho => by
  rcases List.mem_cons.mp ho with e | e
  · exact e
  · exact h o e
theorem unC_e {vs : List Nat} {q : qCl} {v : Nat} (hv : q.2.1 = some v) : unC (eqY t N) vs q = if vs.findIdx? (fun x => eqY t N x v) = none then some v else none := by
  unfold unC
  rw [hv]
  simp only
  by_cases ha : vs.any (fun x => eqY t N x v) = true
  · rw [if_pos ha, if_neg]
    intro hn
    rw [List.findIdx?_eq_none_iff] at hn
    rw [List.any_eq_true] at ha
    obtain ⟨x, hx, hy⟩ := ha
    rw [hn x hx] at hy
    cases hy
  · rw [if_neg ha, if_pos]
    rw [List.findIdx?_eq_none_iff]
    intro x hx
    rw [Bool.not_eq_true] at ha
    exact List.any_eq_false.mp ha x hx |> fun z => by simpa using z
/-- the body of the clause c -/
theorem r214b (hcap : ∀ k, 251 ≤ k → k ≤ 258 → M ≤ cp X k) (hM : M ≤ 2 ^ 18) (hnn : nn ≤ 2 ^ 20) (hF : F[pr]? = some c0) (hpr : pr < 6) (hN : N ≤ 2000) {I : Nat → Nat → Int32} {c x hi : Nat} {o : Nat × List oT} (ha : c < M) (hx : I 254 c = nI x) (hb : bkR t N I nn pr hi x o) (hhi : hi ≤ M) (hp : p < x) (hE : lEn t N I nn M p fp ls ss ps c0 F G) : ∃ I', fA (x + 1) hi I I' ∧ ((∃ u, lsU (eqY t N) F u o.2 ∧ M214 A (d + ED + 11) 114 [some (.ref (b + 241)), v1, some (.int (nI p)), some (.int y3), some (.int (nI c))] [] (jH h b X I J R n) = some (.inr 11, jH h b X (u2 I' 241 2 (nI (tpos t N u))) J R n)) ∨ (nnU (eqY t N) F o.2 ∧ M214 A (d + ED + 11) 114 [some (.ref (b + 241)), v1, some (.int (nI p)), some (.int y3), some (.int (nI c))] [] (jH h b X I J R n) = M214 A (d + ED + 11) 135 [some (.ref (b + 241)), v1, some (.int (nI p)), some (.int y3), some (.int (nI c))] [] (jH h b X I' J R n) ∧ bkRl t N I' nn pr G F hi x o)) := by
  have h1 : c < cp X 251 := Nat.lt_of_lt_of_le ha (hcap 251 (by omega) (by omega))
  have h2 : c < cp X 252 := Nat.lt_of_lt_of_le ha (hcap 252 (by omega) (by omega))
  have h3 : c < cp X 253 := Nat.lt_of_lt_of_le ha (hcap 253 (by omega) (by omega))
  have h4 : c < cp X 254 := Nat.lt_of_lt_of_le ha (hcap 254 (by omega) (by omega))
  have h8 : c < cp X 258 := Nat.lt_of_lt_of_le ha (hcap 258 (by omega) (by omega))
  have hxh := hb.1
  obtain ⟨I', f1, hr⟩ := r215w (A := A) (b := b) (n := n) (h := h) (J := J) (R := R) (d := d) hcap hM hnn hF hpr hN hb hhi hp hE
  refine ⟨I', f1, ?_⟩
  rcases hr with ⟨u, r1, r2⟩ | ⟨r1, r2, as, l, tk, r3, r4, r5⟩
  · refine Or.inl ⟨u, r1, ?_⟩
    conv => lhs; rw [r214_114]
    simp (disch := omega) [r214_0, r214_1, r214_2, r214_5, r214_6, r214_7, r214_8, r214_11, r214_12, r214_13, r214_16, r214_17, r214_18, r214_21, r214_22, r214_23, r214_26, r214_27, r214_30, r214_31, r214_32, r214_33, r214_34, r214_37, r214_38, r214_41, r214_42, r214_43, r214_45, r214_47, r214_50, r214_51, r214_54, r214_56, r214_57, r214_60, r214_61, r214_64, r214_66, r214_67, r214_68, r214_71, r214_72, r214_73, r214_74, r214_77, r214_79, r214_80, r214_81, r214_84, r214_86, r214_87, r214_90, r214_91, r214_92, r214_95, r214_97, r214_98, r214_100, r214_103, r214_104, r214_105, r214_108, r214_110, r214_111, r214_115, r214_118, r214_120, r214_121, r214_124, r214_125, r214_126, r214_129, r214_131, r214_132, r214_136, r214_139, r214_141, r214_142, r214_144, r214_147, r214_148, r214_151, r214_152, r214_153, r214_154, r214_157, r214_158, r214_161, r214_162, r214_163, r214_164, r214_167, g241, p241_31, ty12_31, p241_32, ty12_32, vf12_28, t241_28, g258, p258, qa215, qo215, vf12_24, t241_24, g254, p254, vf12_23, t241_23, g253, p253, qa213, qo213, vf12_21, t241_21, g251, p251, vf12_22, t241_22, g252, p252, qa216, qo216, vf12_25, t241_25, g255, p255, List.getElem?_cons_zero, List.getElem?_cons_succ, List.length_cons, List.length_nil, ag_nx, ag_dn, ag_no, ag_if, jbr1, jbr2, jc1, jc2, jnul, jld, jsto, jstoL, jst1, jst2, jkill, jinc, jbI, jbL, jbS, juI, jl2i, jcmp, jisR, jisI, jisL, jret, jretv, jfits, jdup, jdup2, jpop, jmm, jcat, Value.category, jinv, jrcv, jthr, jhd, jput, jget, jlen, jald, jast, jaast, jgI, jgL, jgB, jtab, jlku, jacp, vf20, vf21, vf22, vf23, vf24, u2_s, u2_k, u2_i, uc_s, uc_k, uc_c, u2_c, LI0, LI1, LI2, LI3, LI4, LI5, LI6, LI7, LI8, LI9, LI10, LI11, LI12, LI13, LI14, LI15, LI16, LI17, LI18, LI19, LI20, LI21, LI22, LI23, LI24, LI25, LI26, LI27, LI28, LI29, LI30, LI31, LI32, LI33, LI34, LI35, LI36, LI37, LI40, LI42, LI43, LI45, LI48, LI60, LI61, LI64, LI80, LI300, LI400, LI1000, LI2000, LI2001, LI2047, LI2048, LI100000, LI1000000, LI38, LI39, LI41, LI44, LI46, LI47, LI49, LI50, LI51, LI52, LI53, LI54, LI55, LI56, LI57, LI58, LI59, LI62, LI63, LI65, LI66, LI67, LI68, LI69, LI70, LI71, LI72, LI73, LI74, LI75, LI76, LI77, LI78, LI79, LI81, LI82, LI83, LI84, LI85, LI86, LI87, LI88, LI89, LI90, LI91, LI92, LI93, LI94, LI95, LI96, LI97, LI98, LI99, LI100, LI101, LI102, LI103, LI104, LI105, LI106, LI107, LI108, LI109, LI110, LI111, LI112, LI113, LI114, LI115, LI116, LI117, LI118, LI119, LI120, LI121, LI122, LI123, LI124, LI125, LI126, LI127, LI255, LI256, LI999, LI1001, LI1002, LI1600, LI4096, LI1000001, LI2042, LM, nI_clamp, nI_pos', nI_lt, nI_nlt, nI_le, nI_ge, nI_ne, nI_add, nI_sub, mI_lt, mI_le, mI_nlt, mI_nle, mI_ne, mI_ne', mI_nem, h4, hx, r2]
  · refine Or.inr ⟨r1, ?_, hxh, r4, as, l, tk, r3, r5⟩
    conv => lhs; rw [r214_114]
    simp (disch := omega) [r214_0, r214_1, r214_2, r214_5, r214_6, r214_7, r214_8, r214_11, r214_12, r214_13, r214_16, r214_17, r214_18, r214_21, r214_22, r214_23, r214_26, r214_27, r214_30, r214_31, r214_32, r214_33, r214_34, r214_37, r214_38, r214_41, r214_42, r214_43, r214_45, r214_47, r214_50, r214_51, r214_54, r214_56, r214_57, r214_60, r214_61, r214_64, r214_66, r214_67, r214_68, r214_71, r214_72, r214_73, r214_74, r214_77, r214_79, r214_80, r214_81, r214_84, r214_86, r214_87, r214_90, r214_91, r214_92, r214_95, r214_97, r214_98, r214_100, r214_103, r214_104, r214_105, r214_108, r214_110, r214_111, r214_115, r214_118, r214_120, r214_121, r214_124, r214_125, r214_126, r214_129, r214_131, r214_132, r214_136, r214_139, r214_141, r214_142, r214_144, r214_147, r214_148, r214_151, r214_152, r214_153, r214_154, r214_157, r214_158, r214_161, r214_162, r214_163, r214_164, r214_167, g241, p241_31, ty12_31, p241_32, ty12_32, vf12_28, t241_28, g258, p258, qa215, qo215, vf12_24, t241_24, g254, p254, vf12_23, t241_23, g253, p253, qa213, qo213, vf12_21, t241_21, g251, p251, vf12_22, t241_22, g252, p252, qa216, qo216, vf12_25, t241_25, g255, p255, List.getElem?_cons_zero, List.getElem?_cons_succ, List.length_cons, List.length_nil, ag_nx, ag_dn, ag_no, ag_if, jbr1, jbr2, jc1, jc2, jnul, jld, jsto, jstoL, jst1, jst2, jkill, jinc, jbI, jbL, jbS, juI, jl2i, jcmp, jisR, jisI, jisL, jret, jretv, jfits, jdup, jdup2, jpop, jmm, jcat, Value.category, jinv, jrcv, jthr, jhd, jput, jget, jlen, jald, jast, jaast, jgI, jgL, jgB, jtab, jlku, jacp, vf20, vf21, vf22, vf23, vf24, u2_s, u2_k, u2_i, uc_s, uc_k, uc_c, u2_c, LI0, LI1, LI2, LI3, LI4, LI5, LI6, LI7, LI8, LI9, LI10, LI11, LI12, LI13, LI14, LI15, LI16, LI17, LI18, LI19, LI20, LI21, LI22, LI23, LI24, LI25, LI26, LI27, LI28, LI29, LI30, LI31, LI32, LI33, LI34, LI35, LI36, LI37, LI40, LI42, LI43, LI45, LI48, LI60, LI61, LI64, LI80, LI300, LI400, LI1000, LI2000, LI2001, LI2047, LI2048, LI100000, LI1000000, LI38, LI39, LI41, LI44, LI46, LI47, LI49, LI50, LI51, LI52, LI53, LI54, LI55, LI56, LI57, LI58, LI59, LI62, LI63, LI65, LI66, LI67, LI68, LI69, LI70, LI71, LI72, LI73, LI74, LI75, LI76, LI77, LI78, LI79, LI81, LI82, LI83, LI84, LI85, LI86, LI87, LI88, LI89, LI90, LI91, LI92, LI93, LI94, LI95, LI96, LI97, LI98, LI99, LI100, LI101, LI102, LI103, LI104, LI105, LI106, LI107, LI108, LI109, LI110, LI111, LI112, LI113, LI114, LI115, LI116, LI117, LI118, LI119, LI120, LI121, LI122, LI123, LI124, LI125, LI126, LI127, LI255, LI256, LI999, LI1001, LI1002, LI1600, LI4096, LI1000001, LI2042, LM, nI_clamp, nI_pos', nI_lt, nI_nlt, nI_le, nI_ge, nI_ne, nI_add, nI_sub, mI_lt, mI_le, mI_nlt, mI_nle, mI_ne, mI_ne', mI_nem, h4, hx, r2]
end RLG
