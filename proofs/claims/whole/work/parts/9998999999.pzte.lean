/-! system of the class: the text's outcome -/
section ZTE
variable {A : Nat → Nat} {d b n N m : Nat} {h : Nat → Option jC} {X : jXX} {I : Nat → Nat → Int32} {J : Nat → Nat → Int64} {R : Nat → Nat → Nat} {t : Nat → Int32}
theorem tkS_fr {I' : Nat → Nat → Int32} {J' : Nat → Nat → Int64} (hT : tkS t N I J m) (hi : ∀ c i, (c = 3 ∧ i = 6) ∨ (5 ≤ c ∧ c ≤ 9) → I' c i = I c i) (hJ : ∀ i, J' 8 i = J 8 i) : tkS t N I' J' m := by
  obtain ⟨a1, a2, a3, a4, a5⟩ := hT
  refine ⟨(hi _ _ (by omega)).trans a1, a2, a3, a4, fun j hj => ?_⟩
  obtain ⟨b1, b2, b3, b4, b5⟩ := a5 j hj
  exact ⟨(hi _ _ (by omega)).trans b1, (hi _ _ (by omega)).trans b2, (hi _ _ (by omega)).trans b3, (hJ _).trans b4, (hi _ _ (by omega)).trans b5⟩
theorem b8_rng {x : Int32} (h : x.toInt8.toInt32 = x) : -128 ≤ x.toInt ∧ x.toInt < 128 := by
  have e : x.toInt = x.toInt8.toInt := by
    have := congrArg Int32.toInt h
    rw [Int8.toInt_toInt32] at this
    exact this.symm
  have h1 := x.toInt8.le_toInt
  have h2 := x.toInt8.toInt_lt
  omega
/-- the tape is read: tokens stand -/
theorem c169 {T : Nat} (hA : jAp0 A) (a1 : zT I T) (hW : ∀ i, i ≤ 25 → J 4 i = tkW i) : ∃ I' J' m, jcall A jcode (d + 7) 169 [.ref b] (jH h b X I J R n) = some (.inl none, (jH h b X I' J' R n)) ∧ tkS (tpT I T) T I' J' m ∧ I' 0 1 = nI 0 ∧ (∀ c i, c ≠ 3 → ¬ (5 ≤ c ∧ c ≤ 9) → ¬ (c = 0 ∧ i = 1) → I' c i = I c i) ∧ ∀ c i, c ≠ 8 → J' c i = J c i := by
  obtain ⟨t1, t2, t3, t4⟩ := a1
  obtain ⟨I1, J1, e, f, m, hT⟩ := cScan (A := A) (d := d) (b := b) (h := h) (X := X) (R := R) (n := n) (I := I) (J := J) (N := T) hA t1 (fun i hi => b8_rng (by rw [(t4 i (by omega)).1]; exact (t4 i (by omega)).2)) hW
  refine ⟨u2 I1 0 1 (nI 0), J1, m, ?_, tkS_fr (tkS_g (t' := tpT I T) (fun i hi => by unfold tpT; rw [if_pos hi]; exact (t4 i (by omega)).1) hT) (fun c i hc => u2_o _ _ (by omega)) (fun _ => rfl), u2_s, fun c i h1 h2 h3 => ?_, fun c i hc => ?_⟩
  · simp (disch := omega) [je169, r169_0, r169_1, r169_4, r169_5, r169_8, r169_9, r169_12, r169_15, r169_16, r169_17, r169_20, g0z, vf10_4, t0_4, vf10_0, t0_0, g1, vf10_1, qa83, qo83, g3, p0_1, ty10_1, List.getElem?_cons_zero, List.getElem?_cons_succ, List.length_cons, List.length_nil, ag_nx, ag_dn, ag_no, ag_if, jbr1, jbr2, jc1, jc2, jnul, jld, jsto, jstoL, jst1, jst2, jkill, jinc, jbI, jbL, jbS, juI, jl2i, jcmp, jisR, jisI, jisL, jret, jretv, jfits, jdup, jdup2, jpop, jmm, jcat, Value.category, jinv, jrcv, jthr, jhd, jput, jget, jlen, jald, jast, jaast, jgI, jgL, jgB, jtab, jlku, jacp, vf20, vf21, vf22, vf23, vf24, u2_s, u2_k, u2_i, uc_s, uc_k, uc_c, u2_c, LI0, LI1, LI2, LI3, LI4, LI5, LI6, LI7, LI8, LI9, LI10, LI11, LI12, LI13, LI14, LI15, LI16, LI17, LI18, LI19, LI20, LI21, LI22, LI23, LI24, LI25, LI26, LI27, LI28, LI29, LI30, LI31, LI32, LI33, LI34, LI35, LI36, LI37, LI40, LI42, LI43, LI45, LI48, LI60, LI61, LI64, LI80, LI300, LI400, LI1000, LI2000, LI2001, LI2047, LI2048, LI100000, LI1000000, LI38, LI39, LI41, LI44, LI46, LI47, LI49, LI50, LI51, LI52, LI53, LI54, LI55, LI56, LI57, LI58, LI59, LI62, LI63, LI65, LI66, LI67, LI68, LI69, LI70, LI71, LI72, LI73, LI74, LI75, LI76, LI77, LI78, LI79, LI81, LI82, LI83, LI84, LI85, LI86, LI87, LI88, LI89, LI90, LI91, LI92, LI93, LI94, LI95, LI96, LI97, LI98, LI99, LI100, LI101, LI102, LI103, LI104, LI105, LI106, LI107, LI108, LI109, LI110, LI111, LI112, LI113, LI114, LI115, LI116, LI117, LI118, LI119, LI120, LI121, LI122, LI123, LI124, LI125, LI126, LI127, LI255, LI256, LI999, LI1001, LI1002, LI1600, LI4096, LI1000001, LI2042, LM, nI_clamp, nI_pos', nI_lt, nI_nlt, nI_le, nI_ge, nI_ne, nI_add, nI_sub, mI_lt, mI_le, mI_nlt, mI_nle, mI_ne, mI_ne', mI_nem, t2, e]
  · rw [u2_o _ _ h3]
    exact f.1 c i (by omega) (by omega) (by omega) (by omega) (by omega)
  · exact f.2 c i hc
theorem tpos_ge (hfin : tpos t N m = N) : ∀ k, tpos t N (m + k) = N := by
  intro k
  induction k with
  | zero => exact hfin
  | succ k ih =>
    show sk t N (tkX t N (tpos t N (m + k))) = N
    rw [ih]
    have : tkX t N N = N := by unfold tkX; rw [if_pos (Nat.le_refl _)]
    rw [this]
    exact sk_n
theorem KK_27 (hfin : tpos t N m = N) : ∀ j, KK t N j = 27 → j ≤ m := by
  intro j hj
  rcases Nat.lt_or_ge m j with q | q
  · exfalso
    have e := tpos_ge hfin (j - m)
    rw [show m + (j - m) = j by omega] at e
    have k := (KK_e (t := t) (N := N) (j := j)).2
    rw [e, hj] at k
    unfold tkK at k
    rw [if_pos (Nat.le_refl _)] at k
    exact absurd k (by decide)
  · exact q
/-- what the class's parser leaves -/
def cPd (t : Nat → Int32) (N m P : Nat) (I' : Nat → Nat → Int32) (J' : Nat → Nat → Int64) (L : Nat) (F : List qPr) (C : List oT) : Prop := FV (KK t N) m C F ∧ mS (KK t N) (I' 7) P I' F ∧ cAl t N F (I' 7) (I' (P + 5)) (I' (P + 6)) (I' (P + 7)) C ∧ I' P 3 = nI F.length ∧ I' (P + 4) 4 = nI C.length ∧ C.length ≤ 2000
theorem cSys {P L0 : Nat} (hP : isP P) (hN : N ≤ 2000) (hT : tkS t N I J m) (hL : cNm I J (P + 1) L0) : ∃ I' J' L v, jcall A jcode (d + 70) 34 [.ref (b + 56), .ref (b + P)] (jH h b X I J R n) = some (.inl (some (.int v)), jH h b X I' J' (u2 (u2 R 56 1 P) 56 2 (P + 4)) n) ∧ cNm I' J' (P + 1) L ∧ 2 * L ≤ N + 1 ∧ I' P 1 = nI L ∧ (∀ i, i ≤ m → tk6 t N (tpos t N i) I' J' (P + 1) L i) ∧ (∀ c i, c ≠ 7 → c ≠ 56 → ¬ (P ≤ c ∧ c ≤ P + 22) → I' c i = I c i) ∧ (∀ c i, c ≠ P + 2 → J' c i = J c i) ∧ ((∃ j, sysO t N = .inl j ∧ v = nI (tpos t N j)) ∨ ∃ F C, sysO t N = .inr (F, C) ∧ v = mI 1 ∧ cPd t N m P I' J' L F C) := by
  obtain ⟨I', J', L, v, e, a1, a2, a3, a4, a5, a6, a7⟩ := cRead (A := A) (d := d) (b := b) (h := h) (X := X) (R := R) (n := n) hP hN hT hL
  refine ⟨I', J', L, v, e, a1, a2, a3, a4, a5, a6, ?_⟩
  have hmN := hT.2.1
  have hk : kOK (KK t N) m := KK_ok hN hmN hT.2.2.1
  have hEV := eqVY (by omega) a1 a4
  have hU := numU a4
  have hpG : ∀ r, pG (KK t N) (I' 7) r 0 0 [] [] c00 s00 = pG (KK t N) (fun j => tkNu t N (tpos t N j)) r 0 0 [] [] c00 s00 := fun r => pG_U hk.2.1 hU r 0 0 [] [] c00 s00 (by omega)
  rw [hpG] at a7
  rcases a7 with ⟨j, C, p1, p2, p3⟩ | ⟨F, j, C, p1, p2, p3, p4⟩
  · exact Or.inl ⟨j, sysO_1 p1, p3⟩
  · rw [exF_E hEV p2, fold_E hEV p2 p3] at p4
    rcases p4 with ⟨u, q1, q2, q3⟩ | ⟨q0, u, q1, q2, q3⟩ | ⟨q0, q1, q3, q4, q5, q6, q7, q8⟩
    · exact Or.inl ⟨u, sysO_2 p1 q1, q3⟩
    · exact Or.inl ⟨u, sysO_3 p1 q0 q1, q3⟩
    · refine Or.inr ⟨F, C, sysO_4 p1 q0 q1, q3, p2, q4, fun k x hx => ?_, q6, q7, q8⟩
      obtain ⟨g1, g2, g3, _⟩ := q5 k x hx
      have hkl := lt_of_some hx
      obtain ⟨g3, g4⟩ := g3 hkl
      obtain ⟨pr, _, o1, o2⟩ := p3 x (List.mem_of_getElem? hx)
      have hlk := lkO_E hEV p2 o1 o2
      refine ⟨g1, ?_, ?_, ((mnO_fold C (unF (eqY t N) F)).1.mp q1).2 x (List.mem_of_getElem? hx)⟩
      · rw [g3]; unfold lkA; rw [hlk]
      · rw [g4]; unfold lkE; rw [hlk]
/-- then the plans are one -/
theorem sys_pl {P L nn M : Nat} {Ir Ic I7 : Nat → Nat → Int32} {J' Jc : Nat → Nat → Int64} {F : List qPr} {C : List oT} {ps : List Nat} (hN : N ≤ 2000) (hm : m ≤ N) (hfin : tpos t N m = N) (hL : L ≤ 2000) (hcN : cNm I7 J' (P + 1) L) (h6 : ∀ i, i ≤ m → tk6 t N (tpos t N i) I7 J' (P + 1) L i) (hcp : cPd t N m P I7 J' L F C) (hic : ∀ c i, P ≤ c → c ≤ P + 22 → c ≠ P + 1 → Ic c i = I7 c i) (hJc : ∀ i, Jc (P + 2) i = J' (P + 2) i) (hinj : ∀ w w', w < nn → w' < nn → rnm Ir w = rnm Ir w' → w = w') (hnn : nn ≤ 2 ^ 20) (hM : M ≤ 2000) (hx : prsRl t N Ir nn F 0 0 ps F M) (h259 : ∀ p pd, ps[p]? = some pd → Ir 259 p = nI pd) (h34 : Ir 241 34 = nI F.length) (h27 : ∀ q, q ∈ F → KK t N (q.1 + 2) = 27) : plC (cNf (cnm Ic Jc (P + 1)) L) (rNf (rnm Ir) nn) Ir (Ic (P + 5)) (Ic (P + 6)) (Ic (P + 7)) F.length P C.length Ic ∧ vN Ir M F.length := by
  obtain ⟨p1, p2, p3, p4, p5, p6⟩ := hcp
  have e5 : ∀ j, j ≤ 22 → j ≠ 1 → Ic (P + j) = I7 (P + j) := fun j hj hj1 => funext fun i => hic _ _ (by omega) (by omega) (by omega)
  have e0 : Ic P = I7 P := e5 0 (by omega) (by omega)
  have ec : cnm Ic Jc (P + 1) = cnm I7 J' (P + 1) := funext fun x => by unfold cnm; rw [hic _ _ (by omega) (by omega) (by omega), hJc]
  have hpE : pEn t N m F (I7 7) (I7 (P + 5)) (I7 (P + 6)) (I7 (P + 7)) Ir nn (cNf (cnm I7 J' (P + 1)) L) (rNf (rnm Ir) nn) C P I7 := by
    refine ⟨hN, p3, p1, p2, eqVY (by omega) hcN h6, KK_27 hfin, h27, numU h6, fun j x hj hx => ?_⟩
    obtain ⟨k26, w, w1, w2, w3⟩ := hx
    have kk : tkK t N (tpos t N j) = nI 26 := by rw [KK_e.2, k26]
    obtain ⟨_, _, _, _, h5, _⟩ := h6 j hj
    obtain ⟨u, u1, u2', u3⟩ := h5 kk
    rw [u2', w2, cNf_v u1 (by omega), rNf_v w1 (by omega), u3, w3]
    rfl
  obtain ⟨q1, q2⟩ := plan_ok hpE hM hx h259 h34 p4 ⟨p5, by omega, rfl, rfl, rfl⟩
  refine ⟨?_, q2⟩
  rw [ec, e5 5 (by omega) (by omega), e5 6 (by omega) (by omega), e5 7 (by omega) (by omega)]
  unfold plC kP kC cdC at q1 ⊢
  rw [e0, e5 4 (by omega) (by omega), e5 5 (by omega) (by omega), e5 6 (by omega) (by omega), e5 7 (by omega) (by omega), e5 9 (by omega) (by omega), e5 10 (by omega) (by omega), e5 11 (by omega) (by omega), e5 12 (by omega) (by omega), e5 13 (by omega) (by omega), e5 14 (by omega) (by omega), e5 15 (by omega) (by omega), e5 16 (by omega) (by omega), e5 17 (by omega) (by omega), e5 18 (by omega) (by omega), e5 19 (by omega) (by omega), e5 20 (by omega) (by omega), e5 21 (by omega) (by omega), e5 22 (by omega) (by omega)]
  exact q1
theorem sys_vn {P L : Nat} {Ic I7 : Nat → Nat → Int32} {J' : Nat → Nat → Int64} {F : List qPr} {C : List oT} (h6 : ∀ i, i ≤ m → tk6 t N (tpos t N i) I7 J' (P + 1) L i) (hcp : cPd t N m P I7 J' L F C) (hic : ∀ c i, P ≤ c → c ≤ P + 22 → c ≠ P + 1 → Ic c i = I7 c i) : vnm Ic P L F.length := by
  obtain ⟨p1, p2, _⟩ := hcp
  intro p c j hp hc c6 hj
  rw [hic _ _ (by omega) (by omega) (by omega)] at hc ⊢
  have hq := List.getElem?_eq_getElem hp
  obtain ⟨_, _, _, m4, _⟩ := p2.2.1 p _ hq
  obtain ⟨n1, n2, n3⟩ := m4
  have hl : c = F[p].2.1.length := (nI_eq (by omega) (by omega)).mp (hc.symm.trans n1)
  have hv := List.getElem?_eq_getElem (show j < F[p].2.1.length by omega)
  obtain ⟨_, _, p3, _⟩ := p1 p _ hq
  obtain ⟨k26, km⟩ := p3 _ (List.mem_of_getElem? hv)
  have kk : tkK t N (tpos t N (F[p].2.1[j])) = nI 26 := by rw [KK_e.2, k26]
  obtain ⟨_, _, _, _, h5, _⟩ := h6 _ km
  obtain ⟨u, u1, u2', _⟩ := h5 kk
  exact ⟨u, u1, by rw [(n3 j _ hv).1]; exact u2'⟩
/-- the beginning is the plan's -/
theorem aBeg_e {rN rN' : Int32 → Nm} {N N' : Nat → Nat → Int32} {np : Nat} (hh : ∀ p, p < np → rN (N 252 (pnd N p)) = rN' (N' 252 (pnd N' p)) ∧ N 257 (pnd N p) = N' 257 (pnd N' p) ∧ (lets N p).map (fun a => N 253 a) = (lets N' p).map (fun a => N' 253 a)) : aBegin rN N np = aBegin rN' N' np := by
  have hf : ∀ p mk (W : aW Nm), p < np → aFresh rN N true p mk W = aFresh rN' N' true p mk W := by
    intro p mk W hp
    obtain ⟨h1, _, h3⟩ := hh p hp
    unfold aFresh aNew
    rw [h1, h3]
  have hm : ∀ (r p : Nat) (W : aW Nm), p < np → aMore rN N true p r W = aMore rN' N' true p r W := by
    intro r
    induction r with
    | zero => intro p W _; rfl
    | succ r ih =>
      intro p W hp
      unfold aMore
      rw [hf p _ W hp, ih p _ hp]
  have hb : ∀ (r p : Nat) (W : aW Nm), p + r = np → aBeg rN N true r p W = aBeg rN' N' true r p W := by
    intro r
    induction r with
    | zero => intro p W _; rfl
    | succ r ih =>
      intro p W hp
      unfold aBeg
      rw [(hh p (by omega)).2.1, hm _ p W (by omega), ih (p + 1) _ (by omega)]
  exact hb np 0 _ (by omega)
theorem aBeg_pl {cN rN rN' : Int32 → Nm} {N N' I I' : Nat → Nat → Int32} {O G E O' G' E' : Nat → Int32} {np P L L' : Nat} (h1 : plC cN rN N O G E np P L I) (h2 : plC cN rN' N' O' G' E' np P L' I') (hi : ∀ c i, P + 9 ≤ c → c ≤ P + 14 → I' c i = I c i) : aBegin rN N np = aBegin rN' N' np := by
  refine aBeg_e fun p hp => ?_
  obtain ⟨a1, a2, a3, ⟨m1, a4, a4', a4''⟩, a5, a6, a7, _⟩ := h1.2.2.2 p hp
  obtain ⟨b1, b2, b3, ⟨m2, b4, b4', b4''⟩, b5, b6, b7, _⟩ := h2.2.2.2 p hp
  refine ⟨by rw [← a3, ← b3, hi _ _ (by omega) (by omega)], by rw [a4'', b4'', ← a4', ← b4', hi _ _ (by omega) (by omega)], ?_⟩
  have hlen : (lets N p).length = (lets N' p).length := by
    rw [hi _ _ (by omega) (by omega), a6] at b6
    exact (nI_eq (by omega) (by omega)).mp b6
  apply List.ext_getElem?
  intro j
  rw [List.getElem?_map, List.getElem?_map]
  rcases Nat.lt_or_ge j (lets N p).length with q | q
  · have e1 := List.getElem?_eq_getElem q
    have e2 := List.getElem?_eq_getElem (show j < (lets N' p).length by omega)
    rw [e1, e2]
    show some (N 253 _) = some (N' 253 _)
    rw [← (a7 j _ e1).2, ← (b7 j _ e2).2, hi _ _ (by omega) (by omega)]
  · rw [List.getElem?_eq_none q, List.getElem?_eq_none (by omega)]
    rfl
end ZTE
