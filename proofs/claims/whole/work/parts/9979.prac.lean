/-! the reference reads acts -/
def QA (t : Nat → Int32) (N pr g : Nat) (z z' : rZ) (a L : Nat) (l : List oT) : Prop := bR t N z'.2.1 z'.2.2.2.1 pr (z'.2.2.2.2.2 - z.2.2.2.2.2 + 1) g z.2.2.2.2.2 [a] L l ∧ a < z'.2.2.2.2.2 ∧ z'.2.1 255 a = mI 1
section RAC
variable {A : Nat → Nat} {d b : Nat} {h : Nat → Option jC} {J : Nat → Nat → Int64} {R : Nat → Nat → Nat} {t : Nat → Int32} {N m B0 M0 : Nat} {g dp D pr : Nat}
theorem nmA_z {z z' : rZ} {x : Int32} {j : Nat} (hs : rSt z z') (h : nmA t N z.2.1 z.2.2.2.1 x j) : nmA t N z'.2.1 z'.2.2.2.1 x j := nmA_st hs.2.2.1 hs.2.1 h
theorem QA_1 {z z' : rZ} {a L : Nat} {l : List oT} (h : aR1 t N z'.2.1 z'.2.2.2.1 pr z.2.2.2.2.2 a l) (hlo : z.2.2.2.2.2 ≤ a) (ha : a < z'.2.2.2.2.2) (h5 : z'.2.1 255 a = mI 1) : QA t N pr g z z' a L l := ⟨bR_1 h hlo (by omega), ha, h5⟩
/-- reset, make, next: behind the word -/
theorem r202 (hc : rCx A t N m B0 M0) {z : rZ} {j L k : Nat} (hk : k = 13 ∨ k = 14 ∨ k = 15) (hq : rQ t N m B0 M0 j dp z) (hM : z.2.2.2.2.2 < M0 + j) : (∃ z' j', (if KK t N j = 26 then pN (KK t N) 59 [(k + 8, .inr j, .inl (nI pr), j)] (j + 1) else (none, j)) = (none, j') ∧ jcall A jcode (d + D + 9) 202 [.ref (b + 241), .int (nI k)] (HZ h b J R z) = some (.inr 11, HZ h b J R z') ∧ rF t N m B0 M0 j' z' ∧ rSt z z') ∨ ∃ z' l0 j' e, (if KK t N j = 26 then pN (KK t N) 59 [(k + 8, .inr j, .inl (nI pr), j)] (j + 1) else (none, j)) = (some l0, j') ∧ jcall A jcode (d + D + 9) 202 [.ref (b + 241), .int (nI k)] (HZ h b J R z) = some (.inl (some (.int (nI e))), HZ h b J R z') ∧ rQ t N m B0 M0 j' dp z' ∧ rSt z z' ∧ j < j' ∧ z'.2.2.2.2.2 ≤ z.2.2.2.2.2 + (j' - j) ∧ QA t N pr g z z' e L l0 := by
  rcases r192 (d := d + D) (A := A) (b := b) (h := h) (J := J) (R := R) hc hq with ⟨hK, z1, w, e1, q1, st1, n1, w1, w2, w3, _⟩ | ⟨hK, z1, e1, F1, st1⟩
  · rw [if_pos hK]
    unfold pN
    rcases r190 (d := d + D) (A := A) (b := b) (h := h) (J := J) (R := R) (k0 := 59) hc q1 (by omega) (by omega) with ⟨hK2, z2, e2, q2, st2, n2, f2⟩ | ⟨hK2, z2, e2, F2, st2⟩
    · rw [if_pos hK2]
      rw [show wcd 59 = nI 59 by decide] at e2
      obtain ⟨z3, e3, q3, st3, n3, _, d3, f3⟩ := rNode (d := d + D + 6) (A := A) (b := b) (h := h) (J := J) (R := R) (k := nI k) (x1 := nI w) (x2 := mI 1) (x3 := mI 1) (fr := nI (tpos t N j)) hc q2 (by omega)
      refine Or.inr ⟨z3, _, j + 2, z2.2.2.2.2.2, rfl, ?_, q3, rSt_trans st1 (rSt_trans st2 st3), by omega, by omega, QA_1 ?_ (by omega) (by omega) d3.2.2.2.2.1⟩
      · simp (disch := omega) [je202, r202_0, r202_1, r202_4, r202_5, r202_6, r202_9, r202_10, r202_11, r202_13, r202_16, r202_17, r202_18, r202_19, r202_20, r202_21, r202_22, r202_25, qa192, qo192, g241, vf12_20, qa190, qo190, qa193, qo193, List.getElem?_cons_zero, List.getElem?_cons_succ, List.length_cons, List.length_nil, ag_nx, ag_dn, ag_no, ag_if, jbr1, jbr2, jc1, jc2, jnul, jld, jsto, jstoL, jst1, jst2, jkill, jinc, jbI, jbL, jbS, juI, jl2i, jcmp, jisR, jisI, jisL, jret, jretv, jfits, jdup, jdup2, jpop, jmm, jcat, Value.category, jinv, jrcv, jthr, jhd, jput, jget, jlen, jald, jast, jaast, jgI, jgL, jgB, jtab, jlku, jacp, vf20, vf21, vf22, vf23, vf24, u2_s, u2_k, u2_i, uc_s, uc_k, uc_c, u2_c, LI0, LI1, LI2, LI3, LI4, LI5, LI6, LI7, LI8, LI9, LI10, LI11, LI12, LI13, LI14, LI15, LI16, LI17, LI18, LI19, LI20, LI21, LI22, LI23, LI24, LI25, LI26, LI27, LI28, LI29, LI30, LI31, LI32, LI33, LI34, LI35, LI36, LI37, LI40, LI42, LI43, LI45, LI48, LI60, LI61, LI64, LI80, LI300, LI400, LI1000, LI2000, LI2001, LI2047, LI2048, LI100000, LI1000000, LI38, LI39, LI41, LI44, LI46, LI47, LI49, LI50, LI51, LI52, LI53, LI54, LI55, LI56, LI57, LI58, LI59, LI62, LI63, LI65, LI66, LI67, LI68, LI69, LI70, LI71, LI72, LI73, LI74, LI75, LI76, LI77, LI78, LI79, LI81, LI82, LI83, LI84, LI85, LI86, LI87, LI88, LI89, LI90, LI91, LI92, LI93, LI94, LI95, LI96, LI97, LI98, LI99, LI100, LI101, LI102, LI103, LI104, LI105, LI106, LI107, LI108, LI109, LI110, LI111, LI112, LI113, LI114, LI115, LI116, LI117, LI118, LI119, LI120, LI121, LI122, LI123, LI124, LI125, LI126, LI127, LI255, LI256, LI999, LI1001, LI1002, LI1600, LI4096, LI1000001, LI2042, LM, nI_clamp, nI_pos', nI_lt, nI_nlt, nI_le, nI_ge, nI_ne, nI_add, nI_sub, mI_lt, mI_le, mI_nlt, mI_nle, mI_ne, mI_ne', mI_nem, e1, w3, e2, e3]
      · refine Or.inr (Or.inr (Or.inr (Or.inl ⟨k, hk, d3.1, j, rfl, ?_, d3.2.2.2.2.2.1⟩)))
        rw [d3.2.1]
        exact nmA_z (rSt_trans st2 st3) ⟨hK, w, w1, rfl, w2⟩
    · rw [if_neg hK2]
      rw [show wcd 59 = nI 59 by decide] at e2
      refine Or.inl ⟨z2, j + 1, rfl, ?_, F2, rSt_trans st1 st2⟩
      simp (disch := omega) [je202, r202_0, r202_1, r202_4, r202_5, r202_6, r202_9, r202_10, r202_11, r202_13, r202_16, r202_17, r202_18, r202_19, r202_20, r202_21, r202_22, r202_25, qa192, qo192, g241, vf12_20, qa190, qo190, qa193, qo193, List.getElem?_cons_zero, List.getElem?_cons_succ, List.length_cons, List.length_nil, ag_nx, ag_dn, ag_no, ag_if, jbr1, jbr2, jc1, jc2, jnul, jld, jsto, jstoL, jst1, jst2, jkill, jinc, jbI, jbL, jbS, juI, jl2i, jcmp, jisR, jisI, jisL, jret, jretv, jfits, jdup, jdup2, jpop, jmm, jcat, Value.category, jinv, jrcv, jthr, jhd, jput, jget, jlen, jald, jast, jaast, jgI, jgL, jgB, jtab, jlku, jacp, vf20, vf21, vf22, vf23, vf24, u2_s, u2_k, u2_i, uc_s, uc_k, uc_c, u2_c, LI0, LI1, LI2, LI3, LI4, LI5, LI6, LI7, LI8, LI9, LI10, LI11, LI12, LI13, LI14, LI15, LI16, LI17, LI18, LI19, LI20, LI21, LI22, LI23, LI24, LI25, LI26, LI27, LI28, LI29, LI30, LI31, LI32, LI33, LI34, LI35, LI36, LI37, LI40, LI42, LI43, LI45, LI48, LI60, LI61, LI64, LI80, LI300, LI400, LI1000, LI2000, LI2001, LI2047, LI2048, LI100000, LI1000000, LI38, LI39, LI41, LI44, LI46, LI47, LI49, LI50, LI51, LI52, LI53, LI54, LI55, LI56, LI57, LI58, LI59, LI62, LI63, LI65, LI66, LI67, LI68, LI69, LI70, LI71, LI72, LI73, LI74, LI75, LI76, LI77, LI78, LI79, LI81, LI82, LI83, LI84, LI85, LI86, LI87, LI88, LI89, LI90, LI91, LI92, LI93, LI94, LI95, LI96, LI97, LI98, LI99, LI100, LI101, LI102, LI103, LI104, LI105, LI106, LI107, LI108, LI109, LI110, LI111, LI112, LI113, LI114, LI115, LI116, LI117, LI118, LI119, LI120, LI121, LI122, LI123, LI124, LI125, LI126, LI127, LI255, LI256, LI999, LI1001, LI1002, LI1600, LI4096, LI1000001, LI2042, LM, nI_clamp, nI_pos', nI_lt, nI_nlt, nI_le, nI_ge, nI_ne, nI_add, nI_sub, mI_lt, mI_le, mI_nlt, mI_nle, mI_ne, mI_ne', mI_nem, e1, w3, e2]
  · rw [if_neg hK]
    refine Or.inl ⟨z1, j, rfl, ?_, F1, st1⟩
    simp (disch := omega) [je202, r202_0, r202_1, r202_4, r202_5, r202_6, r202_9, r202_10, r202_11, r202_13, r202_16, r202_17, r202_18, r202_19, r202_20, r202_21, r202_22, r202_25, qa192, qo192, g241, vf12_20, qa190, qo190, qa193, qo193, List.getElem?_cons_zero, List.getElem?_cons_succ, List.length_cons, List.length_nil, ag_nx, ag_dn, ag_no, ag_if, jbr1, jbr2, jc1, jc2, jnul, jld, jsto, jstoL, jst1, jst2, jkill, jinc, jbI, jbL, jbS, juI, jl2i, jcmp, jisR, jisI, jisL, jret, jretv, jfits, jdup, jdup2, jpop, jmm, jcat, Value.category, jinv, jrcv, jthr, jhd, jput, jget, jlen, jald, jast, jaast, jgI, jgL, jgB, jtab, jlku, jacp, vf20, vf21, vf22, vf23, vf24, u2_s, u2_k, u2_i, uc_s, uc_k, uc_c, u2_c, LI0, LI1, LI2, LI3, LI4, LI5, LI6, LI7, LI8, LI9, LI10, LI11, LI12, LI13, LI14, LI15, LI16, LI17, LI18, LI19, LI20, LI21, LI22, LI23, LI24, LI25, LI26, LI27, LI28, LI29, LI30, LI31, LI32, LI33, LI34, LI35, LI36, LI37, LI40, LI42, LI43, LI45, LI48, LI60, LI61, LI64, LI80, LI300, LI400, LI1000, LI2000, LI2001, LI2047, LI2048, LI100000, LI1000000, LI38, LI39, LI41, LI44, LI46, LI47, LI49, LI50, LI51, LI52, LI53, LI54, LI55, LI56, LI57, LI58, LI59, LI62, LI63, LI65, LI66, LI67, LI68, LI69, LI70, LI71, LI72, LI73, LI74, LI75, LI76, LI77, LI78, LI79, LI81, LI82, LI83, LI84, LI85, LI86, LI87, LI88, LI89, LI90, LI91, LI92, LI93, LI94, LI95, LI96, LI97, LI98, LI99, LI100, LI101, LI102, LI103, LI104, LI105, LI106, LI107, LI108, LI109, LI110, LI111, LI112, LI113, LI114, LI115, LI116, LI117, LI118, LI119, LI120, LI121, LI122, LI123, LI124, LI125, LI126, LI127, LI255, LI256, LI999, LI1001, LI1002, LI1600, LI4096, LI1000001, LI2042, LM, nI_clamp, nI_pos', nI_lt, nI_nlt, nI_le, nI_ge, nI_ne, nI_add, nI_sub, mI_lt, mI_le, mI_nlt, mI_nle, mI_ne, mI_ne', mI_nem, e1]
theorem xR_ED {z' : rZ} {lo e j j' k : Nat} {l : List oT} (hk : k ≤ 4) (hg : g ≤ 8) (hj : j' ≤ 2000) (h : xR t N z'.2.1 z'.2.2.2.1 pr lo ((j' - j + 1) / 2 + g) e l (3 * g + k)) : xR t N z'.2.1 z'.2.2.2.1 pr lo ED e l 64 := xR_mono _ _ _ _ _ _ _ (by unfold ED; omega) (by omega) (Nat.le_refl _) h
/-- cells of nodes are written -/
theorem rQ_n {z : rZ} {j dp c a : Nat} {v : Int32} (hq : rQ t N m B0 M0 j dp z) (hc : 251 ≤ c ∧ c ≤ 258) : rQ t N m B0 M0 j dp (z.1, u2 z.2.1 c a v, z.2.2) := by
  obtain ⟨X, I, n, nn, nb, M⟩ := z
  obtain ⟨⟨b1, b2, b3, b4, b5, b6, b7, b8⟩, hT', h15, h30, hj, hM⟩ := hq
  have f : ∀ k, u2 I c a v 241 k = I 241 k := fun k => u2_k (by omega)
  have f9 : u2 I c a v 249 = I 249 := by funext k; exact u2_k (by omega)
  have fr : ∀ u, rnm (u2 I c a v) u = rnm I u := fun u => by
    unfold rnm rb rz
    rw [u2_k (by omega), u2_k (by omega)]
    have : (fun k => u2 I c a v 243 (ix (I 244 u) + k)) = fun k => I 243 (ix (I 244 u) + k) := by funext k; exact u2_k (by omega)
    show (hdF (fun k => u2 I c a v 243 (ix (I 244 u) + k)) _, tlF (fun k => u2 I c a v 243 (ix (I 244 u) + k)) _) = _
    rw [this]
  have hnm : rNm X (u2 I c a v) nn nb := by
    have b3' := b3
    obtain ⟨a1, a2, a3, a4, a5, a6, a7, a8, a9, a10, a11, a12, a13, a14, a15, a16⟩ := b3'
    exact rNm_fr b3 (f _) (f _) (Nat.le_refl _) a9 a4 a5 (Nat.le_refl _) a10 (fun w _ => u2_k (by omega)) (fun w _ => u2_k (by omega)) (fun w _ => u2_k (by omega)) (fun w => u2_k (by omega)) (fun w _ => u2_k (by omega)) (fun i hi => by rw [u2_k (by omega)]; exact a16 i hi)
  refine ⟨⟨(f 14).trans b1, f9.trans b2, hnm, b4, b5, (f 29).trans b6, b7, b8⟩, ?_, fun hne => ⟨(f 15).trans (h15 hne).1, (h15 hne).2⟩, (f 30).trans h30, hj, hM⟩
  obtain ⟨t1, k, t2, t3, t4, t5, t6, t7⟩ := hT'
  refine ⟨(f 18).trans t1, k, t2, t3, (f 16).trans t4, fun z => ?_, fun z => (f 17).trans (t6 z), fun z => (f 17).trans (t7 z)⟩
  obtain ⟨w, v1, v2, v3⟩ := t5 z
  exact ⟨w, v1, (f 17).trans v2, (fr w).trans v3⟩
theorem rnm_n {I : Nat → Nat → Int32} {c a u : Nat} {v : Int32} (hc : 251 ≤ c ∧ c ≤ 258) : rnm (u2 I c a v) u = rnm I u := by
  unfold rnm rb rz
  rw [u2_k (by omega), u2_k (by omega)]
  have : (fun k => u2 I c a v 243 (ix (I 244 u) + k)) = fun k => I 243 (ix (I 244 u) + k) := by funext k; exact u2_k (by omega)
  show (hdF (fun k => u2 I c a v 243 (ix (I 244 u) + k)) _, tlF (fun k => u2 I c a v 243 (ix (I 244 u) + k)) _) = _
  rw [this]
/-- a node from z on may be written -/
theorem rSt_n {z z1 : rZ} {c a : Nat} {v : Int32} (h : rSt z z1) (hc : 251 ≤ c ∧ c ≤ 258) (ha : z.2.2.2.2.2 ≤ a) : rSt z (z1.1, u2 z1.2.1 c a v, z1.2.2) := by
  refine ⟨fun c' i c1 c2 c3 => ?_, h.2.1, fun u hu => (rnm_n hc).trans (h.2.2.1 u hu), h.2.2.2.1, h.2.2.2.2.1, h.2.2.2.2.2⟩
  rw [← h.1 c' i c1 c2 c3]
  show u2 z1.2.1 c a v c' i = _
  unfold u2
  rw [if_neg (by omega)]
end RAC
