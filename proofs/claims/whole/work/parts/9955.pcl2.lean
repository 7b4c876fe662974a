/-! the class reads the head of a clause: all of it -/
/-- what is there already -/
def hdE (K : Nat → Nat) (V : Nat → Int32) (P p t k j : Nat) (I : Nat → Nat → Int32) : Option Nat := if K j = 9 then (if (List.range k).any (fun i => decide (I (P + 18) ((p * 8 + t) * 8 + i) = nI 9) && decide (I (P + 19) ((p * 8 + t) * 8 + i) = mI 1)) = true then some j else none) else if K j = 8 then none else (if (List.range k).any (fun i => (decide (I (P + 18) ((p * 8 + t) * 8 + i) = nI 5) || decide (I (P + 18) ((p * 8 + t) * 8 + i) = nI 6) || decide (I (P + 18) ((p * 8 + t) * 8 + i) = nI 7)) && decide (I (P + 19) ((p * 8 + t) * 8 + i) = V (j + 1))) = true then some (j + 1) else none)
def inV (V : Nat → Int32) (P p kv v : Nat) (I : Nat → Nat → Int32) : Option Nat := fdP (fun i => decide (I (P + 13) (p * 6 + i) = V v)) kv 0
section CHF
variable {A : Nat → Nat} {d b n P m p : Nat} {h : Nat → Option jC} {X : jXX} {J : Nat → Nat → Int64} {R : Nat → Nat → Nat} {K : Nat → Nat} {V : Nat → Int32}
theorem c49 (hk : kOK K m) (hP : isP P) (hR1 : R 56 1 = P) (hR2 : R 56 2 = P + 4) {I : Nat → Nat → Int32} {j q t k kv L : Nat} {e : Option Nat} (ht : tkc K V m I) (ha : I 56 3 = nI (j + 1)) (hj : j < m) (h7 : I 56 7 = nI p) (hp : p < 6) (h8 : I 56 8 = nI t) (ht8 : t < 8) (h9 : I 56 9 = nI q) (hq : q < 384) (hqk : (p * 8 + t) * 8 + k ≤ q ∨ k = 8) (hv : I (P + 17) (p * 8 + t) = nI k) (hk8 : k ≤ 8) (hkv : I (P + 12) p = nI kv) (hkv6 : kv ≤ 6) (h5 : I 56 5 = exI e) (he : ∀ x, e = some x → x < 2 ^ 31) (hl : I (P + 4) 4 = nI L) (hL : L ≤ j) (hK : 5 ≤ K j ∧ K j ≤ 9) :
    ∃ I' v, jcall A jcode (d + 48) 49 [.ref (b + 56), .int (nI (K j))] (jH h b X I J R n) = some (.inl (some (.int v)), jH h b X I' J R n) ∧
    ((∃ io l j', pHc K p j = (some (io, l), j') ∧ v = nI 1 ∧ j < j' ∧ j' ≤ m ∧ L + l.length ≤ j' ∧ I' 56 3 = nI j' ∧ (k < 8 → I' 56 5 = exI (e.or (hdE K V P p t k j I))) ∧ (∃ e', I' 56 5 = exI e' ∧ (∀ x, e = some x → e' = some x) ∧ (∀ x, e' = some x → e = some x ∨ x < j')) ∧ I' (P + 19) q = (if K j ≤ 7 then V (j + 1) else mI 1) ∧ I' (P + 20) q = (match io with | none => mI 1 | some v => inO (inV V P p kv v I)) ∧ I' 56 6 = (match io with | none => I 56 6 | some v => if inV V P p kv v I = none ∧ (I 56 6 = mI 1 ∨ nI v < I 56 6) then nI v else I 56 6) ∧ (∀ v, io = some v → v < j' ∧ j < v) ∧ (K j = 8 → I' (P + 21) q = nI L) ∧ I' (P + 4) 4 = nI (L + l.length) ∧ seg V P I' L l ∧ fH P q L I I') ∨
     ∃ j', pHc K p j = (none, j') ∧ v = nI 0 ∧ oF P I I' j' ∧ j' ≤ m ∧ (∀ i, 7 ≤ i → i ≤ 9 → I' 56 i = I 56 i)) := by
  have hpp := isP_e hP
  have hk1 := hk.1
  obtain ⟨I1, hI1⟩ : ∃ I1, I1 = u2 (u2 I (P + 19) q (mI 1)) (P + 20) q (mI 1) := ⟨_, rfl⟩
  have f1 : ∀ c i, ¬ ((c = P + 19 ∨ c = P + 20) ∧ i = q) → I1 c i = I c i := fun c i z => by
    rw [hI1]
    simp only [u2_ap]; repeat (rw [if_neg (by omega)])
  have t1 : tkc K V m I1 := by rw [hI1]; exact tkc_u (by omega) (tkc_u (by omega) ht)
  have s3 : I1 56 3 = nI (j + 1) := by rw [f1 _ _ (by omega)]; exact ha
  have s5 : I1 56 5 = exI e := by rw [f1 _ _ (by omega)]; exact h5
  have s7 : I1 56 7 = nI p := by rw [f1 _ _ (by omega)]; exact h7
  have s8 : I1 56 8 = nI t := by rw [f1 _ _ (by omega)]; exact h8
  have s9 : I1 56 9 = nI q := by rw [f1 _ _ (by omega)]; exact h9
  have s17 : I1 (P + 17) (p * 8 + t) = nI k := by rw [f1 _ _ (by omega)]; exact hv
  have s12 : I1 (P + 12) p = nI kv := by rw [f1 _ _ (by omega)]; exact hkv
  have s4 : I1 (P + 4) 4 = nI L := by rw [f1 _ _ (by omega)]; exact hl
  have q19 : I1 (P + 19) q = mI 1 := by rw [hI1, u2_k (by omega), u2_s]
  have q20 : I1 (P + 20) q = mI 1 := by rw [hI1, u2_s]
  have eA : jcall A jcode (d + 48) 49 [.ref (b + 56), .int (nI (K j))] (jH h b X I J R n) = M49 A (d + 47) 26 [some (.ref (b + 56)), some (.int (nI (K j)))] [] (jH h b X I1 J R n) := by
    rw [hI1]
    simp (disch := omega) [je49, r49_0, r49_1, r49_4, r49_7, r49_8, r49_11, r49_12, r49_13, r49_14, r49_17, r49_20, r49_21, r49_24, r49_25, r49_27, r49_29, r49_32, r49_33, r49_36, r49_37, r49_40, r49_41, r49_44, r49_45, r49_46, r49_49, r49_52, r49_53, r49_54, r49_57, r49_58, r49_59, r49_62, r49_63, r49_64, r49_65, r49_67, r49_70, r49_71, r49_74, r49_75, r49_76, r49_79, r49_82, r49_83, r49_85, r49_88, r49_89, r49_92, r49_94, r49_97, r49_98, r49_101, r49_104, r49_105, r49_108, r49_109, g56, vf4_1, t56_1, gP0 hP, vf5_14, tP0_14 hP, gP19 hP, pP19 hP, vf4_9, vf5_15, tP0_15 hP, gP20 hP, pP20 hP, vf4_7, vf4_8, qa78, qo78, vf4_3, qa41, qo41, qa50, qo50, qa51, qo51, qa38, qo38, qa52, qo52, List.getElem?_cons_zero, List.getElem?_cons_succ, List.length_cons, List.length_nil, ag_nx, ag_dn, ag_no, ag_if, jbr1, jbr2, jc1, jc2, jnul, jld, jsto, jstoL, jst1, jst2, jkill, jinc, jbI, jbL, jbS, juI, jl2i, jcmp, jisR, jisI, jisL, jret, jretv, jfits, jdup, jdup2, jpop, jmm, jcat, Value.category, jinv, jrcv, jthr, jhd, jput, jget, jlen, jald, jast, jaast, jgI, jgL, jgB, jtab, jlku, jacp, vf20, vf21, vf22, vf23, vf24, u2_s, u2_k, u2_i, uc_s, uc_k, uc_c, u2_c, LI0, LI1, LI2, LI3, LI4, LI5, LI6, LI7, LI8, LI9, LI10, LI11, LI12, LI13, LI14, LI15, LI16, LI17, LI18, LI19, LI20, LI21, LI22, LI23, LI24, LI25, LI26, LI27, LI28, LI29, LI30, LI31, LI32, LI33, LI34, LI35, LI36, LI37, LI40, LI42, LI43, LI45, LI48, LI60, LI61, LI64, LI80, LI300, LI400, LI1000, LI2000, LI2001, LI2047, LI2048, LI100000, LI1000000, LI38, LI39, LI41, LI44, LI46, LI47, LI49, LI50, LI51, LI52, LI53, LI54, LI55, LI56, LI57, LI58, LI59, LI62, LI63, LI65, LI66, LI67, LI68, LI69, LI70, LI71, LI72, LI73, LI74, LI75, LI76, LI77, LI78, LI79, LI81, LI82, LI83, LI84, LI85, LI86, LI87, LI88, LI89, LI90, LI91, LI92, LI93, LI94, LI95, LI96, LI97, LI98, LI99, LI100, LI101, LI102, LI103, LI104, LI105, LI106, LI107, LI108, LI109, LI110, LI111, LI112, LI113, LI114, LI115, LI116, LI117, LI118, LI119, LI120, LI121, LI122, LI123, LI124, LI125, LI126, LI127, LI255, LI256, LI999, LI1001, LI1002, LI1600, LI4096, LI1000001, LI2042, LM, nI_clamp, nI_pos', nI_lt, nI_nlt, nI_le, nI_ge, nI_ne, nI_add, nI_sub, mI_lt, mI_le, mI_nlt, mI_nle, mI_ne, mI_ne', mI_nem, hR1, h9, hq]
  rw [eA]
  unfold pHc hdE
  by_cases h99 : K j = 9
  · rw [if_pos h99]
    have e78 := c78 (d := d + 46) (A := A) (b := b) (h := h) (X := X) (J := J) (R := R) (n := n) (I := I1) (kd := nI 9) (x := mI 1) hP hp ht8 s17 hk8
    obtain ⟨o, ho⟩ : ∃ o, o = fdP (fun i => decide (I1 (P + 18) ((p * 8 + t) * 8 + i) = nI 9) && decide (I1 (P + 19) ((p * 8 + t) * 8 + i) = mI 1)) k 0 := ⟨_, rfl⟩
    have hob := fun x (hx : o = some x) => fdP_b k 0 x (ho ▸ hx)
    have hany := fdP_any (q := fun i => decide (I1 (P + 18) ((p * 8 + t) * 8 + i) = nI 9) && decide (I1 (P + 19) ((p * 8 + t) * 8 + i) = mI 1)) k 0
    rw [← ho] at e78 hany
    simp only [Nat.zero_add] at hany
    have e41 := c41 (d := d + 46) (A := A) (b := b) (h := h) (X := X) (J := J) (R := R) (n := n) (I := I1) (t := j) s5 he
    obtain ⟨e', he'⟩ : ∃ e', e' = e.or (if o = none then none else some j) := ⟨_, rfl⟩
    refine ⟨u2 I1 56 5 (exI e'), nI 1, ?_, Or.inl ⟨none, [], j + 1, rfl, rfl, by omega, by omega, by simp; omega, ?_, ?_, ⟨e', u2_s, ?_, ?_⟩, ?_, ?_, ?_, (fun v hv => by cases hv), (fun z => by omega), ?_, seg_nil, ?_⟩⟩
    · rw [h99]
      cases o with
      | none =>
        simp only [clO] at e78
        simp only [LI0, LI1, LI2, LI3, LI4, LI5, LI6, LI7, LI8, LI9, LI10, LI11, LI12, LI13, LI14, LI15, LI16, LI17, LI18, LI19, LI20, LI21, LI22, LI23, LI24, LI25, LI26, LI27, LI28, LI29, LI30, LI31, LI32, LI33, LI34, LI35, LI36, LI37, LI40, LI42, LI43, LI45, LI48, LI60, LI61, LI64, LI80, LI300, LI400, LI1000, LI2000, LI2001, LI2047, LI2048, LI100000, LI1000000, LI38, LI39, LI41, LI44, LI46, LI47, LI49, LI50, LI51, LI52, LI53, LI54, LI55, LI56, LI57, LI58, LI59, LI62, LI63, LI65, LI66, LI67, LI68, LI69, LI70, LI71, LI72, LI73, LI74, LI75, LI76, LI77, LI78, LI79, LI81, LI82, LI83, LI84, LI85, LI86, LI87, LI88, LI89, LI90, LI91, LI92, LI93, LI94, LI95, LI96, LI97, LI98, LI99, LI100, LI101, LI102, LI103, LI104, LI105, LI106, LI107, LI108, LI109, LI110, LI111, LI112, LI113, LI114, LI115, LI116, LI117, LI118, LI119, LI120, LI121, LI122, LI123, LI124, LI125, LI126, LI127, LI255, LI256, LI999, LI1001, LI1002, LI1600, LI4096, LI1000001, LI2042, LM] at e78
        simp only [if_true, Option.or_none] at he'
        rw [he', u2_same s5]
        simp (disch := omega) [r49_0, r49_1, r49_4, r49_7, r49_8, r49_11, r49_12, r49_13, r49_14, r49_17, r49_20, r49_21, r49_24, r49_25, r49_26, r49_27, r49_29, r49_32, r49_33, r49_36, r49_37, r49_40, r49_41, r49_44, r49_45, r49_46, r49_49, r49_52, r49_53, r49_54, r49_57, r49_58, r49_59, r49_62, r49_63, r49_64, r49_65, r49_67, r49_70, r49_71, r49_74, r49_75, r49_76, r49_79, r49_82, r49_83, r49_85, r49_88, r49_89, r49_92, r49_94, r49_97, r49_98, r49_101, r49_104, r49_105, r49_108, r49_109, g56, vf4_1, t56_1, gP0 hP, vf5_14, tP0_14 hP, gP19 hP, pP19 hP, vf4_9, vf5_15, tP0_15 hP, gP20 hP, pP20 hP, vf4_7, vf4_8, qa78, qo78, vf4_3, qa41, qo41, qa50, qo50, qa51, qo51, qa38, qo38, qa52, qo52, List.getElem?_cons_zero, List.getElem?_cons_succ, List.length_cons, List.length_nil, ag_nx, ag_dn, ag_no, ag_if, jbr1, jbr2, jc1, jc2, jnul, jld, jsto, jstoL, jst1, jst2, jkill, jinc, jbI, jbL, jbS, juI, jl2i, jcmp, jisR, jisI, jisL, jret, jretv, jfits, jdup, jdup2, jpop, jmm, jcat, Value.category, jinv, jrcv, jthr, jhd, jput, jget, jlen, jald, jast, jaast, jgI, jgL, jgB, jtab, jlku, jacp, vf20, vf21, vf22, vf23, vf24, u2_s, u2_k, u2_i, uc_s, uc_k, uc_c, u2_c, LI0, LI1, LI2, LI3, LI4, LI5, LI6, LI7, LI8, LI9, LI10, LI11, LI12, LI13, LI14, LI15, LI16, LI17, LI18, LI19, LI20, LI21, LI22, LI23, LI24, LI25, LI26, LI27, LI28, LI29, LI30, LI31, LI32, LI33, LI34, LI35, LI36, LI37, LI40, LI42, LI43, LI45, LI48, LI60, LI61, LI64, LI80, LI300, LI400, LI1000, LI2000, LI2001, LI2047, LI2048, LI100000, LI1000000, LI38, LI39, LI41, LI44, LI46, LI47, LI49, LI50, LI51, LI52, LI53, LI54, LI55, LI56, LI57, LI58, LI59, LI62, LI63, LI65, LI66, LI67, LI68, LI69, LI70, LI71, LI72, LI73, LI74, LI75, LI76, LI77, LI78, LI79, LI81, LI82, LI83, LI84, LI85, LI86, LI87, LI88, LI89, LI90, LI91, LI92, LI93, LI94, LI95, LI96, LI97, LI98, LI99, LI100, LI101, LI102, LI103, LI104, LI105, LI106, LI107, LI108, LI109, LI110, LI111, LI112, LI113, LI114, LI115, LI116, LI117, LI118, LI119, LI120, LI121, LI122, LI123, LI124, LI125, LI126, LI127, LI255, LI256, LI999, LI1001, LI1002, LI1600, LI4096, LI1000001, LI2042, LM, nI_clamp, nI_pos', nI_lt, nI_nlt, nI_le, nI_ge, nI_ne, nI_add, nI_sub, mI_lt, mI_le, mI_nlt, mI_nle, mI_ne, mI_ne', mI_nem, hR1, s7, s8, e78]
      | some x =>
        have := hob x rfl
        simp only [clO] at e78
        simp only [reduceCtorEq, if_false] at he'
        rw [he']
        simp (disch := omega) [r49_0, r49_1, r49_4, r49_7, r49_8, r49_11, r49_12, r49_13, r49_14, r49_17, r49_20, r49_21, r49_24, r49_25, r49_26, r49_27, r49_29, r49_32, r49_33, r49_36, r49_37, r49_40, r49_41, r49_44, r49_45, r49_46, r49_49, r49_52, r49_53, r49_54, r49_57, r49_58, r49_59, r49_62, r49_63, r49_64, r49_65, r49_67, r49_70, r49_71, r49_74, r49_75, r49_76, r49_79, r49_82, r49_83, r49_85, r49_88, r49_89, r49_92, r49_94, r49_97, r49_98, r49_101, r49_104, r49_105, r49_108, r49_109, g56, vf4_1, t56_1, gP0 hP, vf5_14, tP0_14 hP, gP19 hP, pP19 hP, vf4_9, vf5_15, tP0_15 hP, gP20 hP, pP20 hP, vf4_7, vf4_8, qa78, qo78, vf4_3, qa41, qo41, qa50, qo50, qa51, qo51, qa38, qo38, qa52, qo52, List.getElem?_cons_zero, List.getElem?_cons_succ, List.length_cons, List.length_nil, ag_nx, ag_dn, ag_no, ag_if, jbr1, jbr2, jc1, jc2, jnul, jld, jsto, jstoL, jst1, jst2, jkill, jinc, jbI, jbL, jbS, juI, jl2i, jcmp, jisR, jisI, jisL, jret, jretv, jfits, jdup, jdup2, jpop, jmm, jcat, Value.category, jinv, jrcv, jthr, jhd, jput, jget, jlen, jald, jast, jaast, jgI, jgL, jgB, jtab, jlku, jacp, vf20, vf21, vf22, vf23, vf24, u2_s, u2_k, u2_i, uc_s, uc_k, uc_c, u2_c, LI0, LI1, LI2, LI3, LI4, LI5, LI6, LI7, LI8, LI9, LI10, LI11, LI12, LI13, LI14, LI15, LI16, LI17, LI18, LI19, LI20, LI21, LI22, LI23, LI24, LI25, LI26, LI27, LI28, LI29, LI30, LI31, LI32, LI33, LI34, LI35, LI36, LI37, LI40, LI42, LI43, LI45, LI48, LI60, LI61, LI64, LI80, LI300, LI400, LI1000, LI2000, LI2001, LI2047, LI2048, LI100000, LI1000000, LI38, LI39, LI41, LI44, LI46, LI47, LI49, LI50, LI51, LI52, LI53, LI54, LI55, LI56, LI57, LI58, LI59, LI62, LI63, LI65, LI66, LI67, LI68, LI69, LI70, LI71, LI72, LI73, LI74, LI75, LI76, LI77, LI78, LI79, LI81, LI82, LI83, LI84, LI85, LI86, LI87, LI88, LI89, LI90, LI91, LI92, LI93, LI94, LI95, LI96, LI97, LI98, LI99, LI100, LI101, LI102, LI103, LI104, LI105, LI106, LI107, LI108, LI109, LI110, LI111, LI112, LI113, LI114, LI115, LI116, LI117, LI118, LI119, LI120, LI121, LI122, LI123, LI124, LI125, LI126, LI127, LI255, LI256, LI999, LI1001, LI1002, LI1600, LI4096, LI1000001, LI2042, LM, nI_clamp, nI_pos', nI_lt, nI_nlt, nI_le, nI_ge, nI_ne, nI_add, nI_sub, mI_lt, mI_le, mI_nlt, mI_nle, mI_ne, mI_ne', mI_nem, hR1, s7, s8, s3, e78, e41]
    · rw [u2_i (by omega)]; exact s3
    · intro hk88
      rw [u2_s, he', if_pos h99]
      congr 2
      have hq' : (p * 8 + t) * 8 + k ≤ q := by omega
      have : (List.range k).any (fun i => decide (I (P + 18) ((p * 8 + t) * 8 + i) = nI 9) && decide (I (P + 19) ((p * 8 + t) * 8 + i) = mI 1)) = o.isSome := by
        rw [hany]
        apply Bool.eq_iff_iff.mpr
        simp only [List.any_eq_true, List.mem_range]
        constructor
        · rintro ⟨i, hi, hz⟩
          exact ⟨i, hi, by rw [f1 _ _ (by omega), f1 _ _ (by omega)]; exact hz⟩
        · rintro ⟨i, hi, hz⟩
          exact ⟨i, hi, by rw [f1 _ _ (by omega), f1 _ _ (by omega)] at hz; exact hz⟩
      rw [this]
      cases o <;> simp
    · intro x hx
      rw [he', hx]; rfl
    · intro x hx
      rw [he'] at hx
      cases e with
      | some y => simp at hx; exact Or.inl (by rw [hx])
      | none =>
        right
        simp only [Option.none_or] at hx
        split at hx
        · cases hx
        · cases hx; omega
    · rw [u2_k (by omega), if_neg (by omega)]; exact q19
    · rw [u2_k (by omega)]; exact q20
    · rw [u2_i (by omega), f1 _ _ (by omega)]
    · rw [u2_k (by omega)]; exact s4
    · intro c i b1 b2 b3 b4
      rw [← f1 c i (by omega)]
      simp only [u2_ap]; repeat (rw [if_neg (by omega)])
  rw [if_neg h99]
  by_cases h88 : K j = 8
  · rw [if_pos h88]
    have ox := xB_ok (pr := p) hk.2.1 8 (j + 1) (by omega)
    obtain ⟨I2, v2, e2, h2⟩ := c50 (d := d + 1) (A := A) (b := b) (h := h) (X := X) (J := J) (R := R) (n := n) (I := I1) (V := V) (p := p) hk hP hR1 hR2 ⟨t1, s7⟩ s3 (by omega) s4 (by omega) s9 hq
    rcases h2 with ⟨l, j', a2, rfl, g1, g2, g3, g4, g5⟩ | ⟨j', a2, rfl, hF, hKp⟩
    · rw [a2] at ox ⊢
      obtain ⟨ox1, ox2, ox3⟩ := ox
      have ox4 := (ox3 l rfl).1
      have ox5 := xB_lt hk.2.1 (by omega) a2
      simp only at ox1 ox2 ox4
      refine ⟨I2, nI 1, ?_, Or.inl ⟨none, _, j', rfl, rfl, by omega, ox2, by simp only [List.length_append, List.length_cons, List.length_nil]; omega, g1, (fun _ => ?_), ⟨e, ?_, (fun x hx => hx), (fun x hx => Or.inl hx)⟩, ?_, ?_, ?_, (fun v hv => by cases hv), (fun _ => g2), g3, g4, ?_⟩⟩
      · rw [h88]
        simp (disch := omega) [r49_0, r49_1, r49_4, r49_7, r49_8, r49_11, r49_12, r49_13, r49_14, r49_17, r49_20, r49_21, r49_24, r49_25, r49_26, r49_27, r49_29, r49_32, r49_33, r49_36, r49_37, r49_40, r49_41, r49_44, r49_45, r49_46, r49_49, r49_52, r49_53, r49_54, r49_57, r49_58, r49_59, r49_62, r49_63, r49_64, r49_65, r49_67, r49_70, r49_71, r49_74, r49_75, r49_76, r49_79, r49_82, r49_83, r49_85, r49_88, r49_89, r49_92, r49_94, r49_97, r49_98, r49_101, r49_104, r49_105, r49_108, r49_109, g56, vf4_1, t56_1, gP0 hP, vf5_14, tP0_14 hP, gP19 hP, pP19 hP, vf4_9, vf5_15, tP0_15 hP, gP20 hP, pP20 hP, vf4_7, vf4_8, qa78, qo78, vf4_3, qa41, qo41, qa50, qo50, qa51, qo51, qa38, qo38, qa52, qo52, List.getElem?_cons_zero, List.getElem?_cons_succ, List.length_cons, List.length_nil, ag_nx, ag_dn, ag_no, ag_if, jbr1, jbr2, jc1, jc2, jnul, jld, jsto, jstoL, jst1, jst2, jkill, jinc, jbI, jbL, jbS, juI, jl2i, jcmp, jisR, jisI, jisL, jret, jretv, jfits, jdup, jdup2, jpop, jmm, jcat, Value.category, jinv, jrcv, jthr, jhd, jput, jget, jlen, jald, jast, jaast, jgI, jgL, jgB, jtab, jlku, jacp, vf20, vf21, vf22, vf23, vf24, u2_s, u2_k, u2_i, uc_s, uc_k, uc_c, u2_c, LI0, LI1, LI2, LI3, LI4, LI5, LI6, LI7, LI8, LI9, LI10, LI11, LI12, LI13, LI14, LI15, LI16, LI17, LI18, LI19, LI20, LI21, LI22, LI23, LI24, LI25, LI26, LI27, LI28, LI29, LI30, LI31, LI32, LI33, LI34, LI35, LI36, LI37, LI40, LI42, LI43, LI45, LI48, LI60, LI61, LI64, LI80, LI300, LI400, LI1000, LI2000, LI2001, LI2047, LI2048, LI100000, LI1000000, LI38, LI39, LI41, LI44, LI46, LI47, LI49, LI50, LI51, LI52, LI53, LI54, LI55, LI56, LI57, LI58, LI59, LI62, LI63, LI65, LI66, LI67, LI68, LI69, LI70, LI71, LI72, LI73, LI74, LI75, LI76, LI77, LI78, LI79, LI81, LI82, LI83, LI84, LI85, LI86, LI87, LI88, LI89, LI90, LI91, LI92, LI93, LI94, LI95, LI96, LI97, LI98, LI99, LI100, LI101, LI102, LI103, LI104, LI105, LI106, LI107, LI108, LI109, LI110, LI111, LI112, LI113, LI114, LI115, LI116, LI117, LI118, LI119, LI120, LI121, LI122, LI123, LI124, LI125, LI126, LI127, LI255, LI256, LI999, LI1001, LI1002, LI1600, LI4096, LI1000001, LI2042, LM, nI_clamp, nI_pos', nI_lt, nI_nlt, nI_le, nI_ge, nI_ne, nI_add, nI_sub, mI_lt, mI_le, mI_nlt, mI_nle, mI_ne, mI_ne', mI_nem, e2]
      · rw [if_neg h99, if_pos h88, g5 _ _ (by omega) (by omega) (by omega) (by omega), s5]
        simp
      · rw [g5 _ _ (by omega) (by omega) (by omega) (by omega)]; exact s5
      · rw [if_neg (by omega), g5 _ _ (by omega) (by omega) (by omega) (by omega)]; exact q19
      · rw [g5 _ _ (by omega) (by omega) (by omega) (by omega)]; exact q20
      · rw [g5 _ _ (by omega) (by omega) (by omega) (by omega), f1 _ _ (by omega)]
      · intro c i b1 b2 b3 b4
        rw [g5 c i (by omega) b2 b3 (by omega), f1 _ _ (by omega)]
    · rw [a2] at ox ⊢
      refine ⟨I2, nI 0, ?_, Or.inr ⟨j', rfl, rfl, ⟨hF.1, fun c i b1 b2 b3 => ?_⟩, ox.2.1, fun i b1 b2 => ?_⟩⟩
      · rw [h88]
        simp (disch := omega) [r49_0, r49_1, r49_4, r49_7, r49_8, r49_11, r49_12, r49_13, r49_14, r49_17, r49_20, r49_21, r49_24, r49_25, r49_26, r49_27, r49_29, r49_32, r49_33, r49_36, r49_37, r49_40, r49_41, r49_44, r49_45, r49_46, r49_49, r49_52, r49_53, r49_54, r49_57, r49_58, r49_59, r49_62, r49_63, r49_64, r49_65, r49_67, r49_70, r49_71, r49_74, r49_75, r49_76, r49_79, r49_82, r49_83, r49_85, r49_88, r49_89, r49_92, r49_94, r49_97, r49_98, r49_101, r49_104, r49_105, r49_108, r49_109, g56, vf4_1, t56_1, gP0 hP, vf5_14, tP0_14 hP, gP19 hP, pP19 hP, vf4_9, vf5_15, tP0_15 hP, gP20 hP, pP20 hP, vf4_7, vf4_8, qa78, qo78, vf4_3, qa41, qo41, qa50, qo50, qa51, qo51, qa38, qo38, qa52, qo52, List.getElem?_cons_zero, List.getElem?_cons_succ, List.length_cons, List.length_nil, ag_nx, ag_dn, ag_no, ag_if, jbr1, jbr2, jc1, jc2, jnul, jld, jsto, jstoL, jst1, jst2, jkill, jinc, jbI, jbL, jbS, juI, jl2i, jcmp, jisR, jisI, jisL, jret, jretv, jfits, jdup, jdup2, jpop, jmm, jcat, Value.category, jinv, jrcv, jthr, jhd, jput, jget, jlen, jald, jast, jaast, jgI, jgL, jgB, jtab, jlku, jacp, vf20, vf21, vf22, vf23, vf24, u2_s, u2_k, u2_i, uc_s, uc_k, uc_c, u2_c, LI0, LI1, LI2, LI3, LI4, LI5, LI6, LI7, LI8, LI9, LI10, LI11, LI12, LI13, LI14, LI15, LI16, LI17, LI18, LI19, LI20, LI21, LI22, LI23, LI24, LI25, LI26, LI27, LI28, LI29, LI30, LI31, LI32, LI33, LI34, LI35, LI36, LI37, LI40, LI42, LI43, LI45, LI48, LI60, LI61, LI64, LI80, LI300, LI400, LI1000, LI2000, LI2001, LI2047, LI2048, LI100000, LI1000000, LI38, LI39, LI41, LI44, LI46, LI47, LI49, LI50, LI51, LI52, LI53, LI54, LI55, LI56, LI57, LI58, LI59, LI62, LI63, LI65, LI66, LI67, LI68, LI69, LI70, LI71, LI72, LI73, LI74, LI75, LI76, LI77, LI78, LI79, LI81, LI82, LI83, LI84, LI85, LI86, LI87, LI88, LI89, LI90, LI91, LI92, LI93, LI94, LI95, LI96, LI97, LI98, LI99, LI100, LI101, LI102, LI103, LI104, LI105, LI106, LI107, LI108, LI109, LI110, LI111, LI112, LI113, LI114, LI115, LI116, LI117, LI118, LI119, LI120, LI121, LI122, LI123, LI124, LI125, LI126, LI127, LI255, LI256, LI999, LI1001, LI1002, LI1600, LI4096, LI1000001, LI2042, LM, nI_clamp, nI_pos', nI_lt, nI_nlt, nI_le, nI_ge, nI_ne, nI_add, nI_sub, mI_lt, mI_le, mI_nlt, mI_nle, mI_ne, mI_ne', mI_nem, e2]
      · rw [hF.2 c i b1 b2 b3, f1 _ _ (by omega)]
      · rw [hKp i b1 b2, f1 _ _ (by omega)]
  rw [if_neg h88]
  have n9 : ¬ nI (K j) = nI 9 := nI_ne h99 (by omega) (by omega)
  have n8 : ¬ nI (K j) = nI 8 := nI_ne h88 (by omega) (by omega)
  rcases c51 (d := d + 45) (A := A) (b := b) (h := h) (X := X) (J := J) (R := R) (n := n) (I := I1) (V := V) (L := L) hk hP hR1 t1 s3 (by omega) s7 hp s8 ht8 s9 hq s17 hk8 s5 he with ⟨k1, e51⟩ | ⟨k1, I2, e51, a2, x2, r2, f2⟩
  · rw [if_neg k1]
    refine ⟨I1, nI 0, ?_, Or.inr ⟨j + 1, rfl, rfl, ⟨s3, fun c i b1 b2 b3 => f1 c i (by omega)⟩, by omega, fun i b1 b2 => f1 56 i (by omega)⟩⟩
    simp (disch := omega) [r49_0, r49_1, r49_4, r49_7, r49_8, r49_11, r49_12, r49_13, r49_14, r49_17, r49_20, r49_21, r49_24, r49_25, r49_26, r49_27, r49_29, r49_32, r49_33, r49_36, r49_37, r49_40, r49_41, r49_44, r49_45, r49_46, r49_49, r49_52, r49_53, r49_54, r49_57, r49_58, r49_59, r49_62, r49_63, r49_64, r49_65, r49_67, r49_70, r49_71, r49_74, r49_75, r49_76, r49_79, r49_82, r49_83, r49_85, r49_88, r49_89, r49_92, r49_94, r49_97, r49_98, r49_101, r49_104, r49_105, r49_108, r49_109, g56, vf4_1, t56_1, gP0 hP, vf5_14, tP0_14 hP, gP19 hP, pP19 hP, vf4_9, vf5_15, tP0_15 hP, gP20 hP, pP20 hP, vf4_7, vf4_8, qa78, qo78, vf4_3, qa41, qo41, qa50, qo50, qa51, qo51, qa38, qo38, qa52, qo52, List.getElem?_cons_zero, List.getElem?_cons_succ, List.length_cons, List.length_nil, ag_nx, ag_dn, ag_no, ag_if, jbr1, jbr2, jc1, jc2, jnul, jld, jsto, jstoL, jst1, jst2, jkill, jinc, jbI, jbL, jbS, juI, jl2i, jcmp, jisR, jisI, jisL, jret, jretv, jfits, jdup, jdup2, jpop, jmm, jcat, Value.category, jinv, jrcv, jthr, jhd, jput, jget, jlen, jald, jast, jaast, jgI, jgL, jgB, jtab, jlku, jacp, vf20, vf21, vf22, vf23, vf24, u2_s, u2_k, u2_i, uc_s, uc_k, uc_c, u2_c, LI0, LI1, LI2, LI3, LI4, LI5, LI6, LI7, LI8, LI9, LI10, LI11, LI12, LI13, LI14, LI15, LI16, LI17, LI18, LI19, LI20, LI21, LI22, LI23, LI24, LI25, LI26, LI27, LI28, LI29, LI30, LI31, LI32, LI33, LI34, LI35, LI36, LI37, LI40, LI42, LI43, LI45, LI48, LI60, LI61, LI64, LI80, LI300, LI400, LI1000, LI2000, LI2001, LI2047, LI2048, LI100000, LI1000000, LI38, LI39, LI41, LI44, LI46, LI47, LI49, LI50, LI51, LI52, LI53, LI54, LI55, LI56, LI57, LI58, LI59, LI62, LI63, LI65, LI66, LI67, LI68, LI69, LI70, LI71, LI72, LI73, LI74, LI75, LI76, LI77, LI78, LI79, LI81, LI82, LI83, LI84, LI85, LI86, LI87, LI88, LI89, LI90, LI91, LI92, LI93, LI94, LI95, LI96, LI97, LI98, LI99, LI100, LI101, LI102, LI103, LI104, LI105, LI106, LI107, LI108, LI109, LI110, LI111, LI112, LI113, LI114, LI115, LI116, LI117, LI118, LI119, LI120, LI121, LI122, LI123, LI124, LI125, LI126, LI127, LI255, LI256, LI999, LI1001, LI1002, LI1600, LI4096, LI1000001, LI2042, LM, nI_clamp, nI_pos', nI_lt, nI_nlt, nI_le, nI_ge, nI_ne, nI_add, nI_sub, mI_lt, mI_le, mI_nlt, mI_nle, mI_ne, mI_ne', mI_nem, n9, n8, e51]
  · rw [if_pos k1]
    have hj2 := hk.2.1 (j + 1) (by omega) (by rw [k1]; decide)
    have t2 : tkc K V m I2 := fun i hi => by rw [f2 5 i (by omega) (by omega), f2 7 i (by omega) (by omega)]; exact t1 i hi
    have e38 := c38 (d := d + 46) (A := A) (b := b) (h := h) (X := X) (J := J) (R := R) (n := n) (I := I2) hk t2 a2 (by omega)
    have hex : k < 8 → I2 56 5 = exI (e.or (if (List.range k).any (fun i => (decide (I (P + 18) ((p * 8 + t) * 8 + i) = nI 5) || decide (I (P + 18) ((p * 8 + t) * 8 + i) = nI 6) || decide (I (P + 18) ((p * 8 + t) * 8 + i) = nI 7)) && decide (I (P + 19) ((p * 8 + t) * 8 + i) = V (j + 1))) = true then some (j + 1) else none)) := by
      intro hk88
      rw [x2]
      congr 2
      have hq' : (p * 8 + t) * 8 + k ≤ q := by omega
      have : ∀ i, i < k → I1 (P + 18) ((p * 8 + t) * 8 + i) = I (P + 18) ((p * 8 + t) * 8 + i) ∧ I1 (P + 19) ((p * 8 + t) * 8 + i) = I (P + 19) ((p * 8 + t) * 8 + i) := fun i hi => ⟨f1 _ _ (by omega), f1 _ _ (by omega)⟩
      have h2 : (List.range k).any (fun i => (decide (I1 (P + 18) ((p * 8 + t) * 8 + i) = nI 5) || decide (I1 (P + 18) ((p * 8 + t) * 8 + i) = nI 6) || decide (I1 (P + 18) ((p * 8 + t) * 8 + i) = nI 7)) && decide (I1 (P + 19) ((p * 8 + t) * 8 + i) = V (j + 1))) = (List.range k).any (fun i => (decide (I (P + 18) ((p * 8 + t) * 8 + i) = nI 5) || decide (I (P + 18) ((p * 8 + t) * 8 + i) = nI 6) || decide (I (P + 18) ((p * 8 + t) * 8 + i) = nI 7)) && decide (I (P + 19) ((p * 8 + t) * 8 + i) = V (j + 1))) := by
        apply Bool.eq_iff_iff.mpr
        simp only [List.any_eq_true, List.mem_range]
        constructor
        · rintro ⟨i, hi, hz⟩
          exact ⟨i, hi, by rw [(this i hi).1, (this i hi).2] at hz; exact hz⟩
        · rintro ⟨i, hi, hz⟩
          exact ⟨i, hi, by rw [(this i hi).1, (this i hi).2]; exact hz⟩
      rw [h2]
    have hex' : ∃ e', I2 56 5 = exI e' ∧ (∀ x, e = some x → e' = some x) ∧ ∀ x, e' = some x → e = some x ∨ x < j + 2 := by
      refine ⟨_, x2, fun x hx => by rw [hx]; rfl, fun x hx => ?_⟩
      cases e with
      | some y => simp at hx; exact Or.inl (by rw [hx])
      | none =>
        right
        simp only [Option.none_or] at hx
        split at hx
        · cases hx; omega
        · cases hx
    by_cases h2 : K j ≠ 7 ∧ K (j + 2) = 40
    · rw [if_pos h2]
      rw [h2.2] at e38
      have n7 : ¬ nI (K j) = nI 7 := nI_ne h2.1 (by omega) (by omega)
      obtain ⟨I3, v3, e3, h3⟩ := c52 (d := d + 45) (A := A) (b := b) (h := h) (X := X) (J := J) (R := R) (n := n) (I := I2) (V := V) (p := p) (q := q) (k := kv) hk hP hR1 t2 a2 (by omega) (by rw [f2 _ _ (by omega) (by omega)]; exact s7) hp (by rw [f2 _ _ (by omega) (by omega)]; exact s9) hq (by rw [f2 _ _ (by omega) (by omega)]; exact s12) hkv6 h2.2
      rcases h3 with ⟨rfl, m1, m2, a3, r3, u3, f3⟩ | ⟨j', rfl, hF, hKp, hw⟩
      · have m1' : K (j + 3) = 26 := m1
        have m2' : K (j + 4) = 41 := m2
        rw [if_pos m1', if_pos m2']
        have hj3 := hk.2.1 (j + 2) (by omega) (by rw [h2.2]; decide)
        have hj4 := hk.2.1 (j + 3) (by omega) (by rw [m1']; decide)
        have hj5 := hk.2.1 (j + 4) (by omega) (by rw [m2']; decide)
        have q13 : (fun i => decide (I2 (P + 13) (p * 6 + i) = V (j + 1 + 1 + 1))) = fun i => decide (I (P + 13) (p * 6 + i) = V (j + 3)) := by funext i; rw [f2 _ _ (by omega) (by omega), f1 _ _ (by omega)]
        rw [q13] at r3 u3
        rw [show I2 56 6 = I 56 6 by rw [f2 _ _ (by omega) (by omega), f1 _ _ (by omega)]] at u3
        refine ⟨I3, nI 1, ?_, Or.inl ⟨some (j + 3), [], j + 5, rfl, rfl, by omega, by omega, by simp; omega, a3, ?_, ?_, ?_, r3, u3, (fun v hv => by cases hv; omega), (fun z => absurd z h88), ?_, seg_nil, ?_⟩⟩
        · simp (disch := omega) [r49_0, r49_1, r49_4, r49_7, r49_8, r49_11, r49_12, r49_13, r49_14, r49_17, r49_20, r49_21, r49_24, r49_25, r49_26, r49_27, r49_29, r49_32, r49_33, r49_36, r49_37, r49_40, r49_41, r49_44, r49_45, r49_46, r49_49, r49_52, r49_53, r49_54, r49_57, r49_58, r49_59, r49_62, r49_63, r49_64, r49_65, r49_67, r49_70, r49_71, r49_74, r49_75, r49_76, r49_79, r49_82, r49_83, r49_85, r49_88, r49_89, r49_92, r49_94, r49_97, r49_98, r49_101, r49_104, r49_105, r49_108, r49_109, g56, vf4_1, t56_1, gP0 hP, vf5_14, tP0_14 hP, gP19 hP, pP19 hP, vf4_9, vf5_15, tP0_15 hP, gP20 hP, pP20 hP, vf4_7, vf4_8, qa78, qo78, vf4_3, qa41, qo41, qa50, qo50, qa51, qo51, qa38, qo38, qa52, qo52, List.getElem?_cons_zero, List.getElem?_cons_succ, List.length_cons, List.length_nil, ag_nx, ag_dn, ag_no, ag_if, jbr1, jbr2, jc1, jc2, jnul, jld, jsto, jstoL, jst1, jst2, jkill, jinc, jbI, jbL, jbS, juI, jl2i, jcmp, jisR, jisI, jisL, jret, jretv, jfits, jdup, jdup2, jpop, jmm, jcat, Value.category, jinv, jrcv, jthr, jhd, jput, jget, jlen, jald, jast, jaast, jgI, jgL, jgB, jtab, jlku, jacp, vf20, vf21, vf22, vf23, vf24, u2_s, u2_k, u2_i, uc_s, uc_k, uc_c, u2_c, LI0, LI1, LI2, LI3, LI4, LI5, LI6, LI7, LI8, LI9, LI10, LI11, LI12, LI13, LI14, LI15, LI16, LI17, LI18, LI19, LI20, LI21, LI22, LI23, LI24, LI25, LI26, LI27, LI28, LI29, LI30, LI31, LI32, LI33, LI34, LI35, LI36, LI37, LI40, LI42, LI43, LI45, LI48, LI60, LI61, LI64, LI80, LI300, LI400, LI1000, LI2000, LI2001, LI2047, LI2048, LI100000, LI1000000, LI38, LI39, LI41, LI44, LI46, LI47, LI49, LI50, LI51, LI52, LI53, LI54, LI55, LI56, LI57, LI58, LI59, LI62, LI63, LI65, LI66, LI67, LI68, LI69, LI70, LI71, LI72, LI73, LI74, LI75, LI76, LI77, LI78, LI79, LI81, LI82, LI83, LI84, LI85, LI86, LI87, LI88, LI89, LI90, LI91, LI92, LI93, LI94, LI95, LI96, LI97, LI98, LI99, LI100, LI101, LI102, LI103, LI104, LI105, LI106, LI107, LI108, LI109, LI110, LI111, LI112, LI113, LI114, LI115, LI116, LI117, LI118, LI119, LI120, LI121, LI122, LI123, LI124, LI125, LI126, LI127, LI255, LI256, LI999, LI1001, LI1002, LI1600, LI4096, LI1000001, LI2042, LM, nI_clamp, nI_pos', nI_lt, nI_nlt, nI_le, nI_ge, nI_ne, nI_add, nI_sub, mI_lt, mI_le, mI_nlt, mI_nle, mI_ne, mI_ne', mI_nem, n9, n8, n7, e51, e38, e3]
        · intro hk88
          rw [if_neg h99, if_neg h88, f3 _ _ (by omega) (by omega)]
          exact hex hk88
        · obtain ⟨e', z1, z2, z3⟩ := hex'
          exact ⟨e', by rw [f3 _ _ (by omega) (by omega)]; exact z1, z2, fun x hx => by rcases z3 x hx with z | z; exact Or.inl z; exact Or.inr (by omega)⟩
        · rw [if_pos (by omega), f3 _ _ (by omega) (by omega)]; exact r2
        · rw [f3 _ _ (by omega) (by omega), f2 _ _ (by omega) (by omega)]; exact s4
        · intro c i b1 b2 b3 b4
          rw [f3 c i (by omega) (by omega), f2 c i (by omega) (by omega), f1 _ _ (by omega)]
      · refine ⟨I3, nI 0, ?_, Or.inr ⟨j', ?_, rfl, ⟨hF.1, fun c i b1 b2 b3 => ?_⟩, ?_, fun i b1 b2 => ?_⟩⟩
        · simp (disch := omega) [r49_0, r49_1, r49_4, r49_7, r49_8, r49_11, r49_12, r49_13, r49_14, r49_17, r49_20, r49_21, r49_24, r49_25, r49_26, r49_27, r49_29, r49_32, r49_33, r49_36, r49_37, r49_40, r49_41, r49_44, r49_45, r49_46, r49_49, r49_52, r49_53, r49_54, r49_57, r49_58, r49_59, r49_62, r49_63, r49_64, r49_65, r49_67, r49_70, r49_71, r49_74, r49_75, r49_76, r49_79, r49_82, r49_83, r49_85, r49_88, r49_89, r49_92, r49_94, r49_97, r49_98, r49_101, r49_104, r49_105, r49_108, r49_109, g56, vf4_1, t56_1, gP0 hP, vf5_14, tP0_14 hP, gP19 hP, pP19 hP, vf4_9, vf5_15, tP0_15 hP, gP20 hP, pP20 hP, vf4_7, vf4_8, qa78, qo78, vf4_3, qa41, qo41, qa50, qo50, qa51, qo51, qa38, qo38, qa52, qo52, List.getElem?_cons_zero, List.getElem?_cons_succ, List.length_cons, List.length_nil, ag_nx, ag_dn, ag_no, ag_if, jbr1, jbr2, jc1, jc2, jnul, jld, jsto, jstoL, jst1, jst2, jkill, jinc, jbI, jbL, jbS, juI, jl2i, jcmp, jisR, jisI, jisL, jret, jretv, jfits, jdup, jdup2, jpop, jmm, jcat, Value.category, jinv, jrcv, jthr, jhd, jput, jget, jlen, jald, jast, jaast, jgI, jgL, jgB, jtab, jlku, jacp, vf20, vf21, vf22, vf23, vf24, u2_s, u2_k, u2_i, uc_s, uc_k, uc_c, u2_c, LI0, LI1, LI2, LI3, LI4, LI5, LI6, LI7, LI8, LI9, LI10, LI11, LI12, LI13, LI14, LI15, LI16, LI17, LI18, LI19, LI20, LI21, LI22, LI23, LI24, LI25, LI26, LI27, LI28, LI29, LI30, LI31, LI32, LI33, LI34, LI35, LI36, LI37, LI40, LI42, LI43, LI45, LI48, LI60, LI61, LI64, LI80, LI300, LI400, LI1000, LI2000, LI2001, LI2047, LI2048, LI100000, LI1000000, LI38, LI39, LI41, LI44, LI46, LI47, LI49, LI50, LI51, LI52, LI53, LI54, LI55, LI56, LI57, LI58, LI59, LI62, LI63, LI65, LI66, LI67, LI68, LI69, LI70, LI71, LI72, LI73, LI74, LI75, LI76, LI77, LI78, LI79, LI81, LI82, LI83, LI84, LI85, LI86, LI87, LI88, LI89, LI90, LI91, LI92, LI93, LI94, LI95, LI96, LI97, LI98, LI99, LI100, LI101, LI102, LI103, LI104, LI105, LI106, LI107, LI108, LI109, LI110, LI111, LI112, LI113, LI114, LI115, LI116, LI117, LI118, LI119, LI120, LI121, LI122, LI123, LI124, LI125, LI126, LI127, LI255, LI256, LI999, LI1001, LI1002, LI1600, LI4096, LI1000001, LI2042, LM, nI_clamp, nI_pos', nI_lt, nI_nlt, nI_le, nI_ge, nI_ne, nI_add, nI_sub, mI_lt, mI_le, mI_nlt, mI_nle, mI_ne, mI_ne', mI_nem, n9, n8, n7, e51, e38, e3]
        · rcases hw with ⟨m1, rfl⟩ | ⟨m1, m2, rfl⟩
          · have m1' : ¬ K (j + 3) = 26 := m1
            rw [if_neg m1']
          · have m1' : K (j + 3) = 26 := m1
            have m2' : ¬ K (j + 4) = 41 := m2
            rw [if_pos m1', if_neg m2']
        · rw [hF.2 c i b1 b2 b3, f2 c i (by omega) (by omega), f1 _ _ (by omega)]
        · have hj3 := hk.2.1 (j + 2) (by omega) (by rw [h2.2]; decide)
          rcases hw with ⟨m1, rfl⟩ | ⟨m1, m2, rfl⟩
          · omega
          · have m1' : K (j + 3) = 26 := m1
            have hj4 := hk.2.1 (j + 3) (by omega) (by rw [m1']; decide)
            omega
        · rw [hKp i b1 b2, f2 56 i (by omega) (by omega), f1 _ _ (by omega)]
    · rw [if_neg h2]
      refine ⟨I2, nI 1, ?_, Or.inl ⟨none, [], j + 2, rfl, rfl, by omega, by omega, by simp; omega, a2, ?_, hex', ?_, ?_, ?_, (fun v hv => by cases hv), (fun z => absurd z h88), ?_, seg_nil, ?_⟩⟩
      · by_cases h77 : K j = 7
        · rw [h77] at n9 n8 ⊢
          simp (disch := omega) [r49_0, r49_1, r49_4, r49_7, r49_8, r49_11, r49_12, r49_13, r49_14, r49_17, r49_20, r49_21, r49_24, r49_25, r49_26, r49_27, r49_29, r49_32, r49_33, r49_36, r49_37, r49_40, r49_41, r49_44, r49_45, r49_46, r49_49, r49_52, r49_53, r49_54, r49_57, r49_58, r49_59, r49_62, r49_63, r49_64, r49_65, r49_67, r49_70, r49_71, r49_74, r49_75, r49_76, r49_79, r49_82, r49_83, r49_85, r49_88, r49_89, r49_92, r49_94, r49_97, r49_98, r49_101, r49_104, r49_105, r49_108, r49_109, g56, vf4_1, t56_1, gP0 hP, vf5_14, tP0_14 hP, gP19 hP, pP19 hP, vf4_9, vf5_15, tP0_15 hP, gP20 hP, pP20 hP, vf4_7, vf4_8, qa78, qo78, vf4_3, qa41, qo41, qa50, qo50, qa51, qo51, qa38, qo38, qa52, qo52, List.getElem?_cons_zero, List.getElem?_cons_succ, List.length_cons, List.length_nil, ag_nx, ag_dn, ag_no, ag_if, jbr1, jbr2, jc1, jc2, jnul, jld, jsto, jstoL, jst1, jst2, jkill, jinc, jbI, jbL, jbS, juI, jl2i, jcmp, jisR, jisI, jisL, jret, jretv, jfits, jdup, jdup2, jpop, jmm, jcat, Value.category, jinv, jrcv, jthr, jhd, jput, jget, jlen, jald, jast, jaast, jgI, jgL, jgB, jtab, jlku, jacp, vf20, vf21, vf22, vf23, vf24, u2_s, u2_k, u2_i, uc_s, uc_k, uc_c, u2_c, LI0, LI1, LI2, LI3, LI4, LI5, LI6, LI7, LI8, LI9, LI10, LI11, LI12, LI13, LI14, LI15, LI16, LI17, LI18, LI19, LI20, LI21, LI22, LI23, LI24, LI25, LI26, LI27, LI28, LI29, LI30, LI31, LI32, LI33, LI34, LI35, LI36, LI37, LI40, LI42, LI43, LI45, LI48, LI60, LI61, LI64, LI80, LI300, LI400, LI1000, LI2000, LI2001, LI2047, LI2048, LI100000, LI1000000, LI38, LI39, LI41, LI44, LI46, LI47, LI49, LI50, LI51, LI52, LI53, LI54, LI55, LI56, LI57, LI58, LI59, LI62, LI63, LI65, LI66, LI67, LI68, LI69, LI70, LI71, LI72, LI73, LI74, LI75, LI76, LI77, LI78, LI79, LI81, LI82, LI83, LI84, LI85, LI86, LI87, LI88, LI89, LI90, LI91, LI92, LI93, LI94, LI95, LI96, LI97, LI98, LI99, LI100, LI101, LI102, LI103, LI104, LI105, LI106, LI107, LI108, LI109, LI110, LI111, LI112, LI113, LI114, LI115, LI116, LI117, LI118, LI119, LI120, LI121, LI122, LI123, LI124, LI125, LI126, LI127, LI255, LI256, LI999, LI1001, LI1002, LI1600, LI4096, LI1000001, LI2042, LM, nI_clamp, nI_pos', nI_lt, nI_nlt, nI_le, nI_ge, nI_ne, nI_add, nI_sub, mI_lt, mI_le, mI_nlt, mI_nle, mI_ne, mI_ne', mI_nem, e51]
        · have n7 : ¬ nI (K j) = nI 7 := nI_ne h77 (by omega) (by omega)
          have n40 : ¬ nI (K (j + 1 + 1)) = nI 40 := nI_ne (fun z => h2 ⟨h77, z⟩) (by have := hk.2.2 (j + 1 + 1); omega) (by omega)
          simp (disch := omega) [r49_0, r49_1, r49_4, r49_7, r49_8, r49_11, r49_12, r49_13, r49_14, r49_17, r49_20, r49_21, r49_24, r49_25, r49_26, r49_27, r49_29, r49_32, r49_33, r49_36, r49_37, r49_40, r49_41, r49_44, r49_45, r49_46, r49_49, r49_52, r49_53, r49_54, r49_57, r49_58, r49_59, r49_62, r49_63, r49_64, r49_65, r49_67, r49_70, r49_71, r49_74, r49_75, r49_76, r49_79, r49_82, r49_83, r49_85, r49_88, r49_89, r49_92, r49_94, r49_97, r49_98, r49_101, r49_104, r49_105, r49_108, r49_109, g56, vf4_1, t56_1, gP0 hP, vf5_14, tP0_14 hP, gP19 hP, pP19 hP, vf4_9, vf5_15, tP0_15 hP, gP20 hP, pP20 hP, vf4_7, vf4_8, qa78, qo78, vf4_3, qa41, qo41, qa50, qo50, qa51, qo51, qa38, qo38, qa52, qo52, List.getElem?_cons_zero, List.getElem?_cons_succ, List.length_cons, List.length_nil, ag_nx, ag_dn, ag_no, ag_if, jbr1, jbr2, jc1, jc2, jnul, jld, jsto, jstoL, jst1, jst2, jkill, jinc, jbI, jbL, jbS, juI, jl2i, jcmp, jisR, jisI, jisL, jret, jretv, jfits, jdup, jdup2, jpop, jmm, jcat, Value.category, jinv, jrcv, jthr, jhd, jput, jget, jlen, jald, jast, jaast, jgI, jgL, jgB, jtab, jlku, jacp, vf20, vf21, vf22, vf23, vf24, u2_s, u2_k, u2_i, uc_s, uc_k, uc_c, u2_c, LI0, LI1, LI2, LI3, LI4, LI5, LI6, LI7, LI8, LI9, LI10, LI11, LI12, LI13, LI14, LI15, LI16, LI17, LI18, LI19, LI20, LI21, LI22, LI23, LI24, LI25, LI26, LI27, LI28, LI29, LI30, LI31, LI32, LI33, LI34, LI35, LI36, LI37, LI40, LI42, LI43, LI45, LI48, LI60, LI61, LI64, LI80, LI300, LI400, LI1000, LI2000, LI2001, LI2047, LI2048, LI100000, LI1000000, LI38, LI39, LI41, LI44, LI46, LI47, LI49, LI50, LI51, LI52, LI53, LI54, LI55, LI56, LI57, LI58, LI59, LI62, LI63, LI65, LI66, LI67, LI68, LI69, LI70, LI71, LI72, LI73, LI74, LI75, LI76, LI77, LI78, LI79, LI81, LI82, LI83, LI84, LI85, LI86, LI87, LI88, LI89, LI90, LI91, LI92, LI93, LI94, LI95, LI96, LI97, LI98, LI99, LI100, LI101, LI102, LI103, LI104, LI105, LI106, LI107, LI108, LI109, LI110, LI111, LI112, LI113, LI114, LI115, LI116, LI117, LI118, LI119, LI120, LI121, LI122, LI123, LI124, LI125, LI126, LI127, LI255, LI256, LI999, LI1001, LI1002, LI1600, LI4096, LI1000001, LI2042, LM, nI_clamp, nI_pos', nI_lt, nI_nlt, nI_le, nI_ge, nI_ne, nI_add, nI_sub, mI_lt, mI_le, mI_nlt, mI_nle, mI_ne, mI_ne', mI_nem, n9, n8, n7, e51, e38, n40]
      · intro hk88
        rw [if_neg h99, if_neg h88]
        exact hex hk88
      · rw [if_pos (by omega)]; exact r2
      · rw [f2 _ _ (by omega) (by omega)]; exact q20
      · rw [f2 _ _ (by omega) (by omega), f1 _ _ (by omega)]
      · rw [f2 _ _ (by omega) (by omega)]; exact s4
      · intro c i b1 b2 b3 b4
        rw [f2 c i (by omega) (by omega), f1 _ _ (by omega)]
end CHF
