/-! steps: variable -/
section ZTH
variable {A : Nat → Nat} {d b n s0 Ls i c : Nat} {h : Nat → Option jC} {X : jXX} {I : Nat → Nat → Int32} {J : Nat → Nat → Int64} {R : Nat → Nat → Nat} {xs : Nat → Int32}
theorem u2_tw {I : Nat → Nat → Int32} {k i : Nat} {v w : Int32} : u2 (u2 I k i v) k i w = u2 I k i w := by
  funext c j
  unfold u2
  by_cases hc : c = k ∧ j = i
  · rw [if_pos hc, if_pos hc]
  · rw [if_neg hc, if_neg hc, if_neg hc]
theorem r212c {N : Nat → Nat → Int32} {M : Nat} {fst x : Int32} (hp : plR X I N M) : ∀ (r : Nat) (y : Int32) (c : Nat), chOK N M r y → M212 A d 5 [some (.ref (b + 241)), some (.int fst), some (.int x), some (.int (nI c)), some (.int y)] [] (jH h b X I J R n) = some (.inl (some (.int (inO (((chl N r y).findIdx? (fun a => decide (N 252 a = x))).map (fun i => i + c))))), (jH h b X I J R n)) := by
  have hM := hp.2.2
  have m2 := hp.2.1 252 (by omega) (by omega)
  have m5 := hp.2.1 255 (by omega) (by omega)
  intro r
  induction r with
  | zero => intro y c hy; exact hy.elim
  | succ r ih =>
    intro y c hy
    rcases hy with hy | ⟨a, h1, h2, h3⟩
    · subst hy
      have e : chl N (r + 1) (-1) = [] := rfl
      rw [e, show (-1 : Int32) = mI 1 from m1e.symm, r212_5]
      simp (disch := omega) [r212_0, r212_1, r212_2, r212_3, r212_7, r212_10, r212_11, r212_14, r212_16, r212_17, r212_18, r212_21, r212_22, r212_23, r212_26, r212_27, r212_30, r212_32, r212_33, r212_35, r212_38, r212_39, g241, vf12_22, t241_22, g252, vf12_25, t241_25, g255, List.getElem?_cons_zero, List.getElem?_cons_succ, List.length_cons, List.length_nil, ag_nx, ag_dn, ag_no, ag_if, jbr1, jbr2, jc1, jc2, jnul, jld, jsto, jstoL, jst1, jst2, jkill, jinc, jbI, jbL, jbS, juI, jl2i, jcmp, jisR, jisI, jisL, jret, jretv, jfits, jdup, jdup2, jpop, jmm, jcat, Value.category, jinv, jrcv, jthr, jhd, jput, jget, jlen, jald, jast, jaast, jgI, jgL, jgB, jtab, jlku, jacp, vf20, vf21, vf22, vf23, vf24, u2_s, u2_k, u2_i, uc_s, uc_k, uc_c, u2_c, LI0, LI1, LI2, LI3, LI4, LI5, LI6, LI7, LI8, LI9, LI10, LI11, LI12, LI13, LI14, LI15, LI16, LI17, LI18, LI19, LI20, LI21, LI22, LI23, LI24, LI25, LI26, LI27, LI28, LI29, LI30, LI31, LI32, LI33, LI34, LI35, LI36, LI37, LI40, LI42, LI43, LI45, LI48, LI60, LI61, LI64, LI80, LI300, LI400, LI1000, LI2000, LI2001, LI2047, LI2048, LI100000, LI1000000, LI38, LI39, LI41, LI44, LI46, LI47, LI49, LI50, LI51, LI52, LI53, LI54, LI55, LI56, LI57, LI58, LI59, LI62, LI63, LI65, LI66, LI67, LI68, LI69, LI70, LI71, LI72, LI73, LI74, LI75, LI76, LI77, LI78, LI79, LI81, LI82, LI83, LI84, LI85, LI86, LI87, LI88, LI89, LI90, LI91, LI92, LI93, LI94, LI95, LI96, LI97, LI98, LI99, LI100, LI101, LI102, LI103, LI104, LI105, LI106, LI107, LI108, LI109, LI110, LI111, LI112, LI113, LI114, LI115, LI116, LI117, LI118, LI119, LI120, LI121, LI122, LI123, LI124, LI125, LI126, LI127, LI255, LI256, LI999, LI1001, LI1002, LI1600, LI4096, LI1000001, LI2042, LM, nI_clamp, nI_pos', nI_lt, nI_nlt, nI_le, nI_ge, nI_ne, nI_add, nI_sub, mI_lt, mI_le, mI_nlt, mI_nle, mI_ne, mI_ne', mI_nem, inO]
    · have a0 : ¬ nI a < nI 0 := by rw [nI_ltI (by omega) (by omega)]; omega
      have e : chl N (r + 1) y = a :: chl N r (N 255 a) := by
        show (if y < 0 then [] else ix y :: chl N r (N 255 (ix y))) = _
        rw [h1, LI0, if_neg a0, nI_clampx (by omega)]
      have n2 := hp.1 252 a (by omega) (by omega) (by omega)
      have n5 := hp.1 255 a (by omega) (by omega) (by omega)
      have a2 : a < cp X 252 := by omega
      have a5 : a < cp X 255 := by omega
      rw [e, List.findIdx?_cons, h1]
      by_cases hx : N 252 a = x
      · rw [if_pos (by simpa using hx), r212_5]
        simp (disch := omega) [r212_0, r212_1, r212_2, r212_3, r212_7, r212_10, r212_11, r212_14, r212_16, r212_17, r212_18, r212_21, r212_22, r212_23, r212_26, r212_27, r212_30, r212_32, r212_33, r212_35, r212_38, r212_39, g241, vf12_22, t241_22, g252, vf12_25, t241_25, g255, List.getElem?_cons_zero, List.getElem?_cons_succ, List.length_cons, List.length_nil, ag_nx, ag_dn, ag_no, ag_if, jbr1, jbr2, jc1, jc2, jnul, jld, jsto, jstoL, jst1, jst2, jkill, jinc, jbI, jbL, jbS, juI, jl2i, jcmp, jisR, jisI, jisL, jret, jretv, jfits, jdup, jdup2, jpop, jmm, jcat, Value.category, jinv, jrcv, jthr, jhd, jput, jget, jlen, jald, jast, jaast, jgI, jgL, jgB, jtab, jlku, jacp, vf20, vf21, vf22, vf23, vf24, u2_s, u2_k, u2_i, uc_s, uc_k, uc_c, u2_c, LI0, LI1, LI2, LI3, LI4, LI5, LI6, LI7, LI8, LI9, LI10, LI11, LI12, LI13, LI14, LI15, LI16, LI17, LI18, LI19, LI20, LI21, LI22, LI23, LI24, LI25, LI26, LI27, LI28, LI29, LI30, LI31, LI32, LI33, LI34, LI35, LI36, LI37, LI40, LI42, LI43, LI45, LI48, LI60, LI61, LI64, LI80, LI300, LI400, LI1000, LI2000, LI2001, LI2047, LI2048, LI100000, LI1000000, LI38, LI39, LI41, LI44, LI46, LI47, LI49, LI50, LI51, LI52, LI53, LI54, LI55, LI56, LI57, LI58, LI59, LI62, LI63, LI65, LI66, LI67, LI68, LI69, LI70, LI71, LI72, LI73, LI74, LI75, LI76, LI77, LI78, LI79, LI81, LI82, LI83, LI84, LI85, LI86, LI87, LI88, LI89, LI90, LI91, LI92, LI93, LI94, LI95, LI96, LI97, LI98, LI99, LI100, LI101, LI102, LI103, LI104, LI105, LI106, LI107, LI108, LI109, LI110, LI111, LI112, LI113, LI114, LI115, LI116, LI117, LI118, LI119, LI120, LI121, LI122, LI123, LI124, LI125, LI126, LI127, LI255, LI256, LI999, LI1001, LI1002, LI1600, LI4096, LI1000001, LI2042, LM, nI_clamp, nI_pos', nI_lt, nI_nlt, nI_le, nI_ge, nI_ne, nI_add, nI_sub, mI_lt, mI_le, mI_nlt, mI_nle, mI_ne, mI_ne', mI_nem, a0, n2, a2, hx, inO]
      · rw [if_neg (by simpa using hx), r212_5]
        have ih' := ih (N 255 a) (c + 1) h3
        have em : ∀ o : Option Nat, ((o.map (fun i => i + 1)).map (fun i => i + c)) = o.map (fun i => i + (c + 1)) := fun o => by
          cases o with
          | none => rfl
          | some i => simp; omega
        rw [em, ← ih']
        simp (disch := omega) [r212_0, r212_1, r212_2, r212_3, r212_7, r212_10, r212_11, r212_14, r212_16, r212_17, r212_18, r212_21, r212_22, r212_23, r212_26, r212_27, r212_30, r212_32, r212_33, r212_35, r212_38, r212_39, g241, vf12_22, t241_22, g252, vf12_25, t241_25, g255, List.getElem?_cons_zero, List.getElem?_cons_succ, List.length_cons, List.length_nil, ag_nx, ag_dn, ag_no, ag_if, jbr1, jbr2, jc1, jc2, jnul, jld, jsto, jstoL, jst1, jst2, jkill, jinc, jbI, jbL, jbS, juI, jl2i, jcmp, jisR, jisI, jisL, jret, jretv, jfits, jdup, jdup2, jpop, jmm, jcat, Value.category, jinv, jrcv, jthr, jhd, jput, jget, jlen, jald, jast, jaast, jgI, jgL, jgB, jtab, jlku, jacp, vf20, vf21, vf22, vf23, vf24, u2_s, u2_k, u2_i, uc_s, uc_k, uc_c, u2_c, LI0, LI1, LI2, LI3, LI4, LI5, LI6, LI7, LI8, LI9, LI10, LI11, LI12, LI13, LI14, LI15, LI16, LI17, LI18, LI19, LI20, LI21, LI22, LI23, LI24, LI25, LI26, LI27, LI28, LI29, LI30, LI31, LI32, LI33, LI34, LI35, LI36, LI37, LI40, LI42, LI43, LI45, LI48, LI60, LI61, LI64, LI80, LI300, LI400, LI1000, LI2000, LI2001, LI2047, LI2048, LI100000, LI1000000, LI38, LI39, LI41, LI44, LI46, LI47, LI49, LI50, LI51, LI52, LI53, LI54, LI55, LI56, LI57, LI58, LI59, LI62, LI63, LI65, LI66, LI67, LI68, LI69, LI70, LI71, LI72, LI73, LI74, LI75, LI76, LI77, LI78, LI79, LI81, LI82, LI83, LI84, LI85, LI86, LI87, LI88, LI89, LI90, LI91, LI92, LI93, LI94, LI95, LI96, LI97, LI98, LI99, LI100, LI101, LI102, LI103, LI104, LI105, LI106, LI107, LI108, LI109, LI110, LI111, LI112, LI113, LI114, LI115, LI116, LI117, LI118, LI119, LI120, LI121, LI122, LI123, LI124, LI125, LI126, LI127, LI255, LI256, LI999, LI1001, LI1002, LI1600, LI4096, LI1000001, LI2042, LM, nI_clamp, nI_pos', nI_lt, nI_nlt, nI_le, nI_ge, nI_ne, nI_add, nI_sub, mI_lt, mI_le, mI_nlt, mI_nle, mI_ne, mI_ne', mI_nem, a0, n2, n5, a2, a5, hx]
theorem r212p {N : Nat → Nat → Int32} {M r : Nat} {y x : Int32} (hp : plR X I N M) (hy : chOK N M r y) : jcall A jcode (d + 1) 212 [.ref (b + 241), .int y, .int x] (jH h b X I J R n) = some (.inl (some (.int (inO ((chl N r y).findIdx? (fun a => decide (N 252 a = x)))))), (jH h b X I J R n)) := by
  have e := r212c (A := A) (d := d) (b := b) (h := h) (J := J) (R := R) (n := n) (fst := y) (x := x) hp r y 0 hy
  have em : ∀ o : Option Nat, o.map (fun i => i + 0) = o := fun o => by cases o <;> rfl
  rw [em] at e
  rw [← e]
  simp (disch := omega) [je212, r212_0, r212_1, r212_2, r212_3, List.getElem?_cons_zero, List.getElem?_cons_succ, List.length_cons, List.length_nil, ag_nx, ag_dn, ag_no, ag_if, jbr1, jbr2, jc1, jc2, jnul, jld, jsto, jstoL, jst1, jst2, jkill, jinc, jbI, jbL, jbS, juI, jl2i, jcmp, jisR, jisI, jisL, jret, jretv, jfits, jdup, jdup2, jpop, jmm, jcat, Value.category, jinv, jrcv, jthr, jhd, jput, jget, jlen, jald, jast, jaast, jgI, jgL, jgB, jtab, jlku, jacp, vf20, vf21, vf22, vf23, vf24, u2_s, u2_k, u2_i, uc_s, uc_k, uc_c, u2_c, LI0, LI1, LI2, LI3, LI4, LI5, LI6, LI7, LI8, LI9, LI10, LI11, LI12, LI13, LI14, LI15, LI16, LI17, LI18, LI19, LI20, LI21, LI22, LI23, LI24, LI25, LI26, LI27, LI28, LI29, LI30, LI31, LI32, LI33, LI34, LI35, LI36, LI37, LI40, LI42, LI43, LI45, LI48, LI60, LI61, LI64, LI80, LI300, LI400, LI1000, LI2000, LI2001, LI2047, LI2048, LI100000, LI1000000, LI38, LI39, LI41, LI44, LI46, LI47, LI49, LI50, LI51, LI52, LI53, LI54, LI55, LI56, LI57, LI58, LI59, LI62, LI63, LI65, LI66, LI67, LI68, LI69, LI70, LI71, LI72, LI73, LI74, LI75, LI76, LI77, LI78, LI79, LI81, LI82, LI83, LI84, LI85, LI86, LI87, LI88, LI89, LI90, LI91, LI92, LI93, LI94, LI95, LI96, LI97, LI98, LI99, LI100, LI101, LI102, LI103, LI104, LI105, LI106, LI107, LI108, LI109, LI110, LI111, LI112, LI113, LI114, LI115, LI116, LI117, LI118, LI119, LI120, LI121, LI122, LI123, LI124, LI125, LI126, LI127, LI255, LI256, LI999, LI1001, LI1002, LI1600, LI4096, LI1000001, LI2042, LM, nI_clamp, nI_pos', nI_lt, nI_nlt, nI_le, nI_ge, nI_ne, nI_add, nI_sub, mI_lt, mI_le, mI_nlt, mI_nle, mI_ne, mI_ne', mI_nem]
/-- the first with that name -/
theorem fd_same {D E : Nat → Int64 × Int32} {k L nn : Nat} {l : List Nat} {N : Nat → Nat → Int32} {cid : Nat → Int32} {y : Int64 × Int32} {w : Nat} (hk : k ≤ L) (hL : L ≤ 2 ^ 20) (hnn : nn ≤ 2 ^ 20) (hD : ∀ x y, x < L → y < L → D x = D y → x = y) (hE : ∀ x y, x < nn → y < nn → E x = E y → x = y) (hw : w < nn) (hy : E w = y) (hc : ∀ j a, l[j]? = some a → cNf D k (cid j) = rNf E nn (N 252 a)) (hv : ∀ j, j < l.length → ∃ u, u < k ∧ cid j = nI u) : fdP (fun i => decide (cid i = inO (fdN D y L 0))) l.length 0 = l.findIdx? (fun a => decide (N 252 a = nI w)) := by
  rw [fdP_idx (f := fun a => decide (N 252 a = nI w)) l 0 (fun j a ha => ?_)]
  · cases l.findIdx? (fun a => decide (N 252 a = nI w)) with
    | none => rfl
    | some j => simp
  · rw [Nat.zero_add]
    obtain ⟨u, u1, u2'⟩ := hv j (lt_of_some ha)
    have hcj := hc j a ha
    rw [u2', cNf_v u1 (by omega)] at hcj
    obtain ⟨r1, r2, r3⟩ := rNf_l hcj.symm
    have h2 : (N 252 a = nI w) ↔ D u = y := by
      constructor
      · intro e
        rw [e, nI_clampx (by omega)] at r3
        rw [← r3, hy]
      · intro e
        have : ix (N 252 a) = w := hE _ _ r1 hw (by rw [r3, e, hy])
        rw [r2, this]
    have h1 : (cid j = inO (fdN D y L 0)) ↔ D u = y := by
      rw [u2']
      cases hf : fdN D y L 0 with
      | none =>
        constructor
        · intro e; exact absurd e (mI_ne (k := 1) (by omega) (by omega) (by omega))
        · intro e
          exact absurd e (fdN_no _ _ hf u (by omega) (by omega))
      | some q =>
        obtain ⟨f1, f2, f3⟩ := fdN_lt _ _ _ hf
        constructor
        · intro e
          have : u = q := nI_inj (by omega) (by omega) e
          rw [this, f3]
        · intro e
          have : u = q := hD u q (by omega) (by omega) (e.trans f3.symm)
          rw [this]; rfl
    show decide (cid j = inO (fdN D y L 0)) = decide (N 252 a = nI w)
    exact decide_eq_decide.mpr (h1.trans h2.symm)
theorem fdP_ltx {q : Nat → Bool} : ∀ (r k j : Nat), fdP q r k = some j → k ≤ j ∧ j < k + r := by
  intro r
  induction r with
  | zero => intro k j h; cases h
  | succ r ih =>
    intro k j h
    unfold fdP at h
    split at h
    · cases h; omega
    · have := ih _ _ h; omega
theorem st_9 (hs0 : s0 < b) (hs : h s0 = some (25, Ls, fun j => .int (xs j))) (hL : Ls ≤ 3072) (hi : i + 6 ≤ Ls) (hA : jAp0 A) (hc : c < 600) (hR : Rel c X I J R n) (hk : xs i &&& 31 = nI 9) : stp A d b s0 i h c X I J R n := by
  intro x5 x6 x7
  have hR' := hR
  obtain ⟨T, nn, nb, M, P, P', L, C, C', a1, a2, a3, a4, a5, a6, ⟨a70, a7⟩, a8, a9, a10⟩ := hR'
  have hw := isW_57
  have hq : isI 66 := by unfold isI; simp
  have tT := a1.1
  have hnb : nb ≤ 2 ^ 17 := by have := a4.2.2; omega
  obtain ⟨hP, hP', hj⟩ := lkS_ok a6
  have hPe := isP_e hP
  have hPP := a6.1
  obtain ⟨I1, J1, m, e169, hT1, z1, f1, fj1⟩ := c169 (A := A) (d := d + 1392) (b := b) (h := h) (X := X) (R := R) (n := n) hA a1 a3.1
  obtain ⟨t, ht⟩ : ∃ t, t = tpT I T := ⟨_, rfl⟩
  rw [← ht] at hT1
  have e169' : jcall A jcode (d + 1399) 169 [.ref b] (jH h b X I J R n) = some (.inl none, (jH h b X I1 J1 R n)) := e169
  have g0 : ∀ c i, 241 ≤ c → I1 c i = I c i := fun c i hc => f1 c i (by omega) (by omega) (by omega)
  have gw : ∀ c i, 57 ≤ c → c ≤ 130 → I1 c i = I c i := fun c i h1 h2 => f1 c i (by omega) (by omega) (by omega)
  have hrm1 : rNm X I1 nn nb := rNm_s a4.1 (fun c i c1 c2 => g0 c i (by omega)) (g0 _ _ (by omega)) (g0 _ _ (by omega))
  have et : tpT I1 T = t := by rw [ht]; funext j; unfold tpT; rw [g0 _ _ (by omega), g0 _ _ (by omega)]
  have b248 : ∀ i, i < T → (I1 248 i).toInt8.toInt32 = I1 248 i := fun i hi => by rw [g0 _ _ (by omega)]; exact (a1.2.2.2 i (by omega)).2
  have h13 : I1 241 13 = nI T := (g0 _ _ (by omega)).trans a1.2.2.1
  have i10 : I1 0 10 = I 0 10 := f1 _ _ (by omega) (by omega) (by omega)
  -- an exception
  have EXR0 : ∀ (code : Nat) (X1 : jXX) (n1 : Nat) (J0 : Nat → Nat → Int64), (∀ v, cp X1 v = cp X v) → tp X1 ≤ tp X + 1 → n1 ≤ n + 6 → rNm X1 I1 nn nb → cpT X1 nn nb → (∀ c i, c ≠ 299 → J0 c i = J1 c i) → ∃ X' I' n' nn' nb' v, jcall A jcode (d + 1400) 251 [.ref (b + 241)] (jH h b X1 I1 J0 R n1) = some (.inl (some (.int v)), (jH h b X' I' J0 R n')) ∧ rKn X1 I1 n1 nn nb T X' I' n' nn' nb' ∧ (KK t T 0 = 26 ∧ KK t T 1 = 29 → ∃ w, w < nn' ∧ v = nI w ∧ rnm I' w = Yn t T 0) ∧ (¬ (KK t T 0 = 26 ∧ KK t T 1 = 29) → v = mI 1) ∧ Rel (c + 1) X' (u2 I' 241 0 (nI code)) J0 R n' := by
    intro code X1 n1 J0 hX1 htp hn1 hrX hcX hJ0
    obtain ⟨X', I', n', nn', nb', v, e, k, k1, k2⟩ := r251 (A := A) (d := d + 1393) (b := b) (h := h) (X := X1) (J := J0) (R := R) (n := n1) hA tT h13 b248 hrX hcX hnb
    rw [et] at k1 k2
    refine ⟨X', I', n', nn', nb', v, e, k, k1, k2, ?_⟩
    obtain ⟨g1, g2, g3, g4, g5, g6, g7, g8, g9⟩ := k
    exact Rel_N a1 a2 a3 a4 a5 a6 ⟨a70, a7⟩ a8 a9 a10 (X1 := X1) (n1 := n1) hX1 htp hn1 g6 g7 (rNm_s g1 (fun c i c1 c2 => u2_o _ _ (by omega)) (u2_o _ _ (by omega)) (u2_o _ _ (by omega))) g2 g3 g4 (fun u hu => by rw [rnm_e (fun c i c1 c2 => u2_o _ _ (by omega)), g5 u hu]; exact rnm_e (fun c i c1 c2 => g0 c i (by omega))) (by rw [u2_o _ _ (by omega), g9 _ _ (by omega) (by omega) (by omega)]; exact z1) (by rw [u2_o _ _ (by omega)]; exact g8) (fun c i h1 h2 h3 h4 h5 => by rw [u2_o _ _ (by omega), g9 c i (by omega) h4 h5, f1 c i (by omega) (by omega) h2]) (fun c i h1 h2 => (hJ0 c i h2).trans (fj1 c i h1))
  have EXR : ∀ (E code : Nat), ∃ X' I' n' nn' nb' v, jcall A jcode (d + 1400) 251 [.ref (b + 241)] (jH h b (xad X (jE E)) I1 J1 R (n + 6)) = some (.inl (some (.int v)), (jH h b X' I' J1 R n')) ∧ rKn (xad X (jE E)) I1 (n + 6) nn nb T X' I' n' nn' nb' ∧ (KK t T 0 = 26 ∧ KK t T 1 = 29 → ∃ w, w < nn' ∧ v = nI w ∧ rnm I' w = Yn t T 0) ∧ (¬ (KK t T 0 = 26 ∧ KK t T 1 = 29) → v = mI 1) ∧ Rel (c + 1) X' (u2 I' 241 0 (nI code)) J1 R n' := fun E code => EXR0 code (xad X (jE E)) (n + 6) J1 (fun _ => rfl) (Nat.le_refl _) (Nat.le_refl _) hrm1 a4.2.1 (fun _ _ _ => rfl)
  have hN := isP_N hP
  rcases a7 with ⟨s1, s2, s3, s4, s5⟩ | ⟨k, np, Lc, cap, B, D, N, O, G, E, W, a7⟩
  · have e173 := c173n (A := A) (d := d + 1397) (b := b) (h := h) (X := X) (I := I1) (J := J1) (R := R) (n := n) (x := xs (i + 1)) (i10.trans s1)
    have i33 : I1 241 33 = nI 0 := (g0 _ _ (by omega)).trans s2
    have e1 : jcall A jcode (d + 1400) 157 [.ref b, .int (xs (i + 1))] (jH h b X I J R n) = some (.inr 43, (jH h b (xad X (jE 43)) I1 J1 R (n + 6))) := by
      simp (disch := omega) [je157, r157_0, r157_1, r157_4, r157_5, r157_6, r157_9, r157_10, r157_11, r157_12, r157_13, r157_16, r157_19, r157_22, r157_23, r157_26, r157_29, r157_30, r157_33, r157_34, r157_37, r157_38, r157_41, r157_42, r157_45, r157_48, r157_50, r157_51, r157_54, r157_55, r157_58, r157_60, r157_63, r157_64, r157_65, r157_68, r157_78, r157_79, r157_80, r157_83, qa169, qo169, g0z, qa173, qo173, vf10_4, t0_4, qa90, qo90, g3, vf10_8, t0_8, gP0 hP, vf5_0, tP0_0 hP, qa87, qo87, qa88, qo88, qa29, qo29, gN0 hN, gI0 hq, vf2_1, qa74, qo74, qa16, qo16, List.getElem?_cons_zero, List.getElem?_cons_succ, List.length_cons, List.length_nil, ag_nx, ag_dn, ag_no, ag_if, jbr1, jbr2, jc1, jc2, jnul, jld, jsto, jstoL, jst1, jst2, jkill, jinc, jbI, jbL, jbS, juI, jl2i, jcmp, jisR, jisI, jisL, jret, jretv, jfits, jdup, jdup2, jpop, jmm, jcat, Value.category, jinv, jrcv, jthr, jhd, jput, jget, jlen, jald, jast, jaast, jgI, jgL, jgB, jtab, jlku, jacp, vf20, vf21, vf22, vf23, vf24, u2_s, u2_k, u2_i, uc_s, uc_k, uc_c, u2_c, LI0, LI1, LI2, LI3, LI4, LI5, LI6, LI7, LI8, LI9, LI10, LI11, LI12, LI13, LI14, LI15, LI16, LI17, LI18, LI19, LI20, LI21, LI22, LI23, LI24, LI25, LI26, LI27, LI28, LI29, LI30, LI31, LI32, LI33, LI34, LI35, LI36, LI37, LI40, LI42, LI43, LI45, LI48, LI60, LI61, LI64, LI80, LI300, LI400, LI1000, LI2000, LI2001, LI2047, LI2048, LI100000, LI1000000, LI38, LI39, LI41, LI44, LI46, LI47, LI49, LI50, LI51, LI52, LI53, LI54, LI55, LI56, LI57, LI58, LI59, LI62, LI63, LI65, LI66, LI67, LI68, LI69, LI70, LI71, LI72, LI73, LI74, LI75, LI76, LI77, LI78, LI79, LI81, LI82, LI83, LI84, LI85, LI86, LI87, LI88, LI89, LI90, LI91, LI92, LI93, LI94, LI95, LI96, LI97, LI98, LI99, LI100, LI101, LI102, LI103, LI104, LI105, LI106, LI107, LI108, LI109, LI110, LI111, LI112, LI113, LI114, LI115, LI116, LI117, LI118, LI119, LI120, LI121, LI122, LI123, LI124, LI125, LI126, LI127, LI255, LI256, LI999, LI1001, LI1002, LI1600, LI4096, LI1000001, LI2042, LM, nI_clamp, nI_pos', nI_lt, nI_nlt, nI_le, nI_ge, nI_ne, nI_add, nI_sub, mI_lt, mI_le, mI_nlt, mI_nle, mI_ne, mI_ne', mI_nem, e169', e173]
    obtain ⟨X', I', n', nn', nb', v, e251, hk1, hv1, hv2, hRel⟩ := EXR 43 1
    have e176 := r176 (A := A) (d := d + 1399) (b := b) (h := h) (X := X') (I := I') (J := J1) (R := R) (n := n') (k := 1) (by omega)
    have gI : ∀ c i, ¬ (c = 241 ∧ (i = 8 ∨ i = 9 ∨ (13 ≤ i ∧ i ≤ 18))) → ¬ (243 ≤ c ∧ c ≤ 247) → c ≠ 249 → I' c i = I1 c i := hk1.2.2.2.2.2.2.2.2
    have i33' : I' 241 33 = nI 0 := (gI _ _ (by omega) (by omega) (by omega)).trans i33
    have e2 : jcall A jcode (d + 1401) 258 [.ref (b + 241), .int (xs (i + 1))] (jH h b (xad X (jE 43)) I1 J1 R (n + 6)) = some (.inl (some (.int (nI 0))), (jH h b X' (u2 I' 241 0 (nI 1)) J1 R n')) := by
      simp (disch := omega) [je258, r258_0, r258_1, r258_4, r258_5, r258_6, r258_9, r258_12, r258_13, r258_14, r258_17, r258_20, r258_21, r258_22, r258_23, r258_24, r258_27, r258_30, r258_31, r258_34, r258_35, r258_38, r258_39, r258_42, r258_43, r258_46, r258_49, r258_50, r258_51, r258_52, r258_55, r258_56, r258_59, r258_60, r258_61, r258_64, r258_65, r258_68, r258_69, r258_72, r258_73, r258_74, r258_75, r258_76, r258_77, r258_80, r258_82, r258_83, r258_85, r258_88, r258_89, r258_92, r258_93, r258_96, r258_99, r258_100, r258_101, r258_102, r258_105, r258_106, r258_108, r258_109, r258_111, r258_112, r258_113, qa251, qo251, g241, vf12_33, qa220, qo220, qa176, qo176, vf12_23, t241_23, g253, vf12_35, t241_35, g259, vf12_43, t241_43, g261, qa212, qo212, vf12_48, t241_48, g266, List.getElem?_cons_zero, List.getElem?_cons_succ, List.length_cons, List.length_nil, ag_nx, ag_dn, ag_no, ag_if, jbr1, jbr2, jc1, jc2, jnul, jld, jsto, jstoL, jst1, jst2, jkill, jinc, jbI, jbL, jbS, juI, jl2i, jcmp, jisR, jisI, jisL, jret, jretv, jfits, jdup, jdup2, jpop, jmm, jcat, Value.category, jinv, jrcv, jthr, jhd, jput, jget, jlen, jald, jast, jaast, jgI, jgL, jgB, jtab, jlku, jacp, vf20, vf21, vf22, vf23, vf24, u2_s, u2_k, u2_i, uc_s, uc_k, uc_c, u2_c, LI0, LI1, LI2, LI3, LI4, LI5, LI6, LI7, LI8, LI9, LI10, LI11, LI12, LI13, LI14, LI15, LI16, LI17, LI18, LI19, LI20, LI21, LI22, LI23, LI24, LI25, LI26, LI27, LI28, LI29, LI30, LI31, LI32, LI33, LI34, LI35, LI36, LI37, LI40, LI42, LI43, LI45, LI48, LI60, LI61, LI64, LI80, LI300, LI400, LI1000, LI2000, LI2001, LI2047, LI2048, LI100000, LI1000000, LI38, LI39, LI41, LI44, LI46, LI47, LI49, LI50, LI51, LI52, LI53, LI54, LI55, LI56, LI57, LI58, LI59, LI62, LI63, LI65, LI66, LI67, LI68, LI69, LI70, LI71, LI72, LI73, LI74, LI75, LI76, LI77, LI78, LI79, LI81, LI82, LI83, LI84, LI85, LI86, LI87, LI88, LI89, LI90, LI91, LI92, LI93, LI94, LI95, LI96, LI97, LI98, LI99, LI100, LI101, LI102, LI103, LI104, LI105, LI106, LI107, LI108, LI109, LI110, LI111, LI112, LI113, LI114, LI115, LI116, LI117, LI118, LI119, LI120, LI121, LI122, LI123, LI124, LI125, LI126, LI127, LI255, LI256, LI999, LI1001, LI1002, LI1600, LI4096, LI1000001, LI2042, LM, nI_clamp, nI_pos', nI_lt, nI_nlt, nI_le, nI_ge, nI_ne, nI_add, nI_sub, mI_lt, mI_le, mI_nlt, mI_nle, mI_ne, mI_ne', mI_nem, e251, i33', e176]
    exact ⟨_, _, _, _, _, _, _, _, (lwD_9 hs0 hs hL hi hk).trans (lw9_1 hs0 hs hL hi e1 e2 u2_s), hRel⟩
  · have hcap := zY_cap a5 a7
    obtain ⟨b1, b2, b3, b4, b5, b6, b7, b8, b9, b10, b11, b12, b13, b14, b15, b16, b17⟩ := a7
    have i33 : I1 241 33 = nI 1 := (g0 _ _ (by omega)).trans b2
    have w1 : wC (cNf (cnm I J (P + 1)) L) I1 R 57 W := wC_fr57 b12 gw (fun _ => rfl)
    have w2 : ∀ I', (∀ c i, (260 ≤ c ∧ c ≤ 281) ∨ (c = 241 ∧ 36 ≤ i ∧ i ≤ 68) → I' c i = I1 c i) → wR (rNf (rnm I) nn) I' true W := fun I' hI' => wR_fr b13 (fun c i hc => by rw [hI' c i hc, g0 c i (by omega)])
    cases hsl : aSlot W (xs (i + 1)) with
    | none =>
      have e173 := c173z (A := A) (d := d + 1397) (b := b) (h := h) (X := X) (J := J1) (n := n) (i10.trans b1) w1 hsl
      have e1 : jcall A jcode (d + 1400) 157 [.ref b, .int (xs (i + 1))] (jH h b X I J R n) = some (.inr 44, (jH h b (xad X (jE 44)) I1 J1 R (n + 6))) := by
        simp (disch := omega) [je157, r157_0, r157_1, r157_4, r157_5, r157_6, r157_9, r157_10, r157_11, r157_12, r157_13, r157_16, r157_19, r157_22, r157_23, r157_26, r157_29, r157_30, r157_33, r157_34, r157_37, r157_38, r157_41, r157_42, r157_45, r157_48, r157_50, r157_51, r157_54, r157_55, r157_58, r157_60, r157_63, r157_64, r157_65, r157_68, r157_78, r157_79, r157_80, r157_83, qa169, qo169, g0z, qa173, qo173, vf10_4, t0_4, qa90, qo90, g3, vf10_8, t0_8, gP0 hP, vf5_0, tP0_0 hP, qa87, qo87, qa88, qo88, qa29, qo29, gN0 hN, gI0 hq, vf2_1, qa74, qo74, qa16, qo16, List.getElem?_cons_zero, List.getElem?_cons_succ, List.length_cons, List.length_nil, ag_nx, ag_dn, ag_no, ag_if, jbr1, jbr2, jc1, jc2, jnul, jld, jsto, jstoL, jst1, jst2, jkill, jinc, jbI, jbL, jbS, juI, jl2i, jcmp, jisR, jisI, jisL, jret, jretv, jfits, jdup, jdup2, jpop, jmm, jcat, Value.category, jinv, jrcv, jthr, jhd, jput, jget, jlen, jald, jast, jaast, jgI, jgL, jgB, jtab, jlku, jacp, vf20, vf21, vf22, vf23, vf24, u2_s, u2_k, u2_i, uc_s, uc_k, uc_c, u2_c, LI0, LI1, LI2, LI3, LI4, LI5, LI6, LI7, LI8, LI9, LI10, LI11, LI12, LI13, LI14, LI15, LI16, LI17, LI18, LI19, LI20, LI21, LI22, LI23, LI24, LI25, LI26, LI27, LI28, LI29, LI30, LI31, LI32, LI33, LI34, LI35, LI36, LI37, LI40, LI42, LI43, LI45, LI48, LI60, LI61, LI64, LI80, LI300, LI400, LI1000, LI2000, LI2001, LI2047, LI2048, LI100000, LI1000000, LI38, LI39, LI41, LI44, LI46, LI47, LI49, LI50, LI51, LI52, LI53, LI54, LI55, LI56, LI57, LI58, LI59, LI62, LI63, LI65, LI66, LI67, LI68, LI69, LI70, LI71, LI72, LI73, LI74, LI75, LI76, LI77, LI78, LI79, LI81, LI82, LI83, LI84, LI85, LI86, LI87, LI88, LI89, LI90, LI91, LI92, LI93, LI94, LI95, LI96, LI97, LI98, LI99, LI100, LI101, LI102, LI103, LI104, LI105, LI106, LI107, LI108, LI109, LI110, LI111, LI112, LI113, LI114, LI115, LI116, LI117, LI118, LI119, LI120, LI121, LI122, LI123, LI124, LI125, LI126, LI127, LI255, LI256, LI999, LI1001, LI1002, LI1600, LI4096, LI1000001, LI2042, LM, nI_clamp, nI_pos', nI_lt, nI_nlt, nI_le, nI_ge, nI_ne, nI_add, nI_sub, mI_lt, mI_le, mI_nlt, mI_nle, mI_ne, mI_ne', mI_nem, e169', e173]
      obtain ⟨X', I', n', nn', nb', v, e251, hk1, hv1, hv2, hRel⟩ := EXR 44 2
      have e176 := r176 (A := A) (d := d + 1399) (b := b) (h := h) (X := X') (I := I') (J := J1) (R := R) (n := n') (k := 2) (by omega)
      have gI : ∀ c i, ¬ (c = 241 ∧ (i = 8 ∨ i = 9 ∨ (13 ≤ i ∧ i ≤ 18))) → ¬ (243 ≤ c ∧ c ≤ 247) → c ≠ 249 → I' c i = I1 c i := hk1.2.2.2.2.2.2.2.2
      have i33' : I' 241 33 = nI 1 := (gI _ _ (by omega) (by omega) (by omega)).trans i33
      have e220 := rSlot (A := A) (d := d + 1399) (b := b) (h := h) (X := X') (J := J1) (R := R) (n := n') (x := xs (i + 1)) (w2 I' (fun c i hc => gI c i (by omega) (by omega) (by omega)))
      rw [hsl, show inO none = mI 1 from rfl] at e220
      have e2 : jcall A jcode (d + 1401) 258 [.ref (b + 241), .int (xs (i + 1))] (jH h b (xad X (jE 44)) I1 J1 R (n + 6)) = some (.inl (some (.int (nI 0))), (jH h b X' (u2 I' 241 0 (nI 2)) J1 R n')) := by
        simp (disch := omega) [je258, r258_0, r258_1, r258_4, r258_5, r258_6, r258_9, r258_12, r258_13, r258_14, r258_17, r258_20, r258_21, r258_22, r258_23, r258_24, r258_27, r258_30, r258_31, r258_34, r258_35, r258_38, r258_39, r258_42, r258_43, r258_46, r258_49, r258_50, r258_51, r258_52, r258_55, r258_56, r258_59, r258_60, r258_61, r258_64, r258_65, r258_68, r258_69, r258_72, r258_73, r258_74, r258_75, r258_76, r258_77, r258_80, r258_82, r258_83, r258_85, r258_88, r258_89, r258_92, r258_93, r258_96, r258_99, r258_100, r258_101, r258_102, r258_105, r258_106, r258_108, r258_109, r258_111, r258_112, r258_113, qa251, qo251, g241, vf12_33, qa220, qo220, qa176, qo176, vf12_23, t241_23, g253, vf12_35, t241_35, g259, vf12_43, t241_43, g261, qa212, qo212, vf12_48, t241_48, g266, List.getElem?_cons_zero, List.getElem?_cons_succ, List.length_cons, List.length_nil, ag_nx, ag_dn, ag_no, ag_if, jbr1, jbr2, jc1, jc2, jnul, jld, jsto, jstoL, jst1, jst2, jkill, jinc, jbI, jbL, jbS, juI, jl2i, jcmp, jisR, jisI, jisL, jret, jretv, jfits, jdup, jdup2, jpop, jmm, jcat, Value.category, jinv, jrcv, jthr, jhd, jput, jget, jlen, jald, jast, jaast, jgI, jgL, jgB, jtab, jlku, jacp, vf20, vf21, vf22, vf23, vf24, u2_s, u2_k, u2_i, uc_s, uc_k, uc_c, u2_c, LI0, LI1, LI2, LI3, LI4, LI5, LI6, LI7, LI8, LI9, LI10, LI11, LI12, LI13, LI14, LI15, LI16, LI17, LI18, LI19, LI20, LI21, LI22, LI23, LI24, LI25, LI26, LI27, LI28, LI29, LI30, LI31, LI32, LI33, LI34, LI35, LI36, LI37, LI40, LI42, LI43, LI45, LI48, LI60, LI61, LI64, LI80, LI300, LI400, LI1000, LI2000, LI2001, LI2047, LI2048, LI100000, LI1000000, LI38, LI39, LI41, LI44, LI46, LI47, LI49, LI50, LI51, LI52, LI53, LI54, LI55, LI56, LI57, LI58, LI59, LI62, LI63, LI65, LI66, LI67, LI68, LI69, LI70, LI71, LI72, LI73, LI74, LI75, LI76, LI77, LI78, LI79, LI81, LI82, LI83, LI84, LI85, LI86, LI87, LI88, LI89, LI90, LI91, LI92, LI93, LI94, LI95, LI96, LI97, LI98, LI99, LI100, LI101, LI102, LI103, LI104, LI105, LI106, LI107, LI108, LI109, LI110, LI111, LI112, LI113, LI114, LI115, LI116, LI117, LI118, LI119, LI120, LI121, LI122, LI123, LI124, LI125, LI126, LI127, LI255, LI256, LI999, LI1001, LI1002, LI1600, LI4096, LI1000001, LI2042, LM, nI_clamp, nI_pos', nI_lt, nI_nlt, nI_le, nI_ge, nI_ne, nI_add, nI_sub, mI_lt, mI_le, mI_nlt, mI_nle, mI_ne, mI_ne', mI_nem, e251, i33', e220, e176]
      exact ⟨_, _, _, _, _, _, _, _, (lwD_9 hs0 hs hL hi hk).trans (lw9_2 hs0 hs hL hi e1 e2 u2_s), hRel⟩
    | some q =>
      obtain ⟨a, ha⟩ := aSlot_at hsl
      have e173 := c173y (A := A) (d := d + 1397) (b := b) (h := h) (X := X) (J := J1) (n := n) (i10.trans b1) w1 hsl
      have q8 : q < 8 := by have := b14.1; have := lt_of_some ha; omega
      have hq : isI (R 65 q) := wA_I hw w1.1 q q8
      have ic := w1.1.2.2.2 q a ha
      replace ic : iC (cNf (cnm I J (P + 1)) L) I1 (R 65 q) a := ic
      obtain ⟨p, p1, p2, p3, p4, _⟩ := b14.2.1 q a ha
      have pr1 : I1 (R 65 q) 1 = nI p := by rw [← p2, ic.1]
      have e90 := c90 (A := A) (d := d + 1397) (b := b) (h := h) (X := X) (R := R) (n := n) hT1 tT
      have np6 := b9.1
      have p6 : p < 6 := by omega
      obtain ⟨v1, v2, v3, v4, v5, _⟩ := b9.2.2.2 p p1
      obtain ⟨u1, u2', u3, u4, u5, u6, u7, _⟩ := b8.2.2.2 p p1
      have R8 := a6.2.1
      by_cases hone : KK t T 0 = 26 ∧ KK t T 1 = 29
      · rw [if_pos hone] at e90
        have hm1 := hT1.1
        have hmT := hT1.2.1
        have e87 := c87 (A := A) (d := d + 1398) (b := b) (h := h) (X := X) (I := I1) (J := J1) (R := R) (n := n) (j := 0) hm1 (by omega) (by omega)
        have e88 := c88 (A := A) (d := d + 1398) (b := b) (h := h) (X := X) (I := I1) (J := J1) (R := R) (n := n) (j := 0) hm1 (by omega) (by omega)
        obtain ⟨_, _, _, t8, t9⟩ := hT1.2.2.2.2 0 (by omega)
        rw [t8] at e87
        rw [t9] at e88
        have ec1 : cnm I1 J1 (P + 1) = cnm I J (P + 1) := funext fun x => by unfold cnm; rw [f1 _ _ (by omega) (by omega) (by omega), fj1 _ _ (by omega)]
        have hcN1 : cNm I1 J1 (P + 1) L := cNm_fr a6.2.2.2.1 (f1 _ _ (by omega) (by omega) (by omega)) (fun i => f1 _ _ (by omega) (by omega) (by omega)) (fun i => fj1 _ _ (by omega))
        have e29 := c29 (A := A) (d := d + 1398) (b := b) (h := h) (X := X) (R := R) (n := n) (u := tkH t T (tpos t T 0)) (v := tkD t T (tpos t T 0)) hN hcN1
        rw [ec1] at e29
        have hlen : I1 (P + 12) p = nI (lets N p).length := by rw [f1 _ _ (by omega) (by omega) (by omega)]; exact u6
        have e74 := c74 (A := A) (d := d + 1398) (b := b) (h := h) (X := X) (I := I1) (J := J1) (R := R) (n := n) (x := inO (fdN (cnm I J (P + 1)) (tkH t T (tpos t T 0), tkD t T (tpos t T 0)) L 0)) hP p6 hlen (by omega)
        have hP13 : ∀ j, I1 (P + 13) j = I (P + 13) j := fun j => f1 _ _ (by omega) (by omega) (by omega)
        simp only [hP13] at e74
        have hinj : ∀ {X' : jXX} {I' : Nat → Nat → Int32} {nn' nb' : Nat}, rNm X' I' nn' nb' → (∀ w w', w < nn' → w' < nn' → rnm I' w = rnm I' w' → w = w') ∧ nn' ≤ 2 ^ 20 := fun hm => ⟨hm.2.2.2.2.2.2.2.2.2.2.2.2.1, by obtain ⟨_, _, x3, _, _, _, _, _, x9, _⟩ := hm; omega⟩
        have hL20 : L ≤ 2 ^ 20 := by have := a6.2.2.2.1.2.1; have := (sN_c hN).1; omega
        have FD : ∀ {I' : Nat → Nat → Int32} {nn' w : Nat}, nn ≤ nn' → nn' ≤ 2 ^ 20 → (∀ u, u < nn → rnm I' u = rnm I u) → (∀ w w', w < nn' → w' < nn' → rnm I' w = rnm I' w' → w = w') → w < nn' → rnm I' w = Yn t T 0 → fdP (fun i => decide (I (P + 13) (p * 6 + i) = inO (fdN (cnm I J (P + 1)) (tkH t T (tpos t T 0), tkD t T (tpos t T 0)) L 0))) (lets N p).length 0 = (lets N p).findIdx? (fun a => decide (N 252 a = nI w)) := by
          intro I' nn' w h1 h2 h3 h4 h5 h6
          have hpl' := plC_mo (leP_f (C := cnm I J (P + 1)) (C' := cnm I J (P + 1)) (Nat.le_refl k) (fun _ _ => rfl) h1 h3) b8
          obtain ⟨_, _, _, _, _, _, u7', _⟩ := hpl'.2.2.2 p p1
          exact fd_same (cid := fun j => I (P + 13) (p * 6 + j)) b4 hL20 h2 a6.2.2.2.1.2.2 h4 h5 h6 (fun j a ha => (u7' j a ha).1) (fun j hj => b6.2 p _ j p1 u6 u5 hj)
        cases hfd : fdP (fun i => decide (I (P + 13) (p * 6 + i) = inO (fdN (cnm I J (P + 1)) (tkH t T (tpos t T 0), tkD t T (tpos t T 0)) L 0))) (lets N p).length 0 with
        | none =>
          rw [hfd, show inO none = mI 1 from rfl] at e74
          have e1 : jcall A jcode (d + 1400) 157 [.ref b, .int (xs (i + 1))] (jH h b X I J R n) = some (.inr 45, (jH h b (xad X (jE 45)) I1 J1 R (n + 6))) := by
            simp (disch := omega) [je157, r157_0, r157_1, r157_4, r157_5, r157_6, r157_9, r157_10, r157_11, r157_12, r157_13, r157_16, r157_19, r157_22, r157_23, r157_26, r157_29, r157_30, r157_33, r157_34, r157_37, r157_38, r157_41, r157_42, r157_45, r157_48, r157_50, r157_51, r157_54, r157_55, r157_58, r157_60, r157_63, r157_64, r157_65, r157_68, r157_78, r157_79, r157_80, r157_83, qa169, qo169, g0z, qa173, qo173, vf10_4, t0_4, qa90, qo90, g3, vf10_8, t0_8, gP0 hP, vf5_0, tP0_0 hP, qa87, qo87, qa88, qo88, qa29, qo29, gN0 hN, gI0 hq, vf2_1, qa74, qo74, qa16, qo16, List.getElem?_cons_zero, List.getElem?_cons_succ, List.length_cons, List.length_nil, ag_nx, ag_dn, ag_no, ag_if, jbr1, jbr2, jc1, jc2, jnul, jld, jsto, jstoL, jst1, jst2, jkill, jinc, jbI, jbL, jbS, juI, jl2i, jcmp, jisR, jisI, jisL, jret, jretv, jfits, jdup, jdup2, jpop, jmm, jcat, Value.category, jinv, jrcv, jthr, jhd, jput, jget, jlen, jald, jast, jaast, jgI, jgL, jgB, jtab, jlku, jacp, vf20, vf21, vf22, vf23, vf24, u2_s, u2_k, u2_i, uc_s, uc_k, uc_c, u2_c, LI0, LI1, LI2, LI3, LI4, LI5, LI6, LI7, LI8, LI9, LI10, LI11, LI12, LI13, LI14, LI15, LI16, LI17, LI18, LI19, LI20, LI21, LI22, LI23, LI24, LI25, LI26, LI27, LI28, LI29, LI30, LI31, LI32, LI33, LI34, LI35, LI36, LI37, LI40, LI42, LI43, LI45, LI48, LI60, LI61, LI64, LI80, LI300, LI400, LI1000, LI2000, LI2001, LI2047, LI2048, LI100000, LI1000000, LI38, LI39, LI41, LI44, LI46, LI47, LI49, LI50, LI51, LI52, LI53, LI54, LI55, LI56, LI57, LI58, LI59, LI62, LI63, LI65, LI66, LI67, LI68, LI69, LI70, LI71, LI72, LI73, LI74, LI75, LI76, LI77, LI78, LI79, LI81, LI82, LI83, LI84, LI85, LI86, LI87, LI88, LI89, LI90, LI91, LI92, LI93, LI94, LI95, LI96, LI97, LI98, LI99, LI100, LI101, LI102, LI103, LI104, LI105, LI106, LI107, LI108, LI109, LI110, LI111, LI112, LI113, LI114, LI115, LI116, LI117, LI118, LI119, LI120, LI121, LI122, LI123, LI124, LI125, LI126, LI127, LI255, LI256, LI999, LI1001, LI1002, LI1600, LI4096, LI1000001, LI2042, LM, nI_clamp, nI_pos', nI_lt, nI_nlt, nI_le, nI_ge, nI_ne, nI_add, nI_sub, mI_lt, mI_le, mI_nlt, mI_nle, mI_ne, mI_ne', mI_nem, e169', e173, e90, R8, e87, e88, e29, pr1, e74, jtnew, H_new, jE]
          obtain ⟨X', I', n', nn', nb', v, e251, hk1, hv1, hv2, hRel⟩ := EXR 45 3
          have e176 := r176 (A := A) (d := d + 1399) (b := b) (h := h) (X := X') (I := I') (J := J1) (R := R) (n := n') (k := 3) (by omega)
          have gI : ∀ c i, ¬ (c = 241 ∧ (i = 8 ∨ i = 9 ∨ (13 ≤ i ∧ i ≤ 18))) → ¬ (243 ≤ c ∧ c ≤ 247) → c ≠ 249 → I' c i = I1 c i := hk1.2.2.2.2.2.2.2.2
          obtain ⟨w, w1', w2', w3'⟩ := hv1 hone
          obtain ⟨x1, x2, x3, x4, x5, x6, x7, x8, x9⟩ := hk1
          have i33' : I' 241 33 = nI 1 := (gI _ _ (by omega) (by omega) (by omega)).trans i33
          have e220 := rSlot (A := A) (d := d + 1399) (b := b) (h := h) (X := X') (J := J1) (R := R) (n := n') (x := xs (i + 1)) (w2 I' (fun c i hc => gI c i (by omega) (by omega) (by omega)))
          rw [hsl, show inO (some q) = nI q from rfl] at e220
          have e176b := r176 (A := A) (d := d + 1399) (b := b) (h := h) (X := X') (I := I') (J := J1) (R := R) (n := n') (k := 0) (by omega)
          have e176c := r176 (A := A) (d := d + 1399) (b := b) (h := h) (X := X') (I := u2 I' 241 0 (nI 0)) (J := J1) (R := R) (n := n') (k := 3) (by omega)
          have hpl' : plR X' (u2 I' 241 0 (nI 0)) N cap := ⟨fun c i h1 h2 h3 => by rw [u2_o _ _ (by omega), gI _ _ (by omega) (by omega) (by omega), g0 _ _ (by omega)]; exact b10.1 c i h1 h2 h3, fun v h1 h2 => ((x7 v (by omega)).1).trans (b10.2.1 v h1 h2), b10.2.2⟩
          have e212 := r212p (A := A) (d := d + 1399) (b := b) (h := h) (J := J1) (R := R) (n := n') (x := nI w) hpl' (chOK_mo (by omega) _ _ v4)
          have hfd2 : chl N 7 (N 253 (pnd N p)) = lets N p := rfl
          have hrn1 : ∀ u, u < nn → rnm I' u = rnm I u := fun u hu => (x5 u hu).trans (rnm_e (fun c i c1 c2 => g0 c i (by omega)))
          rw [hfd2, ← FD x3 (hinj x1).2 hrn1 (hinj x1).1 w1' w3', hfd, show inO none = mI 1 from rfl] at e212
          have i261 : I' 261 q = nI p := by rw [gI _ _ (by omega) (by omega) (by omega), g0 _ _ (by omega), (iR_01 (b13.1.2.2 q a ha)).2.1, p2]
          have i259 : I' 259 p = nI (pnd N p) := by rw [gI _ _ (by omega) (by omega) (by omega), g0 _ _ (by omega), b10.1 259 p (by omega) (by omega) (by omega)]; exact v2
          have i253 : I' 253 (pnd N p) = N 253 (pnd N p) := by rw [gI _ _ (by omega) (by omega) (by omega), g0 _ _ (by omega), b10.1 253 _ (by omega) (by omega) (by omega)]
          have cpp : pnd N p < cp X' 253 := by rw [(x7 253 (by omega)).1]; show _ < cp X 253; rw [b10.2.1 253 (by omega) (by omega)]; omega
          have hMc := hcap.2.1
          rw [u2_tw] at e176c
          have e2 : jcall A jcode (d + 1401) 258 [.ref (b + 241), .int (xs (i + 1))] (jH h b (xad X (jE 45)) I1 J1 R (n + 6)) = some (.inl (some (.int (nI 0))), (jH h b X' (u2 I' 241 0 (nI 3)) J1 R n')) := by
            simp (disch := omega) [je258, r258_0, r258_1, r258_4, r258_5, r258_6, r258_9, r258_12, r258_13, r258_14, r258_17, r258_20, r258_21, r258_22, r258_23, r258_24, r258_27, r258_30, r258_31, r258_34, r258_35, r258_38, r258_39, r258_42, r258_43, r258_46, r258_49, r258_50, r258_51, r258_52, r258_55, r258_56, r258_59, r258_60, r258_61, r258_64, r258_65, r258_68, r258_69, r258_72, r258_73, r258_74, r258_75, r258_76, r258_77, r258_80, r258_82, r258_83, r258_85, r258_88, r258_89, r258_92, r258_93, r258_96, r258_99, r258_100, r258_101, r258_102, r258_105, r258_106, r258_108, r258_109, r258_111, r258_112, r258_113, qa251, qo251, g241, vf12_33, qa220, qo220, qa176, qo176, vf12_23, t241_23, g253, vf12_35, t241_35, g259, vf12_43, t241_43, g261, qa212, qo212, vf12_48, t241_48, g266, List.getElem?_cons_zero, List.getElem?_cons_succ, List.length_cons, List.length_nil, ag_nx, ag_dn, ag_no, ag_if, jbr1, jbr2, jc1, jc2, jnul, jld, jsto, jstoL, jst1, jst2, jkill, jinc, jbI, jbL, jbS, juI, jl2i, jcmp, jisR, jisI, jisL, jret, jretv, jfits, jdup, jdup2, jpop, jmm, jcat, Value.category, jinv, jrcv, jthr, jhd, jput, jget, jlen, jald, jast, jaast, jgI, jgL, jgB, jtab, jlku, jacp, vf20, vf21, vf22, vf23, vf24, u2_s, u2_k, u2_i, uc_s, uc_k, uc_c, u2_c, LI0, LI1, LI2, LI3, LI4, LI5, LI6, LI7, LI8, LI9, LI10, LI11, LI12, LI13, LI14, LI15, LI16, LI17, LI18, LI19, LI20, LI21, LI22, LI23, LI24, LI25, LI26, LI27, LI28, LI29, LI30, LI31, LI32, LI33, LI34, LI35, LI36, LI37, LI40, LI42, LI43, LI45, LI48, LI60, LI61, LI64, LI80, LI300, LI400, LI1000, LI2000, LI2001, LI2047, LI2048, LI100000, LI1000000, LI38, LI39, LI41, LI44, LI46, LI47, LI49, LI50, LI51, LI52, LI53, LI54, LI55, LI56, LI57, LI58, LI59, LI62, LI63, LI65, LI66, LI67, LI68, LI69, LI70, LI71, LI72, LI73, LI74, LI75, LI76, LI77, LI78, LI79, LI81, LI82, LI83, LI84, LI85, LI86, LI87, LI88, LI89, LI90, LI91, LI92, LI93, LI94, LI95, LI96, LI97, LI98, LI99, LI100, LI101, LI102, LI103, LI104, LI105, LI106, LI107, LI108, LI109, LI110, LI111, LI112, LI113, LI114, LI115, LI116, LI117, LI118, LI119, LI120, LI121, LI122, LI123, LI124, LI125, LI126, LI127, LI255, LI256, LI999, LI1001, LI1002, LI1600, LI4096, LI1000001, LI2042, LM, nI_clamp, nI_pos', nI_lt, nI_nlt, nI_le, nI_ge, nI_ne, nI_add, nI_sub, mI_lt, mI_le, mI_nlt, mI_nle, mI_ne, mI_ne', mI_nem, e251, i33', e220, w2', i261, i259, i253, q8, p6, e212, e176b, e176c, cpp]
          exact ⟨_, _, _, _, _, _, _, _, (lwD_9 hs0 hs hL hi hk).trans (lw9_3 hs0 hs hL hi e1 e2 u2_s), hRel⟩
        | some j =>
          rw [hfd, show inO (some j) = nI j from rfl] at e74
          have hjl : j < (lets N p).length := by
            have := fdP_ltx _ _ _ hfd
            omega
          have j6 : j < 6 := by omega
          have e16 := c16 (A := A) (d := d + 1398) (b := b) (h := h) (X := X) (I := I1) (J := J1) (R := R) (n := n) hq j6
          have hjn : ¬ nI j < nI 0 := by rw [nI_ltI (by omega) (by omega)]; omega
          obtain ⟨val, hval⟩ : ∃ val, val = I1 (R 65 q + 1) j := ⟨_, rfl⟩
          rw [← hval] at e16
          have e1 : jcall A jcode (d + 1400) 157 [.ref b, .int (xs (i + 1))] (jH h b X I J R n) = some (.inl (some (.int val)), (jH h b X I1 J1 R n)) := by
            simp (disch := omega) [je157, r157_0, r157_1, r157_4, r157_5, r157_6, r157_9, r157_10, r157_11, r157_12, r157_13, r157_16, r157_19, r157_22, r157_23, r157_26, r157_29, r157_30, r157_33, r157_34, r157_37, r157_38, r157_41, r157_42, r157_45, r157_48, r157_50, r157_51, r157_54, r157_55, r157_58, r157_60, r157_63, r157_64, r157_65, r157_68, r157_78, r157_79, r157_80, r157_83, qa169, qo169, g0z, qa173, qo173, vf10_4, t0_4, qa90, qo90, g3, vf10_8, t0_8, gP0 hP, vf5_0, tP0_0 hP, qa87, qo87, qa88, qo88, qa29, qo29, gN0 hN, gI0 hq, vf2_1, qa74, qo74, qa16, qo16, List.getElem?_cons_zero, List.getElem?_cons_succ, List.length_cons, List.length_nil, ag_nx, ag_dn, ag_no, ag_if, jbr1, jbr2, jc1, jc2, jnul, jld, jsto, jstoL, jst1, jst2, jkill, jinc, jbI, jbL, jbS, juI, jl2i, jcmp, jisR, jisI, jisL, jret, jretv, jfits, jdup, jdup2, jpop, jmm, jcat, Value.category, jinv, jrcv, jthr, jhd, jput, jget, jlen, jald, jast, jaast, jgI, jgL, jgB, jtab, jlku, jacp, vf20, vf21, vf22, vf23, vf24, u2_s, u2_k, u2_i, uc_s, uc_k, uc_c, u2_c, LI0, LI1, LI2, LI3, LI4, LI5, LI6, LI7, LI8, LI9, LI10, LI11, LI12, LI13, LI14, LI15, LI16, LI17, LI18, LI19, LI20, LI21, LI22, LI23, LI24, LI25, LI26, LI27, LI28, LI29, LI30, LI31, LI32, LI33, LI34, LI35, LI36, LI37, LI40, LI42, LI43, LI45, LI48, LI60, LI61, LI64, LI80, LI300, LI400, LI1000, LI2000, LI2001, LI2047, LI2048, LI100000, LI1000000, LI38, LI39, LI41, LI44, LI46, LI47, LI49, LI50, LI51, LI52, LI53, LI54, LI55, LI56, LI57, LI58, LI59, LI62, LI63, LI65, LI66, LI67, LI68, LI69, LI70, LI71, LI72, LI73, LI74, LI75, LI76, LI77, LI78, LI79, LI81, LI82, LI83, LI84, LI85, LI86, LI87, LI88, LI89, LI90, LI91, LI92, LI93, LI94, LI95, LI96, LI97, LI98, LI99, LI100, LI101, LI102, LI103, LI104, LI105, LI106, LI107, LI108, LI109, LI110, LI111, LI112, LI113, LI114, LI115, LI116, LI117, LI118, LI119, LI120, LI121, LI122, LI123, LI124, LI125, LI126, LI127, LI255, LI256, LI999, LI1001, LI1002, LI1600, LI4096, LI1000001, LI2042, LM, nI_clamp, nI_pos', nI_lt, nI_nlt, nI_le, nI_ge, nI_ne, nI_add, nI_sub, mI_lt, mI_le, mI_nlt, mI_nle, mI_ne, mI_ne', mI_nem, e169', e173, e90, R8, e87, e88, e29, pr1, e74, hjn, e16]
          obtain ⟨J2, hJ2⟩ : ∃ J2, J2 = u2 J1 299 0 val.toInt64 := ⟨_, rfl⟩
          obtain ⟨X', I', n', nn', nb', v, e251, hk1, hv1, hv2, hRel⟩ := EXR0 0 X n J2 (fun _ => rfl) (Nat.le_succ _) (Nat.le_add_right _ _) hrm1 a4.2.1 (fun c i hc => by rw [hJ2]; exact u2_k hc)
          have gI : ∀ c i, ¬ (c = 241 ∧ (i = 8 ∨ i = 9 ∨ (13 ≤ i ∧ i ≤ 18))) → ¬ (243 ≤ c ∧ c ≤ 247) → c ≠ 249 → I' c i = I1 c i := hk1.2.2.2.2.2.2.2.2
          obtain ⟨w, w1', w2', w3'⟩ := hv1 hone
          obtain ⟨x1, x2, x3, x4, x5, x6, x7, x8, x9⟩ := hk1
          have i33' : I' 241 33 = nI 1 := (gI _ _ (by omega) (by omega) (by omega)).trans i33
          have e220 := rSlot (A := A) (d := d + 1399) (b := b) (h := h) (X := X') (J := J2) (R := R) (n := n') (x := xs (i + 1)) (w2 I' (fun c i hc => gI c i (by omega) (by omega) (by omega)))
          rw [hsl, show inO (some q) = nI q from rfl] at e220
          have e176 := r176 (A := A) (d := d + 1399) (b := b) (h := h) (X := X') (I := I') (J := J2) (R := R) (n := n') (k := 0) (by omega)
          have e176c := r176 (A := A) (d := d + 1399) (b := b) (h := h) (X := X') (I := u2 I' 241 0 (nI 0)) (J := J2) (R := R) (n := n') (k := 0) (by omega)
          rw [u2_tw] at e176c
          have hpl' : plR X' (u2 I' 241 0 (nI 0)) N cap := ⟨fun c i h1 h2 h3 => by rw [u2_o _ _ (by omega), gI _ _ (by omega) (by omega) (by omega), g0 _ _ (by omega)]; exact b10.1 c i h1 h2 h3, fun v h1 h2 => ((x7 v (by omega)).1).trans (b10.2.1 v h1 h2), b10.2.2⟩
          have e212 := r212p (A := A) (d := d + 1399) (b := b) (h := h) (J := J2) (R := R) (n := n') (x := nI w) hpl' (chOK_mo (by omega) _ _ v4)
          have hfd2 : chl N 7 (N 253 (pnd N p)) = lets N p := rfl
          have hrn1 : ∀ u, u < nn → rnm I' u = rnm I u := fun u hu => (x5 u hu).trans (rnm_e (fun c i c1 c2 => g0 c i (by omega)))
          rw [hfd2, ← FD x3 (hinj x1).2 hrn1 (hinj x1).1 w1' w3', hfd, show inO (some j) = nI j from rfl] at e212
          have i261 : I' 261 q = nI p := by rw [gI _ _ (by omega) (by omega) (by omega), g0 _ _ (by omega), (iR_01 (b13.1.2.2 q a ha)).2.1, p2]
          have i259 : I' 259 p = nI (pnd N p) := by rw [gI _ _ (by omega) (by omega) (by omega), g0 _ _ (by omega), b10.1 259 p (by omega) (by omega) (by omega)]; exact v2
          have i253 : I' 253 (pnd N p) = N 253 (pnd N p) := by rw [gI _ _ (by omega) (by omega) (by omega), g0 _ _ (by omega), b10.1 253 _ (by omega) (by omega) (by omega)]
          have cpp : pnd N p < cp X' 253 := by rw [(x7 253 (by omega)).1, b10.2.1 253 (by omega) (by omega)]; omega
          have hMc := hcap.2.1
          have hwn : ¬ nI w < nI 0 := by have := (hinj x1).2; rw [nI_ltI (by omega) (by omega)]; omega
          have hmul : nI q * nI 6 = nI (6 * q) := by rw [nI_mul, Nat.mul_comm]
          have h48 : 6 * q + j < 48 := by omega
          have i266 : I' 266 (6 * q + j) = val := by
            rw [gI _ _ (by omega) (by omega) (by omega), g0 _ _ (by omega), iR_var (b13.1.2.2 q a ha) (by omega), hval]
            have e2 := ic.2.1
            rw [List.getD_eq_getElem?_getD, e2, rl_at (by omega)]
            rfl
          have e2 : jcall A jcode (d + 1401) 258 [.ref (b + 241), .int (xs (i + 1))] (jH h b X I1 J2 R n) = some (.inl (some (.int val)), (jH h b X' (u2 I' 241 0 (nI 0)) J2 R n')) := by
            simp (disch := omega) [je258, r258_0, r258_1, r258_4, r258_5, r258_6, r258_9, r258_12, r258_13, r258_14, r258_17, r258_20, r258_21, r258_22, r258_23, r258_24, r258_27, r258_30, r258_31, r258_34, r258_35, r258_38, r258_39, r258_42, r258_43, r258_46, r258_49, r258_50, r258_51, r258_52, r258_55, r258_56, r258_59, r258_60, r258_61, r258_64, r258_65, r258_68, r258_69, r258_72, r258_73, r258_74, r258_75, r258_76, r258_77, r258_80, r258_82, r258_83, r258_85, r258_88, r258_89, r258_92, r258_93, r258_96, r258_99, r258_100, r258_101, r258_102, r258_105, r258_106, r258_108, r258_109, r258_111, r258_112, r258_113, qa251, qo251, g241, vf12_33, qa220, qo220, qa176, qo176, vf12_23, t241_23, g253, vf12_35, t241_35, g259, vf12_43, t241_43, g261, qa212, qo212, vf12_48, t241_48, g266, List.getElem?_cons_zero, List.getElem?_cons_succ, List.length_cons, List.length_nil, ag_nx, ag_dn, ag_no, ag_if, jbr1, jbr2, jc1, jc2, jnul, jld, jsto, jstoL, jst1, jst2, jkill, jinc, jbI, jbL, jbS, juI, jl2i, jcmp, jisR, jisI, jisL, jret, jretv, jfits, jdup, jdup2, jpop, jmm, jcat, Value.category, jinv, jrcv, jthr, jhd, jput, jget, jlen, jald, jast, jaast, jgI, jgL, jgB, jtab, jlku, jacp, vf20, vf21, vf22, vf23, vf24, u2_s, u2_k, u2_i, uc_s, uc_k, uc_c, u2_c, LI0, LI1, LI2, LI3, LI4, LI5, LI6, LI7, LI8, LI9, LI10, LI11, LI12, LI13, LI14, LI15, LI16, LI17, LI18, LI19, LI20, LI21, LI22, LI23, LI24, LI25, LI26, LI27, LI28, LI29, LI30, LI31, LI32, LI33, LI34, LI35, LI36, LI37, LI40, LI42, LI43, LI45, LI48, LI60, LI61, LI64, LI80, LI300, LI400, LI1000, LI2000, LI2001, LI2047, LI2048, LI100000, LI1000000, LI38, LI39, LI41, LI44, LI46, LI47, LI49, LI50, LI51, LI52, LI53, LI54, LI55, LI56, LI57, LI58, LI59, LI62, LI63, LI65, LI66, LI67, LI68, LI69, LI70, LI71, LI72, LI73, LI74, LI75, LI76, LI77, LI78, LI79, LI81, LI82, LI83, LI84, LI85, LI86, LI87, LI88, LI89, LI90, LI91, LI92, LI93, LI94, LI95, LI96, LI97, LI98, LI99, LI100, LI101, LI102, LI103, LI104, LI105, LI106, LI107, LI108, LI109, LI110, LI111, LI112, LI113, LI114, LI115, LI116, LI117, LI118, LI119, LI120, LI121, LI122, LI123, LI124, LI125, LI126, LI127, LI255, LI256, LI999, LI1001, LI1002, LI1600, LI4096, LI1000001, LI2042, LM, nI_clamp, nI_pos', nI_lt, nI_nlt, nI_le, nI_ge, nI_ne, nI_add, nI_sub, mI_lt, mI_le, mI_nlt, mI_nle, mI_ne, mI_ne', mI_nem, e251, i33', e220, w2', i261, i259, i253, q8, p6, e212, e176, e176c, cpp, hjn, hmul, h48, i266, hwn]
          rw [hJ2] at e2
          exact ⟨_, _, _, _, _, _, _, _, (lwD_9 hs0 hs hL hi hk).trans (lw9_0 hs0 hs hL hi e1 e2 u2_s u2_s), by rw [← hJ2]; exact hRel⟩
      · rw [if_neg hone] at e90
        have e1 : jcall A jcode (d + 1400) 157 [.ref b, .int (xs (i + 1))] (jH h b X I J R n) = some (.inr 45, (jH h b (xad X (jE 45)) I1 J1 R (n + 6))) := by
          simp (disch := omega) [je157, r157_0, r157_1, r157_4, r157_5, r157_6, r157_9, r157_10, r157_11, r157_12, r157_13, r157_16, r157_19, r157_22, r157_23, r157_26, r157_29, r157_30, r157_33, r157_34, r157_37, r157_38, r157_41, r157_42, r157_45, r157_48, r157_50, r157_51, r157_54, r157_55, r157_58, r157_60, r157_63, r157_64, r157_65, r157_68, r157_78, r157_79, r157_80, r157_83, qa169, qo169, g0z, qa173, qo173, vf10_4, t0_4, qa90, qo90, g3, vf10_8, t0_8, gP0 hP, vf5_0, tP0_0 hP, qa87, qo87, qa88, qo88, qa29, qo29, gN0 hN, gI0 hq, vf2_1, qa74, qo74, qa16, qo16, List.getElem?_cons_zero, List.getElem?_cons_succ, List.length_cons, List.length_nil, ag_nx, ag_dn, ag_no, ag_if, jbr1, jbr2, jc1, jc2, jnul, jld, jsto, jstoL, jst1, jst2, jkill, jinc, jbI, jbL, jbS, juI, jl2i, jcmp, jisR, jisI, jisL, jret, jretv, jfits, jdup, jdup2, jpop, jmm, jcat, Value.category, jinv, jrcv, jthr, jhd, jput, jget, jlen, jald, jast, jaast, jgI, jgL, jgB, jtab, jlku, jacp, vf20, vf21, vf22, vf23, vf24, u2_s, u2_k, u2_i, uc_s, uc_k, uc_c, u2_c, LI0, LI1, LI2, LI3, LI4, LI5, LI6, LI7, LI8, LI9, LI10, LI11, LI12, LI13, LI14, LI15, LI16, LI17, LI18, LI19, LI20, LI21, LI22, LI23, LI24, LI25, LI26, LI27, LI28, LI29, LI30, LI31, LI32, LI33, LI34, LI35, LI36, LI37, LI40, LI42, LI43, LI45, LI48, LI60, LI61, LI64, LI80, LI300, LI400, LI1000, LI2000, LI2001, LI2047, LI2048, LI100000, LI1000000, LI38, LI39, LI41, LI44, LI46, LI47, LI49, LI50, LI51, LI52, LI53, LI54, LI55, LI56, LI57, LI58, LI59, LI62, LI63, LI65, LI66, LI67, LI68, LI69, LI70, LI71, LI72, LI73, LI74, LI75, LI76, LI77, LI78, LI79, LI81, LI82, LI83, LI84, LI85, LI86, LI87, LI88, LI89, LI90, LI91, LI92, LI93, LI94, LI95, LI96, LI97, LI98, LI99, LI100, LI101, LI102, LI103, LI104, LI105, LI106, LI107, LI108, LI109, LI110, LI111, LI112, LI113, LI114, LI115, LI116, LI117, LI118, LI119, LI120, LI121, LI122, LI123, LI124, LI125, LI126, LI127, LI255, LI256, LI999, LI1001, LI1002, LI1600, LI4096, LI1000001, LI2042, LM, nI_clamp, nI_pos', nI_lt, nI_nlt, nI_le, nI_ge, nI_ne, nI_add, nI_sub, mI_lt, mI_le, mI_nlt, mI_nle, mI_ne, mI_ne', mI_nem, e169', e173, e90, jtnew, H_new, jE]
        obtain ⟨X', I', n', nn', nb', v, e251, hk1, hv1, hv2, hRel⟩ := EXR 45 3
        have e176 := r176 (A := A) (d := d + 1399) (b := b) (h := h) (X := X') (I := I') (J := J1) (R := R) (n := n') (k := 3) (by omega)
        have gI : ∀ c i, ¬ (c = 241 ∧ (i = 8 ∨ i = 9 ∨ (13 ≤ i ∧ i ≤ 18))) → ¬ (243 ≤ c ∧ c ≤ 247) → c ≠ 249 → I' c i = I1 c i := hk1.2.2.2.2.2.2.2.2
        have hv := hv2 hone
        have i33' : I' 241 33 = nI 1 := (gI _ _ (by omega) (by omega) (by omega)).trans i33
        have e220 := rSlot (A := A) (d := d + 1399) (b := b) (h := h) (X := X') (J := J1) (R := R) (n := n') (x := xs (i + 1)) (w2 I' (fun c i hc => gI c i (by omega) (by omega) (by omega)))
        rw [hsl, show inO (some q) = nI q from rfl] at e220
        have e176b := r176 (A := A) (d := d + 1399) (b := b) (h := h) (X := X') (I := I') (J := J1) (R := R) (n := n') (k := 0) (by omega)
        have e176c := r176 (A := A) (d := d + 1399) (b := b) (h := h) (X := X') (I := u2 I' 241 0 (nI 0)) (J := J1) (R := R) (n := n') (k := 3) (by omega)
        rw [u2_tw] at e176c
        have e2 : jcall A jcode (d + 1401) 258 [.ref (b + 241), .int (xs (i + 1))] (jH h b (xad X (jE 45)) I1 J1 R (n + 6)) = some (.inl (some (.int (nI 0))), (jH h b X' (u2 I' 241 0 (nI 3)) J1 R n')) := by
          simp (disch := omega) [je258, r258_0, r258_1, r258_4, r258_5, r258_6, r258_9, r258_12, r258_13, r258_14, r258_17, r258_20, r258_21, r258_22, r258_23, r258_24, r258_27, r258_30, r258_31, r258_34, r258_35, r258_38, r258_39, r258_42, r258_43, r258_46, r258_49, r258_50, r258_51, r258_52, r258_55, r258_56, r258_59, r258_60, r258_61, r258_64, r258_65, r258_68, r258_69, r258_72, r258_73, r258_74, r258_75, r258_76, r258_77, r258_80, r258_82, r258_83, r258_85, r258_88, r258_89, r258_92, r258_93, r258_96, r258_99, r258_100, r258_101, r258_102, r258_105, r258_106, r258_108, r258_109, r258_111, r258_112, r258_113, qa251, qo251, g241, vf12_33, qa220, qo220, qa176, qo176, vf12_23, t241_23, g253, vf12_35, t241_35, g259, vf12_43, t241_43, g261, qa212, qo212, vf12_48, t241_48, g266, List.getElem?_cons_zero, List.getElem?_cons_succ, List.length_cons, List.length_nil, ag_nx, ag_dn, ag_no, ag_if, jbr1, jbr2, jc1, jc2, jnul, jld, jsto, jstoL, jst1, jst2, jkill, jinc, jbI, jbL, jbS, juI, jl2i, jcmp, jisR, jisI, jisL, jret, jretv, jfits, jdup, jdup2, jpop, jmm, jcat, Value.category, jinv, jrcv, jthr, jhd, jput, jget, jlen, jald, jast, jaast, jgI, jgL, jgB, jtab, jlku, jacp, vf20, vf21, vf22, vf23, vf24, u2_s, u2_k, u2_i, uc_s, uc_k, uc_c, u2_c, LI0, LI1, LI2, LI3, LI4, LI5, LI6, LI7, LI8, LI9, LI10, LI11, LI12, LI13, LI14, LI15, LI16, LI17, LI18, LI19, LI20, LI21, LI22, LI23, LI24, LI25, LI26, LI27, LI28, LI29, LI30, LI31, LI32, LI33, LI34, LI35, LI36, LI37, LI40, LI42, LI43, LI45, LI48, LI60, LI61, LI64, LI80, LI300, LI400, LI1000, LI2000, LI2001, LI2047, LI2048, LI100000, LI1000000, LI38, LI39, LI41, LI44, LI46, LI47, LI49, LI50, LI51, LI52, LI53, LI54, LI55, LI56, LI57, LI58, LI59, LI62, LI63, LI65, LI66, LI67, LI68, LI69, LI70, LI71, LI72, LI73, LI74, LI75, LI76, LI77, LI78, LI79, LI81, LI82, LI83, LI84, LI85, LI86, LI87, LI88, LI89, LI90, LI91, LI92, LI93, LI94, LI95, LI96, LI97, LI98, LI99, LI100, LI101, LI102, LI103, LI104, LI105, LI106, LI107, LI108, LI109, LI110, LI111, LI112, LI113, LI114, LI115, LI116, LI117, LI118, LI119, LI120, LI121, LI122, LI123, LI124, LI125, LI126, LI127, LI255, LI256, LI999, LI1001, LI1002, LI1600, LI4096, LI1000001, LI2042, LM, nI_clamp, nI_pos', nI_lt, nI_nlt, nI_le, nI_ge, nI_ne, nI_add, nI_sub, mI_lt, mI_le, mI_nlt, mI_nle, mI_ne, mI_ne', mI_nem, e251, i33', e220, hv, e176b, e176c]
        exact ⟨_, _, _, _, _, _, _, _, (lwD_9 hs0 hs hL hi hk).trans (lw9_3 hs0 hs hL hi e1 e2 u2_s), hRel⟩
end ZTH
