/-! fits: what it is, and the class -/
section FTA
abbrev hY : Type := Int64 × Int32
/-- the line of a process, or of out -/
def lbP (nf : Nat → Nm) (v : Int32) : Option (Option hY) := if v = -1 then some none else match nf (ix v) with | .inl y => some (some y) | .inr _ => none
def lnI (ls : List (Option hY)) (o : Option (Option hY)) : Option Nat := match o with | none => none | some l => ls.findIdx? (fun x => decide (x = l))
def othL (ms : List hM) (k : Nat) : Nat := if k % 2 = 0 then (ms.getD (k / 2) (0, 0, (0, 0))).2.1 else (ms.getD (k / 2) (0, 0, (0, 0))).1
def ftD (dn : Nat → Bool) (k : Nat) : Nat → Bool := fun j => if j = k then true else dn j
def ftE (ms : List hM) (ls : List (Option hY)) (lb : Int32 → Option (Option hY)) (dn : Nat → Bool) (kd : Int32) (nm : Nm) (x y : Int32) : Option (Nat → Bool) :=
  match lnI ls (lb x) with
  | none => none
  | some f => match fdP (fun k => !dn k && decide (lnM ms k = f)) (2 * ms.length) 0 with
    | none => none
    | some k => if nI (k % 2) = kd ∧ lnI ls (lb y) = some (othL ms k) ∧ nm = .inl (ms.getD (k / 2) (0, 0, (0, 0))).2.2 then some (if k % 2 = 0 ∧ lb y = some none then ftD (ftD dn k) (k + 1) else ftD dn k) else none
def ftT (ms : List hM) (ls : List (Option hY)) (lb : Int32 → Option (Option hY)) : List (aE Nm) → (Nat → Bool) → Option (Nat → Bool)
  | [], dn => some dn
  | e :: es, dn => match e.2.2.2.2 with
    | none => ftT ms ls lb es dn
    | some (x, y) => match ftE ms ls lb dn e.1 e.2.2.1 x y with
      | none => none
      | some dn' => ftT ms ls lb es dn'
def ftA (dn : Nat → Bool) : Nat → Nat → Bool
  | 0, _ => true
  | r + 1, k => if dn k = true then ftA dn r (k + 1) else false
def ftF (ms : List hM) (ls : List (Option hY)) (lb : Int32 → Option (Option hY)) (T : List (aE Nm) × Bool) : Bool := if T.2 = true then false else match ftT ms ls lb T.1 (fun _ => false) with | none => false | some dn => ftA dn (2 * ms.length) 0
theorem lnI_lt {ls : List (Option hY)} {o : Option (Option hY)} {f : Nat} (h : lnI ls o = some f) : f < ls.length ∧ ∃ l, o = some l ∧ ls[f]? = some l := by
  unfold lnI at h
  cases o with
  | none => cases h
  | some l =>
    obtain ⟨h1, h2, _⟩ := List.findIdx?_eq_some_iff_getElem.mp h
    refine ⟨h1, l, rfl, ?_⟩
    rw [List.getElem?_eq_getElem h1]
    simpa using h2
theorem inO_n {o : Option Nat} {q : Nat} (hq : q < 2 ^ 20) (ho : ∀ x, o = some x → x < 2 ^ 20) : inO o = nI q ↔ o = some q := by
  cases o with
  | none =>
    constructor
    · intro e
      have e' : (-1 : Int32) = nI q := e
      rw [← m1e] at e'
      exact absurd e' (mI_ne' (by omega) (by omega) (by omega))
    · intro e; cases e
  | some x =>
    constructor
    · intro e
      have e' : nI x = nI q := e
      rw [nI_inj (ho x rfl) hq e']
    · intro e; cases e; rfl
end FTA
section FTC
variable {A : Nat → Nat} {d b n C P L Lp np : Nat} {h : Nat → Option jC} {X : jXX} {I : Nat → Nat → Int32} {J : Nat → Nat → Int64} {R : Nat → Nat → Nat} {s : hS} {nf : Nat → Nm}
/-- names of the plan and of its processes -/
def pF (I : Nat → Nat → Int32) (J : Nat → Nat → Int64) (P Lp np : Nat) (nf : Nat → Nm) : Prop := cNm I J (P + 1) Lp ∧ np ≤ 6 ∧ ∀ p, p < np → (∀ y, nf p = .inl y → ∃ u, u < Lp ∧ I (P + 9) p = nI u ∧ cnm I J (P + 1) u = y) ∧ ∀ z, nf p = .inr z → I (P + 9) p = mI 1
theorem c4f {x : Int32} {l : Option hY} (hC : isC C) (hs : hC_ I J C s L) (hL : L ≤ 48) (hl : cLn I J (C + 1) L x l) : jcall A jcode (d + 1) 4 [.ref (b + C), .int x] (jH h b X I J R n) = some (.inl (some (.int (inO (s.2.findIdx? (fun y => decide (y = l)))))), (jH h b X I J R n)) := by
  obtain ⟨a1, a3, a4, a5, a6, a7, a8, a9⟩ := hs
  have e4 := c4 (A := A) (d := d) (b := b) (h := h) (X := X) (J := J) (R := R) (n := n) (x := x) hC a4 a5
  have hfd : fdP (fun i => decide (I (C + 4) i = x)) s.2.length 0 = s.2.findIdx? (fun y => decide (y = l)) := by
    refine fdP_ix (fun i y hy => ?_)
    have := cLn_e (by omega) a1 (a9 i y hy) hl
    by_cases hh : y = l
    · rw [decide_eq_true hh, decide_eq_true (this.mpr hh)]
    · rw [decide_eq_false hh, decide_eq_false (fun z => hh (this.mp z))]
  rw [hfd] at e4
  exact e4
theorem inO_neg {o : Option Nat} (ho : ∀ x, o = some x → x < 2 ^ 31) : inO o < nI 0 ↔ o = none := inO_lt ho
/-- a name, looked for among the chart's -/
def fnN (D : Nat → Int64 × Int32) (L : Nat) (nm : Nm) : Option Nat := match nm with | .inl y => fdN D y L 0 | .inr _ => none
theorem c31f {w : Int32} {nm : Nm} (hC : isC C) (hP : isP P) (hm : cNm I J (P + 1) Lp) (hs : cNm I J (C + 1) L) (hLp : Lp < 2 ^ 20) (h1 : ∀ y, nm = .inl y → ∃ u, u < Lp ∧ w = nI u ∧ cnm I J (P + 1) u = y) (h2 : ∀ z, nm = .inr z → ¬ (nI 0 ≤ w ∧ w < nI Lp)) : jcall A jcode (d + 2) 31 [.ref (b + (P + 1)), .ref (b + (C + 1)), .int w] (jH h b X I J R n) = some (.inl (some (.int (inO (fnN (cnm I J (C + 1)) L nm)))), (jH h b X I J R n)) := by
  have e := c31 (A := A) (d := d) (b := b) (h := h) (X := X) (R := R) (n := n) (x := w) (isP_N hP) (isC_N hC) hm hs
  rw [e]
  cases nm with
  | inl y =>
    obtain ⟨u, u1, u2', u3⟩ := h1 y rfl
    have hc : (0 : Int32) ≤ w ∧ w < nI Lp := by
      rw [u2', show (0 : Int32) = nI 0 from LI0]
      exact ⟨nI_le (by omega) (by omega), nI_lt u1 (by omega)⟩
    rw [if_pos hc, u2', show ix (nI u) = u from nI_clamp (by omega), u3]
    rfl
  | inr z =>
    rw [if_neg (by rw [show (0 : Int32) = nI 0 from LI0]; exact h2 z rfl)]
    rw [m1e]
    rfl
/-- the line of a process -/
theorem c11 {x : Int32} (hC : isC C) (hP : isP P) (hs : hC_ I J C s L) (hL : L ≤ 48) (hLp : Lp < 2 ^ 20) (hp : pF I J P Lp np nf) (hx : x = -1 ∨ oP np x) : jcall A jcode (d + 3) 11 [.ref (b + C), .ref (b + P), .int x] (jH h b X I J R n) = some (.inl (some (.int (inO (lnI s.2 (lbP nf x))))), (jH h b X I J R n)) := by
  have hN := isP_N hP
  have hN2 := isC_N hC
  rcases hx with hx | ⟨p, hp1, hx⟩
  · subst hx
    have e4 := c4f (A := A) (d := d + 1) (b := b) (h := h) (X := X) (R := R) (n := n) (x := mI 2) (l := none) hC hs hL rfl
    have el : lnI s.2 (lbP nf (-1)) = s.2.findIdx? (fun y => decide (y = none)) := by unfold lbP lnI; rw [if_pos rfl]
    rw [el]
    simp (disch := omega) [je11, r11_0, r11_1, r11_2, r11_5, r11_6, r11_8, r11_11, r11_12, r11_13, r11_16, r11_17, r11_20, r11_21, r11_22, r11_25, r11_28, r11_29, r11_30, r11_33, r11_34, r11_37, r11_38, r11_39, r11_42, qa4, qo4, gC0 hC, gP0 hP, vf5_0, tP0_0 hP, vf0_0, tC0_0 hC, qa80, qo80, qa31, qo31, gN0 hN, List.getElem?_cons_zero, List.getElem?_cons_succ, List.length_cons, List.length_nil, ag_nx, ag_dn, ag_no, ag_if, jbr1, jbr2, jc1, jc2, jnul, jld, jsto, jstoL, jst1, jst2, jkill, jinc, jbI, jbL, jbS, juI, jl2i, jcmp, jisR, jisI, jisL, jret, jretv, jfits, jdup, jdup2, jpop, jmm, jcat, Value.category, jinv, jrcv, jthr, jhd, jput, jget, jlen, jald, jast, jaast, jgI, jgL, jgB, jtab, jlku, jacp, vf20, vf21, vf22, vf23, vf24, u2_s, u2_k, u2_i, uc_s, uc_k, uc_c, u2_c, LI0, LI1, LI2, LI3, LI4, LI5, LI6, LI7, LI8, LI9, LI10, LI11, LI12, LI13, LI14, LI15, LI16, LI17, LI18, LI19, LI20, LI21, LI22, LI23, LI24, LI25, LI26, LI27, LI28, LI29, LI30, LI31, LI32, LI33, LI34, LI35, LI36, LI37, LI40, LI42, LI43, LI45, LI48, LI60, LI61, LI64, LI80, LI300, LI400, LI1000, LI2000, LI2001, LI2047, LI2048, LI100000, LI1000000, LI38, LI39, LI41, LI44, LI46, LI47, LI49, LI50, LI51, LI52, LI53, LI54, LI55, LI56, LI57, LI58, LI59, LI62, LI63, LI65, LI66, LI67, LI68, LI69, LI70, LI71, LI72, LI73, LI74, LI75, LI76, LI77, LI78, LI79, LI81, LI82, LI83, LI84, LI85, LI86, LI87, LI88, LI89, LI90, LI91, LI92, LI93, LI94, LI95, LI96, LI97, LI98, LI99, LI100, LI101, LI102, LI103, LI104, LI105, LI106, LI107, LI108, LI109, LI110, LI111, LI112, LI113, LI114, LI115, LI116, LI117, LI118, LI119, LI120, LI121, LI122, LI123, LI124, LI125, LI126, LI127, LI255, LI256, LI999, LI1001, LI1002, LI1600, LI4096, LI1000001, LI2042, LM, nI_clamp, nI_pos', nI_lt, nI_nlt, nI_le, nI_ge, nI_ne, nI_add, nI_sub, mI_lt, mI_le, mI_nlt, mI_nle, mI_ne, mI_ne', mI_nem, e4]
  · subst hx
    obtain ⟨p1, p2, p3⟩ := hp
    obtain ⟨p4, p5⟩ := p3 p hp1
    have e80 := c80 (A := A) (d := d + 1) (b := b) (h := h) (X := X) (I := I) (J := J) (R := R) (n := n) hP (show p < 6 by omega)
    have e31 := c31f (A := A) (d := d) (b := b) (h := h) (X := X) (R := R) (n := n) (w := I (P + 9) p) (nm := nf p) hC hP p1 hs.1 hLp p4 (fun z hz q => by rw [p5 z hz] at q; exact absurd q.1 (mI_nle (by omega) (by omega) (by omega)))
    have nm1 : ¬ nI p = mI 1 := mI_ne (by omega) (by omega) (by omega)
    have nm1' : ¬ nI p = -1 := by rw [← m1e]; exact nm1
    cases hn : nf p with
    | inr z =>
      rw [hn] at e31
      have e31' : jcall A jcode (d + 2) 31 [.ref (b + (P + 1)), .ref (b + (C + 1)), .int (I (P + 9) p)] (jH h b X I J R n) = some (.inl (some (.int (mI 1))), (jH h b X I J R n)) := by rw [e31, m1e]; rfl
      have el : lnI s.2 (lbP nf (nI p)) = none := by
        unfold lbP
        rw [if_neg nm1', show ix (nI p) = p from nI_clamp (by omega), hn]
        rfl
      rw [el]
      have m0 : mI 1 < nI 0 := by decide
      have hr : inO none = mI 1 := by rw [m1e]; rfl
      rw [hr]
      simp (disch := omega) [je11, r11_0, r11_1, r11_2, r11_5, r11_6, r11_8, r11_11, r11_12, r11_13, r11_16, r11_17, r11_20, r11_21, r11_22, r11_25, r11_28, r11_29, r11_30, r11_33, r11_34, r11_37, r11_38, r11_39, r11_42, qa4, qo4, gC0 hC, gP0 hP, vf5_0, tP0_0 hP, vf0_0, tC0_0 hC, qa80, qo80, qa31, qo31, gN0 hN, List.getElem?_cons_zero, List.getElem?_cons_succ, List.length_cons, List.length_nil, ag_nx, ag_dn, ag_no, ag_if, jbr1, jbr2, jc1, jc2, jnul, jld, jsto, jstoL, jst1, jst2, jkill, jinc, jbI, jbL, jbS, juI, jl2i, jcmp, jisR, jisI, jisL, jret, jretv, jfits, jdup, jdup2, jpop, jmm, jcat, Value.category, jinv, jrcv, jthr, jhd, jput, jget, jlen, jald, jast, jaast, jgI, jgL, jgB, jtab, jlku, jacp, vf20, vf21, vf22, vf23, vf24, u2_s, u2_k, u2_i, uc_s, uc_k, uc_c, u2_c, LI0, LI1, LI2, LI3, LI4, LI5, LI6, LI7, LI8, LI9, LI10, LI11, LI12, LI13, LI14, LI15, LI16, LI17, LI18, LI19, LI20, LI21, LI22, LI23, LI24, LI25, LI26, LI27, LI28, LI29, LI30, LI31, LI32, LI33, LI34, LI35, LI36, LI37, LI40, LI42, LI43, LI45, LI48, LI60, LI61, LI64, LI80, LI300, LI400, LI1000, LI2000, LI2001, LI2047, LI2048, LI100000, LI1000000, LI38, LI39, LI41, LI44, LI46, LI47, LI49, LI50, LI51, LI52, LI53, LI54, LI55, LI56, LI57, LI58, LI59, LI62, LI63, LI65, LI66, LI67, LI68, LI69, LI70, LI71, LI72, LI73, LI74, LI75, LI76, LI77, LI78, LI79, LI81, LI82, LI83, LI84, LI85, LI86, LI87, LI88, LI89, LI90, LI91, LI92, LI93, LI94, LI95, LI96, LI97, LI98, LI99, LI100, LI101, LI102, LI103, LI104, LI105, LI106, LI107, LI108, LI109, LI110, LI111, LI112, LI113, LI114, LI115, LI116, LI117, LI118, LI119, LI120, LI121, LI122, LI123, LI124, LI125, LI126, LI127, LI255, LI256, LI999, LI1001, LI1002, LI1600, LI4096, LI1000001, LI2042, LM, nI_clamp, nI_pos', nI_lt, nI_nlt, nI_le, nI_ge, nI_ne, nI_add, nI_sub, mI_lt, mI_le, mI_nlt, mI_nle, mI_ne, mI_ne', mI_nem, nm1, e80, e31', m0]
    | inl y =>
      rw [hn] at e31
      have el : lnI s.2 (lbP nf (nI p)) = s.2.findIdx? (fun z => decide (z = some y)) := by
        unfold lbP
        rw [if_neg nm1', show ix (nI p) = p from nI_clamp (by omega), hn]
        rfl
      rw [el]
      replace e31 : jcall A jcode (d + 2) 31 [.ref (b + (P + 1)), .ref (b + (C + 1)), .int (I (P + 9) p)] (jH h b X I J R n) = some (.inl (some (.int (inO (fdN (cnm I J (C + 1)) y L 0)))), (jH h b X I J R n)) := e31
      cases hf : fdN (cnm I J (C + 1)) y L 0 with
      | none =>
        have hno : s.2.findIdx? (fun z => decide (z = some y)) = none := by
          rw [List.findIdx?_eq_none_iff]
          intro z hz
          obtain ⟨i, hi⟩ := List.mem_iff_getElem?.mp hz
          have hl := hs.2.2.2.2.2.2.2 i z hi
          rw [decide_eq_false_iff_not]
          intro hzy
          subst hzy
          obtain ⟨u, u1, u2', u3⟩ := hl
          exact fdN_no _ _ hf u (Nat.zero_le _) (by omega) u3
        rw [hf] at e31
        have e31' : jcall A jcode (d + 2) 31 [.ref (b + (P + 1)), .ref (b + (C + 1)), .int (I (P + 9) p)] (jH h b X I J R n) = some (.inl (some (.int (mI 1))), (jH h b X I J R n)) := by rw [e31, m1e]; rfl
        rw [hno]
        have m0 : mI 1 < nI 0 := by decide
        have hr : inO none = mI 1 := by rw [m1e]; rfl
        rw [hr]
        simp (disch := omega) [je11, r11_0, r11_1, r11_2, r11_5, r11_6, r11_8, r11_11, r11_12, r11_13, r11_16, r11_17, r11_20, r11_21, r11_22, r11_25, r11_28, r11_29, r11_30, r11_33, r11_34, r11_37, r11_38, r11_39, r11_42, qa4, qo4, gC0 hC, gP0 hP, vf5_0, tP0_0 hP, vf0_0, tC0_0 hC, qa80, qo80, qa31, qo31, gN0 hN, List.getElem?_cons_zero, List.getElem?_cons_succ, List.length_cons, List.length_nil, ag_nx, ag_dn, ag_no, ag_if, jbr1, jbr2, jc1, jc2, jnul, jld, jsto, jstoL, jst1, jst2, jkill, jinc, jbI, jbL, jbS, juI, jl2i, jcmp, jisR, jisI, jisL, jret, jretv, jfits, jdup, jdup2, jpop, jmm, jcat, Value.category, jinv, jrcv, jthr, jhd, jput, jget, jlen, jald, jast, jaast, jgI, jgL, jgB, jtab, jlku, jacp, vf20, vf21, vf22, vf23, vf24, u2_s, u2_k, u2_i, uc_s, uc_k, uc_c, u2_c, LI0, LI1, LI2, LI3, LI4, LI5, LI6, LI7, LI8, LI9, LI10, LI11, LI12, LI13, LI14, LI15, LI16, LI17, LI18, LI19, LI20, LI21, LI22, LI23, LI24, LI25, LI26, LI27, LI28, LI29, LI30, LI31, LI32, LI33, LI34, LI35, LI36, LI37, LI40, LI42, LI43, LI45, LI48, LI60, LI61, LI64, LI80, LI300, LI400, LI1000, LI2000, LI2001, LI2047, LI2048, LI100000, LI1000000, LI38, LI39, LI41, LI44, LI46, LI47, LI49, LI50, LI51, LI52, LI53, LI54, LI55, LI56, LI57, LI58, LI59, LI62, LI63, LI65, LI66, LI67, LI68, LI69, LI70, LI71, LI72, LI73, LI74, LI75, LI76, LI77, LI78, LI79, LI81, LI82, LI83, LI84, LI85, LI86, LI87, LI88, LI89, LI90, LI91, LI92, LI93, LI94, LI95, LI96, LI97, LI98, LI99, LI100, LI101, LI102, LI103, LI104, LI105, LI106, LI107, LI108, LI109, LI110, LI111, LI112, LI113, LI114, LI115, LI116, LI117, LI118, LI119, LI120, LI121, LI122, LI123, LI124, LI125, LI126, LI127, LI255, LI256, LI999, LI1001, LI1002, LI1600, LI4096, LI1000001, LI2042, LM, nI_clamp, nI_pos', nI_lt, nI_nlt, nI_le, nI_ge, nI_ne, nI_add, nI_sub, mI_lt, mI_le, mI_nlt, mI_nle, mI_ne, mI_ne', mI_nem, nm1, e80, e31', m0]
      | some v =>
        obtain ⟨v1, v2, v3⟩ := fdN_lt _ _ _ hf
        rw [hf] at e31
        have e31' : jcall A jcode (d + 2) 31 [.ref (b + (P + 1)), .ref (b + (C + 1)), .int (I (P + 9) p)] (jH h b X I J R n) = some (.inl (some (.int (nI v))), (jH h b X I J R n)) := e31
        have e4 := c4f (A := A) (d := d + 1) (b := b) (h := h) (X := X) (R := R) (n := n) (x := nI v) (l := some y) hC hs hL ⟨v, by omega, rfl, v3⟩
        have m0 : ¬ nI v < nI 0 := by rw [nI_ltI (by omega) (by omega)]; omega
        simp (disch := omega) [je11, r11_0, r11_1, r11_2, r11_5, r11_6, r11_8, r11_11, r11_12, r11_13, r11_16, r11_17, r11_20, r11_21, r11_22, r11_25, r11_28, r11_29, r11_30, r11_33, r11_34, r11_37, r11_38, r11_39, r11_42, qa4, qo4, gC0 hC, gP0 hP, vf5_0, tP0_0 hP, vf0_0, tC0_0 hC, qa80, qo80, qa31, qo31, gN0 hN, List.getElem?_cons_zero, List.getElem?_cons_succ, List.length_cons, List.length_nil, ag_nx, ag_dn, ag_no, ag_if, jbr1, jbr2, jc1, jc2, jnul, jld, jsto, jstoL, jst1, jst2, jkill, jinc, jbI, jbL, jbS, juI, jl2i, jcmp, jisR, jisI, jisL, jret, jretv, jfits, jdup, jdup2, jpop, jmm, jcat, Value.category, jinv, jrcv, jthr, jhd, jput, jget, jlen, jald, jast, jaast, jgI, jgL, jgB, jtab, jlku, jacp, vf20, vf21, vf22, vf23, vf24, u2_s, u2_k, u2_i, uc_s, uc_k, uc_c, u2_c, LI0, LI1, LI2, LI3, LI4, LI5, LI6, LI7, LI8, LI9, LI10, LI11, LI12, LI13, LI14, LI15, LI16, LI17, LI18, LI19, LI20, LI21, LI22, LI23, LI24, LI25, LI26, LI27, LI28, LI29, LI30, LI31, LI32, LI33, LI34, LI35, LI36, LI37, LI40, LI42, LI43, LI45, LI48, LI60, LI61, LI64, LI80, LI300, LI400, LI1000, LI2000, LI2001, LI2047, LI2048, LI100000, LI1000000, LI38, LI39, LI41, LI44, LI46, LI47, LI49, LI50, LI51, LI52, LI53, LI54, LI55, LI56, LI57, LI58, LI59, LI62, LI63, LI65, LI66, LI67, LI68, LI69, LI70, LI71, LI72, LI73, LI74, LI75, LI76, LI77, LI78, LI79, LI81, LI82, LI83, LI84, LI85, LI86, LI87, LI88, LI89, LI90, LI91, LI92, LI93, LI94, LI95, LI96, LI97, LI98, LI99, LI100, LI101, LI102, LI103, LI104, LI105, LI106, LI107, LI108, LI109, LI110, LI111, LI112, LI113, LI114, LI115, LI116, LI117, LI118, LI119, LI120, LI121, LI122, LI123, LI124, LI125, LI126, LI127, LI255, LI256, LI999, LI1001, LI1002, LI1600, LI4096, LI1000001, LI2042, LM, nI_clamp, nI_pos', nI_lt, nI_nlt, nI_le, nI_ge, nI_ne, nI_add, nI_sub, mI_lt, mI_le, mI_nlt, mI_nle, mI_ne, mI_ne', mI_nem, nm1, e80, e31', m0, e4]
end FTC
