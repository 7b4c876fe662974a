/-! fits: the reference -/
section FTR
variable {A : Nat → Nat} {d b n np nn : Nat} {h : Nat → Option jC} {X : jXX} {I : Nat → Nat → Int32} {J : Nat → Nat → Int64} {R : Nat → Nat → Nat} {s : hS} {nf : Nat → Nm}
theorem oR_i1 {v : Int32} (h : oR v = -1) : v = -2 := by
  unfold oR at h
  by_cases h0 : v < 0
  · rw [if_pos h0] at h
    by_cases h1 : v = -1
    · rw [if_pos h1] at h
      exact absurd h (by decide)
    · rw [if_neg h1] at h
      have : v = -1 - 1 := by rw [← h, Int32.add_sub_cancel]
      rw [this]
      decide
  · rw [if_neg h0] at h
    rw [h] at h0
    exact absurd (by decide) h0
theorem oR_ip {v : Int32} {p : Nat} (hp : p < 6) (h : oR v = nI p) : v = nI p := by
  have hno : ∀ p, p < 6 → ¬ (nI p = -3) ∧ ∀ p, p < 6 → nI p - 1 = -1 ∨ ¬ nI p - 1 < 0 := by decide +kernel
  unfold oR at h
  by_cases h0 : v < 0
  · rw [if_pos h0] at h
    by_cases h1 : v = -1
    · rw [if_pos h1] at h
      exact absurd h.symm (hno p hp).1
    · rw [if_neg h1] at h
      have hv : v = nI p - 1 := by rw [← h, Int32.add_sub_cancel]
      rcases (hno p hp).2 p hp with z | z
      · exact absurd (hv.trans z) h1
      · rw [← hv] at z
        exact absurd h0 z
  · rw [if_neg h0] at h
    exact h
/-- what is looked for -/
def rLb (I : Nat → Nat → Int32) (nn : Nat) (z : Int32) (o : Option (Option hY)) : Prop := match o with | none => z = mI 1 | some l => rLn I nn z l
/-- the processes' names -/
def rPn (X : jXX) (I : Nat → Nat → Int32) (nn np : Nat) (nf : Nat → Nm) : Prop := np ≤ 6 ∧ ∀ p, p < np → ∃ q, I 259 p = nI q ∧ q < cp X 252 ∧ q < 2 ^ 20 ∧ (∀ y, nf p = .inl y → rLn I nn (I 252 q) (some y)) ∧ ∀ z, nf p = .inr z → I 252 q = mI 1
theorem r281 {x v : Int32} (hp : rPn X I nn np nf) (hx : x = -1 ∨ oP np x) (hv : oR v = x) : ∃ z, jcall A jcode (d + 1) 281 [.ref (b + 241), .int v] (jH h b X I J R n) = some (.inl (some (.int z)), (jH h b X I J R n)) ∧ rLb I nn z (lbP nf x) := by
  rcases hx with hx | ⟨p, hp1, hx⟩
  · subst hx
    have hv2 : v = mI 2 := by rw [oR_i1 hv]; decide
    subst hv2
    refine ⟨mI 2, ?_, ?_⟩
    · simp (disch := omega) [je281, r281_0, r281_1, r281_3, r281_6, r281_8, r281_30, g241, vf12_22, t241_22, g252, vf12_35, t241_35, g259, List.getElem?_cons_zero, List.getElem?_cons_succ, List.length_cons, List.length_nil, ag_nx, ag_dn, ag_no, ag_if, jbr1, jbr2, jc1, jc2, jnul, jld, jsto, jstoL, jst1, jst2, jkill, jinc, jbI, jbL, jbS, juI, jl2i, jcmp, jisR, jisI, jisL, jret, jretv, jfits, jdup, jdup2, jpop, jmm, jcat, Value.category, jinv, jrcv, jthr, jhd, jput, jget, jlen, jald, jast, jaast, jgI, jgL, jgB, jtab, jlku, jacp, vf20, vf21, vf22, vf23, vf24, u2_s, u2_k, u2_i, uc_s, uc_k, uc_c, u2_c, LI0, LI1, LI2, LI3, LI4, LI5, LI6, LI7, LI8, LI9, LI10, LI11, LI12, LI13, LI14, LI15, LI16, LI17, LI18, LI19, LI20, LI21, LI22, LI23, LI24, LI25, LI26, LI27, LI28, LI29, LI30, LI31, LI32, LI33, LI34, LI35, LI36, LI37, LI40, LI42, LI43, LI45, LI48, LI60, LI61, LI64, LI80, LI300, LI400, LI1000, LI2000, LI2001, LI2047, LI2048, LI100000, LI1000000, LI38, LI39, LI41, LI44, LI46, LI47, LI49, LI50, LI51, LI52, LI53, LI54, LI55, LI56, LI57, LI58, LI59, LI62, LI63, LI65, LI66, LI67, LI68, LI69, LI70, LI71, LI72, LI73, LI74, LI75, LI76, LI77, LI78, LI79, LI81, LI82, LI83, LI84, LI85, LI86, LI87, LI88, LI89, LI90, LI91, LI92, LI93, LI94, LI95, LI96, LI97, LI98, LI99, LI100, LI101, LI102, LI103, LI104, LI105, LI106, LI107, LI108, LI109, LI110, LI111, LI112, LI113, LI114, LI115, LI116, LI117, LI118, LI119, LI120, LI121, LI122, LI123, LI124, LI125, LI126, LI127, LI255, LI256, LI999, LI1001, LI1002, LI1600, LI4096, LI1000001, LI2042, LM, nI_clamp, nI_pos', nI_lt, nI_nlt, nI_le, nI_ge, nI_ne, nI_add, nI_sub, mI_lt, mI_le, mI_nlt, mI_nle, mI_ne, mI_ne', mI_nem]
    · unfold lbP
      rw [if_pos rfl]
      rfl
  · subst hx
    obtain ⟨p6, p7⟩ := hp
    have hv2 : v = nI p := oR_ip (by omega) hv
    subst hv2
    obtain ⟨q, q1, q2, q3, q4, q5⟩ := p7 p hp1
    have n2 : ¬ nI p = mI 2 := mI_ne (by omega) (by omega) (by omega)
    have n1 : ¬ nI p = -1 := by rw [← m1e]; exact mI_ne (by omega) (by omega) (by omega)
    have p6' : p < 6 := by omega
    refine ⟨I 252 q, ?_, ?_⟩
    · simp (disch := omega) [je281, r281_0, r281_1, r281_3, r281_11, r281_12, r281_19, r281_20, r281_23, r281_24, r281_27, r281_28, r281_29, r281_30, g241, vf12_22, t241_22, g252, vf12_35, t241_35, g259, List.getElem?_cons_zero, List.getElem?_cons_succ, List.length_cons, List.length_nil, ag_nx, ag_dn, ag_no, ag_if, jbr1, jbr2, jc1, jc2, jnul, jld, jsto, jstoL, jst1, jst2, jkill, jinc, jbI, jbL, jbS, juI, jl2i, jcmp, jisR, jisI, jisL, jret, jretv, jfits, jdup, jdup2, jpop, jmm, jcat, Value.category, jinv, jrcv, jthr, jhd, jput, jget, jlen, jald, jast, jaast, jgI, jgL, jgB, jtab, jlku, jacp, vf20, vf21, vf22, vf23, vf24, u2_s, u2_k, u2_i, uc_s, uc_k, uc_c, u2_c, LI0, LI1, LI2, LI3, LI4, LI5, LI6, LI7, LI8, LI9, LI10, LI11, LI12, LI13, LI14, LI15, LI16, LI17, LI18, LI19, LI20, LI21, LI22, LI23, LI24, LI25, LI26, LI27, LI28, LI29, LI30, LI31, LI32, LI33, LI34, LI35, LI36, LI37, LI40, LI42, LI43, LI45, LI48, LI60, LI61, LI64, LI80, LI300, LI400, LI1000, LI2000, LI2001, LI2047, LI2048, LI100000, LI1000000, LI38, LI39, LI41, LI44, LI46, LI47, LI49, LI50, LI51, LI52, LI53, LI54, LI55, LI56, LI57, LI58, LI59, LI62, LI63, LI65, LI66, LI67, LI68, LI69, LI70, LI71, LI72, LI73, LI74, LI75, LI76, LI77, LI78, LI79, LI81, LI82, LI83, LI84, LI85, LI86, LI87, LI88, LI89, LI90, LI91, LI92, LI93, LI94, LI95, LI96, LI97, LI98, LI99, LI100, LI101, LI102, LI103, LI104, LI105, LI106, LI107, LI108, LI109, LI110, LI111, LI112, LI113, LI114, LI115, LI116, LI117, LI118, LI119, LI120, LI121, LI122, LI123, LI124, LI125, LI126, LI127, LI255, LI256, LI999, LI1001, LI1002, LI1600, LI4096, LI1000001, LI2042, LM, nI_clamp, nI_pos', nI_lt, nI_nlt, nI_le, nI_ge, nI_ne, nI_add, nI_sub, mI_lt, mI_le, mI_nlt, mI_nle, mI_ne, mI_ne', mI_nem, n2, p6', q1, q2]
    · unfold lbP
      rw [if_neg n1, show ix (nI p) = p from nI_clamp (by omega)]
      cases hn : nf p with
      | inl y => exact q4 y hn
      | inr z => exact q5 z hn
theorem rLb_e {z z' : Int32} {o : Option (Option hY)} {l : Option hY} (hL : nn ≤ 2 ^ 20) (hm : ∀ w w', w < nn → w' < nn → rnm I w = rnm I w' → w = w') (hz : rLb I nn z o) (hl : rLn I nn z' l) : z' = z ↔ o = some l := by
  cases o with
  | none =>
    have e1 : z = mI 1 := hz
    rw [e1]
    constructor
    · intro e
      cases l with
      | none => have e2 : z' = mI 2 := hl; rw [e2] at e; exact absurd e (by decide)
      | some y =>
        obtain ⟨u, u1, u2', _⟩ := hl
        rw [u2'] at e
        exact absurd e (mI_ne (by omega) (by omega) (by omega))
    · intro e; cases e
  | some l' =>
    have := rLn_e hL hm hl hz
    rw [this]
    constructor
    · intro e; rw [e]
    · intro e; cases e; rfl
theorem lb_fd {z : Int32} {o : Option (Option hY)} (hL : nn ≤ 2 ^ 20) (hm : ∀ w w', w < nn → w' < nn → rnm I w = rnm I w' → w = w') (hz : rLb I nn z o) (hs : rHst I nn s) : fdP (fun i => decide (I 293 i = z)) s.2.length 0 = lnI s.2 o := by
  obtain ⟨a1, a2, a3, a4, a5, a6, a7⟩ := hs
  have key : ∀ i l, s.2[i]? = some l → decide (I 293 i = z) = decide (o = some l) := fun i l hl => by
    have := rLb_e hL hm hz (a7 i l hl)
    by_cases hh : o = some l
    · rw [decide_eq_true hh, decide_eq_true (this.mpr hh)]
    · rw [decide_eq_false hh, decide_eq_false (fun q => hh (this.mp q))]
  rw [fdP_ix (f := fun l => decide (o = some l)) key]
  cases o with
  | none =>
    unfold lnI
    simp only
    rw [List.findIdx?_eq_none_iff]
    intro x _
    simp
  | some l' =>
    unfold lnI
    simp only
    congr 1
    funext x
    by_cases hh : x = l'
    · subst hh; simp
    · rw [decide_eq_false hh, decide_eq_false (fun q => hh (Option.some.inj q).symm)]
theorem lb_at {z : Int32} {o : Option (Option hY)} {k : Nat} (hL : nn ≤ 2 ^ 20) (hm : ∀ w w', w < nn → w' < nn → rnm I w = rnm I w' → w = w') (hz : rLb I nn z o) (hs : rHst I nn s) (hk : k < s.2.length) : I 293 k = z ↔ lnI s.2 o = some k := by
  obtain ⟨a1, a2, a3, a4, a5, a6, a7⟩ := hs
  have hx : s.2[k]? = some s.2[k] := List.getElem?_eq_getElem hk
  rw [rLb_e hL hm hz (a7 k _ hx)]
  constructor
  · intro e
    subst e
    unfold lnI
    simp only
    rw [List.findIdx?_eq_some_iff_getElem]
    refine ⟨hk, by simp, fun j hj => ?_⟩
    simp only [decide_eq_true_eq]
    intro e
    have hjl : j < s.2.length := by omega
    have := nd_inj a5 (List.getElem?_eq_getElem hjl) (hx.trans (by rw [e]))
    omega
  · intro e
    obtain ⟨_, l, e1, e2⟩ := lnI_lt e
    rw [e1]
    rw [hx] at e2
    rw [Option.some.inj e2]
theorem r283l {z : Int32} {c : Nat} (h85 : I 241 85 = nI c) (h8 : c ≤ 8) : ∀ (r k : Nat), k + r = c → M283 A d 2 [some (.ref (b + 241)), some (.int z), some (.int (nI k))] [] (jH h b X I J R n) = some (.inl (some (.int (inO (fdP (fun i => decide (I 293 i = z)) r k)))), (jH h b X I J R n)) := by
  intro r
  induction r with
  | zero =>
    intro k hk
    have : k = c := by omega
    subst this
    unfold fdP
    rw [r283_2, show inO none = mI 1 by rw [m1e]; rfl]
    simp (disch := omega) [r283_3, r283_4, r283_7, r283_28, r283_29, g241, vf12_85, vf12_95, t241_95, g293, List.getElem?_cons_zero, List.getElem?_cons_succ, List.length_cons, List.length_nil, ag_nx, ag_dn, ag_no, ag_if, jbr1, jbr2, jc1, jc2, jnul, jld, jsto, jstoL, jst1, jst2, jkill, jinc, jbI, jbL, jbS, juI, jl2i, jcmp, jisR, jisI, jisL, jret, jretv, jfits, jdup, jdup2, jpop, jmm, jcat, Value.category, jinv, jrcv, jthr, jhd, jput, jget, jlen, jald, jast, jaast, jgI, jgL, jgB, jtab, jlku, jacp, vf20, vf21, vf22, vf23, vf24, u2_s, u2_k, u2_i, uc_s, uc_k, uc_c, u2_c, LI0, LI1, LI2, LI3, LI4, LI5, LI6, LI7, LI8, LI9, LI10, LI11, LI12, LI13, LI14, LI15, LI16, LI17, LI18, LI19, LI20, LI21, LI22, LI23, LI24, LI25, LI26, LI27, LI28, LI29, LI30, LI31, LI32, LI33, LI34, LI35, LI36, LI37, LI40, LI42, LI43, LI45, LI48, LI60, LI61, LI64, LI80, LI300, LI400, LI1000, LI2000, LI2001, LI2047, LI2048, LI100000, LI1000000, LI38, LI39, LI41, LI44, LI46, LI47, LI49, LI50, LI51, LI52, LI53, LI54, LI55, LI56, LI57, LI58, LI59, LI62, LI63, LI65, LI66, LI67, LI68, LI69, LI70, LI71, LI72, LI73, LI74, LI75, LI76, LI77, LI78, LI79, LI81, LI82, LI83, LI84, LI85, LI86, LI87, LI88, LI89, LI90, LI91, LI92, LI93, LI94, LI95, LI96, LI97, LI98, LI99, LI100, LI101, LI102, LI103, LI104, LI105, LI106, LI107, LI108, LI109, LI110, LI111, LI112, LI113, LI114, LI115, LI116, LI117, LI118, LI119, LI120, LI121, LI122, LI123, LI124, LI125, LI126, LI127, LI255, LI256, LI999, LI1001, LI1002, LI1600, LI4096, LI1000001, LI2042, LM, nI_clamp, nI_pos', nI_lt, nI_nlt, nI_le, nI_ge, nI_ne, nI_add, nI_sub, mI_lt, mI_le, mI_nlt, mI_nle, mI_ne, mI_ne', mI_nem, h85]
  | succ r ih =>
    intro k hk
    have k8 : k < 8 := by omega
    unfold fdP
    by_cases hx : I 293 k = z
    · rw [if_pos (by simpa using hx), r283_2]
      simp (disch := omega) [r283_3, r283_4, r283_7, r283_10, r283_11, r283_14, r283_15, r283_16, r283_17, r283_20, r283_21, g241, vf12_85, vf12_95, t241_95, g293, List.getElem?_cons_zero, List.getElem?_cons_succ, List.length_cons, List.length_nil, ag_nx, ag_dn, ag_no, ag_if, jbr1, jbr2, jc1, jc2, jnul, jld, jsto, jstoL, jst1, jst2, jkill, jinc, jbI, jbL, jbS, juI, jl2i, jcmp, jisR, jisI, jisL, jret, jretv, jfits, jdup, jdup2, jpop, jmm, jcat, Value.category, jinv, jrcv, jthr, jhd, jput, jget, jlen, jald, jast, jaast, jgI, jgL, jgB, jtab, jlku, jacp, vf20, vf21, vf22, vf23, vf24, u2_s, u2_k, u2_i, uc_s, uc_k, uc_c, u2_c, LI0, LI1, LI2, LI3, LI4, LI5, LI6, LI7, LI8, LI9, LI10, LI11, LI12, LI13, LI14, LI15, LI16, LI17, LI18, LI19, LI20, LI21, LI22, LI23, LI24, LI25, LI26, LI27, LI28, LI29, LI30, LI31, LI32, LI33, LI34, LI35, LI36, LI37, LI40, LI42, LI43, LI45, LI48, LI60, LI61, LI64, LI80, LI300, LI400, LI1000, LI2000, LI2001, LI2047, LI2048, LI100000, LI1000000, LI38, LI39, LI41, LI44, LI46, LI47, LI49, LI50, LI51, LI52, LI53, LI54, LI55, LI56, LI57, LI58, LI59, LI62, LI63, LI65, LI66, LI67, LI68, LI69, LI70, LI71, LI72, LI73, LI74, LI75, LI76, LI77, LI78, LI79, LI81, LI82, LI83, LI84, LI85, LI86, LI87, LI88, LI89, LI90, LI91, LI92, LI93, LI94, LI95, LI96, LI97, LI98, LI99, LI100, LI101, LI102, LI103, LI104, LI105, LI106, LI107, LI108, LI109, LI110, LI111, LI112, LI113, LI114, LI115, LI116, LI117, LI118, LI119, LI120, LI121, LI122, LI123, LI124, LI125, LI126, LI127, LI255, LI256, LI999, LI1001, LI1002, LI1600, LI4096, LI1000001, LI2042, LM, nI_clamp, nI_pos', nI_lt, nI_nlt, nI_le, nI_ge, nI_ne, nI_add, nI_sub, mI_lt, mI_le, mI_nlt, mI_nle, mI_ne, mI_ne', mI_nem, h85, k8, hx, inO]
    · rw [if_neg (by simpa using hx), ← ih (k + 1) (by omega)]
      conv => lhs; rw [r283_2]
      simp (disch := omega) [r283_3, r283_4, r283_7, r283_10, r283_11, r283_14, r283_15, r283_16, r283_17, r283_22, r283_25, g241, vf12_85, vf12_95, t241_95, g293, List.getElem?_cons_zero, List.getElem?_cons_succ, List.length_cons, List.length_nil, ag_nx, ag_dn, ag_no, ag_if, jbr1, jbr2, jc1, jc2, jnul, jld, jsto, jstoL, jst1, jst2, jkill, jinc, jbI, jbL, jbS, juI, jl2i, jcmp, jisR, jisI, jisL, jret, jretv, jfits, jdup, jdup2, jpop, jmm, jcat, Value.category, jinv, jrcv, jthr, jhd, jput, jget, jlen, jald, jast, jaast, jgI, jgL, jgB, jtab, jlku, jacp, vf20, vf21, vf22, vf23, vf24, u2_s, u2_k, u2_i, uc_s, uc_k, uc_c, u2_c, LI0, LI1, LI2, LI3, LI4, LI5, LI6, LI7, LI8, LI9, LI10, LI11, LI12, LI13, LI14, LI15, LI16, LI17, LI18, LI19, LI20, LI21, LI22, LI23, LI24, LI25, LI26, LI27, LI28, LI29, LI30, LI31, LI32, LI33, LI34, LI35, LI36, LI37, LI40, LI42, LI43, LI45, LI48, LI60, LI61, LI64, LI80, LI300, LI400, LI1000, LI2000, LI2001, LI2047, LI2048, LI100000, LI1000000, LI38, LI39, LI41, LI44, LI46, LI47, LI49, LI50, LI51, LI52, LI53, LI54, LI55, LI56, LI57, LI58, LI59, LI62, LI63, LI65, LI66, LI67, LI68, LI69, LI70, LI71, LI72, LI73, LI74, LI75, LI76, LI77, LI78, LI79, LI81, LI82, LI83, LI84, LI85, LI86, LI87, LI88, LI89, LI90, LI91, LI92, LI93, LI94, LI95, LI96, LI97, LI98, LI99, LI100, LI101, LI102, LI103, LI104, LI105, LI106, LI107, LI108, LI109, LI110, LI111, LI112, LI113, LI114, LI115, LI116, LI117, LI118, LI119, LI120, LI121, LI122, LI123, LI124, LI125, LI126, LI127, LI255, LI256, LI999, LI1001, LI1002, LI1600, LI4096, LI1000001, LI2042, LM, nI_clamp, nI_pos', nI_lt, nI_nlt, nI_le, nI_ge, nI_ne, nI_add, nI_sub, mI_lt, mI_le, mI_nlt, mI_nle, mI_ne, mI_ne', mI_nem, h85, k8, hx]
theorem r283 {z : Int32} {c : Nat} (h85 : I 241 85 = nI c) (h8 : c ≤ 8) : jcall A jcode (d + 1) 283 [.ref (b + 241), .int z] (jH h b X I J R n) = some (.inl (some (.int (inO (fdP (fun i => decide (I 293 i = z)) c 0)))), (jH h b X I J R n)) := by
  rw [← r283l (A := A) (d := d) (b := b) (h := h) (X := X) (J := J) (R := R) (n := n) h85 h8 c 0 (by omega)]
  simp (disch := omega) [je283, r283_0, r283_1, g241, vf12_85, vf12_95, t241_95, g293, List.getElem?_cons_zero, List.getElem?_cons_succ, List.length_cons, List.length_nil, ag_nx, ag_dn, ag_no, ag_if, jbr1, jbr2, jc1, jc2, jnul, jld, jsto, jstoL, jst1, jst2, jkill, jinc, jbI, jbL, jbS, juI, jl2i, jcmp, jisR, jisI, jisL, jret, jretv, jfits, jdup, jdup2, jpop, jmm, jcat, Value.category, jinv, jrcv, jthr, jhd, jput, jget, jlen, jald, jast, jaast, jgI, jgL, jgB, jtab, jlku, jacp, vf20, vf21, vf22, vf23, vf24, u2_s, u2_k, u2_i, uc_s, uc_k, uc_c, u2_c, LI0, LI1, LI2, LI3, LI4, LI5, LI6, LI7, LI8, LI9, LI10, LI11, LI12, LI13, LI14, LI15, LI16, LI17, LI18, LI19, LI20, LI21, LI22, LI23, LI24, LI25, LI26, LI27, LI28, LI29, LI30, LI31, LI32, LI33, LI34, LI35, LI36, LI37, LI40, LI42, LI43, LI45, LI48, LI60, LI61, LI64, LI80, LI300, LI400, LI1000, LI2000, LI2001, LI2047, LI2048, LI100000, LI1000000, LI38, LI39, LI41, LI44, LI46, LI47, LI49, LI50, LI51, LI52, LI53, LI54, LI55, LI56, LI57, LI58, LI59, LI62, LI63, LI65, LI66, LI67, LI68, LI69, LI70, LI71, LI72, LI73, LI74, LI75, LI76, LI77, LI78, LI79, LI81, LI82, LI83, LI84, LI85, LI86, LI87, LI88, LI89, LI90, LI91, LI92, LI93, LI94, LI95, LI96, LI97, LI98, LI99, LI100, LI101, LI102, LI103, LI104, LI105, LI106, LI107, LI108, LI109, LI110, LI111, LI112, LI113, LI114, LI115, LI116, LI117, LI118, LI119, LI120, LI121, LI122, LI123, LI124, LI125, LI126, LI127, LI255, LI256, LI999, LI1001, LI1002, LI1600, LI4096, LI1000001, LI2042, LM, nI_clamp, nI_pos', nI_lt, nI_nlt, nI_le, nI_ge, nI_ne, nI_add, nI_sub, mI_lt, mI_le, mI_nlt, mI_nle, mI_ne, mI_ne', mI_nem]
def dR (I : Nat → Nat → Int32) (dn : Nat → Bool) : Prop := ∀ k, k < 80 → I 296 k = if dn k = true then nI 1 else nI 0
theorem r282l {f m : Nat} {ln : Nat → Nat} {dn : Nat → Bool} (hl : rLi I m ln) (h84 : I 241 84 = nI m) (hf : f < 8) (hd : dR I dn) : ∀ (r k : Nat), k + r = 2 * m → M282 A (d + 1) 2 [some (.ref (b + 241)), some (.int (nI f)), some (.int (nI k))] [] (jH h b X I J R n) = some (.inl (some (.int (inO (fdP (fun k => !dn k && decide (ln k = f)) r k)))), (jH h b X I J R n)) := by
  have h40 := hl.1
  have hln := hl.2.1
  intro r
  induction r with
  | zero =>
    intro k hk
    have : k = 2 * m := by omega
    subst this
    unfold fdP
    rw [r282_2, show inO none = mI 1 by rw [m1e]; rfl]
    simp (disch := omega) [r282_3, r282_4, r282_5, r282_8, r282_9, r282_38, r282_39, g241, vf12_84, vf12_98, t241_98, g296, qa277, qo277, List.getElem?_cons_zero, List.getElem?_cons_succ, List.length_cons, List.length_nil, ag_nx, ag_dn, ag_no, ag_if, jbr1, jbr2, jc1, jc2, jnul, jld, jsto, jstoL, jst1, jst2, jkill, jinc, jbI, jbL, jbS, juI, jl2i, jcmp, jisR, jisI, jisL, jret, jretv, jfits, jdup, jdup2, jpop, jmm, jcat, Value.category, jinv, jrcv, jthr, jhd, jput, jget, jlen, jald, jast, jaast, jgI, jgL, jgB, jtab, jlku, jacp, vf20, vf21, vf22, vf23, vf24, u2_s, u2_k, u2_i, uc_s, uc_k, uc_c, u2_c, LI0, LI1, LI2, LI3, LI4, LI5, LI6, LI7, LI8, LI9, LI10, LI11, LI12, LI13, LI14, LI15, LI16, LI17, LI18, LI19, LI20, LI21, LI22, LI23, LI24, LI25, LI26, LI27, LI28, LI29, LI30, LI31, LI32, LI33, LI34, LI35, LI36, LI37, LI40, LI42, LI43, LI45, LI48, LI60, LI61, LI64, LI80, LI300, LI400, LI1000, LI2000, LI2001, LI2047, LI2048, LI100000, LI1000000, LI38, LI39, LI41, LI44, LI46, LI47, LI49, LI50, LI51, LI52, LI53, LI54, LI55, LI56, LI57, LI58, LI59, LI62, LI63, LI65, LI66, LI67, LI68, LI69, LI70, LI71, LI72, LI73, LI74, LI75, LI76, LI77, LI78, LI79, LI81, LI82, LI83, LI84, LI85, LI86, LI87, LI88, LI89, LI90, LI91, LI92, LI93, LI94, LI95, LI96, LI97, LI98, LI99, LI100, LI101, LI102, LI103, LI104, LI105, LI106, LI107, LI108, LI109, LI110, LI111, LI112, LI113, LI114, LI115, LI116, LI117, LI118, LI119, LI120, LI121, LI122, LI123, LI124, LI125, LI126, LI127, LI255, LI256, LI999, LI1001, LI1002, LI1600, LI4096, LI1000001, LI2042, LM, nI_clamp, nI_pos', nI_lt, nI_nlt, nI_le, nI_ge, nI_ne, nI_add, nI_sub, mI_lt, mI_le, mI_nlt, mI_nle, mI_ne, mI_ne', mI_nem, h84, nI_mul]
  | succ r ih =>
    intro k hk
    have k80 : k < 80 := by omega
    have hdk := hd k k80
    unfold fdP
    by_cases h1 : dn k = true
    · rw [if_pos h1] at hdk
      rw [if_neg (by simp [h1]), ← ih (k + 1) (by omega)]
      conv => lhs; rw [r282_2]
      simp (disch := omega) [r282_3, r282_4, r282_5, r282_8, r282_9, r282_12, r282_13, r282_16, r282_17, r282_18, r282_32, r282_35, g241, vf12_84, vf12_98, t241_98, g296, qa277, qo277, List.getElem?_cons_zero, List.getElem?_cons_succ, List.length_cons, List.length_nil, ag_nx, ag_dn, ag_no, ag_if, jbr1, jbr2, jc1, jc2, jnul, jld, jsto, jstoL, jst1, jst2, jkill, jinc, jbI, jbL, jbS, juI, jl2i, jcmp, jisR, jisI, jisL, jret, jretv, jfits, jdup, jdup2, jpop, jmm, jcat, Value.category, jinv, jrcv, jthr, jhd, jput, jget, jlen, jald, jast, jaast, jgI, jgL, jgB, jtab, jlku, jacp, vf20, vf21, vf22, vf23, vf24, u2_s, u2_k, u2_i, uc_s, uc_k, uc_c, u2_c, LI0, LI1, LI2, LI3, LI4, LI5, LI6, LI7, LI8, LI9, LI10, LI11, LI12, LI13, LI14, LI15, LI16, LI17, LI18, LI19, LI20, LI21, LI22, LI23, LI24, LI25, LI26, LI27, LI28, LI29, LI30, LI31, LI32, LI33, LI34, LI35, LI36, LI37, LI40, LI42, LI43, LI45, LI48, LI60, LI61, LI64, LI80, LI300, LI400, LI1000, LI2000, LI2001, LI2047, LI2048, LI100000, LI1000000, LI38, LI39, LI41, LI44, LI46, LI47, LI49, LI50, LI51, LI52, LI53, LI54, LI55, LI56, LI57, LI58, LI59, LI62, LI63, LI65, LI66, LI67, LI68, LI69, LI70, LI71, LI72, LI73, LI74, LI75, LI76, LI77, LI78, LI79, LI81, LI82, LI83, LI84, LI85, LI86, LI87, LI88, LI89, LI90, LI91, LI92, LI93, LI94, LI95, LI96, LI97, LI98, LI99, LI100, LI101, LI102, LI103, LI104, LI105, LI106, LI107, LI108, LI109, LI110, LI111, LI112, LI113, LI114, LI115, LI116, LI117, LI118, LI119, LI120, LI121, LI122, LI123, LI124, LI125, LI126, LI127, LI255, LI256, LI999, LI1001, LI1002, LI1600, LI4096, LI1000001, LI2042, LM, nI_clamp, nI_pos', nI_lt, nI_nlt, nI_le, nI_ge, nI_ne, nI_add, nI_sub, mI_lt, mI_le, mI_nlt, mI_nle, mI_ne, mI_ne', mI_nem, h84, nI_mul, hdk, k80]
    · rw [if_neg h1] at hdk
      have e5 := r277 (A := A) (d := d) (b := b) (h := h) (X := X) (J := J) (R := R) (n := n) (e := k) hl (by omega)
      by_cases h2 : ln k = f
      · rw [if_pos (by simp [h1, h2]), r282_2]
        rw [h2] at e5
        simp (disch := omega) [r282_3, r282_4, r282_5, r282_8, r282_9, r282_12, r282_13, r282_16, r282_17, r282_18, r282_21, r282_22, r282_23, r282_26, r282_27, r282_30, r282_31, g241, vf12_84, vf12_98, t241_98, g296, qa277, qo277, List.getElem?_cons_zero, List.getElem?_cons_succ, List.length_cons, List.length_nil, ag_nx, ag_dn, ag_no, ag_if, jbr1, jbr2, jc1, jc2, jnul, jld, jsto, jstoL, jst1, jst2, jkill, jinc, jbI, jbL, jbS, juI, jl2i, jcmp, jisR, jisI, jisL, jret, jretv, jfits, jdup, jdup2, jpop, jmm, jcat, Value.category, jinv, jrcv, jthr, jhd, jput, jget, jlen, jald, jast, jaast, jgI, jgL, jgB, jtab, jlku, jacp, vf20, vf21, vf22, vf23, vf24, u2_s, u2_k, u2_i, uc_s, uc_k, uc_c, u2_c, LI0, LI1, LI2, LI3, LI4, LI5, LI6, LI7, LI8, LI9, LI10, LI11, LI12, LI13, LI14, LI15, LI16, LI17, LI18, LI19, LI20, LI21, LI22, LI23, LI24, LI25, LI26, LI27, LI28, LI29, LI30, LI31, LI32, LI33, LI34, LI35, LI36, LI37, LI40, LI42, LI43, LI45, LI48, LI60, LI61, LI64, LI80, LI300, LI400, LI1000, LI2000, LI2001, LI2047, LI2048, LI100000, LI1000000, LI38, LI39, LI41, LI44, LI46, LI47, LI49, LI50, LI51, LI52, LI53, LI54, LI55, LI56, LI57, LI58, LI59, LI62, LI63, LI65, LI66, LI67, LI68, LI69, LI70, LI71, LI72, LI73, LI74, LI75, LI76, LI77, LI78, LI79, LI81, LI82, LI83, LI84, LI85, LI86, LI87, LI88, LI89, LI90, LI91, LI92, LI93, LI94, LI95, LI96, LI97, LI98, LI99, LI100, LI101, LI102, LI103, LI104, LI105, LI106, LI107, LI108, LI109, LI110, LI111, LI112, LI113, LI114, LI115, LI116, LI117, LI118, LI119, LI120, LI121, LI122, LI123, LI124, LI125, LI126, LI127, LI255, LI256, LI999, LI1001, LI1002, LI1600, LI4096, LI1000001, LI2042, LM, nI_clamp, nI_pos', nI_lt, nI_nlt, nI_le, nI_ge, nI_ne, nI_add, nI_sub, mI_lt, mI_le, mI_nlt, mI_nle, mI_ne, mI_ne', mI_nem, h84, nI_mul, hdk, k80, e5, inO]
      · rw [if_neg (by simp [h2]), ← ih (k + 1) (by omega)]
        have ne := nIne (a := ln k) (c := f) (by have := hln k; omega) (by omega) h2
        conv => lhs; rw [r282_2]
        simp (disch := omega) [r282_3, r282_4, r282_5, r282_8, r282_9, r282_12, r282_13, r282_16, r282_17, r282_18, r282_21, r282_22, r282_23, r282_26, r282_27, r282_32, r282_35, g241, vf12_84, vf12_98, t241_98, g296, qa277, qo277, List.getElem?_cons_zero, List.getElem?_cons_succ, List.length_cons, List.length_nil, ag_nx, ag_dn, ag_no, ag_if, jbr1, jbr2, jc1, jc2, jnul, jld, jsto, jstoL, jst1, jst2, jkill, jinc, jbI, jbL, jbS, juI, jl2i, jcmp, jisR, jisI, jisL, jret, jretv, jfits, jdup, jdup2, jpop, jmm, jcat, Value.category, jinv, jrcv, jthr, jhd, jput, jget, jlen, jald, jast, jaast, jgI, jgL, jgB, jtab, jlku, jacp, vf20, vf21, vf22, vf23, vf24, u2_s, u2_k, u2_i, uc_s, uc_k, uc_c, u2_c, LI0, LI1, LI2, LI3, LI4, LI5, LI6, LI7, LI8, LI9, LI10, LI11, LI12, LI13, LI14, LI15, LI16, LI17, LI18, LI19, LI20, LI21, LI22, LI23, LI24, LI25, LI26, LI27, LI28, LI29, LI30, LI31, LI32, LI33, LI34, LI35, LI36, LI37, LI40, LI42, LI43, LI45, LI48, LI60, LI61, LI64, LI80, LI300, LI400, LI1000, LI2000, LI2001, LI2047, LI2048, LI100000, LI1000000, LI38, LI39, LI41, LI44, LI46, LI47, LI49, LI50, LI51, LI52, LI53, LI54, LI55, LI56, LI57, LI58, LI59, LI62, LI63, LI65, LI66, LI67, LI68, LI69, LI70, LI71, LI72, LI73, LI74, LI75, LI76, LI77, LI78, LI79, LI81, LI82, LI83, LI84, LI85, LI86, LI87, LI88, LI89, LI90, LI91, LI92, LI93, LI94, LI95, LI96, LI97, LI98, LI99, LI100, LI101, LI102, LI103, LI104, LI105, LI106, LI107, LI108, LI109, LI110, LI111, LI112, LI113, LI114, LI115, LI116, LI117, LI118, LI119, LI120, LI121, LI122, LI123, LI124, LI125, LI126, LI127, LI255, LI256, LI999, LI1001, LI1002, LI1600, LI4096, LI1000001, LI2042, LM, nI_clamp, nI_pos', nI_lt, nI_nlt, nI_le, nI_ge, nI_ne, nI_add, nI_sub, mI_lt, mI_le, mI_nlt, mI_nle, mI_ne, mI_ne', mI_nem, h84, nI_mul, hdk, k80, e5, ne]
theorem r282 {f m : Nat} {ln : Nat → Nat} {dn : Nat → Bool} (hl : rLi I m ln) (h84 : I 241 84 = nI m) (hf : f < 8) (hd : dR I dn) : jcall A jcode (d + 2) 282 [.ref (b + 241), .int (nI f)] (jH h b X I J R n) = some (.inl (some (.int (inO (fdP (fun k => !dn k && decide (ln k = f)) (2 * m) 0)))), (jH h b X I J R n)) := by
  rw [← r282l (A := A) (d := d) (b := b) (h := h) (X := X) (J := J) (R := R) (n := n) hl h84 hf hd (2 * m) 0 (by omega)]
  simp (disch := omega) [je282, r282_0, r282_1, g241, vf12_84, vf12_98, t241_98, g296, qa277, qo277, List.getElem?_cons_zero, List.getElem?_cons_succ, List.length_cons, List.length_nil, ag_nx, ag_dn, ag_no, ag_if, jbr1, jbr2, jc1, jc2, jnul, jld, jsto, jstoL, jst1, jst2, jkill, jinc, jbI, jbL, jbS, juI, jl2i, jcmp, jisR, jisI, jisL, jret, jretv, jfits, jdup, jdup2, jpop, jmm, jcat, Value.category, jinv, jrcv, jthr, jhd, jput, jget, jlen, jald, jast, jaast, jgI, jgL, jgB, jtab, jlku, jacp, vf20, vf21, vf22, vf23, vf24, u2_s, u2_k, u2_i, uc_s, uc_k, uc_c, u2_c, LI0, LI1, LI2, LI3, LI4, LI5, LI6, LI7, LI8, LI9, LI10, LI11, LI12, LI13, LI14, LI15, LI16, LI17, LI18, LI19, LI20, LI21, LI22, LI23, LI24, LI25, LI26, LI27, LI28, LI29, LI30, LI31, LI32, LI33, LI34, LI35, LI36, LI37, LI40, LI42, LI43, LI45, LI48, LI60, LI61, LI64, LI80, LI300, LI400, LI1000, LI2000, LI2001, LI2047, LI2048, LI100000, LI1000000, LI38, LI39, LI41, LI44, LI46, LI47, LI49, LI50, LI51, LI52, LI53, LI54, LI55, LI56, LI57, LI58, LI59, LI62, LI63, LI65, LI66, LI67, LI68, LI69, LI70, LI71, LI72, LI73, LI74, LI75, LI76, LI77, LI78, LI79, LI81, LI82, LI83, LI84, LI85, LI86, LI87, LI88, LI89, LI90, LI91, LI92, LI93, LI94, LI95, LI96, LI97, LI98, LI99, LI100, LI101, LI102, LI103, LI104, LI105, LI106, LI107, LI108, LI109, LI110, LI111, LI112, LI113, LI114, LI115, LI116, LI117, LI118, LI119, LI120, LI121, LI122, LI123, LI124, LI125, LI126, LI127, LI255, LI256, LI999, LI1001, LI1002, LI1600, LI4096, LI1000001, LI2042, LM, nI_clamp, nI_pos', nI_lt, nI_nlt, nI_le, nI_ge, nI_ne, nI_add, nI_sub, mI_lt, mI_le, mI_nlt, mI_nle, mI_ne, mI_ne', mI_nem]
/-- an event of the trace -/
theorem r284 {i : Nat} {kd x y : Int32} {nm : Nm} {dn : Nat → Bool} (hL : nn ≤ 2 ^ 20) (hm : ∀ w w', w < nn → w' < nn → rnm I w = rnm I w' → w = w') (hs : rHst I nn s) (hp : rPn X I nn np nf) (hx : x = -1 ∨ oP np x) (hy : y = -1 ∨ oP np y) (hi' : i < 400) (e75 : I 275 i = kd) (e77 : rNf (rnm I) nn (I 277 i) = nm) (e79 : oR (I 279 i) = x) (e80 : oR (I 280 i) = y) (hd : dR I dn) : ∃ I', jcall A jcode (d + 3) 284 [.ref (b + 241), .int (nI i)] (jH h b X I J R n) = some (.inl (some (.int (if (ftE s.1 s.2 (lbP nf) dn kd nm x y).isSome = true then nI 1 else nI 0))), jH h b X I' J R n) ∧ (∀ c k, c ≠ 296 → I' c k = I c k) ∧ ∀ dn', ftE s.1 s.2 (lbP nf) dn kd nm x y = some dn' → dR I' dn' := by
  obtain ⟨zx, e281, hzx⟩ := r281 (A := A) (d := d + 1) (b := b) (h := h) (X := X) (J := J) (R := R) (n := n) hp hx e79
  obtain ⟨zy, e281y, hzy⟩ := r281 (A := A) (d := d + 1) (b := b) (h := h) (X := X) (J := J) (R := R) (n := n) hp hy e80
  have hli := rHst_li hs
  have h40 := hs.2.2.2.1
  have h8 := hs.2.2.1
  have h84 := hs.1
  have e283 := r283 (A := A) (d := d + 1) (b := b) (h := h) (X := X) (J := J) (R := R) (n := n) (z := zx) hs.2.1 h8
  rw [lb_fd hL hm hzx hs] at e283
  have bad : ftE s.1 s.2 (lbP nf) dn kd nm x y = none → jcall A jcode (d + 3) 284 [.ref (b + 241), .int (nI i)] (jH h b X I J R n) = some (.inl (some (.int (nI 0))), (jH h b X I J R n)) → ∃ I', jcall A jcode (d + 3) 284 [.ref (b + 241), .int (nI i)] (jH h b X I J R n) = some (.inl (some (.int (if (ftE s.1 s.2 (lbP nf) dn kd nm x y).isSome = true then nI 1 else nI 0))), jH h b X I' J R n) ∧ (∀ c k, c ≠ 296 → I' c k = I c k) ∧ ∀ dn', ftE s.1 s.2 (lbP nf) dn kd nm x y = some dn' → dR I' dn' := by
    intro hn he
    refine ⟨I, ?_, fun _ _ _ => rfl, fun dn' h' => by rw [hn] at h'; cases h'⟩
    rw [hn, he]
    rfl
  cases hf : lnI s.2 (lbP nf x) with
  | none =>
    rw [hf, show inO none = mI 1 by rw [m1e]; rfl] at e283
    have m0 : mI 1 < nI 0 := by decide
    refine bad (by unfold ftE; rw [hf]) ?_
    simp (disch := omega) [je284, r284_0, r284_1, r284_2, r284_3, r284_6, r284_7, r284_8, r284_11, r284_14, r284_15, r284_16, r284_19, r284_20, g241, vf12_61, t241_61, g279, p279, qa281, qo281, qa283, qo283, qa282, qo282, vf12_57, t241_57, g275, p275, vf12_91, t241_91, g289, p289, vf12_59, t241_59, g277, p277, vf12_90, t241_90, g288, p288, vf12_89, t241_89, g287, p287, vf12_95, t241_95, g293, p293, vf12_62, t241_62, g280, p280, vf12_98, t241_98, g296, p296, List.getElem?_cons_zero, List.getElem?_cons_succ, List.length_cons, List.length_nil, ag_nx, ag_dn, ag_no, ag_if, jbr1, jbr2, jc1, jc2, jnul, jld, jsto, jstoL, jst1, jst2, jkill, jinc, jbI, jbL, jbS, juI, jl2i, jcmp, jisR, jisI, jisL, jret, jretv, jfits, jdup, jdup2, jpop, jmm, jcat, Value.category, jinv, jrcv, jthr, jhd, jput, jget, jlen, jald, jast, jaast, jgI, jgL, jgB, jtab, jlku, jacp, vf20, vf21, vf22, vf23, vf24, u2_s, u2_k, u2_i, uc_s, uc_k, uc_c, u2_c, LI0, LI1, LI2, LI3, LI4, LI5, LI6, LI7, LI8, LI9, LI10, LI11, LI12, LI13, LI14, LI15, LI16, LI17, LI18, LI19, LI20, LI21, LI22, LI23, LI24, LI25, LI26, LI27, LI28, LI29, LI30, LI31, LI32, LI33, LI34, LI35, LI36, LI37, LI40, LI42, LI43, LI45, LI48, LI60, LI61, LI64, LI80, LI300, LI400, LI1000, LI2000, LI2001, LI2047, LI2048, LI100000, LI1000000, LI38, LI39, LI41, LI44, LI46, LI47, LI49, LI50, LI51, LI52, LI53, LI54, LI55, LI56, LI57, LI58, LI59, LI62, LI63, LI65, LI66, LI67, LI68, LI69, LI70, LI71, LI72, LI73, LI74, LI75, LI76, LI77, LI78, LI79, LI81, LI82, LI83, LI84, LI85, LI86, LI87, LI88, LI89, LI90, LI91, LI92, LI93, LI94, LI95, LI96, LI97, LI98, LI99, LI100, LI101, LI102, LI103, LI104, LI105, LI106, LI107, LI108, LI109, LI110, LI111, LI112, LI113, LI114, LI115, LI116, LI117, LI118, LI119, LI120, LI121, LI122, LI123, LI124, LI125, LI126, LI127, LI255, LI256, LI999, LI1001, LI1002, LI1600, LI4096, LI1000001, LI2042, LM, nI_clamp, nI_pos', nI_lt, nI_nlt, nI_le, nI_ge, nI_ne, nI_add, nI_sub, mI_lt, mI_le, mI_nlt, mI_nle, mI_ne, mI_ne', mI_nem, hi', e281, e283, m0]
  | some f =>
    have f8 := (lnI_lt hf).1
    rw [hf, show inO (some f) = nI f from rfl] at e283
    have m0 : ¬ nI f < nI 0 := by rw [nI_ltI (by omega) (by omega)]; omega
    have e282 := r282 (A := A) (d := d) (b := b) (h := h) (X := X) (J := J) (R := R) (n := n) (f := f) hli h84 (by omega) hd
    cases hk : fdP (fun k => !dn k && decide (lnM s.1 k = f)) (2 * s.1.length) 0 with
    | none =>
      rw [hk, show inO none = mI 1 by rw [m1e]; rfl] at e282
      have m1 : mI 1 < nI 0 := by decide
      refine bad (by unfold ftE; rw [hf]; simp only; rw [hk]) ?_
      simp (disch := omega) [je284, r284_0, r284_1, r284_2, r284_3, r284_6, r284_7, r284_8, r284_11, r284_14, r284_15, r284_16, r284_21, r284_22, r284_23, r284_26, r284_27, r284_28, r284_60, r284_61, g241, vf12_61, t241_61, g279, p279, qa281, qo281, qa283, qo283, qa282, qo282, vf12_57, t241_57, g275, p275, vf12_91, t241_91, g289, p289, vf12_59, t241_59, g277, p277, vf12_90, t241_90, g288, p288, vf12_89, t241_89, g287, p287, vf12_95, t241_95, g293, p293, vf12_62, t241_62, g280, p280, vf12_98, t241_98, g296, p296, List.getElem?_cons_zero, List.getElem?_cons_succ, List.length_cons, List.length_nil, ag_nx, ag_dn, ag_no, ag_if, jbr1, jbr2, jc1, jc2, jnul, jld, jsto, jstoL, jst1, jst2, jkill, jinc, jbI, jbL, jbS, juI, jl2i, jcmp, jisR, jisI, jisL, jret, jretv, jfits, jdup, jdup2, jpop, jmm, jcat, Value.category, jinv, jrcv, jthr, jhd, jput, jget, jlen, jald, jast, jaast, jgI, jgL, jgB, jtab, jlku, jacp, vf20, vf21, vf22, vf23, vf24, u2_s, u2_k, u2_i, uc_s, uc_k, uc_c, u2_c, LI0, LI1, LI2, LI3, LI4, LI5, LI6, LI7, LI8, LI9, LI10, LI11, LI12, LI13, LI14, LI15, LI16, LI17, LI18, LI19, LI20, LI21, LI22, LI23, LI24, LI25, LI26, LI27, LI28, LI29, LI30, LI31, LI32, LI33, LI34, LI35, LI36, LI37, LI40, LI42, LI43, LI45, LI48, LI60, LI61, LI64, LI80, LI300, LI400, LI1000, LI2000, LI2001, LI2047, LI2048, LI100000, LI1000000, LI38, LI39, LI41, LI44, LI46, LI47, LI49, LI50, LI51, LI52, LI53, LI54, LI55, LI56, LI57, LI58, LI59, LI62, LI63, LI65, LI66, LI67, LI68, LI69, LI70, LI71, LI72, LI73, LI74, LI75, LI76, LI77, LI78, LI79, LI81, LI82, LI83, LI84, LI85, LI86, LI87, LI88, LI89, LI90, LI91, LI92, LI93, LI94, LI95, LI96, LI97, LI98, LI99, LI100, LI101, LI102, LI103, LI104, LI105, LI106, LI107, LI108, LI109, LI110, LI111, LI112, LI113, LI114, LI115, LI116, LI117, LI118, LI119, LI120, LI121, LI122, LI123, LI124, LI125, LI126, LI127, LI255, LI256, LI999, LI1001, LI1002, LI1600, LI4096, LI1000001, LI2042, LM, nI_clamp, nI_pos', nI_lt, nI_nlt, nI_le, nI_ge, nI_ne, nI_add, nI_sub, mI_lt, mI_le, mI_nlt, mI_nle, mI_ne, mI_ne', mI_nem, hi', e281, e283, m0, e282, m1]
    | some k =>
      rw [hk, show inO (some k) = nI k from rfl] at e282
      obtain ⟨_, k2m, _⟩ := fdP_b _ _ _ hk
      rw [Nat.zero_add] at k2m
      have k80 : k < 80 := by omega
      have m1 : ¬ nI k < nI 0 := by rw [nI_ltI (by omega) (by omega)]; omega
      have s1 := dv2 k k80
      have a1 := rm2 k k80
      have kh : k / 2 < s.1.length := by omega
      have k40 : k / 2 < 40 := by omega
      have hx' : s.1[k / 2]? = some s.1[k / 2] := List.getElem?_eq_getElem kh
      obtain ⟨g1, g2, g3, g4, g5⟩ := hs.2.2.2.2.2.1 _ _ hx'
      have hgd : s.1.getD (k / 2) (0, 0, (0, 0)) = s.1[k / 2] := by rw [List.getD_eq_getElem?_getD, hx']; rfl
      have hE : ftE s.1 s.2 (lbP nf) dn kd nm x y = if nI (k % 2) = kd ∧ lnI s.2 (lbP nf y) = some (othL s.1 k) ∧ nm = .inl s.1[k / 2].2.2 then some (if k % 2 = 0 ∧ lbP nf y = some none then ftD (ftD dn k) (k + 1) else ftD dn k) else none := by
        unfold ftE
        rw [hf]
        simp only
        rw [hk]
        simp only
        rw [hgd]
      have hoth : (if k % 2 = 0 then I 288 (k / 2) else I 287 (k / 2)) = nI (othL s.1 k) := by
        unfold othL
        rw [hgd]
        split
        · exact g4
        · exact g3
      have holt : othL s.1 k < s.2.length := by
        unfold othL
        rw [hgd]
        split
        · exact g2
        · exact g1
      have ho8 : othL s.1 k < 8 := by omega
      have w1 : jcall A jcode (d + 3) 284 [.ref (b + 241), .int (nI i)] (jH h b X I J R n) = M284 A (d + 2) 31 [some (.ref (b + 241)), some (.int (nI i)), some (.int (nI f)), some (.int (nI k)), none] [] (jH h b X I J R n) := by
        simp (disch := omega) [je284, r284_0, r284_1, r284_2, r284_3, r284_6, r284_7, r284_8, r284_11, r284_14, r284_15, r284_16, r284_21, r284_22, r284_23, r284_26, r284_27, r284_28, g241, vf12_61, t241_61, g279, p279, qa281, qo281, qa283, qo283, qa282, qo282, vf12_57, t241_57, g275, p275, vf12_91, t241_91, g289, p289, vf12_59, t241_59, g277, p277, vf12_90, t241_90, g288, p288, vf12_89, t241_89, g287, p287, vf12_95, t241_95, g293, p293, vf12_62, t241_62, g280, p280, vf12_98, t241_98, g296, p296, List.getElem?_cons_zero, List.getElem?_cons_succ, List.length_cons, List.length_nil, ag_nx, ag_dn, ag_no, ag_if, jbr1, jbr2, jc1, jc2, jnul, jld, jsto, jstoL, jst1, jst2, jkill, jinc, jbI, jbL, jbS, juI, jl2i, jcmp, jisR, jisI, jisL, jret, jretv, jfits, jdup, jdup2, jpop, jmm, jcat, Value.category, jinv, jrcv, jthr, jhd, jput, jget, jlen, jald, jast, jaast, jgI, jgL, jgB, jtab, jlku, jacp, vf20, vf21, vf22, vf23, vf24, u2_s, u2_k, u2_i, uc_s, uc_k, uc_c, u2_c, LI0, LI1, LI2, LI3, LI4, LI5, LI6, LI7, LI8, LI9, LI10, LI11, LI12, LI13, LI14, LI15, LI16, LI17, LI18, LI19, LI20, LI21, LI22, LI23, LI24, LI25, LI26, LI27, LI28, LI29, LI30, LI31, LI32, LI33, LI34, LI35, LI36, LI37, LI40, LI42, LI43, LI45, LI48, LI60, LI61, LI64, LI80, LI300, LI400, LI1000, LI2000, LI2001, LI2047, LI2048, LI100000, LI1000000, LI38, LI39, LI41, LI44, LI46, LI47, LI49, LI50, LI51, LI52, LI53, LI54, LI55, LI56, LI57, LI58, LI59, LI62, LI63, LI65, LI66, LI67, LI68, LI69, LI70, LI71, LI72, LI73, LI74, LI75, LI76, LI77, LI78, LI79, LI81, LI82, LI83, LI84, LI85, LI86, LI87, LI88, LI89, LI90, LI91, LI92, LI93, LI94, LI95, LI96, LI97, LI98, LI99, LI100, LI101, LI102, LI103, LI104, LI105, LI106, LI107, LI108, LI109, LI110, LI111, LI112, LI113, LI114, LI115, LI116, LI117, LI118, LI119, LI120, LI121, LI122, LI123, LI124, LI125, LI126, LI127, LI255, LI256, LI999, LI1001, LI1002, LI1600, LI4096, LI1000001, LI2042, LM, nI_clamp, nI_pos', nI_lt, nI_nlt, nI_le, nI_ge, nI_ne, nI_add, nI_sub, mI_lt, mI_le, mI_nlt, mI_nle, mI_ne, mI_ne', mI_nem, hi', e281, e283, m0, e282, m1]
      by_cases c1 : nI (k % 2) = kd
      · have ekd : nI (k % 2) = I 275 i := c1.trans e75.symm
        have hne : I 289 (k / 2) = I 277 i ↔ nm = .inl s.1[k / 2].2.2 := by
          obtain ⟨u, u1, u2', u3⟩ := g5
          rw [u2']
          constructor
          · intro e
            rw [← e, rNf_v u1 (by omega), u3] at e77
            exact e77.symm
          · intro e
            rw [e] at e77
            obtain ⟨q1, q2, q3⟩ := rNf_l e77
            rw [q2, hm u (ix (I 277 i)) u1 q1 (u3.trans q3.symm)]
        by_cases c3 : nm = .inl s.1[k / 2].2.2
        · have e3 := hne.mpr c3
          have w2 : jcall A jcode (d + 3) 284 [.ref (b + 241), .int (nI i)] (jH h b X I J R n) = M284 A (d + 2) 89 [some (.ref (b + 241)), some (.int (nI i)), some (.int (nI f)), some (.int (nI k)), some (.int (nI (othL s.1 k)))] [] (jH h b X I J R n) := by
            rw [w1, r284_31]
            by_cases hev : k % 2 = 0
            · rw [if_pos hev] at hoth
              rw [hev] at a1 ekd
              simp (disch := omega) [r284_32, r284_33, r284_34, r284_35, r284_38, r284_39, r284_40, r284_43, r284_44, r284_47, r284_48, r284_49, r284_50, r284_51, r284_52, r284_55, r284_56, r284_57, r284_62, r284_63, r284_64, r284_65, r284_68, r284_69, r284_72, r284_73, r284_74, r284_75, r284_76, r284_87, g241, vf12_61, t241_61, g279, p279, qa281, qo281, qa283, qo283, qa282, qo282, vf12_57, t241_57, g275, p275, vf12_91, t241_91, g289, p289, vf12_59, t241_59, g277, p277, vf12_90, t241_90, g288, p288, vf12_89, t241_89, g287, p287, vf12_95, t241_95, g293, p293, vf12_62, t241_62, g280, p280, vf12_98, t241_98, g296, p296, List.getElem?_cons_zero, List.getElem?_cons_succ, List.length_cons, List.length_nil, ag_nx, ag_dn, ag_no, ag_if, jbr1, jbr2, jc1, jc2, jnul, jld, jsto, jstoL, jst1, jst2, jkill, jinc, jbI, jbL, jbS, juI, jl2i, jcmp, jisR, jisI, jisL, jret, jretv, jfits, jdup, jdup2, jpop, jmm, jcat, Value.category, jinv, jrcv, jthr, jhd, jput, jget, jlen, jald, jast, jaast, jgI, jgL, jgB, jtab, jlku, jacp, vf20, vf21, vf22, vf23, vf24, u2_s, u2_k, u2_i, uc_s, uc_k, uc_c, u2_c, LI0, LI1, LI2, LI3, LI4, LI5, LI6, LI7, LI8, LI9, LI10, LI11, LI12, LI13, LI14, LI15, LI16, LI17, LI18, LI19, LI20, LI21, LI22, LI23, LI24, LI25, LI26, LI27, LI28, LI29, LI30, LI31, LI32, LI33, LI34, LI35, LI36, LI37, LI40, LI42, LI43, LI45, LI48, LI60, LI61, LI64, LI80, LI300, LI400, LI1000, LI2000, LI2001, LI2047, LI2048, LI100000, LI1000000, LI38, LI39, LI41, LI44, LI46, LI47, LI49, LI50, LI51, LI52, LI53, LI54, LI55, LI56, LI57, LI58, LI59, LI62, LI63, LI65, LI66, LI67, LI68, LI69, LI70, LI71, LI72, LI73, LI74, LI75, LI76, LI77, LI78, LI79, LI81, LI82, LI83, LI84, LI85, LI86, LI87, LI88, LI89, LI90, LI91, LI92, LI93, LI94, LI95, LI96, LI97, LI98, LI99, LI100, LI101, LI102, LI103, LI104, LI105, LI106, LI107, LI108, LI109, LI110, LI111, LI112, LI113, LI114, LI115, LI116, LI117, LI118, LI119, LI120, LI121, LI122, LI123, LI124, LI125, LI126, LI127, LI255, LI256, LI999, LI1001, LI1002, LI1600, LI4096, LI1000001, LI2042, LM, nI_clamp, nI_pos', nI_lt, nI_nlt, nI_le, nI_ge, nI_ne, nI_add, nI_sub, mI_lt, mI_le, mI_nlt, mI_nle, mI_ne, mI_ne', mI_nem, jdiv, nI_mul, s1, a1, ekd.symm, e3, hoth, k40, hi']
            · rw [if_neg hev] at hoth
              rw [show k % 2 = 1 by omega] at a1 ekd
              simp (disch := omega) [r284_32, r284_33, r284_34, r284_35, r284_38, r284_39, r284_40, r284_43, r284_44, r284_47, r284_48, r284_49, r284_50, r284_51, r284_52, r284_55, r284_56, r284_57, r284_62, r284_63, r284_64, r284_65, r284_79, r284_80, r284_83, r284_84, r284_85, r284_86, r284_87, g241, vf12_61, t241_61, g279, p279, qa281, qo281, qa283, qo283, qa282, qo282, vf12_57, t241_57, g275, p275, vf12_91, t241_91, g289, p289, vf12_59, t241_59, g277, p277, vf12_90, t241_90, g288, p288, vf12_89, t241_89, g287, p287, vf12_95, t241_95, g293, p293, vf12_62, t241_62, g280, p280, vf12_98, t241_98, g296, p296, List.getElem?_cons_zero, List.getElem?_cons_succ, List.length_cons, List.length_nil, ag_nx, ag_dn, ag_no, ag_if, jbr1, jbr2, jc1, jc2, jnul, jld, jsto, jstoL, jst1, jst2, jkill, jinc, jbI, jbL, jbS, juI, jl2i, jcmp, jisR, jisI, jisL, jret, jretv, jfits, jdup, jdup2, jpop, jmm, jcat, Value.category, jinv, jrcv, jthr, jhd, jput, jget, jlen, jald, jast, jaast, jgI, jgL, jgB, jtab, jlku, jacp, vf20, vf21, vf22, vf23, vf24, u2_s, u2_k, u2_i, uc_s, uc_k, uc_c, u2_c, LI0, LI1, LI2, LI3, LI4, LI5, LI6, LI7, LI8, LI9, LI10, LI11, LI12, LI13, LI14, LI15, LI16, LI17, LI18, LI19, LI20, LI21, LI22, LI23, LI24, LI25, LI26, LI27, LI28, LI29, LI30, LI31, LI32, LI33, LI34, LI35, LI36, LI37, LI40, LI42, LI43, LI45, LI48, LI60, LI61, LI64, LI80, LI300, LI400, LI1000, LI2000, LI2001, LI2047, LI2048, LI100000, LI1000000, LI38, LI39, LI41, LI44, LI46, LI47, LI49, LI50, LI51, LI52, LI53, LI54, LI55, LI56, LI57, LI58, LI59, LI62, LI63, LI65, LI66, LI67, LI68, LI69, LI70, LI71, LI72, LI73, LI74, LI75, LI76, LI77, LI78, LI79, LI81, LI82, LI83, LI84, LI85, LI86, LI87, LI88, LI89, LI90, LI91, LI92, LI93, LI94, LI95, LI96, LI97, LI98, LI99, LI100, LI101, LI102, LI103, LI104, LI105, LI106, LI107, LI108, LI109, LI110, LI111, LI112, LI113, LI114, LI115, LI116, LI117, LI118, LI119, LI120, LI121, LI122, LI123, LI124, LI125, LI126, LI127, LI255, LI256, LI999, LI1001, LI1002, LI1600, LI4096, LI1000001, LI2042, LM, nI_clamp, nI_pos', nI_lt, nI_nlt, nI_le, nI_ge, nI_ne, nI_add, nI_sub, mI_lt, mI_le, mI_nlt, mI_nle, mI_ne, mI_ne', mI_nem, jdiv, nI_mul, s1, a1, ekd.symm, e3, hoth, k40, hi']
          have hla := lb_at hL hm hzy hs holt
          by_cases c2 : lnI s.2 (lbP nf y) = some (othL s.1 k)
          · have ez := hla.mpr c2
            have hcc : nI (k % 2) = kd ∧ lnI s.2 (lbP nf y) = some (othL s.1 k) ∧ nm = .inl s.1[k / 2].2.2 := ⟨c1, c2, c3⟩
            rw [if_pos hcc] at hE
            rw [hE]
            have dR1 : dR (u2 I 296 k (nI 1)) (ftD dn k) := fun j hj => by
              unfold ftD
              by_cases hjk : j = k
              · rw [hjk, u2_s]; simp
              · rw [u2_o _ _ (by omega), if_neg hjk]; exact hd j hj
            have a11 : nI 1 &&& nI 1 = nI 1 := by decide
            have w3 : jcall A jcode (d + 3) 284 [.ref (b + 241), .int (nI i)] (jH h b X I J R n) = M284 A (d + 2) 118 [some (.ref (b + 241)), some (.int (nI i)), some (.int (nI f)), some (.int (nI k)), some (.int (nI (othL s.1 k)))] [] (jH h b X (u2 I 296 k (nI 1)) J R n) := by
              rw [w2, r284_89]
              simp (disch := omega) [r284_90, r284_93, r284_95, r284_96, r284_97, r284_98, r284_101, r284_102, r284_103, r284_106, r284_111, r284_112, r284_115, r284_116, r284_117, g241, vf12_61, t241_61, g279, p279, qa281, qo281, qa283, qo283, qa282, qo282, vf12_57, t241_57, g275, p275, vf12_91, t241_91, g289, p289, vf12_59, t241_59, g277, p277, vf12_90, t241_90, g288, p288, vf12_89, t241_89, g287, p287, vf12_95, t241_95, g293, p293, vf12_62, t241_62, g280, p280, vf12_98, t241_98, g296, p296, List.getElem?_cons_zero, List.getElem?_cons_succ, List.length_cons, List.length_nil, ag_nx, ag_dn, ag_no, ag_if, jbr1, jbr2, jc1, jc2, jnul, jld, jsto, jstoL, jst1, jst2, jkill, jinc, jbI, jbL, jbS, juI, jl2i, jcmp, jisR, jisI, jisL, jret, jretv, jfits, jdup, jdup2, jpop, jmm, jcat, Value.category, jinv, jrcv, jthr, jhd, jput, jget, jlen, jald, jast, jaast, jgI, jgL, jgB, jtab, jlku, jacp, vf20, vf21, vf22, vf23, vf24, u2_s, u2_k, u2_i, uc_s, uc_k, uc_c, u2_c, LI0, LI1, LI2, LI3, LI4, LI5, LI6, LI7, LI8, LI9, LI10, LI11, LI12, LI13, LI14, LI15, LI16, LI17, LI18, LI19, LI20, LI21, LI22, LI23, LI24, LI25, LI26, LI27, LI28, LI29, LI30, LI31, LI32, LI33, LI34, LI35, LI36, LI37, LI40, LI42, LI43, LI45, LI48, LI60, LI61, LI64, LI80, LI300, LI400, LI1000, LI2000, LI2001, LI2047, LI2048, LI100000, LI1000000, LI38, LI39, LI41, LI44, LI46, LI47, LI49, LI50, LI51, LI52, LI53, LI54, LI55, LI56, LI57, LI58, LI59, LI62, LI63, LI65, LI66, LI67, LI68, LI69, LI70, LI71, LI72, LI73, LI74, LI75, LI76, LI77, LI78, LI79, LI81, LI82, LI83, LI84, LI85, LI86, LI87, LI88, LI89, LI90, LI91, LI92, LI93, LI94, LI95, LI96, LI97, LI98, LI99, LI100, LI101, LI102, LI103, LI104, LI105, LI106, LI107, LI108, LI109, LI110, LI111, LI112, LI113, LI114, LI115, LI116, LI117, LI118, LI119, LI120, LI121, LI122, LI123, LI124, LI125, LI126, LI127, LI255, LI256, LI999, LI1001, LI1002, LI1600, LI4096, LI1000001, LI2042, LM, nI_clamp, nI_pos', nI_lt, nI_nlt, nI_le, nI_ge, nI_ne, nI_add, nI_sub, mI_lt, mI_le, mI_nlt, mI_nle, mI_ne, mI_ne', mI_nem, ez, ho8, hi', e281y, k80]
            have hout : I 293 (othL s.1 k) = mI 2 ↔ lbP nf y = some none := by
              rw [ez]
              have := rLb_e hL hm hzy (show rLn I nn (mI 2) none from rfl)
              rw [← this]
              exact ⟨Eq.symm, Eq.symm⟩
            by_cases hev : k % 2 = 0
            · rw [hev] at a1
              by_cases c4 : lbP nf y = some none
              · have eo := hout.mpr c4
                have k81 : k + 1 < 80 := by omega
                refine ⟨u2 (u2 I 296 k (nI 1)) 296 (k + 1) (nI 1), ?_, fun c j hc => by rw [u2_o _ _ (by omega), u2_o _ _ (by omega)], fun dn' h' => ?_⟩
                · rw [w3, r284_118]
                  simp (disch := omega) [r284_119, r284_120, r284_121, r284_124, r284_125, r284_128, r284_130, r284_131, r284_133, r284_136, r284_137, r284_140, r284_141, r284_142, r284_143, r284_144, r284_145, r284_146, g241, vf12_61, t241_61, g279, p279, qa281, qo281, qa283, qo283, qa282, qo282, vf12_57, t241_57, g275, p275, vf12_91, t241_91, g289, p289, vf12_59, t241_59, g277, p277, vf12_90, t241_90, g288, p288, vf12_89, t241_89, g287, p287, vf12_95, t241_95, g293, p293, vf12_62, t241_62, g280, p280, vf12_98, t241_98, g296, p296, List.getElem?_cons_zero, List.getElem?_cons_succ, List.length_cons, List.length_nil, ag_nx, ag_dn, ag_no, ag_if, jbr1, jbr2, jc1, jc2, jnul, jld, jsto, jstoL, jst1, jst2, jkill, jinc, jbI, jbL, jbS, juI, jl2i, jcmp, jisR, jisI, jisL, jret, jretv, jfits, jdup, jdup2, jpop, jmm, jcat, Value.category, jinv, jrcv, jthr, jhd, jput, jget, jlen, jald, jast, jaast, jgI, jgL, jgB, jtab, jlku, jacp, vf20, vf21, vf22, vf23, vf24, u2_s, u2_k, u2_i, uc_s, uc_k, uc_c, u2_c, LI0, LI1, LI2, LI3, LI4, LI5, LI6, LI7, LI8, LI9, LI10, LI11, LI12, LI13, LI14, LI15, LI16, LI17, LI18, LI19, LI20, LI21, LI22, LI23, LI24, LI25, LI26, LI27, LI28, LI29, LI30, LI31, LI32, LI33, LI34, LI35, LI36, LI37, LI40, LI42, LI43, LI45, LI48, LI60, LI61, LI64, LI80, LI300, LI400, LI1000, LI2000, LI2001, LI2047, LI2048, LI100000, LI1000000, LI38, LI39, LI41, LI44, LI46, LI47, LI49, LI50, LI51, LI52, LI53, LI54, LI55, LI56, LI57, LI58, LI59, LI62, LI63, LI65, LI66, LI67, LI68, LI69, LI70, LI71, LI72, LI73, LI74, LI75, LI76, LI77, LI78, LI79, LI81, LI82, LI83, LI84, LI85, LI86, LI87, LI88, LI89, LI90, LI91, LI92, LI93, LI94, LI95, LI96, LI97, LI98, LI99, LI100, LI101, LI102, LI103, LI104, LI105, LI106, LI107, LI108, LI109, LI110, LI111, LI112, LI113, LI114, LI115, LI116, LI117, LI118, LI119, LI120, LI121, LI122, LI123, LI124, LI125, LI126, LI127, LI255, LI256, LI999, LI1001, LI1002, LI1600, LI4096, LI1000001, LI2042, LM, nI_clamp, nI_pos', nI_lt, nI_nlt, nI_le, nI_ge, nI_ne, nI_add, nI_sub, mI_lt, mI_le, mI_nlt, mI_nle, mI_ne, mI_ne', mI_nem, jdiv, nI_mul, s1, a1, eo, ho8, k81]
                · rw [if_pos (show k % 2 = 0 ∧ lbP nf y = some none from ⟨hev, c4⟩)] at h'
                  cases h'
                  intro j hj
                  unfold ftD
                  by_cases hjk : j = k + 1
                  · rw [hjk, u2_s]; simp
                  · rw [u2_o _ _ (by omega), if_neg hjk]; exact dR1 j hj
              · have neo : ¬ I 293 (othL s.1 k) = mI 2 := fun z => c4 (hout.mp z)
                refine ⟨u2 I 296 k (nI 1), ?_, fun c j hc => u2_o _ _ (by omega), fun dn' h' => ?_⟩
                · rw [w3, r284_118]
                  simp (disch := omega) [r284_119, r284_120, r284_121, r284_124, r284_125, r284_128, r284_130, r284_131, r284_133, r284_145, r284_146, g241, vf12_61, t241_61, g279, p279, qa281, qo281, qa283, qo283, qa282, qo282, vf12_57, t241_57, g275, p275, vf12_91, t241_91, g289, p289, vf12_59, t241_59, g277, p277, vf12_90, t241_90, g288, p288, vf12_89, t241_89, g287, p287, vf12_95, t241_95, g293, p293, vf12_62, t241_62, g280, p280, vf12_98, t241_98, g296, p296, List.getElem?_cons_zero, List.getElem?_cons_succ, List.length_cons, List.length_nil, ag_nx, ag_dn, ag_no, ag_if, jbr1, jbr2, jc1, jc2, jnul, jld, jsto, jstoL, jst1, jst2, jkill, jinc, jbI, jbL, jbS, juI, jl2i, jcmp, jisR, jisI, jisL, jret, jretv, jfits, jdup, jdup2, jpop, jmm, jcat, Value.category, jinv, jrcv, jthr, jhd, jput, jget, jlen, jald, jast, jaast, jgI, jgL, jgB, jtab, jlku, jacp, vf20, vf21, vf22, vf23, vf24, u2_s, u2_k, u2_i, uc_s, uc_k, uc_c, u2_c, LI0, LI1, LI2, LI3, LI4, LI5, LI6, LI7, LI8, LI9, LI10, LI11, LI12, LI13, LI14, LI15, LI16, LI17, LI18, LI19, LI20, LI21, LI22, LI23, LI24, LI25, LI26, LI27, LI28, LI29, LI30, LI31, LI32, LI33, LI34, LI35, LI36, LI37, LI40, LI42, LI43, LI45, LI48, LI60, LI61, LI64, LI80, LI300, LI400, LI1000, LI2000, LI2001, LI2047, LI2048, LI100000, LI1000000, LI38, LI39, LI41, LI44, LI46, LI47, LI49, LI50, LI51, LI52, LI53, LI54, LI55, LI56, LI57, LI58, LI59, LI62, LI63, LI65, LI66, LI67, LI68, LI69, LI70, LI71, LI72, LI73, LI74, LI75, LI76, LI77, LI78, LI79, LI81, LI82, LI83, LI84, LI85, LI86, LI87, LI88, LI89, LI90, LI91, LI92, LI93, LI94, LI95, LI96, LI97, LI98, LI99, LI100, LI101, LI102, LI103, LI104, LI105, LI106, LI107, LI108, LI109, LI110, LI111, LI112, LI113, LI114, LI115, LI116, LI117, LI118, LI119, LI120, LI121, LI122, LI123, LI124, LI125, LI126, LI127, LI255, LI256, LI999, LI1001, LI1002, LI1600, LI4096, LI1000001, LI2042, LM, nI_clamp, nI_pos', nI_lt, nI_nlt, nI_le, nI_ge, nI_ne, nI_add, nI_sub, mI_lt, mI_le, mI_nlt, mI_nle, mI_ne, mI_ne', mI_nem, jdiv, nI_mul, s1, a1, neo, ho8]
                · rw [if_neg (show ¬ (k % 2 = 0 ∧ lbP nf y = some none) from fun z => c4 z.2)] at h'
                  cases h'
                  exact dR1
            · rw [show k % 2 = 1 by omega] at a1
              refine ⟨u2 I 296 k (nI 1), ?_, fun c j hc => u2_o _ _ (by omega), fun dn' h' => ?_⟩
              · rw [w3, r284_118]
                simp (disch := omega) [r284_119, r284_120, r284_121, r284_145, r284_146, g241, vf12_61, t241_61, g279, p279, qa281, qo281, qa283, qo283, qa282, qo282, vf12_57, t241_57, g275, p275, vf12_91, t241_91, g289, p289, vf12_59, t241_59, g277, p277, vf12_90, t241_90, g288, p288, vf12_89, t241_89, g287, p287, vf12_95, t241_95, g293, p293, vf12_62, t241_62, g280, p280, vf12_98, t241_98, g296, p296, List.getElem?_cons_zero, List.getElem?_cons_succ, List.length_cons, List.length_nil, ag_nx, ag_dn, ag_no, ag_if, jbr1, jbr2, jc1, jc2, jnul, jld, jsto, jstoL, jst1, jst2, jkill, jinc, jbI, jbL, jbS, juI, jl2i, jcmp, jisR, jisI, jisL, jret, jretv, jfits, jdup, jdup2, jpop, jmm, jcat, Value.category, jinv, jrcv, jthr, jhd, jput, jget, jlen, jald, jast, jaast, jgI, jgL, jgB, jtab, jlku, jacp, vf20, vf21, vf22, vf23, vf24, u2_s, u2_k, u2_i, uc_s, uc_k, uc_c, u2_c, LI0, LI1, LI2, LI3, LI4, LI5, LI6, LI7, LI8, LI9, LI10, LI11, LI12, LI13, LI14, LI15, LI16, LI17, LI18, LI19, LI20, LI21, LI22, LI23, LI24, LI25, LI26, LI27, LI28, LI29, LI30, LI31, LI32, LI33, LI34, LI35, LI36, LI37, LI40, LI42, LI43, LI45, LI48, LI60, LI61, LI64, LI80, LI300, LI400, LI1000, LI2000, LI2001, LI2047, LI2048, LI100000, LI1000000, LI38, LI39, LI41, LI44, LI46, LI47, LI49, LI50, LI51, LI52, LI53, LI54, LI55, LI56, LI57, LI58, LI59, LI62, LI63, LI65, LI66, LI67, LI68, LI69, LI70, LI71, LI72, LI73, LI74, LI75, LI76, LI77, LI78, LI79, LI81, LI82, LI83, LI84, LI85, LI86, LI87, LI88, LI89, LI90, LI91, LI92, LI93, LI94, LI95, LI96, LI97, LI98, LI99, LI100, LI101, LI102, LI103, LI104, LI105, LI106, LI107, LI108, LI109, LI110, LI111, LI112, LI113, LI114, LI115, LI116, LI117, LI118, LI119, LI120, LI121, LI122, LI123, LI124, LI125, LI126, LI127, LI255, LI256, LI999, LI1001, LI1002, LI1600, LI4096, LI1000001, LI2042, LM, nI_clamp, nI_pos', nI_lt, nI_nlt, nI_le, nI_ge, nI_ne, nI_add, nI_sub, mI_lt, mI_le, mI_nlt, mI_nle, mI_ne, mI_ne', mI_nem, jdiv, nI_mul, s1, a1]
              · rw [if_neg (show ¬ (k % 2 = 0 ∧ lbP nf y = some none) from fun z => hev z.1)] at h'
                cases h'
                exact dR1
          · have nz : ¬ I 293 (othL s.1 k) = zy := fun z => c2 (hla.mp z)
            refine bad (by rw [hE, if_neg (fun z => c2 z.2.1)]) ?_
            rw [w2, r284_89]
            simp (disch := omega) [r284_90, r284_93, r284_95, r284_96, r284_97, r284_98, r284_101, r284_102, r284_103, r284_106, r284_109, r284_110, g241, vf12_61, t241_61, g279, p279, qa281, qo281, qa283, qo283, qa282, qo282, vf12_57, t241_57, g275, p275, vf12_91, t241_91, g289, p289, vf12_59, t241_59, g277, p277, vf12_90, t241_90, g288, p288, vf12_89, t241_89, g287, p287, vf12_95, t241_95, g293, p293, vf12_62, t241_62, g280, p280, vf12_98, t241_98, g296, p296, List.getElem?_cons_zero, List.getElem?_cons_succ, List.length_cons, List.length_nil, ag_nx, ag_dn, ag_no, ag_if, jbr1, jbr2, jc1, jc2, jnul, jld, jsto, jstoL, jst1, jst2, jkill, jinc, jbI, jbL, jbS, juI, jl2i, jcmp, jisR, jisI, jisL, jret, jretv, jfits, jdup, jdup2, jpop, jmm, jcat, Value.category, jinv, jrcv, jthr, jhd, jput, jget, jlen, jald, jast, jaast, jgI, jgL, jgB, jtab, jlku, jacp, vf20, vf21, vf22, vf23, vf24, u2_s, u2_k, u2_i, uc_s, uc_k, uc_c, u2_c, LI0, LI1, LI2, LI3, LI4, LI5, LI6, LI7, LI8, LI9, LI10, LI11, LI12, LI13, LI14, LI15, LI16, LI17, LI18, LI19, LI20, LI21, LI22, LI23, LI24, LI25, LI26, LI27, LI28, LI29, LI30, LI31, LI32, LI33, LI34, LI35, LI36, LI37, LI40, LI42, LI43, LI45, LI48, LI60, LI61, LI64, LI80, LI300, LI400, LI1000, LI2000, LI2001, LI2047, LI2048, LI100000, LI1000000, LI38, LI39, LI41, LI44, LI46, LI47, LI49, LI50, LI51, LI52, LI53, LI54, LI55, LI56, LI57, LI58, LI59, LI62, LI63, LI65, LI66, LI67, LI68, LI69, LI70, LI71, LI72, LI73, LI74, LI75, LI76, LI77, LI78, LI79, LI81, LI82, LI83, LI84, LI85, LI86, LI87, LI88, LI89, LI90, LI91, LI92, LI93, LI94, LI95, LI96, LI97, LI98, LI99, LI100, LI101, LI102, LI103, LI104, LI105, LI106, LI107, LI108, LI109, LI110, LI111, LI112, LI113, LI114, LI115, LI116, LI117, LI118, LI119, LI120, LI121, LI122, LI123, LI124, LI125, LI126, LI127, LI255, LI256, LI999, LI1001, LI1002, LI1600, LI4096, LI1000001, LI2042, LM, nI_clamp, nI_pos', nI_lt, nI_nlt, nI_le, nI_ge, nI_ne, nI_add, nI_sub, mI_lt, mI_le, mI_nlt, mI_nle, mI_ne, mI_ne', mI_nem, nz, ho8, hi', e281y]
        · have n3 : ¬ I 289 (k / 2) = I 277 i := fun z => c3 (hne.mp z)
          refine bad (by rw [hE, if_neg (fun z => c3 z.2.2)]) ?_
          rw [w1, r284_31]
          by_cases hev : k % 2 = 0
          · rw [hev] at a1 ekd
            simp (disch := omega) [r284_32, r284_33, r284_34, r284_35, r284_38, r284_39, r284_40, r284_43, r284_44, r284_47, r284_48, r284_49, r284_50, r284_51, r284_52, r284_55, r284_56, r284_57, r284_60, r284_61, g241, vf12_61, t241_61, g279, p279, qa281, qo281, qa283, qo283, qa282, qo282, vf12_57, t241_57, g275, p275, vf12_91, t241_91, g289, p289, vf12_59, t241_59, g277, p277, vf12_90, t241_90, g288, p288, vf12_89, t241_89, g287, p287, vf12_95, t241_95, g293, p293, vf12_62, t241_62, g280, p280, vf12_98, t241_98, g296, p296, List.getElem?_cons_zero, List.getElem?_cons_succ, List.length_cons, List.length_nil, ag_nx, ag_dn, ag_no, ag_if, jbr1, jbr2, jc1, jc2, jnul, jld, jsto, jstoL, jst1, jst2, jkill, jinc, jbI, jbL, jbS, juI, jl2i, jcmp, jisR, jisI, jisL, jret, jretv, jfits, jdup, jdup2, jpop, jmm, jcat, Value.category, jinv, jrcv, jthr, jhd, jput, jget, jlen, jald, jast, jaast, jgI, jgL, jgB, jtab, jlku, jacp, vf20, vf21, vf22, vf23, vf24, u2_s, u2_k, u2_i, uc_s, uc_k, uc_c, u2_c, LI0, LI1, LI2, LI3, LI4, LI5, LI6, LI7, LI8, LI9, LI10, LI11, LI12, LI13, LI14, LI15, LI16, LI17, LI18, LI19, LI20, LI21, LI22, LI23, LI24, LI25, LI26, LI27, LI28, LI29, LI30, LI31, LI32, LI33, LI34, LI35, LI36, LI37, LI40, LI42, LI43, LI45, LI48, LI60, LI61, LI64, LI80, LI300, LI400, LI1000, LI2000, LI2001, LI2047, LI2048, LI100000, LI1000000, LI38, LI39, LI41, LI44, LI46, LI47, LI49, LI50, LI51, LI52, LI53, LI54, LI55, LI56, LI57, LI58, LI59, LI62, LI63, LI65, LI66, LI67, LI68, LI69, LI70, LI71, LI72, LI73, LI74, LI75, LI76, LI77, LI78, LI79, LI81, LI82, LI83, LI84, LI85, LI86, LI87, LI88, LI89, LI90, LI91, LI92, LI93, LI94, LI95, LI96, LI97, LI98, LI99, LI100, LI101, LI102, LI103, LI104, LI105, LI106, LI107, LI108, LI109, LI110, LI111, LI112, LI113, LI114, LI115, LI116, LI117, LI118, LI119, LI120, LI121, LI122, LI123, LI124, LI125, LI126, LI127, LI255, LI256, LI999, LI1001, LI1002, LI1600, LI4096, LI1000001, LI2042, LM, nI_clamp, nI_pos', nI_lt, nI_nlt, nI_le, nI_ge, nI_ne, nI_add, nI_sub, mI_lt, mI_le, mI_nlt, mI_nle, mI_ne, mI_ne', mI_nem, jdiv, nI_mul, s1, a1, ekd.symm, n3, k40, hi']
          · rw [show k % 2 = 1 by omega] at a1 ekd
            simp (disch := omega) [r284_32, r284_33, r284_34, r284_35, r284_38, r284_39, r284_40, r284_43, r284_44, r284_47, r284_48, r284_49, r284_50, r284_51, r284_52, r284_55, r284_56, r284_57, r284_60, r284_61, g241, vf12_61, t241_61, g279, p279, qa281, qo281, qa283, qo283, qa282, qo282, vf12_57, t241_57, g275, p275, vf12_91, t241_91, g289, p289, vf12_59, t241_59, g277, p277, vf12_90, t241_90, g288, p288, vf12_89, t241_89, g287, p287, vf12_95, t241_95, g293, p293, vf12_62, t241_62, g280, p280, vf12_98, t241_98, g296, p296, List.getElem?_cons_zero, List.getElem?_cons_succ, List.length_cons, List.length_nil, ag_nx, ag_dn, ag_no, ag_if, jbr1, jbr2, jc1, jc2, jnul, jld, jsto, jstoL, jst1, jst2, jkill, jinc, jbI, jbL, jbS, juI, jl2i, jcmp, jisR, jisI, jisL, jret, jretv, jfits, jdup, jdup2, jpop, jmm, jcat, Value.category, jinv, jrcv, jthr, jhd, jput, jget, jlen, jald, jast, jaast, jgI, jgL, jgB, jtab, jlku, jacp, vf20, vf21, vf22, vf23, vf24, u2_s, u2_k, u2_i, uc_s, uc_k, uc_c, u2_c, LI0, LI1, LI2, LI3, LI4, LI5, LI6, LI7, LI8, LI9, LI10, LI11, LI12, LI13, LI14, LI15, LI16, LI17, LI18, LI19, LI20, LI21, LI22, LI23, LI24, LI25, LI26, LI27, LI28, LI29, LI30, LI31, LI32, LI33, LI34, LI35, LI36, LI37, LI40, LI42, LI43, LI45, LI48, LI60, LI61, LI64, LI80, LI300, LI400, LI1000, LI2000, LI2001, LI2047, LI2048, LI100000, LI1000000, LI38, LI39, LI41, LI44, LI46, LI47, LI49, LI50, LI51, LI52, LI53, LI54, LI55, LI56, LI57, LI58, LI59, LI62, LI63, LI65, LI66, LI67, LI68, LI69, LI70, LI71, LI72, LI73, LI74, LI75, LI76, LI77, LI78, LI79, LI81, LI82, LI83, LI84, LI85, LI86, LI87, LI88, LI89, LI90, LI91, LI92, LI93, LI94, LI95, LI96, LI97, LI98, LI99, LI100, LI101, LI102, LI103, LI104, LI105, LI106, LI107, LI108, LI109, LI110, LI111, LI112, LI113, LI114, LI115, LI116, LI117, LI118, LI119, LI120, LI121, LI122, LI123, LI124, LI125, LI126, LI127, LI255, LI256, LI999, LI1001, LI1002, LI1600, LI4096, LI1000001, LI2042, LM, nI_clamp, nI_pos', nI_lt, nI_nlt, nI_le, nI_ge, nI_ne, nI_add, nI_sub, mI_lt, mI_le, mI_nlt, mI_nle, mI_ne, mI_ne', mI_nem, jdiv, nI_mul, s1, a1, ekd.symm, n3, k40, hi']
      · have n1 : ¬ nI (k % 2) = I 275 i := fun z => c1 (z.trans e75)
        refine bad (by rw [hE, if_neg (fun z => c1 z.1)]) ?_
        rw [w1, r284_31]
        simp (disch := omega) [r284_32, r284_33, r284_34, r284_35, r284_38, r284_39, r284_40, r284_60, r284_61, g241, vf12_61, t241_61, g279, p279, qa281, qo281, qa283, qo283, qa282, qo282, vf12_57, t241_57, g275, p275, vf12_91, t241_91, g289, p289, vf12_59, t241_59, g277, p277, vf12_90, t241_90, g288, p288, vf12_89, t241_89, g287, p287, vf12_95, t241_95, g293, p293, vf12_62, t241_62, g280, p280, vf12_98, t241_98, g296, p296, List.getElem?_cons_zero, List.getElem?_cons_succ, List.length_cons, List.length_nil, ag_nx, ag_dn, ag_no, ag_if, jbr1, jbr2, jc1, jc2, jnul, jld, jsto, jstoL, jst1, jst2, jkill, jinc, jbI, jbL, jbS, juI, jl2i, jcmp, jisR, jisI, jisL, jret, jretv, jfits, jdup, jdup2, jpop, jmm, jcat, Value.category, jinv, jrcv, jthr, jhd, jput, jget, jlen, jald, jast, jaast, jgI, jgL, jgB, jtab, jlku, jacp, vf20, vf21, vf22, vf23, vf24, u2_s, u2_k, u2_i, uc_s, uc_k, uc_c, u2_c, LI0, LI1, LI2, LI3, LI4, LI5, LI6, LI7, LI8, LI9, LI10, LI11, LI12, LI13, LI14, LI15, LI16, LI17, LI18, LI19, LI20, LI21, LI22, LI23, LI24, LI25, LI26, LI27, LI28, LI29, LI30, LI31, LI32, LI33, LI34, LI35, LI36, LI37, LI40, LI42, LI43, LI45, LI48, LI60, LI61, LI64, LI80, LI300, LI400, LI1000, LI2000, LI2001, LI2047, LI2048, LI100000, LI1000000, LI38, LI39, LI41, LI44, LI46, LI47, LI49, LI50, LI51, LI52, LI53, LI54, LI55, LI56, LI57, LI58, LI59, LI62, LI63, LI65, LI66, LI67, LI68, LI69, LI70, LI71, LI72, LI73, LI74, LI75, LI76, LI77, LI78, LI79, LI81, LI82, LI83, LI84, LI85, LI86, LI87, LI88, LI89, LI90, LI91, LI92, LI93, LI94, LI95, LI96, LI97, LI98, LI99, LI100, LI101, LI102, LI103, LI104, LI105, LI106, LI107, LI108, LI109, LI110, LI111, LI112, LI113, LI114, LI115, LI116, LI117, LI118, LI119, LI120, LI121, LI122, LI123, LI124, LI125, LI126, LI127, LI255, LI256, LI999, LI1001, LI1002, LI1600, LI4096, LI1000001, LI2042, LM, nI_clamp, nI_pos', nI_lt, nI_nlt, nI_le, nI_ge, nI_ne, nI_add, nI_sub, mI_lt, mI_le, mI_nlt, mI_nle, mI_ne, mI_ne', mI_nem, jdiv, nI_mul, s1, a1, n1, hi']
end FTR
