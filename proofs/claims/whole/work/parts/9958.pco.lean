/-! the class links names -/
def lkv (k : Nat) : Nat := if k = 1 ∨ k = 13 then 88 else if k = 19 then 122 else if k = 22 then 155 else if k = 23 then 180 else 214
theorem lkv_e : ∀ k : Nat, k < 32 → (Op.lookupswitch.offset [(1, 88), (13, 88), (19, 122), (22, 155), (23, 180)] 214 (k : Int)).toNat = lkv k := by decide +kernel
theorem sw69 {k : Nat} {L : jL} {st : List Value} {σ : jS} (hk : k < 32) : jlku 214 #[(1, 88), (13, 88), (19, 122), (22, 155), (23, 180)] L (.int (nI k) :: st) σ = jnx (lkv k) L st σ := by
  show jnx (Op.lookupswitch.offset [(1, 88), (13, 88), (19, 122), (22, 155), (23, 180)] 214 (nI k).toInt).toNat L st σ = _
  rw [nI_toInt (by omega), lkv_e k hk]
def mnO (o p : Option Nat) : Option Nat := match o, p with | none, p => p | some x, none => some x | some x, some y => some (min x y)
section LKD
variable (E : Nat → Nat → Bool) (F : List qPr)
def fdVar (pr t : Nat) : Option Nat := match F[pr]? with | some c => c.2.1.findIdx? (fun x => E x t) | none => none
def fdPro (t : Nat) : Option Nat := F.findIdx? (fun c => E c.1 t)
def fdSta (pr t : Nat) : Option Nat := match F[pr]? with | some c => c.2.2.2.findIdx? (fun s => E s.1 t) | none => none
def tkO (a : oA) : Nat := match a with | .inr t => t | .inl _ => 0
def prO (a : oA) : Nat := match a with | .inl z => ix z | .inr _ => 0
/-- what a name is looked up as -/
def lkO (x : oT) : Option (Option Nat) := if x.1 = 1 ∨ x.1 = 13 then some (fdVar E F (prO x.2.2.1) (tkO x.2.1)) else if x.1 = 19 then some (fdPro E F (tkO x.2.2.1)) else if x.1 = 22 then some (fdPro E F (tkO x.2.1)) else if x.1 = 23 then some (fdSta E F (prO x.2.2.1) (tkO x.2.1)) else none
/-- a name that is not there -/
def ukO (x : oT) : Option Nat := match lkO E F x with | some none => some x.2.2.2 | _ => none
def lkA (V : Nat → Int32) (x : oT) : Int32 := if x.1 = 19 then aV V x.2.1 else match lkO E F x with | some o => inO o | none => aV V x.2.1
def lkE (V : Nat → Int32) (x : oT) : Int32 := if x.1 = 19 then (match lkO E F x with | some o => inO o | none => aV V x.2.2.1) else aV V x.2.2.1
/-- code that can be linked -/
def lkW (x : oT) : Prop := x.1 < 32 ∧ (x.1 = 1 ∨ x.1 = 13 ∨ x.1 = 23 → ∃ t pr, x.2.1 = .inr t ∧ x.2.2.1 = .inl (nI pr) ∧ pr < F.length) ∧ (x.1 = 22 → ∃ t, x.2.1 = .inr t) ∧ (x.1 = 19 → ∃ t, x.2.2.1 = .inr t)
end LKD
section CLK
variable {A : Nat → Nat} {d b n P m p : Nat} {h : Nat → Option jC} {X : jXX} {J : Nat → Nat → Int64} {R : Nat → Nat → Nat} {K : Nat → Nat} {V : Nat → Int32}
/-- first i cells are linked -/
def lkS (V : Nat → Int32) (P : Nat) (F : List qPr) (C : List oT) (I : Nat → Nat → Int32) (i : Nat) : Prop := ∀ k x, C[k]? = some x → I (P + 5) k = nI x.1 ∧ I (P + 8) k = nI x.2.2.2 ∧ (k < i → I (P + 6) k = lkA (eqV V) F V x ∧ I (P + 7) k = lkE (eqV V) F V x) ∧ (i ≤ k → I (P + 6) k = aV V x.2.1 ∧ I (P + 7) k = aV V x.2.2.1)
theorem c70 (hP : isP P) (hR2 : R 56 2 = P + 4) {I : Nat → Nat → Int32} {o u : Option Nat} {i t : Nat} (ho : ∀ x, o = some x → x < 2 ^ 31) (hi : i < 2048) (ht : I (P + 8) i = nI t) (ht2 : t < 2 ^ 31) (hu : I 56 6 = exI u) (hu2 : ∀ x, u = some x → x < 2 ^ 31) : jcall A jcode (d + 2) 70 [.ref (b + 56), .int (nI i), .int (inO o)] (jH h b X I J R n) = some (.inl (some (.int (inO o))), jH h b X (u2 I 56 6 (exI (mnO u (if o = none then some t else none)))) J R n) := by
  have hlt := inO_lt ho
  cases o with
  | none =>
    have := hlt.mpr rfl
    have e42 := c42m (d := d) (A := A) (b := b) (h := h) (X := X) (J := J) (R := R) (n := n) (I := I) (t := t) hu
    have e0 : (if exI u = mI 1 ∨ nI t < exI u then nI t else exI u) = exI (mnO u (if (none : Option Nat) = none then some t else none)) := by
      cases u with
      | none => simp [exI, mnO]
      | some x =>
        have hx := hu2 x rfl
        show (if nI x = mI 1 ∨ nI t < nI x then nI t else nI x) = nI (min x t)
        by_cases hxt : t < x
        · rw [if_pos (Or.inr (nI_lt hxt (by omega))), show min x t = t by omega]
        · rw [if_neg (fun z => by
            rcases z with z | z
            · exact absurd z (mI_ne (by omega) (by omega) (by omega))
            · exact absurd z (nI_nlt (by omega) (by omega))), show min x t = x by omega]
    rw [e0] at e42
    simp (disch := omega) [je70, r70_0, r70_1, r70_4, r70_5, r70_6, r70_9, r70_12, r70_13, r70_14, r70_17, r70_18, g56, vf4_2, t56_2, gP4 hP, vf1_3, tP4_3 hP, gP8 hP, qa42, qo42, List.getElem?_cons_zero, List.getElem?_cons_succ, List.length_cons, List.length_nil, ag_nx, ag_dn, ag_no, ag_if, jbr1, jbr2, jc1, jc2, jnul, jld, jsto, jstoL, jst1, jst2, jkill, jinc, jbI, jbL, jbS, juI, jl2i, jcmp, jisR, jisI, jisL, jret, jretv, jfits, jdup, jdup2, jpop, jmm, jcat, Value.category, jinv, jrcv, jthr, jhd, jput, jget, jlen, jald, jast, jaast, jgI, jgL, jgB, jtab, jlku, jacp, vf20, vf21, vf22, vf23, vf24, u2_s, u2_k, u2_i, uc_s, uc_k, uc_c, u2_c, LI0, LI1, LI2, LI3, LI4, LI5, LI6, LI7, LI8, LI9, LI10, LI11, LI12, LI13, LI14, LI15, LI16, LI17, LI18, LI19, LI20, LI21, LI22, LI23, LI24, LI25, LI26, LI27, LI28, LI29, LI30, LI31, LI32, LI33, LI34, LI35, LI36, LI37, LI40, LI42, LI43, LI45, LI48, LI60, LI61, LI64, LI80, LI300, LI400, LI1000, LI2000, LI2001, LI2047, LI2048, LI100000, LI1000000, LI38, LI39, LI41, LI44, LI46, LI47, LI49, LI50, LI51, LI52, LI53, LI54, LI55, LI56, LI57, LI58, LI59, LI62, LI63, LI65, LI66, LI67, LI68, LI69, LI70, LI71, LI72, LI73, LI74, LI75, LI76, LI77, LI78, LI79, LI81, LI82, LI83, LI84, LI85, LI86, LI87, LI88, LI89, LI90, LI91, LI92, LI93, LI94, LI95, LI96, LI97, LI98, LI99, LI100, LI101, LI102, LI103, LI104, LI105, LI106, LI107, LI108, LI109, LI110, LI111, LI112, LI113, LI114, LI115, LI116, LI117, LI118, LI119, LI120, LI121, LI122, LI123, LI124, LI125, LI126, LI127, LI255, LI256, LI999, LI1001, LI1002, LI1600, LI4096, LI1000001, LI2042, LM, nI_clamp, nI_pos', nI_lt, nI_nlt, nI_le, nI_ge, nI_ne, nI_add, nI_sub, mI_lt, mI_le, mI_nlt, mI_nle, mI_ne, mI_ne', mI_nem, hR2, hi, ht, this, Int32.not_le.mpr this, e42]
  | some y =>
    have h1 : ¬ inO (some y) < nI 0 := fun z => by cases hlt.mp z
    have e0 : mnO u (if (some y : Option Nat) = none then some t else none) = u := by cases u <;> simp [mnO]
    rw [e0, u2_same hu]
    simp (disch := omega) [je70, r70_0, r70_1, r70_4, r70_5, r70_6, r70_9, r70_12, r70_13, r70_14, r70_17, r70_18, g56, vf4_2, t56_2, gP4 hP, vf1_3, tP4_3 hP, gP8 hP, qa42, qo42, List.getElem?_cons_zero, List.getElem?_cons_succ, List.length_cons, List.length_nil, ag_nx, ag_dn, ag_no, ag_if, jbr1, jbr2, jc1, jc2, jnul, jld, jsto, jstoL, jst1, jst2, jkill, jinc, jbI, jbL, jbS, juI, jl2i, jcmp, jisR, jisI, jisL, jret, jretv, jfits, jdup, jdup2, jpop, jmm, jcat, Value.category, jinv, jrcv, jthr, jhd, jput, jget, jlen, jald, jast, jaast, jgI, jgL, jgB, jtab, jlku, jacp, vf20, vf21, vf22, vf23, vf24, u2_s, u2_k, u2_i, uc_s, uc_k, uc_c, u2_c, LI0, LI1, LI2, LI3, LI4, LI5, LI6, LI7, LI8, LI9, LI10, LI11, LI12, LI13, LI14, LI15, LI16, LI17, LI18, LI19, LI20, LI21, LI22, LI23, LI24, LI25, LI26, LI27, LI28, LI29, LI30, LI31, LI32, LI33, LI34, LI35, LI36, LI37, LI40, LI42, LI43, LI45, LI48, LI60, LI61, LI64, LI80, LI300, LI400, LI1000, LI2000, LI2001, LI2047, LI2048, LI100000, LI1000000, LI38, LI39, LI41, LI44, LI46, LI47, LI49, LI50, LI51, LI52, LI53, LI54, LI55, LI56, LI57, LI58, LI59, LI62, LI63, LI65, LI66, LI67, LI68, LI69, LI70, LI71, LI72, LI73, LI74, LI75, LI76, LI77, LI78, LI79, LI81, LI82, LI83, LI84, LI85, LI86, LI87, LI88, LI89, LI90, LI91, LI92, LI93, LI94, LI95, LI96, LI97, LI98, LI99, LI100, LI101, LI102, LI103, LI104, LI105, LI106, LI107, LI108, LI109, LI110, LI111, LI112, LI113, LI114, LI115, LI116, LI117, LI118, LI119, LI120, LI121, LI122, LI123, LI124, LI125, LI126, LI127, LI255, LI256, LI999, LI1001, LI1002, LI1600, LI4096, LI1000001, LI2042, LM, nI_clamp, nI_pos', nI_lt, nI_nlt, nI_le, nI_ge, nI_ne, nI_add, nI_sub, mI_lt, mI_le, mI_nlt, mI_nle, mI_ne, mI_ne', mI_nem, h1, Int32.not_lt.mp h1]
theorem idx_lt {β : Type} {f : β → Bool} {l : List β} {x : Nat} (h : l.findIdx? f = some x) : x < l.length := by
  rw [List.findIdx?_eq_some_iff_findIdx_eq] at h
  exact h.1
theorem c69l (hP : isP P) (hR1 : R 56 1 = P) (hR2 : R 56 2 = P + 4) {F : List qPr} {C : List oT} (hC : C.length ≤ 2000) (hw : ∀ x, x ∈ C → lkW F x ∧ x.2.2.2 < 2 ^ 31) : ∀ (r i : Nat) (I : Nat → Nat → Int32) (u : Option Nat) (c2 : Option Value), i + r = C.length → mS K V P I F → I P 3 = nI F.length → I (P + 4) 4 = nI C.length → lkS V P F C I i → I 56 6 = exI u → (∀ x, u = some x → x < 2 ^ 31) → ∃ I', M69 A (d + 2) 2 [some (.ref (b + 56)), some (.int (nI i)), c2] [] (jH h b X I J R n) = some (.inl none, jH h b X I' J R n) ∧ lkS V P F C I' C.length ∧ I' 56 6 = exI ((C.drop i).foldl (fun u x => mnO u (ukO (eqV V) F x)) u) ∧ ∀ c i, ¬ (c = 56 ∧ i = 6) → ¬ (c = P + 6 ∨ c = P + 7) → I' c i = I c i := by
  have hpp := isP_e hP
  intro r
  induction r with
  | zero =>
    intro i I u c2 hi hm h3 h4 hS hu hu2
    have : i = C.length := by omega
    subst this
    refine ⟨I, ?_, hS, ?_, fun _ _ _ _ => rfl⟩
    · rw [r69_2]
      simp (disch := omega) [r69_0, r69_1, r69_3, r69_4, r69_7, r69_10, r69_13, r69_14, r69_17, r69_20, r69_21, r69_24, r69_27, r69_28, r69_29, r69_30, r69_31, r69_34, r69_37, r69_38, r69_88, r69_89, r69_92, r69_95, r69_96, r69_97, r69_98, r69_99, r69_102, r69_103, r69_106, r69_109, r69_110, r69_111, r69_112, r69_115, r69_118, r69_119, r69_122, r69_123, r69_126, r69_129, r69_130, r69_131, r69_132, r69_133, r69_136, r69_137, r69_140, r69_143, r69_144, r69_145, r69_148, r69_151, r69_152, r69_155, r69_156, r69_159, r69_162, r69_163, r69_164, r69_165, r69_166, r69_169, r69_170, r69_173, r69_176, r69_177, r69_180, r69_181, r69_184, r69_187, r69_188, r69_189, r69_190, r69_191, r69_194, r69_195, r69_198, r69_201, r69_202, r69_203, r69_204, r69_207, r69_210, r69_211, r69_214, r69_217, r69_220, g56, vf4_2, t56_2, gP4 hP, vf1_4, vf1_1, tP4_1 hP, gP6 hP, pP6 hP, vf1_0, tP4_0 hP, gP5 hP, pP5 hP, vf4_1, t56_1, vf1_2, tP4_2 hP, gP7 hP, pP7 hP, qa74, qo74, gP0 hP, qa70, qo70, qa73, qo73, qa75, qo75, List.getElem?_cons_zero, List.getElem?_cons_succ, List.length_cons, List.length_nil, ag_nx, ag_dn, ag_no, ag_if, jbr1, jbr2, jc1, jc2, jnul, jld, jsto, jstoL, jst1, jst2, jkill, jinc, jbI, jbL, jbS, juI, jl2i, jcmp, jisR, jisI, jisL, jret, jretv, jfits, jdup, jdup2, jpop, jmm, jcat, Value.category, jinv, jrcv, jthr, jhd, jput, jget, jlen, jald, jast, jaast, jgI, jgL, jgB, jacp, vf20, vf21, vf22, vf23, vf24, u2_s, u2_k, u2_i, uc_s, uc_k, uc_c, u2_c, LI0, LI1, LI2, LI3, LI4, LI5, LI6, LI7, LI8, LI9, LI10, LI11, LI12, LI13, LI14, LI15, LI16, LI17, LI18, LI19, LI20, LI21, LI22, LI23, LI24, LI25, LI26, LI27, LI28, LI29, LI30, LI31, LI32, LI33, LI34, LI35, LI36, LI37, LI40, LI42, LI43, LI45, LI48, LI60, LI61, LI64, LI80, LI300, LI400, LI1000, LI2000, LI2001, LI2047, LI2048, LI100000, LI1000000, LI38, LI39, LI41, LI44, LI46, LI47, LI49, LI50, LI51, LI52, LI53, LI54, LI55, LI56, LI57, LI58, LI59, LI62, LI63, LI65, LI66, LI67, LI68, LI69, LI70, LI71, LI72, LI73, LI74, LI75, LI76, LI77, LI78, LI79, LI81, LI82, LI83, LI84, LI85, LI86, LI87, LI88, LI89, LI90, LI91, LI92, LI93, LI94, LI95, LI96, LI97, LI98, LI99, LI100, LI101, LI102, LI103, LI104, LI105, LI106, LI107, LI108, LI109, LI110, LI111, LI112, LI113, LI114, LI115, LI116, LI117, LI118, LI119, LI120, LI121, LI122, LI123, LI124, LI125, LI126, LI127, LI255, LI256, LI999, LI1001, LI1002, LI1600, LI4096, LI1000001, LI2042, LM, nI_clamp, nI_pos', nI_lt, nI_nlt, nI_le, nI_ge, nI_ne, nI_add, nI_sub, mI_lt, mI_le, mI_nlt, mI_nle, mI_ne, mI_ne', mI_nem, hR2, h4]
    · rw [List.drop_length]; exact hu
  | succ r ih =>
    intro i I u c2 hi hm h3 h4 hS hu hu2
    have hil : i < C.length := by omega
    obtain ⟨x, hx⟩ : ∃ x, C[i]? = some x := ⟨C[i], List.getElem?_eq_getElem hil⟩
    have hxm := List.mem_of_getElem? hx
    have w0 := (hw x hxm).1.1
    have w4 := (hw x hxm).2
    obtain ⟨s1, s2, s3, s4⟩ := hS i x hx
    obtain ⟨s5, s6⟩ := s4 (Nat.le_refl _)
    have e39 := fun L st σ => sw69 (k := x.1) (L := L) (st := st) (σ := σ) w0
    have hdrop : C.drop i = x :: C.drop (i + 1) := by
      rw [List.drop_eq_getElem_cons hil]
      congr 1
      rw [List.getElem?_eq_getElem hil] at hx
      exact Option.some.inj hx
    have GO : ∀ (I2 : Nat → Nat → Int32), (∀ c k, ¬ (c = 56 ∧ k = 6) → ¬ ((c = P + 6 ∨ c = P + 7) ∧ k = i) → I2 c k = I c k) → I2 (P + 6) i = lkA (eqV V) F V x → I2 (P + 7) i = lkE (eqV V) F V x → I2 56 6 = exI (mnO u (ukO (eqV V) F x)) → (∃ c2', M69 A (d + 2) 2 [some (.ref (b + 56)), some (.int (nI i)), c2] [] (jH h b X I J R n) = M69 A (d + 2) 2 [some (.ref (b + 56)), some (.int (nI (i + 1))), c2'] [] (jH h b X I2 J R n)) → ∃ I', M69 A (d + 2) 2 [some (.ref (b + 56)), some (.int (nI i)), c2] [] (jH h b X I J R n) = some (.inl none, jH h b X I' J R n) ∧ lkS V P F C I' C.length ∧ I' 56 6 = exI ((C.drop i).foldl (fun u x => mnO u (ukO (eqV V) F x)) u) ∧ ∀ c i, ¬ (c = 56 ∧ i = 6) → ¬ (c = P + 6 ∨ c = P + 7) → I' c i = I c i := by
      intro I2 f2 g6 g7 gu ⟨c2', e2⟩
      have hS2 : lkS V P F C I2 (i + 1) := by
        intro k y hy
        obtain ⟨y1, y2, y3, y4⟩ := hS k y hy
        refine ⟨by rw [f2 _ _ (by omega) (by omega)]; exact y1, by rw [f2 _ _ (by omega) (by omega)]; exact y2, fun hk => ?_, fun hk => ?_⟩
        · by_cases hki : k = i
          · subst hki
            rw [hx] at hy
            cases hy
            exact ⟨g6, g7⟩
          · rw [f2 _ _ (by omega) (by omega), f2 _ _ (by omega) (by omega)]
            exact y3 (by omega)
        · rw [f2 _ _ (by omega) (by omega), f2 _ _ (by omega) (by omega)]
          exact y4 (by omega)
      have hu3 : ∀ z, mnO u (ukO (eqV V) F x) = some z → z < 2 ^ 31 := by
        intro z hz
        have hk : ∀ z, ukO (eqV V) F x = some z → z < 2 ^ 31 := by
          intro z hz
          unfold ukO at hz
          split at hz
          · cases hz; exact w4
          · cases hz
        cases hu' : u with
        | none => rw [hu'] at hz; exact hk z hz
        | some y =>
          have := hu2 y hu'
          rw [hu'] at hz
          cases hk' : ukO (eqV V) F x with
          | none => rw [hk'] at hz; cases hz; exact this
          | some w =>
            have := hk w hk'
            rw [hk'] at hz
            simp only [mnO] at hz
            cases hz
            omega
      obtain ⟨I', e', q1, q2, q3⟩ := ih (i + 1) I2 _ c2' (by omega) (mS_fr (fun c k b1 b2 => f2 c k (by omega) (by omega)) hm) (by rw [f2 _ _ (by omega) (by omega)]; exact h3) (by rw [f2 _ _ (by omega) (by omega)]; exact h4) hS2 gu hu3
      refine ⟨I', by rw [e2]; exact e', q1, ?_, fun c k b1 b2 => (q3 c k b1 b2).trans (f2 c k b1 (by omega))⟩
      rw [hdrop]
      exact q2
    by_cases o1 : x.1 = 1 ∨ x.1 = 13
    · obtain ⟨t, pr, p1, p2, p3⟩ := (hw x hxm).1.2.1 (by omega)
      have h6 := hm.1
      obtain ⟨c, hc⟩ : ∃ c, F[pr]? = some c := ⟨F[pr], List.getElem?_eq_getElem p3⟩
      have hmp := hm.2.1 pr c hc
      have hml := hmp.2.2.2.1
      have e74 := c74 (d := d + 1) (A := A) (b := b) (h := h) (X := X) (J := J) (R := R) (n := n) (I := I) (p := pr) (x := V t) hP (by omega) hml.1 hml.2.1
      have hfd : fdP (fun i => decide (I (P + 13) (pr * 6 + i) = V t)) c.2.1.length 0 = fdVar (eqV V) F pr t := by
        unfold fdVar
        rw [hc]
        exact fdP_ix (fun i a ha => by rw [(hml.2.2 i a ha).1]; rfl)
      rw [hfd] at e74
      have ho : ∀ y, fdVar (eqV V) F pr t = some y → y < 2 ^ 31 := by
        intro y hy
        unfold fdVar at hy
        rw [hc] at hy
        have := idx_lt hy
        have := hml.2.1
        omega
      have e70 := c70 (d := d) (A := A) (b := b) (h := h) (X := X) (J := J) (R := R) (n := n) (I := I) (o := fdVar (eqV V) F pr t) (u := u) (i := i) (t := x.2.2.2) hP hR2 ho (by omega) s2 w4 hu hu2
      have hlk : lkO (eqV V) F x = some (fdVar (eqV V) F pr t) := by
        unfold lkO
        rw [if_pos o1, p1, p2]
        simp only [prO, tkO]
        rw [show ix (nI pr) = pr from nI_clamp (by omega)]
      have huk : ukO (eqV V) F x = if fdVar (eqV V) F pr t = none then some x.2.2.2 else none := by
        unfold ukO
        rw [hlk]
        cases fdVar (eqV V) F pr t <;> simp
      rw [p1] at s5
      rw [p2] at s6
      simp only [aV] at s5 s6
      refine GO (u2 (u2 I 56 6 (exI (mnO u (if fdVar (eqV V) F pr t = none then some x.2.2.2 else none)))) (P + 6) i (inO (fdVar (eqV V) F pr t))) (fun c k b1 b2 => by simp only [u2_ap]; repeat (rw [if_neg (by omega)])) ?_ ?_ ?_ ⟨some (.int (V t)), ?_⟩
      · rw [u2_s]
        unfold lkA
        rw [if_neg (by omega), hlk]
      · rw [u2_k (by omega), u2_k (by omega), s6]
        unfold lkE
        rw [if_neg (by omega), p2]
        rfl
      · rw [u2_k (by omega), u2_s, huk]
      · rw [show lkv x.1 = 88 by unfold lkv; rw [if_pos o1]] at e39
        rw [r69_2]
        simp (disch := omega) [r69_0, r69_1, r69_3, r69_4, r69_7, r69_10, r69_13, r69_14, r69_17, r69_20, r69_21, r69_24, r69_27, r69_28, r69_29, r69_30, r69_31, r69_34, r69_37, r69_38, r69_39, r69_88, r69_89, r69_92, r69_95, r69_96, r69_97, r69_98, r69_99, r69_102, r69_103, r69_106, r69_109, r69_110, r69_111, r69_112, r69_115, r69_118, r69_119, r69_122, r69_123, r69_126, r69_129, r69_130, r69_131, r69_132, r69_133, r69_136, r69_137, r69_140, r69_143, r69_144, r69_145, r69_148, r69_151, r69_152, r69_155, r69_156, r69_159, r69_162, r69_163, r69_164, r69_165, r69_166, r69_169, r69_170, r69_173, r69_176, r69_177, r69_180, r69_181, r69_184, r69_187, r69_188, r69_189, r69_190, r69_191, r69_194, r69_195, r69_198, r69_201, r69_202, r69_203, r69_204, r69_207, r69_210, r69_211, r69_214, r69_217, r69_220, g56, vf4_2, t56_2, gP4 hP, vf1_4, vf1_1, tP4_1 hP, gP6 hP, pP6 hP, vf1_0, tP4_0 hP, gP5 hP, pP5 hP, vf4_1, t56_1, vf1_2, tP4_2 hP, gP7 hP, pP7 hP, qa74, qo74, gP0 hP, qa70, qo70, qa73, qo73, qa75, qo75, List.getElem?_cons_zero, List.getElem?_cons_succ, List.length_cons, List.length_nil, ag_nx, ag_dn, ag_no, ag_if, jbr1, jbr2, jc1, jc2, jnul, jld, jsto, jstoL, jst1, jst2, jkill, jinc, jbI, jbL, jbS, juI, jl2i, jcmp, jisR, jisI, jisL, jret, jretv, jfits, jdup, jdup2, jpop, jmm, jcat, Value.category, jinv, jrcv, jthr, jhd, jput, jget, jlen, jald, jast, jaast, jgI, jgL, jgB, jacp, vf20, vf21, vf22, vf23, vf24, u2_s, u2_k, u2_i, uc_s, uc_k, uc_c, u2_c, LI0, LI1, LI2, LI3, LI4, LI5, LI6, LI7, LI8, LI9, LI10, LI11, LI12, LI13, LI14, LI15, LI16, LI17, LI18, LI19, LI20, LI21, LI22, LI23, LI24, LI25, LI26, LI27, LI28, LI29, LI30, LI31, LI32, LI33, LI34, LI35, LI36, LI37, LI40, LI42, LI43, LI45, LI48, LI60, LI61, LI64, LI80, LI300, LI400, LI1000, LI2000, LI2001, LI2047, LI2048, LI100000, LI1000000, LI38, LI39, LI41, LI44, LI46, LI47, LI49, LI50, LI51, LI52, LI53, LI54, LI55, LI56, LI57, LI58, LI59, LI62, LI63, LI65, LI66, LI67, LI68, LI69, LI70, LI71, LI72, LI73, LI74, LI75, LI76, LI77, LI78, LI79, LI81, LI82, LI83, LI84, LI85, LI86, LI87, LI88, LI89, LI90, LI91, LI92, LI93, LI94, LI95, LI96, LI97, LI98, LI99, LI100, LI101, LI102, LI103, LI104, LI105, LI106, LI107, LI108, LI109, LI110, LI111, LI112, LI113, LI114, LI115, LI116, LI117, LI118, LI119, LI120, LI121, LI122, LI123, LI124, LI125, LI126, LI127, LI255, LI256, LI999, LI1001, LI1002, LI1600, LI4096, LI1000001, LI2042, LM, nI_clamp, nI_pos', nI_lt, nI_nlt, nI_le, nI_ge, nI_ne, nI_add, nI_sub, mI_lt, mI_le, mI_nlt, mI_nle, mI_ne, mI_ne', mI_nem, hR1, hR2, h4, s1, s5, s6, e39, show i < 2048 by omega, e74, e70]
    by_cases o2 : x.1 = 19
    · obtain ⟨t, p2⟩ := (hw x hxm).1.2.2.2 o2
      have h6 := hm.1
      rw [p2] at s6
      simp only [aV] at s6
      have e73 := c73 (d := d + 1) (A := A) (b := b) (h := h) (X := X) (J := J) (R := R) (n := n) (I := I) (x := V t) hP h3 h6
      have hfd : fdP (fun i => decide (I (P + 9) i = V t)) F.length 0 = fdPro (eqV V) F t := fdP_ix (fun i a ha => by rw [(hm.2.1 i a ha).1]; rfl)
      rw [hfd] at e73
      have ho : ∀ y, fdPro (eqV V) F t = some y → y < 2 ^ 31 := by
        intro y hy
        have := idx_lt hy
        omega
      have e70 := c70 (d := d) (A := A) (b := b) (h := h) (X := X) (J := J) (R := R) (n := n) (I := I) (o := fdPro (eqV V) F t) (u := u) (i := i) (t := x.2.2.2) hP hR2 ho (by omega) s2 w4 hu hu2
      have hlk : lkO (eqV V) F x = some (fdPro (eqV V) F t) := by
        unfold lkO
        rw [if_neg o1, if_pos o2, p2]
        rfl
      have huk : ukO (eqV V) F x = if fdPro (eqV V) F t = none then some x.2.2.2 else none := by
        unfold ukO
        rw [hlk]
        cases fdPro (eqV V) F t <;> simp
      refine GO (u2 (u2 I 56 6 (exI (mnO u (if fdPro (eqV V) F t = none then some x.2.2.2 else none)))) (P + 7) i (inO (fdPro (eqV V) F t))) (fun c k b1 b2 => by simp only [u2_ap]; repeat (rw [if_neg (by omega)])) ?_ ?_ ?_ ⟨some (.int (aV V x.2.1)), ?_⟩
      · rw [u2_k (by omega), u2_k (by omega), s5]
        unfold lkA
        rw [if_pos o2]
      · rw [u2_s]
        unfold lkE
        rw [if_pos o2, hlk]
      · rw [u2_k (by omega), u2_s, huk]
      · rw [show lkv x.1 = 122 by unfold lkv; rw [if_neg o1, if_pos o2]] at e39
        rw [r69_2]
        simp (disch := omega) [r69_0, r69_1, r69_3, r69_4, r69_7, r69_10, r69_13, r69_14, r69_17, r69_20, r69_21, r69_24, r69_27, r69_28, r69_29, r69_30, r69_31, r69_34, r69_37, r69_38, r69_39, r69_88, r69_89, r69_92, r69_95, r69_96, r69_97, r69_98, r69_99, r69_102, r69_103, r69_106, r69_109, r69_110, r69_111, r69_112, r69_115, r69_118, r69_119, r69_122, r69_123, r69_126, r69_129, r69_130, r69_131, r69_132, r69_133, r69_136, r69_137, r69_140, r69_143, r69_144, r69_145, r69_148, r69_151, r69_152, r69_155, r69_156, r69_159, r69_162, r69_163, r69_164, r69_165, r69_166, r69_169, r69_170, r69_173, r69_176, r69_177, r69_180, r69_181, r69_184, r69_187, r69_188, r69_189, r69_190, r69_191, r69_194, r69_195, r69_198, r69_201, r69_202, r69_203, r69_204, r69_207, r69_210, r69_211, r69_214, r69_217, r69_220, g56, vf4_2, t56_2, gP4 hP, vf1_4, vf1_1, tP4_1 hP, gP6 hP, pP6 hP, vf1_0, tP4_0 hP, gP5 hP, pP5 hP, vf4_1, t56_1, vf1_2, tP4_2 hP, gP7 hP, pP7 hP, qa74, qo74, gP0 hP, qa70, qo70, qa73, qo73, qa75, qo75, List.getElem?_cons_zero, List.getElem?_cons_succ, List.length_cons, List.length_nil, ag_nx, ag_dn, ag_no, ag_if, jbr1, jbr2, jc1, jc2, jnul, jld, jsto, jstoL, jst1, jst2, jkill, jinc, jbI, jbL, jbS, juI, jl2i, jcmp, jisR, jisI, jisL, jret, jretv, jfits, jdup, jdup2, jpop, jmm, jcat, Value.category, jinv, jrcv, jthr, jhd, jput, jget, jlen, jald, jast, jaast, jgI, jgL, jgB, jacp, vf20, vf21, vf22, vf23, vf24, u2_s, u2_k, u2_i, uc_s, uc_k, uc_c, u2_c, LI0, LI1, LI2, LI3, LI4, LI5, LI6, LI7, LI8, LI9, LI10, LI11, LI12, LI13, LI14, LI15, LI16, LI17, LI18, LI19, LI20, LI21, LI22, LI23, LI24, LI25, LI26, LI27, LI28, LI29, LI30, LI31, LI32, LI33, LI34, LI35, LI36, LI37, LI40, LI42, LI43, LI45, LI48, LI60, LI61, LI64, LI80, LI300, LI400, LI1000, LI2000, LI2001, LI2047, LI2048, LI100000, LI1000000, LI38, LI39, LI41, LI44, LI46, LI47, LI49, LI50, LI51, LI52, LI53, LI54, LI55, LI56, LI57, LI58, LI59, LI62, LI63, LI65, LI66, LI67, LI68, LI69, LI70, LI71, LI72, LI73, LI74, LI75, LI76, LI77, LI78, LI79, LI81, LI82, LI83, LI84, LI85, LI86, LI87, LI88, LI89, LI90, LI91, LI92, LI93, LI94, LI95, LI96, LI97, LI98, LI99, LI100, LI101, LI102, LI103, LI104, LI105, LI106, LI107, LI108, LI109, LI110, LI111, LI112, LI113, LI114, LI115, LI116, LI117, LI118, LI119, LI120, LI121, LI122, LI123, LI124, LI125, LI126, LI127, LI255, LI256, LI999, LI1001, LI1002, LI1600, LI4096, LI1000001, LI2042, LM, nI_clamp, nI_pos', nI_lt, nI_nlt, nI_le, nI_ge, nI_ne, nI_add, nI_sub, mI_lt, mI_le, mI_nlt, mI_nle, mI_ne, mI_ne', mI_nem, hR1, hR2, h4, s1, s5, s6, e39, show i < 2048 by omega, e73, e70]
    by_cases o3 : x.1 = 22
    · obtain ⟨t, p1⟩ := (hw x hxm).1.2.2.1 o3
      have h6 := hm.1
      rw [p1] at s5
      simp only [aV] at s5
      have e73 := c73 (d := d + 1) (A := A) (b := b) (h := h) (X := X) (J := J) (R := R) (n := n) (I := I) (x := V t) hP h3 h6
      have hfd : fdP (fun i => decide (I (P + 9) i = V t)) F.length 0 = fdPro (eqV V) F t := fdP_ix (fun i a ha => by rw [(hm.2.1 i a ha).1]; rfl)
      rw [hfd] at e73
      have ho : ∀ y, fdPro (eqV V) F t = some y → y < 2 ^ 31 := by
        intro y hy
        have := idx_lt hy
        omega
      have e70 := c70 (d := d) (A := A) (b := b) (h := h) (X := X) (J := J) (R := R) (n := n) (I := I) (o := fdPro (eqV V) F t) (u := u) (i := i) (t := x.2.2.2) hP hR2 ho (by omega) s2 w4 hu hu2
      have hlk : lkO (eqV V) F x = some (fdPro (eqV V) F t) := by
        unfold lkO
        rw [if_neg o1, if_neg o2, if_pos o3, p1]
        rfl
      have huk : ukO (eqV V) F x = if fdPro (eqV V) F t = none then some x.2.2.2 else none := by
        unfold ukO
        rw [hlk]
        cases fdPro (eqV V) F t <;> simp
      refine GO (u2 (u2 I 56 6 (exI (mnO u (if fdPro (eqV V) F t = none then some x.2.2.2 else none)))) (P + 6) i (inO (fdPro (eqV V) F t))) (fun c k b1 b2 => by simp only [u2_ap]; repeat (rw [if_neg (by omega)])) ?_ ?_ ?_ ⟨some (.int (V t)), ?_⟩
      · rw [u2_s]
        unfold lkA
        rw [if_neg o2, hlk]
      · rw [u2_k (by omega), u2_k (by omega), s6]
        unfold lkE
        rw [if_neg o2]
      · rw [u2_k (by omega), u2_s, huk]
      · rw [show lkv x.1 = 155 by unfold lkv; rw [if_neg o1, if_neg o2, if_pos o3]] at e39
        rw [r69_2]
        simp (disch := omega) [r69_0, r69_1, r69_3, r69_4, r69_7, r69_10, r69_13, r69_14, r69_17, r69_20, r69_21, r69_24, r69_27, r69_28, r69_29, r69_30, r69_31, r69_34, r69_37, r69_38, r69_39, r69_88, r69_89, r69_92, r69_95, r69_96, r69_97, r69_98, r69_99, r69_102, r69_103, r69_106, r69_109, r69_110, r69_111, r69_112, r69_115, r69_118, r69_119, r69_122, r69_123, r69_126, r69_129, r69_130, r69_131, r69_132, r69_133, r69_136, r69_137, r69_140, r69_143, r69_144, r69_145, r69_148, r69_151, r69_152, r69_155, r69_156, r69_159, r69_162, r69_163, r69_164, r69_165, r69_166, r69_169, r69_170, r69_173, r69_176, r69_177, r69_180, r69_181, r69_184, r69_187, r69_188, r69_189, r69_190, r69_191, r69_194, r69_195, r69_198, r69_201, r69_202, r69_203, r69_204, r69_207, r69_210, r69_211, r69_214, r69_217, r69_220, g56, vf4_2, t56_2, gP4 hP, vf1_4, vf1_1, tP4_1 hP, gP6 hP, pP6 hP, vf1_0, tP4_0 hP, gP5 hP, pP5 hP, vf4_1, t56_1, vf1_2, tP4_2 hP, gP7 hP, pP7 hP, qa74, qo74, gP0 hP, qa70, qo70, qa73, qo73, qa75, qo75, List.getElem?_cons_zero, List.getElem?_cons_succ, List.length_cons, List.length_nil, ag_nx, ag_dn, ag_no, ag_if, jbr1, jbr2, jc1, jc2, jnul, jld, jsto, jstoL, jst1, jst2, jkill, jinc, jbI, jbL, jbS, juI, jl2i, jcmp, jisR, jisI, jisL, jret, jretv, jfits, jdup, jdup2, jpop, jmm, jcat, Value.category, jinv, jrcv, jthr, jhd, jput, jget, jlen, jald, jast, jaast, jgI, jgL, jgB, jacp, vf20, vf21, vf22, vf23, vf24, u2_s, u2_k, u2_i, uc_s, uc_k, uc_c, u2_c, LI0, LI1, LI2, LI3, LI4, LI5, LI6, LI7, LI8, LI9, LI10, LI11, LI12, LI13, LI14, LI15, LI16, LI17, LI18, LI19, LI20, LI21, LI22, LI23, LI24, LI25, LI26, LI27, LI28, LI29, LI30, LI31, LI32, LI33, LI34, LI35, LI36, LI37, LI40, LI42, LI43, LI45, LI48, LI60, LI61, LI64, LI80, LI300, LI400, LI1000, LI2000, LI2001, LI2047, LI2048, LI100000, LI1000000, LI38, LI39, LI41, LI44, LI46, LI47, LI49, LI50, LI51, LI52, LI53, LI54, LI55, LI56, LI57, LI58, LI59, LI62, LI63, LI65, LI66, LI67, LI68, LI69, LI70, LI71, LI72, LI73, LI74, LI75, LI76, LI77, LI78, LI79, LI81, LI82, LI83, LI84, LI85, LI86, LI87, LI88, LI89, LI90, LI91, LI92, LI93, LI94, LI95, LI96, LI97, LI98, LI99, LI100, LI101, LI102, LI103, LI104, LI105, LI106, LI107, LI108, LI109, LI110, LI111, LI112, LI113, LI114, LI115, LI116, LI117, LI118, LI119, LI120, LI121, LI122, LI123, LI124, LI125, LI126, LI127, LI255, LI256, LI999, LI1001, LI1002, LI1600, LI4096, LI1000001, LI2042, LM, nI_clamp, nI_pos', nI_lt, nI_nlt, nI_le, nI_ge, nI_ne, nI_add, nI_sub, mI_lt, mI_le, mI_nlt, mI_nle, mI_ne, mI_ne', mI_nem, hR1, hR2, h4, s1, s5, s6, e39, show i < 2048 by omega, e73, e70]
    by_cases o4 : x.1 = 23
    · obtain ⟨t, pr, p1, p2, p3⟩ := (hw x hxm).1.2.1 (by omega)
      have h6 := hm.1
      obtain ⟨c, hc⟩ : ∃ c, F[pr]? = some c := ⟨F[pr], List.getElem?_eq_getElem p3⟩
      obtain ⟨m1, m2, m3, m4, m5, m6, m7, m8⟩ := hm.2.1 pr c hc
      have e75 := c75 (d := d + 1) (A := A) (b := b) (h := h) (X := X) (J := J) (R := R) (n := n) (I := I) (p := pr) (x := V t) hP (by omega) m5 m6
      have hfd : fdP (fun i => decide (I (P + 16) (pr * 8 + i) = V t)) c.2.2.2.length 0 = fdSta (eqV V) F pr t := by
        unfold fdSta
        rw [hc]
        exact fdP_ix (fun i a ha => by rw [(m7 i a ha).1]; rfl)
      rw [hfd] at e75
      have ho : ∀ y, fdSta (eqV V) F pr t = some y → y < 2 ^ 31 := by
        intro y hy
        unfold fdSta at hy
        rw [hc] at hy
        have := idx_lt hy
        omega
      have e70 := c70 (d := d) (A := A) (b := b) (h := h) (X := X) (J := J) (R := R) (n := n) (I := I) (o := fdSta (eqV V) F pr t) (u := u) (i := i) (t := x.2.2.2) hP hR2 ho (by omega) s2 w4 hu hu2
      have hlk : lkO (eqV V) F x = some (fdSta (eqV V) F pr t) := by
        unfold lkO
        rw [if_neg o1, if_neg o2, if_neg o3, if_pos o4, p1, p2]
        simp only [prO, tkO]
        rw [show ix (nI pr) = pr from nI_clamp (by omega)]
      have huk : ukO (eqV V) F x = if fdSta (eqV V) F pr t = none then some x.2.2.2 else none := by
        unfold ukO
        rw [hlk]
        cases fdSta (eqV V) F pr t <;> simp
      rw [p1] at s5
      rw [p2] at s6
      simp only [aV] at s5 s6
      refine GO (u2 (u2 I 56 6 (exI (mnO u (if fdSta (eqV V) F pr t = none then some x.2.2.2 else none)))) (P + 6) i (inO (fdSta (eqV V) F pr t))) (fun c k b1 b2 => by simp only [u2_ap]; repeat (rw [if_neg (by omega)])) ?_ ?_ ?_ ⟨some (.int (V t)), ?_⟩
      · rw [u2_s]
        unfold lkA
        rw [if_neg o2, hlk]
      · rw [u2_k (by omega), u2_k (by omega), s6]
        unfold lkE
        rw [if_neg o2, p2]
        rfl
      · rw [u2_k (by omega), u2_s, huk]
      · rw [show lkv x.1 = 180 by unfold lkv; rw [if_neg o1, if_neg o2, if_neg o3, if_pos o4]] at e39
        rw [r69_2]
        simp (disch := omega) [r69_0, r69_1, r69_3, r69_4, r69_7, r69_10, r69_13, r69_14, r69_17, r69_20, r69_21, r69_24, r69_27, r69_28, r69_29, r69_30, r69_31, r69_34, r69_37, r69_38, r69_39, r69_88, r69_89, r69_92, r69_95, r69_96, r69_97, r69_98, r69_99, r69_102, r69_103, r69_106, r69_109, r69_110, r69_111, r69_112, r69_115, r69_118, r69_119, r69_122, r69_123, r69_126, r69_129, r69_130, r69_131, r69_132, r69_133, r69_136, r69_137, r69_140, r69_143, r69_144, r69_145, r69_148, r69_151, r69_152, r69_155, r69_156, r69_159, r69_162, r69_163, r69_164, r69_165, r69_166, r69_169, r69_170, r69_173, r69_176, r69_177, r69_180, r69_181, r69_184, r69_187, r69_188, r69_189, r69_190, r69_191, r69_194, r69_195, r69_198, r69_201, r69_202, r69_203, r69_204, r69_207, r69_210, r69_211, r69_214, r69_217, r69_220, g56, vf4_2, t56_2, gP4 hP, vf1_4, vf1_1, tP4_1 hP, gP6 hP, pP6 hP, vf1_0, tP4_0 hP, gP5 hP, pP5 hP, vf4_1, t56_1, vf1_2, tP4_2 hP, gP7 hP, pP7 hP, qa74, qo74, gP0 hP, qa70, qo70, qa73, qo73, qa75, qo75, List.getElem?_cons_zero, List.getElem?_cons_succ, List.length_cons, List.length_nil, ag_nx, ag_dn, ag_no, ag_if, jbr1, jbr2, jc1, jc2, jnul, jld, jsto, jstoL, jst1, jst2, jkill, jinc, jbI, jbL, jbS, juI, jl2i, jcmp, jisR, jisI, jisL, jret, jretv, jfits, jdup, jdup2, jpop, jmm, jcat, Value.category, jinv, jrcv, jthr, jhd, jput, jget, jlen, jald, jast, jaast, jgI, jgL, jgB, jacp, vf20, vf21, vf22, vf23, vf24, u2_s, u2_k, u2_i, uc_s, uc_k, uc_c, u2_c, LI0, LI1, LI2, LI3, LI4, LI5, LI6, LI7, LI8, LI9, LI10, LI11, LI12, LI13, LI14, LI15, LI16, LI17, LI18, LI19, LI20, LI21, LI22, LI23, LI24, LI25, LI26, LI27, LI28, LI29, LI30, LI31, LI32, LI33, LI34, LI35, LI36, LI37, LI40, LI42, LI43, LI45, LI48, LI60, LI61, LI64, LI80, LI300, LI400, LI1000, LI2000, LI2001, LI2047, LI2048, LI100000, LI1000000, LI38, LI39, LI41, LI44, LI46, LI47, LI49, LI50, LI51, LI52, LI53, LI54, LI55, LI56, LI57, LI58, LI59, LI62, LI63, LI65, LI66, LI67, LI68, LI69, LI70, LI71, LI72, LI73, LI74, LI75, LI76, LI77, LI78, LI79, LI81, LI82, LI83, LI84, LI85, LI86, LI87, LI88, LI89, LI90, LI91, LI92, LI93, LI94, LI95, LI96, LI97, LI98, LI99, LI100, LI101, LI102, LI103, LI104, LI105, LI106, LI107, LI108, LI109, LI110, LI111, LI112, LI113, LI114, LI115, LI116, LI117, LI118, LI119, LI120, LI121, LI122, LI123, LI124, LI125, LI126, LI127, LI255, LI256, LI999, LI1001, LI1002, LI1600, LI4096, LI1000001, LI2042, LM, nI_clamp, nI_pos', nI_lt, nI_nlt, nI_le, nI_ge, nI_ne, nI_add, nI_sub, mI_lt, mI_le, mI_nlt, mI_nle, mI_ne, mI_ne', mI_nem, hR1, hR2, h4, s1, s5, s6, e39, show i < 2048 by omega, e75, e70]
    · have hlk : lkO (eqV V) F x = none := by
        unfold lkO
        rw [if_neg o1, if_neg o2, if_neg o3, if_neg o4]
      have huk : ukO (eqV V) F x = none := by
        unfold ukO
        rw [hlk]
      refine GO I (fun c k b1 b2 => rfl) ?_ ?_ ?_ ⟨some (.int (aV V x.2.1)), ?_⟩
      · rw [s5]
        unfold lkA
        rw [if_neg o2, hlk]
      · rw [s6]
        unfold lkE
        rw [if_neg o2]
      · rw [hu, huk]
        cases u <;> rfl
      · rw [show lkv x.1 = 214 by unfold lkv; rw [if_neg o1, if_neg o2, if_neg o3, if_neg o4]] at e39
        rw [r69_2]
        simp (disch := omega) [r69_0, r69_1, r69_3, r69_4, r69_7, r69_10, r69_13, r69_14, r69_17, r69_20, r69_21, r69_24, r69_27, r69_28, r69_29, r69_30, r69_31, r69_34, r69_37, r69_38, r69_39, r69_88, r69_89, r69_92, r69_95, r69_96, r69_97, r69_98, r69_99, r69_102, r69_103, r69_106, r69_109, r69_110, r69_111, r69_112, r69_115, r69_118, r69_119, r69_122, r69_123, r69_126, r69_129, r69_130, r69_131, r69_132, r69_133, r69_136, r69_137, r69_140, r69_143, r69_144, r69_145, r69_148, r69_151, r69_152, r69_155, r69_156, r69_159, r69_162, r69_163, r69_164, r69_165, r69_166, r69_169, r69_170, r69_173, r69_176, r69_177, r69_180, r69_181, r69_184, r69_187, r69_188, r69_189, r69_190, r69_191, r69_194, r69_195, r69_198, r69_201, r69_202, r69_203, r69_204, r69_207, r69_210, r69_211, r69_214, r69_217, r69_220, g56, vf4_2, t56_2, gP4 hP, vf1_4, vf1_1, tP4_1 hP, gP6 hP, pP6 hP, vf1_0, tP4_0 hP, gP5 hP, pP5 hP, vf4_1, t56_1, vf1_2, tP4_2 hP, gP7 hP, pP7 hP, qa74, qo74, gP0 hP, qa70, qo70, qa73, qo73, qa75, qo75, List.getElem?_cons_zero, List.getElem?_cons_succ, List.length_cons, List.length_nil, ag_nx, ag_dn, ag_no, ag_if, jbr1, jbr2, jc1, jc2, jnul, jld, jsto, jstoL, jst1, jst2, jkill, jinc, jbI, jbL, jbS, juI, jl2i, jcmp, jisR, jisI, jisL, jret, jretv, jfits, jdup, jdup2, jpop, jmm, jcat, Value.category, jinv, jrcv, jthr, jhd, jput, jget, jlen, jald, jast, jaast, jgI, jgL, jgB, jacp, vf20, vf21, vf22, vf23, vf24, u2_s, u2_k, u2_i, uc_s, uc_k, uc_c, u2_c, LI0, LI1, LI2, LI3, LI4, LI5, LI6, LI7, LI8, LI9, LI10, LI11, LI12, LI13, LI14, LI15, LI16, LI17, LI18, LI19, LI20, LI21, LI22, LI23, LI24, LI25, LI26, LI27, LI28, LI29, LI30, LI31, LI32, LI33, LI34, LI35, LI36, LI37, LI40, LI42, LI43, LI45, LI48, LI60, LI61, LI64, LI80, LI300, LI400, LI1000, LI2000, LI2001, LI2047, LI2048, LI100000, LI1000000, LI38, LI39, LI41, LI44, LI46, LI47, LI49, LI50, LI51, LI52, LI53, LI54, LI55, LI56, LI57, LI58, LI59, LI62, LI63, LI65, LI66, LI67, LI68, LI69, LI70, LI71, LI72, LI73, LI74, LI75, LI76, LI77, LI78, LI79, LI81, LI82, LI83, LI84, LI85, LI86, LI87, LI88, LI89, LI90, LI91, LI92, LI93, LI94, LI95, LI96, LI97, LI98, LI99, LI100, LI101, LI102, LI103, LI104, LI105, LI106, LI107, LI108, LI109, LI110, LI111, LI112, LI113, LI114, LI115, LI116, LI117, LI118, LI119, LI120, LI121, LI122, LI123, LI124, LI125, LI126, LI127, LI255, LI256, LI999, LI1001, LI1002, LI1600, LI4096, LI1000001, LI2042, LM, nI_clamp, nI_pos', nI_lt, nI_nlt, nI_le, nI_ge, nI_ne, nI_add, nI_sub, mI_lt, mI_le, mI_nlt, mI_nle, mI_ne, mI_ne', mI_nem, hR1, hR2, h4, s1, s5, s6, e39, show i < 2048 by omega]
/-- names are linked -/
theorem cLink (hP : isP P) (hR1 : R 56 1 = P) (hR2 : R 56 2 = P + 4) {F : List qPr} {C : List oT} (hC : C.length ≤ 2000) (hw : ∀ x, x ∈ C → lkW F x ∧ x.2.2.2 < 2 ^ 31) {I : Nat → Nat → Int32} {u : Option Nat} (hm : mS K V P I F) (h3 : I P 3 = nI F.length) (h4 : I (P + 4) 4 = nI C.length) (hs : seg V P I 0 C) (hu : I 56 6 = exI u) (hu2 : ∀ x, u = some x → x < 2 ^ 31) : ∃ I', jcall A jcode (d + 3) 69 [.ref (b + 56)] (jH h b X I J R n) = some (.inl none, jH h b X I' J R n) ∧ lkS V P F C I' C.length ∧ I' 56 6 = exI (C.foldl (fun u x => mnO u (ukO (eqV V) F x)) u) ∧ ∀ c i, ¬ (c = 56 ∧ i = 6) → ¬ (c = P + 6 ∨ c = P + 7) → I' c i = I c i := by
  obtain ⟨I', e, h1, h2, h3'⟩ := c69l (d := d) (A := A) (b := b) (h := h) (X := X) (J := J) (R := R) (n := n) hP hR1 hR2 hC hw C.length 0 I u none (by omega) hm h3 h4 (fun k x hx => by
    have := hs k x hx
    rw [Nat.zero_add] at this
    obtain ⟨a1, a2, a3, a4⟩ := this
    exact ⟨a1, a4, fun z => by omega, fun _ => ⟨a2, a3⟩⟩) hu hu2
  refine ⟨I', ?_, h1, h2, h3'⟩
  rw [← e]
  simp (disch := omega) [je69, r69_0, r69_1, List.getElem?_cons_zero, List.getElem?_cons_succ, List.length_cons, List.length_nil, ag_nx, ag_dn, ag_no, ag_if, jbr1, jbr2, jc1, jc2, jnul, jld, jsto, jstoL, jst1, jst2, jkill, jinc, jbI, jbL, jbS, juI, jl2i, jcmp, jisR, jisI, jisL, jret, jretv, jfits, jdup, jdup2, jpop, jmm, jcat, Value.category, jinv, jrcv, jthr, jhd, jput, jget, jlen, jald, jast, jaast, jgI, jgL, jgB, jtab, jlku, jacp, vf20, vf21, vf22, vf23, vf24, u2_s, u2_k, u2_i, uc_s, uc_k, uc_c, u2_c, LI0, LI1, LI2, LI3, LI4, LI5, LI6, LI7, LI8, LI9, LI10, LI11, LI12, LI13, LI14, LI15, LI16, LI17, LI18, LI19, LI20, LI21, LI22, LI23, LI24, LI25, LI26, LI27, LI28, LI29, LI30, LI31, LI32, LI33, LI34, LI35, LI36, LI37, LI40, LI42, LI43, LI45, LI48, LI60, LI61, LI64, LI80, LI300, LI400, LI1000, LI2000, LI2001, LI2047, LI2048, LI100000, LI1000000, LI38, LI39, LI41, LI44, LI46, LI47, LI49, LI50, LI51, LI52, LI53, LI54, LI55, LI56, LI57, LI58, LI59, LI62, LI63, LI65, LI66, LI67, LI68, LI69, LI70, LI71, LI72, LI73, LI74, LI75, LI76, LI77, LI78, LI79, LI81, LI82, LI83, LI84, LI85, LI86, LI87, LI88, LI89, LI90, LI91, LI92, LI93, LI94, LI95, LI96, LI97, LI98, LI99, LI100, LI101, LI102, LI103, LI104, LI105, LI106, LI107, LI108, LI109, LI110, LI111, LI112, LI113, LI114, LI115, LI116, LI117, LI118, LI119, LI120, LI121, LI122, LI123, LI124, LI125, LI126, LI127, LI255, LI256, LI999, LI1001, LI1002, LI1600, LI4096, LI1000001, LI2042, LM, nI_clamp, nI_pos', nI_lt, nI_nlt, nI_le, nI_ge, nI_ne, nI_add, nI_sub, mI_lt, mI_le, mI_nlt, mI_nle, mI_ne, mI_ne', mI_nem]
end CLK
