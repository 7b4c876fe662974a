/-! the reference reads blocks -/
/-- an act, as Ac says -/
def rAk (A : Nat → Nat) (h : Nat → Option jC) (b : Nat) (J : Nat → Nat → Int64) (R : Nat → Nat → Nat) (t : Nat → Int32) (N m B0 M0 pr D dp g : Nat) (Ac : Nat → Nat → pR) : Prop :=
  ∀ (d : Nat) (z : rZ) (j L : Nat), rQ t N m B0 M0 j dp z → (∃ z' j', Ac L j = (none, j') ∧ jcall A jcode (d + D) 201 [.ref (b + 241)] (HZ h b J R z) = some (.inr 11, HZ h b J R z') ∧ rF t N m B0 M0 j' z' ∧ rSt z z') ∨ ∃ z' l0 j' e, Ac L j = (some l0, j') ∧ jcall A jcode (d + D) 201 [.ref (b + 241)] (HZ h b J R z) = some (.inl (some (.int (nI e))), HZ h b J R z') ∧ rQ t N m B0 M0 j' dp z' ∧ rSt z z' ∧ j < j' ∧ z'.2.2.2.2.2 ≤ z.2.2.2.2.2 + (j' - j) ∧ QA t N pr g z z' e L l0
section RBL
variable {A : Nat → Nat} {d b : Nat} {h : Nat → Option jC} {J : Nat → Nat → Int64} {R : Nat → Nat → Nat} {t : Nat → Int32} {N m B0 M0 : Nat} {g dp D pr x : Nat}
theorem bR_inc {I : Nat → Nat → Int32} {nn : Nat} : ∀ (as : List Nat) (r g lo L a : Nat) (l : List oT), bR t N I nn pr r g lo (as ++ [a]) L l → ∀ y, y ∈ as → y < a := by
  intro as
  induction as with
  | nil => intro r g lo L a l _ y hy; cases hy
  | cons c as ih =>
    intro r g lo L a l h y hy
    cases r with
    | zero => exact h.elim
    | succ r =>
      obtain ⟨l1, l2, _, _, h3, _⟩ := h
      rcases List.mem_cons.mp hy with e | e
      · have := bR_ge _ _ _ _ _ _ h3 a (List.mem_append_right _ List.mem_cons_self)
        omega
      · exact ih r g _ _ a l2 h3 y e
theorem chn_app {I : Nat → Nat → Int32} {a c : Nat} : ∀ (as : List Nat) (x : Int32), (∀ y, y ∈ as → y ≠ a) → I 255 c = mI 1 → c ≠ a → chn I x (as ++ [a]) → chn (u2 I 255 a (nI c)) x (as ++ [a] ++ [c]) := by
  intro as
  induction as with
  | nil =>
    intro x _ hc hca h
    refine ⟨h.1, ?_⟩
    rw [u2_s]
    refine ⟨rfl, ?_⟩
    rw [u2_i hca]
    exact hc
  | cons y as ih =>
    intro x hne hc hca h
    refine ⟨h.1, ?_⟩
    rw [u2_i (hne y List.mem_cons_self)]
    exact ih _ (fun w hw => hne w (List.mem_cons_of_mem _ hw)) hc hca h.2
/-- the last act so far -/
def lsA (as : List Nat) (lst : Int32) : Prop := (as = [] ∧ lst = mI 1) ∨ ∃ as' a, as = as' ++ [a] ∧ lst = nI a
/-- a block as far as it is read -/
def bkI (t : Nat → Int32) (N pr g bb L : Nat) (z : rZ) (as : List Nat) (l : List oT) : Prop := bb < z.2.2.2.2.2 ∧ z.2.1 251 bb = nI 19 ∧ chn z.2.1 (z.2.1 252 bb) as ∧ (∀ y, y ∈ as → y < z.2.2.2.2.2) ∧ as.length + bb + 1 ≤ z.2.2.2.2.2 ∧ bR t N z.2.1 z.2.2.2.1 pr (z.2.2.2.2.2 - bb) g (bb + 1) as L l
theorem r199l (hc : rCx A t N m B0 M0) {Ac : Nat → Nat → pR} (hA : rAk A h b J R t N m B0 M0 pr (D + 8) dp g Ac) (hAo : ∀ L j, j ≤ m → pOK m j (Ac L j)) {z0 : rZ} {j0 L : Nat} {fr : Int32} : ∀ (r : Nat) (z : rZ) (j : Nat) (l : List oT) (as : List Nat) (lst : Int32) (c4 : Option Value), m < r + j → rQ t N m B0 M0 j dp z → rSt z0 z → z.2.2.2.2.2 ≤ z0.2.2.2.2.2 + (j - j0) → j0 ≤ j → bkI t N pr g z0.2.2.2.2.2 L z as l → lsA as lst → (∀ y, y ∈ l → y.2.2.2 < j) → (∃ z' j', bL (KK t N) Ac L r l j = (none, j') ∧ M199 A (d + (D + 8)) 44 [some (.ref (b + 241)), some (.int fr), some (.int (nI z0.2.2.2.2.2)), some (.int lst), c4] [] (HZ h b J R z) = some (.inr 11, HZ h b J R z') ∧ rF t N m B0 M0 j' z' ∧ rSt z0 z') ∨ ∃ z' l' j' as' lst' c4', bL (KK t N) Ac L r l j = (some l', j') ∧ KK t N j' = 125 ∧ M199 A (d + (D + 8)) 44 [some (.ref (b + 241)), some (.int fr), some (.int (nI z0.2.2.2.2.2)), some (.int lst), c4] [] (HZ h b J R z) = M199 A (d + (D + 8)) 88 [some (.ref (b + 241)), some (.int fr), some (.int (nI z0.2.2.2.2.2)), some (.int lst'), c4'] [] (HZ h b J R z') ∧ rQ t N m B0 M0 j' dp z' ∧ rSt z0 z' ∧ z'.2.2.2.2.2 ≤ z0.2.2.2.2.2 + (j' - j0) ∧ j0 ≤ j' ∧ bkI t N pr g z0.2.2.2.2.2 L z' as' l' := by
  intro r
  induction r with
  | zero =>
    intro z j l as lst c4 hr hq
    have := hq.2.2.2.2.1
    omega
  | succ r ih =>
    intro z j l as lst c4 hr hq hst hnz hj0 hbk hls hl
    have hMm := hq.1.2.2.2.2.2.2.2
    have hcx := hc.2.2.2.2
    have hk1 := hc.2.2.1.1
    have hj := hq.2.2.2.2.1
    have e186 := r186 (d := d + D + 7) (A := A) (b := b) (h := h) (J := J) (R := R) (k0 := 125) hq (by omega) (by omega)
    rw [show d + D + 7 + 1 = d + (D + 8) from rfl, show wcd 125 = nI 125 by decide] at e186
    unfold bL
    by_cases hK : KK t N j = 125
    · rw [if_pos hK]
      rw [if_pos hK] at e186
      refine Or.inr ⟨z, l, j, as, lst, c4, rfl, hK, ?_, hq, hst, hnz, hj0, hbk⟩
      rw [r199_44]
      simp (disch := omega) [r199_0, r199_1, r199_4, r199_5, r199_6, r199_8, r199_11, r199_14, r199_15, r199_16, r199_19, r199_22, r199_23, r199_24, r199_27, r199_28, r199_31, r199_32, r199_34, r199_35, r199_36, r199_37, r199_38, r199_41, r199_42, r199_43, r199_45, r199_47, r199_50, r199_53, r199_54, r199_57, r199_59, r199_60, r199_63, r199_64, r199_67, r199_68, r199_70, r199_71, r199_74, r199_75, r199_78, r199_79, r199_81, r199_82, r199_84, r199_85, r199_89, r199_92, r199_93, r199_94, r199_97, r199_98, r199_99, r199_102, r199_103, g241, vf12_18, qa186, qo186, qa177, qo177, qa194, qo194, qa185, qo185, qa193, qo193, qa201, qo201, vf12_22, t241_22, g252, p252, vf12_25, t241_25, g255, p255, vf12_30, p241_30, ty12_30, List.getElem?_cons_zero, List.getElem?_cons_succ, List.length_cons, List.length_nil, ag_nx, ag_dn, ag_no, ag_if, jbr1, jbr2, jc1, jc2, jnul, jld, jsto, jstoL, jst1, jst2, jkill, jinc, jbI, jbL, jbS, juI, jl2i, jcmp, jisR, jisI, jisL, jret, jretv, jfits, jdup, jdup2, jpop, jmm, jcat, Value.category, jinv, jrcv, jthr, jhd, jput, jget, jlen, jald, jast, jaast, jgI, jgL, jgB, jtab, jlku, jacp, vf20, vf21, vf22, vf23, vf24, u2_s, u2_k, u2_i, uc_s, uc_k, uc_c, u2_c, LI0, LI1, LI2, LI3, LI4, LI5, LI6, LI7, LI8, LI9, LI10, LI11, LI12, LI13, LI14, LI15, LI16, LI17, LI18, LI19, LI20, LI21, LI22, LI23, LI24, LI25, LI26, LI27, LI28, LI29, LI30, LI31, LI32, LI33, LI34, LI35, LI36, LI37, LI40, LI42, LI43, LI45, LI48, LI60, LI61, LI64, LI80, LI300, LI400, LI1000, LI2000, LI2001, LI2047, LI2048, LI100000, LI1000000, LI38, LI39, LI41, LI44, LI46, LI47, LI49, LI50, LI51, LI52, LI53, LI54, LI55, LI56, LI57, LI58, LI59, LI62, LI63, LI65, LI66, LI67, LI68, LI69, LI70, LI71, LI72, LI73, LI74, LI75, LI76, LI77, LI78, LI79, LI81, LI82, LI83, LI84, LI85, LI86, LI87, LI88, LI89, LI90, LI91, LI92, LI93, LI94, LI95, LI96, LI97, LI98, LI99, LI100, LI101, LI102, LI103, LI104, LI105, LI106, LI107, LI108, LI109, LI110, LI111, LI112, LI113, LI114, LI115, LI116, LI117, LI118, LI119, LI120, LI121, LI122, LI123, LI124, LI125, LI126, LI127, LI255, LI256, LI999, LI1001, LI1002, LI1600, LI4096, LI1000001, LI2042, LM, nI_clamp, nI_pos', nI_lt, nI_nlt, nI_le, nI_ge, nI_ne, nI_add, nI_sub, mI_lt, mI_le, mI_nlt, mI_nle, mI_ne, mI_ne', mI_nem, e186]
    · rw [if_neg hK]
      rw [if_neg hK] at e186
      have o1 := hAo (L + l.length) j hj
      rcases hA d z j (L + l.length) hq with ⟨z1, j1, a1, e1, F1, st1⟩ | ⟨z1, l1, j1, a, a1, e1, q1, st1, hj1, hn1, x1, x2, x3⟩
      · refine Or.inl ⟨z1, j1, pB_n a1, ?_, F1, rSt_trans hst st1⟩
        rw [r199_44]
        simp (disch := omega) [r199_0, r199_1, r199_4, r199_5, r199_6, r199_8, r199_11, r199_14, r199_15, r199_16, r199_19, r199_22, r199_23, r199_24, r199_27, r199_28, r199_31, r199_32, r199_34, r199_35, r199_36, r199_37, r199_38, r199_41, r199_42, r199_43, r199_45, r199_47, r199_50, r199_53, r199_54, r199_57, r199_59, r199_60, r199_63, r199_64, r199_67, r199_68, r199_70, r199_71, r199_74, r199_75, r199_78, r199_79, r199_81, r199_82, r199_84, r199_85, r199_89, r199_92, r199_93, r199_94, r199_97, r199_98, r199_99, r199_102, r199_103, g241, vf12_18, qa186, qo186, qa177, qo177, qa194, qo194, qa185, qo185, qa193, qo193, qa201, qo201, vf12_22, t241_22, g252, p252, vf12_25, t241_25, g255, p255, vf12_30, p241_30, ty12_30, List.getElem?_cons_zero, List.getElem?_cons_succ, List.length_cons, List.length_nil, ag_nx, ag_dn, ag_no, ag_if, jbr1, jbr2, jc1, jc2, jnul, jld, jsto, jstoL, jst1, jst2, jkill, jinc, jbI, jbL, jbS, juI, jl2i, jcmp, jisR, jisI, jisL, jret, jretv, jfits, jdup, jdup2, jpop, jmm, jcat, Value.category, jinv, jrcv, jthr, jhd, jput, jget, jlen, jald, jast, jaast, jgI, jgL, jgB, jtab, jlku, jacp, vf20, vf21, vf22, vf23, vf24, u2_s, u2_k, u2_i, uc_s, uc_k, uc_c, u2_c, LI0, LI1, LI2, LI3, LI4, LI5, LI6, LI7, LI8, LI9, LI10, LI11, LI12, LI13, LI14, LI15, LI16, LI17, LI18, LI19, LI20, LI21, LI22, LI23, LI24, LI25, LI26, LI27, LI28, LI29, LI30, LI31, LI32, LI33, LI34, LI35, LI36, LI37, LI40, LI42, LI43, LI45, LI48, LI60, LI61, LI64, LI80, LI300, LI400, LI1000, LI2000, LI2001, LI2047, LI2048, LI100000, LI1000000, LI38, LI39, LI41, LI44, LI46, LI47, LI49, LI50, LI51, LI52, LI53, LI54, LI55, LI56, LI57, LI58, LI59, LI62, LI63, LI65, LI66, LI67, LI68, LI69, LI70, LI71, LI72, LI73, LI74, LI75, LI76, LI77, LI78, LI79, LI81, LI82, LI83, LI84, LI85, LI86, LI87, LI88, LI89, LI90, LI91, LI92, LI93, LI94, LI95, LI96, LI97, LI98, LI99, LI100, LI101, LI102, LI103, LI104, LI105, LI106, LI107, LI108, LI109, LI110, LI111, LI112, LI113, LI114, LI115, LI116, LI117, LI118, LI119, LI120, LI121, LI122, LI123, LI124, LI125, LI126, LI127, LI255, LI256, LI999, LI1001, LI1002, LI1600, LI4096, LI1000001, LI2042, LM, nI_clamp, nI_pos', nI_lt, nI_nlt, nI_le, nI_ge, nI_ne, nI_add, nI_sub, mI_lt, mI_le, mI_nlt, mI_nle, mI_ne, mI_ne', mI_nem, e186, e1]
      · rw [pB_s a1]
        rw [a1] at o1
        obtain ⟨o11, o12, o13⟩ := o1
        obtain ⟨o14, o15⟩ := o13 l1 rfl
        simp only at o11 o12 o14 o15
        obtain ⟨k1, k2, k3, k4, k5, k6⟩ := hbk
        have hag := bR_ge _ _ _ _ _ _ x1 a List.mem_cons_self
        have hm1 := st1.2.2.2.2.2
        have hMm1 := q1.1.2.2.2.2.2.2.2
        have f1 : ∀ c i, 251 ≤ c → c ≤ 258 → i < z.2.2.2.2.2 → z1.2.1 c i = z.2.1 c i := fun c i c1 c2 c3 => st1.1 c i (by omega) (by omega) (by omega)
        obtain ⟨cap, hc1, hc2, hc3, hc4⟩ := q1.1.2.2.2.2.2.2.1
        have h252 : z0.2.2.2.2.2 < cp z1.1 252 := by rw [hc1 252 (by omega) (by omega)]; omega
        have k6' : bR t N z1.2.1 z1.2.2.2.1 pr (z.2.2.2.2.2 - z0.2.2.2.2.2) g (z0.2.2.2.2.2 + 1) as L l := bR_st _ _ _ z.2.2.2.2.2 z.2.2.2.2.2 as _ _ (fun c i c1 c2 c3 c4 c5 => f1 c i c1 c2 c4) (fun y hy => ⟨by have := k4 y hy; omega, k4 y hy⟩) st1.2.2.1 st1.2.1 k6
        have hmid : ∃ mid, (∀ y : oT, y ∈ l → y.2.2.2 < mid) ∧ ∀ y : oT, y ∈ l1 → mid ≤ y.2.2.2 := ⟨j, hl, fun y hy => (o15 y hy).1⟩
        have hb2 := bR_app as _ (z1.2.2.2.2.2 - z0.2.2.2.2.2) _ _ _ l _ z.2.2.2.2.2 a l1 k6' x1 (by omega) (by omega) k4 (by omega) hmid
        have hls2 : lsA (as ++ [a]) (nI a) := Or.inr ⟨as, a, rfl, rfl⟩
        have hl2 : ∀ y, y ∈ l ++ l1 → y.2.2.2 < j1 := fun y hy => by
          rcases List.mem_append.mp hy with hy | hy
          · have := hl y hy; omega
          · exact (o15 y hy).2
        rcases hls with ⟨rfl, rfl⟩ | ⟨as', la, rfl, rfl⟩
        · -- the first act
          have st2 : rSt z0 (z1.1, u2 z1.2.1 252 z0.2.2.2.2.2 (nI a), z1.2.2) := rSt_n (rSt_trans hst st1) (by omega) (Nat.le_refl _)
          have q2 : rQ t N m B0 M0 j1 dp (z1.1, u2 z1.2.1 252 z0.2.2.2.2.2 (nI a), z1.2.2) := rQ_n q1 (by omega)
          have hb3 : bkI t N pr g z0.2.2.2.2.2 L (z1.1, u2 z1.2.1 252 z0.2.2.2.2.2 (nI a), z1.2.2) ([] ++ [a]) (l ++ l1) := by
            refine ⟨by show _ < z1.2.2.2.2.2; omega, ?_, ?_, fun y hy => ?_, ?_, ?_⟩
            · show u2 z1.2.1 252 z0.2.2.2.2.2 (nI a) 251 _ = _
              rw [u2_k (by omega), f1 _ _ (by omega) (by omega) (by omega)]; exact k2
            · show chn (u2 z1.2.1 252 z0.2.2.2.2.2 (nI a)) (u2 z1.2.1 252 z0.2.2.2.2.2 (nI a) 252 z0.2.2.2.2.2) ([] ++ [a])
              rw [u2_s]
              refine ⟨rfl, ?_⟩
              rw [u2_k (by omega)]
              exact x3
            · have : y = a := by simpa using hy
              rw [this]; exact x2
            · show ([] ++ [a]).length + z0.2.2.2.2.2 + 1 ≤ z1.2.2.2.2.2
              simp
              omega
            · refine bR_st _ _ _ z1.2.2.2.2.2 z1.2.2.2.2.2 _ _ _ (fun c i c1 c2 c3 c4 c5 => ?_) (fun y hy => ?_) (fun u hu => rnm_n (by omega)) (Nat.le_refl _) hb2
              · show u2 z1.2.1 252 z0.2.2.2.2.2 (nI a) c i = _
                unfold u2
                rw [if_neg (by omega)]
              · have : y = a := by simpa using hy
                rw [this]; omega
          have := ih _ j1 (l ++ l1) ([] ++ [a]) (nI a) (some (.int (nI a))) (by omega) q2 st2 (by show z1.2.2.2.2.2 ≤ _; omega) (by omega) hb3 hls2 hl2
          have eL : M199 A (d + (D + 8)) 44 [some (.ref (b + 241)), some (.int fr), some (.int (nI z0.2.2.2.2.2)), some (.int (mI 1)), c4] [] (HZ h b J R z) = M199 A (d + (D + 8)) 44 [some (.ref (b + 241)), some (.int fr), some (.int (nI z0.2.2.2.2.2)), some (.int (nI a)), some (.int (nI a))] [] (HZ h b J R (z1.1, u2 z1.2.1 252 z0.2.2.2.2.2 (nI a), z1.2.2)) := by
            rw [r199_44]
            simp (disch := omega) [r199_0, r199_1, r199_4, r199_5, r199_6, r199_8, r199_11, r199_14, r199_15, r199_16, r199_19, r199_22, r199_23, r199_24, r199_27, r199_28, r199_31, r199_32, r199_34, r199_35, r199_36, r199_37, r199_38, r199_41, r199_42, r199_43, r199_45, r199_47, r199_50, r199_53, r199_54, r199_57, r199_59, r199_60, r199_63, r199_64, r199_67, r199_68, r199_70, r199_71, r199_74, r199_75, r199_78, r199_79, r199_81, r199_82, r199_84, r199_85, r199_89, r199_92, r199_93, r199_94, r199_97, r199_98, r199_99, r199_102, r199_103, g241, vf12_18, qa186, qo186, qa177, qo177, qa194, qo194, qa185, qo185, qa193, qo193, qa201, qo201, vf12_22, t241_22, g252, p252, vf12_25, t241_25, g255, p255, vf12_30, p241_30, ty12_30, List.getElem?_cons_zero, List.getElem?_cons_succ, List.length_cons, List.length_nil, ag_nx, ag_dn, ag_no, ag_if, jbr1, jbr2, jc1, jc2, jnul, jld, jsto, jstoL, jst1, jst2, jkill, jinc, jbI, jbL, jbS, juI, jl2i, jcmp, jisR, jisI, jisL, jret, jretv, jfits, jdup, jdup2, jpop, jmm, jcat, Value.category, jinv, jrcv, jthr, jhd, jput, jget, jlen, jald, jast, jaast, jgI, jgL, jgB, jtab, jlku, jacp, vf20, vf21, vf22, vf23, vf24, u2_s, u2_k, u2_i, uc_s, uc_k, uc_c, u2_c, LI0, LI1, LI2, LI3, LI4, LI5, LI6, LI7, LI8, LI9, LI10, LI11, LI12, LI13, LI14, LI15, LI16, LI17, LI18, LI19, LI20, LI21, LI22, LI23, LI24, LI25, LI26, LI27, LI28, LI29, LI30, LI31, LI32, LI33, LI34, LI35, LI36, LI37, LI40, LI42, LI43, LI45, LI48, LI60, LI61, LI64, LI80, LI300, LI400, LI1000, LI2000, LI2001, LI2047, LI2048, LI100000, LI1000000, LI38, LI39, LI41, LI44, LI46, LI47, LI49, LI50, LI51, LI52, LI53, LI54, LI55, LI56, LI57, LI58, LI59, LI62, LI63, LI65, LI66, LI67, LI68, LI69, LI70, LI71, LI72, LI73, LI74, LI75, LI76, LI77, LI78, LI79, LI81, LI82, LI83, LI84, LI85, LI86, LI87, LI88, LI89, LI90, LI91, LI92, LI93, LI94, LI95, LI96, LI97, LI98, LI99, LI100, LI101, LI102, LI103, LI104, LI105, LI106, LI107, LI108, LI109, LI110, LI111, LI112, LI113, LI114, LI115, LI116, LI117, LI118, LI119, LI120, LI121, LI122, LI123, LI124, LI125, LI126, LI127, LI255, LI256, LI999, LI1001, LI1002, LI1600, LI4096, LI1000001, LI2042, LM, nI_clamp, nI_pos', nI_lt, nI_nlt, nI_le, nI_ge, nI_ne, nI_add, nI_sub, mI_lt, mI_le, mI_nlt, mI_nle, mI_ne, mI_ne', mI_nem, e186, e1, h252]
          rw [eL]
          exact this
        · -- a later one
          have hla : la < z.2.2.2.2.2 := k4 la (List.mem_append_right _ List.mem_cons_self)
          have h255 : la < cp z1.1 255 := by rw [hc1 255 (by omega) (by omega)]; omega
          have hlg := bR_ge _ _ _ _ _ _ k6 la (List.mem_append_right _ List.mem_cons_self)
          have hinc := bR_inc as' _ _ _ _ la _ k6
          have st2 : rSt z0 (z1.1, u2 z1.2.1 255 la (nI a), z1.2.2) := rSt_n (rSt_trans hst st1) (by omega) (by omega)
          have q2 : rQ t N m B0 M0 j1 dp (z1.1, u2 z1.2.1 255 la (nI a), z1.2.2) := rQ_n q1 (by omega)
          have hb3 : bkI t N pr g z0.2.2.2.2.2 L (z1.1, u2 z1.2.1 255 la (nI a), z1.2.2) (as' ++ [la] ++ [a]) (l ++ l1) := by
            refine ⟨by show _ < z1.2.2.2.2.2; omega, ?_, ?_, fun y hy => ?_, ?_, ?_⟩
            · show u2 z1.2.1 255 la (nI a) 251 _ = _
              rw [u2_k (by omega), f1 _ _ (by omega) (by omega) (by omega)]; exact k2
            · show chn (u2 z1.2.1 255 la (nI a)) (u2 z1.2.1 255 la (nI a) 252 z0.2.2.2.2.2) (as' ++ [la] ++ [a])
              rw [u2_k (by omega), f1 252 _ (by omega) (by omega) (by omega)]
              refine chn_app as' _ (fun y hy => by have := hinc y hy; omega) x3 (by omega) ?_
              exact chn_st _ _ (fun y hy => f1 255 y (by omega) (by omega) (k4 y hy)) k3
            · rcases List.mem_append.mp hy with hy | hy
              · have := k4 y hy; show y < z1.2.2.2.2.2; omega
              · have : y = a := by simpa using hy
                rw [this]; exact x2
            · show (as' ++ [la] ++ [a]).length + z0.2.2.2.2.2 + 1 ≤ z1.2.2.2.2.2
              rw [List.length_append (bs := [a])]
              simp only [List.length_cons, List.length_nil]
              omega
            · -- nothing of the acts changes by it
              have w1 : bR t N (u2 z1.2.1 255 la (nI a)) z1.2.2.2.1 pr (z.2.2.2.2.2 - z0.2.2.2.2.2) g (z0.2.2.2.2.2 + 1) (as' ++ [la]) L l := bR_st _ _ _ z.2.2.2.2.2 la _ _ _ (fun c i c1 c2 c3 c4 c5 => by
                unfold u2
                rw [if_neg c5]) (fun y hy => ⟨by
                  rcases List.mem_append.mp hy with hy | hy
                  · have := hinc y hy; omega
                  · have : y = la := by simpa using hy
                    omega, k4 y hy⟩) (fun u hu => rnm_n (by omega)) (Nat.le_refl _) k6'
              have w2 : bR t N (u2 z1.2.1 255 la (nI a)) z1.2.2.2.1 pr (z1.2.2.2.2.2 - z.2.2.2.2.2 + 1) g z.2.2.2.2.2 [a] (L + l.length) l1 := bR_st _ _ _ z1.2.2.2.2.2 z1.2.2.2.2.2 _ _ _ (fun c i c1 c2 c3 c4 c5 => by
                unfold u2
                rw [if_neg (by omega)]) (fun y hy => by
                  have : y = a := by simpa using hy
                  omega) (fun u hu => rnm_n (by omega)) (Nat.le_refl _) x1
              exact bR_app _ _ (z1.2.2.2.2.2 - z0.2.2.2.2.2) _ _ _ l _ z.2.2.2.2.2 a l1 w1 w2 (by omega) (by omega) k4 (by omega) hmid
          have := ih _ j1 (l ++ l1) (as' ++ [la] ++ [a]) (nI a) (some (.int (nI a))) (by omega) q2 st2 (by show z1.2.2.2.2.2 ≤ _; omega) (by omega) hb3 hls2 hl2
          have eL : M199 A (d + (D + 8)) 44 [some (.ref (b + 241)), some (.int fr), some (.int (nI z0.2.2.2.2.2)), some (.int (nI la)), c4] [] (HZ h b J R z) = M199 A (d + (D + 8)) 44 [some (.ref (b + 241)), some (.int fr), some (.int (nI z0.2.2.2.2.2)), some (.int (nI a)), some (.int (nI a))] [] (HZ h b J R (z1.1, u2 z1.2.1 255 la (nI a), z1.2.2)) := by
            rw [r199_44]
            simp (disch := omega) [r199_0, r199_1, r199_4, r199_5, r199_6, r199_8, r199_11, r199_14, r199_15, r199_16, r199_19, r199_22, r199_23, r199_24, r199_27, r199_28, r199_31, r199_32, r199_34, r199_35, r199_36, r199_37, r199_38, r199_41, r199_42, r199_43, r199_45, r199_47, r199_50, r199_53, r199_54, r199_57, r199_59, r199_60, r199_63, r199_64, r199_67, r199_68, r199_70, r199_71, r199_74, r199_75, r199_78, r199_79, r199_81, r199_82, r199_84, r199_85, r199_89, r199_92, r199_93, r199_94, r199_97, r199_98, r199_99, r199_102, r199_103, g241, vf12_18, qa186, qo186, qa177, qo177, qa194, qo194, qa185, qo185, qa193, qo193, qa201, qo201, vf12_22, t241_22, g252, p252, vf12_25, t241_25, g255, p255, vf12_30, p241_30, ty12_30, List.getElem?_cons_zero, List.getElem?_cons_succ, List.length_cons, List.length_nil, ag_nx, ag_dn, ag_no, ag_if, jbr1, jbr2, jc1, jc2, jnul, jld, jsto, jstoL, jst1, jst2, jkill, jinc, jbI, jbL, jbS, juI, jl2i, jcmp, jisR, jisI, jisL, jret, jretv, jfits, jdup, jdup2, jpop, jmm, jcat, Value.category, jinv, jrcv, jthr, jhd, jput, jget, jlen, jald, jast, jaast, jgI, jgL, jgB, jtab, jlku, jacp, vf20, vf21, vf22, vf23, vf24, u2_s, u2_k, u2_i, uc_s, uc_k, uc_c, u2_c, LI0, LI1, LI2, LI3, LI4, LI5, LI6, LI7, LI8, LI9, LI10, LI11, LI12, LI13, LI14, LI15, LI16, LI17, LI18, LI19, LI20, LI21, LI22, LI23, LI24, LI25, LI26, LI27, LI28, LI29, LI30, LI31, LI32, LI33, LI34, LI35, LI36, LI37, LI40, LI42, LI43, LI45, LI48, LI60, LI61, LI64, LI80, LI300, LI400, LI1000, LI2000, LI2001, LI2047, LI2048, LI100000, LI1000000, LI38, LI39, LI41, LI44, LI46, LI47, LI49, LI50, LI51, LI52, LI53, LI54, LI55, LI56, LI57, LI58, LI59, LI62, LI63, LI65, LI66, LI67, LI68, LI69, LI70, LI71, LI72, LI73, LI74, LI75, LI76, LI77, LI78, LI79, LI81, LI82, LI83, LI84, LI85, LI86, LI87, LI88, LI89, LI90, LI91, LI92, LI93, LI94, LI95, LI96, LI97, LI98, LI99, LI100, LI101, LI102, LI103, LI104, LI105, LI106, LI107, LI108, LI109, LI110, LI111, LI112, LI113, LI114, LI115, LI116, LI117, LI118, LI119, LI120, LI121, LI122, LI123, LI124, LI125, LI126, LI127, LI255, LI256, LI999, LI1001, LI1002, LI1600, LI4096, LI1000001, LI2042, LM, nI_clamp, nI_pos', nI_lt, nI_nlt, nI_le, nI_ge, nI_ne, nI_add, nI_sub, mI_lt, mI_le, mI_nlt, mI_nle, mI_ne, mI_ne', mI_nem, e186, e1, h255]
          rw [eL]
          exact this
end RBL
