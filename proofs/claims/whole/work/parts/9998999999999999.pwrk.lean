/-! walk: the reference does all that can be done in a state, whole -/
theorem ok_timeA {rN : Int32 → Nm} {N : Nat → Nat → Int32} {np B D : Nat} {l : Bool} : ∀ (r : Nat) (W : aW Nm), okW N np B W → okD D W → okW N np B (aTime rN l r W).2 ∧ okD D (aTime rN l r W).2 := by
  intro r
  induction r with
  | zero => intro W h hd; exact ⟨h, hd⟩
  | succ r ih =>
    intro W h hd
    unfold aTime
    cases hx : aDue W.1 0 none with
    | none => exact ⟨h, hd⟩
    | some z =>
      obtain ⟨a, ha, _⟩ := aDue_at (W := W) W.1 0 none (fun j => by rw [Nat.zero_add]) (fun y hy => by cases hy) z hx
      obtain ⟨d, k, i⟩ := z
      simp only
      by_cases c : W.2.1.2.1 < d
      · rw [if_pos c]; exact ⟨h, hd⟩
      · rw [if_neg c]
        exact ih _ (okW_fire h ha) (okD_fire hd ha)
theorem dle1 {D0 i : Nat} : D0 + 1000000 * i + 1000000 ≤ D0 + 1000000 * (i + 1) := by
  rw [Nat.mul_succ, Nat.add_assoc]
  exact Nat.le_refl _
theorem dle0 {D0 i : Nat} : D0 + 1000000 * i ≤ D0 + 1000000 * (i + 1) := Nat.le_trans (Nat.le_add_right _ _) dle1
theorem dlt1 {D0 i m : Nat} (h1 : i < m) (h2 : m ≤ 1000) (h3 : D0 + 1000000 * 1002 < 2 ^ 31 - 1) : D0 + 1000000 * i + 1000000 < 2 ^ 31 - 1 := by omega
theorem dlt2 {D0 i m : Nat} (h1 : i < m) (h2 : m ≤ 1000) (h3 : D0 + 1000000 * 1002 < 2 ^ 31 - 1) : D0 + 1000000 * i + 1000000 + 1000000 < 2 ^ 31 - 1 := by
  rw [Nat.add_assoc (D0 + 1000000 * i)]
  exact hDi_a h1 h2 h3
/-- what the reference's walk must find, and leave -/
def rZz (rN : Int32 → Nm) (N : Nat → Nat → Int32) (np M Gm D0 : Nat) (X : jXX) (I : Nat → Nat → Int32) (n0 : Int32 × Int32 × Int32) (T0 : List (aE Nm) × Bool) (E : List bE) : Prop := plR X I N M ∧ (∃ W, wR rN I false W ∧ W.2.1.2.2 = n0 ∧ W.2.2.1 = T0) ∧ rBe rN I E ∧ eV N np Gm D0 E ∧ bOr E ∧ b00 E
section RFM
variable {A : Nat → Nat} {d b n : Nat} {h : Nat → Option jC} {X : jXX} {J : Nat → Nat → Int64} {R : Nat → Nat → Nat} {rN : Int32 → Nm} {N : Nat → Nat → Int32} {np M Gm D0 wt i : Nat} {p s : Int32} {n0 : Int32 × Int32 × Int32} {T0 : List (aE Nm) × Bool}
theorem b00_mt {E : List bE} {W : aW Nm} {g0 dd : Int32} (h : b00 E) (h0 : 0 < E.length) : b00 (bMt rN N wt p s E (nI i) g0 dd W).2 := fun y hy => by
  have hx := List.getElem?_eq_getElem h0
  have := bMt_pre (rN := rN) (N := N) (wt := wt) (p := p) (s := s) (i := nI i) (g0 := g0) (dd := dd) (W := W) hx
  rw [this] at hy
  have : E[0] = y := Option.some.inj hy
  exact h y (by rw [hx, this])
/-- unlay, of an entry -/
theorem unl {I : Nat → Nat → Int32} {E : List bE} {x : bE} (hvN : vN N M np) (hZ : rZz rN N np M Gm D0 X I n0 T0 E) (hx : E[i]? = some x) : ∃ I1 U, jcall A jcode (d + 2) 266 [.ref (b + 241), .int (nI i)] (jH h b X I J R n) = some (.inl none, jH h b X I1 J R n) ∧ wR rN I1 false U ∧ mq (U.1, U.2.1, U.2.2.1, (0, 0)) x.1 ∧ U.2.1.2.2 = n0 ∧ U.2.2.1 = T0 ∧ rZz rN N np M Gm D0 X I1 n0 T0 E ∧ fZ I I1 ∧ I1 241 81 = I 241 81 := by
  obtain ⟨hpl, ⟨W0, w0, w1, w2⟩, hB, hE, hO, h00⟩ := hZ
  have hi := lt_of_some hx
  have n6 := hvN.1
  have l6 : ∀ p, p < np → (lets N p).length ≤ 6 := fun p hp => (hvN.2.2.2 p hp).2.2.2.2.1
  obtain ⟨v1, v2, v3, v4, v5⟩ := hE i x hx
  have hl := hB.2.1
  obtain ⟨I1, as', e1, u1, u2', u3, _⟩ := r266 (A := A) (d := d) (b := b) (h := h) (X := X) (J := J) (R := R) (n := n) (r := i) (V := x.1) (by omega) w0 (hB.2.2 i x hx).1 (okW_L n6 l6 v3) v3.1
  have fz := fZ_U u3
  refine ⟨I1, _, e1, u1, ?_, w1, w2, ⟨plR_fZ fz hpl, ⟨_, u1, w1, w2⟩, rBe_e hB (u3 _ _ (by omega) (by omega)) (fun c j h1 h2 => u3 _ _ (by omega) (by omega)), hE, hO, h00⟩, fz, u3 _ _ (by omega) (by omega)⟩
  unfold mq
  show (as'.map eI, (x.1.2.1.1, x.1.2.1.2.1, 0, 0, 0), ([], false), (0, 0)) = mp x.1
  rw [u2']
  show _ = (x.1.1.map eI, (x.1.2.1.1, x.1.2.1.2.1, 0, 0, 0), ([], false), x.1.2.2.2)
  rw [v2]
theorem r272l (hj : ∀ x y, rN x = rN y → x = y) (hvN : vN N M np) (hG6 : 61 ≤ Gm) (hG : Gm < 2 ^ 29) (hD : D0 + 1000000 * 1002 < 2 ^ 31 - 1) (hwt : wt ≤ 3) {lv : Nat} {x : bE} (hlv : lv = x.1.1.length) : ∀ (r k : Nat) (q : Bool) (E : List bE) (I : Nat → Nat → Int32) (c8 c9 c10 : Option Value), k + r = lv → E[i]? = some x → rZz rN N np M Gm D0 X I n0 T0 E → ∃ I' z, z = bXl rN N wt p s x.1 (nI i) r k q E ∧ M272 A (d + 16 + ED) 17 [some (.ref (b + 241)), some (.int (nI i)), some (.int (nI wt)), some (.int p), some (.int s), some (.int (nI ((!q).toNat))), some (.int (nI (lv))), some (.int (nI (k))), c8, c9, c10] [] (jH h b X I J R n) = some (.inl (some (.int (rcd z.1))), jH h b X I' J R n) ∧ rZz rN N np M Gm D0 X I' n0 T0 z.2.2 ∧ fZ I I' ∧ (z.1 = 1 → told2 I' z.2.2 i z.2.1) ∧ (z.1 ≠ 1 → I' 241 81 = I 241 81) ∧ z.1 ≤ 2 := by
  have n6 := hvN.1
  have l6 : ∀ p, p < np → (lets N p).length ≤ 6 := fun p hp => (hvN.2.2.2 p hp).2.2.2.2.1
  intro r
  induction r with
  | zero =>
    intro k q E I c8 c9 c10 hk hx hZ
    have hkl : k = lv := by omega
    subst hkl
    have hi := lt_of_some hx
    have hl : E.length ≤ 1000 := hZ.2.2.1.2.1
    obtain ⟨v1, v2, v3, v4, v5⟩ := hZ.2.2.2.1 i x hx
    have k8 : k ≤ 8 := by rw [hlv]; exact v3.1
    cases q with
    | false =>
      refine ⟨I, _, rfl, ?_, ?_, fZ_refl, fun z => ?_, fun _ => rfl, ?_⟩
      · rw [bXl_f]
        conv => lhs; rw [r272_17]
        simp (disch := omega) [r272_0, r272_1, r272_3, r272_4, r272_5, r272_8, r272_9, r272_12, r272_14, r272_15, r272_19, r272_21, r272_24, r272_25, r272_26, r272_29, r272_30, r272_32, r272_35, r272_36, r272_39, r272_42, r272_45, r272_46, r272_48, r272_49, r272_50, r272_53, r272_54, r272_55, r272_58, r272_59, r272_62, r272_64, r272_65, r272_67, r272_68, r272_70, r272_73, r272_75, r272_76, r272_77, r272_79, r272_80, r272_81, r272_83, r272_86, r272_88, r272_90, r272_93, r272_95, r272_96, r272_99, r272_102, r272_104, r272_107, r272_108, r272_109, r272_110, r272_111, r272_114, r272_115, r272_118, r272_121, r272_122, r272_123, r272_124, r272_127, r272_128, r272_131, r272_132, r272_135, r272_136, r272_137, r272_140, r272_143, r272_144, r272_145, r272_148, r272_149, r272_150, r272_153, r272_154, r272_157, r272_159, r272_160, r272_161, r272_162, r272_163, r272_164, r272_166, r272_169, qa266, qo266, g241, vf12_36, qa238, qo238, vf12_69, p241_67, ty12_67, p241_68, ty12_68, vf12_42, t241_42, g260, qa239, qo239, qa270, qo270, qa240, qo240, vf12_72, vf12_38, p241_38, ty12_38, qa241, qo241, List.getElem?_cons_zero, List.getElem?_cons_succ, List.length_cons, List.length_nil, ag_nx, ag_dn, ag_no, ag_if, jbr1, jbr2, jc1, jc2, jnul, jld, jsto, jstoL, jst1, jst2, jkill, jinc, jbI, jbL, jbS, juI, jl2i, jcmp, jisR, jisI, jisL, jret, jretv, jfits, jdup, jdup2, jpop, jmm, jcat, Value.category, jinv, jrcv, jthr, jhd, jput, jget, jlen, jald, jast, jaast, jgI, jgL, jgB, jtab, jlku, jacp, vf20, vf21, vf22, vf23, vf24, u2_s, u2_k, u2_i, uc_s, uc_k, uc_c, u2_c, LI0, LI1, LI2, LI3, LI4, LI5, LI6, LI7, LI8, LI9, LI10, LI11, LI12, LI13, LI14, LI15, LI16, LI17, LI18, LI19, LI20, LI21, LI22, LI23, LI24, LI25, LI26, LI27, LI28, LI29, LI30, LI31, LI32, LI33, LI34, LI35, LI36, LI37, LI40, LI42, LI43, LI45, LI48, LI60, LI61, LI64, LI80, LI300, LI400, LI1000, LI2000, LI2001, LI2047, LI2048, LI100000, LI1000000, LM, nI_clamp, nI_pos', nI_lt, nI_nlt, nI_le, nI_ge, nI_ne, nI_add, nI_sub, mI_lt, mI_le, mI_nlt, mI_nle, mI_ne, mI_ne', mI_nem, LI370, LI435, LI64, LI31, LI61, rcd]
      · rw [bXl_f]; exact hZ
      · rw [bXl_f] at z; exact absurd z (by simp)
      · rw [bXl_f]; simp
    | true =>
      obtain ⟨I1, U, e1, u1, m1, t1, t2, Z1, f1, o1⟩ := unl (A := A) (d := d + 14 + ED) (b := b) (h := h) (X := X) (J := J) (R := R) (n := n) hvN hZ hx
      have hok := okW_q m1 v3
      have hd := okD_q m1 v5
      have hokU : okW N np Gm U := okW_eq hok rfl rfl
      have hdU : okD (D0 + 1000000 * i) U := okD_eq hd rfl rfl
      have okl := okW_L n6 l6 hokU
      have hD' : D0 + 1000000 * i + 1000000 < 2 ^ 31 - 1 := dlt1 hi hl hD
      obtain ⟨I2, e2, o2, d2, y2⟩ := rFind (A := A) (d := d + 15 + ED) (b := b) (h := h) (X := X) (I := I1) (J := J) (R := R) (n := n) u1 okl hD' hdU
      have hdu : aDue U.1 0 none = aDue x.1.1 0 none := by
        have := mq_due m1
        exact this
      rw [hdu] at e2 d2 y2
      have hde1 : d + 14 + ED + 2 = d + 16 + ED := by omega
      have hde2 : d + 15 + ED + 1 = d + 16 + ED := by omega
      rw [hde1] at e1
      rw [hde2] at e2
      cases hy : aDue x.1.1 0 none with
      | none =>
        rw [hy] at e2
        simp only [Option.isSome_none, Bool.false_eq_true, if_false] at e2
        have hz : bXl rN N wt p s x.1 (nI i) 0 k true E = (0, -1, E) := by rw [bXl_t, hy]
        refine ⟨I2, _, hz.symm, ?_, ⟨plR_fZ (fZ_P (onPQ_Q o2)) Z1.1, ⟨U, wR_onQ o2 u1, t1, t2⟩, rBe_e Z1.2.2.1 (o2.2 _ (by omega)) (fun c j h1 h2 => o2.1 _ _ (by omega)), Z1.2.2.2⟩, fZ_trans f1 (fZ_P (onPQ_Q o2)), fun z => absurd z (by simp), fun _ => (o2.2 _ (by omega)).trans o1, by simp⟩
        simp only [LI0] at e2
        conv => lhs; rw [r272_17]
        simp (disch := omega) [r272_0, r272_1, r272_3, r272_4, r272_5, r272_8, r272_9, r272_12, r272_14, r272_15, r272_19, r272_21, r272_24, r272_25, r272_26, r272_29, r272_30, r272_32, r272_35, r272_36, r272_39, r272_42, r272_45, r272_46, r272_48, r272_49, r272_50, r272_53, r272_54, r272_55, r272_58, r272_59, r272_62, r272_64, r272_65, r272_67, r272_68, r272_70, r272_73, r272_75, r272_76, r272_77, r272_79, r272_80, r272_81, r272_83, r272_86, r272_88, r272_90, r272_93, r272_95, r272_96, r272_99, r272_102, r272_104, r272_107, r272_108, r272_109, r272_110, r272_111, r272_114, r272_115, r272_118, r272_121, r272_122, r272_123, r272_124, r272_127, r272_128, r272_131, r272_132, r272_135, r272_136, r272_137, r272_140, r272_143, r272_144, r272_145, r272_148, r272_149, r272_150, r272_153, r272_154, r272_157, r272_159, r272_160, r272_161, r272_162, r272_163, r272_164, r272_166, r272_169, qa266, qo266, g241, vf12_36, qa238, qo238, vf12_69, p241_67, ty12_67, p241_68, ty12_68, vf12_42, t241_42, g260, qa239, qo239, qa270, qo270, qa240, qo240, vf12_72, vf12_38, p241_38, ty12_38, qa241, qo241, List.getElem?_cons_zero, List.getElem?_cons_succ, List.length_cons, List.length_nil, ag_nx, ag_dn, ag_no, ag_if, jbr1, jbr2, jc1, jc2, jnul, jld, jsto, jstoL, jst1, jst2, jkill, jinc, jbI, jbL, jbS, juI, jl2i, jcmp, jisR, jisI, jisL, jret, jretv, jfits, jdup, jdup2, jpop, jmm, jcat, Value.category, jinv, jrcv, jthr, jhd, jput, jget, jlen, jald, jast, jaast, jgI, jgL, jgB, jtab, jlku, jacp, vf20, vf21, vf22, vf23, vf24, u2_s, u2_k, u2_i, uc_s, uc_k, uc_c, u2_c, LI0, LI1, LI2, LI3, LI4, LI5, LI6, LI7, LI8, LI9, LI10, LI11, LI12, LI13, LI14, LI15, LI16, LI17, LI18, LI19, LI20, LI21, LI22, LI23, LI24, LI25, LI26, LI27, LI28, LI29, LI30, LI31, LI32, LI33, LI34, LI35, LI36, LI37, LI40, LI42, LI43, LI45, LI48, LI60, LI61, LI64, LI80, LI300, LI400, LI1000, LI2000, LI2001, LI2047, LI2048, LI100000, LI1000000, LM, nI_clamp, nI_pos', nI_lt, nI_nlt, nI_le, nI_ge, nI_ne, nI_add, nI_sub, mI_lt, mI_le, mI_nlt, mI_nle, mI_ne, mI_ne', mI_nem, LI370, LI435, LI64, LI31, LI61, e1, e2, rcd]
      | some y =>
        rw [hy] at e2 d2
        simp only [Option.isSome_some, if_true] at e2
        obtain ⟨d72, _, _⟩ : I2 241 72 = y.1 ∧ I2 241 73 = nI y.2.1 ∧ I2 241 74 = nI y.2.2 := d2
        obtain ⟨hyD, _, _⟩ := y2 y hy
        have U2 := wR_onQ o2 u1
        have n38 : I2 241 38 = U.2.1.2.1 := U2.2.2.1
        -- time is set
        have set : ∃ I3, (∀ c8' c9' c10', M272 A (d + 16 + ED) 123 [some (.ref (b + 241)), some (.int (nI i)), some (.int (nI wt)), some (.int p), some (.int s), some (.int (nI (0))), some (.int (nI (k))), some (.int (nI (k))), c8', c9', c10'] [] (jH h b X I2 J R n) = M272 A (d + 16 + ED) 143 [some (.ref (b + 241)), some (.int (nI i)), some (.int (nI wt)), some (.int p), some (.int s), some (.int (nI (0))), some (.int (nI (k))), some (.int (nI (k))), c8', c9', c10'] [] (jH h b X I3 J R n)) ∧ wR rN I3 false (U.1, (U.2.1.1, U.2.1.2.1 + aUp U y.1, U.2.1.2.2), U.2.2.1, U.2.2.2) ∧ (∀ c j, ¬ (c = 241 ∧ j = 38) → I3 c j = I2 c j) := by
          unfold aUp
          by_cases c : 0 < y.1 - U.2.1.2.1
          · rw [if_pos c]
            refine ⟨u2 I2 241 38 y.1, fun c8' c9' c10' => ?_, ?_, fun c j hc => by simp only [u2_ap]; rw [if_neg hc]⟩
            · have c' : ¬ y.1 - U.2.1.2.1 ≤ nI 0 := Int32.not_le.mpr c
              simp (disch := omega) [r272_0, r272_1, r272_3, r272_4, r272_5, r272_8, r272_9, r272_12, r272_14, r272_15, r272_17, r272_19, r272_21, r272_24, r272_25, r272_26, r272_29, r272_30, r272_32, r272_35, r272_36, r272_39, r272_42, r272_45, r272_46, r272_48, r272_49, r272_50, r272_53, r272_54, r272_55, r272_58, r272_59, r272_62, r272_64, r272_65, r272_67, r272_68, r272_70, r272_73, r272_75, r272_76, r272_77, r272_79, r272_80, r272_81, r272_83, r272_86, r272_88, r272_90, r272_93, r272_95, r272_96, r272_99, r272_102, r272_104, r272_107, r272_108, r272_109, r272_110, r272_111, r272_114, r272_115, r272_118, r272_121, r272_122, r272_123, r272_124, r272_127, r272_128, r272_131, r272_132, r272_135, r272_136, r272_137, r272_140, r272_144, r272_145, r272_148, r272_149, r272_150, r272_153, r272_154, r272_157, r272_159, r272_160, r272_161, r272_162, r272_163, r272_164, r272_166, r272_169, qa266, qo266, g241, vf12_36, qa238, qo238, vf12_69, p241_67, ty12_67, p241_68, ty12_68, vf12_42, t241_42, g260, qa239, qo239, qa270, qo270, qa240, qo240, vf12_72, vf12_38, p241_38, ty12_38, qa241, qo241, List.getElem?_cons_zero, List.getElem?_cons_succ, List.length_cons, List.length_nil, ag_nx, ag_dn, ag_no, ag_if, jbr1, jbr2, jc1, jc2, jnul, jld, jsto, jstoL, jst1, jst2, jkill, jinc, jbI, jbL, jbS, juI, jl2i, jcmp, jisR, jisI, jisL, jret, jretv, jfits, jdup, jdup2, jpop, jmm, jcat, Value.category, jinv, jrcv, jthr, jhd, jput, jget, jlen, jald, jast, jaast, jgI, jgL, jgB, jtab, jlku, jacp, vf20, vf21, vf22, vf23, vf24, u2_s, u2_k, u2_i, uc_s, uc_k, uc_c, u2_c, LI0, LI1, LI2, LI3, LI4, LI5, LI6, LI7, LI8, LI9, LI10, LI11, LI12, LI13, LI14, LI15, LI16, LI17, LI18, LI19, LI20, LI21, LI22, LI23, LI24, LI25, LI26, LI27, LI28, LI29, LI30, LI31, LI32, LI33, LI34, LI35, LI36, LI37, LI40, LI42, LI43, LI45, LI48, LI60, LI61, LI64, LI80, LI300, LI400, LI1000, LI2000, LI2001, LI2047, LI2048, LI100000, LI1000000, LM, nI_clamp, nI_pos', nI_lt, nI_nlt, nI_le, nI_ge, nI_ne, nI_add, nI_sub, mI_lt, mI_le, mI_nlt, mI_nle, mI_ne, mI_ne', mI_nem, LI370, LI435, LI64, LI31, LI61, d72, n38, c']
            · have := wR_now (v := y.1) U2
              rw [Int32.add_comm, Int32.sub_add_cancel]
              exact this
          · rw [if_neg c]
            refine ⟨I2, fun c8' c9' c10' => ?_, ?_, fun _ _ _ => rfl⟩
            · have c' : y.1 - U.2.1.2.1 ≤ nI 0 := Int32.not_lt.mp c
              simp (disch := omega) [r272_0, r272_1, r272_3, r272_4, r272_5, r272_8, r272_9, r272_12, r272_14, r272_15, r272_17, r272_19, r272_21, r272_24, r272_25, r272_26, r272_29, r272_30, r272_32, r272_35, r272_36, r272_39, r272_42, r272_45, r272_46, r272_48, r272_49, r272_50, r272_53, r272_54, r272_55, r272_58, r272_59, r272_62, r272_64, r272_65, r272_67, r272_68, r272_70, r272_73, r272_75, r272_76, r272_77, r272_79, r272_80, r272_81, r272_83, r272_86, r272_88, r272_90, r272_93, r272_95, r272_96, r272_99, r272_102, r272_104, r272_107, r272_108, r272_109, r272_110, r272_111, r272_114, r272_115, r272_118, r272_121, r272_122, r272_123, r272_124, r272_127, r272_128, r272_131, r272_132, r272_135, r272_136, r272_137, r272_140, r272_144, r272_145, r272_148, r272_149, r272_150, r272_153, r272_154, r272_157, r272_159, r272_160, r272_161, r272_162, r272_163, r272_164, r272_166, r272_169, qa266, qo266, g241, vf12_36, qa238, qo238, vf12_69, p241_67, ty12_67, p241_68, ty12_68, vf12_42, t241_42, g260, qa239, qo239, qa270, qo270, qa240, qo240, vf12_72, vf12_38, p241_38, ty12_38, qa241, qo241, List.getElem?_cons_zero, List.getElem?_cons_succ, List.length_cons, List.length_nil, ag_nx, ag_dn, ag_no, ag_if, jbr1, jbr2, jc1, jc2, jnul, jld, jsto, jstoL, jst1, jst2, jkill, jinc, jbI, jbL, jbS, juI, jl2i, jcmp, jisR, jisI, jisL, jret, jretv, jfits, jdup, jdup2, jpop, jmm, jcat, Value.category, jinv, jrcv, jthr, jhd, jput, jget, jlen, jald, jast, jaast, jgI, jgL, jgB, jtab, jlku, jacp, vf20, vf21, vf22, vf23, vf24, u2_s, u2_k, u2_i, uc_s, uc_k, uc_c, u2_c, LI0, LI1, LI2, LI3, LI4, LI5, LI6, LI7, LI8, LI9, LI10, LI11, LI12, LI13, LI14, LI15, LI16, LI17, LI18, LI19, LI20, LI21, LI22, LI23, LI24, LI25, LI26, LI27, LI28, LI29, LI30, LI31, LI32, LI33, LI34, LI35, LI36, LI37, LI40, LI42, LI43, LI45, LI48, LI60, LI61, LI64, LI80, LI300, LI400, LI1000, LI2000, LI2001, LI2047, LI2048, LI100000, LI1000000, LM, nI_clamp, nI_pos', nI_lt, nI_nlt, nI_le, nI_ge, nI_ne, nI_add, nI_sub, mI_lt, mI_le, mI_nlt, mI_nle, mI_ne, mI_ne', mI_nem, LI370, LI435, LI64, LI31, LI61, d72, n38, c']
            · rw [Int32.add_zero]
              exact U2
        obtain ⟨I3, e3, u3, k3⟩ := set
        have u4 := wR_0 u3
        have hup : aUp U y.1 = aUp x.1 y.1 := by
          have := mq_now m1
          unfold aUp
          rw [show U.2.1.2.1 = x.1.2.1.2.1 from this]
        have hd3 : okD (D0 + 1000000 * i + 1000000) (U.1, (U.2.1.1, U.2.1.2.1 + aUp U y.1, U.2.1.2.2), U.2.2) := okD_up hdU hD' hyD
        have hok4 : okW N np Gm (U.1, (U.2.1.1, U.2.1.2.1 + aUp U y.1, U.2.1.2.2), U.2.2.1, ((0, 0) : Nat × Nat)) := okW_eq hokU rfl rfl
        have hd4 : okD (D0 + 1000000 * i + 1000000) (U.1, (U.2.1.1, U.2.1.2.1 + aUp U y.1, U.2.1.2.2), U.2.2.1, ((0, 0) : Nat × Nat)) := okD_eq hd3 rfl rfl
        have hD4 : D0 + 1000000 * i + 1000000 + 1000000 < 2 ^ 31 - 1 := dlt2 hi hl hD
        obtain ⟨I5, e5, w5, f5⟩ := rTimeUp (A := A) (d := d + 12 + ED) (b := b) (h := h) (X := X) (J := J) (R := R) (n := n) n6 l6 hD4 u4 hok4 hd4
        have hde3 : d + 12 + ED + 4 = d + 16 + ED := by omega
        rw [hde3] at e5
        -- the world behind it
        have okd5 : okW N np Gm (aTime rN false 33 (U.1, (U.2.1.1, U.2.1.2.1 + aUp U y.1, U.2.1.2.2), U.2.2.1, (0, 0))).2 ∧ okD (D0 + 1000000 * i + 1000000) (aTime rN false 33 (U.1, (U.2.1.1, U.2.1.2.1 + aUp U y.1, U.2.1.2.2), U.2.2.1, (0, 0))).2 := ok_timeA 33 _ hok4 hd4
        have mg := mq_go (rN := rN) m1 (aUp U y.1)
        have hwd : (aGo rN false (aUp U y.1) (U.1, U.2.1, U.2.2.1, (0, 0))).2 = (aTime rN false 33 (U.1, (U.2.1.1, U.2.1.2.1 + aUp U y.1, U.2.1.2.2), U.2.2.1, (0, 0))).2 := rfl
        rw [hwd] at mg
        have tt := tT_time (rN := rN) 33 (U.1, (U.2.1.1, U.2.1.2.1 + aUp U y.1, U.2.1.2.2), U.2.2.1, (0, 0))
        have fz5 : fZ I1 I5 := fZ_trans (fZ_trans (fZ_P (onPQ_Q o2)) ⟨fun c j a => by rw [u2_k (by omega), u2_k (by omega), k3 _ _ (by omega)], fun j a => by rw [u2_i (by omega), u2_i (by omega), k3 _ _ (by omega)], fun j a => by rw [u2_k (by omega), u2_k (by omega), k3 _ _ (by omega)]⟩) (fZ_R f5)
        have k5 : ∀ c j, (282 ≤ c ∧ c ≤ 286) ∨ (c = 241 ∧ 75 ≤ j) → I5 c j = I1 c j := fun c j hc => by
          rcases hc with hc | ⟨rfl, hc⟩
          · rw [f5.1 _ _ (by omega), u2_k (by omega), u2_k (by omega), k3 _ _ (by omega), o2.1 _ _ (by omega)]
          · rw [f5.2.1 _ (by omega), u2_i (by omega), u2_i (by omega), k3 _ _ (by omega), o2.2 _ (by omega)]
        have B5 : rBe rN I5 E := rBe_e Z1.2.2.1 (k5 _ _ (by omega)) (fun c j h1 h2 => k5 _ _ (by omega))
        have hd5 : okD (D0 + 1000000 * (i + 1)) (aTime rN false 33 (U.1, (U.2.1.1, U.2.1.2.1 + aUp U y.1, U.2.1.2.2), U.2.2.1, (0, 0))).2 := okD_le okd5.2 dle1
        obtain ⟨I6, z, hz, e6, B6, f6, t6, n6', l6'⟩ := r270 (A := A) (d := d + 11) (b := b) (h := h) (X := X) (I := I5) (J := J) (R := R) (n := n) (p := p) (s := s) (dd := mI 1) (D0 := D0) hj (plR_fZ fz5 Z1.1) hvN w5 (okW_le (by omega) okd5.1) hG6 (by omega) (hDi_of hi hl hD) hd5 B5 Z1.2.2.2.1 Z1.2.2.2.2.1 Z1.2.2.2.2.2 hx hwt
        have hde4 : d + 11 + 5 + ED = d + 16 + ED := by omega
        rw [hde4] at e6
        have hzz : bXl rN N wt p s x.1 (nI i) 0 k true E = (z.1, -1, z.2) := by
          rw [bXl_t, hy]
          simp only
          rw [hz, ← hup, ← bMt_mq mg.2]
          rfl
        have bo := bM0_ok (wt := wt) (g0 := x.1.2.1.1) (dd := mI 1) hG6 (by omega) Z1.2.2.2.1 Z1.2.2.2.2.1 hl hi v4 (okW_le (by omega) okd5.1 : okW N np (Gm + 1) _) hd5
        have hz2 : z.2 = (bM0 wt E (nI i) x.1.2.1.1 (mI 1) (aTime rN false 33 (U.1, (U.2.1.1, U.2.1.2.1 + aUp U y.1, U.2.1.2.2), U.2.2.1, (0, 0))).2).2 := by rw [hz]; rfl
        rw [← hz2] at bo
        refine ⟨I6, _, hzz.symm, ?_, ⟨plR_fZ (fZ_trans fz5 (fZ_Q f6)) Z1.1, ⟨_, wR_fQ f6 w5, tt.1.trans t1, tt.2.trans t2⟩, B6, bo.1, bo.2.1, by show b00 z.2; rw [hz]; exact b00_mt Z1.2.2.2.2.2 (by omega)⟩, fZ_trans f1 (fZ_trans fz5 (fZ_Q f6)), t6, fun hne => (n6' hne).trans ((k5 _ _ (by omega)).trans o1), l6'⟩
        have st : M272 A (d + 16 + ED) 17 [some (.ref (b + 241)), some (.int (nI i)), some (.int (nI wt)), some (.int p), some (.int s), some (.int (nI ((!true).toNat))), some (.int (nI (k))), some (.int (nI (k))), c8, c9, c10] [] (jH h b X I J R n) = M272 A (d + 16 + ED) 123 [some (.ref (b + 241)), some (.int (nI i)), some (.int (nI wt)), some (.int p), some (.int s), some (.int (nI (0))), some (.int (nI (k))), some (.int (nI (k))), c8, c9, c10] [] (jH h b X I2 J R n) := by
          simp only [LI1] at e2
          conv => lhs; rw [r272_17]
          simp (disch := omega) [r272_0, r272_1, r272_3, r272_4, r272_5, r272_8, r272_9, r272_12, r272_14, r272_15, r272_19, r272_21, r272_24, r272_25, r272_26, r272_29, r272_30, r272_32, r272_35, r272_36, r272_39, r272_42, r272_45, r272_46, r272_48, r272_49, r272_50, r272_53, r272_54, r272_55, r272_58, r272_59, r272_62, r272_64, r272_65, r272_67, r272_68, r272_70, r272_73, r272_75, r272_76, r272_77, r272_79, r272_80, r272_81, r272_83, r272_86, r272_88, r272_90, r272_93, r272_95, r272_96, r272_99, r272_102, r272_104, r272_107, r272_108, r272_109, r272_110, r272_111, r272_114, r272_115, r272_118, r272_121, r272_122, r272_124, r272_127, r272_128, r272_131, r272_132, r272_135, r272_136, r272_137, r272_140, r272_143, r272_144, r272_145, r272_148, r272_149, r272_150, r272_153, r272_154, r272_157, r272_159, r272_160, r272_161, r272_162, r272_163, r272_164, r272_166, r272_169, qa266, qo266, g241, vf12_36, qa238, qo238, vf12_69, p241_67, ty12_67, p241_68, ty12_68, vf12_42, t241_42, g260, qa239, qo239, qa270, qo270, qa240, qo240, vf12_72, vf12_38, p241_38, ty12_38, qa241, qo241, List.getElem?_cons_zero, List.getElem?_cons_succ, List.length_cons, List.length_nil, ag_nx, ag_dn, ag_no, ag_if, jbr1, jbr2, jc1, jc2, jnul, jld, jsto, jstoL, jst1, jst2, jkill, jinc, jbI, jbL, jbS, juI, jl2i, jcmp, jisR, jisI, jisL, jret, jretv, jfits, jdup, jdup2, jpop, jmm, jcat, Value.category, jinv, jrcv, jthr, jhd, jput, jget, jlen, jald, jast, jaast, jgI, jgL, jgB, jtab, jlku, jacp, vf20, vf21, vf22, vf23, vf24, u2_s, u2_k, u2_i, uc_s, uc_k, uc_c, u2_c, LI0, LI1, LI2, LI3, LI4, LI5, LI6, LI7, LI8, LI9, LI10, LI11, LI12, LI13, LI14, LI15, LI16, LI17, LI18, LI19, LI20, LI21, LI22, LI23, LI24, LI25, LI26, LI27, LI28, LI29, LI30, LI31, LI32, LI33, LI34, LI35, LI36, LI37, LI40, LI42, LI43, LI45, LI48, LI60, LI61, LI64, LI80, LI300, LI400, LI1000, LI2000, LI2001, LI2047, LI2048, LI100000, LI1000000, LM, nI_clamp, nI_pos', nI_lt, nI_nlt, nI_le, nI_ge, nI_ne, nI_add, nI_sub, mI_lt, mI_le, mI_nlt, mI_nle, mI_ne, mI_ne', mI_nem, LI370, LI435, LI64, LI31, LI61, e1, e2]
        rw [st, e3]
        simp (disch := omega) [r272_0, r272_1, r272_3, r272_4, r272_5, r272_8, r272_9, r272_12, r272_14, r272_15, r272_19, r272_21, r272_24, r272_25, r272_26, r272_29, r272_30, r272_32, r272_35, r272_36, r272_39, r272_42, r272_45, r272_46, r272_48, r272_49, r272_50, r272_53, r272_54, r272_55, r272_58, r272_59, r272_62, r272_64, r272_65, r272_67, r272_68, r272_70, r272_73, r272_75, r272_76, r272_77, r272_79, r272_80, r272_81, r272_83, r272_86, r272_88, r272_90, r272_93, r272_95, r272_96, r272_99, r272_102, r272_104, r272_107, r272_108, r272_109, r272_110, r272_111, r272_114, r272_115, r272_118, r272_121, r272_122, r272_124, r272_127, r272_128, r272_131, r272_132, r272_135, r272_136, r272_137, r272_140, r272_143, r272_144, r272_145, r272_148, r272_149, r272_150, r272_153, r272_154, r272_157, r272_159, r272_160, r272_161, r272_162, r272_163, r272_164, r272_166, r272_169, qa266, qo266, g241, vf12_36, qa238, qo238, vf12_69, p241_67, ty12_67, p241_68, ty12_68, vf12_42, t241_42, g260, qa239, qo239, qa270, qo270, qa240, qo240, vf12_72, vf12_38, p241_38, ty12_38, qa241, qo241, List.getElem?_cons_zero, List.getElem?_cons_succ, List.length_cons, List.length_nil, ag_nx, ag_dn, ag_no, ag_if, jbr1, jbr2, jc1, jc2, jnul, jld, jsto, jstoL, jst1, jst2, jkill, jinc, jbI, jbL, jbS, juI, jl2i, jcmp, jisR, jisI, jisL, jret, jretv, jfits, jdup, jdup2, jpop, jmm, jcat, Value.category, jinv, jrcv, jthr, jhd, jput, jget, jlen, jald, jast, jaast, jgI, jgL, jgB, jtab, jlku, jacp, vf20, vf21, vf22, vf23, vf24, u2_s, u2_k, u2_i, uc_s, uc_k, uc_c, u2_c, LI0, LI1, LI2, LI3, LI4, LI5, LI6, LI7, LI8, LI9, LI10, LI11, LI12, LI13, LI14, LI15, LI16, LI17, LI18, LI19, LI20, LI21, LI22, LI23, LI24, LI25, LI26, LI27, LI28, LI29, LI30, LI31, LI32, LI33, LI34, LI35, LI36, LI37, LI40, LI42, LI43, LI45, LI48, LI60, LI61, LI64, LI80, LI300, LI400, LI1000, LI2000, LI2001, LI2047, LI2048, LI100000, LI1000000, LM, nI_clamp, nI_pos', nI_lt, nI_nlt, nI_le, nI_ge, nI_ne, nI_add, nI_sub, mI_lt, mI_le, mI_nlt, mI_nle, mI_ne, mI_ne', mI_nem, LI370, LI435, LI64, LI31, LI61, e5, e6]
  | succ r ih =>
    intro k q E I c8 c9 c10 hk hx hZ
    have hi := lt_of_some hx
    have hl : E.length ≤ 1000 := hZ.2.2.1.2.1
    obtain ⟨v1, v2, v3, v4, v5⟩ := hZ.2.2.2.1 i x hx
    have k8 : lv ≤ 8 := by rw [hlv]; exact v3.1
    obtain ⟨I1, U, e1, u1, m1, t1, t2, Z1, f1, o1⟩ := unl (A := A) (d := d + 14 + ED) (b := b) (h := h) (X := X) (J := J) (R := R) (n := n) hvN hZ hx
    have hde1 : d + 14 + ED + 2 = d + 16 + ED := by omega
    rw [hde1] at e1
    have hok := okW_q m1 v3
    have hd := okD_q m1 v5
    have hul : U.1.length = lv := by
      rw [hlv]
      have := mq_len m1
      exact this
    have ha := List.getElem?_eq_getElem (show k < U.1.length by omega)
    have hA := u1.1.2.2 k _ ha
    have hnow : U.2.1.2.1 = x.1.2.1.2.1 := by
      have := mq_now m1
      exact this
    have n38 : I1 241 38 = U.2.1.2.1 := u1.2.2.1
    obtain ⟨I2, e2, o2, p69, _⟩ := rPlan (A := A) (d := d + 14) (b := b) (h := h) (X := X) (I := I1) (J := J) (R := R) (n := n) hj Z1.1 hvN hA (by omega) (hok.2.1 k _ ha) n38
    have hde2 : d + 14 + 2 + ED = d + 16 + ED := by omega
    rw [hde2] at e2
    have hat : aAt U k = U.1[k] := aAt_of ha
    obtain ⟨U0, hU0⟩ : ∃ U0 : aW Nm, U0 = (U.1, U.2.1, U.2.2.1, (0, 0)) := ⟨_, rfl⟩
    rw [← hU0] at m1 hok hd
    have hat0 : aAt U0 k = U.1[k] := by rw [hU0]; exact hat
    have tu := tT_turn (rN := rN) (N := N) (W := U0) (k := k)
    have mt := mq_turn (rN := rN) (N := N) m1 k
    have hkind : (aPlan rN N U.2.1.2.1 U.1[k]).1 = (aTurn rN N false k x.1).1 := by
      rw [← mt.1, tu.2, hat0, hU0]
    rw [hkind] at p69
    have fz2 : fZ I1 I2 := fZ_P (onPQ_P o2)
    have Z2 : rZz rN N np M Gm D0 X I2 n0 T0 E := ⟨plR_fZ fz2 Z1.1, ⟨U, wR_onP o2 u1, t1, t2⟩, rBe_e Z1.2.2.1 (o2.2 _ (by omega)) (fun c j h1 h2 => o2.1 _ _ (by omega)), Z1.2.2.2⟩
    have hide : I2 260 k = (aAt x.1 k).1.1 := by
      rw [o2.1 _ _ (by omega), (iR_01 hA).1, ← mq_at m1 k, hat0]
    by_cases c0 : (aTurn rN N false k x.1).1 = 0
    · rw [c0] at p69
      obtain ⟨I', z, hz, e5, a1, a2, a3, a4, a5⟩ := ih (k + 1) q E I2 c8 c9 c10 (by omega) hx Z2
      refine ⟨I', z, by rw [bXl_n c0]; exact hz, ?_, a1, fZ_trans f1 (fZ_trans fz2 a2), a3, fun hne => (a4 hne).trans ((o2.2 _ (by omega)).trans o1), a5⟩
      rw [← e5]
      simp only [LI0] at p69
      conv => lhs; rw [r272_17]
      simp (disch := omega) [r272_0, r272_1, r272_3, r272_4, r272_5, r272_8, r272_9, r272_12, r272_14, r272_15, r272_19, r272_21, r272_24, r272_25, r272_26, r272_29, r272_30, r272_32, r272_35, r272_36, r272_39, r272_42, r272_45, r272_46, r272_48, r272_49, r272_50, r272_53, r272_54, r272_55, r272_58, r272_59, r272_62, r272_64, r272_65, r272_67, r272_68, r272_70, r272_73, r272_75, r272_76, r272_77, r272_79, r272_80, r272_81, r272_83, r272_86, r272_88, r272_90, r272_93, r272_95, r272_96, r272_99, r272_102, r272_104, r272_107, r272_108, r272_109, r272_110, r272_111, r272_114, r272_115, r272_118, r272_121, r272_122, r272_123, r272_124, r272_127, r272_128, r272_131, r272_132, r272_135, r272_136, r272_137, r272_140, r272_143, r272_144, r272_145, r272_148, r272_149, r272_150, r272_153, r272_154, r272_157, r272_159, r272_160, r272_161, r272_162, r272_163, r272_164, r272_166, r272_169, qa266, qo266, g241, vf12_36, qa238, qo238, vf12_69, p241_67, ty12_67, p241_68, ty12_68, vf12_42, t241_42, g260, qa239, qo239, qa270, qo270, qa240, qo240, vf12_72, vf12_38, p241_38, ty12_38, qa241, qo241, List.getElem?_cons_zero, List.getElem?_cons_succ, List.length_cons, List.length_nil, ag_nx, ag_dn, ag_no, ag_if, jbr1, jbr2, jc1, jc2, jnul, jld, jsto, jstoL, jst1, jst2, jkill, jinc, jbI, jbL, jbS, juI, jl2i, jcmp, jisR, jisI, jisL, jret, jretv, jfits, jdup, jdup2, jpop, jmm, jcat, Value.category, jinv, jrcv, jthr, jhd, jput, jget, jlen, jald, jast, jaast, jgI, jgL, jgB, jtab, jlku, jacp, vf20, vf21, vf22, vf23, vf24, u2_s, u2_k, u2_i, uc_s, uc_k, uc_c, u2_c, LI0, LI1, LI2, LI3, LI4, LI5, LI6, LI7, LI8, LI9, LI10, LI11, LI12, LI13, LI14, LI15, LI16, LI17, LI18, LI19, LI20, LI21, LI22, LI23, LI24, LI25, LI26, LI27, LI28, LI29, LI30, LI31, LI32, LI33, LI34, LI35, LI36, LI37, LI40, LI42, LI43, LI45, LI48, LI60, LI61, LI64, LI80, LI300, LI400, LI1000, LI2000, LI2001, LI2047, LI2048, LI100000, LI1000000, LM, nI_clamp, nI_pos', nI_lt, nI_nlt, nI_le, nI_ge, nI_ne, nI_add, nI_sub, mI_lt, mI_le, mI_nlt, mI_nle, mI_ne, mI_ne', mI_nem, LI370, LI435, LI64, LI31, LI61, show k < lv by omega, e1, e2, p69]
    · have U2 := wR_0 (wR_onP o2 u1)
      rw [← hU0] at U2
      have hak : U0.1[k]? = some U.1[k] := by rw [hU0]; exact ha
      obtain ⟨ok3, d3⟩ := ok_turn (rN := rN) (l := false) hvN hok hd hak
      have fzf : fZ I2 (u2 (u2 I2 241 67 (nI 0)) 241 68 (nI 0)) := ⟨fun c j a => by rw [u2_k (by omega), u2_k (by omega)], fun j a => by rw [u2_i (by omega), u2_i (by omega)], fun j a => by rw [u2_k (by omega), u2_k (by omega)]⟩
      obtain ⟨I3, e3, w3, f3⟩ := rTurn (A := A) (d := d + 1) (b := b) (h := h) (X := X) (J := J) (R := R) (n := n) hj (plR_fZ fzf Z2.1) hvN U2 hok hak
      have hde3 : d + 1 + 15 + ED = d + 16 + ED := by omega
      rw [hde3] at e3
      have fz3 : fZ I1 I3 := fZ_trans fz2 (fZ_trans fzf (fZ_R f3))
      have k3 : ∀ c j, (282 ≤ c ∧ c ≤ 286) ∨ (c = 241 ∧ 75 ≤ j) → I3 c j = I1 c j := fun c j hc => by
        rcases hc with hc | ⟨rfl, hc⟩
        · rw [f3.1 _ _ (by omega), u2_k (by omega), u2_k (by omega), o2.1 _ _ (by omega)]
        · rw [f3.2.1 _ (by omega), u2_i (by omega), u2_i (by omega), o2.2 _ (by omega)]
      have B3 : rBe rN I3 E := rBe_e Z1.2.2.1 (k3 _ _ (by omega)) (fun c j h1 h2 => k3 _ _ (by omega))
      have hd3 : okD (D0 + 1000000 * (i + 1)) (aTurn rN N false k U0).2 := okD_le d3 dle0
      obtain ⟨I4, z, hz, e4, B4, f4, t4, n4, l4⟩ := r270 (A := A) (d := d + 11) (b := b) (h := h) (X := X) (I := I3) (J := J) (R := R) (n := n) (p := p) (s := s) (dd := (aAt x.1 k).1.1) (D0 := D0) hj (plR_fZ fz3 Z1.1) hvN w3 ok3 hG6 (by omega) (hDi_of hi hl hD) hd3 B3 Z1.2.2.2.1 Z1.2.2.2.2.1 Z1.2.2.2.2.2 hx hwt
      have hde4 : d + 11 + 5 + ED = d + 16 + ED := by omega
      rw [hde4] at e4
      have hzz : z = bMt rN N wt p s E (nI i) x.1.2.1.1 (aAt x.1 k).1.1 (aTurn rN N false k x.1).2 := by
        rw [hz]
        exact bMt_mq mt.2
      have bo := bM0_ok (wt := wt) (g0 := x.1.2.1.1) (dd := (aAt x.1 k).1.1) hG6 (by omega) Z1.2.2.2.1 Z1.2.2.2.2.1 hl hi v4 ok3 hd3
      have hz2 : z.2 = (bM0 wt E (nI i) x.1.2.1.1 (aAt x.1 k).1.1 (aTurn rN N false k U0).2).2 := by rw [hz]; rfl
      rw [← hz2] at bo
      have c0' : ¬ (aTurn rN N false k x.1).1 = nI 0 := c0
      have st : M272 A (d + 16 + ED) 17 [some (.ref (b + 241)), some (.int (nI i)), some (.int (nI wt)), some (.int p), some (.int s), some (.int (nI ((!q).toNat))), some (.int (nI (lv))), some (.int (nI (k))), c8, c9, c10] [] (jH h b X I J R n) = M272 A (d + 16 + ED) 88 [some (.ref (b + 241)), some (.int (nI i)), some (.int (nI wt)), some (.int p), some (.int s), some (.int (nI (1))), some (.int (nI (lv))), some (.int (nI (k))), some (.int (aAt x.1 k).1.1), some (.int (aTurn rN N false k U0).1), some (.int (rcd z.1))] [] (jH h b X I4 J R n) := by
        conv => lhs; rw [r272_17]
        simp (disch := omega) [r272_0, r272_1, r272_3, r272_4, r272_5, r272_8, r272_9, r272_12, r272_14, r272_15, r272_19, r272_21, r272_24, r272_25, r272_26, r272_29, r272_30, r272_32, r272_35, r272_36, r272_39, r272_42, r272_45, r272_46, r272_48, r272_49, r272_50, r272_53, r272_54, r272_55, r272_58, r272_59, r272_62, r272_64, r272_65, r272_67, r272_68, r272_70, r272_73, r272_75, r272_76, r272_77, r272_79, r272_80, r272_81, r272_83, r272_86, r272_90, r272_93, r272_95, r272_96, r272_99, r272_102, r272_104, r272_107, r272_108, r272_109, r272_110, r272_111, r272_114, r272_115, r272_118, r272_121, r272_122, r272_123, r272_124, r272_127, r272_128, r272_131, r272_132, r272_135, r272_136, r272_137, r272_140, r272_143, r272_144, r272_145, r272_148, r272_149, r272_150, r272_153, r272_154, r272_157, r272_159, r272_160, r272_161, r272_162, r272_163, r272_164, r272_166, r272_169, qa266, qo266, g241, vf12_36, qa238, qo238, vf12_69, p241_67, ty12_67, p241_68, ty12_68, vf12_42, t241_42, g260, qa239, qo239, qa270, qo270, qa240, qo240, vf12_72, vf12_38, p241_38, ty12_38, qa241, qo241, List.getElem?_cons_zero, List.getElem?_cons_succ, List.length_cons, List.length_nil, ag_nx, ag_dn, ag_no, ag_if, jbr1, jbr2, jc1, jc2, jnul, jld, jsto, jstoL, jst1, jst2, jkill, jinc, jbI, jbL, jbS, juI, jl2i, jcmp, jisR, jisI, jisL, jret, jretv, jfits, jdup, jdup2, jpop, jmm, jcat, Value.category, jinv, jrcv, jthr, jhd, jput, jget, jlen, jald, jast, jaast, jgI, jgL, jgB, jtab, jlku, jacp, vf20, vf21, vf22, vf23, vf24, u2_s, u2_k, u2_i, uc_s, uc_k, uc_c, u2_c, LI0, LI1, LI2, LI3, LI4, LI5, LI6, LI7, LI8, LI9, LI10, LI11, LI12, LI13, LI14, LI15, LI16, LI17, LI18, LI19, LI20, LI21, LI22, LI23, LI24, LI25, LI26, LI27, LI28, LI29, LI30, LI31, LI32, LI33, LI34, LI35, LI36, LI37, LI40, LI42, LI43, LI45, LI48, LI60, LI61, LI64, LI80, LI300, LI400, LI1000, LI2000, LI2001, LI2047, LI2048, LI100000, LI1000000, LM, nI_clamp, nI_pos', nI_lt, nI_nlt, nI_le, nI_ge, nI_ne, nI_add, nI_sub, mI_lt, mI_le, mI_nlt, mI_nle, mI_ne, mI_ne', mI_nem, LI370, LI435, LI64, LI31, LI61, show k < lv by omega, show k < 8 by omega, e1, e2, p69, c0', hide, e3, e4]
      have Z4 : rZz rN N np M Gm D0 X I4 n0 T0 z.2 := ⟨plR_fZ (fZ_trans fz3 (fZ_Q f4)) Z1.1, ⟨_, wR_fQ f4 w3, tu.1.1.trans (by rw [hU0]; exact t1), tu.1.2.trans (by rw [hU0]; exact t2)⟩, B4, bo.1, bo.2.1, by rw [hz]; exact b00_mt Z1.2.2.2.2.2 (by omega)⟩
      by_cases cz : z.1 = 0
      · have hx4 : z.2[i]? = some x := by rw [hz]; exact bMt_pre hx
        obtain ⟨I', z', hz', e5, a1, a2, a3, a4, a5⟩ := ih (k + 1) false z.2 I4 (some (.int (aAt x.1 k).1.1)) (some (.int (aTurn rN N false k U0).1)) (some (.int (rcd z.1))) (by omega) hx4 Z4
        refine ⟨I', z', by rw [bXl_g c0 hzz cz]; exact hz', ?_, a1, fZ_trans f1 (fZ_trans fz3 (fZ_trans (fZ_Q f4) a2)), a3, fun hne => (a4 hne).trans ((n4 (by omega)).trans ((k3 _ _ (by omega)).trans o1)), a5⟩
        rw [st, ← e5, cz]
        simp (disch := omega) [r272_88, r272_90, r272_93, r272_95, r272_96, r272_99, List.getElem?_cons_zero, List.getElem?_cons_succ, List.length_cons, List.length_nil, ag_nx, ag_dn, ag_no, ag_if, jbr1, jbr2, jc1, jc2, jnul, jld, jsto, jstoL, jst1, jst2, jkill, jinc, jbI, jbL, jbS, juI, jl2i, jcmp, jisR, jisI, jisL, jret, jretv, jfits, jdup, jdup2, jpop, jmm, jcat, Value.category, jinv, jrcv, jthr, jhd, jput, jget, jlen, jald, jast, jaast, jgI, jgL, jgB, jtab, jlku, jacp, vf20, vf21, vf22, vf23, vf24, u2_s, u2_k, u2_i, uc_s, uc_k, uc_c, u2_c, LI0, LI1, LI2, LI3, LI4, LI5, LI6, LI7, LI8, LI9, LI10, LI11, LI12, LI13, LI14, LI15, LI16, LI17, LI18, LI19, LI20, LI21, LI22, LI23, LI24, LI25, LI26, LI27, LI28, LI29, LI30, LI31, LI32, LI33, LI34, LI35, LI36, LI37, LI40, LI42, LI43, LI45, LI48, LI60, LI61, LI64, LI80, LI300, LI400, LI1000, LI2000, LI2001, LI2047, LI2048, LI100000, LI1000000, LM, nI_clamp, nI_pos', nI_lt, nI_nlt, nI_le, nI_ge, nI_ne, nI_add, nI_sub, mI_lt, mI_le, mI_nlt, mI_nle, mI_ne, mI_ne', mI_nem, rcd]
      · refine ⟨I4, _, (bXl_s c0 hzz cz).symm, ?_, Z4, fZ_trans f1 (fZ_trans fz3 (fZ_Q f4)), t4, fun hne => (n4 hne).trans ((k3 _ _ (by omega)).trans o1), l4⟩
        rw [st]
        obtain c1 | c1 : z.1 = 1 ∨ z.1 = 2 := by omega
        · rw [c1]
          simp (disch := omega) [r272_88, r272_90, r272_93, r272_95, r272_96, r272_99, List.getElem?_cons_zero, List.getElem?_cons_succ, List.length_cons, List.length_nil, ag_nx, ag_dn, ag_no, ag_if, jbr1, jbr2, jc1, jc2, jnul, jld, jsto, jstoL, jst1, jst2, jkill, jinc, jbI, jbL, jbS, juI, jl2i, jcmp, jisR, jisI, jisL, jret, jretv, jfits, jdup, jdup2, jpop, jmm, jcat, Value.category, jinv, jrcv, jthr, jhd, jput, jget, jlen, jald, jast, jaast, jgI, jgL, jgB, jtab, jlku, jacp, vf20, vf21, vf22, vf23, vf24, u2_s, u2_k, u2_i, uc_s, uc_k, uc_c, u2_c, LI0, LI1, LI2, LI3, LI4, LI5, LI6, LI7, LI8, LI9, LI10, LI11, LI12, LI13, LI14, LI15, LI16, LI17, LI18, LI19, LI20, LI21, LI22, LI23, LI24, LI25, LI26, LI27, LI28, LI29, LI30, LI31, LI32, LI33, LI34, LI35, LI36, LI37, LI40, LI42, LI43, LI45, LI48, LI60, LI61, LI64, LI80, LI300, LI400, LI1000, LI2000, LI2001, LI2047, LI2048, LI100000, LI1000000, LM, nI_clamp, nI_pos', nI_lt, nI_nlt, nI_le, nI_ge, nI_ne, nI_add, nI_sub, mI_lt, mI_le, mI_nlt, mI_nle, mI_ne, mI_ne', mI_nem, rcd]
        · rw [c1]
          simp (disch := omega) [r272_88, r272_90, r272_93, r272_95, r272_96, r272_99, List.getElem?_cons_zero, List.getElem?_cons_succ, List.length_cons, List.length_nil, ag_nx, ag_dn, ag_no, ag_if, jbr1, jbr2, jc1, jc2, jnul, jld, jsto, jstoL, jst1, jst2, jkill, jinc, jbI, jbL, jbS, juI, jl2i, jcmp, jisR, jisI, jisL, jret, jretv, jfits, jdup, jdup2, jpop, jmm, jcat, Value.category, jinv, jrcv, jthr, jhd, jput, jget, jlen, jald, jast, jaast, jgI, jgL, jgB, jtab, jlku, jacp, vf20, vf21, vf22, vf23, vf24, u2_s, u2_k, u2_i, uc_s, uc_k, uc_c, u2_c, LI0, LI1, LI2, LI3, LI4, LI5, LI6, LI7, LI8, LI9, LI10, LI11, LI12, LI13, LI14, LI15, LI16, LI17, LI18, LI19, LI20, LI21, LI22, LI23, LI24, LI25, LI26, LI27, LI28, LI29, LI30, LI31, LI32, LI33, LI34, LI35, LI36, LI37, LI40, LI42, LI43, LI45, LI48, LI60, LI61, LI64, LI80, LI300, LI400, LI1000, LI2000, LI2001, LI2047, LI2048, LI100000, LI1000000, LM, nI_clamp, nI_pos', nI_lt, nI_nlt, nI_le, nI_ge, nI_ne, nI_add, nI_sub, mI_lt, mI_le, mI_nlt, mI_nle, mI_ne, mI_ne', mI_nem, rcd]
end RFM
