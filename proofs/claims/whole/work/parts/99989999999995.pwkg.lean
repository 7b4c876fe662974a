/-! walk: the class's table of states -/
def hwS (x v : Int32) : Int32 := (x * nI 31 + v) ^^^ ((x.toUInt32 * (nI 31).toUInt32 + v.toUInt32) >>> ((nI 15).toUInt32 &&& (nI 31).toUInt32)).toInt32
def hwF (D : Nat → Int32) : Nat → Nat → Int32 → Int32
  | 0, _, x => x
  | r + 1, i, x => hwF D r (i + 1) (hwS x (D i))
theorem hwF_congr {D D' : Nat → Int32} : ∀ (r i : Nat) (x : Int32), (∀ j, i ≤ j → j < i + r → D j = D' j) → hwF D r i x = hwF D' r i x := by
  intro r
  induction r with
  | zero => intro i x _; rfl
  | succ r ih =>
    intro i x hj
    unfold hwF
    rw [hj i (by omega) (by omega)]
    exact ih _ _ (fun j h1 h2 => hj j (by omega) (by omega))
def hm (x : Int32) : Nat := x.toBitVec.toNat % 2048
theorem hm_lt (x : Int32) : hm x < 2048 := Nat.mod_lt _ (by omega)
theorem an2047 (x : Int32) : x &&& nI 2047 = nI (hm x) := by
  apply Int32.toBitVec_inj.mp
  rw [Int32.toBitVec_and]
  apply BitVec.eq_of_toNat_eq
  rw [BitVec.toNat_and]
  have e1 : (nI 2047).toBitVec.toNat = 2 ^ 11 - 1 := by decide
  have e2 : (nI (hm x)).toBitVec.toNat = hm x := by
    have := hm_lt x
    show (BitVec.ofNat 32 (hm x)).toNat = hm x
    rw [BitVec.toNat_ofNat]
    omega
  rw [e1, e2, Nat.and_two_pow_sub_one_eq_mod]
  rfl
theorem an2k : ∀ s, s < 2048 → nI (s + 1) &&& nI 2047 = nI ((s + 1) % 2048) := by decide +kernel
/-- as many as there is room for -/
theorem pig : ∀ (m k : Nat) (f : Nat → Nat), (∀ s, s < k → f s < m) → (∀ s s', s < k → s' < k → f s = f s' → s = s') → k ≤ m := by
  intro m
  induction m with
  | zero =>
    intro k f h1 _
    rcases Nat.eq_zero_or_pos k with e | e
    · omega
    · have := h1 0 e
      omega
  | succ m ih =>
    intro k f h1 h2
    rcases Nat.eq_zero_or_pos k with e | e
    · omega
    by_cases hs : ∃ s, s < k ∧ f s = m
    · obtain ⟨s0, hs0, e0⟩ := hs
      have := ih (k - 1) (fun s => if s = s0 then f (k - 1) else f s) (fun s hs => ?_) (fun s s' hs hs' e' => ?_)
      · omega
      · show (if s = s0 then f (k - 1) else f s) < m
        by_cases c : s = s0
        · rw [if_pos c]
          have := h1 (k - 1) (by omega)
          have hne : f (k - 1) ≠ m := fun z => by
            have := h2 (k - 1) s0 (by omega) hs0 (z.trans e0.symm)
            omega
          omega
        · rw [if_neg c]
          have := h1 s (by omega)
          have hne : f s ≠ m := fun z => c (h2 s s0 (by omega) hs0 (z.trans e0.symm))
          omega
      · have e'' : (if s = s0 then f (k - 1) else f s) = (if s' = s0 then f (k - 1) else f s') := e'
        by_cases c : s = s0
        · by_cases c' : s' = s0
          · rw [c, c']
          · rw [if_pos c, if_neg c'] at e''
            have := h2 _ _ (by omega) (by omega) e''
            omega
        · by_cases c' : s' = s0
          · rw [if_neg c, if_pos c'] at e''
            have := h2 _ _ (by omega) (by omega) e''
            omega
          · rw [if_neg c, if_neg c'] at e''
            exact h2 _ _ (by omega) (by omega) e''
    · have := ih k f (fun s hk => by
        have a1 := h1 s hk
        have a2 : f s ≠ m := fun z => hs ⟨s, hk, z⟩
        omega) h2
      omega
/-- the table: m entries, H their hashes -/
def tbI (I : Nat → Nat → Int32) (m : Nat) : Prop := (∀ s, s < 2048 → I 212 s = mI 1 ∨ ∃ e, e < m ∧ I 212 s = nI e) ∧ (∀ s s' e, s < 2048 → s' < 2048 → e < m → I 212 s = nI e → I 212 s' = nI e → s = s') ∧ ∀ e, e < m → ∃ t, t < 2048 ∧ I 212 ((hm (I 211 e) + t) % 2048) = nI e ∧ ∀ u, u < t → ¬ I 212 ((hm (I 211 e) + u) % 2048) = mI 1
/-- where the entries lie: F their begins, Z their sizes -/
def bgI (X : jXX) (I : Nat → Nat → Int32) (m : Nat) (F Z : Nat → Nat) : Prop := ∀ e, e < m → I 207 e = nI (F e) ∧ I 207 (e + 1) = nI (F e + Z e) ∧ F e + Z e ≤ cp X 206 ∧ I 211 e = hwF (fun j => I 206 (F e + j)) (Z e) 0 (nI (Z e))
section TB
variable {A : Nat → Nat} {d b n : Nat} {h : Nat → Option jC} {X : jXX} {I : Nat → Nat → Int32} {J : Nat → Nat → Int64} {R : Nat → Nat → Nat}
theorem c109l {sz0 : Nat} (hs : sz0 ≤ 370) : ∀ (r i : Nat) (x : Int32), i + r = sz0 → M109 A d 4 [some (.ref (b + 131)), some (.int (nI sz0)), some (.int x), some (.int (nI i))] [] (jH h b X I J R n) = some (.inl (some (.int (hwF (I 213) r i x))), jH h b X I J R n) := by
  intro r
  induction r with
  | zero =>
    intro i x h1
    have : i = sz0 := by omega
    subst this
    conv => lhs; rw [r109_4]
    simp (disch := omega) [r109_0, r109_1, r109_2, r109_3, r109_5, r109_6, r109_9, r109_10, r109_11, r109_14, r109_15, r109_18, r109_19, r109_21, r109_22, r109_23, r109_26, r109_27, r109_28, r109_29, r109_30, r109_31, r109_32, r109_34, r109_35, r109_36, r109_37, r109_40, r109_43, r109_44, g131, vf8_8, t131_8, g213, List.getElem?_cons_zero, List.getElem?_cons_succ, List.length_cons, List.length_nil, ag_nx, ag_dn, ag_no, ag_if, jbr1, jbr2, jc1, jc2, jnul, jld, jsto, jstoL, jst1, jst2, jkill, jinc, jbI, jbL, jbS, juI, jl2i, jcmp, jisR, jisI, jisL, jret, jretv, jfits, jdup, jdup2, jpop, jmm, jcat, Value.category, jinv, jrcv, jthr, jhd, jput, jget, jlen, jald, jast, jaast, jgI, jgL, jgB, jtab, jlku, jacp, vf20, vf21, vf22, vf23, vf24, u2_s, u2_k, u2_i, uc_s, uc_k, uc_c, u2_c, LI0, LI1, LI2, LI3, LI4, LI5, LI6, LI7, LI8, LI9, LI10, LI11, LI12, LI13, LI14, LI15, LI16, LI17, LI18, LI19, LI20, LI21, LI22, LI23, LI24, LI25, LI26, LI27, LI28, LI29, LI30, LI31, LI32, LI33, LI34, LI35, LI36, LI37, LI40, LI42, LI43, LI45, LI48, LI60, LI61, LI64, LI80, LI300, LI400, LI1000, LI2000, LI2001, LI2047, LI2048, LI100000, LI1000000, LM, nI_clamp, nI_pos', nI_lt, nI_nlt, nI_le, nI_ge, nI_ne, nI_add, nI_sub, mI_lt, mI_le, mI_nlt, mI_nle, mI_ne, mI_ne', mI_nem, LI46, LI370, LI370000, LI31, LI15, g206, p206, hwF]
  | succ r ih =>
    intro i x h1
    have e := ih (i + 1) (hwS x (I 213 i)) (by omega)
    unfold hwS at e
    conv => lhs; rw [r109_4]
    simp (disch := omega) [r109_0, r109_1, r109_2, r109_3, r109_5, r109_6, r109_9, r109_10, r109_11, r109_14, r109_15, r109_18, r109_19, r109_21, r109_22, r109_23, r109_26, r109_27, r109_28, r109_29, r109_30, r109_31, r109_32, r109_34, r109_35, r109_36, r109_37, r109_40, r109_43, r109_44, g131, vf8_8, t131_8, g213, List.getElem?_cons_zero, List.getElem?_cons_succ, List.length_cons, List.length_nil, ag_nx, ag_dn, ag_no, ag_if, jbr1, jbr2, jc1, jc2, jnul, jld, jsto, jstoL, jst1, jst2, jkill, jinc, jbI, jbL, jbS, juI, jl2i, jcmp, jisR, jisI, jisL, jret, jretv, jfits, jdup, jdup2, jpop, jmm, jcat, Value.category, jinv, jrcv, jthr, jhd, jput, jget, jlen, jald, jast, jaast, jgI, jgL, jgB, jtab, jlku, jacp, vf20, vf21, vf22, vf23, vf24, u2_s, u2_k, u2_i, uc_s, uc_k, uc_c, u2_c, LI0, LI1, LI2, LI3, LI4, LI5, LI6, LI7, LI8, LI9, LI10, LI11, LI12, LI13, LI14, LI15, LI16, LI17, LI18, LI19, LI20, LI21, LI22, LI23, LI24, LI25, LI26, LI27, LI28, LI29, LI30, LI31, LI32, LI33, LI34, LI35, LI36, LI37, LI40, LI42, LI43, LI45, LI48, LI60, LI61, LI64, LI80, LI300, LI400, LI1000, LI2000, LI2001, LI2047, LI2048, LI100000, LI1000000, LM, nI_clamp, nI_pos', nI_lt, nI_nlt, nI_le, nI_ge, nI_ne, nI_add, nI_sub, mI_lt, mI_le, mI_nlt, mI_nle, mI_ne, mI_ne', mI_nem, LI46, LI370, LI370000, LI31, LI15, g206, p206, show i < sz0 by omega, show i < 370 by omega, e]
    rfl
/-- Walker.hash -/
theorem c109 {sz0 : Nat} (hs : sz0 ≤ 370) : jcall A jcode (d + 1) 109 [.ref (b + 131), .int (nI sz0)] (jH h b X I J R n) = some (.inl (some (.int (hwF (I 213) sz0 0 (nI sz0)))), jH h b X I J R n) := by
  have e := c109l (A := A) (d := d) (b := b) (h := h) (X := X) (I := I) (J := J) (R := R) (n := n) hs sz0 0 (nI sz0) (by omega)
  simp (disch := omega) [je109, r109_0, r109_1, r109_2, r109_3, r109_5, r109_6, r109_9, r109_10, r109_11, r109_14, r109_15, r109_18, r109_19, r109_21, r109_22, r109_23, r109_26, r109_27, r109_28, r109_29, r109_30, r109_31, r109_32, r109_34, r109_35, r109_36, r109_37, r109_40, r109_43, r109_44, g131, vf8_8, t131_8, g213, List.getElem?_cons_zero, List.getElem?_cons_succ, List.length_cons, List.length_nil, ag_nx, ag_dn, ag_no, ag_if, jbr1, jbr2, jc1, jc2, jnul, jld, jsto, jstoL, jst1, jst2, jkill, jinc, jbI, jbL, jbS, juI, jl2i, jcmp, jisR, jisI, jisL, jret, jretv, jfits, jdup, jdup2, jpop, jmm, jcat, Value.category, jinv, jrcv, jthr, jhd, jput, jget, jlen, jald, jast, jaast, jgI, jgL, jgB, jtab, jlku, jacp, vf20, vf21, vf22, vf23, vf24, u2_s, u2_k, u2_i, uc_s, uc_k, uc_c, u2_c, LI0, LI1, LI2, LI3, LI4, LI5, LI6, LI7, LI8, LI9, LI10, LI11, LI12, LI13, LI14, LI15, LI16, LI17, LI18, LI19, LI20, LI21, LI22, LI23, LI24, LI25, LI26, LI27, LI28, LI29, LI30, LI31, LI32, LI33, LI34, LI35, LI36, LI37, LI40, LI42, LI43, LI45, LI48, LI60, LI61, LI64, LI80, LI300, LI400, LI1000, LI2000, LI2001, LI2047, LI2048, LI100000, LI1000000, LM, nI_clamp, nI_pos', nI_lt, nI_nlt, nI_le, nI_ge, nI_ne, nI_add, nI_sub, mI_lt, mI_le, mI_nlt, mI_nle, mI_ne, mI_ne', mI_nem, LI46, LI370, LI370000, LI31, LI15, g206, p206, e]
theorem c111l {sz0 f : Nat} {k0 : Int32} (hs : sz0 ≤ 370) (hf : f + sz0 ≤ cp X 206) (hcp : cp X 206 < 2 ^ 30) : ∀ (r i : Nat), i + r = sz0 → (∀ j, j < i → I 206 (f + j) = I 213 j) → ∃ v, M111 A d 50 [some (.ref (b + 131)), some (.int k0), some (.int (nI sz0)), some (.int (nI f)), some (.int (nI i))] [] (jH h b X I J R n) = some (.inl (some (.int v)), jH h b X I J R n) ∧ ((v = nI 1 ∧ ∀ j, j < sz0 → I 206 (f + j) = I 213 j) ∨ (v = nI 0 ∧ ¬ ∀ j, j < sz0 → I 206 (f + j) = I 213 j)) := by
  intro r
  induction r with
  | zero =>
    intro i h1 hj
    have : i = sz0 := by omega
    subst this
    refine ⟨nI 1, ?_, Or.inl ⟨rfl, hj⟩⟩
    conv => lhs; rw [r111_50]
    simp (disch := omega) [r111_0, r111_1, r111_4, r111_5, r111_6, r111_7, r111_8, r111_11, r111_12, r111_13, r111_14, r111_15, r111_16, r111_17, r111_18, r111_21, r111_22, r111_25, r111_26, r111_27, r111_30, r111_31, r111_32, r111_33, r111_36, r111_37, r111_38, r111_41, r111_42, r111_45, r111_46, r111_47, r111_48, r111_52, r111_53, r111_56, r111_57, r111_60, r111_61, r111_63, r111_64, r111_65, r111_66, r111_69, r111_71, r111_72, r111_75, r111_76, r111_77, r111_80, r111_83, r111_84, g131, vf8_2, t131_2, g207, vf8_1, t131_1, g206, vf8_8, t131_8, g213, List.getElem?_cons_zero, List.getElem?_cons_succ, List.length_cons, List.length_nil, ag_nx, ag_dn, ag_no, ag_if, jbr1, jbr2, jc1, jc2, jnul, jld, jsto, jstoL, jst1, jst2, jkill, jinc, jbI, jbL, jbS, juI, jl2i, jcmp, jisR, jisI, jisL, jret, jretv, jfits, jdup, jdup2, jpop, jmm, jcat, Value.category, jinv, jrcv, jthr, jhd, jput, jget, jlen, jald, jast, jaast, jgI, jgL, jgB, jtab, jlku, jacp, vf20, vf21, vf22, vf23, vf24, u2_s, u2_k, u2_i, uc_s, uc_k, uc_c, u2_c, LI0, LI1, LI2, LI3, LI4, LI5, LI6, LI7, LI8, LI9, LI10, LI11, LI12, LI13, LI14, LI15, LI16, LI17, LI18, LI19, LI20, LI21, LI22, LI23, LI24, LI25, LI26, LI27, LI28, LI29, LI30, LI31, LI32, LI33, LI34, LI35, LI36, LI37, LI40, LI42, LI43, LI45, LI48, LI60, LI61, LI64, LI80, LI300, LI400, LI1000, LI2000, LI2001, LI2047, LI2048, LI100000, LI1000000, LM, nI_clamp, nI_pos', nI_lt, nI_nlt, nI_le, nI_ge, nI_ne, nI_add, nI_sub, mI_lt, mI_le, mI_nlt, mI_nle, mI_ne, mI_ne', mI_nem, LI46, LI370, LI370000, LI31, LI15, g206, p206]
  | succ r ih =>
    intro i h1 hj
    by_cases c : I 206 (f + i) = I 213 i
    · obtain ⟨v, e, hv⟩ := ih (i + 1) (by omega) (fun j hji => by
        by_cases e : j = i
        · rw [e]; exact c
        · exact hj j (by omega))
      refine ⟨v, ?_, hv⟩
      conv => lhs; rw [r111_50]
      simp (disch := omega) [r111_0, r111_1, r111_4, r111_5, r111_6, r111_7, r111_8, r111_11, r111_12, r111_13, r111_14, r111_15, r111_16, r111_17, r111_18, r111_21, r111_22, r111_25, r111_26, r111_27, r111_30, r111_31, r111_32, r111_33, r111_36, r111_37, r111_38, r111_41, r111_42, r111_45, r111_46, r111_47, r111_48, r111_52, r111_53, r111_56, r111_57, r111_60, r111_61, r111_63, r111_64, r111_65, r111_66, r111_69, r111_71, r111_72, r111_75, r111_76, r111_77, r111_80, r111_83, r111_84, g131, vf8_2, t131_2, g207, vf8_1, t131_1, g206, vf8_8, t131_8, g213, List.getElem?_cons_zero, List.getElem?_cons_succ, List.length_cons, List.length_nil, ag_nx, ag_dn, ag_no, ag_if, jbr1, jbr2, jc1, jc2, jnul, jld, jsto, jstoL, jst1, jst2, jkill, jinc, jbI, jbL, jbS, juI, jl2i, jcmp, jisR, jisI, jisL, jret, jretv, jfits, jdup, jdup2, jpop, jmm, jcat, Value.category, jinv, jrcv, jthr, jhd, jput, jget, jlen, jald, jast, jaast, jgI, jgL, jgB, jtab, jlku, jacp, vf20, vf21, vf22, vf23, vf24, u2_s, u2_k, u2_i, uc_s, uc_k, uc_c, u2_c, LI0, LI1, LI2, LI3, LI4, LI5, LI6, LI7, LI8, LI9, LI10, LI11, LI12, LI13, LI14, LI15, LI16, LI17, LI18, LI19, LI20, LI21, LI22, LI23, LI24, LI25, LI26, LI27, LI28, LI29, LI30, LI31, LI32, LI33, LI34, LI35, LI36, LI37, LI40, LI42, LI43, LI45, LI48, LI60, LI61, LI64, LI80, LI300, LI400, LI1000, LI2000, LI2001, LI2047, LI2048, LI100000, LI1000000, LM, nI_clamp, nI_pos', nI_lt, nI_nlt, nI_le, nI_ge, nI_ne, nI_add, nI_sub, mI_lt, mI_le, mI_nlt, mI_nle, mI_ne, mI_ne', mI_nem, LI46, LI370, LI370000, LI31, LI15, g206, p206, show i < sz0 by omega, show i < 370 by omega, show f + i < cp X 206 by omega, c, e]
    · refine ⟨nI 0, ?_, Or.inr ⟨rfl, fun z => c (z i (by omega))⟩⟩
      conv => lhs; rw [r111_50]
      simp (disch := omega) [r111_0, r111_1, r111_4, r111_5, r111_6, r111_7, r111_8, r111_11, r111_12, r111_13, r111_14, r111_15, r111_16, r111_17, r111_18, r111_21, r111_22, r111_25, r111_26, r111_27, r111_30, r111_31, r111_32, r111_33, r111_36, r111_37, r111_38, r111_41, r111_42, r111_45, r111_46, r111_47, r111_48, r111_52, r111_53, r111_56, r111_57, r111_60, r111_61, r111_63, r111_64, r111_65, r111_66, r111_69, r111_71, r111_72, r111_75, r111_76, r111_77, r111_80, r111_83, r111_84, g131, vf8_2, t131_2, g207, vf8_1, t131_1, g206, vf8_8, t131_8, g213, List.getElem?_cons_zero, List.getElem?_cons_succ, List.length_cons, List.length_nil, ag_nx, ag_dn, ag_no, ag_if, jbr1, jbr2, jc1, jc2, jnul, jld, jsto, jstoL, jst1, jst2, jkill, jinc, jbI, jbL, jbS, juI, jl2i, jcmp, jisR, jisI, jisL, jret, jretv, jfits, jdup, jdup2, jpop, jmm, jcat, Value.category, jinv, jrcv, jthr, jhd, jput, jget, jlen, jald, jast, jaast, jgI, jgL, jgB, jtab, jlku, jacp, vf20, vf21, vf22, vf23, vf24, u2_s, u2_k, u2_i, uc_s, uc_k, uc_c, u2_c, LI0, LI1, LI2, LI3, LI4, LI5, LI6, LI7, LI8, LI9, LI10, LI11, LI12, LI13, LI14, LI15, LI16, LI17, LI18, LI19, LI20, LI21, LI22, LI23, LI24, LI25, LI26, LI27, LI28, LI29, LI30, LI31, LI32, LI33, LI34, LI35, LI36, LI37, LI40, LI42, LI43, LI45, LI48, LI60, LI61, LI64, LI80, LI300, LI400, LI1000, LI2000, LI2001, LI2047, LI2048, LI100000, LI1000000, LM, nI_clamp, nI_pos', nI_lt, nI_nlt, nI_le, nI_ge, nI_ne, nI_add, nI_sub, mI_lt, mI_le, mI_nlt, mI_nle, mI_ne, mI_ne', mI_nem, LI46, LI370, LI370000, LI31, LI15, g206, p206, show i < sz0 by omega, show i < 370 by omega, show f + i < cp X 206 by omega, c]
/-- Walker.isPacked -/
theorem c111 {sz0 k f z : Nat} (hk : k < 1000) (hs : sz0 ≤ 370) (h0 : I 207 k = nI f) (h1 : I 207 (k + 1) = nI (f + z)) (hf : f + z ≤ cp X 206) (hcp : cp X 206 < 2 ^ 30) : ∃ v, jcall A jcode (d + 1) 111 [.ref (b + 131), .int (nI k), .int (nI sz0)] (jH h b X I J R n) = some (.inl (some (.int v)), jH h b X I J R n) ∧ ((v = nI 1 ∧ z = sz0 ∧ ∀ j, j < sz0 → I 206 (f + j) = I 213 j) ∨ (v = nI 0 ∧ ¬ (z = sz0 ∧ ∀ j, j < sz0 → I 206 (f + j) = I 213 j))) := by
  by_cases c : z = sz0
  · subst c
    obtain ⟨v, e, hv⟩ := c111l (A := A) (d := d) (b := b) (h := h) (X := X) (I := I) (J := J) (R := R) (n := n) (sz0 := z) (f := f) (k0 := nI k) hs hf hcp z 0 (by omega) (fun j hj => by omega)
    refine ⟨v, ?_, ?_⟩
    · have l1 : ¬ cp X 206 - z < f := by omega
      have l2 : f ≤ cp X 206 - z := by omega
      simp (disch := omega) [je111, r111_0, r111_1, r111_4, r111_5, r111_6, r111_7, r111_8, r111_11, r111_12, r111_13, r111_14, r111_15, r111_16, r111_17, r111_18, r111_21, r111_22, r111_25, r111_26, r111_27, r111_30, r111_31, r111_32, r111_33, r111_36, r111_37, r111_38, r111_41, r111_42, r111_45, r111_46, r111_47, r111_48, r111_52, r111_53, r111_56, r111_57, r111_60, r111_61, r111_63, r111_64, r111_65, r111_66, r111_69, r111_71, r111_72, r111_75, r111_76, r111_77, r111_80, r111_83, r111_84, g131, vf8_2, t131_2, g207, vf8_1, t131_1, g206, vf8_8, t131_8, g213, List.getElem?_cons_zero, List.getElem?_cons_succ, List.length_cons, List.length_nil, ag_nx, ag_dn, ag_no, ag_if, jbr1, jbr2, jc1, jc2, jnul, jld, jsto, jstoL, jst1, jst2, jkill, jinc, jbI, jbL, jbS, juI, jl2i, jcmp, jisR, jisI, jisL, jret, jretv, jfits, jdup, jdup2, jpop, jmm, jcat, Value.category, jinv, jrcv, jthr, jhd, jput, jget, jlen, jald, jast, jaast, jgI, jgL, jgB, jtab, jlku, jacp, vf20, vf21, vf22, vf23, vf24, u2_s, u2_k, u2_i, uc_s, uc_k, uc_c, u2_c, LI0, LI1, LI2, LI3, LI4, LI5, LI6, LI7, LI8, LI9, LI10, LI11, LI12, LI13, LI14, LI15, LI16, LI17, LI18, LI19, LI20, LI21, LI22, LI23, LI24, LI25, LI26, LI27, LI28, LI29, LI30, LI31, LI32, LI33, LI34, LI35, LI36, LI37, LI40, LI42, LI43, LI45, LI48, LI60, LI61, LI64, LI80, LI300, LI400, LI1000, LI2000, LI2001, LI2047, LI2048, LI100000, LI1000000, LM, nI_clamp, nI_pos', nI_lt, nI_nlt, nI_le, nI_ge, nI_ne, nI_add, nI_sub, mI_lt, mI_le, mI_nlt, mI_nle, mI_ne, mI_ne', mI_nem, LI46, LI370, LI370000, LI31, LI15, g206, p206, h0, h1, show k < 1001 by omega, show k + 1 < 1001 by omega, show z ≤ 370 from hs, l1, l2, e]
    · rcases hv with ⟨a, c⟩ | ⟨a, c⟩
      · exact Or.inl ⟨a, rfl, c⟩
      · exact Or.inr ⟨a, fun q => c q.2⟩
  · refine ⟨nI 0, ?_, Or.inr ⟨rfl, fun q => c q.1⟩⟩
    simp (disch := omega) [je111, r111_0, r111_1, r111_4, r111_5, r111_6, r111_7, r111_8, r111_11, r111_12, r111_13, r111_14, r111_15, r111_16, r111_17, r111_18, r111_21, r111_22, r111_25, r111_26, r111_27, r111_30, r111_31, r111_32, r111_33, r111_36, r111_37, r111_38, r111_41, r111_42, r111_45, r111_46, r111_47, r111_48, r111_52, r111_53, r111_56, r111_57, r111_60, r111_61, r111_63, r111_64, r111_65, r111_66, r111_69, r111_71, r111_72, r111_75, r111_76, r111_77, r111_80, r111_83, r111_84, g131, vf8_2, t131_2, g207, vf8_1, t131_1, g206, vf8_8, t131_8, g213, List.getElem?_cons_zero, List.getElem?_cons_succ, List.length_cons, List.length_nil, ag_nx, ag_dn, ag_no, ag_if, jbr1, jbr2, jc1, jc2, jnul, jld, jsto, jstoL, jst1, jst2, jkill, jinc, jbI, jbL, jbS, juI, jl2i, jcmp, jisR, jisI, jisL, jret, jretv, jfits, jdup, jdup2, jpop, jmm, jcat, Value.category, jinv, jrcv, jthr, jhd, jput, jget, jlen, jald, jast, jaast, jgI, jgL, jgB, jtab, jlku, jacp, vf20, vf21, vf22, vf23, vf24, u2_s, u2_k, u2_i, uc_s, uc_k, uc_c, u2_c, LI0, LI1, LI2, LI3, LI4, LI5, LI6, LI7, LI8, LI9, LI10, LI11, LI12, LI13, LI14, LI15, LI16, LI17, LI18, LI19, LI20, LI21, LI22, LI23, LI24, LI25, LI26, LI27, LI28, LI29, LI30, LI31, LI32, LI33, LI34, LI35, LI36, LI37, LI40, LI42, LI43, LI45, LI48, LI60, LI61, LI64, LI80, LI300, LI400, LI1000, LI2000, LI2001, LI2047, LI2048, LI100000, LI1000000, LM, nI_clamp, nI_pos', nI_lt, nI_nlt, nI_le, nI_ge, nI_ne, nI_add, nI_sub, mI_lt, mI_le, mI_nlt, mI_nle, mI_ne, mI_ne', mI_nem, LI46, LI370, LI370000, LI31, LI15, g206, p206, h0, h1, show k < 1001 by omega, show k + 1 < 1001 by omega, c]
/-- which entry is the same as what is packed -/
def mtc (I : Nat → Nat → Int32) (F Z : Nat → Nat) (sz0 e : Nat) : Prop := Z e = sz0 ∧ ∀ j, j < sz0 → I 206 (F e + j) = I 213 j
theorem c110l {sz0 m : Nat} {F Z : Nat → Nat} (hs : sz0 ≤ 370) (hm0 : m ≤ 1000) (ht : tbI I m) (hg : bgI X I m F Z) (hcp : cp X 206 < 2 ^ 30) {x : Int32} (hx : x = hwF (I 213) sz0 0 (nI sz0)) : ∀ (r u : Nat) (c5 : Option Value), u + r = 2048 → (∀ v, v < u → ∃ e, e < m ∧ I 212 ((hm x + v) % 2048) = nI e ∧ ¬ mtc I F Z sz0 e) → ∃ v, M110 A (d + 1) 9 [some (.ref (b + 131)), some (.int (nI sz0)), some (.int x), some (.int (nI ((hm x + u) % 2048))), some (.int (nI u)), c5] [] (jH h b X I J R n) = some (.inl (some (.int v)), jH h b X I J R n) ∧ ((v = nI 1 ∧ ∃ e, e < m ∧ mtc I F Z sz0 e) ∨ (v = nI 0 ∧ ∀ e, e < m → ¬ mtc I F Z sz0 e)) := by
  have hash : ∀ e, e < m → mtc I F Z sz0 e → I 211 e = x := fun e he hmt => by
    rw [(hg e he).2.2.2, hx, hmt.1]
    exact hwF_congr _ _ _ (fun j h1 h2 => hmt.2 j (by omega))
  have fin : ∀ u, u ≤ 2048 → (∀ v, v < u → ∃ e, e < m ∧ I 212 ((hm x + v) % 2048) = nI e ∧ ¬ mtc I F Z sz0 e) → (u = 2048 ∨ I 212 ((hm x + u) % 2048) = mI 1) → ∀ e, e < m → ¬ mtc I F Z sz0 e := fun u hu hv hf e he hmt => by
    obtain ⟨t, t1, t2, t3⟩ := ht.2.2 e he
    rw [hash e he hmt] at t2 t3
    rcases Nat.lt_or_ge t u with c | c
    · obtain ⟨e', g1, g2, g3⟩ := hv t c
      have : nI e = nI e' := t2.symm.trans g2
      have : e = e' := nI_inj (by omega) (by omega) this
      subst this
      exact g3 hmt
    · rcases hf with hf | hf
      · omega
      · rcases Nat.lt_or_ge u t with c2 | c2
        · exact t3 u c2 hf
        · have : t = u := by omega
          subst this
          rw [hf] at t2
          exact absurd t2.symm (mI_ne (by omega) (by omega) (by omega))
  intro r
  induction r with
  | zero =>
    intro u c5 hu hv
    have : u = 2048 := by omega
    subst this
    refine ⟨nI 0, ?_, Or.inr ⟨rfl, fin 2048 (Nat.le_refl _) hv (Or.inl rfl)⟩⟩
    conv => lhs; rw [r110_9]
    simp (disch := omega) [r110_0, r110_1, r110_4, r110_5, r110_6, r110_7, r110_11, r110_14, r110_17, r110_18, r110_21, r110_22, r110_23, r110_26, r110_27, r110_30, r110_31, r110_32, r110_34, r110_36, r110_39, r110_42, r110_43, r110_46, r110_48, r110_49, r110_50, r110_53, r110_54, r110_56, r110_57, r110_60, r110_63, r110_64, r110_65, r110_66, r110_67, r110_68, r110_71, r110_72, r110_73, r110_76, r110_79, r110_80, g131, vf8_7, t131_7, g212, vf8_6, t131_6, g211, qa111, qo111, List.getElem?_cons_zero, List.getElem?_cons_succ, List.length_cons, List.length_nil, ag_nx, ag_dn, ag_no, ag_if, jbr1, jbr2, jc1, jc2, jnul, jld, jsto, jstoL, jst1, jst2, jkill, jinc, jbI, jbL, jbS, juI, jl2i, jcmp, jisR, jisI, jisL, jret, jretv, jfits, jdup, jdup2, jpop, jmm, jcat, Value.category, jinv, jrcv, jthr, jhd, jput, jget, jlen, jald, jast, jaast, jgI, jgL, jgB, jtab, jlku, jacp, vf20, vf21, vf22, vf23, vf24, u2_s, u2_k, u2_i, uc_s, uc_k, uc_c, u2_c, LI0, LI1, LI2, LI3, LI4, LI5, LI6, LI7, LI8, LI9, LI10, LI11, LI12, LI13, LI14, LI15, LI16, LI17, LI18, LI19, LI20, LI21, LI22, LI23, LI24, LI25, LI26, LI27, LI28, LI29, LI30, LI31, LI32, LI33, LI34, LI35, LI36, LI37, LI40, LI42, LI43, LI45, LI48, LI60, LI61, LI64, LI80, LI300, LI400, LI1000, LI2000, LI2001, LI2047, LI2048, LI100000, LI1000000, LM, nI_clamp, nI_pos', nI_lt, nI_nlt, nI_le, nI_ge, nI_ne, nI_add, nI_sub, mI_lt, mI_le, mI_nlt, mI_nle, mI_ne, mI_ne', mI_nem, LI46, LI370, LI370000, LI31, LI15, g206, p206]
  | succ r ih =>
    intro u c5 hu hv
    have hsl : (hm x + u) % 2048 < 2048 := Nat.mod_lt _ (by omega)
    rcases ht.1 _ hsl with hf | ⟨e, he, hf⟩
    · refine ⟨nI 0, ?_, Or.inr ⟨rfl, fin u (by omega) hv (Or.inr hf)⟩⟩
      conv => lhs; rw [r110_9]
      simp (disch := omega) [r110_0, r110_1, r110_4, r110_5, r110_6, r110_7, r110_11, r110_14, r110_17, r110_18, r110_21, r110_22, r110_23, r110_26, r110_27, r110_30, r110_31, r110_32, r110_34, r110_36, r110_39, r110_42, r110_43, r110_46, r110_48, r110_49, r110_50, r110_53, r110_54, r110_56, r110_57, r110_60, r110_63, r110_64, r110_65, r110_66, r110_67, r110_68, r110_71, r110_72, r110_73, r110_76, r110_79, r110_80, g131, vf8_7, t131_7, g212, vf8_6, t131_6, g211, qa111, qo111, List.getElem?_cons_zero, List.getElem?_cons_succ, List.length_cons, List.length_nil, ag_nx, ag_dn, ag_no, ag_if, jbr1, jbr2, jc1, jc2, jnul, jld, jsto, jstoL, jst1, jst2, jkill, jinc, jbI, jbL, jbS, juI, jl2i, jcmp, jisR, jisI, jisL, jret, jretv, jfits, jdup, jdup2, jpop, jmm, jcat, Value.category, jinv, jrcv, jthr, jhd, jput, jget, jlen, jald, jast, jaast, jgI, jgL, jgB, jtab, jlku, jacp, vf20, vf21, vf22, vf23, vf24, u2_s, u2_k, u2_i, uc_s, uc_k, uc_c, u2_c, LI0, LI1, LI2, LI3, LI4, LI5, LI6, LI7, LI8, LI9, LI10, LI11, LI12, LI13, LI14, LI15, LI16, LI17, LI18, LI19, LI20, LI21, LI22, LI23, LI24, LI25, LI26, LI27, LI28, LI29, LI30, LI31, LI32, LI33, LI34, LI35, LI36, LI37, LI40, LI42, LI43, LI45, LI48, LI60, LI61, LI64, LI80, LI300, LI400, LI1000, LI2000, LI2001, LI2047, LI2048, LI100000, LI1000000, LM, nI_clamp, nI_pos', nI_lt, nI_nlt, nI_le, nI_ge, nI_ne, nI_add, nI_sub, mI_lt, mI_le, mI_nlt, mI_nle, mI_ne, mI_ne', mI_nem, LI46, LI370, LI370000, LI31, LI15, g206, p206, show u < 2048 by omega, hsl, hf]
    · obtain ⟨g0, g1, g2, g3⟩ := hg e he
      have hnx := an2k _ hsl
      have hnx2 : ((hm x + u) % 2048 + 1) % 2048 = (hm x + (u + 1)) % 2048 := by omega
      rw [hnx2] at hnx
      obtain ⟨w, ew, hw⟩ := c111 (A := A) (d := d) (b := b) (h := h) (X := X) (I := I) (J := J) (R := R) (n := n) (sz0 := sz0) (k := e) (by omega) hs g0 g1 g2 hcp
      by_cases ch : I 211 e = x
      · rcases hw with ⟨w1, w2⟩ | ⟨w1, w2⟩
        · refine ⟨nI 1, ?_, Or.inl ⟨rfl, e, he, w2⟩⟩
          subst w1
          conv => lhs; rw [r110_9]
          simp (disch := omega) [r110_0, r110_1, r110_4, r110_5, r110_6, r110_7, r110_11, r110_14, r110_17, r110_18, r110_21, r110_22, r110_23, r110_26, r110_27, r110_30, r110_31, r110_32, r110_34, r110_36, r110_39, r110_42, r110_43, r110_46, r110_48, r110_49, r110_50, r110_53, r110_54, r110_56, r110_57, r110_60, r110_63, r110_64, r110_65, r110_66, r110_67, r110_68, r110_71, r110_72, r110_73, r110_76, r110_79, r110_80, g131, vf8_7, t131_7, g212, vf8_6, t131_6, g211, qa111, qo111, List.getElem?_cons_zero, List.getElem?_cons_succ, List.length_cons, List.length_nil, ag_nx, ag_dn, ag_no, ag_if, jbr1, jbr2, jc1, jc2, jnul, jld, jsto, jstoL, jst1, jst2, jkill, jinc, jbI, jbL, jbS, juI, jl2i, jcmp, jisR, jisI, jisL, jret, jretv, jfits, jdup, jdup2, jpop, jmm, jcat, Value.category, jinv, jrcv, jthr, jhd, jput, jget, jlen, jald, jast, jaast, jgI, jgL, jgB, jtab, jlku, jacp, vf20, vf21, vf22, vf23, vf24, u2_s, u2_k, u2_i, uc_s, uc_k, uc_c, u2_c, LI0, LI1, LI2, LI3, LI4, LI5, LI6, LI7, LI8, LI9, LI10, LI11, LI12, LI13, LI14, LI15, LI16, LI17, LI18, LI19, LI20, LI21, LI22, LI23, LI24, LI25, LI26, LI27, LI28, LI29, LI30, LI31, LI32, LI33, LI34, LI35, LI36, LI37, LI40, LI42, LI43, LI45, LI48, LI60, LI61, LI64, LI80, LI300, LI400, LI1000, LI2000, LI2001, LI2047, LI2048, LI100000, LI1000000, LM, nI_clamp, nI_pos', nI_lt, nI_nlt, nI_le, nI_ge, nI_ne, nI_add, nI_sub, mI_lt, mI_le, mI_nlt, mI_nle, mI_ne, mI_ne', mI_nem, LI46, LI370, LI370000, LI31, LI15, g206, p206, show u < 2048 by omega, hsl, hf, show e < 1000 by omega, ch, ew]
        · subst w1
          obtain ⟨v, e1, hv1⟩ := ih (u + 1) (some (.int (nI e))) (by omega) (fun v hvu => by
            by_cases c : v = u
            · subst c; exact ⟨e, he, hf, w2⟩
            · exact hv v (by omega))
          refine ⟨v, ?_, hv1⟩
          conv => lhs; rw [r110_9]
          simp (disch := omega) [r110_0, r110_1, r110_4, r110_5, r110_6, r110_7, r110_11, r110_14, r110_17, r110_18, r110_21, r110_22, r110_23, r110_26, r110_27, r110_30, r110_31, r110_32, r110_34, r110_36, r110_39, r110_42, r110_43, r110_46, r110_48, r110_49, r110_50, r110_53, r110_54, r110_56, r110_57, r110_60, r110_63, r110_64, r110_65, r110_66, r110_67, r110_68, r110_71, r110_72, r110_73, r110_76, r110_79, r110_80, g131, vf8_7, t131_7, g212, vf8_6, t131_6, g211, qa111, qo111, List.getElem?_cons_zero, List.getElem?_cons_succ, List.length_cons, List.length_nil, ag_nx, ag_dn, ag_no, ag_if, jbr1, jbr2, jc1, jc2, jnul, jld, jsto, jstoL, jst1, jst2, jkill, jinc, jbI, jbL, jbS, juI, jl2i, jcmp, jisR, jisI, jisL, jret, jretv, jfits, jdup, jdup2, jpop, jmm, jcat, Value.category, jinv, jrcv, jthr, jhd, jput, jget, jlen, jald, jast, jaast, jgI, jgL, jgB, jtab, jlku, jacp, vf20, vf21, vf22, vf23, vf24, u2_s, u2_k, u2_i, uc_s, uc_k, uc_c, u2_c, LI0, LI1, LI2, LI3, LI4, LI5, LI6, LI7, LI8, LI9, LI10, LI11, LI12, LI13, LI14, LI15, LI16, LI17, LI18, LI19, LI20, LI21, LI22, LI23, LI24, LI25, LI26, LI27, LI28, LI29, LI30, LI31, LI32, LI33, LI34, LI35, LI36, LI37, LI40, LI42, LI43, LI45, LI48, LI60, LI61, LI64, LI80, LI300, LI400, LI1000, LI2000, LI2001, LI2047, LI2048, LI100000, LI1000000, LM, nI_clamp, nI_pos', nI_lt, nI_nlt, nI_le, nI_ge, nI_ne, nI_add, nI_sub, mI_lt, mI_le, mI_nlt, mI_nle, mI_ne, mI_ne', mI_nem, LI46, LI370, LI370000, LI31, LI15, g206, p206, show u < 2048 by omega, hsl, hf, show e < 1000 by omega, ch, ew, hnx, e1]
      · obtain ⟨v, e1, hv1⟩ := ih (u + 1) (some (.int (nI e))) (by omega) (fun v hvu => by
          by_cases c : v = u
          · subst c; exact ⟨e, he, hf, fun q => ch (hash e he q)⟩
          · exact hv v (by omega))
        refine ⟨v, ?_, hv1⟩
        conv => lhs; rw [r110_9]
        simp (disch := omega) [r110_0, r110_1, r110_4, r110_5, r110_6, r110_7, r110_11, r110_14, r110_17, r110_18, r110_21, r110_22, r110_23, r110_26, r110_27, r110_30, r110_31, r110_32, r110_34, r110_36, r110_39, r110_42, r110_43, r110_46, r110_48, r110_49, r110_50, r110_53, r110_54, r110_56, r110_57, r110_60, r110_63, r110_64, r110_65, r110_66, r110_67, r110_68, r110_71, r110_72, r110_73, r110_76, r110_79, r110_80, g131, vf8_7, t131_7, g212, vf8_6, t131_6, g211, qa111, qo111, List.getElem?_cons_zero, List.getElem?_cons_succ, List.length_cons, List.length_nil, ag_nx, ag_dn, ag_no, ag_if, jbr1, jbr2, jc1, jc2, jnul, jld, jsto, jstoL, jst1, jst2, jkill, jinc, jbI, jbL, jbS, juI, jl2i, jcmp, jisR, jisI, jisL, jret, jretv, jfits, jdup, jdup2, jpop, jmm, jcat, Value.category, jinv, jrcv, jthr, jhd, jput, jget, jlen, jald, jast, jaast, jgI, jgL, jgB, jtab, jlku, jacp, vf20, vf21, vf22, vf23, vf24, u2_s, u2_k, u2_i, uc_s, uc_k, uc_c, u2_c, LI0, LI1, LI2, LI3, LI4, LI5, LI6, LI7, LI8, LI9, LI10, LI11, LI12, LI13, LI14, LI15, LI16, LI17, LI18, LI19, LI20, LI21, LI22, LI23, LI24, LI25, LI26, LI27, LI28, LI29, LI30, LI31, LI32, LI33, LI34, LI35, LI36, LI37, LI40, LI42, LI43, LI45, LI48, LI60, LI61, LI64, LI80, LI300, LI400, LI1000, LI2000, LI2001, LI2047, LI2048, LI100000, LI1000000, LM, nI_clamp, nI_pos', nI_lt, nI_nlt, nI_le, nI_ge, nI_ne, nI_add, nI_sub, mI_lt, mI_le, mI_nlt, mI_nle, mI_ne, mI_ne', mI_nem, LI46, LI370, LI370000, LI31, LI15, g206, p206, show u < 2048 by omega, hsl, hf, show e < 1000 by omega, ch, hnx, e1]
/-- Walker.isKnown -/
theorem c110 {sz0 m : Nat} {F Z : Nat → Nat} (hs : sz0 ≤ 370) (hm0 : m ≤ 1000) (ht : tbI I m) (hg : bgI X I m F Z) (hcp : cp X 206 < 2 ^ 30) : ∃ v, jcall A jcode (d + 2) 110 [.ref (b + 131), .int (nI sz0), .int (hwF (I 213) sz0 0 (nI sz0))] (jH h b X I J R n) = some (.inl (some (.int v)), jH h b X I J R n) ∧ ((v = nI 1 ∧ ∃ e, e < m ∧ mtc I F Z sz0 e) ∨ (v = nI 0 ∧ ∀ e, e < m → ¬ mtc I F Z sz0 e)) := by
  obtain ⟨x, hx⟩ : ∃ x, x = hwF (I 213) sz0 0 (nI sz0) := ⟨_, rfl⟩
  obtain ⟨v, e, hv⟩ := c110l (A := A) (d := d) (b := b) (h := h) (X := X) (I := I) (J := J) (R := R) (n := n) hs hm0 ht hg hcp hx 2048 0 none (by omega) (fun v hv => by omega)
  refine ⟨v, ?_, hv⟩
  rw [← hx]
  have h0 : (hm x + 0) % 2048 = hm x := by have := hm_lt x; omega
  rw [h0] at e
  simp (disch := omega) [je110, r110_0, r110_1, r110_4, r110_5, r110_6, r110_7, r110_11, r110_14, r110_17, r110_18, r110_21, r110_22, r110_23, r110_26, r110_27, r110_30, r110_31, r110_32, r110_34, r110_36, r110_39, r110_42, r110_43, r110_46, r110_48, r110_49, r110_50, r110_53, r110_54, r110_56, r110_57, r110_60, r110_63, r110_64, r110_65, r110_66, r110_67, r110_68, r110_71, r110_72, r110_73, r110_76, r110_79, r110_80, g131, vf8_7, t131_7, g212, vf8_6, t131_6, g211, qa111, qo111, List.getElem?_cons_zero, List.getElem?_cons_succ, List.length_cons, List.length_nil, ag_nx, ag_dn, ag_no, ag_if, jbr1, jbr2, jc1, jc2, jnul, jld, jsto, jstoL, jst1, jst2, jkill, jinc, jbI, jbL, jbS, juI, jl2i, jcmp, jisR, jisI, jisL, jret, jretv, jfits, jdup, jdup2, jpop, jmm, jcat, Value.category, jinv, jrcv, jthr, jhd, jput, jget, jlen, jald, jast, jaast, jgI, jgL, jgB, jtab, jlku, jacp, vf20, vf21, vf22, vf23, vf24, u2_s, u2_k, u2_i, uc_s, uc_k, uc_c, u2_c, LI0, LI1, LI2, LI3, LI4, LI5, LI6, LI7, LI8, LI9, LI10, LI11, LI12, LI13, LI14, LI15, LI16, LI17, LI18, LI19, LI20, LI21, LI22, LI23, LI24, LI25, LI26, LI27, LI28, LI29, LI30, LI31, LI32, LI33, LI34, LI35, LI36, LI37, LI40, LI42, LI43, LI45, LI48, LI60, LI61, LI64, LI80, LI300, LI400, LI1000, LI2000, LI2001, LI2047, LI2048, LI100000, LI1000000, LM, nI_clamp, nI_pos', nI_lt, nI_nlt, nI_le, nI_ge, nI_ne, nI_add, nI_sub, mI_lt, mI_le, mI_nlt, mI_nle, mI_ne, mI_ne', mI_nem, LI46, LI370, LI370000, LI31, LI15, g206, p206, an2047, e]
end TB
