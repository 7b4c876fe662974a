/-! the reference's names -/
def rb (I : Nat → Nat → Int32) (w k : Nat) : Int32 := I 243 (ix (I 244 w) + k)
def rz (I : Nat → Nat → Int32) (w : Nat) : Nat := ix (I 245 w)
def rnm (I : Nat → Nat → Int32) (w : Nat) : Int64 × Int32 := (hdF (rb I w) (rz I w), tlF (rb I w) (rz I w))
def hsh (f : Nat → Int32) : Nat → Int32
  | 0 => nI 0
  | k + 1 => nI 31 * hsh f k + f k
def slX (x : Int32) : Int32 := (x.toUInt32 >>> ((nI 8).toUInt32 &&& (nI 31).toUInt32)).toInt32 &&& nI 255 ^^^ (x &&& nI 255)
def slN (x : Int32) : Nat := ix (slX x)
def rsl (I : Nat → Nat → Int32) (w : Nat) : Nat := slN (hsh (rb I w) (rz I w))
theorem slX_e (x : Int32) : slX x = nI (slN x) ∧ slN x < 256 := by
  have key : ∀ a c : Int32, ∃ k, k < 256 ∧ (a &&& nI 255) ^^^ (c &&& nI 255) = nI k := by
    intro a c
    refine ⟨((a &&& nI 255) ^^^ (c &&& nI 255)).toBitVec.toNat, ?_, ?_⟩
    · rw [Int32.toBitVec_xor, BitVec.toNat_xor]
      have h1 : ∀ z : Int32, (z &&& nI 255).toBitVec.toNat < 2 ^ 8 := by
        intro z
        rw [Int32.toBitVec_and, BitVec.toNat_and]
        exact Nat.lt_of_le_of_lt Nat.and_le_right (by decide)
      exact Nat.xor_lt_two_pow (h1 a) (h1 c)
    · apply Int32.toBitVec_inj.mp
      show _ = BitVec.ofNat 32 _
      simp
  obtain ⟨k, hk, e⟩ := key (x.toUInt32 >>> ((nI 8).toUInt32 &&& (nI 31).toUInt32)).toInt32 x
  have e' : slX x = nI k := e
  have : slN x = k := by
    unfold slN
    rw [e']
    exact nI_clamp (by omega)
  rw [this]
  exact ⟨e', hk⟩
theorem hsh_congr {f g : Nat → Int32} : ∀ (n : Nat), (∀ i, i < n → f i = g i) → hsh f n = hsh g n := by
  intro n
  induction n with
  | zero => intro _; rfl
  | succ n ih =>
    intro h
    unfold hsh
    rw [ih (fun i hi => h i (by omega)), h n (by omega)]
/-- one name -/
def rn1 (I : Nat → Nat → Int32) (nb w : Nat) : Prop := ∃ a s, I 244 w = nI a ∧ I 245 w = nI s ∧ 0 < s ∧ s ≤ 12 ∧ a + s ≤ nb ∧ nb < 2 ^ 20 ∧ alB (fun k => I 243 (a + k)) s
def rHd (I : Nat → Nat → Int32) (nn s : Nat) : Prop := (I 247 s = mI 1 ∧ ∀ w, w < nn → rsl I w ≠ s) ∨ ∃ w, w < nn ∧ I 247 s = nI w ∧ rsl I w = s ∧ ∀ w', w < w' → w' < nn → rsl I w' ≠ s
def rNx (I : Nat → Nat → Int32) (w : Nat) : Prop := (I 246 w = mI 1 ∧ ∀ w', w' < w → rsl I w' ≠ rsl I w) ∨ ∃ w', w' < w ∧ I 246 w = nI w' ∧ rsl I w' = rsl I w ∧ ∀ u, w' < u → u < w → rsl I u ≠ rsl I w
def rNm (X : jXX) (I : Nat → Nat → Int32) (nn nb : Nat) : Prop :=
  I 241 8 = nI nn ∧ I 241 9 = nI nb ∧ nn ≤ cp X 244 ∧ cp X 245 = cp X 244 ∧ cp X 246 = cp X 244 ∧ nb ≤ cp X 243 ∧ 64 ≤ cp X 244 ∧ 1024 ≤ cp X 243 ∧ cp X 244 ≤ 2 ^ 20 ∧ cp X 243 ≤ 2 ^ 20 ∧ nn ≤ nb ∧
  (∀ w, w < nn → rn1 I nb w) ∧ (∀ w w', w < nn → w' < nn → rnm I w = rnm I w' → w = w') ∧
  (∀ s, s < 256 → rHd I nn s) ∧ (∀ w, w < nn → rNx I w) ∧ ∀ i, i < cp X 243 → (I 243 i).toInt8.toInt32 = I 243 i
theorem rn1_e {I : Nat → Nat → Int32} {nb w : Nat} (h : rn1 I nb w) : 0 < rz I w ∧ rz I w ≤ 12 ∧ I 245 w = nI (rz I w) ∧ I 244 w = nI (ix (I 244 w)) ∧ ix (I 244 w) + rz I w ≤ nb ∧ nb < 2 ^ 20 ∧ alB (rb I w) (rz I w) := by
  obtain ⟨a, s, h1, h2, h3, h4, h5, h5', h6⟩ := h
  have e2 : rz I w = s := by unfold rz; rw [h2]; exact nI_clamp (by omega)
  have e1 : ix (I 244 w) = a := by rw [h1]; exact nI_clamp (by omega)
  unfold rb
  rw [e2, e1]
  exact ⟨h3, h4, h2, h1, h5, h5', h6⟩
theorem rnm_fr {I I' : Nat → Nat → Int32} {nb w : Nat} (h : rn1 I nb w) (h4 : I' 244 w = I 244 w) (h5 : I' 245 w = I 245 w) (h3 : ∀ i, i < nb → I' 243 i = I 243 i) : rnm I' w = rnm I w ∧ rsl I' w = rsl I w ∧ rz I' w = rz I w ∧ ∀ k, k < rz I w → rb I' w k = rb I w k := by
  obtain ⟨a1, a2, a3, a4, a5, _, a6⟩ := rn1_e h
  have e1 : rz I' w = rz I w := by unfold rz; rw [h5]
  have e2 : ∀ k, k < rz I w → rb I' w k = rb I w k := by
    intro k hk
    unfold rb
    rw [h4]
    exact h3 _ (by omega)
  have e3 := hdF_congr (rz I w) e2
  refine ⟨?_, ?_, e1, e2⟩
  · unfold rnm
    rw [e1, e3.1, e3.2]
  · unfold rsl
    rw [e1, hsh_congr _ e2]
theorem rn1_fr {I I' : Nat → Nat → Int32} {nb nb' w : Nat} (h : rn1 I nb w) (hb : nb ≤ nb') (hb2 : nb' < 2 ^ 20) (h4 : I' 244 w = I 244 w) (h5 : I' 245 w = I 245 w) (h3 : ∀ i, i < nb → I' 243 i = I 243 i) : rn1 I' nb' w := by
  obtain ⟨a, s, g1, g2, g3, g4, g5, g5', g6⟩ := h
  refine ⟨a, s, by rw [h4]; exact g1, by rw [h5]; exact g2, g3, g4, by omega, hb2, fun i hi => ?_⟩
  show isLet (I' 243 (a + i)) = true ∨ isDig (I' 243 (a + i)) = true
  rw [h3 _ (by omega)]
  exact g6 i hi
/-- the names are the same, in rows of other lengths -/
theorem rNm_fr {X X' : jXX} {I I' : Nat → Nat → Int32} {nn nb : Nat} (h : rNm X I nn nb) (h8 : I' 241 8 = I 241 8) (h9 : I' 241 9 = I 241 9) (c4 : cp X 244 ≤ cp X' 244) (c4' : cp X' 244 ≤ 2 ^ 20) (c5 : cp X' 245 = cp X' 244) (c6 : cp X' 246 = cp X' 244) (c3 : cp X 243 ≤ cp X' 243) (c3' : cp X' 243 ≤ 2 ^ 20)
    (h4 : ∀ w, w < nn → I' 244 w = I 244 w) (h5 : ∀ w, w < nn → I' 245 w = I 245 w) (h6 : ∀ w, w < nn → I' 246 w = I 246 w) (h7 : ∀ s, I' 247 s = I 247 s) (h3 : ∀ i, i < nb → I' 243 i = I 243 i) (hb : ∀ i, i < cp X' 243 → (I' 243 i).toInt8.toInt32 = I' 243 i) : rNm X' I' nn nb := by
  obtain ⟨a1, a2, a3, a4, a5, a6, a7, a8, a9, a10, a11, a12, a13, a14, a15, a16⟩ := h
  have hf : ∀ w, w < nn → rnm I' w = rnm I w ∧ rsl I' w = rsl I w := fun w hw => by
    have := rnm_fr (a12 w hw) (h4 w hw) (h5 w hw) h3
    exact ⟨this.1, this.2.1⟩
  refine ⟨h8.trans a1, h9.trans a2, by omega, c5, c6, by omega, by omega, by omega, c4', c3', a11, fun w hw => ?_, fun w w' hw hw' e => ?_, fun s hs => ?_, fun w hw => ?_, hb⟩
  · obtain ⟨_, _, _, _, _, g, _⟩ := a12 w hw
    exact rn1_fr (a12 w hw) (Nat.le_refl _) (rn1_e (a12 w hw)).2.2.2.2.2.1 (h4 w hw) (h5 w hw) h3
  · rw [(hf w hw).1, (hf w' hw').1] at e
    exact a13 w w' hw hw' e
  · rcases a14 s hs with ⟨g1, g2⟩ | ⟨w, g1, g2, g3, g4⟩
    · exact Or.inl ⟨by rw [h7]; exact g1, fun w hw => by rw [(hf w hw).2]; exact g2 w hw⟩
    · exact Or.inr ⟨w, g1, by rw [h7]; exact g2, by rw [(hf w g1).2]; exact g3, fun w' q1 q2 => by rw [(hf w' q2).2]; exact g4 w' q1 q2⟩
  · rcases a15 w hw with ⟨g1, g2⟩ | ⟨w', g1, g2, g3, g4⟩
    · exact Or.inl ⟨by rw [h6 w hw]; exact g1, fun w' q => by rw [(hf w' (by omega)).2, (hf w hw).2]; exact g2 w' q⟩
    · exact Or.inr ⟨w', g1, by rw [h6 w hw]; exact g2, by rw [(hf w' (by omega)).2, (hf w hw).2]; exact g3, fun u q1 q2 => by rw [(hf u (by omega)).2, (hf w hw).2]; exact g4 u q1 q2⟩
section RNS
variable {A : Nat → Nat} {d b n : Nat} {h : Nat → Option jC} {X : jXX} {I : Nat → Nat → Int32} {J : Nat → Nat → Int64} {R : Nat → Nat → Nat} {nn nb q z : Nat} {f : Nat → Int32}
theorem r180h (hq : q + z ≤ 2000) (hf : ∀ k, k < z → I 249 (q + k) = f k) {c6 c7 c8 : Option Value} : ∀ r k, k + r = z → M180 A d 6 [some (.ref (b + 241)), some (.ref (b + 249)), some (.int (nI q)), some (.int (nI z)), some (.int (hsh f k)), some (.int (nI k)), c6, c7, c8] [] (jH h b X I J R n) = M180 A d 50 [some (.ref (b + 241)), some (.ref (b + 249)), some (.int (nI q)), some (.int (nI z)), some (.int (hsh f z)), some (.int (nI (slN (hsh f z)))), c6, c7, c8] [] (jH h b X I J R n) := by
  intro r
  induction r with
  | zero =>
    intro k hk
    have : k = z := by omega
    subst this
    rw [r180_6, ← (slX_e (hsh f k)).1]
    unfold slX
    simp (disch := omega) [r180_8, r180_9, r180_32, r180_34, r180_36, r180_37, r180_40, r180_41, r180_43, r180_46, r180_47, r180_48, List.getElem?_cons_zero, List.getElem?_cons_succ, List.length_cons, List.length_nil, ag_nx, ag_dn, ag_no, ag_if, jbr1, jbr2, jc1, jc2, jnul, jld, jsto, jstoL, jst1, jst2, jkill, jinc, jbI, jbL, jbS, juI, jl2i, jcmp, jisR, jisI, jisL, jret, jretv, jfits, jdup, jdup2, jpop, jmm, jcat, Value.category, jinv, jrcv, jthr, jhd, jput, jget, jlen, jald, jast, jaast, jgI, jgL, jgB, jtab, jlku, jacp, vf20, vf21, vf22, vf23, vf24, u2_s, u2_k, u2_i, uc_s, uc_k, uc_c, u2_c, LI0, LI1, LI2, LI3, LI4, LI5, LI6, LI7, LI8, LI9, LI10, LI11, LI12, LI13, LI14, LI15, LI16, LI17, LI18, LI19, LI20, LI21, LI22, LI23, LI24, LI25, LI26, LI27, LI28, LI29, LI30, LI31, LI32, LI33, LI34, LI35, LI36, LI37, LI40, LI42, LI43, LI45, LI48, LI60, LI61, LI64, LI80, LI300, LI400, LI1000, LI2000, LI2001, LI2047, LI2048, LI100000, LI1000000, LI38, LI39, LI41, LI44, LI46, LI47, LI49, LI50, LI51, LI52, LI53, LI54, LI55, LI56, LI57, LI58, LI59, LI62, LI63, LI65, LI66, LI67, LI68, LI69, LI70, LI71, LI72, LI73, LI74, LI75, LI76, LI77, LI78, LI79, LI81, LI82, LI83, LI84, LI85, LI86, LI87, LI88, LI89, LI90, LI91, LI92, LI93, LI94, LI95, LI96, LI97, LI98, LI99, LI100, LI101, LI102, LI103, LI104, LI105, LI106, LI107, LI108, LI109, LI110, LI111, LI112, LI113, LI114, LI115, LI116, LI117, LI118, LI119, LI120, LI121, LI122, LI123, LI124, LI125, LI126, LI127, LI255, LI256, LI999, LI1001, LI1002, LI1600, LI4096, LI1000001, LI2042, LM, nI_clamp, nI_pos', nI_lt, nI_nlt, nI_le, nI_ge, nI_ne, nI_add, nI_sub, mI_lt, mI_le, mI_nlt, mI_nle, mI_ne, mI_ne', mI_nem]
  | succ r ih =>
    intro k hk
    have e := ih (k + 1) (by omega)
    have hk2 := hf k (by omega)
    have eh : hsh f (k + 1) = nI 31 * hsh f k + f k := rfl
    rw [eh] at e
    rw [← e, r180_6]
    simp (disch := omega) [r180_8, r180_9, r180_12, r180_14, r180_16, r180_17, r180_18, r180_19, r180_21, r180_22, r180_23, r180_24, r180_26, r180_29, g249, List.getElem?_cons_zero, List.getElem?_cons_succ, List.length_cons, List.length_nil, ag_nx, ag_dn, ag_no, ag_if, jbr1, jbr2, jc1, jc2, jnul, jld, jsto, jstoL, jst1, jst2, jkill, jinc, jbI, jbL, jbS, juI, jl2i, jcmp, jisR, jisI, jisL, jret, jretv, jfits, jdup, jdup2, jpop, jmm, jcat, Value.category, jinv, jrcv, jthr, jhd, jput, jget, jlen, jald, jast, jaast, jgI, jgL, jgB, jtab, jlku, jacp, vf20, vf21, vf22, vf23, vf24, u2_s, u2_k, u2_i, uc_s, uc_k, uc_c, u2_c, LI0, LI1, LI2, LI3, LI4, LI5, LI6, LI7, LI8, LI9, LI10, LI11, LI12, LI13, LI14, LI15, LI16, LI17, LI18, LI19, LI20, LI21, LI22, LI23, LI24, LI25, LI26, LI27, LI28, LI29, LI30, LI31, LI32, LI33, LI34, LI35, LI36, LI37, LI40, LI42, LI43, LI45, LI48, LI60, LI61, LI64, LI80, LI300, LI400, LI1000, LI2000, LI2001, LI2047, LI2048, LI100000, LI1000000, LI38, LI39, LI41, LI44, LI46, LI47, LI49, LI50, LI51, LI52, LI53, LI54, LI55, LI56, LI57, LI58, LI59, LI62, LI63, LI65, LI66, LI67, LI68, LI69, LI70, LI71, LI72, LI73, LI74, LI75, LI76, LI77, LI78, LI79, LI81, LI82, LI83, LI84, LI85, LI86, LI87, LI88, LI89, LI90, LI91, LI92, LI93, LI94, LI95, LI96, LI97, LI98, LI99, LI100, LI101, LI102, LI103, LI104, LI105, LI106, LI107, LI108, LI109, LI110, LI111, LI112, LI113, LI114, LI115, LI116, LI117, LI118, LI119, LI120, LI121, LI122, LI123, LI124, LI125, LI126, LI127, LI255, LI256, LI999, LI1001, LI1002, LI1600, LI4096, LI1000001, LI2042, LM, nI_clamp, nI_pos', nI_lt, nI_nlt, nI_le, nI_ge, nI_ne, nI_add, nI_sub, mI_lt, mI_le, mI_nlt, mI_nle, mI_ne, mI_ne', mI_nem, hk2, show q + k < 2000 by omega]
/-- the bytes are compared -/
theorem r180c (hN : rNm X I nn nb) (hq : q + z ≤ 2000) (hf : ∀ k, k < z → I 249 (q + k) = f k) {w : Nat} (hw : w < nn) (hz : rz I w = z) {c4 c5 : Option Value} : ∀ r k, k + r = z → (∀ j, j < k → rb I w j = f j) → (∃ c8, M180 A d 85 [some (.ref (b + 241)), some (.ref (b + 249)), some (.int (nI q)), some (.int (nI z)), c4, c5, some (.int (nI w)), some (.int (nI 1)), some (.int (nI k))] [] (jH h b X I J R n) = M180 A d 133 [some (.ref (b + 241)), some (.ref (b + 249)), some (.int (nI q)), some (.int (nI z)), c4, c5, some (.int (nI w)), some (.int (nI 1)), c8] [] (jH h b X I J R n)) ∧ (∀ j, j < z → rb I w j = f j) ∨ (∃ c8, M180 A d 85 [some (.ref (b + 241)), some (.ref (b + 249)), some (.int (nI q)), some (.int (nI z)), c4, c5, some (.int (nI w)), some (.int (nI 1)), some (.int (nI k))] [] (jH h b X I J R n) = M180 A d 133 [some (.ref (b + 241)), some (.ref (b + 249)), some (.int (nI q)), some (.int (nI z)), c4, c5, some (.int (nI w)), some (.int (nI 0)), c8] [] (jH h b X I J R n)) ∧ ∃ j, j < z ∧ ¬ rb I w j = f j := by
  obtain ⟨b1, b2, b3, b4, b5, b6, b7⟩ := rn1_e (hN.2.2.2.2.2.2.2.2.2.2.2.1 w hw)
  have hnb := hN.2.2.2.2.2.1
  have hcp := hN.2.2.2.2.2.2.2.2.2.1
  have hcn := hN.2.2.1
  have hcn2 := hN.2.2.2.2.2.2.2.2.1
  intro r
  induction r with
  | zero =>
    intro k hk hj
    have : k = z := by omega
    subst this
    refine Or.inl ⟨⟨some (.int (nI k)), ?_⟩, hj⟩
    rw [r180_85]
    simp (disch := omega) [r180_87, r180_88, List.getElem?_cons_zero, List.getElem?_cons_succ, List.length_cons, List.length_nil, ag_nx, ag_dn, ag_no, ag_if, jbr1, jbr2, jc1, jc2, jnul, jld, jsto, jstoL, jst1, jst2, jkill, jinc, jbI, jbL, jbS, juI, jl2i, jcmp, jisR, jisI, jisL, jret, jretv, jfits, jdup, jdup2, jpop, jmm, jcat, Value.category, jinv, jrcv, jthr, jhd, jput, jget, jlen, jald, jast, jaast, jgI, jgL, jgB, jtab, jlku, jacp, vf20, vf21, vf22, vf23, vf24, u2_s, u2_k, u2_i, uc_s, uc_k, uc_c, u2_c, LI0, LI1, LI2, LI3, LI4, LI5, LI6, LI7, LI8, LI9, LI10, LI11, LI12, LI13, LI14, LI15, LI16, LI17, LI18, LI19, LI20, LI21, LI22, LI23, LI24, LI25, LI26, LI27, LI28, LI29, LI30, LI31, LI32, LI33, LI34, LI35, LI36, LI37, LI40, LI42, LI43, LI45, LI48, LI60, LI61, LI64, LI80, LI300, LI400, LI1000, LI2000, LI2001, LI2047, LI2048, LI100000, LI1000000, LI38, LI39, LI41, LI44, LI46, LI47, LI49, LI50, LI51, LI52, LI53, LI54, LI55, LI56, LI57, LI58, LI59, LI62, LI63, LI65, LI66, LI67, LI68, LI69, LI70, LI71, LI72, LI73, LI74, LI75, LI76, LI77, LI78, LI79, LI81, LI82, LI83, LI84, LI85, LI86, LI87, LI88, LI89, LI90, LI91, LI92, LI93, LI94, LI95, LI96, LI97, LI98, LI99, LI100, LI101, LI102, LI103, LI104, LI105, LI106, LI107, LI108, LI109, LI110, LI111, LI112, LI113, LI114, LI115, LI116, LI117, LI118, LI119, LI120, LI121, LI122, LI123, LI124, LI125, LI126, LI127, LI255, LI256, LI999, LI1001, LI1002, LI1600, LI4096, LI1000001, LI2042, LM, nI_clamp, nI_pos', nI_lt, nI_nlt, nI_le, nI_ge, nI_ne, nI_add, nI_sub, mI_lt, mI_le, mI_nlt, mI_nle, mI_ne, mI_ne', mI_nem]
  | succ r ih =>
    intro k hk hj
    have hk2 := hf k (by omega)
    obtain ⟨aa, haa⟩ : ∃ aa, aa = ix (I 244 w) := ⟨_, rfl⟩
    have b4' : I 244 w = nI aa := by rw [haa]; exact b4
    have hrb : I 243 (aa + k) = rb I w k := by rw [haa]; rfl
    have step : M180 A d 85 [some (.ref (b + 241)), some (.ref (b + 249)), some (.int (nI q)), some (.int (nI z)), c4, c5, some (.int (nI w)), some (.int (nI 1)), some (.int (nI k))] [] (jH h b X I J R n) = M180 A d 85 [some (.ref (b + 241)), some (.ref (b + 249)), some (.int (nI q)), some (.int (nI z)), c4, c5, some (.int (nI w)), some (.int (if rb I w k = f k then nI 1 else nI 0)), some (.int (nI (k + 1)))] [] (jH h b X I J R n) := by
      rw [r180_85]
      by_cases hc : rb I w k = f k
      · rw [if_pos hc]
        simp (disch := omega) [r180_87, r180_88, r180_91, r180_93, r180_96, r180_97, r180_100, r180_101, r180_104, r180_106, r180_107, r180_109, r180_110, r180_111, r180_112, r180_113, r180_115, r180_116, r180_117, r180_120, r180_121, r180_124, r180_125, r180_127, r180_130, g241, vf12_3, t241_3, g243, vf12_4, t241_4, g244, g249, List.getElem?_cons_zero, List.getElem?_cons_succ, List.length_cons, List.length_nil, ag_nx, ag_dn, ag_no, ag_if, jbr1, jbr2, jc1, jc2, jnul, jld, jsto, jstoL, jst1, jst2, jkill, jinc, jbI, jbL, jbS, juI, jl2i, jcmp, jisR, jisI, jisL, jret, jretv, jfits, jdup, jdup2, jpop, jmm, jcat, Value.category, jinv, jrcv, jthr, jhd, jput, jget, jlen, jald, jast, jaast, jgI, jgL, jgB, jtab, jlku, jacp, vf20, vf21, vf22, vf23, vf24, u2_s, u2_k, u2_i, uc_s, uc_k, uc_c, u2_c, LI0, LI1, LI2, LI3, LI4, LI5, LI6, LI7, LI8, LI9, LI10, LI11, LI12, LI13, LI14, LI15, LI16, LI17, LI18, LI19, LI20, LI21, LI22, LI23, LI24, LI25, LI26, LI27, LI28, LI29, LI30, LI31, LI32, LI33, LI34, LI35, LI36, LI37, LI40, LI42, LI43, LI45, LI48, LI60, LI61, LI64, LI80, LI300, LI400, LI1000, LI2000, LI2001, LI2047, LI2048, LI100000, LI1000000, LI38, LI39, LI41, LI44, LI46, LI47, LI49, LI50, LI51, LI52, LI53, LI54, LI55, LI56, LI57, LI58, LI59, LI62, LI63, LI65, LI66, LI67, LI68, LI69, LI70, LI71, LI72, LI73, LI74, LI75, LI76, LI77, LI78, LI79, LI81, LI82, LI83, LI84, LI85, LI86, LI87, LI88, LI89, LI90, LI91, LI92, LI93, LI94, LI95, LI96, LI97, LI98, LI99, LI100, LI101, LI102, LI103, LI104, LI105, LI106, LI107, LI108, LI109, LI110, LI111, LI112, LI113, LI114, LI115, LI116, LI117, LI118, LI119, LI120, LI121, LI122, LI123, LI124, LI125, LI126, LI127, LI255, LI256, LI999, LI1001, LI1002, LI1600, LI4096, LI1000001, LI2042, LM, nI_clamp, nI_pos', nI_lt, nI_nlt, nI_le, nI_ge, nI_ne, nI_add, nI_sub, mI_lt, mI_le, mI_nlt, mI_nle, mI_ne, mI_ne', mI_nem, hk2, b4', hrb, hc, show q + k < 2000 by omega, show w < cp X 244 by omega, show aa + k < cp X 243 by omega]
      · rw [if_neg hc]
        simp (disch := omega) [r180_87, r180_88, r180_91, r180_93, r180_96, r180_97, r180_100, r180_101, r180_104, r180_106, r180_107, r180_109, r180_110, r180_111, r180_112, r180_113, r180_115, r180_116, r180_117, r180_120, r180_121, r180_124, r180_125, r180_127, r180_130, g241, vf12_3, t241_3, g243, vf12_4, t241_4, g244, g249, List.getElem?_cons_zero, List.getElem?_cons_succ, List.length_cons, List.length_nil, ag_nx, ag_dn, ag_no, ag_if, jbr1, jbr2, jc1, jc2, jnul, jld, jsto, jstoL, jst1, jst2, jkill, jinc, jbI, jbL, jbS, juI, jl2i, jcmp, jisR, jisI, jisL, jret, jretv, jfits, jdup, jdup2, jpop, jmm, jcat, Value.category, jinv, jrcv, jthr, jhd, jput, jget, jlen, jald, jast, jaast, jgI, jgL, jgB, jtab, jlku, jacp, vf20, vf21, vf22, vf23, vf24, u2_s, u2_k, u2_i, uc_s, uc_k, uc_c, u2_c, LI0, LI1, LI2, LI3, LI4, LI5, LI6, LI7, LI8, LI9, LI10, LI11, LI12, LI13, LI14, LI15, LI16, LI17, LI18, LI19, LI20, LI21, LI22, LI23, LI24, LI25, LI26, LI27, LI28, LI29, LI30, LI31, LI32, LI33, LI34, LI35, LI36, LI37, LI40, LI42, LI43, LI45, LI48, LI60, LI61, LI64, LI80, LI300, LI400, LI1000, LI2000, LI2001, LI2047, LI2048, LI100000, LI1000000, LI38, LI39, LI41, LI44, LI46, LI47, LI49, LI50, LI51, LI52, LI53, LI54, LI55, LI56, LI57, LI58, LI59, LI62, LI63, LI65, LI66, LI67, LI68, LI69, LI70, LI71, LI72, LI73, LI74, LI75, LI76, LI77, LI78, LI79, LI81, LI82, LI83, LI84, LI85, LI86, LI87, LI88, LI89, LI90, LI91, LI92, LI93, LI94, LI95, LI96, LI97, LI98, LI99, LI100, LI101, LI102, LI103, LI104, LI105, LI106, LI107, LI108, LI109, LI110, LI111, LI112, LI113, LI114, LI115, LI116, LI117, LI118, LI119, LI120, LI121, LI122, LI123, LI124, LI125, LI126, LI127, LI255, LI256, LI999, LI1001, LI1002, LI1600, LI4096, LI1000001, LI2042, LM, nI_clamp, nI_pos', nI_lt, nI_nlt, nI_le, nI_ge, nI_ne, nI_add, nI_sub, mI_lt, mI_le, mI_nlt, mI_nle, mI_ne, mI_ne', mI_nem, hk2, b4', hrb, hc, show q + k < 2000 by omega, show w < cp X 244 by omega, show aa + k < cp X 243 by omega]
    by_cases hc : rb I w k = f k
    · rw [if_pos hc] at step
      rw [step]
      exact ih (k + 1) (by omega) (fun j hj' => by
        by_cases e : j = k
        · rw [e]; exact hc
        · exact hj j (by omega))
    · rw [if_neg hc] at step
      rw [step]
      refine Or.inr ⟨⟨some (.int (nI (k + 1))), ?_⟩, k, by omega, hc⟩
      rw [r180_85]
      by_cases h9 : k + 1 < z
      · simp (disch := omega) [r180_87, r180_88, r180_91, r180_93, List.getElem?_cons_zero, List.getElem?_cons_succ, List.length_cons, List.length_nil, ag_nx, ag_dn, ag_no, ag_if, jbr1, jbr2, jc1, jc2, jnul, jld, jsto, jstoL, jst1, jst2, jkill, jinc, jbI, jbL, jbS, juI, jl2i, jcmp, jisR, jisI, jisL, jret, jretv, jfits, jdup, jdup2, jpop, jmm, jcat, Value.category, jinv, jrcv, jthr, jhd, jput, jget, jlen, jald, jast, jaast, jgI, jgL, jgB, jtab, jlku, jacp, vf20, vf21, vf22, vf23, vf24, u2_s, u2_k, u2_i, uc_s, uc_k, uc_c, u2_c, LI0, LI1, LI2, LI3, LI4, LI5, LI6, LI7, LI8, LI9, LI10, LI11, LI12, LI13, LI14, LI15, LI16, LI17, LI18, LI19, LI20, LI21, LI22, LI23, LI24, LI25, LI26, LI27, LI28, LI29, LI30, LI31, LI32, LI33, LI34, LI35, LI36, LI37, LI40, LI42, LI43, LI45, LI48, LI60, LI61, LI64, LI80, LI300, LI400, LI1000, LI2000, LI2001, LI2047, LI2048, LI100000, LI1000000, LI38, LI39, LI41, LI44, LI46, LI47, LI49, LI50, LI51, LI52, LI53, LI54, LI55, LI56, LI57, LI58, LI59, LI62, LI63, LI65, LI66, LI67, LI68, LI69, LI70, LI71, LI72, LI73, LI74, LI75, LI76, LI77, LI78, LI79, LI81, LI82, LI83, LI84, LI85, LI86, LI87, LI88, LI89, LI90, LI91, LI92, LI93, LI94, LI95, LI96, LI97, LI98, LI99, LI100, LI101, LI102, LI103, LI104, LI105, LI106, LI107, LI108, LI109, LI110, LI111, LI112, LI113, LI114, LI115, LI116, LI117, LI118, LI119, LI120, LI121, LI122, LI123, LI124, LI125, LI126, LI127, LI255, LI256, LI999, LI1001, LI1002, LI1600, LI4096, LI1000001, LI2042, LM, nI_clamp, nI_pos', nI_lt, nI_nlt, nI_le, nI_ge, nI_ne, nI_add, nI_sub, mI_lt, mI_le, mI_nlt, mI_nle, mI_ne, mI_ne', mI_nem]
      · simp (disch := omega) [r180_87, r180_88, r180_91, r180_93, List.getElem?_cons_zero, List.getElem?_cons_succ, List.length_cons, List.length_nil, ag_nx, ag_dn, ag_no, ag_if, jbr1, jbr2, jc1, jc2, jnul, jld, jsto, jstoL, jst1, jst2, jkill, jinc, jbI, jbL, jbS, juI, jl2i, jcmp, jisR, jisI, jisL, jret, jretv, jfits, jdup, jdup2, jpop, jmm, jcat, Value.category, jinv, jrcv, jthr, jhd, jput, jget, jlen, jald, jast, jaast, jgI, jgL, jgB, jtab, jlku, jacp, vf20, vf21, vf22, vf23, vf24, u2_s, u2_k, u2_i, uc_s, uc_k, uc_c, u2_c, LI0, LI1, LI2, LI3, LI4, LI5, LI6, LI7, LI8, LI9, LI10, LI11, LI12, LI13, LI14, LI15, LI16, LI17, LI18, LI19, LI20, LI21, LI22, LI23, LI24, LI25, LI26, LI27, LI28, LI29, LI30, LI31, LI32, LI33, LI34, LI35, LI36, LI37, LI40, LI42, LI43, LI45, LI48, LI60, LI61, LI64, LI80, LI300, LI400, LI1000, LI2000, LI2001, LI2047, LI2048, LI100000, LI1000000, LI38, LI39, LI41, LI44, LI46, LI47, LI49, LI50, LI51, LI52, LI53, LI54, LI55, LI56, LI57, LI58, LI59, LI62, LI63, LI65, LI66, LI67, LI68, LI69, LI70, LI71, LI72, LI73, LI74, LI75, LI76, LI77, LI78, LI79, LI81, LI82, LI83, LI84, LI85, LI86, LI87, LI88, LI89, LI90, LI91, LI92, LI93, LI94, LI95, LI96, LI97, LI98, LI99, LI100, LI101, LI102, LI103, LI104, LI105, LI106, LI107, LI108, LI109, LI110, LI111, LI112, LI113, LI114, LI115, LI116, LI117, LI118, LI119, LI120, LI121, LI122, LI123, LI124, LI125, LI126, LI127, LI255, LI256, LI999, LI1001, LI1002, LI1600, LI4096, LI1000001, LI2042, LM, nI_clamp, nI_pos', nI_lt, nI_nlt, nI_le, nI_ge, nI_ne, nI_add, nI_sub, mI_lt, mI_le, mI_nlt, mI_nle, mI_ne, mI_ne', mI_nem]
end RNS
