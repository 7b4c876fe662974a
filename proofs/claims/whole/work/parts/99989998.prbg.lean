/-! all begin: what is there then; the reference -/
section VMO
variable {N : Nat → Nat → Int32} {M M' nv ns np : Nat}
theorem xOK_mo (hM : M ≤ M') : ∀ (r e : Nat), xOK N M nv r e → xOK N M' nv r e := by
  intro r
  induction r with
  | zero => intro e h; exact h
  | succ r ih =>
    intro e h
    refine ⟨by have := h.1; omega, ?_⟩
    rcases h.2 with a | a | a | ⟨a, f, b, c⟩ | ⟨a, b, f, g, c, c', e1, e2⟩
    · exact Or.inl a
    · exact Or.inr (Or.inl a)
    · exact Or.inr (Or.inr (Or.inl a))
    · exact Or.inr (Or.inr (Or.inr (Or.inl ⟨a, f, b, ih f c⟩)))
    · exact Or.inr (Or.inr (Or.inr (Or.inr ⟨a, b, f, g, c, c', ih f e1, ih g e2⟩)))
theorem chOK_mo (hM : M ≤ M') : ∀ (r : Nat) (x : Int32), chOK N M r x → chOK N M' r x := by
  intro r
  induction r with
  | zero => intro x h; exact h
  | succ r ih =>
    intro x h
    rcases h with h | ⟨a, h1, h2, h3⟩
    · exact Or.inl h
    · exact Or.inr ⟨a, h1, by omega, ih _ h3⟩
theorem vA_mo (hM : M ≤ M') {a : Nat} (h : vA N M nv ns np a) : vA N M' nv ns np a := by
  refine ⟨by have := h.1; omega, ?_⟩
  rcases h.2 with ⟨a1, e, j, a2, a3, a4⟩ | ⟨a1, a2, a3⟩ | ⟨a1, e, a2, a3⟩ | a1 | a1 | a1 | a1 | ⟨a1, e, a2, a3⟩
  · exact Or.inl ⟨a1, e, j, a2, xOK_mo hM _ _ a3, a4⟩
  · refine Or.inr (Or.inl ⟨a1, ?_, a3⟩)
    rcases a2 with z | ⟨e, z1, z2⟩
    · exact Or.inl z
    · exact Or.inr ⟨e, z1, xOK_mo hM _ _ z2⟩
  · exact Or.inr (Or.inr (Or.inl ⟨a1, e, a2, xOK_mo hM _ _ a3⟩))
  · exact Or.inr (Or.inr (Or.inr (Or.inl a1)))
  · exact Or.inr (Or.inr (Or.inr (Or.inr (Or.inl a1))))
  · exact Or.inr (Or.inr (Or.inr (Or.inr (Or.inr (Or.inl a1)))))
  · exact Or.inr (Or.inr (Or.inr (Or.inr (Or.inr (Or.inr (Or.inl a1))))))
  · exact Or.inr (Or.inr (Or.inr (Or.inr (Or.inr (Or.inr (Or.inr ⟨a1, e, a2, xOK_mo hM _ _ a3⟩))))))
theorem vK_mo (hM : M ≤ M') {a : Nat} (h : vK N M a) : vK N M' a := ⟨by have := h.1; omega, chOK_mo hM _ _ h.2⟩
theorem vB_mo (hM : M ≤ M') : ∀ (r : Nat) (as : List Nat), vB N M nv ns np r as → vB N M' nv ns np r as := by
  intro r
  induction r with
  | zero => intro as h; exact h
  | succ r ih =>
    intro as h
    cases as with
    | nil => trivial
    | cons a as =>
      refine ⟨ih as h.1, ?_⟩
      rcases h.2 with z | ⟨z1, z2, e, f, z3, z4, z5, z6, z7, z8⟩
      · exact Or.inl (vA_mo hM z)
      · refine Or.inr ⟨by omega, z2, e, f, z3, xOK_mo hM _ _ z4, z5, vK_mo hM z6, ih _ z7, ?_⟩
        rcases z8 with z | ⟨g, y1, y2, y3⟩
        · exact Or.inl z
        · exact Or.inr ⟨g, y1, vK_mo hM y2, ih _ y3⟩
theorem vC_mo (hM : M ≤ M') {c : Nat} (h : vC N M nv ns np c) : vC N M' nv ns np c := by
  refine ⟨by have := h.1; omega, ?_⟩
  rcases h.2 with ⟨a, b, x, c1, c2, c3, c4⟩ | a | ⟨a, x, c1, c2, c3, c4⟩ | ⟨a, ⟨e, b1, b2⟩, x, c1, c2, c3, c4⟩
  · exact Or.inl ⟨a, b, x, c1, vK_mo hM c2, vB_mo hM _ _ c3, c4⟩
  · exact Or.inr (Or.inl a)
  · exact Or.inr (Or.inr (Or.inl ⟨a, x, c1, vK_mo hM c2, vB_mo hM _ _ c3, c4⟩))
  · exact Or.inr (Or.inr (Or.inr ⟨a, ⟨e, b1, xOK_mo hM _ _ b2⟩, x, c1, vK_mo hM c2, vB_mo hM _ _ c3, c4⟩))
theorem vN_mo (hM : M ≤ M') (hM' : M' < 2 ^ 20) (h : vN N M np) : vN N M' np := by
  refine ⟨h.1, h.2.1, hM', fun p hp => ?_⟩
  obtain ⟨a1, a2, a3, a4, a5, a6, a7, ⟨x, a8, a9, a10, a11⟩, a12⟩ := h.2.2.2 p hp
  refine ⟨by omega, a2, a3, chOK_mo hM _ _ a4, a5, chOK_mo hM _ _ a6, a7, ⟨x, a8, vK_mo hM a9, vB_mo hM _ _ a10, a11⟩, fun s y hy => ?_⟩
  obtain ⟨b1, b2, b3, b4⟩ := a12 s y hy
  exact ⟨by omega, chOK_mo hM _ _ b2, b3, fun j c hc => vC_mo hM (b4 j c hc)⟩
end VMO
section OKB
variable {rN : Int32 → Nm} {N : Nat → Nat → Int32} {l : Bool} {np p : Nat}
def cnP (W : aW Nm) (p : Nat) : Nat := (W.1.map (fun a => a.1.2.1)).countP (fun x => decide (x = nI p))
theorem cnP_new {W W' : aW Nm} {g mk : Int32} {p' : Nat} (h : W'.1 = W.1 ++ [aNew N g p mk]) (hp : p < 2 ^ 31) (hp' : p' < 2 ^ 31) : cnP W' p' = cnP W p' + if p = p' then 1 else 0 := by
  unfold cnP
  rw [h, List.map_append, List.countP_append]
  congr 1
  show List.countP _ [nI p] = _
  by_cases e : p = p'
  · subst e; simp
  · rw [if_neg e]
    have : ¬ nI p = nI p' := nI_ne e hp hp'
    simp [this]
theorem ok_more {B D : Nat} (h6 : np ≤ 6) (hp : p < np) : ∀ (r : Nat) (W : aW Nm), okW N np B W → okD D W → cnP W p + r ≤ 3 → okW N np B (aMore rN N l p r W) ∧ okD D (aMore rN N l p r W) ∧ ∀ p', p' < 6 → p' ≠ p → cnP (aMore rN N l p r W) p' = cnP W p' := by
  intro r
  induction r with
  | zero => intro W h hd _; exact ⟨h, hd, fun _ _ _ => rfl⟩
  | succ r ih =>
    intro W h hd hc
    unfold aMore
    by_cases h8 : W.1.length < 8
    · rw [if_pos h8]
      have e1 : (aFresh rN N l p (-1) W).1 = W.1 ++ [aNew N W.2.1.1 p (-1)] := rfl
      have k1 : okW N np B (aFresh rN N l p (-1) W) := okW_new h h8 hp h6 (by unfold cnP at hc; omega) rfl e1 rfl
      have k2 : okD D (aFresh rN N l p (-1) W) := by
        refine ⟨hd.1, fun k a hk t ht => ?_⟩
        rw [e1] at hk
        rcases Nat.lt_or_ge k W.1.length with q | q
        · rw [List.getElem?_append_left q] at hk
          exact hd.2 k a hk t ht
        · rw [List.getElem?_append_right q] at hk
          have : a ∈ [aNew N W.2.1.1 p (-1)] := List.mem_of_getElem? hk
          rw [List.mem_singleton.mp this] at ht
          cases ht
      have hc1 := cnP_new (N := N) (p := p) (p' := p) e1 (by omega) (by omega)
      rw [if_pos rfl] at hc1
      obtain ⟨i1, i2, i3⟩ := ih _ k1 k2 (by omega)
      refine ⟨i1, i2, fun p' hp' hne => ?_⟩
      rw [i3 p' hp' hne, cnP_new (N := N) (p := p) (p' := p') e1 (by omega) (by omega), if_neg (fun z => hne z.symm)]
      rfl
    · rw [if_neg h8]
      exact ⟨h, hd, fun _ _ _ => rfl⟩
theorem ok_beg {B D M : Nat} (hv : vN N M np) : ∀ (r p : Nat) (W : aW Nm), p + r = np → okW N np B W → okD D W → (∀ p', p ≤ p' → p' < 6 → cnP W p' = 0) → okW N np B (aBeg rN N l r p W) ∧ okD D (aBeg rN N l r p W) := by
  intro r
  induction r with
  | zero => intro p W _ h hd _; exact ⟨h, hd⟩
  | succ r ih =>
    intro p W hp h hd hc
    have h6 := hv.1
    obtain ⟨_, _, ⟨m, m3, me⟩, _⟩ := hv.2.2.2 p (by omega)
    have hm : ix (N 257 (pnd N p)) = m := by rw [me]; exact nI_clamp (by omega)
    unfold aBeg
    rw [hm]
    have c0 := hc p (Nat.le_refl _) (by omega)
    obtain ⟨i1, i2, i3⟩ := ok_more (rN := rN) (l := l) h6 (p := p) (by omega) m W h hd (by omega)
    exact ih (p + 1) _ (by omega) i1 i2 (fun p' h1 h2 => by rw [i3 p' h2 (by omega)]; exact hc p' (by omega) h2)
theorem ok_begin {D M : Nat} (hv : vN N M np) : okW N np 0 (aBegin rN N np) ∧ okD D (aBegin rN N np) := by
  unfold aBegin
  refine ok_beg hv np 0 _ (by omega) ⟨by simp, fun k a hk => by simp at hk, fun p hp => by simp, 0, [], rfl, by simp, rfl, List.Pairwise.nil, fun x hx => by cases hx⟩ ⟨⟨0, rfl, by omega⟩, fun k a hk => by simp at hk⟩ (fun p' _ _ => rfl)
end OKB
section RBG
variable {A : Nat → Nat} {d b n : Nat} {h : Nat → Option jC} {X : jXX} {J : Nat → Nat → Int64} {R : Nat → Nat → Nat} {rN : Int32 → Nm} {N : Nat → Nat → Int32} {M np p : Nat}
theorem okW_l {M B : Nat} {W : aW Nm} (hv : vN N M np) (h : okW N np B W) : okL W.1 := okW_L hv.1 (fun p hp => (hv.2.2.2 p hp).2.2.2.2.1) h
theorem r227m {B D : Nat} (hv : vN N M np) (hp : p < np) {m : Nat} (hm : N 257 (pnd N p) = nI m) (m3 : m ≤ 3) : ∀ (r i : Nat) (W : aW Nm) (I : Nat → Nat → Int32), i + r = m → plR X I N M → okW N np B W → okD D W → cnP W p + r ≤ 3 → wR rN I true W → ∃ I' c2, M227 A (d + 2) 52 [some (.ref (b + 241)), some (.int (nI p)), some (.int (nI i))] [] (jH h b X I J R n) = M227 A (d + 2) 88 [some (.ref (b + 241)), some (.int (nI p)), some (.int c2)] [] (jH h b X I' J R n) ∧ wR rN I' true (aMore rN N true p r W) ∧ fR I I' := by
  obtain ⟨v1, v2, _⟩ := hv.2.2.2 p hp
  have h6 := hv.1
  have hM := hv.2.2.1
  intro r
  induction r with
  | zero =>
    intro i W I hi hpl hok hd hcn hW
    have : i = m := by omega
    subst this
    refine ⟨I, nI i, ?_, hW, fR_refl⟩
    have n9 := (hpl.1 259 p (by omega) (by omega) (by omega)).trans v2
    have n7 := (hpl.1 257 (pnd N p) (by omega) (by omega) (by omega)).trans hm
    have c7 := hpl.2.1 257 (by omega) (by omega)
    have c7' : pnd N p < cp X 257 := by omega
    have hp6 : p < 6 := by omega
    conv => lhs; rw [r227_52]
    simp (disch := omega) [r227_0, r227_1, r227_2, r227_5, r227_6, r227_7, r227_10, r227_11, r227_12, r227_15, r227_16, r227_17, r227_20, r227_21, r227_22, r227_25, r227_26, r227_27, r227_30, r227_31, r227_32, r227_35, r227_36, r227_37, r227_40, r227_41, r227_42, r227_43, r227_44, r227_47, r227_50, r227_51, r227_53, r227_54, r227_57, r227_58, r227_61, r227_62, r227_63, r227_64, r227_67, r227_68, r227_71, r227_73, r227_76, r227_77, r227_78, r227_79, r227_82, r227_85, r227_91, r227_94, g241, p241_36, ty12_36, p241_37, ty12_37, p241_38, ty12_38, p241_39, ty12_39, p241_40, ty12_40, p241_64, ty12_64, p241_65, ty12_65, p241_41, ty12_41, vf12_34, vf12_27, t241_27, g257, vf12_35, t241_35, g259, vf12_36, qa222, qo222, List.getElem?_cons_zero, List.getElem?_cons_succ, List.length_cons, List.length_nil, ag_nx, ag_dn, ag_no, ag_if, jbr1, jbr2, jc1, jc2, jnul, jld, jsto, jstoL, jst1, jst2, jkill, jinc, jbI, jbL, jbS, juI, jl2i, jcmp, jisR, jisI, jisL, jret, jretv, jfits, jdup, jdup2, jpop, jmm, jcat, Value.category, jinv, jrcv, jthr, jhd, jput, jget, jlen, jald, jast, jaast, jgI, jgL, jgB, jtab, jlku, jacp, vf20, vf21, vf22, vf23, vf24, u2_s, u2_k, u2_i, uc_s, uc_k, uc_c, u2_c, LI0, LI1, LI2, LI3, LI4, LI5, LI6, LI7, LI8, LI9, LI10, LI11, LI12, LI13, LI14, LI15, LI16, LI17, LI18, LI19, LI20, LI21, LI22, LI23, LI24, LI25, LI26, LI27, LI28, LI29, LI30, LI31, LI32, LI33, LI34, LI35, LI36, LI37, LI40, LI42, LI43, LI45, LI48, LI60, LI61, LI64, LI80, LI300, LI400, LI1000, LI2000, LI2001, LI2047, LI2048, LI100000, LI1000000, LI38, LI39, LI41, LI44, LI46, LI47, LI49, LI50, LI51, LI52, LI53, LI54, LI55, LI56, LI57, LI58, LI59, LI62, LI63, LI65, LI66, LI67, LI68, LI69, LI70, LI71, LI72, LI73, LI74, LI75, LI76, LI77, LI78, LI79, LI81, LI82, LI83, LI84, LI85, LI86, LI87, LI88, LI89, LI90, LI91, LI92, LI93, LI94, LI95, LI96, LI97, LI98, LI99, LI100, LI101, LI102, LI103, LI104, LI105, LI106, LI107, LI108, LI109, LI110, LI111, LI112, LI113, LI114, LI115, LI116, LI117, LI118, LI119, LI120, LI121, LI122, LI123, LI124, LI125, LI126, LI127, LI255, LI256, LI999, LI1001, LI1002, LI1600, LI4096, LI1000001, LI2042, LM, nI_clamp, nI_pos', nI_lt, nI_nlt, nI_le, nI_ge, nI_ne, nI_add, nI_sub, mI_lt, mI_le, mI_nlt, mI_nle, mI_ne, mI_ne', mI_nem, n9, n7, c7', hp6]
  | succ r ih =>
    intro i W I hi hpl hok hd hcn hW
    have n9 := (hpl.1 259 p (by omega) (by omega) (by omega)).trans v2
    have n7 := (hpl.1 257 (pnd N p) (by omega) (by omega) (by omega)).trans hm
    have c7 := hpl.2.1 257 (by omega) (by omega)
    have c7' : pnd N p < cp X 257 := by omega
    have hp6 : p < 6 := by omega
    have hl := hok.1
    have h36 : I 241 36 = nI W.1.length := hW.1.2.1
    unfold aMore
    by_cases h8 : W.1.length < 8
    · rw [if_pos h8]
      obtain ⟨I1, e, w1, w2⟩ := rFresh (A := A) (d := d) (b := b) (h := h) (X := X) (J := J) (R := R) (n := n) (mk := -1) hpl hv hW (okW_l hv hok) h8 hp
      have e1 : (aFresh rN N true p (-1) W).1 = W.1 ++ [aNew N W.2.1.1 p (-1)] := rfl
      have hc1 := cnP_new (N := N) (p := p) (p' := p) e1 (by omega) (by omega)
      rw [if_pos rfl] at hc1
      obtain ⟨k1, k2, _⟩ := ok_more (rN := rN) (l := true) h6 hp 1 W hok hd (by omega)
      have e2 : aMore rN N true p 1 W = aFresh rN N true p (-1) W := by
        unfold aMore; rw [if_pos h8]; rfl
      rw [e2] at k1 k2
      obtain ⟨I2, c2, f1, f2, f3⟩ := ih (i + 1) (aFresh rN N true p (-1) W) I1 (by omega) (plR_f w2 hpl) k1 k2 (by omega) w1
      refine ⟨I2, c2, ?_, f2, fR_trans w2 f3⟩
      rw [← f1]
      rw [show (-1 : Int32) = mI 1 from m1e.symm] at e
      conv => lhs; rw [r227_52]
      simp (disch := omega) [r227_0, r227_1, r227_2, r227_5, r227_6, r227_7, r227_10, r227_11, r227_12, r227_15, r227_16, r227_17, r227_20, r227_21, r227_22, r227_25, r227_26, r227_27, r227_30, r227_31, r227_32, r227_35, r227_36, r227_37, r227_40, r227_41, r227_42, r227_43, r227_44, r227_47, r227_50, r227_51, r227_53, r227_54, r227_57, r227_58, r227_61, r227_62, r227_63, r227_64, r227_67, r227_68, r227_71, r227_73, r227_76, r227_77, r227_78, r227_79, r227_82, r227_85, r227_91, r227_94, g241, p241_36, ty12_36, p241_37, ty12_37, p241_38, ty12_38, p241_39, ty12_39, p241_40, ty12_40, p241_64, ty12_64, p241_65, ty12_65, p241_41, ty12_41, vf12_34, vf12_27, t241_27, g257, vf12_35, t241_35, g259, vf12_36, qa222, qo222, List.getElem?_cons_zero, List.getElem?_cons_succ, List.length_cons, List.length_nil, ag_nx, ag_dn, ag_no, ag_if, jbr1, jbr2, jc1, jc2, jnul, jld, jsto, jstoL, jst1, jst2, jkill, jinc, jbI, jbL, jbS, juI, jl2i, jcmp, jisR, jisI, jisL, jret, jretv, jfits, jdup, jdup2, jpop, jmm, jcat, Value.category, jinv, jrcv, jthr, jhd, jput, jget, jlen, jald, jast, jaast, jgI, jgL, jgB, jtab, jlku, jacp, vf20, vf21, vf22, vf23, vf24, u2_s, u2_k, u2_i, uc_s, uc_k, uc_c, u2_c, LI0, LI1, LI2, LI3, LI4, LI5, LI6, LI7, LI8, LI9, LI10, LI11, LI12, LI13, LI14, LI15, LI16, LI17, LI18, LI19, LI20, LI21, LI22, LI23, LI24, LI25, LI26, LI27, LI28, LI29, LI30, LI31, LI32, LI33, LI34, LI35, LI36, LI37, LI40, LI42, LI43, LI45, LI48, LI60, LI61, LI64, LI80, LI300, LI400, LI1000, LI2000, LI2001, LI2047, LI2048, LI100000, LI1000000, LI38, LI39, LI41, LI44, LI46, LI47, LI49, LI50, LI51, LI52, LI53, LI54, LI55, LI56, LI57, LI58, LI59, LI62, LI63, LI65, LI66, LI67, LI68, LI69, LI70, LI71, LI72, LI73, LI74, LI75, LI76, LI77, LI78, LI79, LI81, LI82, LI83, LI84, LI85, LI86, LI87, LI88, LI89, LI90, LI91, LI92, LI93, LI94, LI95, LI96, LI97, LI98, LI99, LI100, LI101, LI102, LI103, LI104, LI105, LI106, LI107, LI108, LI109, LI110, LI111, LI112, LI113, LI114, LI115, LI116, LI117, LI118, LI119, LI120, LI121, LI122, LI123, LI124, LI125, LI126, LI127, LI255, LI256, LI999, LI1001, LI1002, LI1600, LI4096, LI1000001, LI2042, LM, nI_clamp, nI_pos', nI_lt, nI_nlt, nI_le, nI_ge, nI_ne, nI_add, nI_sub, mI_lt, mI_le, mI_nlt, mI_nle, mI_ne, mI_ne', mI_nem, n9, n7, c7', hp6, h36, e]
    · rw [if_neg h8]
      have e8 : W.1.length = 8 := by omega
      refine ⟨I, nI i, ?_, hW, fR_refl⟩
      rw [e8] at h36
      conv => lhs; rw [r227_52]
      simp (disch := omega) [r227_0, r227_1, r227_2, r227_5, r227_6, r227_7, r227_10, r227_11, r227_12, r227_15, r227_16, r227_17, r227_20, r227_21, r227_22, r227_25, r227_26, r227_27, r227_30, r227_31, r227_32, r227_35, r227_36, r227_37, r227_40, r227_41, r227_42, r227_43, r227_44, r227_47, r227_50, r227_51, r227_53, r227_54, r227_57, r227_58, r227_61, r227_62, r227_63, r227_64, r227_67, r227_68, r227_71, r227_73, r227_76, r227_77, r227_78, r227_79, r227_82, r227_85, r227_91, r227_94, g241, p241_36, ty12_36, p241_37, ty12_37, p241_38, ty12_38, p241_39, ty12_39, p241_40, ty12_40, p241_64, ty12_64, p241_65, ty12_65, p241_41, ty12_41, vf12_34, vf12_27, t241_27, g257, vf12_35, t241_35, g259, vf12_36, qa222, qo222, List.getElem?_cons_zero, List.getElem?_cons_succ, List.length_cons, List.length_nil, ag_nx, ag_dn, ag_no, ag_if, jbr1, jbr2, jc1, jc2, jnul, jld, jsto, jstoL, jst1, jst2, jkill, jinc, jbI, jbL, jbS, juI, jl2i, jcmp, jisR, jisI, jisL, jret, jretv, jfits, jdup, jdup2, jpop, jmm, jcat, Value.category, jinv, jrcv, jthr, jhd, jput, jget, jlen, jald, jast, jaast, jgI, jgL, jgB, jtab, jlku, jacp, vf20, vf21, vf22, vf23, vf24, u2_s, u2_k, u2_i, uc_s, uc_k, uc_c, u2_c, LI0, LI1, LI2, LI3, LI4, LI5, LI6, LI7, LI8, LI9, LI10, LI11, LI12, LI13, LI14, LI15, LI16, LI17, LI18, LI19, LI20, LI21, LI22, LI23, LI24, LI25, LI26, LI27, LI28, LI29, LI30, LI31, LI32, LI33, LI34, LI35, LI36, LI37, LI40, LI42, LI43, LI45, LI48, LI60, LI61, LI64, LI80, LI300, LI400, LI1000, LI2000, LI2001, LI2047, LI2048, LI100000, LI1000000, LI38, LI39, LI41, LI44, LI46, LI47, LI49, LI50, LI51, LI52, LI53, LI54, LI55, LI56, LI57, LI58, LI59, LI62, LI63, LI65, LI66, LI67, LI68, LI69, LI70, LI71, LI72, LI73, LI74, LI75, LI76, LI77, LI78, LI79, LI81, LI82, LI83, LI84, LI85, LI86, LI87, LI88, LI89, LI90, LI91, LI92, LI93, LI94, LI95, LI96, LI97, LI98, LI99, LI100, LI101, LI102, LI103, LI104, LI105, LI106, LI107, LI108, LI109, LI110, LI111, LI112, LI113, LI114, LI115, LI116, LI117, LI118, LI119, LI120, LI121, LI122, LI123, LI124, LI125, LI126, LI127, LI255, LI256, LI999, LI1001, LI1002, LI1600, LI4096, LI1000001, LI2042, LM, nI_clamp, nI_pos', nI_lt, nI_nlt, nI_le, nI_ge, nI_ne, nI_add, nI_sub, mI_lt, mI_le, mI_nlt, mI_nle, mI_ne, mI_ne', mI_nem, n9, n7, c7', hp6, h36]
theorem r227p {B D : Nat} (hv : vN N M np) : ∀ (r p : Nat) (W : aW Nm) (I : Nat → Nat → Int32) (c2 : Option Value), p + r = np → I 241 34 = nI np → plR X I N M → okW N np B W → okD D W → (∀ p', p ≤ p' → p' < 6 → cnP W p' = 0) → wR rN I true W → ∃ I', M227 A (d + 2) 42 [some (.ref (b + 241)), some (.int (nI p)), c2] [] (jH h b X I J R n) = some (.inl none, jH h b X I' J R n) ∧ wR rN I' true (aBeg rN N true r p W) ∧ fR I I' := by
  have h6 := hv.1
  intro r
  induction r with
  | zero =>
    intro p W I c2 hp h34 hpl hok hd hcn hW
    have : p = np := by omega
    subst this
    refine ⟨I, ?_, hW, fR_refl⟩
    conv => lhs; rw [r227_42]
    simp (disch := omega) [r227_0, r227_1, r227_2, r227_5, r227_6, r227_7, r227_10, r227_11, r227_12, r227_15, r227_16, r227_17, r227_20, r227_21, r227_22, r227_25, r227_26, r227_27, r227_30, r227_31, r227_32, r227_35, r227_36, r227_37, r227_40, r227_41, r227_43, r227_44, r227_47, r227_50, r227_51, r227_53, r227_54, r227_57, r227_58, r227_61, r227_62, r227_63, r227_64, r227_67, r227_68, r227_71, r227_73, r227_76, r227_77, r227_78, r227_79, r227_82, r227_85, r227_88, r227_91, r227_94, g241, p241_36, ty12_36, p241_37, ty12_37, p241_38, ty12_38, p241_39, ty12_39, p241_40, ty12_40, p241_64, ty12_64, p241_65, ty12_65, p241_41, ty12_41, vf12_34, vf12_27, t241_27, g257, vf12_35, t241_35, g259, vf12_36, qa222, qo222, List.getElem?_cons_zero, List.getElem?_cons_succ, List.length_cons, List.length_nil, ag_nx, ag_dn, ag_no, ag_if, jbr1, jbr2, jc1, jc2, jnul, jld, jsto, jstoL, jst1, jst2, jkill, jinc, jbI, jbL, jbS, juI, jl2i, jcmp, jisR, jisI, jisL, jret, jretv, jfits, jdup, jdup2, jpop, jmm, jcat, Value.category, jinv, jrcv, jthr, jhd, jput, jget, jlen, jald, jast, jaast, jgI, jgL, jgB, jtab, jlku, jacp, vf20, vf21, vf22, vf23, vf24, u2_s, u2_k, u2_i, uc_s, uc_k, uc_c, u2_c, LI0, LI1, LI2, LI3, LI4, LI5, LI6, LI7, LI8, LI9, LI10, LI11, LI12, LI13, LI14, LI15, LI16, LI17, LI18, LI19, LI20, LI21, LI22, LI23, LI24, LI25, LI26, LI27, LI28, LI29, LI30, LI31, LI32, LI33, LI34, LI35, LI36, LI37, LI40, LI42, LI43, LI45, LI48, LI60, LI61, LI64, LI80, LI300, LI400, LI1000, LI2000, LI2001, LI2047, LI2048, LI100000, LI1000000, LI38, LI39, LI41, LI44, LI46, LI47, LI49, LI50, LI51, LI52, LI53, LI54, LI55, LI56, LI57, LI58, LI59, LI62, LI63, LI65, LI66, LI67, LI68, LI69, LI70, LI71, LI72, LI73, LI74, LI75, LI76, LI77, LI78, LI79, LI81, LI82, LI83, LI84, LI85, LI86, LI87, LI88, LI89, LI90, LI91, LI92, LI93, LI94, LI95, LI96, LI97, LI98, LI99, LI100, LI101, LI102, LI103, LI104, LI105, LI106, LI107, LI108, LI109, LI110, LI111, LI112, LI113, LI114, LI115, LI116, LI117, LI118, LI119, LI120, LI121, LI122, LI123, LI124, LI125, LI126, LI127, LI255, LI256, LI999, LI1001, LI1002, LI1600, LI4096, LI1000001, LI2042, LM, nI_clamp, nI_pos', nI_lt, nI_nlt, nI_le, nI_ge, nI_ne, nI_add, nI_sub, mI_lt, mI_le, mI_nlt, mI_nle, mI_ne, mI_ne', mI_nem, h34]
  | succ r ih =>
    intro p W I c2 hp h34 hpl hok hd hcn hW
    obtain ⟨_, _, ⟨m, m3, me⟩, _⟩ := hv.2.2.2 p (by omega)
    have hm : ix (N 257 (pnd N p)) = m := by rw [me]; exact nI_clamp (by omega)
    unfold aBeg
    rw [hm]
    have c0 := hcn p (Nat.le_refl _) (by omega)
    obtain ⟨I1, c2', e1, w1, w2⟩ := r227m (A := A) (d := d) (b := b) (h := h) (X := X) (J := J) (R := R) (n := n) (rN := rN) (B := B) (D := D) hv (p := p) (by omega) me m3 m 0 W I (by omega) hpl hok hd (by omega) hW
    obtain ⟨i1, i2, i3⟩ := ok_more (rN := rN) (l := true) h6 (p := p) (by omega) m W hok hd (by omega)
    obtain ⟨I2, e2, w3, w4⟩ := ih (p + 1) _ I1 (some (.int c2')) (by omega) ((w2.2.1 34 (by omega)).trans h34) (plR_f w2 hpl) i1 i2 (fun p' h1 h2 => by rw [i3 p' h2 (by omega)]; exact hcn p' (by omega) h2) w1
    refine ⟨I2, ?_, w3, fR_trans w2 w4⟩
    rw [← e2]
    conv => lhs; rw [r227_42]
    simp (disch := omega) [r227_43, r227_44, r227_47, r227_50, r227_51, g241, p241_36, ty12_36, p241_37, ty12_37, p241_38, ty12_38, p241_39, ty12_39, p241_40, ty12_40, p241_64, ty12_64, p241_65, ty12_65, p241_41, ty12_41, vf12_34, vf12_27, t241_27, g257, vf12_35, t241_35, g259, vf12_36, qa222, qo222, List.getElem?_cons_zero, List.getElem?_cons_succ, List.length_cons, List.length_nil, ag_nx, ag_dn, ag_no, ag_if, jbr1, jbr2, jc1, jc2, jnul, jld, jsto, jstoL, jst1, jst2, jkill, jinc, jbI, jbL, jbS, juI, jl2i, jcmp, jisR, jisI, jisL, jret, jretv, jfits, jdup, jdup2, jpop, jmm, jcat, Value.category, jinv, jrcv, jthr, jhd, jput, jget, jlen, jald, jast, jaast, jgI, jgL, jgB, jtab, jlku, jacp, vf20, vf21, vf22, vf23, vf24, u2_s, u2_k, u2_i, uc_s, uc_k, uc_c, u2_c, LI0, LI1, LI2, LI3, LI4, LI5, LI6, LI7, LI8, LI9, LI10, LI11, LI12, LI13, LI14, LI15, LI16, LI17, LI18, LI19, LI20, LI21, LI22, LI23, LI24, LI25, LI26, LI27, LI28, LI29, LI30, LI31, LI32, LI33, LI34, LI35, LI36, LI37, LI40, LI42, LI43, LI45, LI48, LI60, LI61, LI64, LI80, LI300, LI400, LI1000, LI2000, LI2001, LI2047, LI2048, LI100000, LI1000000, LI38, LI39, LI41, LI44, LI46, LI47, LI49, LI50, LI51, LI52, LI53, LI54, LI55, LI56, LI57, LI58, LI59, LI62, LI63, LI65, LI66, LI67, LI68, LI69, LI70, LI71, LI72, LI73, LI74, LI75, LI76, LI77, LI78, LI79, LI81, LI82, LI83, LI84, LI85, LI86, LI87, LI88, LI89, LI90, LI91, LI92, LI93, LI94, LI95, LI96, LI97, LI98, LI99, LI100, LI101, LI102, LI103, LI104, LI105, LI106, LI107, LI108, LI109, LI110, LI111, LI112, LI113, LI114, LI115, LI116, LI117, LI118, LI119, LI120, LI121, LI122, LI123, LI124, LI125, LI126, LI127, LI255, LI256, LI999, LI1001, LI1002, LI1600, LI4096, LI1000001, LI2042, LM, nI_clamp, nI_pos', nI_lt, nI_nlt, nI_le, nI_ge, nI_ne, nI_add, nI_sub, mI_lt, mI_le, mI_nlt, mI_nle, mI_ne, mI_ne', mI_nem, h34, e1, r227_88, r227_91]
/-- beginAll -/
theorem r227 {I : Nat → Nat → Int32} (hv : vN N M np) (h34 : I 241 34 = nI np) (hpl : plR X I N M) (h66 : I 241 66 = nI 0) : ∃ I', jcall A jcode (d + 3) 227 [.ref (b + 241)] (jH h b X I J R n) = some (.inl none, jH h b X I' J R n) ∧ wR rN I' true (aBegin rN N np) ∧ fR I I' := by
  obtain ⟨I0, hI0⟩ : ∃ I0, I0 = u2 (u2 (u2 (u2 (u2 (u2 (u2 (u2 I 241 36 (nI 0)) 241 37 (nI 0)) 241 38 (nI 0)) 241 39 (nI 0)) 241 40 (nI 0)) 241 64 (nI 0)) 241 65 (nI 0)) 241 41 (mI 1) := ⟨_, rfl⟩
  have f0 : ∀ c i, ¬ (c = 241 ∧ (36 ≤ i ∧ i ≤ 41 ∨ i = 64 ∨ i = 65)) → I0 c i = I c i := fun c i hc => by
    rw [hI0]
    unfold u2
    rw [if_neg (by omega), if_neg (by omega), if_neg (by omega), if_neg (by omega), if_neg (by omega), if_neg (by omega), if_neg (by omega), if_neg (by omega)]
  have fr0 : fR I I0 := ⟨fun c i hc => f0 c i (by omega), fun i hi => f0 _ _ (by omega), f0 _ _ (by omega)⟩
  have hW0 : wR rN I0 true (([], (0, 0, 0, 0, -1), ([], false), (0, 0)) : aW Nm) := by
    refine ⟨⟨by simp, by rw [hI0]; simp [u2], fun k a hk => by simp at hk⟩, by rw [hI0]; simp [u2]; decide, by rw [hI0]; simp [u2]; decide, fun _ => ⟨(f0 _ _ (by omega)).trans (h66.trans LI0.symm), by rw [hI0]; simp [u2]; decide, by rw [hI0]; simp [u2]; decide, by rw [hI0]; simp [u2]; decide, by simp, by rw [hI0]; simp [u2], rfl, by rw [hI0]; simp [u2]; decide⟩, fun z => by cases z⟩
  obtain ⟨I', e, w1, w2⟩ := r227p (A := A) (d := d) (b := b) (h := h) (X := X) (J := J) (R := R) (n := n) (rN := rN) (B := 0) (D := 0) hv np 0 _ I0 none (by omega) ((f0 _ _ (by omega)).trans h34) (plR_f fr0 hpl) ⟨by simp, fun k a hk => by simp at hk, fun p hp => by simp, 0, [], rfl, by simp, rfl, List.Pairwise.nil, fun x hx => by cases hx⟩ ⟨⟨0, rfl, by omega⟩, fun k a hk => by simp at hk⟩ (fun p' _ _ => rfl) hW0
  refine ⟨I', ?_, w1, fR_trans fr0 w2⟩
  rw [← e, hI0]
  simp (disch := omega) [je227, r227_0, r227_1, r227_2, r227_5, r227_6, r227_7, r227_10, r227_11, r227_12, r227_15, r227_16, r227_17, r227_20, r227_21, r227_22, r227_25, r227_26, r227_27, r227_30, r227_31, r227_32, r227_35, r227_36, r227_37, r227_40, r227_41, r227_43, r227_44, r227_47, r227_50, r227_51, r227_52, r227_53, r227_54, r227_57, r227_58, r227_61, r227_62, r227_63, r227_64, r227_67, r227_68, r227_71, r227_73, r227_76, r227_77, r227_78, r227_79, r227_82, r227_85, r227_88, r227_91, r227_94, g241, p241_36, ty12_36, p241_37, ty12_37, p241_38, ty12_38, p241_39, ty12_39, p241_40, ty12_40, p241_64, ty12_64, p241_65, ty12_65, p241_41, ty12_41, vf12_34, vf12_27, t241_27, g257, vf12_35, t241_35, g259, vf12_36, qa222, qo222, List.getElem?_cons_zero, List.getElem?_cons_succ, List.length_cons, List.length_nil, ag_nx, ag_dn, ag_no, ag_if, jbr1, jbr2, jc1, jc2, jnul, jld, jsto, jstoL, jst1, jst2, jkill, jinc, jbI, jbL, jbS, juI, jl2i, jcmp, jisR, jisI, jisL, jret, jretv, jfits, jdup, jdup2, jpop, jmm, jcat, Value.category, jinv, jrcv, jthr, jhd, jput, jget, jlen, jald, jast, jaast, jgI, jgL, jgB, jtab, jlku, jacp, vf20, vf21, vf22, vf23, vf24, u2_s, u2_k, u2_i, uc_s, uc_k, uc_c, u2_c, LI0, LI1, LI2, LI3, LI4, LI5, LI6, LI7, LI8, LI9, LI10, LI11, LI12, LI13, LI14, LI15, LI16, LI17, LI18, LI19, LI20, LI21, LI22, LI23, LI24, LI25, LI26, LI27, LI28, LI29, LI30, LI31, LI32, LI33, LI34, LI35, LI36, LI37, LI40, LI42, LI43, LI45, LI48, LI60, LI61, LI64, LI80, LI300, LI400, LI1000, LI2000, LI2001, LI2047, LI2048, LI100000, LI1000000, LI38, LI39, LI41, LI44, LI46, LI47, LI49, LI50, LI51, LI52, LI53, LI54, LI55, LI56, LI57, LI58, LI59, LI62, LI63, LI65, LI66, LI67, LI68, LI69, LI70, LI71, LI72, LI73, LI74, LI75, LI76, LI77, LI78, LI79, LI81, LI82, LI83, LI84, LI85, LI86, LI87, LI88, LI89, LI90, LI91, LI92, LI93, LI94, LI95, LI96, LI97, LI98, LI99, LI100, LI101, LI102, LI103, LI104, LI105, LI106, LI107, LI108, LI109, LI110, LI111, LI112, LI113, LI114, LI115, LI116, LI117, LI118, LI119, LI120, LI121, LI122, LI123, LI124, LI125, LI126, LI127, LI255, LI256, LI999, LI1001, LI1002, LI1600, LI4096, LI1000001, LI2042, LM, nI_clamp, nI_pos', nI_lt, nI_nlt, nI_le, nI_ge, nI_ne, nI_add, nI_sub, mI_lt, mI_le, mI_nlt, mI_nle, mI_ne, mI_ne', mI_nem]
end RBG
