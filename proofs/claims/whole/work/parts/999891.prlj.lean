/-! names are looked up: all processes -/
/-- what may be unknown in a process, in the text's order -/
def prU (t : Nat → Int32) (N : Nat) (F : List qPr) (q : qPr) : List (List (Option Nat)) := q.2.2.1.2.map (ukO (eqY t N) F) :: q.2.2.2.flatMap (fun s => s.2.map (clU t N F q.2.1))
/-- a process whose names are looked up -/
def prRl (t : Nat → Int32) (N : Nat) (I : Nat → Nat → Int32) (nn pr : Nat) (F : List qPr) (hi p : Nat) (q : qPr) : Prop := p < hi ∧ I 251 p = nI 30 ∧ nmA t N I nn (I 252 p) q.1 ∧ I 257 p = tkNu t N (tpos t N (q.1 + 2)) ∧ tkNu t N (tpos t N (q.1 + 2)) ≤ nI 3 ∧
  ∃ G ls x ss k, (∀ x j, nmA t N I nn x j → G x = inO (q.2.1.findIdx? (fun y => eqY t N y j))) ∧ chn I (I 253 p) ls ∧ ltsR t N I nn (p + 1) ls q.2.1 x ∧ I 258 p = nI x ∧ bkRl t N I nn pr G F k x q.2.2.1 ∧ chn I (I 254 p) ss ∧ stsRl t N I nn pr G F k ss q.2.2.2 hi
def prsRl (t : Nat → Int32) (N : Nat) (I : Nat → Nat → Int32) (nn : Nat) (F : List qPr) : Nat → Nat → List Nat → List qPr → Nat → Prop
  | _, lo, [], [], hi => lo ≤ hi
  | i, lo, p :: ps, q :: qs, hi => ∃ k, lo ≤ p ∧ prRl t N I nn (min i 5) F k p q ∧ prsRl t N I nn F (i + 1) k ps qs hi
  | _, _, _, _, _ => False
/-- where processes are looked up -/
def gEn (t : Nat → Int32) (N : Nat) (I : Nat → Nat → Int32) (nn M : Nat) (fp : Int32) (ps : List Nat) (F : List qPr) : Prop := (∀ w w', w < nn → w' < nn → rnm I w = rnm I w' → w = w') ∧ I 241 31 = fp ∧ chn I fp ps ∧ (∀ v, v ∈ ps → v < M) ∧ nmL t N I nn ps (F.map (fun c => c.1)) ∧ ps.length < 2 ^ 20
def fB (lo hi : Nat) (I I' : Nat → Nat → Int32) : Prop := ∀ c i, ¬ ((c = 253 ∨ c = 254 ∨ c = 257) ∧ lo ≤ i ∧ i < hi) → ¬ (c = 241 ∧ i = 32) → I' c i = I c i
section RLK2
variable {A : Nat → Nat} {d b n : Nat} {h : Nat → Option jC} {X : jXX} {J : Nat → Nat → Int64} {R : Nat → Nat → Nat} {t : Nat → Int32} {N M nn : Nat} {fp : Int32} {ps : List Nat} {F : List qPr}
theorem fB_A {lo hi : Nat} {I I' : Nat → Nat → Int32} (h : fA lo hi I I') : fB lo hi I I' := fun c i a _ => h c i a
theorem fB_mono {lo hi lo' hi' : Nat} {I I' : Nat → Nat → Int32} (h : fB lo hi I I') (h1 : lo' ≤ lo) (h2 : hi ≤ hi') : fB lo' hi' I I' := fun c i hc hd => h c i (fun z => hc ⟨z.1, by omega, by omega⟩) hd
theorem fB_trans {lo hi : Nat} {I I1 I2 : Nat → Nat → Int32} (h : fB lo hi I I1) (h2 : fB lo hi I1 I2) : fB lo hi I I2 := fun c i hc hd => (h2 c i hc hd).trans (h c i hc hd)
theorem fB_rnm {lo hi u : Nat} {I I' : Nat → Nat → Int32} (h : fB lo hi I I') : rnm I' u = rnm I u := rnm_e (fun c i c1 c2 => h c i (by omega) (by omega))
theorem gEn_fB {lo hi : Nat} {I I' : Nat → Nat → Int32} (hf : fB lo hi I I') (h : gEn t N I nn M fp ps F) : gEn t N I' nn M fp ps F := by
  obtain ⟨h1, h2, h3, h4, h5, h6⟩ := h
  exact ⟨fun w w' a1 a2 a3 => h1 w w' a1 a2 (by rw [fB_rnm hf, fB_rnm hf] at a3; exact a3), (hf _ _ (by omega) (by omega)).trans h2, chn_st ps _ (fun a _ => hf _ _ (by omega) (by omega)) h3, h4, nmL_st ps _ (fun v _ => ⟨hf _ _ (by omega) (by omega), hf _ _ (by omega) (by omega)⟩) (fun u _ => fB_rnm hf) h5, h6⟩
theorem nmL_lt {I : Nat → Nat → Int32} : ∀ (vs qs : List Nat) (lo hi : Nat), ltsR t N I nn lo vs qs hi → nmL t N I nn vs qs ∧ vs.length + lo ≤ hi := by
  intro vs
  induction vs with
  | nil => intro qs lo hi h; cases qs with | nil => exact ⟨trivial, by have : lo ≤ hi := h; simpa using this⟩ | cons q qs => exact h.elim
  | cons v vs ih =>
    intro qs lo hi h
    cases qs with
    | nil => exact h.elim
    | cons q qs =>
      obtain ⟨h1, h2, h3, h4, h5, h6, h7, h8⟩ := h
      obtain ⟨i1, i2⟩ := ih qs (v + 1) hi h8
      exact ⟨⟨h4, h7, i1⟩, by rw [List.length_cons]; omega⟩
theorem nmL_ss {I : Nat → Nat → Int32} {pr : Nat} : ∀ (vs : List Nat) (qs : List qSt) (lo hi : Nat), stsR t N I nn pr lo vs qs hi → nmL t N I nn vs (qs.map (fun s => s.1)) ∧ vs.length + lo ≤ hi := by
  intro vs
  induction vs with
  | nil => intro qs lo hi h; cases qs with | nil => exact ⟨trivial, by have : lo ≤ hi := h; simpa using this⟩ | cons q qs => exact h.elim
  | cons v vs ih =>
    intro qs lo hi h
    cases qs with
    | nil => exact h.elim
    | cons q qs =>
      obtain ⟨k, h1, ⟨h2, _, h3, h4, _⟩, h8⟩ := h
      obtain ⟨i1, i2⟩ := ih qs k hi h8
      exact ⟨⟨h3, h4, i1⟩, by rw [List.length_cons]; omega⟩
theorem nmL_fi {I : Nat → Nat → Int32} (hnn : nn ≤ 2 ^ 20) (hi : ∀ w w', w < nn → w' < nn → rnm I w = rnm I w' → w = w') {x : Int32} {j : Nat} (hx : nmA t N I nn x j) : ∀ (vs qs : List Nat), nmL t N I nn vs qs → vs.findIdx? (fun v => decide (I 252 v = x)) = qs.findIdx? (fun q => eqY t N q j) := by
  intro vs
  induction vs with
  | nil => intro qs h; cases qs with | nil => rfl | cons q qs => exact h.elim
  | cons v vs ih =>
    intro qs h
    cases qs with
    | nil => exact h.elim
    | cons q qs => rw [List.findIdx?_cons, List.findIdx?_cons, ih qs h.2.2, nmA_eq hnn hi h.1 hx]
theorem stsRl_ge {I : Nat → Nat → Int32} {pr : Nat} {G : Int32 → Int32} : ∀ (cs : List Nat) (qs : List qSt) (lo hi : Nat), stsRl t N I nn pr G F lo cs qs hi → lo ≤ hi ∧ ∀ c, c ∈ cs → lo ≤ c ∧ c < hi := by
  intro cs
  induction cs with
  | nil =>
    intro qs lo hi h
    cases qs with
    | nil => exact ⟨h, fun c hc => by cases hc⟩
    | cons q qs => exact h.elim
  | cons c cs ih =>
    intro qs lo hi h
    cases qs with
    | nil => exact h.elim
    | cons q qs =>
      obtain ⟨k, h1, h2, h3⟩ := h
      obtain ⟨i1, i2⟩ := ih qs k hi h3
      have := h2.1
      refine ⟨by omega, fun y hy => ?_⟩
      rcases List.mem_cons.mp hy with e | e
      · rw [e]; omega
      · have := i2 y e; omega
theorem stsRl_st {I I' : Nat → Nat → Int32} {pr : Nat} {G : Int32 → Int32} : ∀ (cs : List Nat) (qs : List qSt) (lo hi : Nat), hi ≤ 2 ^ 20 → (∀ k i, 251 ≤ k → k ≤ 258 → lo ≤ i → i < hi → I' k i = I k i) → (∀ u, u < nn → rnm I' u = rnm I u) → stsRl t N I nn pr G F lo cs qs hi → stsRl t N I' nn pr G F lo cs qs hi := by
  intro cs
  induction cs with
  | nil =>
    intro qs lo hi _ _ _ h
    cases qs with
    | nil => exact h
    | cons q qs => exact h.elim
  | cons c cs ih =>
    intro qs lo hi hh hf hn h
    cases qs with
    | nil => exact h.elim
    | cons q qs =>
      obtain ⟨k, h1, h2, h3⟩ := h
      obtain ⟨i1, i2⟩ := stsRl_ge _ _ _ _ h3
      have h21 := h2.1
      exact ⟨k, h1, stRl_st (by omega) (fun k' i a b e g => hf k' i a b (by omega) (by omega)) hn h2, ih qs k hi hh (fun k' i a b e g => hf k' i a b (by omega) g) hn h3⟩
theorem prRl_st {I I' : Nat → Nat → Int32} {pr hi p : Nat} {q : qPr} (hh : hi ≤ 2 ^ 20) (hf : ∀ k i, 251 ≤ k → k ≤ 258 → p ≤ i → i < hi → I' k i = I k i) (hn : ∀ u, rnm I' u = rnm I u) (h : prRl t N I nn pr F hi p q) : prRl t N I' nn pr F hi p q := by
  obtain ⟨h1, h2, h3, h4, h5, G, ls, x, ss, k, a0, a1, a2, a3, a4, a5, a6⟩ := h
  obtain ⟨g1, g2⟩ := ltsR_ge _ _ _ _ a2
  obtain ⟨u1, u3⟩ := stsRl_ge _ _ _ _ a6
  have a41 := a4.1
  have f : ∀ c, 251 ≤ c → c ≤ 258 → I' c p = I c p := fun c e1 e2 => hf c p e1 e2 (Nat.le_refl _) h1
  refine ⟨h1, (f 251 (by omega) (by omega)).trans h2, ?_, (f 257 (by omega) (by omega)).trans h4, h5, G, ls, x, ss, k, fun y j hy => a0 y j (nmA_st (fun u _ => (hn u).symm) (Nat.le_refl _) hy), ?_, ?_, (f 258 (by omega) (by omega)).trans a3, ?_, ?_, ?_⟩
  · rw [f 252 (by omega) (by omega)]; exact nmA_st (fun u _ => hn u) (Nat.le_refl _) h3
  · rw [f 253 (by omega) (by omega)]
    exact chn_st ls _ (fun a ha => by have := g2 a ha; exact hf 255 a (by omega) (by omega) (by omega) (by omega)) a1
  · exact ltsR_st ls _ _ _ (fun c i e1 e2 e3 e4 e5 => hf c i e1 e2 (by omega) (by omega)) (fun u _ => hn u) (Nat.le_refl _) a2
  · exact bkRl_st (by omega) (fun c i e1 e2 e3 e4 => hf c i e1 e2 (by omega) (by omega)) (fun u _ => hn u) a4
  · rw [f 254 (by omega) (by omega)]
    exact chn_st ss _ (fun a ha => by have := u3 a ha; exact hf 255 a (by omega) (by omega) (by omega) (by omega)) a5
  · exact stsRl_st ss _ _ _ hh (fun c i e1 e2 e3 e4 => hf c i e1 e2 (by omega) e4) (fun u _ => hn u) a6
theorem r214p (hcap : ∀ k, 251 ≤ k → k ≤ 258 → M ≤ cp X k) (hM : M ≤ 2 ^ 18) (hnn : nn ≤ 2 ^ 20) (hN : N ≤ 2000) (hF6 : F.length ≤ 6) : ∀ (rs : List Nat) (qr qw : List qPr) (lo hi : Nat) (I : Nat → Nat → Int32) (x : Int32) (v3 v4 : Option Value), F = qw ++ qr → prsR t N I nn qw.length lo rs qr hi → chn I x rs → ordO (qr.flatMap (prU t N F)) → hi ≤ M → gEn t N I nn M fp ps F → ∃ I', fB lo hi I I' ∧ ((∃ u, lsO u (qr.flatMap (prU t N F)).flatten ∧ M214 A (d + ED + 11) 7 [some (.ref (b + 241)), some (.int fp), some (.int x), v3, v4] [] (jH h b X I J R n) = some (.inr 11, jH h b X (u2 I' 241 2 (nI (tpos t N u))) J R n)) ∨ (nnO (qr.flatMap (prU t N F)).flatten ∧ M214 A (d + ED + 11) 7 [some (.ref (b + 241)), some (.int fp), some (.int x), v3, v4] [] (jH h b X I J R n) = some (.inl none, (jH h b X I' J R n)) ∧ prsRl t N I' nn F qw.length lo rs qr hi)) := by
  intro rs
  induction rs with
  | nil =>
    intro qr qw lo hi I x v3 v4 _ hr hch _ _ _
    cases qr with
    | cons q qs => exact hr.elim
    | nil =>
      have hx : x = mI 1 := hch
      refine ⟨I, fun _ _ _ _ => rfl, Or.inr ⟨fun o ho => (by cases ho), ?_, hr⟩⟩
      rw [hx]
      conv => lhs; rw [r214_7]
      simp (disch := omega) [r214_0, r214_1, r214_2, r214_5, r214_6, r214_8, r214_11, r214_12, r214_13, r214_16, r214_17, r214_18, r214_21, r214_22, r214_23, r214_26, r214_27, r214_30, r214_31, r214_32, r214_33, r214_34, r214_37, r214_38, r214_41, r214_42, r214_43, r214_45, r214_47, r214_50, r214_51, r214_54, r214_56, r214_57, r214_60, r214_61, r214_64, r214_66, r214_67, r214_68, r214_71, r214_72, r214_73, r214_74, r214_77, r214_79, r214_80, r214_81, r214_84, r214_86, r214_87, r214_90, r214_91, r214_92, r214_95, r214_97, r214_98, r214_100, r214_103, r214_104, r214_105, r214_108, r214_110, r214_111, r214_114, r214_115, r214_118, r214_120, r214_121, r214_124, r214_125, r214_126, r214_129, r214_131, r214_132, r214_135, r214_136, r214_139, r214_141, r214_142, r214_144, r214_147, r214_148, r214_151, r214_152, r214_153, r214_154, r214_157, r214_158, r214_161, r214_162, r214_163, r214_164, r214_167, g241, p241_31, ty12_31, p241_32, ty12_32, vf12_28, t241_28, g258, p258, qa215, qo215, vf12_24, t241_24, g254, p254, vf12_23, t241_23, g253, p253, qa213, qo213, vf12_21, t241_21, g251, p251, vf12_22, t241_22, g252, p252, qa216, qo216, vf12_25, t241_25, g255, p255, List.getElem?_cons_zero, List.getElem?_cons_succ, List.length_cons, List.length_nil, ag_nx, ag_dn, ag_no, ag_if, jbr1, jbr2, jc1, jc2, jnul, jld, jsto, jstoL, jst1, jst2, jkill, jinc, jbI, jbL, jbS, juI, jl2i, jcmp, jisR, jisI, jisL, jret, jretv, jfits, jdup, jdup2, jpop, jmm, jcat, Value.category, jinv, jrcv, jthr, jhd, jput, jget, jlen, jald, jast, jaast, jgI, jgL, jgB, jtab, jlku, jacp, vf20, vf21, vf22, vf23, vf24, u2_s, u2_k, u2_i, uc_s, uc_k, uc_c, u2_c, LI0, LI1, LI2, LI3, LI4, LI5, LI6, LI7, LI8, LI9, LI10, LI11, LI12, LI13, LI14, LI15, LI16, LI17, LI18, LI19, LI20, LI21, LI22, LI23, LI24, LI25, LI26, LI27, LI28, LI29, LI30, LI31, LI32, LI33, LI34, LI35, LI36, LI37, LI40, LI42, LI43, LI45, LI48, LI60, LI61, LI64, LI80, LI300, LI400, LI1000, LI2000, LI2001, LI2047, LI2048, LI100000, LI1000000, LI38, LI39, LI41, LI44, LI46, LI47, LI49, LI50, LI51, LI52, LI53, LI54, LI55, LI56, LI57, LI58, LI59, LI62, LI63, LI65, LI66, LI67, LI68, LI69, LI70, LI71, LI72, LI73, LI74, LI75, LI76, LI77, LI78, LI79, LI81, LI82, LI83, LI84, LI85, LI86, LI87, LI88, LI89, LI90, LI91, LI92, LI93, LI94, LI95, LI96, LI97, LI98, LI99, LI100, LI101, LI102, LI103, LI104, LI105, LI106, LI107, LI108, LI109, LI110, LI111, LI112, LI113, LI114, LI115, LI116, LI117, LI118, LI119, LI120, LI121, LI122, LI123, LI124, LI125, LI126, LI127, LI255, LI256, LI999, LI1001, LI1002, LI1600, LI4096, LI1000001, LI2042, LM, nI_clamp, nI_pos', nI_lt, nI_nlt, nI_le, nI_ge, nI_ne, nI_add, nI_sub, mI_lt, mI_le, mI_nlt, mI_nle, mI_ne, mI_ne', mI_nem]
  | cons p rs ih =>
    intro qr qw lo hi I x v3 v4 hFe hr hch hor hhi hE
    cases qr with
    | nil => exact hr.elim
    | cons q qr =>
      obtain ⟨k2, k1, ⟨p1, p2, p3, p4, p5, p6, p7, ls, xx, ss, k, a1, a2, a3, a4, a5, a6⟩, k3⟩ := hr
      obtain ⟨g1, g2⟩ := prsR_ge _ _ _ _ _ k3
      obtain ⟨u1, u2'⟩ := ltsR_ge _ _ _ _ a2
      obtain ⟨w1, w2⟩ := stsR_ge _ _ _ _ a6
      have a41 := a4.1
      have hlen : qw.length < 6 := by rw [hFe, List.length_append, List.length_cons] at hF6; omega
      have hpr : min qw.length 5 = qw.length := by omega
      rw [hpr] at a4 a6
      have hFq : F[qw.length]? = some q := by rw [hFe, List.getElem?_append_right (Nat.le_refl _), Nat.sub_self]; rfl
      have pM : p < M := by omega
      have h4 : p < cp X 254 := Nat.lt_of_lt_of_le pM (hcap 254 (by omega) (by omega))
      have h5 : p < cp X 255 := Nat.lt_of_lt_of_le pM (hcap 255 (by omega) (by omega))
      have h8 : p < cp X 258 := Nat.lt_of_lt_of_le pM (hcap 258 (by omega) (by omega))
      rw [List.flatMap_cons] at hor ⊢
      have hor1 := (List.pairwise_append.mp hor).1
      have hor2 := (List.pairwise_append.mp hor).2.1
      -- this process is the one
      obtain ⟨I0, hI0⟩ : ∃ I0, I0 = u2 I 241 32 (nI p) := ⟨_, rfl⟩
      have f0 : fB lo hi I I0 := fun c i _ hd => by rw [hI0]; unfold u2; rw [if_neg hd]
      have o0 : ∀ c i, 251 ≤ c → I0 c i = I c i := fun c i hc => by rw [hI0]; exact u2_k (by omega)
      have r0 : ∀ u, rnm I0 u = rnm I u := fun u => fB_rnm f0
      obtain ⟨e1, e2, e3, e4, e5, e6⟩ := gEn_fB f0 hE
      have l0 : ltsR t N I0 nn (p + 1) ls q.2.1 xx := ltsR_st ls _ _ _ (fun c i c1 c2 c3 c4 c5 => o0 c i c1) (fun u _ => r0 u) (Nat.le_refl _) a2
      have s0 : stsR t N I0 nn qw.length k ss q.2.2.2 k2 := stsR_st ss _ _ _ (fun c i c1 c2 c3 c4 c5 => o0 c i c1) (fun u _ => r0 u) (Nat.le_refl _) a6
      have b0 : bkR t N I0 nn qw.length k xx q.2.2.1 := bkR_st (lo := xx) (fun c i c1 c2 c3 c4 => o0 c i c1) (fun u _ => r0 u) (Nat.le_refl _) (Nat.le_refl _) (Nat.le_refl _) a4
      obtain ⟨n1, n2⟩ := nmL_lt _ _ _ _ l0
      obtain ⟨m1, m2⟩ := nmL_ss _ _ _ _ s0
      obtain ⟨G, hG⟩ : ∃ G : Int32 → Int32, ∀ x j, nmA t N I0 nn x j → G x = inO (q.2.1.findIdx? (fun y => eqY t N y j)) := ⟨fun x => inO (ls.findIdx? (fun v => decide (I0 252 v = x))), fun x j hx => by show inO (ls.findIdx? (fun v => decide (I0 252 v = x))) = _; rw [nmL_fi hnn e1 hx ls _ n1]⟩
      have c0 : chn I0 (I0 253 p) ls := by rw [o0 253 p (by omega)]; exact chn_st ls _ (fun a _ => o0 _ _ (by omega)) a1
      have c1 : chn I0 (I0 254 p) ss := by rw [o0 254 p (by omega)]; exact chn_st ss _ (fun a _ => o0 _ _ (by omega)) a5
      have hL : lEn t N I0 nn M p fp ls ss ps q F G := ⟨e1, hG, ⟨by rw [hI0]; exact u2_s, pM, c0, fun v hv => by have := u2' v hv; omega, n1, by omega⟩, e2, e3, e4, e5, e6, c1, fun v hv => by have := w2 v hv; omega, m1, by omega⟩
      obtain ⟨I1, f1, hr1⟩ := r215w (A := A) (b := b) (n := n) (h := h) (J := J) (R := R) (d := d) hcap hM hnn hFq hlen hN b0 (by omega) (by omega) hL
      have i8 : I0 258 p = nI xx := (o0 _ _ (by omega)).trans a3
      have q0 : ∀ c i, i < xx + 1 ∨ k ≤ i → I1 c i = I0 c i := fun c i hi => f1 c i (by omega)
      rw [show x = nI p from hch.1]
      have hU : (prU t N F q).flatten = q.2.2.1.2.map (ukO (eqY t N) F) ++ (q.2.2.2.flatMap (fun s => s.2.map (clU t N F q.2.1))).flatten := rfl
      have F1 : fB lo hi I I1 := fB_trans f0 (fB_mono (fB_A f1) (by omega) (by omega))
      rcases hr1 with ⟨u, r1, r2⟩ | ⟨r1, r2, as, l, tk, r3, r4, r5⟩
      · refine ⟨I1, F1, Or.inl ⟨u, lsO_2 (lsO_l (lsO_m r1) hor1) hor, ?_⟩⟩
        rw [hI0] at r2
        conv => lhs; rw [r214_7]
        simp (disch := omega) [r214_0, r214_1, r214_2, r214_5, r214_6, r214_8, r214_11, r214_12, r214_13, r214_16, r214_17, r214_18, r214_21, r214_22, r214_23, r214_26, r214_27, r214_30, r214_31, r214_32, r214_34, r214_37, r214_38, r214_41, r214_42, r214_43, r214_45, r214_47, r214_50, r214_51, r214_54, r214_56, r214_57, r214_60, r214_61, r214_64, r214_66, r214_67, r214_68, r214_71, r214_72, r214_73, r214_74, r214_77, r214_79, r214_80, r214_81, r214_84, r214_86, r214_87, r214_90, r214_91, r214_92, r214_95, r214_97, r214_98, r214_100, r214_103, r214_104, r214_105, r214_108, r214_110, r214_111, r214_114, r214_115, r214_118, r214_120, r214_121, r214_124, r214_125, r214_126, r214_129, r214_131, r214_132, r214_135, r214_136, r214_139, r214_141, r214_142, r214_144, r214_147, r214_148, r214_151, r214_152, r214_153, r214_154, r214_157, r214_158, r214_161, r214_162, r214_163, r214_164, r214_167, g241, p241_31, ty12_31, p241_32, ty12_32, vf12_28, t241_28, g258, p258, qa215, qo215, vf12_24, t241_24, g254, p254, vf12_23, t241_23, g253, p253, qa213, qo213, vf12_21, t241_21, g251, p251, vf12_22, t241_22, g252, p252, qa216, qo216, vf12_25, t241_25, g255, p255, List.getElem?_cons_zero, List.getElem?_cons_succ, List.length_cons, List.length_nil, ag_nx, ag_dn, ag_no, ag_if, jbr1, jbr2, jc1, jc2, jnul, jld, jsto, jstoL, jst1, jst2, jkill, jinc, jbI, jbL, jbS, juI, jl2i, jcmp, jisR, jisI, jisL, jret, jretv, jfits, jdup, jdup2, jpop, jmm, jcat, Value.category, jinv, jrcv, jthr, jhd, jput, jget, jlen, jald, jast, jaast, jgI, jgL, jgB, jtab, jlku, jacp, vf20, vf21, vf22, vf23, vf24, u2_s, u2_k, u2_i, uc_s, uc_k, uc_c, u2_c, LI0, LI1, LI2, LI3, LI4, LI5, LI6, LI7, LI8, LI9, LI10, LI11, LI12, LI13, LI14, LI15, LI16, LI17, LI18, LI19, LI20, LI21, LI22, LI23, LI24, LI25, LI26, LI27, LI28, LI29, LI30, LI31, LI32, LI33, LI34, LI35, LI36, LI37, LI40, LI42, LI43, LI45, LI48, LI60, LI61, LI64, LI80, LI300, LI400, LI1000, LI2000, LI2001, LI2047, LI2048, LI100000, LI1000000, LI38, LI39, LI41, LI44, LI46, LI47, LI49, LI50, LI51, LI52, LI53, LI54, LI55, LI56, LI57, LI58, LI59, LI62, LI63, LI65, LI66, LI67, LI68, LI69, LI70, LI71, LI72, LI73, LI74, LI75, LI76, LI77, LI78, LI79, LI81, LI82, LI83, LI84, LI85, LI86, LI87, LI88, LI89, LI90, LI91, LI92, LI93, LI94, LI95, LI96, LI97, LI98, LI99, LI100, LI101, LI102, LI103, LI104, LI105, LI106, LI107, LI108, LI109, LI110, LI111, LI112, LI113, LI114, LI115, LI116, LI117, LI118, LI119, LI120, LI121, LI122, LI123, LI124, LI125, LI126, LI127, LI255, LI256, LI999, LI1001, LI1002, LI1600, LI4096, LI1000001, LI2042, LM, nI_clamp, nI_pos', nI_lt, nI_nlt, nI_le, nI_ge, nI_ne, nI_add, nI_sub, mI_lt, mI_le, mI_nlt, mI_nle, mI_ne, mI_ne', mI_nem, h8, a3, r2]
      · have s1 : stsR t N I1 nn qw.length k ss q.2.2.2 k2 := stsR_st ss _ _ _ (fun c i c1 c2 c3 c4 c5 => q0 c i (by omega)) (fun u _ => fA_rnm f1) (Nat.le_refl _) s0
        have i4 : I1 254 p = I0 254 p := q0 _ _ (by omega)
        have c2 : chn I1 (I1 254 p) ss := by rw [i4]; exact chn_st ss _ (fun a _ => f1 _ _ (by omega)) c1
        obtain ⟨I2, f2, hr2⟩ := r214s (A := A) (b := b) (n := n) (h := h) (J := J) (R := R) (d := d) (v1 := some (.int fp)) hcap hM hnn hFq hlen hN ss q.2.2.2 k k2 I1 (I1 254 p) v4 s1 c2 (List.pairwise_cons.mp hor1).2 (by omega) (by omega) (lEn_fA f1 (by omega) hL)
        have e33 : M214 A (d + ED + 11) 7 [some (.ref (b + 241)), some (.int fp), some (.int (nI p)), v3, v4] [] (jH h b X I J R n) = M214 A (d + ED + 11) 33 [some (.ref (b + 241)), some (.int fp), some (.int (nI p)), some (.int (I1 254 p)), v4] [] (jH h b X I1 J R n) := by
          rw [hI0] at r2
          conv => lhs; rw [r214_7]
          simp (disch := omega) [r214_0, r214_1, r214_2, r214_5, r214_6, r214_8, r214_11, r214_12, r214_13, r214_16, r214_17, r214_18, r214_21, r214_22, r214_23, r214_26, r214_27, r214_30, r214_31, r214_32, r214_34, r214_37, r214_38, r214_41, r214_42, r214_43, r214_45, r214_47, r214_50, r214_51, r214_54, r214_56, r214_57, r214_60, r214_61, r214_64, r214_66, r214_67, r214_68, r214_71, r214_72, r214_73, r214_74, r214_77, r214_79, r214_80, r214_81, r214_84, r214_86, r214_87, r214_90, r214_91, r214_92, r214_95, r214_97, r214_98, r214_100, r214_103, r214_104, r214_105, r214_108, r214_110, r214_111, r214_114, r214_115, r214_118, r214_120, r214_121, r214_124, r214_125, r214_126, r214_129, r214_131, r214_132, r214_135, r214_136, r214_139, r214_141, r214_142, r214_144, r214_147, r214_148, r214_151, r214_152, r214_153, r214_154, r214_157, r214_158, r214_161, r214_162, r214_163, r214_164, r214_167, g241, p241_31, ty12_31, p241_32, ty12_32, vf12_28, t241_28, g258, p258, qa215, qo215, vf12_24, t241_24, g254, p254, vf12_23, t241_23, g253, p253, qa213, qo213, vf12_21, t241_21, g251, p251, vf12_22, t241_22, g252, p252, qa216, qo216, vf12_25, t241_25, g255, p255, List.getElem?_cons_zero, List.getElem?_cons_succ, List.length_cons, List.length_nil, ag_nx, ag_dn, ag_no, ag_if, jbr1, jbr2, jc1, jc2, jnul, jld, jsto, jstoL, jst1, jst2, jkill, jinc, jbI, jbL, jbS, juI, jl2i, jcmp, jisR, jisI, jisL, jret, jretv, jfits, jdup, jdup2, jpop, jmm, jcat, Value.category, jinv, jrcv, jthr, jhd, jput, jget, jlen, jald, jast, jaast, jgI, jgL, jgB, jtab, jlku, jacp, vf20, vf21, vf22, vf23, vf24, u2_s, u2_k, u2_i, uc_s, uc_k, uc_c, u2_c, LI0, LI1, LI2, LI3, LI4, LI5, LI6, LI7, LI8, LI9, LI10, LI11, LI12, LI13, LI14, LI15, LI16, LI17, LI18, LI19, LI20, LI21, LI22, LI23, LI24, LI25, LI26, LI27, LI28, LI29, LI30, LI31, LI32, LI33, LI34, LI35, LI36, LI37, LI40, LI42, LI43, LI45, LI48, LI60, LI61, LI64, LI80, LI300, LI400, LI1000, LI2000, LI2001, LI2047, LI2048, LI100000, LI1000000, LI38, LI39, LI41, LI44, LI46, LI47, LI49, LI50, LI51, LI52, LI53, LI54, LI55, LI56, LI57, LI58, LI59, LI62, LI63, LI65, LI66, LI67, LI68, LI69, LI70, LI71, LI72, LI73, LI74, LI75, LI76, LI77, LI78, LI79, LI81, LI82, LI83, LI84, LI85, LI86, LI87, LI88, LI89, LI90, LI91, LI92, LI93, LI94, LI95, LI96, LI97, LI98, LI99, LI100, LI101, LI102, LI103, LI104, LI105, LI106, LI107, LI108, LI109, LI110, LI111, LI112, LI113, LI114, LI115, LI116, LI117, LI118, LI119, LI120, LI121, LI122, LI123, LI124, LI125, LI126, LI127, LI255, LI256, LI999, LI1001, LI1002, LI1600, LI4096, LI1000001, LI2042, LM, nI_clamp, nI_pos', nI_lt, nI_nlt, nI_le, nI_ge, nI_ne, nI_add, nI_sub, mI_lt, mI_le, mI_nlt, mI_nle, mI_ne, mI_ne', mI_nem, h8, a3, r2, h4]
        have F2 : fB lo hi I I2 := fB_trans F1 (fB_mono (fB_A f2) (by omega) (by omega))
        rw [e33]
        rcases hr2 with ⟨u, r6, r7⟩ | ⟨r6, ⟨v4', r7⟩, r8⟩
        · exact ⟨I2, F2, Or.inl ⟨u, lsO_2 (lsO_r (nnO_m r1) r6) hor, r7⟩⟩
        · have q2 : ∀ c i, i < k ∨ k2 ≤ i → I2 c i = I1 c i := fun c i hi => f2 c i (by omega)
          have hz2 : ∀ c i, 251 ≤ c → k2 ≤ i → I2 c i = I c i := fun c i hc hi => (q2 c i (by omega)).trans ((q0 c i (by omega)).trans (o0 c i hc))
          have hz5 : ∀ i, I2 255 i = I 255 i := fun i => F2 255 i (by omega) (by omega)
          have hzp : ∀ c, 251 ≤ c → I2 c p = I c p := fun c hc => (q2 c p (by omega)).trans ((q0 c p (by omega)).trans (o0 c p hc))
          have rn2 : ∀ u, rnm I2 u = rnm I u := fun u => fB_rnm F2
          have hb2 : prsR t N I2 nn (qw ++ [q]).length k2 rs qr hi := by
            rw [List.length_append, List.length_cons, List.length_nil]
            exact prsR_st rs qr _ _ _ (fun c i c1 c2 c3 c4 c5 => hz2 c i c1 c3) (fun u _ => rn2 u) (Nat.le_refl _) k3
          have hch2 : chn I2 (I2 255 p) rs := by rw [hz5]; exact chn_st rs _ (fun y _ => hz5 y) hch.2
          obtain ⟨I3, f3, hr3⟩ := ih qr (qw ++ [q]) k2 hi I2 (I2 255 p) (some (.int (mI 1))) v4' (by rw [List.append_assoc]; exact hFe) hb2 hch2 hor2 hhi (gEn_fB F2 hE)
          have e7 : M214 A (d + ED + 11) 157 [some (.ref (b + 241)), some (.int fp), some (.int (nI p)), some (.int (mI 1)), v4'] [] (jH h b X I2 J R n) = M214 A (d + ED + 11) 7 [some (.ref (b + 241)), some (.int fp), some (.int (I2 255 p)), some (.int (mI 1)), v4'] [] (jH h b X I2 J R n) := by
            conv => lhs; rw [r214_157]
            simp (disch := omega) [r214_0, r214_1, r214_2, r214_5, r214_6, r214_8, r214_11, r214_12, r214_13, r214_16, r214_17, r214_18, r214_21, r214_22, r214_23, r214_26, r214_27, r214_30, r214_31, r214_32, r214_33, r214_34, r214_37, r214_38, r214_41, r214_42, r214_43, r214_45, r214_47, r214_50, r214_51, r214_54, r214_56, r214_57, r214_60, r214_61, r214_64, r214_66, r214_67, r214_68, r214_71, r214_72, r214_73, r214_74, r214_77, r214_79, r214_80, r214_81, r214_84, r214_86, r214_87, r214_90, r214_91, r214_92, r214_95, r214_97, r214_98, r214_100, r214_103, r214_104, r214_105, r214_108, r214_110, r214_111, r214_114, r214_115, r214_118, r214_120, r214_121, r214_124, r214_125, r214_126, r214_129, r214_131, r214_132, r214_135, r214_136, r214_139, r214_141, r214_142, r214_144, r214_147, r214_148, r214_151, r214_152, r214_153, r214_154, r214_158, r214_161, r214_162, r214_163, r214_164, r214_167, g241, p241_31, ty12_31, p241_32, ty12_32, vf12_28, t241_28, g258, p258, qa215, qo215, vf12_24, t241_24, g254, p254, vf12_23, t241_23, g253, p253, qa213, qo213, vf12_21, t241_21, g251, p251, vf12_22, t241_22, g252, p252, qa216, qo216, vf12_25, t241_25, g255, p255, List.getElem?_cons_zero, List.getElem?_cons_succ, List.length_cons, List.length_nil, ag_nx, ag_dn, ag_no, ag_if, jbr1, jbr2, jc1, jc2, jnul, jld, jsto, jstoL, jst1, jst2, jkill, jinc, jbI, jbL, jbS, juI, jl2i, jcmp, jisR, jisI, jisL, jret, jretv, jfits, jdup, jdup2, jpop, jmm, jcat, Value.category, jinv, jrcv, jthr, jhd, jput, jget, jlen, jald, jast, jaast, jgI, jgL, jgB, jtab, jlku, jacp, vf20, vf21, vf22, vf23, vf24, u2_s, u2_k, u2_i, uc_s, uc_k, uc_c, u2_c, LI0, LI1, LI2, LI3, LI4, LI5, LI6, LI7, LI8, LI9, LI10, LI11, LI12, LI13, LI14, LI15, LI16, LI17, LI18, LI19, LI20, LI21, LI22, LI23, LI24, LI25, LI26, LI27, LI28, LI29, LI30, LI31, LI32, LI33, LI34, LI35, LI36, LI37, LI40, LI42, LI43, LI45, LI48, LI60, LI61, LI64, LI80, LI300, LI400, LI1000, LI2000, LI2001, LI2047, LI2048, LI100000, LI1000000, LI38, LI39, LI41, LI44, LI46, LI47, LI49, LI50, LI51, LI52, LI53, LI54, LI55, LI56, LI57, LI58, LI59, LI62, LI63, LI65, LI66, LI67, LI68, LI69, LI70, LI71, LI72, LI73, LI74, LI75, LI76, LI77, LI78, LI79, LI81, LI82, LI83, LI84, LI85, LI86, LI87, LI88, LI89, LI90, LI91, LI92, LI93, LI94, LI95, LI96, LI97, LI98, LI99, LI100, LI101, LI102, LI103, LI104, LI105, LI106, LI107, LI108, LI109, LI110, LI111, LI112, LI113, LI114, LI115, LI116, LI117, LI118, LI119, LI120, LI121, LI122, LI123, LI124, LI125, LI126, LI127, LI255, LI256, LI999, LI1001, LI1002, LI1600, LI4096, LI1000001, LI2042, LM, nI_clamp, nI_pos', nI_lt, nI_nlt, nI_le, nI_ge, nI_ne, nI_add, nI_sub, mI_lt, mI_le, mI_nlt, mI_nle, mI_ne, mI_ne', mI_nem, h5]
          refine ⟨I3, fB_trans F2 (fB_mono f3 (by omega) (Nat.le_refl _)), ?_⟩
          rw [r7, e7, List.flatten_append, hU]
          have P2 : prRl t N I2 nn (min qw.length 5) F k2 p q := by
            rw [hpr]
            refine ⟨p1, (hzp 251 (by omega)).trans p2, by rw [hzp 252 (by omega)]; exact nmA_st (fun u _ => rn2 u) (Nat.le_refl _) p3, (hzp 257 (by omega)).trans p6, p7, G, ls, xx, ss, k, fun y j hy => hG y j (nmA_st (fun u _ => (fA_rnm f1).symm.trans (fA_rnm f2).symm) (Nat.le_refl _) hy), ?_, ?_, (hzp 258 (by omega)).trans a3, ?_, ?_, r8⟩
            · rw [hzp 253 (by omega)]; exact chn_st ls _ (fun y _ => hz5 y) a1
            · exact ltsR_st ls _ _ _ (fun c i c1 c2 c3 c4 c5 => (q2 c i (by omega)).trans ((q0 c i (by omega)).trans (o0 c i c1))) (fun u _ => rn2 u) (Nat.le_refl _) a2
            · exact bkRl_st (by omega) (fun c i c1 c2 c3 c4 => q2 c i (by omega)) (fun u _ => fA_rnm f2) ⟨a41, r4, as, l, tk, r3, r5⟩
            · rw [hzp 254 (by omega)]; exact chn_st ss _ (fun y _ => hz5 y) a5
          rcases hr3 with ⟨u, r9, r10⟩ | ⟨r9, r10, r11⟩
          · exact Or.inl ⟨u, lsO_r (nnO_app (nnO_m r1) r6) r9, r10⟩
          · refine Or.inr ⟨nnO_app (nnO_app (nnO_m r1) r6) r9, r10, k2, k1, prRl_st (by omega) (fun c i c1 c2 c3 c4 => f3 c i (by omega) (by omega)) (fun u => fB_rnm f3) P2, ?_⟩
            rw [List.length_append, List.length_cons, List.length_nil] at r11
            exact r11
end RLK2
