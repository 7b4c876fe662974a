/-! names are looked up: expressions, all of one -/
section RLX
variable {A : Nat → Nat} {b n : Nat} {h : Nat → Option jC} {X : jXX} {J : Nat → Nat → Int64} {R : Nat → Nat → Nat} {t : Nat → Int32} {N M nn : Nat}
/-- the least that is unknown -/
def lsU (E : Nat → Nat → Bool) (F : List qPr) (u : Nat) (l : List oT) : Prop := (∃ x, x ∈ l ∧ ukO E F x = some u) ∧ ∀ x, x ∈ l → ∀ v, ukO E F x = some v → u ≤ v
def nnU (E : Nat → Nat → Bool) (F : List qPr) (l : List oT) : Prop := ∀ x, x ∈ l → ukO E F x = none
theorem ukO_t {E : Nat → Nat → Bool} {F : List qPr} {x : oT} {u : Nat} (h : ukO E F x = some u) : u = x.2.2.2 := by
  unfold ukO at h
  split at h
  · cases h; rfl
  · cases h
theorem ukO_z {E : Nat → Nat → Bool} {F : List qPr} {pr o tk : Nat} {a c : oA} (h : o ≠ 1 ∧ o ≠ 13 ∧ o ≠ 19 ∧ o ≠ 22 ∧ o ≠ 23) : ukO E F (o, a, c, tk) = none := by
  unfold ukO lkO
  rw [if_neg (show ¬ (o = 1 ∨ o = 13) by omega), if_neg (show ¬ o = 19 by omega), if_neg (show ¬ o = 22 by omega), if_neg (show ¬ o = 23 by omega)]
theorem nnU_app {E : Nat → Nat → Bool} {F : List qPr} {l l' : List oT} (h : nnU E F l) (h' : nnU E F l') : nnU E F (l ++ l') := fun x hx => by
  rcases List.mem_append.mp hx with hx | hx
  · exact h x hx
  · exact h' x hx
theorem nnU_1 {E : Nat → Nat → Bool} {F : List qPr} {x : oT} (h : ukO E F x = none) : nnU E F [x] := fun y hy => by
  rw [List.mem_singleton.mp hy]; exact h
/-- it is in the first -/
theorem lsU_l {E : Nat → Nat → Bool} {F : List qPr} {l l' : List oT} {u mid : Nat} (h : lsU E F u l) (h1 : ∀ x, x ∈ l → x.2.2.2 < mid) (h2 : ∀ x, x ∈ l' → ukO E F x ≠ none → mid ≤ x.2.2.2) : lsU E F u (l ++ l') := by
  obtain ⟨⟨x, hx, hu⟩, hm⟩ := h
  refine ⟨⟨x, List.mem_append_left _ hx, hu⟩, fun y hy v hv => ?_⟩
  rcases List.mem_append.mp hy with hy | hy
  · exact hm y hy v hv
  · have e1 := ukO_t hu
    have e2 := ukO_t hv
    have := h1 x hx
    have := h2 y hy (by rw [hv]; simp)
    omega
theorem lsU_r {E : Nat → Nat → Bool} {F : List qPr} {l l' : List oT} {u : Nat} (h : nnU E F l) (h' : lsU E F u l') : lsU E F u (l ++ l') := by
  obtain ⟨⟨x, hx, hu⟩, hm⟩ := h'
  refine ⟨⟨x, List.mem_append_right _ hx, hu⟩, fun y hy v hv => ?_⟩
  rcases List.mem_append.mp hy with hy | hy
  · rw [h y hy] at hv; cases hv
  · exact hm y hy v hv
/-- only places of variables are set, and to what they must be -/
def fG (G : Int32 → Int32) (lo hi : Nat) (I I' : Nat → Nat → Int32) : Prop := ∀ c i, I' c i = I c i ∨ (c = 253 ∧ lo ≤ i ∧ i ≤ hi ∧ I 251 i = nI 1 ∧ I' c i = G (I 252 i))
theorem fG_refl {G : Int32 → Int32} {lo hi : Nat} {I : Nat → Nat → Int32} : fG G lo hi I I := fun _ _ => Or.inl rfl
theorem fG_mono {G : Int32 → Int32} {lo hi lo' hi' : Nat} {I I' : Nat → Nat → Int32} (h : fG G lo hi I I') (h1 : lo' ≤ lo) (h2 : hi ≤ hi') : fG G lo' hi' I I' := fun c i => by
  rcases h c i with e | ⟨e1, e2, e3, e4, e5⟩
  · exact Or.inl e
  · exact Or.inr ⟨e1, by omega, by omega, e4, e5⟩
theorem fG_n {G : Int32 → Int32} {lo hi c i : Nat} {I I' : Nat → Nat → Int32} (h : fG G lo hi I I') (hc : c ≠ 253) : I' c i = I c i := by
  rcases h c i with e | ⟨e1, _⟩
  · exact e
  · exact (hc e1).elim
theorem fG_o {G : Int32 → Int32} {lo hi c i : Nat} {I I' : Nat → Nat → Int32} (h : fG G lo hi I I') (hc : i < lo ∨ hi < i) : I' c i = I c i := by
  rcases h c i with e | ⟨e1, e2, e3, _⟩
  · exact e
  · omega
theorem fG_trans {G : Int32 → Int32} {lo hi : Nat} {I I1 I2 : Nat → Nat → Int32} (h : fG G lo hi I I1) (h2 : fG G lo hi I1 I2) : fG G lo hi I I2 := fun c i => by
  rcases h2 c i with e | ⟨e1, e2, e3, e4, e5⟩
  · rcases h c i with e' | ⟨e1, e2, e3, e4, e5⟩
    · exact Or.inl (e.trans e')
    · exact Or.inr ⟨e1, e2, e3, e4, e.trans e5⟩
  · rw [fG_n h (show 251 ≠ 253 by omega)] at e4
    rw [fG_n h (show 252 ≠ 253 by omega)] at e5
    exact Or.inr ⟨e1, e2, e3, e4, e5⟩
theorem rnm_e {I I' : Nat → Nat → Int32} {u : Nat} (h : ∀ c i, 243 ≤ c → c ≤ 245 → I' c i = I c i) : rnm I' u = rnm I u := by
  unfold rnm rb rz
  rw [h 244 _ (by omega) (by omega), h 245 _ (by omega) (by omega)]
  have : (fun k => I' 243 (ix (I 244 u) + k)) = fun k => I 243 (ix (I 244 u) + k) := by funext k; exact h _ _ (by omega) (by omega)
  show (hdF (fun k => I' 243 (ix (I 244 u) + k)) _, tlF (fun k => I' 243 (ix (I 244 u) + k)) _) = _
  rw [this]
theorem fG_rnm {G : Int32 → Int32} {lo hi u : Nat} {I I' : Nat → Nat → Int32} (h : fG G lo hi I I') : rnm I' u = rnm I u := rnm_e (fun c i c1 c2 => fG_n h (by omega))
/-- places of variables are set -/
def xLk (G : Int32 → Int32) (I : Nat → Nat → Int32) : Nat → Nat → Prop
  | 0, _ => True
  | r + 1, e => (I 251 e = nI 1 → I 253 e = G (I 252 e)) ∧ (I 251 e = nI 3 → xLk G I r (ix (I 252 e))) ∧ (I 251 e = nI 4 → xLk G I r (ix (I 253 e)) ∧ xLk G I r (ix (I 254 e)))
theorem xLk_fG {G : Int32 → Int32} {lo hi : Nat} {I I' : Nat → Nat → Int32} (hf : fG G lo hi I I') : ∀ (r e : Nat), xLk G I r e → xLk G I' r e := by
  intro r
  induction r with
  | zero => intro e _; trivial
  | succ r ih =>
    intro e h
    obtain ⟨h1, h2, h3⟩ := h
    have f1 : I' 251 e = I 251 e := fG_n hf (by omega)
    have f2 : I' 252 e = I 252 e := fG_n hf (by omega)
    have f4 : I' 254 e = I 254 e := fG_n hf (by omega)
    refine ⟨fun k => ?_, fun k => ?_, fun k => ?_⟩
    · rw [f1] at k
      rw [f2]
      rcases hf 253 e with e1 | ⟨_, _, _, _, e1⟩
      · rw [e1]; exact h1 k
      · exact e1
    · rw [f1] at k
      rw [f2]
      exact ih _ (h2 k)
    · rw [f1] at k
      have f3 : I' 253 e = I 253 e := by
        rcases hf 253 e with e1 | ⟨_, _, _, e4, _⟩
        · exact e1
        · rw [k] at e4; exact absurd e4 (by decide)
      rw [f3, f4]
      exact ⟨ih _ (h3 k).1, ih _ (h3 k).2⟩
theorem xR_fG {pr lo lo' hi : Nat} {G : Int32 → Int32} {I I' : Nat → Nat → Int32} (hf : fG G lo' hi I I') : ∀ (r e : Nat) (l : List oT) (s : Nat), xR t N I nn pr lo r e l s → xR t N I' nn pr lo r e l s := by
  intro r
  induction r with
  | zero => intro e l s h; exact h.elim
  | succ r ih =>
    intro e l s h
    obtain ⟨h1, h2, h⟩ := h
    have f1 : I' 251 e = I 251 e := fG_n hf (by omega)
    have f2 : I' 252 e = I 252 e := fG_n hf (by omega)
    have f4 : I' 254 e = I 254 e := fG_n hf (by omega)
    have f6 : I' 256 e = I 256 e := fG_n hf (by omega)
    refine ⟨h1, h2, ?_⟩
    rw [f1, f2, f4, f6]
    rcases h with h | ⟨a1, j, w, a2, a3, a4, a5, a6, a7⟩ | h | ⟨a1, f, l1, tk, a2, a3, a4, a5⟩ | ⟨a1, f, g, l1, l2, o, tk, c, mid, b1, b2, b3, b4, b5, b6, b7, b8, b9, b10, b11⟩
    · exact Or.inl h
    · exact Or.inr (Or.inl ⟨a1, j, w, a2, a3, a4, a5, by rw [fG_rnm hf]; exact a6, a7⟩)
    · exact Or.inr (Or.inr (Or.inl h))
    · exact Or.inr (Or.inr (Or.inr (Or.inl ⟨a1, f, l1, tk, a2, a3, a4, ih _ _ _ a5⟩)))
    · have f3 : I' 253 e = I 253 e := by
        rcases hf 253 e with e1 | ⟨_, _, _, e4, _⟩
        · exact e1
        · rw [a1] at e4; exact absurd e4 (by decide)
      rw [f3]
      exact Or.inr (Or.inr (Or.inr (Or.inr ⟨a1, f, g, l1, l2, o, tk, c, mid, b1, b2, b3, b4, b5, b6, ih _ _ _ b7, ih _ _ _ b8, b9, b10, b11⟩)))
/-- the process p, its variables -/
def vEn (t : Nat → Int32) (N : Nat) (I : Nat → Nat → Int32) (nn M p : Nat) (ls vs : List Nat) : Prop := I 241 32 = nI p ∧ p < M ∧ chn I (I 253 p) ls ∧ (∀ v, v ∈ ls → v < M) ∧ nmL t N I nn ls vs ∧ ls.length < 2 ^ 20
theorem nmL_st {I I' : Nat → Nat → Int32} : ∀ (vs qs : List Nat), (∀ v, v ∈ vs → I' 252 v = I 252 v ∧ I' 256 v = I 256 v) → (∀ u, u < nn → rnm I' u = rnm I u) → nmL t N I nn vs qs → nmL t N I' nn vs qs := by
  intro vs
  induction vs with
  | nil => intro qs _ _ h; cases qs with | nil => trivial | cons q qs => exact h.elim
  | cons v vs ih =>
    intro qs hf hn h
    cases qs with
    | nil => exact h.elim
    | cons q qs =>
      obtain ⟨f1, f2⟩ := hf v List.mem_cons_self
      refine ⟨?_, f2.trans h.2.1, ih qs (fun w hw => hf w (List.mem_cons_of_mem _ hw)) hn h.2.2⟩
      rw [f1]
      exact nmA_st hn (Nat.le_refl _) h.1
theorem vEn_fG {G : Int32 → Int32} {lo hi p : Nat} {I I' : Nat → Nat → Int32} {ls vs : List Nat} (hf : fG G lo hi I I') (hp : p < lo) (h : vEn t N I nn M p ls vs) : vEn t N I' nn M p ls vs := by
  obtain ⟨h1, h2, h3, h4, h5, h6⟩ := h
  refine ⟨(fG_n hf (by omega)).trans h1, h2, ?_, h4, nmL_st ls vs (fun v hv => ⟨fG_n hf (by omega), fG_n hf (by omega)⟩) (fun u _ => fG_rnm hf) h5, h6⟩
  rw [fG_o hf (Or.inl hp)]
  exact chn_st ls _ (fun a _ => fG_n hf (by omega)) h3
theorem r216 {pr lo p : Nat} {ls vs : List Nat} {F : List qPr} {G : Int32 → Int32} {c0 : qPr} (hcap : ∀ k, 251 ≤ k → k ≤ 258 → M ≤ cp X k) (hM : M ≤ 2 ^ 18) (hnn : nn ≤ 2 ^ 20) (hF : F[pr]? = some c0) (hv : c0.2.1 = vs) (hpr : pr < 6) (hp : p < lo) : ∀ (r d e : Nat) (l : List oT) (s : Nat) (I : Nat → Nat → Int32), (∀ w w', w < nn → w' < nn → rnm I w = rnm I w' → w = w') → (∀ x j, nmA t N I nn x j → G x = inO (vs.findIdx? (fun q => eqY t N q j))) → xR t N I nn pr lo r e l s → e < M → vEn t N I nn M p ls vs → ∃ I', fG G lo e I I' ∧ ((∃ u, lsU (eqY t N) F u l ∧ jcall A jcode (d + r + 2) 216 [.ref (b + 241), .int (nI e)] (jH h b X I J R n) = some (.inr 11, jH h b X (u2 I' 241 2 (nI (tpos t N u))) J R n)) ∨ (nnU (eqY t N) F l ∧ jcall A jcode (d + r + 2) 216 [.ref (b + 241), .int (nI e)] (jH h b X I J R n) = some (.inl none, (jH h b X I' J R n)) ∧ xLk G I' r e)) := by
  intro r
  induction r with
  | zero => intro d e l s I _ _ h; exact h.elim
  | succ r ih =>
    intro d e l s I hi hG h he hE
    rw [show d + (r + 1) + 2 = d + r + 2 + 1 by omega]
    have h1 : e < cp X 251 := Nat.lt_of_lt_of_le he (hcap 251 (by omega) (by omega))
    have h2 : e < cp X 252 := Nat.lt_of_lt_of_le he (hcap 252 (by omega) (by omega))
    have h3 : e < cp X 253 := Nat.lt_of_lt_of_le he (hcap 253 (by omega) (by omega))
    have h4 : e < cp X 254 := Nat.lt_of_lt_of_le he (hcap 254 (by omega) (by omega))
    have h6 : e < cp X 256 := Nat.lt_of_lt_of_le he (hcap 256 (by omega) (by omega))
    obtain ⟨_, hlo, h⟩ := h
    rcases h with ⟨a1, j, a2, a3, a4⟩ | ⟨a1, j, w, a2, a3, a4, a5, a6, a7⟩ | ⟨a1, j, o, a2, a3⟩ | ⟨a1, f, l1, tk, a2, a3, a4, a5⟩ | ⟨a1, f, g, l1, l2, o, tk, c, mid, b1, b2, b3, b4, b5, b6, b7, b8, b9, b10, b11⟩
    · refine ⟨I, fG_refl, Or.inr ⟨?_, ?_, fun k => ?_, fun k => ?_, fun k => ?_⟩⟩
      · rw [a2]; exact nnU_1 (ukO_z (pr := pr) (by omega))
      · simp (disch := omega) [je216, r216_0, r216_1, r216_4, r216_5, r216_6, r216_7, r216_10, r216_11, r216_14, r216_15, r216_16, r216_17, r216_20, r216_21, r216_24, r216_25, r216_26, r216_29, r216_30, r216_31, r216_32, r216_35, r216_36, r216_37, r216_40, r216_41, r216_44, r216_45, r216_48, r216_49, r216_50, r216_51, r216_54, r216_55, r216_56, r216_59, r216_60, r216_61, r216_64, r216_67, r216_68, r216_71, r216_72, r216_73, r216_74, r216_77, r216_78, r216_79, r216_82, r216_83, r216_84, r216_87, r216_88, r216_89, r216_92, r216_93, r216_94, r216_97, g241, vf12_21, t241_21, g251, p251, vf12_23, t241_23, g253, p253, vf12_32, vf12_22, t241_22, g252, p252, vf12_26, t241_26, g256, p256, qa213, qo213, qa216, qo216, vf12_24, t241_24, g254, p254, List.getElem?_cons_zero, List.getElem?_cons_succ, List.length_cons, List.length_nil, ag_nx, ag_dn, ag_no, ag_if, jbr1, jbr2, jc1, jc2, jnul, jld, jsto, jstoL, jst1, jst2, jkill, jinc, jbI, jbL, jbS, juI, jl2i, jcmp, jisR, jisI, jisL, jret, jretv, jfits, jdup, jdup2, jpop, jmm, jcat, Value.category, jinv, jrcv, jthr, jhd, jput, jget, jlen, jald, jast, jaast, jgI, jgL, jgB, jtab, jlku, jacp, vf20, vf21, vf22, vf23, vf24, u2_s, u2_k, u2_i, uc_s, uc_k, uc_c, u2_c, LI0, LI1, LI2, LI3, LI4, LI5, LI6, LI7, LI8, LI9, LI10, LI11, LI12, LI13, LI14, LI15, LI16, LI17, LI18, LI19, LI20, LI21, LI22, LI23, LI24, LI25, LI26, LI27, LI28, LI29, LI30, LI31, LI32, LI33, LI34, LI35, LI36, LI37, LI40, LI42, LI43, LI45, LI48, LI60, LI61, LI64, LI80, LI300, LI400, LI1000, LI2000, LI2001, LI2047, LI2048, LI100000, LI1000000, LI38, LI39, LI41, LI44, LI46, LI47, LI49, LI50, LI51, LI52, LI53, LI54, LI55, LI56, LI57, LI58, LI59, LI62, LI63, LI65, LI66, LI67, LI68, LI69, LI70, LI71, LI72, LI73, LI74, LI75, LI76, LI77, LI78, LI79, LI81, LI82, LI83, LI84, LI85, LI86, LI87, LI88, LI89, LI90, LI91, LI92, LI93, LI94, LI95, LI96, LI97, LI98, LI99, LI100, LI101, LI102, LI103, LI104, LI105, LI106, LI107, LI108, LI109, LI110, LI111, LI112, LI113, LI114, LI115, LI116, LI117, LI118, LI119, LI120, LI121, LI122, LI123, LI124, LI125, LI126, LI127, LI255, LI256, LI999, LI1001, LI1002, LI1600, LI4096, LI1000001, LI2042, LM, nI_clamp, nI_pos', nI_lt, nI_nlt, nI_le, nI_ge, nI_ne, nI_add, nI_sub, mI_lt, mI_le, mI_nlt, mI_nle, mI_ne, mI_ne', mI_nem, h1, a1]
      · rw [a1] at k; exact absurd k (by decide)
      · rw [a1] at k; exact absurd k (by decide)
      · rw [a1] at k; exact absurd k (by decide)
    · obtain ⟨k1, k2, k3, k4, k5, k6⟩ := hE
      have hp3 : p < cp X 253 := Nat.lt_of_lt_of_le k2 (hcap 253 (by omega) (by omega))
      have hnm : nmA t N I nn (I 252 e) j := ⟨a3, w, a4, a5, a6⟩
      have hGe := hG _ _ hnm
      have hlk : lkO (eqY t N) F (1, .inr j, .inl (nI pr), j) = some (vs.findIdx? (fun q => eqY t N q j)) := by
        unfold lkO
        rw [if_pos (Or.inl rfl)]
        show some (fdVar (eqY t N) F (ix (nI pr)) j) = _
        unfold fdVar ix
        rw [nI_clamp (by omega), hF, ← hv]
      rcases r213 (A := A) (d := d + r) (b := b) (n := n) (h := h) (J := J) (R := R) (pl := I 256 e) hcap hM hnn hi hnm k3 k4 k5 k6 with ⟨i, q1, q2, q3⟩ | ⟨q1, q3⟩
      · refine ⟨u2 I 253 e (nI i), fun c y => ?_, Or.inr ⟨?_, ?_, fun k => ?_, fun k => ?_, fun k => ?_⟩⟩
        · by_cases hcy : c = 253 ∧ y = e
          · refine Or.inr ⟨hcy.1, by omega, by omega, by rw [hcy.2]; exact a1, ?_⟩
            rw [hcy.1, hcy.2, u2_s, hGe, q1]
            rfl
          · refine Or.inl ?_
            unfold u2
            rw [if_neg hcy]
        · rw [a2]
          refine nnU_1 ?_
          unfold ukO
          rw [hlk, q1]
        · simp (disch := omega) [je216, r216_0, r216_1, r216_4, r216_5, r216_6, r216_7, r216_10, r216_11, r216_14, r216_15, r216_16, r216_17, r216_20, r216_21, r216_24, r216_25, r216_26, r216_29, r216_30, r216_31, r216_32, r216_35, r216_36, r216_37, r216_40, r216_41, r216_44, r216_45, r216_48, r216_49, r216_50, r216_51, r216_54, r216_55, r216_56, r216_59, r216_60, r216_61, r216_64, r216_67, r216_68, r216_71, r216_72, r216_73, r216_74, r216_77, r216_78, r216_79, r216_82, r216_83, r216_84, r216_87, r216_88, r216_89, r216_92, r216_93, r216_94, r216_97, g241, vf12_21, t241_21, g251, p251, vf12_23, t241_23, g253, p253, vf12_32, vf12_22, t241_22, g252, p252, vf12_26, t241_26, g256, p256, qa213, qo213, qa216, qo216, vf12_24, t241_24, g254, p254, List.getElem?_cons_zero, List.getElem?_cons_succ, List.length_cons, List.length_nil, ag_nx, ag_dn, ag_no, ag_if, jbr1, jbr2, jc1, jc2, jnul, jld, jsto, jstoL, jst1, jst2, jkill, jinc, jbI, jbL, jbS, juI, jl2i, jcmp, jisR, jisI, jisL, jret, jretv, jfits, jdup, jdup2, jpop, jmm, jcat, Value.category, jinv, jrcv, jthr, jhd, jput, jget, jlen, jald, jast, jaast, jgI, jgL, jgB, jtab, jlku, jacp, vf20, vf21, vf22, vf23, vf24, u2_s, u2_k, u2_i, uc_s, uc_k, uc_c, u2_c, LI0, LI1, LI2, LI3, LI4, LI5, LI6, LI7, LI8, LI9, LI10, LI11, LI12, LI13, LI14, LI15, LI16, LI17, LI18, LI19, LI20, LI21, LI22, LI23, LI24, LI25, LI26, LI27, LI28, LI29, LI30, LI31, LI32, LI33, LI34, LI35, LI36, LI37, LI40, LI42, LI43, LI45, LI48, LI60, LI61, LI64, LI80, LI300, LI400, LI1000, LI2000, LI2001, LI2047, LI2048, LI100000, LI1000000, LI38, LI39, LI41, LI44, LI46, LI47, LI49, LI50, LI51, LI52, LI53, LI54, LI55, LI56, LI57, LI58, LI59, LI62, LI63, LI65, LI66, LI67, LI68, LI69, LI70, LI71, LI72, LI73, LI74, LI75, LI76, LI77, LI78, LI79, LI81, LI82, LI83, LI84, LI85, LI86, LI87, LI88, LI89, LI90, LI91, LI92, LI93, LI94, LI95, LI96, LI97, LI98, LI99, LI100, LI101, LI102, LI103, LI104, LI105, LI106, LI107, LI108, LI109, LI110, LI111, LI112, LI113, LI114, LI115, LI116, LI117, LI118, LI119, LI120, LI121, LI122, LI123, LI124, LI125, LI126, LI127, LI255, LI256, LI999, LI1001, LI1002, LI1600, LI4096, LI1000001, LI2042, LM, nI_clamp, nI_pos', nI_lt, nI_nlt, nI_le, nI_ge, nI_ne, nI_add, nI_sub, mI_lt, mI_le, mI_nlt, mI_nle, mI_ne, mI_ne', mI_nem, h1, a1, k1, hp3, h2, h6, q3, h3]
        · rw [u2_s, u2_k (by omega), hGe, q1]
          rfl
        · rw [u2_k (by omega), a1] at k; exact absurd k (by decide)
        · rw [u2_k (by omega), a1] at k; exact absurd k (by decide)
      · have hu : ukO (eqY t N) F (1, .inr j, .inl (nI pr), j) = some j := by
          unfold ukO
          rw [hlk, q1]
        refine ⟨I, fG_refl, Or.inl ⟨j, ⟨⟨_, by rw [a2]; exact List.mem_cons_self, hu⟩, fun x hx v hv => ?_⟩, ?_⟩⟩
        · rw [a2] at hx
          rw [List.mem_singleton.mp hx, hu] at hv
          cases hv
          exact Nat.le_refl _
        · rw [← a7]
          simp (disch := omega) [je216, r216_0, r216_1, r216_4, r216_5, r216_6, r216_7, r216_10, r216_11, r216_14, r216_15, r216_16, r216_17, r216_20, r216_21, r216_24, r216_25, r216_26, r216_29, r216_30, r216_31, r216_32, r216_35, r216_36, r216_37, r216_40, r216_41, r216_44, r216_45, r216_48, r216_49, r216_50, r216_51, r216_54, r216_55, r216_56, r216_59, r216_60, r216_61, r216_64, r216_67, r216_68, r216_71, r216_72, r216_73, r216_74, r216_77, r216_78, r216_79, r216_82, r216_83, r216_84, r216_87, r216_88, r216_89, r216_92, r216_93, r216_94, r216_97, g241, vf12_21, t241_21, g251, p251, vf12_23, t241_23, g253, p253, vf12_32, vf12_22, t241_22, g252, p252, vf12_26, t241_26, g256, p256, qa213, qo213, qa216, qo216, vf12_24, t241_24, g254, p254, List.getElem?_cons_zero, List.getElem?_cons_succ, List.length_cons, List.length_nil, ag_nx, ag_dn, ag_no, ag_if, jbr1, jbr2, jc1, jc2, jnul, jld, jsto, jstoL, jst1, jst2, jkill, jinc, jbI, jbL, jbS, juI, jl2i, jcmp, jisR, jisI, jisL, jret, jretv, jfits, jdup, jdup2, jpop, jmm, jcat, Value.category, jinv, jrcv, jthr, jhd, jput, jget, jlen, jald, jast, jaast, jgI, jgL, jgB, jtab, jlku, jacp, vf20, vf21, vf22, vf23, vf24, u2_s, u2_k, u2_i, uc_s, uc_k, uc_c, u2_c, LI0, LI1, LI2, LI3, LI4, LI5, LI6, LI7, LI8, LI9, LI10, LI11, LI12, LI13, LI14, LI15, LI16, LI17, LI18, LI19, LI20, LI21, LI22, LI23, LI24, LI25, LI26, LI27, LI28, LI29, LI30, LI31, LI32, LI33, LI34, LI35, LI36, LI37, LI40, LI42, LI43, LI45, LI48, LI60, LI61, LI64, LI80, LI300, LI400, LI1000, LI2000, LI2001, LI2047, LI2048, LI100000, LI1000000, LI38, LI39, LI41, LI44, LI46, LI47, LI49, LI50, LI51, LI52, LI53, LI54, LI55, LI56, LI57, LI58, LI59, LI62, LI63, LI65, LI66, LI67, LI68, LI69, LI70, LI71, LI72, LI73, LI74, LI75, LI76, LI77, LI78, LI79, LI81, LI82, LI83, LI84, LI85, LI86, LI87, LI88, LI89, LI90, LI91, LI92, LI93, LI94, LI95, LI96, LI97, LI98, LI99, LI100, LI101, LI102, LI103, LI104, LI105, LI106, LI107, LI108, LI109, LI110, LI111, LI112, LI113, LI114, LI115, LI116, LI117, LI118, LI119, LI120, LI121, LI122, LI123, LI124, LI125, LI126, LI127, LI255, LI256, LI999, LI1001, LI1002, LI1600, LI4096, LI1000001, LI2042, LM, nI_clamp, nI_pos', nI_lt, nI_nlt, nI_le, nI_ge, nI_ne, nI_add, nI_sub, mI_lt, mI_le, mI_nlt, mI_nle, mI_ne, mI_ne', mI_nem, h1, a1, k1, hp3, h2, h6, q3]
    · refine ⟨I, fG_refl, Or.inr ⟨?_, ?_, fun k => ?_, fun k => ?_, fun k => ?_⟩⟩
      · rw [a2]; exact nnU_1 (ukO_z (pr := pr) (by omega))
      · simp (disch := omega) [je216, r216_0, r216_1, r216_4, r216_5, r216_6, r216_7, r216_10, r216_11, r216_14, r216_15, r216_16, r216_17, r216_20, r216_21, r216_24, r216_25, r216_26, r216_29, r216_30, r216_31, r216_32, r216_35, r216_36, r216_37, r216_40, r216_41, r216_44, r216_45, r216_48, r216_49, r216_50, r216_51, r216_54, r216_55, r216_56, r216_59, r216_60, r216_61, r216_64, r216_67, r216_68, r216_71, r216_72, r216_73, r216_74, r216_77, r216_78, r216_79, r216_82, r216_83, r216_84, r216_87, r216_88, r216_89, r216_92, r216_93, r216_94, r216_97, g241, vf12_21, t241_21, g251, p251, vf12_23, t241_23, g253, p253, vf12_32, vf12_22, t241_22, g252, p252, vf12_26, t241_26, g256, p256, qa213, qo213, qa216, qo216, vf12_24, t241_24, g254, p254, List.getElem?_cons_zero, List.getElem?_cons_succ, List.length_cons, List.length_nil, ag_nx, ag_dn, ag_no, ag_if, jbr1, jbr2, jc1, jc2, jnul, jld, jsto, jstoL, jst1, jst2, jkill, jinc, jbI, jbL, jbS, juI, jl2i, jcmp, jisR, jisI, jisL, jret, jretv, jfits, jdup, jdup2, jpop, jmm, jcat, Value.category, jinv, jrcv, jthr, jhd, jput, jget, jlen, jald, jast, jaast, jgI, jgL, jgB, jtab, jlku, jacp, vf20, vf21, vf22, vf23, vf24, u2_s, u2_k, u2_i, uc_s, uc_k, uc_c, u2_c, LI0, LI1, LI2, LI3, LI4, LI5, LI6, LI7, LI8, LI9, LI10, LI11, LI12, LI13, LI14, LI15, LI16, LI17, LI18, LI19, LI20, LI21, LI22, LI23, LI24, LI25, LI26, LI27, LI28, LI29, LI30, LI31, LI32, LI33, LI34, LI35, LI36, LI37, LI40, LI42, LI43, LI45, LI48, LI60, LI61, LI64, LI80, LI300, LI400, LI1000, LI2000, LI2001, LI2047, LI2048, LI100000, LI1000000, LI38, LI39, LI41, LI44, LI46, LI47, LI49, LI50, LI51, LI52, LI53, LI54, LI55, LI56, LI57, LI58, LI59, LI62, LI63, LI65, LI66, LI67, LI68, LI69, LI70, LI71, LI72, LI73, LI74, LI75, LI76, LI77, LI78, LI79, LI81, LI82, LI83, LI84, LI85, LI86, LI87, LI88, LI89, LI90, LI91, LI92, LI93, LI94, LI95, LI96, LI97, LI98, LI99, LI100, LI101, LI102, LI103, LI104, LI105, LI106, LI107, LI108, LI109, LI110, LI111, LI112, LI113, LI114, LI115, LI116, LI117, LI118, LI119, LI120, LI121, LI122, LI123, LI124, LI125, LI126, LI127, LI255, LI256, LI999, LI1001, LI1002, LI1600, LI4096, LI1000001, LI2042, LM, nI_clamp, nI_pos', nI_lt, nI_nlt, nI_le, nI_ge, nI_ne, nI_add, nI_sub, mI_lt, mI_le, mI_nlt, mI_nle, mI_ne, mI_ne', mI_nem, h1, a1]
      · rw [a1] at k; exact absurd k (by decide)
      · rw [a1] at k; exact absurd k (by decide)
      · rw [a1] at k; exact absurd k (by decide)
    · obtain ⟨I1, g1, hr⟩ := ih d f l1 s I hi hG a5 (by omega) hE
      refine ⟨I1, fG_mono g1 (Nat.le_refl _) (by omega), ?_⟩
      have hz : nnU (eqY t N) F [oz pr 7 tk] := nnU_1 (ukO_z (pr := pr) (by omega))
      rcases hr with ⟨u, r1, r2⟩ | ⟨r1, r2, r3⟩
      · refine Or.inl ⟨u, ?_, ?_⟩
        · rw [a4]
          refine ⟨⟨_, List.mem_append_left _ r1.1.choose_spec.1, r1.1.choose_spec.2⟩, fun x hx v hv => ?_⟩
          rcases List.mem_append.mp hx with hx | hx
          · exact r1.2 x hx v hv
          · rw [hz x hx] at hv; cases hv
        · simp (disch := omega) [je216, r216_0, r216_1, r216_4, r216_5, r216_6, r216_7, r216_10, r216_11, r216_14, r216_15, r216_16, r216_17, r216_20, r216_21, r216_24, r216_25, r216_26, r216_29, r216_30, r216_31, r216_32, r216_35, r216_36, r216_37, r216_40, r216_41, r216_44, r216_45, r216_48, r216_49, r216_50, r216_51, r216_54, r216_55, r216_56, r216_59, r216_60, r216_61, r216_64, r216_67, r216_68, r216_71, r216_72, r216_73, r216_74, r216_77, r216_78, r216_79, r216_82, r216_83, r216_84, r216_87, r216_88, r216_89, r216_92, r216_93, r216_94, r216_97, g241, vf12_21, t241_21, g251, p251, vf12_23, t241_23, g253, p253, vf12_32, vf12_22, t241_22, g252, p252, vf12_26, t241_26, g256, p256, qa213, qo213, qa216, qo216, vf12_24, t241_24, g254, p254, List.getElem?_cons_zero, List.getElem?_cons_succ, List.length_cons, List.length_nil, ag_nx, ag_dn, ag_no, ag_if, jbr1, jbr2, jc1, jc2, jnul, jld, jsto, jstoL, jst1, jst2, jkill, jinc, jbI, jbL, jbS, juI, jl2i, jcmp, jisR, jisI, jisL, jret, jretv, jfits, jdup, jdup2, jpop, jmm, jcat, Value.category, jinv, jrcv, jthr, jhd, jput, jget, jlen, jald, jast, jaast, jgI, jgL, jgB, jtab, jlku, jacp, vf20, vf21, vf22, vf23, vf24, u2_s, u2_k, u2_i, uc_s, uc_k, uc_c, u2_c, LI0, LI1, LI2, LI3, LI4, LI5, LI6, LI7, LI8, LI9, LI10, LI11, LI12, LI13, LI14, LI15, LI16, LI17, LI18, LI19, LI20, LI21, LI22, LI23, LI24, LI25, LI26, LI27, LI28, LI29, LI30, LI31, LI32, LI33, LI34, LI35, LI36, LI37, LI40, LI42, LI43, LI45, LI48, LI60, LI61, LI64, LI80, LI300, LI400, LI1000, LI2000, LI2001, LI2047, LI2048, LI100000, LI1000000, LI38, LI39, LI41, LI44, LI46, LI47, LI49, LI50, LI51, LI52, LI53, LI54, LI55, LI56, LI57, LI58, LI59, LI62, LI63, LI65, LI66, LI67, LI68, LI69, LI70, LI71, LI72, LI73, LI74, LI75, LI76, LI77, LI78, LI79, LI81, LI82, LI83, LI84, LI85, LI86, LI87, LI88, LI89, LI90, LI91, LI92, LI93, LI94, LI95, LI96, LI97, LI98, LI99, LI100, LI101, LI102, LI103, LI104, LI105, LI106, LI107, LI108, LI109, LI110, LI111, LI112, LI113, LI114, LI115, LI116, LI117, LI118, LI119, LI120, LI121, LI122, LI123, LI124, LI125, LI126, LI127, LI255, LI256, LI999, LI1001, LI1002, LI1600, LI4096, LI1000001, LI2042, LM, nI_clamp, nI_pos', nI_lt, nI_nlt, nI_le, nI_ge, nI_ne, nI_add, nI_sub, mI_lt, mI_le, mI_nlt, mI_nle, mI_ne, mI_ne', mI_nem, h1, a1, h2, a3, r2]
      · refine Or.inr ⟨by rw [a4]; exact nnU_app r1 hz, ?_, fun k => ?_, fun k => ?_, fun k => ?_⟩
        · simp (disch := omega) [je216, r216_0, r216_1, r216_4, r216_5, r216_6, r216_7, r216_10, r216_11, r216_14, r216_15, r216_16, r216_17, r216_20, r216_21, r216_24, r216_25, r216_26, r216_29, r216_30, r216_31, r216_32, r216_35, r216_36, r216_37, r216_40, r216_41, r216_44, r216_45, r216_48, r216_49, r216_50, r216_51, r216_54, r216_55, r216_56, r216_59, r216_60, r216_61, r216_64, r216_67, r216_68, r216_71, r216_72, r216_73, r216_74, r216_77, r216_78, r216_79, r216_82, r216_83, r216_84, r216_87, r216_88, r216_89, r216_92, r216_93, r216_94, r216_97, g241, vf12_21, t241_21, g251, p251, vf12_23, t241_23, g253, p253, vf12_32, vf12_22, t241_22, g252, p252, vf12_26, t241_26, g256, p256, qa213, qo213, qa216, qo216, vf12_24, t241_24, g254, p254, List.getElem?_cons_zero, List.getElem?_cons_succ, List.length_cons, List.length_nil, ag_nx, ag_dn, ag_no, ag_if, jbr1, jbr2, jc1, jc2, jnul, jld, jsto, jstoL, jst1, jst2, jkill, jinc, jbI, jbL, jbS, juI, jl2i, jcmp, jisR, jisI, jisL, jret, jretv, jfits, jdup, jdup2, jpop, jmm, jcat, Value.category, jinv, jrcv, jthr, jhd, jput, jget, jlen, jald, jast, jaast, jgI, jgL, jgB, jtab, jlku, jacp, vf20, vf21, vf22, vf23, vf24, u2_s, u2_k, u2_i, uc_s, uc_k, uc_c, u2_c, LI0, LI1, LI2, LI3, LI4, LI5, LI6, LI7, LI8, LI9, LI10, LI11, LI12, LI13, LI14, LI15, LI16, LI17, LI18, LI19, LI20, LI21, LI22, LI23, LI24, LI25, LI26, LI27, LI28, LI29, LI30, LI31, LI32, LI33, LI34, LI35, LI36, LI37, LI40, LI42, LI43, LI45, LI48, LI60, LI61, LI64, LI80, LI300, LI400, LI1000, LI2000, LI2001, LI2047, LI2048, LI100000, LI1000000, LI38, LI39, LI41, LI44, LI46, LI47, LI49, LI50, LI51, LI52, LI53, LI54, LI55, LI56, LI57, LI58, LI59, LI62, LI63, LI65, LI66, LI67, LI68, LI69, LI70, LI71, LI72, LI73, LI74, LI75, LI76, LI77, LI78, LI79, LI81, LI82, LI83, LI84, LI85, LI86, LI87, LI88, LI89, LI90, LI91, LI92, LI93, LI94, LI95, LI96, LI97, LI98, LI99, LI100, LI101, LI102, LI103, LI104, LI105, LI106, LI107, LI108, LI109, LI110, LI111, LI112, LI113, LI114, LI115, LI116, LI117, LI118, LI119, LI120, LI121, LI122, LI123, LI124, LI125, LI126, LI127, LI255, LI256, LI999, LI1001, LI1002, LI1600, LI4096, LI1000001, LI2042, LM, nI_clamp, nI_pos', nI_lt, nI_nlt, nI_le, nI_ge, nI_ne, nI_add, nI_sub, mI_lt, mI_le, mI_nlt, mI_nle, mI_ne, mI_ne', mI_nem, h1, a1, h2, a3, r2]
        · rw [fG_n g1 (by omega), a1] at k; exact absurd k (by decide)
        · rw [fG_n g1 (by omega), a3, show ix (nI f) = f from nI_clamp (by omega)]; exact r3
        · rw [fG_n g1 (by omega), a1] at k; exact absurd k (by decide)
    · have hz : nnU (eqY t N) F [oz pr o tk] := nnU_1 (ukO_z (pr := pr) (by omega))
      obtain ⟨I1, g1, hr⟩ := ih d f l1 s I hi hG b7 (by omega) hE
      rcases hr with ⟨u, r1, r2⟩ | ⟨r1, r2, r3⟩
      · refine ⟨I1, fG_mono g1 (Nat.le_refl _) (by omega), Or.inl ⟨u, ?_, ?_⟩⟩
        · rw [b6, List.append_assoc]
          refine lsU_l r1 b10 (fun x hx hn => ?_)
          rcases List.mem_append.mp hx with hx | hx
          · exact b11 x hx
          · exact (hn (hz x hx)).elim
        · simp (disch := omega) [je216, r216_0, r216_1, r216_4, r216_5, r216_6, r216_7, r216_10, r216_11, r216_14, r216_15, r216_16, r216_17, r216_20, r216_21, r216_24, r216_25, r216_26, r216_29, r216_30, r216_31, r216_32, r216_35, r216_36, r216_37, r216_40, r216_41, r216_44, r216_45, r216_48, r216_49, r216_50, r216_51, r216_54, r216_55, r216_56, r216_59, r216_60, r216_61, r216_64, r216_67, r216_68, r216_71, r216_72, r216_73, r216_74, r216_77, r216_78, r216_79, r216_82, r216_83, r216_84, r216_87, r216_88, r216_89, r216_92, r216_93, r216_94, r216_97, g241, vf12_21, t241_21, g251, p251, vf12_23, t241_23, g253, p253, vf12_32, vf12_22, t241_22, g252, p252, vf12_26, t241_26, g256, p256, qa213, qo213, qa216, qo216, vf12_24, t241_24, g254, p254, List.getElem?_cons_zero, List.getElem?_cons_succ, List.length_cons, List.length_nil, ag_nx, ag_dn, ag_no, ag_if, jbr1, jbr2, jc1, jc2, jnul, jld, jsto, jstoL, jst1, jst2, jkill, jinc, jbI, jbL, jbS, juI, jl2i, jcmp, jisR, jisI, jisL, jret, jretv, jfits, jdup, jdup2, jpop, jmm, jcat, Value.category, jinv, jrcv, jthr, jhd, jput, jget, jlen, jald, jast, jaast, jgI, jgL, jgB, jtab, jlku, jacp, vf20, vf21, vf22, vf23, vf24, u2_s, u2_k, u2_i, uc_s, uc_k, uc_c, u2_c, LI0, LI1, LI2, LI3, LI4, LI5, LI6, LI7, LI8, LI9, LI10, LI11, LI12, LI13, LI14, LI15, LI16, LI17, LI18, LI19, LI20, LI21, LI22, LI23, LI24, LI25, LI26, LI27, LI28, LI29, LI30, LI31, LI32, LI33, LI34, LI35, LI36, LI37, LI40, LI42, LI43, LI45, LI48, LI60, LI61, LI64, LI80, LI300, LI400, LI1000, LI2000, LI2001, LI2047, LI2048, LI100000, LI1000000, LI38, LI39, LI41, LI44, LI46, LI47, LI49, LI50, LI51, LI52, LI53, LI54, LI55, LI56, LI57, LI58, LI59, LI62, LI63, LI65, LI66, LI67, LI68, LI69, LI70, LI71, LI72, LI73, LI74, LI75, LI76, LI77, LI78, LI79, LI81, LI82, LI83, LI84, LI85, LI86, LI87, LI88, LI89, LI90, LI91, LI92, LI93, LI94, LI95, LI96, LI97, LI98, LI99, LI100, LI101, LI102, LI103, LI104, LI105, LI106, LI107, LI108, LI109, LI110, LI111, LI112, LI113, LI114, LI115, LI116, LI117, LI118, LI119, LI120, LI121, LI122, LI123, LI124, LI125, LI126, LI127, LI255, LI256, LI999, LI1001, LI1002, LI1600, LI4096, LI1000001, LI2042, LM, nI_clamp, nI_pos', nI_lt, nI_nlt, nI_le, nI_ge, nI_ne, nI_add, nI_sub, mI_lt, mI_le, mI_nlt, mI_nle, mI_ne, mI_ne', mI_nem, h1, a1, h3, b3, r2]
      · have hi1 : ∀ w w', w < nn → w' < nn → rnm I1 w = rnm I1 w' → w = w' := fun w w' x1 x2 x3 => hi w w' x1 x2 (by rw [fG_rnm g1, fG_rnm g1] at x3; exact x3)
        have hG1 : ∀ x j, nmA t N I1 nn x j → G x = inO (vs.findIdx? (fun q => eqY t N q j)) := fun x j hx => hG x j (nmA_st (fun u _ => (fG_rnm g1).symm) (Nat.le_refl _) hx)
        have e254 : I1 254 e = nI g := (fG_n g1 (by omega)).trans b4
        obtain ⟨I2, g2, hr2⟩ := ih d g l2 (s - 1) I1 hi1 hG1 (xR_fG g1 _ _ _ _ b8) (by omega) (vEn_fG g1 hp hE)
        refine ⟨I2, fG_trans (fG_mono g1 (Nat.le_refl _) (by omega)) (fG_mono g2 (Nat.le_refl _) (by omega)), ?_⟩
        have k4 : I2 251 e = nI 4 := by rw [fG_n g2 (by omega), fG_n g1 (by omega)]; exact a1
        rcases hr2 with ⟨u, r4, r5⟩ | ⟨r4, r5, r6⟩
        · refine Or.inl ⟨u, ?_, ?_⟩
          · rw [b6, List.append_assoc]
            refine lsU_r r1 ⟨⟨_, List.mem_append_left _ r4.1.choose_spec.1, r4.1.choose_spec.2⟩, fun x hx v hv => ?_⟩
            rcases List.mem_append.mp hx with hx | hx
            · exact r4.2 x hx v hv
            · rw [hz x hx] at hv; cases hv
          · simp (disch := omega) [je216, r216_0, r216_1, r216_4, r216_5, r216_6, r216_7, r216_10, r216_11, r216_14, r216_15, r216_16, r216_17, r216_20, r216_21, r216_24, r216_25, r216_26, r216_29, r216_30, r216_31, r216_32, r216_35, r216_36, r216_37, r216_40, r216_41, r216_44, r216_45, r216_48, r216_49, r216_50, r216_51, r216_54, r216_55, r216_56, r216_59, r216_60, r216_61, r216_64, r216_67, r216_68, r216_71, r216_72, r216_73, r216_74, r216_77, r216_78, r216_79, r216_82, r216_83, r216_84, r216_87, r216_88, r216_89, r216_92, r216_93, r216_94, r216_97, g241, vf12_21, t241_21, g251, p251, vf12_23, t241_23, g253, p253, vf12_32, vf12_22, t241_22, g252, p252, vf12_26, t241_26, g256, p256, qa213, qo213, qa216, qo216, vf12_24, t241_24, g254, p254, List.getElem?_cons_zero, List.getElem?_cons_succ, List.length_cons, List.length_nil, ag_nx, ag_dn, ag_no, ag_if, jbr1, jbr2, jc1, jc2, jnul, jld, jsto, jstoL, jst1, jst2, jkill, jinc, jbI, jbL, jbS, juI, jl2i, jcmp, jisR, jisI, jisL, jret, jretv, jfits, jdup, jdup2, jpop, jmm, jcat, Value.category, jinv, jrcv, jthr, jhd, jput, jget, jlen, jald, jast, jaast, jgI, jgL, jgB, jtab, jlku, jacp, vf20, vf21, vf22, vf23, vf24, u2_s, u2_k, u2_i, uc_s, uc_k, uc_c, u2_c, LI0, LI1, LI2, LI3, LI4, LI5, LI6, LI7, LI8, LI9, LI10, LI11, LI12, LI13, LI14, LI15, LI16, LI17, LI18, LI19, LI20, LI21, LI22, LI23, LI24, LI25, LI26, LI27, LI28, LI29, LI30, LI31, LI32, LI33, LI34, LI35, LI36, LI37, LI40, LI42, LI43, LI45, LI48, LI60, LI61, LI64, LI80, LI300, LI400, LI1000, LI2000, LI2001, LI2047, LI2048, LI100000, LI1000000, LI38, LI39, LI41, LI44, LI46, LI47, LI49, LI50, LI51, LI52, LI53, LI54, LI55, LI56, LI57, LI58, LI59, LI62, LI63, LI65, LI66, LI67, LI68, LI69, LI70, LI71, LI72, LI73, LI74, LI75, LI76, LI77, LI78, LI79, LI81, LI82, LI83, LI84, LI85, LI86, LI87, LI88, LI89, LI90, LI91, LI92, LI93, LI94, LI95, LI96, LI97, LI98, LI99, LI100, LI101, LI102, LI103, LI104, LI105, LI106, LI107, LI108, LI109, LI110, LI111, LI112, LI113, LI114, LI115, LI116, LI117, LI118, LI119, LI120, LI121, LI122, LI123, LI124, LI125, LI126, LI127, LI255, LI256, LI999, LI1001, LI1002, LI1600, LI4096, LI1000001, LI2042, LM, nI_clamp, nI_pos', nI_lt, nI_nlt, nI_le, nI_ge, nI_ne, nI_add, nI_sub, mI_lt, mI_le, mI_nlt, mI_nle, mI_ne, mI_ne', mI_nem, h1, a1, h3, b3, r2, h4, e254, r5]
        · refine Or.inr ⟨by rw [b6]; exact nnU_app (nnU_app r1 r4) hz, ?_, fun k => ?_, fun k => ?_, fun k => ?_⟩
          · simp (disch := omega) [je216, r216_0, r216_1, r216_4, r216_5, r216_6, r216_7, r216_10, r216_11, r216_14, r216_15, r216_16, r216_17, r216_20, r216_21, r216_24, r216_25, r216_26, r216_29, r216_30, r216_31, r216_32, r216_35, r216_36, r216_37, r216_40, r216_41, r216_44, r216_45, r216_48, r216_49, r216_50, r216_51, r216_54, r216_55, r216_56, r216_59, r216_60, r216_61, r216_64, r216_67, r216_68, r216_71, r216_72, r216_73, r216_74, r216_77, r216_78, r216_79, r216_82, r216_83, r216_84, r216_87, r216_88, r216_89, r216_92, r216_93, r216_94, r216_97, g241, vf12_21, t241_21, g251, p251, vf12_23, t241_23, g253, p253, vf12_32, vf12_22, t241_22, g252, p252, vf12_26, t241_26, g256, p256, qa213, qo213, qa216, qo216, vf12_24, t241_24, g254, p254, List.getElem?_cons_zero, List.getElem?_cons_succ, List.length_cons, List.length_nil, ag_nx, ag_dn, ag_no, ag_if, jbr1, jbr2, jc1, jc2, jnul, jld, jsto, jstoL, jst1, jst2, jkill, jinc, jbI, jbL, jbS, juI, jl2i, jcmp, jisR, jisI, jisL, jret, jretv, jfits, jdup, jdup2, jpop, jmm, jcat, Value.category, jinv, jrcv, jthr, jhd, jput, jget, jlen, jald, jast, jaast, jgI, jgL, jgB, jtab, jlku, jacp, vf20, vf21, vf22, vf23, vf24, u2_s, u2_k, u2_i, uc_s, uc_k, uc_c, u2_c, LI0, LI1, LI2, LI3, LI4, LI5, LI6, LI7, LI8, LI9, LI10, LI11, LI12, LI13, LI14, LI15, LI16, LI17, LI18, LI19, LI20, LI21, LI22, LI23, LI24, LI25, LI26, LI27, LI28, LI29, LI30, LI31, LI32, LI33, LI34, LI35, LI36, LI37, LI40, LI42, LI43, LI45, LI48, LI60, LI61, LI64, LI80, LI300, LI400, LI1000, LI2000, LI2001, LI2047, LI2048, LI100000, LI1000000, LI38, LI39, LI41, LI44, LI46, LI47, LI49, LI50, LI51, LI52, LI53, LI54, LI55, LI56, LI57, LI58, LI59, LI62, LI63, LI65, LI66, LI67, LI68, LI69, LI70, LI71, LI72, LI73, LI74, LI75, LI76, LI77, LI78, LI79, LI81, LI82, LI83, LI84, LI85, LI86, LI87, LI88, LI89, LI90, LI91, LI92, LI93, LI94, LI95, LI96, LI97, LI98, LI99, LI100, LI101, LI102, LI103, LI104, LI105, LI106, LI107, LI108, LI109, LI110, LI111, LI112, LI113, LI114, LI115, LI116, LI117, LI118, LI119, LI120, LI121, LI122, LI123, LI124, LI125, LI126, LI127, LI255, LI256, LI999, LI1001, LI1002, LI1600, LI4096, LI1000001, LI2042, LM, nI_clamp, nI_pos', nI_lt, nI_nlt, nI_le, nI_ge, nI_ne, nI_add, nI_sub, mI_lt, mI_le, mI_nlt, mI_nle, mI_ne, mI_ne', mI_nem, h1, a1, h3, b3, r2, h4, e254, r5]
          · rw [k4] at k; exact absurd k (by decide)
          · rw [k4] at k; exact absurd k (by decide)
          · have f3 : I2 253 e = nI f := by
              rcases g2 253 e with x1 | ⟨_, _, _, x1, _⟩
              · rw [x1]
                rcases g1 253 e with x2 | ⟨_, _, _, x2, _⟩
                · rw [x2]; exact b3
                · rw [a1] at x2; exact absurd x2 (by decide)
              · rw [fG_n g1 (by omega), a1] at x1; exact absurd x1 (by decide)
            have f4 : I2 254 e = nI g := (fG_n g2 (by omega)).trans e254
            rw [f3, f4, show ix (nI f) = f from nI_clamp (by omega), show ix (nI g) = g from nI_clamp (by omega)]
            exact ⟨xLk_fG g2 _ _ r3, r6⟩
end RLX
