/-! walk: the class remembers a state; the pool grows -/
/-- an entry: a state, where from, by what -/
abbrev bE : Type := aW Nm × Int32 × Int32
def bz (W : aW Nm) : aW Nm := (W.1.map eI, (W.2.1.1, W.2.1.2.1, 0, 0, 0), ([], false), (0, 0))
theorem bz_mp (W : aW Nm) : mp (bz W) = bz W := by simp [bz, mp, eI_eI, Function.comp_def]
theorem bz_mq {W V : aW Nm} (h : mq W V) : bz W = bz V := by
  unfold mq mp at h
  simp only [Prod.mk.injEq] at h
  obtain ⟨a1, ⟨a2, a3, _⟩, _, _⟩ := h
  unfold bz
  rw [a1, a2, a3]
theorem ky_bz (W : aW Nm) : ky (bz W) = ky W := by
  have := ky_mp W
  exact this
theorem sz_eI (a : aI Nm) : sz (eI a) = sz a := by simp [sz, eI]
theorem szL_eI : ∀ (L : List (aI Nm)), szL (L.map eI) = szL L := by
  intro L
  induction L with
  | nil => rfl
  | cons a L ih => show sz (eI a) + szL (L.map eI) = sz a + szL L; rw [ih, sz_eI]
theorem pkL_eI {cN : Int32 → Nm} {D : Nat → Int32} {now : Int32} : ∀ (L : List (aI Nm)) (f : Nat), pkL cN D now f L → pkL cN D now f (L.map eI) := by
  intro L
  induction L with
  | nil => intro f _; trivial
  | cons a L ih =>
    intro f h
    exact ⟨pI_e (eI_eI a).symm h.1, by rw [sz_eI]; exact ih _ h.2⟩
theorem pW_bz {cN : Int32 → Nm} {D : Nat → Int32} {f : Nat} {W : aW Nm} (h : pW cN D f W) : pW cN D f (bz W) := by
  obtain ⟨h1, h2, h3⟩ := h
  exact ⟨h1, by show _ = nI (W.1.map eI).length; rw [List.length_map]; exact h2, pkL_eI _ _ h3⟩
/-- how long the pool is -/
def zpl (X : jXX) : Prop := (∃ k, k ≤ 6 ∧ cp X 206 = 4096 * 2 ^ k) ∨ cp X 206 = 370000
theorem zpl_b {X : jXX} (h : zpl X) : 4096 ≤ cp X 206 ∧ cp X 206 ≤ 370000 := by
  rcases h with ⟨k, hk, e⟩ | e
  · obtain rfl | rfl | rfl | rfl | rfl | rfl | rfl : k = 0 ∨ k = 1 ∨ k = 2 ∨ k = 3 ∨ k = 4 ∨ k = 5 ∨ k = 6 := by omega
    all_goals omega
  · omega
/-- the class's entries -/
def bC (cN : Int32 → Nm) (X : jXX) (I : Nat → Nat → Int32) (E : List bE) (F Z : Nat → Nat) : Prop := I 131 9 = nI E.length ∧ E.length ≤ 1000 ∧ tbI I E.length ∧ bgI X I E.length F Z ∧ zpl X ∧ F 0 = 0 ∧ (∀ e, F (e + 1) = F e + Z e) ∧ (∀ e, e < E.length → Z e ≤ 370 ∧ F e + 370 ≤ cp X 206) ∧ ∀ (e : Nat) (x : bE), E[e]? = some x → pW cN (I 206) (F e) x.1 ∧ Z e = 2 + szL x.1.1 ∧ I 208 e = x.1.2.1.2.1 ∧ I 209 e = x.2.1 ∧ I 210 e = x.2.2
theorem F_le {F Z : Nat → Nat} {m : Nat} (h0 : F 0 = 0) (h1 : ∀ e, F (e + 1) = F e + Z e) (h2 : ∀ e, e < m → Z e ≤ 370) : ∀ e, e ≤ m → F e ≤ 370 * e := by
  intro e
  induction e with
  | zero => intro _; omega
  | succ e ih =>
    intro he
    have := ih (by omega)
    have := h1 e
    have := h2 e (by omega)
    omega
theorem F_mono {F Z : Nat → Nat} (h1 : ∀ e, F (e + 1) = F e + Z e) : ∀ e k, e ≤ k → F e ≤ F k := by
  intro e k
  induction k with
  | zero => intro he; have : e = 0 := by omega
            subst this; exact Nat.le_refl _
  | succ k ih =>
    intro he
    by_cases c : e = k + 1
    · subst c; exact Nat.le_refl _
    · have := ih (by omega)
      have := h1 k
      omega
section RM
variable {A : Nat → Nat} {d b n : Nat} {h : Nat → Option jC} {X : jXX} {I : Nat → Nat → Int32} {J : Nat → Nat → Int64} {R : Nat → Nat → Nat}
theorem c291 {m : Nat} (hc : cp X 206 < m) (hm : m < 2 ^ 20) : jcall A jcode (d + 1) 291 [.ref (b + ad X 206), .int (nI m)] (jH h b X I J R n) = some (.inl (some (.ref (b + tp X))), jH h b (xad X (20, m, fun i => .int (gR I 206 (cp X 206) i))) I J R (n + m)) := by
  have ga : ∀ c, (jH h b (xad X c) I J R (n + m)).1 (b + ad X 206) = some (20, cp X 206, fun i => .int (I 206 i)) := fun c => by
    have := H_ad (h := h) (b := b) (X := xad X c) (I := I) (J := J) (R := R) (n := n + m) (v := 206) (by decide +kernel)
    exact this
  have ed : (defaultValue (jAt 20)) = Value.int (nI 0) := by decide
  have ev : va_cpy (fun i => Value.int (I 206 i)) (fun x => Value.int (nI 0)) 0 0 (cp X 206) = fun i => Value.int (gR I 206 (cp X 206) i) := by
    funext i
    unfold va_cpy gR
    by_cases c : i < cp X 206
    · rw [if_pos ⟨by omega, by omega⟩, if_pos c]
      simp
    · rw [if_neg (by omega), if_neg c]
  simp (disch := omega) [je291, r291_0, r291_1, r291_2, r291_3, r291_6, r291_13, r291_14, r291_15, r291_17, r291_18, r291_19, r291_20, r291_21, r291_22, r291_23, r291_24, r291_25, r291_28, r291_31, r291_32, List.getElem?_cons_zero, List.getElem?_cons_succ, List.length_cons, List.length_nil, ag_nx, ag_dn, ag_no, ag_if, jbr1, jbr2, jc1, jc2, jnul, jld, jsto, jstoL, jst1, jst2, jkill, jinc, jbI, jbL, jbS, juI, jl2i, jcmp, jisR, jisI, jisL, jret, jretv, jfits, jdup, jdup2, jpop, jmm, jcat, Value.category, jinv, jrcv, jthr, jhd, jput, jget, jlen, jald, jast, jaast, jgI, jgL, jgB, jtab, jlku, jacp, vf20, vf21, vf22, vf23, vf24, u2_s, u2_k, u2_i, uc_s, uc_k, uc_c, u2_c, LI0, LI1, LI2, LI3, LI4, LI5, LI6, LI7, LI8, LI9, LI10, LI11, LI12, LI13, LI14, LI15, LI16, LI17, LI18, LI19, LI20, LI21, LI22, LI23, LI24, LI25, LI26, LI27, LI28, LI29, LI30, LI31, LI32, LI33, LI34, LI35, LI36, LI37, LI40, LI42, LI43, LI45, LI48, LI60, LI61, LI64, LI80, LI300, LI400, LI1000, LI2000, LI2001, LI2047, LI2048, LI100000, LI1000000, LM, nI_clamp, nI_pos', nI_lt, nI_nlt, nI_le, nI_ge, nI_ne, nI_add, nI_sub, mI_lt, mI_le, mI_nlt, mI_nle, mI_ne, mI_ne', mI_nem, LI46, LI370, LI370000, LI31, LI15, g206, ga, ed, jnewa, H_new, H_top, H_last, H_lset, show m ≤ 60000000 by omega, show ¬ m < cp X 206 by omega, show cp X 206 ≤ m by omega, ev]
theorem gr206 {m : Nat} {g : Nat → Int32} : jset (jH h b (xad X (20, m, fun i => .int (g i))) I J R n) (b + 131) (8, 16, updV (vf b 8 (xad X (20, m, fun i => .int (g i))) I J R 131) 1 (.ref (b + tp X))) = jH h b (xgr X 206 (I 206) m (by decide)) (uc I 206 g) J R n := H_grow (v := 206) (k := 131) (f := 1) (t := 8) (M := 16) (by decide) (by decide) (by decide +kernel) (by decide +kernel) (by decide)
theorem scp206 {m : Nat} {row : Nat → Int32} {hv : gw 206 = true} : scp (xgr X 206 row m hv) + cp X 206 = scp X + m := by
  unfold scp
  simp only [xgr_cp]
  simp
  omega
/-- nothing but the pool's length -/
def fPo (X X' : jXX) : Prop := ∀ v, v ≠ 206 → cp X' v = cp X v ∧ ad X' v = ad X v
/-- Walker.makeRoom -/
theorem c113 {f : Nat} (hz : zpl X) (hf : f + 370 ≤ 370000) (hfc : f ≤ cp X 206) : ∃ X' I' n', jcall A jcode (d + 2) 113 [.ref (b + 131), .int (nI f)] (jH h b X I J R n) = some (.inl none, jH h b X' I' J R n') ∧ (∀ c i, c ≠ 206 → I' c i = I c i) ∧ (∀ i, i < cp X 206 → I' 206 i = I 206 i) ∧ f + 370 ≤ cp X' 206 ∧ zpl X' ∧ gro X n X' n' ∧ fPo X X' ∧ cp X 206 ≤ cp X' 206 := by
  have hb := zpl_b hz
  by_cases c : f + 370 ≤ cp X 206
  · refine ⟨X, I, n, ?_, fun _ _ _ => rfl, fun _ _ => rfl, c, hz, gro_refl, fun _ _ => ⟨rfl, rfl⟩, Nat.le_refl _⟩
    simp (disch := omega) [je113, r113_0, r113_1, r113_4, r113_5, r113_6, r113_7, r113_8, r113_11, r113_12, r113_15, r113_16, r113_18, r113_21, r113_22, r113_23, r113_26, r113_27, r113_28, r113_29, r113_32, r113_33, r113_34, r113_37, r113_39, r113_42, r113_45, r113_48, g131, vf8_1, t131_1, g206, qa291, ty8_1, List.getElem?_cons_zero, List.getElem?_cons_succ, List.length_cons, List.length_nil, ag_nx, ag_dn, ag_no, ag_if, jbr1, jbr2, jc1, jc2, jnul, jld, jsto, jstoL, jst1, jst2, jkill, jinc, jbI, jbL, jbS, juI, jl2i, jcmp, jisR, jisI, jisL, jret, jretv, jfits, jdup, jdup2, jpop, jmm, jcat, Value.category, jinv, jrcv, jthr, jhd, jput, jget, jlen, jald, jast, jaast, jgI, jgL, jgB, jtab, jlku, jacp, vf20, vf21, vf22, vf23, vf24, u2_s, u2_k, u2_i, uc_s, uc_k, uc_c, u2_c, LI0, LI1, LI2, LI3, LI4, LI5, LI6, LI7, LI8, LI9, LI10, LI11, LI12, LI13, LI14, LI15, LI16, LI17, LI18, LI19, LI20, LI21, LI22, LI23, LI24, LI25, LI26, LI27, LI28, LI29, LI30, LI31, LI32, LI33, LI34, LI35, LI36, LI37, LI40, LI42, LI43, LI45, LI48, LI60, LI61, LI64, LI80, LI300, LI400, LI1000, LI2000, LI2001, LI2047, LI2048, LI100000, LI1000000, LM, nI_clamp, nI_pos', nI_lt, nI_nlt, nI_le, nI_ge, nI_ne, nI_add, nI_sub, mI_lt, mI_le, mI_nlt, mI_nle, mI_ne, mI_ne', mI_nem, LI46, LI370, LI370000, LI31, LI15, g206, c, show ¬ cp X 206 < f + 370 by omega]
  · obtain ⟨m, hm⟩ : ∃ m, m = if 370000 < 2 * cp X 206 then 370000 else 2 * cp X 206 := ⟨_, rfl⟩
    have hm1 : cp X 206 < m ∧ m < 2 ^ 20 ∧ f + 370 ≤ m ∧ 4 * cp X 206 ≤ 3 * m ∧ ((∃ k, k ≤ 6 ∧ m = 4096 * 2 ^ k) ∨ m = 370000) := by
      rcases hz with ⟨k, hk, e⟩ | e
      · obtain rfl | rfl | rfl | rfl | rfl | rfl | rfl : k = 0 ∨ k = 1 ∨ k = 2 ∨ k = 3 ∨ k = 4 ∨ k = 5 ∨ k = 6 := by omega
        · rw [if_neg (by omega)] at hm; exact ⟨by omega, by omega, by omega, by omega, Or.inl ⟨1, by omega, by omega⟩⟩
        · rw [if_neg (by omega)] at hm; exact ⟨by omega, by omega, by omega, by omega, Or.inl ⟨2, by omega, by omega⟩⟩
        · rw [if_neg (by omega)] at hm; exact ⟨by omega, by omega, by omega, by omega, Or.inl ⟨3, by omega, by omega⟩⟩
        · rw [if_neg (by omega)] at hm; exact ⟨by omega, by omega, by omega, by omega, Or.inl ⟨4, by omega, by omega⟩⟩
        · rw [if_neg (by omega)] at hm; exact ⟨by omega, by omega, by omega, by omega, Or.inl ⟨5, by omega, by omega⟩⟩
        · rw [if_neg (by omega)] at hm; exact ⟨by omega, by omega, by omega, by omega, Or.inl ⟨6, by omega, by omega⟩⟩
        · rw [if_pos (by omega)] at hm; exact ⟨by omega, by omega, by omega, by omega, Or.inr hm⟩
      · omega
    obtain ⟨m1, m2, m3, m4, m5⟩ := hm1
    have e291 := c291 (A := A) (d := d) (b := b) (h := h) (X := X) (I := I) (J := J) (R := R) (n := n) m1 m2
    have hmx : (if nI 370000 < nI (2 * cp X 206) then nI 370000 else nI (2 * cp X 206)) = nI m := by
      rw [hm]
      by_cases c2 : 370000 < 2 * cp X 206
      · rw [if_pos c2, if_pos (nI_lt c2 (by omega))]
      · rw [if_neg c2, if_neg (nI_nlt (by omega) (by omega))]
    refine ⟨xgr X 206 (I 206) m (by decide), uc I 206 (gR I 206 (cp X 206)), n + m, ?_, fun c i hc => by rw [uc_ap, if_neg hc], fun i hi => by rw [uc_ap, if_pos rfl]; unfold gR; rw [if_pos hi], by rw [xgr_cp, if_pos rfl]; exact m3, by unfold zpl; rw [xgr_cp, if_pos rfl]; exact m5, ?_, fun v hv => ⟨by rw [xgr_cp, if_neg hv], by rw [xgr_ad, if_neg hv]⟩, by rw [xgr_cp, if_pos rfl]; omega⟩
    · simp (disch := omega) [je113, r113_0, r113_1, r113_4, r113_5, r113_6, r113_7, r113_8, r113_11, r113_12, r113_15, r113_16, r113_18, r113_21, r113_22, r113_23, r113_26, r113_27, r113_28, r113_29, r113_32, r113_33, r113_34, r113_37, r113_39, r113_42, r113_45, r113_48, g131, vf8_1, t131_1, g206, qa291, ty8_1, List.getElem?_cons_zero, List.getElem?_cons_succ, List.length_cons, List.length_nil, ag_nx, ag_dn, ag_no, ag_if, jbr1, jbr2, jc1, jc2, jnul, jld, jsto, jstoL, jst1, jst2, jkill, jinc, jbI, jbL, jbS, juI, jl2i, jcmp, jisR, jisI, jisL, jret, jretv, jfits, jdup, jdup2, jpop, jmm, jcat, Value.category, jinv, jrcv, jthr, jhd, jput, jget, jlen, jald, jast, jaast, jgI, jgL, jgB, jtab, jlku, jacp, vf20, vf21, vf22, vf23, vf24, u2_s, u2_k, u2_i, uc_s, uc_k, uc_c, u2_c, LI0, LI1, LI2, LI3, LI4, LI5, LI6, LI7, LI8, LI9, LI10, LI11, LI12, LI13, LI14, LI15, LI16, LI17, LI18, LI19, LI20, LI21, LI22, LI23, LI24, LI25, LI26, LI27, LI28, LI29, LI30, LI31, LI32, LI33, LI34, LI35, LI36, LI37, LI40, LI42, LI43, LI45, LI48, LI60, LI61, LI64, LI80, LI300, LI400, LI1000, LI2000, LI2001, LI2047, LI2048, LI100000, LI1000000, LM, nI_clamp, nI_pos', nI_lt, nI_nlt, nI_le, nI_ge, nI_ne, nI_add, nI_sub, mI_lt, mI_le, mI_nlt, mI_nle, mI_ne, mI_ne', mI_nem, LI46, LI370, LI370000, LI31, LI15, g206, show cp X 206 < f + 370 by omega, hf, nI_mul, e291, gr206, hmx]
    · have hs := scp206 (X := X) (m := m) (row := I 206) (hv := by decide)
      refine ⟨?_, ?_, ?_⟩
      · rw [xgr_tp]; omega
      · omega
      · omega
end RM
