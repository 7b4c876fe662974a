/-! texts: charAt; the words of the tokens -/
theorem nI8 : (8 : Int32) = nI 8 := by decide
theorem jtx_lt (t k : Nat) : (jtx t).getD k 0 < 128 := by
  have h : ∀ t, ∀ x ∈ jtx t, x < 128 := by
    intro t
    match t with
    | 0 => decide +kernel
    | 1 => decide +kernel
    | t + 2 => exact (by decide +kernel : ∀ x ∈ jtx 2, x < 128)
  rw [List.getD_eq_getElem?_getD]
  cases e : (jtx t)[k]? with
  | none => decide
  | some x => exact h t x (List.mem_of_getElem? e)
theorem jtx_len (t : Nat) : (jtx t).length < 1000 := by
  match t with
  | 0 => decide +kernel
  | 1 => decide +kernel
  | t + 2 => exact (by decide +kernel : (jtx 2).length < 1000)
theorem chr_e {c : Nat} (h : c < 128) : ((nI c &&& 255).toUInt32 % 65536).toInt32 = nI c := by
  have h1 : ∀ c, c < 128 → ((nI c &&& 255).toUInt32 % 65536).toInt32 = nI c := by decide +kernel
  exact h1 c h
theorem chr_e2 {c : Nat} (h : c < 128) : (((nI c).toUInt32 &&& Int32.toUInt32 255) % 65536).toInt32 = nI c := by
  have h1 : ∀ c, c < 128 → (((nI c).toUInt32 &&& Int32.toUInt32 255) % 65536).toInt32 = nI c := by decide +kernel
  exact h1 c h
theorem chr_f {c : Nat} (h : c < 128) : jfits .char (.int (nI c)) = true := by
  have h1 : ∀ c, c < 128 → jfits .char (.int (nI c)) = true := by decide +kernel
  exact h1 c h
theorem je321n {A : Nat → Nat} {d : Nat} {σ : jS} {x0 x1 : Int32} : jcall A jcode (d + 1) 321 [.int x0, .int x1, .null] σ = M321 A d 0 [some (.int x0), some (.int x1), some .null] [] σ := jcall_eq (t := jt321) rfl (by decide) (by decide +kernel) (by decide +kernel) (by decide +kernel) (nL := 3) (hs := []) (rt := some .int) (Nat.le_of_ble_eq_true rfl)
theorem s321n {A : Nat → Nat} {d : Nat} {σ : jS} {i n : Int32} (h0 : 0 ≤ i) (hn : i < n) : jcall A jcode (d + 1) 321 [.int i, .int n, .null] σ = some (.inl (some (.int i)), σ) := by
  simp [je321n, r321_0, r321_1, r321_4, r321_5, r321_6, r321_9, r321_10, r321_11, r321_15, r321_16, r321_17, ag_nx, ag_dn, ag_no, ag_if, jbr1, jbr2, jc1, jc2, jnul, jld, jsto, jstoL, jst1, jst2, jkill, jinc, jbI, jbL, jbS, juI, jl2i, jcmp, jisR, jisI, jisL, jgtx, jtln, jtch, jret, jretv, jdup, jpop, jobj, jmm, jcat, Value.category, jinv, jrcv, jthr, jhd, jnewa, jnewc, jput, jget, B_get, B_get0, B_set, B_set0, B_new, B_top, fl_upd, fl_get, z20_e, z21_e, z22_e, z23_e, z24_e, Nat.add_assoc, jaast, jlen, jald, jast, jgI, jgL, jgB, List.set_cons_zero, List.set_cons_succ, fits_i, fits_l, fits_r, fits_o, fits_z0, fits_z1, fits_n, fits_m, h0, hn, Int32.not_lt.mpr h0]
theorem s316 {A : Nat → Nat} {d : Nat} {σ : jS} {i n : Int32} (h0 : 0 ≤ i) (hn : i < n) : jcall A jcode (d + 2) 316 [.int i, .int n] σ = some (.inl none, σ) := by
  have hf : (∃ x, jfmt A = .ref x) ∨ jfmt A = .null := by
    unfold jfmt
    split
    · exact Or.inl ⟨_, rfl⟩
    · exact Or.inr rfl
  rcases hf with ⟨x, hf⟩ | hf
  · simp [je316, r316_0, r316_1, r316_2, r316_5, r316_8, r316_9, ag_nx, ag_dn, ag_no, ag_if, jbr1, jbr2, jc1, jc2, jnul, jld, jsto, jstoL, jst1, jst2, jkill, jinc, jbI, jbL, jbS, juI, jl2i, jcmp, jisR, jisI, jisL, jgtx, jtln, jtch, jret, jretv, jdup, jpop, jobj, jmm, jcat, Value.category, jinv, jrcv, jthr, jhd, jnewa, jnewc, jput, jget, B_get, B_get0, B_set, B_set0, B_new, B_top, fl_upd, fl_get, z20_e, z21_e, z22_e, z23_e, z24_e, Nat.add_assoc, jaast, jlen, jald, jast, jgI, jgL, jgB, List.set_cons_zero, List.set_cons_succ, fits_i, fits_l, fits_r, fits_o, fits_z0, fits_z1, fits_n, fits_m, hf, na321, s321 h0 hn]
  · simp [je316, r316_0, r316_1, r316_2, r316_5, r316_8, r316_9, ag_nx, ag_dn, ag_no, ag_if, jbr1, jbr2, jc1, jc2, jnul, jld, jsto, jstoL, jst1, jst2, jkill, jinc, jbI, jbL, jbS, juI, jl2i, jcmp, jisR, jisI, jisL, jgtx, jtln, jtch, jret, jretv, jdup, jpop, jobj, jmm, jcat, Value.category, jinv, jrcv, jthr, jhd, jnewa, jnewc, jput, jget, B_get, B_get0, B_set, B_set0, B_new, B_top, fl_upd, fl_get, z20_e, z21_e, z22_e, z23_e, z24_e, Nat.add_assoc, jaast, jlen, jald, jast, jgI, jgL, jgB, List.set_cons_zero, List.set_cons_succ, fits_i, fits_l, fits_r, fits_o, fits_z0, fits_z1, fits_n, fits_m, hf, na321, s321n h0 hn]
theorem s317 {A : Nat → Nat} {d : Nat} {σ : jS} {t k : Nat} (hA : jAp0 A) (ht : t < 3) (hk : k < (jtx t).length) : jcall A jcode (d + 3) 317 [.ref (A (50 + t)), .int (nI k)] σ = some (.inl (some (.int (nI ((jtx t).getD k 0)))), σ) := by
  have hl := jtx_len t
  have h1 : (nI k).toNatClampNeg = k := nI_clamp (by omega)
  have h2 : 0 ≤ nI k := nI_pos' (by omega)
  have h3 : nI k < nI (jtx t).length := nI_lt hk (by omega)
  have h4 := jtx_lt t k
  obtain ⟨c, hc⟩ : ∃ c, (jtx t)[k]? = some c := ⟨_, List.getElem?_eq_getElem hk⟩
  have hc2 : (jtx t)[k] = c := Option.some.inj ((List.getElem?_eq_getElem hk).symm.trans hc)
  rw [List.getD_eq_getElem?_getD, hc] at h4
  have h5 := chr_f h4
  have h6 := chr_e2 h4
  simp only [Option.getD_some] at h5 h6
  simp [je317, r317_0, r317_1, r317_2, r317_3, r317_6, r317_7, r317_8, r317_9, r317_12, r317_13, r317_14, ag_nx, ag_dn, ag_no, ag_if, jbr1, jbr2, jc1, jc2, jnul, jld, jsto, jstoL, jst1, jst2, jkill, jinc, jbI, jbL, jbS, juI, jl2i, jcmp, jisR, jisI, jisL, jgtx, jtln, jtch, jret, jretv, jdup, jpop, jobj, jmm, jcat, Value.category, jinv, jrcv, jthr, jhd, jnewa, jnewc, jput, jget, B_get, B_get0, B_set, B_set0, B_new, B_top, fl_upd, fl_get, z20_e, z21_e, z22_e, z23_e, z24_e, Nat.add_assoc, jaast, jlen, jald, jast, jgI, jgL, jgB, List.set_cons_zero, List.set_cons_succ, fits_i, fits_l, fits_r, fits_o, fits_z0, fits_z1, fits_n, fits_m, (hA t ht).2, s316 h2 h3, na316, h1, h2, hk, hc, hc2, h5, h6]
theorem s311 {A : Nat → Nat} {d : Nat} {σ : jS} {t k : Nat} (hA : jAp0 A) (ht : t < 3) (hk : k < (jtx t).length) : jcall A jcode (d + 4) 311 [.ref (A t), .int (nI k)] σ = some (.inl (some (.int (nI ((jtx t).getD k 0)))), σ) := by
  have h5 := chr_f (jtx_lt t k)
  have e := s317 (A := A) (d := d) (σ := σ) hA ht hk
  simp only [List.getD_eq_getElem?_getD] at h5 e
  simp [je311, r311_0, r311_1, r311_4, r311_7, r311_8, r311_11, r311_12, r311_15, r311_16, r311_17, r311_20, r311_24, ag_nx, ag_dn, ag_no, ag_if, jbr1, jbr2, jc1, jc2, jnul, jld, jsto, jstoL, jst1, jst2, jkill, jinc, jbI, jbL, jbS, juI, jl2i, jcmp, jisR, jisI, jisL, jgtx, jtln, jtch, jret, jretv, jdup, jpop, jobj, jmm, jcat, Value.category, jinv, jrcv, jthr, jhd, jnewa, jnewc, jput, jget, B_get, B_get0, B_set, B_set0, B_new, B_top, fl_upd, fl_get, z20_e, z21_e, z22_e, z23_e, z24_e, Nat.add_assoc, jaast, jlen, jald, jast, jgI, jgL, jgB, List.set_cons_zero, List.set_cons_succ, fits_i, fits_l, fits_r, fits_o, fits_z0, fits_z1, fits_n, fits_m, (hA t ht).1, s315 (hA t ht).1, e, na315, ow315, na317, h5]
/-- a word, shifted to the left -/
def alN : Nat → Int64 → Int64
  | 0, x => x
  | n + 1, x => if lg_cmp (x.toUInt64 >>> (Int64.toUInt64 56 &&& Int64.toUInt64 63)).toInt64 0 = 0 then alN n (x <<< (8 &&& 63)) else x
theorem l97 {A : Nat → Nat} {d : Nat} {σ : jS} {x : Int64} : ∀ (m : Nat) (y : Int64), m ≤ 8 → M97 A d 5 [some (.long x), none, some (.long y), none, some (.int (nI (8 - m)))] [] σ = some (.inl (some (.long (alN m y))), σ) := by
  intro m
  induction m with
  | zero =>
    intro y _
    rw [r97_5]
    have h1 : (8 : Int32) ≤ nI (8 - 0) := by decide
    simp [r97_0, r97_1, r97_2, r97_3, r97_7, r97_9, r97_12, r97_13, r97_15, r97_16, r97_17, r97_18, r97_21, r97_22, r97_24, r97_25, r97_26, r97_29, r97_32, r97_33, ag_nx, ag_dn, ag_no, ag_if, jbr1, jbr2, jc1, jc2, jnul, jld, jsto, jstoL, jst1, jst2, jkill, jinc, jbI, jbL, jbS, juI, jl2i, jcmp, jisR, jisI, jisL, jgtx, jtln, jtch, jret, jretv, jdup, jpop, jobj, jmm, jcat, Value.category, jinv, jrcv, jthr, jhd, jnewa, jnewc, jput, jget, B_get, B_get0, B_set, B_set0, B_new, B_top, fl_upd, fl_get, z20_e, z21_e, z22_e, z23_e, z24_e, Nat.add_assoc, jaast, jlen, jald, jast, jgI, jgL, jgB, List.set_cons_zero, List.set_cons_succ, fits_i, fits_l, fits_r, fits_o, fits_z0, fits_z1, fits_n, fits_m, alN, h1]
  | succ m ih =>
    intro y hm
    have h1 : ¬ (8 : Int32) ≤ nI (7 - m) := by rw [nI8]; exact nI_ge (by omega) (by omega)
    have h2 : nI (7 - m) + 1 = nI (8 - m) := by rw [nI_1]; congr 1; omega
    have h3 := fun z => ih z (by omega)
    rw [r97_5]
    by_cases hc : lg_cmp (y.toUInt64 >>> (Int64.toUInt64 56 &&& Int64.toUInt64 63)).toInt64 0 = 0
    · have e : alN (m + 1) y = alN m (y <<< (8 &&& 63)) := by rw [alN, if_pos hc]
      rw [e, ← h3]
      simp [r97_0, r97_1, r97_2, r97_3, r97_7, r97_9, r97_12, r97_13, r97_15, r97_16, r97_17, r97_18, r97_21, r97_22, r97_24, r97_25, r97_26, r97_29, r97_32, r97_33, ag_nx, ag_dn, ag_no, ag_if, jbr1, jbr2, jc1, jc2, jnul, jld, jsto, jstoL, jst1, jst2, jkill, jinc, jbI, jbL, jbS, juI, jl2i, jcmp, jisR, jisI, jisL, jgtx, jtln, jtch, jret, jretv, jdup, jpop, jobj, jmm, jcat, Value.category, jinv, jrcv, jthr, jhd, jnewa, jnewc, jput, jget, B_get, B_get0, B_set, B_set0, B_new, B_top, fl_upd, fl_get, z20_e, z21_e, z22_e, z23_e, z24_e, Nat.add_assoc, jaast, jlen, jald, jast, jgI, jgL, jgB, List.set_cons_zero, List.set_cons_succ, fits_i, fits_l, fits_r, fits_o, fits_z0, fits_z1, fits_n, fits_m, h1, h2, hc]
    · have e : alN (m + 1) y = y := by rw [alN, if_neg hc]
      rw [e]
      simp [r97_0, r97_1, r97_2, r97_3, r97_7, r97_9, r97_12, r97_13, r97_15, r97_16, r97_17, r97_18, r97_21, r97_22, r97_24, r97_25, r97_26, r97_29, r97_32, r97_33, ag_nx, ag_dn, ag_no, ag_if, jbr1, jbr2, jc1, jc2, jnul, jld, jsto, jstoL, jst1, jst2, jkill, jinc, jbI, jbL, jbS, juI, jl2i, jcmp, jisR, jisI, jisL, jgtx, jtln, jtch, jret, jretv, jdup, jpop, jobj, jmm, jcat, Value.category, jinv, jrcv, jthr, jhd, jnewa, jnewc, jput, jget, B_get, B_get0, B_set, B_set0, B_new, B_top, fl_upd, fl_get, z20_e, z21_e, z22_e, z23_e, z24_e, Nat.add_assoc, jaast, jlen, jald, jast, jgI, jgL, jgB, List.set_cons_zero, List.set_cons_succ, fits_i, fits_l, fits_r, fits_o, fits_z0, fits_z1, fits_n, fits_m, h1, h2, hc]
theorem s97 {A : Nat → Nat} {d : Nat} {σ : jS} {x : Int64} : jcall A jcode (d + 1) 97 [.long x] σ = some (.inl (some (.long (alN 8 x))), σ) := by
  have h := l97 (A := A) (d := d) (σ := σ) (x := x) 8 x (Nat.le_refl 8)
  have e : nI (8 - 8) = 0 := by decide
  rw [e] at h
  simp [je97, r97_0, r97_1, r97_2, r97_3, ag_nx, ag_dn, ag_no, ag_if, jbr1, jbr2, jc1, jc2, jnul, jld, jsto, jstoL, jst1, jst2, jkill, jinc, jbI, jbL, jbS, juI, jl2i, jcmp, jisR, jisI, jisL, jgtx, jtln, jtch, jret, jretv, jdup, jpop, jobj, jmm, jcat, Value.category, jinv, jrcv, jthr, jhd, jnewa, jnewc, jput, jget, B_get, B_get0, B_set, B_set0, B_new, B_top, fl_upd, fl_get, z20_e, z21_e, z22_e, z23_e, z24_e, Nat.add_assoc, jaast, jlen, jald, jast, jgI, jgL, jgB, List.set_cons_zero, List.set_cons_succ, fits_i, fits_l, fits_r, fits_o, fits_z0, fits_z1, fits_n, fits_m, h]
/-- the words of the tokens: a character of the row of words -/
def tst (s : Nat × (Nat → Int64)) (c : Nat) : Nat × (Nat → Int64) := if c = 32 then (s.1 + 1, fun i => if i = s.1 then alN 8 (s.2 s.1) else s.2 i) else (s.1, fun i => if i = s.1 then (s.2 s.1 <<< (8 &&& 63)) ||| (nI c).toInt64 else s.2 i)
def tkL (a : Nat) (W : Nat → Int64) : List jC := [(6, 7, jfl9 (jdf 6) [.ref (a + 1), .ref (a + 2), .ref (a + 4), .ref (a + 3), .ref (a + 5), .ref (a + 6), .int 0]), (21, 26, fun i => .long (W i)), z20 2001, z20 2001, z20 2001, z21 2001, z20 2001]
theorem updL {W : Nat → Int64} {q : Nat} {v : Int64} : updV (fun i => Value.long (W i)) q (.long v) = fun i => Value.long (if i = q then v else W i) := by
  funext i
  unfold updV
  split <;> rfl
theorem na97 : jna 97 = 1 := by decide +kernel
theorem tk_step {A : Nat → Nat} {d a n q k : Nat} {h : Nat → Option jC} {W : Nat → Int64} {c3 : Option Value} (hA : jAp0 A) (hk : k < 125) (hq : q < 26) :
    M82 A (d + 4) 66 [some (.ref a), some (.int (nI q)), some (.int (nI k)), c3] [] (jB h a (tkL a W) n) = M82 A (d + 4) 66 [some (.ref a), some (.int (nI (tst (q, W) ((jtx 0).getD k 0)).1)), some (.int (nI (k + 1))), some (.int (nI ((jtx 0).getD k 0)))] [] (jB h a (tkL a (tst (q, W) ((jtx 0).getD k 0)).2) n) := by
  have hl : (jtx 0).length = 125 := by decide +kernel
  have e1 := s310 (A := A) (d := d + 2) (σ := jB h a (tkL a W) n) (t := 0) hA (by decide)
  have e2 := s311 (A := A) (d := d) (σ := jB h a (tkL a W) n) (t := 0) (k := k) hA (by decide) (by rw [hl]; exact hk)
  rw [hl] at e1
  have k1 : ¬ nI 125 ≤ nI k := nI_ge hk (by omega)
  have k2 : ¬ nI 26 ≤ nI q := nI_ge hq (by omega)
  have k3 : (nI q).toNatClampNeg = q := nI_clamp (by omega)
  have k4 : 0 ≤ nI q := nI_pos' (by omega)
  have hlt := jtx_lt 0 k
  have e0 : (hA 0 (by decide)).1 = (hA 0 (by decide)).1 := rfl
  have ea := (hA 0 (by decide)).1
  generalize (jtx 0).getD k 0 = c at e2 hlt ⊢
  have k5 : (32 : Int32) = nI 32 := by decide
  rw [r82_66]
  by_cases hc : c = 32
  · subst hc
    simp only [tkL] at e1 e2
    simp [r82_0, r82_1, r82_4, r82_5, r82_7, r82_9, r82_12, r82_13, r82_16, r82_18, r82_21, r82_22, r82_25, r82_27, r82_30, r82_31, r82_34, r82_36, r82_39, r82_40, r82_43, r82_45, r82_48, r82_49, r82_52, r82_54, r82_57, r82_58, r82_59, r82_62, r82_63, r82_64, r82_65, r82_67, r82_69, r82_72, r82_75, r82_76, r82_77, r82_80, r82_81, r82_84, r82_86, r82_87, r82_90, r82_91, r82_92, r82_94, r82_97, r82_98, r82_101, r82_102, r82_103, r82_106, r82_107, r82_108, r82_111, r82_112, r82_115, r82_118, r82_119, r82_122, r82_123, r82_124, r82_127, r82_128, r82_129, r82_131, r82_132, r82_133, r82_134, r82_135, r82_136, r82_139, r82_142, ag_nx, ag_dn, ag_no, ag_if, jbr1, jbr2, jc1, jc2, jnul, jld, jsto, jstoL, jst1, jst2, jkill, jinc, jbI, jbL, jbS, juI, jl2i, jcmp, jisR, jisI, jisL, jgtx, jtln, jtch, jret, jretv, jdup, jpop, jobj, jmm, jcat, Value.category, jinv, jrcv, jthr, jhd, jnewa, jnewc, jput, jget, B_get, B_get0, B_set, B_set0, B_new, B_top, fl_upd, fl_get, z20_e, z21_e, z22_e, z23_e, z24_e, Nat.add_assoc, jaast, jlen, jald, jast, jgI, jgL, jgB, List.set_cons_zero, List.set_cons_succ, fits_i, fits_l, fits_r, fits_o, fits_z0, fits_z1, fits_n, fits_m, e1, e2, ea, na310, ow310, na311, ow311, na97, k1, k2, k3, k4, ← k5, hq, s97, updL, tst, tkL, nI_1]
  · have k6 : ¬ nI c = 32 := by rw [k5, nI_eq (by omega) (by omega)]; exact hc
    simp only [tkL] at e1 e2
    simp [r82_0, r82_1, r82_4, r82_5, r82_7, r82_9, r82_12, r82_13, r82_16, r82_18, r82_21, r82_22, r82_25, r82_27, r82_30, r82_31, r82_34, r82_36, r82_39, r82_40, r82_43, r82_45, r82_48, r82_49, r82_52, r82_54, r82_57, r82_58, r82_59, r82_62, r82_63, r82_64, r82_65, r82_67, r82_69, r82_72, r82_75, r82_76, r82_77, r82_80, r82_81, r82_84, r82_86, r82_87, r82_90, r82_91, r82_92, r82_94, r82_97, r82_98, r82_101, r82_102, r82_103, r82_106, r82_107, r82_108, r82_111, r82_112, r82_115, r82_118, r82_119, r82_122, r82_123, r82_124, r82_127, r82_128, r82_129, r82_131, r82_132, r82_133, r82_134, r82_135, r82_136, r82_139, r82_142, ag_nx, ag_dn, ag_no, ag_if, jbr1, jbr2, jc1, jc2, jnul, jld, jsto, jstoL, jst1, jst2, jkill, jinc, jbI, jbL, jbS, juI, jl2i, jcmp, jisR, jisI, jisL, jgtx, jtln, jtch, jret, jretv, jdup, jpop, jobj, jmm, jcat, Value.category, jinv, jrcv, jthr, jhd, jnewa, jnewc, jput, jget, B_get, B_get0, B_set, B_set0, B_new, B_top, fl_upd, fl_get, z20_e, z21_e, z22_e, z23_e, z24_e, Nat.add_assoc, jaast, jlen, jald, jast, jgI, jgL, jgB, List.set_cons_zero, List.set_cons_succ, fits_i, fits_l, fits_r, fits_o, fits_z0, fits_z1, fits_n, fits_m, e1, e2, ea, na310, ow310, na311, ow311, k1, k2, k3, k4, k6, hq, updL, tst, hc, tkL, nI_1]
def tkT (k : Nat) : Nat × (Nat → Int64) := ((jtx 0).take k).foldl tst (1, fun _ => 0)
def tkW : Nat → Int64 := (tkT 125).2
theorem tkT_q : ∀ k, k < 125 → (tkT k).1 < 26 := by decide +kernel
theorem tkT_s {k : Nat} (hk : k < 125) : tkT (k + 1) = tst (tkT k) ((jtx 0).getD k 0) := by
  have hl : (jtx 0).length = 125 := by decide +kernel
  unfold tkT
  rw [List.take_succ, List.foldl_append, List.getD_eq_getElem?_getD]
  cases e : (jtx 0)[k]? with
  | none => rw [List.getElem?_eq_none_iff] at e; omega
  | some c => rfl
theorem tk_loop {A : Nat → Nat} {d a n : Nat} {h : Nat → Option jC} (hA : jAp0 A) : ∀ k, k ≤ 125 → ∃ c3, M82 A (d + 4) 66 [some (.ref a), some (.int (nI 1)), some (.int (nI 0)), none] [] (jB h a (tkL a (fun _ => 0)) n) = M82 A (d + 4) 66 [some (.ref a), some (.int (nI (tkT k).1)), some (.int (nI k)), c3] [] (jB h a (tkL a (tkT k).2) n) := by
  intro k
  induction k with
  | zero => intro _; exact ⟨none, rfl⟩
  | succ k ih =>
    intro hk
    obtain ⟨c3, e⟩ := ih (by omega)
    refine ⟨some (.int (nI ((jtx 0).getD k 0))), e.trans ?_⟩
    rw [tkT_s (by omega)]
    exact tk_step hA (by omega) (tkT_q k (by omega))
def kTok (a : Nat) : List jC := tkL a tkW
theorem sTok {A : Nat → Nat} {d a n : Nat} {h : Nat → Option jC} (hA : jAp0 A) : jcall A jcode (d + 5) 82 [.ref a] (jB h a [(6, 7, jfl9 (jdf 6) (jdl 6 7))] n) = some (.inl none, jB h a (kTok a) (n + 10031)) := by
  obtain ⟨c3, e⟩ := tk_loop (A := A) (d := d) (a := a) (n := n + 10031) (h := h) hA 125 (Nat.le_refl _)
  have hl : (jtx 0).length = 125 := by decide +kernel
  have e1 := s310 (A := A) (d := d + 2) (σ := jB h a (tkL a tkW) (n + 10031)) (t := 0) hA (by decide)
  rw [hl] at e1
  have ea := (hA 0 (by decide)).1
  have i1 : nI 1 = 1 := by decide
  have i0 : nI 0 = 0 := by decide
  have ez : z21 26 = (21, 26, fun _ => .long 0) := rfl
  rw [i1, i0] at e
  have e2 : M82 A (d + 4) 66 [some (.ref a), some (.int (nI (tkT 125).1)), some (.int (nI 125)), c3] [] (jB h a (tkL a (tkT 125).2) (n + 10031)) = some (.inl none, jB h a (kTok a) (n + 10031)) := by
    rw [r82_66]
    show jAg (M82 A (d + 4)) _ = _
    have e3 : (tkT 125).2 = tkW := rfl
    rw [e3]
    simp [r82_0, r82_1, r82_4, r82_5, r82_7, r82_9, r82_12, r82_13, r82_16, r82_18, r82_21, r82_22, r82_25, r82_27, r82_30, r82_31, r82_34, r82_36, r82_39, r82_40, r82_43, r82_45, r82_48, r82_49, r82_52, r82_54, r82_57, r82_58, r82_59, r82_62, r82_63, r82_64, r82_65, r82_67, r82_69, r82_72, r82_75, r82_76, r82_77, r82_80, r82_81, r82_84, r82_86, r82_87, r82_90, r82_91, r82_92, r82_94, r82_97, r82_98, r82_101, r82_102, r82_103, r82_106, r82_107, r82_108, r82_111, r82_112, r82_115, r82_118, r82_119, r82_122, r82_123, r82_124, r82_127, r82_128, r82_129, r82_131, r82_132, r82_133, r82_134, r82_135, r82_136, r82_139, r82_142, ag_nx, ag_dn, ag_no, ag_if, jbr1, jbr2, jc1, jc2, jnul, jld, jsto, jstoL, jst1, jst2, jkill, jinc, jbI, jbL, jbS, juI, jl2i, jcmp, jisR, jisI, jisL, jgtx, jtln, jtch, jret, jretv, jdup, jpop, jobj, jmm, jcat, Value.category, jinv, jrcv, jthr, jhd, jnewa, jnewc, jput, jget, B_get, B_get0, B_set, B_set0, B_new, B_top, fl_upd, fl_get, z20_e, z21_e, z22_e, z23_e, z24_e, Nat.add_assoc, jaast, jlen, jald, jast, jgI, jgL, jgB, List.set_cons_zero, List.set_cons_succ, fits_i, fits_l, fits_r, fits_o, fits_z0, fits_z1, fits_n, fits_m, e1, ea, na310, ow310, kTok]
  rw [e2] at e
  simp only [tkL] at e
  simp [je82, r82_0, r82_1, r82_4, r82_5, r82_7, r82_9, r82_12, r82_13, r82_16, r82_18, r82_21, r82_22, r82_25, r82_27, r82_30, r82_31, r82_34, r82_36, r82_39, r82_40, r82_43, r82_45, r82_48, r82_49, r82_52, r82_54, r82_57, r82_58, r82_59, r82_62, r82_63, r82_64, r82_65, ag_nx, ag_dn, ag_no, ag_if, jbr1, jbr2, jc1, jc2, jnul, jld, jsto, jstoL, jst1, jst2, jkill, jinc, jbI, jbL, jbS, juI, jl2i, jcmp, jisR, jisI, jisL, jgtx, jtln, jtch, jret, jretv, jdup, jpop, jobj, jmm, jcat, Value.category, jinv, jrcv, jthr, jhd, jnewa, jnewc, jput, jget, B_get, B_get0, B_set, B_set0, B_new, B_top, fl_upd, fl_get, z20_e, z21_e, z22_e, z23_e, z24_e, Nat.add_assoc, jaast, jlen, jald, jast, jgI, jgL, jgB, List.set_cons_zero, List.set_cons_succ, fits_i, fits_l, fits_r, fits_o, fits_z0, fits_z1, fits_n, fits_m, ty6_0, ty6_1, ty6_2, ty6_3, ty6_4, ty6_5, ty6_6, dl6, ez, e]
