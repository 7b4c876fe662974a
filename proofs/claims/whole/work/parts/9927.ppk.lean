/-! names by their bytes: head and tail tell them apart -/
def alB (f : Nat → Int32) (n : Nat) : Prop := ∀ i, i < n → isLet (f i) = true ∨ isDig (f i) = true
theorem isLet_e {x : Int32} (hx : isLet x = true) : ∃ c, 65 ≤ c ∧ c ≤ 122 ∧ x = nI c := by
  unfold isLet at hx
  simp at hx
  have h0 : ¬ x < 0 := by
    intro h
    rw [Int32.lt_iff_toInt_lt] at h
    have e1 : (0 : Int32).toInt = 0 := by decide
    have e2 : (97 : Int32).toInt = 97 := by decide
    have e3 : (65 : Int32).toInt = 65 := by decide
    rcases hx with ⟨h1, _⟩ | ⟨h1, _⟩
    · rw [Int32.le_iff_toInt_le] at h1; omega
    · rw [Int32.le_iff_toInt_le] at h1; omega
  obtain ⟨j, hj, e⟩ := nI_of h0
  subst e
  rw [show (97 : Int32) = nI 97 by decide, show (122 : Int32) = nI 122 by decide, show (65 : Int32) = nI 65 by decide, show (90 : Int32) = nI 90 by decide, nI_leI (by omega) (by omega), nI_leI (by omega) (by omega), nI_leI (by omega) (by omega), nI_leI (by omega) (by omega)] at hx
  exact ⟨j, by omega, by omega, rfl⟩
theorem al_e {x : Int32} (hx : isLet x = true ∨ isDig x = true) : ∃ c, 48 ≤ c ∧ c < 128 ∧ x = nI c := by
  rcases hx with h | h
  · obtain ⟨c, h1, h2, e⟩ := isLet_e h
    exact ⟨c, by omega, by omega, e⟩
  · obtain ⟨c, h1, h2, e⟩ := isDig_e h
    exact ⟨c, by omega, by omega, e⟩
theorem al_ix {x : Int32} (hx : isLet x = true ∨ isDig x = true) : 48 ≤ ix x ∧ ix x < 128 ∧ x = nI (ix x) := by
  obtain ⟨c, h1, h2, e⟩ := al_e hx
  have : ix x = c := by rw [e]; exact nI_clamp (by omega)
  rw [this]
  exact ⟨h1, h2, e⟩
theorem nI_bit {c i : Nat} (hc : c < 128) : (nI c).toBitVec.getLsbD i = c.testBit i := by
  show (BitVec.ofNat 32 c).getLsbD i = _
  rw [BitVec.getLsbD_ofNat]
  by_cases hi : i < 32
  · simp [hi]
  · simp only [hi, decide_false, Bool.false_and]
    symm
    apply Nat.testBit_lt_two_pow
    calc c < 2 ^ 7 := hc
      _ ≤ 2 ^ i := Nat.pow_le_pow_right (by decide) (by omega)
theorem nI_bitL {c i : Nat} (hc : c < 128) : (nI c).toInt64.toBitVec.getLsbD i = c.testBit i := by
  have h1 : (nI c).toInt64.toBitVec = (nI c).toBitVec.signExtend 64 := Int32.toBitVec_toInt64 _
  rw [h1, BitVec.getLsbD_signExtend]
  have hm : (nI c).toBitVec.msb = false := by
    rw [BitVec.msb_eq_getLsbD_last, nI_bit hc]
    apply Nat.testBit_lt_two_pow
    omega
  by_cases hi : i < 32
  · rw [if_pos hi, nI_bit hc]
    simp [show i < 64 by omega]
  · rw [if_neg hi, hm]
    simp only [Bool.and_false]
    symm
    apply Nat.testBit_lt_two_pow
    calc c < 2 ^ 7 := hc
      _ ≤ 2 ^ i := Nat.pow_le_pow_right (by decide) (by omega)
theorem shH_n : ∀ k, k < 8 → (((nI (56 - 8 * k)).toInt64 &&& 63).toBitVec.smod 64).toNat = 56 - 8 * k := by decide +kernel
theorem shT_n : ∀ k, 8 ≤ k → k < 12 → ((nI (88 - 8 * k) &&& nI 31).toBitVec.smod 32).toNat = 88 - 8 * k := by
  have h : ∀ k, k < 12 → 8 ≤ k → ((nI (88 - 8 * k) &&& nI 31).toBitVec.smod 32).toNat = 88 - 8 * k := by decide +kernel
  exact fun k h1 h2 => h k h2 h1
theorem tb_hi {c i : Nat} (hc : c < 128) (hi : 8 ≤ i) : c.testBit i = false := by
  apply Nat.testBit_lt_two_pow
  calc c < 2 ^ 7 := hc
    _ ≤ 2 ^ i := Nat.pow_le_pow_right (by decide) (by omega)
theorem hd_bit {f : Nat → Int32} : ∀ (n : Nat), alB f n → ∀ j, j < 64 → (hdF f n).toBitVec.getLsbD j = (decide (7 - j / 8 < n) && (ix (f (7 - j / 8))).testBit (j % 8)) := by
  intro n
  induction n with
  | zero =>
    intro _ j hj
    show (0 : Int64).toBitVec.getLsbD j = _
    simp
  | succ n ih =>
    intro ha j hj
    have ih' := ih (fun i hi => ha i (by omega)) j hj
    obtain ⟨c1, c2, ce⟩ := al_ix (ha n (by omega))
    unfold hdF
    by_cases h8 : n < 8
    · rw [if_pos h8, Int64.toBitVec_or, BitVec.getLsbD_or, ih']
      have hs : ((f n).toInt64 <<< ((nI (56 - 8 * n)).toInt64 &&& 63)).toBitVec = (f n).toInt64.toBitVec <<< (56 - 8 * n) := by
        rw [Int64.toBitVec_shiftLeft]
        show (f n).toInt64.toBitVec <<< ((((nI (56 - 8 * n)).toInt64 &&& 63).toBitVec.smod 64).toNat) = _
        rw [shH_n n h8]
      rw [hs, BitVec.getLsbD_shiftLeft]
      have hb : (f n).toInt64.toBitVec.getLsbD (j - (56 - 8 * n)) = (ix (f n)).testBit (j - (56 - 8 * n)) := by
        conv => lhs; rw [ce]
        exact nI_bitL c2
      rw [hb]
      by_cases e : 7 - j / 8 = n
      · rw [e]
        have e1 : ¬ n < n := by omega
        have e2 : j - (56 - 8 * n) = j % 8 := by omega
        have e3 : ¬ j < 56 - 8 * n := by omega
        rw [e2]
        simp [e3, hj]
      · by_cases e4 : j < 56 - 8 * n
        · have : (7 - j / 8 < n + 1) ↔ (7 - j / 8 < n) := by omega
          simp [e4, this]
        · have hh : 8 ≤ j - (56 - 8 * n) := by omega
          rw [tb_hi c2 hh]
          have : (7 - j / 8 < n + 1) ↔ (7 - j / 8 < n) := by omega
          simp [this]
    · rw [if_neg h8, ih']
      have : (7 - j / 8 < n + 1) ↔ (7 - j / 8 < n) := by omega
      simp [this]
theorem tl_bit {f : Nat → Int32} : ∀ (n : Nat), alB f n → ∀ j, j < 32 → (tlF f n).toBitVec.getLsbD j = (decide (11 - j / 8 < n) && (ix (f (11 - j / 8))).testBit (j % 8)) := by
  intro n
  induction n with
  | zero =>
    intro _ j hj
    show (0 : Int32).toBitVec.getLsbD j = _
    simp
  | succ n ih =>
    intro ha j hj
    have ih' := ih (fun i hi => ha i (by omega)) j hj
    obtain ⟨c1, c2, ce⟩ := al_ix (ha n (by omega))
    unfold tlF
    by_cases h8 : 8 ≤ n ∧ n < 12
    · rw [if_pos h8, Int32.toBitVec_or, BitVec.getLsbD_or, ih']
      have hs : (f n <<< (nI (88 - 8 * n) &&& nI 31)).toBitVec = (f n).toBitVec <<< (88 - 8 * n) := by
        rw [Int32.toBitVec_shiftLeft]
        show (f n).toBitVec <<< (((nI (88 - 8 * n) &&& nI 31).toBitVec.smod 32).toNat) = _
        rw [shT_n n h8.1 h8.2]
      rw [hs, BitVec.getLsbD_shiftLeft]
      have hb : (f n).toBitVec.getLsbD (j - (88 - 8 * n)) = (ix (f n)).testBit (j - (88 - 8 * n)) := by
        conv => lhs; rw [ce]
        exact nI_bit c2
      rw [hb]
      by_cases e : 11 - j / 8 = n
      · rw [e]
        have e1 : ¬ n < n := by omega
        have e2 : j - (88 - 8 * n) = j % 8 := by omega
        have e3 : ¬ j < 88 - 8 * n := by omega
        rw [e2]
        simp [e3, hj]
      · by_cases e4 : j < 88 - 8 * n
        · have : (11 - j / 8 < n + 1) ↔ (11 - j / 8 < n) := by omega
          simp [e4, this]
        · have hh : 8 ≤ j - (88 - 8 * n) := by omega
          rw [tb_hi c2 hh]
          have : (11 - j / 8 < n + 1) ↔ (11 - j / 8 < n) := by omega
          simp [this]
    · rw [if_neg h8, ih']
      have : (11 - j / 8 < n + 1) ↔ (11 - j / 8 < n) := by omega
      simp [this]
theorem nz_bit {c : Nat} (h0 : 48 ≤ c) (hc : c < 128) (hz : ∀ t, t < 8 → c.testBit t = false) : False := by
  have : c = 0 := by
    apply Nat.eq_of_testBit_eq
    intro i
    rw [Nat.zero_testBit]
    by_cases hi : i < 8
    · exact hz i hi
    · exact tb_hi hc (by omega)
  omega
theorem pkb_lt {f g : Nat → Int32} {n m : Nat} (hf : alB f n) (hg : alB g m) (h1 : hdF f n = hdF g m) (h2 : tlF f n = tlF g m) : ∀ i, i < 12 → i < n → i < m ∧ f i = g i := by
  intro i hi hn
  obtain ⟨c1, c2, ce⟩ := al_ix (hf i hn)
  have hbit : ∀ t, t < 8 → (ix (f i)).testBit t = (decide (i < m) && (ix (g i)).testBit t) := by
    intro t ht
    by_cases h8 : i < 8
    · have a1 := hd_bit n hf (56 - 8 * i + t) (by omega)
      have a2 := hd_bit m hg (56 - 8 * i + t) (by omega)
      rw [h1] at a1
      have e1 : 7 - (56 - 8 * i + t) / 8 = i := by omega
      have e2 : (56 - 8 * i + t) % 8 = t := by omega
      rw [e1, e2] at a1 a2
      rw [a2] at a1
      simp only [hn, decide_true, Bool.true_and] at a1
      exact a1.symm
    · have a1 := tl_bit n hf (88 - 8 * i + t) (by omega)
      have a2 := tl_bit m hg (88 - 8 * i + t) (by omega)
      rw [h2] at a1
      have e1 : 11 - (88 - 8 * i + t) / 8 = i := by omega
      have e2 : (88 - 8 * i + t) % 8 = t := by omega
      rw [e1, e2] at a1 a2
      rw [a2] at a1
      simp only [hn, decide_true, Bool.true_and] at a1
      exact a1.symm
  by_cases hm : i < m
  · refine ⟨hm, ?_⟩
    obtain ⟨d1, d2, de⟩ := al_ix (hg i hm)
    have : ix (f i) = ix (g i) := by
      apply Nat.eq_of_testBit_eq
      intro t
      by_cases ht : t < 8
      · have := hbit t ht
        simp only [hm, decide_true, Bool.true_and] at this
        exact this
      · rw [tb_hi c2 (by omega), tb_hi d2 (by omega)]
    rw [ce, de, this]
  · exfalso
    refine nz_bit c1 c2 (fun t ht => ?_)
    rw [hbit t ht]
    simp [hm]
theorem pk_inj {f g : Nat → Int32} {n m : Nat} (hn : n ≤ 12) (hm : m ≤ 12) (hf : alB f n) (hg : alB g m) (h1 : hdF f n = hdF g m) (h2 : tlF f n = tlF g m) : n = m ∧ ∀ i, i < n → f i = g i := by
  have a := pkb_lt hf hg h1 h2
  have b := pkb_lt hg hf h1.symm h2.symm
  refine ⟨?_, fun i hi => (a i (by omega) hi).2⟩
  rcases Nat.lt_trichotomy n m with h | h | h
  · have := (b n (by omega) h).1
    omega
  · exact h
  · have := (a m (by omega) h).1
    omega
theorem hdF_congr {f g : Nat → Int32} : ∀ (n : Nat), (∀ i, i < n → f i = g i) → hdF f n = hdF g n ∧ tlF f n = tlF g n := by
  intro n
  induction n with
  | zero => intro _; exact ⟨rfl, rfl⟩
  | succ n ih =>
    intro h
    obtain ⟨h1, h2⟩ := ih (fun i hi => h i (by omega))
    unfold hdF tlF
    rw [h1, h2, h n (by omega)]
    exact ⟨rfl, rfl⟩
