/-! printed by gen.py: all code tables together, and the law's own -/
def jallP (k : Nat) : List (List (Nat × Instr × Nat)) → Prop
  | [] => True
  | t :: ts => t.all (jchk (jow k) (jkd k == 2) (jby k)) = true ∧ jallP (k + 1) ts
theorem jtc0_ok : jallP 0 jtc0 := ⟨jt0_ok, jt1_ok, jt2_ok, jt3_ok, jt4_ok, jt5_ok, jt6_ok, jt7_ok, jt8_ok, jt9_ok, jt10_ok, jt11_ok, jt12_ok, jt13_ok, jt14_ok, jt15_ok, jt16_ok, jt17_ok, jt18_ok, jt19_ok, jt20_ok, jt21_ok, jt22_ok, jt23_ok, jt24_ok, trivial⟩
theorem jtc1_ok : jallP 25 jtc1 := ⟨jt25_ok, jt26_ok, jt27_ok, jt28_ok, jt29_ok, jt30_ok, jt31_ok, jt32_ok, jt33_ok, jt34_ok, jt35_ok, jt36_ok, jt37_ok, jt38_ok, jt39_ok, jt40_ok, jt41_ok, jt42_ok, jt43_ok, jt44_ok, jt45_ok, jt46_ok, jt47_ok, jt48_ok, jt49_ok, trivial⟩
theorem jtc2_ok : jallP 50 jtc2 := ⟨jt50_ok, jt51_ok, jt52_ok, jt53_ok, jt54_ok, jt55_ok, jt56_ok, jt57_ok, jt58_ok, jt59_ok, jt60_ok, jt61_ok, jt62_ok, jt63_ok, jt64_ok, jt65_ok, jt66_ok, jt67_ok, jt68_ok, jt69_ok, jt70_ok, jt71_ok, jt72_ok, jt73_ok, jt74_ok, trivial⟩
theorem jtc3_ok : jallP 75 jtc3 := ⟨jt75_ok, jt76_ok, jt77_ok, jt78_ok, jt79_ok, jt80_ok, jt81_ok, jt82_ok, jt83_ok, jt84_ok, jt85_ok, jt86_ok, jt87_ok, jt88_ok, jt89_ok, jt90_ok, jt91_ok, jt92_ok, jt93_ok, jt94_ok, jt95_ok, jt96_ok, jt97_ok, jt98_ok, jt99_ok, trivial⟩
theorem jtc4_ok : jallP 100 jtc4 := ⟨jt100_ok, jt101_ok, jt102_ok, jt103_ok, jt104_ok, jt105_ok, jt106_ok, jt107_ok, jt108_ok, jt109_ok, jt110_ok, jt111_ok, jt112_ok, jt113_ok, jt114_ok, jt115_ok, jt116_ok, jt117_ok, jt118_ok, jt119_ok, jt120_ok, jt121_ok, jt122_ok, jt123_ok, jt124_ok, trivial⟩
theorem jtc5_ok : jallP 125 jtc5 := ⟨jt125_ok, jt126_ok, jt127_ok, jt128_ok, jt129_ok, jt130_ok, jt131_ok, jt132_ok, jt133_ok, jt134_ok, jt135_ok, jt136_ok, jt137_ok, jt138_ok, jt139_ok, jt140_ok, jt141_ok, jt142_ok, jt143_ok, jt144_ok, jt145_ok, jt146_ok, jt147_ok, jt148_ok, jt149_ok, trivial⟩
theorem jtc6_ok : jallP 150 jtc6 := ⟨jt150_ok, jt151_ok, jt152_ok, jt153_ok, jt154_ok, jt155_ok, jt156_ok, jt157_ok, jt158_ok, jt159_ok, jt160_ok, jt161_ok, jt162_ok, jt163_ok, jt164_ok, jt165_ok, jt166_ok, jt167_ok, jt168_ok, jt169_ok, jt170_ok, jt171_ok, jt172_ok, jt173_ok, jt174_ok, trivial⟩
theorem jtc7_ok : jallP 175 jtc7 := ⟨jt175_ok, jt176_ok, jt177_ok, jt178_ok, jt179_ok, jt180_ok, jt181_ok, jt182_ok, jt183_ok, jt184_ok, jt185_ok, jt186_ok, jt187_ok, jt188_ok, jt189_ok, jt190_ok, jt191_ok, jt192_ok, jt193_ok, jt194_ok, jt195_ok, jt196_ok, jt197_ok, jt198_ok, jt199_ok, trivial⟩
theorem jtc8_ok : jallP 200 jtc8 := ⟨jt200_ok, jt201_ok, jt202_ok, jt203_ok, jt204_ok, jt205_ok, jt206_ok, jt207_ok, jt208_ok, jt209_ok, jt210_ok, jt211_ok, jt212_ok, jt213_ok, jt214_ok, jt215_ok, jt216_ok, jt217_ok, jt218_ok, jt219_ok, jt220_ok, jt221_ok, jt222_ok, jt223_ok, jt224_ok, trivial⟩
theorem jtc9_ok : jallP 225 jtc9 := ⟨jt225_ok, jt226_ok, jt227_ok, jt228_ok, jt229_ok, jt230_ok, jt231_ok, jt232_ok, jt233_ok, jt234_ok, jt235_ok, jt236_ok, jt237_ok, jt238_ok, jt239_ok, jt240_ok, jt241_ok, jt242_ok, jt243_ok, jt244_ok, jt245_ok, jt246_ok, jt247_ok, jt248_ok, jt249_ok, trivial⟩
theorem jtc10_ok : jallP 250 jtc10 := ⟨jt250_ok, jt251_ok, jt252_ok, jt253_ok, jt254_ok, jt255_ok, jt256_ok, jt257_ok, jt258_ok, jt259_ok, jt260_ok, jt261_ok, jt262_ok, jt263_ok, jt264_ok, jt265_ok, jt266_ok, jt267_ok, jt268_ok, jt269_ok, jt270_ok, jt271_ok, jt272_ok, jt273_ok, jt274_ok, trivial⟩
theorem jtc11_ok : jallP 275 jtc11 := ⟨jt275_ok, jt276_ok, jt277_ok, jt278_ok, jt279_ok, jt280_ok, jt281_ok, jt282_ok, jt283_ok, jt284_ok, jt285_ok, jt286_ok, jt287_ok, jt288_ok, jt289_ok, jt290_ok, jt291_ok, jt292_ok, jt293_ok, jt294_ok, jt295_ok, jt296_ok, jt297_ok, jt298_ok, jt299_ok, trivial⟩
theorem jtc12_ok : jallP 300 jtc12 := ⟨jt300_ok, jt301_ok, jt302_ok, jt303_ok, jt304_ok, jt305_ok, jt306_ok, jt307_ok, jt308_ok, jt309_ok, jt310_ok, jt311_ok, jt312_ok, jt313_ok, jt314_ok, jt315_ok, jt316_ok, jt317_ok, jt318_ok, jt319_ok, jt320_ok, jt321_ok, trivial⟩
theorem jallP_app {k j : Nat} {a b : List (List (Nat × Instr × Nat))} (e : k + a.length = j) (ha : jallP k a) (hb : jallP j b) : jallP k (a ++ b) := by
  induction a generalizing k with
  | nil => simp only [List.length_nil, Nat.add_zero] at e; subst e; exact hb
  | cons t ts ih =>
    refine ⟨ha.1, ih (k := k + 1) ?_ ha.2⟩
    simp only [List.length_cons] at e
    omega
theorem jallP_get {k : Nat} {a : List (List (Nat × Instr × Nat))} (h : jallP k a) {i : Nat} {t : List (Nat × Instr × Nat)} (ht : a[i]? = some t) : t.all (jchk (jow (k + i)) (jkd (k + i) == 2) (jby (k + i))) = true := by
  induction a generalizing k i with
  | nil => simp at ht
  | cons u us ih =>
    cases i with
    | zero =>
      simp only [List.getElem?_cons_zero, Option.some.injEq] at ht
      subst ht
      exact h.1
    | succ i =>
      have e : k + 1 + i = k + (i + 1) := by omega
      have := ih h.2 (i := i) (by simpa using ht)
      rwa [e] at this
theorem jtabs_ok : jallP 0 jtabs := (jallP_app rfl jtc0_ok (jallP_app rfl jtc1_ok (jallP_app rfl jtc2_ok (jallP_app rfl jtc3_ok (jallP_app rfl jtc4_ok (jallP_app rfl jtc5_ok (jallP_app rfl jtc6_ok (jallP_app rfl jtc7_ok (jallP_app rfl jtc8_ok (jallP_app rfl jtc9_ok (jallP_app rfl jtc10_ok (jallP_app rfl jtc11_ok jtc12_ok))))))))))))
theorem jtabs_len : jtabs.length = 322 := by decide +kernel
theorem jcode_n {n pc : Nat} {ins : Instr} {len : Nat} (h : jcode n pc = some (ins, len)) : n < jnm := by
  unfold jcode at h
  cases e : jtabs[n]? with
  | none => rw [e] at h; cases h
  | some t =>
    have h1 := (List.getElem?_eq_some_iff.mp e).1
    rw [jtabs_len] at h1
    exact h1
theorem jcode_ok {n pc : Nat} {ins : Instr} {len : Nat} (h : jcode n pc = some (ins, len)) : jchk (jow n) (jkd n == 2) (jby n) (pc, ins, len) = true := by
  unfold jcode at h
  cases e : jtabs[n]? with
  | none => rw [e] at h; cases h
  | some t =>
    rw [e] at h
    have h1 := jallP_get jtabs_ok e
    rw [Nat.zero_add] at h1
    exact List.all_eq_true.mp h1 _ (jfind_mem h)
theorem jcode_nj0 : (List.range jnm).all (fun n => jisC n != 2 || (jtabs.getD n []).all (fun q => match q.2.1 with | .jsr _ => false | .athrow => false | _ => true)) = true := by decide +kernel
theorem jcode_nj {n pc : Nat} {ins : Instr} {len : Nat} (h2 : jisC n = 2) (h : jcode n pc = some (ins, len)) : (∀ q, ins ≠ .jsr q) ∧ ins ≠ .athrow := by
  have h1 := List.all_eq_true.mp jcode_nj0 n (List.mem_range.mpr (jcode_n h))
  rw [h2] at h1
  unfold jcode at h
  cases e : jtabs[n]? with
  | none => rw [e] at h; cases h
  | some t =>
    rw [e] at h
    have e2 : jtabs.getD n [] = t := by rw [List.getD_eq_getElem?_getD, e]; rfl
    rw [e2] at h1
    simp only [bne_self_eq_false, Bool.false_or] at h1
    have h3 := List.all_eq_true.mp h1 _ (jfind_mem h)
    refine ⟨fun q hq => ?_, fun hq => ?_⟩
    · subst hq; exact (Bool.false_ne_true h3).elim
    · subst hq; exact (Bool.false_ne_true h3).elim

theorem jtL0_ok : jtL0.all (jchk 13 false code) = true := by decide +kernel
theorem jtL1_ok : jtL1.all (jchk 13 false code) = true := by decide +kernel
theorem jtL2_ok : jtL2.all (jchk 13 false code) = true := by decide +kernel
theorem jtL3_ok : jtL3.all (jchk 13 false code) = true := by decide +kernel
theorem jtL4_ok : jtL4.all (jchk 13 false code) = true := by decide +kernel
theorem jtL5_ok : jtL5.all (jchk 13 false code) = true := by decide +kernel
theorem jtL6_ok : jtL6.all (jchk 13 false code) = true := by decide +kernel
theorem jtL7_ok : jtL7.all (jchk 13 false code) = true := by decide +kernel
theorem jtL8_ok : jtL8.all (jchk 13 false code) = true := by decide +kernel
theorem jtL9_ok : jtL9.all (jchk 13 false code) = true := by decide +kernel
theorem jtL10_ok : jtL10.all (jchk 13 false code) = true := by decide +kernel
theorem jtL11_ok : jtL11.all (jchk 13 false code) = true := by decide +kernel
theorem jtL12_ok : jtL12.all (jchk 13 false code) = true := by decide +kernel
theorem jtL_ok : jtL.all (jchk 13 false code) = true := by
  unfold jtL
  simp only [List.all_append, jtL0_ok, jtL1_ok, jtL2_ok, jtL3_ok, jtL4_ok, jtL5_ok, jtL6_ok, jtL7_ok, jtL8_ok, jtL9_ok, jtL10_ok, jtL11_ok, jtL12_ok, Bool.and_self]
theorem jtL_nj : jtL.all (fun q => match q.2.1 with | .jsr _ => false | .athrow => false | _ => true) = true := by decide +kernel
