/-! the law's start: what the Statement gives of it -/
def jfl (k : Nat) : List Cond := match k with
  | 1 => flatC narrow_1_1
  | 2 => flatC narrow_1_2
  | _ => flatC narrow_1_3
theorem jfl_in {k : Nat} {w : Cond} (h : w ∈ jfl k) : w ∈ flatC (Jvm.Cond.and given_1 narrow_1) := by
  unfold jfl at h
  show w ∈ flatC given_1 ++ (flatC narrow_1_1 ++ (flatC narrow_1_2 ++ flatC narrow_1_3))
  simp only [List.mem_append]
  split at h <;> simp only [h, true_or, or_true]
def jfw (p : Nat) : Option Cond := (jfl (p / 10000))[p % 10000]?
theorem jfw_in {p : Nat} {w : Cond} (h : jfw p = some w) : w ∈ flatC (Jvm.Cond.and given_1 narrow_1) := jfl_in (List.mem_of_getElem? h)
def jNCt : List (Nat × Nat × Nat) := [(11, 41, 10021), (11, 42, 10038), (11, 43, 10055), (11, 44, 10072), (11, 45, 10089), (41, 11, 10106), (41, 42, 10039), (41, 43, 10056), (41, 44, 10073), (41, 45, 10090), (42, 11, 10107), (42, 41, 10022), (42, 43, 10057), (42, 44, 10074), (42, 45, 10091), (43, 11, 10108), (43, 41, 10023), (43, 42, 10040), (43, 44, 10075), (43, 45, 10092), (44, 11, 10109), (44, 41, 10024), (44, 42, 10041), (44, 43, 10058), (44, 45, 10093), (45, 11, 10110), (45, 41, 10025), (45, 42, 10042), (45, 43, 10059), (45, 44, 10076)]
theorem jNCt_ok : jNCt.all (fun q => decide (jfw q.2.2 = some (.not (.castable (jEN q.1) (jEN q.2.1))))) = true := by decide +kernel
theorem jNCt_has : jEs.all (fun a => jEs.all (fun b => decide (a = b) || jNCt.any (fun q => q.1 == a && q.2.1 == b))) = true := by decide +kernel
def jSTt : List (Nat × Nat × String × Nat × Nat) := [(10, 93, "the tape is full", 10258, 5132), (10, 103, "not a length of the tape", 10280, 5179), (10, 135, "the tape is not a name", 10362, 6021), (10, 162, "turns out of range", 10394, 6162), (10, 168, "time out of range", 20023, 6180), (10, 173, "nothing to look at", 20052, 6205), (10, 205, "no such variable", 20083, 6215), (10, 210, "nothing to ask of a signal", 20113, 6224), (10, 212, "no such signal", 20154, 6225), (10, 226, "nothing to ask of an event", 20184, 7001), (10, 235, "no such event", 20227, 7002), (10, 245, "no such byte of out", 20258, 7010), (10, 247, "nothing to look for", 20296, 7018), (10, 249, "no such process or state", 20335, 7019), (10, 258, "no such act", 20380, 7112), (10, 277, "a race has two sides", 30053, 7156), (10, 279, "no such race", 30097, 7157), (10, 287, "nothing to count", 30134, 7165), (10, 320, "there is no system", 10311, 5207), (10, 323, "there is no chart", 30013, 7124), (10, 330, "no such instance", 10337, 6000)]
theorem jSTt_ok : jSTt.all (fun q => decide (jfw q.2.2.2.1 = some (.exactly (.string (jRN q.1) q.2.1) "java/lang/String")) && decide (jtw q.2.2.2.2 = some (.stringRef (jRN q.1) q.2.1 q.2.2.1))) = true := by decide +kernel
theorem jSTt_has : jSRt.all (fun z => jSTt.any (fun q => q.1 == z.1 && q.2.1 == z.2.1 && q.2.2.1 == z.2.2)) = true := by decide +kernel
theorem jisU : jfw 10007 = some (.isRef (.static Bundle.tN "UNASSIGNED_STACK" Bundle.steD)) := by decide +kernel
theorem jisS : jfw 10008 = some (.isRef (.static Bundle.tN "SUPPRESSED_SENTINEL" Bundle.listD)) := by decide +kernel
theorem jlsU : Cond.laysStatic Bundle.tN "UNASSIGNED_STACK" Bundle.steD ∈ lw_tbl := jtw_in (p := 5115) (by decide +kernel)
theorem jlsS : Cond.laysStatic Bundle.tN "SUPPRESSED_SENTINEL" Bundle.listD ∈ lw_tbl := jtw_in (p := 5117) (by decide +kernel)
theorem jinT : Cond.initialized Bundle.tN ∈ lw_tbl := jtw_in (p := 1018) (by decide +kernel)
theorem jaoW : Cond.arrayOver (.object RX2) ∈ lw_tbl := jtw_in (p := 2113) (by decide +kernel)
theorem jneW : Cond.methodLinkNest RX12 633 (jy jFI) RX12 ∈ lw_tbl := jtw_in (p := 9165) (by decide +kernel)
def jtm (i : Nat) : Term := match i with
  | 0 => .string (jRN 6) 35
  | 1 => .string (jRN 6) 95
  | _ => .string (jRN 12) 50
def jTPt : List (Nat × Nat × Nat × Nat × List Nat) := [(10111, 10112, 10113, 10114, [10115, 10116, 10117, 10118, 10119, 10120, 10121, 10122, 10123, 10124, 10125, 10126, 10127, 10128, 10129, 10130, 10131, 10132, 10133, 10134, 10135, 10136, 10137, 10138, 10139, 10140, 10141, 10142, 10143, 10144, 10145, 10146, 10147, 10148, 10149, 10150, 10151, 10152, 10153, 10154, 10155, 10156, 10157, 10158, 10159, 10160, 10161, 10162, 10163, 10164, 10165, 10166, 10167, 10168, 10169, 10170, 10171, 10172, 10173, 10174, 10175, 10176, 10177, 10178, 10179, 10180, 10181, 10182, 10183, 10184, 10185, 10186, 10187, 10188, 10189, 10190, 10191, 10192, 10193, 10194, 10195, 10196, 10197, 10198, 10199, 10200, 10201, 10202, 10203, 10204, 10205, 10206, 10207, 10208, 10209, 10210, 10211, 10212, 10213, 10214, 10215, 10216, 10217, 10218, 10219, 10220, 10221, 10222, 10223, 10224, 10225, 10226, 10227, 10228, 10229, 10230, 10231, 10232, 10233, 10234, 10235, 10236, 10237, 10238, 10239]), (10240, 10241, 10242, 10243, [10244, 10245, 10246, 10247, 10248, 10249, 10250, 10251, 10252, 10253, 10254, 10255, 10256]), (30176, 30177, 30178, 30179, [30180, 30181, 30182, 30183, 30184, 30185, 30186, 30187, 30188, 30189, 30190, 30191, 30192, 30193, 30194, 30195, 30196, 30197, 30198, 30199, 30200, 30201, 30202, 30203, 30204, 30205, 30206, 30207, 30208, 30209, 30210, 30211, 30212, 30213, 30214, 30215, 30216, 30217, 30218, 30219, 30220, 30221, 30222, 30223, 30224, 30225, 30226, 30227, 30228, 30229, 30230, 30231, 30232, 30233, 30234, 30235, 30236, 30237, 30238, 30239, 30240, 30241, 30242, 30243, 30244, 30245, 30246, 30247, 30248, 30249, 30250, 30251, 30252, 30253, 30254, 30255, 30256, 30257, 30258, 30259, 30260, 30261, 30262, 30263, 30264, 30265, 30266, 30267, 30268, 30269, 30270, 30271, 30272, 30273, 30274, 30275, 30276, 30277, 30278, 30279, 30280, 30281, 30282, 30283, 30284, 30285, 30286, 30287, 30288, 30289, 30290, 30291, 30292, 30293, 30294, 30295, 30296, 30297, 30298, 30299, 30300, 30301, 30302, 30303, 30304])]
def jtl : List Nat := [(jtx 0).length, (jtx 1).length, (jtx 2).length]
def jtbs : List (List Int32) := [(jtx 0).map nI, (jtx 1).map nI, (jtx 2).map nI]
def jtp (i : Nat) : Nat × Nat × Nat × Nat × List Nat := jTPt.getD i (0, 0, 0, 0, [])
theorem jtp_ok : (List.range 3).all (fun i => decide (jfw (jtp i).1 = some (.exactly (jtm i) "java/lang/String")) && decide (jfw (jtp i).2.1 = some (.eq (.field (jtm i) "java/lang/String" "coder" "B") (.int 0))) && decide (jfw (jtp i).2.2.1 = some (.arrayOf (.field (jtm i) "java/lang/String" "value" "[B") .byte)) && decide (jfw (jtp i).2.2.2.1 = some (.eq (.length (.field (jtm i) "java/lang/String" "value" "[B")) (.int (Int32.ofNat (jtl.getD i 0)))))) = true := by decide +kernel
theorem jte0_ok : (List.range (jtl.getD 0 0)).all (fun j => decide (jfw ((jtp 0).2.2.2.2.getD j 0) = some (.eq (.elem (.field (jtm 0) "java/lang/String" "value" "[B") (.int (Int32.ofNat j))) (.int ((jtbs.getD 0 []).getD j 0))))) = true := by decide +kernel
theorem jte1_ok : (List.range (jtl.getD 1 0)).all (fun j => decide (jfw ((jtp 1).2.2.2.2.getD j 0) = some (.eq (.elem (.field (jtm 1) "java/lang/String" "value" "[B") (.int (Int32.ofNat j))) (.int ((jtbs.getD 1 []).getD j 0))))) = true := by decide +kernel
theorem jte2_ok : (List.range (jtl.getD 2 0)).all (fun j => decide (jfw ((jtp 2).2.2.2.2.getD j 0) = some (.eq (.elem (.field (jtm 2) "java/lang/String" "value" "[B") (.int (Int32.ofNat j))) (.int ((jtbs.getD 2 []).getD j 0))))) = true := by decide +kernel
theorem jtn01 : jfw 10257 = some (.not (.eq (jtm 0) (jtm 1))) := by decide +kernel
theorem jtn02 : jfw 30305 = some (.not (.eq (jtm 0) (jtm 2))) := by decide +kernel
theorem jtn12 : jfw 30306 = some (.not (.eq (jtm 1) (jtm 2))) := by decide +kernel
theorem jcsW : jfw 10002 = some (.eq (.static "java/lang/String" "COMPACT_STRINGS" "Z") (.int 1)) := by decide +kernel
theorem jfmW : jfw 10003 = some (.isRef (.static "jdk/internal/util/Preconditions" "SIOOBE_FORMATTER" "Ljava/util/function/BiFunction;")) := by decide +kernel
theorem jlsC : Cond.laysStatic "java/lang/String" "COMPACT_STRINGS" "Z" ∈ lw_tbl := jtw_in (p := 1054) (by decide +kernel)
theorem jlsCi : Cond.initialized "java/lang/String" ∈ lw_tbl := jtw_in (p := 1003) (by decide +kernel)
theorem jlsF : Cond.laysStatic "jdk/internal/util/Preconditions" "SIOOBE_FORMATTER" "Ljava/util/function/BiFunction;" ∈ lw_tbl := jtw_in (p := 1070) (by decide +kernel)
theorem jlsFi : Cond.initialized "jdk/internal/util/Preconditions" ∈ lw_tbl := jtw_in (p := 1005) (by decide +kernel)
theorem jTXt_ok : jTXt.all (fun q => decide (q.2.2.1 < 3) && decide (jtm q.2.2.1 = .string (jRN q.1) q.2.1) && (match jtw q.2.2.2 with | some (.stringRef o i _) => decide (o = jRN q.1) && decide (i = q.2.1) | _ => false)) = true := by decide +kernel
/-- the texts stand apart -/
def jAp (A : Nat → Nat) : Prop := ∀ t, t < 3 → jtf A (A t) = some t ∧ jtf (fun t => A (50 + t)) (A (50 + t)) = some t
theorem jbyt (t j : Nat) : ((jtx t).map nI).getD j 0 = nI ((jtx t).getD j 0) := by
  rw [List.getD_eq_getElem?_getD, List.getD_eq_getElem?_getD, List.getElem?_map]
  cases (jtx t)[j]? with
  | none => decide
  | some x => rfl
theorem jT_ne {a n n' : Nat} {f f' : Nat → Value} {P : Nat → Prop} {U : State} {H : Heap} (h : va_T .byte a n f P U H) (h' : va_T .byte a n' f' P U H) : Int32.ofNat n = Int32.ofNat n' ∧ ∀ j, j < n → j < n' → f j = f' j := by
  obtain ⟨c, v1, -, -, -, v5, v6, -⟩ := h
  obtain ⟨c', w1, -, -, -, w5, w6, -⟩ := h'
  rw [v1] at w1
  cases w1
  refine ⟨v5.symm.trans w5, fun j hj hj' => ?_⟩
  have := (v6 j hj).symm.trans (w6 j hj')
  exact Option.some.inj this
theorem jtl_e {t : Nat} (ht : t < 3) : jtl.getD t 0 = (jtx t).length := by
  unfold jtl
  match t, ht with
  | 0, _ => simp only [List.getD_cons_zero]
  | 1, _ => simp only [List.getD_cons_succ, List.getD_cons_zero]
  | 2, _ => simp only [List.getD_cons_succ, List.getD_cons_zero]
theorem jtbs_e {t : Nat} (ht : t < 3) : jtbs.getD t [] = (jtx t).map nI := by
  unfold jtbs
  match t, ht with
  | 0, _ => simp only [List.getD_cons_zero]
  | 1, _ => simp only [List.getD_cons_succ, List.getD_cons_zero]
  | 2, _ => simp only [List.getD_cons_succ, List.getD_cons_zero]
theorem jbyt_f {t : Nat} (ht : t < 3) : (fun j => Value.int ((jtbs.getD t []).getD j 0)) = fun j => Value.int (nI ((jtx t).getD j 0)) := by
  rw [jtbs_e ht]
  exact funext fun j => congrArg Value.int (jbyt t j)
theorem jT_of {t a : Nat} {P : Nat → Prop} {U : State} {H : Heap} (ht : t < 3) (h : va_T .byte a (jtl.getD t 0) (fun j => .int ((jtbs.getD t []).getD j 0)) P U H) : va_T .byte a (jtx t).length (fun j => .int (nI ((jtx t).getD j 0))) P U H := by
  rw [← jtl_e ht, ← jbyt_f ht]
  exact h
set_option maxHeartbeats 4000000 in
theorem jtxs {args : Array Value} {s : State} (hts : ∀ w ∈ lw_tbl, w.before args s = true) (hgv : (Jvm.Cond.and given_1 narrow_1).before args s = true) : ∃ A, jtxe A s s.heap.size s.heap ∧ jAp A := by
  have hfl := flat_of_before _ hgv
  have hP : ∀ a : Nat, a < s.heap.size → ¬ (fun q => s.heap.size ≤ q) a := fun a ha => Nat.not_le.mpr ha
  have hk : ∀ i, i < 3 → jfw (jtp i).1 = some (.exactly (jtm i) "java/lang/String") ∧ jfw (jtp i).2.1 = some (.eq (.field (jtm i) "java/lang/String" "coder" "B") (.int 0)) ∧ jfw (jtp i).2.2.1 = some (.arrayOf (.field (jtm i) "java/lang/String" "value" "[B") .byte) ∧ jfw (jtp i).2.2.2.1 = some (.eq (.length (.field (jtm i) "java/lang/String" "value" "[B")) (.int (Int32.ofNat (jtl.getD i 0)))) := by
    intro i hi
    have h1 := List.all_eq_true.mp jtp_ok i (List.mem_range.mpr hi)
    simp only [Bool.and_eq_true, decide_eq_true_eq] at h1
    exact ⟨h1.1.1.1, h1.1.1.2, h1.1.2, h1.2⟩
  have he : ∀ i, i < 3 → ∀ j, j < jtl.getD i 0 → jfw ((jtp i).2.2.2.2.getD j 0) = some (.eq (.elem (.field (jtm i) "java/lang/String" "value" "[B") (.int (Int32.ofNat j))) (.int ((jtbs.getD i []).getD j 0))) := by
    intro i hi j hj
    match i, hi with
    | 0, _ => exact of_decide_eq_true (List.all_eq_true.mp jte0_ok j (List.mem_range.mpr hj))
    | 1, _ => exact of_decide_eq_true (List.all_eq_true.mp jte1_ok j (List.mem_range.mpr hj))
    | 2, _ => exact of_decide_eq_true (List.all_eq_true.mp jte2_ok j (List.mem_range.mpr hj))
  have hlt : ∀ i, i < 3 → jtl.getD i 0 < 2 ^ 31 := by
    intro i hi
    match i, hi with
    | 0, _ => decide +kernel
    | 1, _ => decide +kernel
    | 2, _ => decide +kernel
  have hne : ∀ i j : Nat, i < 3 → j < 3 → i ≠ j → (Cond.not (Cond.eq (jtm i) (jtm j))).before args s = true ∨ (Cond.not (Cond.eq (jtm j) (jtm i))).before args s = true := by
    intro i j hi hj hij
    match i, j, hi, hj, hij with
    | 0, 0, _, _, h => exact absurd rfl h
    | 1, 1, _, _, h => exact absurd rfl h
    | 2, 2, _, _, h => exact absurd rfl h
    | 0, 1, _, _, _ => exact Or.inl (hfl _ (jfw_in jtn01))
    | 0, 2, _, _, _ => exact Or.inl (hfl _ (jfw_in jtn02))
    | 1, 2, _, _, _ => exact Or.inl (hfl _ (jfw_in jtn12))
    | 1, 0, _, _, _ => exact Or.inr (hfl _ (jfw_in jtn01))
    | 2, 0, _, _, _ => exact Or.inr (hfl _ (jfw_in jtn02))
    | 2, 1, _, _, _ => exact Or.inr (hfl _ (jfw_in jtn12))
  obtain ⟨adK, adV, ⟨hS, hinj⟩, hev⟩ := vk_Sof (N := 3) (tm := jtm) (len := jtl) (byt := jtbs) (A := fun q => s.heap.size ≤ q) hlt (fun i hi => hfl _ (jfw_in (hk i hi).1)) (fun i hi => hfl _ (jfw_in (hk i hi).2.1)) (fun i hi => hfl _ (jfw_in (hk i hi).2.2.1)) (fun i hi => hfl _ (jfw_in (hk i hi).2.2.2)) (fun i hi j hj => hfl _ (jfw_in (he i hi j hj))) hne hP
  have hF := va_Zqof (A := fun q => s.heap.size ≤ q) (hts _ jlsF) (hts _ jlsFi) (hfl _ (jfw_in jfmW)) hP
  obtain ⟨x60, x61, hF⟩ : ∃ x60 x61 : Nat, va_Z "jdk/internal/util/Preconditions" "SIOOBE_FORMATTER" "Ljava/util/function/BiFunction;" (if x61 = 0 then .ref x60 else .null) (fun q => s.heap.size ≤ q) s s.heap := by
    rcases hF with h | ⟨t, h⟩
    · exact ⟨0, 1, h⟩
    · exact ⟨t, 0, h⟩
  have hT : ∀ t, t < 3 → va_T .byte (adV t) (jtx t).length (fun j => .int (nI ((jtx t).getD j 0))) (fun q => s.heap.size ≤ q) s s.heap := fun t ht => jT_of ht (hS t ht).2.2.2
  have hv01 : adV 0 ≠ adV 1 := by
    intro h
    have h1 := hT 0 (by decide)
    rw [h] at h1
    have h2 := (jT_ne h1 (hT 1 (by decide))).1
    revert h2
    decide +kernel
  have hv12 : adV 1 ≠ adV 2 := by
    intro h
    have h1 := hT 1 (by decide)
    rw [h] at h1
    have h2 := (jT_ne h1 (hT 2 (by decide))).1
    revert h2
    decide +kernel
  have hv02 : adV 0 ≠ adV 2 := by
    intro h
    have h1 := hT 0 (by decide)
    rw [h] at h1
    have h2 := (jT_ne h1 (hT 2 (by decide))).2 38 (by decide +kernel) (by decide +kernel)
    revert h2
    decide +kernel
  have hk01 : adK 0 ≠ adK 1 := fun h => absurd (hinj 0 1 (by decide) (by decide) h) (by decide)
  have hk02 : adK 0 ≠ adK 2 := fun h => absurd (hinj 0 2 (by decide) (by decide) h) (by decide)
  have hk12 : adK 1 ≠ adK 2 := fun h => absurd (hinj 1 2 (by decide) (by decide) h) (by decide)
  refine ⟨fun k => if k < 3 then adK k else if k < 60 then adV (k - 50) else if k = 60 then x60 else x61, ⟨va_Zof (hts _ jlsC) (hts _ jlsCi) (va_eqt (hfl _ (jfw_in jcsW))) hP, hF, fun t ht => ?_, fun q hq => ?_⟩, fun t ht => ?_⟩
  · have e1 : 50 + t - 50 = t := by omega
    simp only [if_pos ht, if_neg (show ¬ 50 + t < 3 by omega), if_pos (show 50 + t < 60 by omega), e1]
    exact ⟨(hS t ht).1, (hS t ht).2.2.1, (hS t ht).2.1, hT t ht⟩
  · have h1 := List.all_eq_true.mp jTXt_ok q hq
    simp only [Bool.and_eq_true, decide_eq_true_eq] at h1
    obtain ⟨⟨h1, h2⟩, h3⟩ := h1
    split at h3
    · next o i tx e =>
      simp only [Bool.and_eq_true, decide_eq_true_eq] at h3
      obtain ⟨rfl, rfl⟩ := h3
      have h4 := hev _ h1
      rw [h2] at h4
      refine ⟨tx, ?_⟩
      simp only [if_pos h1]
      exact vk_R.of (hts _ (jtw_in e)) h4
    · cases h3
  · match t, ht with
    | 0, _ => exact ⟨by simp [jtf], by simp [jtf]⟩
    | 1, _ => exact ⟨by simp [jtf, Ne.symm hk01], by simp [jtf, Ne.symm hv01]⟩
    | 2, _ => exact ⟨by simp [jtf, Ne.symm hk02, Ne.symm hk12], by simp [jtf, Ne.symm hv02, Ne.symm hv12]⟩

theorem jstart {args : Array Value} {s : State} (hts : ∀ w ∈ lw_tbl, w.before args s = true) (hgv : (Jvm.Cond.and given_1 narrow_1).before args s = true) : ∃ A D, jenv A D s s.heap.size s.heap ∧ jAp A := by
  obtain ⟨A, hA, hA2⟩ := jtxs hts hgv
  have hfl := flat_of_before _ hgv
  have hcl : ∀ k, ∃ q : ClassId × (Nat → Nat), k < 13 → u_Kn s (jRN k) (jTX k) (jNf k) q.1 q.2 := by
    intro k
    by_cases hk : k < 13
    · obtain ⟨cC, iS, h⟩ := u_known (C := jRN k) (T := jTX k) (N := jNf k) (n := jNf k) hts (fun w hw => (List.mem_filter.mp (jlays hk w hw)).1) (hts _ (List.mem_filter.mp (jw_ins hk)).1)
      exact ⟨(cC, iS), fun _ => h⟩
    · exact ⟨(0, fun _ => 0), fun h => absurd h hk⟩
  refine ⟨A, (fun k => (Classical.choose (hcl k)).1, fun k => (Classical.choose (hcl k)).2), ⟨rfl, ⟨fun c q hq => ?_, fun k q h => by simp at h⟩, va_AO.of (hts _ jaoW), fun w hw => ?_, ?_, ?_, fun a ha b hb hab => ?_, fun z hz => ?_, va_Nw.of rfl (hts _ jneW), hA⟩, hA2⟩
  · have hc : c < 13 := (List.getElem?_eq_some_iff.mp hq).1
    rw [jvw hc] at hq
    cases hq
    exact Classical.choose_spec (hcl c) hc
  · have h1 := List.mem_filter.mp hw
    simp only [Bool.and_eq_true] at h1
    exact va_any h1.2.1 (hts w h1.1)
  · exact vx_Zqof (hts _ jlsU) (hts _ jinT) (hfl _ (jfw_in jisU)) (fun a ha => Nat.not_le.mpr ha)
  · exact vx_Zqof (hts _ jlsS) (hts _ jinT) (hfl _ (jfw_in jisS)) (fun a ha => Nat.not_le.mpr ha)
  · have h1 := List.all_eq_true.mp (List.all_eq_true.mp jNCt_has a ha) b hb
    simp only [Bool.or_eq_true, decide_eq_true_eq] at h1
    rcases h1 with h1 | h1
    · exact absurd h1 hab
    · obtain ⟨q, hq, h2⟩ := List.any_eq_true.mp h1
      simp only [Bool.and_eq_true, beq_iff_eq] at h2
      have h3 := List.all_eq_true.mp jNCt_ok q hq
      simp only [decide_eq_true_eq] at h3
      rw [h2.1, h2.2] at h3
      exact va_Nc.of (hfl _ (jfw_in h3))
  · have h1 := List.all_eq_true.mp jSTt_has z hz
    obtain ⟨q, hq, h2⟩ := List.any_eq_true.mp h1
    simp only [Bool.and_eq_true, beq_iff_eq] at h2
    have h3 := List.all_eq_true.mp jSTt_ok q hq
    simp only [Bool.and_eq_true, decide_eq_true_eq] at h3
    obtain ⟨⟨e1, e2⟩, e3⟩ := h2
    rw [e1, e2] at h3
    rw [e3] at h3
    obtain ⟨a, c, cell, k, hev, -⟩ := Cond.exactly_spec (args := args) (first := s) (o := none) (s := s) (idx := []) (hfl _ (jfw_in h3.1))
    exact ⟨a, vk_R.of (hts _ (jtw_in h3.2)) hev⟩
