/-! the law's start: what the Statement gives of it -/
def jfl (k : Nat) : List Cond := match k with
  | 1 => flatC narrow_1_1
  | 2 => flatC narrow_1_2
  | _ => flatC narrow_1_3
theorem jfl_in {k : Nat} {w : Cond} (h : w ∈ jfl k) : w ∈ flatC (Jvm.Cond.and given_1 narrow_1) := by
  unfold jfl at h
  show w ∈ flatC given_1 ++ (flatC narrow_1_1 ++ (flatC narrow_1_2 ++ flatC narrow_1_3))
  simp only [List.mem_append]
  split at h <;> simp only [h, true_or, or_true]
def jfw (p : Nat) : Option Cond := (jfl (p / 10000))[p % 10000]?
theorem jfw_in {p : Nat} {w : Cond} (h : jfw p = some w) : w ∈ flatC (Jvm.Cond.and given_1 narrow_1) := jfl_in (List.mem_of_getElem? h)
def jNCt : List (Nat × Nat × Nat) := [(11, 41, 10021), (11, 42, 10038), (11, 43, 10055), (11, 44, 10072), (11, 45, 10089), (41, 11, 10106), (41, 42, 10039), (41, 43, 10056), (41, 44, 10073), (41, 45, 10090), (42, 11, 10107), (42, 41, 10022), (42, 43, 10057), (42, 44, 10074), (42, 45, 10091), (43, 11, 10108), (43, 41, 10023), (43, 42, 10040), (43, 44, 10075), (43, 45, 10092), (44, 11, 10109), (44, 41, 10024), (44, 42, 10041), (44, 43, 10058), (44, 45, 10093), (45, 11, 10110), (45, 41, 10025), (45, 42, 10042), (45, 43, 10059), (45, 44, 10076)]
theorem jNCt_ok : jNCt.all (fun q => decide (jfw q.2.2 = some (.not (.castable (jEN q.1) (jEN q.2.1))))) = true := by decide +kernel
theorem jNCt_has : jEs.all (fun a => jEs.all (fun b => decide (a = b) || jNCt.any (fun q => q.1 == a && q.2.1 == b))) = true := by decide +kernel
def jSTt : List (Nat × Nat × String × Nat × Nat) := [(10, 93, "the tape is full", 10258, 5132), (10, 103, "not a length of the tape", 10280, 5179), (10, 135, "the tape is not a name", 10362, 6021), (10, 162, "turns out of range", 10394, 6162), (10, 168, "time out of range", 20023, 6180), (10, 173, "nothing to look at", 20052, 6205), (10, 205, "no such variable", 20083, 6215), (10, 210, "nothing to ask of a signal", 20113, 6224), (10, 212, "no such signal", 20154, 6225), (10, 226, "nothing to ask of an event", 20184, 7001), (10, 235, "no such event", 20227, 7002), (10, 245, "no such byte of out", 20258, 7010), (10, 247, "nothing to look for", 20296, 7018), (10, 249, "no such process or state", 20335, 7019), (10, 258, "no such act", 20380, 7112), (10, 277, "a race has two sides", 30053, 7156), (10, 279, "no such race", 30097, 7157), (10, 287, "nothing to count", 30134, 7165), (10, 320, "there is no system", 10311, 5207), (10, 323, "there is no chart", 30013, 7124), (10, 330, "no such instance", 10337, 6000)]
theorem jSTt_ok : jSTt.all (fun q => decide (jfw q.2.2.2.1 = some (.exactly (.string (jRN q.1) q.2.1) "java/lang/String")) && decide (jtw q.2.2.2.2 = some (.stringRef (jRN q.1) q.2.1 q.2.2.1))) = true := by decide +kernel
theorem jSTt_has : jSRt.all (fun z => jSTt.any (fun q => q.1 == z.1 && q.2.1 == z.2.1 && q.2.2.1 == z.2.2)) = true := by decide +kernel
theorem jisU : jfw 10007 = some (.isRef (.static Bundle.tN "UNASSIGNED_STACK" Bundle.steD)) := by decide +kernel
theorem jisS : jfw 10008 = some (.isRef (.static Bundle.tN "SUPPRESSED_SENTINEL" Bundle.listD)) := by decide +kernel
theorem jlsU : Cond.laysStatic Bundle.tN "UNASSIGNED_STACK" Bundle.steD ∈ lw_tbl := jtw_in (p := 5115) (by decide +kernel)
theorem jlsS : Cond.laysStatic Bundle.tN "SUPPRESSED_SENTINEL" Bundle.listD ∈ lw_tbl := jtw_in (p := 5117) (by decide +kernel)
theorem jinT : Cond.initialized Bundle.tN ∈ lw_tbl := jtw_in (p := 1018) (by decide +kernel)
theorem jaoW : Cond.arrayOver (.object RX2) ∈ lw_tbl := jtw_in (p := 2113) (by decide +kernel)
theorem jneW : Cond.methodLinkNest RX12 633 (jy jFI) RX12 ∈ lw_tbl := jtw_in (p := 9165) (by decide +kernel)
theorem jstart {args : Array Value} {s : State} (hts : ∀ w ∈ lw_tbl, w.before args s = true) (hgv : (Jvm.Cond.and given_1 narrow_1).before args s = true) : ∃ D, jenv D s s.heap.size s.heap := by
  have hfl := flat_of_before _ hgv
  have hcl : ∀ k, ∃ q : ClassId × (Nat → Nat), k < 13 → u_Kn s (jRN k) (jTX k) (jNf k) q.1 q.2 := by
    intro k
    by_cases hk : k < 13
    · obtain ⟨cC, iS, h⟩ := u_known (C := jRN k) (T := jTX k) (N := jNf k) (n := jNf k) hts (fun w hw => (List.mem_filter.mp (jlays hk w hw)).1) (hts _ (List.mem_filter.mp (jw_ins hk)).1)
      exact ⟨(cC, iS), fun _ => h⟩
    · exact ⟨(0, fun _ => 0), fun h => absurd h hk⟩
  refine ⟨(fun k => (Classical.choose (hcl k)).1, fun k => (Classical.choose (hcl k)).2), rfl, ⟨fun c q hq => ?_, fun k q h => by simp at h⟩, va_AO.of (hts _ jaoW), fun w hw => ?_, ?_, ?_, fun a ha b hb hab => ?_, fun z hz => ?_, va_Nw.of rfl (hts _ jneW)⟩
  · have hc : c < 13 := (List.getElem?_eq_some_iff.mp hq).1
    rw [jvw hc] at hq
    cases hq
    exact Classical.choose_spec (hcl c) hc
  · have h1 := List.mem_filter.mp hw
    simp only [Bool.and_eq_true] at h1
    exact va_any h1.2.1 (hts w h1.1)
  · exact vx_Zqof (hts _ jlsU) (hts _ jinT) (hfl _ (jfw_in jisU)) (fun a ha => Nat.not_le.mpr ha)
  · exact vx_Zqof (hts _ jlsS) (hts _ jinT) (hfl _ (jfw_in jisS)) (fun a ha => Nat.not_le.mpr ha)
  · have h1 := List.all_eq_true.mp (List.all_eq_true.mp jNCt_has a ha) b hb
    simp only [Bool.or_eq_true, decide_eq_true_eq] at h1
    rcases h1 with h1 | h1
    · exact absurd h1 hab
    · obtain ⟨q, hq, h2⟩ := List.any_eq_true.mp h1
      simp only [Bool.and_eq_true, beq_iff_eq] at h2
      have h3 := List.all_eq_true.mp jNCt_ok q hq
      simp only [decide_eq_true_eq] at h3
      rw [h2.1, h2.2] at h3
      exact va_Nc.of (hfl _ (jfw_in h3))
  · have h1 := List.all_eq_true.mp jSTt_has z hz
    obtain ⟨q, hq, h2⟩ := List.any_eq_true.mp h1
    simp only [Bool.and_eq_true, beq_iff_eq] at h2
    have h3 := List.all_eq_true.mp jSTt_ok q hq
    simp only [Bool.and_eq_true, decide_eq_true_eq] at h3
    obtain ⟨⟨e1, e2⟩, e3⟩ := h2
    rw [e1, e2] at h3
    rw [e3] at h3
    obtain ⟨a, c, cell, k, hev, -⟩ := Cond.exactly_spec (args := args) (first := s) (o := none) (s := s) (idx := []) (hfl _ (jfw_in h3.1))
    exact ⟨a, vk_R.of (hts _ (jtw_in h3.2)) hev⟩
