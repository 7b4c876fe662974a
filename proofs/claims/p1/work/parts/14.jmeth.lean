theorem jMWt_all : jMWt.all (fun q => decide (jisC q.1 = 1 ∨ jisC q.1 = 2) && decide (jtw q.2.2.1 = some (if jkd q.1 = 0 then Cond.static (jy q.1) else Cond.instanceMethod (jy q.1))) && decide (jkd q.1 = 1 → jtw q.2.2.2.1 = some (Cond.selects (jRN (jow q.1)) (jy q.1) (jy q.1))) && decide (jtw q.2.2.2.2 = some (Cond.initialized (jy q.1).cls)) && decide ((jy q.1).cls = jRN (jow q.1)) && decide ((parseMethodDescriptor (jy q.1).desc).map (fun d => d.parameters.length) = some (if jkd q.1 = 0 then jna q.1 else jna q.1 - 1)) && decide (jkd q.1 ≠ 0 → 1 ≤ jna q.1) && decide (jkd q.1 = 2 → (jy q.1).name = "<init>") && decide (jmL q.1 ≤ 22) && decide (plainName (jy q.1).cls = true)) = true := by
  unfold jMWt
  simp only [List.all_append, Bool.and_eq_true]
  exact ⟨jMWt_ok0, jMWt_ok1, jMWt_ok2, jMWt_ok3, jMWt_ok4, jMWt_ok5, jMWt_ok6, jMWt_ok7, jMWt_ok8, jMWt_ok9, jMWt_ok10, jMWt_ok11, jMWt_ok12, jMWt_ok13, jMWt_ok14, jMWt_ok15, jMWt_ok16, jMWt_ok17, jMWt_ok18, jMWt_ok19, jMWt_ok20⟩
theorem jMWt_has : (List.range 322).all (fun n => jMWt.any (fun q => q.1 == n)) = true := by decide +kernel
def jnm : Nat := 322
def jFI : Nat := 174
theorem jmeth {n : Nat} (h : n < jnm) : (jisC n = 1 ∨ jisC n = 2) ∧ (jkd n = 0 → Cond.static (jy n) ∈ jW) ∧ (jkd n ≠ 0 → Cond.instanceMethod (jy n) ∈ jW) ∧ (jkd n = 1 → Cond.selects (jRN (jow n)) (jy n) (jy n) ∈ jW) ∧ Cond.initialized (jy n).cls ∈ jW ∧ (jy n).cls = jRN (jow n) ∧
    (parseMethodDescriptor (jy n).desc).map (fun d => d.parameters.length) = some (if jkd n = 0 then jna n else jna n - 1) ∧ (jkd n ≠ 0 → 1 ≤ jna n) ∧ (jkd n = 2 → (jy n).name = "<init>") ∧ jmL n ≤ 22 ∧ plainName (jy n).cls = true := by
  have h1 := List.all_eq_true.mp jMWt_has n (List.mem_range.mpr h)
  obtain ⟨q, hq, h2⟩ := List.any_eq_true.mp h1
  have h2 : q.1 = n := by simpa using h2
  subst h2
  have h3 := List.all_eq_true.mp jMWt_all q hq
  simp only [Bool.and_eq_true, decide_eq_true_eq] at h3
  obtain ⟨⟨⟨⟨⟨⟨⟨⟨⟨a1, a2⟩, a3⟩, a4⟩, a5⟩, a6⟩, a7⟩, a8⟩, a9⟩, a10⟩ := h3
  refine ⟨a1, fun hk => ?_, fun hk => ?_, fun hk => jW_tw (a3 hk) rfl, jW_tw a4 rfl, a5, a6, a7, a8, a9, a10⟩
  · rw [if_pos hk] at a2
    exact jW_tw a2 rfl
  · rw [if_neg hk] at a2
    exact jW_tw a2 rfl
theorem jRN_ne (k : Nat) : jRN k ≠ "java/lang/invoke/MethodHandle" ∧ jRN k ≠ "java/lang/invoke/VarHandle" := by
  unfold jRN
  split <;> exact ⟨by decide +kernel, by decide +kernel⟩
/-- a method's words: its code, then all that are good -/
def jws (n : Nat) : List Cond := match jcw n with
  | some w => w :: jW
  | none => jW
theorem jcw_W {n : Nat} {w : Cond} (h : jcw n = some w) (g : goodWord w = true) : w ∈ jW := jW_tw h g
theorem jws1 {n : Nat} (h : jisC n = 1) : jws n = Cond.code (jy n) (jby n) (jmL n) (jrt n) :: jW := by
  unfold jws
  rw [jcw1 h]
theorem jws2 {n : Nat} (h : jisC n = 2) : jws n = Cond.codeWith (jy n) (jby n) (jmL n) (jrt n) (jhl n) :: jW := by
  unfold jws
  rw [jcw2 h]
theorem jws_sub {n : Nat} (h : jisC n = 1 ∨ jisC n = 2) : ∀ w ∈ jws n, w ∈ jW := by
  intro w hw
  rcases h with h | h
  · rw [jws1 h] at hw
    rcases List.mem_cons.mp hw with rfl | hw
    · exact jcw_W (jcw1 h) rfl
    · exact hw
  · rw [jws2 h] at hw
    rcases List.mem_cons.mp hw with rfl | hw
    · exact jcw_W (jcw2 h) rfl
    · exact hw
theorem jW_good {w : Cond} (h : w ∈ jW) : goodWord w = true := (List.mem_filter.mp h).2
theorem jW_move {args a' : Array Value} {s U : State} (hW : s.WarmedH U.vm) {w : Cond} (hw : w ∈ jW) (h : w.before args s = true) : w.before a' U = true := word_at hW (good_of_word (jW_good hw)) h
