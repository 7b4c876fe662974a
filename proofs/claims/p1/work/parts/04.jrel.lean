/-! what a state of the J machine says of the JVM's heap and of a frame's locals -/
def jW : List Cond := lw_tbl.filter goodWord
def jat (D : va_G) (U : State) (a : Nat) (c : jC) (H : Heap) : Prop :=
  (c.1 < 13 → t_OB a (D.1 c.1) (jNt c.1) (D.2 c.1) H c.2.2) ∧
  (20 ≤ c.1 → c.1 < 26 → c.2.1 < 2 ^ 31 ∧ ∃ (cell : Cell) (kA : Class) (comp : ClassId), H[a]? = some cell ∧ (∀ k, cell.vm ≠ .statics k) ∧ cell.vm ≠ .unknown ∧ U.vm.classes[cell.cls]? = some kA ∧ kA.kind = .array comp (jAt c.1) ∧ (c.1 = 24 → U.vm.findClass RX2 = some comp) ∧ cell.slots.size = c.2.1 ∧ ∀ i : Nat, i < c.2.1 → cell.slots[i]? = some (c.2.2 i) ∧ fits (jAt c.1) (c.2.2 i) = true)
def jR (D : va_G) (U : State) (base : Nat) (H0 : Heap) (σ : jS) (H : Heap) : Prop :=
  H.size = σ.2.1 ∧ base ≤ H.size ∧ (∀ q : Nat, q < base → H[q]? = H0[q]?) ∧ ∀ (a : Nat) (c : jC), σ.1 a = some c → a < σ.2.1 ∧ (c.1 ≠ 25 → base ≤ a) ∧ jat D U a c H
theorem jat.kept {D : va_G} {U : State} {a : Nat} {c : jC} {H H1 : Heap} (h : jat D U a c H) (hq : H1[a]? = H[a]?) : jat D U a c H1 := by
  refine ⟨fun h1 => (h.1 h1).kept hq, fun h1 h2 => ?_⟩
  obtain ⟨hl, cell, kA, comp, q1, q2⟩ := h.2 h1 h2
  exact ⟨hl, cell, kA, comp, hq.trans q1, q2⟩
theorem jat.moved {D : va_G} {u U : State} {a : Nat} {c : jC} {H : Heap} (hvm : u.vm.Alike U.vm) (h : jat D u a c H) : jat D U a c H := by
  refine ⟨h.1, fun h1 h2 => ?_⟩
  obtain ⟨hl, cell, kA, comp, q1, q2, q3, q4, q5, q6, q7⟩ := h.2 h1 h2
  obtain ⟨k', hk', he⟩ := hvm.2.2 _ _ q4
  exact ⟨hl, cell, k', comp, q1, q2, q3, hk', by rw [he]; exact q5, fun h => by rw [hvm.findClass]; exact q6 h, q7⟩
theorem jR.moved {D : va_G} {u U : State} {base : Nat} {H0 H : Heap} {σ : jS} (hvm : u.vm.Alike U.vm) (h : jR D u base H0 σ H) : jR D U base H0 σ H :=
  ⟨h.1, h.2.1, h.2.2.1, fun a c hc => ⟨(h.2.2.2 a c hc).1, (h.2.2.2 a c hc).2.1, (h.2.2.2 a c hc).2.2.moved hvm⟩⟩
theorem jup_self {h : Nat → Option jC} {a : Nat} {c : jC} : jup h a c a = some c := by simp [jup]
theorem jup_ne {h : Nat → Option jC} {a b : Nat} {c : jC} (hb : b ≠ a) : jup h a c b = h b := by simp [jup, hb]
/-- a cell is written -/
theorem jR.set {D : va_G} {U : State} {base : Nat} {H0 H H1 : Heap} {σ : jS} {a : Nat} {c0 c : jC} (h : jR D U base H0 σ H) (ha : σ.1 a = some c0) (h0 : c0.1 ≠ 25) (hz : H1.size = H.size) (ho : ∀ q : Nat, q ≠ a → H1[q]? = H[q]?) (hn : jat D U a c H1) : jR D U base H0 (jset σ a c) H1 := by
  obtain ⟨h1, h2, h3, h4⟩ := h
  have hb := (h4 a c0 ha).2.1 h0
  refine ⟨hz.trans h1, by rw [hz]; exact h2, fun q hq => by rw [ho q (by omega)]; exact h3 q hq, fun b d hd => ?_⟩
  by_cases hba : b = a
  · subst hba
    simp only [jset, jup_self] at hd
    cases hd
    exact ⟨(h4 b c0 ha).1, fun _ => hb, hn⟩
  · simp only [jset, jup_ne hba] at hd
    exact ⟨(h4 b d hd).1, (h4 b d hd).2.1, (h4 b d hd).2.2.kept (ho b hba)⟩
/-- a cell is made -/
theorem jR.new {D : va_G} {U : State} {base : Nat} {H0 H H1 : Heap} {σ : jS} {c : jC} {n : Nat} (h : jR D U base H0 σ H) (hz : H1.size = H.size + 1) (ho : ∀ q : Nat, q < H.size → H1[q]? = H[q]?) (hn : jat D U σ.2.1 c H1) : jR D U base H0 (jnew σ c n) H1 := by
  obtain ⟨h1, h2, h3, h4⟩ := h
  refine ⟨by simp only [jnew]; omega, by omega, fun q hq => by rw [ho q (by omega)]; exact h3 q hq, fun b d hd => ?_⟩
  by_cases hba : b = σ.2.1
  · subst hba
    simp only [jnew, jup_self] at hd
    cases hd
    exact ⟨by simp only [jnew]; omega, fun _ => by omega, hn⟩
  · simp only [jnew, jup_ne hba] at hd
    obtain ⟨q1, q2, q3⟩ := h4 b d hd
    exact ⟨by simp only [jnew]; omega, q2, q3.kept (ho b (by omega))⟩
theorem jarr {U : State} {cell : Cell} {kA : Class} {comp : ClassId} {ty : FieldType} (h1 : ∀ k, cell.vm ≠ .statics k) (h2 : U.vm.classes[cell.cls]? = some kA) (h3 : kA.kind = .array comp ty) : U.isArrayOf cell ty := ⟨h1, kA, h2, comp, h3⟩
theorem jarr_set {D : va_G} {U : State} {a : Nat} {c : jC} {cell : Cell} {kA : Class} {comp : ClassId} {H1 : Heap} {j : Nat} {v : Value} (h1 : H1[a]? = some (cell.setSlot j v)) (ht : 20 ≤ c.1) (hl : c.2.1 < 2 ^ 31) (q2 : ∀ k, cell.vm ≠ .statics k) (q3 : cell.vm ≠ .unknown) (q4 : U.vm.classes[cell.cls]? = some kA) (q5 : kA.kind = .array comp (jAt c.1)) (q6 : c.1 = 24 → U.vm.findClass RX2 = some comp) (q7 : cell.slots.size = c.2.1) (q8 : ∀ i : Nat, i < c.2.1 → cell.slots[i]? = some (c.2.2 i) ∧ fits (jAt c.1) (c.2.2 i) = true) (hj : j < c.2.1) (hv : fits (jAt c.1) v = true) : jat D U a (c.1, c.2.1, updV c.2.2 j v) H1 := by
  refine ⟨fun h => ?_, fun _ _ => ⟨hl, _, kA, comp, h1, q2, q3, q4, q5, q6, ?_, ?_⟩⟩
  · simp only at h; omega
  · simp [Cell.setSlot, q7]
  · intro i hi
    simp only [Cell.setSlot, updV]
    by_cases hij : i = j
    · subst hij
      rw [if_pos rfl, Array.getElem?_setIfInBounds_self_of_lt (by omega)]
      exact ⟨rfl, hv⟩
    · rw [if_neg hij, Array.getElem?_setIfInBounds_ne (fun h => hij h.symm)]
      exact q8 i hi
/-- the locals -/
def jpr (L : jL) : List (Nat × Value) := (List.range L.length).filterMap fun i => match L[i]? with
  | some (some v) => some (i, v)
  | _ => none
theorem jpr_mem {L : jL} {i : Nat} {v : Value} : (i, v) ∈ jpr L ↔ L[i]? = some (some v) := by
  unfold jpr
  rw [List.mem_filterMap]
  constructor
  · rintro ⟨j, -, hj⟩
    split at hj
    · next w hw => cases hj; exact hw
    · cases hj
  · intro h
    refine ⟨i, List.mem_range.mpr ?_, by rw [h]⟩
    exact (List.getElem?_eq_some_iff.mp h).1
def jLR (ls : Array Slot) (nL : Nat) (L : jL) : Prop := L.length = nL ∧ lv_has ls nL (jpr L)
theorem jLR.at {ls : Array Slot} {nL : Nat} {L : jL} (h : jLR ls nL L) {i : Nat} {v : Value} (hv : L[i]? = some (some v)) : ls[i]? = some (.val v) := h.2.2.2 (i, v) (jpr_mem.mpr hv)
theorem jkill_length (L : jL) (i : Nat) : (jkill L i).length = L.length := by
  unfold jkill
  split
  · rfl
  · split
    · split <;> simp
    · rfl
theorem jkill_get {L : jL} {i j : Nat} {w : Value} (h : (jkill L i)[j]? = some (some w)) : L[j]? = some (some w) ∧ ¬ (j + 1 = i ∧ w.category = 2) := by
  unfold jkill at h
  split at h
  · exact ⟨h, fun q => by omega⟩
  · next k =>
    split at h
    · next v hv =>
      split at h
      · next hc =>
        by_cases hjk : k = j
        · subst hjk
          rw [List.getElem?_set_self (List.getElem?_eq_some_iff.mp hv).1] at h
          cases h
        · rw [List.getElem?_set_ne hjk] at h
          exact ⟨h, fun q => hjk (by omega)⟩
      · next hc =>
        refine ⟨h, fun q => ?_⟩
        have : j = k := by omega
        subst this
        rw [hv] at h
        cases h
        exact hc q.2
    · next hv =>
      refine ⟨h, fun q => ?_⟩
      have : j = k := by omega
      subst this
      exact hv w h
theorem jLR.st1 {ls ls' : Array Slot} {nL : Nat} {L : jL} {i : Nat} {v : Value} (h : jLR ls nL L) (h' : lv_has ls' nL ((i, v) :: (jpr L).filter (fun q => !(q.1 == i) && !(q.1 + 1 == i && q.2.category == 2)))) : jLR ls' nL (jst1 L i v) := by
  refine ⟨by simp [jst1, jkill_length, h.1], h'.1, h'.2.1, fun q hq => h'.2.2 q ?_⟩
  obtain ⟨j, w⟩ := q
  rw [jpr_mem] at hq
  unfold jst1 at hq
  by_cases hj : i = j
  · subst hj
    have hlt := (List.getElem?_eq_some_iff.mp hq).1
    rw [List.length_set] at hlt
    rw [List.getElem?_set_self hlt] at hq
    cases hq
    exact List.mem_cons_self
  · rw [List.getElem?_set_ne hj] at hq
    obtain ⟨h1, h2⟩ := jkill_get hq
    refine List.mem_cons_of_mem _ (List.mem_filter.mpr ⟨jpr_mem.mpr h1, ?_⟩)
    simp only [Bool.and_eq_true, Bool.not_eq_true', beq_eq_false_iff_ne, ne_eq, Bool.and_eq_false_iff]
    refine ⟨fun z => hj z.symm, ?_⟩
    by_cases hz : j + 1 = i
    · exact Or.inr (fun q => h2 ⟨hz, q⟩)
    · exact Or.inl hz
theorem jLR.st0 {ls ls' : Array Slot} {nL : Nat} {L : jL} {i : Nat} {v : Value} (h : jLR ls nL L) (h' : lv_has ls' nL ((i, v) :: (jpr L).filter (fun q => !(q.1 == i) && !(q.1 + 1 == i && q.2.category == 2)))) : jLR ls' nL ((jkill L i).set i none) := by
  refine ⟨by simp [jkill_length, h.1], h'.1, h'.2.1, fun q hq => h'.2.2 q ?_⟩
  obtain ⟨j, w⟩ := q
  rw [jpr_mem] at hq
  by_cases hj : i = j
  · subst hj
    have hlt := (List.getElem?_eq_some_iff.mp hq).1
    rw [List.length_set] at hlt
    rw [List.getElem?_set_self hlt] at hq
    cases hq
  · rw [List.getElem?_set_ne hj] at hq
    obtain ⟨h1, h2⟩ := jkill_get hq
    refine List.mem_cons_of_mem _ (List.mem_filter.mpr ⟨jpr_mem.mpr h1, ?_⟩)
    simp only [Bool.and_eq_true, Bool.not_eq_true', beq_eq_false_iff_ne, ne_eq, Bool.and_eq_false_iff]
    refine ⟨fun z => hj z.symm, ?_⟩
    by_cases hz : j + 1 = i
    · exact Or.inr (fun q => h2 ⟨hz, q⟩)
    · exact Or.inl hz
theorem jLR.st2 {ls ls' : Array Slot} {nL : Nat} {L : jL} {i : Nat} {v : Value} (h : jLR ls nL L) (h' : lv_has ls' nL ((i, v) :: (jpr L).filter (fun q => !(q.1 == i) && (!(q.1 == i + 1) && !(q.1 + 1 == i && q.2.category == 2))))) : jLR ls' nL (jst2 L i v) := by
  refine ⟨by simp [jst2, jkill_length, h.1], h'.1, h'.2.1, fun q hq => h'.2.2 q ?_⟩
  obtain ⟨j, w⟩ := q
  rw [jpr_mem] at hq
  unfold jst2 at hq
  by_cases hj1 : i + 1 = j
  · subst hj1
    have hlt := (List.getElem?_eq_some_iff.mp hq).1
    rw [List.length_set] at hlt
    rw [List.getElem?_set_self hlt] at hq
    cases hq
  rw [List.getElem?_set_ne hj1] at hq
  by_cases hj : i = j
  · subst hj
    have hlt := (List.getElem?_eq_some_iff.mp hq).1
    rw [List.length_set] at hlt
    rw [List.getElem?_set_self hlt] at hq
    cases hq
    exact List.mem_cons_self
  · rw [List.getElem?_set_ne hj] at hq
    obtain ⟨h1, h2⟩ := jkill_get hq
    refine List.mem_cons_of_mem _ (List.mem_filter.mpr ⟨jpr_mem.mpr h1, ?_⟩)
    simp only [Bool.and_eq_true, Bool.not_eq_true', beq_eq_false_iff_ne, ne_eq, Bool.and_eq_false_iff]
    refine ⟨fun z => hj z.symm, fun z => hj1 z.symm, ?_⟩
    by_cases hz : j + 1 = i
    · exact Or.inr (fun q => h2 ⟨hz, q⟩)
    · exact Or.inl hz
theorem jfits_spec {ty : FieldType} {v : Value} (h : jfits ty v = true) : narrow ty v = v ∧ fits ty v = true := by
  unfold jfits at h
  split at h <;> try (exact ⟨rfl, rfl⟩)
  · next x =>
    simp only [Bool.or_eq_true, beq_iff_eq] at h
    rcases h with rfl | rfl
    · exact ⟨by decide, by decide⟩
    · exact ⟨by decide, by decide⟩
  · next x =>
    simp only [beq_iff_eq] at h
    subst h
    exact ⟨by decide, by decide⟩
  · next x =>
    simp only [Bool.and_eq_true, beq_iff_eq, decide_eq_true_eq] at h
    exact ⟨by simp only [narrow]; rw [h.1], by simp [fits, h.2.1, h.2.2]⟩
  · cases h
