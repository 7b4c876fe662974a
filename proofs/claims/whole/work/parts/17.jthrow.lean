def jnames : List String := ["java/lang/RuntimeException", "java/lang/Exception"]
/-- by which entry the constructor of E names its superclass's, and its bytes -/
def jix (E : Nat) : Nat := if E = 44 then 13 else 7
def jrx (E : Nat) : ByteArray := if E = 44 then ⟨#[0x2a, 0x2b, 0xb7, 0x00, 0x0d, 0xb1]⟩ else Bundle.six
theorem jrx_ok (E : Nat) : decode (jrx E) 0 = .ok (.aload_n 0, 1) ∧ decode (jrx E) 1 = .ok (.aload_n 1, 1) ∧ decode (jrx E) 2 = .ok (.invokespecial (jix E), 3) ∧ decode (jrx E) 5 = .ok (.return_, 1) := by
  unfold jrx jix
  split
  · exact ⟨by decide +kernel, by decide +kernel, by decide +kernel, by decide +kernel⟩
  · exact ⟨by decide +kernel, by decide +kernel, by decide +kernel, by decide +kernel⟩
theorem jth41_w : (vx_atX RX10 95 (jEN 41) (jix 41) (jrx 41) jnames).all (fun w => decide (w ∈ lw_tbl) && (goodWord w || (w.onTables && w.keepsFace)) && vx_ot w) = true := by decide +kernel
theorem jth41_k : Cond.classLink RX10 91 (jEN 41) ∈ jW := jW_tw (p := 5088) (by decide +kernel) (by decide +kernel)
theorem jth41_i : Cond.initialized (jEN 41) ∈ jW := jW_tw (p := 1022) (by decide +kernel) (by decide +kernel)
theorem jth42_w : (vx_atX RX10 105 (jEN 42) (jix 42) (jrx 42) jnames).all (fun w => decide (w ∈ lw_tbl) && (goodWord w || (w.onTables && w.keepsFace)) && vx_ot w) = true := by decide +kernel
theorem jth42_k : Cond.classLink RX10 101 (jEN 42) ∈ jW := jW_tw (p := 5170) (by decide +kernel) (by decide +kernel)
theorem jth42_i : Cond.initialized (jEN 42) ∈ jW := jW_tw (p := 1023) (by decide +kernel) (by decide +kernel)
theorem jth43_w : (vx_atX RX10 322 (jEN 43) (jix 43) (jrx 43) jnames).all (fun w => decide (w ∈ lw_tbl) && (goodWord w || (w.onTables && w.keepsFace)) && vx_ot w) = true := by decide +kernel
theorem jth43_k : Cond.classLink RX10 318 (jEN 43) ∈ jW := jW_tw (p := 5198) (by decide +kernel) (by decide +kernel)
theorem jth43_i : Cond.initialized (jEN 43) ∈ jW := jW_tw (p := 1026) (by decide +kernel) (by decide +kernel)
theorem jth44_w : (vx_atX RX10 332 (jEN 44) (jix 44) (jrx 44) jnames).all (fun w => decide (w ∈ lw_tbl) && (goodWord w || (w.onTables && w.keepsFace)) && vx_ot w) = true := by decide +kernel
theorem jth44_k : Cond.classLink RX10 328 (jEN 44) ∈ jW := jW_tw (p := 5231) (by decide +kernel) (by decide +kernel)
theorem jth44_i : Cond.initialized (jEN 44) ∈ jW := jW_tw (p := 1027) (by decide +kernel) (by decide +kernel)
theorem jth45_w : (vx_atX RX10 137 (jEN 45) (jix 45) (jrx 45) jnames).all (fun w => decide (w ∈ lw_tbl) && (goodWord w || (w.onTables && w.keepsFace)) && vx_ot w) = true := by decide +kernel
theorem jth45_k : Cond.classLink RX10 133 (jEN 45) ∈ jW := jW_tw (p := 6012) (by decide +kernel) (by decide +kernel)
theorem jth45_i : Cond.initialized (jEN 45) ∈ jW := jW_tw (p := 1028) (by decide +kernel) (by decide +kernel)
theorem jEXt_ok : jEXt.all (fun q => jSRt.any (fun z => z.1 == 10 && z.2.1 == q.2.1) && ((q.1 == 91 && q.2.2.1 == 95 && q.2.2.2 == 41) || (q.1 == 101 && q.2.2.1 == 105 && q.2.2.2 == 42) || (q.1 == 318 && q.2.2.1 == 322 && q.2.2.2 == 43) || (q.1 == 328 && q.2.2.1 == 332 && q.2.2.2 == 44) || (q.1 == 133 && q.2.2.1 == 137 && q.2.2.2 == 45))) = true := by decide +kernel
/-- what a throw of the class needs of the tables -/
theorem jthw {ik is ic E : Nat} (h : (ik, is, ic, E) ∈ jEXt) : Cond.classLink RX10 ik (jEN E) ∈ jW ∧ Cond.initialized (jEN E) ∈ jW ∧ (∃ tx, (10, is, tx) ∈ jSRt) ∧ (∀ w ∈ vx_atX RX10 ic (jEN E) (jix E) (jrx E) jnames, (w ∈ jW ∨ w ∈ jV) ∧ vx_ot w = true) ∧ Bundle.fit (jEN E) = true ∧ E ∈ jEs := by
  have h1 := List.all_eq_true.mp jEXt_ok _ h
  simp only [Bool.and_eq_true, Bool.or_eq_true, beq_iff_eq] at h1
  obtain ⟨h2, h3⟩ := h1
  have hS : ∃ tx, (10, is, tx) ∈ jSRt := by
    obtain ⟨z, z1, z2⟩ := List.any_eq_true.mp h2
    simp only [Bool.and_eq_true, beq_iff_eq] at z2
    obtain ⟨a, b, tx⟩ := z
    obtain ⟨rfl, rfl⟩ := z2
    exact ⟨tx, z1⟩
  have key : ∀ (E ic : Nat), (vx_atX RX10 ic (jEN E) (jix E) (jrx E) jnames).all (fun w => decide (w ∈ lw_tbl) && (goodWord w || (w.onTables && w.keepsFace)) && vx_ot w) = true → ∀ w ∈ vx_atX RX10 ic (jEN E) (jix E) (jrx E) jnames, (w ∈ jW ∨ w ∈ jV) ∧ vx_ot w = true := by
    intro E ic hE w hw
    have g1 := List.all_eq_true.mp hE w hw
    simp only [Bool.and_eq_true, Bool.or_eq_true, decide_eq_true_eq] at g1
    obtain ⟨⟨g1, g2⟩, g3⟩ := g1
    refine ⟨?_, g3⟩
    rcases g2 with g2 | g2
    · exact Or.inl (jW_of g1 g2)
    · exact Or.inr (List.mem_filter.mpr ⟨g1, by simp only [Bool.and_eq_true]; exact g2⟩)
  rcases h3 with (((⟨⟨rfl, rfl⟩, rfl⟩ | ⟨⟨rfl, rfl⟩, rfl⟩) | ⟨⟨rfl, rfl⟩, rfl⟩) | ⟨⟨rfl, rfl⟩, rfl⟩) | ⟨⟨rfl, rfl⟩, rfl⟩
  · exact ⟨jth41_k, jth41_i, hS, key 41 95 jth41_w, by decide +kernel, by decide⟩
  · exact ⟨jth42_k, jth42_i, hS, key 42 105 jth42_w, by decide +kernel, by decide⟩
  · exact ⟨jth43_k, jth43_i, hS, key 43 322 jth43_w, by decide +kernel, by decide⟩
  · exact ⟨jth44_k, jth44_i, hS, key 44 332 jth44_w, by decide +kernel, by decide⟩
  · exact ⟨jth45_k, jth45_i, hS, key 45 137 jth45_w, by decide +kernel, by decide⟩
