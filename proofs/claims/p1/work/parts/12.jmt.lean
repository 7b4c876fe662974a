def jEXt : List (Nat × Nat × Nat × Nat) := [(91, 93, 95, 41), (91, 212, 95, 41), (91, 235, 95, 41), (91, 245, 95, 41), (91, 258, 95, 41), (91, 279, 95, 41), (101, 103, 105, 42), (101, 162, 105, 42), (101, 168, 105, 42), (101, 173, 105, 42), (101, 210, 105, 42), (101, 226, 105, 42), (101, 247, 105, 42), (101, 249, 105, 42), (101, 277, 105, 42), (101, 287, 105, 42), (133, 135, 137, 45), (133, 205, 137, 45), (318, 320, 322, 43), (318, 323, 322, 43), (328, 330, 332, 44)]
/-! what a row of a method's table must have to do with the class file's bytes -/
def jhas3 (l : List (Nat × Nat × Nat × Nat)) (a b c : Nat) : Bool := l.any fun q => q.1 == a && q.2.1 == b && q.2.2.1 == c
def jhas2 (l : List (Nat × Nat × Nat)) (a b : Nat) : Bool := l.any fun q => q.1 == a && q.2.1 == b
/-- instructions that stand in the table as they are, with their lengths -/
def jsl : Instr → Nat
  | .aload _ => 2 | .iload _ => 2 | .lload _ => 2 | .astore _ => 2 | .istore _ => 2 | .lstore _ => 2
  | .aload_n _ => 1 | .iload_n _ => 1 | .lload_n _ => 1 | .astore_n _ => 1 | .istore_n _ => 1 | .lstore_n _ => 1
  | .iinc _ _ => 3 | .iconst _ => 1 | .lconst _ => 1 | .aconst_null => 1
  | .iaload => 1 | .laload => 1 | .baload => 1 | .aaload => 1 | .iastore => 1 | .lastore => 1 | .bastore => 1 | .aastore => 1 | .arraylength => 1
  | .newarray .int => 2 | .newarray .long => 2 | .newarray .byte => 2 | .newarray .boolean => 2
  | .dup => 1 | .dup2 => 1 | .pop => 1
  | .iadd => 1 | .isub => 1 | .imul => 1 | .iand => 1 | .ior => 1 | .ixor => 1 | .ishl => 1 | .ishr => 1 | .iushr => 1 | .idiv => 1 | .irem => 1
  | .land => 1 | .lor => 1 | .lshl => 1 | .lushr => 1 | .lcmp => 1 | .ineg => 1 | .i2l => 1 | .i2b => 1 | .i2c => 1 | .l2i => 1
  | .ireturn => 1 | .lreturn => 1 | .areturn => 1 | .return_ => 1 | .athrow => 1
  | _ => 0
def jmt (own : Nat) (ini : Bool) (pc n : Nat) (raw res : Instr) : Bool := match raw, res with
  | .getfield i, .getfield k => n == 3 && jhas3 jFLt own i k && decide (k / 256 < 13) && decide (k % 256 < jNt (k / 256))
  | .putfield i, .putfield k => n == 3 && jhas3 jFLt own i k && decide (k / 256 < 13) && decide (k % 256 < jNt (k / 256)) && (!(jTX (k / 256) (k % 256)).2.2.2 || (ini && decide ((jTX (k / 256) (k % 256)).1 = jRN own)))
  | .getfield i, .fload f => n == 3 && jhas3 jFTt own i f && decide (f < 2)
  | .arraylength, .fstore _ => n == 1
  | .baload, .dload _ => n == 1
  | .getstatic i, .getstatic f => n == 3 && jhas3 jGSt own i f && decide (f < 2)
  | .ldc i, .ldc_w t => n == 2 && jhas3 jTXt own i t
  | .goto o, .goto t => n == 3 && decide ((pc : Int) + o = t) && decide (0 ≤ t)
  | .ifnull o, .ifnull t => n == 3 && decide ((pc : Int) + o = t) && decide (0 ≤ t)
  | .ifnonnull o, .ifnonnull t => n == 3 && decide ((pc : Int) + o = t) && decide (0 ≤ t)
  | .ifCond q o, .ifCond q' t => n == 3 && decide (q = q') && decide ((pc : Int) + o = t) && decide (0 ≤ t)
  | .if_icmp q o, .if_icmp q' t => n == 3 && decide (q = q') && decide ((pc : Int) + o = t) && decide (0 ≤ t)
  | .tableswitch d lo hi os, .tableswitch d' lo' hi' ts => decide ((pc : Int) + d = d') && decide (0 ≤ d') && decide (lo = lo') && decide (hi = hi') && decide (ts = os.map (fun o => (pc : Int) + o)) && ts.all (fun t => decide (0 ≤ t))
  | .lookupswitch d os, .lookupswitch d' ts => decide ((pc : Int) + d = d') && decide (0 ≤ d') && decide (ts.toList = os.toList.map (fun q => (q.1, (pc : Int) + q.2))) && ts.toList.all (fun q => decide (0 ≤ q.2)) && (os.toList.zip (os.toList.drop 1)).all (fun (a, next) => a.1 < next.1)
  | .invokevirtual i, .invokevirtual k => n == 3 && jhas3 jMLt own i k && jkd k == 1
  | .invokestatic i, .invokestatic k => n == 3 && jhas3 jMLt own i k && jkd k == 0
  | .invokespecial i, .invokespecial k => n == 3 && (jhas3 jMLt own i k || (own == 12 && i == 633 && k == 174)) && jkd k == 2
  | .invokespecial i, .monitorenter => n == 3 && jhas2 jOBt own i
  | .invokestatic i, .dadd => n == 3 && jhas2 jMNt own i
  | .invokestatic i, .dsub => n == 3 && jhas2 jMXt own i
  | .invokestatic i, .dmul => n == 3 && jhas2 jCPt own i
  | .new i, .new k => n == 3 && jhas3 jCLt own i k && decide (k < 13)
  | .anewarray i, .anewarray _ => n == 3 && jhas2 jANt own i
  | .ldc i, .ldc v => n == 2 && jhas3 jKIt own i v
  | .ldc_w i, .ldc v => n == 3 && jhas3 jKIt own i v
  | .ldc2_w i, .ldc2_w v => n == 3 && jhas3 jKLt own i v
  | .bipush a, .bipush b => n == 2 && decide (a = b) && decide ((Int8.ofInt a).toInt32 = Int32.ofInt a)
  | .sipush a, .sipush b => n == 3 && decide (a = b) && decide ((Int16.ofInt a).toInt32 = Int32.ofInt a)
  | a, b => decide (a = b) && decide (jsl a = n) && decide (0 < n)
/-- 'throw new E("text")' at pc -/
def jthrB (own : Nat) (bytes : ByteArray) (pc E : Nat) : Bool := own == 10 && match decode bytes pc, decode bytes (pc + 3), decode bytes (pc + 4) with
  | .ok (.new ik, 3), .ok (.dup, 1), .ok (.ldc is, 2) => (match decode bytes (pc + 6), decode bytes (pc + 9) with
    | .ok (.invokespecial ic, 3), .ok (.athrow, 1) => jEXt.any (fun q => q.1 == ik && q.2.1 == is && q.2.2.1 == ic && q.2.2.2 == E)
    | _, _ => false)
  | .ok (.new ik, 3), .ok (.dup, 1), .ok (.ldc_w is, 3) => (match decode bytes (pc + 7), decode bytes (pc + 10) with
    | .ok (.invokespecial ic, 3), .ok (.athrow, 1) => jEXt.any (fun q => q.1 == ik && q.2.1 == is && q.2.2.1 == ic && q.2.2.2 == E)
    | _, _ => false)
  | _, _, _ => false
def jchk (own : Nat) (ini : Bool) (bytes : ByteArray) (q : Nat × Instr × Nat) : Bool := match q.2.1 with
  | .jsr E => jthrB own bytes q.1 E.toNat
  | _ => match decode bytes q.1 with
    | .ok (raw, n) => n == q.2.2 && jmt own ini q.1 n raw q.2.1
    | _ => false
def jfind : List (Nat × Instr × Nat) → Nat → Option (Instr × Nat)
  | [], _ => none
  | (p, i, n) :: r, q => if q = p then some (i, n) else jfind r q
theorem jfind_mem {l : List (Nat × Instr × Nat)} {q : Nat} {i : Instr} {n : Nat} (h : jfind l q = some (i, n)) : (q, i, n) ∈ l := by
  induction l with
  | nil => cases h
  | cons a l ih =>
    obtain ⟨p, j, k⟩ := a
    unfold jfind at h
    split at h
    · next e =>
      subst e
      cases h
      exact List.mem_cons_self
    · exact List.mem_cons_of_mem _ (ih h)
theorem jtb_in (k : Nat) : ∀ w ∈ jtb k, w ∈ lw_tbl := by
  intro w hw
  unfold jtb at hw
  simp only [lw_tbl, tables_1, List.mem_append]
  split at hw <;> simp only [hw, true_or, or_true]
theorem jtw_in {p : Nat} {w : Cond} (h : jtw p = some w) : w ∈ lw_tbl := jtb_in _ w (List.mem_of_getElem? h)
theorem jW_tw {p : Nat} {w : Cond} (h : jtw p = some w) (g : goodWord w = true) : w ∈ jW := jW_of (jtw_in h) g
theorem jhas3_mem {l : List (Nat × Nat × Nat × Nat)} {a b c : Nat} (h : jhas3 l a b c = true) : ∃ p, (a, b, c, p) ∈ l := by
  unfold jhas3 at h
  obtain ⟨q, h1, h2⟩ := List.any_eq_true.mp h
  simp only [Bool.and_eq_true, beq_iff_eq] at h2
  obtain ⟨⟨rfl, rfl⟩, rfl⟩ := h2
  exact ⟨q.2.2.2, h1⟩
theorem jhas2_mem {l : List (Nat × Nat × Nat)} {a b : Nat} (h : jhas2 l a b = true) : ∃ p, (a, b, p) ∈ l := by
  unfold jhas2 at h
  obtain ⟨q, h1, h2⟩ := List.any_eq_true.mp h
  simp only [Bool.and_eq_true, beq_iff_eq] at h2
  obtain ⟨rfl, rfl⟩ := h2
  exact ⟨q.2.2, h1⟩
theorem jFLt_all : jFLt.all (fun q => decide (jtw q.2.2.2 = some (Cond.fieldLink (jRN q.1) q.2.1 (jTX (q.2.2.1 / 256) (q.2.2.1 % 256)).1 (jTX (q.2.2.1 / 256) (q.2.2.1 % 256)).2.1 (jTX (q.2.2.1 / 256) (q.2.2.1 % 256)).2.2.1)) && goodWord (Cond.fieldLink (jRN q.1) q.2.1 (jTX (q.2.2.1 / 256) (q.2.2.1 % 256)).1 (jTX (q.2.2.1 / 256) (q.2.2.1 % 256)).2.1 (jTX (q.2.2.1 / 256) (q.2.2.1 % 256)).2.2.1)) = true := by
  unfold jFLt
  simp only [List.all_append, Bool.and_eq_true]
  exact ⟨jFLt_ok0, jFLt_ok1, jFLt_ok2, jFLt_ok3, jFLt_ok4, jFLt_ok5, jFLt_ok6, jFLt_ok7, jFLt_ok8, jFLt_ok9, jFLt_ok10, jFLt_ok11, jFLt_ok12, jFLt_ok13, jFLt_ok14, jFLt_ok15, jFLt_ok16⟩
theorem jFLt_w {a b c : Nat} (h : jhas3 jFLt a b c = true) : Cond.fieldLink (jRN a) b (jTX (c / 256) (c % 256)).1 (jTX (c / 256) (c % 256)).2.1 (jTX (c / 256) (c % 256)).2.2.1 ∈ jW := by
  obtain ⟨p, hp⟩ := jhas3_mem h
  have h1 := List.all_eq_true.mp jFLt_all _ hp
  simp only [Bool.and_eq_true, decide_eq_true_eq] at h1
  exact jW_tw h1.1 h1.2
theorem jMLt_all : jMLt.all (fun q => decide (jtw q.2.2.2 = some (Cond.methodLink (jRN q.1) q.2.1 (jy q.2.2.1))) && goodWord (Cond.methodLink (jRN q.1) q.2.1 (jy q.2.2.1))) = true := by
  unfold jMLt
  simp only [List.all_append, Bool.and_eq_true]
  exact ⟨jMLt_ok0, jMLt_ok1, jMLt_ok2, jMLt_ok3, jMLt_ok4, jMLt_ok5, jMLt_ok6, jMLt_ok7, jMLt_ok8, jMLt_ok9, jMLt_ok10, jMLt_ok11, jMLt_ok12, jMLt_ok13, jMLt_ok14, jMLt_ok15, jMLt_ok16, jMLt_ok17⟩
theorem jMLt_w {a b c : Nat} (h : jhas3 jMLt a b c = true) : Cond.methodLink (jRN a) b (jy c) ∈ jW := by
  obtain ⟨p, hp⟩ := jhas3_mem h
  have h1 := List.all_eq_true.mp jMLt_all _ hp
  simp only [Bool.and_eq_true, decide_eq_true_eq] at h1
  exact jW_tw h1.1 h1.2
theorem jCLt_all : jCLt.all (fun q => decide (jtw q.2.2.2 = some (Cond.classLink (jRN q.1) q.2.1 (jRN q.2.2.1))) && goodWord (Cond.classLink (jRN q.1) q.2.1 (jRN q.2.2.1))) = true := jCLt_ok0
theorem jCLt_w {a b c : Nat} (h : jhas3 jCLt a b c = true) : Cond.classLink (jRN a) b (jRN c) ∈ jW := by
  obtain ⟨p, hp⟩ := jhas3_mem h
  have h1 := List.all_eq_true.mp jCLt_all _ hp
  simp only [Bool.and_eq_true, decide_eq_true_eq] at h1
  exact jW_tw h1.1 h1.2
theorem jOBt_all : jOBt.all (fun q => decide (jtw q.2.2 = some (Cond.methodLink (jRN q.1) q.2.1 Lib.objectInit)) && goodWord (Cond.methodLink (jRN q.1) q.2.1 Lib.objectInit)) = true := jOBt_ok0
theorem jOBt_w {a b : Nat} (h : jhas2 jOBt a b = true) : Cond.methodLink (jRN a) b Lib.objectInit ∈ jW := by
  obtain ⟨p, hp⟩ := jhas2_mem h
  have h1 := List.all_eq_true.mp jOBt_all _ hp
  simp only [Bool.and_eq_true, decide_eq_true_eq] at h1
  exact jW_tw h1.1 h1.2
theorem jMNt_all : jMNt.all (fun q => decide (jtw q.2.2 = some (Cond.methodLink (jRN q.1) q.2.1 Lib.Math.min.name)) && goodWord (Cond.methodLink (jRN q.1) q.2.1 Lib.Math.min.name)) = true := jMNt_ok0
theorem jMNt_w {a b : Nat} (h : jhas2 jMNt a b = true) : Cond.methodLink (jRN a) b Lib.Math.min.name ∈ jW := by
  obtain ⟨p, hp⟩ := jhas2_mem h
  have h1 := List.all_eq_true.mp jMNt_all _ hp
  simp only [Bool.and_eq_true, decide_eq_true_eq] at h1
  exact jW_tw h1.1 h1.2
theorem jMXt_all : jMXt.all (fun q => decide (jtw q.2.2 = some (Cond.methodLink (jRN q.1) q.2.1 Lib.Math.max.name)) && goodWord (Cond.methodLink (jRN q.1) q.2.1 Lib.Math.max.name)) = true := jMXt_ok0
theorem jMXt_w {a b : Nat} (h : jhas2 jMXt a b = true) : Cond.methodLink (jRN a) b Lib.Math.max.name ∈ jW := by
  obtain ⟨p, hp⟩ := jhas2_mem h
  have h1 := List.all_eq_true.mp jMXt_all _ hp
  simp only [Bool.and_eq_true, decide_eq_true_eq] at h1
  exact jW_tw h1.1 h1.2
theorem jCPt_all : jCPt.all (fun q => decide (jtw q.2.2 = some (Cond.methodLink (jRN q.1) q.2.1 arraycopyName)) && goodWord (Cond.methodLink (jRN q.1) q.2.1 arraycopyName)) = true := jCPt_ok0
theorem jCPt_w {a b : Nat} (h : jhas2 jCPt a b = true) : Cond.methodLink (jRN a) b arraycopyName ∈ jW := by
  obtain ⟨p, hp⟩ := jhas2_mem h
  have h1 := List.all_eq_true.mp jCPt_all _ hp
  simp only [Bool.and_eq_true, decide_eq_true_eq] at h1
  exact jW_tw h1.1 h1.2
theorem jANt_all : jANt.all (fun q => decide (jtw q.2.2 = some (Cond.classLink (jRN q.1) q.2.1 RX2)) && goodWord (Cond.classLink (jRN q.1) q.2.1 RX2)) = true := jANt_ok0
theorem jANt_w {a b : Nat} (h : jhas2 jANt a b = true) : Cond.classLink (jRN a) b RX2 ∈ jW := by
  obtain ⟨p, hp⟩ := jhas2_mem h
  have h1 := List.all_eq_true.mp jANt_all _ hp
  simp only [Bool.and_eq_true, decide_eq_true_eq] at h1
  exact jW_tw h1.1 h1.2
theorem jKIt_all : jKIt.all (fun q => decide (jtw q.2.2.2 = some (Cond.constant (jRN q.1) q.2.1 (nI q.2.2.1))) && goodWord (Cond.constant (jRN q.1) q.2.1 (nI q.2.2.1))) = true := jKIt_ok0
theorem jKIt_w {a b c : Nat} (h : jhas3 jKIt a b c = true) : Cond.constant (jRN a) b (nI c) ∈ jW := by
  obtain ⟨p, hp⟩ := jhas3_mem h
  have h1 := List.all_eq_true.mp jKIt_all _ hp
  simp only [Bool.and_eq_true, decide_eq_true_eq] at h1
  exact jW_tw h1.1 h1.2
theorem jKLt_all : jKLt.all (fun q => decide (jtw q.2.2.2 = some (Cond.constantLong (jRN q.1) q.2.1 (lN q.2.2.1))) && goodWord (Cond.constantLong (jRN q.1) q.2.1 (lN q.2.2.1))) = true := jKLt_ok0
theorem jKLt_w {a b c : Nat} (h : jhas3 jKLt a b c = true) : Cond.constantLong (jRN a) b (lN c) ∈ jW := by
  obtain ⟨p, hp⟩ := jhas3_mem h
  have h1 := List.all_eq_true.mp jKLt_all _ hp
  simp only [Bool.and_eq_true, decide_eq_true_eq] at h1
  exact jW_tw h1.1 h1.2
theorem jw_objI : Cond.instanceMethod Lib.objectInit ∈ jW := jW_tw (p := 1036) (by decide +kernel) (by decide +kernel)
theorem jw_objC : Cond.code Lib.objectInit ⟨#[0xb1]⟩ 1 none ∈ jW := jW_tw (p := 1037) (by decide +kernel) (by decide +kernel)
theorem jw_minS : Cond.static Lib.Math.min.name ∈ jW := jW_tw (p := 3175) (by decide +kernel) (by decide +kernel)
theorem jw_maxS : Cond.static Lib.Math.max.name ∈ jW := jW_tw (p := 1136) (by decide +kernel) (by decide +kernel)
theorem jw_math : Cond.initialized "java/lang/Math" ∈ jW := jW_tw (p := 1009) (by decide +kernel) (by decide +kernel)
theorem jw_minC : Cond.code Lib.Math.min.name Lib.Math.min.code 2 (some .int) ∈ jW := jW_tw (p := 3176) (by decide +kernel) (by decide +kernel)
theorem jw_maxC : Cond.code Lib.Math.max.name Lib.Math.max.code 2 (some .int) ∈ jW := jW_tw (p := 1137) (by decide +kernel) (by decide +kernel)
theorem jw_cpN : Cond.native arraycopyName ∈ jW := jW_tw (p := 6103) (by decide +kernel) (by decide +kernel)
theorem jw_cpS : Cond.static arraycopyName ∈ jW := jW_tw (p := 6102) (by decide +kernel) (by decide +kernel)
theorem jw_sys : Cond.initialized "java/lang/System" ∈ jW := jW_tw (p := 1029) (by decide +kernel) (by decide +kernel)
theorem jw_aint : Cond.arrayClass .int ∈ jW := jW_tw (p := 1122) (by decide +kernel) (by decide +kernel)
theorem jw_along : Cond.arrayClass .long ∈ jW := jW_tw (p := 1121) (by decide +kernel) (by decide +kernel)
theorem jw_abyte : Cond.arrayClass .byte ∈ jW := jW_tw (p := 1120) (by decide +kernel) (by decide +kernel)
theorem jw_aboolean : Cond.arrayClass .boolean ∈ jW := jW_tw (p := 3118) (by decide +kernel) (by decide +kernel)
theorem jw_ins0 : Cond.instantiable RX0 13 ∈ jW := jW_tw (p := 3067) (by decide +kernel) (by decide +kernel)
theorem jw_ini0 : Cond.initialized RX0 ∈ jW := jW_tw (p := 1016) (by decide +kernel) (by decide +kernel)
theorem jw_ins1 : Cond.instantiable RX1 5 ∈ jW := jW_tw (p := 1149) (by decide +kernel) (by decide +kernel)
theorem jw_ini1 : Cond.initialized RX1 ∈ jW := jW_tw (p := 1010) (by decide +kernel) (by decide +kernel)
theorem jw_ins2 : Cond.instantiable RX2 15 ∈ jW := jW_tw (p := 2114) (by decide +kernel) (by decide +kernel)
theorem jw_ini2 : Cond.initialized RX2 ∈ jW := jW_tw (p := 1014) (by decide +kernel) (by decide +kernel)
theorem jw_ins3 : Cond.instantiable RX3 3 ∈ jW := jW_tw (p := 1130) (by decide +kernel) (by decide +kernel)
theorem jw_ini3 : Cond.initialized RX3 ∈ jW := jW_tw (p := 1008) (by decide +kernel) (by decide +kernel)
theorem jw_ins4 : Cond.instantiable RX4 10 ∈ jW := jW_tw (p := 2027) (by decide +kernel) (by decide +kernel)
theorem jw_ini4 : Cond.initialized RX4 ∈ jW := jW_tw (p := 1011) (by decide +kernel) (by decide +kernel)
theorem jw_ins5 : Cond.instantiable RX5 18 ∈ jW := jW_tw (p := 1124) (by decide +kernel) (by decide +kernel)
theorem jw_ini5 : Cond.initialized RX5 ∈ jW := jW_tw (p := 1007) (by decide +kernel) (by decide +kernel)
theorem jw_ins6 : Cond.instantiable RX6 7 ∈ jW := jW_tw (p := 1039) (by decide +kernel) (by decide +kernel)
theorem jw_ini6 : Cond.initialized RX6 ∈ jW := jW_tw (p := 1002) (by decide +kernel) (by decide +kernel)
theorem jw_ins7 : Cond.instantiable RX7 8 ∈ jW := jW_tw (p := 2066) (by decide +kernel) (by decide +kernel)
theorem jw_ini7 : Cond.initialized RX7 ∈ jW := jW_tw (p := 1013) (by decide +kernel) (by decide +kernel)
theorem jw_ins8 : Cond.instantiable RX8 16 ∈ jW := jW_tw (p := 3005) (by decide +kernel) (by decide +kernel)
theorem jw_ini8 : Cond.initialized RX8 ∈ jW := jW_tw (p := 1015) (by decide +kernel) (by decide +kernel)
theorem jw_ins9 : Cond.instantiable RX9 13 ∈ jW := jW_tw (p := 2064) (by decide +kernel) (by decide +kernel)
theorem jw_ini9 : Cond.initialized RX9 ∈ jW := jW_tw (p := 1012) (by decide +kernel) (by decide +kernel)
theorem jw_ins10 : Cond.instantiable RX10 14 ∈ jW := jW_tw (p := 1031) (by decide +kernel) (by decide +kernel)
theorem jw_ini10 : Cond.initialized RX10 ∈ jW := jW_tw (p := 1001) (by decide +kernel) (by decide +kernel)
theorem jw_ins11 : Cond.instantiable RX11 6 ∈ jW := jW_tw (p := 9157) (by decide +kernel) (by decide +kernel)
theorem jw_ini11 : Cond.initialized RX11 ∈ jW := jW_tw (p := 1021) (by decide +kernel) (by decide +kernel)
theorem jw_ins12 : Cond.instantiable RX12 101 ∈ jW := jW_tw (p := 7185) (by decide +kernel) (by decide +kernel)
theorem jw_ini12 : Cond.initialized RX12 ∈ jW := jW_tw (p := 1017) (by decide +kernel) (by decide +kernel)
theorem jw_ins {k : Nat} (h : k < 13) : Cond.instantiable (jRN k) (jNf k) ∈ jW := by
  match k, h with
  | 0, _ => exact jw_ins0
  | 1, _ => exact jw_ins1
  | 2, _ => exact jw_ins2
  | 3, _ => exact jw_ins3
  | 4, _ => exact jw_ins4
  | 5, _ => exact jw_ins5
  | 6, _ => exact jw_ins6
  | 7, _ => exact jw_ins7
  | 8, _ => exact jw_ins8
  | 9, _ => exact jw_ins9
  | 10, _ => exact jw_ins10
  | 11, _ => exact jw_ins11
  | 12, _ => exact jw_ins12
theorem jw_ini {k : Nat} (h : k < 13) : Cond.initialized (jRN k) ∈ jW := by
  match k, h with
  | 0, _ => exact jw_ini0
  | 1, _ => exact jw_ini1
  | 2, _ => exact jw_ini2
  | 3, _ => exact jw_ini3
  | 4, _ => exact jw_ini4
  | 5, _ => exact jw_ini5
  | 6, _ => exact jw_ini6
  | 7, _ => exact jw_ini7
  | 8, _ => exact jw_ini8
  | 9, _ => exact jw_ini9
  | 10, _ => exact jw_ini10
  | 11, _ => exact jw_ini11
  | 12, _ => exact jw_ini12
