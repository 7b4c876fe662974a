/-! the reference's constructor -/
def mdL (a : Nat) (H : Nat → Int32) : List jC := [(12, 101, jfl9 (jdf 12) [.int 0, .ref (a + 1), .int 0, .ref (a + 2), .ref (a + 3), .ref (a + 4), .ref (a + 5), .ref (a + 6), .int 0, .int 0, .ref (a + 7), .ref (a + 8), .ref (a + 9), .int 0, .int 0, .int 0, .int 0, .int 0, .int 0, .int 0, .int 0, .ref (a + 10), .ref (a + 11), .ref (a + 12), .ref (a + 13), .ref (a + 14), .ref (a + 15), .ref (a + 16), .ref (a + 17), .int 0, .int 0, .int 0, .int 0, .int 0, .int 0, .ref (a + 18), .int 0, .int 0, .int 0, .int 0, .int 0, .int 0, .ref (a + 19), .ref (a + 20), .ref (a + 21), .ref (a + 22), .ref (a + 23), .ref (a + 24), .ref (a + 25), .ref (a + 26), .ref (a + 27), .ref (a + 28), .ref (a + 29), .ref (a + 30), .ref (a + 31), .ref (a + 32), .ref (a + 33), .ref (a + 34), .ref (a + 35), .ref (a + 36), .ref (a + 37), .ref (a + 38), .ref (a + 39), .ref (a + 40), .int 0, .int 0, .int 0, .int 0, .int 0, .int 0, .int 0, .int 0, .int 0, .int 0, .int 0, .ref (a + 41), .ref (a + 42), .ref (a + 43), .ref (a + 44), .ref (a + 45), .int 0, .int 0, .int 0, .int 0, .int 0, .int 0, .int 0, .int 0, .int 0, .ref (a + 46), .ref (a + 47), .ref (a + 48), .ref (a + 49), .ref (a + 50), .ref (a + 51), .ref (a + 52), .ref (a + 53), .ref (a + 54), .ref (a + 55), .ref (a + 56), .ref (a + 57)]), (11, 6, jfl9 (jdf 11) [.null, .null, .null, .null, .null, .int 0]), z22 1024, z20 64, z20 64, z20 64, (20, 256, fun i => .int (H i)), z22 2000, z22 2000, z22 16, z20 1024, z20 1024, z20 1024, z20 1024, z20 1024, z20 1024, z20 1024, z20 1024, z20 6, z20 8, z20 8, z20 8, z20 8, z20 8, z20 8, z20 48, z20 8, z20 64, z20 64, z20 64, z20 64, z20 8, z20 32, z20 32, z20 400, z20 400, z20 400, z20 400, z20 400, z20 400, z23 400, z20 435870, z20 1002, z20 1002, z20 1002, z20 1002, z20 40, z20 40, z20 40, z20 40, z20 40, z20 40, z20 8, z20 8, z23 6400, z23 80, z20 6400, z20 6400]
theorem updI {W : Nat → Int32} {q : Nat} {v : Int32} : updV (fun i => Value.int (W i)) q (.int v) = fun i => Value.int (if i = q then v else W i) := by
  funext i
  unfold updV
  split <;> rfl
theorem s174 {A : Nat → Nat} {d : Nat} {as : List Value} {σ : jS} : jcall A jcode (d + 1) 174 as σ = jflt as σ := by
  unfold jcall
  rw [if_pos (show 174 = jFI from rfl)]
theorem na174 : jna 174 = 1 := by decide +kernel
theorem ow174 : jow 174 = 11 := by decide +kernel
theorem md_step {A : Nat → Nat} {d a n k : Nat} {h : Nat → Option jC} {H : Nat → Int32} (hk : k < 256) :
    M289 A d 492 [some (.ref a), some (.int (nI k))] [] (jB h a (mdL a H) n) = M289 A d 492 [some (.ref a), some (.int (nI (k + 1)))] [] (jB h a (mdL a (fun i => if i = k then -1 else H i)) n) := by
  have k1 : ¬ (256 : Int32) ≤ nI k := by rw [show (256 : Int32) = nI 256 by decide]; exact nI_ge hk (by omega)
  have k3 : (nI k).toNatClampNeg = k := nI_clamp (by omega)
  have k4 : 0 ≤ nI k := nI_pos' (by omega)
  rw [r289_492]
  simp [r289_493, r289_496, r289_499, r289_500, r289_503, r289_504, r289_505, r289_506, r289_509, ag_nx, ag_dn, ag_no, ag_if, jbr1, jbr2, jc1, jc2, jnul, jld, jsto, jstoL, jst1, jst2, jkill, jinc, jbI, jbL, jbS, juI, jl2i, jcmp, jisR, jisI, jisL, jgtx, jtln, jtch, jret, jretv, jdup, jpop, jobj, jmm, jcat, Value.category, jinv, jrcv, jthr, jhd, jnewa, jnewc, jput, jget, B_get, B_get0, B_set, B_set0, B_new, B_top, fl_upd, fl_get, z20_e, z21_e, z22_e, z23_e, z24_e, Nat.add_assoc, jaast, jlen, List.set_cons_zero, List.set_cons_succ, fits_i, fits_l, fits_r, fits_o, fits_z0, fits_z1, fits_n, fits_m, jald, jast, jgI, jgL, jgB, mdL, k1, k3, k4, hk, updI, nI_1]
def mdH (k : Nat) : Nat → Int32 := fun i => if i < k then -1 else 0
theorem mdH_s {k : Nat} : (fun i => if i = k then -1 else mdH k i) = mdH (k + 1) := by
  funext i
  unfold mdH
  by_cases h1 : i = k
  · subst h1; simp
  · by_cases h2 : i < k
    · simp [h1, h2, show i < k + 1 by omega]
    · simp [h1, h2, show ¬ i < k + 1 by omega]
theorem md_loop {A : Nat → Nat} {d a n : Nat} {h : Nat → Option jC} : ∀ k, k ≤ 256 → M289 A d 492 [some (.ref a), some (.int (nI 0))] [] (jB h a (mdL a (mdH 0)) n) = M289 A d 492 [some (.ref a), some (.int (nI k))] [] (jB h a (mdL a (mdH k)) n) := by
  intro k
  induction k with
  | zero => intro _; rfl
  | succ k ih =>
    intro hk
    rw [ih (by omega), md_step (by omega), mdH_s]
def kModel (a : Nat) : List jC := mdL a (mdH 256)
set_option maxRecDepth 100000 in
set_option maxHeartbeats 4000000 in
theorem sModel {A : Nat → Nat} {d a n : Nat} {h : Nat → Option jC} : jcall A jcode (d + 2) 289 [.ref a] (jB h a [(12, 101, jfl9 (jdf 12) (jdl 12 101))] n) = some (.inl none, jB h a (kModel a) (n + 476338)) := by
  have e := md_loop (A := A) (d := d + 1) (a := a) (n := n + 476338) (h := h) 256 (Nat.le_refl _)
  have e2 : M289 A (d + 1) 492 [some (.ref a), some (.int (nI 256))] [] (jB h a (mdL a (mdH 256)) (n + 476338)) = some (.inl none, jB h a (kModel a) (n + 476338)) := by
    have k1 : (256 : Int32) ≤ nI 256 := by decide
    rw [r289_492]
    simp [r289_493, r289_496, r289_499, r289_500, r289_503, r289_504, r289_505, r289_506, r289_509, r289_512, ag_nx, ag_dn, ag_no, ag_if, jbr1, jbr2, jc1, jc2, jnul, jld, jsto, jstoL, jst1, jst2, jkill, jinc, jbI, jbL, jbS, juI, jl2i, jcmp, jisR, jisI, jisL, jgtx, jtln, jtch, jret, jretv, jdup, jpop, jobj, jmm, jcat, Value.category, jinv, jrcv, jthr, jhd, jnewa, jnewc, jput, jget, B_get, B_get0, B_set, B_set0, B_new, B_top, fl_upd, fl_get, z20_e, z21_e, z22_e, z23_e, z24_e, Nat.add_assoc, jaast, jlen, List.set_cons_zero, List.set_cons_succ, fits_i, fits_l, fits_r, fits_o, fits_z0, fits_z1, fits_n, fits_m, jald, jast, jgI, jgL, jgB, k1, kModel]
  rw [e2] at e
  have i0 : nI 0 = 0 := by decide
  have n1 : (nI 435870).toNatClampNeg = 435870 := nI_clamp (by omega)
  have n2 : 0 ≤ nI 435870 := nI_pos' (by omega)
  have ez : ((20, 256, fun i => .int (mdH 0 i)) : jC) = z20 256 := rfl
  rw [i0] at e
  simp only [mdL, ez] at e
  simp [je289, r289_0, r289_1, r289_4, r289_5, r289_8, r289_9, r289_12, r289_15, r289_16, r289_19, r289_21, r289_24, r289_25, r289_27, r289_29, r289_32, r289_33, r289_35, r289_37, r289_40, r289_41, r289_43, r289_45, r289_48, r289_49, r289_52, r289_54, r289_57, r289_58, r289_61, r289_63, r289_66, r289_67, r289_70, r289_72, r289_75, r289_76, r289_78, r289_80, r289_83, r289_84, r289_87, r289_89, r289_92, r289_93, r289_96, r289_98, r289_101, r289_102, r289_105, r289_107, r289_110, r289_111, r289_114, r289_116, r289_119, r289_120, r289_123, r289_125, r289_128, r289_129, r289_132, r289_134, r289_137, r289_138, r289_141, r289_143, r289_146, r289_147, r289_150, r289_152, r289_155, r289_156, r289_158, r289_160, r289_163, r289_164, r289_166, r289_168, r289_171, r289_172, r289_174, r289_176, r289_179, r289_180, r289_182, r289_184, r289_187, r289_188, r289_190, r289_192, r289_195, r289_196, r289_198, r289_200, r289_203, r289_204, r289_206, r289_208, r289_211, r289_212, r289_214, r289_216, r289_219, r289_220, r289_222, r289_224, r289_227, r289_228, r289_230, r289_232, r289_235, r289_236, r289_238, r289_240, r289_243, r289_244, r289_246, r289_248, r289_251, r289_252, r289_254, r289_256, r289_259, r289_260, r289_262, r289_264, r289_267, r289_268, r289_270, r289_272, r289_275, r289_276, r289_278, r289_280, r289_283, r289_284, r289_287, r289_289, r289_292, r289_293, r289_296, r289_298, r289_301, r289_302, r289_305, r289_307, r289_310, r289_311, r289_314, r289_316, r289_319, r289_320, r289_323, r289_325, r289_328, r289_329, r289_332, r289_334, r289_337, r289_338, r289_341, r289_343, r289_346, r289_347, r289_350, r289_352, r289_355, r289_356, r289_359, r289_361, r289_364, r289_365, r289_368, r289_370, r289_373, r289_374, r289_377, r289_379, r289_382, r289_383, r289_386, r289_388, r289_391, r289_392, r289_394, r289_396, r289_399, r289_400, r289_402, r289_404, r289_407, r289_408, r289_410, r289_412, r289_415, r289_416, r289_418, r289_420, r289_423, r289_424, r289_426, r289_428, r289_431, r289_432, r289_434, r289_436, r289_439, r289_440, r289_442, r289_444, r289_447, r289_448, r289_450, r289_452, r289_455, r289_456, r289_459, r289_461, r289_464, r289_465, r289_467, r289_469, r289_472, r289_473, r289_476, r289_478, r289_481, r289_482, r289_485, r289_487, r289_490, r289_491, ag_nx, ag_dn, ag_no, ag_if, jbr1, jbr2, jc1, jc2, jnul, jld, jsto, jstoL, jst1, jst2, jkill, jinc, jbI, jbL, jbS, juI, jl2i, jcmp, jisR, jisI, jisL, jgtx, jtln, jtch, jret, jretv, jdup, jpop, jobj, jmm, jcat, Value.category, jinv, jrcv, jthr, jhd, jnewa, jnewc, jput, jget, B_get, B_get0, B_set, B_set0, B_new, B_top, fl_upd, fl_get, z20_e, z21_e, z22_e, z23_e, z24_e, Nat.add_assoc, jaast, jlen, List.set_cons_zero, List.set_cons_succ, fits_i, fits_l, fits_r, fits_o, fits_z0, fits_z1, fits_n, fits_m, jald, jast, jgI, jgL, jgB, ty12_1, ty12_3, ty12_4, ty12_5, ty12_6, ty12_7, ty12_10, ty12_11, ty12_12, ty12_21, ty12_22, ty12_23, ty12_24, ty12_25, ty12_26, ty12_27, ty12_28, ty12_35, ty12_42, ty12_43, ty12_44, ty12_45, ty12_46, ty12_47, ty12_48, ty12_49, ty12_50, ty12_51, ty12_52, ty12_53, ty12_54, ty12_55, ty12_56, ty12_57, ty12_58, ty12_59, ty12_60, ty12_61, ty12_62, ty12_63, ty12_75, ty12_76, ty12_77, ty12_78, ty12_79, ty12_89, ty12_90, ty12_91, ty12_92, ty12_93, ty12_94, ty12_95, ty12_96, ty12_97, ty12_98, ty12_99, ty12_100, dl12, dl11, nc_e, nf0, nf1, nf2, nf3, nf4, nf5, nf6, nf7, nf8, nf9, nf10, nf11, nf12, na174, ow174, s174, jflt, jfz, n1, n2, e]
