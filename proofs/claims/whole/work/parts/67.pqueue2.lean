/-! queue: a signal's name, in any state -/
theorem lk2 : Op.lookupswitch.offset [(0, 76), (1, 84)] 92 2 = 92 := by decide
set_option maxRecDepth 100000 in
set_option maxHeartbeats 4000000 in
theorem st10n {A : Nat → Nat} {d b n s0 L i : Nat} {h : Nat → Option jC} {l : List jC} {xs : Nat → Int32} {x5 x6 x7 : Option Value} {G F : List Value} {O : Nat → Int64} (hs0 : s0 < b) (hs : h s0 = some (25, L, fun j => .int (xs j))) (hL : L ≤ 3072) (hi : i + 6 ≤ L) (hl : 300 ≤ l.length) (h0 : ob l 0 10 G) (h2 : ob l 241 12 F) (fo : lg l 299 = some (21, 1, fun i => .long (O i))) {W I Pl Nm : List Value} {mi k w nq nx pl u hx tx m cap c v z a ca cb cs capB capN : Nat} {p : Nat → Nat} {D' D : Nat → Int32} {H : Nat → Int64} {T Oc Om Nc Nv Qn N Z B : Nat → Int32} (h3 : xs (i + 3) = 2) (hx1 : xs (i + 2) = nI w) (hwq : w < nq) (hq8 : nq ≤ 8) (hf : fdx D' (xs (i + 1)) mi 0 = some k) (hDD : ∀ j, j < mi → D j = D' j) (g2 : fg G 2 = some (.ref (b + 2))) (g6 : fg G 6 = some (.ref (b + 57))) (g8 : fg G 8 = some (.ref (b + pl))) (g10 : fg G 10 = some (.int 1)) (hin : isIn b l W mi p D) (hI1 : ob l (p k) 2 I) (nQ : fg I 7 = some (.int (nI nq))) (n8 : fg I 8 = some (.ref (b + nx))) (fnx : lg l nx = some (20, 8, fun i => .int (Nc i)))
    (m33 : fg F 33 = some (.int 1)) (m36 : fg F 36 = some (.int (nI mi))) (m42 : fg F 42 = some (.ref (b + 260))) (f260 : lg l 260 = some (20, 8, fun i => .int (D' i))) (m49 : fg F 49 = some (.ref (b + 267))) (f267 : lg l 267 = some (20, 8, fun i => .int (Qn i))) (hQn : Qn k = nI nq) (m50 : fg F 50 = some (.ref (b + 268))) (f268 : lg l 268 = some (20, 64, fun i => .int (Nv i)))
    (hu : u ≠ 2) (hhx : hx ≠ 2) (htx : tx ≠ 2) (hpl : ob l pl 5 Pl) (p0 : fg Pl 0 = some (.ref (b + u))) (n0 : fg Nm 0 = some (.ref (b + hx))) (n1 : fg Nm 1 = some (.ref (b + tx))) (n2 : fg Nm 2 = some (.int (nI m))) (hcm : c < m) (hmc : m ≤ cap) (hcap : cap < 2 ^ 20) (hNm : ob l u 3 Nm) (fh : lg l hx = some (21, cap, fun i => .long (H i))) (ft : lg l tx = some (20, cap, fun i => .int (T i))) (f2 : lg l 2 = some (22, 12, fun i => .int (Oc i)))
    (m3 : fg F 3 = some (.ref (b + ca))) (m4 : fg F 4 = some (.ref (b + cb))) (m5 : fg F 5 = some (.ref (b + cs))) (m12 : fg F 12 = some (.ref (b + 250))) (hz : z ≤ 12) (hca : ca ≠ 250 ∧ ca ≠ 241 ∧ ca ≠ 0 ∧ ca ≠ 2 ∧ ca ≠ 299) (hcb : cb ≠ 250 ∧ cb ≠ 241 ∧ cb ≠ 0 ∧ cb ≠ 2 ∧ cb ≠ 299) (hcs : cs ≠ 241 ∧ cs ≠ 0 ∧ cs ≠ 2 ∧ cs ≠ 299) (hv : v < capN) (hN : N v = nI a) (hZ : Z v = nI z) (ha : a + z ≤ capB) (hB : capB < 2 ^ 24) (hcN : capN < 2 ^ 24) (fB : lg l ca = some (22, capB, fun i => .int (B i))) (fN : lg l cb = some (20, capN, fun i => .int (N i))) (fZ : lg l cs = some (20, capN, fun i => .int (Z i))) (f250 : lg l 250 = some (22, 16, fun i => .int (Om i))) (hb : ∀ j, j < z → (B (a + j)).toInt8.toInt32 = B (a + j))
    (hNc : Nc w = nI c) (hNv : Nv (k * 8 + w) = nI v) (hsz : spZ (bN (H c) (T c)) 12 0 0 = z) (hby : ∀ j, j < z → bN (H c) (T c) j = B (a + j)) :
    ∃ l' y5 y6, ML A (d + 60) 713 (LL s0 b i x5 x6 x7) [] (jB h b l n) = ML A (d + 60) 1284 (LL s0 b i y5 y6 x7) [] (jB h b l' n) ∧ l'.length = l.length ∧ kp [0, 2, 241, 250, 299] l l' ∧ ob l' 0 10 (G.set 3 (.int (nI z))) ∧ ob l' 241 12 ((F.set 0 (.int 0)).set 19 (.int (nI z))) ∧ ∃ (Bc Bm : Nat → Int32) (O' : Nat → Int64), lg l' 2 = some (22, 12, fun i => .int (Bc i)) ∧ lg l' 250 = some (22, 16, fun i => .int (Bm i)) ∧ (∀ j, j < z → Bc j = Bm j) ∧ lg l' 299 = some (21, 1, fun i => .long (O' i)) := by
  have i1 : nI i + 1 = nI (i + 1) := nI_add i 1
  have i2 : nI i + 2 = nI (i + 2) := nI_add i 2
  have i3 : nI i + 3 = nI (i + 3) := nI_add i 3
  have i4 : nI i + 4 = nI (i + 4) := nI_add i 4
  have i5 : nI i + 5 = nI (i + 5) := nI_add i 5
  have j1 : (nI (i + 1)).toNatClampNeg = i + 1 := nI_clamp (by omega)
  have j2 : (nI (i + 2)).toNatClampNeg = i + 2 := nI_clamp (by omega)
  have j3 : (nI (i + 3)).toNatClampNeg = i + 3 := nI_clamp (by omega)
  have j4 : (nI (i + 4)).toNatClampNeg = i + 4 := nI_clamp (by omega)
  have j5 : (nI (i + 5)).toNatClampNeg = i + 5 := nI_clamp (by omega)
  have p1 : 0 ≤ nI (i + 1) := nI_pos' (by omega)
  have p2 : 0 ≤ nI (i + 2) := nI_pos' (by omega)
  have p3 : 0 ≤ nI (i + 3) := nI_pos' (by omega)
  have p4 : 0 ≤ nI (i + 4) := nI_pos' (by omega)
  have p5 : 0 ≤ nI (i + 5) := nI_pos' (by omega)
  have z1 : i + 1 < L := by omega
  have z2 : i + 2 < L := by omega
  have z3 : i + 3 < L := by omega
  have z4 : i + 4 < L := by omega
  have z5 : i + 5 < L := by omega
  have hF : F.length = 101 := h2.2
  have w0 : lg l 0 = some (10, 14, jfl9 (jdf 10) G) := h0.1
  have w1 : lg l 241 = some (12, 101, jfl9 (jdf 12) F) := h2.1
  have u0 : 0 < l.length := by omega
  have u1 : 241 < l.length := by omega
  have u2 : 299 < l.length := by omega
  have v0 : 0 < l.length + 1 := by omega
  have v1 : 241 < l.length + 1 := by omega
  have hG : G.length = 14 := h0.2
  have w57 : lg l 57 = some (9, 13, jfl9 (jdf 9) W) := hin.1.1
  have hm : mi ≤ 8 := hin.2.2.2.1
  have wI : lg l (p k) = some (2, 15, jfl9 (jdf 2) I) := hI1.1
  obtain ⟨-, hk, -⟩ := fdx_lt _ _ _ hf
  have b1 := s116 (A := A) (d := d + 56) (n := n) (h := h) (x := xs (i + 1)) hin
  rw [fdx_eq mi 0 (fun j hj => hDD j (by omega)), hf] at b1
  simp only [rfO] at b1
  have b2 : ∀ (l' : List jC) (n' : Nat), lg l' 241 = lg l 241 → lg l' 260 = lg l 260 → jcall A jcode (d + 59) 220 [.ref (b + 241), .int (xs (i + 1))] (jB h b l' n') = some (.inl (some (.int (nI k))), jB h b l' n') := fun l' n' e1 e2 => by
    have e3 := s220 (A := A) (d := d + 58) (b := b) (h := h) (n := n') (x := xs (i + 1)) ⟨e1.trans h2.1, h2.2⟩ m36 m42 hm (e2.trans f260)
    rw [hf] at e3
    exact e3
  have k3 : (nI k).toNatClampNeg = k := nI_clamp (by omega)
  have k4 : 0 ≤ nI k := nI_pos' (by omega)
  have k5 : k < 8 := by omega
  have k6 : ¬ nI k < 0 := nI_pos (by omega)
  have t3 : (nI w).toNatClampNeg = w := nI_clamp (by omega)
  have t4 : 0 ≤ nI w := nI_pos' (by omega)
  have t5 : w < 8 := by omega
  have t6 : ¬ nI w < 0 := nI_pos (by omega)
  have t7 : nI w < nI nq := nI_lt hwq (by omega)
  have y1 : nI k * 8 + nI w = nI (k * 8 + w) := by
    rw [nI8, ← nI_add]
    congr 1
    exact (Int32.ofNat_mul k 8).symm
  have y3 : (nI (k * 8 + w)).toNatClampNeg = k * 8 + w := nI_clamp (by omega)
  have y4 : 0 ≤ nI (k * 8 + w) := nI_pos' (by omega)
  have y8 : k * 8 + w < 64 := by omega
  have u3 : 260 < l.length := by omega
  have a1 := s170 (A := A) (d := d + 56) (n := n) (h := h) hu hhx htx h0 g2 g8 hpl p0 n0 n1 n2 hcm hmc hcap hl hNm fh ft f2
  rw [hsz] at a1
  obtain ⟨O', a2, hO'⟩ := s259 (A := A) (d := d + 58) (b := b) (n := n) (h := h) (v := v) (z := z) (a := a) (ca := ca) (cb := cb) (cs := cs) (capB := capB) (capN := capN) (F := F.set 0 (.int 0)) (N := N) (Z := Z) (B := B) (O := Om) (l := (((l.set 2 (22, 12, fun j => .int (spO (bN (H c) (T c)) 12 0 Oc j))).set 0 (10, 14, jfl9 (jdf 10) (G.set 3 (.int (nI z))))).set 299 (21, 1, fun i => .long (up O 0 (nI z).toInt64 i))).set 241 (12, 101, jfl9 (jdf 12) (F.set 0 (.int 0)))) (by simp [fg_set, m3]) (by simp [fg_set, m4]) (by simp [fg_set, m5]) (by simp [fg_set, m12]) hz hca.1 hcb.1 hca.2.1 hcb.2.1 hv hN hZ ha hB hcN (by simp; omega) (ob_set (by simp; omega) (by simp [hF]; rfl)) (by simp [lg_set, Ne.symm hca.2.1, Ne.symm hca.2.2.1, Ne.symm hca.2.2.2.1, Ne.symm hca.2.2.2.2, fB]) (by simp [lg_set, Ne.symm hcb.2.1, Ne.symm hcb.2.2.1, Ne.symm hcb.2.2.2.1, Ne.symm hcb.2.2.2.2, fN]) (by simp [lg_set, Ne.symm hcs.1, Ne.symm hcs.2.1, Ne.symm hcs.2.2.1, Ne.symm hcs.2.2.2, fZ]) (by simp [lg_set, f250]) hb
  simp only [List.set_set, up] at a2
  refine ⟨((((l.set 2 (22, 12, fun j => .int (spO (bN (H c) (T c)) 12 0 Oc j))).set 0 (10, 14, jfl9 (jdf 10) (G.set 3 (.int (nI z))))).set 299 (21, 1, fun i => .long (up O 0 (nI z).toInt64 i))).set 241 (12, 101, jfl9 (jdf 12) ((F.set 0 (.int 0)).set 19 (.int (nI z))))).set 250 (22, 16, fun j => .int (O' j)), some (.int 0), some (.int (nI z)), ?_, by simp, ⟨by simp, fun q hq hq2 => ?_⟩, ⟨?_, ?_⟩, ⟨?_, ?_⟩, spO (bN (H c) (T c)) 12 0 Oc, O', up O 0 (nI z).toInt64, ?_, ?_, fun j hj => ?_, ?_⟩
  · simp [rL_713, rL_714, rL_715, rL_717, rL_718, rL_719, rL_720, rL_721, rL_723, rL_724, rL_725, rL_726, rL_727, rL_729, rL_730, rL_731, rL_732, rL_733, rL_736, rL_738, rL_739, rL_740, rL_742, rL_743, rL_744, rL_745, rL_746, rL_748, rL_749, rL_750, rL_751, rL_752, rL_754, rL_755, rL_756, rL_757, rL_760, rL_762, rL_763, rL_766, rL_768, rL_771, rL_772, rL_773, rL_775, rL_778, rL_779, rL_780, rL_781, rL_783, rL_784, rL_785, rL_788, rL_789, rL_790, ag_nx, ag_dn, ag_no, ag_if, jbr1, jbr2, jc1, jc2, jnul, jld, jsto, jstoL, jst1, jst2, jkill, jinc, jbI, jbL, jbS, juI, jl2i, jcmp, jisR, jisI, jisL, jgtx, jtln, jtch, jret, jretv, jdup, jpop, jobj, jmm, jcat, Value.category, jinv, jrcv, jthr, jhd, jnewa, jnewc, jput, jget, B_getL, B_getL0, B_set, B_set0, B_new, B_top, fl_upd, fl_fg, fg_set, Nat.add_assoc, jlen, jald, jast, jgI, jgL, jgB, jtnew, fits_i, fits_l, fits_r, fits_o, fits_z0, fits_z1, fits_n, fits_m, lg_set, List.length_set, updI, updL, jthr, jhd, jtab, LL, jtnew, je301, r301_0, r301_2, r301_3, r301_4, r301_5, r301_6, r301_7, r301_10, r301_11, r301_12, r301_15, r301_17, r301_18, r301_19, r301_21, r301_22, r301_23, r301_25, r301_26, r301_27, r301_29, r301_30, r301_31, r301_32, pna301, pow301, ph301_15, ph301_19, ph301_23, ph301_27, je158, r158_0, r158_1, r158_4, r158_5, r158_6, r158_9, r158_19, r158_20, r158_21, r158_24, r158_26, r158_27, r158_30, r158_31, r158_33, r158_36, r158_39, r158_49, r158_50, r158_76, r158_78, r158_81, r158_82, r158_83, r158_84, r158_86, r158_89, r158_90, r158_91, r158_92, r158_93, r158_95, r158_98, r158_99, r158_100, r158_103, pna158, pow158, je173, r173_0, r173_1, r173_4, r173_5, r173_8, r173_9, r173_12, r173_13, r173_14, r173_17, r173_28, r173_29, pna173, pow173, je171, r171_0, r171_1, r171_4, r171_7, r171_18, pna171, pow171, je260, r260_0, r260_1, r260_4, r260_7, r260_8, r260_9, r260_12, r260_15, r260_16, r260_18, r260_19, r260_20, r260_23, r260_24, r260_25, r260_28, r260_29, r260_32, r260_33, r260_36, r260_39, r260_40, r260_43, r260_45, r260_48, r260_49, r260_52, r260_53, r260_56, r260_57, r260_58, r260_61, r260_63, r260_64, r260_67, r260_68, r260_71, r260_72, r260_75, r260_78, r260_79, r260_80, r260_82, r260_84, r260_85, r260_86, r260_87, r260_89, r260_90, r260_93, r260_94, r260_97, r260_99, r260_100, r260_103, r260_104, r260_105, r260_108, r260_109, r260_112, r260_114, r260_115, r260_118, r260_119, r260_120, r260_123, r260_125, r260_126, r260_129, pna260, pow260, je176, r176_0, r176_1, r176_2, r176_5, r176_6, r176_9, r176_10, r176_13, r176_14, pna176, pow176, ty12_0, je175, r175_0, r175_1, r175_4, pna175, pow175, lg_app, B_low hs0, hs, i1, i2, i3, i4, i5, j1, j2, j3, j4, j5, p1, p2, p3, p4, p5, z1, z2, z3, z4, z5, w0, w1, fo, hF, u0, u1, u2, v0, v1, cmp_self, up, pna116, pow116, pna220, pow220, h3, hx1, g6, g10, w57, wI, nQ, n8, fnx, m33, m49, f267, f260, hQn, m50, f268, k3, k4, k5, k6, t3, t4, t5, t6, t7, y1, y3, y4, y8, u3, hNc, hNv, b1, b2, a1, a2, hG, pna170, pow170, pna259, pow259, jlku, lk2, show 2 < l.length by omega, show 250 < l.length by omega]
  · simp only [List.mem_cons, List.not_mem_nil, or_false, not_or] at hq2
    simp [lg_set, Ne.symm hq2.1, Ne.symm hq2.2.1, Ne.symm hq2.2.2.1, Ne.symm hq2.2.2.2.1, Ne.symm hq2.2.2.2.2]
  · simp [lg_set, u0]; rfl
  · simp [hG]; rfl
  · simp [lg_set, u1]; rfl
  · simp [hF]; rfl
  · simp [lg_set, show 2 < l.length by omega]
  · simp [lg_set, show 250 < l.length by omega]
  · rw [spO_at, if_pos (by omega), hO' j hj]
    exact hby j hj
  · simp [lg_set, u2]
