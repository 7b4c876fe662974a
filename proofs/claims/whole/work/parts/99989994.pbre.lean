/-! the class's plan is the reference's: processes -/
section BPR
variable {t : Nat → Int32} {N m : Nat} {F : List qPr} {V O Gc Ec : Nat → Int32} {I : Nat → Nat → Int32} {nn M : Nat} {α : Type} {cN rN : Int32 → α} {q : qPr} {C : List oT} {P : Nat} {Ic : Nat → Nat → Int32}
/-- what the parsers leave -/
def pEn (t : Nat → Int32) (N m : Nat) (F : List qPr) (V O Gc Ec : Nat → Int32) (I : Nat → Nat → Int32) (nn : Nat) (cN rN : Int32 → α) (C : List oT) (P : Nat) (Ic : Nat → Nat → Int32) : Prop := N ≤ 2000 ∧ cAl t N F V O Gc Ec C ∧ FV (KK t N) m C F ∧ mS (KK t N) V P Ic F ∧ (∀ x y, nmT (KK t N) m x → nmT (KK t N) m y → eqV V x y = eqY t N x y) ∧ (∀ j, KK t N j = 27 → j ≤ m) ∧ (∀ q, q ∈ F → KK t N (q.1 + 2) = 27) ∧ (∀ j, j ≤ m → KK t N j = 27 → V j = tkNu t N (tpos t N j)) ∧ ∀ j x, j ≤ m → nmA t N I nn x j → cN (V j) = rN x
theorem nI_le3 {x : Int32} (h0 : nI 0 ≤ x) (h : x ≤ nI 3) : ∃ m, m ≤ 3 ∧ x = nI m := by
  have h1 : (0 : Int) ≤ x.toInt := by
    have := Int32.le_iff_toInt_le.mp h0
    rw [nI_toInt (by omega)] at this
    exact this
  have h2 : x.toInt ≤ 3 := by
    have := Int32.le_iff_toInt_le.mp h
    rw [nI_toInt (by omega)] at this
    exact this
  refine ⟨x.toInt.toNat, by omega, ?_⟩
  apply Int32.toInt_inj.mp
  rw [nI_toInt (by omega)]
  omega
theorem tkNu_nn {p : Nat} : nI 0 ≤ tkNu t N p := by
  unfold tkNu
  split
  · rename_i h
    rw [nI_leI (by omega) (by omega)]; omega
  · exact Int32.le_refl _
theorem prRl_kP (hE : pEn t N m F V O Gc Ec I nn cN rN C P Ic) (hM : M ≤ 2000) {hi p pd : Nat} (hh : hi ≤ M) (hq : F[p]? = some q) (h259 : I 259 p = nI pd) (hx : prRl t N I nn (min p 5) F hi pd q) : kP cN rN I O Gc Ec F.length P C.length Ic p ∧ vP I M F.length p := by
  obtain ⟨hN, hC, hF, hm, hEV, hm27, hk2, hU, hnm⟩ := hE
  obtain ⟨h1, h2, h3, h4, h5, G, ls, x, ss, k, k1, k2, k3, k4, k5, k6, k7⟩ := hx
  have hF6 := hm.1
  have hpF : p < F.length := lt_of_some hq
  rw [show min p 5 = p by omega] at k5 k7
  have hpr := hF p q hq
  rw [show min p 5 = p by omega] at hpr
  obtain ⟨p1, p2, p3, p4, p5, p6⟩ := hpr
  obtain ⟨m1, m2, m3, m4, m5, m6, m7, m8⟩ := hm.2.1 p q hq
  have hb : bEn t N m p F V I nn cN rN G q := ⟨by omega, hN, hq, k1, hU, hnm⟩
  have hpnd : pnd I p = pd := by unfold pnd; rw [h259]; exact nI_clampx (by omega)
  obtain ⟨l1, l2⟩ := ltsR_at _ _ _ _ k3
  obtain ⟨l3, l4⟩ := ltsR_gel _ _ _ _ k3
  obtain ⟨s1, s2⟩ := stsRl_at _ _ _ _ k7
  obtain ⟨s3, s4⟩ := stsRl_ge _ _ _ _ k7
  obtain ⟨n1, n2, n3⟩ := m4
  have hlets : lets I p = ls := by
    unfold lets; rw [hpnd]
    exact chl_chn ls 7 _ (by omega) (fun a ha => by have := l4 a ha; have := k5.1; omega) k2
  have hsts : sts I p = ss := by
    unfold sts; rw [hpnd]
    exact chl_chn ss 9 _ (by omega) (fun a ha => by have := s4 a ha; omega) k6
  have hcls : ∀ (s y : Nat), ss[s]? = some y → ∃ (qs : qSt) (ks : Nat) (cs : List Nat), q.2.2.2[s]? = some qs ∧ ks ≤ hi ∧ y < M ∧ cls I p s = cs ∧ chn I (I 253 y) cs ∧ clsRl t N I nn p G F (y + 1) cs qs.2 ks ∧ nmA t N I nn (I 252 y) qs.1 ∧ cs.length = qs.2.length := by
    intro s y hy
    obtain ⟨qs, ks, a1, a2, a3, a4, a5, cs, a6, a7⟩ := s2 s y hy
    have hl := (clsRl_at _ _ _ _ a7).1
    have hg := clsRl_ge _ _ _ _ a7
    have h8 := (m7 s qs a1).2.2.1
    refine ⟨qs, ks, cs, a1, a2, by omega, ?_, a6, a7, a5, hl⟩
    unfold cls
    rw [hsts, List.getD_eq_getElem?_getD, hy]
    exact chl_chn cs 9 _ (by omega) (fun a ha => by have := hg.2 a ha; omega) a6
  obtain ⟨m', g1, g2⟩ := nI_le3 tkNu_nn h5
  obtain ⟨c1, c2⟩ := cdA_slc hC p4 p5
  obtain ⟨e1, e2, e3, e4⟩ := bkRl_sD hb hM (by omega) k5 c1 c2
  have hlen : (lets I p).length = q.2.1.length := by rw [hlets, l1]
  have slen : (sts I p).length = q.2.2.2.length := by rw [hsts, s1]
  have hkC : ∀ (s y : Nat), ss[s]? = some y → (cls I p s).length ≤ 8 ∧ Ic (P + 17) (p * 8 + s) = nI (cls I p s).length ∧ ∀ (j c : Nat), (cls I p s)[j]? = some c → kC cN rN I O Gc Ec q.2.1.length q.2.2.2.length F.length P C.length Ic ((p * 8 + s) * 8 + j) c ∧ vC I M q.2.1.length q.2.2.2.length F.length c := by
    intro s y hy
    obtain ⟨qs, ks, cs, a1, a2, a3, a4, a5, a6, a7, a8⟩ := hcls s y hy
    obtain ⟨b1, b2, b3, b4⟩ := m7 s qs a1
    rw [a4]
    refine ⟨by omega, by rw [b2, a8], fun j c hc => ?_⟩
    obtain ⟨c', kk, d1, d2, d3⟩ := (clsRl_at _ _ _ _ a6).2 j c hc
    have hsv := p6 qs (List.mem_of_getElem? a1)
    exact clRl_kC hb hC hM (by omega) (hsv.2.2 c' (List.mem_of_getElem? d1)) (b4 j c' d1) hEV p3 d3
  have hpM : pd < M := by omega
  refine ⟨⟨by rw [hpnd]; omega, by rw [hpnd]; exact h259, ?_, ⟨m', g1, ?_, ?_⟩, by omega, by rw [hlen]; exact n1, ?_, by omega, by rw [slen]; exact m5, ?_, ?_, ?_⟩, ⟨by rw [hpnd]; exact hpM, by rw [hpnd]; exact h259, ⟨m', g1, ?_⟩, ?_, by omega, ?_, by omega, ?_, ?_⟩⟩
  · rw [hpnd, m1]; exact hnm _ _ p2 h3
  · have h27 := hk2 q (List.mem_of_getElem? hq)
    rw [m2, hU _ (hm27 _ h27) h27, g2]
  · rw [hpnd, h4, g2]
  · intro j c hc
    rw [hlets] at hc
    obtain ⟨v, v1, v2, v3, v4⟩ := l2 j c hc
    obtain ⟨w1, w2⟩ := n3 j v v1
    rw [w1, w2]
    exact ⟨hnm _ _ (p3 v (List.mem_of_getElem? v1)).2 v2, by rw [hU _ (hm27 _ v3) v3, v4]⟩
  · intro j c hc
    rw [hsts] at hc
    obtain ⟨qs, ks, cs, a1, a2, a3, a4, a5, a6, a7, a8⟩ := hcls j c hc
    rw [(m7 j qs a1).1]
    exact hnm _ _ (p6 qs (List.mem_of_getElem? a1)).2.1 a7
  · have hxM := e2.1
    refine ⟨_, x, by omega, by rw [hpnd]; exact k4, m3, ?_⟩
    rw [hlen, slen]; exact e1
  · intro s hs
    rw [slen, ← s1] at hs
    obtain ⟨r1, r2, r3⟩ := hkC s _ (List.getElem?_eq_getElem hs)
    refine ⟨r1, r2, fun j c hc => ?_⟩
    rw [hlen, slen]
    exact (r3 j c hc).1
  · rw [hpnd, h4, g2]
  · rw [hpnd]; exact chOK_chn ls 7 _ (by omega) (fun a ha => by have := l4 a ha; have := k5.1; omega) k2
  · rw [hpnd]; exact chOK_chn ss 9 _ (by omega) (fun a ha => by have := s4 a ha; omega) k6
  · rw [hpnd, hlen, slen]; exact ⟨x, k4, e2, e3, e4⟩
  · intro s y hy
    rw [hsts] at hy
    obtain ⟨qs, ks, cs, a1, a2, a3, a4, a5, a6, a7, a8⟩ := hcls s y hy
    obtain ⟨r1, r2, r3⟩ := hkC s y hy
    have hg := clsRl_ge _ _ _ _ a6
    have h8 := (m7 s qs a1).2.2.1
    refine ⟨a3, chOK_chn cs 9 _ (by omega) (fun a ha => by have := hg.2 a ha; omega) a5, r1, fun j c hc => ?_⟩
    rw [hlen, slen]
    exact (r3 j c hc).2
/-- the whole plan -/
theorem plan_ok (hE : pEn t N m F V O Gc Ec I nn cN rN C P Ic) (hM : M ≤ 2000) {ps : List Nat} (hx : prsRl t N I nn F 0 0 ps F M) (h259 : ∀ p pd, ps[p]? = some pd → I 259 p = nI pd) (h34 : I 241 34 = nI F.length) (h3 : Ic P 3 = nI F.length) (hcd : cdC P C.length O Gc Ec Ic) : plC cN rN I O Gc Ec F.length P C.length Ic ∧ vN I M F.length := by
  have hF6 := hE.2.2.2.1.1
  obtain ⟨l1, l2⟩ := prsRl_at _ _ _ _ _ hx
  have key : ∀ p, p < F.length → kP cN rN I O Gc Ec F.length P C.length Ic p ∧ vP I M F.length p := by
    intro p hp
    rw [← l1] at hp
    have hps := List.getElem?_eq_getElem hp
    obtain ⟨c', k, a1, a2, a3⟩ := l2 p _ hps
    rw [Nat.zero_add] at a3
    exact prRl_kP hE hM a2 a1 (h259 p _ hps) a3
  exact ⟨⟨hF6, h3, hcd, fun p hp => (key p hp).1⟩, hF6, h34, by omega, fun p hp => (key p hp).2⟩
end BPR
