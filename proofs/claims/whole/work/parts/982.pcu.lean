/-! acts in a row: they keep it so; the class does them -/
theorem ok_run {rN : Int32 → Nm} {N : Nat → Nat → Int32} {np k M nv ns p B : Nat} {l : Bool} (h6 : np ≤ 6) (hM : M < 2 ^ 20) (hp : p < np) (hns : ns = (sts N p).length) : ∀ (r : Nat) (as : List Nat) (W : aW Nm) (a : aI Nm), okW N np B W → W.1[k]? = some a → a.1.2.1 = nI p → vB N M nv ns np r as → okW N np B (aRun rN N l k r as W).2 ∧ kpt k W (aRun rN N l k r as W).2 := by
  intro r
  induction r with
  | zero => intro as W a h hk hpr hv; exact hv.elim
  | succ r ih =>
    intro as W a h hk hpr hv
    cases as with
    | nil => exact ⟨h, kpt_refl⟩
    | cons c as =>
      obtain ⟨hv1, hv2⟩ := hv
      have cont : ∀ (z : Int32 × aW Nm), okW N np B z.2 → kpt k W z.2 → okW N np B (if z.1 = 0 then aRun rN N l k r as z.2 else z).2 ∧ kpt k W (if z.1 = 0 then aRun rN N l k r as z.2 else z).2 := by
        intro z hz hkz
        by_cases e : z.1 = 0
        · rw [if_pos e]
          obtain ⟨a', q1, q2, q3⟩ := hkz a hk
          have := ih as z.2 a' hz q1 (q3.trans hpr) hv1
          exact ⟨this.1, kpt_trans hkz this.2⟩
        · rw [if_neg e]
          exact ⟨hz, hkz⟩
      rcases hv2 with hv2 | ⟨_, c1, e, f, c2, xe, c3, vk, vb, hg⟩
      · have hne : ¬ N 251 c = 18 := by
          rcases hv2.2 with ⟨c1, _⟩ | ⟨c1, _⟩ | ⟨c1, _⟩ | c1 | ⟨c1, _⟩ | ⟨c1, _⟩ | c1 | ⟨c1, _⟩ <;> (rw [c1]; decide)
        have := ok_act (rN := rN) (l := l) h6 h hk hpr hp hns hv2
        have e : aRun rN N l k (r + 1) (c :: as) W = (if (aAct rN N l k c W).1 = 0 then aRun rN N l k r as (aAct rN N l k c W).2 else aAct rN N l k c W) := by
          simp only [aRun, hne, if_false]
        rw [e]
        exact cont _ this.1 this.2
      · have hf : ix (N 253 c) = f := by rw [c3]; exact nI_clamp (by have := vk.1; omega)
        by_cases hz : ¬ aVal N W k (N 252 c) = 0
        · have e : aRun rN N l k (r + 1) (c :: as) W = (if (aRun rN N l k r (acts N f) W).1 = 0 then aRun rN N l k r as (aRun rN N l k r (acts N f) W).2 else aRun rN N l k r (acts N f) W) := by
            simp only [aRun, c1, if_true, hf]
            rw [if_pos hz]
          rw [e]
          have := ih (acts N f) W a h hk hpr vb
          exact cont _ this.1 this.2
        · rcases hg with hg | ⟨g, hg, vkg, vbg⟩
          · have e : aRun rN N l k (r + 1) (c :: as) W = aRun rN N l k r as W := by
              simp only [aRun, c1, if_true]
              rw [if_neg hz, if_pos (by rw [hg]; decide)]
            rw [e]
            exact ih as W a h hk hpr hv1
          · have hgx : ix (N 254 c) = g := by rw [hg]; exact nI_clamp (by have := vkg.1; omega)
            have e : aRun rN N l k (r + 1) (c :: as) W = (if (aRun rN N l k r (acts N g) W).1 = 0 then aRun rN N l k r as (aRun rN N l k r (acts N g) W).2 else aRun rN N l k r (acts N g) W) := by
              simp only [aRun, c1, if_true, hgx]
              rw [if_neg hz, if_neg (by rw [hg]; exact nI_pos (by have := vkg.1; omega))]
            rw [e]
            have := ih (acts N g) W a h hk hpr vbg
            exact cont _ this.1 this.2
section CU
variable {A : Nat → Nat} {d b n w P p k : Nat} {h : Nat → Option jC} {X : jXX} {I : Nat → Nat → Int32} {J : Nat → Nat → Int64} {R : Nat → Nat → Nat} {cN rN : Int32 → Nm} {N : Nat → Nat → Int32} {O G E : Nat → Int32} {np L : Nat} {x2 : Int32}
theorem plC_out {I1 : Nat → Nat → Int32} (hw : isW w) (hP : isP P) (hf : ∀ c i, c < w ∨ w + 73 < c → I1 c i = I c i) (h : plC cN rN N O G E np P L I) : plC cN rN N O G E np P L I1 := by
  have w1 := isW_e hw
  have w2 := isP_e hP
  exact plC_fr (fun c j a1 a2 => hf c j (by omega)) h
theorem cRun {B M p_ : Nat} (hm1 : cN (-1) = rN (-1)) (hw : isW w) (hP : isP P) (hR : R w 0 = P) (hj : ∀ x y, cN x = cN y → x = y) (hB : B + 8 < 2 ^ 31) (hM : M < 2 ^ 20) (hp : p_ < np) (hl6 : (lets N p_).length ≤ 6) : ∀ (r p : Nat) (as : List Nat) (q : Nat) (W : aW Nm) (I : Nat → Nat → Int32) (a : aI Nm), sB cN rN N O G E (lets N p_).length (sts N p_).length np r p as q → vB N M (lets N p_).length (sts N p_).length np r as → q < L → plC cN rN N O G E np P L I → wC cN I R w W → okW N np B W → W.1[k]? = some a → a.1.2.1 = nI p_ → I w 10 = nI 0 → oC A h (d + 3) b w k P X J R n x2 cN rN p I q (aRun rN N (decide (w = 57)) k r as W) := by
  have w1 := isW_e hw
  intro r
  induction r with
  | zero => intro p as q W I a hs; exact hs.elim
  | succ r ih =>
    intro p as q W I a hs hv hq hpl hW hok hk hpr ht
    have n6 := hpl.1
    have hva : a.2.1.length = (lets N p_).length := by
      obtain ⟨p', q1, q2, q3, _⟩ := hok.2.1 k a hk
      have : p' = p_ := by
        rw [hpr] at q2
        exact ((nI_eq (by omega) (by omega)).mp q2).symm
      rw [q3, this]
    cases as with
    | nil =>
      have : p = q := hs
      subst this
      exact Or.inl ⟨rfl, I, K_re, hW, fun _ _ _ => rfl, ht⟩
    | cons c as =>
      obtain ⟨m, hsr, hsa⟩ := hs
      have hmq := sB_le hsr
      obtain ⟨hv1, hv2⟩ := hv
      -- what is left, behind an end that was reached at m
      have cont : ∀ (z : Int32 × aW Nm), okW N np B z.2 → kpt k W z.2 → oC A h (d + 3) b w k P X J R n x2 cN rN p I m z → oC A h (d + 3) b w k P X J R n x2 cN rN p I q (if z.1 = 0 then aRun rN N (decide (w = 57)) k r as z.2 else z) := by
        intro z hz hkz ho
        rcases ho with ⟨e, I1, k1, wc1, f1, t1⟩ | ⟨e, I1, k1, wc1, f1⟩ | ⟨e, I1, R1, k1, wc1, f1, r1⟩
        · rw [if_pos e]
          obtain ⟨a', q1, q2, q3⟩ := hkz a hk
          exact oC_pre k1 f1 (ih m as q z.2 I1 a' hsr hv1 hq (plC_out hw hP f1 hpl) wc1 hz q1 (q3.trans hpr) t1)
        · rw [if_neg (by rw [e]; decide)]
          exact Or.inr (Or.inl ⟨e, I1, k1, wc1, f1⟩)
        · rw [if_neg (by rw [e]; decide)]
          exact Or.inr (Or.inr ⟨e, I1, R1, k1, wc1, f1, r1⟩)
      rcases hsa with hsa | ⟨c1, m1, m2, e, f, he, hf, c2, c3, xe, c4, sb, hg⟩
      · have hv3 : vA N M (lets N p_).length (sts N p_).length np c := by
          rcases hv2 with hv2 | ⟨_, c1, _⟩
          · exact hv2
          · exfalso
            rcases hsa with ⟨x, _⟩ | ⟨x, _⟩ | ⟨x, _⟩ | ⟨x, _⟩ | ⟨x, _⟩ | ⟨x, _⟩ | ⟨x, _⟩ | ⟨x, _⟩ <;> (rw [c1] at x; exact absurd x (by decide))
        have hne : ¬ N 251 c = 18 := by
          rcases hv3.2 with ⟨c1, _⟩ | ⟨c1, _⟩ | ⟨c1, _⟩ | c1 | ⟨c1, _⟩ | ⟨c1, _⟩ | c1 | ⟨c1, _⟩ <;> (rw [c1]; decide)
        have e : aRun rN N (decide (w = 57)) k (r + 1) (c :: as) W = (if (aAct rN N (decide (w = 57)) k c W).1 = 0 then aRun rN N (decide (w = 57)) k r as (aAct rN N (decide (w = 57)) k c W).2 else aAct rN N (decide (w = 57)) k c W) := by
          simp only [aRun, hne, if_false]
        rw [e]
        have hk2 := ok_act (rN := rN) (l := decide (w = 57)) n6 hok hk hpr hp rfl hv3
        refine cont _ hk2.1 hk2.2 ?_
        rw [← hva] at hsa
        exact cAct (d := d) (A := A) (b := b) (h := h) (X := X) (J := J) (R := R) (n := n) (x2 := x2) hm1 hw hP hR hj hpl hW hk hok hB hsa (by omega) ht
      · have hlt := sE_lt xe
        have hvI : vB N M (lets N p_).length (sts N p_).length np r (acts N f) ∧ (N 254 c = -1 ∨ ∃ g, N 254 c = nI g ∧ vK N M g ∧ vB N M (lets N p_).length (sts N p_).length np r (acts N g)) := by
          rcases hv2 with hv2 | ⟨_, _, e', f', q1, _, q2, vk, vb, q3⟩
          · exfalso
            rcases hv2.2 with ⟨x, _⟩ | ⟨x, _⟩ | ⟨x, _⟩ | x | ⟨x, _⟩ | ⟨x, _⟩ | x | ⟨x, _⟩ <;> (rw [c1] at x; exact absurd x (by decide))
          · have : f' = f := by
              rw [c3] at q2
              exact ((nI_eq (by omega) (by have := vk.1; omega)).mp q2).symm
            subst this
            exact ⟨vb, q3⟩
        obtain ⟨hvf, hvg⟩ := hvI
        have hm2 := sB_le sb
        have hL : L ≤ 2048 := hpl.2.2.1.2.1
        have hmm : m2 ≤ m ∧ m ≤ q := by
          rcases hg with ⟨_, _, h4⟩ | ⟨g, _, _, _, _, hsg, _⟩
          · omega
          · have := sB_le hsg; omega
        rw [← hva] at xe
        obtain ⟨I1, k1, s1, on1⟩ := cExp (d := d + 1) (A := A) (b := b) (h := h) (X := X) (J := J) (R := R) (n := n) (x2 := x2) hw hP hR hj hpl hW hk (by omega) xe (by omega) ht
        have hW1 := wC_on hw on1 hW
        have hp1 := plC_on hw hP (onS_T on1) hpl
        have hex : ix (N 252 c) = e := by rw [c2]; exact nI_clamp (by omega)
        have hfx : ix (N 253 c) = f := by rw [c3]; exact nI_clamp (by omega)
        have hval : aVal N W k (N 252 c) = evl N W.2.1.2.1 a ED e := by rw [aVal, aAt_of hk, hex]
        have hW2 := wC_top (v := nI 0) hw hW1
        have fr2 : ∀ c i, c < w ∨ w + 73 < c → u2 I1 w 10 (nI 0) c i = I c i := fun c i hc => by rw [u2_k (by omega)]; exact on1 c i (by omega) (by omega)
        have hp2 := plC_out hw hP fr2 hpl
        have ht2 : u2 I1 w 10 (nI 0) w 10 = nI 0 := u2_s
        have xs : ∀ q', G m1 = nI q' → m1 < q' → q' ≤ 2048 → K128 A h (d + 3) b w (R (w + 8) k) P X J R n x2 p I (if aVal N W k (N 252 c) = 0 then q' else m1 + 1) (u2 I1 w 10 (nI 0)) := by
          intro q' h1 h2 h3
          have := xSkip (d := d + 2) (A := A) (b := b) (h := h) (X := X) (J := J) (R := R) (n := n) (x2 := x2) hw hP hR hj hp1 hW1 hk c4 h1 (by omega) h2 h3 s1.1
          rw [s1.2.1, ← hval] at this
          exact K_tr k1 this
        by_cases hz : ¬ aVal N W k (N 252 c) = 0
        · have er : aRun rN N (decide (w = 57)) k (r + 1) (c :: as) W = (if (aRun rN N (decide (w = 57)) k r (acts N f) W).1 = 0 then aRun rN N (decide (w = 57)) k r as (aRun rN N (decide (w = 57)) k r (acts N f) W).2 else aRun rN N (decide (w = 57)) k r (acts N f) W) := by
            simp only [aRun, c1, if_true, hfx]
            rw [if_pos hz]
          rw [er]
          have hkr := ok_run (rN := rN) (l := decide (w = 57)) n6 hM hp rfl r (acts N f) W a hok hk hpr hvf
          refine cont _ hkr.1 hkr.2 ?_
          have hn : oC A h (d + 3) b w k P X J R n x2 cN rN (m1 + 1) (u2 I1 w 10 (nI 0)) m2 (aRun rN N (decide (w = 57)) k r (acts N f) W) := ih (m1 + 1) (acts N f) m2 W _ a sb hvf (by omega) hp2 hW2 hok hk hpr ht2
          rcases hg with ⟨g1, g2, g3⟩ | ⟨g, hgl, g1, g2, g3, hsg, g4⟩
          · subst g3
            have x1 := xs m g2 (by omega) (by omega)
            rw [if_neg hz] at x1
            exact oC_pre x1 fr2 hn
          · have x1 := xs (m2 + 1) g3 (by omega) (by omega)
            rw [if_neg hz] at x1
            have hmg := sB_le hsg
            refine oC_pre x1 fr2 ?_
            rcases hn with ⟨e0, I3, k3, wc3, f3, t3⟩ | ⟨e0, I3, k3, wc3, f3⟩ | ⟨e0, I3, R3, k3, wc3, f3, r3⟩
            · obtain ⟨a', q1, q2, q3⟩ := hkr.2 a hk
              have xj := xJump (d := d + 3) (A := A) (b := b) (h := h) (X := X) (J := J) (R := R) (n := n) (x2 := x2) hw hP hR hj (plC_out hw hP f3 hp2) wc3 q1 g2 g4 (by omega) (by omega) (by omega)
              exact Or.inl ⟨e0, I3, K_tr k3 xj, wc3, f3, t3⟩
            · exact Or.inr (Or.inl ⟨e0, I3, k3, wc3, f3⟩)
            · exact Or.inr (Or.inr ⟨e0, I3, R3, k3, wc3, f3, r3⟩)
        · have hz' : aVal N W k (N 252 c) = 0 := Classical.not_not.mp hz
          rcases hg with ⟨g1, g2, g3⟩ | ⟨g, hgl, g1, g2, g3, hsg, g4⟩
          · subst g3
            have er : aRun rN N (decide (w = 57)) k (r + 1) (c :: as) W = aRun rN N (decide (w = 57)) k r as W := by
              simp only [aRun, c1, if_true]
              rw [if_neg hz, if_pos (by rw [g1]; decide)]
            rw [er]
            have x1 := xs m g2 (by omega) (by omega)
            rw [if_pos hz'] at x1
            exact oC_pre x1 fr2 (ih m as q W _ a hsr hv1 hq hp2 hW2 hok hk hpr ht2)
          · have hgx : ix (N 254 c) = g := by rw [g1]; exact nI_clamp (by omega)
            have er : aRun rN N (decide (w = 57)) k (r + 1) (c :: as) W = (if (aRun rN N (decide (w = 57)) k r (acts N g) W).1 = 0 then aRun rN N (decide (w = 57)) k r as (aRun rN N (decide (w = 57)) k r (acts N g) W).2 else aRun rN N (decide (w = 57)) k r (acts N g) W) := by
              simp only [aRun, c1, if_true, hgx]
              rw [if_neg hz, if_neg (by rw [g1]; exact nI_pos (by omega))]
            rw [er]
            have hvg' : vB N M (lets N p_).length (sts N p_).length np r (acts N g) := by
              rcases hvg with hvg | ⟨g', q1, vk, vb⟩
              · rw [g1] at hvg
                exact absurd hvg (mI_ne (k := 1) (by omega) (by omega) (by omega))
              · have : g' = g := by
                  rw [g1] at q1
                  exact ((nI_eq (by omega) (by have := vk.1; omega)).mp q1).symm
                subst this
                exact vb
            have hkr := ok_run (rN := rN) (l := decide (w = 57)) n6 hM hp rfl r (acts N g) W a hok hk hpr hvg'
            refine cont _ hkr.1 hkr.2 ?_
            have x1 := xs (m2 + 1) g3 (by omega) (by omega)
            rw [if_pos hz'] at x1
            exact oC_pre x1 fr2 (ih (m2 + 1) (acts N g) m W _ a hsg hvg' (by omega) hp2 hW2 hok hk hpr ht2)
end CU
