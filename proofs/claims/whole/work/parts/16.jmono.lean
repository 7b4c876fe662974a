/-! nothing is unmade: a step leaves the next address and the slots that were taken no less -/
def jle (σ τ : jS) : Prop := σ.2.1 ≤ τ.2.1 ∧ σ.2.2 ≤ τ.2.2
theorem jle.rf {σ : jS} : jle σ σ := ⟨Nat.le_refl _, Nat.le_refl _⟩
theorem jle.tr {σ τ υ : jS} (h : jle σ τ) (k : jle τ υ) : jle σ υ := ⟨Nat.le_trans h.1 k.1, Nat.le_trans h.2 k.2⟩
def jMo (σ : jS) (r : jN) : Prop := match r with
  | none => True
  | some (.inl (_, _, _, τ)) => jle σ τ
  | some (.inr (_, τ)) => jle σ τ
theorem jmo_nx {σ τ : jS} {pc : Nat} {L : jL} {st : List Value} (h : jle σ τ) : jMo σ (jnx pc L st τ) := h
theorem jmo_dn {σ τ : jS} {o : jO} (h : jle σ τ) : jMo σ (jdn o τ) := h
theorem jmo_no {σ : jS} : jMo σ none := trivial
theorem jle_set {σ : jS} {a : Nat} {c : jC} : jle σ (jset σ a c) := ⟨Nat.le_refl _, Nat.le_refl _⟩
theorem jle_new {σ : jS} {c : jC} {n : Nat} : jle σ (jnew σ c n) := ⟨Nat.le_succ _, Nat.le_add_right _ _⟩
section JMONO
variable {C : Nat → List Value → jS → Option (jO × jS)} {A : Nat → Nat} {hs : List (Nat × Nat × Nat × Nat)} {ow na : Nat → Nat} {rt : Option FieldType} {code : Nat → Option (Instr × Nat)} {pc len : Nat} {L : jL} {st : List Value} {σ : jS}
theorem jmo_get {k : Nat} : jMo σ (jget k pc L st σ) := by
  unfold jget; repeat' split
  all_goals first | exact jmo_nx jle.rf | exact jmo_no
theorem jmo_put {k : Nat} : jMo σ (jput k pc L st σ) := by
  unfold jput; repeat' split
  all_goals first | exact jmo_nx jle_set | exact jmo_no
theorem jmo_ld {i : Nat} {ok : Value → Bool} : jMo σ (jld i pc ok L st σ) := by
  unfold jld; repeat' split
  all_goals first | exact jmo_nx jle.rf | exact jmo_no
theorem jmo_sto {i : Nat} {ok : Value → Bool} : jMo σ (jsto i pc ok L st σ) := by
  unfold jsto; repeat' split
  all_goals first | exact jmo_nx jle.rf | exact jmo_no
theorem jmo_stoL {i : Nat} : jMo σ (jstoL i pc L st σ) := by
  unfold jstoL; repeat' split
  all_goals first | exact jmo_nx jle.rf | exact jmo_no
theorem jmo_bI {f : Int32 → Int32 → Int32} : jMo σ (jbI f pc L st σ) := by
  unfold jbI; repeat' split
  all_goals first | exact jmo_nx jle.rf | exact jmo_no
theorem jmo_bL {f : Int64 → Int64 → Int64} : jMo σ (jbL f pc L st σ) := by
  unfold jbL; repeat' split
  all_goals first | exact jmo_nx jle.rf | exact jmo_no
theorem jmo_bS {f : Int64 → Int32 → Int64} : jMo σ (jbS f pc L st σ) := by
  unfold jbS; repeat' split
  all_goals first | exact jmo_nx jle.rf | exact jmo_no
theorem jmo_uI {f : Int32 → Value} : jMo σ (juI f pc L st σ) := by
  unfold juI; repeat' split
  all_goals first | exact jmo_nx jle.rf | exact jmo_no
theorem jmo_div {f : Int32 → Int32 → Int32} : jMo σ (jdiv f pc L st σ) := by
  unfold jdiv; repeat' split
  all_goals first | exact jmo_nx jle.rf | exact jmo_no
theorem jmo_br1 {f : Int32 → Bool} {o : Int} : jMo σ (jbr1 f pc o L st σ) := by
  unfold jbr1; repeat' split
  all_goals first | exact jmo_nx jle.rf | exact jmo_no
theorem jmo_br2 {f : Int32 → Int32 → Bool} {o : Int} : jMo σ (jbr2 f pc o L st σ) := by
  unfold jbr2; repeat' split
  all_goals first | exact jmo_nx jle.rf | exact jmo_no
theorem jmo_nul {b : Bool} {o : Int} : jMo σ (jnul b pc o L st σ) := by
  unfold jnul; repeat' split
  all_goals first | exact jmo_nx jle.rf | exact jmo_no
theorem jmo_ald {ok : Nat → Bool} : jMo σ (jald ok pc L st σ) := by
  unfold jald; repeat' split
  all_goals first | exact jmo_nx jle.rf | exact jmo_no
theorem jmo_ast {ok : Nat → Bool} {g : Nat → Value → Option Value} : jMo σ (jast ok g pc L st σ) := by
  unfold jast; repeat' split
  all_goals first | exact jmo_nx jle_set | exact jmo_no
theorem jmo_aast : jMo σ (jaast pc L st σ) := by
  unfold jaast; repeat' split
  all_goals first | exact jmo_nx jle_set | exact jmo_no
theorem jmo_len : jMo σ (jlen pc L st σ) := by
  unfold jlen; repeat' split
  all_goals first | exact jmo_nx jle.rf | exact jmo_no
theorem jmo_newa {t : Nat} : jMo σ (jnewa t len pc L st σ) := by
  unfold jnewa; repeat' split
  all_goals first | exact jmo_nx jle_new | exact jmo_no
theorem jmo_newc {k : Nat} : jMo σ (jnewc k pc L st σ) := jmo_nx jle_new
theorem jmo_thr {E : Nat} {τ : jS} (h : jle σ τ) : jMo σ (jthr hs code pc E L τ) := by
  unfold jthr; repeat' split
  all_goals first | exact jmo_nx h | exact jmo_dn h | exact jmo_no
theorem jmo_inv {b n : Nat} (hC : ∀ n as σ o τ, C n as σ = some (o, τ) → jle σ τ) : jMo σ (jinv C A hs ow na code b n pc L st σ) := by
  unfold jinv
  split
  · split
    · next h => exact jmo_nx (hC _ _ _ _ _ h)
    · next h =>
      split
      · exact jmo_no
      · exact jmo_thr (hC _ _ _ _ _ h)
    · exact jmo_no
  · exact jmo_no
theorem jmo_ret {ok : Value → Bool} : jMo σ (jret rt ok st σ) := by
  unfold jret; repeat' split
  all_goals first | exact jmo_dn jle.rf | exact jmo_no
theorem jmo_retv : jMo σ (jretv rt st σ) := by
  unfold jretv; repeat' split
  all_goals first | exact jmo_dn jle.rf | exact jmo_no
theorem jmo_dup : jMo σ (jdup pc L st σ) := by
  unfold jdup; repeat' split
  all_goals first | exact jmo_nx jle.rf | exact jmo_no
theorem jmo_dup2 : jMo σ (jdup2 pc L st σ) := by
  unfold jdup2; repeat' split
  all_goals first | exact jmo_nx jle.rf | exact jmo_no
theorem jmo_pop : jMo σ (jpop pc L st σ) := by
  unfold jpop; repeat' split
  all_goals first | exact jmo_nx jle.rf | exact jmo_no
theorem jmo_obj : jMo σ (jobj pc L st σ) := by
  unfold jobj; repeat' split
  all_goals first | exact jmo_nx jle.rf | exact jmo_no
theorem jmo_cmp : jMo σ (jcmp pc L st σ) := by
  unfold jcmp; repeat' split
  all_goals first | exact jmo_nx jle.rf | exact jmo_no
theorem jmo_l2i : jMo σ (jl2i pc L st σ) := by
  unfold jl2i; repeat' split
  all_goals first | exact jmo_nx jle.rf | exact jmo_no
theorem jmo_inc {i : Nat} {n : Int} : jMo σ (jinc i n pc L st σ) := by
  unfold jinc; repeat' split
  all_goals first | exact jmo_nx jle.rf | exact jmo_no
theorem jmo_tab {d lo hi : Int} {os : Array Int} : jMo σ (jtab d lo hi os L st σ) := by
  unfold jtab; repeat' split
  all_goals first | exact jmo_nx jle.rf | exact jmo_no
theorem jmo_lku {d : Int} {ps : Array (Int × Int)} : jMo σ (jlku d ps L st σ) := by
  unfold jlku; repeat' split
  all_goals first | exact jmo_nx jle.rf | exact jmo_no
theorem jmo_ath : jMo σ (jath hs code pc L st σ) := by
  unfold jath; repeat' split
  all_goals first | exact jmo_thr jle.rf | exact jmo_no
theorem jmo_gtx {f : Nat} : jMo σ (jgtx A f pc L st σ) := by
  unfold jgtx; repeat' split
  all_goals first | exact jmo_nx jle.rf | exact jmo_no
theorem jmo_tln : jMo σ (jtln A pc L st σ) := by
  unfold jtln; repeat' split
  all_goals first | exact jmo_nx jle.rf | exact jmo_no
theorem jmo_tch : jMo σ (jtch A pc L st σ) := by
  unfold jtch; repeat' split
  all_goals first | exact jmo_nx jle.rf | exact jmo_no
theorem jmo_mm {f : Int32 → Int32 → Int32} : jMo σ (jmm f pc L st σ) := by
  unfold jmm; repeat' split
  all_goals first | exact jmo_nx jle.rf | exact jmo_no
theorem jmo_acp : jMo σ (jacp pc L st σ) := by
  unfold jacp; repeat' split
  all_goals first | exact jmo_nx jle_set | exact jmo_no
theorem jmo_tnew {E : Nat} : jMo σ (jtnew E st σ) := by
  unfold jtnew; repeat' split
  all_goals first | exact jmo_dn jle_new | exact jmo_no
theorem jmo_newar {k : ArrayType} : jMo σ (match jAk k with | some t => jnewa t 2 pc L st σ | none => none) := by
  split
  · exact jmo_newa
  · exact jmo_no
theorem jmo_step (hC : ∀ n as σ o τ, C n as σ = some (o, τ) → jle σ τ) (ins : Instr) : jMo σ (jstep C A hs ow na rt code ins len pc L st σ) := by
  cases ins
  case aaload => exact jmo_ald (ok := fun t => t == 24)
  case baload => exact jmo_ald (ok := fun t => t == 22 || t == 23)
  case iaload => exact jmo_ald (ok := fun t => t == 20 || t == 25)
  case laload => exact jmo_ald (ok := fun t => t == 21)
  case iastore => exact jmo_ast (ok := fun t => t == 20) (g := jgI)
  case lastore => exact jmo_ast (ok := fun t => t == 21) (g := jgL)
  case bastore => exact jmo_ast (ok := fun t => t == 22 || t == 23) (g := jgB)
  all_goals first | exact jmo_no | exact jmo_nx jle.rf | exact jmo_ld | exact jmo_sto | exact jmo_stoL | exact jmo_inc | exact jmo_get | exact jmo_put | exact jmo_ald | exact jmo_ast | exact jmo_aast | exact jmo_len | exact jmo_newar | exact jmo_newa | exact jmo_newc | exact jmo_dup | exact jmo_dup2 | exact jmo_pop | exact jmo_bI | exact jmo_div | exact jmo_bL | exact jmo_bS | exact jmo_cmp | exact jmo_uI | exact jmo_l2i | exact jmo_br1 | exact jmo_br2 | exact jmo_nul | exact jmo_tab | exact jmo_lku | exact jmo_ret | exact jmo_retv | exact jmo_ath | exact jmo_tnew | exact jmo_inv hC | exact jmo_obj | exact jmo_tln | exact jmo_tch | exact jmo_gtx | exact jmo_mm | exact jmo_acp
theorem jmo_exec (hC : ∀ n as σ o τ, C n as σ = some (o, τ) → jle σ τ) : ∀ (k pc : Nat) (L : jL) (st : List Value) (σ : jS) (o : jO) (τ : jS), jexec C A hs ow na rt code k pc L st σ = some (o, τ) → jle σ τ := by
  intro k
  induction k with
  | zero => intro pc L st σ o τ h; cases h
  | succ k ih =>
    intro pc L st σ o τ h
    unfold jexec at h
    split at h
    · cases h
    · next ins len hc =>
      have hm := jmo_step (A := A) (hs := hs) (ow := ow) (na := na) (rt := rt) (code := code) (len := len) (pc := pc) (L := L) (st := st) (σ := σ) hC ins
      split at h
      · cases h
      · next r hr =>
        rw [hr] at hm
        cases h
        exact hm
      · next pc' L' st' σ' hr =>
        rw [hr] at hm
        exact jle.tr hm (ih _ _ _ _ _ _ h)
end JMONO
