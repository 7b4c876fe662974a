/-! the start: what holds before the first call -/
theorem i0_0 {c i : Nat} (h1 : c ≠ 247) (h2 : ¬ ((c = 57 ∨ c = 132) ∧ i = 8)) : I0 c i = 0 := by
  unfold I0
  rw [if_neg h1, if_neg h2]
theorem cp0_v {v : Nat} : cp X0 v = cp0 v := rfl
theorem scp_0 : scp X0 = 13504 := by
  unfold scp
  simp only [cp0_v]
  rfl
theorem okS_0 : okS R0 57 ∧ okS R0 132 := by
  have e1 : ∀ k, R0 (57 + 8) k = 66 + 8 * k := fun k => rfl
  have e2 : ∀ k, R0 (132 + 8) k = 141 + 8 * k := fun k => rfl
  refine ⟨⟨fun k hk => ⟨k, hk, by rw [e1]⟩, fun k k' _ _ e => ?_⟩, ⟨fun k hk => ⟨k, hk, by rw [e2]⟩, fun k k' _ _ e => ?_⟩⟩
  · rw [e1, e1] at e; omega
  · rw [e2, e2] at e; omega
theorem rNm_0 : rNm X0 I0 0 0 := by
  refine ⟨rfl, rfl, Nat.zero_le _, rfl, rfl, Nat.zero_le _, ?_, ?_, ?_, ?_, Nat.le_refl _, fun w hw => absurd hw (by omega), fun w w' hw _ _ => absurd hw (by omega), fun s hs => Or.inl ⟨?_, fun w hw => absurd hw (by omega)⟩, fun w hw => absurd hw (by omega), fun i _ => ?_⟩
  · show 64 ≤ cp0 244; decide
  · show 1024 ≤ cp0 243; decide
  · show cp0 244 ≤ 2 ^ 20; decide
  · show cp0 243 ≤ 2 ^ 20; decide
  · show mdH 256 s = mI 1
    unfold mdH
    rw [if_pos hs]
    rfl
  · rw [i0_0 (by omega) (by omega)]
    rfl
theorem Rel_0 : Rel 0 X0 I0 J0 R0 545279 := by
  have z : ∀ c i, c ≠ 247 → ¬ ((c = 57 ∨ c = 132) ∧ i = 8) → I0 c i = 0 := fun c i h1 h2 => i0_0 h1 h2
  refine ⟨0, 0, 0, 0, 10, 33, 0, 215, 228, ⟨by omega, rfl, rfl, fun i _ => ⟨?_, ?_⟩⟩, ⟨0, by omega, rfl, rfl, fun i hi => absurd hi (by omega)⟩, ⟨fun i _ => rfl, rfl, okS_0.2⟩, ⟨rNm_0, ⟨?_, ?_⟩, by omega⟩, ⟨rfl, by omega, 1024, fun v h1 h2 => ?_, by omega, by omega, Or.inr (by omega)⟩, ⟨Or.inl ⟨rfl, rfl⟩, rfl, rfl, ⟨rfl, Nat.zero_le _, fun x y hx => absurd hx (by omega)⟩, 0, rfl, Nat.zero_le _, fun x y hx => absurd hx (by omega)⟩, ⟨okS_0.1, Or.inl ⟨rfl, rfl, rfl, ?_, ?_⟩⟩, ⟨⟨Or.inl ⟨0, by omega, rfl⟩, rfl⟩, 0, by omega, rfl, rfl, rfl, fun i hi => absurd hi (by omega)⟩, ⟨Or.inl ⟨rfl, rfl⟩, rfl, rfl, ⟨0, by omega, rfl, 0, by omega, rfl⟩, Or.inl ⟨rfl, rfl, rfl, rfl⟩⟩, ⟨?_, ?_⟩⟩
  · rw [z 1 i (by omega) (by omega), z 248 i (by omega) (by omega)]
  · rw [z 248 i (by omega) (by omega)]; rfl
  · show cp0 244 ≤ 64 + 2 * 0; decide
  · show cp0 243 ≤ 1024 + 2 * 0; decide
  · show cp0 v = 1024
    unfold cp0
    rw [if_neg (by omega), if_neg (by omega), if_neg (by omega)]
  · refine ⟨⟨okS_0.1, by simp [eW], rfl, fun k a hk => by simp [eW] at hk⟩, rfl, rfl, fun _ => ⟨rfl, rfl, rfl, by simp [eW], rfl, rfl, rfl⟩, fun e => absurd e (by omega)⟩
  · exact ⟨⟨by simp [eW], rfl, fun k a hk => by simp [eW] at hk⟩, rfl, rfl, fun _ => ⟨rfl, rfl, rfl, rfl, by simp [eW], rfl, rfl, rfl⟩, fun e => by cases e⟩
  · rw [scp_0]
    show 300 + 13504 ≤ 300 + 13504 + 0
    omega
  · rw [scp_0]
    omega
